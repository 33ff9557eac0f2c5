theorem k_X12_joins : xMV yX12_joins cX12_joins 2 none 1 := ⟨m_1636, m_1635, m_58, m_104, ⟨by decide +kernel, by decide +kernel, by decide +kernel⟩⟩
theorem k_X12_closes : xMV yX12_closes cX12_closes 1 none 0 := ⟨m_1641, m_1640, m_59, m_104, ⟨by decide +kernel, by decide +kernel, by decide +kernel⟩⟩
theorem k_X12_opens : xMV yX12_opens cX12_opens 2 none 1 := ⟨m_1610, m_1609, m_53, m_104, ⟨by decide +kernel, by decide +kernel, by decide +kernel⟩⟩
theorem k_X12_test : xMV yX12_test cX12_test 4 none 1 := ⟨m_1614, m_1613, m_54, m_104, ⟨by decide +kernel, by decide +kernel, by decide +kernel⟩⟩
abbrev r_c_X12_condition : Room := { frames := 4, cells := 0, slots := 0, locals := 88 }
set_option maxHeartbeats 4000000 in
set_option maxRecDepth 100000 in
theorem c_X12_condition (l : Launch) (D : va_G) (Zk : yK) (ca : Nat → ClassId) (w : yW) (T : Nat → Int → Int) (am : Nat → Nat) (P23 : fP) (P32 : fP) (P40 : fP) (P58 : fP) (lm : Int) (pt : Int) (fr : Int) (tk : Int) (vl : Int) (sl : Int) (st : Int) (tx : Int) (iw : Int) (gt : Nat → Int) (E : Nat → Int → Int) (b : Int) (fo : w 50 = some (am 0, mO am T P23 P32 (fG (-2147483648) 2147483647) (fX lm) (fX pt) (fX fr) (fX tk) (fX vl) (fX sl) P40 (fX st) (fY tx) (fX iw) (fG 0 48) (fG 0 9) P58)) (f_tape : w 75 = some (am 25, xAI (ca 3) 900 (gX 900 gt))) (f_step : w 73 = some (am 23, xAI (ca 0) 8000 (gX 8000 (fun j => E 4 (j : Int))))) (f_stepNumber : w 74 = some (am 24, xAI (ca 0) 8000 gA)) (f_waits : w 76 = some (am 26, xAI (ca 0) 48 gA)) (hp : 0 ≤ pt ∧ pt ≤ lm ∧ lm ≤ 900) (hq : 0 ≤ fr ∧ fr ≤ pt ∧ 0 ≤ vl ∧ vl ≤ 10000000) (htok : TOK tk tx fr pt) (hiw : iw = 0 ∨ iw = 1) (hs1 : 0 ≤ sl ∧ sl ≤ 24) (hst : 0 ≤ st ∧ 3 * st ≤ fr) (hiw0 : iw = 0 ∧ 3 * st + 2 ≤ fr) (hb : 0 ≤ b ∧ b ≤ 1) : yC l D Zk ca yX12_condition cX12_condition 4 none r_c_X12_condition [.ref (am 0), .int (iI b)] w (fun r w1 => r = none ∧ ∃ pt2 : Int, ∃ fr2 : Int, ∃ tk2 : Int, ∃ vl2 : Int, ∃ tx2 : Int, ∃ iw2 : Int, ∃ st2 : Int, ∃ E2 : Nat → Int → Int, w1 = (wu (wu w 50 (am 0, mO am T P23 P32 (fG (-2147483648) 2147483647) (fX lm) (fX pt2) (fX fr2) (fX tk2) (fX vl2) (fX sl) P40 (fX st2) (fY tx2) (fX iw2) (fG 0 48) (fG 0 9) P58)) 73 (am 23, xAI (ca 0) 8000 (gX 8000 (fun j => E2 4 (j : Int))))) ∧ ((fr ≤ fr2 ∧ fr2 ≤ pt2 ∧ pt2 ≤ lm ∧ (0 ≤ vl2 ∧ vl2 ≤ 10000000) ∧ TOK tk2 tx2 fr2 pt2 ∧ (iw2 = 0 ∨ iw2 = 1) ∧ iw ≤ iw2) ∧ OKS E2 (320 * sl + st) (st2 - st) ∧ st ≤ st2 ∧ 3 * st2 ≤ fr2 ∧ FR E E2 sl st)) := by
  refine yC.of2 "WindWordsModel" (by decide) rfl (Nat.le_of_ble_eq_true rfl) ?_
  intro p e s m args below meth c A ls Qf B hnm h hl hQ
  have hl : lv_has ls 4 [(0, .ref (am 0)), (1, .int (iI b))] := hl
  have h : yH D Zk A s ((wu (wu w 50 (am 0, mO am T P23 P32 (fG (-2147483648) 2147483647) (fX lm) (fX pt) (fX fr) (fX tk) (fX vl) (fX sl) P40 (fX st) (fY tx) (fX iw) (fG 0 48) (fG 0 9) P58)) 73 (am 23, xAI (ca 0) 8000 (gX 8000 (fun j => E 4 (j : Int)))))) s.heap [] := by rw [wu_same (show w 50 = _ from fo), wu_same (show w 73 = _ from f_step)]; exact h
  obtain ⟨g1, hg1, h⟩ := yH.pinA h (wu_at (wu_at f_waits (by decide)) (by decide))
  have h : yH D Zk A s ((wu (wu (wu w 50 (am 0, mO am T P23 P32 (fG (-2147483648) 2147483647) (fX lm) (fX pt) (fX fr) (fX tk) (fX vl) (fX sl) P40 (fX st) (fY tx) (fX iw) (fG 0 48) (fG 0 9) P58)) 73 (am 23, xAI (ca 0) 8000 (gX 8000 (fun j => E 4 (j : Int))))) 76 (am 26, xAI (ca 0) 48 (gX 48 g1)))) _ _ := h
  refine lv_aload_n B.1 B.2.1 dX12_condition_0 rfl (lv_at hl 0 rfl) ?_
  refine x_iconst B dX12_condition_1 ?_
  rw [wu_comm (show (50 : Nat) ≠ 73 by decide), wu_comm (show (50 : Nat) ≠ 76 by decide)] at h
  have h : yH D Zk A s ((wu (wu (wu w 73 (am 23, xAI (ca 0) 8000 (gX 8000 (fun j => E 4 (j : Int))))) 76 (am 26, xAI (ca 0) 48 (gX 48 g1))) 50 (am 0, mO am T P23 P32 (fG (-2147483648) 2147483647) (fX lm) (fX pt) (fX fr) (fX tk) (fX vl) (fX sl) P40 (fX st) (fY tx) (fX iw) (fG 0 48) (fG 0 9) P58))) _ _ := h
  refine y_put B h kX12 50 wu_eq 45 (Nat.le_of_ble_eq_true rfl) (P' := fX 0) m_1306 (by decide) rfl rfl rfl rfl dX12_condition_2 (fun H locs h => ?_)
  rw [wu_wu] at h
  have h : yH D Zk A s ((wu (wu (wu w 73 (am 23, xAI (ca 0) 8000 (gX 8000 (fun j => E 4 (j : Int))))) 76 (am 26, xAI (ca 0) 48 (gX 48 g1))) 50 (am 0, mO am T P23 P32 (fG (-2147483648) 2147483647) (fX lm) (fX pt) (fX fr) (fX tk) (fX vl) (fX sl) P40 (fX st) (fY tx) (fX iw) (fX 0) (fG 0 9) P58))) _ _ := h
  refine lv_aload_n B.1 B.2.1 dX12_condition_5 rfl (lv_at hl 0 rfl) ?_
  refine x_iconst B dX12_condition_6 ?_
  refine y_put B h kX12 50 wu_eq 46 (Nat.le_of_ble_eq_true rfl) (P' := fX 0) m_1307 (by decide) rfl rfl rfl rfl dX12_condition_7 (fun H locs h => ?_)
  rw [wu_wu] at h
  have h : yH D Zk A s ((wu (wu (wu w 73 (am 23, xAI (ca 0) 8000 (gX 8000 (fun j => E 4 (j : Int))))) 76 (am 26, xAI (ca 0) 48 (gX 48 g1))) 50 (am 0, mO am T P23 P32 (fG (-2147483648) 2147483647) (fX lm) (fX pt) (fX fr) (fX tk) (fX vl) (fX sl) P40 (fX st) (fY tx) (fX iw) (fX 0) (fX 0) P58))) _ _ := h
  refine x_iconst B dX12_condition_10 ?_
  refine lv_istore_n (lv' := [(2, .int (iI 1)), (0, .ref (am 0)), (1, .int (iI b))]) B.1 B.2.1 dX12_condition_11 rfl hl (by decide) rfl (fun ls hl => ?_)
  refine x_iconst B dX12_condition_12 ?_
  refine lv_istore_n (lv' := [(3, .int (iI 1)), (2, .int (iI 1)), (0, .ref (am 0)), (1, .int (iI b))]) B.1 B.2.1 dX12_condition_13 rfl hl (by decide) rfl (fun ls hl => ?_)
  have loop14 : ∀ (n14 : Nat) (wa : Int) (fl : Int) (fr9 : Int) (pt9 : Int) (tk9 : Int) (vl9 : Int) (tx9 : Int) (iw9 : Int) (st9 : Int) (wt9 : Int) (op9 : Int) (E9 : Nat → Int → Int) (gw9 : Nat → Int) (dd9 : Int), (fr ≤ fr9 ∧ fr9 ≤ pt9 ∧ pt9 ≤ lm ∧ 0 ≤ vl9 ∧ vl9 ≤ 10000000) → (TOK tk9 tx9 fr9 pt9) → (iw9 = 0 ∨ iw9 = 1) → ((wa = 0 ∨ wa = 1) ∧ (fl = 0 ∨ fl = 1)) → (CI E9 sl st st9 gw9 wt9 op9 dd9) → ((dd9 = 0 ∨ dd9 = 1) ∧ (iw9 = 0 → dd9 = 1 - wa)) → (iw9 = 0 → 3 * (st9 + wn gw9 wt9.toNat) + 2 + 2 * dd9 ≤ fr9) → (3 * (st9 + wn gw9 wt9.toNat) ≤ fr9) → (FR E E9 sl st) → ((2 * (900 - fr9) + fl + (1 - iw9) : Int)).toNat < n14 → ∀ (H : Heap) (locs : List Loc) (ls : Array Slot), yH D Zk A s ((wu (wu (wu w 73 (am 23, xAI (ca 0) 8000 (gX 8000 (fun j => E9 4 (j : Int))))) 76 (am 26, xAI (ca 0) 48 (gX 48 gw9))) 50 (am 0, mO am T P23 P32 (fG (-2147483648) 2147483647) (fX lm) (fX pt9) (fX fr9) (fX tk9) (fX vl9) (fX sl) P40 (fX st9) (fY tx9) (fX iw9) (fX wt9) (fX op9) P58))) H locs → lv_has ls 4 [(3, .int (iI fl)), (2, .int (iI wa)), (0, .ref (am 0)), (1, .int (iI b))] → W p l e r_c_X12_condition s m args below meth c H locs 0 0 Qf (F0 m 14 ls []) := by
    intro n14
    induction n14 with
    | zero =>
      intro wa fl fr9 pt9 tk9 vl9 tx9 iw9 st9 wt9 op9 E9 gw9 dd9 hrg ht9 hi9 hw9 h2 hd9 hm1 hm2 h4 hm14 H locs ls h hl
      exact absurd hm14 (Nat.not_lt_zero _)
    | succ n14 ih14 =>
      intro wa fl fr9 pt9 tk9 vl9 tx9 iw9 st9 wt9 op9 E9 gw9 dd9 hrg ht9 hi9 hw9 h2 hd9 hm1 hm2 h4 hm14 H locs ls h hl
      have hcw := h2.wt
      have hcq := h2.2.2.2.1
      have hcs := h2.1
      have hcn := wn_0 gw9 wt9.toNat
      refine lv_iload_n B.1 B.2.1 dX12_condition_14 rfl (lv_at hl 0 rfl) ?_
      refine x_if_eq B (by omega) (tgt := 158) dX12_condition_15 (by decide) (fun c2 => ?_) (fun c2 => ?_)
      · have h := yH.weak (P' := mO am T P23 P32 (fG (-2147483648) 2147483647) (fX lm) (fX pt9) (fX fr9) (fX tk9) (fX vl9) (fX sl) P40 (fX st9) (fY tx9) (fX iw9) (fG 0 48) (fG 0 9) P58) h wu_eq (xO_le (fLe_cons (fun _ x => x) (fLe_cons (fun _ x => x) (fLe_cons (fun _ x => x) (fLe_cons (fun _ x => x) (fLe_cons (fun _ x => x) (fLe_cons (fun _ x => x) (fLe_cons (fun _ x => x) (fLe_cons (fun _ x => x) (fLe_cons (fun _ x => x) (fLe_cons (fun _ x => x) (fLe_cons (fun _ x => x) (fLe_cons (fun _ x => x) (fLe_cons (fun _ x => x) (fLe_cons (fun _ x => x) (fLe_cons (fun _ x => x) (fLe_cons (fun _ x => x) (fLe_cons (fun _ x => x) (fLe_cons (fun _ x => x) (fLe_cons (fun _ x => x) (fLe_cons (fun _ x => x) (fLe_cons (fun _ x => x) (fLe_cons (fun _ x => x) (fLe_cons (fun _ x => x) (fLe_cons (fun _ x => x) (fLe_cons (fun _ x => x) (fLe_cons (fun _ x => x) (fLe_cons (fun _ x => x) (fLe_cons (fun _ x => x) (fLe_cons (fun _ x => x) (fLe_cons (fun _ x => x) (fLe_cons (fun _ x => x) (fLe_cons (fun _ x => x) (fLe_cons (fun _ x => x) (fLe_cons (fun _ x => x) (fLe_cons (fun _ x => x) (fLe_cons (fun _ x => x) (fLe_cons (fun _ x => x) (fLe_cons (fun _ x => x) (fLe_cons (fun _ x => x) (fLe_cons (fun _ x => x) (fLe_cons (fun _ x => x) (fLe_cons (fun _ x => x) (fLe_cons (fun _ x => x) (fLe_cons (fun _ x => x) (fLe_cons (fun _ x => x) (fLe_cons (fX_G (by omega)) (fLe_cons (fX_G (by omega)) (fLe_cons (fun _ x => x) (fLe_cons (fun _ x => x) (fLe_cons (fun _ x => x) (fLe_cons (fun _ x => x) (fLe_cons (fun _ x => x) (fLe_cons (fun _ x => x) (fLe_cons (fun _ x => x) (fLe_cons (fun _ x => x) (fLe_cons (fun _ x => x) (fLe_cons (fun _ x => x) (fLe_cons (fun _ x => x) (fLe_cons (fun _ x => x) (fLe_cons (fun _ x => x) (fLe_cons (fun _ x => x) (fLe_cons (fun _ x => x) (fLe_cons (fun _ x => x) (fLe_cons (fun _ x => x) (fLe_cons (fun _ x => x) (fLe_cons (fun _ x => x) (fLe_cons (fun _ x => x) (fLe_cons (fun _ x => x) (fLe_cons (fun _ x => x) (fLe_cons (fun _ x => x) (fLe_cons (fun _ x => x) (fLe_cons (fun _ x => x) (fLe_cons (fun _ x => x) (fLe_cons (fun _ x => x) (fLe_cons (fun _ x => x) (fLe_cons (fun _ x => x) (fLe_cons (fun _ x => x) (fLe_cons (fun _ x => x) (fLe_cons (fun _ x => x) (fLe_cons (fun _ x => x) fLe_nil)))))))))))))))))))))))))))))))))))))))))))))))))))))))))))))))))))))))))))))))))
        rw [wu_wu] at h
        have h : yH D Zk A s ((wu (wu (wu w 73 (am 23, xAI (ca 0) 8000 (gX 8000 (fun j => E9 4 (j : Int))))) 76 (am 26, xAI (ca 0) 48 (gX 48 gw9))) 50 (am 0, mO am T P23 P32 (fG (-2147483648) 2147483647) (fX lm) (fX pt9) (fX fr9) (fX tk9) (fX vl9) (fX sl) P40 (fX st9) (fY tx9) (fX iw9) (fG 0 48) (fG 0 9) P58))) _ _ := h
        rw [wu_comm (show (76 : Nat) ≠ 50 by decide)] at h
        have h : yH D Zk A s ((wu (wu (wu w 73 (am 23, xAI (ca 0) 8000 (gX 8000 (fun j => E9 4 (j : Int))))) 50 (am 0, mO am T P23 P32 (fG (-2147483648) 2147483647) (fX lm) (fX pt9) (fX fr9) (fX tk9) (fX vl9) (fX sl) P40 (fX st9) (fY tx9) (fX iw9) (fG 0 48) (fG 0 9) P58)) 76 (am 26, xAI (ca 0) 48 (gX 48 gw9)))) _ _ := h
        have h : yH D Zk A s ((wu (wu w 73 (am 23, xAI (ca 0) 8000 (gX 8000 (fun j => E9 4 (j : Int))))) 50 (am 0, mO am T P23 P32 (fG (-2147483648) 2147483647) (fX lm) (fX pt9) (fX fr9) (fX tk9) (fX vl9) (fX sl) P40 (fX st9) (fY tx9) (fX iw9) (fG 0 48) (fG 0 9) P58))) _ _ := yH.unpin h (wu_at (wu_at f_waits (by decide)) (by decide)) (xAI_any)
        rw [wu_comm (show (73 : Nat) ≠ 50 by decide)] at h
        have h : yH D Zk A s ((wu (wu w 50 (am 0, mO am T P23 P32 (fG (-2147483648) 2147483647) (fX lm) (fX pt9) (fX fr9) (fX tk9) (fX vl9) (fX sl) P40 (fX st9) (fY tx9) (fX iw9) (fG 0 48) (fG 0 9) P58)) 73 (am 23, xAI (ca 0) 8000 (gX 8000 (fun j => E9 4 (j : Int)))))) _ _ := h
        refine y_rv B hQ h (by decide) dX12_condition_158 ?_
        exact ⟨rfl, _, _, _, _, _, _, _, _, rfl, ⟨by omega, h2.2.2.2.2.2.1, by omega, by omega, h4⟩⟩
      · refine lv_aload_n B.1 B.2.1 dX12_condition_18 rfl (lv_at hl 2 rfl) ?_
        refine y_getX B h kX12 50 wu_eq 43 (z := iw9) rfl m_1304 (by decide) dX12_condition_19 ?_
        refine x_if_ne B (by omega) (tgt := 158) dX12_condition_22 (by decide) (fun c3 => ?_) (fun c3 => ?_)
        · have h := yH.weak (P' := mO am T P23 P32 (fG (-2147483648) 2147483647) (fX lm) (fX pt9) (fX fr9) (fX tk9) (fX vl9) (fX sl) P40 (fX st9) (fY tx9) (fX iw9) (fG 0 48) (fG 0 9) P58) h wu_eq (xO_le (fLe_cons (fun _ x => x) (fLe_cons (fun _ x => x) (fLe_cons (fun _ x => x) (fLe_cons (fun _ x => x) (fLe_cons (fun _ x => x) (fLe_cons (fun _ x => x) (fLe_cons (fun _ x => x) (fLe_cons (fun _ x => x) (fLe_cons (fun _ x => x) (fLe_cons (fun _ x => x) (fLe_cons (fun _ x => x) (fLe_cons (fun _ x => x) (fLe_cons (fun _ x => x) (fLe_cons (fun _ x => x) (fLe_cons (fun _ x => x) (fLe_cons (fun _ x => x) (fLe_cons (fun _ x => x) (fLe_cons (fun _ x => x) (fLe_cons (fun _ x => x) (fLe_cons (fun _ x => x) (fLe_cons (fun _ x => x) (fLe_cons (fun _ x => x) (fLe_cons (fun _ x => x) (fLe_cons (fun _ x => x) (fLe_cons (fun _ x => x) (fLe_cons (fun _ x => x) (fLe_cons (fun _ x => x) (fLe_cons (fun _ x => x) (fLe_cons (fun _ x => x) (fLe_cons (fun _ x => x) (fLe_cons (fun _ x => x) (fLe_cons (fun _ x => x) (fLe_cons (fun _ x => x) (fLe_cons (fun _ x => x) (fLe_cons (fun _ x => x) (fLe_cons (fun _ x => x) (fLe_cons (fun _ x => x) (fLe_cons (fun _ x => x) (fLe_cons (fun _ x => x) (fLe_cons (fun _ x => x) (fLe_cons (fun _ x => x) (fLe_cons (fun _ x => x) (fLe_cons (fun _ x => x) (fLe_cons (fun _ x => x) (fLe_cons (fun _ x => x) (fLe_cons (fX_G (by omega)) (fLe_cons (fX_G (by omega)) (fLe_cons (fun _ x => x) (fLe_cons (fun _ x => x) (fLe_cons (fun _ x => x) (fLe_cons (fun _ x => x) (fLe_cons (fun _ x => x) (fLe_cons (fun _ x => x) (fLe_cons (fun _ x => x) (fLe_cons (fun _ x => x) (fLe_cons (fun _ x => x) (fLe_cons (fun _ x => x) (fLe_cons (fun _ x => x) (fLe_cons (fun _ x => x) (fLe_cons (fun _ x => x) (fLe_cons (fun _ x => x) (fLe_cons (fun _ x => x) (fLe_cons (fun _ x => x) (fLe_cons (fun _ x => x) (fLe_cons (fun _ x => x) (fLe_cons (fun _ x => x) (fLe_cons (fun _ x => x) (fLe_cons (fun _ x => x) (fLe_cons (fun _ x => x) (fLe_cons (fun _ x => x) (fLe_cons (fun _ x => x) (fLe_cons (fun _ x => x) (fLe_cons (fun _ x => x) (fLe_cons (fun _ x => x) (fLe_cons (fun _ x => x) (fLe_cons (fun _ x => x) (fLe_cons (fun _ x => x) (fLe_cons (fun _ x => x) (fLe_cons (fun _ x => x) (fLe_cons (fun _ x => x) fLe_nil)))))))))))))))))))))))))))))))))))))))))))))))))))))))))))))))))))))))))))))))))
          rw [wu_wu] at h
          have h : yH D Zk A s ((wu (wu (wu w 73 (am 23, xAI (ca 0) 8000 (gX 8000 (fun j => E9 4 (j : Int))))) 76 (am 26, xAI (ca 0) 48 (gX 48 gw9))) 50 (am 0, mO am T P23 P32 (fG (-2147483648) 2147483647) (fX lm) (fX pt9) (fX fr9) (fX tk9) (fX vl9) (fX sl) P40 (fX st9) (fY tx9) (fX iw9) (fG 0 48) (fG 0 9) P58))) _ _ := h
          rw [wu_comm (show (76 : Nat) ≠ 50 by decide)] at h
          have h : yH D Zk A s ((wu (wu (wu w 73 (am 23, xAI (ca 0) 8000 (gX 8000 (fun j => E9 4 (j : Int))))) 50 (am 0, mO am T P23 P32 (fG (-2147483648) 2147483647) (fX lm) (fX pt9) (fX fr9) (fX tk9) (fX vl9) (fX sl) P40 (fX st9) (fY tx9) (fX iw9) (fG 0 48) (fG 0 9) P58)) 76 (am 26, xAI (ca 0) 48 (gX 48 gw9)))) _ _ := h
          have h : yH D Zk A s ((wu (wu w 73 (am 23, xAI (ca 0) 8000 (gX 8000 (fun j => E9 4 (j : Int))))) 50 (am 0, mO am T P23 P32 (fG (-2147483648) 2147483647) (fX lm) (fX pt9) (fX fr9) (fX tk9) (fX vl9) (fX sl) P40 (fX st9) (fY tx9) (fX iw9) (fG 0 48) (fG 0 9) P58))) _ _ := yH.unpin h (wu_at (wu_at f_waits (by decide)) (by decide)) (xAI_any)
          rw [wu_comm (show (73 : Nat) ≠ 50 by decide)] at h
          have h : yH D Zk A s ((wu (wu w 50 (am 0, mO am T P23 P32 (fG (-2147483648) 2147483647) (fX lm) (fX pt9) (fX fr9) (fX tk9) (fX vl9) (fX sl) P40 (fX st9) (fY tx9) (fX iw9) (fG 0 48) (fG 0 9) P58)) 73 (am 23, xAI (ca 0) 8000 (gX 8000 (fun j => E9 4 (j : Int)))))) _ _ := h
          refine y_rv B hQ h (by decide) dX12_condition_158 ?_
          exact ⟨rfl, _, _, _, _, _, _, _, _, rfl, ⟨by omega, h2.2.2.2.2.2.1, by omega, by omega, h4⟩⟩
        · refine lv_iload_n B.1 B.2.1 dX12_condition_25 rfl (lv_at hl 1 rfl) ?_
          refine x_if_eq B (by omega) (tgt := 48) dX12_condition_26 (by decide) (fun c4 => ?_) (fun c4 => ?_)
          · obtain rfl : wa = 0 := by omega
            refine lv_iload_n B.1 B.2.1 dX12_condition_48 rfl (lv_at hl 1 rfl) ?_
            refine x_if_eq B (by omega) (tgt := 70) dX12_condition_49 (by decide) (fun c5 => ?_) (fun c5 => ?_)
            · refine lv_iload_n B.1 B.2.1 dX12_condition_70 rfl (lv_at hl 1 rfl) ?_
              refine x_if_eq B (by omega) (tgt := 84) dX12_condition_71 (by decide) (fun c6 => ?_) (fun c6 => ?_)
              · refine lv_aload_n B.1 B.2.1 dX12_condition_84 rfl (lv_at hl 2 rfl) ?_
                refine x_ldc2 B m_1632 dX12_condition_85 ?_
                refine y_cV B h kX12 50 wu_eq k_X12_is rfl (c_X12_is l D Zk ca _ _ _ P23 P32 (fG (-2147483648) 2147483647) (fX lm) (fX pt9) (fX fr9) (fX vl9) (fX sl) P40 (fX st9) (fX wt9) (fX op9) P58 tk9 _ iw9 ((1111 : Int64)) wu_eq (by omega) (by omega)) m_1582 rfl (by decide) hl.1 [] (Nat.le_of_ble_eq_true rfl) rfl dX12_condition_88 (fun r w1 hq H locs h => ?_)
                obtain ⟨rfl, _, rfl, ⟨rfl, b7⟩ | ⟨rfl, b7⟩⟩ := hq
                · have b7x := tx_eq b7.2.2 (by omega)
                  rw [show (1111 : Int64).toInt = 1111 from rfl] at b7x
                  show W p l e r_c_X12_condition s m args below meth c _ _ 0 0 Qf (F0 m 91 ls [.int (iI 1)])
                  refine x_if_eq B (by omega) (tgt := 105) dX12_condition_91 (by decide) (fun c8 => ?_) (fun c8 => ?_)
                  · exact absurd c8 (by omega)
                  · refine lv_aload_n B.1 B.2.1 dX12_condition_94 rfl (lv_at hl 2 rfl) ?_
                    refine x_bipush B (by decide) dX12_condition_95 ?_
                    refine y_cV B h kX12 50 wu_eq k_X12_joins rfl (c_X12_joins l D Zk ca _ _ _ P23 P32 P40 P58 lm pt9 fr9 tk9 vl9 sl st9 _ iw9 wt9 op9 gt gw9 E9 _ 21 wu_eq (wu_at (wu_at (wu_at f_tape (by decide)) (by decide)) (by decide)) (wu_at (wu_at wu_eq (by decide)) (by decide)) (wu_at (wu_at (wu_at f_stepNumber (by decide)) (by decide)) (by decide)) (wu_at wu_eq (by decide)) (by omega) (by omega) (by omega) (by omega) (by omega) (CI.dd h2 (by omega)) (by omega) (by omega) (by omega)) m_1633 rfl (by decide) hl.1 [] (Nat.le_of_ble_eq_true rfl) rfl dX12_condition_97 (fun r w1 hq H locs h => ?_)
                    obtain ⟨rfl, pt2_9, fr2_10, tk2_11, vl2_12, tx2_13, iw2_14, gw2_15, wt2_16, op2_17, E2_18, st2_19, rfl, hr20⟩ := hq
                    rw [wu_wu, wu_comm (show (76 : Nat) ≠ 50 by decide), wu_wu, wu_comm (show (73 : Nat) ≠ 50 by decide), wu_comm (show (73 : Nat) ≠ 76 by decide), wu_wu] at h
                    have h : yH D Zk A s ((wu (wu (wu w 50 (am 0, mO am T P23 P32 (fG (-2147483648) 2147483647) (fX lm) (fX pt2_9) (fX fr2_10) (fX tk2_11) (fX vl2_12) (fX sl) P40 (fX st2_19) (fY tx2_13) (fX iw2_14) (fX wt2_16) (fX op2_17) P58)) 76 (am 26, xAI (ca 0) 48 (gX 48 gw2_15))) 73 (am 23, xAI (ca 0) 8000 (gX 8000 (fun j => E2_18 4 (j : Int)))))) _ _ := h
                    show W p l e r_c_X12_condition s m args below meth c _ _ 0 0 Qf (F0 m 100 ls [])
                    refine x_iconst B dX12_condition_100 ?_
                    refine lv_istore_n (lv' := [(2, .int (iI 1)), (3, .int (iI fl)), (0, .ref (am 0)), (1, .int (iI b))]) B.1 B.2.1 dX12_condition_101 rfl hl (by decide) rfl (fun ls hl => ?_)
                    refine lv_goto (tgt := 14) B.1 B.2.1 dX12_condition_102 (by decide) ?_
                    rw [wu_comm (show (76 : Nat) ≠ 73 by decide)] at h
                    have h : yH D Zk A s ((wu (wu (wu w 50 (am 0, mO am T P23 P32 (fG (-2147483648) 2147483647) (fX lm) (fX pt2_9) (fX fr2_10) (fX tk2_11) (fX vl2_12) (fX sl) P40 (fX st2_19) (fY tx2_13) (fX iw2_14) (fX wt2_16) (fX op2_17) P58)) 73 (am 23, xAI (ca 0) 8000 (gX 8000 (fun j => E2_18 4 (j : Int))))) 76 (am 26, xAI (ca 0) 48 (gX 48 gw2_15)))) _ _ := h
                    rw [wu_comm (show (50 : Nat) ≠ 73 by decide), wu_comm (show (50 : Nat) ≠ 76 by decide)] at h
                    have h : yH D Zk A s ((wu (wu (wu w 73 (am 23, xAI (ca 0) 8000 (gX 8000 (fun j => E2_18 4 (j : Int))))) 76 (am 26, xAI (ca 0) 48 (gX 48 gw2_15))) 50 (am 0, mO am T P23 P32 (fG (-2147483648) 2147483647) (fX lm) (fX pt2_9) (fX fr2_10) (fX tk2_11) (fX vl2_12) (fX sl) P40 (fX st2_19) (fY tx2_13) (fX iw2_14) (fX wt2_16) (fX op2_17) P58))) _ _ := h
                    exact ih14 1 fl fr2_10 pt2_9 tk2_11 vl2_12 tx2_13 iw2_14 st2_19 wt2_16 op2_17 E2_18 gw2_15 0 (by omega) (by omega) (by omega) (by omega) hr20.2.1 (by omega) (by omega) (by omega) (FR_tr h4 hr20.2.2.2.2.2) (by omega) _ _ _ h (lv_sub hl [1, 0, 2, 3] rfl)
                · show W p l e r_c_X12_condition s m args below meth c _ _ 0 0 Qf (F0 m 91 ls [.int (iI 0)])
                  refine x_if_eq B (by omega) (tgt := 105) dX12_condition_91 (by decide) (fun c21 => ?_) (fun c21 => ?_)
                  · refine lv_aload_n B.1 B.2.1 dX12_condition_105 rfl (lv_at hl 2 rfl) ?_
                    refine x_ldc2 B m_1637 dX12_condition_106 ?_
                    refine y_cV B h kX12 50 wu_eq k_X12_is rfl (c_X12_is l D Zk ca _ _ _ P23 P32 (fG (-2147483648) 2147483647) (fX lm) (fX pt9) (fX fr9) (fX vl9) (fX sl) P40 (fX st9) (fX wt9) (fX op9) P58 tk9 _ iw9 ((423 : Int64)) wu_eq (by omega) (by omega)) m_1582 rfl (by decide) hl.1 [] (Nat.le_of_ble_eq_true rfl) rfl dX12_condition_109 (fun r w1 hq H locs h => ?_)
                    obtain ⟨rfl, _, rfl, ⟨rfl, b22⟩ | ⟨rfl, b22⟩⟩ := hq
                    · have b22x := tx_eq b22.2.2 (by omega)
                      rw [show (423 : Int64).toInt = 423 from rfl] at b22x
                      show W p l e r_c_X12_condition s m args below meth c _ _ 0 0 Qf (F0 m 112 ls [.int (iI 1)])
                      refine x_if_eq B (by omega) (tgt := 126) dX12_condition_112 (by decide) (fun c23 => ?_) (fun c23 => ?_)
                      · exact absurd c23 (by omega)
                      · refine lv_aload_n B.1 B.2.1 dX12_condition_115 rfl (lv_at hl 2 rfl) ?_
                        refine x_bipush B (by decide) dX12_condition_116 ?_
                        refine y_cV B h kX12 50 wu_eq k_X12_joins rfl (c_X12_joins l D Zk ca _ _ _ P23 P32 P40 P58 lm pt9 fr9 tk9 vl9 sl st9 _ iw9 wt9 op9 gt gw9 E9 _ 22 wu_eq (wu_at (wu_at (wu_at f_tape (by decide)) (by decide)) (by decide)) (wu_at (wu_at wu_eq (by decide)) (by decide)) (wu_at (wu_at (wu_at f_stepNumber (by decide)) (by decide)) (by decide)) (wu_at wu_eq (by decide)) (by omega) (by omega) (by omega) (by omega) (by omega) (CI.dd h2 (by omega)) (by omega) (by omega) (by omega)) m_1633 rfl (by decide) hl.1 [] (Nat.le_of_ble_eq_true rfl) rfl dX12_condition_118 (fun r w1 hq H locs h => ?_)
                        obtain ⟨rfl, pt2_24, fr2_25, tk2_26, vl2_27, tx2_28, iw2_29, gw2_30, wt2_31, op2_32, E2_33, st2_34, rfl, hr35⟩ := hq
                        rw [wu_wu, wu_comm (show (76 : Nat) ≠ 50 by decide), wu_wu, wu_comm (show (73 : Nat) ≠ 50 by decide), wu_comm (show (73 : Nat) ≠ 76 by decide), wu_wu] at h
                        have h : yH D Zk A s ((wu (wu (wu w 50 (am 0, mO am T P23 P32 (fG (-2147483648) 2147483647) (fX lm) (fX pt2_24) (fX fr2_25) (fX tk2_26) (fX vl2_27) (fX sl) P40 (fX st2_34) (fY tx2_28) (fX iw2_29) (fX wt2_31) (fX op2_32) P58)) 76 (am 26, xAI (ca 0) 48 (gX 48 gw2_30))) 73 (am 23, xAI (ca 0) 8000 (gX 8000 (fun j => E2_33 4 (j : Int)))))) _ _ := h
                        show W p l e r_c_X12_condition s m args below meth c _ _ 0 0 Qf (F0 m 121 ls [])
                        refine x_iconst B dX12_condition_121 ?_
                        refine lv_istore_n (lv' := [(2, .int (iI 1)), (3, .int (iI fl)), (0, .ref (am 0)), (1, .int (iI b))]) B.1 B.2.1 dX12_condition_122 rfl hl (by decide) rfl (fun ls hl => ?_)
                        refine lv_goto (tgt := 14) B.1 B.2.1 dX12_condition_123 (by decide) ?_
                        rw [wu_comm (show (76 : Nat) ≠ 73 by decide)] at h
                        have h : yH D Zk A s ((wu (wu (wu w 50 (am 0, mO am T P23 P32 (fG (-2147483648) 2147483647) (fX lm) (fX pt2_24) (fX fr2_25) (fX tk2_26) (fX vl2_27) (fX sl) P40 (fX st2_34) (fY tx2_28) (fX iw2_29) (fX wt2_31) (fX op2_32) P58)) 73 (am 23, xAI (ca 0) 8000 (gX 8000 (fun j => E2_33 4 (j : Int))))) 76 (am 26, xAI (ca 0) 48 (gX 48 gw2_30)))) _ _ := h
                        rw [wu_comm (show (50 : Nat) ≠ 73 by decide), wu_comm (show (50 : Nat) ≠ 76 by decide)] at h
                        have h : yH D Zk A s ((wu (wu (wu w 73 (am 23, xAI (ca 0) 8000 (gX 8000 (fun j => E2_33 4 (j : Int))))) 76 (am 26, xAI (ca 0) 48 (gX 48 gw2_30))) 50 (am 0, mO am T P23 P32 (fG (-2147483648) 2147483647) (fX lm) (fX pt2_24) (fX fr2_25) (fX tk2_26) (fX vl2_27) (fX sl) P40 (fX st2_34) (fY tx2_28) (fX iw2_29) (fX wt2_31) (fX op2_32) P58))) _ _ := h
                        exact ih14 1 fl fr2_25 pt2_24 tk2_26 vl2_27 tx2_28 iw2_29 st2_34 wt2_31 op2_32 E2_33 gw2_30 0 (by omega) (by omega) (by omega) (by omega) hr35.2.1 (by omega) (by omega) (by omega) (FR_tr h4 hr35.2.2.2.2.2) (by omega) _ _ _ h (lv_sub hl [1, 0, 2, 3] rfl)
                    · show W p l e r_c_X12_condition s m args below meth c _ _ 0 0 Qf (F0 m 112 ls [.int (iI 0)])
                      refine x_if_eq B (by omega) (tgt := 126) dX12_condition_112 (by decide) (fun c36 => ?_) (fun c36 => ?_)
                      · refine lv_aload_n B.1 B.2.1 dX12_condition_126 rfl (lv_at hl 2 rfl) ?_
                        refine x_bipush B (by decide) dX12_condition_127 ?_
                        refine x_bipush B (by decide) dX12_condition_129 ?_
                        refine y_cV B h kX12 50 wu_eq k_X12_comes rfl (c_X12_comes l D Zk ca _ _ _ P23 P32 (fG (-2147483648) 2147483647) (fX lm) (fX pt9) (fX fr9) (fX tk9) (fX vl9) P40 (fY tx9) (fX iw9) P58 sl st9 wt9 op9 gw9 E9 _ 21 22 wu_eq (wu_at (wu_at wu_eq (by decide)) (by decide)) (wu_at (wu_at (wu_at f_stepNumber (by decide)) (by decide)) (by decide)) (wu_at wu_eq (by decide)) (by omega) (CI.dd h2 (by omega)) (by omega) (by omega) (by omega)) m_1628 rfl (by decide) hl.1 [] (Nat.le_of_ble_eq_true rfl) rfl dX12_condition_131 (fun r w1 hq H locs h => ?_)
                        obtain ⟨rfl, E2_37, st2_38, wt2_39, op2_40, rfl, hr41⟩ := hq
                        rw [wu_wu, wu_comm (show (73 : Nat) ≠ 76 by decide), wu_comm (show (73 : Nat) ≠ 50 by decide), wu_wu] at h
                        have h : yH D Zk A s ((wu (wu (wu w 76 (am 26, xAI (ca 0) 48 (gX 48 gw9))) 50 (am 0, mO am T P23 P32 (fG (-2147483648) 2147483647) (fX lm) (fX pt9) (fX fr9) (fX tk9) (fX vl9) (fX sl) P40 (fX st2_38) (fY tx9) (fX iw9) (fX wt2_39) (fX op2_40) P58)) 73 (am 23, xAI (ca 0) 8000 (gX 8000 (fun j => E2_37 4 (j : Int)))))) _ _ := h
                        show W p l e r_c_X12_condition s m args below meth c _ _ 0 0 Qf (F0 m 134 ls [])
                        refine lv_aload_n B.1 B.2.1 dX12_condition_134 rfl (lv_at hl 2 rfl) ?_
                        refine y_getX B h kX12 50 (wu_at wu_eq (by decide)) 45 (z := wt2_39) rfl m_1306 (by decide) dX12_condition_135 ?_
                        refine x_if_le B (by omega) (tgt := 145) dX12_condition_138 (by decide) (fun c42 => ?_) (fun c42 => ?_)
                        · refine x_iconst B dX12_condition_145 ?_
                          refine lv_istore_n (lv' := [(3, .int (iI 0)), (2, .int (iI 0)), (0, .ref (am 0)), (1, .int (iI b))]) B.1 B.2.1 dX12_condition_146 rfl hl (by decide) rfl (fun ls hl => ?_)
                          refine lv_iload_n B.1 B.2.1 dX12_condition_147 rfl (lv_at hl 0 rfl) ?_
                          refine x_if_eq B (by omega) (tgt := 14) dX12_condition_148 (by decide) (fun c43 => ?_) (fun c43 => ?_)
                          · rw [wu_comm (show (76 : Nat) ≠ 50 by decide), wu_comm (show (76 : Nat) ≠ 73 by decide)] at h
                            have h : yH D Zk A s ((wu (wu (wu w 50 (am 0, mO am T P23 P32 (fG (-2147483648) 2147483647) (fX lm) (fX pt9) (fX fr9) (fX tk9) (fX vl9) (fX sl) P40 (fX st2_38) (fY tx9) (fX iw9) (fX wt2_39) (fX op2_40) P58)) 73 (am 23, xAI (ca 0) 8000 (gX 8000 (fun j => E2_37 4 (j : Int))))) 76 (am 26, xAI (ca 0) 48 (gX 48 gw9)))) _ _ := h
                            rw [wu_comm (show (50 : Nat) ≠ 73 by decide), wu_comm (show (50 : Nat) ≠ 76 by decide)] at h
                            have h : yH D Zk A s ((wu (wu (wu w 73 (am 23, xAI (ca 0) 8000 (gX 8000 (fun j => E2_37 4 (j : Int))))) 76 (am 26, xAI (ca 0) 48 (gX 48 gw9))) 50 (am 0, mO am T P23 P32 (fG (-2147483648) 2147483647) (fX lm) (fX pt9) (fX fr9) (fX tk9) (fX vl9) (fX sl) P40 (fX st2_38) (fY tx9) (fX iw9) (fX wt2_39) (fX op2_40) P58))) _ _ := h
                            exact ih14 0 0 fr9 pt9 tk9 vl9 tx9 iw9 st2_38 wt2_39 op2_40 E2_37 gw9 1 (by omega) (by omega) (by omega) (by omega) hr41.1 (by omega) (by omega) (by omega) (FR_tr h4 hr41.2.2.2.2) (by omega) _ _ _ h (lv_sub hl [0, 1, 2, 3] rfl)
                          · exact absurd c43 (by omega)
                        · refine x_iconst B dX12_condition_141 ?_
                          refine lv_goto (tgt := 146) B.1 B.2.1 dX12_condition_142 (by decide) ?_
                          refine lv_istore_n (lv' := [(3, .int (iI 1)), (2, .int (iI 0)), (0, .ref (am 0)), (1, .int (iI b))]) B.1 B.2.1 dX12_condition_146 rfl hl (by decide) rfl (fun ls hl => ?_)
                          refine lv_iload_n B.1 B.2.1 dX12_condition_147 rfl (lv_at hl 0 rfl) ?_
                          refine x_if_eq B (by omega) (tgt := 14) dX12_condition_148 (by decide) (fun c44 => ?_) (fun c44 => ?_)
                          · exact absurd c44 (by omega)
                          · refine lv_aload_n B.1 B.2.1 dX12_condition_151 rfl (lv_at hl 2 rfl) ?_
                            refine y_cV B h kX12 50 (wu_at wu_eq (by decide)) k_X12_closes rfl (c_X12_closes l D Zk ca _ _ _ P23 P32 P40 P58 lm pt9 fr9 tk9 vl9 sl st2_38 _ iw9 wt2_39 op2_40 gt gw9 E2_37 _ (wu_at wu_eq (by decide)) (wu_at (wu_at (wu_at f_tape (by decide)) (by decide)) (by decide)) wu_eq (wu_at (wu_at (wu_at f_stepNumber (by decide)) (by decide)) (by decide)) (wu_at (wu_at wu_eq (by decide)) (by decide)) (by omega) (by omega) (by omega) (by omega) (by omega) (CI.dd hr41.1 (by omega)) (by omega) (by omega) (by omega)) m_1638 rfl (by decide) hl.1 [] (Nat.le_of_ble_eq_true rfl) rfl dX12_condition_152 (fun r w1 hq H locs h => ?_)
                            obtain ⟨rfl, pt2_45, fr2_46, tk2_47, vl2_48, tx2_49, iw2_50, wt2_51, op2_52, st2_53, E2_54, rfl, hr55⟩ := hq
                            rw [wu_comm (show (50 : Nat) ≠ 73 by decide), wu_wu, wu_comm (show (73 : Nat) ≠ 50 by decide), wu_wu] at h
                            have h : yH D Zk A s ((wu (wu (wu w 76 (am 26, xAI (ca 0) 48 (gX 48 gw9))) 50 (am 0, mO am T P23 P32 (fG (-2147483648) 2147483647) (fX lm) (fX pt2_45) (fX fr2_46) (fX tk2_47) (fX vl2_48) (fX sl) P40 (fX st2_53) (fY tx2_49) (fX iw2_50) (fX wt2_51) (fX op2_52) P58)) 73 (am 23, xAI (ca 0) 8000 (gX 8000 (fun j => E2_54 4 (j : Int)))))) _ _ := h
                            show W p l e r_c_X12_condition s m args below meth c _ _ 0 0 Qf (F0 m 155 ls [])
                            refine lv_goto (tgt := 14) B.1 B.2.1 dX12_condition_155 (by decide) ?_
                            rw [wu_comm (show (76 : Nat) ≠ 50 by decide), wu_comm (show (76 : Nat) ≠ 73 by decide)] at h
                            have h : yH D Zk A s ((wu (wu (wu w 50 (am 0, mO am T P23 P32 (fG (-2147483648) 2147483647) (fX lm) (fX pt2_45) (fX fr2_46) (fX tk2_47) (fX vl2_48) (fX sl) P40 (fX st2_53) (fY tx2_49) (fX iw2_50) (fX wt2_51) (fX op2_52) P58)) 73 (am 23, xAI (ca 0) 8000 (gX 8000 (fun j => E2_54 4 (j : Int))))) 76 (am 26, xAI (ca 0) 48 (gX 48 gw9)))) _ _ := h
                            rw [wu_comm (show (50 : Nat) ≠ 73 by decide), wu_comm (show (50 : Nat) ≠ 76 by decide)] at h
                            have h : yH D Zk A s ((wu (wu (wu w 73 (am 23, xAI (ca 0) 8000 (gX 8000 (fun j => E2_54 4 (j : Int))))) 76 (am 26, xAI (ca 0) 48 (gX 48 gw9))) 50 (am 0, mO am T P23 P32 (fG (-2147483648) 2147483647) (fX lm) (fX pt2_45) (fX fr2_46) (fX tk2_47) (fX vl2_48) (fX sl) P40 (fX st2_53) (fY tx2_49) (fX iw2_50) (fX wt2_51) (fX op2_52) P58))) _ _ := h
                            exact ih14 0 1 fr2_46 pt2_45 tk2_47 vl2_48 tx2_49 iw2_50 st2_53 wt2_51 op2_52 E2_54 gw9 1 (by omega) (by omega) (by omega) (by omega) hr55.2.1 (by omega) (by omega) (by omega) (FR_tr (FR_tr h4 hr41.2.2.2.2) hr55.2.2.2.2) (by omega) _ _ _ h (lv_sub hl [0, 1, 2, 3] rfl)
                      · exact absurd c36 (by omega)
                  · exact absurd c21 (by omega)
              · exact absurd c6 (by omega)
            · exact absurd c5 (by omega)
          · obtain rfl : wa = 1 := by omega
            refine lv_aload_n B.1 B.2.1 dX12_condition_29 rfl (lv_at hl 2 rfl) ?_
            refine x_ldc2 B m_1606 dX12_condition_30 ?_
            refine y_cV B h kX12 50 wu_eq k_X12_is rfl (c_X12_is l D Zk ca _ _ _ P23 P32 (fG (-2147483648) 2147483647) (fX lm) (fX pt9) (fX fr9) (fX vl9) (fX sl) P40 (fX st9) (fX wt9) (fX op9) P58 tk9 _ iw9 ((10631 : Int64)) wu_eq (by omega) (by omega)) m_1582 rfl (by decide) hl.1 [] (Nat.le_of_ble_eq_true rfl) rfl dX12_condition_33 (fun r w1 hq H locs h => ?_)
            obtain ⟨rfl, _, rfl, ⟨rfl, b56⟩ | ⟨rfl, b56⟩⟩ := hq
            · have b56x := tx_eq b56.2.2 (by omega)
              rw [show (10631 : Int64).toInt = 10631 from rfl] at b56x
              show W p l e r_c_X12_condition s m args below meth c _ _ 0 0 Qf (F0 m 36 ls [.int (iI 1)])
              refine x_if_eq B (by omega) (tgt := 48) dX12_condition_36 (by decide) (fun c57 => ?_) (fun c57 => ?_)
              · exact absurd c57 (by omega)
              · refine lv_aload_n B.1 B.2.1 dX12_condition_39 rfl (lv_at hl 2 rfl) ?_
                refine x_bipush B (by decide) dX12_condition_40 ?_
                refine y_cV B h kX12 50 wu_eq k_X12_opens rfl (c_X12_opens l D Zk ca _ _ _ P23 P32 P40 P58 lm pt9 fr9 tk9 vl9 sl st9 _ iw9 wt9 op9 gt gw9 E9 _ 20 wu_eq (wu_at (wu_at (wu_at f_tape (by decide)) (by decide)) (by decide)) (wu_at (wu_at wu_eq (by decide)) (by decide)) (wu_at (wu_at (wu_at f_stepNumber (by decide)) (by decide)) (by decide)) (wu_at wu_eq (by decide)) (by omega) (by omega) (by omega) (by omega) (by omega) (CI.dd h2 (by omega)) (by omega) (by omega) (by omega) (by omega)) m_1607 rfl (by decide) hl.1 [] (Nat.le_of_ble_eq_true rfl) rfl dX12_condition_42 (fun r w1 hq H locs h => ?_)
                obtain ⟨rfl, pt2_58, fr2_59, tk2_60, vl2_61, tx2_62, iw2_63, gw2_64, wt2_65, op2_66, rfl, hr67⟩ := hq
                rw [wu_wu, wu_comm (show (76 : Nat) ≠ 50 by decide), wu_wu] at h
                have h : yH D Zk A s ((wu (wu (wu w 73 (am 23, xAI (ca 0) 8000 (gX 8000 (fun j => E9 4 (j : Int))))) 50 (am 0, mO am T P23 P32 (fG (-2147483648) 2147483647) (fX lm) (fX pt2_58) (fX fr2_59) (fX tk2_60) (fX vl2_61) (fX sl) P40 (fX st9) (fY tx2_62) (fX iw2_63) (fX wt2_65) (fX op2_66) P58)) 76 (am 26, xAI (ca 0) 48 (gX 48 gw2_64)))) _ _ := h
                show W p l e r_c_X12_condition s m args below meth c _ _ 0 0 Qf (F0 m 45 ls [])
                refine lv_goto (tgt := 14) B.1 B.2.1 dX12_condition_45 (by decide) ?_
                rw [wu_comm (show (73 : Nat) ≠ 50 by decide), wu_comm (show (73 : Nat) ≠ 76 by decide)] at h
                have h : yH D Zk A s ((wu (wu (wu w 50 (am 0, mO am T P23 P32 (fG (-2147483648) 2147483647) (fX lm) (fX pt2_58) (fX fr2_59) (fX tk2_60) (fX vl2_61) (fX sl) P40 (fX st9) (fY tx2_62) (fX iw2_63) (fX wt2_65) (fX op2_66) P58)) 76 (am 26, xAI (ca 0) 48 (gX 48 gw2_64))) 73 (am 23, xAI (ca 0) 8000 (gX 8000 (fun j => E9 4 (j : Int)))))) _ _ := h
                rw [wu_comm (show (76 : Nat) ≠ 73 by decide)] at h
                have h : yH D Zk A s ((wu (wu (wu w 50 (am 0, mO am T P23 P32 (fG (-2147483648) 2147483647) (fX lm) (fX pt2_58) (fX fr2_59) (fX tk2_60) (fX vl2_61) (fX sl) P40 (fX st9) (fY tx2_62) (fX iw2_63) (fX wt2_65) (fX op2_66) P58)) 73 (am 23, xAI (ca 0) 8000 (gX 8000 (fun j => E9 4 (j : Int))))) 76 (am 26, xAI (ca 0) 48 (gX 48 gw2_64)))) _ _ := h
                rw [wu_comm (show (50 : Nat) ≠ 73 by decide), wu_comm (show (50 : Nat) ≠ 76 by decide)] at h
                have h : yH D Zk A s ((wu (wu (wu w 73 (am 23, xAI (ca 0) 8000 (gX 8000 (fun j => E9 4 (j : Int))))) 76 (am 26, xAI (ca 0) 48 (gX 48 gw2_64))) 50 (am 0, mO am T P23 P32 (fG (-2147483648) 2147483647) (fX lm) (fX pt2_58) (fX fr2_59) (fX tk2_60) (fX vl2_61) (fX sl) P40 (fX st9) (fY tx2_62) (fX iw2_63) (fX wt2_65) (fX op2_66) P58))) _ _ := h
                exact ih14 1 fl fr2_59 pt2_58 tk2_60 vl2_61 tx2_62 iw2_63 st9 wt2_65 op2_66 E9 gw2_64 0 (by omega) (by omega) (by omega) (by omega) hr67.2.1 (by omega) (by omega) (by omega) h4 (by omega) _ _ _ h (lv_sub hl [0, 1, 2, 3] rfl)
            · show W p l e r_c_X12_condition s m args below meth c _ _ 0 0 Qf (F0 m 36 ls [.int (iI 0)])
              refine x_if_eq B (by omega) (tgt := 48) dX12_condition_36 (by decide) (fun c68 => ?_) (fun c68 => ?_)
              · refine lv_iload_n B.1 B.2.1 dX12_condition_48 rfl (lv_at hl 1 rfl) ?_
                refine x_if_eq B (by omega) (tgt := 70) dX12_condition_49 (by decide) (fun c69 => ?_) (fun c69 => ?_)
                · exact absurd c69 (by omega)
                · refine lv_aload_n B.1 B.2.1 dX12_condition_52 rfl (lv_at hl 2 rfl) ?_
                  refine y_getX B h kX12 50 wu_eq 37 (z := tk9) rfl m_1298 (by decide) dX12_condition_53 ?_
                  refine x_bipush B (by decide) dX12_condition_56 ?_
                  refine x_icmp_ne B (by omega) (tgt := 70) dX12_condition_58 (by decide) (fun c70 => ?_) (fun c70 => ?_)
                  · refine lv_iload_n B.1 B.2.1 dX12_condition_70 rfl (lv_at hl 1 rfl) ?_
                    refine x_if_eq B (by omega) (tgt := 84) dX12_condition_71 (by decide) (fun c71 => ?_) (fun c71 => ?_)
                    · exact absurd c71 (by omega)
                    · refine lv_aload_n B.1 B.2.1 dX12_condition_74 rfl (lv_at hl 2 rfl) ?_
                      refine lv_iload_n B.1 B.2.1 dX12_condition_75 rfl (lv_at hl 3 rfl) ?_
                      refine y_cV B h kX12 50 wu_eq k_X12_test rfl (c_X12_test l D Zk ca _ _ _ P23 P32 P40 P58 lm pt9 fr9 tk9 vl9 sl st9 _ iw9 wt9 op9 gt gw9 E9 _ b wu_eq (wu_at (wu_at (wu_at f_tape (by decide)) (by decide)) (by decide)) (wu_at (wu_at wu_eq (by decide)) (by decide)) (wu_at (wu_at (wu_at f_stepNumber (by decide)) (by decide)) (by decide)) (wu_at wu_eq (by decide)) (by omega) (by omega) (by omega) (by omega) (by omega) (CI.dd h2 (by omega)) (by omega) (by omega) (by omega)) m_1611 rfl (by decide) hl.1 [] (Nat.le_of_ble_eq_true rfl) rfl dX12_condition_76 (fun r w1 hq H locs h => ?_)
                      obtain ⟨rfl, pt2_72, fr2_73, tk2_74, vl2_75, tx2_76, iw2_77, wt2_78, op2_79, st2_80, E2_81, dd2_82, rfl, hr83⟩ := hq
                      rw [wu_wu, wu_comm (show (73 : Nat) ≠ 76 by decide), wu_comm (show (73 : Nat) ≠ 50 by decide), wu_wu] at h
                      have h : yH D Zk A s ((wu (wu (wu w 76 (am 26, xAI (ca 0) 48 (gX 48 gw9))) 50 (am 0, mO am T P23 P32 (fG (-2147483648) 2147483647) (fX lm) (fX pt2_72) (fX fr2_73) (fX tk2_74) (fX vl2_75) (fX sl) P40 (fX st2_80) (fY tx2_76) (fX iw2_77) (fX wt2_78) (fX op2_79) P58)) 73 (am 23, xAI (ca 0) 8000 (gX 8000 (fun j => E2_81 4 (j : Int)))))) _ _ := h
                      show W p l e r_c_X12_condition s m args below meth c _ _ 0 0 Qf (F0 m 79 ls [])
                      refine x_iconst B dX12_condition_79 ?_
                      refine lv_istore_n (lv' := [(2, .int (iI 0)), (3, .int (iI fl)), (0, .ref (am 0)), (1, .int (iI b))]) B.1 B.2.1 dX12_condition_80 rfl hl (by decide) rfl (fun ls hl => ?_)
                      refine lv_goto (tgt := 14) B.1 B.2.1 dX12_condition_81 (by decide) ?_
                      rw [wu_comm (show (76 : Nat) ≠ 50 by decide), wu_comm (show (76 : Nat) ≠ 73 by decide)] at h
                      have h : yH D Zk A s ((wu (wu (wu w 50 (am 0, mO am T P23 P32 (fG (-2147483648) 2147483647) (fX lm) (fX pt2_72) (fX fr2_73) (fX tk2_74) (fX vl2_75) (fX sl) P40 (fX st2_80) (fY tx2_76) (fX iw2_77) (fX wt2_78) (fX op2_79) P58)) 73 (am 23, xAI (ca 0) 8000 (gX 8000 (fun j => E2_81 4 (j : Int))))) 76 (am 26, xAI (ca 0) 48 (gX 48 gw9)))) _ _ := h
                      rw [wu_comm (show (50 : Nat) ≠ 73 by decide), wu_comm (show (50 : Nat) ≠ 76 by decide)] at h
                      have h : yH D Zk A s ((wu (wu (wu w 73 (am 23, xAI (ca 0) 8000 (gX 8000 (fun j => E2_81 4 (j : Int))))) 76 (am 26, xAI (ca 0) 48 (gX 48 gw9))) 50 (am 0, mO am T P23 P32 (fG (-2147483648) 2147483647) (fX lm) (fX pt2_72) (fX fr2_73) (fX tk2_74) (fX vl2_75) (fX sl) P40 (fX st2_80) (fY tx2_76) (fX iw2_77) (fX wt2_78) (fX op2_79) P58))) _ _ := h
                      exact ih14 0 fl fr2_73 pt2_72 tk2_74 vl2_75 tx2_76 iw2_77 st2_80 wt2_78 op2_79 E2_81 gw9 dd2_82 (by omega) (by omega) (by omega) (by omega) hr83.2.1 (by omega) (by omega) (by omega) (FR_tr h4 hr83.2.2.2.2.2) (by omega) _ _ _ h (lv_sub hl [1, 0, 2, 3] rfl)
                  · refine lv_aload_n B.1 B.2.1 dX12_condition_61 rfl (lv_at hl 2 rfl) ?_
                    refine x_bipush B (by decide) dX12_condition_62 ?_
                    refine y_cV B h kX12 50 wu_eq k_X12_opens rfl (c_X12_opens l D Zk ca _ _ _ P23 P32 P40 P58 lm pt9 fr9 tk9 vl9 sl st9 _ iw9 wt9 op9 gt gw9 E9 _ 23 wu_eq (wu_at (wu_at (wu_at f_tape (by decide)) (by decide)) (by decide)) (wu_at (wu_at wu_eq (by decide)) (by decide)) (wu_at (wu_at (wu_at f_stepNumber (by decide)) (by decide)) (by decide)) (wu_at wu_eq (by decide)) (by omega) (by omega) (by omega) (by omega) (by omega) (CI.dd h2 (by omega)) (by omega) (by omega) (by omega) (by omega)) m_1607 rfl (by decide) hl.1 [] (Nat.le_of_ble_eq_true rfl) rfl dX12_condition_64 (fun r w1 hq H locs h => ?_)
                    obtain ⟨rfl, pt2_84, fr2_85, tk2_86, vl2_87, tx2_88, iw2_89, gw2_90, wt2_91, op2_92, rfl, hr93⟩ := hq
                    rw [wu_wu, wu_comm (show (76 : Nat) ≠ 50 by decide), wu_wu] at h
                    have h : yH D Zk A s ((wu (wu (wu w 73 (am 23, xAI (ca 0) 8000 (gX 8000 (fun j => E9 4 (j : Int))))) 50 (am 0, mO am T P23 P32 (fG (-2147483648) 2147483647) (fX lm) (fX pt2_84) (fX fr2_85) (fX tk2_86) (fX vl2_87) (fX sl) P40 (fX st9) (fY tx2_88) (fX iw2_89) (fX wt2_91) (fX op2_92) P58)) 76 (am 26, xAI (ca 0) 48 (gX 48 gw2_90)))) _ _ := h
                    show W p l e r_c_X12_condition s m args below meth c _ _ 0 0 Qf (F0 m 67 ls [])
                    refine lv_goto (tgt := 14) B.1 B.2.1 dX12_condition_67 (by decide) ?_
                    rw [wu_comm (show (73 : Nat) ≠ 50 by decide), wu_comm (show (73 : Nat) ≠ 76 by decide)] at h
                    have h : yH D Zk A s ((wu (wu (wu w 50 (am 0, mO am T P23 P32 (fG (-2147483648) 2147483647) (fX lm) (fX pt2_84) (fX fr2_85) (fX tk2_86) (fX vl2_87) (fX sl) P40 (fX st9) (fY tx2_88) (fX iw2_89) (fX wt2_91) (fX op2_92) P58)) 76 (am 26, xAI (ca 0) 48 (gX 48 gw2_90))) 73 (am 23, xAI (ca 0) 8000 (gX 8000 (fun j => E9 4 (j : Int)))))) _ _ := h
                    rw [wu_comm (show (76 : Nat) ≠ 73 by decide)] at h
                    have h : yH D Zk A s ((wu (wu (wu w 50 (am 0, mO am T P23 P32 (fG (-2147483648) 2147483647) (fX lm) (fX pt2_84) (fX fr2_85) (fX tk2_86) (fX vl2_87) (fX sl) P40 (fX st9) (fY tx2_88) (fX iw2_89) (fX wt2_91) (fX op2_92) P58)) 73 (am 23, xAI (ca 0) 8000 (gX 8000 (fun j => E9 4 (j : Int))))) 76 (am 26, xAI (ca 0) 48 (gX 48 gw2_90)))) _ _ := h
                    rw [wu_comm (show (50 : Nat) ≠ 73 by decide), wu_comm (show (50 : Nat) ≠ 76 by decide)] at h
                    have h : yH D Zk A s ((wu (wu (wu w 73 (am 23, xAI (ca 0) 8000 (gX 8000 (fun j => E9 4 (j : Int))))) 76 (am 26, xAI (ca 0) 48 (gX 48 gw2_90))) 50 (am 0, mO am T P23 P32 (fG (-2147483648) 2147483647) (fX lm) (fX pt2_84) (fX fr2_85) (fX tk2_86) (fX vl2_87) (fX sl) P40 (fX st9) (fY tx2_88) (fX iw2_89) (fX wt2_91) (fX op2_92) P58))) _ _ := h
                    exact ih14 1 fl fr2_85 pt2_84 tk2_86 vl2_87 tx2_88 iw2_89 st9 wt2_91 op2_92 E9 gw2_90 0 (by omega) (by omega) (by omega) (by omega) hr93.2.1 (by omega) (by omega) (by omega) h4 (by omega) _ _ _ h (lv_sub hl [0, 1, 2, 3] rfl)
              · exact absurd c68 (by omega)
  exact loop14 (((2 * (900 - fr) + 1 + (1 - iw) : Int)).toNat + 1) 1 1 fr pt tk vl tx iw st 0 0 E g1 0 (by omega) (by omega) (by omega) (by omega) (CI.first (by omega)) (by omega) (by have q9 : wn g1 (0 : Int).toNat = 0 := rfl; omega) (by have q9 : wn g1 (0 : Int).toNat = 0 := rfl; omega) FR_0 (Nat.lt_succ_self _) _ _ _ h (lv_sub hl [0, 1, 2, 3] rfl)
