/-- where a statement's steps begin and end -/
def GBK (gf gb gf2 gb2 : Nat → Int) (i st st2 iw2 : Int) : Prop := (∀ j : Nat, (j : Int) ≠ i → gf2 j = gf j ∧ gb2 j = gb j) ∧ (iw2 = 0 → gf2 i.toNat = st ∧ gb2 i.toNat = st2)
theorem GBK_0 {gf gb : Nat → Int} {i st st2 iw2 : Int} (h : iw2 = 1) : GBK gf gb gf gb i st st2 iw2 := ⟨fun _ _ => ⟨rfl, rfl⟩, fun q => absurd q (by omega)⟩
theorem GBK_1 {gf gb : Nat → Int} {i st st2 iw2 : Int} (h : 0 ≤ i) : GBK gf gb (iu gf i st) (iu gb i st2) i st st2 iw2 := ⟨fun j hj => ⟨if_neg hj, if_neg hj⟩, fun _ => ⟨iu_eq h, iu_eq h⟩⟩
theorem k_X12_condition : xMV yX12_condition cX12_condition 4 none 1 := ⟨m_1605, m_1604, m_52, m_104, ⟨by decide +kernel, by decide +kernel, by decide +kernel⟩⟩
theorem k_X12_sortHere : xMV yX12_sortHere cX12_sortHere 1 (some .int) 0 := ⟨m_1580, m_1579, m_47, m_104, ⟨by decide +kernel, by decide +kernel, by decide +kernel⟩⟩
theorem k_X12_mustBe : xMV yX12_mustBe cX12_mustBe 3 none 1 := ⟨m_1596, m_1595, m_50, m_104, ⟨by decide +kernel, by decide +kernel, by decide +kernel⟩⟩
theorem k_X12_ending : xMV yX12_ending cX12_ending 4 none 3 := ⟨m_1600, m_1599, m_51, m_104, ⟨by decide +kernel, by decide +kernel, by decide +kernel⟩⟩
abbrev r_c_X12_ending : Room := { frames := 5, cells := 0, slots := 0, locals := 111 }
set_option maxHeartbeats 4000000 in
set_option maxRecDepth 100000 in
theorem c_X12_ending (l : Launch) (D : va_G) (Zk : yK) (ca : Nat → ClassId) (w : yW) (T : Nat → Int → Int) (am : Nat → Nat) (P23 : fP) (P32 : fP) (P40 : fP) (P58 : fP) (lm : Int) (pt : Int) (fr : Int) (tk : Int) (vl : Int) (sl : Int) (st : Int) (tx : Int) (iw : Int) (gt : Nat → Int) (gf : Nat → Int) (gb : Nat → Int) (E : Nat → Int → Int) (gf : Nat → Int) (gb : Nat → Int) (i : Int) (b : Int) (ifs : Int) (fo : w 50 = some (am 0, mO am T P23 P32 (fG (-2147483648) 2147483647) (fX lm) (fX pt) (fX fr) (fX tk) (fX vl) (fX sl) P40 (fX st) (fY tx) (fX iw) (fG 0 48) (fG 0 9) P58)) (f_tape : w 75 = some (am 25, xAI (ca 3) 900 (gX 900 gt))) (f_step : w 73 = some (am 23, xAI (ca 0) 8000 (gX 8000 (fun j => E 4 (j : Int))))) (f_stepNumber : w 74 = some (am 24, xAI (ca 0) 8000 gA)) (f_waits : w 76 = some (am 26, xAI (ca 0) 48 gA)) (f_first : w 71 = some (am 21, xAI (ca 0) 1000 (gX 1000 gf))) (f_behind : w 72 = some (am 22, xAI (ca 0) 1000 (gX 1000 gb))) (hp : 0 ≤ pt ∧ pt ≤ lm ∧ lm ≤ 900) (hq : 0 ≤ fr ∧ fr ≤ pt ∧ 0 ≤ vl ∧ vl ≤ 10000000) (htok : TOK tk tx fr pt) (hiw : iw = 0 ∨ iw = 1) (hs1 : 0 ≤ sl ∧ sl ≤ 24) (hst : 0 ≤ st ∧ 3 * st ≤ fr) (hi : 0 ≤ i ∧ i ≤ 999) (hb : 0 ≤ b ∧ b ≤ 1) (hifs : 0 ≤ ifs ∧ ifs ≤ 1) : yC l D Zk ca yX12_ending cX12_ending 4 none r_c_X12_ending [.ref (am 0), .int (iI i), .int (iI b), .int (iI ifs)] w (fun r w1 => r = none ∧ ∃ pt2 : Int, ∃ fr2 : Int, ∃ tk2 : Int, ∃ vl2 : Int, ∃ tx2 : Int, ∃ iw2 : Int, ∃ st2 : Int, ∃ E2 : Nat → Int → Int, w1 = (wu (wu (wu (wu w 50 (am 0, mO am T P23 P32 (fG (-2147483648) 2147483647) (fX lm) (fX pt2) (fX fr2) (fX tk2) (fX vl2) (fX sl) P40 (fX st2) (fY tx2) (fX iw2) (fG 0 48) (fG 0 9) P58)) 73 (am 23, xAI (ca 0) 8000 (gX 8000 (fun j => E2 4 (j : Int))))) 71 (am 21, xAI (ca 0) 1000 (gX 1000 (iu gf i st)))) 72 (am 22, xAI (ca 0) 1000 (gX 1000 (iu gb i st2)))) ∧ ((fr ≤ fr2 ∧ fr2 ≤ pt2 ∧ pt2 ≤ lm ∧ (0 ≤ vl2 ∧ vl2 ≤ 10000000) ∧ TOK tk2 tx2 fr2 pt2 ∧ (iw2 = 0 ∨ iw2 = 1) ∧ iw ≤ iw2) ∧ OKS E2 (320 * sl + st) (st2 - st) ∧ st ≤ st2 ∧ 3 * st2 ≤ fr2 ∧ FR E E2 sl st)) := by
  refine yC.of2 "WindWordsModel" (by decide) rfl (Nat.le_of_ble_eq_true rfl) ?_
  intro p e s m args below meth c A ls Qf B hnm h hl hQ
  have hl : lv_has ls 4 [(0, .ref (am 0)), (1, .int (iI i)), (2, .int (iI b)), (3, .int (iI ifs))] := hl
  have h : yH D Zk A s ((wu (wu (wu (wu w 50 (am 0, mO am T P23 P32 (fG (-2147483648) 2147483647) (fX lm) (fX pt) (fX fr) (fX tk) (fX vl) (fX sl) P40 (fX st) (fY tx) (fX iw) (fG 0 48) (fG 0 9) P58)) 73 (am 23, xAI (ca 0) 8000 (gX 8000 (fun j => E 4 (j : Int))))) 71 (am 21, xAI (ca 0) 1000 (gX 1000 gf))) 72 (am 22, xAI (ca 0) 1000 (gX 1000 gb)))) s.heap [] := by rw [wu_same (show w 50 = _ from fo), wu_same (show w 73 = _ from f_step), wu_same (show w 71 = _ from f_first), wu_same (show w 72 = _ from f_behind)]; exact h
  refine lv_aload_n B.1 B.2.1 dX12_ending_0 rfl (lv_at hl 0 rfl) ?_
  refine y_getR B h kX12 50 (wu_at (wu_at (wu_at wu_eq (by decide)) (by decide)) (by decide)) 27 (b := am 21) rfl m_1288 (by decide) dX12_ending_1 ?_
  refine lv_iload_n B.1 B.2.1 dX12_ending_4 rfl (lv_at hl 1 rfl) ?_
  refine lv_aload_n B.1 B.2.1 dX12_ending_5 rfl (lv_at hl 0 rfl) ?_
  refine y_getX B h kX12 50 (wu_at (wu_at (wu_at wu_eq (by decide)) (by decide)) (by decide)) 41 (z := st) rfl m_1302 (by decide) dX12_ending_6 ?_
  rw [wu_comm (show (71 : Nat) ≠ 72 by decide)] at h
  have h : yH D Zk A s ((wu (wu (wu (wu w 50 (am 0, mO am T P23 P32 (fG (-2147483648) 2147483647) (fX lm) (fX pt) (fX fr) (fX tk) (fX vl) (fX sl) P40 (fX st) (fY tx) (fX iw) (fG 0 48) (fG 0 9) P58)) 73 (am 23, xAI (ca 0) 8000 (gX 8000 (fun j => E 4 (j : Int))))) 72 (am 22, xAI (ca 0) 1000 (gX 1000 gb))) 71 (am 21, xAI (ca 0) 1000 (gX 1000 gf)))) _ _ := h
  refine y_iast B h 71 wu_eq (by omega) (P' := gX 1000 (iu gf i st)) (gX_upd (by omega)) dX12_ending_9 (fun H locs h => ?_)
  rw [wu_wu] at h
  have h : yH D Zk A s ((wu (wu (wu (wu w 50 (am 0, mO am T P23 P32 (fG (-2147483648) 2147483647) (fX lm) (fX pt) (fX fr) (fX tk) (fX vl) (fX sl) P40 (fX st) (fY tx) (fX iw) (fG 0 48) (fG 0 9) P58)) 73 (am 23, xAI (ca 0) 8000 (gX 8000 (fun j => E 4 (j : Int))))) 72 (am 22, xAI (ca 0) 1000 (gX 1000 gb))) 71 (am 21, xAI (ca 0) 1000 (gX 1000 (iu gf i st))))) _ _ := h
  refine lv_iload_n B.1 B.2.1 dX12_ending_10 rfl (lv_at hl 3 rfl) ?_
  refine x_if_eq B (by omega) (tgt := 33) dX12_ending_11 (by decide) (fun c1 => ?_) (fun c1 => ?_)
  · refine lv_aload_n B.1 B.2.1 dX12_ending_33 rfl (lv_at hl 0 rfl) ?_
    refine y_getR B h kX12 50 (wu_at (wu_at (wu_at wu_eq (by decide)) (by decide)) (by decide)) 28 (b := am 22) rfl m_1289 (by decide) dX12_ending_34 ?_
    refine lv_iload_n B.1 B.2.1 dX12_ending_37 rfl (lv_at hl 1 rfl) ?_
    refine lv_aload_n B.1 B.2.1 dX12_ending_38 rfl (lv_at hl 0 rfl) ?_
    refine y_getX B h kX12 50 (wu_at (wu_at (wu_at wu_eq (by decide)) (by decide)) (by decide)) 41 (z := st) rfl m_1302 (by decide) dX12_ending_39 ?_
    rw [wu_comm (show (72 : Nat) ≠ 71 by decide)] at h
    have h : yH D Zk A s ((wu (wu (wu (wu w 50 (am 0, mO am T P23 P32 (fG (-2147483648) 2147483647) (fX lm) (fX pt) (fX fr) (fX tk) (fX vl) (fX sl) P40 (fX st) (fY tx) (fX iw) (fG 0 48) (fG 0 9) P58)) 73 (am 23, xAI (ca 0) 8000 (gX 8000 (fun j => E 4 (j : Int))))) 71 (am 21, xAI (ca 0) 1000 (gX 1000 (iu gf i st)))) 72 (am 22, xAI (ca 0) 1000 (gX 1000 gb)))) _ _ := h
    refine y_iast B h 72 wu_eq (by omega) (P' := gX 1000 (iu gb i st)) (gX_upd (by omega)) dX12_ending_42 (fun H locs h => ?_)
    rw [wu_wu] at h
    have h : yH D Zk A s ((wu (wu (wu (wu w 50 (am 0, mO am T P23 P32 (fG (-2147483648) 2147483647) (fX lm) (fX pt) (fX fr) (fX tk) (fX vl) (fX sl) P40 (fX st) (fY tx) (fX iw) (fG 0 48) (fG 0 9) P58)) 73 (am 23, xAI (ca 0) 8000 (gX 8000 (fun j => E 4 (j : Int))))) 71 (am 21, xAI (ca 0) 1000 (gX 1000 (iu gf i st)))) 72 (am 22, xAI (ca 0) 1000 (gX 1000 (iu gb i st))))) _ _ := h
    refine lv_aload_n B.1 B.2.1 dX12_ending_43 rfl (lv_at hl 0 rfl) ?_
    refine y_getX B h kX12 50 (wu_at (wu_at (wu_at wu_eq (by decide)) (by decide)) (by decide)) 43 (z := iw) rfl m_1304 (by decide) dX12_ending_44 ?_
    refine x_if_eq B (by omega) (tgt := 51) dX12_ending_47 (by decide) (fun c2 => ?_) (fun c2 => ?_)
    · refine lv_aload_n B.1 B.2.1 dX12_ending_51 rfl (lv_at hl 0 rfl) ?_
      refine y_getX B h kX12 50 (wu_at (wu_at (wu_at wu_eq (by decide)) (by decide)) (by decide)) 37 (z := tk) rfl m_1298 (by decide) dX12_ending_52 ?_
      refine x_bipush B (by decide) dX12_ending_55 ?_
      refine x_icmp_ne B (by omega) (tgt := 67) dX12_ending_57 (by decide) (fun c3 => ?_) (fun c3 => ?_)
      · refine lv_aload_n B.1 B.2.1 dX12_ending_67 rfl (lv_at hl 0 rfl) ?_
        refine y_cV B h kX12 50 (wu_at (wu_at (wu_at wu_eq (by decide)) (by decide)) (by decide)) k_X12_errs rfl (c_X12_errs l D Zk ca _ _ _ P23 P32 (fX lm) (fX pt) (fX tk) (fX vl) (fX sl) P40 (fX st) (fY tx) (fG 0 48) (fG 0 9) P58 fr iw (wu_at (wu_at (wu_at wu_eq (by decide)) (by decide)) (by decide)) (by omega) (by omega)) m_1569 rfl (by decide) hl.1 [] (Nat.le_of_ble_eq_true rfl) rfl dX12_ending_68 (fun r w1 hq H locs h => ?_)
        obtain ⟨rfl, rfl, hr4⟩ := hq
        rw [wu_comm (show (50 : Nat) ≠ 73 by decide), wu_comm (show (50 : Nat) ≠ 71 by decide), wu_comm (show (50 : Nat) ≠ 72 by decide), wu_wu] at h
        have h : yH D Zk A s ((wu (wu (wu (wu w 73 (am 23, xAI (ca 0) 8000 (gX 8000 (fun j => E 4 (j : Int))))) 71 (am 21, xAI (ca 0) 1000 (gX 1000 (iu gf i st)))) 72 (am 22, xAI (ca 0) 1000 (gX 1000 (iu gb i st)))) 50 (am 0, mO am T P23 P32 (fG (-2147483648) 2147483647) (fX lm) (fX pt) (fX fr) (fX tk) (fX vl) (fX sl) P40 (fX st) (fY tx) (fX 1) (fG 0 48) (fG 0 9) P58))) _ _ := h
        show W p l e r_c_X12_ending s m args below meth c _ _ 0 0 Qf (F0 m 71 ls [])
        rw [wu_comm (show (73 : Nat) ≠ 71 by decide), wu_comm (show (73 : Nat) ≠ 72 by decide), wu_comm (show (73 : Nat) ≠ 50 by decide)] at h
        have h : yH D Zk A s ((wu (wu (wu (wu w 71 (am 21, xAI (ca 0) 1000 (gX 1000 (iu gf i st)))) 72 (am 22, xAI (ca 0) 1000 (gX 1000 (iu gb i st)))) 50 (am 0, mO am T P23 P32 (fG (-2147483648) 2147483647) (fX lm) (fX pt) (fX fr) (fX tk) (fX vl) (fX sl) P40 (fX st) (fY tx) (fX 1) (fG 0 48) (fG 0 9) P58)) 73 (am 23, xAI (ca 0) 8000 (gX 8000 (fun j => E 4 (j : Int)))))) _ _ := h
        rw [wu_comm (show (71 : Nat) ≠ 72 by decide), wu_comm (show (71 : Nat) ≠ 50 by decide), wu_comm (show (71 : Nat) ≠ 73 by decide)] at h
        have h : yH D Zk A s ((wu (wu (wu (wu w 72 (am 22, xAI (ca 0) 1000 (gX 1000 (iu gb i st)))) 50 (am 0, mO am T P23 P32 (fG (-2147483648) 2147483647) (fX lm) (fX pt) (fX fr) (fX tk) (fX vl) (fX sl) P40 (fX st) (fY tx) (fX 1) (fG 0 48) (fG 0 9) P58)) 73 (am 23, xAI (ca 0) 8000 (gX 8000 (fun j => E 4 (j : Int))))) 71 (am 21, xAI (ca 0) 1000 (gX 1000 (iu gf i st))))) _ _ := h
        rw [wu_comm (show (72 : Nat) ≠ 50 by decide), wu_comm (show (72 : Nat) ≠ 73 by decide), wu_comm (show (72 : Nat) ≠ 71 by decide)] at h
        have h : yH D Zk A s ((wu (wu (wu (wu w 50 (am 0, mO am T P23 P32 (fG (-2147483648) 2147483647) (fX lm) (fX pt) (fX fr) (fX tk) (fX vl) (fX sl) P40 (fX st) (fY tx) (fX 1) (fG 0 48) (fG 0 9) P58)) 73 (am 23, xAI (ca 0) 8000 (gX 8000 (fun j => E 4 (j : Int))))) 71 (am 21, xAI (ca 0) 1000 (gX 1000 (iu gf i st)))) 72 (am 22, xAI (ca 0) 1000 (gX 1000 (iu gb i st))))) _ _ := h
        refine y_rv B hQ h (by decide) dX12_ending_71 ?_
        exact ⟨rfl, _, _, _, _, _, _, _, _, rfl, ⟨by omega, OKS_0 (by omega), by omega, by omega, FR_0⟩⟩
      · refine lv_aload_n B.1 B.2.1 dX12_ending_60 rfl (lv_at hl 0 rfl) ?_
        refine y_cV B h kX12 50 (wu_at (wu_at (wu_at wu_eq (by decide)) (by decide)) (by decide)) k_X12_next rfl (c_X12_next l D Zk ca _ _ _ P23 P32 (fG (-2147483648) 2147483647) (fX fr) (fX tk) (fX vl) (fX sl) P40 (fX st) (fY tx) (fX iw) (fG 0 48) (fG 0 9) P58 lm pt gt (wu_at (wu_at (wu_at wu_eq (by decide)) (by decide)) (by decide)) (wu_at (wu_at (wu_at (wu_at f_tape (by decide)) (by decide)) (by decide)) (by decide)) (by omega)) m_1558 rfl (by decide) hl.1 [] (Nat.le_of_ble_eq_true rfl) rfl dX12_ending_61 (fun r w1 hq H locs h => ?_)
        obtain ⟨rfl, pt2_5, fr2_6, tk2_7, vl2_8, tx2_9, rfl, hr10⟩ := hq
        rw [wu_comm (show (50 : Nat) ≠ 73 by decide), wu_comm (show (50 : Nat) ≠ 71 by decide), wu_comm (show (50 : Nat) ≠ 72 by decide), wu_wu] at h
        have h : yH D Zk A s ((wu (wu (wu (wu w 73 (am 23, xAI (ca 0) 8000 (gX 8000 (fun j => E 4 (j : Int))))) 71 (am 21, xAI (ca 0) 1000 (gX 1000 (iu gf i st)))) 72 (am 22, xAI (ca 0) 1000 (gX 1000 (iu gb i st)))) 50 (am 0, mO am T P23 P32 (fG (-2147483648) 2147483647) (fX lm) (fX pt2_5) (fX fr2_6) (fX tk2_7) (fX vl2_8) (fX sl) P40 (fX st) (fY tx2_9) (fX iw) (fG 0 48) (fG 0 9) P58))) _ _ := h
        show W p l e r_c_X12_ending s m args below meth c _ _ 0 0 Qf (F0 m 64 ls [])
        refine lv_goto (tgt := 71) B.1 B.2.1 dX12_ending_64 (by decide) ?_
        rw [wu_comm (show (73 : Nat) ≠ 71 by decide), wu_comm (show (73 : Nat) ≠ 72 by decide), wu_comm (show (73 : Nat) ≠ 50 by decide)] at h
        have h : yH D Zk A s ((wu (wu (wu (wu w 71 (am 21, xAI (ca 0) 1000 (gX 1000 (iu gf i st)))) 72 (am 22, xAI (ca 0) 1000 (gX 1000 (iu gb i st)))) 50 (am 0, mO am T P23 P32 (fG (-2147483648) 2147483647) (fX lm) (fX pt2_5) (fX fr2_6) (fX tk2_7) (fX vl2_8) (fX sl) P40 (fX st) (fY tx2_9) (fX iw) (fG 0 48) (fG 0 9) P58)) 73 (am 23, xAI (ca 0) 8000 (gX 8000 (fun j => E 4 (j : Int)))))) _ _ := h
        rw [wu_comm (show (71 : Nat) ≠ 72 by decide), wu_comm (show (71 : Nat) ≠ 50 by decide), wu_comm (show (71 : Nat) ≠ 73 by decide)] at h
        have h : yH D Zk A s ((wu (wu (wu (wu w 72 (am 22, xAI (ca 0) 1000 (gX 1000 (iu gb i st)))) 50 (am 0, mO am T P23 P32 (fG (-2147483648) 2147483647) (fX lm) (fX pt2_5) (fX fr2_6) (fX tk2_7) (fX vl2_8) (fX sl) P40 (fX st) (fY tx2_9) (fX iw) (fG 0 48) (fG 0 9) P58)) 73 (am 23, xAI (ca 0) 8000 (gX 8000 (fun j => E 4 (j : Int))))) 71 (am 21, xAI (ca 0) 1000 (gX 1000 (iu gf i st))))) _ _ := h
        rw [wu_comm (show (72 : Nat) ≠ 50 by decide), wu_comm (show (72 : Nat) ≠ 73 by decide), wu_comm (show (72 : Nat) ≠ 71 by decide)] at h
        have h : yH D Zk A s ((wu (wu (wu (wu w 50 (am 0, mO am T P23 P32 (fG (-2147483648) 2147483647) (fX lm) (fX pt2_5) (fX fr2_6) (fX tk2_7) (fX vl2_8) (fX sl) P40 (fX st) (fY tx2_9) (fX iw) (fG 0 48) (fG 0 9) P58)) 73 (am 23, xAI (ca 0) 8000 (gX 8000 (fun j => E 4 (j : Int))))) 71 (am 21, xAI (ca 0) 1000 (gX 1000 (iu gf i st)))) 72 (am 22, xAI (ca 0) 1000 (gX 1000 (iu gb i st))))) _ _ := h
        refine y_rv B hQ h (by decide) dX12_ending_71 ?_
        exact ⟨rfl, _, _, _, _, _, _, _, _, rfl, ⟨by omega, OKS_0 (by omega), by omega, by omega, FR_0⟩⟩
    · rw [wu_comm (show (50 : Nat) ≠ 73 by decide), wu_comm (show (50 : Nat) ≠ 71 by decide), wu_comm (show (50 : Nat) ≠ 72 by decide)] at h
      have h : yH D Zk A s ((wu (wu (wu (wu w 73 (am 23, xAI (ca 0) 8000 (gX 8000 (fun j => E 4 (j : Int))))) 71 (am 21, xAI (ca 0) 1000 (gX 1000 (iu gf i st)))) 72 (am 22, xAI (ca 0) 1000 (gX 1000 (iu gb i st)))) 50 (am 0, mO am T P23 P32 (fG (-2147483648) 2147483647) (fX lm) (fX pt) (fX fr) (fX tk) (fX vl) (fX sl) P40 (fX st) (fY tx) (fX iw) (fG 0 48) (fG 0 9) P58))) _ _ := h
      rw [wu_comm (show (73 : Nat) ≠ 71 by decide), wu_comm (show (73 : Nat) ≠ 72 by decide), wu_comm (show (73 : Nat) ≠ 50 by decide)] at h
      have h : yH D Zk A s ((wu (wu (wu (wu w 71 (am 21, xAI (ca 0) 1000 (gX 1000 (iu gf i st)))) 72 (am 22, xAI (ca 0) 1000 (gX 1000 (iu gb i st)))) 50 (am 0, mO am T P23 P32 (fG (-2147483648) 2147483647) (fX lm) (fX pt) (fX fr) (fX tk) (fX vl) (fX sl) P40 (fX st) (fY tx) (fX iw) (fG 0 48) (fG 0 9) P58)) 73 (am 23, xAI (ca 0) 8000 (gX 8000 (fun j => E 4 (j : Int)))))) _ _ := h
      rw [wu_comm (show (71 : Nat) ≠ 72 by decide), wu_comm (show (71 : Nat) ≠ 50 by decide), wu_comm (show (71 : Nat) ≠ 73 by decide)] at h
      have h : yH D Zk A s ((wu (wu (wu (wu w 72 (am 22, xAI (ca 0) 1000 (gX 1000 (iu gb i st)))) 50 (am 0, mO am T P23 P32 (fG (-2147483648) 2147483647) (fX lm) (fX pt) (fX fr) (fX tk) (fX vl) (fX sl) P40 (fX st) (fY tx) (fX iw) (fG 0 48) (fG 0 9) P58)) 73 (am 23, xAI (ca 0) 8000 (gX 8000 (fun j => E 4 (j : Int))))) 71 (am 21, xAI (ca 0) 1000 (gX 1000 (iu gf i st))))) _ _ := h
      rw [wu_comm (show (72 : Nat) ≠ 50 by decide), wu_comm (show (72 : Nat) ≠ 73 by decide), wu_comm (show (72 : Nat) ≠ 71 by decide)] at h
      have h : yH D Zk A s ((wu (wu (wu (wu w 50 (am 0, mO am T P23 P32 (fG (-2147483648) 2147483647) (fX lm) (fX pt) (fX fr) (fX tk) (fX vl) (fX sl) P40 (fX st) (fY tx) (fX iw) (fG 0 48) (fG 0 9) P58)) 73 (am 23, xAI (ca 0) 8000 (gX 8000 (fun j => E 4 (j : Int))))) 71 (am 21, xAI (ca 0) 1000 (gX 1000 (iu gf i st)))) 72 (am 22, xAI (ca 0) 1000 (gX 1000 (iu gb i st))))) _ _ := h
      refine y_rv B hQ h (by decide) dX12_ending_50 ?_
      exact ⟨rfl, _, _, _, _, _, _, _, _, rfl, ⟨by omega, OKS_0 (by omega), by omega, by omega, FR_0⟩⟩
  · refine lv_aload_n B.1 B.2.1 dX12_ending_14 rfl (lv_at hl 0 rfl) ?_
    refine x_ldc2 B m_1601 dX12_ending_15 ?_
    refine y_cV B h kX12 50 (wu_at (wu_at (wu_at wu_eq (by decide)) (by decide)) (by decide)) k_X12_is rfl (c_X12_is l D Zk ca _ _ _ P23 P32 (fG (-2147483648) 2147483647) (fX lm) (fX pt) (fX fr) (fX vl) (fX sl) P40 (fX st) (fG 0 48) (fG 0 9) P58 tk _ iw ((249 : Int64)) (wu_at (wu_at (wu_at wu_eq (by decide)) (by decide)) (by decide)) (by omega) (by omega)) m_1582 rfl (by decide) hl.1 [] (Nat.le_of_ble_eq_true rfl) rfl dX12_ending_18 (fun r w1 hq H locs h => ?_)
    obtain ⟨rfl, _, rfl, ⟨rfl, b11⟩ | ⟨rfl, b11⟩⟩ := hq
    · have b11x := tx_eq b11.2.2 (by omega)
      rw [show (249 : Int64).toInt = 249 from rfl] at b11x
      show W p l e r_c_X12_ending s m args below meth c _ _ 0 0 Qf (F0 m 21 ls [.int (iI 1)])
      refine x_if_eq B (by omega) (tgt := 33) dX12_ending_21 (by decide) (fun c12 => ?_) (fun c12 => ?_)
      · exact absurd c12 (by omega)
      · refine lv_aload_n B.1 B.2.1 dX12_ending_24 rfl (lv_at hl 0 rfl) ?_
        refine y_cV B h kX12 50 (wu_at (wu_at (wu_at wu_eq (by decide)) (by decide)) (by decide)) k_X12_next rfl (c_X12_next l D Zk ca _ _ _ P23 P32 (fG (-2147483648) 2147483647) (fX fr) (fX tk) (fX vl) (fX sl) P40 (fX st) (fY tx) (fX iw) (fG 0 48) (fG 0 9) P58 lm pt gt (wu_at (wu_at (wu_at wu_eq (by decide)) (by decide)) (by decide)) (wu_at (wu_at (wu_at (wu_at f_tape (by decide)) (by decide)) (by decide)) (by decide)) (by omega)) m_1558 rfl (by decide) hl.1 [] (Nat.le_of_ble_eq_true rfl) rfl dX12_ending_25 (fun r w1 hq H locs h => ?_)
        obtain ⟨rfl, pt2_13, fr2_14, tk2_15, vl2_16, tx2_17, rfl, hr18⟩ := hq
        rw [wu_comm (show (50 : Nat) ≠ 73 by decide), wu_comm (show (50 : Nat) ≠ 72 by decide), wu_comm (show (50 : Nat) ≠ 71 by decide), wu_wu] at h
        have h : yH D Zk A s ((wu (wu (wu (wu w 73 (am 23, xAI (ca 0) 8000 (gX 8000 (fun j => E 4 (j : Int))))) 72 (am 22, xAI (ca 0) 1000 (gX 1000 gb))) 71 (am 21, xAI (ca 0) 1000 (gX 1000 (iu gf i st)))) 50 (am 0, mO am T P23 P32 (fG (-2147483648) 2147483647) (fX lm) (fX pt2_13) (fX fr2_14) (fX tk2_15) (fX vl2_16) (fX sl) P40 (fX st) (fY tx2_17) (fX iw) (fG 0 48) (fG 0 9) P58))) _ _ := h
        show W p l e r_c_X12_ending s m args below meth c _ _ 0 0 Qf (F0 m 28 ls [])
        refine lv_aload_n B.1 B.2.1 dX12_ending_28 rfl (lv_at hl 0 rfl) ?_
        refine lv_iload_n B.1 B.2.1 dX12_ending_29 rfl (lv_at hl 2 rfl) ?_
        refine y_cV B h kX12 50 wu_eq k_X12_condition rfl (c_X12_condition l D Zk ca _ _ _ P23 P32 P40 P58 lm pt2_13 fr2_14 tk2_15 vl2_16 sl st _ iw gt E b wu_eq (wu_at (wu_at (wu_at (wu_at f_tape (by decide)) (by decide)) (by decide)) (by decide)) (wu_at (wu_at (wu_at wu_eq (by decide)) (by decide)) (by decide)) (wu_at (wu_at (wu_at (wu_at f_stepNumber (by decide)) (by decide)) (by decide)) (by decide)) (wu_at (wu_at (wu_at (wu_at f_waits (by decide)) (by decide)) (by decide)) (by decide)) (by omega) (by omega) (by omega) (by omega) (by omega) (by omega) (by omega) (by omega)) m_1602 rfl (by decide) hl.1 [] (Nat.le_of_ble_eq_true rfl) rfl dX12_ending_30 (fun r w1 hq H locs h => ?_)
        obtain ⟨rfl, pt2_19, fr2_20, tk2_21, vl2_22, tx2_23, iw2_24, st2_25, E2_26, rfl, hr27⟩ := hq
        rw [wu_wu, wu_comm (show (73 : Nat) ≠ 72 by decide), wu_comm (show (73 : Nat) ≠ 71 by decide), wu_comm (show (73 : Nat) ≠ 50 by decide), wu_wu] at h
        have h : yH D Zk A s ((wu (wu (wu (wu w 72 (am 22, xAI (ca 0) 1000 (gX 1000 gb))) 71 (am 21, xAI (ca 0) 1000 (gX 1000 (iu gf i st)))) 50 (am 0, mO am T P23 P32 (fG (-2147483648) 2147483647) (fX lm) (fX pt2_19) (fX fr2_20) (fX tk2_21) (fX vl2_22) (fX sl) P40 (fX st2_25) (fY tx2_23) (fX iw2_24) (fG 0 48) (fG 0 9) P58)) 73 (am 23, xAI (ca 0) 8000 (gX 8000 (fun j => E2_26 4 (j : Int)))))) _ _ := h
        show W p l e r_c_X12_ending s m args below meth c _ _ 0 0 Qf (F0 m 33 ls [])
        refine lv_aload_n B.1 B.2.1 dX12_ending_33 rfl (lv_at hl 0 rfl) ?_
        refine y_getR B h kX12 50 (wu_at wu_eq (by decide)) 28 (b := am 22) rfl m_1289 (by decide) dX12_ending_34 ?_
        refine lv_iload_n B.1 B.2.1 dX12_ending_37 rfl (lv_at hl 1 rfl) ?_
        refine lv_aload_n B.1 B.2.1 dX12_ending_38 rfl (lv_at hl 0 rfl) ?_
        refine y_getX B h kX12 50 (wu_at wu_eq (by decide)) 41 (z := st2_25) rfl m_1302 (by decide) dX12_ending_39 ?_
        rw [wu_comm (show (72 : Nat) ≠ 71 by decide), wu_comm (show (72 : Nat) ≠ 50 by decide), wu_comm (show (72 : Nat) ≠ 73 by decide)] at h
        have h : yH D Zk A s ((wu (wu (wu (wu w 71 (am 21, xAI (ca 0) 1000 (gX 1000 (iu gf i st)))) 50 (am 0, mO am T P23 P32 (fG (-2147483648) 2147483647) (fX lm) (fX pt2_19) (fX fr2_20) (fX tk2_21) (fX vl2_22) (fX sl) P40 (fX st2_25) (fY tx2_23) (fX iw2_24) (fG 0 48) (fG 0 9) P58)) 73 (am 23, xAI (ca 0) 8000 (gX 8000 (fun j => E2_26 4 (j : Int))))) 72 (am 22, xAI (ca 0) 1000 (gX 1000 gb)))) _ _ := h
        refine y_iast B h 72 wu_eq (by omega) (P' := gX 1000 (iu gb i st2_25)) (gX_upd (by omega)) dX12_ending_42 (fun H locs h => ?_)
        rw [wu_wu] at h
        have h : yH D Zk A s ((wu (wu (wu (wu w 71 (am 21, xAI (ca 0) 1000 (gX 1000 (iu gf i st)))) 50 (am 0, mO am T P23 P32 (fG (-2147483648) 2147483647) (fX lm) (fX pt2_19) (fX fr2_20) (fX tk2_21) (fX vl2_22) (fX sl) P40 (fX st2_25) (fY tx2_23) (fX iw2_24) (fG 0 48) (fG 0 9) P58)) 73 (am 23, xAI (ca 0) 8000 (gX 8000 (fun j => E2_26 4 (j : Int))))) 72 (am 22, xAI (ca 0) 1000 (gX 1000 (iu gb i st2_25))))) _ _ := h
        refine lv_aload_n B.1 B.2.1 dX12_ending_43 rfl (lv_at hl 0 rfl) ?_
        refine y_getX B h kX12 50 (wu_at (wu_at wu_eq (by decide)) (by decide)) 43 (z := iw2_24) rfl m_1304 (by decide) dX12_ending_44 ?_
        refine x_if_eq B (by omega) (tgt := 51) dX12_ending_47 (by decide) (fun c28 => ?_) (fun c28 => ?_)
        · refine lv_aload_n B.1 B.2.1 dX12_ending_51 rfl (lv_at hl 0 rfl) ?_
          refine y_getX B h kX12 50 (wu_at (wu_at wu_eq (by decide)) (by decide)) 37 (z := tk2_21) rfl m_1298 (by decide) dX12_ending_52 ?_
          refine x_bipush B (by decide) dX12_ending_55 ?_
          refine x_icmp_ne B (by omega) (tgt := 67) dX12_ending_57 (by decide) (fun c29 => ?_) (fun c29 => ?_)
          · refine lv_aload_n B.1 B.2.1 dX12_ending_67 rfl (lv_at hl 0 rfl) ?_
            refine y_cV B h kX12 50 (wu_at (wu_at wu_eq (by decide)) (by decide)) k_X12_errs rfl (c_X12_errs l D Zk ca _ _ _ P23 P32 (fX lm) (fX pt2_19) (fX tk2_21) (fX vl2_22) (fX sl) P40 (fX st2_25) (fY tx2_23) (fG 0 48) (fG 0 9) P58 fr2_20 iw2_24 (wu_at (wu_at wu_eq (by decide)) (by decide)) (by omega) (by omega)) m_1569 rfl (by decide) hl.1 [] (Nat.le_of_ble_eq_true rfl) rfl dX12_ending_68 (fun r w1 hq H locs h => ?_)
            obtain ⟨rfl, rfl, hr30⟩ := hq
            rw [wu_comm (show (50 : Nat) ≠ 73 by decide), wu_comm (show (50 : Nat) ≠ 72 by decide), wu_wu] at h
            have h : yH D Zk A s ((wu (wu (wu (wu w 71 (am 21, xAI (ca 0) 1000 (gX 1000 (iu gf i st)))) 73 (am 23, xAI (ca 0) 8000 (gX 8000 (fun j => E2_26 4 (j : Int))))) 72 (am 22, xAI (ca 0) 1000 (gX 1000 (iu gb i st2_25)))) 50 (am 0, mO am T P23 P32 (fG (-2147483648) 2147483647) (fX lm) (fX pt2_19) (fX fr2_20) (fX tk2_21) (fX vl2_22) (fX sl) P40 (fX st2_25) (fY tx2_23) (fX 1) (fG 0 48) (fG 0 9) P58))) _ _ := h
            show W p l e r_c_X12_ending s m args below meth c _ _ 0 0 Qf (F0 m 71 ls [])
            rw [wu_comm (show (73 : Nat) ≠ 72 by decide), wu_comm (show (73 : Nat) ≠ 50 by decide)] at h
            have h : yH D Zk A s ((wu (wu (wu (wu w 71 (am 21, xAI (ca 0) 1000 (gX 1000 (iu gf i st)))) 72 (am 22, xAI (ca 0) 1000 (gX 1000 (iu gb i st2_25)))) 50 (am 0, mO am T P23 P32 (fG (-2147483648) 2147483647) (fX lm) (fX pt2_19) (fX fr2_20) (fX tk2_21) (fX vl2_22) (fX sl) P40 (fX st2_25) (fY tx2_23) (fX 1) (fG 0 48) (fG 0 9) P58)) 73 (am 23, xAI (ca 0) 8000 (gX 8000 (fun j => E2_26 4 (j : Int)))))) _ _ := h
            rw [wu_comm (show (71 : Nat) ≠ 72 by decide), wu_comm (show (71 : Nat) ≠ 50 by decide), wu_comm (show (71 : Nat) ≠ 73 by decide)] at h
            have h : yH D Zk A s ((wu (wu (wu (wu w 72 (am 22, xAI (ca 0) 1000 (gX 1000 (iu gb i st2_25)))) 50 (am 0, mO am T P23 P32 (fG (-2147483648) 2147483647) (fX lm) (fX pt2_19) (fX fr2_20) (fX tk2_21) (fX vl2_22) (fX sl) P40 (fX st2_25) (fY tx2_23) (fX 1) (fG 0 48) (fG 0 9) P58)) 73 (am 23, xAI (ca 0) 8000 (gX 8000 (fun j => E2_26 4 (j : Int))))) 71 (am 21, xAI (ca 0) 1000 (gX 1000 (iu gf i st))))) _ _ := h
            rw [wu_comm (show (72 : Nat) ≠ 50 by decide), wu_comm (show (72 : Nat) ≠ 73 by decide), wu_comm (show (72 : Nat) ≠ 71 by decide)] at h
            have h : yH D Zk A s ((wu (wu (wu (wu w 50 (am 0, mO am T P23 P32 (fG (-2147483648) 2147483647) (fX lm) (fX pt2_19) (fX fr2_20) (fX tk2_21) (fX vl2_22) (fX sl) P40 (fX st2_25) (fY tx2_23) (fX 1) (fG 0 48) (fG 0 9) P58)) 73 (am 23, xAI (ca 0) 8000 (gX 8000 (fun j => E2_26 4 (j : Int))))) 71 (am 21, xAI (ca 0) 1000 (gX 1000 (iu gf i st)))) 72 (am 22, xAI (ca 0) 1000 (gX 1000 (iu gb i st2_25))))) _ _ := h
            refine y_rv B hQ h (by decide) dX12_ending_71 ?_
            exact ⟨rfl, _, _, _, _, _, _, _, _, rfl, ⟨by omega, hr27.2.1, by omega, by omega, hr27.2.2.2.2⟩⟩
          · refine lv_aload_n B.1 B.2.1 dX12_ending_60 rfl (lv_at hl 0 rfl) ?_
            refine y_cV B h kX12 50 (wu_at (wu_at wu_eq (by decide)) (by decide)) k_X12_next rfl (c_X12_next l D Zk ca _ _ _ P23 P32 (fG (-2147483648) 2147483647) (fX fr2_20) (fX tk2_21) (fX vl2_22) (fX sl) P40 (fX st2_25) (fY tx2_23) (fX iw2_24) (fG 0 48) (fG 0 9) P58 lm pt2_19 gt (wu_at (wu_at wu_eq (by decide)) (by decide)) (wu_at (wu_at (wu_at (wu_at f_tape (by decide)) (by decide)) (by decide)) (by decide)) (by omega)) m_1558 rfl (by decide) hl.1 [] (Nat.le_of_ble_eq_true rfl) rfl dX12_ending_61 (fun r w1 hq H locs h => ?_)
            obtain ⟨rfl, pt2_31, fr2_32, tk2_33, vl2_34, tx2_35, rfl, hr36⟩ := hq
            rw [wu_comm (show (50 : Nat) ≠ 73 by decide), wu_comm (show (50 : Nat) ≠ 72 by decide), wu_wu] at h
            have h : yH D Zk A s ((wu (wu (wu (wu w 71 (am 21, xAI (ca 0) 1000 (gX 1000 (iu gf i st)))) 73 (am 23, xAI (ca 0) 8000 (gX 8000 (fun j => E2_26 4 (j : Int))))) 72 (am 22, xAI (ca 0) 1000 (gX 1000 (iu gb i st2_25)))) 50 (am 0, mO am T P23 P32 (fG (-2147483648) 2147483647) (fX lm) (fX pt2_31) (fX fr2_32) (fX tk2_33) (fX vl2_34) (fX sl) P40 (fX st2_25) (fY tx2_35) (fX iw2_24) (fG 0 48) (fG 0 9) P58))) _ _ := h
            show W p l e r_c_X12_ending s m args below meth c _ _ 0 0 Qf (F0 m 64 ls [])
            refine lv_goto (tgt := 71) B.1 B.2.1 dX12_ending_64 (by decide) ?_
            rw [wu_comm (show (73 : Nat) ≠ 72 by decide), wu_comm (show (73 : Nat) ≠ 50 by decide)] at h
            have h : yH D Zk A s ((wu (wu (wu (wu w 71 (am 21, xAI (ca 0) 1000 (gX 1000 (iu gf i st)))) 72 (am 22, xAI (ca 0) 1000 (gX 1000 (iu gb i st2_25)))) 50 (am 0, mO am T P23 P32 (fG (-2147483648) 2147483647) (fX lm) (fX pt2_31) (fX fr2_32) (fX tk2_33) (fX vl2_34) (fX sl) P40 (fX st2_25) (fY tx2_35) (fX iw2_24) (fG 0 48) (fG 0 9) P58)) 73 (am 23, xAI (ca 0) 8000 (gX 8000 (fun j => E2_26 4 (j : Int)))))) _ _ := h
            rw [wu_comm (show (71 : Nat) ≠ 72 by decide), wu_comm (show (71 : Nat) ≠ 50 by decide), wu_comm (show (71 : Nat) ≠ 73 by decide)] at h
            have h : yH D Zk A s ((wu (wu (wu (wu w 72 (am 22, xAI (ca 0) 1000 (gX 1000 (iu gb i st2_25)))) 50 (am 0, mO am T P23 P32 (fG (-2147483648) 2147483647) (fX lm) (fX pt2_31) (fX fr2_32) (fX tk2_33) (fX vl2_34) (fX sl) P40 (fX st2_25) (fY tx2_35) (fX iw2_24) (fG 0 48) (fG 0 9) P58)) 73 (am 23, xAI (ca 0) 8000 (gX 8000 (fun j => E2_26 4 (j : Int))))) 71 (am 21, xAI (ca 0) 1000 (gX 1000 (iu gf i st))))) _ _ := h
            rw [wu_comm (show (72 : Nat) ≠ 50 by decide), wu_comm (show (72 : Nat) ≠ 73 by decide), wu_comm (show (72 : Nat) ≠ 71 by decide)] at h
            have h : yH D Zk A s ((wu (wu (wu (wu w 50 (am 0, mO am T P23 P32 (fG (-2147483648) 2147483647) (fX lm) (fX pt2_31) (fX fr2_32) (fX tk2_33) (fX vl2_34) (fX sl) P40 (fX st2_25) (fY tx2_35) (fX iw2_24) (fG 0 48) (fG 0 9) P58)) 73 (am 23, xAI (ca 0) 8000 (gX 8000 (fun j => E2_26 4 (j : Int))))) 71 (am 21, xAI (ca 0) 1000 (gX 1000 (iu gf i st)))) 72 (am 22, xAI (ca 0) 1000 (gX 1000 (iu gb i st2_25))))) _ _ := h
            refine y_rv B hQ h (by decide) dX12_ending_71 ?_
            exact ⟨rfl, _, _, _, _, _, _, _, _, rfl, ⟨by omega, hr27.2.1, by omega, by omega, hr27.2.2.2.2⟩⟩
        · rw [wu_comm (show (50 : Nat) ≠ 73 by decide), wu_comm (show (50 : Nat) ≠ 72 by decide)] at h
          have h : yH D Zk A s ((wu (wu (wu (wu w 71 (am 21, xAI (ca 0) 1000 (gX 1000 (iu gf i st)))) 73 (am 23, xAI (ca 0) 8000 (gX 8000 (fun j => E2_26 4 (j : Int))))) 72 (am 22, xAI (ca 0) 1000 (gX 1000 (iu gb i st2_25)))) 50 (am 0, mO am T P23 P32 (fG (-2147483648) 2147483647) (fX lm) (fX pt2_19) (fX fr2_20) (fX tk2_21) (fX vl2_22) (fX sl) P40 (fX st2_25) (fY tx2_23) (fX iw2_24) (fG 0 48) (fG 0 9) P58))) _ _ := h
          rw [wu_comm (show (73 : Nat) ≠ 72 by decide), wu_comm (show (73 : Nat) ≠ 50 by decide)] at h
          have h : yH D Zk A s ((wu (wu (wu (wu w 71 (am 21, xAI (ca 0) 1000 (gX 1000 (iu gf i st)))) 72 (am 22, xAI (ca 0) 1000 (gX 1000 (iu gb i st2_25)))) 50 (am 0, mO am T P23 P32 (fG (-2147483648) 2147483647) (fX lm) (fX pt2_19) (fX fr2_20) (fX tk2_21) (fX vl2_22) (fX sl) P40 (fX st2_25) (fY tx2_23) (fX iw2_24) (fG 0 48) (fG 0 9) P58)) 73 (am 23, xAI (ca 0) 8000 (gX 8000 (fun j => E2_26 4 (j : Int)))))) _ _ := h
          rw [wu_comm (show (71 : Nat) ≠ 72 by decide), wu_comm (show (71 : Nat) ≠ 50 by decide), wu_comm (show (71 : Nat) ≠ 73 by decide)] at h
          have h : yH D Zk A s ((wu (wu (wu (wu w 72 (am 22, xAI (ca 0) 1000 (gX 1000 (iu gb i st2_25)))) 50 (am 0, mO am T P23 P32 (fG (-2147483648) 2147483647) (fX lm) (fX pt2_19) (fX fr2_20) (fX tk2_21) (fX vl2_22) (fX sl) P40 (fX st2_25) (fY tx2_23) (fX iw2_24) (fG 0 48) (fG 0 9) P58)) 73 (am 23, xAI (ca 0) 8000 (gX 8000 (fun j => E2_26 4 (j : Int))))) 71 (am 21, xAI (ca 0) 1000 (gX 1000 (iu gf i st))))) _ _ := h
          rw [wu_comm (show (72 : Nat) ≠ 50 by decide), wu_comm (show (72 : Nat) ≠ 73 by decide), wu_comm (show (72 : Nat) ≠ 71 by decide)] at h
          have h : yH D Zk A s ((wu (wu (wu (wu w 50 (am 0, mO am T P23 P32 (fG (-2147483648) 2147483647) (fX lm) (fX pt2_19) (fX fr2_20) (fX tk2_21) (fX vl2_22) (fX sl) P40 (fX st2_25) (fY tx2_23) (fX iw2_24) (fG 0 48) (fG 0 9) P58)) 73 (am 23, xAI (ca 0) 8000 (gX 8000 (fun j => E2_26 4 (j : Int))))) 71 (am 21, xAI (ca 0) 1000 (gX 1000 (iu gf i st)))) 72 (am 22, xAI (ca 0) 1000 (gX 1000 (iu gb i st2_25))))) _ _ := h
          refine y_rv B hQ h (by decide) dX12_ending_50 ?_
          exact ⟨rfl, _, _, _, _, _, _, _, _, rfl, ⟨by omega, hr27.2.1, by omega, by omega, hr27.2.2.2.2⟩⟩
    · show W p l e r_c_X12_ending s m args below meth c _ _ 0 0 Qf (F0 m 21 ls [.int (iI 0)])
      refine x_if_eq B (by omega) (tgt := 33) dX12_ending_21 (by decide) (fun c37 => ?_) (fun c37 => ?_)
      · refine lv_aload_n B.1 B.2.1 dX12_ending_33 rfl (lv_at hl 0 rfl) ?_
        refine y_getR B h kX12 50 (wu_at (wu_at (wu_at wu_eq (by decide)) (by decide)) (by decide)) 28 (b := am 22) rfl m_1289 (by decide) dX12_ending_34 ?_
        refine lv_iload_n B.1 B.2.1 dX12_ending_37 rfl (lv_at hl 1 rfl) ?_
        refine lv_aload_n B.1 B.2.1 dX12_ending_38 rfl (lv_at hl 0 rfl) ?_
        refine y_getX B h kX12 50 (wu_at (wu_at (wu_at wu_eq (by decide)) (by decide)) (by decide)) 41 (z := st) rfl m_1302 (by decide) dX12_ending_39 ?_
        rw [wu_comm (show (72 : Nat) ≠ 71 by decide)] at h
        have h : yH D Zk A s ((wu (wu (wu (wu w 50 (am 0, mO am T P23 P32 (fG (-2147483648) 2147483647) (fX lm) (fX pt) (fX fr) (fX tk) (fX vl) (fX sl) P40 (fX st) (fY tx) (fX iw) (fG 0 48) (fG 0 9) P58)) 73 (am 23, xAI (ca 0) 8000 (gX 8000 (fun j => E 4 (j : Int))))) 71 (am 21, xAI (ca 0) 1000 (gX 1000 (iu gf i st)))) 72 (am 22, xAI (ca 0) 1000 (gX 1000 gb)))) _ _ := h
        refine y_iast B h 72 wu_eq (by omega) (P' := gX 1000 (iu gb i st)) (gX_upd (by omega)) dX12_ending_42 (fun H locs h => ?_)
        rw [wu_wu] at h
        have h : yH D Zk A s ((wu (wu (wu (wu w 50 (am 0, mO am T P23 P32 (fG (-2147483648) 2147483647) (fX lm) (fX pt) (fX fr) (fX tk) (fX vl) (fX sl) P40 (fX st) (fY tx) (fX iw) (fG 0 48) (fG 0 9) P58)) 73 (am 23, xAI (ca 0) 8000 (gX 8000 (fun j => E 4 (j : Int))))) 71 (am 21, xAI (ca 0) 1000 (gX 1000 (iu gf i st)))) 72 (am 22, xAI (ca 0) 1000 (gX 1000 (iu gb i st))))) _ _ := h
        refine lv_aload_n B.1 B.2.1 dX12_ending_43 rfl (lv_at hl 0 rfl) ?_
        refine y_getX B h kX12 50 (wu_at (wu_at (wu_at wu_eq (by decide)) (by decide)) (by decide)) 43 (z := iw) rfl m_1304 (by decide) dX12_ending_44 ?_
        refine x_if_eq B (by omega) (tgt := 51) dX12_ending_47 (by decide) (fun c38 => ?_) (fun c38 => ?_)
        · refine lv_aload_n B.1 B.2.1 dX12_ending_51 rfl (lv_at hl 0 rfl) ?_
          refine y_getX B h kX12 50 (wu_at (wu_at (wu_at wu_eq (by decide)) (by decide)) (by decide)) 37 (z := tk) rfl m_1298 (by decide) dX12_ending_52 ?_
          refine x_bipush B (by decide) dX12_ending_55 ?_
          refine x_icmp_ne B (by omega) (tgt := 67) dX12_ending_57 (by decide) (fun c39 => ?_) (fun c39 => ?_)
          · refine lv_aload_n B.1 B.2.1 dX12_ending_67 rfl (lv_at hl 0 rfl) ?_
            refine y_cV B h kX12 50 (wu_at (wu_at (wu_at wu_eq (by decide)) (by decide)) (by decide)) k_X12_errs rfl (c_X12_errs l D Zk ca _ _ _ P23 P32 (fX lm) (fX pt) (fX tk) (fX vl) (fX sl) P40 (fX st) (fY tx) (fG 0 48) (fG 0 9) P58 fr iw (wu_at (wu_at (wu_at wu_eq (by decide)) (by decide)) (by decide)) (by omega) (by omega)) m_1569 rfl (by decide) hl.1 [] (Nat.le_of_ble_eq_true rfl) rfl dX12_ending_68 (fun r w1 hq H locs h => ?_)
            obtain ⟨rfl, rfl, hr40⟩ := hq
            rw [wu_comm (show (50 : Nat) ≠ 73 by decide), wu_comm (show (50 : Nat) ≠ 71 by decide), wu_comm (show (50 : Nat) ≠ 72 by decide), wu_wu] at h
            have h : yH D Zk A s ((wu (wu (wu (wu w 73 (am 23, xAI (ca 0) 8000 (gX 8000 (fun j => E 4 (j : Int))))) 71 (am 21, xAI (ca 0) 1000 (gX 1000 (iu gf i st)))) 72 (am 22, xAI (ca 0) 1000 (gX 1000 (iu gb i st)))) 50 (am 0, mO am T P23 P32 (fG (-2147483648) 2147483647) (fX lm) (fX pt) (fX fr) (fX tk) (fX vl) (fX sl) P40 (fX st) (fY tx) (fX 1) (fG 0 48) (fG 0 9) P58))) _ _ := h
            show W p l e r_c_X12_ending s m args below meth c _ _ 0 0 Qf (F0 m 71 ls [])
            rw [wu_comm (show (73 : Nat) ≠ 71 by decide), wu_comm (show (73 : Nat) ≠ 72 by decide), wu_comm (show (73 : Nat) ≠ 50 by decide)] at h
            have h : yH D Zk A s ((wu (wu (wu (wu w 71 (am 21, xAI (ca 0) 1000 (gX 1000 (iu gf i st)))) 72 (am 22, xAI (ca 0) 1000 (gX 1000 (iu gb i st)))) 50 (am 0, mO am T P23 P32 (fG (-2147483648) 2147483647) (fX lm) (fX pt) (fX fr) (fX tk) (fX vl) (fX sl) P40 (fX st) (fY tx) (fX 1) (fG 0 48) (fG 0 9) P58)) 73 (am 23, xAI (ca 0) 8000 (gX 8000 (fun j => E 4 (j : Int)))))) _ _ := h
            rw [wu_comm (show (71 : Nat) ≠ 72 by decide), wu_comm (show (71 : Nat) ≠ 50 by decide), wu_comm (show (71 : Nat) ≠ 73 by decide)] at h
            have h : yH D Zk A s ((wu (wu (wu (wu w 72 (am 22, xAI (ca 0) 1000 (gX 1000 (iu gb i st)))) 50 (am 0, mO am T P23 P32 (fG (-2147483648) 2147483647) (fX lm) (fX pt) (fX fr) (fX tk) (fX vl) (fX sl) P40 (fX st) (fY tx) (fX 1) (fG 0 48) (fG 0 9) P58)) 73 (am 23, xAI (ca 0) 8000 (gX 8000 (fun j => E 4 (j : Int))))) 71 (am 21, xAI (ca 0) 1000 (gX 1000 (iu gf i st))))) _ _ := h
            rw [wu_comm (show (72 : Nat) ≠ 50 by decide), wu_comm (show (72 : Nat) ≠ 73 by decide), wu_comm (show (72 : Nat) ≠ 71 by decide)] at h
            have h : yH D Zk A s ((wu (wu (wu (wu w 50 (am 0, mO am T P23 P32 (fG (-2147483648) 2147483647) (fX lm) (fX pt) (fX fr) (fX tk) (fX vl) (fX sl) P40 (fX st) (fY tx) (fX 1) (fG 0 48) (fG 0 9) P58)) 73 (am 23, xAI (ca 0) 8000 (gX 8000 (fun j => E 4 (j : Int))))) 71 (am 21, xAI (ca 0) 1000 (gX 1000 (iu gf i st)))) 72 (am 22, xAI (ca 0) 1000 (gX 1000 (iu gb i st))))) _ _ := h
            refine y_rv B hQ h (by decide) dX12_ending_71 ?_
            exact ⟨rfl, _, _, _, _, _, _, _, _, rfl, ⟨by omega, OKS_0 (by omega), by omega, by omega, FR_0⟩⟩
          · refine lv_aload_n B.1 B.2.1 dX12_ending_60 rfl (lv_at hl 0 rfl) ?_
            refine y_cV B h kX12 50 (wu_at (wu_at (wu_at wu_eq (by decide)) (by decide)) (by decide)) k_X12_next rfl (c_X12_next l D Zk ca _ _ _ P23 P32 (fG (-2147483648) 2147483647) (fX fr) (fX tk) (fX vl) (fX sl) P40 (fX st) (fY tx) (fX iw) (fG 0 48) (fG 0 9) P58 lm pt gt (wu_at (wu_at (wu_at wu_eq (by decide)) (by decide)) (by decide)) (wu_at (wu_at (wu_at (wu_at f_tape (by decide)) (by decide)) (by decide)) (by decide)) (by omega)) m_1558 rfl (by decide) hl.1 [] (Nat.le_of_ble_eq_true rfl) rfl dX12_ending_61 (fun r w1 hq H locs h => ?_)
            obtain ⟨rfl, pt2_41, fr2_42, tk2_43, vl2_44, tx2_45, rfl, hr46⟩ := hq
            rw [wu_comm (show (50 : Nat) ≠ 73 by decide), wu_comm (show (50 : Nat) ≠ 71 by decide), wu_comm (show (50 : Nat) ≠ 72 by decide), wu_wu] at h
            have h : yH D Zk A s ((wu (wu (wu (wu w 73 (am 23, xAI (ca 0) 8000 (gX 8000 (fun j => E 4 (j : Int))))) 71 (am 21, xAI (ca 0) 1000 (gX 1000 (iu gf i st)))) 72 (am 22, xAI (ca 0) 1000 (gX 1000 (iu gb i st)))) 50 (am 0, mO am T P23 P32 (fG (-2147483648) 2147483647) (fX lm) (fX pt2_41) (fX fr2_42) (fX tk2_43) (fX vl2_44) (fX sl) P40 (fX st) (fY tx2_45) (fX iw) (fG 0 48) (fG 0 9) P58))) _ _ := h
            show W p l e r_c_X12_ending s m args below meth c _ _ 0 0 Qf (F0 m 64 ls [])
            refine lv_goto (tgt := 71) B.1 B.2.1 dX12_ending_64 (by decide) ?_
            rw [wu_comm (show (73 : Nat) ≠ 71 by decide), wu_comm (show (73 : Nat) ≠ 72 by decide), wu_comm (show (73 : Nat) ≠ 50 by decide)] at h
            have h : yH D Zk A s ((wu (wu (wu (wu w 71 (am 21, xAI (ca 0) 1000 (gX 1000 (iu gf i st)))) 72 (am 22, xAI (ca 0) 1000 (gX 1000 (iu gb i st)))) 50 (am 0, mO am T P23 P32 (fG (-2147483648) 2147483647) (fX lm) (fX pt2_41) (fX fr2_42) (fX tk2_43) (fX vl2_44) (fX sl) P40 (fX st) (fY tx2_45) (fX iw) (fG 0 48) (fG 0 9) P58)) 73 (am 23, xAI (ca 0) 8000 (gX 8000 (fun j => E 4 (j : Int)))))) _ _ := h
            rw [wu_comm (show (71 : Nat) ≠ 72 by decide), wu_comm (show (71 : Nat) ≠ 50 by decide), wu_comm (show (71 : Nat) ≠ 73 by decide)] at h
            have h : yH D Zk A s ((wu (wu (wu (wu w 72 (am 22, xAI (ca 0) 1000 (gX 1000 (iu gb i st)))) 50 (am 0, mO am T P23 P32 (fG (-2147483648) 2147483647) (fX lm) (fX pt2_41) (fX fr2_42) (fX tk2_43) (fX vl2_44) (fX sl) P40 (fX st) (fY tx2_45) (fX iw) (fG 0 48) (fG 0 9) P58)) 73 (am 23, xAI (ca 0) 8000 (gX 8000 (fun j => E 4 (j : Int))))) 71 (am 21, xAI (ca 0) 1000 (gX 1000 (iu gf i st))))) _ _ := h
            rw [wu_comm (show (72 : Nat) ≠ 50 by decide), wu_comm (show (72 : Nat) ≠ 73 by decide), wu_comm (show (72 : Nat) ≠ 71 by decide)] at h
            have h : yH D Zk A s ((wu (wu (wu (wu w 50 (am 0, mO am T P23 P32 (fG (-2147483648) 2147483647) (fX lm) (fX pt2_41) (fX fr2_42) (fX tk2_43) (fX vl2_44) (fX sl) P40 (fX st) (fY tx2_45) (fX iw) (fG 0 48) (fG 0 9) P58)) 73 (am 23, xAI (ca 0) 8000 (gX 8000 (fun j => E 4 (j : Int))))) 71 (am 21, xAI (ca 0) 1000 (gX 1000 (iu gf i st)))) 72 (am 22, xAI (ca 0) 1000 (gX 1000 (iu gb i st))))) _ _ := h
            refine y_rv B hQ h (by decide) dX12_ending_71 ?_
            exact ⟨rfl, _, _, _, _, _, _, _, _, rfl, ⟨by omega, OKS_0 (by omega), by omega, by omega, FR_0⟩⟩
        · rw [wu_comm (show (50 : Nat) ≠ 73 by decide), wu_comm (show (50 : Nat) ≠ 71 by decide), wu_comm (show (50 : Nat) ≠ 72 by decide)] at h
          have h : yH D Zk A s ((wu (wu (wu (wu w 73 (am 23, xAI (ca 0) 8000 (gX 8000 (fun j => E 4 (j : Int))))) 71 (am 21, xAI (ca 0) 1000 (gX 1000 (iu gf i st)))) 72 (am 22, xAI (ca 0) 1000 (gX 1000 (iu gb i st)))) 50 (am 0, mO am T P23 P32 (fG (-2147483648) 2147483647) (fX lm) (fX pt) (fX fr) (fX tk) (fX vl) (fX sl) P40 (fX st) (fY tx) (fX iw) (fG 0 48) (fG 0 9) P58))) _ _ := h
          rw [wu_comm (show (73 : Nat) ≠ 71 by decide), wu_comm (show (73 : Nat) ≠ 72 by decide), wu_comm (show (73 : Nat) ≠ 50 by decide)] at h
          have h : yH D Zk A s ((wu (wu (wu (wu w 71 (am 21, xAI (ca 0) 1000 (gX 1000 (iu gf i st)))) 72 (am 22, xAI (ca 0) 1000 (gX 1000 (iu gb i st)))) 50 (am 0, mO am T P23 P32 (fG (-2147483648) 2147483647) (fX lm) (fX pt) (fX fr) (fX tk) (fX vl) (fX sl) P40 (fX st) (fY tx) (fX iw) (fG 0 48) (fG 0 9) P58)) 73 (am 23, xAI (ca 0) 8000 (gX 8000 (fun j => E 4 (j : Int)))))) _ _ := h
          rw [wu_comm (show (71 : Nat) ≠ 72 by decide), wu_comm (show (71 : Nat) ≠ 50 by decide), wu_comm (show (71 : Nat) ≠ 73 by decide)] at h
          have h : yH D Zk A s ((wu (wu (wu (wu w 72 (am 22, xAI (ca 0) 1000 (gX 1000 (iu gb i st)))) 50 (am 0, mO am T P23 P32 (fG (-2147483648) 2147483647) (fX lm) (fX pt) (fX fr) (fX tk) (fX vl) (fX sl) P40 (fX st) (fY tx) (fX iw) (fG 0 48) (fG 0 9) P58)) 73 (am 23, xAI (ca 0) 8000 (gX 8000 (fun j => E 4 (j : Int))))) 71 (am 21, xAI (ca 0) 1000 (gX 1000 (iu gf i st))))) _ _ := h
          rw [wu_comm (show (72 : Nat) ≠ 50 by decide), wu_comm (show (72 : Nat) ≠ 73 by decide), wu_comm (show (72 : Nat) ≠ 71 by decide)] at h
          have h : yH D Zk A s ((wu (wu (wu (wu w 50 (am 0, mO am T P23 P32 (fG (-2147483648) 2147483647) (fX lm) (fX pt) (fX fr) (fX tk) (fX vl) (fX sl) P40 (fX st) (fY tx) (fX iw) (fG 0 48) (fG 0 9) P58)) 73 (am 23, xAI (ca 0) 8000 (gX 8000 (fun j => E 4 (j : Int))))) 71 (am 21, xAI (ca 0) 1000 (gX 1000 (iu gf i st)))) 72 (am 22, xAI (ca 0) 1000 (gX 1000 (iu gb i st))))) _ _ := h
          refine y_rv B hQ h (by decide) dX12_ending_50 ?_
          exact ⟨rfl, _, _, _, _, _, _, _, _, rfl, ⟨by omega, OKS_0 (by omega), by omega, by omega, FR_0⟩⟩
      · exact absurd c37 (by omega)
abbrev r_c_X12_sortHere : Room := { frames := 1, cells := 0, slots := 0, locals := 22 }
set_option maxHeartbeats 4000000 in
set_option maxRecDepth 100000 in
theorem c_X12_sortHere (l : Launch) (D : va_G) (Zk : yK) (ca : Nat → ClassId) (w : yW) (T : Nat → Int → Int) (am : Nat → Nat) (P23 : fP) (P32 : fP) (P33 : fP) (P34 : fP) (P38 : fP) (P39 : fP) (P40 : fP) (P41 : fP) (P45 : fP) (P46 : fP) (P58 : fP) (pt : Int) (fr : Int) (tk : Int) (tx : Int) (iw : Int) (fo : w 50 = some (am 0, mO am T P23 P32 P33 P34 (fX pt) (fX fr) (fX tk) P38 P39 P40 P41 (fY tx) (fX iw) P45 P46 P58)) (hiw : iw = 0 ∨ iw = 1) (htok : TOK tk tx fr pt) : yC l D Zk ca yX12_sortHere cX12_sortHere 1 (some .int) r_c_X12_sortHere [.ref (am 0)] w (vI w (fun z => -1 ≤ z ∧ z ≤ 2)) := by
  refine yC.of2 "WindWordsModel" (by decide) rfl (Nat.le_of_ble_eq_true rfl) ?_
  intro p e s m args below meth c A ls Qf B hnm h hl hQ
  have hl : lv_has ls 1 [(0, .ref (am 0))] := hl
  refine lv_aload_n B.1 B.2.1 dX12_sortHere_0 rfl (lv_at hl 0 rfl) ?_
  refine x_ldc2 B m_1581 dX12_sortHere_1 ?_
  refine y_cV B h kX12 50 fo k_X12_is rfl (c_X12_is l D Zk ca _ _ _ P23 P32 P33 P34 (fX pt) (fX fr) P38 P39 P40 P41 P45 P46 P58 tk _ iw ((43869808 : Int64)) fo (by omega) (by omega)) m_1582 rfl (by decide) hl.1 [] (Nat.le_of_ble_eq_true rfl) rfl dX12_sortHere_4 (fun r w1 hq H locs h => ?_)
  obtain ⟨rfl, _, rfl, ⟨rfl, b1⟩ | ⟨rfl, b1⟩⟩ := hq
  · have b1x := tx_eq b1.2.2 (by omega)
    rw [show (43869808 : Int64).toInt = 43869808 from rfl] at b1x
    show W p l e r_c_X12_sortHere s m args below meth c _ _ 0 0 Qf (F0 m 7 ls [.int (iI 1)])
    refine x_if_eq B (by omega) (tgt := 14) dX12_sortHere_7 (by decide) (fun c2 => ?_) (fun c2 => ?_)
    · exact absurd c2 (by omega)
    · refine x_iconst B dX12_sortHere_10 ?_
      refine lv_goto (tgt := 43) B.1 B.2.1 dX12_sortHere_11 (by decide) ?_
      refine y_ri B hQ h (by decide) dX12_sortHere_43 ?_
      exact ⟨rfl, _, rfl, (by first | omega | trivial | assumption)⟩
  · show W p l e r_c_X12_sortHere s m args below meth c _ _ 0 0 Qf (F0 m 7 ls [.int (iI 0)])
    refine x_if_eq B (by omega) (tgt := 14) dX12_sortHere_7 (by decide) (fun c3 => ?_) (fun c3 => ?_)
    · refine lv_aload_n B.1 B.2.1 dX12_sortHere_14 rfl (lv_at hl 0 rfl) ?_
      refine x_ldc2 B m_1586 dX12_sortHere_15 ?_
      refine y_cV B h kX12 50 fo k_X12_is rfl (c_X12_is l D Zk ca _ _ _ P23 P32 P33 P34 (fX pt) (fX fr) P38 P39 P40 P41 P45 P46 P58 tk _ iw ((13987 : Int64)) fo (by omega) (by omega)) m_1582 rfl (by decide) hl.1 [] (Nat.le_of_ble_eq_true rfl) rfl dX12_sortHere_18 (fun r w1 hq H locs h => ?_)
      obtain ⟨rfl, _, rfl, ⟨rfl, b4⟩ | ⟨rfl, b4⟩⟩ := hq
      · have b4x := tx_eq b4.2.2 (by omega)
        rw [show (13987 : Int64).toInt = 13987 from rfl] at b4x
        show W p l e r_c_X12_sortHere s m args below meth c _ _ 0 0 Qf (F0 m 21 ls [.int (iI 1)])
        refine x_if_eq B (by omega) (tgt := 28) dX12_sortHere_21 (by decide) (fun c5 => ?_) (fun c5 => ?_)
        · exact absurd c5 (by omega)
        · refine x_iconst B dX12_sortHere_24 ?_
          refine lv_goto (tgt := 43) B.1 B.2.1 dX12_sortHere_25 (by decide) ?_
          refine y_ri B hQ h (by decide) dX12_sortHere_43 ?_
          exact ⟨rfl, _, rfl, (by first | omega | trivial | assumption)⟩
      · show W p l e r_c_X12_sortHere s m args below meth c _ _ 0 0 Qf (F0 m 21 ls [.int (iI 0)])
        refine x_if_eq B (by omega) (tgt := 28) dX12_sortHere_21 (by decide) (fun c6 => ?_) (fun c6 => ?_)
        · refine lv_aload_n B.1 B.2.1 dX12_sortHere_28 rfl (lv_at hl 0 rfl) ?_
          refine x_ldc2 B m_1587 dX12_sortHere_29 ?_
          refine y_cV B h kX12 50 fo k_X12_is rfl (c_X12_is l D Zk ca _ _ _ P23 P32 P33 P34 (fX pt) (fX fr) P38 P39 P40 P41 P45 P46 P58 tk _ iw ((239874 : Int64)) fo (by omega) (by omega)) m_1582 rfl (by decide) hl.1 [] (Nat.le_of_ble_eq_true rfl) rfl dX12_sortHere_32 (fun r w1 hq H locs h => ?_)
          obtain ⟨rfl, _, rfl, ⟨rfl, b7⟩ | ⟨rfl, b7⟩⟩ := hq
          · have b7x := tx_eq b7.2.2 (by omega)
            rw [show (239874 : Int64).toInt = 239874 from rfl] at b7x
            show W p l e r_c_X12_sortHere s m args below meth c _ _ 0 0 Qf (F0 m 35 ls [.int (iI 1)])
            refine x_if_eq B (by omega) (tgt := 42) dX12_sortHere_35 (by decide) (fun c8 => ?_) (fun c8 => ?_)
            · exact absurd c8 (by omega)
            · refine x_iconst B dX12_sortHere_38 ?_
              refine lv_goto (tgt := 43) B.1 B.2.1 dX12_sortHere_39 (by decide) ?_
              refine y_ri B hQ h (by decide) dX12_sortHere_43 ?_
              exact ⟨rfl, _, rfl, (by first | omega | trivial | assumption)⟩
          · show W p l e r_c_X12_sortHere s m args below meth c _ _ 0 0 Qf (F0 m 35 ls [.int (iI 0)])
            refine x_if_eq B (by omega) (tgt := 42) dX12_sortHere_35 (by decide) (fun c9 => ?_) (fun c9 => ?_)
            · refine x_iconst B dX12_sortHere_42 ?_
              refine y_ri B hQ h (by decide) dX12_sortHere_43 ?_
              exact ⟨rfl, _, rfl, (by first | omega | trivial | assumption)⟩
            · exact absurd c9 (by omega)
        · exact absurd c6 (by omega)
    · exact absurd c3 (by omega)
abbrev r_c_X12_readScale : Room := { frames := 6, cells := 0, slots := 0, locals := 134 }
set_option maxHeartbeats 4000000 in
set_option maxRecDepth 100000 in
theorem c_X12_readScale (l : Launch) (D : va_G) (Zk : yK) (ca : Nat → ClassId) (w : yW) (T : Nat → Int → Int) (am : Nat → Nat) (P23 : fP) (P32 : fP) (P40 : fP) (P58 : fP) (lm : Int) (pt : Int) (fr : Int) (tk : Int) (vl : Int) (sl : Int) (st : Int) (tx : Int) (iw : Int) (gt : Nat → Int) (gf : Nat → Int) (gb : Nat → Int) (E : Nat → Int → Int) (gf : Nat → Int) (gb : Nat → Int) (i : Int) (fo : w 50 = some (am 0, mO am T P23 P32 (fG (-2147483648) 2147483647) (fX lm) (fX pt) (fX fr) (fX tk) (fX vl) (fX sl) P40 (fX st) (fY tx) (fX iw) (fG 0 48) (fG 0 9) P58)) (f_tape : w 75 = some (am 25, xAI (ca 3) 900 (gX 900 gt))) (f_step : w 73 = some (am 23, xAI (ca 0) 8000 (gX 8000 (fun j => E 4 (j : Int))))) (f_stepNumber : w 74 = some (am 24, xAI (ca 0) 8000 gA)) (f_waits : w 76 = some (am 26, xAI (ca 0) 48 gA)) (f_first : w 71 = some (am 21, xAI (ca 0) 1000 (gX 1000 gf))) (f_behind : w 72 = some (am 22, xAI (ca 0) 1000 (gX 1000 gb))) (f_sort : w 68 = some (am 18, xAI (ca 0) 1000 gA)) (f_bound : w 70 = some (am 20, xAI (ca 0) 1000 gA)) (f_much : w 69 = some (am 19, xAI (ca 0) 1000 (gG 1000 (-12) 12))) (hp : 0 ≤ pt ∧ pt ≤ lm ∧ lm ≤ 900) (hq : 0 ≤ fr ∧ fr ≤ pt ∧ 0 ≤ vl ∧ vl ≤ 10000000) (htok : TOK tk tx fr pt) (hiw : iw = 0 ∨ iw = 1) (hs1 : 0 ≤ sl ∧ sl ≤ 24) (hst : 0 ≤ st ∧ 3 * st ≤ fr) (hi : 0 ≤ i ∧ i ≤ 999) : yC l D Zk ca yX12_readScale cX12_readScale 2 none r_c_X12_readScale [.ref (am 0), .int (iI i)] w (fun r w1 => r = none ∧ ∃ pt2 : Int, ∃ fr2 : Int, ∃ tk2 : Int, ∃ vl2 : Int, ∃ tx2 : Int, ∃ iw2 : Int, ∃ st2 : Int, ∃ E2 : Nat → Int → Int, ∃ gf2 : Nat → Int, ∃ gb2 : Nat → Int, w1 = (wu (wu (wu (wu w 50 (am 0, mO am T P23 P32 (fG (-2147483648) 2147483647) (fX lm) (fX pt2) (fX fr2) (fX tk2) (fX vl2) (fX sl) P40 (fX st2) (fY tx2) (fX iw2) (fG 0 48) (fG 0 9) P58)) 73 (am 23, xAI (ca 0) 8000 (gX 8000 (fun j => E2 4 (j : Int))))) 71 (am 21, xAI (ca 0) 1000 (gX 1000 gf2))) 72 (am 22, xAI (ca 0) 1000 (gX 1000 gb2))) ∧ ((fr ≤ fr2 ∧ fr2 ≤ pt2 ∧ pt2 ≤ lm ∧ (0 ≤ vl2 ∧ vl2 ≤ 10000000) ∧ TOK tk2 tx2 fr2 pt2 ∧ (iw2 = 0 ∨ iw2 = 1) ∧ iw ≤ iw2) ∧ OKS E2 (320 * sl + st) (st2 - st) ∧ st ≤ st2 ∧ 3 * st2 ≤ fr2 ∧ FR E E2 sl st ∧ GBK gf gb gf2 gb2 i st st2 iw2 ∧ (iw2 = 0 → fr + 1 ≤ fr2))) := by
  refine yC.of2 "WindWordsModel" (by decide) rfl (Nat.le_of_ble_eq_true rfl) ?_
  intro p e s m args below meth c A ls Qf B hnm h hl hQ
  have hl : lv_has ls 2 [(0, .ref (am 0)), (1, .int (iI i))] := hl
  have h : yH D Zk A s ((wu (wu (wu (wu w 50 (am 0, mO am T P23 P32 (fG (-2147483648) 2147483647) (fX lm) (fX pt) (fX fr) (fX tk) (fX vl) (fX sl) P40 (fX st) (fY tx) (fX iw) (fG 0 48) (fG 0 9) P58)) 73 (am 23, xAI (ca 0) 8000 (gX 8000 (fun j => E 4 (j : Int))))) 71 (am 21, xAI (ca 0) 1000 (gX 1000 gf))) 72 (am 22, xAI (ca 0) 1000 (gX 1000 gb)))) s.heap [] := by rw [wu_same (show w 50 = _ from fo), wu_same (show w 73 = _ from f_step), wu_same (show w 71 = _ from f_first), wu_same (show w 72 = _ from f_behind)]; exact h
  refine lv_aload_n B.1 B.2.1 dX12_readScale_0 rfl (lv_at hl 0 rfl) ?_
  refine y_getR B h kX12 50 (wu_at (wu_at (wu_at wu_eq (by decide)) (by decide)) (by decide)) 24 (b := am 18) rfl m_1285 (by decide) dX12_readScale_1 ?_
  refine lv_iload_n B.1 B.2.1 dX12_readScale_4 rfl (lv_at hl 1 rfl) ?_
  refine lv_aload_n B.1 B.2.1 dX12_readScale_5 rfl (lv_at hl 0 rfl) ?_
  refine y_cV B h kX12 50 (wu_at (wu_at (wu_at wu_eq (by decide)) (by decide)) (by decide)) k_X12_sortHere rfl (c_X12_sortHere l D Zk ca _ _ _ P23 P32 (fG (-2147483648) 2147483647) (fX lm) (fX vl) (fX sl) P40 (fX st) (fG 0 48) (fG 0 9) P58 pt fr tk _ iw (wu_at (wu_at (wu_at wu_eq (by decide)) (by decide)) (by decide)) (by omega) (by omega)) m_1577 rfl (by decide) hl.1 [.int (iI i), .ref (am 18)] (Nat.le_of_ble_eq_true rfl) rfl dX12_readScale_6 (fun r w1 hq H locs h => ?_)
  obtain ⟨rfl, z1, rfl, hz1⟩ := hq
  show W p l e r_c_X12_readScale s m args below meth c _ _ 0 0 Qf (F0 m 9 ls [.int (iI z1), .int (iI i), .ref (am 18)])
  refine y_iastS B h 68 (wu_at (wu_at (wu_at (wu_at f_sort (by decide)) (by decide)) (by decide)) (by decide)) (by omega) (fun _ _ => trivial) dX12_readScale_9 (fun H locs h => ?_)
  refine lv_aload_n B.1 B.2.1 dX12_readScale_10 rfl (lv_at hl 0 rfl) ?_
  refine y_getR B h kX12 50 (wu_at (wu_at (wu_at wu_eq (by decide)) (by decide)) (by decide)) 24 (b := am 18) rfl m_1285 (by decide) dX12_readScale_11 ?_
  refine lv_iload_n B.1 B.2.1 dX12_readScale_14 rfl (lv_at hl 1 rfl) ?_
  refine y_iald B h 68 (wu_at (wu_at (wu_at (wu_at f_sort (by decide)) (by decide)) (by decide)) (by decide)) (by omega) dX12_readScale_15 (fun fz2 hfz2 => ?_)
  refine x_name (fun z2 hz2 ez2 => ?_)
  refine x_if_ge B (by omega) (tgt := 24) dX12_readScale_16 (by decide) (fun c3 => ?_) (fun c3 => ?_)
  · refine lv_aload_n B.1 B.2.1 dX12_readScale_24 rfl (lv_at hl 0 rfl) ?_
    refine y_cV B h kX12 50 (wu_at (wu_at (wu_at wu_eq (by decide)) (by decide)) (by decide)) k_X12_next rfl (c_X12_next l D Zk ca _ _ _ P23 P32 (fG (-2147483648) 2147483647) (fX fr) (fX tk) (fX vl) (fX sl) P40 (fX st) (fY tx) (fX iw) (fG 0 48) (fG 0 9) P58 lm pt gt (wu_at (wu_at (wu_at wu_eq (by decide)) (by decide)) (by decide)) (wu_at (wu_at (wu_at (wu_at f_tape (by decide)) (by decide)) (by decide)) (by decide)) (by omega)) m_1558 rfl (by decide) hl.1 [] (Nat.le_of_ble_eq_true rfl) rfl dX12_readScale_25 (fun r w1 hq H locs h => ?_)
    obtain ⟨rfl, pt2_4, fr2_5, tk2_6, vl2_7, tx2_8, rfl, hr9⟩ := hq
    rw [wu_comm (show (50 : Nat) ≠ 73 by decide), wu_comm (show (50 : Nat) ≠ 71 by decide), wu_comm (show (50 : Nat) ≠ 72 by decide), wu_wu] at h
    have h : yH D Zk A s ((wu (wu (wu (wu w 73 (am 23, xAI (ca 0) 8000 (gX 8000 (fun j => E 4 (j : Int))))) 71 (am 21, xAI (ca 0) 1000 (gX 1000 gf))) 72 (am 22, xAI (ca 0) 1000 (gX 1000 gb))) 50 (am 0, mO am T P23 P32 (fG (-2147483648) 2147483647) (fX lm) (fX pt2_4) (fX fr2_5) (fX tk2_6) (fX vl2_7) (fX sl) P40 (fX st) (fY tx2_8) (fX iw) (fG 0 48) (fG 0 9) P58))) _ _ := h
    show W p l e r_c_X12_readScale s m args below meth c _ _ 0 0 Qf (F0 m 28 ls [])
    refine lv_aload_n B.1 B.2.1 dX12_readScale_28 rfl (lv_at hl 0 rfl) ?_
    refine y_getR B h kX12 50 wu_eq 25 (b := am 19) rfl m_1286 (by decide) dX12_readScale_29 ?_
    refine lv_iload_n B.1 B.2.1 dX12_readScale_32 rfl (lv_at hl 1 rfl) ?_
    refine lv_aload_n B.1 B.2.1 dX12_readScale_33 rfl (lv_at hl 0 rfl) ?_
    refine x_bipush B (by decide) dX12_readScale_34 ?_
    refine y_cV B h kX12 50 wu_eq k_X12_numeral rfl (c_X12_numeral l D Zk ca _ _ _ P23 P32 (fX sl) P40 (fX st) (fG 0 48) (fG 0 9) P58 lm pt2_4 fr2_5 tk2_6 vl2_7 _ iw gt 12 wu_eq (wu_at (wu_at (wu_at (wu_at f_tape (by decide)) (by decide)) (by decide)) (by decide)) (by omega) (by omega) (by omega) (by omega) (by omega)) m_1588 rfl (by decide) hl.1 [.int (iI i), .ref (am 19)] (Nat.le_of_ble_eq_true rfl) rfl dX12_readScale_36 (fun r w1 hq H locs h => ?_)
    obtain ⟨z17, rfl, pt2_10, fr2_11, tk2_12, vl2_13, tx2_14, iw2_15, rfl, hr16⟩ := hq
    rw [wu_wu] at h
    have h : yH D Zk A s ((wu (wu (wu (wu w 73 (am 23, xAI (ca 0) 8000 (gX 8000 (fun j => E 4 (j : Int))))) 71 (am 21, xAI (ca 0) 1000 (gX 1000 gf))) 72 (am 22, xAI (ca 0) 1000 (gX 1000 gb))) 50 (am 0, mO am T P23 P32 (fG (-2147483648) 2147483647) (fX lm) (fX pt2_10) (fX fr2_11) (fX tk2_12) (fX vl2_13) (fX sl) P40 (fX st) (fY tx2_14) (fX iw2_15) (fG 0 48) (fG 0 9) P58))) _ _ := h
    show W p l e r_c_X12_readScale s m args below meth c _ _ 0 0 Qf (F0 m 39 ls [.int (iI z17), .int (iI i), .ref (am 19)])
    refine y_iastS B h 69 (wu_at (wu_at (wu_at (wu_at f_much (by decide)) (by decide)) (by decide)) (by decide)) (by omega) (gG_upd (by omega)) dX12_readScale_39 (fun H locs h => ?_)
    refine lv_aload_n B.1 B.2.1 dX12_readScale_40 rfl (lv_at hl 0 rfl) ?_
    refine x_ldc2 B m_1592 dX12_readScale_41 ?_
    refine y_cV B h kX12 50 wu_eq k_X12_mustBe rfl (c_X12_mustBe l D Zk ca _ _ _ P23 P32 (fX sl) P40 (fX st) (fG 0 48) (fG 0 9) P58 lm pt2_10 fr2_11 tk2_12 vl2_13 _ iw2_15 gt ((131638 : Int64)) wu_eq (wu_at (wu_at (wu_at (wu_at f_tape (by decide)) (by decide)) (by decide)) (by decide)) (by omega) (by omega) (by omega) (by omega)) m_1593 rfl (by decide) hl.1 [] (Nat.le_of_ble_eq_true rfl) rfl dX12_readScale_44 (fun r w1 hq H locs h => ?_)
    obtain ⟨rfl, pt2_18, fr2_19, tk2_20, vl2_21, tx2_22, iw2_23, rfl, hr24⟩ := hq
    rw [wu_wu] at h
    have h : yH D Zk A s ((wu (wu (wu (wu w 73 (am 23, xAI (ca 0) 8000 (gX 8000 (fun j => E 4 (j : Int))))) 71 (am 21, xAI (ca 0) 1000 (gX 1000 gf))) 72 (am 22, xAI (ca 0) 1000 (gX 1000 gb))) 50 (am 0, mO am T P23 P32 (fG (-2147483648) 2147483647) (fX lm) (fX pt2_18) (fX fr2_19) (fX tk2_20) (fX vl2_21) (fX sl) P40 (fX st) (fY tx2_22) (fX iw2_23) (fG 0 48) (fG 0 9) P58))) _ _ := h
    show W p l e r_c_X12_readScale s m args below meth c _ _ 0 0 Qf (F0 m 47 ls [])
    refine lv_aload_n B.1 B.2.1 dX12_readScale_47 rfl (lv_at hl 0 rfl) ?_
    refine y_getR B h kX12 50 wu_eq 26 (b := am 20) rfl m_1287 (by decide) dX12_readScale_48 ?_
    refine lv_iload_n B.1 B.2.1 dX12_readScale_51 rfl (lv_at hl 1 rfl) ?_
    refine lv_aload_n B.1 B.2.1 dX12_readScale_52 rfl (lv_at hl 0 rfl) ?_
    refine x_bipush B (by decide) dX12_readScale_53 ?_
    refine y_cV B h kX12 50 wu_eq k_X12_numeral rfl (c_X12_numeral l D Zk ca _ _ _ P23 P32 (fX sl) P40 (fX st) (fG 0 48) (fG 0 9) P58 lm pt2_18 fr2_19 tk2_20 vl2_21 _ iw2_23 gt 99 wu_eq (wu_at (wu_at (wu_at (wu_at f_tape (by decide)) (by decide)) (by decide)) (by decide)) (by omega) (by omega) (by omega) (by omega) (by omega)) m_1588 rfl (by decide) hl.1 [.int (iI i), .ref (am 20)] (Nat.le_of_ble_eq_true rfl) rfl dX12_readScale_55 (fun r w1 hq H locs h => ?_)
    obtain ⟨z32, rfl, pt2_25, fr2_26, tk2_27, vl2_28, tx2_29, iw2_30, rfl, hr31⟩ := hq
    rw [wu_wu] at h
    have h : yH D Zk A s ((wu (wu (wu (wu w 73 (am 23, xAI (ca 0) 8000 (gX 8000 (fun j => E 4 (j : Int))))) 71 (am 21, xAI (ca 0) 1000 (gX 1000 gf))) 72 (am 22, xAI (ca 0) 1000 (gX 1000 gb))) 50 (am 0, mO am T P23 P32 (fG (-2147483648) 2147483647) (fX lm) (fX pt2_25) (fX fr2_26) (fX tk2_27) (fX vl2_28) (fX sl) P40 (fX st) (fY tx2_29) (fX iw2_30) (fG 0 48) (fG 0 9) P58))) _ _ := h
    show W p l e r_c_X12_readScale s m args below meth c _ _ 0 0 Qf (F0 m 58 ls [.int (iI z32), .int (iI i), .ref (am 20)])
    refine y_iastS B h 70 (wu_at (wu_at (wu_at (wu_at f_bound (by decide)) (by decide)) (by decide)) (by decide)) (by omega) (fun _ _ => trivial) dX12_readScale_58 (fun H locs h => ?_)
    refine lv_aload_n B.1 B.2.1 dX12_readScale_59 rfl (lv_at hl 0 rfl) ?_
    refine lv_iload_n B.1 B.2.1 dX12_readScale_60 rfl (lv_at hl 1 rfl) ?_
    refine x_iconst B dX12_readScale_61 ?_
    refine x_iconst B dX12_readScale_62 ?_
    refine y_cV B h kX12 50 wu_eq k_X12_ending rfl (c_X12_ending l D Zk ca _ _ _ P23 P32 P40 P58 lm pt2_25 fr2_26 tk2_27 vl2_28 sl st _ iw2_30 gt gf gb E gf gb i 1 1 wu_eq (wu_at (wu_at (wu_at (wu_at f_tape (by decide)) (by decide)) (by decide)) (by decide)) (wu_at (wu_at (wu_at wu_eq (by decide)) (by decide)) (by decide)) (wu_at (wu_at (wu_at (wu_at f_stepNumber (by decide)) (by decide)) (by decide)) (by decide)) (wu_at (wu_at (wu_at (wu_at f_waits (by decide)) (by decide)) (by decide)) (by decide)) (wu_at (wu_at wu_eq (by decide)) (by decide)) (wu_at wu_eq (by decide)) (by omega) (by omega) (by omega) (by omega) (by omega) (by omega) (by omega) (by omega) (by omega)) m_1597 rfl (by decide) hl.1 [] (Nat.le_of_ble_eq_true rfl) rfl dX12_readScale_63 (fun r w1 hq H locs h => ?_)
    obtain ⟨rfl, pt2_33, fr2_34, tk2_35, vl2_36, tx2_37, iw2_38, st2_39, E2_40, rfl, hr41⟩ := hq
    rw [wu_wu, wu_comm (x := (am 23, xAI (ca 0) 8000 (gX 8000 (fun j => E 4 (j : Int))))) (show (73 : Nat) ≠ 71 by decide), wu_comm (show (73 : Nat) ≠ 72 by decide), wu_comm (show (73 : Nat) ≠ 50 by decide), wu_wu, wu_comm (x := (am 21, xAI (ca 0) 1000 (gX 1000 gf))) (show (71 : Nat) ≠ 72 by decide), wu_comm (show (71 : Nat) ≠ 50 by decide), wu_comm (show (71 : Nat) ≠ 73 by decide), wu_wu, wu_comm (show (72 : Nat) ≠ 50 by decide), wu_comm (show (72 : Nat) ≠ 73 by decide), wu_comm (show (72 : Nat) ≠ 71 by decide), wu_wu] at h
    have h : yH D Zk A s ((wu (wu (wu (wu w 50 (am 0, mO am T P23 P32 (fG (-2147483648) 2147483647) (fX lm) (fX pt2_33) (fX fr2_34) (fX tk2_35) (fX vl2_36) (fX sl) P40 (fX st2_39) (fY tx2_37) (fX iw2_38) (fG 0 48) (fG 0 9) P58)) 73 (am 23, xAI (ca 0) 8000 (gX 8000 (fun j => E2_40 4 (j : Int))))) 71 (am 21, xAI (ca 0) 1000 (gX 1000 (iu gf i st)))) 72 (am 22, xAI (ca 0) 1000 (gX 1000 (iu gb i st2_39))))) _ _ := h
    show W p l e r_c_X12_readScale s m args below meth c _ _ 0 0 Qf (F0 m 66 ls [])
    rw [wu_comm (show (50 : Nat) ≠ 73 by decide), wu_comm (show (50 : Nat) ≠ 71 by decide), wu_comm (show (50 : Nat) ≠ 72 by decide)] at h
    have h : yH D Zk A s ((wu (wu (wu (wu w 73 (am 23, xAI (ca 0) 8000 (gX 8000 (fun j => E2_40 4 (j : Int))))) 71 (am 21, xAI (ca 0) 1000 (gX 1000 (iu gf i st)))) 72 (am 22, xAI (ca 0) 1000 (gX 1000 (iu gb i st2_39)))) 50 (am 0, mO am T P23 P32 (fG (-2147483648) 2147483647) (fX lm) (fX pt2_33) (fX fr2_34) (fX tk2_35) (fX vl2_36) (fX sl) P40 (fX st2_39) (fY tx2_37) (fX iw2_38) (fG 0 48) (fG 0 9) P58))) _ _ := h
    rw [wu_comm (show (73 : Nat) ≠ 71 by decide), wu_comm (show (73 : Nat) ≠ 72 by decide), wu_comm (show (73 : Nat) ≠ 50 by decide)] at h
    have h : yH D Zk A s ((wu (wu (wu (wu w 71 (am 21, xAI (ca 0) 1000 (gX 1000 (iu gf i st)))) 72 (am 22, xAI (ca 0) 1000 (gX 1000 (iu gb i st2_39)))) 50 (am 0, mO am T P23 P32 (fG (-2147483648) 2147483647) (fX lm) (fX pt2_33) (fX fr2_34) (fX tk2_35) (fX vl2_36) (fX sl) P40 (fX st2_39) (fY tx2_37) (fX iw2_38) (fG 0 48) (fG 0 9) P58)) 73 (am 23, xAI (ca 0) 8000 (gX 8000 (fun j => E2_40 4 (j : Int)))))) _ _ := h
    rw [wu_comm (show (71 : Nat) ≠ 72 by decide), wu_comm (show (71 : Nat) ≠ 50 by decide), wu_comm (show (71 : Nat) ≠ 73 by decide)] at h
    have h : yH D Zk A s ((wu (wu (wu (wu w 72 (am 22, xAI (ca 0) 1000 (gX 1000 (iu gb i st2_39)))) 50 (am 0, mO am T P23 P32 (fG (-2147483648) 2147483647) (fX lm) (fX pt2_33) (fX fr2_34) (fX tk2_35) (fX vl2_36) (fX sl) P40 (fX st2_39) (fY tx2_37) (fX iw2_38) (fG 0 48) (fG 0 9) P58)) 73 (am 23, xAI (ca 0) 8000 (gX 8000 (fun j => E2_40 4 (j : Int))))) 71 (am 21, xAI (ca 0) 1000 (gX 1000 (iu gf i st))))) _ _ := h
    rw [wu_comm (show (72 : Nat) ≠ 50 by decide), wu_comm (show (72 : Nat) ≠ 73 by decide), wu_comm (show (72 : Nat) ≠ 71 by decide)] at h
    have h : yH D Zk A s ((wu (wu (wu (wu w 50 (am 0, mO am T P23 P32 (fG (-2147483648) 2147483647) (fX lm) (fX pt2_33) (fX fr2_34) (fX tk2_35) (fX vl2_36) (fX sl) P40 (fX st2_39) (fY tx2_37) (fX iw2_38) (fG 0 48) (fG 0 9) P58)) 73 (am 23, xAI (ca 0) 8000 (gX 8000 (fun j => E2_40 4 (j : Int))))) 71 (am 21, xAI (ca 0) 1000 (gX 1000 (iu gf i st)))) 72 (am 22, xAI (ca 0) 1000 (gX 1000 (iu gb i st2_39))))) _ _ := h
    refine y_rv B hQ h (by decide) dX12_readScale_66 ?_
    exact ⟨rfl, _, _, _, _, _, _, _, _, _, _, rfl, ⟨by omega, hr41.2.1, by omega, by omega, hr41.2.2.2.2, GBK_1 (by omega), by omega⟩⟩
  · refine lv_aload_n B.1 B.2.1 dX12_readScale_19 rfl (lv_at hl 0 rfl) ?_
    refine y_cV B h kX12 50 (wu_at (wu_at (wu_at wu_eq (by decide)) (by decide)) (by decide)) k_X12_errs rfl (c_X12_errs l D Zk ca _ _ _ P23 P32 (fX lm) (fX pt) (fX tk) (fX vl) (fX sl) P40 (fX st) (fY tx) (fG 0 48) (fG 0 9) P58 fr iw (wu_at (wu_at (wu_at wu_eq (by decide)) (by decide)) (by decide)) (by omega) (by omega)) m_1569 rfl (by decide) hl.1 [] (Nat.le_of_ble_eq_true rfl) rfl dX12_readScale_20 (fun r w1 hq H locs h => ?_)
    obtain ⟨rfl, rfl, hr42⟩ := hq
    rw [wu_comm (show (50 : Nat) ≠ 73 by decide), wu_comm (show (50 : Nat) ≠ 71 by decide), wu_comm (show (50 : Nat) ≠ 72 by decide), wu_wu] at h
    have h : yH D Zk A s ((wu (wu (wu (wu w 73 (am 23, xAI (ca 0) 8000 (gX 8000 (fun j => E 4 (j : Int))))) 71 (am 21, xAI (ca 0) 1000 (gX 1000 gf))) 72 (am 22, xAI (ca 0) 1000 (gX 1000 gb))) 50 (am 0, mO am T P23 P32 (fG (-2147483648) 2147483647) (fX lm) (fX pt) (fX fr) (fX tk) (fX vl) (fX sl) P40 (fX st) (fY tx) (fX 1) (fG 0 48) (fG 0 9) P58))) _ _ := h
    show W p l e r_c_X12_readScale s m args below meth c _ _ 0 0 Qf (F0 m 23 ls [])
    rw [wu_comm (show (73 : Nat) ≠ 71 by decide), wu_comm (show (73 : Nat) ≠ 72 by decide), wu_comm (show (73 : Nat) ≠ 50 by decide)] at h
    have h : yH D Zk A s ((wu (wu (wu (wu w 71 (am 21, xAI (ca 0) 1000 (gX 1000 gf))) 72 (am 22, xAI (ca 0) 1000 (gX 1000 gb))) 50 (am 0, mO am T P23 P32 (fG (-2147483648) 2147483647) (fX lm) (fX pt) (fX fr) (fX tk) (fX vl) (fX sl) P40 (fX st) (fY tx) (fX 1) (fG 0 48) (fG 0 9) P58)) 73 (am 23, xAI (ca 0) 8000 (gX 8000 (fun j => E 4 (j : Int)))))) _ _ := h
    rw [wu_comm (show (71 : Nat) ≠ 72 by decide), wu_comm (show (71 : Nat) ≠ 50 by decide), wu_comm (show (71 : Nat) ≠ 73 by decide)] at h
    have h : yH D Zk A s ((wu (wu (wu (wu w 72 (am 22, xAI (ca 0) 1000 (gX 1000 gb))) 50 (am 0, mO am T P23 P32 (fG (-2147483648) 2147483647) (fX lm) (fX pt) (fX fr) (fX tk) (fX vl) (fX sl) P40 (fX st) (fY tx) (fX 1) (fG 0 48) (fG 0 9) P58)) 73 (am 23, xAI (ca 0) 8000 (gX 8000 (fun j => E 4 (j : Int))))) 71 (am 21, xAI (ca 0) 1000 (gX 1000 gf)))) _ _ := h
    rw [wu_comm (show (72 : Nat) ≠ 50 by decide), wu_comm (show (72 : Nat) ≠ 73 by decide), wu_comm (show (72 : Nat) ≠ 71 by decide)] at h
    have h : yH D Zk A s ((wu (wu (wu (wu w 50 (am 0, mO am T P23 P32 (fG (-2147483648) 2147483647) (fX lm) (fX pt) (fX fr) (fX tk) (fX vl) (fX sl) P40 (fX st) (fY tx) (fX 1) (fG 0 48) (fG 0 9) P58)) 73 (am 23, xAI (ca 0) 8000 (gX 8000 (fun j => E 4 (j : Int))))) 71 (am 21, xAI (ca 0) 1000 (gX 1000 gf))) 72 (am 22, xAI (ca 0) 1000 (gX 1000 gb)))) _ _ := h
    refine y_rv B hQ h (by decide) dX12_readScale_23 ?_
    exact ⟨rfl, _, _, _, _, _, _, _, _, _, _, rfl, ⟨by omega, OKS_0 (by omega), by omega, by omega, FR_0, GBK_0 (by omega), by omega⟩⟩
abbrev r_c_X12_readHabit : Room := { frames := 6, cells := 0, slots := 0, locals := 134 }
set_option maxHeartbeats 4000000 in
set_option maxRecDepth 100000 in
theorem c_X12_readHabit (l : Launch) (D : va_G) (Zk : yK) (ca : Nat → ClassId) (w : yW) (T : Nat → Int → Int) (am : Nat → Nat) (P23 : fP) (P32 : fP) (P40 : fP) (P58 : fP) (lm : Int) (pt : Int) (fr : Int) (tk : Int) (vl : Int) (sl : Int) (st : Int) (tx : Int) (iw : Int) (gt : Nat → Int) (gf : Nat → Int) (gb : Nat → Int) (E : Nat → Int → Int) (gf : Nat → Int) (gb : Nat → Int) (i : Int) (fo : w 50 = some (am 0, mO am T P23 P32 (fG (-2147483648) 2147483647) (fX lm) (fX pt) (fX fr) (fX tk) (fX vl) (fX sl) P40 (fX st) (fY tx) (fX iw) (fG 0 48) (fG 0 9) P58)) (f_tape : w 75 = some (am 25, xAI (ca 3) 900 (gX 900 gt))) (f_step : w 73 = some (am 23, xAI (ca 0) 8000 (gX 8000 (fun j => E 4 (j : Int))))) (f_stepNumber : w 74 = some (am 24, xAI (ca 0) 8000 gA)) (f_waits : w 76 = some (am 26, xAI (ca 0) 48 gA)) (f_first : w 71 = some (am 21, xAI (ca 0) 1000 (gX 1000 gf))) (f_behind : w 72 = some (am 22, xAI (ca 0) 1000 (gX 1000 gb))) (f_sort : w 68 = some (am 18, xAI (ca 0) 1000 gA)) (f_bound : w 70 = some (am 20, xAI (ca 0) 1000 gA)) (f_much : w 69 = some (am 19, xAI (ca 0) 1000 (gG 1000 (-12) 12))) (hp : 0 ≤ pt ∧ pt ≤ lm ∧ lm ≤ 900) (hq : 0 ≤ fr ∧ fr ≤ pt ∧ 0 ≤ vl ∧ vl ≤ 10000000) (htok : TOK tk tx fr pt) (hiw : iw = 0 ∨ iw = 1) (hs1 : 0 ≤ sl ∧ sl ≤ 24) (hst : 0 ≤ st ∧ 3 * st ≤ fr) (hi : 0 ≤ i ∧ i ≤ 999) : yC l D Zk ca yX12_readHabit cX12_readHabit 5 none r_c_X12_readHabit [.ref (am 0), .int (iI i)] w (fun r w1 => r = none ∧ ∃ pt2 : Int, ∃ fr2 : Int, ∃ tk2 : Int, ∃ vl2 : Int, ∃ tx2 : Int, ∃ iw2 : Int, ∃ st2 : Int, ∃ E2 : Nat → Int → Int, ∃ gf2 : Nat → Int, ∃ gb2 : Nat → Int, w1 = (wu (wu (wu (wu w 50 (am 0, mO am T P23 P32 (fG (-2147483648) 2147483647) (fX lm) (fX pt2) (fX fr2) (fX tk2) (fX vl2) (fX sl) P40 (fX st2) (fY tx2) (fX iw2) (fG 0 48) (fG 0 9) P58)) 73 (am 23, xAI (ca 0) 8000 (gX 8000 (fun j => E2 4 (j : Int))))) 71 (am 21, xAI (ca 0) 1000 (gX 1000 gf2))) 72 (am 22, xAI (ca 0) 1000 (gX 1000 gb2))) ∧ ((fr ≤ fr2 ∧ fr2 ≤ pt2 ∧ pt2 ≤ lm ∧ (0 ≤ vl2 ∧ vl2 ≤ 10000000) ∧ TOK tk2 tx2 fr2 pt2 ∧ (iw2 = 0 ∨ iw2 = 1) ∧ iw ≤ iw2) ∧ OKS E2 (320 * sl + st) (st2 - st) ∧ st ≤ st2 ∧ 3 * st2 ≤ fr2 ∧ FR E E2 sl st ∧ GBK gf gb gf2 gb2 i st st2 iw2 ∧ (iw2 = 0 → fr + 1 ≤ fr2))) := by
  refine yC.of2 "WindWordsModel" (by decide) rfl (Nat.le_of_ble_eq_true rfl) ?_
  intro p e s m args below meth c A ls Qf B hnm h hl hQ
  have hl : lv_has ls 5 [(0, .ref (am 0)), (1, .int (iI i))] := hl
  have h : yH D Zk A s ((wu (wu (wu (wu w 50 (am 0, mO am T P23 P32 (fG (-2147483648) 2147483647) (fX lm) (fX pt) (fX fr) (fX tk) (fX vl) (fX sl) P40 (fX st) (fY tx) (fX iw) (fG 0 48) (fG 0 9) P58)) 73 (am 23, xAI (ca 0) 8000 (gX 8000 (fun j => E 4 (j : Int))))) 71 (am 21, xAI (ca 0) 1000 (gX 1000 gf))) 72 (am 22, xAI (ca 0) 1000 (gX 1000 gb)))) s.heap [] := by rw [wu_same (show w 50 = _ from fo), wu_same (show w 73 = _ from f_step), wu_same (show w 71 = _ from f_first), wu_same (show w 72 = _ from f_behind)]; exact h
  refine lv_aload_n B.1 B.2.1 dX12_readHabit_0 rfl (lv_at hl 0 rfl) ?_
  refine x_ldc2 B m_1646 dX12_readHabit_1 ?_
  refine y_cV B h kX12 50 (wu_at (wu_at (wu_at wu_eq (by decide)) (by decide)) (by decide)) k_X12_is rfl (c_X12_is l D Zk ca _ _ _ P23 P32 (fG (-2147483648) 2147483647) (fX lm) (fX pt) (fX fr) (fX vl) (fX sl) P40 (fX st) (fG 0 48) (fG 0 9) P58 tk _ iw ((239882 : Int64)) (wu_at (wu_at (wu_at wu_eq (by decide)) (by decide)) (by decide)) (by omega) (by omega)) m_1582 rfl (by decide) hl.1 [] (Nat.le_of_ble_eq_true rfl) rfl dX12_readHabit_4 (fun r w1 hq H locs h => ?_)
  obtain ⟨rfl, _, rfl, ⟨rfl, b1⟩ | ⟨rfl, b1⟩⟩ := hq
  · have b1x := tx_eq b1.2.2 (by omega)
    rw [show (239882 : Int64).toInt = 239882 from rfl] at b1x
    show W p l e r_c_X12_readHabit s m args below meth c _ _ 0 0 Qf (F0 m 7 ls [.int (iI 1)])
    refine lv_istore_n (lv' := [(2, .int (iI 1)), (0, .ref (am 0)), (1, .int (iI i))]) B.1 B.2.1 dX12_readHabit_7 rfl hl (by decide) rfl (fun ls hl => ?_)
    refine lv_aload_n B.1 B.2.1 dX12_readHabit_8 rfl (lv_at hl 1 rfl) ?_
    refine y_getR B h kX12 50 (wu_at (wu_at (wu_at wu_eq (by decide)) (by decide)) (by decide)) 24 (b := am 18) rfl m_1285 (by decide) dX12_readHabit_9 ?_
    refine lv_iload_n B.1 B.2.1 dX12_readHabit_12 rfl (lv_at hl 2 rfl) ?_
    refine lv_iload_n B.1 B.2.1 dX12_readHabit_13 rfl (lv_at hl 0 rfl) ?_
    refine x_if_eq B (by omega) (tgt := 21) dX12_readHabit_14 (by decide) (fun c2 => ?_) (fun c2 => ?_)
    · exact absurd c2 (by omega)
    · refine x_iconst B dX12_readHabit_17 ?_
      refine lv_goto (tgt := 22) B.1 B.2.1 dX12_readHabit_18 (by decide) ?_
      refine y_iastS B h 68 (wu_at (wu_at (wu_at (wu_at f_sort (by decide)) (by decide)) (by decide)) (by decide)) (by omega) (fun _ _ => trivial) dX12_readHabit_22 (fun H locs h => ?_)
      refine lv_iload_n B.1 B.2.1 dX12_readHabit_23 rfl (lv_at hl 0 rfl) ?_
      refine x_if_ne B (by omega) (tgt := 42) dX12_readHabit_24 (by decide) (fun c3 => ?_) (fun c3 => ?_)
      · refine lv_aload_n B.1 B.2.1 dX12_readHabit_42 rfl (lv_at hl 1 rfl) ?_
        refine y_cV B h kX12 50 (wu_at (wu_at (wu_at wu_eq (by decide)) (by decide)) (by decide)) k_X12_next rfl (c_X12_next l D Zk ca _ _ _ P23 P32 (fG (-2147483648) 2147483647) (fX fr) (fX tk) (fX vl) (fX sl) P40 (fX st) (fY tx) (fX iw) (fG 0 48) (fG 0 9) P58 lm pt gt (wu_at (wu_at (wu_at wu_eq (by decide)) (by decide)) (by decide)) (wu_at (wu_at (wu_at (wu_at f_tape (by decide)) (by decide)) (by decide)) (by decide)) (by omega)) m_1558 rfl (by decide) hl.1 [] (Nat.le_of_ble_eq_true rfl) rfl dX12_readHabit_43 (fun r w1 hq H locs h => ?_)
        obtain ⟨rfl, pt2_4, fr2_5, tk2_6, vl2_7, tx2_8, rfl, hr9⟩ := hq
        rw [wu_comm (show (50 : Nat) ≠ 73 by decide), wu_comm (show (50 : Nat) ≠ 71 by decide), wu_comm (show (50 : Nat) ≠ 72 by decide), wu_wu] at h
        have h : yH D Zk A s ((wu (wu (wu (wu w 73 (am 23, xAI (ca 0) 8000 (gX 8000 (fun j => E 4 (j : Int))))) 71 (am 21, xAI (ca 0) 1000 (gX 1000 gf))) 72 (am 22, xAI (ca 0) 1000 (gX 1000 gb))) 50 (am 0, mO am T P23 P32 (fG (-2147483648) 2147483647) (fX lm) (fX pt2_4) (fX fr2_5) (fX tk2_6) (fX vl2_7) (fX sl) P40 (fX st) (fY tx2_8) (fX iw) (fG 0 48) (fG 0 9) P58))) _ _ := h
        show W p l e r_c_X12_readHabit s m args below meth c _ _ 0 0 Qf (F0 m 46 ls [])
        refine lv_iload_n B.1 B.2.1 dX12_readHabit_46 rfl (lv_at hl 0 rfl) ?_
        refine x_if_eq B (by omega) (tgt := 110) dX12_readHabit_47 (by decide) (fun c10 => ?_) (fun c10 => ?_)
        · exact absurd c10 (by omega)
        · refine lv_aload_n B.1 B.2.1 dX12_readHabit_50 rfl (lv_at hl 1 rfl) ?_
          refine x_ldc2 B m_1648 dX12_readHabit_51 ?_
          refine y_cV B h kX12 50 wu_eq k_X12_is rfl (c_X12_is l D Zk ca _ _ _ P23 P32 (fG (-2147483648) 2147483647) (fX lm) (fX pt2_4) (fX fr2_5) (fX vl2_7) (fX sl) P40 (fX st) (fG 0 48) (fG 0 9) P58 tk2_6 _ iw ((583 : Int64)) wu_eq (by omega) (by omega)) m_1582 rfl (by decide) hl.1 [] (Nat.le_of_ble_eq_true rfl) rfl dX12_readHabit_54 (fun r w1 hq H locs h => ?_)
          obtain ⟨rfl, _, rfl, ⟨rfl, b11⟩ | ⟨rfl, b11⟩⟩ := hq
          · have b11x := tx_eq b11.2.2 (by omega)
            rw [show (583 : Int64).toInt = 583 from rfl] at b11x
            show W p l e r_c_X12_readHabit s m args below meth c _ _ 0 0 Qf (F0 m 57 ls [.int (iI 1)])
            refine lv_istore_n (lv' := [(3, .int (iI 1)), (2, .int (iI 1)), (0, .ref (am 0)), (1, .int (iI i))]) B.1 B.2.1 dX12_readHabit_57 rfl hl (by decide) rfl (fun ls hl => ?_)
            refine lv_iload_n B.1 B.2.1 dX12_readHabit_58 rfl (lv_at hl 0 rfl) ?_
            refine x_if_ne B (by omega) (tgt := 77) dX12_readHabit_59 (by decide) (fun c12 => ?_) (fun c12 => ?_)
            · refine lv_aload_n B.1 B.2.1 dX12_readHabit_77 rfl (lv_at hl 2 rfl) ?_
              refine y_cV B h kX12 50 wu_eq k_X12_next rfl (c_X12_next l D Zk ca _ _ _ P23 P32 (fG (-2147483648) 2147483647) (fX fr2_5) (fX tk2_6) (fX vl2_7) (fX sl) P40 (fX st) (fY tx2_8) (fX iw) (fG 0 48) (fG 0 9) P58 lm pt2_4 gt wu_eq (wu_at (wu_at (wu_at (wu_at f_tape (by decide)) (by decide)) (by decide)) (by decide)) (by omega)) m_1558 rfl (by decide) hl.1 [] (Nat.le_of_ble_eq_true rfl) rfl dX12_readHabit_78 (fun r w1 hq H locs h => ?_)
              obtain ⟨rfl, pt2_13, fr2_14, tk2_15, vl2_16, tx2_17, rfl, hr18⟩ := hq
              rw [wu_wu] at h
              have h : yH D Zk A s ((wu (wu (wu (wu w 73 (am 23, xAI (ca 0) 8000 (gX 8000 (fun j => E 4 (j : Int))))) 71 (am 21, xAI (ca 0) 1000 (gX 1000 gf))) 72 (am 22, xAI (ca 0) 1000 (gX 1000 gb))) 50 (am 0, mO am T P23 P32 (fG (-2147483648) 2147483647) (fX lm) (fX pt2_13) (fX fr2_14) (fX tk2_15) (fX vl2_16) (fX sl) P40 (fX st) (fY tx2_17) (fX iw) (fG 0 48) (fG 0 9) P58))) _ _ := h
              show W p l e r_c_X12_readHabit s m args below meth c _ _ 0 0 Qf (F0 m 81 ls [])
              refine lv_aload_n B.1 B.2.1 dX12_readHabit_81 rfl (lv_at hl 2 rfl) ?_
              refine x_bipush B (by decide) dX12_readHabit_82 ?_
              refine y_cV B h kX12 50 wu_eq k_X12_numeral rfl (c_X12_numeral l D Zk ca _ _ _ P23 P32 (fX sl) P40 (fX st) (fG 0 48) (fG 0 9) P58 lm pt2_13 fr2_14 tk2_15 vl2_16 _ iw gt 12 wu_eq (wu_at (wu_at (wu_at (wu_at f_tape (by decide)) (by decide)) (by decide)) (by decide)) (by omega) (by omega) (by omega) (by omega) (by omega)) m_1588 rfl (by decide) hl.1 [] (Nat.le_of_ble_eq_true rfl) rfl dX12_readHabit_84 (fun r w1 hq H locs h => ?_)
              obtain ⟨z26, rfl, pt2_19, fr2_20, tk2_21, vl2_22, tx2_23, iw2_24, rfl, hr25⟩ := hq
              rw [wu_wu] at h
              have h : yH D Zk A s ((wu (wu (wu (wu w 73 (am 23, xAI (ca 0) 8000 (gX 8000 (fun j => E 4 (j : Int))))) 71 (am 21, xAI (ca 0) 1000 (gX 1000 gf))) 72 (am 22, xAI (ca 0) 1000 (gX 1000 gb))) 50 (am 0, mO am T P23 P32 (fG (-2147483648) 2147483647) (fX lm) (fX pt2_19) (fX fr2_20) (fX tk2_21) (fX vl2_22) (fX sl) P40 (fX st) (fY tx2_23) (fX iw2_24) (fG 0 48) (fG 0 9) P58))) _ _ := h
              show W p l e r_c_X12_readHabit s m args below meth c _ _ 0 0 Qf (F0 m 87 ls [.int (iI z26)])
              refine lv_istore (lv' := [(4, .int (iI z26)), (3, .int (iI 1)), (2, .int (iI 1)), (0, .ref (am 0)), (1, .int (iI i))]) B.1 B.2.1 dX12_readHabit_87 hl (by decide) rfl (fun ls hl => ?_)
              refine lv_aload_n B.1 B.2.1 dX12_readHabit_89 rfl (lv_at hl 3 rfl) ?_
              refine y_getR B h kX12 50 wu_eq 25 (b := am 19) rfl m_1286 (by decide) dX12_readHabit_90 ?_
              refine lv_iload_n B.1 B.2.1 dX12_readHabit_93 rfl (lv_at hl 4 rfl) ?_
              refine lv_iload_n B.1 B.2.1 dX12_readHabit_94 rfl (lv_at hl 1 rfl) ?_
              refine x_if_eq B (by omega) (tgt := 103) dX12_readHabit_95 (by decide) (fun c27 => ?_) (fun c27 => ?_)
              · exact absurd c27 (by omega)
              · refine lv_iload B.1 B.2.1 dX12_readHabit_98 (lv_at hl 0 rfl) ?_
                refine lv_goto (tgt := 106) B.1 B.2.1 dX12_readHabit_100 (by decide) ?_
                refine y_iastS B h 69 (wu_at (wu_at (wu_at (wu_at f_much (by decide)) (by decide)) (by decide)) (by decide)) (by omega) (gG_upd (by omega)) dX12_readHabit_106 (fun H locs h => ?_)
                refine lv_goto (tgt := 141) B.1 B.2.1 dX12_readHabit_107 (by decide) ?_
                refine lv_aload_n B.1 B.2.1 dX12_readHabit_141 rfl (lv_at hl 3 rfl) ?_
                refine lv_iload_n B.1 B.2.1 dX12_readHabit_142 rfl (lv_at hl 4 rfl) ?_
                refine x_iconst B dX12_readHabit_143 ?_
                refine lv_iload_n B.1 B.2.1 dX12_readHabit_144 rfl (lv_at hl 2 rfl) ?_
                refine y_cV B h kX12 50 wu_eq k_X12_ending rfl (c_X12_ending l D Zk ca _ _ _ P23 P32 P40 P58 lm pt2_19 fr2_20 tk2_21 vl2_22 sl st _ iw2_24 gt gf gb E gf gb i 0 1 wu_eq (wu_at (wu_at (wu_at (wu_at f_tape (by decide)) (by decide)) (by decide)) (by decide)) (wu_at (wu_at (wu_at wu_eq (by decide)) (by decide)) (by decide)) (wu_at (wu_at (wu_at (wu_at f_stepNumber (by decide)) (by decide)) (by decide)) (by decide)) (wu_at (wu_at (wu_at (wu_at f_waits (by decide)) (by decide)) (by decide)) (by decide)) (wu_at (wu_at wu_eq (by decide)) (by decide)) (wu_at wu_eq (by decide)) (by omega) (by omega) (by omega) (by omega) (by omega) (by omega) (by omega) (by omega) (by omega)) m_1597 rfl (by decide) hl.1 [] (Nat.le_of_ble_eq_true rfl) rfl dX12_readHabit_145 (fun r w1 hq H locs h => ?_)
                obtain ⟨rfl, pt2_28, fr2_29, tk2_30, vl2_31, tx2_32, iw2_33, st2_34, E2_35, rfl, hr36⟩ := hq
                rw [wu_wu, wu_comm (x := (am 23, xAI (ca 0) 8000 (gX 8000 (fun j => E 4 (j : Int))))) (show (73 : Nat) ≠ 71 by decide), wu_comm (show (73 : Nat) ≠ 72 by decide), wu_comm (show (73 : Nat) ≠ 50 by decide), wu_wu, wu_comm (x := (am 21, xAI (ca 0) 1000 (gX 1000 gf))) (show (71 : Nat) ≠ 72 by decide), wu_comm (show (71 : Nat) ≠ 50 by decide), wu_comm (show (71 : Nat) ≠ 73 by decide), wu_wu, wu_comm (show (72 : Nat) ≠ 50 by decide), wu_comm (show (72 : Nat) ≠ 73 by decide), wu_comm (show (72 : Nat) ≠ 71 by decide), wu_wu] at h
                have h : yH D Zk A s ((wu (wu (wu (wu w 50 (am 0, mO am T P23 P32 (fG (-2147483648) 2147483647) (fX lm) (fX pt2_28) (fX fr2_29) (fX tk2_30) (fX vl2_31) (fX sl) P40 (fX st2_34) (fY tx2_32) (fX iw2_33) (fG 0 48) (fG 0 9) P58)) 73 (am 23, xAI (ca 0) 8000 (gX 8000 (fun j => E2_35 4 (j : Int))))) 71 (am 21, xAI (ca 0) 1000 (gX 1000 (iu gf i st)))) 72 (am 22, xAI (ca 0) 1000 (gX 1000 (iu gb i st2_34))))) _ _ := h
                show W p l e r_c_X12_readHabit s m args below meth c _ _ 0 0 Qf (F0 m 148 ls [])
                rw [wu_comm (show (50 : Nat) ≠ 73 by decide), wu_comm (show (50 : Nat) ≠ 71 by decide), wu_comm (show (50 : Nat) ≠ 72 by decide)] at h
                have h : yH D Zk A s ((wu (wu (wu (wu w 73 (am 23, xAI (ca 0) 8000 (gX 8000 (fun j => E2_35 4 (j : Int))))) 71 (am 21, xAI (ca 0) 1000 (gX 1000 (iu gf i st)))) 72 (am 22, xAI (ca 0) 1000 (gX 1000 (iu gb i st2_34)))) 50 (am 0, mO am T P23 P32 (fG (-2147483648) 2147483647) (fX lm) (fX pt2_28) (fX fr2_29) (fX tk2_30) (fX vl2_31) (fX sl) P40 (fX st2_34) (fY tx2_32) (fX iw2_33) (fG 0 48) (fG 0 9) P58))) _ _ := h
                rw [wu_comm (show (73 : Nat) ≠ 71 by decide), wu_comm (show (73 : Nat) ≠ 72 by decide), wu_comm (show (73 : Nat) ≠ 50 by decide)] at h
                have h : yH D Zk A s ((wu (wu (wu (wu w 71 (am 21, xAI (ca 0) 1000 (gX 1000 (iu gf i st)))) 72 (am 22, xAI (ca 0) 1000 (gX 1000 (iu gb i st2_34)))) 50 (am 0, mO am T P23 P32 (fG (-2147483648) 2147483647) (fX lm) (fX pt2_28) (fX fr2_29) (fX tk2_30) (fX vl2_31) (fX sl) P40 (fX st2_34) (fY tx2_32) (fX iw2_33) (fG 0 48) (fG 0 9) P58)) 73 (am 23, xAI (ca 0) 8000 (gX 8000 (fun j => E2_35 4 (j : Int)))))) _ _ := h
                rw [wu_comm (show (71 : Nat) ≠ 72 by decide), wu_comm (show (71 : Nat) ≠ 50 by decide), wu_comm (show (71 : Nat) ≠ 73 by decide)] at h
                have h : yH D Zk A s ((wu (wu (wu (wu w 72 (am 22, xAI (ca 0) 1000 (gX 1000 (iu gb i st2_34)))) 50 (am 0, mO am T P23 P32 (fG (-2147483648) 2147483647) (fX lm) (fX pt2_28) (fX fr2_29) (fX tk2_30) (fX vl2_31) (fX sl) P40 (fX st2_34) (fY tx2_32) (fX iw2_33) (fG 0 48) (fG 0 9) P58)) 73 (am 23, xAI (ca 0) 8000 (gX 8000 (fun j => E2_35 4 (j : Int))))) 71 (am 21, xAI (ca 0) 1000 (gX 1000 (iu gf i st))))) _ _ := h
                rw [wu_comm (show (72 : Nat) ≠ 50 by decide), wu_comm (show (72 : Nat) ≠ 73 by decide), wu_comm (show (72 : Nat) ≠ 71 by decide)] at h
                have h : yH D Zk A s ((wu (wu (wu (wu w 50 (am 0, mO am T P23 P32 (fG (-2147483648) 2147483647) (fX lm) (fX pt2_28) (fX fr2_29) (fX tk2_30) (fX vl2_31) (fX sl) P40 (fX st2_34) (fY tx2_32) (fX iw2_33) (fG 0 48) (fG 0 9) P58)) 73 (am 23, xAI (ca 0) 8000 (gX 8000 (fun j => E2_35 4 (j : Int))))) 71 (am 21, xAI (ca 0) 1000 (gX 1000 (iu gf i st)))) 72 (am 22, xAI (ca 0) 1000 (gX 1000 (iu gb i st2_34))))) _ _ := h
                refine y_rv B hQ h (by decide) dX12_readHabit_148 ?_
                exact ⟨rfl, _, _, _, _, _, _, _, _, _, _, rfl, ⟨by omega, hr36.2.1, by omega, by omega, hr36.2.2.2.2, GBK_1 (by omega), by omega⟩⟩
            · exact absurd c12 (by omega)
          · show W p l e r_c_X12_readHabit s m args below meth c _ _ 0 0 Qf (F0 m 57 ls [.int (iI 0)])
            refine lv_istore_n (lv' := [(3, .int (iI 0)), (2, .int (iI 1)), (0, .ref (am 0)), (1, .int (iI i))]) B.1 B.2.1 dX12_readHabit_57 rfl hl (by decide) rfl (fun ls hl => ?_)
            refine lv_iload_n B.1 B.2.1 dX12_readHabit_58 rfl (lv_at hl 0 rfl) ?_
            refine x_if_ne B (by omega) (tgt := 77) dX12_readHabit_59 (by decide) (fun c37 => ?_) (fun c37 => ?_)
            · exact absurd c37 (by omega)
            · refine lv_aload_n B.1 B.2.1 dX12_readHabit_62 rfl (lv_at hl 2 rfl) ?_
              refine x_ldc2 B m_1649 dX12_readHabit_63 ?_
              refine y_cV B h kX12 50 wu_eq k_X12_is rfl (c_X12_is l D Zk ca _ _ _ P23 P32 (fG (-2147483648) 2147483647) (fX lm) (fX pt2_4) (fX fr2_5) (fX vl2_7) (fX sl) P40 (fX st) (fG 0 48) (fG 0 9) P58 tk2_6 _ iw ((90302 : Int64)) wu_eq (by omega) (by omega)) m_1582 rfl (by decide) hl.1 [] (Nat.le_of_ble_eq_true rfl) rfl dX12_readHabit_66 (fun r w1 hq H locs h => ?_)
              obtain ⟨rfl, _, rfl, ⟨rfl, b38⟩ | ⟨rfl, b38⟩⟩ := hq
              · have b38x := tx_eq b38.2.2 (by omega)
                rw [show (90302 : Int64).toInt = 90302 from rfl] at b38x
                show W p l e r_c_X12_readHabit s m args below meth c _ _ 0 0 Qf (F0 m 69 ls [.int (iI 1)])
                refine x_if_ne B (by omega) (tgt := 77) dX12_readHabit_69 (by decide) (fun c39 => ?_) (fun c39 => ?_)
                · refine lv_aload_n B.1 B.2.1 dX12_readHabit_77 rfl (lv_at hl 2 rfl) ?_
                  refine y_cV B h kX12 50 wu_eq k_X12_next rfl (c_X12_next l D Zk ca _ _ _ P23 P32 (fG (-2147483648) 2147483647) (fX fr2_5) (fX tk2_6) (fX vl2_7) (fX sl) P40 (fX st) (fY tx2_8) (fX iw) (fG 0 48) (fG 0 9) P58 lm pt2_4 gt wu_eq (wu_at (wu_at (wu_at (wu_at f_tape (by decide)) (by decide)) (by decide)) (by decide)) (by omega)) m_1558 rfl (by decide) hl.1 [] (Nat.le_of_ble_eq_true rfl) rfl dX12_readHabit_78 (fun r w1 hq H locs h => ?_)
                  obtain ⟨rfl, pt2_40, fr2_41, tk2_42, vl2_43, tx2_44, rfl, hr45⟩ := hq
                  rw [wu_wu] at h
                  have h : yH D Zk A s ((wu (wu (wu (wu w 73 (am 23, xAI (ca 0) 8000 (gX 8000 (fun j => E 4 (j : Int))))) 71 (am 21, xAI (ca 0) 1000 (gX 1000 gf))) 72 (am 22, xAI (ca 0) 1000 (gX 1000 gb))) 50 (am 0, mO am T P23 P32 (fG (-2147483648) 2147483647) (fX lm) (fX pt2_40) (fX fr2_41) (fX tk2_42) (fX vl2_43) (fX sl) P40 (fX st) (fY tx2_44) (fX iw) (fG 0 48) (fG 0 9) P58))) _ _ := h
                  show W p l e r_c_X12_readHabit s m args below meth c _ _ 0 0 Qf (F0 m 81 ls [])
                  refine lv_aload_n B.1 B.2.1 dX12_readHabit_81 rfl (lv_at hl 2 rfl) ?_
                  refine x_bipush B (by decide) dX12_readHabit_82 ?_
                  refine y_cV B h kX12 50 wu_eq k_X12_numeral rfl (c_X12_numeral l D Zk ca _ _ _ P23 P32 (fX sl) P40 (fX st) (fG 0 48) (fG 0 9) P58 lm pt2_40 fr2_41 tk2_42 vl2_43 _ iw gt 12 wu_eq (wu_at (wu_at (wu_at (wu_at f_tape (by decide)) (by decide)) (by decide)) (by decide)) (by omega) (by omega) (by omega) (by omega) (by omega)) m_1588 rfl (by decide) hl.1 [] (Nat.le_of_ble_eq_true rfl) rfl dX12_readHabit_84 (fun r w1 hq H locs h => ?_)
                  obtain ⟨z53, rfl, pt2_46, fr2_47, tk2_48, vl2_49, tx2_50, iw2_51, rfl, hr52⟩ := hq
                  rw [wu_wu] at h
                  have h : yH D Zk A s ((wu (wu (wu (wu w 73 (am 23, xAI (ca 0) 8000 (gX 8000 (fun j => E 4 (j : Int))))) 71 (am 21, xAI (ca 0) 1000 (gX 1000 gf))) 72 (am 22, xAI (ca 0) 1000 (gX 1000 gb))) 50 (am 0, mO am T P23 P32 (fG (-2147483648) 2147483647) (fX lm) (fX pt2_46) (fX fr2_47) (fX tk2_48) (fX vl2_49) (fX sl) P40 (fX st) (fY tx2_50) (fX iw2_51) (fG 0 48) (fG 0 9) P58))) _ _ := h
                  show W p l e r_c_X12_readHabit s m args below meth c _ _ 0 0 Qf (F0 m 87 ls [.int (iI z53)])
                  refine lv_istore (lv' := [(4, .int (iI z53)), (3, .int (iI 0)), (2, .int (iI 1)), (0, .ref (am 0)), (1, .int (iI i))]) B.1 B.2.1 dX12_readHabit_87 hl (by decide) rfl (fun ls hl => ?_)
                  refine lv_aload_n B.1 B.2.1 dX12_readHabit_89 rfl (lv_at hl 3 rfl) ?_
                  refine y_getR B h kX12 50 wu_eq 25 (b := am 19) rfl m_1286 (by decide) dX12_readHabit_90 ?_
                  refine lv_iload_n B.1 B.2.1 dX12_readHabit_93 rfl (lv_at hl 4 rfl) ?_
                  refine lv_iload_n B.1 B.2.1 dX12_readHabit_94 rfl (lv_at hl 1 rfl) ?_
                  refine x_if_eq B (by omega) (tgt := 103) dX12_readHabit_95 (by decide) (fun c54 => ?_) (fun c54 => ?_)
                  · refine lv_iload B.1 B.2.1 dX12_readHabit_103 (lv_at hl 0 rfl) ?_
                    refine x_ineg B dX12_readHabit_105 ?_
                    refine y_iastS B h 69 (wu_at (wu_at (wu_at (wu_at f_much (by decide)) (by decide)) (by decide)) (by decide)) (by omega) (gG_upd (by omega)) dX12_readHabit_106 (fun H locs h => ?_)
                    refine lv_goto (tgt := 141) B.1 B.2.1 dX12_readHabit_107 (by decide) ?_
                    refine lv_aload_n B.1 B.2.1 dX12_readHabit_141 rfl (lv_at hl 3 rfl) ?_
                    refine lv_iload_n B.1 B.2.1 dX12_readHabit_142 rfl (lv_at hl 4 rfl) ?_
                    refine x_iconst B dX12_readHabit_143 ?_
                    refine lv_iload_n B.1 B.2.1 dX12_readHabit_144 rfl (lv_at hl 2 rfl) ?_
                    refine y_cV B h kX12 50 wu_eq k_X12_ending rfl (c_X12_ending l D Zk ca _ _ _ P23 P32 P40 P58 lm pt2_46 fr2_47 tk2_48 vl2_49 sl st _ iw2_51 gt gf gb E gf gb i 0 1 wu_eq (wu_at (wu_at (wu_at (wu_at f_tape (by decide)) (by decide)) (by decide)) (by decide)) (wu_at (wu_at (wu_at wu_eq (by decide)) (by decide)) (by decide)) (wu_at (wu_at (wu_at (wu_at f_stepNumber (by decide)) (by decide)) (by decide)) (by decide)) (wu_at (wu_at (wu_at (wu_at f_waits (by decide)) (by decide)) (by decide)) (by decide)) (wu_at (wu_at wu_eq (by decide)) (by decide)) (wu_at wu_eq (by decide)) (by omega) (by omega) (by omega) (by omega) (by omega) (by omega) (by omega) (by omega) (by omega)) m_1597 rfl (by decide) hl.1 [] (Nat.le_of_ble_eq_true rfl) rfl dX12_readHabit_145 (fun r w1 hq H locs h => ?_)
                    obtain ⟨rfl, pt2_55, fr2_56, tk2_57, vl2_58, tx2_59, iw2_60, st2_61, E2_62, rfl, hr63⟩ := hq
                    rw [wu_wu, wu_comm (x := (am 23, xAI (ca 0) 8000 (gX 8000 (fun j => E 4 (j : Int))))) (show (73 : Nat) ≠ 71 by decide), wu_comm (show (73 : Nat) ≠ 72 by decide), wu_comm (show (73 : Nat) ≠ 50 by decide), wu_wu, wu_comm (x := (am 21, xAI (ca 0) 1000 (gX 1000 gf))) (show (71 : Nat) ≠ 72 by decide), wu_comm (show (71 : Nat) ≠ 50 by decide), wu_comm (show (71 : Nat) ≠ 73 by decide), wu_wu, wu_comm (show (72 : Nat) ≠ 50 by decide), wu_comm (show (72 : Nat) ≠ 73 by decide), wu_comm (show (72 : Nat) ≠ 71 by decide), wu_wu] at h
                    have h : yH D Zk A s ((wu (wu (wu (wu w 50 (am 0, mO am T P23 P32 (fG (-2147483648) 2147483647) (fX lm) (fX pt2_55) (fX fr2_56) (fX tk2_57) (fX vl2_58) (fX sl) P40 (fX st2_61) (fY tx2_59) (fX iw2_60) (fG 0 48) (fG 0 9) P58)) 73 (am 23, xAI (ca 0) 8000 (gX 8000 (fun j => E2_62 4 (j : Int))))) 71 (am 21, xAI (ca 0) 1000 (gX 1000 (iu gf i st)))) 72 (am 22, xAI (ca 0) 1000 (gX 1000 (iu gb i st2_61))))) _ _ := h
                    show W p l e r_c_X12_readHabit s m args below meth c _ _ 0 0 Qf (F0 m 148 ls [])
                    rw [wu_comm (show (50 : Nat) ≠ 73 by decide), wu_comm (show (50 : Nat) ≠ 71 by decide), wu_comm (show (50 : Nat) ≠ 72 by decide)] at h
                    have h : yH D Zk A s ((wu (wu (wu (wu w 73 (am 23, xAI (ca 0) 8000 (gX 8000 (fun j => E2_62 4 (j : Int))))) 71 (am 21, xAI (ca 0) 1000 (gX 1000 (iu gf i st)))) 72 (am 22, xAI (ca 0) 1000 (gX 1000 (iu gb i st2_61)))) 50 (am 0, mO am T P23 P32 (fG (-2147483648) 2147483647) (fX lm) (fX pt2_55) (fX fr2_56) (fX tk2_57) (fX vl2_58) (fX sl) P40 (fX st2_61) (fY tx2_59) (fX iw2_60) (fG 0 48) (fG 0 9) P58))) _ _ := h
                    rw [wu_comm (show (73 : Nat) ≠ 71 by decide), wu_comm (show (73 : Nat) ≠ 72 by decide), wu_comm (show (73 : Nat) ≠ 50 by decide)] at h
                    have h : yH D Zk A s ((wu (wu (wu (wu w 71 (am 21, xAI (ca 0) 1000 (gX 1000 (iu gf i st)))) 72 (am 22, xAI (ca 0) 1000 (gX 1000 (iu gb i st2_61)))) 50 (am 0, mO am T P23 P32 (fG (-2147483648) 2147483647) (fX lm) (fX pt2_55) (fX fr2_56) (fX tk2_57) (fX vl2_58) (fX sl) P40 (fX st2_61) (fY tx2_59) (fX iw2_60) (fG 0 48) (fG 0 9) P58)) 73 (am 23, xAI (ca 0) 8000 (gX 8000 (fun j => E2_62 4 (j : Int)))))) _ _ := h
                    rw [wu_comm (show (71 : Nat) ≠ 72 by decide), wu_comm (show (71 : Nat) ≠ 50 by decide), wu_comm (show (71 : Nat) ≠ 73 by decide)] at h
                    have h : yH D Zk A s ((wu (wu (wu (wu w 72 (am 22, xAI (ca 0) 1000 (gX 1000 (iu gb i st2_61)))) 50 (am 0, mO am T P23 P32 (fG (-2147483648) 2147483647) (fX lm) (fX pt2_55) (fX fr2_56) (fX tk2_57) (fX vl2_58) (fX sl) P40 (fX st2_61) (fY tx2_59) (fX iw2_60) (fG 0 48) (fG 0 9) P58)) 73 (am 23, xAI (ca 0) 8000 (gX 8000 (fun j => E2_62 4 (j : Int))))) 71 (am 21, xAI (ca 0) 1000 (gX 1000 (iu gf i st))))) _ _ := h
                    rw [wu_comm (show (72 : Nat) ≠ 50 by decide), wu_comm (show (72 : Nat) ≠ 73 by decide), wu_comm (show (72 : Nat) ≠ 71 by decide)] at h
                    have h : yH D Zk A s ((wu (wu (wu (wu w 50 (am 0, mO am T P23 P32 (fG (-2147483648) 2147483647) (fX lm) (fX pt2_55) (fX fr2_56) (fX tk2_57) (fX vl2_58) (fX sl) P40 (fX st2_61) (fY tx2_59) (fX iw2_60) (fG 0 48) (fG 0 9) P58)) 73 (am 23, xAI (ca 0) 8000 (gX 8000 (fun j => E2_62 4 (j : Int))))) 71 (am 21, xAI (ca 0) 1000 (gX 1000 (iu gf i st)))) 72 (am 22, xAI (ca 0) 1000 (gX 1000 (iu gb i st2_61))))) _ _ := h
                    refine y_rv B hQ h (by decide) dX12_readHabit_148 ?_
                    exact ⟨rfl, _, _, _, _, _, _, _, _, _, _, rfl, ⟨by omega, hr63.2.1, by omega, by omega, hr63.2.2.2.2, GBK_1 (by omega), by omega⟩⟩
                  · exact absurd c54 (by omega)
                · exact absurd c39 (by omega)
              · show W p l e r_c_X12_readHabit s m args below meth c _ _ 0 0 Qf (F0 m 69 ls [.int (iI 0)])
                refine x_if_ne B (by omega) (tgt := 77) dX12_readHabit_69 (by decide) (fun c64 => ?_) (fun c64 => ?_)
                · exact absurd c64 (by omega)
                · refine lv_aload_n B.1 B.2.1 dX12_readHabit_72 rfl (lv_at hl 2 rfl) ?_
                  refine y_cV B h kX12 50 wu_eq k_X12_errs rfl (c_X12_errs l D Zk ca _ _ _ P23 P32 (fX lm) (fX pt2_4) (fX tk2_6) (fX vl2_7) (fX sl) P40 (fX st) (fY tx2_8) (fG 0 48) (fG 0 9) P58 fr2_5 iw wu_eq (by omega) (by omega)) m_1569 rfl (by decide) hl.1 [] (Nat.le_of_ble_eq_true rfl) rfl dX12_readHabit_73 (fun r w1 hq H locs h => ?_)
                  obtain ⟨rfl, rfl, hr65⟩ := hq
                  rw [wu_wu] at h
                  have h : yH D Zk A s ((wu (wu (wu (wu w 73 (am 23, xAI (ca 0) 8000 (gX 8000 (fun j => E 4 (j : Int))))) 71 (am 21, xAI (ca 0) 1000 (gX 1000 gf))) 72 (am 22, xAI (ca 0) 1000 (gX 1000 gb))) 50 (am 0, mO am T P23 P32 (fG (-2147483648) 2147483647) (fX lm) (fX pt2_4) (fX fr2_5) (fX tk2_6) (fX vl2_7) (fX sl) P40 (fX st) (fY tx2_8) (fX 1) (fG 0 48) (fG 0 9) P58))) _ _ := h
                  show W p l e r_c_X12_readHabit s m args below meth c _ _ 0 0 Qf (F0 m 76 ls [])
                  rw [wu_comm (show (73 : Nat) ≠ 71 by decide), wu_comm (show (73 : Nat) ≠ 72 by decide), wu_comm (show (73 : Nat) ≠ 50 by decide)] at h
                  have h : yH D Zk A s ((wu (wu (wu (wu w 71 (am 21, xAI (ca 0) 1000 (gX 1000 gf))) 72 (am 22, xAI (ca 0) 1000 (gX 1000 gb))) 50 (am 0, mO am T P23 P32 (fG (-2147483648) 2147483647) (fX lm) (fX pt2_4) (fX fr2_5) (fX tk2_6) (fX vl2_7) (fX sl) P40 (fX st) (fY tx2_8) (fX 1) (fG 0 48) (fG 0 9) P58)) 73 (am 23, xAI (ca 0) 8000 (gX 8000 (fun j => E 4 (j : Int)))))) _ _ := h
                  rw [wu_comm (show (71 : Nat) ≠ 72 by decide), wu_comm (show (71 : Nat) ≠ 50 by decide), wu_comm (show (71 : Nat) ≠ 73 by decide)] at h
                  have h : yH D Zk A s ((wu (wu (wu (wu w 72 (am 22, xAI (ca 0) 1000 (gX 1000 gb))) 50 (am 0, mO am T P23 P32 (fG (-2147483648) 2147483647) (fX lm) (fX pt2_4) (fX fr2_5) (fX tk2_6) (fX vl2_7) (fX sl) P40 (fX st) (fY tx2_8) (fX 1) (fG 0 48) (fG 0 9) P58)) 73 (am 23, xAI (ca 0) 8000 (gX 8000 (fun j => E 4 (j : Int))))) 71 (am 21, xAI (ca 0) 1000 (gX 1000 gf)))) _ _ := h
                  rw [wu_comm (show (72 : Nat) ≠ 50 by decide), wu_comm (show (72 : Nat) ≠ 73 by decide), wu_comm (show (72 : Nat) ≠ 71 by decide)] at h
                  have h : yH D Zk A s ((wu (wu (wu (wu w 50 (am 0, mO am T P23 P32 (fG (-2147483648) 2147483647) (fX lm) (fX pt2_4) (fX fr2_5) (fX tk2_6) (fX vl2_7) (fX sl) P40 (fX st) (fY tx2_8) (fX 1) (fG 0 48) (fG 0 9) P58)) 73 (am 23, xAI (ca 0) 8000 (gX 8000 (fun j => E 4 (j : Int))))) 71 (am 21, xAI (ca 0) 1000 (gX 1000 gf))) 72 (am 22, xAI (ca 0) 1000 (gX 1000 gb)))) _ _ := h
                  refine y_rv B hQ h (by decide) dX12_readHabit_76 ?_
                  exact ⟨rfl, _, _, _, _, _, _, _, _, _, _, rfl, ⟨by omega, OKS_0 (by omega), by omega, by omega, FR_0, GBK_0 (by omega), by omega⟩⟩
      · exact absurd c3 (by omega)
  · show W p l e r_c_X12_readHabit s m args below meth c _ _ 0 0 Qf (F0 m 7 ls [.int (iI 0)])
    refine lv_istore_n (lv' := [(2, .int (iI 0)), (0, .ref (am 0)), (1, .int (iI i))]) B.1 B.2.1 dX12_readHabit_7 rfl hl (by decide) rfl (fun ls hl => ?_)
    refine lv_aload_n B.1 B.2.1 dX12_readHabit_8 rfl (lv_at hl 1 rfl) ?_
    refine y_getR B h kX12 50 (wu_at (wu_at (wu_at wu_eq (by decide)) (by decide)) (by decide)) 24 (b := am 18) rfl m_1285 (by decide) dX12_readHabit_9 ?_
    refine lv_iload_n B.1 B.2.1 dX12_readHabit_12 rfl (lv_at hl 2 rfl) ?_
    refine lv_iload_n B.1 B.2.1 dX12_readHabit_13 rfl (lv_at hl 0 rfl) ?_
    refine x_if_eq B (by omega) (tgt := 21) dX12_readHabit_14 (by decide) (fun c66 => ?_) (fun c66 => ?_)
    · refine x_iconst B dX12_readHabit_21 ?_
      refine y_iastS B h 68 (wu_at (wu_at (wu_at (wu_at f_sort (by decide)) (by decide)) (by decide)) (by decide)) (by omega) (fun _ _ => trivial) dX12_readHabit_22 (fun H locs h => ?_)
      refine lv_iload_n B.1 B.2.1 dX12_readHabit_23 rfl (lv_at hl 0 rfl) ?_
      refine x_if_ne B (by omega) (tgt := 42) dX12_readHabit_24 (by decide) (fun c67 => ?_) (fun c67 => ?_)
      · exact absurd c67 (by omega)
      · refine lv_aload_n B.1 B.2.1 dX12_readHabit_27 rfl (lv_at hl 1 rfl) ?_
        refine x_ldc2 B m_1647 dX12_readHabit_28 ?_
        refine y_cV B h kX12 50 (wu_at (wu_at (wu_at wu_eq (by decide)) (by decide)) (by decide)) k_X12_is rfl (c_X12_is l D Zk ca _ _ _ P23 P32 (fG (-2147483648) 2147483647) (fX lm) (fX pt) (fX fr) (fX vl) (fX sl) P40 (fX st) (fG 0 48) (fG 0 9) P58 tk _ iw ((12584543 : Int64)) (wu_at (wu_at (wu_at wu_eq (by decide)) (by decide)) (by decide)) (by omega) (by omega)) m_1582 rfl (by decide) hl.1 [] (Nat.le_of_ble_eq_true rfl) rfl dX12_readHabit_31 (fun r w1 hq H locs h => ?_)
        obtain ⟨rfl, _, rfl, ⟨rfl, b68⟩ | ⟨rfl, b68⟩⟩ := hq
        · have b68x := tx_eq b68.2.2 (by omega)
          rw [show (12584543 : Int64).toInt = 12584543 from rfl] at b68x
          show W p l e r_c_X12_readHabit s m args below meth c _ _ 0 0 Qf (F0 m 34 ls [.int (iI 1)])
          refine x_if_ne B (by omega) (tgt := 42) dX12_readHabit_34 (by decide) (fun c69 => ?_) (fun c69 => ?_)
          · refine lv_aload_n B.1 B.2.1 dX12_readHabit_42 rfl (lv_at hl 1 rfl) ?_
            refine y_cV B h kX12 50 (wu_at (wu_at (wu_at wu_eq (by decide)) (by decide)) (by decide)) k_X12_next rfl (c_X12_next l D Zk ca _ _ _ P23 P32 (fG (-2147483648) 2147483647) (fX fr) (fX tk) (fX vl) (fX sl) P40 (fX st) (fY tx) (fX iw) (fG 0 48) (fG 0 9) P58 lm pt gt (wu_at (wu_at (wu_at wu_eq (by decide)) (by decide)) (by decide)) (wu_at (wu_at (wu_at (wu_at f_tape (by decide)) (by decide)) (by decide)) (by decide)) (by omega)) m_1558 rfl (by decide) hl.1 [] (Nat.le_of_ble_eq_true rfl) rfl dX12_readHabit_43 (fun r w1 hq H locs h => ?_)
            obtain ⟨rfl, pt2_70, fr2_71, tk2_72, vl2_73, tx2_74, rfl, hr75⟩ := hq
            rw [wu_comm (show (50 : Nat) ≠ 73 by decide), wu_comm (show (50 : Nat) ≠ 71 by decide), wu_comm (show (50 : Nat) ≠ 72 by decide), wu_wu] at h
            have h : yH D Zk A s ((wu (wu (wu (wu w 73 (am 23, xAI (ca 0) 8000 (gX 8000 (fun j => E 4 (j : Int))))) 71 (am 21, xAI (ca 0) 1000 (gX 1000 gf))) 72 (am 22, xAI (ca 0) 1000 (gX 1000 gb))) 50 (am 0, mO am T P23 P32 (fG (-2147483648) 2147483647) (fX lm) (fX pt2_70) (fX fr2_71) (fX tk2_72) (fX vl2_73) (fX sl) P40 (fX st) (fY tx2_74) (fX iw) (fG 0 48) (fG 0 9) P58))) _ _ := h
            show W p l e r_c_X12_readHabit s m args below meth c _ _ 0 0 Qf (F0 m 46 ls [])
            refine lv_iload_n B.1 B.2.1 dX12_readHabit_46 rfl (lv_at hl 0 rfl) ?_
            refine x_if_eq B (by omega) (tgt := 110) dX12_readHabit_47 (by decide) (fun c76 => ?_) (fun c76 => ?_)
            · refine lv_aload_n B.1 B.2.1 dX12_readHabit_110 rfl (lv_at hl 1 rfl) ?_
              refine y_getR B h kX12 50 wu_eq 25 (b := am 19) rfl m_1286 (by decide) dX12_readHabit_111 ?_
              refine lv_iload_n B.1 B.2.1 dX12_readHabit_114 rfl (lv_at hl 2 rfl) ?_
              refine lv_aload_n B.1 B.2.1 dX12_readHabit_115 rfl (lv_at hl 1 rfl) ?_
              refine x_bipush B (by decide) dX12_readHabit_116 ?_
              refine y_cV B h kX12 50 wu_eq k_X12_numeral rfl (c_X12_numeral l D Zk ca _ _ _ P23 P32 (fX sl) P40 (fX st) (fG 0 48) (fG 0 9) P58 lm pt2_70 fr2_71 tk2_72 vl2_73 _ iw gt 12 wu_eq (wu_at (wu_at (wu_at (wu_at f_tape (by decide)) (by decide)) (by decide)) (by decide)) (by omega) (by omega) (by omega) (by omega) (by omega)) m_1588 rfl (by decide) hl.1 [.int (iI i), .ref (am 19)] (Nat.le_of_ble_eq_true rfl) rfl dX12_readHabit_118 (fun r w1 hq H locs h => ?_)
              obtain ⟨z84, rfl, pt2_77, fr2_78, tk2_79, vl2_80, tx2_81, iw2_82, rfl, hr83⟩ := hq
              rw [wu_wu] at h
              have h : yH D Zk A s ((wu (wu (wu (wu w 73 (am 23, xAI (ca 0) 8000 (gX 8000 (fun j => E 4 (j : Int))))) 71 (am 21, xAI (ca 0) 1000 (gX 1000 gf))) 72 (am 22, xAI (ca 0) 1000 (gX 1000 gb))) 50 (am 0, mO am T P23 P32 (fG (-2147483648) 2147483647) (fX lm) (fX pt2_77) (fX fr2_78) (fX tk2_79) (fX vl2_80) (fX sl) P40 (fX st) (fY tx2_81) (fX iw2_82) (fG 0 48) (fG 0 9) P58))) _ _ := h
              show W p l e r_c_X12_readHabit s m args below meth c _ _ 0 0 Qf (F0 m 121 ls [.int (iI z84), .int (iI i), .ref (am 19)])
              refine y_iastS B h 69 (wu_at (wu_at (wu_at (wu_at f_much (by decide)) (by decide)) (by decide)) (by decide)) (by omega) (gG_upd (by omega)) dX12_readHabit_121 (fun H locs h => ?_)
              refine lv_aload_n B.1 B.2.1 dX12_readHabit_122 rfl (lv_at hl 1 rfl) ?_
              refine x_ldc2 B m_1650 dX12_readHabit_123 ?_
              refine y_cV B h kX12 50 wu_eq k_X12_mustBe rfl (c_X12_mustBe l D Zk ca _ _ _ P23 P32 (fX sl) P40 (fX st) (fG 0 48) (fG 0 9) P58 lm pt2_77 fr2_78 tk2_79 vl2_80 _ iw2_82 gt ((4797 : Int64)) wu_eq (wu_at (wu_at (wu_at (wu_at f_tape (by decide)) (by decide)) (by decide)) (by decide)) (by omega) (by omega) (by omega) (by omega)) m_1593 rfl (by decide) hl.1 [] (Nat.le_of_ble_eq_true rfl) rfl dX12_readHabit_126 (fun r w1 hq H locs h => ?_)
              obtain ⟨rfl, pt2_85, fr2_86, tk2_87, vl2_88, tx2_89, iw2_90, rfl, hr91⟩ := hq
              rw [wu_wu] at h
              have h : yH D Zk A s ((wu (wu (wu (wu w 73 (am 23, xAI (ca 0) 8000 (gX 8000 (fun j => E 4 (j : Int))))) 71 (am 21, xAI (ca 0) 1000 (gX 1000 gf))) 72 (am 22, xAI (ca 0) 1000 (gX 1000 gb))) 50 (am 0, mO am T P23 P32 (fG (-2147483648) 2147483647) (fX lm) (fX pt2_85) (fX fr2_86) (fX tk2_87) (fX vl2_88) (fX sl) P40 (fX st) (fY tx2_89) (fX iw2_90) (fG 0 48) (fG 0 9) P58))) _ _ := h
              show W p l e r_c_X12_readHabit s m args below meth c _ _ 0 0 Qf (F0 m 129 ls [])
              refine lv_aload_n B.1 B.2.1 dX12_readHabit_129 rfl (lv_at hl 1 rfl) ?_
              refine y_getR B h kX12 50 wu_eq 26 (b := am 20) rfl m_1287 (by decide) dX12_readHabit_130 ?_
              refine lv_iload_n B.1 B.2.1 dX12_readHabit_133 rfl (lv_at hl 2 rfl) ?_
              refine lv_aload_n B.1 B.2.1 dX12_readHabit_134 rfl (lv_at hl 1 rfl) ?_
              refine x_bipush B (by decide) dX12_readHabit_135 ?_
              refine y_cV B h kX12 50 wu_eq k_X12_numeral rfl (c_X12_numeral l D Zk ca _ _ _ P23 P32 (fX sl) P40 (fX st) (fG 0 48) (fG 0 9) P58 lm pt2_85 fr2_86 tk2_87 vl2_88 _ iw2_90 gt 12 wu_eq (wu_at (wu_at (wu_at (wu_at f_tape (by decide)) (by decide)) (by decide)) (by decide)) (by omega) (by omega) (by omega) (by omega) (by omega)) m_1588 rfl (by decide) hl.1 [.int (iI i), .ref (am 20)] (Nat.le_of_ble_eq_true rfl) rfl dX12_readHabit_137 (fun r w1 hq H locs h => ?_)
              obtain ⟨z99, rfl, pt2_92, fr2_93, tk2_94, vl2_95, tx2_96, iw2_97, rfl, hr98⟩ := hq
              rw [wu_wu] at h
              have h : yH D Zk A s ((wu (wu (wu (wu w 73 (am 23, xAI (ca 0) 8000 (gX 8000 (fun j => E 4 (j : Int))))) 71 (am 21, xAI (ca 0) 1000 (gX 1000 gf))) 72 (am 22, xAI (ca 0) 1000 (gX 1000 gb))) 50 (am 0, mO am T P23 P32 (fG (-2147483648) 2147483647) (fX lm) (fX pt2_92) (fX fr2_93) (fX tk2_94) (fX vl2_95) (fX sl) P40 (fX st) (fY tx2_96) (fX iw2_97) (fG 0 48) (fG 0 9) P58))) _ _ := h
              show W p l e r_c_X12_readHabit s m args below meth c _ _ 0 0 Qf (F0 m 140 ls [.int (iI z99), .int (iI i), .ref (am 20)])
              refine y_iastS B h 70 (wu_at (wu_at (wu_at (wu_at f_bound (by decide)) (by decide)) (by decide)) (by decide)) (by omega) (fun _ _ => trivial) dX12_readHabit_140 (fun H locs h => ?_)
              refine lv_aload_n B.1 B.2.1 dX12_readHabit_141 rfl (lv_at hl 1 rfl) ?_
              refine lv_iload_n B.1 B.2.1 dX12_readHabit_142 rfl (lv_at hl 2 rfl) ?_
              refine x_iconst B dX12_readHabit_143 ?_
              refine lv_iload_n B.1 B.2.1 dX12_readHabit_144 rfl (lv_at hl 0 rfl) ?_
              refine y_cV B h kX12 50 wu_eq k_X12_ending rfl (c_X12_ending l D Zk ca _ _ _ P23 P32 P40 P58 lm pt2_92 fr2_93 tk2_94 vl2_95 sl st _ iw2_97 gt gf gb E gf gb i 0 0 wu_eq (wu_at (wu_at (wu_at (wu_at f_tape (by decide)) (by decide)) (by decide)) (by decide)) (wu_at (wu_at (wu_at wu_eq (by decide)) (by decide)) (by decide)) (wu_at (wu_at (wu_at (wu_at f_stepNumber (by decide)) (by decide)) (by decide)) (by decide)) (wu_at (wu_at (wu_at (wu_at f_waits (by decide)) (by decide)) (by decide)) (by decide)) (wu_at (wu_at wu_eq (by decide)) (by decide)) (wu_at wu_eq (by decide)) (by omega) (by omega) (by omega) (by omega) (by omega) (by omega) (by omega) (by omega) (by omega)) m_1597 rfl (by decide) hl.1 [] (Nat.le_of_ble_eq_true rfl) rfl dX12_readHabit_145 (fun r w1 hq H locs h => ?_)
              obtain ⟨rfl, pt2_100, fr2_101, tk2_102, vl2_103, tx2_104, iw2_105, st2_106, E2_107, rfl, hr108⟩ := hq
              rw [wu_wu, wu_comm (x := (am 23, xAI (ca 0) 8000 (gX 8000 (fun j => E 4 (j : Int))))) (show (73 : Nat) ≠ 71 by decide), wu_comm (show (73 : Nat) ≠ 72 by decide), wu_comm (show (73 : Nat) ≠ 50 by decide), wu_wu, wu_comm (x := (am 21, xAI (ca 0) 1000 (gX 1000 gf))) (show (71 : Nat) ≠ 72 by decide), wu_comm (show (71 : Nat) ≠ 50 by decide), wu_comm (show (71 : Nat) ≠ 73 by decide), wu_wu, wu_comm (show (72 : Nat) ≠ 50 by decide), wu_comm (show (72 : Nat) ≠ 73 by decide), wu_comm (show (72 : Nat) ≠ 71 by decide), wu_wu] at h
              have h : yH D Zk A s ((wu (wu (wu (wu w 50 (am 0, mO am T P23 P32 (fG (-2147483648) 2147483647) (fX lm) (fX pt2_100) (fX fr2_101) (fX tk2_102) (fX vl2_103) (fX sl) P40 (fX st2_106) (fY tx2_104) (fX iw2_105) (fG 0 48) (fG 0 9) P58)) 73 (am 23, xAI (ca 0) 8000 (gX 8000 (fun j => E2_107 4 (j : Int))))) 71 (am 21, xAI (ca 0) 1000 (gX 1000 (iu gf i st)))) 72 (am 22, xAI (ca 0) 1000 (gX 1000 (iu gb i st2_106))))) _ _ := h
              show W p l e r_c_X12_readHabit s m args below meth c _ _ 0 0 Qf (F0 m 148 ls [])
              rw [wu_comm (show (50 : Nat) ≠ 73 by decide), wu_comm (show (50 : Nat) ≠ 71 by decide), wu_comm (show (50 : Nat) ≠ 72 by decide)] at h
              have h : yH D Zk A s ((wu (wu (wu (wu w 73 (am 23, xAI (ca 0) 8000 (gX 8000 (fun j => E2_107 4 (j : Int))))) 71 (am 21, xAI (ca 0) 1000 (gX 1000 (iu gf i st)))) 72 (am 22, xAI (ca 0) 1000 (gX 1000 (iu gb i st2_106)))) 50 (am 0, mO am T P23 P32 (fG (-2147483648) 2147483647) (fX lm) (fX pt2_100) (fX fr2_101) (fX tk2_102) (fX vl2_103) (fX sl) P40 (fX st2_106) (fY tx2_104) (fX iw2_105) (fG 0 48) (fG 0 9) P58))) _ _ := h
              rw [wu_comm (show (73 : Nat) ≠ 71 by decide), wu_comm (show (73 : Nat) ≠ 72 by decide), wu_comm (show (73 : Nat) ≠ 50 by decide)] at h
              have h : yH D Zk A s ((wu (wu (wu (wu w 71 (am 21, xAI (ca 0) 1000 (gX 1000 (iu gf i st)))) 72 (am 22, xAI (ca 0) 1000 (gX 1000 (iu gb i st2_106)))) 50 (am 0, mO am T P23 P32 (fG (-2147483648) 2147483647) (fX lm) (fX pt2_100) (fX fr2_101) (fX tk2_102) (fX vl2_103) (fX sl) P40 (fX st2_106) (fY tx2_104) (fX iw2_105) (fG 0 48) (fG 0 9) P58)) 73 (am 23, xAI (ca 0) 8000 (gX 8000 (fun j => E2_107 4 (j : Int)))))) _ _ := h
              rw [wu_comm (show (71 : Nat) ≠ 72 by decide), wu_comm (show (71 : Nat) ≠ 50 by decide), wu_comm (show (71 : Nat) ≠ 73 by decide)] at h
              have h : yH D Zk A s ((wu (wu (wu (wu w 72 (am 22, xAI (ca 0) 1000 (gX 1000 (iu gb i st2_106)))) 50 (am 0, mO am T P23 P32 (fG (-2147483648) 2147483647) (fX lm) (fX pt2_100) (fX fr2_101) (fX tk2_102) (fX vl2_103) (fX sl) P40 (fX st2_106) (fY tx2_104) (fX iw2_105) (fG 0 48) (fG 0 9) P58)) 73 (am 23, xAI (ca 0) 8000 (gX 8000 (fun j => E2_107 4 (j : Int))))) 71 (am 21, xAI (ca 0) 1000 (gX 1000 (iu gf i st))))) _ _ := h
              rw [wu_comm (show (72 : Nat) ≠ 50 by decide), wu_comm (show (72 : Nat) ≠ 73 by decide), wu_comm (show (72 : Nat) ≠ 71 by decide)] at h
              have h : yH D Zk A s ((wu (wu (wu (wu w 50 (am 0, mO am T P23 P32 (fG (-2147483648) 2147483647) (fX lm) (fX pt2_100) (fX fr2_101) (fX tk2_102) (fX vl2_103) (fX sl) P40 (fX st2_106) (fY tx2_104) (fX iw2_105) (fG 0 48) (fG 0 9) P58)) 73 (am 23, xAI (ca 0) 8000 (gX 8000 (fun j => E2_107 4 (j : Int))))) 71 (am 21, xAI (ca 0) 1000 (gX 1000 (iu gf i st)))) 72 (am 22, xAI (ca 0) 1000 (gX 1000 (iu gb i st2_106))))) _ _ := h
              refine y_rv B hQ h (by decide) dX12_readHabit_148 ?_
              exact ⟨rfl, _, _, _, _, _, _, _, _, _, _, rfl, ⟨by omega, hr108.2.1, by omega, by omega, hr108.2.2.2.2, GBK_1 (by omega), by omega⟩⟩
            · exact absurd c76 (by omega)
          · exact absurd c69 (by omega)
        · show W p l e r_c_X12_readHabit s m args below meth c _ _ 0 0 Qf (F0 m 34 ls [.int (iI 0)])
          refine x_if_ne B (by omega) (tgt := 42) dX12_readHabit_34 (by decide) (fun c109 => ?_) (fun c109 => ?_)
          · exact absurd c109 (by omega)
          · refine lv_aload_n B.1 B.2.1 dX12_readHabit_37 rfl (lv_at hl 1 rfl) ?_
            refine y_cV B h kX12 50 (wu_at (wu_at (wu_at wu_eq (by decide)) (by decide)) (by decide)) k_X12_errs rfl (c_X12_errs l D Zk ca _ _ _ P23 P32 (fX lm) (fX pt) (fX tk) (fX vl) (fX sl) P40 (fX st) (fY tx) (fG 0 48) (fG 0 9) P58 fr iw (wu_at (wu_at (wu_at wu_eq (by decide)) (by decide)) (by decide)) (by omega) (by omega)) m_1569 rfl (by decide) hl.1 [] (Nat.le_of_ble_eq_true rfl) rfl dX12_readHabit_38 (fun r w1 hq H locs h => ?_)
            obtain ⟨rfl, rfl, hr110⟩ := hq
            rw [wu_comm (show (50 : Nat) ≠ 73 by decide), wu_comm (show (50 : Nat) ≠ 71 by decide), wu_comm (show (50 : Nat) ≠ 72 by decide), wu_wu] at h
            have h : yH D Zk A s ((wu (wu (wu (wu w 73 (am 23, xAI (ca 0) 8000 (gX 8000 (fun j => E 4 (j : Int))))) 71 (am 21, xAI (ca 0) 1000 (gX 1000 gf))) 72 (am 22, xAI (ca 0) 1000 (gX 1000 gb))) 50 (am 0, mO am T P23 P32 (fG (-2147483648) 2147483647) (fX lm) (fX pt) (fX fr) (fX tk) (fX vl) (fX sl) P40 (fX st) (fY tx) (fX 1) (fG 0 48) (fG 0 9) P58))) _ _ := h
            show W p l e r_c_X12_readHabit s m args below meth c _ _ 0 0 Qf (F0 m 41 ls [])
            rw [wu_comm (show (73 : Nat) ≠ 71 by decide), wu_comm (show (73 : Nat) ≠ 72 by decide), wu_comm (show (73 : Nat) ≠ 50 by decide)] at h
            have h : yH D Zk A s ((wu (wu (wu (wu w 71 (am 21, xAI (ca 0) 1000 (gX 1000 gf))) 72 (am 22, xAI (ca 0) 1000 (gX 1000 gb))) 50 (am 0, mO am T P23 P32 (fG (-2147483648) 2147483647) (fX lm) (fX pt) (fX fr) (fX tk) (fX vl) (fX sl) P40 (fX st) (fY tx) (fX 1) (fG 0 48) (fG 0 9) P58)) 73 (am 23, xAI (ca 0) 8000 (gX 8000 (fun j => E 4 (j : Int)))))) _ _ := h
            rw [wu_comm (show (71 : Nat) ≠ 72 by decide), wu_comm (show (71 : Nat) ≠ 50 by decide), wu_comm (show (71 : Nat) ≠ 73 by decide)] at h
            have h : yH D Zk A s ((wu (wu (wu (wu w 72 (am 22, xAI (ca 0) 1000 (gX 1000 gb))) 50 (am 0, mO am T P23 P32 (fG (-2147483648) 2147483647) (fX lm) (fX pt) (fX fr) (fX tk) (fX vl) (fX sl) P40 (fX st) (fY tx) (fX 1) (fG 0 48) (fG 0 9) P58)) 73 (am 23, xAI (ca 0) 8000 (gX 8000 (fun j => E 4 (j : Int))))) 71 (am 21, xAI (ca 0) 1000 (gX 1000 gf)))) _ _ := h
            rw [wu_comm (show (72 : Nat) ≠ 50 by decide), wu_comm (show (72 : Nat) ≠ 73 by decide), wu_comm (show (72 : Nat) ≠ 71 by decide)] at h
            have h : yH D Zk A s ((wu (wu (wu (wu w 50 (am 0, mO am T P23 P32 (fG (-2147483648) 2147483647) (fX lm) (fX pt) (fX fr) (fX tk) (fX vl) (fX sl) P40 (fX st) (fY tx) (fX 1) (fG 0 48) (fG 0 9) P58)) 73 (am 23, xAI (ca 0) 8000 (gX 8000 (fun j => E 4 (j : Int))))) 71 (am 21, xAI (ca 0) 1000 (gX 1000 gf))) 72 (am 22, xAI (ca 0) 1000 (gX 1000 gb)))) _ _ := h
            refine y_rv B hQ h (by decide) dX12_readHabit_41 ?_
            exact ⟨rfl, _, _, _, _, _, _, _, _, _, _, rfl, ⟨by omega, OKS_0 (by omega), by omega, by omega, FR_0, GBK_0 (by omega), by omega⟩⟩
    · exact absurd c66 (by omega)
