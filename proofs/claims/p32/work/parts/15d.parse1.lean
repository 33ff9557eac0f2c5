/-! ===== the reference's parser: words, numerals, the place on the tape ===== -/
def fY (t : Int) : fP := fun v => v = .long (Int64.ofInt t)
def tby (gt : Nat → Int) (q : Int) : Int := (iI (gt q.toNat) &&& iI 255).toInt
theorem tby_e {gt : Nat → Int} {q : Int} : iI (gt q.toNat) &&& iI 255 = iI (tby gt q) := iI_of _
theorem tby_r {gt : Nat → Int} {q : Int} : 0 ≤ tby gt q ∧ tby gt q ≤ 255 := by
  obtain ⟨z, za, zb, ez⟩ := and255_ex (iI (gt q.toNat))
  unfold tby
  rw [ez, iI_T (by omega)]
  exact ⟨za, zb⟩
/-- what stands at place q of a text that ends at lm -/
def hby (gt : Nat → Int) (q lm : Int) : Int := if q < lm then tby gt q else -1
theorem hby_r (gt : Nat → Int) (q lm : Int) : (q < lm ∧ 0 ≤ hby gt q lm ∧ hby gt q lm ≤ 255) ∨ (lm ≤ q ∧ hby gt q lm = -1) := by
  unfold hby
  by_cases hq : q < lm
  · rw [if_pos hq]; exact Or.inl ⟨hq, tby_r⟩
  · rw [if_neg hq]; exact Or.inr ⟨by omega, rfl⟩
def LT (k t : Int) : Prop := (k = 0 → t = 0) ∧ (k ≤ 1 → t ≤ 26) ∧ (k ≤ 2 → t ≤ 728) ∧ (k ≤ 3 → t ≤ 19682) ∧ (k ≤ 4 → t ≤ 531440) ∧ (k ≤ 5 → t ≤ 14348906) ∧ (k ≤ 6 → 0 ≤ t) ∧ t ≤ 387420488 ∧ -1 ≤ t
theorem LT_0 {k t : Int} (h : k = 0 ∧ t = 0) : LT k t := by unfold LT; omega
theorem LT_1 {k t k' t' : Int} (h : LT k t) (hk : 0 ≤ k ∧ k < 6 ∧ k' = k + 1 ∧ 27 * t + 1 ≤ t' ∧ t' ≤ 27 * t + 26) : LT k' t' := by unfold LT at h ⊢; omega
theorem LT_n {k' t' : Int} (hk : 7 ≤ k' ∧ t' = -1) : LT k' t' := by unfold LT; omega
theorem tx_next {t z : Int} (hz : xr z) : Int64.ofInt t * (27 : Int64) + (iI z).toInt64 = Int64.ofInt (27 * t + z) := by
  have e1 : (27 : Int64) = Int64.ofInt 27 := rfl
  have e2 : (iI z).toInt64 = Int64.ofInt z := by
    apply Int64.toInt_inj.mp
    rw [Int32.toInt_toInt64, iI_T hz, Int64.toInt_ofInt_of_le (by omega) (by omega)]
  rw [e1, e2, ← Int64.ofInt_mul, ← Int64.ofInt_add, Int.mul_comm t 27]
theorem tx_eq {a : Int} {b : Int64} (h : Int64.ofInt a = b) (ha : -1 ≤ a ∧ a ≤ 387420488) : a = b.toInt := by
  rw [← h, Int64.toInt_ofInt_of_le (by omega) (by omega)]
theorem lc_eq {x y : Int64} {z : Int} (h : lg_cmp x y = iI z) : z = 0 → x = y := fun hz => by
  subst hz
  unfold lg_cmp at h
  by_cases h1 : x > y
  · rw [if_pos h1] at h; exact absurd h (by decide)
  · rw [if_neg h1] at h
    by_cases h2 : x = y
    · exact h2
    · rw [if_neg h2] at h; exact absurd h (by decide)
abbrev TOK (tk tx fr pt : Int) : Prop := (tk = 0 ∧ tx = -1) ∨ (tk = 1 ∧ fr + 1 ≤ pt ∧ (27 ≤ tx → fr + 2 ≤ pt) ∧ (729 ≤ tx → fr + 3 ≤ pt) ∧ -1 ≤ tx ∧ tx ≤ 387420488) ∨ (2 ≤ tk ∧ tk ≤ 255 ∧ fr + 1 ≤ pt ∧ tx = -1)
theorem TOK_w {k t fr pt : Int} (h : LT k t) (hk : k = pt - fr ∧ 1 ≤ k) : TOK 1 t fr pt := by unfold LT at h; unfold TOK; omega

theorem k_X12_here : xMV yX12_here cX12_here 1 (some .int) 0 := ⟨m_1565, m_1564, m_44, m_104, ⟨by decide +kernel, by decide +kernel, by decide +kernel⟩⟩
theorem k_X12_is : xMV yX12_is cX12_is 3 (some .boolean) 1 := ⟨m_1585, m_1584, m_48, m_104, ⟨by decide +kernel, by decide +kernel, by decide +kernel⟩⟩
theorem k_X12_next : xMV yX12_next cX12_next 2 none 0 := ⟨m_1561, m_1560, m_43, m_104, ⟨by decide +kernel, by decide +kernel, by decide +kernel⟩⟩
theorem k_X12_errs : xMV yX12_errs cX12_errs 1 none 0 := ⟨m_1572, m_1571, m_45, m_104, ⟨by decide +kernel, by decide +kernel, by decide +kernel⟩⟩
abbrev r_c_X12_here : Room := { frames := 0, cells := 0, slots := 0, locals := 0 }
set_option maxHeartbeats 4000000 in
set_option maxRecDepth 100000 in
theorem c_X12_here (l : Launch) (D : va_G) (Zk : yK) (ca : Nat → ClassId) (w : yW) (T : Nat → Int → Int) (am : Nat → Nat) (P23 : fP) (P32 : fP) (P33 : fP) (P36 : fP) (P37 : fP) (P38 : fP) (P39 : fP) (P40 : fP) (P41 : fP) (P42 : fP) (P43 : fP) (P45 : fP) (P46 : fP) (P58 : fP) (lm : Int) (pt : Int) (gt : Nat → Int) (fo : w 50 = some (am 0, mO am T P23 P32 P33 (fX lm) (fX pt) P36 P37 P38 P39 P40 P41 P42 P43 P45 P46 P58)) (f_tape : w 75 = some (am 25, xAI (ca 3) 900 (gX 900 gt))) (hp : 0 ≤ pt ∧ pt ≤ lm ∧ lm ≤ 900) : yC l D Zk ca yX12_here cX12_here 1 (some .int) r_c_X12_here [.ref (am 0)] w (vI w (fun z => z = hby gt pt lm)) := by
  refine yC.of2 "WindWordsModel" (by decide) rfl (Nat.le_of_ble_eq_true rfl) ?_
  intro p e s m args below meth c A ls Qf B hnm h hl hQ
  have hl : lv_has ls 1 [(0, .ref (am 0))] := hl
  refine lv_aload_n B.1 B.2.1 dX12_here_0 rfl (lv_at hl 0 rfl) ?_
  refine y_getX B h kX12 50 fo 35 (z := pt) rfl m_1296 (by decide) dX12_here_1 ?_
  refine lv_aload_n B.1 B.2.1 dX12_here_4 rfl (lv_at hl 0 rfl) ?_
  refine y_getX B h kX12 50 fo 34 (z := lm) rfl m_1295 (by decide) dX12_here_5 ?_
  refine x_icmp_ge B (by omega) (tgt := 27) dX12_here_8 (by decide) (fun c1 => ?_) (fun c1 => ?_)
  · refine x_iconst B dX12_here_27 ?_
    refine y_ri B hQ h (by decide) dX12_here_28 ?_
    exact ⟨rfl, _, rfl, by unfold hby; first | rw [if_pos (by omega)] | rw [if_neg (by omega)]⟩
  · refine lv_aload_n B.1 B.2.1 dX12_here_11 rfl (lv_at hl 0 rfl) ?_
    refine y_getR B h kX12 50 fo 31 (b := am 25) rfl m_1292 (by decide) dX12_here_12 ?_
    refine lv_aload_n B.1 B.2.1 dX12_here_15 rfl (lv_at hl 0 rfl) ?_
    refine y_getX B h kX12 50 fo 35 (z := pt) rfl m_1296 (by decide) dX12_here_16 ?_
    refine y_baldX B h 75 f_tape (by omega) dX12_here_19 ?_
    refine x_iset (z := (gt (pt).toNat)) rfl ?_
    refine x_sipush B (by decide) dX12_here_20 ?_
    refine lv_iand B.1 B.2.1 dX12_here_23 ?_
    refine x_iset (z := (tby gt pt)) (tby_e) ?_
    refine lv_goto (tgt := 28) B.1 B.2.1 dX12_here_24 (by decide) ?_
    refine y_ri B hQ h (by decide) dX12_here_28 ?_
    exact ⟨rfl, _, rfl, by unfold hby; first | rw [if_pos (by omega)] | rw [if_neg (by omega)]⟩
abbrev r_c_X12_next : Room := { frames := 1, cells := 0, slots := 0, locals := 22 }
set_option maxHeartbeats 4000000 in
set_option maxRecDepth 100000 in
theorem c_X12_next (l : Launch) (D : va_G) (Zk : yK) (ca : Nat → ClassId) (w : yW) (T : Nat → Int → Int) (am : Nat → Nat) (P23 : fP) (P32 : fP) (P33 : fP) (P36 : fP) (P37 : fP) (P38 : fP) (P39 : fP) (P40 : fP) (P41 : fP) (P42 : fP) (P43 : fP) (P45 : fP) (P46 : fP) (P58 : fP) (lm : Int) (pt : Int) (gt : Nat → Int) (fo : w 50 = some (am 0, mO am T P23 P32 P33 (fX lm) (fX pt) P36 P37 P38 P39 P40 P41 P42 P43 P45 P46 P58)) (f_tape : w 75 = some (am 25, xAI (ca 3) 900 (gX 900 gt))) (hp : 0 ≤ pt ∧ pt ≤ lm ∧ lm ≤ 900) : yC l D Zk ca yX12_next cX12_next 2 none r_c_X12_next [.ref (am 0)] w (fun r w1 => r = none ∧ ∃ pt2 : Int, ∃ fr2 : Int, ∃ tk2 : Int, ∃ vl2 : Int, ∃ tx2 : Int, w1 = (wu w 50 (am 0, mO am T P23 P32 P33 (fX lm) (fX pt2) (fX fr2) (fX tk2) (fX vl2) P39 P40 P41 (fY tx2) P43 P45 P46 P58)) ∧ (pt ≤ fr2 ∧ fr2 ≤ pt2 ∧ pt2 ≤ lm ∧ 0 ≤ vl2 ∧ vl2 ≤ 10000000 ∧ TOK tk2 tx2 fr2 pt2)) := by
  refine yC.of2 "WindWordsModel" (by decide) rfl (Nat.le_of_ble_eq_true rfl) ?_
  intro p e s m args below meth c A ls Qf B hnm h hl hQ
  have hl : lv_has ls 2 [(0, .ref (am 0))] := hl
  have h : yH D Zk A s ((wu w 50 (am 0, mO am T P23 P32 P33 (fX lm) (fX pt) P36 P37 P38 P39 P40 P41 P42 P43 P45 P46 P58))) s.heap [] := by rw [wu_same (show w 50 = _ from fo)]; exact h
  have loop0 : ∀ (n0 : Nat) (qa : Int), (pt ≤ qa ∧ qa ≤ lm) → ((lm - qa : Int)).toNat < n0 → ∀ (H : Heap) (locs : List Loc) (ls : Array Slot), yH D Zk A s ((wu w 50 (am 0, mO am T P23 P32 P33 (fX lm) (fX qa) P36 P37 P38 P39 P40 P41 P42 P43 P45 P46 P58))) H locs → lv_has ls 2 [(0, .ref (am 0))] → W p l e r_c_X12_next s m args below meth c H locs 0 0 Qf (F0 m 0 ls []) := by
    intro n0
    induction n0 with
    | zero =>
      intro qa h0 hm0 H locs ls h hl
      exact absurd hm0 (Nat.not_lt_zero _)
    | succ n0 ih0 =>
      intro qa h0 hm0 H locs ls h hl
      have hb1 := hby_r gt qa lm
      refine lv_aload_n B.1 B.2.1 dX12_next_0 rfl (lv_at hl 0 rfl) ?_
      refine y_cV B h kX12 50 wu_eq k_X12_here rfl (c_X12_here l D Zk ca _ _ _ P23 P32 P33 P36 P37 P38 P39 P40 P41 P42 P43 P45 P46 P58 lm qa gt wu_eq (wu_at f_tape (by decide)) (by omega)) m_1562 rfl (by decide) hl.1 [] (Nat.le_of_ble_eq_true rfl) rfl dX12_next_1 (fun r w1 hq H locs h => ?_)
      obtain ⟨rfl, _, rfl, rfl⟩ := hq
      show W p l e r_c_X12_next s m args below meth c _ _ 0 0 Qf (F0 m 4 ls [.int (iI (hby gt qa lm))])
      refine x_bipush B (by decide) dX12_next_4 ?_
      refine x_icmp_eq B (by omega) (tgt := 18) dX12_next_6 (by decide) (fun c2 => ?_) (fun c2 => ?_)
      · refine lv_aload_n B.1 B.2.1 dX12_next_18 rfl (lv_at hl 0 rfl) ?_
        refine lv_dup B.1 B.2.1 dX12_next_19 rfl ?_
        refine y_getX B h kX12 50 wu_eq 35 (z := qa) rfl m_1296 (by decide) dX12_next_20 ?_
        refine x_iconst B dX12_next_23 ?_
        refine x_iadd B dX12_next_24 ?_
        refine y_put B h kX12 50 wu_eq 35 (Nat.le_of_ble_eq_true rfl) (P' := fX (qa + 1)) m_1296 (by decide) rfl rfl rfl rfl dX12_next_25 (fun H locs h => ?_)
        rw [wu_wu] at h
        have h : yH D Zk A s ((wu w 50 (am 0, mO am T P23 P32 P33 (fX lm) (fX (qa + 1)) P36 P37 P38 P39 P40 P41 P42 P43 P45 P46 P58))) _ _ := h
        refine lv_goto (tgt := 0) B.1 B.2.1 dX12_next_28 (by decide) ?_
        exact ih0 ((qa + 1)) (by omega) (by omega) _ _ _ h (lv_sub hl [0] rfl)
      · refine lv_aload_n B.1 B.2.1 dX12_next_9 rfl (lv_at hl 0 rfl) ?_
        refine y_cV B h kX12 50 wu_eq k_X12_here rfl (c_X12_here l D Zk ca _ _ _ P23 P32 P33 P36 P37 P38 P39 P40 P41 P42 P43 P45 P46 P58 lm qa gt wu_eq (wu_at f_tape (by decide)) (by omega)) m_1562 rfl (by decide) hl.1 [] (Nat.le_of_ble_eq_true rfl) rfl dX12_next_10 (fun r w1 hq H locs h => ?_)
        obtain ⟨rfl, _, rfl, rfl⟩ := hq
        show W p l e r_c_X12_next s m args below meth c _ _ 0 0 Qf (F0 m 13 ls [.int (iI (hby gt qa lm))])
        refine x_bipush B (by decide) dX12_next_13 ?_
        refine x_icmp_ne B (by omega) (tgt := 31) dX12_next_15 (by decide) (fun c3 => ?_) (fun c3 => ?_)
        · refine lv_aload_n B.1 B.2.1 dX12_next_31 rfl (lv_at hl 0 rfl) ?_
          refine lv_aload_n B.1 B.2.1 dX12_next_32 rfl (lv_at hl 0 rfl) ?_
          refine y_getX B h kX12 50 wu_eq 35 (z := qa) rfl m_1296 (by decide) dX12_next_33 ?_
          refine y_put B h kX12 50 wu_eq 36 (Nat.le_of_ble_eq_true rfl) (P' := fX qa) m_1297 (by decide) rfl rfl rfl rfl dX12_next_36 (fun H locs h => ?_)
          rw [wu_wu] at h
          have h : yH D Zk A s ((wu w 50 (am 0, mO am T P23 P32 P33 (fX lm) (fX qa) (fX qa) P37 P38 P39 P40 P41 P42 P43 P45 P46 P58))) _ _ := h
          refine lv_aload_n B.1 B.2.1 dX12_next_39 rfl (lv_at hl 0 rfl) ?_
          refine y_cV B h kX12 50 wu_eq k_X12_here rfl (c_X12_here l D Zk ca _ _ _ P23 P32 P33 (fX qa) P37 P38 P39 P40 P41 P42 P43 P45 P46 P58 lm qa gt wu_eq (wu_at f_tape (by decide)) (by omega)) m_1562 rfl (by decide) hl.1 [] (Nat.le_of_ble_eq_true rfl) rfl dX12_next_40 (fun r w1 hq H locs h => ?_)
          obtain ⟨rfl, _, rfl, rfl⟩ := hq
          show W p l e r_c_X12_next s m args below meth c _ _ 0 0 Qf (F0 m 43 ls [.int (iI (hby gt qa lm))])
          refine lv_istore_n (lv' := [(1, .int (iI (hby gt qa lm))), (0, .ref (am 0))]) B.1 B.2.1 dX12_next_43 rfl hl (by decide) rfl (fun ls hl => ?_)
          refine lv_aload_n B.1 B.2.1 dX12_next_44 rfl (lv_at hl 1 rfl) ?_
          refine x_ldc2 B m_1566 dX12_next_45 ?_
          refine y_put B h kX12 50 wu_eq 42 (Nat.le_of_ble_eq_true rfl) (P' := fY (-1)) m_1303 (by decide) (show Value.long (-1 : Int64) = Value.long (Int64.ofInt (-1)) from congrArg Value.long (by decide)) rfl rfl rfl dX12_next_48 (fun H locs h => ?_)
          rw [wu_wu] at h
          have h : yH D Zk A s ((wu w 50 (am 0, mO am T P23 P32 P33 (fX lm) (fX qa) (fX qa) P37 P38 P39 P40 P41 (fY (-1)) P43 P45 P46 P58))) _ _ := h
          refine lv_aload_n B.1 B.2.1 dX12_next_51 rfl (lv_at hl 1 rfl) ?_
          refine x_iconst B dX12_next_52 ?_
          refine y_put B h kX12 50 wu_eq 38 (Nat.le_of_ble_eq_true rfl) (P' := fX 0) m_1299 (by decide) rfl rfl rfl rfl dX12_next_53 (fun H locs h => ?_)
          rw [wu_wu] at h
          have h : yH D Zk A s ((wu w 50 (am 0, mO am T P23 P32 P33 (fX lm) (fX qa) (fX qa) P37 (fX 0) P39 P40 P41 (fY (-1)) P43 P45 P46 P58))) _ _ := h
          refine lv_iload_n B.1 B.2.1 dX12_next_56 rfl (lv_at hl 0 rfl) ?_
          refine x_if_ge B (by omega) (tgt := 68) dX12_next_57 (by decide) (fun c4 => ?_) (fun c4 => ?_)
          · refine lv_iload_n B.1 B.2.1 dX12_next_68 rfl (lv_at hl 0 rfl) ?_
            refine x_bipush B (by decide) dX12_next_69 ?_
            refine x_bipush B (by decide) dX12_next_71 ?_
            refine y_cS B h k_X12_within (c_X12_within l D Zk ca _ ((hby gt qa lm)) 97 122  (by omega) (by omega) (by omega)) m_1515 rfl (by decide) hl.1 [] (Nat.le_of_ble_eq_true rfl) rfl dX12_next_73 (fun r w1 hq H locs h => ?_)
            obtain ⟨rfl, _, rfl, ⟨rfl, b5⟩ | ⟨rfl, b5⟩⟩ := hq
            · show W p l e r_c_X12_next s m args below meth c _ _ 0 0 Qf (F0 m 76 ls [.int (iI 1)])
              refine x_if_eq B (by omega) (tgt := 157) dX12_next_76 (by decide) (fun c6 => ?_) (fun c6 => ?_)
              · exact absurd c6 (by omega)
              · refine lv_aload_n B.1 B.2.1 dX12_next_79 rfl (lv_at hl 1 rfl) ?_
                refine x_iconst B dX12_next_80 ?_
                refine y_put B h kX12 50 wu_eq 37 (Nat.le_of_ble_eq_true rfl) (P' := fX 1) m_1298 (by decide) rfl rfl rfl rfl dX12_next_81 (fun H locs h => ?_)
                rw [wu_wu] at h
                have h : yH D Zk A s ((wu w 50 (am 0, mO am T P23 P32 P33 (fX lm) (fX qa) (fX qa) (fX 1) (fX 0) P39 P40 P41 (fY (-1)) P43 P45 P46 P58))) _ _ := h
                refine lv_aload_n B.1 B.2.1 dX12_next_84 rfl (lv_at hl 1 rfl) ?_
                refine lv_lconst (v := 0) B.1 B.2.1 dX12_next_85 (by decide) ?_
                refine y_put B h kX12 50 wu_eq 42 (Nat.le_of_ble_eq_true rfl) (P' := fY 0) m_1303 (by decide) (show Value.long (0 : Int64) = Value.long (Int64.ofInt 0) from congrArg Value.long (by decide)) rfl rfl rfl dX12_next_86 (fun H locs h => ?_)
                rw [wu_wu] at h
                have h : yH D Zk A s ((wu w 50 (am 0, mO am T P23 P32 P33 (fX lm) (fX qa) (fX qa) (fX 1) (fX 0) P39 P40 P41 (fY 0) P43 P45 P46 P58))) _ _ := h
                have loop89 : ∀ (n89 : Nat) (qb : Int) (t9 : Int), (qa ≤ qb ∧ qb ≤ lm) → (LT (qb - qa) t9) → (qb = qa → (97 ≤ hby gt qb lm ∧ hby gt qb lm ≤ 122)) → ((lm - qb : Int)).toNat < n89 → ∀ (H : Heap) (locs : List Loc) (ls : Array Slot), yH D Zk A s ((wu w 50 (am 0, mO am T P23 P32 P33 (fX lm) (fX qb) (fX qa) (fX 1) (fX 0) P39 P40 P41 (fY t9) P43 P45 P46 P58))) H locs → lv_has ls 2 [(0, .ref (am 0))] → W p l e r_c_X12_next s m args below meth c H locs 0 0 Qf (F0 m 89 ls []) := by
                  intro n89
                  induction n89 with
                  | zero =>
                    intro qb t9 h1 h2 h3 hm89 H locs ls h hl
                    exact absurd hm89 (Nat.not_lt_zero _)
                  | succ n89 ih89 =>
                    intro qb t9 h1 h2 h3 hm89 H locs ls h hl
                    have hb7 := hby_r gt qb lm
                    refine lv_aload_n B.1 B.2.1 dX12_next_89 rfl (lv_at hl 0 rfl) ?_
                    refine y_cV B h kX12 50 wu_eq k_X12_here rfl (c_X12_here l D Zk ca _ _ _ P23 P32 P33 (fX qa) (fX 1) (fX 0) P39 P40 P41 (fY t9) P43 P45 P46 P58 lm qb gt wu_eq (wu_at f_tape (by decide)) (by omega)) m_1562 rfl (by decide) hl.1 [] (Nat.le_of_ble_eq_true rfl) rfl dX12_next_90 (fun r w1 hq H locs h => ?_)
                    obtain ⟨rfl, _, rfl, rfl⟩ := hq
                    show W p l e r_c_X12_next s m args below meth c _ _ 0 0 Qf (F0 m 93 ls [.int (iI (hby gt qb lm))])
                    refine x_bipush B (by decide) dX12_next_93 ?_
                    refine x_bipush B (by decide) dX12_next_95 ?_
                    refine y_cS B h k_X12_within (c_X12_within l D Zk ca _ ((hby gt qb lm)) 97 122  (by omega) (by omega) (by omega)) m_1515 rfl (by decide) hl.1 [] (Nat.le_of_ble_eq_true rfl) rfl dX12_next_97 (fun r w1 hq H locs h => ?_)
                    obtain ⟨rfl, _, rfl, ⟨rfl, b8⟩ | ⟨rfl, b8⟩⟩ := hq
                    · show W p l e r_c_X12_next s m args below meth c _ _ 0 0 Qf (F0 m 100 ls [.int (iI 1)])
                      refine x_if_eq B (by omega) (tgt := 303) dX12_next_100 (by decide) (fun c9 => ?_) (fun c9 => ?_)
                      · exact absurd c9 (by omega)
                      · refine lv_aload_n B.1 B.2.1 dX12_next_103 rfl (lv_at hl 0 rfl) ?_
                        refine lv_aload_n B.1 B.2.1 dX12_next_104 rfl (lv_at hl 0 rfl) ?_
                        refine y_getX B h kX12 50 wu_eq 35 (z := qb) rfl m_1296 (by decide) dX12_next_105 ?_
                        refine lv_aload_n B.1 B.2.1 dX12_next_108 rfl (lv_at hl 0 rfl) ?_
                        refine y_getX B h kX12 50 wu_eq 36 (z := qa) rfl m_1297 (by decide) dX12_next_109 ?_
                        refine x_isub B dX12_next_112 ?_
                        refine x_bipush B (by decide) dX12_next_113 ?_
                        refine x_icmp_ge B (by omega) (tgt := 138) dX12_next_115 (by decide) (fun c10 => ?_) (fun c10 => ?_)
                        · refine x_ldc2 B m_1566 dX12_next_138 ?_
                          refine y_put B h kX12 50 wu_eq 42 (Nat.le_of_ble_eq_true rfl) (P' := fY (-1)) m_1303 (by decide) (show Value.long (-1 : Int64) = Value.long (Int64.ofInt (-1)) from congrArg Value.long (by decide)) rfl rfl rfl dX12_next_141 (fun H locs h => ?_)
                          rw [wu_wu] at h
                          have h : yH D Zk A s ((wu w 50 (am 0, mO am T P23 P32 P33 (fX lm) (fX qb) (fX qa) (fX 1) (fX 0) P39 P40 P41 (fY (-1)) P43 P45 P46 P58))) _ _ := h
                          refine lv_aload_n B.1 B.2.1 dX12_next_144 rfl (lv_at hl 0 rfl) ?_
                          refine lv_dup B.1 B.2.1 dX12_next_145 rfl ?_
                          refine y_getX B h kX12 50 wu_eq 35 (z := qb) rfl m_1296 (by decide) dX12_next_146 ?_
                          refine x_iconst B dX12_next_149 ?_
                          refine x_iadd B dX12_next_150 ?_
                          refine y_put B h kX12 50 wu_eq 35 (Nat.le_of_ble_eq_true rfl) (P' := fX (qb + 1)) m_1296 (by decide) rfl rfl rfl rfl dX12_next_151 (fun H locs h => ?_)
                          rw [wu_wu] at h
                          have h : yH D Zk A s ((wu w 50 (am 0, mO am T P23 P32 P33 (fX lm) (fX (qb + 1)) (fX qa) (fX 1) (fX 0) P39 P40 P41 (fY (-1)) P43 P45 P46 P58))) _ _ := h
                          refine lv_goto (tgt := 89) B.1 B.2.1 dX12_next_154 (by decide) ?_
                          exact ih89 ((qb + 1)) ((-1)) (by omega) (by first | exact LT_1 h2 (by omega) | exact LT_n (by omega)) (by omega) (by omega) _ _ _ h (lv_sub hl [0] rfl)
                        · refine lv_aload_n B.1 B.2.1 dX12_next_118 rfl (lv_at hl 0 rfl) ?_
                          refine y_get B h kX12 50 wu_eq 42 (P := fY t9) rfl m_1303 (by decide) dX12_next_119 (fun v11 hv11 => ?_)
                          cases hv11
                          refine x_ldc2 B m_1567 dX12_next_122 ?_
                          refine lv_lmul B.1 B.2.1 dX12_next_125 ?_
                          refine lv_aload_n B.1 B.2.1 dX12_next_126 rfl (lv_at hl 0 rfl) ?_
                          refine y_cV B h kX12 50 wu_eq k_X12_here rfl (c_X12_here l D Zk ca _ _ _ P23 P32 P33 (fX qa) (fX 1) (fX 0) P39 P40 P41 (fY t9) P43 P45 P46 P58 lm qb gt wu_eq (wu_at f_tape (by decide)) (by omega)) m_1562 rfl (by decide) hl.1 [.long (((Int64.ofInt t9) * (27 : Int64))), .ref (am 0)] (Nat.le_of_ble_eq_true rfl) rfl dX12_next_127 (fun r w1 hq H locs h => ?_)
                          obtain ⟨rfl, _, rfl, rfl⟩ := hq
                          show W p l e r_c_X12_next s m args below meth c _ _ 0 0 Qf (F0 m 130 ls [.int (iI (hby gt qb lm)), .long (((Int64.ofInt t9) * (27 : Int64))), .ref (am 0)])
                          refine x_bipush B (by decide) dX12_next_130 ?_
                          refine x_isub B dX12_next_132 ?_
                          refine lv_i2l B.1 B.2.1 dX12_next_133 rfl ?_
                          refine lv_ladd B.1 B.2.1 dX12_next_134 ?_
                          rw [tx_next (t := t9) (z := ((hby gt qb lm) - 96)) (by omega)]
                          show W p l e r_c_X12_next s m args below meth c _ _ 0 0 Qf (F0 m 135 ls [.long ((Int64.ofInt (27 * t9 + ((hby gt qb lm) - 96)))), .ref (am 0)])
                          refine lv_goto (tgt := 141) B.1 B.2.1 dX12_next_135 (by decide) ?_
                          refine y_put B h kX12 50 wu_eq 42 (Nat.le_of_ble_eq_true rfl) (P' := fY (27 * t9 + ((hby gt qb lm) - 96))) m_1303 (by decide) rfl rfl rfl rfl dX12_next_141 (fun H locs h => ?_)
                          rw [wu_wu] at h
                          have h : yH D Zk A s ((wu w 50 (am 0, mO am T P23 P32 P33 (fX lm) (fX qb) (fX qa) (fX 1) (fX 0) P39 P40 P41 (fY (27 * t9 + ((hby gt qb lm) - 96))) P43 P45 P46 P58))) _ _ := h
                          refine lv_aload_n B.1 B.2.1 dX12_next_144 rfl (lv_at hl 0 rfl) ?_
                          refine lv_dup B.1 B.2.1 dX12_next_145 rfl ?_
                          refine y_getX B h kX12 50 wu_eq 35 (z := qb) rfl m_1296 (by decide) dX12_next_146 ?_
                          refine x_iconst B dX12_next_149 ?_
                          refine x_iadd B dX12_next_150 ?_
                          refine y_put B h kX12 50 wu_eq 35 (Nat.le_of_ble_eq_true rfl) (P' := fX (qb + 1)) m_1296 (by decide) rfl rfl rfl rfl dX12_next_151 (fun H locs h => ?_)
                          rw [wu_wu] at h
                          have h : yH D Zk A s ((wu w 50 (am 0, mO am T P23 P32 P33 (fX lm) (fX (qb + 1)) (fX qa) (fX 1) (fX 0) P39 P40 P41 (fY (27 * t9 + ((hby gt qb lm) - 96))) P43 P45 P46 P58))) _ _ := h
                          refine lv_goto (tgt := 89) B.1 B.2.1 dX12_next_154 (by decide) ?_
                          exact ih89 ((qb + 1)) ((27 * t9 + ((hby gt qb lm) - 96))) (by omega) (by first | exact LT_1 h2 (by omega) | exact LT_n (by omega)) (by omega) (by omega) _ _ _ h (lv_sub hl [0] rfl)
                    · show W p l e r_c_X12_next s m args below meth c _ _ 0 0 Qf (F0 m 100 ls [.int (iI 0)])
                      refine x_if_eq B (by omega) (tgt := 303) dX12_next_100 (by decide) (fun c12 => ?_) (fun c12 => ?_)
                      · refine y_rv B hQ h (by decide) dX12_next_303 ?_
                        exact ⟨rfl, _, _, _, _, _, rfl, by first | omega | exact ⟨by omega, by omega, by omega, by omega, by omega, TOK_w h2 (by omega)⟩⟩
                      · exact absurd c12 (by omega)
                exact loop89 (((lm - qa : Int)).toNat + 1) qa 0 (by omega) (LT_0 (by omega)) (by omega) (Nat.lt_succ_self _) _ _ _ h (lv_sub hl [1] rfl)
            · show W p l e r_c_X12_next s m args below meth c _ _ 0 0 Qf (F0 m 76 ls [.int (iI 0)])
              refine x_if_eq B (by omega) (tgt := 157) dX12_next_76 (by decide) (fun c13 => ?_) (fun c13 => ?_)
              · refine lv_iload_n B.1 B.2.1 dX12_next_157 rfl (lv_at hl 0 rfl) ?_
                refine x_bipush B (by decide) dX12_next_158 ?_
                refine x_bipush B (by decide) dX12_next_160 ?_
                refine y_cS B h k_X12_within (c_X12_within l D Zk ca _ ((hby gt qa lm)) 48 57  (by omega) (by omega) (by omega)) m_1515 rfl (by decide) hl.1 [] (Nat.le_of_ble_eq_true rfl) rfl dX12_next_162 (fun r w1 hq H locs h => ?_)
                obtain ⟨rfl, _, rfl, ⟨rfl, b14⟩ | ⟨rfl, b14⟩⟩ := hq
                · show W p l e r_c_X12_next s m args below meth c _ _ 0 0 Qf (F0 m 165 ls [.int (iI 1)])
                  refine x_if_eq B (by omega) (tgt := 248) dX12_next_165 (by decide) (fun c15 => ?_) (fun c15 => ?_)
                  · exact absurd c15 (by omega)
                  · have loop168 : ∀ (n168 : Nat) (qb : Int) (v9 : Int), (qa ≤ qb ∧ qb ≤ lm) → (0 ≤ v9 ∧ v9 ≤ 10000000) → (qb = qa → (48 ≤ hby gt qb lm ∧ hby gt qb lm ≤ 57)) → ((lm - qb : Int)).toNat < n168 → ∀ (H : Heap) (locs : List Loc) (ls : Array Slot), yH D Zk A s ((wu w 50 (am 0, mO am T P23 P32 P33 (fX lm) (fX qb) (fX qa) P37 (fX v9) P39 P40 P41 (fY (-1)) P43 P45 P46 P58))) H locs → lv_has ls 2 [(0, .ref (am 0))] → W p l e r_c_X12_next s m args below meth c H locs 0 0 Qf (F0 m 168 ls []) := by
                      intro n168
                      induction n168 with
                      | zero =>
                        intro qb v9 h1 h2 h3 hm168 H locs ls h hl
                        exact absurd hm168 (Nat.not_lt_zero _)
                      | succ n168 ih168 =>
                        intro qb v9 h1 h2 h3 hm168 H locs ls h hl
                        have hb16 := hby_r gt qb lm
                        refine lv_aload_n B.1 B.2.1 dX12_next_168 rfl (lv_at hl 0 rfl) ?_
                        refine y_cV B h kX12 50 wu_eq k_X12_here rfl (c_X12_here l D Zk ca _ _ _ P23 P32 P33 (fX qa) P37 (fX v9) P39 P40 P41 (fY (-1)) P43 P45 P46 P58 lm qb gt wu_eq (wu_at f_tape (by decide)) (by omega)) m_1562 rfl (by decide) hl.1 [] (Nat.le_of_ble_eq_true rfl) rfl dX12_next_169 (fun r w1 hq H locs h => ?_)
                        obtain ⟨rfl, _, rfl, rfl⟩ := hq
                        show W p l e r_c_X12_next s m args below meth c _ _ 0 0 Qf (F0 m 172 ls [.int (iI (hby gt qb lm))])
                        refine x_bipush B (by decide) dX12_next_172 ?_
                        refine x_bipush B (by decide) dX12_next_174 ?_
                        refine y_cS B h k_X12_within (c_X12_within l D Zk ca _ ((hby gt qb lm)) 48 57  (by omega) (by omega) (by omega)) m_1515 rfl (by decide) hl.1 [] (Nat.le_of_ble_eq_true rfl) rfl dX12_next_176 (fun r w1 hq H locs h => ?_)
                        obtain ⟨rfl, _, rfl, ⟨rfl, b17⟩ | ⟨rfl, b17⟩⟩ := hq
                        · show W p l e r_c_X12_next s m args below meth c _ _ 0 0 Qf (F0 m 179 ls [.int (iI 1)])
                          refine x_if_eq B (by omega) (tgt := 223) dX12_next_179 (by decide) (fun c18 => ?_) (fun c18 => ?_)
                          · exact absurd c18 (by omega)
                          · refine lv_aload_n B.1 B.2.1 dX12_next_182 rfl (lv_at hl 0 rfl) ?_
                            refine y_getX B h kX12 50 wu_eq 38 (z := v9) rfl m_1299 (by decide) dX12_next_183 ?_
                            refine x_ldc B (z := 1000000) m_1568 (by decide) dX12_next_186 ?_
                            refine x_icmp_ge B (by omega) (tgt := 210) dX12_next_188 (by decide) (fun c19 => ?_) (fun c19 => ?_)
                            · refine lv_aload_n B.1 B.2.1 dX12_next_210 rfl (lv_at hl 0 rfl) ?_
                              refine lv_dup B.1 B.2.1 dX12_next_211 rfl ?_
                              refine y_getX B h kX12 50 wu_eq 35 (z := qb) rfl m_1296 (by decide) dX12_next_212 ?_
                              refine x_iconst B dX12_next_215 ?_
                              refine x_iadd B dX12_next_216 ?_
                              refine y_put B h kX12 50 wu_eq 35 (Nat.le_of_ble_eq_true rfl) (P' := fX (qb + 1)) m_1296 (by decide) rfl rfl rfl rfl dX12_next_217 (fun H locs h => ?_)
                              rw [wu_wu] at h
                              have h : yH D Zk A s ((wu w 50 (am 0, mO am T P23 P32 P33 (fX lm) (fX (qb + 1)) (fX qa) P37 (fX v9) P39 P40 P41 (fY (-1)) P43 P45 P46 P58))) _ _ := h
                              refine lv_goto (tgt := 168) B.1 B.2.1 dX12_next_220 (by decide) ?_
                              exact ih168 ((qb + 1)) v9 (by omega) (by omega) (by omega) (by omega) _ _ _ h (lv_sub hl [0] rfl)
                            · refine lv_aload_n B.1 B.2.1 dX12_next_191 rfl (lv_at hl 0 rfl) ?_
                              refine x_bipush B (by decide) dX12_next_192 ?_
                              refine lv_aload_n B.1 B.2.1 dX12_next_194 rfl (lv_at hl 0 rfl) ?_
                              refine y_getX B h kX12 50 wu_eq 38 (z := v9) rfl m_1299 (by decide) dX12_next_195 ?_
                              refine x_imul B dX12_next_198 ?_
                              refine lv_aload_n B.1 B.2.1 dX12_next_199 rfl (lv_at hl 0 rfl) ?_
                              refine y_cV B h kX12 50 wu_eq k_X12_here rfl (c_X12_here l D Zk ca _ _ _ P23 P32 P33 (fX qa) P37 (fX v9) P39 P40 P41 (fY (-1)) P43 P45 P46 P58 lm qb gt wu_eq (wu_at f_tape (by decide)) (by omega)) m_1562 rfl (by decide) hl.1 [.int (iI (10 * v9)), .ref (am 0)] (Nat.le_of_ble_eq_true rfl) rfl dX12_next_200 (fun r w1 hq H locs h => ?_)
                              obtain ⟨rfl, _, rfl, rfl⟩ := hq
                              show W p l e r_c_X12_next s m args below meth c _ _ 0 0 Qf (F0 m 203 ls [.int (iI (hby gt qb lm)), .int (iI (10 * v9)), .ref (am 0)])
                              refine x_iadd B dX12_next_203 ?_
                              refine x_bipush B (by decide) dX12_next_204 ?_
                              refine x_isub B dX12_next_206 ?_
                              refine y_put B h kX12 50 wu_eq 38 (Nat.le_of_ble_eq_true rfl) (P' := fX (((10 * v9) + (hby gt qb lm)) - 48)) m_1299 (by decide) rfl rfl rfl rfl dX12_next_207 (fun H locs h => ?_)
                              rw [wu_wu] at h
                              have h : yH D Zk A s ((wu w 50 (am 0, mO am T P23 P32 P33 (fX lm) (fX qb) (fX qa) P37 (fX (((10 * v9) + (hby gt qb lm)) - 48)) P39 P40 P41 (fY (-1)) P43 P45 P46 P58))) _ _ := h
                              refine lv_aload_n B.1 B.2.1 dX12_next_210 rfl (lv_at hl 0 rfl) ?_
                              refine lv_dup B.1 B.2.1 dX12_next_211 rfl ?_
                              refine y_getX B h kX12 50 wu_eq 35 (z := qb) rfl m_1296 (by decide) dX12_next_212 ?_
                              refine x_iconst B dX12_next_215 ?_
                              refine x_iadd B dX12_next_216 ?_
                              refine y_put B h kX12 50 wu_eq 35 (Nat.le_of_ble_eq_true rfl) (P' := fX (qb + 1)) m_1296 (by decide) rfl rfl rfl rfl dX12_next_217 (fun H locs h => ?_)
                              rw [wu_wu] at h
                              have h : yH D Zk A s ((wu w 50 (am 0, mO am T P23 P32 P33 (fX lm) (fX (qb + 1)) (fX qa) P37 (fX (((10 * v9) + (hby gt qb lm)) - 48)) P39 P40 P41 (fY (-1)) P43 P45 P46 P58))) _ _ := h
                              refine lv_goto (tgt := 168) B.1 B.2.1 dX12_next_220 (by decide) ?_
                              exact ih168 ((qb + 1)) ((((10 * v9) + (hby gt qb lm)) - 48)) (by omega) (by omega) (by omega) (by omega) _ _ _ h (lv_sub hl [0] rfl)
                        · show W p l e r_c_X12_next s m args below meth c _ _ 0 0 Qf (F0 m 179 ls [.int (iI 0)])
                          refine x_if_eq B (by omega) (tgt := 223) dX12_next_179 (by decide) (fun c20 => ?_) (fun c20 => ?_)
                          · refine lv_aload_n B.1 B.2.1 dX12_next_223 rfl (lv_at hl 0 rfl) ?_
                            refine lv_aload_n B.1 B.2.1 dX12_next_224 rfl (lv_at hl 0 rfl) ?_
                            refine y_getX B h kX12 50 wu_eq 35 (z := qb) rfl m_1296 (by decide) dX12_next_225 ?_
                            refine lv_aload_n B.1 B.2.1 dX12_next_228 rfl (lv_at hl 0 rfl) ?_
                            refine y_getX B h kX12 50 wu_eq 36 (z := qa) rfl m_1297 (by decide) dX12_next_229 ?_
                            refine x_isub B dX12_next_232 ?_
                            refine x_iconst B dX12_next_233 ?_
                            refine x_icmp_gt B (by omega) (tgt := 241) dX12_next_234 (by decide) (fun c21 => ?_) (fun c21 => ?_)
                            · refine x_iconst B dX12_next_241 ?_
                              refine y_put B h kX12 50 wu_eq 37 (Nat.le_of_ble_eq_true rfl) (P' := fX 3) m_1298 (by decide) rfl rfl rfl rfl dX12_next_242 (fun H locs h => ?_)
                              rw [wu_wu] at h
                              have h : yH D Zk A s ((wu w 50 (am 0, mO am T P23 P32 P33 (fX lm) (fX qb) (fX qa) (fX 3) (fX v9) P39 P40 P41 (fY (-1)) P43 P45 P46 P58))) _ _ := h
                              refine lv_goto (tgt := 303) B.1 B.2.1 dX12_next_245 (by decide) ?_
                              refine y_rv B hQ h (by decide) dX12_next_303 ?_
                              exact ⟨rfl, _, _, _, _, _, rfl, by first | omega | exact ⟨by omega, by omega, by omega, by omega, by omega, TOK_w h2 (by omega)⟩⟩
                            · refine x_iconst B dX12_next_237 ?_
                              refine lv_goto (tgt := 242) B.1 B.2.1 dX12_next_238 (by decide) ?_
                              refine y_put B h kX12 50 wu_eq 37 (Nat.le_of_ble_eq_true rfl) (P' := fX 2) m_1298 (by decide) rfl rfl rfl rfl dX12_next_242 (fun H locs h => ?_)
                              rw [wu_wu] at h
                              have h : yH D Zk A s ((wu w 50 (am 0, mO am T P23 P32 P33 (fX lm) (fX qb) (fX qa) (fX 2) (fX v9) P39 P40 P41 (fY (-1)) P43 P45 P46 P58))) _ _ := h
                              refine lv_goto (tgt := 303) B.1 B.2.1 dX12_next_245 (by decide) ?_
                              refine y_rv B hQ h (by decide) dX12_next_303 ?_
                              exact ⟨rfl, _, _, _, _, _, rfl, by first | omega | exact ⟨by omega, by omega, by omega, by omega, by omega, TOK_w h2 (by omega)⟩⟩
                          · exact absurd c20 (by omega)
                    exact loop168 (((lm - qa : Int)).toNat + 1) qa 0 (by omega) (by omega) (by omega) (Nat.lt_succ_self _) _ _ _ h (lv_sub hl [1] rfl)
                · show W p l e r_c_X12_next s m args below meth c _ _ 0 0 Qf (F0 m 165 ls [.int (iI 0)])
                  refine x_if_eq B (by omega) (tgt := 248) dX12_next_165 (by decide) (fun c22 => ?_) (fun c22 => ?_)
                  · refine lv_aload_n B.1 B.2.1 dX12_next_248 rfl (lv_at hl 1 rfl) ?_
                    refine lv_iload_n B.1 B.2.1 dX12_next_249 rfl (lv_at hl 0 rfl) ?_
                    refine x_bipush B (by decide) dX12_next_250 ?_
                    refine x_icmp_eq B (by omega) (tgt := 285) dX12_next_252 (by decide) (fun c23 => ?_) (fun c23 => ?_)
                    · refine lv_iload_n B.1 B.2.1 dX12_next_285 rfl (lv_at hl 0 rfl) ?_
                      refine lv_goto (tgt := 290) B.1 B.2.1 dX12_next_286 (by decide) ?_
                      refine y_put B h kX12 50 wu_eq 37 (Nat.le_of_ble_eq_true rfl) (P' := fX (hby gt qa lm)) m_1298 (by decide) rfl rfl rfl rfl dX12_next_290 (fun H locs h => ?_)
                      rw [wu_wu] at h
                      have h : yH D Zk A s ((wu w 50 (am 0, mO am T P23 P32 P33 (fX lm) (fX qa) (fX qa) (fX (hby gt qa lm)) (fX 0) P39 P40 P41 (fY (-1)) P43 P45 P46 P58))) _ _ := h
                      refine lv_aload_n B.1 B.2.1 dX12_next_293 rfl (lv_at hl 1 rfl) ?_
                      refine lv_dup B.1 B.2.1 dX12_next_294 rfl ?_
                      refine y_getX B h kX12 50 wu_eq 35 (z := qa) rfl m_1296 (by decide) dX12_next_295 ?_
                      refine x_iconst B dX12_next_298 ?_
                      refine x_iadd B dX12_next_299 ?_
                      refine y_put B h kX12 50 wu_eq 35 (Nat.le_of_ble_eq_true rfl) (P' := fX (qa + 1)) m_1296 (by decide) rfl rfl rfl rfl dX12_next_300 (fun H locs h => ?_)
                      rw [wu_wu] at h
                      have h : yH D Zk A s ((wu w 50 (am 0, mO am T P23 P32 P33 (fX lm) (fX (qa + 1)) (fX qa) (fX (hby gt qa lm)) (fX 0) P39 P40 P41 (fY (-1)) P43 P45 P46 P58))) _ _ := h
                      refine y_rv B hQ h (by decide) dX12_next_303 ?_
                      exact ⟨rfl, _, _, _, _, _, rfl, by first | omega | exact ⟨by omega, by omega, by omega, by omega, by omega, TOK_w h2 (by omega)⟩⟩
                    · refine lv_iload_n B.1 B.2.1 dX12_next_255 rfl (lv_at hl 0 rfl) ?_
                      refine x_bipush B (by decide) dX12_next_256 ?_
                      refine x_icmp_eq B (by omega) (tgt := 285) dX12_next_258 (by decide) (fun c24 => ?_) (fun c24 => ?_)
                      · refine lv_iload_n B.1 B.2.1 dX12_next_285 rfl (lv_at hl 0 rfl) ?_
                        refine lv_goto (tgt := 290) B.1 B.2.1 dX12_next_286 (by decide) ?_
                        refine y_put B h kX12 50 wu_eq 37 (Nat.le_of_ble_eq_true rfl) (P' := fX (hby gt qa lm)) m_1298 (by decide) rfl rfl rfl rfl dX12_next_290 (fun H locs h => ?_)
                        rw [wu_wu] at h
                        have h : yH D Zk A s ((wu w 50 (am 0, mO am T P23 P32 P33 (fX lm) (fX qa) (fX qa) (fX (hby gt qa lm)) (fX 0) P39 P40 P41 (fY (-1)) P43 P45 P46 P58))) _ _ := h
                        refine lv_aload_n B.1 B.2.1 dX12_next_293 rfl (lv_at hl 1 rfl) ?_
                        refine lv_dup B.1 B.2.1 dX12_next_294 rfl ?_
                        refine y_getX B h kX12 50 wu_eq 35 (z := qa) rfl m_1296 (by decide) dX12_next_295 ?_
                        refine x_iconst B dX12_next_298 ?_
                        refine x_iadd B dX12_next_299 ?_
                        refine y_put B h kX12 50 wu_eq 35 (Nat.le_of_ble_eq_true rfl) (P' := fX (qa + 1)) m_1296 (by decide) rfl rfl rfl rfl dX12_next_300 (fun H locs h => ?_)
                        rw [wu_wu] at h
                        have h : yH D Zk A s ((wu w 50 (am 0, mO am T P23 P32 P33 (fX lm) (fX (qa + 1)) (fX qa) (fX (hby gt qa lm)) (fX 0) P39 P40 P41 (fY (-1)) P43 P45 P46 P58))) _ _ := h
                        refine y_rv B hQ h (by decide) dX12_next_303 ?_
                        exact ⟨rfl, _, _, _, _, _, rfl, by first | omega | exact ⟨by omega, by omega, by omega, by omega, by omega, TOK_w h2 (by omega)⟩⟩
                      · refine lv_iload_n B.1 B.2.1 dX12_next_261 rfl (lv_at hl 0 rfl) ?_
                        refine x_bipush B (by decide) dX12_next_262 ?_
                        refine x_icmp_eq B (by omega) (tgt := 285) dX12_next_264 (by decide) (fun c25 => ?_) (fun c25 => ?_)
                        · refine lv_iload_n B.1 B.2.1 dX12_next_285 rfl (lv_at hl 0 rfl) ?_
                          refine lv_goto (tgt := 290) B.1 B.2.1 dX12_next_286 (by decide) ?_
                          refine y_put B h kX12 50 wu_eq 37 (Nat.le_of_ble_eq_true rfl) (P' := fX (hby gt qa lm)) m_1298 (by decide) rfl rfl rfl rfl dX12_next_290 (fun H locs h => ?_)
                          rw [wu_wu] at h
                          have h : yH D Zk A s ((wu w 50 (am 0, mO am T P23 P32 P33 (fX lm) (fX qa) (fX qa) (fX (hby gt qa lm)) (fX 0) P39 P40 P41 (fY (-1)) P43 P45 P46 P58))) _ _ := h
                          refine lv_aload_n B.1 B.2.1 dX12_next_293 rfl (lv_at hl 1 rfl) ?_
                          refine lv_dup B.1 B.2.1 dX12_next_294 rfl ?_
                          refine y_getX B h kX12 50 wu_eq 35 (z := qa) rfl m_1296 (by decide) dX12_next_295 ?_
                          refine x_iconst B dX12_next_298 ?_
                          refine x_iadd B dX12_next_299 ?_
                          refine y_put B h kX12 50 wu_eq 35 (Nat.le_of_ble_eq_true rfl) (P' := fX (qa + 1)) m_1296 (by decide) rfl rfl rfl rfl dX12_next_300 (fun H locs h => ?_)
                          rw [wu_wu] at h
                          have h : yH D Zk A s ((wu w 50 (am 0, mO am T P23 P32 P33 (fX lm) (fX (qa + 1)) (fX qa) (fX (hby gt qa lm)) (fX 0) P39 P40 P41 (fY (-1)) P43 P45 P46 P58))) _ _ := h
                          refine y_rv B hQ h (by decide) dX12_next_303 ?_
                          exact ⟨rfl, _, _, _, _, _, rfl, by first | omega | exact ⟨by omega, by omega, by omega, by omega, by omega, TOK_w h2 (by omega)⟩⟩
                        · refine lv_iload_n B.1 B.2.1 dX12_next_267 rfl (lv_at hl 0 rfl) ?_
                          refine x_bipush B (by decide) dX12_next_268 ?_
                          refine x_icmp_eq B (by omega) (tgt := 285) dX12_next_270 (by decide) (fun c26 => ?_) (fun c26 => ?_)
                          · refine lv_iload_n B.1 B.2.1 dX12_next_285 rfl (lv_at hl 0 rfl) ?_
                            refine lv_goto (tgt := 290) B.1 B.2.1 dX12_next_286 (by decide) ?_
                            refine y_put B h kX12 50 wu_eq 37 (Nat.le_of_ble_eq_true rfl) (P' := fX (hby gt qa lm)) m_1298 (by decide) rfl rfl rfl rfl dX12_next_290 (fun H locs h => ?_)
                            rw [wu_wu] at h
                            have h : yH D Zk A s ((wu w 50 (am 0, mO am T P23 P32 P33 (fX lm) (fX qa) (fX qa) (fX (hby gt qa lm)) (fX 0) P39 P40 P41 (fY (-1)) P43 P45 P46 P58))) _ _ := h
                            refine lv_aload_n B.1 B.2.1 dX12_next_293 rfl (lv_at hl 1 rfl) ?_
                            refine lv_dup B.1 B.2.1 dX12_next_294 rfl ?_
                            refine y_getX B h kX12 50 wu_eq 35 (z := qa) rfl m_1296 (by decide) dX12_next_295 ?_
                            refine x_iconst B dX12_next_298 ?_
                            refine x_iadd B dX12_next_299 ?_
                            refine y_put B h kX12 50 wu_eq 35 (Nat.le_of_ble_eq_true rfl) (P' := fX (qa + 1)) m_1296 (by decide) rfl rfl rfl rfl dX12_next_300 (fun H locs h => ?_)
                            rw [wu_wu] at h
                            have h : yH D Zk A s ((wu w 50 (am 0, mO am T P23 P32 P33 (fX lm) (fX (qa + 1)) (fX qa) (fX (hby gt qa lm)) (fX 0) P39 P40 P41 (fY (-1)) P43 P45 P46 P58))) _ _ := h
                            refine y_rv B hQ h (by decide) dX12_next_303 ?_
                            exact ⟨rfl, _, _, _, _, _, rfl, by first | omega | exact ⟨by omega, by omega, by omega, by omega, by omega, TOK_w h2 (by omega)⟩⟩
                          · refine lv_iload_n B.1 B.2.1 dX12_next_273 rfl (lv_at hl 0 rfl) ?_
                            refine x_bipush B (by decide) dX12_next_274 ?_
                            refine x_icmp_eq B (by omega) (tgt := 285) dX12_next_276 (by decide) (fun c27 => ?_) (fun c27 => ?_)
                            · refine lv_iload_n B.1 B.2.1 dX12_next_285 rfl (lv_at hl 0 rfl) ?_
                              refine lv_goto (tgt := 290) B.1 B.2.1 dX12_next_286 (by decide) ?_
                              refine y_put B h kX12 50 wu_eq 37 (Nat.le_of_ble_eq_true rfl) (P' := fX (hby gt qa lm)) m_1298 (by decide) rfl rfl rfl rfl dX12_next_290 (fun H locs h => ?_)
                              rw [wu_wu] at h
                              have h : yH D Zk A s ((wu w 50 (am 0, mO am T P23 P32 P33 (fX lm) (fX qa) (fX qa) (fX (hby gt qa lm)) (fX 0) P39 P40 P41 (fY (-1)) P43 P45 P46 P58))) _ _ := h
                              refine lv_aload_n B.1 B.2.1 dX12_next_293 rfl (lv_at hl 1 rfl) ?_
                              refine lv_dup B.1 B.2.1 dX12_next_294 rfl ?_
                              refine y_getX B h kX12 50 wu_eq 35 (z := qa) rfl m_1296 (by decide) dX12_next_295 ?_
                              refine x_iconst B dX12_next_298 ?_
                              refine x_iadd B dX12_next_299 ?_
                              refine y_put B h kX12 50 wu_eq 35 (Nat.le_of_ble_eq_true rfl) (P' := fX (qa + 1)) m_1296 (by decide) rfl rfl rfl rfl dX12_next_300 (fun H locs h => ?_)
                              rw [wu_wu] at h
                              have h : yH D Zk A s ((wu w 50 (am 0, mO am T P23 P32 P33 (fX lm) (fX (qa + 1)) (fX qa) (fX (hby gt qa lm)) (fX 0) P39 P40 P41 (fY (-1)) P43 P45 P46 P58))) _ _ := h
                              refine y_rv B hQ h (by decide) dX12_next_303 ?_
                              exact ⟨rfl, _, _, _, _, _, rfl, by first | omega | exact ⟨by omega, by omega, by omega, by omega, by omega, TOK_w h2 (by omega)⟩⟩
                            · refine lv_iload_n B.1 B.2.1 dX12_next_279 rfl (lv_at hl 0 rfl) ?_
                              refine x_bipush B (by decide) dX12_next_280 ?_
                              refine x_icmp_ne B (by omega) (tgt := 289) dX12_next_282 (by decide) (fun c28 => ?_) (fun c28 => ?_)
                              · refine x_iconst B dX12_next_289 ?_
                                refine y_put B h kX12 50 wu_eq 37 (Nat.le_of_ble_eq_true rfl) (P' := fX 3) m_1298 (by decide) rfl rfl rfl rfl dX12_next_290 (fun H locs h => ?_)
                                rw [wu_wu] at h
                                have h : yH D Zk A s ((wu w 50 (am 0, mO am T P23 P32 P33 (fX lm) (fX qa) (fX qa) (fX 3) (fX 0) P39 P40 P41 (fY (-1)) P43 P45 P46 P58))) _ _ := h
                                refine lv_aload_n B.1 B.2.1 dX12_next_293 rfl (lv_at hl 1 rfl) ?_
                                refine lv_dup B.1 B.2.1 dX12_next_294 rfl ?_
                                refine y_getX B h kX12 50 wu_eq 35 (z := qa) rfl m_1296 (by decide) dX12_next_295 ?_
                                refine x_iconst B dX12_next_298 ?_
                                refine x_iadd B dX12_next_299 ?_
                                refine y_put B h kX12 50 wu_eq 35 (Nat.le_of_ble_eq_true rfl) (P' := fX (qa + 1)) m_1296 (by decide) rfl rfl rfl rfl dX12_next_300 (fun H locs h => ?_)
                                rw [wu_wu] at h
                                have h : yH D Zk A s ((wu w 50 (am 0, mO am T P23 P32 P33 (fX lm) (fX (qa + 1)) (fX qa) (fX 3) (fX 0) P39 P40 P41 (fY (-1)) P43 P45 P46 P58))) _ _ := h
                                refine y_rv B hQ h (by decide) dX12_next_303 ?_
                                exact ⟨rfl, _, _, _, _, _, rfl, by first | omega | exact ⟨by omega, by omega, by omega, by omega, by omega, TOK_w h2 (by omega)⟩⟩
                              · refine lv_iload_n B.1 B.2.1 dX12_next_285 rfl (lv_at hl 0 rfl) ?_
                                refine lv_goto (tgt := 290) B.1 B.2.1 dX12_next_286 (by decide) ?_
                                refine y_put B h kX12 50 wu_eq 37 (Nat.le_of_ble_eq_true rfl) (P' := fX (hby gt qa lm)) m_1298 (by decide) rfl rfl rfl rfl dX12_next_290 (fun H locs h => ?_)
                                rw [wu_wu] at h
                                have h : yH D Zk A s ((wu w 50 (am 0, mO am T P23 P32 P33 (fX lm) (fX qa) (fX qa) (fX (hby gt qa lm)) (fX 0) P39 P40 P41 (fY (-1)) P43 P45 P46 P58))) _ _ := h
                                refine lv_aload_n B.1 B.2.1 dX12_next_293 rfl (lv_at hl 1 rfl) ?_
                                refine lv_dup B.1 B.2.1 dX12_next_294 rfl ?_
                                refine y_getX B h kX12 50 wu_eq 35 (z := qa) rfl m_1296 (by decide) dX12_next_295 ?_
                                refine x_iconst B dX12_next_298 ?_
                                refine x_iadd B dX12_next_299 ?_
                                refine y_put B h kX12 50 wu_eq 35 (Nat.le_of_ble_eq_true rfl) (P' := fX (qa + 1)) m_1296 (by decide) rfl rfl rfl rfl dX12_next_300 (fun H locs h => ?_)
                                rw [wu_wu] at h
                                have h : yH D Zk A s ((wu w 50 (am 0, mO am T P23 P32 P33 (fX lm) (fX (qa + 1)) (fX qa) (fX (hby gt qa lm)) (fX 0) P39 P40 P41 (fY (-1)) P43 P45 P46 P58))) _ _ := h
                                refine y_rv B hQ h (by decide) dX12_next_303 ?_
                                exact ⟨rfl, _, _, _, _, _, rfl, by first | omega | exact ⟨by omega, by omega, by omega, by omega, by omega, TOK_w h2 (by omega)⟩⟩
                  · exact absurd c22 (by omega)
              · exact absurd c13 (by omega)
          · refine lv_aload_n B.1 B.2.1 dX12_next_60 rfl (lv_at hl 1 rfl) ?_
            refine x_iconst B dX12_next_61 ?_
            refine y_put B h kX12 50 wu_eq 37 (Nat.le_of_ble_eq_true rfl) (P' := fX 0) m_1298 (by decide) rfl rfl rfl rfl dX12_next_62 (fun H locs h => ?_)
            rw [wu_wu] at h
            have h : yH D Zk A s ((wu w 50 (am 0, mO am T P23 P32 P33 (fX lm) (fX qa) (fX qa) (fX 0) (fX 0) P39 P40 P41 (fY (-1)) P43 P45 P46 P58))) _ _ := h
            refine lv_goto (tgt := 303) B.1 B.2.1 dX12_next_65 (by decide) ?_
            refine y_rv B hQ h (by decide) dX12_next_303 ?_
            exact ⟨rfl, _, _, _, _, _, rfl, by first | omega | exact ⟨by omega, by omega, by omega, by omega, by omega, TOK_w h2 (by omega)⟩⟩
        · refine lv_aload_n B.1 B.2.1 dX12_next_18 rfl (lv_at hl 0 rfl) ?_
          refine lv_dup B.1 B.2.1 dX12_next_19 rfl ?_
          refine y_getX B h kX12 50 wu_eq 35 (z := qa) rfl m_1296 (by decide) dX12_next_20 ?_
          refine x_iconst B dX12_next_23 ?_
          refine x_iadd B dX12_next_24 ?_
          refine y_put B h kX12 50 wu_eq 35 (Nat.le_of_ble_eq_true rfl) (P' := fX (qa + 1)) m_1296 (by decide) rfl rfl rfl rfl dX12_next_25 (fun H locs h => ?_)
          rw [wu_wu] at h
          have h : yH D Zk A s ((wu w 50 (am 0, mO am T P23 P32 P33 (fX lm) (fX (qa + 1)) P36 P37 P38 P39 P40 P41 P42 P43 P45 P46 P58))) _ _ := h
          refine lv_goto (tgt := 0) B.1 B.2.1 dX12_next_28 (by decide) ?_
          exact ih0 ((qa + 1)) (by omega) (by omega) _ _ _ h (lv_sub hl [0] rfl)
  exact loop0 (((lm - pt : Int)).toNat + 1) pt (by omega) (Nat.lt_succ_self _) _ _ _ h (lv_sub hl [0] rfl)
abbrev r_c_X12_is : Room := { frames := 0, cells := 0, slots := 0, locals := 0 }
set_option maxHeartbeats 4000000 in
set_option maxRecDepth 100000 in
theorem c_X12_is (l : Launch) (D : va_G) (Zk : yK) (ca : Nat → ClassId) (w : yW) (T : Nat → Int → Int) (am : Nat → Nat) (P23 : fP) (P32 : fP) (P33 : fP) (P34 : fP) (P35 : fP) (P36 : fP) (P38 : fP) (P39 : fP) (P40 : fP) (P41 : fP) (P45 : fP) (P46 : fP) (P58 : fP) (tk : Int) (tx : Int) (iw : Int) (lq : Int64) (fo : w 50 = some (am 0, mO am T P23 P32 P33 P34 P35 P36 (fX tk) P38 P39 P40 P41 (fY tx) (fX iw) P45 P46 P58)) (hiw : iw = 0 ∨ iw = 1) (htk : 0 ≤ tk ∧ tk ≤ 255) : yC l D Zk ca yX12_is cX12_is 3 (some .boolean) r_c_X12_is [.ref (am 0), .long (lq)] w (vI w (fun z => (z = 1 ∧ (iw = 0 ∧ tk = 1 ∧ Int64.ofInt tx = lq)) ∨ (z = 0 ∧ (True)))) := by
  refine yC.of2 "WindWordsModel" (by decide) rfl (Nat.le_of_ble_eq_true rfl) ?_
  intro p e s m args below meth c A ls Qf B hnm h hl hQ
  have hl : lv_has ls 3 [(0, .ref (am 0)), (1, .long (lq))] := hl
  refine lv_aload_n B.1 B.2.1 dX12_is_0 rfl (lv_at hl 0 rfl) ?_
  refine y_getX B h kX12 50 fo 43 (z := iw) rfl m_1304 (by decide) dX12_is_1 ?_
  refine x_if_ne B (by omega) (tgt := 28) dX12_is_4 (by decide) (fun c1 => ?_) (fun c1 => ?_)
  · refine x_iconst B dX12_is_28 ?_
    refine y_rz B hQ h (by decide) (by decide) dX12_is_29 ?_
    exact ⟨rfl, _, rfl, Or.inr ⟨rfl, trivial⟩⟩
  · refine lv_aload_n B.1 B.2.1 dX12_is_7 rfl (lv_at hl 0 rfl) ?_
    refine y_getX B h kX12 50 fo 37 (z := tk) rfl m_1298 (by decide) dX12_is_8 ?_
    refine x_iconst B dX12_is_11 ?_
    refine x_icmp_ne B (by omega) (tgt := 28) dX12_is_12 (by decide) (fun c2 => ?_) (fun c2 => ?_)
    · refine x_iconst B dX12_is_28 ?_
      refine y_rz B hQ h (by decide) (by decide) dX12_is_29 ?_
      exact ⟨rfl, _, rfl, Or.inr ⟨rfl, trivial⟩⟩
    · refine lv_aload_n B.1 B.2.1 dX12_is_15 rfl (lv_at hl 0 rfl) ?_
      refine y_get B h kX12 50 fo 42 (P := fY tx) rfl m_1303 (by decide) dX12_is_16 (fun v3 hv3 => ?_)
      cases hv3
      refine lv_lload_n B.1 B.2.1 dX12_is_19 rfl (lv_at hl 1 rfl) ?_
      refine W.lcmp B.1 B.2.1 dX12_is_20 ?_
      refine x_name (fun z4 hz4 ez4 => ?_)
      have cz4 := lc_eq ez4.symm.symm
      refine x_if_ne B (by omega) (tgt := 28) dX12_is_21 (by decide) (fun c5 => ?_) (fun c5 => ?_)
      · refine x_iconst B dX12_is_28 ?_
        refine y_rz B hQ h (by decide) (by decide) dX12_is_29 ?_
        exact ⟨rfl, _, rfl, Or.inr ⟨rfl, trivial⟩⟩
      · refine x_iconst B dX12_is_24 ?_
        refine lv_goto (tgt := 29) B.1 B.2.1 dX12_is_25 (by decide) ?_
        refine y_rz B hQ h (by decide) (by decide) dX12_is_29 ?_
        exact ⟨rfl, _, rfl, Or.inl ⟨rfl, by omega, by omega, cz4 (by omega)⟩⟩
abbrev r_c_X12_errs : Room := { frames := 0, cells := 0, slots := 0, locals := 0 }
set_option maxHeartbeats 4000000 in
set_option maxRecDepth 100000 in
theorem c_X12_errs (l : Launch) (D : va_G) (Zk : yK) (ca : Nat → ClassId) (w : yW) (T : Nat → Int → Int) (am : Nat → Nat) (P23 : fP) (P32 : fP) (P34 : fP) (P35 : fP) (P37 : fP) (P38 : fP) (P39 : fP) (P40 : fP) (P41 : fP) (P42 : fP) (P45 : fP) (P46 : fP) (P58 : fP) (fr : Int) (iw : Int) (fo : w 50 = some (am 0, mO am T P23 P32 (fG (-2147483648) 2147483647) P34 P35 (fX fr) P37 P38 P39 P40 P41 P42 (fX iw) P45 P46 P58)) (hiw : iw = 0 ∨ iw = 1) (hfr : 0 ≤ fr ∧ fr ≤ 900) : yC l D Zk ca yX12_errs cX12_errs 1 none r_c_X12_errs [.ref (am 0)] w (fun r w1 => r = none ∧ w1 = (wu w 50 (am 0, mO am T P23 P32 (fG (-2147483648) 2147483647) P34 P35 (fX fr) P37 P38 P39 P40 P41 P42 (fX 1) P45 P46 P58)) ∧ (True)) := by
  refine yC.of2 "WindWordsModel" (by decide) rfl (Nat.le_of_ble_eq_true rfl) ?_
  intro p e s m args below meth c A ls Qf B hnm h hl hQ
  have hl : lv_has ls 1 [(0, .ref (am 0))] := hl
  have h : yH D Zk A s ((wu w 50 (am 0, mO am T P23 P32 (fG (-2147483648) 2147483647) P34 P35 (fX fr) P37 P38 P39 P40 P41 P42 (fX iw) P45 P46 P58))) s.heap [] := by rw [wu_same (show w 50 = _ from fo)]; exact h
  refine lv_aload_n B.1 B.2.1 dX12_errs_0 rfl (lv_at hl 0 rfl) ?_
  refine y_getX B h kX12 50 wu_eq 43 (z := iw) rfl m_1304 (by decide) dX12_errs_1 ?_
  refine x_if_eq B (by omega) (tgt := 8) dX12_errs_4 (by decide) (fun c1 => ?_) (fun c1 => ?_)
  · refine lv_aload_n B.1 B.2.1 dX12_errs_8 rfl (lv_at hl 0 rfl) ?_
    refine x_iconst B dX12_errs_9 ?_
    refine y_put B h kX12 50 wu_eq 43 (Nat.le_of_ble_eq_true rfl) (P' := fX 1) m_1304 (by decide) rfl rfl rfl rfl dX12_errs_10 (fun H locs h => ?_)
    rw [wu_wu] at h
    have h : yH D Zk A s ((wu w 50 (am 0, mO am T P23 P32 (fG (-2147483648) 2147483647) P34 P35 (fX fr) P37 P38 P39 P40 P41 P42 (fX 1) P45 P46 P58))) _ _ := h
    refine lv_aload_n B.1 B.2.1 dX12_errs_13 rfl (lv_at hl 0 rfl) ?_
    refine lv_aload_n B.1 B.2.1 dX12_errs_14 rfl (lv_at hl 0 rfl) ?_
    refine y_getX B h kX12 50 wu_eq 36 (z := fr) rfl m_1297 (by decide) dX12_errs_15 ?_
    refine y_putS B h kX12 50 wu_eq 33 (P := fG (-2147483648) 2147483647) rfl m_1294 (by decide) ⟨_, rfl, by omega, by omega⟩ rfl rfl rfl dX12_errs_18 (fun H locs h => ?_)
    refine y_rv B hQ h (by decide) dX12_errs_21 ?_
    exact ⟨rfl, rfl, trivial⟩
  · have h := yH.weak (P' := mO am T P23 P32 (fG (-2147483648) 2147483647) P34 P35 (fX fr) P37 P38 P39 P40 P41 P42 (fX 1) P45 P46 P58) h wu_eq (xO_le (fLe_cons (fun _ x => x) (fLe_cons (fun _ x => x) (fLe_cons (fun _ x => x) (fLe_cons (fun _ x => x) (fLe_cons (fun _ x => x) (fLe_cons (fun _ x => x) (fLe_cons (fun _ x => x) (fLe_cons (fun _ x => x) (fLe_cons (fun _ x => x) (fLe_cons (fun _ x => x) (fLe_cons (fun _ x => x) (fLe_cons (fun _ x => x) (fLe_cons (fun _ x => x) (fLe_cons (fun _ x => x) (fLe_cons (fun _ x => x) (fLe_cons (fun _ x => x) (fLe_cons (fun _ x => x) (fLe_cons (fun _ x => x) (fLe_cons (fun _ x => x) (fLe_cons (fun _ x => x) (fLe_cons (fun _ x => x) (fLe_cons (fun _ x => x) (fLe_cons (fun _ x => x) (fLe_cons (fun _ x => x) (fLe_cons (fun _ x => x) (fLe_cons (fun _ x => x) (fLe_cons (fun _ x => x) (fLe_cons (fun _ x => x) (fLe_cons (fun _ x => x) (fLe_cons (fun _ x => x) (fLe_cons (fun _ x => x) (fLe_cons (fun _ x => x) (fLe_cons (fun _ x => x) (fLe_cons (fun _ x => x) (fLe_cons (fun _ x => x) (fLe_cons (fun _ x => x) (fLe_cons (fun _ x => x) (fLe_cons (fun _ x => x) (fLe_cons (fun _ x => x) (fLe_cons (fun _ x => x) (fLe_cons (fun _ x => x) (fLe_cons (fun _ x => x) (fLe_cons (fun _ x => x) (fLe_cons (fX_X (by omega)) (fLe_cons (fun _ x => x) (fLe_cons (fun _ x => x) (fLe_cons (fun _ x => x) (fLe_cons (fun _ x => x) (fLe_cons (fun _ x => x) (fLe_cons (fun _ x => x) (fLe_cons (fun _ x => x) (fLe_cons (fun _ x => x) (fLe_cons (fun _ x => x) (fLe_cons (fun _ x => x) (fLe_cons (fun _ x => x) (fLe_cons (fun _ x => x) (fLe_cons (fun _ x => x) (fLe_cons (fun _ x => x) (fLe_cons (fun _ x => x) (fLe_cons (fun _ x => x) (fLe_cons (fun _ x => x) (fLe_cons (fun _ x => x) (fLe_cons (fun _ x => x) (fLe_cons (fun _ x => x) (fLe_cons (fun _ x => x) (fLe_cons (fun _ x => x) (fLe_cons (fun _ x => x) (fLe_cons (fun _ x => x) (fLe_cons (fun _ x => x) (fLe_cons (fun _ x => x) (fLe_cons (fun _ x => x) (fLe_cons (fun _ x => x) (fLe_cons (fun _ x => x) (fLe_cons (fun _ x => x) (fLe_cons (fun _ x => x) (fLe_cons (fun _ x => x) (fLe_cons (fun _ x => x) (fLe_cons (fun _ x => x) (fLe_cons (fun _ x => x) (fLe_cons (fun _ x => x) fLe_nil)))))))))))))))))))))))))))))))))))))))))))))))))))))))))))))))))))))))))))))))))
    rw [wu_wu] at h
    have h : yH D Zk A s ((wu w 50 (am 0, mO am T P23 P32 (fG (-2147483648) 2147483647) P34 P35 (fX fr) P37 P38 P39 P40 P41 P42 (fX 1) P45 P46 P58))) _ _ := h
    refine y_rv B hQ h (by decide) dX12_errs_7 ?_
    exact ⟨rfl, rfl, trivial⟩
abbrev r_c_X12_mustBe : Room := { frames := 2, cells := 0, slots := 0, locals := 43 }
set_option maxHeartbeats 4000000 in
set_option maxRecDepth 100000 in
theorem c_X12_mustBe (l : Launch) (D : va_G) (Zk : yK) (ca : Nat → ClassId) (w : yW) (T : Nat → Int → Int) (am : Nat → Nat) (P23 : fP) (P32 : fP) (P39 : fP) (P40 : fP) (P41 : fP) (P45 : fP) (P46 : fP) (P58 : fP) (lm : Int) (pt : Int) (fr : Int) (tk : Int) (vl : Int) (tx : Int) (iw : Int) (gt : Nat → Int) (lq : Int64) (fo : w 50 = some (am 0, mO am T P23 P32 (fG (-2147483648) 2147483647) (fX lm) (fX pt) (fX fr) (fX tk) (fX vl) P39 P40 P41 (fY tx) (fX iw) P45 P46 P58)) (f_tape : w 75 = some (am 25, xAI (ca 3) 900 (gX 900 gt))) (hp : 0 ≤ pt ∧ pt ≤ lm ∧ lm ≤ 900) (hq : 0 ≤ fr ∧ fr ≤ pt ∧ 0 ≤ vl ∧ vl ≤ 10000000) (htok : TOK tk tx fr pt) (hiw : iw = 0 ∨ iw = 1) : yC l D Zk ca yX12_mustBe cX12_mustBe 3 none r_c_X12_mustBe [.ref (am 0), .long (lq)] w (fun r w1 => r = none ∧ ∃ pt2 : Int, ∃ fr2 : Int, ∃ tk2 : Int, ∃ vl2 : Int, ∃ tx2 : Int, ∃ iw2 : Int, w1 = (wu w 50 (am 0, mO am T P23 P32 (fG (-2147483648) 2147483647) (fX lm) (fX pt2) (fX fr2) (fX tk2) (fX vl2) P39 P40 P41 (fY tx2) (fX iw2) P45 P46 P58)) ∧ ((fr ≤ fr2 ∧ fr2 ≤ pt2 ∧ pt2 ≤ lm ∧ (0 ≤ vl2 ∧ vl2 ≤ 10000000) ∧ TOK tk2 tx2 fr2 pt2 ∧ (iw2 = 0 ∨ iw2 = 1) ∧ iw ≤ iw2) ∧ (iw2 = 0 → fr + 1 ≤ fr2))) := by
  refine yC.of2 "WindWordsModel" (by decide) rfl (Nat.le_of_ble_eq_true rfl) ?_
  intro p e s m args below meth c A ls Qf B hnm h hl hQ
  have hl : lv_has ls 3 [(0, .ref (am 0)), (1, .long (lq))] := hl
  have h : yH D Zk A s ((wu w 50 (am 0, mO am T P23 P32 (fG (-2147483648) 2147483647) (fX lm) (fX pt) (fX fr) (fX tk) (fX vl) P39 P40 P41 (fY tx) (fX iw) P45 P46 P58))) s.heap [] := by rw [wu_same (show w 50 = _ from fo)]; exact h
  refine lv_aload_n B.1 B.2.1 dX12_mustBe_0 rfl (lv_at hl 0 rfl) ?_
  refine lv_lload_n B.1 B.2.1 dX12_mustBe_1 rfl (lv_at hl 1 rfl) ?_
  refine y_cV B h kX12 50 wu_eq k_X12_is rfl (c_X12_is l D Zk ca _ _ _ P23 P32 (fG (-2147483648) 2147483647) (fX lm) (fX pt) (fX fr) (fX vl) P39 P40 P41 P45 P46 P58 tk _ iw lq wu_eq (by omega) (by omega)) m_1582 rfl (by decide) hl.1 [] (Nat.le_of_ble_eq_true rfl) rfl dX12_mustBe_2 (fun r w1 hq H locs h => ?_)
  obtain ⟨rfl, _, rfl, ⟨rfl, b1⟩ | ⟨rfl, b1⟩⟩ := hq
  · show W p l e r_c_X12_mustBe s m args below meth c _ _ 0 0 Qf (F0 m 5 ls [.int (iI 1)])
    refine x_if_eq B (by omega) (tgt := 15) dX12_mustBe_5 (by decide) (fun c2 => ?_) (fun c2 => ?_)
    · exact absurd c2 (by omega)
    · refine lv_aload_n B.1 B.2.1 dX12_mustBe_8 rfl (lv_at hl 0 rfl) ?_
      refine y_cV B h kX12 50 wu_eq k_X12_next rfl (c_X12_next l D Zk ca _ _ _ P23 P32 (fG (-2147483648) 2147483647) (fX fr) (fX tk) (fX vl) P39 P40 P41 (fY tx) (fX iw) P45 P46 P58 lm pt gt wu_eq (wu_at f_tape (by decide)) (by omega)) m_1558 rfl (by decide) hl.1 [] (Nat.le_of_ble_eq_true rfl) rfl dX12_mustBe_9 (fun r w1 hq H locs h => ?_)
      obtain ⟨rfl, pt2_3, fr2_4, tk2_5, vl2_6, tx2_7, rfl, hr8⟩ := hq
      rw [wu_wu] at h
      have h : yH D Zk A s ((wu w 50 (am 0, mO am T P23 P32 (fG (-2147483648) 2147483647) (fX lm) (fX pt2_3) (fX fr2_4) (fX tk2_5) (fX vl2_6) P39 P40 P41 (fY tx2_7) (fX iw) P45 P46 P58))) _ _ := h
      show W p l e r_c_X12_mustBe s m args below meth c _ _ 0 0 Qf (F0 m 12 ls [])
      refine lv_goto (tgt := 19) B.1 B.2.1 dX12_mustBe_12 (by decide) ?_
      refine y_rv B hQ h (by decide) dX12_mustBe_19 ?_
      exact ⟨rfl, _, _, _, _, _, _, rfl, by first | omega | (refine ⟨?_, ?_⟩ <;> omega)⟩
  · show W p l e r_c_X12_mustBe s m args below meth c _ _ 0 0 Qf (F0 m 5 ls [.int (iI 0)])
    refine x_if_eq B (by omega) (tgt := 15) dX12_mustBe_5 (by decide) (fun c9 => ?_) (fun c9 => ?_)
    · refine lv_aload_n B.1 B.2.1 dX12_mustBe_15 rfl (lv_at hl 0 rfl) ?_
      refine y_cV B h kX12 50 wu_eq k_X12_errs rfl (c_X12_errs l D Zk ca _ _ _ P23 P32 (fX lm) (fX pt) (fX tk) (fX vl) P39 P40 P41 (fY tx) P45 P46 P58 fr iw wu_eq (by omega) (by omega)) m_1569 rfl (by decide) hl.1 [] (Nat.le_of_ble_eq_true rfl) rfl dX12_mustBe_16 (fun r w1 hq H locs h => ?_)
      obtain ⟨rfl, rfl, hr10⟩ := hq
      rw [wu_wu] at h
      have h : yH D Zk A s ((wu w 50 (am 0, mO am T P23 P32 (fG (-2147483648) 2147483647) (fX lm) (fX pt) (fX fr) (fX tk) (fX vl) P39 P40 P41 (fY tx) (fX 1) P45 P46 P58))) _ _ := h
      show W p l e r_c_X12_mustBe s m args below meth c _ _ 0 0 Qf (F0 m 19 ls [])
      refine y_rv B hQ h (by decide) dX12_mustBe_19 ?_
      exact ⟨rfl, _, _, _, _, _, _, rfl, by first | omega | (refine ⟨?_, ?_⟩ <;> omega)⟩
    · exact absurd c9 (by omega)
abbrev r_c_X12_numeral : Room := { frames := 2, cells := 0, slots := 0, locals := 43 }
set_option maxHeartbeats 4000000 in
set_option maxRecDepth 100000 in
theorem c_X12_numeral (l : Launch) (D : va_G) (Zk : yK) (ca : Nat → ClassId) (w : yW) (T : Nat → Int → Int) (am : Nat → Nat) (P23 : fP) (P32 : fP) (P39 : fP) (P40 : fP) (P41 : fP) (P45 : fP) (P46 : fP) (P58 : fP) (lm : Int) (pt : Int) (fr : Int) (tk : Int) (vl : Int) (tx : Int) (iw : Int) (gt : Nat → Int) (most : Int) (fo : w 50 = some (am 0, mO am T P23 P32 (fG (-2147483648) 2147483647) (fX lm) (fX pt) (fX fr) (fX tk) (fX vl) P39 P40 P41 (fY tx) (fX iw) P45 P46 P58)) (f_tape : w 75 = some (am 25, xAI (ca 3) 900 (gX 900 gt))) (hp : 0 ≤ pt ∧ pt ≤ lm ∧ lm ≤ 900) (hq : 0 ≤ fr ∧ fr ≤ pt ∧ 0 ≤ vl ∧ vl ≤ 10000000) (htok : TOK tk tx fr pt) (hiw : iw = 0 ∨ iw = 1) (hmost : 0 ≤ most ∧ most ≤ 9999) : yC l D Zk ca yX12_numeral cX12_numeral 3 (some .int) r_c_X12_numeral [.ref (am 0), .int (iI most)] w (fun r w1 => ∃ z : Int, r = some (.int (iI z)) ∧ ∃ pt2 : Int, ∃ fr2 : Int, ∃ tk2 : Int, ∃ vl2 : Int, ∃ tx2 : Int, ∃ iw2 : Int, w1 = (wu w 50 (am 0, mO am T P23 P32 (fG (-2147483648) 2147483647) (fX lm) (fX pt2) (fX fr2) (fX tk2) (fX vl2) P39 P40 P41 (fY tx2) (fX iw2) P45 P46 P58)) ∧ ((fr ≤ fr2 ∧ fr2 ≤ pt2 ∧ pt2 ≤ lm ∧ (0 ≤ vl2 ∧ vl2 ≤ 10000000) ∧ TOK tk2 tx2 fr2 pt2 ∧ (iw2 = 0 ∨ iw2 = 1) ∧ iw ≤ iw2) ∧ (iw2 = 0 → fr + 1 ≤ fr2) ∧ 0 ≤ z ∧ z ≤ most)) := by
  refine yC.of2 "WindWordsModel" (by decide) rfl (Nat.le_of_ble_eq_true rfl) ?_
  intro p e s m args below meth c A ls Qf B hnm h hl hQ
  have hl : lv_has ls 3 [(0, .ref (am 0)), (1, .int (iI most))] := hl
  have h : yH D Zk A s ((wu w 50 (am 0, mO am T P23 P32 (fG (-2147483648) 2147483647) (fX lm) (fX pt) (fX fr) (fX tk) (fX vl) P39 P40 P41 (fY tx) (fX iw) P45 P46 P58))) s.heap [] := by rw [wu_same (show w 50 = _ from fo)]; exact h
  refine lv_aload_n B.1 B.2.1 dX12_numeral_0 rfl (lv_at hl 0 rfl) ?_
  refine y_getX B h kX12 50 wu_eq 38 (z := vl) rfl m_1299 (by decide) dX12_numeral_1 ?_
  refine lv_istore_n (lv' := [(2, .int (iI vl)), (0, .ref (am 0)), (1, .int (iI most))]) B.1 B.2.1 dX12_numeral_4 rfl hl (by decide) rfl (fun ls hl => ?_)
  refine lv_aload_n B.1 B.2.1 dX12_numeral_5 rfl (lv_at hl 1 rfl) ?_
  refine y_getX B h kX12 50 wu_eq 43 (z := iw) rfl m_1304 (by decide) dX12_numeral_6 ?_
  refine x_if_eq B (by omega) (tgt := 14) dX12_numeral_9 (by decide) (fun c1 => ?_) (fun c1 => ?_)
  · refine lv_aload_n B.1 B.2.1 dX12_numeral_14 rfl (lv_at hl 1 rfl) ?_
    refine y_getX B h kX12 50 wu_eq 37 (z := tk) rfl m_1298 (by decide) dX12_numeral_15 ?_
    refine x_iconst B dX12_numeral_18 ?_
    refine x_icmp_ne B (by omega) (tgt := 27) dX12_numeral_19 (by decide) (fun c2 => ?_) (fun c2 => ?_)
    · refine lv_aload_n B.1 B.2.1 dX12_numeral_27 rfl (lv_at hl 1 rfl) ?_
      refine y_cV B h kX12 50 wu_eq k_X12_errs rfl (c_X12_errs l D Zk ca _ _ _ P23 P32 (fX lm) (fX pt) (fX tk) (fX vl) P39 P40 P41 (fY tx) P45 P46 P58 fr iw wu_eq (by omega) (by omega)) m_1569 rfl (by decide) hl.1 [] (Nat.le_of_ble_eq_true rfl) rfl dX12_numeral_28 (fun r w1 hq H locs h => ?_)
      obtain ⟨rfl, rfl, hr3⟩ := hq
      rw [wu_wu] at h
      have h : yH D Zk A s ((wu w 50 (am 0, mO am T P23 P32 (fG (-2147483648) 2147483647) (fX lm) (fX pt) (fX fr) (fX tk) (fX vl) P39 P40 P41 (fY tx) (fX 1) P45 P46 P58))) _ _ := h
      show W p l e r_c_X12_numeral s m args below meth c _ _ 0 0 Qf (F0 m 31 ls [])
      refine x_iconst B dX12_numeral_31 ?_
      refine y_ri B hQ h (by decide) dX12_numeral_32 ?_
      exact ⟨_, rfl, _, _, _, _, _, _, rfl, by first | omega | (refine ⟨?_, ?_⟩ <;> omega)⟩
    · refine lv_iload_n B.1 B.2.1 dX12_numeral_22 rfl (lv_at hl 0 rfl) ?_
      refine lv_iload_n B.1 B.2.1 dX12_numeral_23 rfl (lv_at hl 2 rfl) ?_
      refine x_icmp_le B (by omega) (tgt := 33) dX12_numeral_24 (by decide) (fun c4 => ?_) (fun c4 => ?_)
      · refine lv_aload_n B.1 B.2.1 dX12_numeral_33 rfl (lv_at hl 1 rfl) ?_
        refine y_cV B h kX12 50 wu_eq k_X12_next rfl (c_X12_next l D Zk ca _ _ _ P23 P32 (fG (-2147483648) 2147483647) (fX fr) (fX tk) (fX vl) P39 P40 P41 (fY tx) (fX iw) P45 P46 P58 lm pt gt wu_eq (wu_at f_tape (by decide)) (by omega)) m_1558 rfl (by decide) hl.1 [] (Nat.le_of_ble_eq_true rfl) rfl dX12_numeral_34 (fun r w1 hq H locs h => ?_)
        obtain ⟨rfl, pt2_5, fr2_6, tk2_7, vl2_8, tx2_9, rfl, hr10⟩ := hq
        rw [wu_wu] at h
        have h : yH D Zk A s ((wu w 50 (am 0, mO am T P23 P32 (fG (-2147483648) 2147483647) (fX lm) (fX pt2_5) (fX fr2_6) (fX tk2_7) (fX vl2_8) P39 P40 P41 (fY tx2_9) (fX iw) P45 P46 P58))) _ _ := h
        show W p l e r_c_X12_numeral s m args below meth c _ _ 0 0 Qf (F0 m 37 ls [])
        refine lv_iload_n B.1 B.2.1 dX12_numeral_37 rfl (lv_at hl 0 rfl) ?_
        refine y_ri B hQ h (by decide) dX12_numeral_38 ?_
        exact ⟨_, rfl, _, _, _, _, _, _, rfl, by first | omega | (refine ⟨?_, ?_⟩ <;> omega)⟩
      · refine lv_aload_n B.1 B.2.1 dX12_numeral_27 rfl (lv_at hl 1 rfl) ?_
        refine y_cV B h kX12 50 wu_eq k_X12_errs rfl (c_X12_errs l D Zk ca _ _ _ P23 P32 (fX lm) (fX pt) (fX tk) (fX vl) P39 P40 P41 (fY tx) P45 P46 P58 fr iw wu_eq (by omega) (by omega)) m_1569 rfl (by decide) hl.1 [] (Nat.le_of_ble_eq_true rfl) rfl dX12_numeral_28 (fun r w1 hq H locs h => ?_)
        obtain ⟨rfl, rfl, hr11⟩ := hq
        rw [wu_wu] at h
        have h : yH D Zk A s ((wu w 50 (am 0, mO am T P23 P32 (fG (-2147483648) 2147483647) (fX lm) (fX pt) (fX fr) (fX tk) (fX vl) P39 P40 P41 (fY tx) (fX 1) P45 P46 P58))) _ _ := h
        show W p l e r_c_X12_numeral s m args below meth c _ _ 0 0 Qf (F0 m 31 ls [])
        refine x_iconst B dX12_numeral_31 ?_
        refine y_ri B hQ h (by decide) dX12_numeral_32 ?_
        exact ⟨_, rfl, _, _, _, _, _, _, rfl, by first | omega | (refine ⟨?_, ?_⟩ <;> omega)⟩
  · refine x_iconst B dX12_numeral_12 ?_
    refine y_ri B hQ h (by decide) dX12_numeral_13 ?_
    exact ⟨_, rfl, _, _, _, _, _, _, rfl, by first | omega | (refine ⟨?_, ?_⟩ <;> omega)⟩
abbrev r_c_X12_asked : Room := { frames := 1, cells := 0, slots := 0, locals := 22 }
set_option maxHeartbeats 4000000 in
set_option maxRecDepth 100000 in
theorem c_X12_asked (l : Launch) (D : va_G) (Zk : yK) (ca : Nat → ClassId) (w : yW) (T : Nat → Int → Int) (am : Nat → Nat) (P23 : fP) (P32 : fP) (P33 : fP) (P34 : fP) (P38 : fP) (P39 : fP) (P40 : fP) (P41 : fP) (P45 : fP) (P46 : fP) (P58 : fP) (pt : Int) (fr : Int) (tk : Int) (tx : Int) (iw : Int) (b : Int) (fo : w 50 = some (am 0, mO am T P23 P32 P33 P34 (fX pt) (fX fr) (fX tk) P38 P39 P40 P41 (fY tx) (fX iw) P45 P46 P58)) (hiw : iw = 0 ∨ iw = 1) (htok : TOK tk tx fr pt) (hb : 0 ≤ b ∧ b ≤ 1) : yC l D Zk ca yX12_asked cX12_asked 2 (some .int) r_c_X12_asked [.ref (am 0), .int (iI b)] w (vI w (fun z => z = -1 ∨ ((0 ≤ z ∧ z ≤ 3) ∧ iw = 0 ∧ tk = 1 ∧ 729 ≤ tx))) := by
  refine yC.of2 "WindWordsModel" (by decide) rfl (Nat.le_of_ble_eq_true rfl) ?_
  intro p e s m args below meth c A ls Qf B hnm h hl hQ
  have hl : lv_has ls 2 [(0, .ref (am 0)), (1, .int (iI b))] := hl
  refine lv_aload_n B.1 B.2.1 dX12_asked_0 rfl (lv_at hl 0 rfl) ?_
  refine x_ldc2 B m_1619 dX12_asked_1 ?_
  refine y_cV B h kX12 50 fo k_X12_is rfl (c_X12_is l D Zk ca _ _ _ P23 P32 P33 P34 (fX pt) (fX fr) P38 P39 P40 P41 P45 P46 P58 tk _ iw ((13372 : Int64)) fo (by omega) (by omega)) m_1582 rfl (by decide) hl.1 [] (Nat.le_of_ble_eq_true rfl) rfl dX12_asked_4 (fun r w1 hq H locs h => ?_)
  obtain ⟨rfl, _, rfl, ⟨rfl, b1⟩ | ⟨rfl, b1⟩⟩ := hq
  · have b1x := tx_eq b1.2.2 (by omega)
    rw [show (13372 : Int64).toInt = 13372 from rfl] at b1x
    show W p l e r_c_X12_asked s m args below meth c _ _ 0 0 Qf (F0 m 7 ls [.int (iI 1)])
    refine x_if_eq B (by omega) (tgt := 12) dX12_asked_7 (by decide) (fun c2 => ?_) (fun c2 => ?_)
    · exact absurd c2 (by omega)
    · refine x_iconst B dX12_asked_10 ?_
      refine y_ri B hQ h (by decide) dX12_asked_11 ?_
      exact ⟨rfl, _, rfl, (by first | omega | trivial | assumption)⟩
  · show W p l e r_c_X12_asked s m args below meth c _ _ 0 0 Qf (F0 m 7 ls [.int (iI 0)])
    refine x_if_eq B (by omega) (tgt := 12) dX12_asked_7 (by decide) (fun c3 => ?_) (fun c3 => ?_)
    · refine lv_aload_n B.1 B.2.1 dX12_asked_12 rfl (lv_at hl 0 rfl) ?_
      refine x_ldc2 B m_1620 dX12_asked_13 ?_
      refine y_cV B h kX12 50 fo k_X12_is rfl (c_X12_is l D Zk ca _ _ _ P23 P32 P33 P34 (fX pt) (fX fr) P38 P39 P40 P41 P45 P46 P58 tk _ iw ((495765 : Int64)) fo (by omega) (by omega)) m_1582 rfl (by decide) hl.1 [] (Nat.le_of_ble_eq_true rfl) rfl dX12_asked_16 (fun r w1 hq H locs h => ?_)
      obtain ⟨rfl, _, rfl, ⟨rfl, b4⟩ | ⟨rfl, b4⟩⟩ := hq
      · have b4x := tx_eq b4.2.2 (by omega)
        rw [show (495765 : Int64).toInt = 495765 from rfl] at b4x
        show W p l e r_c_X12_asked s m args below meth c _ _ 0 0 Qf (F0 m 19 ls [.int (iI 1)])
        refine x_if_eq B (by omega) (tgt := 24) dX12_asked_19 (by decide) (fun c5 => ?_) (fun c5 => ?_)
        · exact absurd c5 (by omega)
        · refine x_iconst B dX12_asked_22 ?_
          refine y_ri B hQ h (by decide) dX12_asked_23 ?_
          exact ⟨rfl, _, rfl, (by first | omega | trivial | assumption)⟩
      · show W p l e r_c_X12_asked s m args below meth c _ _ 0 0 Qf (F0 m 19 ls [.int (iI 0)])
        refine x_if_eq B (by omega) (tgt := 24) dX12_asked_19 (by decide) (fun c6 => ?_) (fun c6 => ?_)
        · refine lv_iload_n B.1 B.2.1 dX12_asked_24 rfl (lv_at hl 1 rfl) ?_
          refine x_if_eq B (by omega) (tgt := 44) dX12_asked_25 (by decide) (fun c7 => ?_) (fun c7 => ?_)
          · refine lv_aload_n B.1 B.2.1 dX12_asked_44 rfl (lv_at hl 0 rfl) ?_
            refine x_ldc2 B m_1622 dX12_asked_45 ?_
            refine y_cV B h kX12 50 fo k_X12_is rfl (c_X12_is l D Zk ca _ _ _ P23 P32 P33 P34 (fX pt) (fX fr) P38 P39 P40 P41 P45 P46 P58 tk _ iw ((10413541 : Int64)) fo (by omega) (by omega)) m_1582 rfl (by decide) hl.1 [] (Nat.le_of_ble_eq_true rfl) rfl dX12_asked_48 (fun r w1 hq H locs h => ?_)
            obtain ⟨rfl, _, rfl, ⟨rfl, b8⟩ | ⟨rfl, b8⟩⟩ := hq
            · have b8x := tx_eq b8.2.2 (by omega)
              rw [show (10413541 : Int64).toInt = 10413541 from rfl] at b8x
              show W p l e r_c_X12_asked s m args below meth c _ _ 0 0 Qf (F0 m 51 ls [.int (iI 1)])
              refine x_if_eq B (by omega) (tgt := 58) dX12_asked_51 (by decide) (fun c9 => ?_) (fun c9 => ?_)
              · exact absurd c9 (by omega)
              · refine x_iconst B dX12_asked_54 ?_
                refine lv_goto (tgt := 73) B.1 B.2.1 dX12_asked_55 (by decide) ?_
                refine y_ri B hQ h (by decide) dX12_asked_73 ?_
                exact ⟨rfl, _, rfl, (by first | omega | trivial | assumption)⟩
            · show W p l e r_c_X12_asked s m args below meth c _ _ 0 0 Qf (F0 m 51 ls [.int (iI 0)])
              refine x_if_eq B (by omega) (tgt := 58) dX12_asked_51 (by decide) (fun c10 => ?_) (fun c10 => ?_)
              · refine lv_aload_n B.1 B.2.1 dX12_asked_58 rfl (lv_at hl 0 rfl) ?_
                refine x_ldc2 B m_1623 dX12_asked_59 ?_
                refine y_cV B h kX12 50 fo k_X12_is rfl (c_X12_is l D Zk ca _ _ _ P23 P32 P33 P34 (fX pt) (fX fr) P38 P39 P40 P41 P45 P46 P58 tk _ iw ((212302449 : Int64)) fo (by omega) (by omega)) m_1582 rfl (by decide) hl.1 [] (Nat.le_of_ble_eq_true rfl) rfl dX12_asked_62 (fun r w1 hq H locs h => ?_)
                obtain ⟨rfl, _, rfl, ⟨rfl, b11⟩ | ⟨rfl, b11⟩⟩ := hq
                · have b11x := tx_eq b11.2.2 (by omega)
                  rw [show (212302449 : Int64).toInt = 212302449 from rfl] at b11x
                  show W p l e r_c_X12_asked s m args below meth c _ _ 0 0 Qf (F0 m 65 ls [.int (iI 1)])
                  refine x_if_eq B (by omega) (tgt := 72) dX12_asked_65 (by decide) (fun c12 => ?_) (fun c12 => ?_)
                  · exact absurd c12 (by omega)
                  · refine x_iconst B dX12_asked_68 ?_
                    refine lv_goto (tgt := 73) B.1 B.2.1 dX12_asked_69 (by decide) ?_
                    refine y_ri B hQ h (by decide) dX12_asked_73 ?_
                    exact ⟨rfl, _, rfl, (by first | omega | trivial | assumption)⟩
                · show W p l e r_c_X12_asked s m args below meth c _ _ 0 0 Qf (F0 m 65 ls [.int (iI 0)])
                  refine x_if_eq B (by omega) (tgt := 72) dX12_asked_65 (by decide) (fun c13 => ?_) (fun c13 => ?_)
                  · refine x_iconst B dX12_asked_72 ?_
                    refine y_ri B hQ h (by decide) dX12_asked_73 ?_
                    exact ⟨rfl, _, rfl, (by first | omega | trivial | assumption)⟩
                  · exact absurd c13 (by omega)
              · exact absurd c10 (by omega)
          · refine lv_aload_n B.1 B.2.1 dX12_asked_28 rfl (lv_at hl 0 rfl) ?_
            refine x_ldc2 B m_1621 dX12_asked_29 ?_
            refine y_cV B h kX12 50 fo k_X12_is rfl (c_X12_is l D Zk ca _ _ _ P23 P32 P33 P34 (fX pt) (fX fr) P38 P39 P40 P41 P45 P46 P58 tk _ iw ((2236391 : Int64)) fo (by omega) (by omega)) m_1582 rfl (by decide) hl.1 [] (Nat.le_of_ble_eq_true rfl) rfl dX12_asked_32 (fun r w1 hq H locs h => ?_)
            obtain ⟨rfl, _, rfl, ⟨rfl, b14⟩ | ⟨rfl, b14⟩⟩ := hq
            · have b14x := tx_eq b14.2.2 (by omega)
              rw [show (2236391 : Int64).toInt = 2236391 from rfl] at b14x
              show W p l e r_c_X12_asked s m args below meth c _ _ 0 0 Qf (F0 m 35 ls [.int (iI 1)])
              refine x_if_eq B (by omega) (tgt := 42) dX12_asked_35 (by decide) (fun c15 => ?_) (fun c15 => ?_)
              · exact absurd c15 (by omega)
              · refine x_iconst B dX12_asked_38 ?_
                refine lv_goto (tgt := 43) B.1 B.2.1 dX12_asked_39 (by decide) ?_
                refine y_ri B hQ h (by decide) dX12_asked_43 ?_
                exact ⟨rfl, _, rfl, (by first | omega | trivial | assumption)⟩
            · show W p l e r_c_X12_asked s m args below meth c _ _ 0 0 Qf (F0 m 35 ls [.int (iI 0)])
              refine x_if_eq B (by omega) (tgt := 42) dX12_asked_35 (by decide) (fun c16 => ?_) (fun c16 => ?_)
              · refine x_iconst B dX12_asked_42 ?_
                refine y_ri B hQ h (by decide) dX12_asked_43 ?_
                exact ⟨rfl, _, rfl, (by first | omega | trivial | assumption)⟩
              · exact absurd c16 (by omega)
        · exact absurd c6 (by omega)
    · exact absurd c3 (by omega)
