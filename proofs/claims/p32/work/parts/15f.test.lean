theorem k_X12_asked : xMV yX12_asked cX12_asked 2 (some .int) 1 := ⟨m_1618, m_1617, m_55, m_104, ⟨by decide +kernel, by decide +kernel, by decide +kernel⟩⟩
theorem k_X12_numeral : xMV yX12_numeral cX12_numeral 3 (some .int) 1 := ⟨m_1591, m_1590, m_49, m_104, ⟨by decide +kernel, by decide +kernel, by decide +kernel⟩⟩
abbrev r_c_X12_test : Room := { frames := 3, cells := 0, slots := 0, locals := 65 }
set_option maxHeartbeats 4000000 in
set_option maxRecDepth 100000 in
theorem c_X12_test (l : Launch) (D : va_G) (Zk : yK) (ca : Nat → ClassId) (w : yW) (T : Nat → Int → Int) (am : Nat → Nat) (P23 : fP) (P32 : fP) (P40 : fP) (P58 : fP) (lm : Int) (pt : Int) (fr : Int) (tk : Int) (vl : Int) (sl : Int) (st : Int) (tx : Int) (iw : Int) (wt : Int) (op : Int) (gt : Nat → Int) (gw : Nat → Int) (E : Nat → Int → Int) (s0 : Int) (b : Int) (fo : w 50 = some (am 0, mO am T P23 P32 (fG (-2147483648) 2147483647) (fX lm) (fX pt) (fX fr) (fX tk) (fX vl) (fX sl) P40 (fX st) (fY tx) (fX iw) (fX wt) (fX op) P58)) (f_tape : w 75 = some (am 25, xAI (ca 3) 900 (gX 900 gt))) (f_step : w 73 = some (am 23, xAI (ca 0) 8000 (gX 8000 (fun j => E 4 (j : Int))))) (f_stepNumber : w 74 = some (am 24, xAI (ca 0) 8000 gA)) (f_waits : w 76 = some (am 26, xAI (ca 0) 48 (gX 48 gw))) (hp : 0 ≤ pt ∧ pt ≤ lm ∧ lm ≤ 900) (hq : 0 ≤ fr ∧ fr ≤ pt ∧ 0 ≤ vl ∧ vl ≤ 10000000) (htok : TOK tk tx fr pt) (hiw : iw = 0 ∨ iw = 1) (hs1 : 0 ≤ sl ∧ sl ≤ 24) (hci : CI E sl s0 st gw wt op 0) (hiw0 : iw = 0) (hro : 3 * (st + wn gw wt.toNat) + 2 ≤ fr) (hb : 0 ≤ b ∧ b ≤ 1) : yC l D Zk ca yX12_test cX12_test 4 none r_c_X12_test [.ref (am 0), .int (iI b)] w (fun r w1 => r = none ∧ ∃ pt2 : Int, ∃ fr2 : Int, ∃ tk2 : Int, ∃ vl2 : Int, ∃ tx2 : Int, ∃ iw2 : Int, ∃ wt2 : Int, ∃ op2 : Int, ∃ st2 : Int, ∃ E2 : Nat → Int → Int, ∃ dd2 : Int, w1 = (wu (wu w 50 (am 0, mO am T P23 P32 (fG (-2147483648) 2147483647) (fX lm) (fX pt2) (fX fr2) (fX tk2) (fX vl2) (fX sl) P40 (fX st2) (fY tx2) (fX iw2) (fX wt2) (fX op2) P58)) 73 (am 23, xAI (ca 0) 8000 (gX 8000 (fun j => E2 4 (j : Int))))) ∧ ((fr ≤ fr2 ∧ fr2 ≤ pt2 ∧ pt2 ≤ lm ∧ (0 ≤ vl2 ∧ vl2 ≤ 10000000) ∧ TOK tk2 tx2 fr2 pt2 ∧ (iw2 = 0 ∨ iw2 = 1) ∧ iw ≤ iw2) ∧ CI E2 sl s0 st2 gw wt2 op2 dd2 ∧ (dd2 = 0 ∨ dd2 = 1) ∧ (iw2 = 0 → dd2 = 1 ∧ fr + 1 ≤ fr2 ∧ 3 * (st2 + wn gw wt2.toNat) + 4 ≤ fr2) ∧ 3 * (st2 + wn gw wt2.toNat) ≤ fr2 ∧ FR E E2 sl s0)) := by
  refine yC.of2 "WindWordsModel" (by decide) rfl (Nat.le_of_ble_eq_true rfl) ?_
  intro p e s m args below meth c A ls Qf B hnm h hl hQ
  have hl : lv_has ls 4 [(0, .ref (am 0)), (1, .int (iI b))] := hl
  have hcw := hci.wt
  have hcq := hci.2.2.2.1
  have hcs := hci.1
  have hcn := wn_0 gw wt.toNat
  have h : yH D Zk A s ((wu (wu w 50 (am 0, mO am T P23 P32 (fG (-2147483648) 2147483647) (fX lm) (fX pt) (fX fr) (fX tk) (fX vl) (fX sl) P40 (fX st) (fY tx) (fX iw) (fX wt) (fX op) P58)) 73 (am 23, xAI (ca 0) 8000 (gX 8000 (fun j => E 4 (j : Int)))))) s.heap [] := by rw [wu_same (show w 50 = _ from fo), wu_same (show w 73 = _ from f_step)]; exact h
  refine lv_aload_n B.1 B.2.1 dX12_test_0 rfl (lv_at hl 0 rfl) ?_
  refine lv_iload_n B.1 B.2.1 dX12_test_1 rfl (lv_at hl 1 rfl) ?_
  refine y_cV B h kX12 50 (wu_at wu_eq (by decide)) k_X12_asked rfl (c_X12_asked l D Zk ca _ _ _ P23 P32 (fG (-2147483648) 2147483647) (fX lm) (fX vl) (fX sl) P40 (fX st) (fX wt) (fX op) P58 pt fr tk _ iw b (wu_at wu_eq (by decide)) (by omega) (by omega) (by omega)) m_1615 rfl (by decide) hl.1 [] (Nat.le_of_ble_eq_true rfl) rfl dX12_test_2 (fun r w1 hq H locs h => ?_)
  obtain ⟨rfl, z1, rfl, hz1⟩ := hq
  show W p l e r_c_X12_test s m args below meth c _ _ 0 0 Qf (F0 m 5 ls [.int (iI z1)])
  refine lv_istore_n (lv' := [(2, .int (iI z1)), (0, .ref (am 0)), (1, .int (iI b))]) B.1 B.2.1 dX12_test_5 rfl hl (by decide) rfl (fun ls hl => ?_)
  refine lv_iload_n B.1 B.2.1 dX12_test_6 rfl (lv_at hl 0 rfl) ?_
  refine x_if_ge B (by omega) (tgt := 15) dX12_test_7 (by decide) (fun c2 => ?_) (fun c2 => ?_)
  · refine lv_aload_n B.1 B.2.1 dX12_test_15 rfl (lv_at hl 1 rfl) ?_
    refine y_cV B h kX12 50 (wu_at wu_eq (by decide)) k_X12_next rfl (c_X12_next l D Zk ca _ _ _ P23 P32 (fG (-2147483648) 2147483647) (fX fr) (fX tk) (fX vl) (fX sl) P40 (fX st) (fY tx) (fX iw) (fX wt) (fX op) P58 lm pt gt (wu_at wu_eq (by decide)) (wu_at (wu_at f_tape (by decide)) (by decide)) (by omega)) m_1558 rfl (by decide) hl.1 [] (Nat.le_of_ble_eq_true rfl) rfl dX12_test_16 (fun r w1 hq H locs h => ?_)
    obtain ⟨rfl, pt2_3, fr2_4, tk2_5, vl2_6, tx2_7, rfl, hr8⟩ := hq
    rw [wu_comm (show (50 : Nat) ≠ 73 by decide), wu_wu] at h
    have h : yH D Zk A s ((wu (wu w 73 (am 23, xAI (ca 0) 8000 (gX 8000 (fun j => E 4 (j : Int))))) 50 (am 0, mO am T P23 P32 (fG (-2147483648) 2147483647) (fX lm) (fX pt2_3) (fX fr2_4) (fX tk2_5) (fX vl2_6) (fX sl) P40 (fX st) (fY tx2_7) (fX iw) (fX wt) (fX op) P58))) _ _ := h
    show W p l e r_c_X12_test s m args below meth c _ _ 0 0 Qf (F0 m 19 ls [])
    refine lv_aload_n B.1 B.2.1 dX12_test_19 rfl (lv_at hl 1 rfl) ?_
    refine y_getX B h kX12 50 wu_eq 37 (z := tk2_5) rfl m_1298 (by decide) dX12_test_20 ?_
    refine x_bipush B (by decide) dX12_test_23 ?_
    refine x_icmp_ne B (by omega) (tgt := 32) dX12_test_25 (by decide) (fun c9 => ?_) (fun c9 => ?_)
    · refine lv_aload_n B.1 B.2.1 dX12_test_32 rfl (lv_at hl 1 rfl) ?_
      refine y_getX B h kX12 50 wu_eq 37 (z := tk2_5) rfl m_1298 (by decide) dX12_test_33 ?_
      refine x_bipush B (by decide) dX12_test_36 ?_
      refine x_icmp_ne B (by omega) (tgt := 45) dX12_test_38 (by decide) (fun c10 => ?_) (fun c10 => ?_)
      · refine lv_aload_n B.1 B.2.1 dX12_test_45 rfl (lv_at hl 1 rfl) ?_
        refine y_getX B h kX12 50 wu_eq 37 (z := tk2_5) rfl m_1298 (by decide) dX12_test_46 ?_
        refine x_bipush B (by decide) dX12_test_49 ?_
        refine x_icmp_ne B (by omega) (tgt := 58) dX12_test_51 (by decide) (fun c11 => ?_) (fun c11 => ?_)
        · refine x_iconst B dX12_test_58 ?_
          refine lv_istore_n (lv' := [(3, .int (iI (-1))), (2, .int (iI z1)), (0, .ref (am 0)), (1, .int (iI b))]) B.1 B.2.1 dX12_test_59 rfl hl (by decide) rfl (fun ls hl => ?_)
          refine lv_iload_n B.1 B.2.1 dX12_test_60 rfl (lv_at hl 0 rfl) ?_
          refine x_if_ge B (by omega) (tgt := 69) dX12_test_61 (by decide) (fun c12 => ?_) (fun c12 => ?_)
          · exact absurd c12 (by omega)
          · refine lv_aload_n B.1 B.2.1 dX12_test_64 rfl (lv_at hl 2 rfl) ?_
            refine y_cV B h kX12 50 wu_eq k_X12_errs rfl (c_X12_errs l D Zk ca _ _ _ P23 P32 (fX lm) (fX pt2_3) (fX tk2_5) (fX vl2_6) (fX sl) P40 (fX st) (fY tx2_7) (fX wt) (fX op) P58 fr2_4 iw wu_eq (by omega) (by omega)) m_1569 rfl (by decide) hl.1 [] (Nat.le_of_ble_eq_true rfl) rfl dX12_test_65 (fun r w1 hq H locs h => ?_)
            obtain ⟨rfl, rfl, hr13⟩ := hq
            rw [wu_wu] at h
            have h : yH D Zk A s ((wu (wu w 73 (am 23, xAI (ca 0) 8000 (gX 8000 (fun j => E 4 (j : Int))))) 50 (am 0, mO am T P23 P32 (fG (-2147483648) 2147483647) (fX lm) (fX pt2_3) (fX fr2_4) (fX tk2_5) (fX vl2_6) (fX sl) P40 (fX st) (fY tx2_7) (fX 1) (fX wt) (fX op) P58))) _ _ := h
            show W p l e r_c_X12_test s m args below meth c _ _ 0 0 Qf (F0 m 68 ls [])
            rw [wu_comm (show (73 : Nat) ≠ 50 by decide)] at h
            have h : yH D Zk A s ((wu (wu w 50 (am 0, mO am T P23 P32 (fG (-2147483648) 2147483647) (fX lm) (fX pt2_3) (fX fr2_4) (fX tk2_5) (fX vl2_6) (fX sl) P40 (fX st) (fY tx2_7) (fX 1) (fX wt) (fX op) P58)) 73 (am 23, xAI (ca 0) 8000 (gX 8000 (fun j => E 4 (j : Int)))))) _ _ := h
            refine y_rv B hQ h (by decide) dX12_test_68 ?_
            exact ⟨rfl, _, _, _, _, _, _, _, _, _, _, 0, rfl, ⟨by omega, hci, Or.inl rfl, by omega, by omega, FR_0⟩⟩
        · refine x_iconst B dX12_test_54 ?_
          refine lv_goto (tgt := 59) B.1 B.2.1 dX12_test_55 (by decide) ?_
          refine lv_istore_n (lv' := [(3, .int (iI 2)), (2, .int (iI z1)), (0, .ref (am 0)), (1, .int (iI b))]) B.1 B.2.1 dX12_test_59 rfl hl (by decide) rfl (fun ls hl => ?_)
          refine lv_iload_n B.1 B.2.1 dX12_test_60 rfl (lv_at hl 0 rfl) ?_
          refine x_if_ge B (by omega) (tgt := 69) dX12_test_61 (by decide) (fun c14 => ?_) (fun c14 => ?_)
          · refine lv_aload_n B.1 B.2.1 dX12_test_69 rfl (lv_at hl 2 rfl) ?_
            refine y_cV B h kX12 50 wu_eq k_X12_next rfl (c_X12_next l D Zk ca _ _ _ P23 P32 (fG (-2147483648) 2147483647) (fX fr2_4) (fX tk2_5) (fX vl2_6) (fX sl) P40 (fX st) (fY tx2_7) (fX iw) (fX wt) (fX op) P58 lm pt2_3 gt wu_eq (wu_at (wu_at f_tape (by decide)) (by decide)) (by omega)) m_1558 rfl (by decide) hl.1 [] (Nat.le_of_ble_eq_true rfl) rfl dX12_test_70 (fun r w1 hq H locs h => ?_)
            obtain ⟨rfl, pt2_15, fr2_16, tk2_17, vl2_18, tx2_19, rfl, hr20⟩ := hq
            rw [wu_wu] at h
            have h : yH D Zk A s ((wu (wu w 73 (am 23, xAI (ca 0) 8000 (gX 8000 (fun j => E 4 (j : Int))))) 50 (am 0, mO am T P23 P32 (fG (-2147483648) 2147483647) (fX lm) (fX pt2_15) (fX fr2_16) (fX tk2_17) (fX vl2_18) (fX sl) P40 (fX st) (fY tx2_19) (fX iw) (fX wt) (fX op) P58))) _ _ := h
            show W p l e r_c_X12_test s m args below meth c _ _ 0 0 Qf (F0 m 73 ls [])
            refine lv_aload_n B.1 B.2.1 dX12_test_73 rfl (lv_at hl 2 rfl) ?_
            refine x_iconst B dX12_test_74 ?_
            refine lv_iload_n B.1 B.2.1 dX12_test_75 rfl (lv_at hl 1 rfl) ?_
            refine x_imul B dX12_test_76 ?_
            refine lv_iload_n B.1 B.2.1 dX12_test_77 rfl (lv_at hl 0 rfl) ?_
            refine x_iadd B dX12_test_78 ?_
            refine lv_aload_n B.1 B.2.1 dX12_test_79 rfl (lv_at hl 2 rfl) ?_
            refine x_sipush B (by decide) dX12_test_80 ?_
            refine y_cV B h kX12 50 wu_eq k_X12_numeral rfl (c_X12_numeral l D Zk ca _ _ _ P23 P32 (fX sl) P40 (fX st) (fX wt) (fX op) P58 lm pt2_15 fr2_16 tk2_17 vl2_18 _ iw gt 9999 wu_eq (wu_at (wu_at f_tape (by decide)) (by decide)) (by omega) (by omega) (by omega) (by omega) (by omega)) m_1588 rfl (by decide) hl.1 [.int (iI ((4 * z1) + 2)), .ref (am 0)] (Nat.le_of_ble_eq_true rfl) rfl dX12_test_83 (fun r w1 hq H locs h => ?_)
            obtain ⟨z28, rfl, pt2_21, fr2_22, tk2_23, vl2_24, tx2_25, iw2_26, rfl, hr27⟩ := hq
            rw [wu_wu] at h
            have h : yH D Zk A s ((wu (wu w 73 (am 23, xAI (ca 0) 8000 (gX 8000 (fun j => E 4 (j : Int))))) 50 (am 0, mO am T P23 P32 (fG (-2147483648) 2147483647) (fX lm) (fX pt2_21) (fX fr2_22) (fX tk2_23) (fX vl2_24) (fX sl) P40 (fX st) (fY tx2_25) (fX iw2_26) (fX wt) (fX op) P58))) _ _ := h
            show W p l e r_c_X12_test s m args below meth c _ _ 0 0 Qf (F0 m 86 ls [.int (iI z28), .int (iI ((4 * z1) + 2)), .ref (am 0)])
            refine y_cV B h kX12 50 wu_eq k_X12_adds rfl (c_X12_adds l D Zk ca _ _ _ P23 P32 (fG (-2147483648) 2147483647) (fX lm) (fX pt2_21) (fX fr2_22) (fX tk2_23) (fX vl2_24) P40 (fY tx2_25) (fX iw2_26) (fX wt) (fX op) P58 sl st E (((4 * z1) + 2)) z28 wu_eq (wu_at wu_eq (by decide)) (wu_at (wu_at f_stepNumber (by decide)) (by decide)) (by omega) (by omega) (by omega)) m_1624 rfl (by decide) hl.1 [] (Nat.le_of_ble_eq_true rfl) rfl dX12_test_86 (fun r w1 hq H locs h => ?_)
            obtain ⟨rfl, rfl, hr29⟩ := hq
            rw [wu_wu, wu_comm (show (73 : Nat) ≠ 50 by decide), wu_wu] at h
            have h : yH D Zk A s ((wu (wu w 50 (am 0, mO am T P23 P32 (fG (-2147483648) 2147483647) (fX lm) (fX pt2_21) (fX fr2_22) (fX tk2_23) (fX vl2_24) (fX sl) P40 (fX (st + 1)) (fY tx2_25) (fX iw2_26) (fX wt) (fX op) P58)) 73 (am 23, xAI (ca 0) 8000 (gX 8000 (fun j => es E 4 (320 * sl + st) (((4 * z1) + 2)) 4 (j : Int)))))) _ _ := h
            show W p l e r_c_X12_test s m args below meth c _ _ 0 0 Qf (F0 m 89 ls [])
            have hn9 := CI.num (x := (((4 * z1) + 2))) (st' := st + 1) hci (by omega) rfl
            refine lv_aload_n B.1 B.2.1 dX12_test_89 rfl (lv_at hl 2 rfl) ?_
            refine x_bipush B (by decide) dX12_test_90 ?_
            refine x_bipush B (by decide) dX12_test_92 ?_
            refine y_cV B h kX12 50 (wu_at wu_eq (by decide)) k_X12_comes rfl (c_X12_comes l D Zk ca _ _ _ P23 P32 (fG (-2147483648) 2147483647) (fX lm) (fX pt2_21) (fX fr2_22) (fX tk2_23) (fX vl2_24) P40 (fY tx2_25) (fX iw2_26) P58 sl ((st + 1)) wt op gw (es E 4 (320 * sl + st) (((4 * z1) + 2))) _ 20 20 (wu_at wu_eq (by decide)) wu_eq (wu_at (wu_at f_stepNumber (by decide)) (by decide)) (wu_at (wu_at f_waits (by decide)) (by decide)) (by omega) hn9 (by omega) (by omega) (by omega)) m_1628 rfl (by decide) hl.1 [] (Nat.le_of_ble_eq_true rfl) rfl dX12_test_94 (fun r w1 hq H locs h => ?_)
            obtain ⟨rfl, E2_30, st2_31, wt2_32, op2_33, rfl, hr34⟩ := hq
            rw [wu_comm (show (50 : Nat) ≠ 73 by decide), wu_wu, wu_comm (show (73 : Nat) ≠ 50 by decide), wu_wu] at h
            have h : yH D Zk A s ((wu (wu w 50 (am 0, mO am T P23 P32 (fG (-2147483648) 2147483647) (fX lm) (fX pt2_21) (fX fr2_22) (fX tk2_23) (fX vl2_24) (fX sl) P40 (fX st2_31) (fY tx2_25) (fX iw2_26) (fX wt2_32) (fX op2_33) P58)) 73 (am 23, xAI (ca 0) 8000 (gX 8000 (fun j => E2_30 4 (j : Int)))))) _ _ := h
            show W p l e r_c_X12_test s m args below meth c _ _ 0 0 Qf (F0 m 97 ls [])
            rw [wu_comm (show (50 : Nat) ≠ 73 by decide)] at h
            have h : yH D Zk A s ((wu (wu w 73 (am 23, xAI (ca 0) 8000 (gX 8000 (fun j => E2_30 4 (j : Int))))) 50 (am 0, mO am T P23 P32 (fG (-2147483648) 2147483647) (fX lm) (fX pt2_21) (fX fr2_22) (fX tk2_23) (fX vl2_24) (fX sl) P40 (fX st2_31) (fY tx2_25) (fX iw2_26) (fX wt2_32) (fX op2_33) P58))) _ _ := h
            rw [wu_comm (show (73 : Nat) ≠ 50 by decide)] at h
            have h : yH D Zk A s ((wu (wu w 50 (am 0, mO am T P23 P32 (fG (-2147483648) 2147483647) (fX lm) (fX pt2_21) (fX fr2_22) (fX tk2_23) (fX vl2_24) (fX sl) P40 (fX st2_31) (fY tx2_25) (fX iw2_26) (fX wt2_32) (fX op2_33) P58)) 73 (am 23, xAI (ca 0) 8000 (gX 8000 (fun j => E2_30 4 (j : Int)))))) _ _ := h
            refine y_rv B hQ h (by decide) dX12_test_97 ?_
            exact ⟨rfl, _, _, _, _, _, _, _, _, _, _, 1, rfl, ⟨by omega, hr34.1, Or.inr rfl, by omega, by omega, FR_tr (FR_es FR_0 (by omega)) hr34.2.2.2.2⟩⟩
          · exact absurd c14 (by omega)
      · refine x_iconst B dX12_test_41 ?_
        refine lv_goto (tgt := 59) B.1 B.2.1 dX12_test_42 (by decide) ?_
        refine lv_istore_n (lv' := [(3, .int (iI 1)), (2, .int (iI z1)), (0, .ref (am 0)), (1, .int (iI b))]) B.1 B.2.1 dX12_test_59 rfl hl (by decide) rfl (fun ls hl => ?_)
        refine lv_iload_n B.1 B.2.1 dX12_test_60 rfl (lv_at hl 0 rfl) ?_
        refine x_if_ge B (by omega) (tgt := 69) dX12_test_61 (by decide) (fun c35 => ?_) (fun c35 => ?_)
        · refine lv_aload_n B.1 B.2.1 dX12_test_69 rfl (lv_at hl 2 rfl) ?_
          refine y_cV B h kX12 50 wu_eq k_X12_next rfl (c_X12_next l D Zk ca _ _ _ P23 P32 (fG (-2147483648) 2147483647) (fX fr2_4) (fX tk2_5) (fX vl2_6) (fX sl) P40 (fX st) (fY tx2_7) (fX iw) (fX wt) (fX op) P58 lm pt2_3 gt wu_eq (wu_at (wu_at f_tape (by decide)) (by decide)) (by omega)) m_1558 rfl (by decide) hl.1 [] (Nat.le_of_ble_eq_true rfl) rfl dX12_test_70 (fun r w1 hq H locs h => ?_)
          obtain ⟨rfl, pt2_36, fr2_37, tk2_38, vl2_39, tx2_40, rfl, hr41⟩ := hq
          rw [wu_wu] at h
          have h : yH D Zk A s ((wu (wu w 73 (am 23, xAI (ca 0) 8000 (gX 8000 (fun j => E 4 (j : Int))))) 50 (am 0, mO am T P23 P32 (fG (-2147483648) 2147483647) (fX lm) (fX pt2_36) (fX fr2_37) (fX tk2_38) (fX vl2_39) (fX sl) P40 (fX st) (fY tx2_40) (fX iw) (fX wt) (fX op) P58))) _ _ := h
          show W p l e r_c_X12_test s m args below meth c _ _ 0 0 Qf (F0 m 73 ls [])
          refine lv_aload_n B.1 B.2.1 dX12_test_73 rfl (lv_at hl 2 rfl) ?_
          refine x_iconst B dX12_test_74 ?_
          refine lv_iload_n B.1 B.2.1 dX12_test_75 rfl (lv_at hl 1 rfl) ?_
          refine x_imul B dX12_test_76 ?_
          refine lv_iload_n B.1 B.2.1 dX12_test_77 rfl (lv_at hl 0 rfl) ?_
          refine x_iadd B dX12_test_78 ?_
          refine lv_aload_n B.1 B.2.1 dX12_test_79 rfl (lv_at hl 2 rfl) ?_
          refine x_sipush B (by decide) dX12_test_80 ?_
          refine y_cV B h kX12 50 wu_eq k_X12_numeral rfl (c_X12_numeral l D Zk ca _ _ _ P23 P32 (fX sl) P40 (fX st) (fX wt) (fX op) P58 lm pt2_36 fr2_37 tk2_38 vl2_39 _ iw gt 9999 wu_eq (wu_at (wu_at f_tape (by decide)) (by decide)) (by omega) (by omega) (by omega) (by omega) (by omega)) m_1588 rfl (by decide) hl.1 [.int (iI ((4 * z1) + 1)), .ref (am 0)] (Nat.le_of_ble_eq_true rfl) rfl dX12_test_83 (fun r w1 hq H locs h => ?_)
          obtain ⟨z49, rfl, pt2_42, fr2_43, tk2_44, vl2_45, tx2_46, iw2_47, rfl, hr48⟩ := hq
          rw [wu_wu] at h
          have h : yH D Zk A s ((wu (wu w 73 (am 23, xAI (ca 0) 8000 (gX 8000 (fun j => E 4 (j : Int))))) 50 (am 0, mO am T P23 P32 (fG (-2147483648) 2147483647) (fX lm) (fX pt2_42) (fX fr2_43) (fX tk2_44) (fX vl2_45) (fX sl) P40 (fX st) (fY tx2_46) (fX iw2_47) (fX wt) (fX op) P58))) _ _ := h
          show W p l e r_c_X12_test s m args below meth c _ _ 0 0 Qf (F0 m 86 ls [.int (iI z49), .int (iI ((4 * z1) + 1)), .ref (am 0)])
          refine y_cV B h kX12 50 wu_eq k_X12_adds rfl (c_X12_adds l D Zk ca _ _ _ P23 P32 (fG (-2147483648) 2147483647) (fX lm) (fX pt2_42) (fX fr2_43) (fX tk2_44) (fX vl2_45) P40 (fY tx2_46) (fX iw2_47) (fX wt) (fX op) P58 sl st E (((4 * z1) + 1)) z49 wu_eq (wu_at wu_eq (by decide)) (wu_at (wu_at f_stepNumber (by decide)) (by decide)) (by omega) (by omega) (by omega)) m_1624 rfl (by decide) hl.1 [] (Nat.le_of_ble_eq_true rfl) rfl dX12_test_86 (fun r w1 hq H locs h => ?_)
          obtain ⟨rfl, rfl, hr50⟩ := hq
          rw [wu_wu, wu_comm (show (73 : Nat) ≠ 50 by decide), wu_wu] at h
          have h : yH D Zk A s ((wu (wu w 50 (am 0, mO am T P23 P32 (fG (-2147483648) 2147483647) (fX lm) (fX pt2_42) (fX fr2_43) (fX tk2_44) (fX vl2_45) (fX sl) P40 (fX (st + 1)) (fY tx2_46) (fX iw2_47) (fX wt) (fX op) P58)) 73 (am 23, xAI (ca 0) 8000 (gX 8000 (fun j => es E 4 (320 * sl + st) (((4 * z1) + 1)) 4 (j : Int)))))) _ _ := h
          show W p l e r_c_X12_test s m args below meth c _ _ 0 0 Qf (F0 m 89 ls [])
          have hn9 := CI.num (x := (((4 * z1) + 1))) (st' := st + 1) hci (by omega) rfl
          refine lv_aload_n B.1 B.2.1 dX12_test_89 rfl (lv_at hl 2 rfl) ?_
          refine x_bipush B (by decide) dX12_test_90 ?_
          refine x_bipush B (by decide) dX12_test_92 ?_
          refine y_cV B h kX12 50 (wu_at wu_eq (by decide)) k_X12_comes rfl (c_X12_comes l D Zk ca _ _ _ P23 P32 (fG (-2147483648) 2147483647) (fX lm) (fX pt2_42) (fX fr2_43) (fX tk2_44) (fX vl2_45) P40 (fY tx2_46) (fX iw2_47) P58 sl ((st + 1)) wt op gw (es E 4 (320 * sl + st) (((4 * z1) + 1))) _ 20 20 (wu_at wu_eq (by decide)) wu_eq (wu_at (wu_at f_stepNumber (by decide)) (by decide)) (wu_at (wu_at f_waits (by decide)) (by decide)) (by omega) hn9 (by omega) (by omega) (by omega)) m_1628 rfl (by decide) hl.1 [] (Nat.le_of_ble_eq_true rfl) rfl dX12_test_94 (fun r w1 hq H locs h => ?_)
          obtain ⟨rfl, E2_51, st2_52, wt2_53, op2_54, rfl, hr55⟩ := hq
          rw [wu_comm (show (50 : Nat) ≠ 73 by decide), wu_wu, wu_comm (show (73 : Nat) ≠ 50 by decide), wu_wu] at h
          have h : yH D Zk A s ((wu (wu w 50 (am 0, mO am T P23 P32 (fG (-2147483648) 2147483647) (fX lm) (fX pt2_42) (fX fr2_43) (fX tk2_44) (fX vl2_45) (fX sl) P40 (fX st2_52) (fY tx2_46) (fX iw2_47) (fX wt2_53) (fX op2_54) P58)) 73 (am 23, xAI (ca 0) 8000 (gX 8000 (fun j => E2_51 4 (j : Int)))))) _ _ := h
          show W p l e r_c_X12_test s m args below meth c _ _ 0 0 Qf (F0 m 97 ls [])
          rw [wu_comm (show (50 : Nat) ≠ 73 by decide)] at h
          have h : yH D Zk A s ((wu (wu w 73 (am 23, xAI (ca 0) 8000 (gX 8000 (fun j => E2_51 4 (j : Int))))) 50 (am 0, mO am T P23 P32 (fG (-2147483648) 2147483647) (fX lm) (fX pt2_42) (fX fr2_43) (fX tk2_44) (fX vl2_45) (fX sl) P40 (fX st2_52) (fY tx2_46) (fX iw2_47) (fX wt2_53) (fX op2_54) P58))) _ _ := h
          rw [wu_comm (show (73 : Nat) ≠ 50 by decide)] at h
          have h : yH D Zk A s ((wu (wu w 50 (am 0, mO am T P23 P32 (fG (-2147483648) 2147483647) (fX lm) (fX pt2_42) (fX fr2_43) (fX tk2_44) (fX vl2_45) (fX sl) P40 (fX st2_52) (fY tx2_46) (fX iw2_47) (fX wt2_53) (fX op2_54) P58)) 73 (am 23, xAI (ca 0) 8000 (gX 8000 (fun j => E2_51 4 (j : Int)))))) _ _ := h
          refine y_rv B hQ h (by decide) dX12_test_97 ?_
          exact ⟨rfl, _, _, _, _, _, _, _, _, _, _, 1, rfl, ⟨by omega, hr55.1, Or.inr rfl, by omega, by omega, FR_tr (FR_es FR_0 (by omega)) hr55.2.2.2.2⟩⟩
        · exact absurd c35 (by omega)
    · refine x_iconst B dX12_test_28 ?_
      refine lv_goto (tgt := 59) B.1 B.2.1 dX12_test_29 (by decide) ?_
      refine lv_istore_n (lv' := [(3, .int (iI 0)), (2, .int (iI z1)), (0, .ref (am 0)), (1, .int (iI b))]) B.1 B.2.1 dX12_test_59 rfl hl (by decide) rfl (fun ls hl => ?_)
      refine lv_iload_n B.1 B.2.1 dX12_test_60 rfl (lv_at hl 0 rfl) ?_
      refine x_if_ge B (by omega) (tgt := 69) dX12_test_61 (by decide) (fun c56 => ?_) (fun c56 => ?_)
      · refine lv_aload_n B.1 B.2.1 dX12_test_69 rfl (lv_at hl 2 rfl) ?_
        refine y_cV B h kX12 50 wu_eq k_X12_next rfl (c_X12_next l D Zk ca _ _ _ P23 P32 (fG (-2147483648) 2147483647) (fX fr2_4) (fX tk2_5) (fX vl2_6) (fX sl) P40 (fX st) (fY tx2_7) (fX iw) (fX wt) (fX op) P58 lm pt2_3 gt wu_eq (wu_at (wu_at f_tape (by decide)) (by decide)) (by omega)) m_1558 rfl (by decide) hl.1 [] (Nat.le_of_ble_eq_true rfl) rfl dX12_test_70 (fun r w1 hq H locs h => ?_)
        obtain ⟨rfl, pt2_57, fr2_58, tk2_59, vl2_60, tx2_61, rfl, hr62⟩ := hq
        rw [wu_wu] at h
        have h : yH D Zk A s ((wu (wu w 73 (am 23, xAI (ca 0) 8000 (gX 8000 (fun j => E 4 (j : Int))))) 50 (am 0, mO am T P23 P32 (fG (-2147483648) 2147483647) (fX lm) (fX pt2_57) (fX fr2_58) (fX tk2_59) (fX vl2_60) (fX sl) P40 (fX st) (fY tx2_61) (fX iw) (fX wt) (fX op) P58))) _ _ := h
        show W p l e r_c_X12_test s m args below meth c _ _ 0 0 Qf (F0 m 73 ls [])
        refine lv_aload_n B.1 B.2.1 dX12_test_73 rfl (lv_at hl 2 rfl) ?_
        refine x_iconst B dX12_test_74 ?_
        refine lv_iload_n B.1 B.2.1 dX12_test_75 rfl (lv_at hl 1 rfl) ?_
        refine x_imul B dX12_test_76 ?_
        refine lv_iload_n B.1 B.2.1 dX12_test_77 rfl (lv_at hl 0 rfl) ?_
        refine x_iadd B dX12_test_78 ?_
        refine lv_aload_n B.1 B.2.1 dX12_test_79 rfl (lv_at hl 2 rfl) ?_
        refine x_sipush B (by decide) dX12_test_80 ?_
        refine y_cV B h kX12 50 wu_eq k_X12_numeral rfl (c_X12_numeral l D Zk ca _ _ _ P23 P32 (fX sl) P40 (fX st) (fX wt) (fX op) P58 lm pt2_57 fr2_58 tk2_59 vl2_60 _ iw gt 9999 wu_eq (wu_at (wu_at f_tape (by decide)) (by decide)) (by omega) (by omega) (by omega) (by omega) (by omega)) m_1588 rfl (by decide) hl.1 [.int (iI ((4 * z1) + 0)), .ref (am 0)] (Nat.le_of_ble_eq_true rfl) rfl dX12_test_83 (fun r w1 hq H locs h => ?_)
        obtain ⟨z70, rfl, pt2_63, fr2_64, tk2_65, vl2_66, tx2_67, iw2_68, rfl, hr69⟩ := hq
        rw [wu_wu] at h
        have h : yH D Zk A s ((wu (wu w 73 (am 23, xAI (ca 0) 8000 (gX 8000 (fun j => E 4 (j : Int))))) 50 (am 0, mO am T P23 P32 (fG (-2147483648) 2147483647) (fX lm) (fX pt2_63) (fX fr2_64) (fX tk2_65) (fX vl2_66) (fX sl) P40 (fX st) (fY tx2_67) (fX iw2_68) (fX wt) (fX op) P58))) _ _ := h
        show W p l e r_c_X12_test s m args below meth c _ _ 0 0 Qf (F0 m 86 ls [.int (iI z70), .int (iI ((4 * z1) + 0)), .ref (am 0)])
        refine y_cV B h kX12 50 wu_eq k_X12_adds rfl (c_X12_adds l D Zk ca _ _ _ P23 P32 (fG (-2147483648) 2147483647) (fX lm) (fX pt2_63) (fX fr2_64) (fX tk2_65) (fX vl2_66) P40 (fY tx2_67) (fX iw2_68) (fX wt) (fX op) P58 sl st E (((4 * z1) + 0)) z70 wu_eq (wu_at wu_eq (by decide)) (wu_at (wu_at f_stepNumber (by decide)) (by decide)) (by omega) (by omega) (by omega)) m_1624 rfl (by decide) hl.1 [] (Nat.le_of_ble_eq_true rfl) rfl dX12_test_86 (fun r w1 hq H locs h => ?_)
        obtain ⟨rfl, rfl, hr71⟩ := hq
        rw [wu_wu, wu_comm (show (73 : Nat) ≠ 50 by decide), wu_wu] at h
        have h : yH D Zk A s ((wu (wu w 50 (am 0, mO am T P23 P32 (fG (-2147483648) 2147483647) (fX lm) (fX pt2_63) (fX fr2_64) (fX tk2_65) (fX vl2_66) (fX sl) P40 (fX (st + 1)) (fY tx2_67) (fX iw2_68) (fX wt) (fX op) P58)) 73 (am 23, xAI (ca 0) 8000 (gX 8000 (fun j => es E 4 (320 * sl + st) (((4 * z1) + 0)) 4 (j : Int)))))) _ _ := h
        show W p l e r_c_X12_test s m args below meth c _ _ 0 0 Qf (F0 m 89 ls [])
        have hn9 := CI.num (x := (((4 * z1) + 0))) (st' := st + 1) hci (by omega) rfl
        refine lv_aload_n B.1 B.2.1 dX12_test_89 rfl (lv_at hl 2 rfl) ?_
        refine x_bipush B (by decide) dX12_test_90 ?_
        refine x_bipush B (by decide) dX12_test_92 ?_
        refine y_cV B h kX12 50 (wu_at wu_eq (by decide)) k_X12_comes rfl (c_X12_comes l D Zk ca _ _ _ P23 P32 (fG (-2147483648) 2147483647) (fX lm) (fX pt2_63) (fX fr2_64) (fX tk2_65) (fX vl2_66) P40 (fY tx2_67) (fX iw2_68) P58 sl ((st + 1)) wt op gw (es E 4 (320 * sl + st) (((4 * z1) + 0))) _ 20 20 (wu_at wu_eq (by decide)) wu_eq (wu_at (wu_at f_stepNumber (by decide)) (by decide)) (wu_at (wu_at f_waits (by decide)) (by decide)) (by omega) hn9 (by omega) (by omega) (by omega)) m_1628 rfl (by decide) hl.1 [] (Nat.le_of_ble_eq_true rfl) rfl dX12_test_94 (fun r w1 hq H locs h => ?_)
        obtain ⟨rfl, E2_72, st2_73, wt2_74, op2_75, rfl, hr76⟩ := hq
        rw [wu_comm (show (50 : Nat) ≠ 73 by decide), wu_wu, wu_comm (show (73 : Nat) ≠ 50 by decide), wu_wu] at h
        have h : yH D Zk A s ((wu (wu w 50 (am 0, mO am T P23 P32 (fG (-2147483648) 2147483647) (fX lm) (fX pt2_63) (fX fr2_64) (fX tk2_65) (fX vl2_66) (fX sl) P40 (fX st2_73) (fY tx2_67) (fX iw2_68) (fX wt2_74) (fX op2_75) P58)) 73 (am 23, xAI (ca 0) 8000 (gX 8000 (fun j => E2_72 4 (j : Int)))))) _ _ := h
        show W p l e r_c_X12_test s m args below meth c _ _ 0 0 Qf (F0 m 97 ls [])
        rw [wu_comm (show (50 : Nat) ≠ 73 by decide)] at h
        have h : yH D Zk A s ((wu (wu w 73 (am 23, xAI (ca 0) 8000 (gX 8000 (fun j => E2_72 4 (j : Int))))) 50 (am 0, mO am T P23 P32 (fG (-2147483648) 2147483647) (fX lm) (fX pt2_63) (fX fr2_64) (fX tk2_65) (fX vl2_66) (fX sl) P40 (fX st2_73) (fY tx2_67) (fX iw2_68) (fX wt2_74) (fX op2_75) P58))) _ _ := h
        rw [wu_comm (show (73 : Nat) ≠ 50 by decide)] at h
        have h : yH D Zk A s ((wu (wu w 50 (am 0, mO am T P23 P32 (fG (-2147483648) 2147483647) (fX lm) (fX pt2_63) (fX fr2_64) (fX tk2_65) (fX vl2_66) (fX sl) P40 (fX st2_73) (fY tx2_67) (fX iw2_68) (fX wt2_74) (fX op2_75) P58)) 73 (am 23, xAI (ca 0) 8000 (gX 8000 (fun j => E2_72 4 (j : Int)))))) _ _ := h
        refine y_rv B hQ h (by decide) dX12_test_97 ?_
        exact ⟨rfl, _, _, _, _, _, _, _, _, _, _, 1, rfl, ⟨by omega, hr76.1, Or.inr rfl, by omega, by omega, FR_tr (FR_es FR_0 (by omega)) hr76.2.2.2.2⟩⟩
      · exact absurd c56 (by omega)
  · refine lv_aload_n B.1 B.2.1 dX12_test_10 rfl (lv_at hl 1 rfl) ?_
    refine y_cV B h kX12 50 (wu_at wu_eq (by decide)) k_X12_errs rfl (c_X12_errs l D Zk ca _ _ _ P23 P32 (fX lm) (fX pt) (fX tk) (fX vl) (fX sl) P40 (fX st) (fY tx) (fX wt) (fX op) P58 fr iw (wu_at wu_eq (by decide)) (by omega) (by omega)) m_1569 rfl (by decide) hl.1 [] (Nat.le_of_ble_eq_true rfl) rfl dX12_test_11 (fun r w1 hq H locs h => ?_)
    obtain ⟨rfl, rfl, hr77⟩ := hq
    rw [wu_comm (show (50 : Nat) ≠ 73 by decide), wu_wu] at h
    have h : yH D Zk A s ((wu (wu w 73 (am 23, xAI (ca 0) 8000 (gX 8000 (fun j => E 4 (j : Int))))) 50 (am 0, mO am T P23 P32 (fG (-2147483648) 2147483647) (fX lm) (fX pt) (fX fr) (fX tk) (fX vl) (fX sl) P40 (fX st) (fY tx) (fX 1) (fX wt) (fX op) P58))) _ _ := h
    show W p l e r_c_X12_test s m args below meth c _ _ 0 0 Qf (F0 m 14 ls [])
    rw [wu_comm (show (73 : Nat) ≠ 50 by decide)] at h
    have h : yH D Zk A s ((wu (wu w 50 (am 0, mO am T P23 P32 (fG (-2147483648) 2147483647) (fX lm) (fX pt) (fX fr) (fX tk) (fX vl) (fX sl) P40 (fX st) (fY tx) (fX 1) (fX wt) (fX op) P58)) 73 (am 23, xAI (ca 0) 8000 (gX 8000 (fun j => E 4 (j : Int)))))) _ _ := h
    refine y_rv B hQ h (by decide) dX12_test_14 ?_
    exact ⟨rfl, _, _, _, _, _, _, _, _, _, _, 0, rfl, ⟨by omega, hci, Or.inl rfl, by omega, by omega, FR_0⟩⟩
