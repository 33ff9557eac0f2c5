theorem fz01 {z : Int} (h : z = 0 ∨ z = 1) : fits .boolean (.int (iI z)) = true := by rcases h with rfl | rfl <;> decide
theorem k_X5_add : xMV yX5_add cX5_add 4 none 3 := ⟨m_800, m_798, m_799, m_103, ⟨by decide +kernel, by decide +kernel, by decide +kernel⟩⟩
theorem k_X1_takesCondition : xMV yX1_takesCondition cX1_takesCondition 3 (some .boolean) 2 := ⟨m_769, m_768, m_8, m_102, ⟨by decide +kernel, by decide +kernel, by decide +kernel⟩⟩
theorem k_X1_takesWrite : xMV yX1_takesWrite cX1_takesWrite 5 (some .boolean) 2 := ⟨m_808, m_807, m_14, m_102, ⟨by decide +kernel, by decide +kernel, by decide +kernel⟩⟩
theorem k_X5_clear : xMV yX5_clear cX5_clear 1 none 0 := ⟨m_749, m_747, m_748, m_103, ⟨by decide +kernel, by decide +kernel, by decide +kernel⟩⟩
theorem k_X9_placeAt : xMV yX9_placeAt cX9_placeAt 2 (some .int) 1 := ⟨m_812, m_810, m_811, m_101, ⟨by decide +kernel, by decide +kernel, by decide +kernel⟩⟩
theorem k_X1_takesHabit : xMV yX1_takesHabit cX1_takesHabit 5 (some .boolean) 2 := ⟨m_804, m_803, m_13, m_102, ⟨by decide +kernel, by decide +kernel, by decide +kernel⟩⟩
theorem k_X1_takesSort : xMV yX1_takesSort cX1_takesSort 6 (some .boolean) 2 := ⟨m_753, m_752, m_5, m_102, ⟨by decide +kernel, by decide +kernel, by decide +kernel⟩⟩
abbrev r_c_X1_takesCondition : Room := { frames := 32, cells := 0, slots := 0, locals := 779 }
set_option maxHeartbeats 4000000 in
set_option maxRecDepth 100000 in
theorem c_X1_takesCondition (l : Launch) (D : va_G) (Zk : yK) (ca : Nat → ClassId) (T : Nat → Int → Int) (G : Nat → Int → Nat) (u : Int) (ad : Nat → Nat) (w : yW) (hC : CW ca T G u ad w) (j : Int)  (hj : 0 ≤ j ∧ j < u) : yC l D Zk ca yX1_takesCondition cX1_takesCondition 3 (some .boolean) r_c_X1_takesCondition [.ref (ad 26), .ref (ad 20), .ref (G 6 j)] w (vI w (fun z => (z = 1 ∧ (True)) ∨ (z = 0 ∧ (True)))) := by
  refine yC.of2 "WindWords$Grammar" (by decide) rfl (Nat.le_of_ble_eq_true rfl) ?_
  intro p e s m args below meth c A ls Qf B hnm h hl hQ
  have hl : lv_has ls 3 [(0, .ref (ad 26)), (1, .ref (ad 20)), (2, .ref (G 6 j))] := hl
  have hs := pi_s (CW.pi hC)
  have fo1 := CW.ru hC j (by omega)
  refine lv_aload_n B.1 B.2.1 dX1_takesCondition_0 rfl (lv_at hl 0 rfl) ?_
  refine lv_aload_n B.1 B.2.1 dX1_takesCondition_1 rfl (lv_at hl 1 rfl) ?_
  refine x_sipush B (by decide) dX1_takesCondition_2 ?_
  refine y_cV B h kX1 26 (CW.f hC 26 _ rfl) k_X1_takes rfl (c_X1_takes l D Zk ca T G u ad _ hC 221  (by omega)) m_762 rfl (by decide) hl.1 [] (Nat.le_of_ble_eq_true rfl) rfl dX1_takesCondition_5 (fun r w1 hq H locs h => ?_)
  obtain ⟨rfl, _, rfl, ⟨rfl, b2⟩ | ⟨rfl, b2⟩⟩ := hq
  · show W p l e r_c_X1_takesCondition s m args below meth c _ _ 0 0 Qf (F0 m 8 ls [.int (iI 1)])
    refine x_if_eq B (by omega) (tgt := 23) dX1_takesCondition_8 (by decide) (fun c3 => ?_) (fun c3 => ?_)
    · exact absurd c3 (by omega)
    · refine lv_aload_n B.1 B.2.1 dX1_takesCondition_11 rfl (lv_at hl 0 rfl) ?_
      refine lv_aload_n B.1 B.2.1 dX1_takesCondition_12 rfl (lv_at hl 1 rfl) ?_
      refine lv_aload_n B.1 B.2.1 dX1_takesCondition_13 rfl (lv_at hl 2 rfl) ?_
      refine x_iconst B dX1_takesCondition_14 ?_
      refine y_cV B h kX1 26 (CW.f hC 26 _ rfl) k_X1_takesAny rfl (c_X1_takesAny_9 l D Zk ca T G u ad _ hC j 0  (by omega) (by omega)) m_770 rfl (by decide) hl.1 [] (Nat.le_of_ble_eq_true rfl) rfl dX1_takesCondition_15 (fun r w1 hq H locs h => ?_)
      obtain ⟨rfl, _, rfl, ⟨rfl, b4⟩ | ⟨rfl, b4⟩⟩ := hq
      · show W p l e r_c_X1_takesCondition s m args below meth c _ _ 0 0 Qf (F0 m 18 ls [.int (iI 1)])
        refine x_if_ne B (by omega) (tgt := 23) dX1_takesCondition_18 (by decide) (fun c5 => ?_) (fun c5 => ?_)
        · refine lv_aload_n B.1 B.2.1 dX1_takesCondition_23 rfl (lv_at hl 0 rfl) ?_
          refine lv_aload_n B.1 B.2.1 dX1_takesCondition_24 rfl (lv_at hl 1 rfl) ?_
          refine x_bipush B (by decide) dX1_takesCondition_25 ?_
          refine y_cV B h kX1 26 (CW.f hC 26 _ rfl) k_X1_takes rfl (c_X1_takes l D Zk ca T G u ad _ hC 59  (by omega)) m_762 rfl (by decide) hl.1 [] (Nat.le_of_ble_eq_true rfl) rfl dX1_takesCondition_27 (fun r w1 hq H locs h => ?_)
          obtain ⟨rfl, _, rfl, ⟨rfl, b6⟩ | ⟨rfl, b6⟩⟩ := hq
          · show W p l e r_c_X1_takesCondition s m args below meth c _ _ 0 0 Qf (F0 m 30 ls [.int (iI 1)])
            refine y_rz B hQ h (by decide) (by decide) dX1_takesCondition_30 ?_
            exact ⟨rfl, _, rfl, Or.inl ⟨rfl, (by first | omega | trivial | assumption)⟩⟩
          · show W p l e r_c_X1_takesCondition s m args below meth c _ _ 0 0 Qf (F0 m 30 ls [.int (iI 0)])
            refine y_rz B hQ h (by decide) (by decide) dX1_takesCondition_30 ?_
            exact ⟨rfl, _, rfl, Or.inr ⟨rfl, (by first | omega | trivial | assumption)⟩⟩
        · exact absurd c5 (by omega)
      · show W p l e r_c_X1_takesCondition s m args below meth c _ _ 0 0 Qf (F0 m 18 ls [.int (iI 0)])
        refine x_if_ne B (by omega) (tgt := 23) dX1_takesCondition_18 (by decide) (fun c7 => ?_) (fun c7 => ?_)
        · exact absurd c7 (by omega)
        · refine x_iconst B dX1_takesCondition_21 ?_
          refine y_rz B hQ h (by decide) (by decide) dX1_takesCondition_22 ?_
          exact ⟨rfl, _, rfl, Or.inr ⟨rfl, (by first | omega | trivial | assumption)⟩⟩
  · show W p l e r_c_X1_takesCondition s m args below meth c _ _ 0 0 Qf (F0 m 8 ls [.int (iI 0)])
    refine x_if_eq B (by omega) (tgt := 23) dX1_takesCondition_8 (by decide) (fun c8 => ?_) (fun c8 => ?_)
    · refine lv_aload_n B.1 B.2.1 dX1_takesCondition_23 rfl (lv_at hl 0 rfl) ?_
      refine lv_aload_n B.1 B.2.1 dX1_takesCondition_24 rfl (lv_at hl 1 rfl) ?_
      refine x_bipush B (by decide) dX1_takesCondition_25 ?_
      refine y_cV B h kX1 26 (CW.f hC 26 _ rfl) k_X1_takes rfl (c_X1_takes l D Zk ca T G u ad _ hC 59  (by omega)) m_762 rfl (by decide) hl.1 [] (Nat.le_of_ble_eq_true rfl) rfl dX1_takesCondition_27 (fun r w1 hq H locs h => ?_)
      obtain ⟨rfl, _, rfl, ⟨rfl, b9⟩ | ⟨rfl, b9⟩⟩ := hq
      · show W p l e r_c_X1_takesCondition s m args below meth c _ _ 0 0 Qf (F0 m 30 ls [.int (iI 1)])
        refine y_rz B hQ h (by decide) (by decide) dX1_takesCondition_30 ?_
        exact ⟨rfl, _, rfl, Or.inl ⟨rfl, (by first | omega | trivial | assumption)⟩⟩
      · show W p l e r_c_X1_takesCondition s m args below meth c _ _ 0 0 Qf (F0 m 30 ls [.int (iI 0)])
        refine y_rz B hQ h (by decide) (by decide) dX1_takesCondition_30 ?_
        exact ⟨rfl, _, rfl, Or.inr ⟨rfl, (by first | omega | trivial | assumption)⟩⟩
    · exact absurd c8 (by omega)
abbrev r_c_X1_takesWrite : Room := { frames := 1, cells := 0, slots := 0, locals := 23 }
set_option maxHeartbeats 4000000 in
set_option maxRecDepth 100000 in
theorem c_X1_takesWrite (l : Launch) (D : va_G) (Zk : yK) (ca : Nat → ClassId) (T : Nat → Int → Int) (G : Nat → Int → Nat) (u : Int) (ad : Nat → Nat) (w : yW) (hC : CW ca T G u ad w) (j : Int)  (hj : 0 ≤ j ∧ j < u) : yC l D Zk ca yX1_takesWrite cX1_takesWrite 5 (some .boolean) r_c_X1_takesWrite [.ref (ad 26), .ref (ad 20), .ref (G 6 j)] w (vI w (fun z => (z = 1 ∧ (True)) ∨ (z = 0 ∧ (True)))) := by
  refine yC.of2 "WindWords$Grammar" (by decide) rfl (Nat.le_of_ble_eq_true rfl) ?_
  intro p e s m args below meth c A ls Qf B hnm h hl hQ
  have hl : lv_has ls 5 [(0, .ref (ad 26)), (1, .ref (ad 20)), (2, .ref (G 6 j))] := hl
  have hs := pi_s (CW.pi hC)
  have fo1 := CW.ru hC j (by omega)
  refine lv_aload_n B.1 B.2.1 dX1_takesWrite_0 rfl (lv_at hl 0 rfl) ?_
  refine lv_aload_n B.1 B.2.1 dX1_takesWrite_1 rfl (lv_at hl 1 rfl) ?_
  refine x_bipush B (by decide) dX1_takesWrite_2 ?_
  refine y_cV B h kX1 26 (CW.f hC 26 _ rfl) k_X1_numberUpTo rfl (c_X1_numberUpTo l D Zk ca T G u ad _ hC 12  (by omega)) m_758 rfl (by decide) hl.1 [] (Nat.le_of_ble_eq_true rfl) rfl dX1_takesWrite_4 (fun r w1 hq H locs h => ?_)
  obtain ⟨rfl, z2, rfl, hz2⟩ := hq
  show W p l e r_c_X1_takesWrite s m args below meth c _ _ 0 0 Qf (F0 m 7 ls [.int (iI z2)])
  refine lv_istore_n (lv' := [(3, .int (iI z2)), (0, .ref (ad 26)), (1, .ref (ad 20)), (2, .ref (G 6 j))]) B.1 B.2.1 dX1_takesWrite_7 rfl hl (by decide) rfl (fun ls hl => ?_)
  refine lv_iload_n B.1 B.2.1 dX1_takesWrite_8 rfl (lv_at hl 0 rfl) ?_
  refine x_iconst B dX1_takesWrite_9 ?_
  refine x_icmp_eq B (by omega) (tgt := 24) dX1_takesWrite_10 (by decide) (fun c3 => ?_) (fun c3 => ?_)
  · refine x_iconst B dX1_takesWrite_24 ?_
    refine y_rz B hQ h (by decide) (by decide) dX1_takesWrite_25 ?_
    exact ⟨rfl, _, rfl, Or.inr ⟨rfl, (by first | omega | trivial | assumption)⟩⟩
  · refine lv_aload_n B.1 B.2.1 dX1_takesWrite_13 rfl (lv_at hl 1 rfl) ?_
    refine lv_aload_n B.1 B.2.1 dX1_takesWrite_14 rfl (lv_at hl 2 rfl) ?_
    refine x_sipush B (by decide) dX1_takesWrite_15 ?_
    refine y_cV B h kX1 26 (CW.f hC 26 _ rfl) k_X1_takes rfl (c_X1_takes l D Zk ca T G u ad _ hC 224  (by omega)) m_762 rfl (by decide) hl.1 [] (Nat.le_of_ble_eq_true rfl) rfl dX1_takesWrite_18 (fun r w1 hq H locs h => ?_)
    obtain ⟨rfl, _, rfl, ⟨rfl, b4⟩ | ⟨rfl, b4⟩⟩ := hq
    · show W p l e r_c_X1_takesWrite s m args below meth c _ _ 0 0 Qf (F0 m 21 ls [.int (iI 1)])
      refine x_if_ne B (by omega) (tgt := 26) dX1_takesWrite_21 (by decide) (fun c5 => ?_) (fun c5 => ?_)
      · refine lv_aload_n B.1 B.2.1 dX1_takesWrite_26 rfl (lv_at hl 1 rfl) ?_
        refine lv_aload_n B.1 B.2.1 dX1_takesWrite_27 rfl (lv_at hl 2 rfl) ?_
        refine x_bipush B (by decide) dX1_takesWrite_28 ?_
        refine y_cV B h kX1 26 (CW.f hC 26 _ rfl) k_X1_numberUpTo rfl (c_X1_numberUpTo l D Zk ca T G u ad _ hC 12  (by omega)) m_758 rfl (by decide) hl.1 [] (Nat.le_of_ble_eq_true rfl) rfl dX1_takesWrite_30 (fun r w1 hq H locs h => ?_)
        obtain ⟨rfl, z6, rfl, hz6⟩ := hq
        show W p l e r_c_X1_takesWrite s m args below meth c _ _ 0 0 Qf (F0 m 33 ls [.int (iI z6)])
        refine lv_istore (lv' := [(4, .int (iI z6)), (3, .int (iI z2)), (0, .ref (ad 26)), (1, .ref (ad 20)), (2, .ref (G 6 j))]) B.1 B.2.1 dX1_takesWrite_33 hl (by decide) rfl (fun ls hl => ?_)
        refine lv_iload B.1 B.2.1 dX1_takesWrite_35 (lv_at hl 0 rfl) ?_
        refine x_iconst B dX1_takesWrite_37 ?_
        refine x_icmp_eq B (by omega) (tgt := 51) dX1_takesWrite_38 (by decide) (fun c7 => ?_) (fun c7 => ?_)
        · refine x_iconst B dX1_takesWrite_51 ?_
          refine y_rz B hQ h (by decide) (by decide) dX1_takesWrite_52 ?_
          exact ⟨rfl, _, rfl, Or.inr ⟨rfl, (by first | omega | trivial | assumption)⟩⟩
        · refine lv_aload_n B.1 B.2.1 dX1_takesWrite_41 rfl (lv_at hl 2 rfl) ?_
          refine lv_aload_n B.1 B.2.1 dX1_takesWrite_42 rfl (lv_at hl 3 rfl) ?_
          refine x_bipush B (by decide) dX1_takesWrite_43 ?_
          refine y_cV B h kX1 26 (CW.f hC 26 _ rfl) k_X1_takes rfl (c_X1_takes l D Zk ca T G u ad _ hC 59  (by omega)) m_762 rfl (by decide) hl.1 [] (Nat.le_of_ble_eq_true rfl) rfl dX1_takesWrite_45 (fun r w1 hq H locs h => ?_)
          obtain ⟨rfl, _, rfl, ⟨rfl, b8⟩ | ⟨rfl, b8⟩⟩ := hq
          · show W p l e r_c_X1_takesWrite s m args below meth c _ _ 0 0 Qf (F0 m 48 ls [.int (iI 1)])
            refine x_if_ne B (by omega) (tgt := 53) dX1_takesWrite_48 (by decide) (fun c9 => ?_) (fun c9 => ?_)
            · refine lv_aload_n B.1 B.2.1 dX1_takesWrite_53 rfl (lv_at hl 4 rfl) ?_
              refine x_iconst B dX1_takesWrite_54 ?_
              refine lv_iload_n B.1 B.2.1 dX1_takesWrite_55 rfl (lv_at hl 1 rfl) ?_
              refine lv_iload B.1 B.2.1 dX1_takesWrite_56 (lv_at hl 0 rfl) ?_
              refine y_cV B h kX5 (1000 + 16 * j.toNat + 6) fo1.1 k_X5_add rfl (c_X5_add l D Zk ca T G u ad _ hC j 2 z2 z6  (by omega) (by omega) (by omega) (by omega)) m_797 rfl (by decide) hl.1 [] (Nat.le_of_ble_eq_true rfl) rfl dX1_takesWrite_58 (fun r w1 hq H locs h => ?_)
              obtain ⟨rfl, rfl⟩ := hq
              show W p l e r_c_X1_takesWrite s m args below meth c _ _ 0 0 Qf (F0 m 61 ls [])
              refine x_iconst B dX1_takesWrite_61 ?_
              refine y_rz B hQ h (by decide) (by decide) dX1_takesWrite_62 ?_
              exact ⟨rfl, _, rfl, Or.inl ⟨rfl, (by first | omega | trivial | assumption)⟩⟩
            · exact absurd c9 (by omega)
          · show W p l e r_c_X1_takesWrite s m args below meth c _ _ 0 0 Qf (F0 m 48 ls [.int (iI 0)])
            refine x_if_ne B (by omega) (tgt := 53) dX1_takesWrite_48 (by decide) (fun c10 => ?_) (fun c10 => ?_)
            · exact absurd c10 (by omega)
            · refine x_iconst B dX1_takesWrite_51 ?_
              refine y_rz B hQ h (by decide) (by decide) dX1_takesWrite_52 ?_
              exact ⟨rfl, _, rfl, Or.inr ⟨rfl, (by first | omega | trivial | assumption)⟩⟩
      · exact absurd c5 (by omega)
    · show W p l e r_c_X1_takesWrite s m args below meth c _ _ 0 0 Qf (F0 m 21 ls [.int (iI 0)])
      refine x_if_ne B (by omega) (tgt := 26) dX1_takesWrite_21 (by decide) (fun c11 => ?_) (fun c11 => ?_)
      · exact absurd c11 (by omega)
      · refine x_iconst B dX1_takesWrite_24 ?_
        refine y_rz B hQ h (by decide) (by decide) dX1_takesWrite_25 ?_
        exact ⟨rfl, _, rfl, Or.inr ⟨rfl, (by first | omega | trivial | assumption)⟩⟩
abbrev r_c_X1_takesSort : Room := { frames := 33, cells := 0, slots := 0, locals := 801 }
set_option maxHeartbeats 4000000 in
set_option maxRecDepth 100000 in
theorem c_X1_takesSort (l : Launch) (D : va_G) (Zk : yK) (ca : Nat → ClassId) (T : Nat → Int → Int) (G : Nat → Int → Nat) (u : Int) (ad : Nat → Nat) (w : yW) (hC : CW ca T G u ad w) (j : Int)  (hj : 0 ≤ j ∧ j < u) : yC l D Zk ca yX1_takesSort cX1_takesSort 6 (some .boolean) r_c_X1_takesSort [.ref (ad 26), .ref (ad 20), .ref (G 6 j)] w (vI w (fun z => (z = 1 ∧ (True)) ∨ (z = 0 ∧ (True)))) := by
  refine yC.of2 "WindWords$Grammar" (by decide) rfl (Nat.le_of_ble_eq_true rfl) ?_
  intro p e s m args below meth c A ls Qf B hnm h hl hQ
  have hl : lv_has ls 6 [(0, .ref (ad 26)), (1, .ref (ad 20)), (2, .ref (G 6 j))] := hl
  have hs := pi_s (CW.pi hC)
  have fo1 := CW.ru hC j (by omega)
  refine lv_aload_n B.1 B.2.1 dX1_takesSort_0 rfl (lv_at hl 1 rfl) ?_
  refine lv_aload_n B.1 B.2.1 dX1_takesSort_1 rfl (lv_at hl 0 rfl) ?_
  obtain ⟨z2, z2a, z2b, h⟩ := yH.pin h (CW.f hC 26 _ rfl) 1 (lo := 0) (hi := 900) rfl
  have h : yH D Zk A s ((wu w 26 (ad 26, xO 1 [fG 0 1, fX z2]))) _ _ := h
  refine y_getX B h kX1 26 wu_eq 1 (z := z2) rfl m_324 (by decide) dX1_takesSort_2 ?_
  refine y_cV B h kX9 20 (wu_at (CW.f hC 20 _ rfl) (by decide)) k_X9_codeAt rfl (c_X9_codeAt l D Zk ca _ z2 (fG 0 900) (fR (ad 21)) (fR (ad 23)) (fR (ad 24)) (fR (ad 25)) (fG 0 900) (ad 20) 20 (ad 22) 22 (wu_at (CW.f hC 20 _ rfl) (by decide)) (wu_at (CW.f hC 22 _ rfl) (by decide)) (by omega)) m_754 rfl (by decide) hl.1 [] (Nat.le_of_ble_eq_true rfl) rfl dX1_takesSort_5 (fun r w1 hq H locs h => ?_)
  obtain ⟨rfl, z3, rfl, hz3⟩ := hq
  show W p l e r_c_X1_takesSort s m args below meth c _ _ 0 0 Qf (F0 m 8 ls [.int (iI z3)])
  refine x_sipush B (by decide) dX1_takesSort_8 ?_
  refine x_isub B dX1_takesSort_11 ?_
  refine lv_istore_n (lv' := [(3, .int (iI (z3 - 200))), (0, .ref (ad 26)), (1, .ref (ad 20)), (2, .ref (G 6 j))]) B.1 B.2.1 dX1_takesSort_12 rfl hl (by decide) rfl (fun ls hl => ?_)
  refine lv_iload_n B.1 B.2.1 dX1_takesSort_13 rfl (lv_at hl 0 rfl) ?_
  refine x_if_lt B (by omega) (tgt := 22) dX1_takesSort_14 (by decide) (fun c4 => ?_) (fun c4 => ?_)
  · refine x_iconst B dX1_takesSort_22 ?_
    have h : yH D Zk A s w _ _ := yH.unpin h (CW.f hC 26 _ rfl) (xO_le (fLe_cons (fun _ x => x) (fLe_cons (fX_G (by omega)) fLe_nil)))
    refine y_rz B hQ h (by decide) (by decide) dX1_takesSort_23 ?_
    exact ⟨rfl, _, rfl, Or.inr ⟨rfl, (by first | omega | trivial | assumption)⟩⟩
  · refine lv_iload_n B.1 B.2.1 dX1_takesSort_17 rfl (lv_at hl 0 rfl) ?_
    refine x_iconst B dX1_takesSort_18 ?_
    refine x_icmp_le B (by omega) (tgt := 24) dX1_takesSort_19 (by decide) (fun c5 => ?_) (fun c5 => ?_)
    · refine lv_aload_n B.1 B.2.1 dX1_takesSort_24 rfl (lv_at hl 1 rfl) ?_
      refine lv_dup B.1 B.2.1 dX1_takesSort_25 rfl ?_
      refine y_getX B h kX1 26 wu_eq 1 (z := z2) rfl m_324 (by decide) dX1_takesSort_26 ?_
      refine x_iconst B dX1_takesSort_29 ?_
      refine x_iadd B dX1_takesSort_30 ?_
      refine y_put B h kX1 26 wu_eq 1 (Nat.le_of_ble_eq_true rfl) (P' := fX (z2 + 1)) m_324 (by decide) rfl rfl rfl rfl dX1_takesSort_31 (fun H locs h => ?_)
      rw [wu_wu] at h
      have h : yH D Zk A s ((wu w 26 (ad 26, xO 1 [fG 0 1, fX (z2 + 1)]))) _ _ := h
      refine lv_aload_n B.1 B.2.1 dX1_takesSort_34 rfl (lv_at hl 1 rfl) ?_
      refine lv_aload_n B.1 B.2.1 dX1_takesSort_35 rfl (lv_at hl 2 rfl) ?_
      refine x_bipush B (by decide) dX1_takesSort_36 ?_
      have h : yH D Zk A s w _ _ := yH.unpin h (CW.f hC 26 _ rfl) (xO_le (fLe_cons (fun _ x => x) (fLe_cons (fX_G (by omega)) fLe_nil)))
      refine y_cV B h kX1 26 (CW.f hC 26 _ rfl) k_X1_numberUpTo rfl (c_X1_numberUpTo l D Zk ca T G u ad _ hC 12  (by omega)) m_758 rfl (by decide) hl.1 [] (Nat.le_of_ble_eq_true rfl) rfl dX1_takesSort_38 (fun r w1 hq H locs h => ?_)
      obtain ⟨rfl, z6, rfl, hz6⟩ := hq
      show W p l e r_c_X1_takesSort s m args below meth c _ _ 0 0 Qf (F0 m 41 ls [.int (iI z6)])
      refine lv_istore (lv' := [(4, .int (iI z6)), (3, .int (iI (z3 - 200))), (0, .ref (ad 26)), (1, .ref (ad 20)), (2, .ref (G 6 j))]) B.1 B.2.1 dX1_takesSort_41 hl (by decide) rfl (fun ls hl => ?_)
      refine lv_iload B.1 B.2.1 dX1_takesSort_43 (lv_at hl 0 rfl) ?_
      refine x_iconst B dX1_takesSort_45 ?_
      refine x_icmp_eq B (by omega) (tgt := 60) dX1_takesSort_46 (by decide) (fun c7 => ?_) (fun c7 => ?_)
      · refine x_iconst B dX1_takesSort_60 ?_
        refine y_rz B hQ h (by decide) (by decide) dX1_takesSort_61 ?_
        exact ⟨rfl, _, rfl, Or.inr ⟨rfl, (by first | omega | trivial | assumption)⟩⟩
      · refine lv_aload_n B.1 B.2.1 dX1_takesSort_49 rfl (lv_at hl 2 rfl) ?_
        refine lv_aload_n B.1 B.2.1 dX1_takesSort_50 rfl (lv_at hl 3 rfl) ?_
        refine x_sipush B (by decide) dX1_takesSort_51 ?_
        refine y_cV B h kX1 26 (CW.f hC 26 _ rfl) k_X1_takes rfl (c_X1_takes l D Zk ca T G u ad _ hC 220  (by omega)) m_762 rfl (by decide) hl.1 [] (Nat.le_of_ble_eq_true rfl) rfl dX1_takesSort_54 (fun r w1 hq H locs h => ?_)
        obtain ⟨rfl, _, rfl, ⟨rfl, b8⟩ | ⟨rfl, b8⟩⟩ := hq
        · show W p l e r_c_X1_takesSort s m args below meth c _ _ 0 0 Qf (F0 m 57 ls [.int (iI 1)])
          refine x_if_ne B (by omega) (tgt := 62) dX1_takesSort_57 (by decide) (fun c9 => ?_) (fun c9 => ?_)
          · refine lv_aload_n B.1 B.2.1 dX1_takesSort_62 rfl (lv_at hl 2 rfl) ?_
            refine lv_aload_n B.1 B.2.1 dX1_takesSort_63 rfl (lv_at hl 3 rfl) ?_
            refine x_bipush B (by decide) dX1_takesSort_64 ?_
            refine y_cV B h kX1 26 (CW.f hC 26 _ rfl) k_X1_numberUpTo rfl (c_X1_numberUpTo l D Zk ca T G u ad _ hC 99  (by omega)) m_758 rfl (by decide) hl.1 [] (Nat.le_of_ble_eq_true rfl) rfl dX1_takesSort_66 (fun r w1 hq H locs h => ?_)
            obtain ⟨rfl, z10, rfl, hz10⟩ := hq
            show W p l e r_c_X1_takesSort s m args below meth c _ _ 0 0 Qf (F0 m 69 ls [.int (iI z10)])
            refine lv_istore (lv' := [(5, .int (iI z10)), (4, .int (iI z6)), (3, .int (iI (z3 - 200))), (0, .ref (ad 26)), (1, .ref (ad 20)), (2, .ref (G 6 j))]) B.1 B.2.1 dX1_takesSort_69 hl (by decide) rfl (fun ls hl => ?_)
            refine lv_iload B.1 B.2.1 dX1_takesSort_71 (lv_at hl 0 rfl) ?_
            refine x_iconst B dX1_takesSort_73 ?_
            refine x_icmp_eq B (by omega) (tgt := 86) dX1_takesSort_74 (by decide) (fun c11 => ?_) (fun c11 => ?_)
            · refine x_iconst B dX1_takesSort_86 ?_
              refine y_rz B hQ h (by decide) (by decide) dX1_takesSort_87 ?_
              exact ⟨rfl, _, rfl, Or.inr ⟨rfl, (by first | omega | trivial | assumption)⟩⟩
            · refine lv_aload_n B.1 B.2.1 dX1_takesSort_77 rfl (lv_at hl 3 rfl) ?_
              refine lv_aload_n B.1 B.2.1 dX1_takesSort_78 rfl (lv_at hl 4 rfl) ?_
              refine lv_aload_n B.1 B.2.1 dX1_takesSort_79 rfl (lv_at hl 5 rfl) ?_
              refine y_cV B h kX1 26 (CW.f hC 26 _ rfl) k_X1_takesCondition rfl (c_X1_takesCondition l D Zk ca T G u ad _ hC j  (by omega)) m_766 rfl (by decide) hl.1 [] (Nat.le_of_ble_eq_true rfl) rfl dX1_takesSort_80 (fun r w1 hq H locs h => ?_)
              obtain ⟨rfl, _, rfl, ⟨rfl, b12⟩ | ⟨rfl, b12⟩⟩ := hq
              · show W p l e r_c_X1_takesSort s m args below meth c _ _ 0 0 Qf (F0 m 83 ls [.int (iI 1)])
                refine x_if_ne B (by omega) (tgt := 88) dX1_takesSort_83 (by decide) (fun c13 => ?_) (fun c13 => ?_)
                · refine lv_aload_n B.1 B.2.1 dX1_takesSort_88 rfl (lv_at hl 5 rfl) ?_
                  refine lv_iload_n B.1 B.2.1 dX1_takesSort_89 rfl (lv_at hl 2 rfl) ?_
                  refine lv_iload B.1 B.2.1 dX1_takesSort_90 (lv_at hl 1 rfl) ?_
                  refine lv_iload B.1 B.2.1 dX1_takesSort_92 (lv_at hl 0 rfl) ?_
                  refine y_cV B h kX5 (1000 + 16 * j.toNat + 6) fo1.1 k_X5_add rfl (c_X5_add l D Zk ca T G u ad _ hC j ((z3 - 200)) z6 z10  (by omega) (by omega) (by omega) (by omega)) m_797 rfl (by decide) hl.1 [] (Nat.le_of_ble_eq_true rfl) rfl dX1_takesSort_94 (fun r w1 hq H locs h => ?_)
                  obtain ⟨rfl, rfl⟩ := hq
                  show W p l e r_c_X1_takesSort s m args below meth c _ _ 0 0 Qf (F0 m 97 ls [])
                  refine x_iconst B dX1_takesSort_97 ?_
                  refine y_rz B hQ h (by decide) (by decide) dX1_takesSort_98 ?_
                  exact ⟨rfl, _, rfl, Or.inl ⟨rfl, (by first | omega | trivial | assumption)⟩⟩
                · exact absurd c13 (by omega)
              · show W p l e r_c_X1_takesSort s m args below meth c _ _ 0 0 Qf (F0 m 83 ls [.int (iI 0)])
                refine x_if_ne B (by omega) (tgt := 88) dX1_takesSort_83 (by decide) (fun c14 => ?_) (fun c14 => ?_)
                · exact absurd c14 (by omega)
                · refine x_iconst B dX1_takesSort_86 ?_
                  refine y_rz B hQ h (by decide) (by decide) dX1_takesSort_87 ?_
                  exact ⟨rfl, _, rfl, Or.inr ⟨rfl, (by first | omega | trivial | assumption)⟩⟩
          · exact absurd c9 (by omega)
        · show W p l e r_c_X1_takesSort s m args below meth c _ _ 0 0 Qf (F0 m 57 ls [.int (iI 0)])
          refine x_if_ne B (by omega) (tgt := 62) dX1_takesSort_57 (by decide) (fun c15 => ?_) (fun c15 => ?_)
          · exact absurd c15 (by omega)
          · refine x_iconst B dX1_takesSort_60 ?_
            refine y_rz B hQ h (by decide) (by decide) dX1_takesSort_61 ?_
            exact ⟨rfl, _, rfl, Or.inr ⟨rfl, (by first | omega | trivial | assumption)⟩⟩
    · refine x_iconst B dX1_takesSort_22 ?_
      have h : yH D Zk A s w _ _ := yH.unpin h (CW.f hC 26 _ rfl) (xO_le (fLe_cons (fun _ x => x) (fLe_cons (fX_G (by omega)) fLe_nil)))
      refine y_rz B hQ h (by decide) (by decide) dX1_takesSort_23 ?_
      exact ⟨rfl, _, rfl, Or.inr ⟨rfl, (by first | omega | trivial | assumption)⟩⟩
abbrev r_c_X1_takesHabit : Room := { frames := 33, cells := 0, slots := 0, locals := 801 }
set_option maxHeartbeats 4000000 in
set_option maxRecDepth 100000 in
theorem c_X1_takesHabit (l : Launch) (D : va_G) (Zk : yK) (ca : Nat → ClassId) (T : Nat → Int → Int) (G : Nat → Int → Nat) (u : Int) (ad : Nat → Nat) (w : yW) (hC : CW ca T G u ad w) (j : Int)  (hj : 0 ≤ j ∧ j < u) : yC l D Zk ca yX1_takesHabit cX1_takesHabit 5 (some .boolean) r_c_X1_takesHabit [.ref (ad 26), .ref (ad 20), .ref (G 6 j)] w (vI w (fun z => (z = 1 ∧ (True)) ∨ (z = 0 ∧ (True)))) := by
  refine yC.of2 "WindWords$Grammar" (by decide) rfl (Nat.le_of_ble_eq_true rfl) ?_
  intro p e s m args below meth c A ls Qf B hnm h hl hQ
  have hl : lv_has ls 5 [(0, .ref (ad 26)), (1, .ref (ad 20)), (2, .ref (G 6 j))] := hl
  have hs := pi_s (CW.pi hC)
  have fo1 := CW.ru hC j (by omega)
  refine lv_aload_n B.1 B.2.1 dX1_takesHabit_0 rfl (lv_at hl 0 rfl) ?_
  refine lv_aload_n B.1 B.2.1 dX1_takesHabit_1 rfl (lv_at hl 1 rfl) ?_
  refine x_sipush B (by decide) dX1_takesHabit_2 ?_
  refine y_cV B h kX1 26 (CW.f hC 26 _ rfl) k_X1_takes rfl (c_X1_takes l D Zk ca T G u ad _ hC 223  (by omega)) m_762 rfl (by decide) hl.1 [] (Nat.le_of_ble_eq_true rfl) rfl dX1_takesHabit_5 (fun r w1 hq H locs h => ?_)
  obtain ⟨rfl, _, rfl, ⟨rfl, b2⟩ | ⟨rfl, b2⟩⟩ := hq
  · show W p l e r_c_X1_takesHabit s m args below meth c _ _ 0 0 Qf (F0 m 8 ls [.int (iI 1)])
    refine x_if_eq B (by omega) (tgt := 18) dX1_takesHabit_8 (by decide) (fun c3 => ?_) (fun c3 => ?_)
    · exact absurd c3 (by omega)
    · refine lv_aload_n B.1 B.2.1 dX1_takesHabit_11 rfl (lv_at hl 0 rfl) ?_
      refine lv_aload_n B.1 B.2.1 dX1_takesHabit_12 rfl (lv_at hl 1 rfl) ?_
      refine lv_aload_n B.1 B.2.1 dX1_takesHabit_13 rfl (lv_at hl 2 rfl) ?_
      refine y_cV B h kX1 26 (CW.f hC 26 _ rfl) k_X1_takesWrite rfl (c_X1_takesWrite l D Zk ca T G u ad _ hC j  (by omega)) m_805 rfl (by decide) hl.1 [] (Nat.le_of_ble_eq_true rfl) rfl dX1_takesHabit_14 (fun r w1 hq H locs h => ?_)
      obtain ⟨rfl, _, rfl, ⟨rfl, b4⟩ | ⟨rfl, b4⟩⟩ := hq
      · show W p l e r_c_X1_takesHabit s m args below meth c _ _ 0 0 Qf (F0 m 17 ls [.int (iI 1)])
        refine y_rz B hQ h (by decide) (by decide) dX1_takesHabit_17 ?_
        exact ⟨rfl, _, rfl, Or.inl ⟨rfl, (by first | omega | trivial | assumption)⟩⟩
      · show W p l e r_c_X1_takesHabit s m args below meth c _ _ 0 0 Qf (F0 m 17 ls [.int (iI 0)])
        refine y_rz B hQ h (by decide) (by decide) dX1_takesHabit_17 ?_
        exact ⟨rfl, _, rfl, Or.inr ⟨rfl, (by first | omega | trivial | assumption)⟩⟩
  · show W p l e r_c_X1_takesHabit s m args below meth c _ _ 0 0 Qf (F0 m 8 ls [.int (iI 0)])
    refine x_if_eq B (by omega) (tgt := 18) dX1_takesHabit_8 (by decide) (fun c5 => ?_) (fun c5 => ?_)
    · refine lv_aload_n B.1 B.2.1 dX1_takesHabit_18 rfl (lv_at hl 0 rfl) ?_
      refine lv_aload_n B.1 B.2.1 dX1_takesHabit_19 rfl (lv_at hl 1 rfl) ?_
      refine x_sipush B (by decide) dX1_takesHabit_20 ?_
      refine y_cV B h kX1 26 (CW.f hC 26 _ rfl) k_X1_takes rfl (c_X1_takes l D Zk ca T G u ad _ hC 222  (by omega)) m_762 rfl (by decide) hl.1 [] (Nat.le_of_ble_eq_true rfl) rfl dX1_takesHabit_23 (fun r w1 hq H locs h => ?_)
      obtain ⟨rfl, _, rfl, ⟨rfl, b6⟩ | ⟨rfl, b6⟩⟩ := hq
      · show W p l e r_c_X1_takesHabit s m args below meth c _ _ 0 0 Qf (F0 m 26 ls [.int (iI 1)])
        refine x_if_ne B (by omega) (tgt := 31) dX1_takesHabit_26 (by decide) (fun c7 => ?_) (fun c7 => ?_)
        · refine lv_aload_n B.1 B.2.1 dX1_takesHabit_31 rfl (lv_at hl 0 rfl) ?_
          refine lv_aload_n B.1 B.2.1 dX1_takesHabit_32 rfl (lv_at hl 1 rfl) ?_
          refine x_sipush B (by decide) dX1_takesHabit_33 ?_
          refine y_cV B h kX1 26 (CW.f hC 26 _ rfl) k_X1_takes rfl (c_X1_takes l D Zk ca T G u ad _ hC 225  (by omega)) m_762 rfl (by decide) hl.1 [] (Nat.le_of_ble_eq_true rfl) rfl dX1_takesHabit_36 (fun r w1 hq H locs h => ?_)
          obtain ⟨rfl, _, rfl, ⟨rfl, b8⟩ | ⟨rfl, b8⟩⟩ := hq
          · show W p l e r_c_X1_takesHabit s m args below meth c _ _ 0 0 Qf (F0 m 39 ls [.int (iI 1)])
            refine lv_istore_n (lv' := [(3, .int (iI 1)), (0, .ref (ad 26)), (1, .ref (ad 20)), (2, .ref (G 6 j))]) B.1 B.2.1 dX1_takesHabit_39 rfl hl (by decide) rfl (fun ls hl => ?_)
            refine lv_iload_n B.1 B.2.1 dX1_takesHabit_40 rfl (lv_at hl 0 rfl) ?_
            refine x_if_ne B (by omega) (tgt := 57) dX1_takesHabit_41 (by decide) (fun c9 => ?_) (fun c9 => ?_)
            · refine lv_aload_n B.1 B.2.1 dX1_takesHabit_57 rfl (lv_at hl 1 rfl) ?_
              refine lv_aload_n B.1 B.2.1 dX1_takesHabit_58 rfl (lv_at hl 2 rfl) ?_
              refine x_bipush B (by decide) dX1_takesHabit_59 ?_
              refine y_cV B h kX1 26 (CW.f hC 26 _ rfl) k_X1_numberUpTo rfl (c_X1_numberUpTo l D Zk ca T G u ad _ hC 12  (by omega)) m_758 rfl (by decide) hl.1 [] (Nat.le_of_ble_eq_true rfl) rfl dX1_takesHabit_61 (fun r w1 hq H locs h => ?_)
              obtain ⟨rfl, z10, rfl, hz10⟩ := hq
              show W p l e r_c_X1_takesHabit s m args below meth c _ _ 0 0 Qf (F0 m 64 ls [.int (iI z10)])
              refine lv_istore (lv' := [(4, .int (iI z10)), (3, .int (iI 1)), (0, .ref (ad 26)), (1, .ref (ad 20)), (2, .ref (G 6 j))]) B.1 B.2.1 dX1_takesHabit_64 hl (by decide) rfl (fun ls hl => ?_)
              refine lv_iload B.1 B.2.1 dX1_takesHabit_66 (lv_at hl 0 rfl) ?_
              refine x_iconst B dX1_takesHabit_68 ?_
              refine x_icmp_eq B (by omega) (tgt := 81) dX1_takesHabit_69 (by decide) (fun c11 => ?_) (fun c11 => ?_)
              · refine x_iconst B dX1_takesHabit_81 ?_
                refine y_rz B hQ h (by decide) (by decide) dX1_takesHabit_82 ?_
                exact ⟨rfl, _, rfl, Or.inr ⟨rfl, (by first | omega | trivial | assumption)⟩⟩
              · refine lv_aload_n B.1 B.2.1 dX1_takesHabit_72 rfl (lv_at hl 2 rfl) ?_
                refine lv_aload_n B.1 B.2.1 dX1_takesHabit_73 rfl (lv_at hl 3 rfl) ?_
                refine lv_aload_n B.1 B.2.1 dX1_takesHabit_74 rfl (lv_at hl 4 rfl) ?_
                refine y_cV B h kX1 26 (CW.f hC 26 _ rfl) k_X1_takesCondition rfl (c_X1_takesCondition l D Zk ca T G u ad _ hC j  (by omega)) m_766 rfl (by decide) hl.1 [] (Nat.le_of_ble_eq_true rfl) rfl dX1_takesHabit_75 (fun r w1 hq H locs h => ?_)
                obtain ⟨rfl, _, rfl, ⟨rfl, b12⟩ | ⟨rfl, b12⟩⟩ := hq
                · show W p l e r_c_X1_takesHabit s m args below meth c _ _ 0 0 Qf (F0 m 78 ls [.int (iI 1)])
                  refine x_if_ne B (by omega) (tgt := 83) dX1_takesHabit_78 (by decide) (fun c13 => ?_) (fun c13 => ?_)
                  · refine lv_aload_n B.1 B.2.1 dX1_takesHabit_83 rfl (lv_at hl 4 rfl) ?_
                    refine lv_iload_n B.1 B.2.1 dX1_takesHabit_84 rfl (lv_at hl 1 rfl) ?_
                    refine x_if_eq B (by omega) (tgt := 92) dX1_takesHabit_85 (by decide) (fun c14 => ?_) (fun c14 => ?_)
                    · exact absurd c14 (by omega)
                    · refine x_iconst B dX1_takesHabit_88 ?_
                      refine lv_goto (tgt := 93) B.1 B.2.1 dX1_takesHabit_89 (by decide) ?_
                      refine lv_iload B.1 B.2.1 dX1_takesHabit_93 (lv_at hl 0 rfl) ?_
                      refine x_iconst B dX1_takesHabit_95 ?_
                      refine y_cV B h kX5 (1000 + 16 * j.toNat + 6) fo1.1 k_X5_add rfl (c_X5_add l D Zk ca T G u ad _ hC j 0 z10 0  (by omega) (by omega) (by omega) (by omega)) m_797 rfl (by decide) hl.1 [] (Nat.le_of_ble_eq_true rfl) rfl dX1_takesHabit_96 (fun r w1 hq H locs h => ?_)
                      obtain ⟨rfl, rfl⟩ := hq
                      show W p l e r_c_X1_takesHabit s m args below meth c _ _ 0 0 Qf (F0 m 99 ls [])
                      refine x_iconst B dX1_takesHabit_99 ?_
                      refine y_rz B hQ h (by decide) (by decide) dX1_takesHabit_100 ?_
                      exact ⟨rfl, _, rfl, Or.inl ⟨rfl, (by first | omega | trivial | assumption)⟩⟩
                  · exact absurd c13 (by omega)
                · show W p l e r_c_X1_takesHabit s m args below meth c _ _ 0 0 Qf (F0 m 78 ls [.int (iI 0)])
                  refine x_if_ne B (by omega) (tgt := 83) dX1_takesHabit_78 (by decide) (fun c15 => ?_) (fun c15 => ?_)
                  · exact absurd c15 (by omega)
                  · refine x_iconst B dX1_takesHabit_81 ?_
                    refine y_rz B hQ h (by decide) (by decide) dX1_takesHabit_82 ?_
                    exact ⟨rfl, _, rfl, Or.inr ⟨rfl, (by first | omega | trivial | assumption)⟩⟩
            · exact absurd c9 (by omega)
          · show W p l e r_c_X1_takesHabit s m args below meth c _ _ 0 0 Qf (F0 m 39 ls [.int (iI 0)])
            refine lv_istore_n (lv' := [(3, .int (iI 0)), (0, .ref (ad 26)), (1, .ref (ad 20)), (2, .ref (G 6 j))]) B.1 B.2.1 dX1_takesHabit_39 rfl hl (by decide) rfl (fun ls hl => ?_)
            refine lv_iload_n B.1 B.2.1 dX1_takesHabit_40 rfl (lv_at hl 0 rfl) ?_
            refine x_if_ne B (by omega) (tgt := 57) dX1_takesHabit_41 (by decide) (fun c16 => ?_) (fun c16 => ?_)
            · exact absurd c16 (by omega)
            · refine lv_aload_n B.1 B.2.1 dX1_takesHabit_44 rfl (lv_at hl 1 rfl) ?_
              refine lv_aload_n B.1 B.2.1 dX1_takesHabit_45 rfl (lv_at hl 2 rfl) ?_
              refine x_sipush B (by decide) dX1_takesHabit_46 ?_
              refine y_cV B h kX1 26 (CW.f hC 26 _ rfl) k_X1_takes rfl (c_X1_takes l D Zk ca T G u ad _ hC 226  (by omega)) m_762 rfl (by decide) hl.1 [] (Nat.le_of_ble_eq_true rfl) rfl dX1_takesHabit_49 (fun r w1 hq H locs h => ?_)
              obtain ⟨rfl, _, rfl, ⟨rfl, b17⟩ | ⟨rfl, b17⟩⟩ := hq
              · show W p l e r_c_X1_takesHabit s m args below meth c _ _ 0 0 Qf (F0 m 52 ls [.int (iI 1)])
                refine x_if_ne B (by omega) (tgt := 57) dX1_takesHabit_52 (by decide) (fun c18 => ?_) (fun c18 => ?_)
                · refine lv_aload_n B.1 B.2.1 dX1_takesHabit_57 rfl (lv_at hl 1 rfl) ?_
                  refine lv_aload_n B.1 B.2.1 dX1_takesHabit_58 rfl (lv_at hl 2 rfl) ?_
                  refine x_bipush B (by decide) dX1_takesHabit_59 ?_
                  refine y_cV B h kX1 26 (CW.f hC 26 _ rfl) k_X1_numberUpTo rfl (c_X1_numberUpTo l D Zk ca T G u ad _ hC 12  (by omega)) m_758 rfl (by decide) hl.1 [] (Nat.le_of_ble_eq_true rfl) rfl dX1_takesHabit_61 (fun r w1 hq H locs h => ?_)
                  obtain ⟨rfl, z19, rfl, hz19⟩ := hq
                  show W p l e r_c_X1_takesHabit s m args below meth c _ _ 0 0 Qf (F0 m 64 ls [.int (iI z19)])
                  refine lv_istore (lv' := [(4, .int (iI z19)), (3, .int (iI 0)), (0, .ref (ad 26)), (1, .ref (ad 20)), (2, .ref (G 6 j))]) B.1 B.2.1 dX1_takesHabit_64 hl (by decide) rfl (fun ls hl => ?_)
                  refine lv_iload B.1 B.2.1 dX1_takesHabit_66 (lv_at hl 0 rfl) ?_
                  refine x_iconst B dX1_takesHabit_68 ?_
                  refine x_icmp_eq B (by omega) (tgt := 81) dX1_takesHabit_69 (by decide) (fun c20 => ?_) (fun c20 => ?_)
                  · refine x_iconst B dX1_takesHabit_81 ?_
                    refine y_rz B hQ h (by decide) (by decide) dX1_takesHabit_82 ?_
                    exact ⟨rfl, _, rfl, Or.inr ⟨rfl, (by first | omega | trivial | assumption)⟩⟩
                  · refine lv_aload_n B.1 B.2.1 dX1_takesHabit_72 rfl (lv_at hl 2 rfl) ?_
                    refine lv_aload_n B.1 B.2.1 dX1_takesHabit_73 rfl (lv_at hl 3 rfl) ?_
                    refine lv_aload_n B.1 B.2.1 dX1_takesHabit_74 rfl (lv_at hl 4 rfl) ?_
                    refine y_cV B h kX1 26 (CW.f hC 26 _ rfl) k_X1_takesCondition rfl (c_X1_takesCondition l D Zk ca T G u ad _ hC j  (by omega)) m_766 rfl (by decide) hl.1 [] (Nat.le_of_ble_eq_true rfl) rfl dX1_takesHabit_75 (fun r w1 hq H locs h => ?_)
                    obtain ⟨rfl, _, rfl, ⟨rfl, b21⟩ | ⟨rfl, b21⟩⟩ := hq
                    · show W p l e r_c_X1_takesHabit s m args below meth c _ _ 0 0 Qf (F0 m 78 ls [.int (iI 1)])
                      refine x_if_ne B (by omega) (tgt := 83) dX1_takesHabit_78 (by decide) (fun c22 => ?_) (fun c22 => ?_)
                      · refine lv_aload_n B.1 B.2.1 dX1_takesHabit_83 rfl (lv_at hl 4 rfl) ?_
                        refine lv_iload_n B.1 B.2.1 dX1_takesHabit_84 rfl (lv_at hl 1 rfl) ?_
                        refine x_if_eq B (by omega) (tgt := 92) dX1_takesHabit_85 (by decide) (fun c23 => ?_) (fun c23 => ?_)
                        · refine x_iconst B dX1_takesHabit_92 ?_
                          refine lv_iload B.1 B.2.1 dX1_takesHabit_93 (lv_at hl 0 rfl) ?_
                          refine x_iconst B dX1_takesHabit_95 ?_
                          refine y_cV B h kX5 (1000 + 16 * j.toNat + 6) fo1.1 k_X5_add rfl (c_X5_add l D Zk ca T G u ad _ hC j 1 z19 0  (by omega) (by omega) (by omega) (by omega)) m_797 rfl (by decide) hl.1 [] (Nat.le_of_ble_eq_true rfl) rfl dX1_takesHabit_96 (fun r w1 hq H locs h => ?_)
                          obtain ⟨rfl, rfl⟩ := hq
                          show W p l e r_c_X1_takesHabit s m args below meth c _ _ 0 0 Qf (F0 m 99 ls [])
                          refine x_iconst B dX1_takesHabit_99 ?_
                          refine y_rz B hQ h (by decide) (by decide) dX1_takesHabit_100 ?_
                          exact ⟨rfl, _, rfl, Or.inl ⟨rfl, (by first | omega | trivial | assumption)⟩⟩
                        · exact absurd c23 (by omega)
                      · exact absurd c22 (by omega)
                    · show W p l e r_c_X1_takesHabit s m args below meth c _ _ 0 0 Qf (F0 m 78 ls [.int (iI 0)])
                      refine x_if_ne B (by omega) (tgt := 83) dX1_takesHabit_78 (by decide) (fun c24 => ?_) (fun c24 => ?_)
                      · exact absurd c24 (by omega)
                      · refine x_iconst B dX1_takesHabit_81 ?_
                        refine y_rz B hQ h (by decide) (by decide) dX1_takesHabit_82 ?_
                        exact ⟨rfl, _, rfl, Or.inr ⟨rfl, (by first | omega | trivial | assumption)⟩⟩
                · exact absurd c18 (by omega)
              · show W p l e r_c_X1_takesHabit s m args below meth c _ _ 0 0 Qf (F0 m 52 ls [.int (iI 0)])
                refine x_if_ne B (by omega) (tgt := 57) dX1_takesHabit_52 (by decide) (fun c25 => ?_) (fun c25 => ?_)
                · exact absurd c25 (by omega)
                · refine x_iconst B dX1_takesHabit_55 ?_
                  refine y_rz B hQ h (by decide) (by decide) dX1_takesHabit_56 ?_
                  exact ⟨rfl, _, rfl, Or.inr ⟨rfl, (by first | omega | trivial | assumption)⟩⟩
        · exact absurd c7 (by omega)
      · show W p l e r_c_X1_takesHabit s m args below meth c _ _ 0 0 Qf (F0 m 26 ls [.int (iI 0)])
        refine x_if_ne B (by omega) (tgt := 31) dX1_takesHabit_26 (by decide) (fun c26 => ?_) (fun c26 => ?_)
        · exact absurd c26 (by omega)
        · refine x_iconst B dX1_takesHabit_29 ?_
          refine y_rz B hQ h (by decide) (by decide) dX1_takesHabit_30 ?_
          exact ⟨rfl, _, rfl, Or.inr ⟨rfl, (by first | omega | trivial | assumption)⟩⟩
    · exact absurd c5 (by omega)
abbrev r_c_X1_faultOf : Room := { frames := 34, cells := 0, slots := 0, locals := 826 }
set_option maxHeartbeats 4000000 in
set_option maxRecDepth 100000 in
theorem c_X1_faultOf (l : Launch) (D : va_G) (Zk : yK) (ca : Nat → ClassId) (T : Nat → Int → Int) (G : Nat → Int → Nat) (u : Int) (ad : Nat → Nat) (w : yW) (hC : CW ca T G u ad w) (j : Int) (sc : Int)  (hj : 0 ≤ j ∧ j < u) (hsc : 0 ≤ sc ∧ sc ≤ 1) : yC l D Zk ca yX1_faultOf cX1_faultOf 6 (some .int) r_c_X1_faultOf [.ref (ad 26), .ref (ad 20), .ref (G 6 j), .int (iI sc)] w (vI w (fun z => xr z)) := by
  refine yC.of2 "WindWords$Grammar" (by decide) rfl (Nat.le_of_ble_eq_true rfl) ?_
  intro p e s m args below meth c A ls Qf B hnm h hl hQ
  have hl : lv_has ls 6 [(0, .ref (ad 26)), (1, .ref (ad 20)), (2, .ref (G 6 j)), (3, .int (iI sc))] := hl
  have hs := pi_s (CW.pi hC)
  have fo1 := CW.ru hC j (by omega)
  refine lv_aload_n B.1 B.2.1 dX1_faultOf_0 rfl (lv_at hl 0 rfl) ?_
  refine lv_iload_n B.1 B.2.1 dX1_faultOf_1 rfl (lv_at hl 3 rfl) ?_
  refine y_putS B h kX1 26 (CW.f hC 26 _ rfl) 0 (P := fG 0 1) rfl m_323 (by decide) ⟨_, rfl, by omega, by omega⟩ rfl (nz01 (by omega)) (fz01 (by omega)) dX1_faultOf_2 (fun H locs h => ?_)
  refine lv_aload_n B.1 B.2.1 dX1_faultOf_5 rfl (lv_at hl 0 rfl) ?_
  refine x_iconst B dX1_faultOf_6 ?_
  refine y_putS B h kX1 26 (CW.f hC 26 _ rfl) 1 (P := fG 0 900) rfl m_324 (by decide) ⟨_, rfl, by omega, by omega⟩ rfl rfl rfl dX1_faultOf_7 (fun H locs h => ?_)
  refine lv_aload_n B.1 B.2.1 dX1_faultOf_10 rfl (lv_at hl 2 rfl) ?_
  refine y_cV B h kX5 (1000 + 16 * j.toNat + 6) fo1.1 k_X5_clear rfl (c_X5_clear l D Zk ca T G u ad _ hC j  (by omega)) m_746 rfl (by decide) hl.1 [] (Nat.le_of_ble_eq_true rfl) rfl dX1_faultOf_11 (fun r w1 hq H locs h => ?_)
  obtain ⟨rfl, rfl⟩ := hq
  show W p l e r_c_X1_faultOf s m args below meth c _ _ 0 0 Qf (F0 m 14 ls [])
  refine x_iconst B dX1_faultOf_14 ?_
  refine lv_istore (lv' := [(4, .int (iI 1)), (0, .ref (ad 26)), (1, .ref (ad 20)), (2, .ref (G 6 j)), (3, .int (iI sc))]) B.1 B.2.1 dX1_faultOf_15 hl (by decide) rfl (fun ls hl => ?_)
  refine x_iconst B dX1_faultOf_17 ?_
  refine lv_istore (lv' := [(5, .int (iI 0)), (4, .int (iI 1)), (0, .ref (ad 26)), (1, .ref (ad 20)), (2, .ref (G 6 j)), (3, .int (iI sc))]) B.1 B.2.1 dX1_faultOf_18 hl (by decide) rfl (fun ls hl => ?_)
  have loop20 : ∀ (n20 : Nat) (gn : Int) (i : Int), (gn = 0 ∨ gn = 1) → (0 ≤ i ∧ i ≤ 40) → ((40 - i : Int)).toNat < n20 → ∀ (H : Heap) (locs : List Loc) (ls : Array Slot), yH D Zk A s w H locs → lv_has ls 6 [(5, .int (iI i)), (4, .int (iI gn)), (0, .ref (ad 26)), (1, .ref (ad 20)), (2, .ref (G 6 j))] → W p l e r_c_X1_faultOf s m args below meth c H locs 0 0 Qf (F0 m 20 ls []) := by
    intro n20
    induction n20 with
    | zero =>
      intro gn i h0 h1 hm20 H locs ls h hl
      exact absurd hm20 (Nat.not_lt_zero _)
    | succ n20 ih20 =>
      intro gn i h0 h1 hm20 H locs ls h hl
      refine lv_iload B.1 B.2.1 dX1_faultOf_20 (lv_at hl 0 rfl) ?_
      refine x_bipush B (by decide) dX1_faultOf_22 ?_
      refine x_icmp_ge B (by omega) (tgt := 73) dX1_faultOf_24 (by decide) (fun c2 => ?_) (fun c2 => ?_)
      · refine lv_iload B.1 B.2.1 dX1_faultOf_73 (lv_at hl 1 rfl) ?_
        refine x_if_eq B (by omega) (tgt := 93) dX1_faultOf_75 (by decide) (fun c3 => ?_) (fun c3 => ?_)
        · refine lv_aload_n B.1 B.2.1 dX1_faultOf_93 rfl (lv_at hl 3 rfl) ?_
          refine lv_aload_n B.1 B.2.1 dX1_faultOf_94 rfl (lv_at hl 2 rfl) ?_
          refine y_getG B h kX1 26 (CW.f hC 26 _ rfl) 1 (lo := 0) (hi := 900) rfl m_324 (by decide) dX1_faultOf_95 (fun z4 z4a z4b => ?_)
          refine y_cV B h kX9 20 (CW.f hC 20 _ rfl) k_X9_placeAt rfl (c_X9_placeAt l D Zk ca T G u ad _ hC z4  (by omega)) m_809 rfl (by decide) hl.1 [] (Nat.le_of_ble_eq_true rfl) rfl dX1_faultOf_98 (fun r w1 hq H locs h => ?_)
          obtain ⟨rfl, z5, rfl, hz5⟩ := hq
          show W p l e r_c_X1_faultOf s m args below meth c _ _ 0 0 Qf (F0 m 101 ls [.int (iI z5)])
          refine y_ri B hQ h (by decide) dX1_faultOf_101 ?_
          exact ⟨rfl, _, rfl, (by first | omega | trivial | assumption)⟩
        · refine lv_aload_n B.1 B.2.1 dX1_faultOf_78 rfl (lv_at hl 2 rfl) ?_
          refine y_getG B h kX1 26 (CW.f hC 26 _ rfl) 1 (lo := 0) (hi := 900) rfl m_324 (by decide) dX1_faultOf_79 (fun z6 z6a z6b => ?_)
          refine lv_aload_n B.1 B.2.1 dX1_faultOf_82 rfl (lv_at hl 3 rfl) ?_
          refine y_getG B h kX9 20 (CW.f hC 20 _ rfl) 1 (lo := 0) (hi := 900) rfl m_291 (by decide) dX1_faultOf_83 (fun z7 z7a z7b => ?_)
          refine x_icmp_lt B (by omega) (tgt := 93) dX1_faultOf_86 (by decide) (fun c8 => ?_) (fun c8 => ?_)
          · refine lv_aload_n B.1 B.2.1 dX1_faultOf_93 rfl (lv_at hl 3 rfl) ?_
            refine lv_aload_n B.1 B.2.1 dX1_faultOf_94 rfl (lv_at hl 2 rfl) ?_
            refine y_getG B h kX1 26 (CW.f hC 26 _ rfl) 1 (lo := 0) (hi := 900) rfl m_324 (by decide) dX1_faultOf_95 (fun z9 z9a z9b => ?_)
            refine y_cV B h kX9 20 (CW.f hC 20 _ rfl) k_X9_placeAt rfl (c_X9_placeAt l D Zk ca T G u ad _ hC z9  (by omega)) m_809 rfl (by decide) hl.1 [] (Nat.le_of_ble_eq_true rfl) rfl dX1_faultOf_98 (fun r w1 hq H locs h => ?_)
            obtain ⟨rfl, z10, rfl, hz10⟩ := hq
            show W p l e r_c_X1_faultOf s m args below meth c _ _ 0 0 Qf (F0 m 101 ls [.int (iI z10)])
            refine y_ri B hQ h (by decide) dX1_faultOf_101 ?_
            exact ⟨rfl, _, rfl, (by first | omega | trivial | assumption)⟩
          · refine x_iconst B dX1_faultOf_89 ?_
            refine lv_goto (tgt := 101) B.1 B.2.1 dX1_faultOf_90 (by decide) ?_
            refine y_ri B hQ h (by decide) dX1_faultOf_101 ?_
            exact ⟨rfl, _, rfl, (by first | omega | trivial | assumption)⟩
      · refine lv_iload B.1 B.2.1 dX1_faultOf_27 (lv_at hl 1 rfl) ?_
        refine x_if_eq B (by omega) (tgt := 73) dX1_faultOf_29 (by decide) (fun c11 => ?_) (fun c11 => ?_)
        · refine lv_iload B.1 B.2.1 dX1_faultOf_73 (lv_at hl 1 rfl) ?_
          refine x_if_eq B (by omega) (tgt := 93) dX1_faultOf_75 (by decide) (fun c12 => ?_) (fun c12 => ?_)
          · refine lv_aload_n B.1 B.2.1 dX1_faultOf_93 rfl (lv_at hl 3 rfl) ?_
            refine lv_aload_n B.1 B.2.1 dX1_faultOf_94 rfl (lv_at hl 2 rfl) ?_
            refine y_getG B h kX1 26 (CW.f hC 26 _ rfl) 1 (lo := 0) (hi := 900) rfl m_324 (by decide) dX1_faultOf_95 (fun z13 z13a z13b => ?_)
            refine y_cV B h kX9 20 (CW.f hC 20 _ rfl) k_X9_placeAt rfl (c_X9_placeAt l D Zk ca T G u ad _ hC z13  (by omega)) m_809 rfl (by decide) hl.1 [] (Nat.le_of_ble_eq_true rfl) rfl dX1_faultOf_98 (fun r w1 hq H locs h => ?_)
            obtain ⟨rfl, z14, rfl, hz14⟩ := hq
            show W p l e r_c_X1_faultOf s m args below meth c _ _ 0 0 Qf (F0 m 101 ls [.int (iI z14)])
            refine y_ri B hQ h (by decide) dX1_faultOf_101 ?_
            exact ⟨rfl, _, rfl, (by first | omega | trivial | assumption)⟩
          · refine lv_aload_n B.1 B.2.1 dX1_faultOf_78 rfl (lv_at hl 2 rfl) ?_
            refine y_getG B h kX1 26 (CW.f hC 26 _ rfl) 1 (lo := 0) (hi := 900) rfl m_324 (by decide) dX1_faultOf_79 (fun z15 z15a z15b => ?_)
            refine lv_aload_n B.1 B.2.1 dX1_faultOf_82 rfl (lv_at hl 3 rfl) ?_
            refine y_getG B h kX9 20 (CW.f hC 20 _ rfl) 1 (lo := 0) (hi := 900) rfl m_291 (by decide) dX1_faultOf_83 (fun z16 z16a z16b => ?_)
            refine x_icmp_lt B (by omega) (tgt := 93) dX1_faultOf_86 (by decide) (fun c17 => ?_) (fun c17 => ?_)
            · refine lv_aload_n B.1 B.2.1 dX1_faultOf_93 rfl (lv_at hl 3 rfl) ?_
              refine lv_aload_n B.1 B.2.1 dX1_faultOf_94 rfl (lv_at hl 2 rfl) ?_
              refine y_getG B h kX1 26 (CW.f hC 26 _ rfl) 1 (lo := 0) (hi := 900) rfl m_324 (by decide) dX1_faultOf_95 (fun z18 z18a z18b => ?_)
              refine y_cV B h kX9 20 (CW.f hC 20 _ rfl) k_X9_placeAt rfl (c_X9_placeAt l D Zk ca T G u ad _ hC z18  (by omega)) m_809 rfl (by decide) hl.1 [] (Nat.le_of_ble_eq_true rfl) rfl dX1_faultOf_98 (fun r w1 hq H locs h => ?_)
              obtain ⟨rfl, z19, rfl, hz19⟩ := hq
              show W p l e r_c_X1_faultOf s m args below meth c _ _ 0 0 Qf (F0 m 101 ls [.int (iI z19)])
              refine y_ri B hQ h (by decide) dX1_faultOf_101 ?_
              exact ⟨rfl, _, rfl, (by first | omega | trivial | assumption)⟩
            · refine x_iconst B dX1_faultOf_89 ?_
              refine lv_goto (tgt := 101) B.1 B.2.1 dX1_faultOf_90 (by decide) ?_
              refine y_ri B hQ h (by decide) dX1_faultOf_101 ?_
              exact ⟨rfl, _, rfl, (by first | omega | trivial | assumption)⟩
        · refine lv_aload_n B.1 B.2.1 dX1_faultOf_32 rfl (lv_at hl 2 rfl) ?_
          refine y_getG B h kX1 26 (CW.f hC 26 _ rfl) 1 (lo := 0) (hi := 900) rfl m_324 (by decide) dX1_faultOf_33 (fun z20 z20a z20b => ?_)
          refine lv_aload_n B.1 B.2.1 dX1_faultOf_36 rfl (lv_at hl 3 rfl) ?_
          refine y_getG B h kX9 20 (CW.f hC 20 _ rfl) 1 (lo := 0) (hi := 900) rfl m_291 (by decide) dX1_faultOf_37 (fun z21 z21a z21b => ?_)
          refine x_icmp_ge B (by omega) (tgt := 73) dX1_faultOf_40 (by decide) (fun c22 => ?_) (fun c22 => ?_)
          · refine lv_iload B.1 B.2.1 dX1_faultOf_73 (lv_at hl 1 rfl) ?_
            refine x_if_eq B (by omega) (tgt := 93) dX1_faultOf_75 (by decide) (fun c23 => ?_) (fun c23 => ?_)
            · refine lv_aload_n B.1 B.2.1 dX1_faultOf_93 rfl (lv_at hl 3 rfl) ?_
              refine lv_aload_n B.1 B.2.1 dX1_faultOf_94 rfl (lv_at hl 2 rfl) ?_
              refine y_getG B h kX1 26 (CW.f hC 26 _ rfl) 1 (lo := 0) (hi := 900) rfl m_324 (by decide) dX1_faultOf_95 (fun z24 z24a z24b => ?_)
              refine y_cV B h kX9 20 (CW.f hC 20 _ rfl) k_X9_placeAt rfl (c_X9_placeAt l D Zk ca T G u ad _ hC z24  (by omega)) m_809 rfl (by decide) hl.1 [] (Nat.le_of_ble_eq_true rfl) rfl dX1_faultOf_98 (fun r w1 hq H locs h => ?_)
              obtain ⟨rfl, z25, rfl, hz25⟩ := hq
              show W p l e r_c_X1_faultOf s m args below meth c _ _ 0 0 Qf (F0 m 101 ls [.int (iI z25)])
              refine y_ri B hQ h (by decide) dX1_faultOf_101 ?_
              exact ⟨rfl, _, rfl, (by first | omega | trivial | assumption)⟩
            · refine lv_aload_n B.1 B.2.1 dX1_faultOf_78 rfl (lv_at hl 2 rfl) ?_
              refine y_getG B h kX1 26 (CW.f hC 26 _ rfl) 1 (lo := 0) (hi := 900) rfl m_324 (by decide) dX1_faultOf_79 (fun z26 z26a z26b => ?_)
              refine lv_aload_n B.1 B.2.1 dX1_faultOf_82 rfl (lv_at hl 3 rfl) ?_
              refine y_getG B h kX9 20 (CW.f hC 20 _ rfl) 1 (lo := 0) (hi := 900) rfl m_291 (by decide) dX1_faultOf_83 (fun z27 z27a z27b => ?_)
              refine x_icmp_lt B (by omega) (tgt := 93) dX1_faultOf_86 (by decide) (fun c28 => ?_) (fun c28 => ?_)
              · refine lv_aload_n B.1 B.2.1 dX1_faultOf_93 rfl (lv_at hl 3 rfl) ?_
                refine lv_aload_n B.1 B.2.1 dX1_faultOf_94 rfl (lv_at hl 2 rfl) ?_
                refine y_getG B h kX1 26 (CW.f hC 26 _ rfl) 1 (lo := 0) (hi := 900) rfl m_324 (by decide) dX1_faultOf_95 (fun z29 z29a z29b => ?_)
                refine y_cV B h kX9 20 (CW.f hC 20 _ rfl) k_X9_placeAt rfl (c_X9_placeAt l D Zk ca T G u ad _ hC z29  (by omega)) m_809 rfl (by decide) hl.1 [] (Nat.le_of_ble_eq_true rfl) rfl dX1_faultOf_98 (fun r w1 hq H locs h => ?_)
                obtain ⟨rfl, z30, rfl, hz30⟩ := hq
                show W p l e r_c_X1_faultOf s m args below meth c _ _ 0 0 Qf (F0 m 101 ls [.int (iI z30)])
                refine y_ri B hQ h (by decide) dX1_faultOf_101 ?_
                exact ⟨rfl, _, rfl, (by first | omega | trivial | assumption)⟩
              · refine x_iconst B dX1_faultOf_89 ?_
                refine lv_goto (tgt := 101) B.1 B.2.1 dX1_faultOf_90 (by decide) ?_
                refine y_ri B hQ h (by decide) dX1_faultOf_101 ?_
                exact ⟨rfl, _, rfl, (by first | omega | trivial | assumption)⟩
          · refine lv_aload_n B.1 B.2.1 dX1_faultOf_43 rfl (lv_at hl 2 rfl) ?_
            refine y_getG B h kX1 26 (CW.f hC 26 _ rfl) 0 (lo := 0) (hi := 1) rfl m_323 (by decide) dX1_faultOf_44 (fun z31 z31a z31b => ?_)
            refine x_if_eq B (by omega) (tgt := 59) dX1_faultOf_47 (by decide) (fun c32 => ?_) (fun c32 => ?_)
            · refine lv_aload_n B.1 B.2.1 dX1_faultOf_59 rfl (lv_at hl 2 rfl) ?_
              refine lv_aload_n B.1 B.2.1 dX1_faultOf_60 rfl (lv_at hl 3 rfl) ?_
              refine lv_aload_n B.1 B.2.1 dX1_faultOf_61 rfl (lv_at hl 4 rfl) ?_
              refine y_cV B h kX1 26 (CW.f hC 26 _ rfl) k_X1_takesHabit rfl (c_X1_takesHabit l D Zk ca T G u ad _ hC j  (by omega)) m_801 rfl (by decide) hl.1 [] (Nat.le_of_ble_eq_true rfl) rfl dX1_faultOf_62 (fun r w1 hq H locs h => ?_)
              obtain ⟨rfl, _, rfl, ⟨rfl, b33⟩ | ⟨rfl, b33⟩⟩ := hq
              · show W p l e r_c_X1_faultOf s m args below meth c _ _ 0 0 Qf (F0 m 65 ls [.int (iI 1)])
                refine lv_istore (lv' := [(4, .int (iI 1)), (5, .int (iI i)), (0, .ref (ad 26)), (1, .ref (ad 20)), (2, .ref (G 6 j))]) B.1 B.2.1 dX1_faultOf_65 hl (by decide) rfl (fun ls hl => ?_)
                refine lv_iinc (v := iI (i + 1)) (lv' := [(5, .int (iI (i + 1))), (4, .int (iI 1)), (0, .ref (ad 26)), (1, .ref (ad 20)), (2, .ref (G 6 j))]) B.1 B.2.1 dX1_faultOf_67 hl (k := 1) rfl (iI_add _ _) (by decide) rfl (fun ls hl => ?_)
                refine lv_goto (tgt := 20) B.1 B.2.1 dX1_faultOf_70 (by decide) ?_
                exact ih20 1 ((i + 1)) (by omega) (by omega) (by omega) _ _ _ h (lv_sub hl [0, 1, 2, 3, 4] rfl)
              · show W p l e r_c_X1_faultOf s m args below meth c _ _ 0 0 Qf (F0 m 65 ls [.int (iI 0)])
                refine lv_istore (lv' := [(4, .int (iI 0)), (5, .int (iI i)), (0, .ref (ad 26)), (1, .ref (ad 20)), (2, .ref (G 6 j))]) B.1 B.2.1 dX1_faultOf_65 hl (by decide) rfl (fun ls hl => ?_)
                refine lv_iinc (v := iI (i + 1)) (lv' := [(5, .int (iI (i + 1))), (4, .int (iI 0)), (0, .ref (ad 26)), (1, .ref (ad 20)), (2, .ref (G 6 j))]) B.1 B.2.1 dX1_faultOf_67 hl (k := 1) rfl (iI_add _ _) (by decide) rfl (fun ls hl => ?_)
                refine lv_goto (tgt := 20) B.1 B.2.1 dX1_faultOf_70 (by decide) ?_
                exact ih20 0 ((i + 1)) (by omega) (by omega) (by omega) _ _ _ h (lv_sub hl [0, 1, 2, 3, 4] rfl)
            · refine lv_aload_n B.1 B.2.1 dX1_faultOf_50 rfl (lv_at hl 2 rfl) ?_
              refine lv_aload_n B.1 B.2.1 dX1_faultOf_51 rfl (lv_at hl 3 rfl) ?_
              refine lv_aload_n B.1 B.2.1 dX1_faultOf_52 rfl (lv_at hl 4 rfl) ?_
              refine y_cV B h kX1 26 (CW.f hC 26 _ rfl) k_X1_takesSort rfl (c_X1_takesSort l D Zk ca T G u ad _ hC j  (by omega)) m_750 rfl (by decide) hl.1 [] (Nat.le_of_ble_eq_true rfl) rfl dX1_faultOf_53 (fun r w1 hq H locs h => ?_)
              obtain ⟨rfl, _, rfl, ⟨rfl, b34⟩ | ⟨rfl, b34⟩⟩ := hq
              · show W p l e r_c_X1_faultOf s m args below meth c _ _ 0 0 Qf (F0 m 56 ls [.int (iI 1)])
                refine lv_goto (tgt := 65) B.1 B.2.1 dX1_faultOf_56 (by decide) ?_
                refine lv_istore (lv' := [(4, .int (iI 1)), (5, .int (iI i)), (0, .ref (ad 26)), (1, .ref (ad 20)), (2, .ref (G 6 j))]) B.1 B.2.1 dX1_faultOf_65 hl (by decide) rfl (fun ls hl => ?_)
                refine lv_iinc (v := iI (i + 1)) (lv' := [(5, .int (iI (i + 1))), (4, .int (iI 1)), (0, .ref (ad 26)), (1, .ref (ad 20)), (2, .ref (G 6 j))]) B.1 B.2.1 dX1_faultOf_67 hl (k := 1) rfl (iI_add _ _) (by decide) rfl (fun ls hl => ?_)
                refine lv_goto (tgt := 20) B.1 B.2.1 dX1_faultOf_70 (by decide) ?_
                exact ih20 1 ((i + 1)) (by omega) (by omega) (by omega) _ _ _ h (lv_sub hl [0, 1, 2, 3, 4] rfl)
              · show W p l e r_c_X1_faultOf s m args below meth c _ _ 0 0 Qf (F0 m 56 ls [.int (iI 0)])
                refine lv_goto (tgt := 65) B.1 B.2.1 dX1_faultOf_56 (by decide) ?_
                refine lv_istore (lv' := [(4, .int (iI 0)), (5, .int (iI i)), (0, .ref (ad 26)), (1, .ref (ad 20)), (2, .ref (G 6 j))]) B.1 B.2.1 dX1_faultOf_65 hl (by decide) rfl (fun ls hl => ?_)
                refine lv_iinc (v := iI (i + 1)) (lv' := [(5, .int (iI (i + 1))), (4, .int (iI 0)), (0, .ref (ad 26)), (1, .ref (ad 20)), (2, .ref (G 6 j))]) B.1 B.2.1 dX1_faultOf_67 hl (k := 1) rfl (iI_add _ _) (by decide) rfl (fun ls hl => ?_)
                refine lv_goto (tgt := 20) B.1 B.2.1 dX1_faultOf_70 (by decide) ?_
                exact ih20 0 ((i + 1)) (by omega) (by omega) (by omega) _ _ _ h (lv_sub hl [0, 1, 2, 3, 4] rfl)
  exact loop20 (((40 - 0 : Int)).toNat + 1) 1 0 (by omega) (by omega) (Nat.lt_succ_self _) _ _ _ h (lv_sub hl [0, 1, 2, 3, 4] rfl)
