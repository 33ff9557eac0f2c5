theorem k_X3_join : xMV yX3_join cX3_join 7 none 3 := ⟨m_1029, m_1028, m_25, m_98, ⟨by decide +kernel, by decide +kernel, by decide +kernel⟩⟩
theorem k_X3_closes : xMV yX3_closes cX3_closes 4 (some .boolean) 0 := ⟨m_1025, m_1024, m_24, m_98, ⟨by decide +kernel, by decide +kernel, by decide +kernel⟩⟩
theorem k_X3_solve : xMV yX3_solve cX3_solve 6 (some .boolean) 2 := ⟨m_974, m_972, m_973, m_98, ⟨by decide +kernel, by decide +kernel, by decide +kernel⟩⟩
theorem k_X10_gather : xMV yX10_gather cX10_gather 7 none 4 := ⟨m_1062, m_1060, m_1061, m_99, ⟨by decide +kernel, by decide +kernel, by decide +kernel⟩⟩
theorem k_X10_gatherValues : xMV yX10_gatherValues cX10_gatherValues 5 none 3 := ⟨m_1089, m_1087, m_1088, m_99, ⟨by decide +kernel, by decide +kernel, by decide +kernel⟩⟩
theorem k_X10_rising : xMV yX10_rising cX10_rising 4 (some .int) 0 := ⟨m_1094, m_1092, m_1093, m_99, ⟨by decide +kernel, by decide +kernel, by decide +kernel⟩⟩
theorem k_X10_ordersRising : xMV yX10_ordersRising cX10_ordersRising 5 (some .int) 1 := ⟨m_1098, m_1096, m_1097, m_99, ⟨by decide +kernel, by decide +kernel, by decide +kernel⟩⟩
abbrev r_c_X3_join : Room := { frames := 1, cells := 0, slots := 0, locals := 21 }
set_option maxHeartbeats 4000000 in
set_option maxRecDepth 100000 in
theorem c_X3_join (l : Launch) (D : va_G) (ca : Nat → ClassId) (w : xW) (ad : Nat → Nat) (hC : C0 ca ad w) (one : Int) (by_ : Int) (other : Int)  (h1 : 0 ≤ one ∧ one ≤ 16) (h2 : 0 ≤ by_ ∧ by_ ≤ 16) (h3 : 0 ≤ other ∧ other ≤ 16) : xC l D ca yX3_join cX3_join 7 none r_c_X3_join [.ref (ad 12), .int (iI one), .int (iI by_), .int (iI other)] w (qV w) := by
  refine xC.of2 "WindWords$Leans" (by decide) rfl (Nat.le_of_ble_eq_true rfl) ?_
  intro p e s m args below meth c A ls Qf B hnm h hl hQ
  have hl : lv_has ls 7 [(0, .ref (ad 12)), (1, .int (iI one)), (2, .int (iI by_)), (3, .int (iI other))] := hl
  refine lv_aload_n B.1 B.2.1 dX3_join_0 rfl (lv_at hl 0 rfl) ?_
  refine x_getR B h kX3 12 (hC 12 _ rfl) 0 (b := ad 13) rfl m_220 (by decide) dX3_join_1 ?_
  refine lv_iload_n B.1 B.2.1 dX3_join_4 rfl (lv_at hl 1 rfl) ?_
  refine x_bipush B (by decide) dX3_join_5 ?_
  refine x_imul B dX3_join_7 ?_
  refine lv_iload_n B.1 B.2.1 dX3_join_8 rfl (lv_at hl 2 rfl) ?_
  refine x_iadd B dX3_join_9 ?_
  refine x_ialdG B h 13 (hC 13 _ rfl) (by omega) dX3_join_10 (fun z1 z1a z1b => ?_)
  refine lv_istore (lv' := [(4, .int (iI z1)), (0, .ref (ad 12)), (1, .int (iI one)), (2, .int (iI by_)), (3, .int (iI other))]) B.1 B.2.1 dX3_join_11 hl (by decide) rfl (fun ls hl => ?_)
  refine lv_aload_n B.1 B.2.1 dX3_join_13 rfl (lv_at hl 1 rfl) ?_
  refine x_getR B h kX3 12 (hC 12 _ rfl) 0 (b := ad 13) rfl m_220 (by decide) dX3_join_14 ?_
  refine lv_iload_n B.1 B.2.1 dX3_join_17 rfl (lv_at hl 3 rfl) ?_
  refine x_bipush B (by decide) dX3_join_18 ?_
  refine x_imul B dX3_join_20 ?_
  refine lv_iload_n B.1 B.2.1 dX3_join_21 rfl (lv_at hl 4 rfl) ?_
  refine x_iadd B dX3_join_22 ?_
  refine x_ialdG B h 13 (hC 13 _ rfl) (by omega) dX3_join_23 (fun z2 z2a z2b => ?_)
  refine lv_istore (lv' := [(5, .int (iI z2)), (4, .int (iI z1)), (0, .ref (ad 12)), (1, .int (iI one)), (2, .int (iI by_)), (3, .int (iI other))]) B.1 B.2.1 dX3_join_24 hl (by decide) rfl (fun ls hl => ?_)
  refine lv_iload B.1 B.2.1 dX3_join_26 (lv_at hl 1 rfl) ?_
  refine x_ldc B (z := 1000000) m_975 (by decide) dX3_join_28 ?_
  refine x_icmp_ge B (by omega) (tgt := 70) dX3_join_30 (by decide) (fun c3 => ?_) (fun c3 => ?_)
  · refine x_rv B hQ h (by decide) dX3_join_70 ?_
    exact ⟨rfl, rfl⟩
  · refine lv_iload B.1 B.2.1 dX3_join_33 (lv_at hl 0 rfl) ?_
    refine x_ldc B (z := 1000000) m_975 (by decide) dX3_join_35 ?_
    refine x_icmp_ge B (by omega) (tgt := 70) dX3_join_37 (by decide) (fun c4 => ?_) (fun c4 => ?_)
    · refine x_rv B hQ h (by decide) dX3_join_70 ?_
      exact ⟨rfl, rfl⟩
    · refine lv_iload_n B.1 B.2.1 dX3_join_40 rfl (lv_at hl 3 rfl) ?_
      refine x_bipush B (by decide) dX3_join_41 ?_
      refine x_imul B dX3_join_43 ?_
      refine lv_iload_n B.1 B.2.1 dX3_join_44 rfl (lv_at hl 5 rfl) ?_
      refine x_iadd B dX3_join_45 ?_
      refine lv_istore (lv' := [(6, .int (iI ((one * 17) + other))), (5, .int (iI z2)), (4, .int (iI z1)), (0, .ref (ad 12)), (1, .int (iI one)), (2, .int (iI by_)), (3, .int (iI other))]) B.1 B.2.1 dX3_join_46 hl (by decide) rfl (fun ls hl => ?_)
      refine lv_aload_n B.1 B.2.1 dX3_join_48 rfl (lv_at hl 3 rfl) ?_
      refine x_getR B h kX3 12 (hC 12 _ rfl) 0 (b := ad 13) rfl m_220 (by decide) dX3_join_49 ?_
      refine lv_iload B.1 B.2.1 dX3_join_52 (lv_at hl 0 rfl) ?_
      refine lv_aload_n B.1 B.2.1 dX3_join_54 rfl (lv_at hl 3 rfl) ?_
      refine x_getR B h kX3 12 (hC 12 _ rfl) 0 (b := ad 13) rfl m_220 (by decide) dX3_join_55 ?_
      refine lv_iload B.1 B.2.1 dX3_join_58 (lv_at hl 0 rfl) ?_
      refine x_ialdG B h 13 (hC 13 _ rfl) (by omega) dX3_join_60 (fun z5 z5a z5b => ?_)
      refine lv_iload B.1 B.2.1 dX3_join_61 (lv_at hl 2 rfl) ?_
      refine lv_iload B.1 B.2.1 dX3_join_63 (lv_at hl 1 rfl) ?_
      refine x_iadd B dX3_join_65 ?_
      refine x_min B (by omega) m_1003 m_586 m_106 m_587 hl.1 (Nat.le_of_ble_eq_true rfl) (by decide) dX3_join_66 ?_
      refine x_iastS B h 13 (hC 13 _ rfl) (by omega) (gG_upd (by omega)) dX3_join_69 (fun H locs h => ?_)
      refine x_rv B hQ h (by decide) dX3_join_70 ?_
      exact ⟨rfl, rfl⟩
abbrev r_c_X3_closes : Room := { frames := 2, cells := 0, slots := 0, locals := 47 }
set_option maxHeartbeats 4000000 in
set_option maxRecDepth 100000 in
theorem c_X3_closes (l : Launch) (D : va_G) (ca : Nat → ClassId) (w : xW) (ad : Nat → Nat) (hC : C0 ca ad w)    : xC l D ca yX3_closes cX3_closes 4 (some .boolean) r_c_X3_closes [.ref (ad 12)] w (qZ w (True)) := by
  refine xC.of2 "WindWords$Leans" (by decide) rfl (Nat.le_of_ble_eq_true rfl) ?_
  intro p e s m args below meth c A ls Qf B hnm h hl hQ
  have hl : lv_has ls 4 [(0, .ref (ad 12))] := hl
  refine x_iconst B dX3_closes_0 ?_
  refine lv_istore_n (lv' := [(1, .int (iI 0)), (0, .ref (ad 12))]) B.1 B.2.1 dX3_closes_1 rfl hl (by decide) rfl (fun ls hl => ?_)
  have loop2 : ∀ (n2 : Nat) (x : Int), (0 ≤ x ∧ x ≤ 17) → (17 - x : Int).toNat < n2 → ∀ (H : Heap) (locs : List Loc) (ls : Array Slot), xH D A s.heap w H locs → lv_has ls 4 [(0, .ref (ad 12)), (1, .int (iI x))] → W p l e r_c_X3_closes s m args below meth c H locs 0 0 Qf (F0 m 2 ls []) := by
    intro n2
    induction n2 with
    | zero =>
      intro x hx hm2 H locs ls h hl
      exact absurd hm2 (Nat.not_lt_zero _)
    | succ n2 ih2 =>
      intro x hx hm2 H locs ls h hl
      refine lv_iload_n B.1 B.2.1 dX3_closes_2 rfl (lv_at hl 1 rfl) ?_
      refine x_bipush B (by decide) dX3_closes_3 ?_
      refine x_icmp_ge B (by omega) (tgt := 79) dX3_closes_5 (by decide) (fun c1 => ?_) (fun c1 => ?_)
      · refine x_iconst B dX3_closes_79 ?_
        refine x_rz B hQ h (by decide) (by decide) dX3_closes_80 ?_
        exact ⟨rfl, Or.inl ⟨rfl, trivial⟩⟩
      · refine x_iconst B dX3_closes_8 ?_
        refine lv_istore_n (lv' := [(2, .int (iI 0)), (0, .ref (ad 12)), (1, .int (iI x))]) B.1 B.2.1 dX3_closes_9 rfl hl (by decide) rfl (fun ls hl => ?_)
        have loop10 : ∀ (n10 : Nat) (y : Int), (0 ≤ y ∧ y ≤ 17) → (17 - y : Int).toNat < n10 → ∀ (H : Heap) (locs : List Loc) (ls : Array Slot), xH D A s.heap w H locs → lv_has ls 4 [(0, .ref (ad 12)), (1, .int (iI x)), (2, .int (iI y))] → W p l e r_c_X3_closes s m args below meth c H locs 0 0 Qf (F0 m 10 ls []) := by
          intro n10
          induction n10 with
          | zero =>
            intro y hy hm10 H locs ls h hl
            exact absurd hm10 (Nat.not_lt_zero _)
          | succ n10 ih10 =>
            intro y hy hm10 H locs ls h hl
            refine lv_iload_n B.1 B.2.1 dX3_closes_10 rfl (lv_at hl 2 rfl) ?_
            refine x_bipush B (by decide) dX3_closes_11 ?_
            refine x_icmp_ge B (by omega) (tgt := 43) dX3_closes_13 (by decide) (fun c2 => ?_) (fun c2 => ?_)
            · refine x_iconst B dX3_closes_43 ?_
              refine lv_istore_n (lv' := [(2, .int (iI 0)), (0, .ref (ad 12)), (1, .int (iI x))]) B.1 B.2.1 dX3_closes_44 rfl hl (by decide) rfl (fun ls hl => ?_)
              have loop45 : ∀ (n45 : Nat) (u : Int), (0 ≤ u ∧ u ≤ 17) → (17 - u : Int).toNat < n45 → ∀ (H : Heap) (locs : List Loc) (ls : Array Slot), xH D A s.heap w H locs → lv_has ls 4 [(0, .ref (ad 12)), (1, .int (iI x)), (2, .int (iI u))] → W p l e r_c_X3_closes s m args below meth c H locs 0 0 Qf (F0 m 45 ls []) := by
                intro n45
                induction n45 with
                | zero =>
                  intro u hu hm45 H locs ls h hl
                  exact absurd hm45 (Nat.not_lt_zero _)
                | succ n45 ih45 =>
                  intro u hu hm45 H locs ls h hl
                  refine lv_iload_n B.1 B.2.1 dX3_closes_45 rfl (lv_at hl 2 rfl) ?_
                  refine x_bipush B (by decide) dX3_closes_46 ?_
                  refine x_icmp_ge B (by omega) (tgt := 73) dX3_closes_48 (by decide) (fun c3 => ?_) (fun c3 => ?_)
                  · refine lv_iinc (v := iI (x + 1)) (lv' := [(1, .int (iI (x + 1))), (0, .ref (ad 12)), (2, .int (iI u))]) B.1 B.2.1 dX3_closes_73 hl (k := 1) rfl (iI_add _ _) (by decide) rfl (fun ls hl => ?_)
                    refine lv_goto (tgt := 2) B.1 B.2.1 dX3_closes_76 (by decide) ?_
                    exact ih2 ((x + 1)) (by omega) (by omega) _ _ _ h (lv_sub hl [1, 0] rfl)
                  · refine lv_aload_n B.1 B.2.1 dX3_closes_51 rfl (lv_at hl 0 rfl) ?_
                    refine x_getR B h kX3 12 (hC 12 _ rfl) 0 (b := ad 13) rfl m_220 (by decide) dX3_closes_52 ?_
                    refine lv_iload_n B.1 B.2.1 dX3_closes_55 rfl (lv_at hl 2 rfl) ?_
                    refine x_bipush B (by decide) dX3_closes_56 ?_
                    refine x_imul B dX3_closes_58 ?_
                    refine lv_iload_n B.1 B.2.1 dX3_closes_59 rfl (lv_at hl 2 rfl) ?_
                    refine x_iadd B dX3_closes_60 ?_
                    refine x_ialdG B h 13 (hC 13 _ rfl) (by omega) dX3_closes_61 (fun z4 z4a z4b => ?_)
                    refine x_if_ge B (by omega) (tgt := 67) dX3_closes_62 (by decide) (fun c5 => ?_) (fun c5 => ?_)
                    · refine lv_iinc (v := iI (u + 1)) (lv' := [(2, .int (iI (u + 1))), (0, .ref (ad 12)), (1, .int (iI x))]) B.1 B.2.1 dX3_closes_67 hl (k := 2) rfl (iI_add _ _) (by decide) rfl (fun ls hl => ?_)
                      refine lv_goto (tgt := 45) B.1 B.2.1 dX3_closes_70 (by decide) ?_
                      exact ih45 ((u + 1)) (by omega) (by omega) _ _ _ h (lv_sub hl [1, 2, 0] rfl)
                    · exact absurd c5 (by omega)
              exact loop45 ((17 - 0 : Int).toNat + 1) 0 (by omega) (Nat.lt_succ_self _) _ _ _ h (lv_sub hl [1, 2, 0] rfl)
            · refine x_iconst B dX3_closes_16 ?_
              refine lv_istore_n (lv' := [(3, .int (iI 0)), (0, .ref (ad 12)), (1, .int (iI x)), (2, .int (iI y))]) B.1 B.2.1 dX3_closes_17 rfl hl (by decide) rfl (fun ls hl => ?_)
              have loop18 : ∀ (n18 : Nat) (v : Int), (0 ≤ v ∧ v ≤ 17) → (17 - v : Int).toNat < n18 → ∀ (H : Heap) (locs : List Loc) (ls : Array Slot), xH D A s.heap w H locs → lv_has ls 4 [(0, .ref (ad 12)), (1, .int (iI x)), (2, .int (iI y)), (3, .int (iI v))] → W p l e r_c_X3_closes s m args below meth c H locs 0 0 Qf (F0 m 18 ls []) := by
                intro n18
                induction n18 with
                | zero =>
                  intro v hv hm18 H locs ls h hl
                  exact absurd hm18 (Nat.not_lt_zero _)
                | succ n18 ih18 =>
                  intro v hv hm18 H locs ls h hl
                  refine lv_iload_n B.1 B.2.1 dX3_closes_18 rfl (lv_at hl 3 rfl) ?_
                  refine x_bipush B (by decide) dX3_closes_19 ?_
                  refine x_icmp_ge B (by omega) (tgt := 37) dX3_closes_21 (by decide) (fun c6 => ?_) (fun c6 => ?_)
                  · refine lv_iinc (v := iI (y + 1)) (lv' := [(2, .int (iI (y + 1))), (0, .ref (ad 12)), (1, .int (iI x)), (3, .int (iI v))]) B.1 B.2.1 dX3_closes_37 hl (k := 2) rfl (iI_add _ _) (by decide) rfl (fun ls hl => ?_)
                    refine lv_goto (tgt := 10) B.1 B.2.1 dX3_closes_40 (by decide) ?_
                    exact ih10 ((y + 1)) (by omega) (by omega) _ _ _ h (lv_sub hl [1, 2, 0] rfl)
                  · refine lv_aload_n B.1 B.2.1 dX3_closes_24 rfl (lv_at hl 0 rfl) ?_
                    refine lv_iload_n B.1 B.2.1 dX3_closes_25 rfl (lv_at hl 2 rfl) ?_
                    refine lv_iload_n B.1 B.2.1 dX3_closes_26 rfl (lv_at hl 1 rfl) ?_
                    refine lv_iload_n B.1 B.2.1 dX3_closes_27 rfl (lv_at hl 3 rfl) ?_
                    refine x_cV B h kX3 12 (hC 12 _ rfl) k_X3_join rfl (c_X3_join l D ca _ ad hC y x v  (by omega) (by omega) (by omega)) m_1026 rfl (by decide) hl.1 [] (Nat.le_of_ble_eq_true rfl) rfl dX3_closes_28 (fun r w1 hq H locs h => ?_)
                    obtain ⟨rfl, rfl⟩ := hq
                    show W p l e r_c_X3_closes s m args below meth c H locs 0 0 Qf (F0 m 31 ls [])
                    refine lv_iinc (v := iI (v + 1)) (lv' := [(3, .int (iI (v + 1))), (0, .ref (ad 12)), (1, .int (iI x)), (2, .int (iI y))]) B.1 B.2.1 dX3_closes_31 hl (k := 3) rfl (iI_add _ _) (by decide) rfl (fun ls hl => ?_)
                    refine lv_goto (tgt := 18) B.1 B.2.1 dX3_closes_34 (by decide) ?_
                    exact ih18 ((v + 1)) (by omega) (by omega) _ _ _ h (lv_sub hl [1, 2, 3, 0] rfl)
              exact loop18 ((17 - 0 : Int).toNat + 1) 0 (by omega) (Nat.lt_succ_self _) _ _ _ h (lv_sub hl [1, 2, 3, 0] rfl)
        exact loop10 ((17 - 0 : Int).toNat + 1) 0 (by omega) (Nat.lt_succ_self _) _ _ _ h (lv_sub hl [1, 2, 0] rfl)
  exact loop2 ((17 - 0 : Int).toNat + 1) 0 (by omega) (Nat.lt_succ_self _) _ _ _ h (lv_sub hl [1, 0] rfl)
abbrev r_c_X3_solve : Room := { frames := 3, cells := 0, slots := 0, locals := 70 }
set_option maxHeartbeats 4000000 in
set_option maxRecDepth 100000 in
theorem c_X3_solve (l : Launch) (D : va_G) (ca : Nat → ClassId) (w : xW) (ad : Nat → Nat) (hC : C0 ca ad w)    : xC l D ca yX3_solve cX3_solve 6 (some .boolean) r_c_X3_solve [.ref (ad 12), .ref (ad 1), .ref (ad 4)] w (qZ w (True)) := by
  refine xC.of2 "WindWords$Leans" (by decide) rfl (Nat.le_of_ble_eq_true rfl) ?_
  intro p e s m args below meth c A ls Qf B hnm h hl hQ
  have hl : lv_has ls 6 [(0, .ref (ad 12)), (1, .ref (ad 1)), (2, .ref (ad 4))] := hl
  refine x_iconst B dX3_solve_0 ?_
  refine lv_istore_n (lv' := [(3, .int (iI 0)), (0, .ref (ad 12)), (1, .ref (ad 1)), (2, .ref (ad 4))]) B.1 B.2.1 dX3_solve_1 rfl hl (by decide) rfl (fun ls hl => ?_)
  have loop2 : ∀ (n2 : Nat) (i : Int), (0 ≤ i ∧ i ≤ 289) → (289 - i : Int).toNat < n2 → ∀ (H : Heap) (locs : List Loc) (ls : Array Slot), xH D A s.heap w H locs → lv_has ls 6 [(0, .ref (ad 12)), (1, .ref (ad 1)), (2, .ref (ad 4)), (3, .int (iI i))] → W p l e r_c_X3_solve s m args below meth c H locs 0 0 Qf (F0 m 2 ls []) := by
    intro n2
    induction n2 with
    | zero =>
      intro i h0 hm2 H locs ls h hl
      exact absurd hm2 (Nat.not_lt_zero _)
    | succ n2 ih2 =>
      intro i h0 hm2 H locs ls h hl
      refine lv_iload_n B.1 B.2.1 dX3_solve_2 rfl (lv_at hl 3 rfl) ?_
      refine lv_aload_n B.1 B.2.1 dX3_solve_3 rfl (lv_at hl 0 rfl) ?_
      refine x_getR B h kX3 12 (hC 12 _ rfl) 0 (b := ad 13) rfl m_220 (by decide) dX3_solve_4 ?_
      refine x_alenI B h 13 0 (hC 13 _ rfl) rfl dX3_solve_7 ?_
      refine x_icmp_ge B (by omega) (tgt := 25) dX3_solve_8 (by decide) (fun c1 => ?_) (fun c1 => ?_)
      · refine x_iconst B dX3_solve_25 ?_
        refine lv_istore_n (lv' := [(3, .int (iI 0)), (0, .ref (ad 12)), (1, .ref (ad 1)), (2, .ref (ad 4))]) B.1 B.2.1 dX3_solve_26 rfl hl (by decide) rfl (fun ls hl => ?_)
        have loop27 : ∀ (n27 : Nat) (i : Int), (0 ≤ i ∧ i ≤ 17) → (17 - i : Int).toNat < n27 → ∀ (H : Heap) (locs : List Loc) (ls : Array Slot), xH D A s.heap w H locs → lv_has ls 6 [(0, .ref (ad 12)), (1, .ref (ad 1)), (2, .ref (ad 4)), (3, .int (iI i))] → W p l e r_c_X3_solve s m args below meth c H locs 0 0 Qf (F0 m 27 ls []) := by
          intro n27
          induction n27 with
          | zero =>
            intro i h0 hm27 H locs ls h hl
            exact absurd hm27 (Nat.not_lt_zero _)
          | succ n27 ih27 =>
            intro i h0 hm27 H locs ls h hl
            refine lv_iload_n B.1 B.2.1 dX3_solve_27 rfl (lv_at hl 3 rfl) ?_
            refine x_bipush B (by decide) dX3_solve_28 ?_
            refine x_icmp_ge B (by omega) (tgt := 51) dX3_solve_30 (by decide) (fun c2 => ?_) (fun c2 => ?_)
            · refine x_iconst B dX3_solve_51 ?_
              refine lv_istore_n (lv' := [(3, .int (iI 0)), (0, .ref (ad 12)), (1, .ref (ad 1)), (2, .ref (ad 4))]) B.1 B.2.1 dX3_solve_52 rfl hl (by decide) rfl (fun ls hl => ?_)
              refine lv_iload_n B.1 B.2.1 dX3_solve_53 rfl (lv_at hl 0 rfl) ?_
              refine lv_aload_n B.1 B.2.1 dX3_solve_54 rfl (lv_at hl 2 rfl) ?_
              refine x_getX B h kX0 1 (hC 1 _ rfl) 5 (z := 0) rfl m_147 (by decide) dX3_solve_55 ?_
              refine x_icmp_ge B (by omega) (tgt := 128) dX3_solve_58 (by decide) (fun c3 => ?_) (fun c3 => ?_)
              · refine lv_aload_n B.1 B.2.1 dX3_solve_128 rfl (lv_at hl 1 rfl) ?_
                refine x_cV B h kX3 12 (hC 12 _ rfl) k_X3_closes rfl (c_X3_closes l D ca _ ad hC   ) m_1022 rfl (by decide) hl.1 [] (Nat.le_of_ble_eq_true rfl) rfl dX3_solve_129 (fun r w1 hq H locs h => ?_)
                obtain ⟨rfl, ⟨rfl, b4⟩ | ⟨rfl, b4⟩⟩ := hq
                · show W p l e r_c_X3_solve s m args below meth c H locs 0 0 Qf (F0 m 132 ls [.int (iI 1)])
                  refine x_rz B hQ h (by decide) (by decide) dX3_solve_132 ?_
                  exact ⟨rfl, Or.inl ⟨rfl, trivial⟩⟩
                · exact (b4 trivial).elim
              · exact absurd c3 (by omega)
            · refine lv_aload_n B.1 B.2.1 dX3_solve_33 rfl (lv_at hl 0 rfl) ?_
              refine x_getR B h kX3 12 (hC 12 _ rfl) 0 (b := ad 13) rfl m_220 (by decide) dX3_solve_34 ?_
              refine lv_iload_n B.1 B.2.1 dX3_solve_37 rfl (lv_at hl 3 rfl) ?_
              refine x_bipush B (by decide) dX3_solve_38 ?_
              refine x_imul B dX3_solve_40 ?_
              refine lv_iload_n B.1 B.2.1 dX3_solve_41 rfl (lv_at hl 3 rfl) ?_
              refine x_iadd B dX3_solve_42 ?_
              refine x_iconst B dX3_solve_43 ?_
              refine x_iastS B h 13 (hC 13 _ rfl) (by omega) (gG_upd (by omega)) dX3_solve_44 (fun H locs h => ?_)
              refine lv_iinc (v := iI (i + 1)) (lv' := [(3, .int (iI (i + 1))), (0, .ref (ad 12)), (1, .ref (ad 1)), (2, .ref (ad 4))]) B.1 B.2.1 dX3_solve_45 hl (k := 3) rfl (iI_add _ _) (by decide) rfl (fun ls hl => ?_)
              refine lv_goto (tgt := 27) B.1 B.2.1 dX3_solve_48 (by decide) ?_
              exact ih27 ((i + 1)) (by omega) (by omega) _ _ _ h (lv_sub hl [1, 2, 3, 0] rfl)
        exact loop27 ((17 - 0 : Int).toNat + 1) 0 (by omega) (Nat.lt_succ_self _) _ _ _ h (lv_sub hl [1, 2, 3, 0] rfl)
      · refine lv_aload_n B.1 B.2.1 dX3_solve_11 rfl (lv_at hl 0 rfl) ?_
        refine x_getR B h kX3 12 (hC 12 _ rfl) 0 (b := ad 13) rfl m_220 (by decide) dX3_solve_12 ?_
        refine lv_iload_n B.1 B.2.1 dX3_solve_15 rfl (lv_at hl 3 rfl) ?_
        refine x_ldc B (z := 1000000) m_975 (by decide) dX3_solve_16 ?_
        refine x_iastS B h 13 (hC 13 _ rfl) (by omega) (gG_upd (by omega)) dX3_solve_18 (fun H locs h => ?_)
        refine lv_iinc (v := iI (i + 1)) (lv' := [(3, .int (iI (i + 1))), (0, .ref (ad 12)), (1, .ref (ad 1)), (2, .ref (ad 4))]) B.1 B.2.1 dX3_solve_19 hl (k := 3) rfl (iI_add _ _) (by decide) rfl (fun ls hl => ?_)
        refine lv_goto (tgt := 2) B.1 B.2.1 dX3_solve_22 (by decide) ?_
        exact ih2 ((i + 1)) (by omega) (by omega) _ _ _ h (lv_sub hl [1, 2, 3, 0] rfl)
  exact loop2 ((289 - 0 : Int).toNat + 1) 0 (by omega) (Nat.lt_succ_self _) _ _ _ h (lv_sub hl [1, 2, 3, 0] rfl)
abbrev r_c_X11_tight : Room := { frames := 4, cells := 0, slots := 0, locals := 95 }
set_option maxHeartbeats 4000000 in
set_option maxRecDepth 100000 in
theorem c_X11_tight (l : Launch) (D : va_G) (ca : Nat → ClassId) (w : xW) (ad : Nat → Nat) (hC : C0 ca ad w)    : xC l D ca yX11_tight cX11_tight 1 (some .int) r_c_X11_tight [.ref (ad 0)] w (qIa (fun z => z = 1)) := by
  refine xC.of2 "WindWords" (by decide) rfl (Nat.le_of_ble_eq_true rfl) ?_
  intro p e s m args below meth c A ls Qf B hnm h hl hQ
  have hl : lv_has ls 1 [(0, .ref (ad 0))] := hl
  refine lv_aload_n B.1 B.2.1 dX11_tight_0 rfl (lv_at hl 0 rfl) ?_
  refine x_getR B h kX11 0 (hC 0 _ rfl) 2 (b := ad 12) rfl m_363 (by decide) dX11_tight_1 ?_
  refine lv_aload_n B.1 B.2.1 dX11_tight_4 rfl (lv_at hl 0 rfl) ?_
  refine x_getR B h kX11 0 (hC 0 _ rfl) 0 (b := ad 1) rfl m_361 (by decide) dX11_tight_5 ?_
  refine lv_aload_n B.1 B.2.1 dX11_tight_8 rfl (lv_at hl 0 rfl) ?_
  refine x_getR B h kX11 0 (hC 0 _ rfl) 1 (b := ad 4) rfl m_362 (by decide) dX11_tight_9 ?_
  refine x_cV B h kX3 12 (hC 12 _ rfl) k_X3_solve rfl (c_X3_solve l D ca _ ad hC   ) m_971 rfl (by decide) hl.1 [] (Nat.le_of_ble_eq_true rfl) rfl dX11_tight_12 (fun r w1 hq H locs h => ?_)
  obtain ⟨rfl, ⟨rfl, b1⟩ | ⟨rfl, b1⟩⟩ := hq
  · show W p l e r_c_X11_tight s m args below meth c H locs 0 0 Qf (F0 m 15 ls [.int (iI 1)])
    refine x_if_eq B (by omega) (tgt := 22) dX11_tight_15 (by decide) (fun c2 => ?_) (fun c2 => ?_)
    · exact absurd c2 (by omega)
    · refine x_iconst B dX11_tight_18 ?_
      refine lv_goto (tgt := 23) B.1 B.2.1 dX11_tight_19 (by decide) ?_
      refine x_ri B hQ h (by decide) dX11_tight_23 ?_
      exact ⟨_, rfl, by omega⟩
  · exact (b1 trivial).elim
abbrev r_c_X11_lean : Room := { frames := 2, cells := 0, slots := 0, locals := 42 }
set_option maxHeartbeats 4000000 in
set_option maxRecDepth 100000 in
theorem c_X11_lean (l : Launch) (D : va_G) (ca : Nat → ClassId) (w : xW) (ad : Nat → Nat) (hC : C0 ca ad w) (o : Int) (what : Int)  (ho : xr o) (hwhat : xr what) : xC l D ca yX11_lean cX11_lean 3 (some .int) r_c_X11_lean [.ref (ad 0), .int (iI o), .int (iI what)] w (qIa (fun z => z = -2000)) := by
  refine xC.of2 "WindWords" (by decide) rfl (Nat.le_of_ble_eq_true rfl) ?_
  intro p e s m args below meth c A ls Qf B hnm h hl hQ
  have hl : lv_has ls 3 [(0, .ref (ad 0)), (1, .int (iI o)), (2, .int (iI what))] := hl
  refine lv_aload_n B.1 B.2.1 dX11_lean_0 rfl (lv_at hl 0 rfl) ?_
  refine x_getR B h kX11 0 (hC 0 _ rfl) 0 (b := ad 1) rfl m_361 (by decide) dX11_lean_1 ?_
  refine lv_iload_n B.1 B.2.1 dX11_lean_4 rfl (lv_at hl 1 rfl) ?_
  refine x_cV B h kX0 1 (hC 1 _ rfl) k_X0_hasOfficer rfl (c_X0_hasOfficer l D ca _ ad hC o  (by omega)) m_434 rfl (by decide) hl.1 [] (Nat.le_of_ble_eq_true rfl) rfl dX11_lean_5 (fun r w1 hq H locs h => ?_)
  obtain ⟨rfl, ⟨rfl, b1⟩ | ⟨rfl, b1⟩⟩ := hq
  · exact b1.elim
  · show W p l e r_c_X11_lean s m args below meth c H locs 0 0 Qf (F0 m 8 ls [.int (iI 0)])
    refine x_if_eq B (by omega) (tgt := 37) dX11_lean_8 (by decide) (fun c2 => ?_) (fun c2 => ?_)
    · refine x_sipush B (by decide) dX11_lean_37 ?_
      refine x_ri B hQ h (by decide) dX11_lean_40 ?_
      exact ⟨_, rfl, by omega⟩
    · exact absurd c2 (by omega)
abbrev r_c_X11_liked : Room := { frames := 2, cells := 0, slots := 0, locals := 42 }
set_option maxHeartbeats 4000000 in
set_option maxRecDepth 100000 in
theorem c_X11_liked (l : Launch) (D : va_G) (ca : Nat → ClassId) (w : xW) (ad : Nat → Nat) (hC : C0 ca ad w) (o : Int) (number : Int) (what : Int)  (ho : xr o) (hnumber : xr number) (hwhat : xr what) : xC l D ca yX11_liked cX11_liked 6 (some .int) r_c_X11_liked [.ref (ad 0), .int (iI o), .int (iI number), .int (iI what)] w (qIa (fun z => z = -200)) := by
  refine xC.of2 "WindWords" (by decide) rfl (Nat.le_of_ble_eq_true rfl) ?_
  intro p e s m args below meth c A ls Qf B hnm h hl hQ
  have hl : lv_has ls 6 [(0, .ref (ad 0)), (1, .int (iI o)), (2, .int (iI number)), (3, .int (iI what))] := hl
  refine lv_aload_n B.1 B.2.1 dX11_liked_0 rfl (lv_at hl 0 rfl) ?_
  refine x_getR B h kX11 0 (hC 0 _ rfl) 0 (b := ad 1) rfl m_361 (by decide) dX11_liked_1 ?_
  refine lv_iload_n B.1 B.2.1 dX11_liked_4 rfl (lv_at hl 1 rfl) ?_
  refine x_cV B h kX0 1 (hC 1 _ rfl) k_X0_hasOfficer rfl (c_X0_hasOfficer l D ca _ ad hC o  (by omega)) m_434 rfl (by decide) hl.1 [] (Nat.le_of_ble_eq_true rfl) rfl dX11_liked_5 (fun r w1 hq H locs h => ?_)
  obtain ⟨rfl, ⟨rfl, b1⟩ | ⟨rfl, b1⟩⟩ := hq
  · exact b1.elim
  · show W p l e r_c_X11_liked s m args below meth c H locs 0 0 Qf (F0 m 8 ls [.int (iI 0)])
    refine x_if_eq B (by omega) (tgt := 30) dX11_liked_8 (by decide) (fun c2 => ?_) (fun c2 => ?_)
    · refine x_sipush B (by decide) dX11_liked_30 ?_
      refine x_ri B hQ h (by decide) dX11_liked_33 ?_
      exact ⟨_, rfl, by omega⟩
    · exact absurd c2 (by omega)
abbrev r_c_X10_gather : Room := { frames := 0, cells := 0, slots := 0, locals := 0 }
set_option maxHeartbeats 4000000 in
set_option maxRecDepth 100000 in
theorem c_X10_gather (l : Launch) (D : va_G) (ca : Nat → ClassId) (w : xW) (ad : Nat → Nat) (hC : C0 ca ad w) (year : Int)  (hyear : xr year) : xC l D ca yX10_gather cX10_gather 7 none r_c_X10_gather [.ref (ad 14), .int (iI year), .ref (ad 1), .ref (ad 4), .ref (ad 12)] w (qV w) := by
  refine xC.of2 "WindWords$Winds" (by decide) rfl (Nat.le_of_ble_eq_true rfl) ?_
  intro p e s m args below meth c A ls Qf B hnm h hl hQ
  have hl : lv_has ls 7 [(0, .ref (ad 14)), (1, .int (iI year)), (2, .ref (ad 1)), (3, .ref (ad 4)), (4, .ref (ad 12))] := hl
  refine lv_aload_n B.1 B.2.1 dX10_gather_0 rfl (lv_at hl 0 rfl) ?_
  refine x_iconst B dX10_gather_1 ?_
  refine x_putS B h kX10 14 (hC 14 _ rfl) 3 (P := fX 0) rfl m_233 (by decide) rfl rfl rfl rfl dX10_gather_2 (fun H locs h => ?_)
  refine lv_aload_n B.1 B.2.1 dX10_gather_5 rfl (lv_at hl 0 rfl) ?_
  refine x_iconst B dX10_gather_6 ?_
  refine x_putS B h kX10 14 (hC 14 _ rfl) 4 (P := fX 0) rfl m_235 (by decide) rfl rfl rfl rfl dX10_gather_7 (fun H locs h => ?_)
  refine lv_aload_n B.1 B.2.1 dX10_gather_10 rfl (lv_at hl 0 rfl) ?_
  refine x_iconst B dX10_gather_11 ?_
  refine x_putS B h kX10 14 (hC 14 _ rfl) 5 (P := fX 0) rfl m_237 (by decide) rfl rfl rfl rfl dX10_gather_12 (fun H locs h => ?_)
  refine x_iconst B dX10_gather_15 ?_
  refine lv_istore (lv' := [(5, .int (iI 0)), (0, .ref (ad 14)), (1, .int (iI year)), (2, .ref (ad 1)), (3, .ref (ad 4)), (4, .ref (ad 12))]) B.1 B.2.1 dX10_gather_16 hl (by decide) rfl (fun ls hl => ?_)
  refine lv_iload B.1 B.2.1 dX10_gather_18 (lv_at hl 0 rfl) ?_
  refine lv_aload_n B.1 B.2.1 dX10_gather_20 rfl (lv_at hl 3 rfl) ?_
  refine x_getX B h kX0 1 (hC 1 _ rfl) 5 (z := 0) rfl m_146 (by decide) dX10_gather_21 ?_
  refine x_icmp_ge B (by omega) (tgt := 77) dX10_gather_24 (by decide) (fun c1 => ?_) (fun c1 => ?_)
  · refine x_rv B hQ h (by decide) dX10_gather_77 ?_
    exact ⟨rfl, rfl⟩
  · exact absurd c1 (by omega)
abbrev r_c_X10_gatherValues : Room := { frames := 1, cells := 0, slots := 0, locals := 26 }
set_option maxHeartbeats 4000000 in
set_option maxRecDepth 100000 in
theorem c_X10_gatherValues (l : Launch) (D : va_G) (ca : Nat → ClassId) (w : xW) (ad : Nat → Nat) (hC : C0 ca ad w)    : xC l D ca yX10_gatherValues cX10_gatherValues 5 none r_c_X10_gatherValues [.ref (ad 14), .ref (ad 1), .ref (ad 4), .ref (ad 12)] w (qV w) := by
  refine xC.of2 "WindWords$Winds" (by decide) rfl (Nat.le_of_ble_eq_true rfl) ?_
  intro p e s m args below meth c A ls Qf B hnm h hl hQ
  have hl : lv_has ls 5 [(0, .ref (ad 14)), (1, .ref (ad 1)), (2, .ref (ad 4)), (3, .ref (ad 12))] := hl
  refine lv_aload_n B.1 B.2.1 dX10_gatherValues_0 rfl (lv_at hl 0 rfl) ?_
  refine x_iconst B dX10_gatherValues_1 ?_
  refine x_putS B h kX10 14 (hC 14 _ rfl) 6 (P := fX 0) rfl m_239 (by decide) rfl rfl rfl rfl dX10_gatherValues_2 (fun H locs h => ?_)
  refine x_iconst B dX10_gatherValues_5 ?_
  refine lv_istore (lv' := [(4, .int (iI 0)), (0, .ref (ad 14)), (1, .ref (ad 1)), (2, .ref (ad 4)), (3, .ref (ad 12))]) B.1 B.2.1 dX10_gatherValues_6 hl (by decide) rfl (fun ls hl => ?_)
  refine lv_iload B.1 B.2.1 dX10_gatherValues_8 (lv_at hl 0 rfl) ?_
  refine x_bipush B (by decide) dX10_gatherValues_10 ?_
  refine x_icmp_ge B (by omega) (tgt := 85) dX10_gatherValues_12 (by decide) (fun c1 => ?_) (fun c1 => ?_)
  · exact absurd c1 (by omega)
  · refine lv_aload_n B.1 B.2.1 dX10_gatherValues_15 rfl (lv_at hl 1 rfl) ?_
    refine lv_iload B.1 B.2.1 dX10_gatherValues_16 (lv_at hl 0 rfl) ?_
    refine lv_aload_n B.1 B.2.1 dX10_gatherValues_18 rfl (lv_at hl 2 rfl) ?_
    refine lv_aload_n B.1 B.2.1 dX10_gatherValues_19 rfl (lv_at hl 3 rfl) ?_
    refine lv_aload_n B.1 B.2.1 dX10_gatherValues_20 rfl (lv_at hl 4 rfl) ?_
    refine x_cV B h kX10 14 (hC 14 _ rfl) k_X10_gather rfl (c_X10_gather l D ca _ ad hC 0  (by omega)) m_1090 rfl (by decide) hl.1 [] (Nat.le_of_ble_eq_true rfl) rfl dX10_gatherValues_21 (fun r w1 hq H locs h => ?_)
    obtain ⟨rfl, rfl⟩ := hq
    show W p l e r_c_X10_gatherValues s m args below meth c H locs 0 0 Qf (F0 m 24 ls [])
    refine lv_aload_n B.1 B.2.1 dX10_gatherValues_24 rfl (lv_at hl 1 rfl) ?_
    refine x_getX B h kX10 14 (hC 14 _ rfl) 3 (z := 0) rfl m_233 (by decide) dX10_gatherValues_25 ?_
    refine x_if_le B (by omega) (tgt := 79) dX10_gatherValues_28 (by decide) (fun c2 => ?_) (fun c2 => ?_)
    · refine lv_iinc (v := iI (0 + 1)) (lv' := [(4, .int (iI (0 + 1))), (0, .ref (ad 14)), (1, .ref (ad 1)), (2, .ref (ad 4)), (3, .ref (ad 12))]) B.1 B.2.1 dX10_gatherValues_79 hl (k := 0) rfl (iI_add _ _) (by decide) rfl (fun ls hl => ?_)
      refine lv_goto (tgt := 8) B.1 B.2.1 dX10_gatherValues_82 (by decide) ?_
      refine lv_iload B.1 B.2.1 dX10_gatherValues_8 (lv_at hl 0 rfl) ?_
      refine x_bipush B (by decide) dX10_gatherValues_10 ?_
      refine x_icmp_ge B (by omega) (tgt := 85) dX10_gatherValues_12 (by decide) (fun c3 => ?_) (fun c3 => ?_)
      · exact absurd c3 (by omega)
      · refine lv_aload_n B.1 B.2.1 dX10_gatherValues_15 rfl (lv_at hl 1 rfl) ?_
        refine lv_iload B.1 B.2.1 dX10_gatherValues_16 (lv_at hl 0 rfl) ?_
        refine lv_aload_n B.1 B.2.1 dX10_gatherValues_18 rfl (lv_at hl 2 rfl) ?_
        refine lv_aload_n B.1 B.2.1 dX10_gatherValues_19 rfl (lv_at hl 3 rfl) ?_
        refine lv_aload_n B.1 B.2.1 dX10_gatherValues_20 rfl (lv_at hl 4 rfl) ?_
        refine x_cV B h kX10 14 (hC 14 _ rfl) k_X10_gather rfl (c_X10_gather l D ca _ ad hC ((0 + 1))  (by omega)) m_1090 rfl (by decide) hl.1 [] (Nat.le_of_ble_eq_true rfl) rfl dX10_gatherValues_21 (fun r w1 hq H locs h => ?_)
        obtain ⟨rfl, rfl⟩ := hq
        show W p l e r_c_X10_gatherValues s m args below meth c H locs 0 0 Qf (F0 m 24 ls [])
        refine lv_aload_n B.1 B.2.1 dX10_gatherValues_24 rfl (lv_at hl 1 rfl) ?_
        refine x_getX B h kX10 14 (hC 14 _ rfl) 3 (z := 0) rfl m_233 (by decide) dX10_gatherValues_25 ?_
        refine x_if_le B (by omega) (tgt := 79) dX10_gatherValues_28 (by decide) (fun c4 => ?_) (fun c4 => ?_)
        · refine lv_iinc (v := iI ((0 + 1) + 1)) (lv' := [(4, .int (iI ((0 + 1) + 1))), (0, .ref (ad 14)), (1, .ref (ad 1)), (2, .ref (ad 4)), (3, .ref (ad 12))]) B.1 B.2.1 dX10_gatherValues_79 hl (k := 0) rfl (iI_add _ _) (by decide) rfl (fun ls hl => ?_)
          refine lv_goto (tgt := 8) B.1 B.2.1 dX10_gatherValues_82 (by decide) ?_
          refine lv_iload B.1 B.2.1 dX10_gatherValues_8 (lv_at hl 0 rfl) ?_
          refine x_bipush B (by decide) dX10_gatherValues_10 ?_
          refine x_icmp_ge B (by omega) (tgt := 85) dX10_gatherValues_12 (by decide) (fun c5 => ?_) (fun c5 => ?_)
          · exact absurd c5 (by omega)
          · refine lv_aload_n B.1 B.2.1 dX10_gatherValues_15 rfl (lv_at hl 1 rfl) ?_
            refine lv_iload B.1 B.2.1 dX10_gatherValues_16 (lv_at hl 0 rfl) ?_
            refine lv_aload_n B.1 B.2.1 dX10_gatherValues_18 rfl (lv_at hl 2 rfl) ?_
            refine lv_aload_n B.1 B.2.1 dX10_gatherValues_19 rfl (lv_at hl 3 rfl) ?_
            refine lv_aload_n B.1 B.2.1 dX10_gatherValues_20 rfl (lv_at hl 4 rfl) ?_
            refine x_cV B h kX10 14 (hC 14 _ rfl) k_X10_gather rfl (c_X10_gather l D ca _ ad hC (((0 + 1) + 1))  (by omega)) m_1090 rfl (by decide) hl.1 [] (Nat.le_of_ble_eq_true rfl) rfl dX10_gatherValues_21 (fun r w1 hq H locs h => ?_)
            obtain ⟨rfl, rfl⟩ := hq
            show W p l e r_c_X10_gatherValues s m args below meth c H locs 0 0 Qf (F0 m 24 ls [])
            refine lv_aload_n B.1 B.2.1 dX10_gatherValues_24 rfl (lv_at hl 1 rfl) ?_
            refine x_getX B h kX10 14 (hC 14 _ rfl) 3 (z := 0) rfl m_233 (by decide) dX10_gatherValues_25 ?_
            refine x_if_le B (by omega) (tgt := 79) dX10_gatherValues_28 (by decide) (fun c6 => ?_) (fun c6 => ?_)
            · refine lv_iinc (v := iI (((0 + 1) + 1) + 1)) (lv' := [(4, .int (iI (((0 + 1) + 1) + 1))), (0, .ref (ad 14)), (1, .ref (ad 1)), (2, .ref (ad 4)), (3, .ref (ad 12))]) B.1 B.2.1 dX10_gatherValues_79 hl (k := 0) rfl (iI_add _ _) (by decide) rfl (fun ls hl => ?_)
              refine lv_goto (tgt := 8) B.1 B.2.1 dX10_gatherValues_82 (by decide) ?_
              refine lv_iload B.1 B.2.1 dX10_gatherValues_8 (lv_at hl 0 rfl) ?_
              refine x_bipush B (by decide) dX10_gatherValues_10 ?_
              refine x_icmp_ge B (by omega) (tgt := 85) dX10_gatherValues_12 (by decide) (fun c7 => ?_) (fun c7 => ?_)
              · exact absurd c7 (by omega)
              · refine lv_aload_n B.1 B.2.1 dX10_gatherValues_15 rfl (lv_at hl 1 rfl) ?_
                refine lv_iload B.1 B.2.1 dX10_gatherValues_16 (lv_at hl 0 rfl) ?_
                refine lv_aload_n B.1 B.2.1 dX10_gatherValues_18 rfl (lv_at hl 2 rfl) ?_
                refine lv_aload_n B.1 B.2.1 dX10_gatherValues_19 rfl (lv_at hl 3 rfl) ?_
                refine lv_aload_n B.1 B.2.1 dX10_gatherValues_20 rfl (lv_at hl 4 rfl) ?_
                refine x_cV B h kX10 14 (hC 14 _ rfl) k_X10_gather rfl (c_X10_gather l D ca _ ad hC ((((0 + 1) + 1) + 1))  (by omega)) m_1090 rfl (by decide) hl.1 [] (Nat.le_of_ble_eq_true rfl) rfl dX10_gatherValues_21 (fun r w1 hq H locs h => ?_)
                obtain ⟨rfl, rfl⟩ := hq
                show W p l e r_c_X10_gatherValues s m args below meth c H locs 0 0 Qf (F0 m 24 ls [])
                refine lv_aload_n B.1 B.2.1 dX10_gatherValues_24 rfl (lv_at hl 1 rfl) ?_
                refine x_getX B h kX10 14 (hC 14 _ rfl) 3 (z := 0) rfl m_233 (by decide) dX10_gatherValues_25 ?_
                refine x_if_le B (by omega) (tgt := 79) dX10_gatherValues_28 (by decide) (fun c8 => ?_) (fun c8 => ?_)
                · refine lv_iinc (v := iI ((((0 + 1) + 1) + 1) + 1)) (lv' := [(4, .int (iI ((((0 + 1) + 1) + 1) + 1))), (0, .ref (ad 14)), (1, .ref (ad 1)), (2, .ref (ad 4)), (3, .ref (ad 12))]) B.1 B.2.1 dX10_gatherValues_79 hl (k := 0) rfl (iI_add _ _) (by decide) rfl (fun ls hl => ?_)
                  refine lv_goto (tgt := 8) B.1 B.2.1 dX10_gatherValues_82 (by decide) ?_
                  refine lv_iload B.1 B.2.1 dX10_gatherValues_8 (lv_at hl 0 rfl) ?_
                  refine x_bipush B (by decide) dX10_gatherValues_10 ?_
                  refine x_icmp_ge B (by omega) (tgt := 85) dX10_gatherValues_12 (by decide) (fun c9 => ?_) (fun c9 => ?_)
                  · exact absurd c9 (by omega)
                  · refine lv_aload_n B.1 B.2.1 dX10_gatherValues_15 rfl (lv_at hl 1 rfl) ?_
                    refine lv_iload B.1 B.2.1 dX10_gatherValues_16 (lv_at hl 0 rfl) ?_
                    refine lv_aload_n B.1 B.2.1 dX10_gatherValues_18 rfl (lv_at hl 2 rfl) ?_
                    refine lv_aload_n B.1 B.2.1 dX10_gatherValues_19 rfl (lv_at hl 3 rfl) ?_
                    refine lv_aload_n B.1 B.2.1 dX10_gatherValues_20 rfl (lv_at hl 4 rfl) ?_
                    refine x_cV B h kX10 14 (hC 14 _ rfl) k_X10_gather rfl (c_X10_gather l D ca _ ad hC (((((0 + 1) + 1) + 1) + 1))  (by omega)) m_1090 rfl (by decide) hl.1 [] (Nat.le_of_ble_eq_true rfl) rfl dX10_gatherValues_21 (fun r w1 hq H locs h => ?_)
                    obtain ⟨rfl, rfl⟩ := hq
                    show W p l e r_c_X10_gatherValues s m args below meth c H locs 0 0 Qf (F0 m 24 ls [])
                    refine lv_aload_n B.1 B.2.1 dX10_gatherValues_24 rfl (lv_at hl 1 rfl) ?_
                    refine x_getX B h kX10 14 (hC 14 _ rfl) 3 (z := 0) rfl m_233 (by decide) dX10_gatherValues_25 ?_
                    refine x_if_le B (by omega) (tgt := 79) dX10_gatherValues_28 (by decide) (fun c10 => ?_) (fun c10 => ?_)
                    · refine lv_iinc (v := iI (((((0 + 1) + 1) + 1) + 1) + 1)) (lv' := [(4, .int (iI (((((0 + 1) + 1) + 1) + 1) + 1))), (0, .ref (ad 14)), (1, .ref (ad 1)), (2, .ref (ad 4)), (3, .ref (ad 12))]) B.1 B.2.1 dX10_gatherValues_79 hl (k := 0) rfl (iI_add _ _) (by decide) rfl (fun ls hl => ?_)
                      refine lv_goto (tgt := 8) B.1 B.2.1 dX10_gatherValues_82 (by decide) ?_
                      refine lv_iload B.1 B.2.1 dX10_gatherValues_8 (lv_at hl 0 rfl) ?_
                      refine x_bipush B (by decide) dX10_gatherValues_10 ?_
                      refine x_icmp_ge B (by omega) (tgt := 85) dX10_gatherValues_12 (by decide) (fun c11 => ?_) (fun c11 => ?_)
                      · exact absurd c11 (by omega)
                      · refine lv_aload_n B.1 B.2.1 dX10_gatherValues_15 rfl (lv_at hl 1 rfl) ?_
                        refine lv_iload B.1 B.2.1 dX10_gatherValues_16 (lv_at hl 0 rfl) ?_
                        refine lv_aload_n B.1 B.2.1 dX10_gatherValues_18 rfl (lv_at hl 2 rfl) ?_
                        refine lv_aload_n B.1 B.2.1 dX10_gatherValues_19 rfl (lv_at hl 3 rfl) ?_
                        refine lv_aload_n B.1 B.2.1 dX10_gatherValues_20 rfl (lv_at hl 4 rfl) ?_
                        refine x_cV B h kX10 14 (hC 14 _ rfl) k_X10_gather rfl (c_X10_gather l D ca _ ad hC ((((((0 + 1) + 1) + 1) + 1) + 1))  (by omega)) m_1090 rfl (by decide) hl.1 [] (Nat.le_of_ble_eq_true rfl) rfl dX10_gatherValues_21 (fun r w1 hq H locs h => ?_)
                        obtain ⟨rfl, rfl⟩ := hq
                        show W p l e r_c_X10_gatherValues s m args below meth c H locs 0 0 Qf (F0 m 24 ls [])
                        refine lv_aload_n B.1 B.2.1 dX10_gatherValues_24 rfl (lv_at hl 1 rfl) ?_
                        refine x_getX B h kX10 14 (hC 14 _ rfl) 3 (z := 0) rfl m_233 (by decide) dX10_gatherValues_25 ?_
                        refine x_if_le B (by omega) (tgt := 79) dX10_gatherValues_28 (by decide) (fun c12 => ?_) (fun c12 => ?_)
                        · refine lv_iinc (v := iI ((((((0 + 1) + 1) + 1) + 1) + 1) + 1)) (lv' := [(4, .int (iI ((((((0 + 1) + 1) + 1) + 1) + 1) + 1))), (0, .ref (ad 14)), (1, .ref (ad 1)), (2, .ref (ad 4)), (3, .ref (ad 12))]) B.1 B.2.1 dX10_gatherValues_79 hl (k := 0) rfl (iI_add _ _) (by decide) rfl (fun ls hl => ?_)
                          refine lv_goto (tgt := 8) B.1 B.2.1 dX10_gatherValues_82 (by decide) ?_
                          refine lv_iload B.1 B.2.1 dX10_gatherValues_8 (lv_at hl 0 rfl) ?_
                          refine x_bipush B (by decide) dX10_gatherValues_10 ?_
                          refine x_icmp_ge B (by omega) (tgt := 85) dX10_gatherValues_12 (by decide) (fun c13 => ?_) (fun c13 => ?_)
                          · exact absurd c13 (by omega)
                          · refine lv_aload_n B.1 B.2.1 dX10_gatherValues_15 rfl (lv_at hl 1 rfl) ?_
                            refine lv_iload B.1 B.2.1 dX10_gatherValues_16 (lv_at hl 0 rfl) ?_
                            refine lv_aload_n B.1 B.2.1 dX10_gatherValues_18 rfl (lv_at hl 2 rfl) ?_
                            refine lv_aload_n B.1 B.2.1 dX10_gatherValues_19 rfl (lv_at hl 3 rfl) ?_
                            refine lv_aload_n B.1 B.2.1 dX10_gatherValues_20 rfl (lv_at hl 4 rfl) ?_
                            refine x_cV B h kX10 14 (hC 14 _ rfl) k_X10_gather rfl (c_X10_gather l D ca _ ad hC (((((((0 + 1) + 1) + 1) + 1) + 1) + 1))  (by omega)) m_1090 rfl (by decide) hl.1 [] (Nat.le_of_ble_eq_true rfl) rfl dX10_gatherValues_21 (fun r w1 hq H locs h => ?_)
                            obtain ⟨rfl, rfl⟩ := hq
                            show W p l e r_c_X10_gatherValues s m args below meth c H locs 0 0 Qf (F0 m 24 ls [])
                            refine lv_aload_n B.1 B.2.1 dX10_gatherValues_24 rfl (lv_at hl 1 rfl) ?_
                            refine x_getX B h kX10 14 (hC 14 _ rfl) 3 (z := 0) rfl m_233 (by decide) dX10_gatherValues_25 ?_
                            refine x_if_le B (by omega) (tgt := 79) dX10_gatherValues_28 (by decide) (fun c14 => ?_) (fun c14 => ?_)
                            · refine lv_iinc (v := iI (((((((0 + 1) + 1) + 1) + 1) + 1) + 1) + 1)) (lv' := [(4, .int (iI (((((((0 + 1) + 1) + 1) + 1) + 1) + 1) + 1))), (0, .ref (ad 14)), (1, .ref (ad 1)), (2, .ref (ad 4)), (3, .ref (ad 12))]) B.1 B.2.1 dX10_gatherValues_79 hl (k := 0) rfl (iI_add _ _) (by decide) rfl (fun ls hl => ?_)
                              refine lv_goto (tgt := 8) B.1 B.2.1 dX10_gatherValues_82 (by decide) ?_
                              refine lv_iload B.1 B.2.1 dX10_gatherValues_8 (lv_at hl 0 rfl) ?_
                              refine x_bipush B (by decide) dX10_gatherValues_10 ?_
                              refine x_icmp_ge B (by omega) (tgt := 85) dX10_gatherValues_12 (by decide) (fun c15 => ?_) (fun c15 => ?_)
                              · exact absurd c15 (by omega)
                              · refine lv_aload_n B.1 B.2.1 dX10_gatherValues_15 rfl (lv_at hl 1 rfl) ?_
                                refine lv_iload B.1 B.2.1 dX10_gatherValues_16 (lv_at hl 0 rfl) ?_
                                refine lv_aload_n B.1 B.2.1 dX10_gatherValues_18 rfl (lv_at hl 2 rfl) ?_
                                refine lv_aload_n B.1 B.2.1 dX10_gatherValues_19 rfl (lv_at hl 3 rfl) ?_
                                refine lv_aload_n B.1 B.2.1 dX10_gatherValues_20 rfl (lv_at hl 4 rfl) ?_
                                refine x_cV B h kX10 14 (hC 14 _ rfl) k_X10_gather rfl (c_X10_gather l D ca _ ad hC ((((((((0 + 1) + 1) + 1) + 1) + 1) + 1) + 1))  (by omega)) m_1090 rfl (by decide) hl.1 [] (Nat.le_of_ble_eq_true rfl) rfl dX10_gatherValues_21 (fun r w1 hq H locs h => ?_)
                                obtain ⟨rfl, rfl⟩ := hq
                                show W p l e r_c_X10_gatherValues s m args below meth c H locs 0 0 Qf (F0 m 24 ls [])
                                refine lv_aload_n B.1 B.2.1 dX10_gatherValues_24 rfl (lv_at hl 1 rfl) ?_
                                refine x_getX B h kX10 14 (hC 14 _ rfl) 3 (z := 0) rfl m_233 (by decide) dX10_gatherValues_25 ?_
                                refine x_if_le B (by omega) (tgt := 79) dX10_gatherValues_28 (by decide) (fun c16 => ?_) (fun c16 => ?_)
                                · refine lv_iinc (v := iI ((((((((0 + 1) + 1) + 1) + 1) + 1) + 1) + 1) + 1)) (lv' := [(4, .int (iI ((((((((0 + 1) + 1) + 1) + 1) + 1) + 1) + 1) + 1))), (0, .ref (ad 14)), (1, .ref (ad 1)), (2, .ref (ad 4)), (3, .ref (ad 12))]) B.1 B.2.1 dX10_gatherValues_79 hl (k := 0) rfl (iI_add _ _) (by decide) rfl (fun ls hl => ?_)
                                  refine lv_goto (tgt := 8) B.1 B.2.1 dX10_gatherValues_82 (by decide) ?_
                                  refine lv_iload B.1 B.2.1 dX10_gatherValues_8 (lv_at hl 0 rfl) ?_
                                  refine x_bipush B (by decide) dX10_gatherValues_10 ?_
                                  refine x_icmp_ge B (by omega) (tgt := 85) dX10_gatherValues_12 (by decide) (fun c17 => ?_) (fun c17 => ?_)
                                  · exact absurd c17 (by omega)
                                  · refine lv_aload_n B.1 B.2.1 dX10_gatherValues_15 rfl (lv_at hl 1 rfl) ?_
                                    refine lv_iload B.1 B.2.1 dX10_gatherValues_16 (lv_at hl 0 rfl) ?_
                                    refine lv_aload_n B.1 B.2.1 dX10_gatherValues_18 rfl (lv_at hl 2 rfl) ?_
                                    refine lv_aload_n B.1 B.2.1 dX10_gatherValues_19 rfl (lv_at hl 3 rfl) ?_
                                    refine lv_aload_n B.1 B.2.1 dX10_gatherValues_20 rfl (lv_at hl 4 rfl) ?_
                                    refine x_cV B h kX10 14 (hC 14 _ rfl) k_X10_gather rfl (c_X10_gather l D ca _ ad hC (((((((((0 + 1) + 1) + 1) + 1) + 1) + 1) + 1) + 1))  (by omega)) m_1090 rfl (by decide) hl.1 [] (Nat.le_of_ble_eq_true rfl) rfl dX10_gatherValues_21 (fun r w1 hq H locs h => ?_)
                                    obtain ⟨rfl, rfl⟩ := hq
                                    show W p l e r_c_X10_gatherValues s m args below meth c H locs 0 0 Qf (F0 m 24 ls [])
                                    refine lv_aload_n B.1 B.2.1 dX10_gatherValues_24 rfl (lv_at hl 1 rfl) ?_
                                    refine x_getX B h kX10 14 (hC 14 _ rfl) 3 (z := 0) rfl m_233 (by decide) dX10_gatherValues_25 ?_
                                    refine x_if_le B (by omega) (tgt := 79) dX10_gatherValues_28 (by decide) (fun c18 => ?_) (fun c18 => ?_)
                                    · refine lv_iinc (v := iI (((((((((0 + 1) + 1) + 1) + 1) + 1) + 1) + 1) + 1) + 1)) (lv' := [(4, .int (iI (((((((((0 + 1) + 1) + 1) + 1) + 1) + 1) + 1) + 1) + 1))), (0, .ref (ad 14)), (1, .ref (ad 1)), (2, .ref (ad 4)), (3, .ref (ad 12))]) B.1 B.2.1 dX10_gatherValues_79 hl (k := 0) rfl (iI_add _ _) (by decide) rfl (fun ls hl => ?_)
                                      refine lv_goto (tgt := 8) B.1 B.2.1 dX10_gatherValues_82 (by decide) ?_
                                      refine lv_iload B.1 B.2.1 dX10_gatherValues_8 (lv_at hl 0 rfl) ?_
                                      refine x_bipush B (by decide) dX10_gatherValues_10 ?_
                                      refine x_icmp_ge B (by omega) (tgt := 85) dX10_gatherValues_12 (by decide) (fun c19 => ?_) (fun c19 => ?_)
                                      · exact absurd c19 (by omega)
                                      · refine lv_aload_n B.1 B.2.1 dX10_gatherValues_15 rfl (lv_at hl 1 rfl) ?_
                                        refine lv_iload B.1 B.2.1 dX10_gatherValues_16 (lv_at hl 0 rfl) ?_
                                        refine lv_aload_n B.1 B.2.1 dX10_gatherValues_18 rfl (lv_at hl 2 rfl) ?_
                                        refine lv_aload_n B.1 B.2.1 dX10_gatherValues_19 rfl (lv_at hl 3 rfl) ?_
                                        refine lv_aload_n B.1 B.2.1 dX10_gatherValues_20 rfl (lv_at hl 4 rfl) ?_
                                        refine x_cV B h kX10 14 (hC 14 _ rfl) k_X10_gather rfl (c_X10_gather l D ca _ ad hC ((((((((((0 + 1) + 1) + 1) + 1) + 1) + 1) + 1) + 1) + 1))  (by omega)) m_1090 rfl (by decide) hl.1 [] (Nat.le_of_ble_eq_true rfl) rfl dX10_gatherValues_21 (fun r w1 hq H locs h => ?_)
                                        obtain ⟨rfl, rfl⟩ := hq
                                        show W p l e r_c_X10_gatherValues s m args below meth c H locs 0 0 Qf (F0 m 24 ls [])
                                        refine lv_aload_n B.1 B.2.1 dX10_gatherValues_24 rfl (lv_at hl 1 rfl) ?_
                                        refine x_getX B h kX10 14 (hC 14 _ rfl) 3 (z := 0) rfl m_233 (by decide) dX10_gatherValues_25 ?_
                                        refine x_if_le B (by omega) (tgt := 79) dX10_gatherValues_28 (by decide) (fun c20 => ?_) (fun c20 => ?_)
                                        · refine lv_iinc (v := iI ((((((((((0 + 1) + 1) + 1) + 1) + 1) + 1) + 1) + 1) + 1) + 1)) (lv' := [(4, .int (iI ((((((((((0 + 1) + 1) + 1) + 1) + 1) + 1) + 1) + 1) + 1) + 1))), (0, .ref (ad 14)), (1, .ref (ad 1)), (2, .ref (ad 4)), (3, .ref (ad 12))]) B.1 B.2.1 dX10_gatherValues_79 hl (k := 0) rfl (iI_add _ _) (by decide) rfl (fun ls hl => ?_)
                                          refine lv_goto (tgt := 8) B.1 B.2.1 dX10_gatherValues_82 (by decide) ?_
                                          refine lv_iload B.1 B.2.1 dX10_gatherValues_8 (lv_at hl 0 rfl) ?_
                                          refine x_bipush B (by decide) dX10_gatherValues_10 ?_
                                          refine x_icmp_ge B (by omega) (tgt := 85) dX10_gatherValues_12 (by decide) (fun c21 => ?_) (fun c21 => ?_)
                                          · refine x_rv B hQ h (by decide) dX10_gatherValues_85 ?_
                                            exact ⟨rfl, rfl⟩
                                          · exact absurd c21 (by omega)
                                        · exact absurd c20 (by omega)
                                    · exact absurd c18 (by omega)
                                · exact absurd c16 (by omega)
                            · exact absurd c14 (by omega)
                        · exact absurd c12 (by omega)
                    · exact absurd c10 (by omega)
                · exact absurd c8 (by omega)
            · exact absurd c6 (by omega)
        · exact absurd c4 (by omega)
    · exact absurd c2 (by omega)
abbrev r_c_X10_rising : Room := { frames := 0, cells := 0, slots := 0, locals := 0 }
set_option maxHeartbeats 4000000 in
set_option maxRecDepth 100000 in
theorem c_X10_rising (l : Launch) (D : va_G) (ca : Nat → ClassId) (w : xW) (ad : Nat → Nat) (hC : C0 ca ad w)    : xC l D ca yX10_rising cX10_rising 4 (some .int) r_c_X10_rising [.ref (ad 14)] w (qI w (fun z => z = 0)) := by
  refine xC.of2 "WindWords$Winds" (by decide) rfl (Nat.le_of_ble_eq_true rfl) ?_
  intro p e s m args below meth c A ls Qf B hnm h hl hQ
  have hl : lv_has ls 4 [(0, .ref (ad 14))] := hl
  refine x_iconst B dX10_rising_0 ?_
  refine lv_istore_n (lv' := [(1, .int (iI 0)), (0, .ref (ad 14))]) B.1 B.2.1 dX10_rising_1 rfl hl (by decide) rfl (fun ls hl => ?_)
  refine x_iconst B dX10_rising_2 ?_
  refine lv_istore_n (lv' := [(2, .int (iI 0)), (1, .int (iI 0)), (0, .ref (ad 14))]) B.1 B.2.1 dX10_rising_3 rfl hl (by decide) rfl (fun ls hl => ?_)
  refine lv_iload_n B.1 B.2.1 dX10_rising_4 rfl (lv_at hl 0 rfl) ?_
  refine lv_aload_n B.1 B.2.1 dX10_rising_5 rfl (lv_at hl 2 rfl) ?_
  refine x_getX B h kX10 14 (hC 14 _ rfl) 6 (z := 0) rfl m_239 (by decide) dX10_rising_6 ?_
  refine x_icmp_ge B (by omega) (tgt := 54) dX10_rising_9 (by decide) (fun c1 => ?_) (fun c1 => ?_)
  · refine lv_iload_n B.1 B.2.1 dX10_rising_54 rfl (lv_at hl 1 rfl) ?_
    refine x_ri B hQ h (by decide) dX10_rising_55 ?_
    exact ⟨rfl, _, rfl, by omega⟩
  · exact absurd c1 (by omega)
abbrev r_c_X10_ordersRising : Room := { frames := 1, cells := 0, slots := 0, locals := 21 }
set_option maxHeartbeats 4000000 in
set_option maxRecDepth 100000 in
theorem c_X10_ordersRising (l : Launch) (D : va_G) (ca : Nat → ClassId) (w : xW) (ad : Nat → Nat) (hC : C0 ca ad w)    : xC l D ca yX10_ordersRising cX10_ordersRising 5 (some .int) r_c_X10_ordersRising [.ref (ad 14), .int (iI 0)] w (qIa (fun z => z = 1)) := by
  refine xC.of2 "WindWords$Winds" (by decide) rfl (Nat.le_of_ble_eq_true rfl) ?_
  intro p e s m args below meth c A ls Qf B hnm h hl hQ
  have hl : lv_has ls 5 [(0, .ref (ad 14)), (1, .int (iI 0))] := hl
  refine x_iconst B dX10_ordersRising_0 ?_
  refine lv_istore_n (lv' := [(2, .int (iI 0)), (0, .ref (ad 14)), (1, .int (iI 0))]) B.1 B.2.1 dX10_ordersRising_1 rfl hl (by decide) rfl (fun ls hl => ?_)
  have h := xH.weak (P' := xAI (ca 0) 46 (gP 0 ((gOne 0 1)))) h (hC 17 _ rfl) (fun e he => by obtain ⟨f, rfl, _⟩ := he; exact ⟨f, rfl, fun j hj => by omega⟩)
  have h : xH D A s.heap (w.set 17 (ad 17, xAI (ca 0) 46 (gP 0 ((gOne 0 1))))) _ _ := h
  have loop2 : ∀ (n2 : Nat) (k : Int), (0 ≤ k ∧ k ≤ 46) → (46 - k : Int).toNat < n2 → ∀ (H : Heap) (locs : List Loc) (ls : Array Slot), xH D A s.heap ((w.set 17 (ad 17, xAI (ca 0) 46 (gP k ((gOne 0 1)))))) H locs → lv_has ls 5 [(0, .ref (ad 14)), (1, .int (iI 0)), (2, .int (iI k))] → W p l e r_c_X10_ordersRising s m args below meth c H locs 0 0 Qf (F0 m 2 ls []) := by
    intro n2
    induction n2 with
    | zero =>
      intro k h0 hm2 H locs ls h hl
      exact absurd hm2 (Nat.not_lt_zero _)
    | succ n2 ih2 =>
      intro k h0 hm2 H locs ls h hl
      refine lv_iload_n B.1 B.2.1 dX10_ordersRising_2 rfl (lv_at hl 2 rfl) ?_
      refine lv_aload_n B.1 B.2.1 dX10_ordersRising_3 rfl (lv_at hl 0 rfl) ?_
      refine x_getR B h kX10 14 (xset_ne (hC 14 _ rfl) (by decide)) 2 (b := ad 17) rfl m_232 (by decide) dX10_ordersRising_4 ?_
      refine x_alenI B h 17 0 (xset_eq (hC 17 _ rfl)) rfl dX10_ordersRising_7 ?_
      refine x_icmp_ge B (by omega) (tgt := 32) dX10_ordersRising_8 (by decide) (fun c1 => ?_) (fun c1 => ?_)
      · have e9_k : 46 = k := by omega
        subst e9_k
        refine x_iconst B dX10_ordersRising_32 ?_
        refine lv_istore_n (lv' := [(2, .int (iI 1)), (0, .ref (ad 14)), (1, .int (iI 0))]) B.1 B.2.1 dX10_ordersRising_33 rfl hl (by decide) rfl (fun ls hl => ?_)
        refine lv_iload_n B.1 B.2.1 dX10_ordersRising_34 rfl (lv_at hl 0 rfl) ?_
        refine lv_aload_n B.1 B.2.1 dX10_ordersRising_35 rfl (lv_at hl 1 rfl) ?_
        refine x_getX B h kX10 14 (xset_ne (hC 14 _ rfl) (by decide)) 6 (z := 0) rfl m_239 (by decide) dX10_ordersRising_36 ?_
        refine x_icmp_ge B (by omega) (tgt := 105) dX10_ordersRising_39 (by decide) (fun c2 => ?_) (fun c2 => ?_)
        · refine x_iconst B dX10_ordersRising_105 ?_
          refine lv_istore_n (lv' := [(2, .int (iI 0)), (0, .ref (ad 14)), (1, .int (iI 0))]) B.1 B.2.1 dX10_ordersRising_106 rfl hl (by decide) rfl (fun ls hl => ?_)
          refine x_iconst B dX10_ordersRising_107 ?_
          refine lv_iload_n B.1 B.2.1 dX10_ordersRising_108 rfl (lv_at hl 2 rfl) ?_
          refine x_max B (by omega) m_1099 m_454 m_106 m_455 hl.1 (Nat.le_of_ble_eq_true rfl) (by decide) dX10_ordersRising_109 ?_
          refine lv_istore_n (lv' := [(3, .int (iI (max 0 0))), (2, .int (iI 0)), (0, .ref (ad 14)), (1, .int (iI 0))]) B.1 B.2.1 dX10_ordersRising_112 rfl hl (by decide) rfl (fun ls hl => ?_)
          have loop113 : ∀ (n113 : Nat) (k : Int) (many : Int), (0 ≤ k ∧ k ≤ 46) → ((k = 0 ∧ many = 0) ∨ (1 ≤ k ∧ many = 1)) → (46 - k : Int).toNat < n113 → ∀ (H : Heap) (locs : List Loc) (ls : Array Slot), xH D A s.heap ((w.set 17 (ad 17, xAI (ca 0) 46 (gP 46 ((gOne 0 1)))))) H locs → lv_has ls 5 [(0, .ref (ad 14)), (1, .int (iI 0)), (2, .int (iI many)), (3, .int (iI k))] → W p l e r_c_X10_ordersRising s m args below meth c H locs 0 0 Qf (F0 m 113 ls []) := by
            intro n113
            induction n113 with
            | zero =>
              intro k many h0 h1 hm113 H locs ls h hl
              exact absurd hm113 (Nat.not_lt_zero _)
            | succ n113 ih113 =>
              intro k many h0 h1 hm113 H locs ls h hl
              refine lv_iload_n B.1 B.2.1 dX10_ordersRising_113 rfl (lv_at hl 3 rfl) ?_
              refine lv_aload_n B.1 B.2.1 dX10_ordersRising_114 rfl (lv_at hl 0 rfl) ?_
              refine x_getR B h kX10 14 (xset_ne (hC 14 _ rfl) (by decide)) 2 (b := ad 17) rfl m_232 (by decide) dX10_ordersRising_115 ?_
              refine x_alenI B h 17 0 (xset_eq (hC 17 _ rfl)) rfl dX10_ordersRising_118 ?_
              refine x_icmp_ge B (by omega) (tgt := 137) dX10_ordersRising_119 (by decide) (fun c3 => ?_) (fun c3 => ?_)
              · refine lv_iload_n B.1 B.2.1 dX10_ordersRising_137 rfl (lv_at hl 2 rfl) ?_
                refine x_ri B hQ h (by decide) dX10_ordersRising_138 ?_
                exact ⟨_, rfl, by omega⟩
              · refine lv_iload_n B.1 B.2.1 dX10_ordersRising_122 rfl (lv_at hl 2 rfl) ?_
                refine lv_aload_n B.1 B.2.1 dX10_ordersRising_123 rfl (lv_at hl 0 rfl) ?_
                refine x_getR B h kX10 14 (xset_ne (hC 14 _ rfl) (by decide)) 2 (b := ad 17) rfl m_232 (by decide) dX10_ordersRising_124 ?_
                refine lv_iload_n B.1 B.2.1 dX10_ordersRising_127 rfl (lv_at hl 3 rfl) ?_
                obtain ⟨g4, eg4, hg4⟩ := gOne_ex (n := 0) (a := 1) (i := k) (by omega)
                refine x_ialdP B h 17 (xset_eq (hC 17 _ rfl)) (by omega) dX10_ordersRising_128 (z := g4) eg4 ?_
                refine x_iadd B dX10_ordersRising_129 ?_
                refine lv_istore_n (lv' := [(2, .int (iI (many + g4))), (0, .ref (ad 14)), (1, .int (iI 0)), (3, .int (iI k))]) B.1 B.2.1 dX10_ordersRising_130 rfl hl (by decide) rfl (fun ls hl => ?_)
                refine lv_iinc (v := iI (k + 1)) (lv' := [(3, .int (iI (k + 1))), (2, .int (iI (many + g4))), (0, .ref (ad 14)), (1, .int (iI 0))]) B.1 B.2.1 dX10_ordersRising_131 hl (k := 3) rfl (iI_add _ _) (by decide) rfl (fun ls hl => ?_)
                refine lv_goto (tgt := 113) B.1 B.2.1 dX10_ordersRising_134 (by decide) ?_
                exact ih113 ((k + 1)) ((many + g4)) (by omega) (by omega) (by omega) _ _ _ h (lv_sub hl [2, 3, 1, 0] rfl)
          exact loop113 ((46 - ((max 0 0)) : Int).toNat + 1) ((max 0 0)) 0 (by omega) (by omega) (Nat.lt_succ_self _) _ _ _ h (lv_sub hl [2, 3, 1, 0] rfl)
        · exact absurd c2 (by omega)
      · refine lv_aload_n B.1 B.2.1 dX10_ordersRising_11 rfl (lv_at hl 0 rfl) ?_
        refine x_getR B h kX10 14 (xset_ne (hC 14 _ rfl) (by decide)) 2 (b := ad 17) rfl m_232 (by decide) dX10_ordersRising_12 ?_
        refine lv_iload_n B.1 B.2.1 dX10_ordersRising_15 rfl (lv_at hl 2 rfl) ?_
        refine lv_iload_n B.1 B.2.1 dX10_ordersRising_16 rfl (lv_at hl 2 rfl) ?_
        refine x_if_ne B (by omega) (tgt := 24) dX10_ordersRising_17 (by decide) (fun c5 => ?_) (fun c5 => ?_)
        · refine x_iconst B dX10_ordersRising_24 ?_
          refine x_iast B h 17 (xset_eq (hC 17 _ rfl)) (by omega) (P' := gP (k + 1) ((gOne 0 1))) (gP_next ⟨by omega, by rw [gOne_at (by omega), if_neg (by omega)]⟩) dX10_ordersRising_25 (fun H locs h => ?_)
          have h : xH D A s.heap (w.set 17 (ad 17, xAI (ca 0) 46 (gP (k + 1) ((gOne 0 1))))) H locs := by rw [List.set_set] at h; exact h
          refine lv_iinc (v := iI (k + 1)) (lv' := [(2, .int (iI (k + 1))), (0, .ref (ad 14)), (1, .int (iI 0))]) B.1 B.2.1 dX10_ordersRising_26 hl (k := 2) rfl (iI_add _ _) (by decide) rfl (fun ls hl => ?_)
          refine lv_goto (tgt := 2) B.1 B.2.1 dX10_ordersRising_29 (by decide) ?_
          exact ih2 ((k + 1)) (by omega) (by omega) _ _ _ h (lv_sub hl [1, 2, 0] rfl)
        · refine x_iconst B dX10_ordersRising_20 ?_
          refine lv_goto (tgt := 25) B.1 B.2.1 dX10_ordersRising_21 (by decide) ?_
          refine x_iast B h 17 (xset_eq (hC 17 _ rfl)) (by omega) (P' := gP (k + 1) ((gOne 0 1))) (gP_next ⟨by omega, by rw [gOne_at (by omega), if_pos (by omega)]⟩) dX10_ordersRising_25 (fun H locs h => ?_)
          have h : xH D A s.heap (w.set 17 (ad 17, xAI (ca 0) 46 (gP (k + 1) ((gOne 0 1))))) H locs := by rw [List.set_set] at h; exact h
          refine lv_iinc (v := iI (k + 1)) (lv' := [(2, .int (iI (k + 1))), (0, .ref (ad 14)), (1, .int (iI 0))]) B.1 B.2.1 dX10_ordersRising_26 hl (k := 2) rfl (iI_add _ _) (by decide) rfl (fun ls hl => ?_)
          refine lv_goto (tgt := 2) B.1 B.2.1 dX10_ordersRising_29 (by decide) ?_
          exact ih2 ((k + 1)) (by omega) (by omega) _ _ _ h (lv_sub hl [1, 2, 0] rfl)
  exact loop2 ((46 - 0 : Int).toNat + 1) 0 (by omega) (Nat.lt_succ_self _) _ _ _ h (lv_sub hl [1, 2, 0] rfl)
abbrev r_c_X11_wind : Room := { frames := 4, cells := 0, slots := 0, locals := 95 }
set_option maxHeartbeats 4000000 in
set_option maxRecDepth 100000 in
theorem c_X11_wind (l : Launch) (D : va_G) (ca : Nat → ClassId) (w : xW) (ad : Nat → Nat) (hC : C0 ca ad w) (year : Int) (what : Int)  (hyear : xr year) (hwhat : xr what) : xC l D ca yX11_wind cX11_wind 3 (some .int) r_c_X11_wind [.ref (ad 0), .int (iI year), .int (iI what)] w (qIa (fun z => (((0 ≤ year ∧ year ≤ 9) ∧ what = 0) → z = 0) ∧ (¬ ((0 ≤ year ∧ year ≤ 9) ∧ what = 0) → z = -1))) := by
  refine xC.of2 "WindWords" (by decide) rfl (Nat.le_of_ble_eq_true rfl) ?_
  intro p e s m args below meth c A ls Qf B hnm h hl hQ
  have hl : lv_has ls 3 [(0, .ref (ad 0)), (1, .int (iI year)), (2, .int (iI what))] := hl
  refine lv_iload_n B.1 B.2.1 dX11_wind_0 rfl (lv_at hl 1 rfl) ?_
  refine x_bipush B (by decide) dX11_wind_1 ?_
  refine x_cS B h k_X11_within (c_X11_within l D ca _ year 9  (by omega) (by omega)) m_431 rfl (by decide) hl.1 [] (Nat.le_of_ble_eq_true rfl) rfl dX11_wind_3 (fun r w1 hq H locs h => ?_)
  obtain ⟨rfl, ⟨rfl, b1⟩ | ⟨rfl, b1⟩⟩ := hq
  · show W p l e r_c_X11_wind s m args below meth c H locs 0 0 Qf (F0 m 6 ls [.int (iI 1)])
    refine x_if_eq B (by omega) (tgt := 35) dX11_wind_6 (by decide) (fun c2 => ?_) (fun c2 => ?_)
    · exact absurd c2 (by omega)
    · refine lv_iload_n B.1 B.2.1 dX11_wind_9 rfl (lv_at hl 2 rfl) ?_
      refine x_iconst B dX11_wind_10 ?_
      refine x_cS B h k_X11_within (c_X11_within l D ca _ what 2  (by omega) (by omega)) m_431 rfl (by decide) hl.1 [] (Nat.le_of_ble_eq_true rfl) rfl dX11_wind_11 (fun r w1 hq H locs h => ?_)
      obtain ⟨rfl, ⟨rfl, b3⟩ | ⟨rfl, b3⟩⟩ := hq
      · show W p l e r_c_X11_wind s m args below meth c H locs 0 0 Qf (F0 m 14 ls [.int (iI 1)])
        refine x_if_eq B (by omega) (tgt := 35) dX11_wind_14 (by decide) (fun c4 => ?_) (fun c4 => ?_)
        · exact absurd c4 (by omega)
        · refine lv_aload_n B.1 B.2.1 dX11_wind_17 rfl (lv_at hl 0 rfl) ?_
          refine x_getR B h kX11 0 (hC 0 _ rfl) 2 (b := ad 12) rfl m_363 (by decide) dX11_wind_18 ?_
          refine lv_aload_n B.1 B.2.1 dX11_wind_21 rfl (lv_at hl 0 rfl) ?_
          refine x_getR B h kX11 0 (hC 0 _ rfl) 0 (b := ad 1) rfl m_361 (by decide) dX11_wind_22 ?_
          refine lv_aload_n B.1 B.2.1 dX11_wind_25 rfl (lv_at hl 0 rfl) ?_
          refine x_getR B h kX11 0 (hC 0 _ rfl) 1 (b := ad 4) rfl m_362 (by decide) dX11_wind_26 ?_
          refine x_cV B h kX3 12 (hC 12 _ rfl) k_X3_solve rfl (c_X3_solve l D ca _ ad hC   ) m_971 rfl (by decide) hl.1 [] (Nat.le_of_ble_eq_true rfl) rfl dX11_wind_29 (fun r w1 hq H locs h => ?_)
          obtain ⟨rfl, ⟨rfl, b5⟩ | ⟨rfl, b5⟩⟩ := hq
          · show W p l e r_c_X11_wind s m args below meth c H locs 0 0 Qf (F0 m 32 ls [.int (iI 1)])
            refine x_if_ne B (by omega) (tgt := 37) dX11_wind_32 (by decide) (fun c6 => ?_) (fun c6 => ?_)
            · refine lv_aload_n B.1 B.2.1 dX11_wind_37 rfl (lv_at hl 0 rfl) ?_
              refine x_getR B h kX11 0 (hC 0 _ rfl) 3 (b := ad 14) rfl m_364 (by decide) dX11_wind_38 ?_
              refine lv_iload_n B.1 B.2.1 dX11_wind_41 rfl (lv_at hl 1 rfl) ?_
              refine lv_aload_n B.1 B.2.1 dX11_wind_42 rfl (lv_at hl 0 rfl) ?_
              refine x_getR B h kX11 0 (hC 0 _ rfl) 0 (b := ad 1) rfl m_361 (by decide) dX11_wind_43 ?_
              refine lv_aload_n B.1 B.2.1 dX11_wind_46 rfl (lv_at hl 0 rfl) ?_
              refine x_getR B h kX11 0 (hC 0 _ rfl) 1 (b := ad 4) rfl m_362 (by decide) dX11_wind_47 ?_
              refine lv_aload_n B.1 B.2.1 dX11_wind_50 rfl (lv_at hl 0 rfl) ?_
              refine x_getR B h kX11 0 (hC 0 _ rfl) 2 (b := ad 12) rfl m_363 (by decide) dX11_wind_51 ?_
              refine x_cV B h kX10 14 (hC 14 _ rfl) k_X10_gather rfl (c_X10_gather l D ca _ ad hC year  (by omega)) m_1059 rfl (by decide) hl.1 [] (Nat.le_of_ble_eq_true rfl) rfl dX11_wind_54 (fun r w1 hq H locs h => ?_)
              obtain ⟨rfl, rfl⟩ := hq
              show W p l e r_c_X11_wind s m args below meth c H locs 0 0 Qf (F0 m 57 ls [])
              refine lv_iload_n B.1 B.2.1 dX11_wind_57 rfl (lv_at hl 2 rfl) ?_
              refine x_if_ne B (by omega) (tgt := 69) dX11_wind_58 (by decide) (fun c7 => ?_) (fun c7 => ?_)
              · refine lv_aload_n B.1 B.2.1 dX11_wind_69 rfl (lv_at hl 0 rfl) ?_
                refine x_getR B h kX11 0 (hC 0 _ rfl) 3 (b := ad 14) rfl m_364 (by decide) dX11_wind_70 ?_
                refine x_getX B h kX10 14 (hC 14 _ rfl) 3 (z := 0) rfl m_234 (by decide) dX11_wind_73 ?_
                refine x_if_ne B (by omega) (tgt := 81) dX11_wind_76 (by decide) (fun c8 => ?_) (fun c8 => ?_)
                · exact absurd c8 (by omega)
                · refine x_iconst B dX11_wind_79 ?_
                  refine x_ri B hQ h (by decide) dX11_wind_80 ?_
                  exact ⟨_, rfl, by omega⟩
              · refine lv_aload_n B.1 B.2.1 dX11_wind_61 rfl (lv_at hl 0 rfl) ?_
                refine x_getR B h kX11 0 (hC 0 _ rfl) 3 (b := ad 14) rfl m_364 (by decide) dX11_wind_62 ?_
                refine x_getX B h kX10 14 (hC 14 _ rfl) 3 (z := 0) rfl m_234 (by decide) dX11_wind_65 ?_
                refine x_ri B hQ h (by decide) dX11_wind_68 ?_
                exact ⟨_, rfl, by omega⟩
            · exact absurd c6 (by omega)
          · exact (b5 trivial).elim
      · show W p l e r_c_X11_wind s m args below meth c H locs 0 0 Qf (F0 m 14 ls [.int (iI 0)])
        refine x_if_eq B (by omega) (tgt := 35) dX11_wind_14 (by decide) (fun c9 => ?_) (fun c9 => ?_)
        · refine x_iconst B dX11_wind_35 ?_
          refine x_ri B hQ h (by decide) dX11_wind_36 ?_
          exact ⟨_, rfl, by omega⟩
        · exact absurd c9 (by omega)
  · show W p l e r_c_X11_wind s m args below meth c H locs 0 0 Qf (F0 m 6 ls [.int (iI 0)])
    refine x_if_eq B (by omega) (tgt := 35) dX11_wind_6 (by decide) (fun c10 => ?_) (fun c10 => ?_)
    · refine x_iconst B dX11_wind_35 ?_
      refine x_ri B hQ h (by decide) dX11_wind_36 ?_
      exact ⟨_, rfl, by omega⟩
    · exact absurd c10 (by omega)
abbrev r_c_X11_grew : Room := { frames := 4, cells := 0, slots := 0, locals := 95 }
set_option maxHeartbeats 4000000 in
set_option maxRecDepth 100000 in
theorem c_X11_grew (l : Launch) (D : va_G) (ca : Nat → ClassId) (w : xW) (ad : Nat → Nat) (hC : C0 ca ad w) (what : Int)  (hwhat : xr what) : xC l D ca yX11_grew cX11_grew 2 (some .int) r_c_X11_grew [.ref (ad 0), .int (iI what)] w (qIa (fun z => ((what = 0 ∨ what = 3) → z = 0) ∧ ((what = 1 ∨ what = 2) → z = 1) ∧ ((what < 0 ∨ 3 < what) → z = -1))) := by
  refine xC.of2 "WindWords" (by decide) rfl (Nat.le_of_ble_eq_true rfl) ?_
  intro p e s m args below meth c A ls Qf B hnm h hl hQ
  have hl : lv_has ls 2 [(0, .ref (ad 0)), (1, .int (iI what))] := hl
  refine lv_iload_n B.1 B.2.1 dX11_grew_0 rfl (lv_at hl 1 rfl) ?_
  refine x_iconst B dX11_grew_1 ?_
  refine x_cS B h k_X11_within (c_X11_within l D ca _ what 3  (by omega) (by omega)) m_431 rfl (by decide) hl.1 [] (Nat.le_of_ble_eq_true rfl) rfl dX11_grew_2 (fun r w1 hq H locs h => ?_)
  obtain ⟨rfl, ⟨rfl, b1⟩ | ⟨rfl, b1⟩⟩ := hq
  · show W p l e r_c_X11_grew s m args below meth c H locs 0 0 Qf (F0 m 5 ls [.int (iI 1)])
    refine x_if_eq B (by omega) (tgt := 26) dX11_grew_5 (by decide) (fun c2 => ?_) (fun c2 => ?_)
    · exact absurd c2 (by omega)
    · refine lv_aload_n B.1 B.2.1 dX11_grew_8 rfl (lv_at hl 0 rfl) ?_
      refine x_getR B h kX11 0 (hC 0 _ rfl) 2 (b := ad 12) rfl m_363 (by decide) dX11_grew_9 ?_
      refine lv_aload_n B.1 B.2.1 dX11_grew_12 rfl (lv_at hl 0 rfl) ?_
      refine x_getR B h kX11 0 (hC 0 _ rfl) 0 (b := ad 1) rfl m_361 (by decide) dX11_grew_13 ?_
      refine lv_aload_n B.1 B.2.1 dX11_grew_16 rfl (lv_at hl 0 rfl) ?_
      refine x_getR B h kX11 0 (hC 0 _ rfl) 1 (b := ad 4) rfl m_362 (by decide) dX11_grew_17 ?_
      refine x_cV B h kX3 12 (hC 12 _ rfl) k_X3_solve rfl (c_X3_solve l D ca _ ad hC   ) m_971 rfl (by decide) hl.1 [] (Nat.le_of_ble_eq_true rfl) rfl dX11_grew_20 (fun r w1 hq H locs h => ?_)
      obtain ⟨rfl, ⟨rfl, b3⟩ | ⟨rfl, b3⟩⟩ := hq
      · show W p l e r_c_X11_grew s m args below meth c H locs 0 0 Qf (F0 m 23 ls [.int (iI 1)])
        refine x_if_ne B (by omega) (tgt := 28) dX11_grew_23 (by decide) (fun c4 => ?_) (fun c4 => ?_)
        · refine lv_aload_n B.1 B.2.1 dX11_grew_28 rfl (lv_at hl 0 rfl) ?_
          refine x_getR B h kX11 0 (hC 0 _ rfl) 3 (b := ad 14) rfl m_364 (by decide) dX11_grew_29 ?_
          refine lv_aload_n B.1 B.2.1 dX11_grew_32 rfl (lv_at hl 0 rfl) ?_
          refine x_getR B h kX11 0 (hC 0 _ rfl) 0 (b := ad 1) rfl m_361 (by decide) dX11_grew_33 ?_
          refine lv_aload_n B.1 B.2.1 dX11_grew_36 rfl (lv_at hl 0 rfl) ?_
          refine x_getR B h kX11 0 (hC 0 _ rfl) 1 (b := ad 4) rfl m_362 (by decide) dX11_grew_37 ?_
          refine lv_aload_n B.1 B.2.1 dX11_grew_40 rfl (lv_at hl 0 rfl) ?_
          refine x_getR B h kX11 0 (hC 0 _ rfl) 2 (b := ad 12) rfl m_363 (by decide) dX11_grew_41 ?_
          refine x_cV B h kX10 14 (hC 14 _ rfl) k_X10_gatherValues rfl (c_X10_gatherValues l D ca _ ad hC   ) m_1086 rfl (by decide) hl.1 [] (Nat.le_of_ble_eq_true rfl) rfl dX11_grew_44 (fun r w1 hq H locs h => ?_)
          obtain ⟨rfl, rfl⟩ := hq
          show W p l e r_c_X11_grew s m args below meth c H locs 0 0 Qf (F0 m 47 ls [])
          refine lv_iload_n B.1 B.2.1 dX11_grew_47 rfl (lv_at hl 1 rfl) ?_
          by_cases t5 : what = 0
          · refine x_tin B (tgt := 76) 0 (by omega) dX11_grew_48 rfl (by decide) ?_
            refine lv_aload_n B.1 B.2.1 dX11_grew_76 rfl (lv_at hl 0 rfl) ?_
            refine x_getR B h kX11 0 (hC 0 _ rfl) 3 (b := ad 14) rfl m_364 (by decide) dX11_grew_77 ?_
            refine x_cV B h kX10 14 (hC 14 _ rfl) k_X10_rising rfl (c_X10_rising l D ca _ ad hC   ) m_1091 rfl (by decide) hl.1 [] (Nat.le_of_ble_eq_true rfl) rfl dX11_grew_80 (fun r w1 hq H locs h => ?_)
            obtain ⟨rfl, _, rfl, rfl⟩ := hq
            show W p l e r_c_X11_grew s m args below meth c H locs 0 0 Qf (F0 m 83 ls [.int (iI 0)])
            refine x_ri B hQ h (by decide) dX11_grew_83 ?_
            exact ⟨_, rfl, by omega⟩
          by_cases t7 : what = 1
          · refine x_tin B (tgt := 84) 1 (by omega) dX11_grew_48 rfl (by decide) ?_
            refine lv_aload_n B.1 B.2.1 dX11_grew_84 rfl (lv_at hl 0 rfl) ?_
            refine x_getR B h kX11 0 (hC 0 _ rfl) 3 (b := ad 14) rfl m_364 (by decide) dX11_grew_85 ?_
            refine lv_aload_n B.1 B.2.1 dX11_grew_88 rfl (lv_at hl 0 rfl) ?_
            refine x_getR B h kX11 0 (hC 0 _ rfl) 3 (b := ad 14) rfl m_364 (by decide) dX11_grew_89 ?_
            refine x_cV B h kX10 14 (hC 14 _ rfl) k_X10_rising rfl (c_X10_rising l D ca _ ad hC   ) m_1091 rfl (by decide) hl.1 [.ref (ad 14)] (Nat.le_of_ble_eq_true rfl) rfl dX11_grew_92 (fun r w1 hq H locs h => ?_)
            obtain ⟨rfl, _, rfl, rfl⟩ := hq
            show W p l e r_c_X11_grew s m args below meth c H locs 0 0 Qf (F0 m 95 ls [.int (iI 0), .ref (ad 14)])
            refine x_cV B h kX10 14 (hC 14 _ rfl) k_X10_ordersRising rfl (c_X10_ordersRising l D ca _ ad hC   ) m_1095 rfl (by decide) hl.1 [] (Nat.le_of_ble_eq_true rfl) rfl dX11_grew_95 (fun r w1 hq H locs h => ?_)
            obtain ⟨z9, rfl, hz9⟩ := hq
            show W p l e r_c_X11_grew s m args below meth c H locs 0 0 Qf (F0 m 98 ls [.int (iI z9)])
            refine x_ri B hQ h (by decide) dX11_grew_98 ?_
            exact ⟨_, rfl, by omega⟩
          by_cases t10 : what = 2
          · refine x_tin B (tgt := 99) 2 (by omega) dX11_grew_48 rfl (by decide) ?_
            refine lv_aload_n B.1 B.2.1 dX11_grew_99 rfl (lv_at hl 0 rfl) ?_
            refine x_getR B h kX11 0 (hC 0 _ rfl) 3 (b := ad 14) rfl m_364 (by decide) dX11_grew_100 ?_
            refine x_iconst B dX11_grew_103 ?_
            refine x_cV B h kX10 14 (hC 14 _ rfl) k_X10_ordersRising rfl (c_X10_ordersRising l D ca _ ad hC   ) m_1095 rfl (by decide) hl.1 [] (Nat.le_of_ble_eq_true rfl) rfl dX11_grew_104 (fun r w1 hq H locs h => ?_)
            obtain ⟨z11, rfl, hz11⟩ := hq
            show W p l e r_c_X11_grew s m args below meth c H locs 0 0 Qf (F0 m 107 ls [.int (iI z11)])
            refine x_ri B hQ h (by decide) dX11_grew_107 ?_
            exact ⟨_, rfl, by omega⟩
          refine x_tout B (tgt := 108) (by omega) dX11_grew_48 (by decide) ?_
          refine lv_aload_n B.1 B.2.1 dX11_grew_108 rfl (lv_at hl 0 rfl) ?_
          refine x_getR B h kX11 0 (hC 0 _ rfl) 3 (b := ad 14) rfl m_364 (by decide) dX11_grew_109 ?_
          refine x_getX B h kX10 14 (hC 14 _ rfl) 6 (z := 0) rfl m_240 (by decide) dX11_grew_112 ?_
          refine x_ri B hQ h (by decide) dX11_grew_115 ?_
          exact ⟨_, rfl, by omega⟩
        · exact absurd c4 (by omega)
      · exact (b3 trivial).elim
  · show W p l e r_c_X11_grew s m args below meth c H locs 0 0 Qf (F0 m 5 ls [.int (iI 0)])
    refine x_if_eq B (by omega) (tgt := 26) dX11_grew_5 (by decide) (fun c12 => ?_) (fun c12 => ?_)
    · refine x_iconst B dX11_grew_26 ?_
      refine x_ri B hQ h (by decide) dX11_grew_27 ?_
      exact ⟨_, rfl, by omega⟩
    · exact absurd c12 (by omega)
