theorem k_X3_greatest : xMV yX3_greatest cX3_greatest 3 (some .int) 1 := ⟨m_1041, m_1039, m_1040, m_98, ⟨by decide +kernel, by decide +kernel, by decide +kernel⟩⟩
theorem k_X3_least : xMV yX3_least cX3_least 3 (some .int) 1 := ⟨m_1037, m_1035, m_1036, m_98, ⟨by decide +kernel, by decide +kernel, by decide +kernel⟩⟩
theorem k_X11_leastWind : xMS yX11_leastWind cX11_leastWind 4 (some .int) 3 := ⟨m_949, m_948, m_95, ⟨by decide +kernel, by decide +kernel, by decide +kernel⟩⟩
theorem k_X11_greatestWind : xMS yX11_greatestWind cX11_greatestWind 4 (some .int) 3 := ⟨m_952, m_951, m_95, ⟨by decide +kernel, by decide +kernel, by decide +kernel⟩⟩
theorem k_X3_bindsBothSides : xMV yX3_bindsBothSides cX3_bindsBothSides 2 (some .boolean) 1 := ⟨m_1069, m_1067, m_1068, m_98, ⟨by decide +kernel, by decide +kernel, by decide +kernel⟩⟩
theorem k_X10_keep : xMV yX10_keep cX10_keep 7 none 3 := ⟨m_1073, m_1072, m_27, m_99, ⟨by decide +kernel, by decide +kernel, by decide +kernel⟩⟩
theorem k_X10_gather : xMV yX10_gather cX10_gather 7 none 4 := ⟨m_1062, m_1060, m_1061, m_99, ⟨by decide +kernel, by decide +kernel, by decide +kernel⟩⟩
abbrev r_c_X10_keep : Room := { frames := 4, cells := 0, slots := 0, locals := 101 }
set_option maxHeartbeats 4000000 in
set_option maxRecDepth 100000 in
theorem c_X10_keep (l : Launch) (D : va_G) (Zk : yK) (ca : Nat → ClassId) (T : Nat → Int → Int) (G : Nat → Int → Nat) (u : Int) (ad : Nat → Nat) (w : yW) (hC : CW ca T G u ad w) (k : Int)  (hk : 0 ≤ k ∧ k < T 0 2) : yC l D Zk ca yX10_keep cX10_keep 7 none r_c_X10_keep [.ref (ad 14), .ref (G 4 k), .ref (ad 4), .ref (ad 12)] w (vV w) := by
  refine yC.of2 "WindWords$Winds" (by decide) rfl (Nat.le_of_ble_eq_true rfl) ?_
  intro p e s m args below meth c A ls Qf B hnm h hl hQ
  have hl : lv_has ls 7 [(0, .ref (ad 14)), (1, .ref (G 4 k)), (2, .ref (ad 4)), (3, .ref (ad 12))] := hl
  have hs := pi_s (CW.pi hC)
  have fo1 := CW.rd hC k (by omega)
  refine lv_aload_n B.1 B.2.1 dX10_keep_0 rfl (lv_at hl 1 rfl) ?_
  refine y_getX B h kX4 (1000 + 16 * k.toNat + 4) fo1 4 (z := (T 8 k)) rfl m_529 (by decide) dX10_keep_1 ?_
  have tb2 := pi_8 (CW.pi hC) k
  have tb3 := pi_n (CW.pi hC) k
  refine lv_aload_n B.1 B.2.1 dX10_keep_4 rfl (lv_at hl 3 rfl) ?_
  refine lv_aload_n B.1 B.2.1 dX10_keep_5 rfl (lv_at hl 1 rfl) ?_
  refine y_cV B h kX4 (1000 + 16 * k.toNat + 4) fo1 k_X4_writer rfl (c_X4_writer l D Zk ca T G u ad _ hC k  (by omega)) m_1065 rfl (by decide) hl.1 [.ref (ad 12), .int (iI (T 8 k))] (Nat.le_of_ble_eq_true rfl) rfl dX10_keep_6 (fun r w1 hq H locs h => ?_)
  obtain ⟨rfl, _, rfl, rfl⟩ := hq
  have tb4 := pi_3 (CW.pi hC) (1000 * T 4 k + T 5 k)
  show W p l e r_c_X10_keep s m args below meth c _ _ 0 0 Qf (F0 m 9 ls [.int (iI (T 3 (1000 * T 4 k + T 5 k))), .ref (ad 12), .int (iI (T 8 k))])
  refine y_cV B h kX3 12 (CW.f hC 12 _ rfl) k_X3_greatest rfl (c_X3_greatest l D Zk ca T G u ad _ hC ((T 3 (1000 * T 4 k + T 5 k)))  (by omega)) m_1074 rfl (by decide) hl.1 [.int (iI (T 8 k))] (Nat.le_of_ble_eq_true rfl) rfl dX10_keep_9 (fun r w1 hq H locs h => ?_)
  obtain ⟨rfl, z5, rfl, hz5⟩ := hq
  show W p l e r_c_X10_keep s m args below meth c _ _ 0 0 Qf (F0 m 12 ls [.int (iI z5), .int (iI (T 8 k))])
  refine x_isub B dX10_keep_12 ?_
  refine x_name (fun z6 hz6 ez6 => ?_)
  refine y_cSN (host := "WindWords") B h k_X11_held (c_X11_held l D Zk ca _ z6  (by omega)) (by decide) rfl (by decide) hl.1 [] (Nat.le_of_ble_eq_true rfl) rfl dX10_keep_13 (fun r w1 hq H locs h => ?_)
  obtain ⟨rfl, z7, rfl, hz7⟩ := hq
  show W p l e r_c_X10_keep s m args below meth c _ _ 0 0 Qf (F0 m 16 ls [.int (iI z7)])
  refine lv_istore (lv' := [(4, .int (iI z7)), (0, .ref (ad 14)), (1, .ref (G 4 k)), (2, .ref (ad 4)), (3, .ref (ad 12))]) B.1 B.2.1 dX10_keep_16 hl (by decide) rfl (fun ls hl => ?_)
  refine lv_aload_n B.1 B.2.1 dX10_keep_18 rfl (lv_at hl 2 rfl) ?_
  refine y_getX B h kX4 (1000 + 16 * k.toNat + 4) fo1 4 (z := (T 8 k)) rfl m_529 (by decide) dX10_keep_19 ?_
  refine lv_aload_n B.1 B.2.1 dX10_keep_22 rfl (lv_at hl 4 rfl) ?_
  refine lv_aload_n B.1 B.2.1 dX10_keep_23 rfl (lv_at hl 2 rfl) ?_
  refine y_cV B h kX4 (1000 + 16 * k.toNat + 4) fo1 k_X4_writer rfl (c_X4_writer l D Zk ca T G u ad _ hC k  (by omega)) m_1065 rfl (by decide) hl.1 [.ref (ad 12), .int (iI (T 8 k))] (Nat.le_of_ble_eq_true rfl) rfl dX10_keep_24 (fun r w1 hq H locs h => ?_)
  obtain ⟨rfl, _, rfl, rfl⟩ := hq
  show W p l e r_c_X10_keep s m args below meth c _ _ 0 0 Qf (F0 m 27 ls [.int (iI (T 3 (1000 * T 4 k + T 5 k))), .ref (ad 12), .int (iI (T 8 k))])
  refine y_cV B h kX3 12 (CW.f hC 12 _ rfl) k_X3_least rfl (c_X3_least l D Zk ca T G u ad _ hC ((T 3 (1000 * T 4 k + T 5 k)))  (by omega)) m_1076 rfl (by decide) hl.1 [.int (iI (T 8 k))] (Nat.le_of_ble_eq_true rfl) rfl dX10_keep_27 (fun r w1 hq H locs h => ?_)
  obtain ⟨rfl, z8, rfl, hz8⟩ := hq
  show W p l e r_c_X10_keep s m args below meth c _ _ 0 0 Qf (F0 m 30 ls [.int (iI z8), .int (iI (T 8 k))])
  refine x_isub B dX10_keep_30 ?_
  refine x_name (fun z9 hz9 ez9 => ?_)
  refine y_cSN (host := "WindWords") B h k_X11_held (c_X11_held l D Zk ca _ z9  (by omega)) (by decide) rfl (by decide) hl.1 [] (Nat.le_of_ble_eq_true rfl) rfl dX10_keep_31 (fun r w1 hq H locs h => ?_)
  obtain ⟨rfl, z10, rfl, hz10⟩ := hq
  show W p l e r_c_X10_keep s m args below meth c _ _ 0 0 Qf (F0 m 34 ls [.int (iI z10)])
  refine lv_istore (lv' := [(5, .int (iI z10)), (4, .int (iI z7)), (0, .ref (ad 14)), (1, .ref (G 4 k)), (2, .ref (ad 4)), (3, .ref (ad 12))]) B.1 B.2.1 dX10_keep_34 hl (by decide) rfl (fun ls hl => ?_)
  refine lv_aload_n B.1 B.2.1 dX10_keep_36 rfl (lv_at hl 4 rfl) ?_
  refine lv_aload_n B.1 B.2.1 dX10_keep_37 rfl (lv_at hl 2 rfl) ?_
  refine y_getR B h kX10 14 (CW.f hC 14 _ rfl) 0 (b := ad 15) rfl m_230 (by decide) dX10_keep_38 ?_
  refine lv_aload_n B.1 B.2.1 dX10_keep_41 rfl (lv_at hl 4 rfl) ?_
  refine lv_aload_n B.1 B.2.1 dX10_keep_42 rfl (lv_at hl 3 rfl) ?_
  refine y_cV B h kX4 (1000 + 16 * k.toNat + 4) fo1 k_X4_year rfl (c_X4_year l D Zk ca T G u ad _ hC k  (by omega)) m_1064 rfl (by decide) hl.1 [.ref (ad 4), .ref (ad 15), .ref (ad 4)] (Nat.le_of_ble_eq_true rfl) rfl dX10_keep_43 (fun r w1 hq H locs h => ?_)
  obtain ⟨rfl, _, rfl, rfl⟩ := hq
  have tb11 := pi_5 (CW.pi hC) k
  show W p l e r_c_X10_keep s m args below meth c _ _ 0 0 Qf (F0 m 46 ls [.int (iI ((T 5 k) / 100)), .ref (ad 4), .ref (ad 15), .ref (ad 4)])
  refine y_cV B h kX6 4 (CW.f hC 4 _ rfl) k_X6_ofYear rfl (c_X6_ofYear l D Zk ca T G u ad _ hC (((T 5 k) / 100))  (by omega)) m_1077 rfl (by decide) hl.1 [.ref (ad 15), .ref (ad 4)] (Nat.le_of_ble_eq_true rfl) rfl dX10_keep_46 (fun r w1 hq H locs h => ?_)
  obtain ⟨rfl, z12, rfl, hz12⟩ := hq
  show W p l e r_c_X10_keep s m args below meth c _ _ 0 0 Qf (F0 m 49 ls [.int (iI z12), .ref (ad 15), .ref (ad 4)])
  refine lv_aload_n B.1 B.2.1 dX10_keep_49 rfl (lv_at hl 3 rfl) ?_
  refine y_getX B h kX4 (1000 + 16 * k.toNat + 4) fo1 3 (z := (T 7 k)) rfl m_525 (by decide) dX10_keep_50 ?_
  have tb13 := pi_7 (CW.pi hC) k
  refine lv_aload_n B.1 B.2.1 dX10_keep_53 rfl (lv_at hl 3 rfl) ?_
  refine y_cV B h kX4 (1000 + 16 * k.toNat + 4) fo1 k_X4_mix rfl (c_X4_mix l D Zk ca T G u ad _ hC k  (by omega)) m_1078 rfl (by decide) hl.1 [.int (iI (T 7 k)), .int (iI z12), .ref (ad 15), .ref (ad 4)] (Nat.le_of_ble_eq_true rfl) rfl dX10_keep_54 (fun r w1 hq H locs h => ?_)
  obtain ⟨rfl, _, rfl, rfl⟩ := hq
  have tb14 := pi_1 (CW.pi hC) (T 4 k)
  have tb15 := pi_4 (CW.pi hC) k
  have tb16 := pi_9 (CW.pi hC) k
  show W p l e r_c_X10_keep s m args below meth c _ _ 0 0 Qf (F0 m 57 ls [.int (iI ((10 * (T 1 (T 4 k))) + (T 9 k))), .int (iI (T 7 k)), .int (iI z12), .ref (ad 15), .ref (ad 4)])
  refine lv_aload_n B.1 B.2.1 dX10_keep_57 rfl (lv_at hl 3 rfl) ?_
  refine y_cV B h kX4 (1000 + 16 * k.toNat + 4) fo1 k_X4_year rfl (c_X4_year l D Zk ca T G u ad _ hC k  (by omega)) m_1064 rfl (by decide) hl.1 [.int (iI ((10 * (T 1 (T 4 k))) + (T 9 k))), .int (iI (T 7 k)), .int (iI z12), .ref (ad 15), .ref (ad 4)] (Nat.le_of_ble_eq_true rfl) rfl dX10_keep_58 (fun r w1 hq H locs h => ?_)
  obtain ⟨rfl, _, rfl, rfl⟩ := hq
  show W p l e r_c_X10_keep s m args below meth c _ _ 0 0 Qf (F0 m 61 ls [.int (iI ((T 5 k) / 100)), .int (iI ((10 * (T 1 (T 4 k))) + (T 9 k))), .int (iI (T 7 k)), .int (iI z12), .ref (ad 15), .ref (ad 4)])
  refine y_cV B h kX6 4 (CW.f hC 4 _ rfl) k_X6_fillRow rfl (c_X6_fillRow l D Zk ca T G u ad _ hC z12 ((T 7 k)) (((10 * (T 1 (T 4 k))) + (T 9 k))) (((T 5 k) / 100)) (ad 15) 15 (CW.f hC 15 _ rfl) (by omega) (by omega) (by omega) (by omega)) m_1079 rfl (by decide) hl.1 [] (Nat.le_of_ble_eq_true rfl) rfl dX10_keep_61 (fun r w1 hq H locs h => ?_)
  obtain ⟨rfl, rfl⟩ := hq
  show W p l e r_c_X10_keep s m args below meth c _ _ 0 0 Qf (F0 m 64 ls [])
  refine lv_aload_n B.1 B.2.1 dX10_keep_64 rfl (lv_at hl 2 rfl) ?_
  refine y_getR B h kX10 14 (CW.f hC 14 _ rfl) 0 (b := ad 15) rfl m_230 (by decide) dX10_keep_65 ?_
  refine lv_iload B.1 B.2.1 dX10_keep_68 (lv_at hl 1 rfl) ?_
  refine lv_iload B.1 B.2.1 dX10_keep_70 (lv_at hl 0 rfl) ?_
  refine y_cSN (host := "WindWords") B h k_X11_leastWind (c_X11_leastWind l D Zk ca _ z7 z10 (ad 15) 15 (CW.f hC 15 _ rfl) (by omega) (by omega)) (by decide) rfl (by decide) hl.1 [] (Nat.le_of_ble_eq_true rfl) rfl dX10_keep_72 (fun r w1 hq H locs h => ?_)
  obtain ⟨rfl, z17, rfl, hz17⟩ := hq
  show W p l e r_c_X10_keep s m args below meth c _ _ 0 0 Qf (F0 m 75 ls [.int (iI z17)])
  refine lv_istore (lv' := [(6, .int (iI z17)), (5, .int (iI z10)), (4, .int (iI z7)), (0, .ref (ad 14)), (1, .ref (G 4 k)), (2, .ref (ad 4)), (3, .ref (ad 12))]) B.1 B.2.1 dX10_keep_75 hl (by decide) rfl (fun ls hl => ?_)
  refine lv_iload B.1 B.2.1 dX10_keep_77 (lv_at hl 0 rfl) ?_
  refine x_iconst B dX10_keep_79 ?_
  refine x_icmp_eq B (by omega) (tgt := 124) dX10_keep_80 (by decide) (fun c18 => ?_) (fun c18 => ?_)
  · refine y_rv B hQ h (by decide) dX10_keep_124 ?_
    exact ⟨rfl, rfl⟩
  · refine lv_aload_n B.1 B.2.1 dX10_keep_83 rfl (lv_at hl 3 rfl) ?_
    refine lv_dup B.1 B.2.1 dX10_keep_84 rfl ?_
    refine y_getG B h kX10 14 (CW.f hC 14 _ rfl) 3 (lo := (-2147483648)) (hi := 2147483647) rfl m_233 (by decide) dX10_keep_85 (fun z19 z19a z19b => ?_)
    refine x_iconst B dX10_keep_88 ?_
    refine x_iadd B dX10_keep_89 ?_
    refine x_name (fun z20 hz20 ez20 => ?_)
    refine y_putS B h kX10 14 (CW.f hC 14 _ rfl) 3 (P := fG (-2147483648) 2147483647) rfl m_233 (by decide) ⟨_, rfl, by omega, by omega⟩ rfl rfl rfl dX10_keep_90 (fun H locs h => ?_)
    refine lv_aload_n B.1 B.2.1 dX10_keep_93 rfl (lv_at hl 3 rfl) ?_
    refine lv_dup B.1 B.2.1 dX10_keep_94 rfl ?_
    refine y_getG B h kX10 14 (CW.f hC 14 _ rfl) 4 (lo := (-2147483648)) (hi := 2147483647) rfl m_235 (by decide) dX10_keep_95 (fun z21 z21a z21b => ?_)
    refine lv_iload B.1 B.2.1 dX10_keep_98 (lv_at hl 0 rfl) ?_
    refine x_iadd B dX10_keep_100 ?_
    refine x_name (fun z22 hz22 ez22 => ?_)
    refine y_putS B h kX10 14 (CW.f hC 14 _ rfl) 4 (P := fG (-2147483648) 2147483647) rfl m_235 (by decide) ⟨_, rfl, by omega, by omega⟩ rfl rfl rfl dX10_keep_101 (fun H locs h => ?_)
    refine lv_aload_n B.1 B.2.1 dX10_keep_104 rfl (lv_at hl 3 rfl) ?_
    refine lv_dup B.1 B.2.1 dX10_keep_105 rfl ?_
    refine y_getG B h kX10 14 (CW.f hC 14 _ rfl) 5 (lo := (-2147483648)) (hi := 2147483647) rfl m_237 (by decide) dX10_keep_106 (fun z23 z23a z23b => ?_)
    refine lv_aload_n B.1 B.2.1 dX10_keep_109 rfl (lv_at hl 3 rfl) ?_
    refine y_getR B h kX10 14 (CW.f hC 14 _ rfl) 0 (b := ad 15) rfl m_230 (by decide) dX10_keep_110 ?_
    refine lv_iload B.1 B.2.1 dX10_keep_113 (lv_at hl 2 rfl) ?_
    refine lv_iload B.1 B.2.1 dX10_keep_115 (lv_at hl 1 rfl) ?_
    refine y_cSN (host := "WindWords") B h k_X11_greatestWind (c_X11_greatestWind l D Zk ca _ z7 z10 (ad 15) 15 (CW.f hC 15 _ rfl) (by omega) (by omega)) (by decide) rfl (by decide) hl.1 [.int (iI z23), .ref (ad 14)] (Nat.le_of_ble_eq_true rfl) rfl dX10_keep_117 (fun r w1 hq H locs h => ?_)
    obtain ⟨rfl, z24, rfl, hz24⟩ := hq
    show W p l e r_c_X10_keep s m args below meth c _ _ 0 0 Qf (F0 m 120 ls [.int (iI z24), .int (iI z23), .ref (ad 14)])
    refine x_iadd B dX10_keep_120 ?_
    refine x_name (fun z25 hz25 ez25 => ?_)
    refine y_putS B h kX10 14 (CW.f hC 14 _ rfl) 5 (P := fG (-2147483648) 2147483647) rfl m_237 (by decide) ⟨_, rfl, by omega, by omega⟩ rfl rfl rfl dX10_keep_121 (fun H locs h => ?_)
    refine y_rv B hQ h (by decide) dX10_keep_124 ?_
    exact ⟨rfl, rfl⟩
abbrev r_c_X10_gather : Room := { frames := 5, cells := 0, slots := 0, locals := 127 }
set_option maxHeartbeats 4000000 in
set_option maxRecDepth 100000 in
theorem c_X10_gather (l : Launch) (D : va_G) (Zk : yK) (ca : Nat → ClassId) (T : Nat → Int → Int) (G : Nat → Int → Nat) (u : Int) (ad : Nat → Nat) (w : yW) (hC : CW ca T G u ad w) (year : Int)  (hyear : xr year) : yC l D Zk ca yX10_gather cX10_gather 7 none r_c_X10_gather [.ref (ad 14), .int (iI year), .ref (ad 1), .ref (ad 4), .ref (ad 12)] w (vV w) := by
  refine yC.of2 "WindWords$Winds" (by decide) rfl (Nat.le_of_ble_eq_true rfl) ?_
  intro p e s m args below meth c A ls Qf B hnm h hl hQ
  have hl : lv_has ls 7 [(0, .ref (ad 14)), (1, .int (iI year)), (2, .ref (ad 1)), (3, .ref (ad 4)), (4, .ref (ad 12))] := hl
  have hs := pi_s (CW.pi hC)
  refine lv_aload_n B.1 B.2.1 dX10_gather_0 rfl (lv_at hl 0 rfl) ?_
  refine x_iconst B dX10_gather_1 ?_
  refine y_putS B h kX10 14 (CW.f hC 14 _ rfl) 3 (P := fG (-2147483648) 2147483647) rfl m_233 (by decide) ⟨_, rfl, by omega, by omega⟩ rfl rfl rfl dX10_gather_2 (fun H locs h => ?_)
  refine lv_aload_n B.1 B.2.1 dX10_gather_5 rfl (lv_at hl 0 rfl) ?_
  refine x_iconst B dX10_gather_6 ?_
  refine y_putS B h kX10 14 (CW.f hC 14 _ rfl) 4 (P := fG (-2147483648) 2147483647) rfl m_235 (by decide) ⟨_, rfl, by omega, by omega⟩ rfl rfl rfl dX10_gather_7 (fun H locs h => ?_)
  refine lv_aload_n B.1 B.2.1 dX10_gather_10 rfl (lv_at hl 0 rfl) ?_
  refine x_iconst B dX10_gather_11 ?_
  refine y_putS B h kX10 14 (CW.f hC 14 _ rfl) 5 (P := fG (-2147483648) 2147483647) rfl m_237 (by decide) ⟨_, rfl, by omega, by omega⟩ rfl rfl rfl dX10_gather_12 (fun H locs h => ?_)
  refine x_iconst B dX10_gather_15 ?_
  refine lv_istore (lv' := [(5, .int (iI 0)), (0, .ref (ad 14)), (1, .int (iI year)), (2, .ref (ad 1)), (3, .ref (ad 4)), (4, .ref (ad 12))]) B.1 B.2.1 dX10_gather_16 hl (by decide) rfl (fun ls hl => ?_)
  have loop18 : ∀ (n18 : Nat) (i : Int), (0 ≤ i ∧ i ≤ 300) → ((300 - i : Int)).toNat < n18 → ∀ (H : Heap) (locs : List Loc) (ls : Array Slot), yH D Zk A s w H locs → lv_has ls 7 [(5, .int (iI i)), (0, .ref (ad 14)), (1, .int (iI year)), (2, .ref (ad 1)), (3, .ref (ad 4)), (4, .ref (ad 12))] → W p l e r_c_X10_gather s m args below meth c H locs 0 0 Qf (F0 m 18 ls []) := by
    intro n18
    induction n18 with
    | zero =>
      intro i h0 hm18 H locs ls h hl
      exact absurd hm18 (Nat.not_lt_zero _)
    | succ n18 ih18 =>
      intro i h0 hm18 H locs ls h hl
      refine lv_iload B.1 B.2.1 dX10_gather_18 (lv_at hl 0 rfl) ?_
      refine lv_aload_n B.1 B.2.1 dX10_gather_20 rfl (lv_at hl 3 rfl) ?_
      refine y_getX B h kX0 1 (CW.f hC 1 _ rfl) 5 (z := (T 0 2)) rfl m_146 (by decide) dX10_gather_21 ?_
      refine x_icmp_ge B (by omega) (tgt := 77) dX10_gather_24 (by decide) (fun c1 => ?_) (fun c1 => ?_)
      · refine y_rv B hQ h (by decide) dX10_gather_77 ?_
        exact ⟨rfl, rfl⟩
      · refine lv_aload_n B.1 B.2.1 dX10_gather_27 rfl (lv_at hl 3 rfl) ?_
        refine lv_iload B.1 B.2.1 dX10_gather_28 (lv_at hl 0 rfl) ?_
        refine y_cV B h kX0 1 (CW.f hC 1 _ rfl) k_X0_trustedMansAt rfl (c_X0_trustedMansAt l D Zk ca T G u ad _ hC i  (by omega)) m_1063 rfl (by decide) hl.1 [] (Nat.le_of_ble_eq_true rfl) rfl dX10_gather_30 (fun r w1 hq H locs h => ?_)
        obtain ⟨rfl, _, rfl, ⟨rfl, q2⟩ | ⟨rfl, q2⟩⟩ := hq
        · show W p l e r_c_X10_gather s m args below meth c _ _ 0 0 Qf (F0 m 33 ls [.null])
          refine lv_astoreN (lv' := [(6, .null), (5, .int (iI i)), (0, .ref (ad 14)), (1, .int (iI year)), (2, .ref (ad 1)), (3, .ref (ad 4)), (4, .ref (ad 12))]) B.1 B.2.1 dX10_gather_33 hl (by decide) rfl (fun ls hl => ?_)
          refine lv_aloadN B.1 B.2.1 dX10_gather_35 (lv_at hl 0 rfl) ?_
          refine lv_ifnullN (tgt := 71) B.1 B.2.1 dX10_gather_37 (by decide) ?_
          refine lv_iinc (v := iI (i + 1)) (lv' := [(5, .int (iI (i + 1))), (6, .null), (0, .ref (ad 14)), (1, .int (iI year)), (2, .ref (ad 1)), (3, .ref (ad 4)), (4, .ref (ad 12))]) B.1 B.2.1 dX10_gather_71 hl (k := 1) rfl (iI_add _ _) (by decide) rfl (fun ls hl => ?_)
          refine lv_goto (tgt := 18) B.1 B.2.1 dX10_gather_74 (by decide) ?_
          exact ih18 ((i + 1)) (by omega) (by omega) _ _ _ h (lv_sub hl [0, 2, 3, 4, 5, 6] rfl)
        · have fo3 := CW.rd hC i (by omega)
          show W p l e r_c_X10_gather s m args below meth c _ _ 0 0 Qf (F0 m 33 ls [.ref (G 4 i)])
          refine lv_astore (lv' := [(6, .ref (G 4 i)), (5, .int (iI i)), (0, .ref (ad 14)), (1, .int (iI year)), (2, .ref (ad 1)), (3, .ref (ad 4)), (4, .ref (ad 12))]) B.1 B.2.1 dX10_gather_33 hl (by decide) rfl (fun ls hl => ?_)
          refine lv_aload B.1 B.2.1 dX10_gather_35 (lv_at hl 0 rfl) ?_
          refine lv_ifnull B.1 B.2.1 dX10_gather_37 ?_
          refine lv_aload B.1 B.2.1 dX10_gather_40 (lv_at hl 0 rfl) ?_
          refine y_cV B h kX4 (1000 + 16 * i.toNat + 4) fo3 k_X4_year rfl (c_X4_year l D Zk ca T G u ad _ hC i  (by omega)) m_1064 rfl (by decide) hl.1 [] (Nat.le_of_ble_eq_true rfl) rfl dX10_gather_42 (fun r w1 hq H locs h => ?_)
          obtain ⟨rfl, _, rfl, rfl⟩ := hq
          have tb4 := pi_5 (CW.pi hC) i
          show W p l e r_c_X10_gather s m args below meth c _ _ 0 0 Qf (F0 m 45 ls [.int (iI ((T 5 i) / 100))])
          refine lv_iload_n B.1 B.2.1 dX10_gather_45 rfl (lv_at hl 3 rfl) ?_
          refine x_icmp_ne B (by omega) (tgt := 71) dX10_gather_46 (by decide) (fun c5 => ?_) (fun c5 => ?_)
          · refine lv_iinc (v := iI (i + 1)) (lv' := [(5, .int (iI (i + 1))), (6, .ref (G 4 i)), (0, .ref (ad 14)), (1, .int (iI year)), (2, .ref (ad 1)), (3, .ref (ad 4)), (4, .ref (ad 12))]) B.1 B.2.1 dX10_gather_71 hl (k := 1) rfl (iI_add _ _) (by decide) rfl (fun ls hl => ?_)
            refine lv_goto (tgt := 18) B.1 B.2.1 dX10_gather_74 (by decide) ?_
            exact ih18 ((i + 1)) (by omega) (by omega) _ _ _ h (lv_sub hl [0, 2, 3, 4, 5, 6] rfl)
          · refine lv_aload B.1 B.2.1 dX10_gather_49 (lv_at hl 6 rfl) ?_
            refine lv_aload B.1 B.2.1 dX10_gather_51 (lv_at hl 0 rfl) ?_
            refine y_cV B h kX4 (1000 + 16 * i.toNat + 4) fo3 k_X4_writer rfl (c_X4_writer l D Zk ca T G u ad _ hC i  (by omega)) m_1065 rfl (by decide) hl.1 [.ref (ad 12)] (Nat.le_of_ble_eq_true rfl) rfl dX10_gather_53 (fun r w1 hq H locs h => ?_)
            obtain ⟨rfl, _, rfl, rfl⟩ := hq
            have tb6 := pi_3 (CW.pi hC) (1000 * T 4 i + T 5 i)
            show W p l e r_c_X10_gather s m args below meth c _ _ 0 0 Qf (F0 m 56 ls [.int (iI (T 3 (1000 * T 4 i + T 5 i))), .ref (ad 12)])
            refine y_cV B h kX3 12 (CW.f hC 12 _ rfl) k_X3_bindsBothSides rfl (c_X3_bindsBothSides l D Zk ca T G u ad _ hC ((T 3 (1000 * T 4 i + T 5 i)))  (by omega)) m_1066 rfl (by decide) hl.1 [] (Nat.le_of_ble_eq_true rfl) rfl dX10_gather_56 (fun r w1 hq H locs h => ?_)
            obtain ⟨rfl, _, rfl, ⟨rfl, b7⟩ | ⟨rfl, b7⟩⟩ := hq
            · show W p l e r_c_X10_gather s m args below meth c _ _ 0 0 Qf (F0 m 59 ls [.int (iI 1)])
              refine x_if_eq B (by omega) (tgt := 71) dX10_gather_59 (by decide) (fun c8 => ?_) (fun c8 => ?_)
              · exact absurd c8 (by omega)
              · refine lv_aload_n B.1 B.2.1 dX10_gather_62 rfl (lv_at hl 2 rfl) ?_
                refine lv_aload B.1 B.2.1 dX10_gather_63 (lv_at hl 0 rfl) ?_
                refine lv_aload_n B.1 B.2.1 dX10_gather_65 rfl (lv_at hl 5 rfl) ?_
                refine lv_aload B.1 B.2.1 dX10_gather_66 (lv_at hl 6 rfl) ?_
                refine y_cV B h kX10 14 (CW.f hC 14 _ rfl) k_X10_keep rfl (c_X10_keep l D Zk ca T G u ad _ hC i  (by omega)) m_1070 rfl (by decide) hl.1 [] (Nat.le_of_ble_eq_true rfl) rfl dX10_gather_68 (fun r w1 hq H locs h => ?_)
                obtain ⟨rfl, rfl⟩ := hq
                show W p l e r_c_X10_gather s m args below meth c _ _ 0 0 Qf (F0 m 71 ls [])
                refine lv_iinc (v := iI (i + 1)) (lv' := [(5, .int (iI (i + 1))), (6, .ref (G 4 i)), (0, .ref (ad 14)), (1, .int (iI year)), (2, .ref (ad 1)), (3, .ref (ad 4)), (4, .ref (ad 12))]) B.1 B.2.1 dX10_gather_71 hl (k := 1) rfl (iI_add _ _) (by decide) rfl (fun ls hl => ?_)
                refine lv_goto (tgt := 18) B.1 B.2.1 dX10_gather_74 (by decide) ?_
                exact ih18 ((i + 1)) (by omega) (by omega) _ _ _ h (lv_sub hl [0, 2, 3, 4, 5, 6] rfl)
            · show W p l e r_c_X10_gather s m args below meth c _ _ 0 0 Qf (F0 m 59 ls [.int (iI 0)])
              refine x_if_eq B (by omega) (tgt := 71) dX10_gather_59 (by decide) (fun c9 => ?_) (fun c9 => ?_)
              · refine lv_iinc (v := iI (i + 1)) (lv' := [(5, .int (iI (i + 1))), (6, .ref (G 4 i)), (0, .ref (ad 14)), (1, .int (iI year)), (2, .ref (ad 1)), (3, .ref (ad 4)), (4, .ref (ad 12))]) B.1 B.2.1 dX10_gather_71 hl (k := 1) rfl (iI_add _ _) (by decide) rfl (fun ls hl => ?_)
                refine lv_goto (tgt := 18) B.1 B.2.1 dX10_gather_74 (by decide) ?_
                exact ih18 ((i + 1)) (by omega) (by omega) _ _ _ h (lv_sub hl [0, 2, 3, 4, 5, 6] rfl)
              · exact absurd c9 (by omega)
  exact loop18 (((300 - 0 : Int)).toNat + 1) 0 (by omega) (Nat.lt_succ_self _) _ _ _ h (lv_sub hl [0, 1, 2, 3, 4, 5] rfl)
abbrev r_c_X10_gatherValues : Room := { frames := 6, cells := 0, slots := 0, locals := 153 }
set_option maxHeartbeats 4000000 in
set_option maxRecDepth 100000 in
theorem c_X10_gatherValues (l : Launch) (D : va_G) (Zk : yK) (ca : Nat → ClassId) (T : Nat → Int → Int) (G : Nat → Int → Nat) (u : Int) (ad : Nat → Nat) (w : yW) (hC : CW ca T G u ad w)    : yC l D Zk ca yX10_gatherValues cX10_gatherValues 5 none r_c_X10_gatherValues [.ref (ad 14), .ref (ad 1), .ref (ad 4), .ref (ad 12)] w (vV w) := by
  refine yC.of2 "WindWords$Winds" (by decide) rfl (Nat.le_of_ble_eq_true rfl) ?_
  intro p e s m args below meth c A ls Qf B hnm h hl hQ
  have hl : lv_has ls 5 [(0, .ref (ad 14)), (1, .ref (ad 1)), (2, .ref (ad 4)), (3, .ref (ad 12))] := hl
  have hs := pi_s (CW.pi hC)
  refine lv_aload_n B.1 B.2.1 dX10_gatherValues_0 rfl (lv_at hl 0 rfl) ?_
  refine x_iconst B dX10_gatherValues_1 ?_
  refine y_put B h kX10 14 (CW.f hC 14 _ rfl) 6 (Nat.le_of_ble_eq_true rfl) (P' := fX 0) m_239 (by decide) rfl rfl rfl rfl dX10_gatherValues_2 (fun H locs h => ?_)
  have h : yH D Zk A s ((wu w 14 (ad 14, xO 10 [fR (ad 15), fR (ad 16), fR (ad 17), fG (-2147483648) 2147483647, fG (-2147483648) 2147483647, fG (-2147483648) 2147483647, fX 0]))) _ _ := h
  refine x_iconst B dX10_gatherValues_5 ?_
  refine lv_istore (lv' := [(4, .int (iI 0)), (0, .ref (ad 14)), (1, .ref (ad 1)), (2, .ref (ad 4)), (3, .ref (ad 12))]) B.1 B.2.1 dX10_gatherValues_6 hl (by decide) rfl (fun ls hl => ?_)
  have h : yH D Zk A s w _ _ := yH.unpin h (CW.f hC 14 _ rfl) (xO_le (fLe_cons (fun _ x => x) (fLe_cons (fun _ x => x) (fLe_cons (fun _ x => x) (fLe_cons (fun _ x => x) (fLe_cons (fun _ x => x) (fLe_cons (fun _ x => x) (fLe_cons (fX_G (by omega)) fLe_nil))))))))
  have loop8 : ∀ (n8 : Nat) (y : Int), (0 ≤ y ∧ y ≤ 10) → ((10 - y : Int)).toNat < n8 → ∀ (H : Heap) (locs : List Loc) (ls : Array Slot), yH D Zk A s w H locs → lv_has ls 5 [(4, .int (iI y)), (0, .ref (ad 14)), (1, .ref (ad 1)), (2, .ref (ad 4)), (3, .ref (ad 12))] → W p l e r_c_X10_gatherValues s m args below meth c H locs 0 0 Qf (F0 m 8 ls []) := by
    intro n8
    induction n8 with
    | zero =>
      intro y h0 hm8 H locs ls h hl
      exact absurd hm8 (Nat.not_lt_zero _)
    | succ n8 ih8 =>
      intro y h0 hm8 H locs ls h hl
      refine lv_iload B.1 B.2.1 dX10_gatherValues_8 (lv_at hl 0 rfl) ?_
      refine x_bipush B (by decide) dX10_gatherValues_10 ?_
      refine x_icmp_ge B (by omega) (tgt := 85) dX10_gatherValues_12 (by decide) (fun c1 => ?_) (fun c1 => ?_)
      · refine y_rv B hQ h (by decide) dX10_gatherValues_85 ?_
        exact ⟨rfl, rfl⟩
      · refine lv_aload_n B.1 B.2.1 dX10_gatherValues_15 rfl (lv_at hl 1 rfl) ?_
        refine lv_iload B.1 B.2.1 dX10_gatherValues_16 (lv_at hl 0 rfl) ?_
        refine lv_aload_n B.1 B.2.1 dX10_gatherValues_18 rfl (lv_at hl 2 rfl) ?_
        refine lv_aload_n B.1 B.2.1 dX10_gatherValues_19 rfl (lv_at hl 3 rfl) ?_
        refine lv_aload_n B.1 B.2.1 dX10_gatherValues_20 rfl (lv_at hl 4 rfl) ?_
        refine y_cV B h kX10 14 (CW.f hC 14 _ rfl) k_X10_gather rfl (c_X10_gather l D Zk ca T G u ad _ hC y  (by omega)) m_1090 rfl (by decide) hl.1 [] (Nat.le_of_ble_eq_true rfl) rfl dX10_gatherValues_21 (fun r w1 hq H locs h => ?_)
        obtain ⟨rfl, rfl⟩ := hq
        show W p l e r_c_X10_gatherValues s m args below meth c _ _ 0 0 Qf (F0 m 24 ls [])
        refine lv_aload_n B.1 B.2.1 dX10_gatherValues_24 rfl (lv_at hl 1 rfl) ?_
        obtain ⟨z2, z2a, z2b, h⟩ := yH.pin h (CW.f hC 14 _ rfl) 3 (lo := (-2147483648)) (hi := 2147483647) rfl
        have h : yH D Zk A s ((wu w 14 (ad 14, xO 10 [fR (ad 15), fR (ad 16), fR (ad 17), fX z2, fG (-2147483648) 2147483647, fG (-2147483648) 2147483647, fG 0 10]))) _ _ := h
        refine y_getX B h kX10 14 wu_eq 3 (z := z2) rfl m_233 (by decide) dX10_gatherValues_25 ?_
        refine x_if_le B (by omega) (tgt := 79) dX10_gatherValues_28 (by decide) (fun c3 => ?_) (fun c3 => ?_)
        · refine lv_iinc (v := iI (y + 1)) (lv' := [(4, .int (iI (y + 1))), (0, .ref (ad 14)), (1, .ref (ad 1)), (2, .ref (ad 4)), (3, .ref (ad 12))]) B.1 B.2.1 dX10_gatherValues_79 hl (k := 0) rfl (iI_add _ _) (by decide) rfl (fun ls hl => ?_)
          refine lv_goto (tgt := 8) B.1 B.2.1 dX10_gatherValues_82 (by decide) ?_
          have h : yH D Zk A s w _ _ := yH.unpin h (CW.f hC 14 _ rfl) (xO_le (fLe_cons (fun _ x => x) (fLe_cons (fun _ x => x) (fLe_cons (fun _ x => x) (fLe_cons (fX_G (by omega)) (fLe_cons (fun _ x => x) (fLe_cons (fun _ x => x) (fLe_cons (fun _ x => x) fLe_nil))))))))
          exact ih8 ((y + 1)) (by omega) (by omega) _ _ _ h (lv_sub hl [0, 1, 2, 3, 4] rfl)
        · refine lv_aload_n B.1 B.2.1 dX10_gatherValues_31 rfl (lv_at hl 1 rfl) ?_
          obtain ⟨z4, z4a, z4b, h⟩ := yH.pin h wu_eq 6 (lo := 0) (hi := 10) rfl
          rw [wu_wu] at h
          have h : yH D Zk A s ((wu w 14 (ad 14, xO 10 [fR (ad 15), fR (ad 16), fR (ad 17), fX z2, fG (-2147483648) 2147483647, fG (-2147483648) 2147483647, fX z4]))) _ _ := h
          refine y_getX B h kX10 14 wu_eq 6 (z := z4) rfl m_239 (by decide) dX10_gatherValues_32 ?_
          refine x_bipush B (by decide) dX10_gatherValues_35 ?_
          refine x_icmp_ge B (by omega) (tgt := 79) dX10_gatherValues_37 (by decide) (fun c5 => ?_) (fun c5 => ?_)
          · refine lv_iinc (v := iI (y + 1)) (lv' := [(4, .int (iI (y + 1))), (0, .ref (ad 14)), (1, .ref (ad 1)), (2, .ref (ad 4)), (3, .ref (ad 12))]) B.1 B.2.1 dX10_gatherValues_79 hl (k := 0) rfl (iI_add _ _) (by decide) rfl (fun ls hl => ?_)
            refine lv_goto (tgt := 8) B.1 B.2.1 dX10_gatherValues_82 (by decide) ?_
            have h : yH D Zk A s w _ _ := yH.unpin h (CW.f hC 14 _ rfl) (xO_le (fLe_cons (fun _ x => x) (fLe_cons (fun _ x => x) (fLe_cons (fun _ x => x) (fLe_cons (fX_G (by omega)) (fLe_cons (fun _ x => x) (fLe_cons (fun _ x => x) (fLe_cons (fX_G (by omega)) fLe_nil))))))))
            exact ih8 ((y + 1)) (by omega) (by omega) _ _ _ h (lv_sub hl [0, 1, 2, 3, 4] rfl)
          · refine lv_aload_n B.1 B.2.1 dX10_gatherValues_40 rfl (lv_at hl 1 rfl) ?_
            refine y_getR B h kX10 14 wu_eq 1 (b := ad 16) rfl m_231 (by decide) dX10_gatherValues_41 ?_
            refine lv_aload_n B.1 B.2.1 dX10_gatherValues_44 rfl (lv_at hl 1 rfl) ?_
            refine y_getX B h kX10 14 wu_eq 6 (z := z4) rfl m_239 (by decide) dX10_gatherValues_45 ?_
            refine lv_aload_n B.1 B.2.1 dX10_gatherValues_48 rfl (lv_at hl 1 rfl) ?_
            refine y_getG B h kX10 14 wu_eq 4 (lo := (-2147483648)) (hi := 2147483647) rfl m_235 (by decide) dX10_gatherValues_49 (fun z6 z6a z6b => ?_)
            refine lv_aload_n B.1 B.2.1 dX10_gatherValues_52 rfl (lv_at hl 1 rfl) ?_
            refine y_getG B h kX10 14 wu_eq 5 (lo := (-2147483648)) (hi := 2147483647) rfl m_237 (by decide) dX10_gatherValues_53 (fun z7 z7a z7b => ?_)
            refine x_iadd B dX10_gatherValues_56 ?_
            refine x_sipush B (by decide) dX10_gatherValues_57 ?_
            refine x_imul B dX10_gatherValues_60 ?_
            refine x_iconst B dX10_gatherValues_61 ?_
            refine lv_aload_n B.1 B.2.1 dX10_gatherValues_62 rfl (lv_at hl 1 rfl) ?_
            refine y_getX B h kX10 14 wu_eq 3 (z := z2) rfl m_233 (by decide) dX10_gatherValues_63 ?_
            refine x_imul B dX10_gatherValues_66 ?_
            refine lv_idiv B.1 B.2.1 dX10_gatherValues_67 (i2k_ne (by omega)) ?_
            refine x_name (fun z8 hz8 ez8 => ?_)
            refine y_iastS B h 16 (wu_at (CW.f hC 16 _ rfl) (by decide)) (by omega) (fun _ _ => trivial) dX10_gatherValues_68 (fun H locs h => ?_)
            refine lv_aload_n B.1 B.2.1 dX10_gatherValues_69 rfl (lv_at hl 1 rfl) ?_
            refine lv_dup B.1 B.2.1 dX10_gatherValues_70 rfl ?_
            refine y_getX B h kX10 14 wu_eq 6 (z := z4) rfl m_239 (by decide) dX10_gatherValues_71 ?_
            refine x_iconst B dX10_gatherValues_74 ?_
            refine x_iadd B dX10_gatherValues_75 ?_
            refine y_put B h kX10 14 wu_eq 6 (Nat.le_of_ble_eq_true rfl) (P' := fX (z4 + 1)) m_239 (by decide) rfl rfl rfl rfl dX10_gatherValues_76 (fun H locs h => ?_)
            rw [wu_wu] at h
            have h : yH D Zk A s ((wu w 14 (ad 14, xO 10 [fR (ad 15), fR (ad 16), fR (ad 17), fX z2, fG (-2147483648) 2147483647, fG (-2147483648) 2147483647, fX (z4 + 1)]))) _ _ := h
            refine lv_iinc (v := iI (y + 1)) (lv' := [(4, .int (iI (y + 1))), (0, .ref (ad 14)), (1, .ref (ad 1)), (2, .ref (ad 4)), (3, .ref (ad 12))]) B.1 B.2.1 dX10_gatherValues_79 hl (k := 0) rfl (iI_add _ _) (by decide) rfl (fun ls hl => ?_)
            refine lv_goto (tgt := 8) B.1 B.2.1 dX10_gatherValues_82 (by decide) ?_
            have h : yH D Zk A s w _ _ := yH.unpin h (CW.f hC 14 _ rfl) (xO_le (fLe_cons (fun _ x => x) (fLe_cons (fun _ x => x) (fLe_cons (fun _ x => x) (fLe_cons (fX_G (by omega)) (fLe_cons (fun _ x => x) (fLe_cons (fun _ x => x) (fLe_cons (fX_G (by omega)) fLe_nil))))))))
            exact ih8 ((y + 1)) (by omega) (by omega) _ _ _ h (lv_sub hl [0, 1, 2, 3, 4] rfl)
  exact loop8 (((10 - 0 : Int)).toNat + 1) 0 (by omega) (Nat.lt_succ_self _) _ _ _ h (lv_sub hl [0, 1, 2, 3, 4] rfl)
abbrev r_c_X10_rising : Room := { frames := 0, cells := 0, slots := 0, locals := 0 }
set_option maxHeartbeats 4000000 in
set_option maxRecDepth 100000 in
theorem c_X10_rising (l : Launch) (D : va_G) (Zk : yK) (ca : Nat → ClassId) (T : Nat → Int → Int) (G : Nat → Int → Nat) (u : Int) (ad : Nat → Nat) (w : yW) (hC : CW ca T G u ad w)    : yC l D Zk ca yX10_rising cX10_rising 4 (some .int) r_c_X10_rising [.ref (ad 14)] w (vI w (fun z => 0 ≤ z ∧ z ≤ 100)) := by
  refine yC.of2 "WindWords$Winds" (by decide) rfl (Nat.le_of_ble_eq_true rfl) ?_
  intro p e s m args below meth c A ls Qf B hnm h hl hQ
  have hl : lv_has ls 4 [(0, .ref (ad 14))] := hl
  have hs := pi_s (CW.pi hC)
  refine x_iconst B dX10_rising_0 ?_
  refine lv_istore_n (lv' := [(1, .int (iI 0)), (0, .ref (ad 14))]) B.1 B.2.1 dX10_rising_1 rfl hl (by decide) rfl (fun ls hl => ?_)
  refine x_iconst B dX10_rising_2 ?_
  refine lv_istore_n (lv' := [(2, .int (iI 0)), (1, .int (iI 0)), (0, .ref (ad 14))]) B.1 B.2.1 dX10_rising_3 rfl hl (by decide) rfl (fun ls hl => ?_)
  have loop4 : ∀ (n4 : Nat) (cp : Int) (y : Int), (0 ≤ cp ∧ cp ≤ 10 * y) → (0 ≤ y ∧ y ≤ 10) → ((10 - y : Int)).toNat < n4 → ∀ (H : Heap) (locs : List Loc) (ls : Array Slot), yH D Zk A s w H locs → lv_has ls 4 [(2, .int (iI y)), (1, .int (iI cp)), (0, .ref (ad 14))] → W p l e r_c_X10_rising s m args below meth c H locs 0 0 Qf (F0 m 4 ls []) := by
    intro n4
    induction n4 with
    | zero =>
      intro cp y h0 h1 hm4 H locs ls h hl
      exact absurd hm4 (Nat.not_lt_zero _)
    | succ n4 ih4 =>
      intro cp y h0 h1 hm4 H locs ls h hl
      refine lv_iload_n B.1 B.2.1 dX10_rising_4 rfl (lv_at hl 0 rfl) ?_
      refine lv_aload_n B.1 B.2.1 dX10_rising_5 rfl (lv_at hl 2 rfl) ?_
      refine y_getG B h kX10 14 (CW.f hC 14 _ rfl) 6 (lo := 0) (hi := 10) rfl m_239 (by decide) dX10_rising_6 (fun z1 z1a z1b => ?_)
      refine x_icmp_ge B (by omega) (tgt := 54) dX10_rising_9 (by decide) (fun c2 => ?_) (fun c2 => ?_)
      · refine lv_iload_n B.1 B.2.1 dX10_rising_54 rfl (lv_at hl 1 rfl) ?_
        refine y_ri B hQ h (by decide) dX10_rising_55 ?_
        exact ⟨rfl, _, rfl, (by first | omega | trivial | assumption)⟩
      · refine x_iconst B dX10_rising_12 ?_
        refine lv_istore_n (lv' := [(3, .int (iI 0)), (2, .int (iI y)), (1, .int (iI cp)), (0, .ref (ad 14))]) B.1 B.2.1 dX10_rising_13 rfl hl (by decide) rfl (fun ls hl => ?_)
        have loop14 : ∀ (n14 : Nat) (cp : Int) (i : Int), (0 ≤ cp ∧ cp ≤ 10 * y + i) → (0 ≤ i ∧ i ≤ y) → ((10 - i : Int)).toNat < n14 → ∀ (H : Heap) (locs : List Loc) (ls : Array Slot), yH D Zk A s w H locs → lv_has ls 4 [(3, .int (iI i)), (2, .int (iI y)), (1, .int (iI cp)), (0, .ref (ad 14))] → W p l e r_c_X10_rising s m args below meth c H locs 0 0 Qf (F0 m 14 ls []) := by
          intro n14
          induction n14 with
          | zero =>
            intro cp i h2 h3 hm14 H locs ls h hl
            exact absurd hm14 (Nat.not_lt_zero _)
          | succ n14 ih14 =>
            intro cp i h2 h3 hm14 H locs ls h hl
            refine lv_iload_n B.1 B.2.1 dX10_rising_14 rfl (lv_at hl 0 rfl) ?_
            refine lv_iload_n B.1 B.2.1 dX10_rising_15 rfl (lv_at hl 1 rfl) ?_
            refine x_icmp_ge B (by omega) (tgt := 48) dX10_rising_16 (by decide) (fun c3 => ?_) (fun c3 => ?_)
            · refine lv_iinc (v := iI (y + 1)) (lv' := [(2, .int (iI (y + 1))), (3, .int (iI i)), (1, .int (iI cp)), (0, .ref (ad 14))]) B.1 B.2.1 dX10_rising_48 hl (k := 1) rfl (iI_add _ _) (by decide) rfl (fun ls hl => ?_)
              refine lv_goto (tgt := 4) B.1 B.2.1 dX10_rising_51 (by decide) ?_
              exact ih4 cp ((y + 1)) (by omega) (by omega) (by omega) _ _ _ h (lv_sub hl [0, 2, 3] rfl)
            · refine lv_iload_n B.1 B.2.1 dX10_rising_19 rfl (lv_at hl 2 rfl) ?_
              refine lv_aload_n B.1 B.2.1 dX10_rising_20 rfl (lv_at hl 3 rfl) ?_
              refine y_getR B h kX10 14 (CW.f hC 14 _ rfl) 1 (b := ad 16) rfl m_231 (by decide) dX10_rising_21 ?_
              refine lv_iload_n B.1 B.2.1 dX10_rising_24 rfl (lv_at hl 1 rfl) ?_
              refine y_iald B h 16 (CW.f hC 16 _ rfl) (by omega) dX10_rising_25 (fun fz4 hfz4 => ?_)
              refine x_name (fun z4 hz4 ez4 => ?_)
              refine lv_aload_n B.1 B.2.1 dX10_rising_26 rfl (lv_at hl 3 rfl) ?_
              refine y_getR B h kX10 14 (CW.f hC 14 _ rfl) 1 (b := ad 16) rfl m_231 (by decide) dX10_rising_27 ?_
              refine lv_iload_n B.1 B.2.1 dX10_rising_30 rfl (lv_at hl 0 rfl) ?_
              refine y_iald B h 16 (CW.f hC 16 _ rfl) (by omega) dX10_rising_31 (fun fz5 hfz5 => ?_)
              refine x_name (fun z5 hz5 ez5 => ?_)
              refine x_icmp_le B (by omega) (tgt := 39) dX10_rising_32 (by decide) (fun c6 => ?_) (fun c6 => ?_)
              · refine x_iconst B dX10_rising_39 ?_
                refine x_iadd B dX10_rising_40 ?_
                refine lv_istore_n (lv' := [(1, .int (iI (cp + 0))), (3, .int (iI i)), (2, .int (iI y)), (0, .ref (ad 14))]) B.1 B.2.1 dX10_rising_41 rfl hl (by decide) rfl (fun ls hl => ?_)
                refine lv_iinc (v := iI (i + 1)) (lv' := [(3, .int (iI (i + 1))), (1, .int (iI (cp + 0))), (2, .int (iI y)), (0, .ref (ad 14))]) B.1 B.2.1 dX10_rising_42 hl (k := 1) rfl (iI_add _ _) (by decide) rfl (fun ls hl => ?_)
                refine lv_goto (tgt := 14) B.1 B.2.1 dX10_rising_45 (by decide) ?_
                exact ih14 ((cp + 0)) ((i + 1)) (by omega) (by omega) (by omega) _ _ _ h (lv_sub hl [0, 2, 1, 3] rfl)
              · refine x_iconst B dX10_rising_35 ?_
                refine lv_goto (tgt := 40) B.1 B.2.1 dX10_rising_36 (by decide) ?_
                refine x_iadd B dX10_rising_40 ?_
                refine lv_istore_n (lv' := [(1, .int (iI (cp + 1))), (3, .int (iI i)), (2, .int (iI y)), (0, .ref (ad 14))]) B.1 B.2.1 dX10_rising_41 rfl hl (by decide) rfl (fun ls hl => ?_)
                refine lv_iinc (v := iI (i + 1)) (lv' := [(3, .int (iI (i + 1))), (1, .int (iI (cp + 1))), (2, .int (iI y)), (0, .ref (ad 14))]) B.1 B.2.1 dX10_rising_42 hl (k := 1) rfl (iI_add _ _) (by decide) rfl (fun ls hl => ?_)
                refine lv_goto (tgt := 14) B.1 B.2.1 dX10_rising_45 (by decide) ?_
                exact ih14 ((cp + 1)) ((i + 1)) (by omega) (by omega) (by omega) _ _ _ h (lv_sub hl [0, 2, 1, 3] rfl)
        exact loop14 (((10 - 0 : Int)).toNat + 1) cp 0 (by omega) (by omega) (Nat.lt_succ_self _) _ _ _ h (lv_sub hl [0, 1, 2, 3] rfl)
  exact loop4 (((10 - 0 : Int)).toNat + 1) 0 0 (by omega) (by omega) (Nat.lt_succ_self _) _ _ _ h (lv_sub hl [0, 1, 2] rfl)
abbrev r_c_X10_ordersRising : Room := { frames := 1, cells := 0, slots := 0, locals := 21 }
set_option maxHeartbeats 4000000 in
set_option maxRecDepth 100000 in
theorem c_X10_ordersRising (l : Launch) (D : va_G) (Zk : yK) (ca : Nat → ClassId) (T : Nat → Int → Int) (G : Nat → Int → Nat) (u : Int) (ad : Nat → Nat) (w : yW) (hC : CW ca T G u ad w) (cp : Int)  (hcp : xr cp) : yC l D Zk ca yX10_ordersRising cX10_ordersRising 5 (some .int) r_c_X10_ordersRising [.ref (ad 14), .int (iI cp)] w (vI w (fun z => xr z)) := by
  refine yC.of2 "WindWords$Winds" (by decide) rfl (Nat.le_of_ble_eq_true rfl) ?_
  intro p e s m args below meth c A ls Qf B hnm h hl hQ
  have hl : lv_has ls 5 [(0, .ref (ad 14)), (1, .int (iI cp))] := hl
  have hs := pi_s (CW.pi hC)
  refine x_iconst B dX10_ordersRising_0 ?_
  refine lv_istore_n (lv' := [(2, .int (iI 0)), (0, .ref (ad 14)), (1, .int (iI cp))]) B.1 B.2.1 dX10_ordersRising_1 rfl hl (by decide) rfl (fun ls hl => ?_)
  have loop2 : ∀ (n2 : Nat) (i : Int), (0 ≤ i ∧ i ≤ 46) → ((46 - i : Int)).toNat < n2 → ∀ (H : Heap) (locs : List Loc) (ls : Array Slot), yH D Zk A s w H locs → lv_has ls 5 [(2, .int (iI i)), (0, .ref (ad 14)), (1, .int (iI cp))] → W p l e r_c_X10_ordersRising s m args below meth c H locs 0 0 Qf (F0 m 2 ls []) := by
    intro n2
    induction n2 with
    | zero =>
      intro i h0 hm2 H locs ls h hl
      exact absurd hm2 (Nat.not_lt_zero _)
    | succ n2 ih2 =>
      intro i h0 hm2 H locs ls h hl
      refine lv_iload_n B.1 B.2.1 dX10_ordersRising_2 rfl (lv_at hl 0 rfl) ?_
      refine lv_aload_n B.1 B.2.1 dX10_ordersRising_3 rfl (lv_at hl 1 rfl) ?_
      refine y_getR B h kX10 14 (CW.f hC 14 _ rfl) 2 (b := ad 17) rfl m_232 (by decide) dX10_ordersRising_4 ?_
      refine y_alenI B h 17 0 (CW.f hC 17 _ rfl) rfl dX10_ordersRising_7 ?_
      refine x_icmp_ge B (by omega) (tgt := 32) dX10_ordersRising_8 (by decide) (fun c1 => ?_) (fun c1 => ?_)
      · refine x_iconst B dX10_ordersRising_32 ?_
        refine lv_istore_n (lv' := [(2, .int (iI 1)), (0, .ref (ad 14)), (1, .int (iI cp))]) B.1 B.2.1 dX10_ordersRising_33 rfl hl (by decide) rfl (fun ls hl => ?_)
        have loop34 : ∀ (n34 : Nat) (y : Int), (1 ≤ y ∧ y ≤ 11) → ((11 - y : Int)).toNat < n34 → ∀ (H : Heap) (locs : List Loc) (ls : Array Slot), yH D Zk A s w H locs → lv_has ls 5 [(2, .int (iI y)), (0, .ref (ad 14)), (1, .int (iI cp))] → W p l e r_c_X10_ordersRising s m args below meth c H locs 0 0 Qf (F0 m 34 ls []) := by
          intro n34
          induction n34 with
          | zero =>
            intro y h1 hm34 H locs ls h hl
            exact absurd hm34 (Nat.not_lt_zero _)
          | succ n34 ih34 =>
            intro y h1 hm34 H locs ls h hl
            refine lv_iload_n B.1 B.2.1 dX10_ordersRising_34 rfl (lv_at hl 0 rfl) ?_
            refine lv_aload_n B.1 B.2.1 dX10_ordersRising_35 rfl (lv_at hl 1 rfl) ?_
            refine y_getG B h kX10 14 (CW.f hC 14 _ rfl) 6 (lo := 0) (hi := 10) rfl m_239 (by decide) dX10_ordersRising_36 (fun z2 z2a z2b => ?_)
            refine x_icmp_ge B (by omega) (tgt := 105) dX10_ordersRising_39 (by decide) (fun c3 => ?_) (fun c3 => ?_)
            · refine x_iconst B dX10_ordersRising_105 ?_
              refine lv_istore_n (lv' := [(2, .int (iI 0)), (0, .ref (ad 14)), (1, .int (iI cp))]) B.1 B.2.1 dX10_ordersRising_106 rfl hl (by decide) rfl (fun ls hl => ?_)
              refine x_iconst B dX10_ordersRising_107 ?_
              refine lv_iload_n B.1 B.2.1 dX10_ordersRising_108 rfl (lv_at hl 2 rfl) ?_
              refine x_max B (by omega) m_1099 m_454 m_106 m_455 hl.1 (Nat.le_of_ble_eq_true rfl) (by decide) dX10_ordersRising_109 ?_
              refine lv_istore_n (lv' := [(3, .int (iI (max 0 cp))), (2, .int (iI 0)), (0, .ref (ad 14)), (1, .int (iI cp))]) B.1 B.2.1 dX10_ordersRising_112 rfl hl (by decide) rfl (fun ls hl => ?_)
              have loop113 : ∀ (n113 : Nat) (i : Int) (l2 : Int), (xr l2) → (0 ≤ i ∧ i ≤ 2147483647) → ((46 - i : Int)).toNat < n113 → ∀ (H : Heap) (locs : List Loc) (ls : Array Slot), yH D Zk A s w H locs → lv_has ls 5 [(3, .int (iI i)), (2, .int (iI l2)), (0, .ref (ad 14))] → W p l e r_c_X10_ordersRising s m args below meth c H locs 0 0 Qf (F0 m 113 ls []) := by
                intro n113
                induction n113 with
                | zero =>
                  intro i l2 xl2 h4 hm113 H locs ls h hl
                  exact absurd hm113 (Nat.not_lt_zero _)
                | succ n113 ih113 =>
                  intro i l2 xl2 h4 hm113 H locs ls h hl
                  refine lv_iload_n B.1 B.2.1 dX10_ordersRising_113 rfl (lv_at hl 0 rfl) ?_
                  refine lv_aload_n B.1 B.2.1 dX10_ordersRising_114 rfl (lv_at hl 2 rfl) ?_
                  refine y_getR B h kX10 14 (CW.f hC 14 _ rfl) 2 (b := ad 17) rfl m_232 (by decide) dX10_ordersRising_115 ?_
                  refine y_alenI B h 17 0 (CW.f hC 17 _ rfl) rfl dX10_ordersRising_118 ?_
                  refine x_icmp_ge B (by omega) (tgt := 137) dX10_ordersRising_119 (by decide) (fun c4 => ?_) (fun c4 => ?_)
                  · refine lv_iload_n B.1 B.2.1 dX10_ordersRising_137 rfl (lv_at hl 1 rfl) ?_
                    refine y_ri B hQ h (by decide) dX10_ordersRising_138 ?_
                    exact ⟨rfl, _, rfl, (by first | omega | trivial | assumption)⟩
                  · refine lv_iload_n B.1 B.2.1 dX10_ordersRising_122 rfl (lv_at hl 1 rfl) ?_
                    refine lv_aload_n B.1 B.2.1 dX10_ordersRising_123 rfl (lv_at hl 2 rfl) ?_
                    refine y_getR B h kX10 14 (CW.f hC 14 _ rfl) 2 (b := ad 17) rfl m_232 (by decide) dX10_ordersRising_124 ?_
                    refine lv_iload_n B.1 B.2.1 dX10_ordersRising_127 rfl (lv_at hl 0 rfl) ?_
                    refine y_iald B h 17 (CW.f hC 17 _ rfl) (by omega) dX10_ordersRising_128 (fun fz5 hfz5 => ?_)
                    refine x_name (fun z5 hz5 ez5 => ?_)
                    refine x_iadd B dX10_ordersRising_129 ?_
                    refine x_name (fun z6 hz6 ez6 => ?_)
                    refine lv_istore_n (lv' := [(2, .int (iI z6)), (3, .int (iI i)), (0, .ref (ad 14))]) B.1 B.2.1 dX10_ordersRising_130 rfl hl (by decide) rfl (fun ls hl => ?_)
                    refine lv_iinc (v := iI (i + 1)) (lv' := [(3, .int (iI (i + 1))), (2, .int (iI z6)), (0, .ref (ad 14))]) B.1 B.2.1 dX10_ordersRising_131 hl (k := 1) rfl (iI_add _ _) (by decide) rfl (fun ls hl => ?_)
                    refine lv_goto (tgt := 113) B.1 B.2.1 dX10_ordersRising_134 (by decide) ?_
                    exact ih113 ((i + 1)) z6 (by omega) (by omega) (by omega) _ _ _ h (lv_sub hl [0, 1, 2] rfl)
              exact loop113 (((46 - ((max 0 cp)) : Int)).toNat + 1) ((max 0 cp)) 0 (by omega) (by omega) (Nat.lt_succ_self _) _ _ _ h (lv_sub hl [0, 1, 2] rfl)
            · refine lv_aload_n B.1 B.2.1 dX10_ordersRising_42 rfl (lv_at hl 1 rfl) ?_
              refine y_getR B h kX10 14 (CW.f hC 14 _ rfl) 2 (b := ad 17) rfl m_232 (by decide) dX10_ordersRising_43 ?_
              refine y_alenI B h 17 0 (CW.f hC 17 _ rfl) rfl dX10_ordersRising_46 ?_
              refine x_iconst B dX10_ordersRising_47 ?_
              refine x_isub B dX10_ordersRising_48 ?_
              refine lv_istore_n (lv' := [(3, .int (iI (46 - 1))), (2, .int (iI y)), (0, .ref (ad 14)), (1, .int (iI cp))]) B.1 B.2.1 dX10_ordersRising_49 rfl hl (by decide) rfl (fun ls hl => ?_)
              have loop50 : ∀ (n50 : Nat) (i : Int), (0 ≤ i ∧ i ≤ 45) → ((i : Int)).toNat < n50 → ∀ (H : Heap) (locs : List Loc) (ls : Array Slot), yH D Zk A s w H locs → lv_has ls 5 [(3, .int (iI i)), (2, .int (iI y)), (0, .ref (ad 14)), (1, .int (iI cp))] → W p l e r_c_X10_ordersRising s m args below meth c H locs 0 0 Qf (F0 m 50 ls []) := by
                intro n50
                induction n50 with
                | zero =>
                  intro i h2 hm50 H locs ls h hl
                  exact absurd hm50 (Nat.not_lt_zero _)
                | succ n50 ih50 =>
                  intro i h2 hm50 H locs ls h hl
                  refine lv_iload_n B.1 B.2.1 dX10_ordersRising_50 rfl (lv_at hl 0 rfl) ?_
                  refine x_if_le B (by omega) (tgt := 99) dX10_ordersRising_51 (by decide) (fun c7 => ?_) (fun c7 => ?_)
                  · refine lv_iinc (v := iI (y + 1)) (lv' := [(2, .int (iI (y + 1))), (3, .int (iI i)), (0, .ref (ad 14)), (1, .int (iI cp))]) B.1 B.2.1 dX10_ordersRising_99 hl (k := 1) rfl (iI_add _ _) (by decide) rfl (fun ls hl => ?_)
                    refine lv_goto (tgt := 34) B.1 B.2.1 dX10_ordersRising_102 (by decide) ?_
                    exact ih34 ((y + 1)) (by omega) (by omega) _ _ _ h (lv_sub hl [0, 2, 3] rfl)
                  · refine x_iconst B dX10_ordersRising_54 ?_
                    refine lv_istore (lv' := [(4, .int (iI 1)), (3, .int (iI i)), (2, .int (iI y)), (0, .ref (ad 14)), (1, .int (iI cp))]) B.1 B.2.1 dX10_ordersRising_55 hl (by decide) rfl (fun ls hl => ?_)
                    have loop57 : ∀ (n57 : Nat) (v : Int), (1 ≤ v ∧ v ≤ 46) → ((46 - v : Int)).toNat < n57 → ∀ (H : Heap) (locs : List Loc) (ls : Array Slot), yH D Zk A s w H locs → lv_has ls 5 [(4, .int (iI v)), (3, .int (iI i)), (2, .int (iI y)), (0, .ref (ad 14)), (1, .int (iI cp))] → W p l e r_c_X10_ordersRising s m args below meth c H locs 0 0 Qf (F0 m 57 ls []) := by
                      intro n57
                      induction n57 with
                      | zero =>
                        intro v h3 hm57 H locs ls h hl
                        exact absurd hm57 (Nat.not_lt_zero _)
                      | succ n57 ih57 =>
                        intro v h3 hm57 H locs ls h hl
                        refine lv_iload B.1 B.2.1 dX10_ordersRising_57 (lv_at hl 0 rfl) ?_
                        refine lv_iload_n B.1 B.2.1 dX10_ordersRising_59 rfl (lv_at hl 2 rfl) ?_
                        refine x_icmp_gt B (by omega) (tgt := 93) dX10_ordersRising_60 (by decide) (fun c8 => ?_) (fun c8 => ?_)
                        · refine lv_iinc (v := iI (i + (-1))) (lv' := [(3, .int (iI (i + (-1)))), (4, .int (iI v)), (2, .int (iI y)), (0, .ref (ad 14)), (1, .int (iI cp))]) B.1 B.2.1 dX10_ordersRising_93 hl (k := 1) rfl (iI_add _ _) (by decide) rfl (fun ls hl => ?_)
                          refine lv_goto (tgt := 50) B.1 B.2.1 dX10_ordersRising_96 (by decide) ?_
                          exact ih50 ((i + (-1))) (by omega) (by omega) _ _ _ h (lv_sub hl [0, 2, 3, 4] rfl)
                        · refine lv_iload B.1 B.2.1 dX10_ordersRising_63 (lv_at hl 0 rfl) ?_
                          refine lv_iload_n B.1 B.2.1 dX10_ordersRising_65 rfl (lv_at hl 1 rfl) ?_
                          refine x_icmp_gt B (by omega) (tgt := 93) dX10_ordersRising_66 (by decide) (fun c9 => ?_) (fun c9 => ?_)
                          · refine lv_iinc (v := iI (i + (-1))) (lv' := [(3, .int (iI (i + (-1)))), (4, .int (iI v)), (2, .int (iI y)), (0, .ref (ad 14)), (1, .int (iI cp))]) B.1 B.2.1 dX10_ordersRising_93 hl (k := 1) rfl (iI_add _ _) (by decide) rfl (fun ls hl => ?_)
                            refine lv_goto (tgt := 50) B.1 B.2.1 dX10_ordersRising_96 (by decide) ?_
                            exact ih50 ((i + (-1))) (by omega) (by omega) _ _ _ h (lv_sub hl [0, 2, 3, 4] rfl)
                          · refine lv_aload_n B.1 B.2.1 dX10_ordersRising_69 rfl (lv_at hl 3 rfl) ?_
                            refine y_getR B h kX10 14 (CW.f hC 14 _ rfl) 2 (b := ad 17) rfl m_232 (by decide) dX10_ordersRising_70 ?_
                            refine lv_iload_n B.1 B.2.1 dX10_ordersRising_73 rfl (lv_at hl 1 rfl) ?_
                            refine lv_dup2_11 B.1 B.2.1 dX10_ordersRising_74 rfl rfl ?_
                            refine y_iald B h 17 (CW.f hC 17 _ rfl) (by omega) dX10_ordersRising_75 (fun fz10 hfz10 => ?_)
                            refine x_name (fun z10 hz10 ez10 => ?_)
                            refine lv_aload_n B.1 B.2.1 dX10_ordersRising_76 rfl (lv_at hl 3 rfl) ?_
                            refine y_getR B h kX10 14 (CW.f hC 14 _ rfl) 2 (b := ad 17) rfl m_232 (by decide) dX10_ordersRising_77 ?_
                            refine lv_iload_n B.1 B.2.1 dX10_ordersRising_80 rfl (lv_at hl 1 rfl) ?_
                            refine lv_iload B.1 B.2.1 dX10_ordersRising_81 (lv_at hl 0 rfl) ?_
                            refine x_isub B dX10_ordersRising_83 ?_
                            refine y_iald B h 17 (CW.f hC 17 _ rfl) (by omega) dX10_ordersRising_84 (fun fz11 hfz11 => ?_)
                            refine x_name (fun z11 hz11 ez11 => ?_)
                            refine x_iadd B dX10_ordersRising_85 ?_
                            refine y_iastS B h 17 (CW.f hC 17 _ rfl) (by omega) (fun _ _ => trivial) dX10_ordersRising_86 (fun H locs h => ?_)
                            refine lv_iinc (v := iI (v + 1)) (lv' := [(4, .int (iI (v + 1))), (3, .int (iI i)), (2, .int (iI y)), (0, .ref (ad 14)), (1, .int (iI cp))]) B.1 B.2.1 dX10_ordersRising_87 hl (k := 0) rfl (iI_add _ _) (by decide) rfl (fun ls hl => ?_)
                            refine lv_goto (tgt := 57) B.1 B.2.1 dX10_ordersRising_90 (by decide) ?_
                            exact ih57 ((v + 1)) (by omega) (by omega) _ _ _ h (lv_sub hl [0, 1, 2, 3, 4] rfl)
                    exact loop57 (((46 - 1 : Int)).toNat + 1) 1 (by omega) (Nat.lt_succ_self _) _ _ _ h (lv_sub hl [0, 1, 2, 3, 4] rfl)
              exact loop50 (((((46 - 1)) : Int)).toNat + 1) ((46 - 1)) (by omega) (Nat.lt_succ_self _) _ _ _ h (lv_sub hl [0, 1, 2, 3] rfl)
        exact loop34 (((11 - 1 : Int)).toNat + 1) 1 (by omega) (Nat.lt_succ_self _) _ _ _ h (lv_sub hl [0, 1, 2] rfl)
      · refine lv_aload_n B.1 B.2.1 dX10_ordersRising_11 rfl (lv_at hl 1 rfl) ?_
        refine y_getR B h kX10 14 (CW.f hC 14 _ rfl) 2 (b := ad 17) rfl m_232 (by decide) dX10_ordersRising_12 ?_
        refine lv_iload_n B.1 B.2.1 dX10_ordersRising_15 rfl (lv_at hl 0 rfl) ?_
        refine lv_iload_n B.1 B.2.1 dX10_ordersRising_16 rfl (lv_at hl 0 rfl) ?_
        refine x_if_ne B (by omega) (tgt := 24) dX10_ordersRising_17 (by decide) (fun c12 => ?_) (fun c12 => ?_)
        · refine x_iconst B dX10_ordersRising_24 ?_
          refine y_iastS B h 17 (CW.f hC 17 _ rfl) (by omega) (fun _ _ => trivial) dX10_ordersRising_25 (fun H locs h => ?_)
          refine lv_iinc (v := iI (i + 1)) (lv' := [(2, .int (iI (i + 1))), (0, .ref (ad 14)), (1, .int (iI cp))]) B.1 B.2.1 dX10_ordersRising_26 hl (k := 0) rfl (iI_add _ _) (by decide) rfl (fun ls hl => ?_)
          refine lv_goto (tgt := 2) B.1 B.2.1 dX10_ordersRising_29 (by decide) ?_
          exact ih2 ((i + 1)) (by omega) (by omega) _ _ _ h (lv_sub hl [0, 1, 2] rfl)
        · refine x_iconst B dX10_ordersRising_20 ?_
          refine lv_goto (tgt := 25) B.1 B.2.1 dX10_ordersRising_21 (by decide) ?_
          refine y_iastS B h 17 (CW.f hC 17 _ rfl) (by omega) (fun _ _ => trivial) dX10_ordersRising_25 (fun H locs h => ?_)
          refine lv_iinc (v := iI (i + 1)) (lv' := [(2, .int (iI (i + 1))), (0, .ref (ad 14)), (1, .int (iI cp))]) B.1 B.2.1 dX10_ordersRising_26 hl (k := 0) rfl (iI_add _ _) (by decide) rfl (fun ls hl => ?_)
          refine lv_goto (tgt := 2) B.1 B.2.1 dX10_ordersRising_29 (by decide) ?_
          exact ih2 ((i + 1)) (by omega) (by omega) _ _ _ h (lv_sub hl [0, 1, 2] rfl)
  exact loop2 (((46 - 0 : Int)).toNat + 1) 0 (by omega) (Nat.lt_succ_self _) _ _ _ h (lv_sub hl [0, 1, 2] rfl)
