theorem iI_ne0 {z : Int} (h : xr z ∧ z ≠ 0) : ¬ iI z = 0 := fun q => h.2 ((iI_eq ⟨h.1, (by omega : xr 0)⟩).mp q)
theorem k_X0_setTrusted : xMV yX0_setTrusted cX0_setTrusted 3 none 2 := ⟨m_493, m_491, m_492, m_96, ⟨by decide +kernel, by decide +kernel, by decide +kernel⟩⟩
theorem k_X11_refuse : xMV yX11_refuse cX11_refuse 3 (some .int) 2 := ⟨m_426, m_425, m_0, m_95, ⟨by decide +kernel, by decide +kernel, by decide +kernel⟩⟩
theorem k_X9_put : xMV yX9_put cX9_put 3 none 1 := ⟨m_572, m_570, m_571, m_101, ⟨by decide +kernel, by decide +kernel, by decide +kernel⟩⟩
theorem k_X11_isCopied : xMV yX11_isCopied cX11_isCopied 6 (some .boolean) 1 := ⟨m_845, m_844, m_15, m_95, ⟨by decide +kernel, by decide +kernel, by decide +kernel⟩⟩
theorem k_X11_written : xMV yX11_written cX11_written 6 (some .int) 3 := ⟨m_915, m_914, m_19, m_95, ⟨by decide +kernel, by decide +kernel, by decide +kernel⟩⟩
theorem k_X3_solve : xMV yX3_solve cX3_solve 6 (some .boolean) 2 := ⟨m_974, m_972, m_973, m_98, ⟨by decide +kernel, by decide +kernel, by decide +kernel⟩⟩
theorem k_X11_timesWritten : xMV yX11_timesWritten cX11_timesWritten 7 (some .int) 3 := ⟨m_1049, m_1048, m_26, m_95, ⟨by decide +kernel, by decide +kernel, by decide +kernel⟩⟩
theorem k_X11_odds : xMS yX11_odds cX11_odds 5 (some .int) 2 := ⟨m_1053, m_1052, m_95, ⟨by decide +kernel, by decide +kernel, by decide +kernel⟩⟩
theorem k_X10_gatherValues : xMV yX10_gatherValues cX10_gatherValues 5 none 3 := ⟨m_1089, m_1087, m_1088, m_99, ⟨by decide +kernel, by decide +kernel, by decide +kernel⟩⟩
theorem k_X10_rising : xMV yX10_rising cX10_rising 4 (some .int) 0 := ⟨m_1094, m_1092, m_1093, m_99, ⟨by decide +kernel, by decide +kernel, by decide +kernel⟩⟩
theorem k_X10_ordersRising : xMV yX10_ordersRising cX10_ordersRising 5 (some .int) 1 := ⟨m_1098, m_1096, m_1097, m_99, ⟨by decide +kernel, by decide +kernel, by decide +kernel⟩⟩
theorem k_X11_gatherLags : xMV yX11_gatherLags cX11_gatherLags 3 none 0 := ⟨m_1107, m_1106, m_28, m_95, ⟨by decide +kernel, by decide +kernel, by decide +kernel⟩⟩
theorem k_X11_bestLag : xMV yX11_bestLag cX11_bestLag 3 (some .int) 0 := ⟨m_1118, m_1117, m_30, m_95, ⟨by decide +kernel, by decide +kernel, by decide +kernel⟩⟩
theorem k_X11_waysLeading : xMV yX11_waysLeading cX11_waysLeading 6 (some .int) 3 := ⟨m_1149, m_1148, m_33, m_95, ⟨by decide +kernel, by decide +kernel, by decide +kernel⟩⟩
theorem k_X11_firstBeside : xMV yX11_firstBeside cX11_firstBeside 5 (some (.object "WindWords$Reading")) 1 := ⟨m_1135, m_1134, m_31, m_95, ⟨by decide +kernel, by decide +kernel, by decide +kernel⟩⟩
theorem k_X11_unlikeness : xMV yX11_unlikeness cX11_unlikeness 7 (some .int) 1 := ⟨m_1163, m_1162, m_34, m_95, ⟨by decide +kernel, by decide +kernel, by decide +kernel⟩⟩
theorem k_X8_follow : xMV yX8_follow cX8_follow 4 none 1 := ⟨m_1175, m_1173, m_1174, m_100, ⟨by decide +kernel, by decide +kernel, by decide +kernel⟩⟩
theorem k_X8_cellsOn : xMV yX8_cellsOn cX8_cellsOn 2 (some .long) 1 := ⟨m_1195, m_1193, m_1194, m_100, ⟨by decide +kernel, by decide +kernel, by decide +kernel⟩⟩
theorem k_J13_bitCount_95d88 : xMS yJ13_bitCount_95d88 cJ13_bitCount_95d88 2 (some .int) 1 := ⟨m_1207, m_1206, m_114, ⟨by decide +kernel, by decide +kernel, by decide +kernel⟩⟩
theorem k_X11_statementsOfHabits : xMV yX11_statementsOfHabits cX11_statementsOfHabits 4 (some .int) 0 := ⟨m_1254, m_1253, m_37, m_95, ⟨by decide +kernel, by decide +kernel, by decide +kernel⟩⟩
abbrev r_c_X11_trust : Room := { frames := 2, cells := 0, slots := 0, locals := 42 }
set_option maxHeartbeats 4000000 in
set_option maxRecDepth 100000 in
theorem c_X11_trust (l : Launch) (D : va_G) (Zk : yK) (ca : Nat → ClassId) (T : Nat → Int → Int) (G : Nat → Int → Nat) (u : Int) (ad : Nat → Nat) (w : yW) (hC : CW ca T G u ad w) (o : Int) (b : Int)  (ho : xr o) (hb : xr b) : yC l D Zk ca yX11_trust cX11_trust 3 (some .boolean) r_c_X11_trust [.ref (ad 0), .int (iI o), .int (iI b)] w (vI w (fun z => (z = 1 ∧ (0 ≤ o ∧ o < T 0 0)) ∨ (z = 0 ∧ (¬ (0 ≤ o ∧ o < T 0 0))))) := by
  refine yC.of2 "WindWords" (by decide) rfl (Nat.le_of_ble_eq_true rfl) ?_
  intro p e s m args below meth c A ls Qf B hnm h hl hQ
  have hl : lv_has ls 3 [(0, .ref (ad 0)), (1, .int (iI o)), (2, .int (iI b))] := hl
  have hs := pi_s (CW.pi hC)
  refine lv_aload_n B.1 B.2.1 dX11_trust_0 rfl (lv_at hl 0 rfl) ?_
  refine y_getR B h kX11 0 (CW.f hC 0 _ rfl) 0 (b := ad 1) rfl m_361 (by decide) dX11_trust_1 ?_
  refine lv_iload_n B.1 B.2.1 dX11_trust_4 rfl (lv_at hl 1 rfl) ?_
  refine y_cV B h kX0 1 (CW.f hC 1 _ rfl) k_X0_hasOfficer rfl (c_X0_hasOfficer l D Zk ca T G u ad _ hC o  (by omega)) m_434 rfl (by decide) hl.1 [] (Nat.le_of_ble_eq_true rfl) rfl dX11_trust_5 (fun r w1 hq H locs h => ?_)
  obtain ⟨rfl, _, rfl, ⟨rfl, b1⟩ | ⟨rfl, b1⟩⟩ := hq
  · show W p l e r_c_X11_trust s m args below meth c _ _ 0 0 Qf (F0 m 8 ls [.int (iI 1)])
    refine x_if_ne B (by omega) (tgt := 20) dX11_trust_8 (by decide) (fun c2 => ?_) (fun c2 => ?_)
    · refine lv_aload_n B.1 B.2.1 dX11_trust_20 rfl (lv_at hl 0 rfl) ?_
      refine y_getR B h kX11 0 (CW.f hC 0 _ rfl) 0 (b := ad 1) rfl m_361 (by decide) dX11_trust_21 ?_
      refine lv_iload_n B.1 B.2.1 dX11_trust_24 rfl (lv_at hl 1 rfl) ?_
      refine lv_iload_n B.1 B.2.1 dX11_trust_25 rfl (lv_at hl 2 rfl) ?_
      refine y_cV B h kX0 1 (CW.f hC 1 _ rfl) k_X0_setTrusted rfl (c_X0_setTrusted l D Zk ca T G u ad _ hC o b  (by omega) (by omega)) m_490 rfl (by decide) hl.1 [] (Nat.le_of_ble_eq_true rfl) rfl dX11_trust_26 (fun r w1 hq H locs h => ?_)
      obtain ⟨rfl, rfl⟩ := hq
      show W p l e r_c_X11_trust s m args below meth c _ _ 0 0 Qf (F0 m 29 ls [])
      refine x_iconst B dX11_trust_29 ?_
      refine y_rz B hQ h (by decide) (by decide) dX11_trust_30 ?_
      exact ⟨rfl, _, rfl, Or.inl ⟨rfl, (by first | omega | trivial | assumption)⟩⟩
    · exact absurd c2 (by omega)
  · show W p l e r_c_X11_trust s m args below meth c _ _ 0 0 Qf (F0 m 8 ls [.int (iI 0)])
    refine x_if_ne B (by omega) (tgt := 20) dX11_trust_8 (by decide) (fun c3 => ?_) (fun c3 => ?_)
    · exact absurd c3 (by omega)
    · refine lv_aload_n B.1 B.2.1 dX11_trust_11 rfl (lv_at hl 0 rfl) ?_
      refine x_iconst B dX11_trust_12 ?_
      refine x_iconst B dX11_trust_13 ?_
      refine y_cV B h kX11 0 (CW.f hC 0 _ rfl) k_X11_refuse rfl (c_X11_refuse l D Zk ca T G u ad _ hC 0 ((-1))  (by omega) (by omega)) m_423 rfl (by decide) hl.1 [] (Nat.le_of_ble_eq_true rfl) rfl dX11_trust_14 (fun r w1 hq H locs h => ?_)
      obtain ⟨rfl, z4, rfl, hz4⟩ := hq
      show W p l e r_c_X11_trust s m args below meth c _ _ 0 0 Qf (F0 m 17 ls [.int (iI z4)])
      refine lv_pop B.1 B.2.1 dX11_trust_17 rfl ?_
      refine x_iconst B dX11_trust_18 ?_
      refine y_rz B hQ h (by decide) (by decide) dX11_trust_19 ?_
      exact ⟨rfl, _, rfl, Or.inr ⟨rfl, (by first | omega | trivial | assumption)⟩⟩
abbrev r_c_X11_feed : Room := { frames := 1, cells := 0, slots := 0, locals := 22 }
set_option maxHeartbeats 4000000 in
set_option maxRecDepth 100000 in
theorem c_X11_feed (l : Launch) (D : va_G) (Zk : yK) (ca : Nat → ClassId) (T : Nat → Int → Int) (G : Nat → Int → Nat) (u : Int) (ad : Nat → Nat) (w : yW) (hC : CW ca T G u ad w) (x1 : Int32) (x2 : Int32) (x3 : Int32) (x4 : Int32) (x5 : Int32)   : yC l D Zk ca yX11_feed cX11_feed 6 (some .int) r_c_X11_feed [.ref (ad 0), .int (x1), .int (x2), .int (x3), .int (x4), .int (x5)] w (vI w (fun z => xr z)) := by
  refine yC.of2 "WindWords" (by decide) rfl (Nat.le_of_ble_eq_true rfl) ?_
  intro p e s m args below meth c A ls Qf B hnm h hl hQ
  have hl : lv_has ls 6 [(0, .ref (ad 0)), (1, .int (x1)), (2, .int (x2)), (3, .int (x3)), (4, .int (x4)), (5, .int (x5))] := hl
  have hs := pi_s (CW.pi hC)
  refine lv_aload_n B.1 B.2.1 dX11_feed_0 rfl (lv_at hl 0 rfl) ?_
  refine y_getR B h kX11 0 (CW.f hC 0 _ rfl) 5 (b := ad 20) rfl m_366 (by decide) dX11_feed_1 ?_
  refine y_getG B h kX9 20 (CW.f hC 20 _ rfl) 0 (lo := 0) (hi := 900) rfl m_289 (by decide) dX11_feed_4 (fun z1 z1a z1b => ?_)
  refine x_bipush B (by decide) dX11_feed_7 ?_
  refine x_iadd B dX11_feed_9 ?_
  refine x_sipush B (by decide) dX11_feed_10 ?_
  refine x_icmp_le B (by omega) (tgt := 18) dX11_feed_13 (by decide) (fun c2 => ?_) (fun c2 => ?_)
  · refine lv_aload_n B.1 B.2.1 dX11_feed_18 rfl (lv_at hl 0 rfl) ?_
    refine y_getR B h kX11 0 (CW.f hC 0 _ rfl) 5 (b := ad 20) rfl m_366 (by decide) dX11_feed_19 ?_
    refine lv_iload_n B.1 B.2.1 dX11_feed_22 rfl (lv_at hl 1 rfl) ?_
    refine y_cV B h kX9 20 (CW.f hC 20 _ rfl) k_X9_put rfl (c_X9_put l D Zk ca T G u ad _ hC x1  ) m_569 rfl (by decide) hl.1 [] (Nat.le_of_ble_eq_true rfl) rfl dX11_feed_23 (fun r w1 hq H locs h => ?_)
    obtain ⟨rfl, rfl⟩ := hq
    show W p l e r_c_X11_feed s m args below meth c _ _ 0 0 Qf (F0 m 26 ls [])
    refine lv_aload_n B.1 B.2.1 dX11_feed_26 rfl (lv_at hl 0 rfl) ?_
    refine y_getR B h kX11 0 (CW.f hC 0 _ rfl) 5 (b := ad 20) rfl m_366 (by decide) dX11_feed_27 ?_
    refine lv_iload_n B.1 B.2.1 dX11_feed_30 rfl (lv_at hl 2 rfl) ?_
    refine y_cV B h kX9 20 (CW.f hC 20 _ rfl) k_X9_put rfl (c_X9_put l D Zk ca T G u ad _ hC x2  ) m_569 rfl (by decide) hl.1 [] (Nat.le_of_ble_eq_true rfl) rfl dX11_feed_31 (fun r w1 hq H locs h => ?_)
    obtain ⟨rfl, rfl⟩ := hq
    show W p l e r_c_X11_feed s m args below meth c _ _ 0 0 Qf (F0 m 34 ls [])
    refine lv_aload_n B.1 B.2.1 dX11_feed_34 rfl (lv_at hl 0 rfl) ?_
    refine y_getR B h kX11 0 (CW.f hC 0 _ rfl) 5 (b := ad 20) rfl m_366 (by decide) dX11_feed_35 ?_
    refine lv_iload_n B.1 B.2.1 dX11_feed_38 rfl (lv_at hl 3 rfl) ?_
    refine y_cV B h kX9 20 (CW.f hC 20 _ rfl) k_X9_put rfl (c_X9_put l D Zk ca T G u ad _ hC x3  ) m_569 rfl (by decide) hl.1 [] (Nat.le_of_ble_eq_true rfl) rfl dX11_feed_39 (fun r w1 hq H locs h => ?_)
    obtain ⟨rfl, rfl⟩ := hq
    show W p l e r_c_X11_feed s m args below meth c _ _ 0 0 Qf (F0 m 42 ls [])
    refine lv_aload_n B.1 B.2.1 dX11_feed_42 rfl (lv_at hl 0 rfl) ?_
    refine y_getR B h kX11 0 (CW.f hC 0 _ rfl) 5 (b := ad 20) rfl m_366 (by decide) dX11_feed_43 ?_
    refine lv_iload B.1 B.2.1 dX11_feed_46 (lv_at hl 4 rfl) ?_
    refine y_cV B h kX9 20 (CW.f hC 20 _ rfl) k_X9_put rfl (c_X9_put l D Zk ca T G u ad _ hC x4  ) m_569 rfl (by decide) hl.1 [] (Nat.le_of_ble_eq_true rfl) rfl dX11_feed_48 (fun r w1 hq H locs h => ?_)
    obtain ⟨rfl, rfl⟩ := hq
    show W p l e r_c_X11_feed s m args below meth c _ _ 0 0 Qf (F0 m 51 ls [])
    refine lv_aload_n B.1 B.2.1 dX11_feed_51 rfl (lv_at hl 0 rfl) ?_
    refine y_getR B h kX11 0 (CW.f hC 0 _ rfl) 5 (b := ad 20) rfl m_366 (by decide) dX11_feed_52 ?_
    refine lv_iload B.1 B.2.1 dX11_feed_55 (lv_at hl 5 rfl) ?_
    refine y_cV B h kX9 20 (CW.f hC 20 _ rfl) k_X9_put rfl (c_X9_put l D Zk ca T G u ad _ hC x5  ) m_569 rfl (by decide) hl.1 [] (Nat.le_of_ble_eq_true rfl) rfl dX11_feed_57 (fun r w1 hq H locs h => ?_)
    obtain ⟨rfl, rfl⟩ := hq
    show W p l e r_c_X11_feed s m args below meth c _ _ 0 0 Qf (F0 m 60 ls [])
    refine lv_aload_n B.1 B.2.1 dX11_feed_60 rfl (lv_at hl 0 rfl) ?_
    refine y_getR B h kX11 0 (CW.f hC 0 _ rfl) 5 (b := ad 20) rfl m_366 (by decide) dX11_feed_61 ?_
    refine y_getG B h kX9 20 (CW.f hC 20 _ rfl) 0 (lo := 0) (hi := 900) rfl m_289 (by decide) dX11_feed_64 (fun z3 z3a z3b => ?_)
    refine y_ri B hQ h (by decide) dX11_feed_67 ?_
    exact ⟨rfl, _, rfl, (by first | omega | trivial | assumption)⟩
  · refine x_iconst B dX11_feed_16 ?_
    refine y_ri B hQ h (by decide) dX11_feed_17 ?_
    exact ⟨rfl, _, rfl, (by first | omega | trivial | assumption)⟩
abbrev r_c_X11_fault : Room := { frames := 0, cells := 0, slots := 0, locals := 0 }
set_option maxHeartbeats 4000000 in
set_option maxRecDepth 100000 in
theorem c_X11_fault (l : Launch) (D : va_G) (Zk : yK) (ca : Nat → ClassId) (T : Nat → Int → Int) (G : Nat → Int → Nat) (u : Int) (ad : Nat → Nat) (w : yW) (hC : CW ca T G u ad w)    : yC l D Zk ca yX11_fault cX11_fault 1 (some .int) r_c_X11_fault [.ref (ad 0)] w (vI w (fun z => xr z)) := by
  refine yC.of2 "WindWords" (by decide) rfl (Nat.le_of_ble_eq_true rfl) ?_
  intro p e s m args below meth c A ls Qf B hnm h hl hQ
  have hl : lv_has ls 1 [(0, .ref (ad 0))] := hl
  have hs := pi_s (CW.pi hC)
  refine lv_aload_n B.1 B.2.1 dX11_fault_0 rfl (lv_at hl 0 rfl) ?_
  refine y_getG B h kX11 0 (CW.f hC 0 _ rfl) 18 (lo := (-2147483648)) (hi := 2147483647) rfl m_379 (by decide) dX11_fault_1 (fun z1 z1a z1b => ?_)
  refine y_ri B hQ h (by decide) dX11_fault_4 ?_
  exact ⟨rfl, _, rfl, (by first | omega | trivial | assumption)⟩
abbrev r_c_X11_reading : Room := { frames := 6, cells := 0, slots := 0, locals := 129 }
set_option maxHeartbeats 4000000 in
set_option maxRecDepth 100000 in
theorem c_X11_reading (l : Launch) (D : va_G) (Zk : yK) (ca : Nat → ClassId) (T : Nat → Int → Int) (G : Nat → Int → Nat) (u : Int) (ad : Nat → Nat) (w : yW) (hC : CW ca T G u ad w) (k : Int) (what : Int)  (hk : xr k) (hwhat : xr what) : yC l D Zk ca yX11_reading cX11_reading 4 (some .int) r_c_X11_reading [.ref (ad 0), .int (iI k), .int (iI what)] w (vI w (fun z => xr z)) := by
  refine yC.of2 "WindWords" (by decide) rfl (Nat.le_of_ble_eq_true rfl) ?_
  intro p e s m args below meth c A ls Qf B hnm h hl hQ
  have hl : lv_has ls 4 [(0, .ref (ad 0)), (1, .int (iI k)), (2, .int (iI what))] := hl
  have hs := pi_s (CW.pi hC)
  refine lv_aload_n B.1 B.2.1 dX11_reading_0 rfl (lv_at hl 0 rfl) ?_
  refine y_getR B h kX11 0 (CW.f hC 0 _ rfl) 0 (b := ad 1) rfl m_361 (by decide) dX11_reading_1 ?_
  refine lv_iload_n B.1 B.2.1 dX11_reading_4 rfl (lv_at hl 1 rfl) ?_
  refine y_cV B h kX0 1 (CW.f hC 1 _ rfl) k_X0_readingAt rfl (c_X0_readingAt l D Zk ca T G u ad _ hC k  (by omega)) m_830 rfl (by decide) hl.1 [] (Nat.le_of_ble_eq_true rfl) rfl dX11_reading_5 (fun r w1 hq H locs h => ?_)
  obtain ⟨rfl, _, rfl, ⟨rfl, q1⟩ | ⟨rfl, q1⟩⟩ := hq
  · show W p l e r_c_X11_reading s m args below meth c _ _ 0 0 Qf (F0 m 8 ls [.null])
    refine lv_astore_nN (lv' := [(3, .null), (0, .ref (ad 0)), (1, .int (iI k)), (2, .int (iI what))]) B.1 B.2.1 dX11_reading_8 rfl hl (by decide) rfl (fun ls hl => ?_)
    refine lv_aload_nN B.1 B.2.1 dX11_reading_9 rfl (lv_at hl 0 rfl) ?_
    refine lv_ifnonnullN B.1 B.2.1 dX11_reading_10 ?_
    refine x_iconst B dX11_reading_13 ?_
    refine y_ri B hQ h (by decide) dX11_reading_14 ?_
    exact ⟨rfl, _, rfl, (by first | omega | trivial | assumption)⟩
  · have fo2 := CW.rd hC k (by omega)
    show W p l e r_c_X11_reading s m args below meth c _ _ 0 0 Qf (F0 m 8 ls [.ref (G 4 k)])
    refine lv_astore_n (lv' := [(3, .ref (G 4 k)), (0, .ref (ad 0)), (1, .int (iI k)), (2, .int (iI what))]) B.1 B.2.1 dX11_reading_8 rfl hl (by decide) rfl (fun ls hl => ?_)
    refine lv_aload_n B.1 B.2.1 dX11_reading_9 rfl (lv_at hl 0 rfl) ?_
    refine lv_ifnonnull (tgt := 15) B.1 B.2.1 dX11_reading_10 (by decide) ?_
    refine lv_iload_n B.1 B.2.1 dX11_reading_15 rfl (lv_at hl 3 rfl) ?_
    by_cases t3 : what = 0
    · refine x_tin B (tgt := 68) 0 (by omega) dX11_reading_16 rfl (by decide) ?_
      refine lv_aload_n B.1 B.2.1 dX11_reading_68 rfl (lv_at hl 0 rfl) ?_
      refine y_getR B h kX4 (1000 + 16 * k.toNat + 4) fo2 0 (b := G 1 (T 4 k)) rfl m_515 (by decide) dX11_reading_69 ?_
      have tb4 := pi_4 (CW.pi hC) k
      have pn5 := pi_in (CW.pi hC) k (by omega)
      have fo6 := CW.sh hC (T 4 k) (by omega)
      refine y_getX B h kX7 (1000 + 16 * ((T 4 k)).toNat + 1) fo6.1 0 (z := (T 4 k)) rfl m_458 (by decide) dX11_reading_72 ?_
      refine y_ri B hQ h (by decide) dX11_reading_75 ?_
      exact ⟨rfl, _, rfl, (by first | omega | trivial | assumption)⟩
    by_cases t7 : what = 1
    · refine x_tin B (tgt := 76) 1 (by omega) dX11_reading_16 rfl (by decide) ?_
      refine lv_aload_n B.1 B.2.1 dX11_reading_76 rfl (lv_at hl 0 rfl) ?_
      refine y_getX B h kX4 (1000 + 16 * k.toNat + 4) fo2 1 (z := (T 5 k)) rfl m_519 (by decide) dX11_reading_77 ?_
      have tb8 := pi_5 (CW.pi hC) k
      refine y_ri B hQ h (by decide) dX11_reading_80 ?_
      exact ⟨rfl, _, rfl, (by first | omega | trivial | assumption)⟩
    by_cases t9 : what = 2
    · refine x_tin B (tgt := 81) 2 (by omega) dX11_reading_16 rfl (by decide) ?_
      refine lv_aload_n B.1 B.2.1 dX11_reading_81 rfl (lv_at hl 0 rfl) ?_
      refine y_getX B h kX4 (1000 + 16 * k.toNat + 4) fo2 2 (z := (T 6 k)) rfl m_523 (by decide) dX11_reading_82 ?_
      have tb10 := pi_6 (CW.pi hC) k
      refine y_ri B hQ h (by decide) dX11_reading_85 ?_
      exact ⟨rfl, _, rfl, (by first | omega | trivial | assumption)⟩
    by_cases t11 : what = 3
    · refine x_tin B (tgt := 86) 3 (by omega) dX11_reading_16 rfl (by decide) ?_
      refine lv_aload_n B.1 B.2.1 dX11_reading_86 rfl (lv_at hl 0 rfl) ?_
      refine y_getX B h kX4 (1000 + 16 * k.toNat + 4) fo2 3 (z := (T 7 k)) rfl m_527 (by decide) dX11_reading_87 ?_
      have tb12 := pi_7 (CW.pi hC) k
      refine y_ri B hQ h (by decide) dX11_reading_90 ?_
      exact ⟨rfl, _, rfl, (by first | omega | trivial | assumption)⟩
    by_cases t13 : what = 4
    · refine x_tin B (tgt := 91) 4 (by omega) dX11_reading_16 rfl (by decide) ?_
      refine lv_aload_n B.1 B.2.1 dX11_reading_91 rfl (lv_at hl 0 rfl) ?_
      refine y_getX B h kX4 (1000 + 16 * k.toNat + 4) fo2 4 (z := (T 8 k)) rfl m_532 (by decide) dX11_reading_92 ?_
      have tb14 := pi_8 (CW.pi hC) k
      have tb15 := pi_n (CW.pi hC) k
      refine y_ri B hQ h (by decide) dX11_reading_95 ?_
      exact ⟨rfl, _, rfl, (by first | omega | trivial | assumption)⟩
    by_cases t16 : what = 5
    · refine x_tin B (tgt := 96) 5 (by omega) dX11_reading_16 rfl (by decide) ?_
      refine lv_aload_n B.1 B.2.1 dX11_reading_96 rfl (lv_at hl 0 rfl) ?_
      refine y_getX B h kX4 (1000 + 16 * k.toNat + 4) fo2 5 (z := (T 9 k)) rfl m_534 (by decide) dX11_reading_97 ?_
      have tb17 := pi_9 (CW.pi hC) k
      refine y_ri B hQ h (by decide) dX11_reading_100 ?_
      exact ⟨rfl, _, rfl, (by first | omega | trivial | assumption)⟩
    by_cases t18 : what = 6
    · refine x_tin B (tgt := 101) 6 (by omega) dX11_reading_16 rfl (by decide) ?_
      refine lv_aload_n B.1 B.2.1 dX11_reading_101 rfl (lv_at hl 0 rfl) ?_
      refine y_getX B h kX4 (1000 + 16 * k.toNat + 4) fo2 6 (z := (T 10 k)) rfl m_536 (by decide) dX11_reading_102 ?_
      have tb19 := pi_10 (CW.pi hC) k
      refine y_ri B hQ h (by decide) dX11_reading_105 ?_
      exact ⟨rfl, _, rfl, (by first | omega | trivial | assumption)⟩
    by_cases t20 : what = 7
    · refine x_tin B (tgt := 106) 7 (by omega) dX11_reading_16 rfl (by decide) ?_
      refine lv_aload_n B.1 B.2.1 dX11_reading_106 rfl (lv_at hl 0 rfl) ?_
      refine y_cV B h kX4 (1000 + 16 * k.toNat + 4) fo2 k_X4_writer rfl (c_X4_writer l D Zk ca T G u ad _ hC k  (by omega)) m_834 rfl (by decide) hl.1 [] (Nat.le_of_ble_eq_true rfl) rfl dX11_reading_107 (fun r w1 hq H locs h => ?_)
      obtain ⟨rfl, _, rfl, rfl⟩ := hq
      have tb21 := pi_3 (CW.pi hC) (1000 * T 4 k + T 5 k)
      show W p l e r_c_X11_reading s m args below meth c _ _ 0 0 Qf (F0 m 110 ls [.int (iI (T 3 (1000 * T 4 k + T 5 k)))])
      refine y_ri B hQ h (by decide) dX11_reading_110 ?_
      exact ⟨rfl, _, rfl, (by first | omega | trivial | assumption)⟩
    by_cases t22 : what = 8
    · refine x_tin B (tgt := 111) 8 (by omega) dX11_reading_16 rfl (by decide) ?_
      refine lv_aload_n B.1 B.2.1 dX11_reading_111 rfl (lv_at hl 1 rfl) ?_
      refine lv_aload_n B.1 B.2.1 dX11_reading_112 rfl (lv_at hl 0 rfl) ?_
      refine y_cV B h kX11 0 (CW.f hC 0 _ rfl) k_X11_isCopied rfl (c_X11_isCopied l D Zk ca T G u ad _ hC k  (by omega)) m_842 rfl (by decide) hl.1 [] (Nat.le_of_ble_eq_true rfl) rfl dX11_reading_113 (fun r w1 hq H locs h => ?_)
      obtain ⟨rfl, _, rfl, ⟨rfl, b23⟩ | ⟨rfl, b23⟩⟩ := hq
      · show W p l e r_c_X11_reading s m args below meth c _ _ 0 0 Qf (F0 m 116 ls [.int (iI 1)])
        refine x_if_eq B (by omega) (tgt := 123) dX11_reading_116 (by decide) (fun c24 => ?_) (fun c24 => ?_)
        · exact absurd c24 (by omega)
        · refine x_iconst B dX11_reading_119 ?_
          refine lv_goto (tgt := 124) B.1 B.2.1 dX11_reading_120 (by decide) ?_
          refine y_ri B hQ h (by decide) dX11_reading_124 ?_
          exact ⟨rfl, _, rfl, (by first | omega | trivial | assumption)⟩
      · show W p l e r_c_X11_reading s m args below meth c _ _ 0 0 Qf (F0 m 116 ls [.int (iI 0)])
        refine x_if_eq B (by omega) (tgt := 123) dX11_reading_116 (by decide) (fun c25 => ?_) (fun c25 => ?_)
        · refine x_iconst B dX11_reading_123 ?_
          refine y_ri B hQ h (by decide) dX11_reading_124 ?_
          exact ⟨rfl, _, rfl, (by first | omega | trivial | assumption)⟩
        · exact absurd c25 (by omega)
    refine x_tout B (tgt := 125) (by omega) dX11_reading_16 (by decide) ?_
    refine x_iconst B dX11_reading_125 ?_
    refine y_ri B hQ h (by decide) dX11_reading_126 ?_
    exact ⟨rfl, _, rfl, (by first | omega | trivial | assumption)⟩
abbrev r_c_X11_reads : Room := { frames := 4, cells := 0, slots := 0, locals := 101 }
set_option maxHeartbeats 4000000 in
set_option maxRecDepth 100000 in
theorem c_X11_reads (l : Launch) (D : va_G) (Zk : yK) (ca : Nat → ClassId) (T : Nat → Int → Int) (G : Nat → Int → Nat) (u : Int) (ad : Nat → Nat) (w : yW) (hC : CW ca T G u ad w) (year : Int) (kind : Int) (wind : Int) (mix : Int)  (hyear : xr year) (hkind : xr kind) (hwind : xr wind) (hmix : xr mix) : yC l D Zk ca yX11_reads cX11_reads 5 (some .int) r_c_X11_reads [.ref (ad 0), .int (iI year), .int (iI kind), .int (iI wind), .int (iI mix)] w (vI w (fun z => xr z)) := by
  refine yC.of2 "WindWords" (by decide) rfl (Nat.le_of_ble_eq_true rfl) ?_
  intro p e s m args below meth c A ls Qf B hnm h hl hQ
  have hl : lv_has ls 5 [(0, .ref (ad 0)), (1, .int (iI year)), (2, .int (iI kind)), (3, .int (iI wind)), (4, .int (iI mix))] := hl
  have hs := pi_s (CW.pi hC)
  refine lv_iload_n B.1 B.2.1 dX11_reads_0 rfl (lv_at hl 1 rfl) ?_
  refine x_bipush B (by decide) dX11_reads_1 ?_
  refine y_cS B h k_X11_within (c_X11_within l D Zk ca _ year 9  (by omega) (by omega)) m_431 rfl (by decide) hl.1 [] (Nat.le_of_ble_eq_true rfl) rfl dX11_reads_3 (fun r w1 hq H locs h => ?_)
  obtain ⟨rfl, _, rfl, ⟨rfl, b1⟩ | ⟨rfl, b1⟩⟩ := hq
  · show W p l e r_c_X11_reads s m args below meth c _ _ 0 0 Qf (F0 m 6 ls [.int (iI 1)])
    refine x_if_eq B (by omega) (tgt := 36) dX11_reads_6 (by decide) (fun c2 => ?_) (fun c2 => ?_)
    · exact absurd c2 (by omega)
    · refine lv_iload_n B.1 B.2.1 dX11_reads_9 rfl (lv_at hl 2 rfl) ?_
      refine x_iconst B dX11_reads_10 ?_
      refine y_cS B h k_X11_within (c_X11_within l D Zk ca _ kind 2  (by omega) (by omega)) m_431 rfl (by decide) hl.1 [] (Nat.le_of_ble_eq_true rfl) rfl dX11_reads_11 (fun r w1 hq H locs h => ?_)
      obtain ⟨rfl, _, rfl, ⟨rfl, b3⟩ | ⟨rfl, b3⟩⟩ := hq
      · show W p l e r_c_X11_reads s m args below meth c _ _ 0 0 Qf (F0 m 14 ls [.int (iI 1)])
        refine x_if_eq B (by omega) (tgt := 36) dX11_reads_14 (by decide) (fun c4 => ?_) (fun c4 => ?_)
        · exact absurd c4 (by omega)
        · refine lv_iload_n B.1 B.2.1 dX11_reads_17 rfl (lv_at hl 3 rfl) ?_
          refine x_bipush B (by decide) dX11_reads_18 ?_
          refine y_cS B h k_X11_within (c_X11_within l D Zk ca _ wind 99  (by omega) (by omega)) m_431 rfl (by decide) hl.1 [] (Nat.le_of_ble_eq_true rfl) rfl dX11_reads_20 (fun r w1 hq H locs h => ?_)
          obtain ⟨rfl, _, rfl, ⟨rfl, b5⟩ | ⟨rfl, b5⟩⟩ := hq
          · show W p l e r_c_X11_reads s m args below meth c _ _ 0 0 Qf (F0 m 23 ls [.int (iI 1)])
            refine x_if_eq B (by omega) (tgt := 36) dX11_reads_23 (by decide) (fun c6 => ?_) (fun c6 => ?_)
            · exact absurd c6 (by omega)
            · refine lv_iload B.1 B.2.1 dX11_reads_26 (lv_at hl 4 rfl) ?_
              refine x_bipush B (by decide) dX11_reads_28 ?_
              refine y_cS B h k_X11_within (c_X11_within l D Zk ca _ mix 39  (by omega) (by omega)) m_431 rfl (by decide) hl.1 [] (Nat.le_of_ble_eq_true rfl) rfl dX11_reads_30 (fun r w1 hq H locs h => ?_)
              obtain ⟨rfl, _, rfl, ⟨rfl, b7⟩ | ⟨rfl, b7⟩⟩ := hq
              · show W p l e r_c_X11_reads s m args below meth c _ _ 0 0 Qf (F0 m 33 ls [.int (iI 1)])
                refine x_if_ne B (by omega) (tgt := 38) dX11_reads_33 (by decide) (fun c8 => ?_) (fun c8 => ?_)
                · refine lv_aload_n B.1 B.2.1 dX11_reads_38 rfl (lv_at hl 0 rfl) ?_
                  refine y_getR B h kX11 0 (CW.f hC 0 _ rfl) 1 (b := ad 4) rfl m_362 (by decide) dX11_reads_39 ?_
                  refine lv_aload_n B.1 B.2.1 dX11_reads_42 rfl (lv_at hl 0 rfl) ?_
                  refine y_getR B h kX11 0 (CW.f hC 0 _ rfl) 1 (b := ad 4) rfl m_362 (by decide) dX11_reads_43 ?_
                  refine lv_iload_n B.1 B.2.1 dX11_reads_46 rfl (lv_at hl 1 rfl) ?_
                  refine y_cV B h kX6 4 (CW.f hC 4 _ rfl) k_X6_ofYear rfl (c_X6_ofYear l D Zk ca T G u ad _ hC year  (by omega)) m_878 rfl (by decide) hl.1 [.ref (ad 4)] (Nat.le_of_ble_eq_true rfl) rfl dX11_reads_47 (fun r w1 hq H locs h => ?_)
                  obtain ⟨rfl, z9, rfl, hz9⟩ := hq
                  show W p l e r_c_X11_reads s m args below meth c _ _ 0 0 Qf (F0 m 50 ls [.int (iI z9), .ref (ad 4)])
                  refine lv_iload_n B.1 B.2.1 dX11_reads_50 rfl (lv_at hl 2 rfl) ?_
                  refine lv_iload_n B.1 B.2.1 dX11_reads_51 rfl (lv_at hl 3 rfl) ?_
                  refine lv_iload B.1 B.2.1 dX11_reads_52 (lv_at hl 4 rfl) ?_
                  refine lv_iload_n B.1 B.2.1 dX11_reads_54 rfl (lv_at hl 1 rfl) ?_
                  refine y_cV B h kX6 4 (CW.f hC 4 _ rfl) k_X6_numberFor rfl (c_X6_numberFor l D Zk ca T G u ad _ hC z9 kind wind mix year  (by omega) (by omega) (by omega) (by omega) (by omega)) m_882 rfl (by decide) hl.1 [] (Nat.le_of_ble_eq_true rfl) rfl dX11_reads_55 (fun r w1 hq H locs h => ?_)
                  obtain ⟨rfl, z10, rfl, hz10⟩ := hq
                  show W p l e r_c_X11_reads s m args below meth c _ _ 0 0 Qf (F0 m 58 ls [.int (iI z10)])
                  refine y_ri B hQ h (by decide) dX11_reads_58 ?_
                  exact ⟨rfl, _, rfl, (by first | omega | trivial | assumption)⟩
                · exact absurd c8 (by omega)
              · show W p l e r_c_X11_reads s m args below meth c _ _ 0 0 Qf (F0 m 33 ls [.int (iI 0)])
                refine x_if_ne B (by omega) (tgt := 38) dX11_reads_33 (by decide) (fun c11 => ?_) (fun c11 => ?_)
                · exact absurd c11 (by omega)
                · refine x_iconst B dX11_reads_36 ?_
                  refine y_ri B hQ h (by decide) dX11_reads_37 ?_
                  exact ⟨rfl, _, rfl, (by first | omega | trivial | assumption)⟩
          · show W p l e r_c_X11_reads s m args below meth c _ _ 0 0 Qf (F0 m 23 ls [.int (iI 0)])
            refine x_if_eq B (by omega) (tgt := 36) dX11_reads_23 (by decide) (fun c12 => ?_) (fun c12 => ?_)
            · refine x_iconst B dX11_reads_36 ?_
              refine y_ri B hQ h (by decide) dX11_reads_37 ?_
              exact ⟨rfl, _, rfl, (by first | omega | trivial | assumption)⟩
            · exact absurd c12 (by omega)
      · show W p l e r_c_X11_reads s m args below meth c _ _ 0 0 Qf (F0 m 14 ls [.int (iI 0)])
        refine x_if_eq B (by omega) (tgt := 36) dX11_reads_14 (by decide) (fun c13 => ?_) (fun c13 => ?_)
        · refine x_iconst B dX11_reads_36 ?_
          refine y_ri B hQ h (by decide) dX11_reads_37 ?_
          exact ⟨rfl, _, rfl, (by first | omega | trivial | assumption)⟩
        · exact absurd c13 (by omega)
  · show W p l e r_c_X11_reads s m args below meth c _ _ 0 0 Qf (F0 m 6 ls [.int (iI 0)])
    refine x_if_eq B (by omega) (tgt := 36) dX11_reads_6 (by decide) (fun c14 => ?_) (fun c14 => ?_)
    · refine x_iconst B dX11_reads_36 ?_
      refine y_ri B hQ h (by decide) dX11_reads_37 ?_
      exact ⟨rfl, _, rfl, (by first | omega | trivial | assumption)⟩
    · exact absurd c14 (by omega)
abbrev r_c_X11_blow : Room := { frames := 4, cells := 0, slots := 0, locals := 101 }
set_option maxHeartbeats 4000000 in
set_option maxRecDepth 100000 in
theorem c_X11_blow (l : Launch) (D : va_G) (Zk : yK) (ca : Nat → ClassId) (T : Nat → Int → Int) (G : Nat → Int → Nat) (u : Int) (ad : Nat → Nat) (w : yW) (hC : CW ca T G u ad w) (ship : Int) (watch : Int) (kind : Int) (wind : Int) (depth : Int)  (hship : xr ship) (hwatch : xr watch) (hkind : xr kind) (hwind : xr wind) (hdepth : xr depth) : yC l D Zk ca yX11_blow cX11_blow 9 (some .int) r_c_X11_blow [.ref (ad 0), .int (iI ship), .int (iI watch), .int (iI kind), .int (iI wind), .int (iI depth)] w (vI w (fun z => xr z)) := by
  refine yC.of2 "WindWords" (by decide) rfl (Nat.le_of_ble_eq_true rfl) ?_
  intro p e s m args below meth c A ls Qf B hnm h hl hQ
  have hl : lv_has ls 9 [(0, .ref (ad 0)), (1, .int (iI ship)), (2, .int (iI watch)), (3, .int (iI kind)), (4, .int (iI wind)), (5, .int (iI depth))] := hl
  have hs := pi_s (CW.pi hC)
  refine lv_aload_n B.1 B.2.1 dX11_blow_0 rfl (lv_at hl 0 rfl) ?_
  refine y_getR B h kX11 0 (CW.f hC 0 _ rfl) 0 (b := ad 1) rfl m_361 (by decide) dX11_blow_1 ?_
  refine lv_iload_n B.1 B.2.1 dX11_blow_4 rfl (lv_at hl 1 rfl) ?_
  refine y_cV B h kX0 1 (CW.f hC 1 _ rfl) k_X0_shipAt rfl (c_X0_shipAt l D Zk ca T G u ad _ hC ship  (by omega)) m_481 rfl (by decide) hl.1 [] (Nat.le_of_ble_eq_true rfl) rfl dX11_blow_5 (fun r w1 hq H locs h => ?_)
  obtain ⟨rfl, _, rfl, ⟨rfl, q1⟩ | ⟨rfl, q1⟩⟩ := hq
  · show W p l e r_c_X11_blow s m args below meth c _ _ 0 0 Qf (F0 m 8 ls [.null])
    refine lv_astoreN (lv' := [(6, .null), (0, .ref (ad 0)), (1, .int (iI ship)), (2, .int (iI watch)), (3, .int (iI kind)), (4, .int (iI wind)), (5, .int (iI depth))]) B.1 B.2.1 dX11_blow_8 hl (by decide) rfl (fun ls hl => ?_)
    refine lv_aloadN B.1 B.2.1 dX11_blow_10 (lv_at hl 0 rfl) ?_
    refine lv_ifnullN (tgt := 53) B.1 B.2.1 dX11_blow_12 (by decide) ?_
    refine x_iconst B dX11_blow_53 ?_
    refine y_ri B hQ h (by decide) dX11_blow_54 ?_
    exact ⟨rfl, _, rfl, (by first | omega | trivial | assumption)⟩
  · have fo2 := CW.sh hC ship (by omega)
    show W p l e r_c_X11_blow s m args below meth c _ _ 0 0 Qf (F0 m 8 ls [.ref (G 1 ship)])
    refine lv_astore (lv' := [(6, .ref (G 1 ship)), (0, .ref (ad 0)), (1, .int (iI ship)), (2, .int (iI watch)), (3, .int (iI kind)), (4, .int (iI wind)), (5, .int (iI depth))]) B.1 B.2.1 dX11_blow_8 hl (by decide) rfl (fun ls hl => ?_)
    refine lv_aload B.1 B.2.1 dX11_blow_10 (lv_at hl 0 rfl) ?_
    refine lv_ifnull B.1 B.2.1 dX11_blow_12 ?_
    refine lv_iload_n B.1 B.2.1 dX11_blow_15 rfl (lv_at hl 3 rfl) ?_
    refine x_sipush B (by decide) dX11_blow_16 ?_
    refine y_cS B h k_X11_within (c_X11_within l D Zk ca _ watch 999  (by omega) (by omega)) m_431 rfl (by decide) hl.1 [] (Nat.le_of_ble_eq_true rfl) rfl dX11_blow_19 (fun r w1 hq H locs h => ?_)
    obtain ⟨rfl, _, rfl, ⟨rfl, b3⟩ | ⟨rfl, b3⟩⟩ := hq
    · show W p l e r_c_X11_blow s m args below meth c _ _ 0 0 Qf (F0 m 22 ls [.int (iI 1)])
      refine x_if_eq B (by omega) (tgt := 53) dX11_blow_22 (by decide) (fun c4 => ?_) (fun c4 => ?_)
      · exact absurd c4 (by omega)
      · refine lv_iload_n B.1 B.2.1 dX11_blow_25 rfl (lv_at hl 4 rfl) ?_
        refine x_iconst B dX11_blow_26 ?_
        refine y_cS B h k_X11_within (c_X11_within l D Zk ca _ kind 2  (by omega) (by omega)) m_431 rfl (by decide) hl.1 [] (Nat.le_of_ble_eq_true rfl) rfl dX11_blow_27 (fun r w1 hq H locs h => ?_)
        obtain ⟨rfl, _, rfl, ⟨rfl, b5⟩ | ⟨rfl, b5⟩⟩ := hq
        · show W p l e r_c_X11_blow s m args below meth c _ _ 0 0 Qf (F0 m 30 ls [.int (iI 1)])
          refine x_if_eq B (by omega) (tgt := 53) dX11_blow_30 (by decide) (fun c6 => ?_) (fun c6 => ?_)
          · exact absurd c6 (by omega)
          · refine lv_iload B.1 B.2.1 dX11_blow_33 (lv_at hl 5 rfl) ?_
            refine x_bipush B (by decide) dX11_blow_35 ?_
            refine y_cS B h k_X11_within (c_X11_within l D Zk ca _ wind 99  (by omega) (by omega)) m_431 rfl (by decide) hl.1 [] (Nat.le_of_ble_eq_true rfl) rfl dX11_blow_37 (fun r w1 hq H locs h => ?_)
            obtain ⟨rfl, _, rfl, ⟨rfl, b7⟩ | ⟨rfl, b7⟩⟩ := hq
            · show W p l e r_c_X11_blow s m args below meth c _ _ 0 0 Qf (F0 m 40 ls [.int (iI 1)])
              refine x_if_eq B (by omega) (tgt := 53) dX11_blow_40 (by decide) (fun c8 => ?_) (fun c8 => ?_)
              · exact absurd c8 (by omega)
              · refine lv_iload B.1 B.2.1 dX11_blow_43 (lv_at hl 6 rfl) ?_
                refine x_bipush B (by decide) dX11_blow_45 ?_
                refine y_cS B h k_X11_within (c_X11_within l D Zk ca _ depth 9  (by omega) (by omega)) m_431 rfl (by decide) hl.1 [] (Nat.le_of_ble_eq_true rfl) rfl dX11_blow_47 (fun r w1 hq H locs h => ?_)
                obtain ⟨rfl, _, rfl, ⟨rfl, b9⟩ | ⟨rfl, b9⟩⟩ := hq
                · show W p l e r_c_X11_blow s m args below meth c _ _ 0 0 Qf (F0 m 50 ls [.int (iI 1)])
                  refine x_if_ne B (by omega) (tgt := 55) dX11_blow_50 (by decide) (fun c10 => ?_) (fun c10 => ?_)
                  · refine lv_iload_n B.1 B.2.1 dX11_blow_55 rfl (lv_at hl 3 rfl) ?_
                    refine x_bipush B (by decide) dX11_blow_56 ?_
                    refine x_idiv B (by omega) dX11_blow_58 ?_
                    refine lv_istore (lv' := [(7, .int (iI (watch / 100))), (6, .ref (G 1 ship)), (0, .ref (ad 0)), (1, .int (iI ship)), (2, .int (iI watch)), (3, .int (iI kind)), (4, .int (iI wind)), (5, .int (iI depth))]) B.1 B.2.1 dX11_blow_59 hl (by decide) rfl (fun ls hl => ?_)
                    refine lv_aload_n B.1 B.2.1 dX11_blow_61 rfl (lv_at hl 2 rfl) ?_
                    refine y_getR B h kX11 0 (CW.f hC 0 _ rfl) 1 (b := ad 4) rfl m_362 (by decide) dX11_blow_62 ?_
                    refine lv_aload_n B.1 B.2.1 dX11_blow_65 rfl (lv_at hl 2 rfl) ?_
                    refine y_getR B h kX11 0 (CW.f hC 0 _ rfl) 1 (b := ad 4) rfl m_362 (by decide) dX11_blow_66 ?_
                    refine lv_iload B.1 B.2.1 dX11_blow_69 (lv_at hl 0 rfl) ?_
                    refine y_cV B h kX6 4 (CW.f hC 4 _ rfl) k_X6_ofYear rfl (c_X6_ofYear l D Zk ca T G u ad _ hC ((watch / 100))  (by omega)) m_878 rfl (by decide) hl.1 [.ref (ad 4)] (Nat.le_of_ble_eq_true rfl) rfl dX11_blow_71 (fun r w1 hq H locs h => ?_)
                    obtain ⟨rfl, z11, rfl, hz11⟩ := hq
                    show W p l e r_c_X11_blow s m args below meth c _ _ 0 0 Qf (F0 m 74 ls [.int (iI z11), .ref (ad 4)])
                    refine lv_iload_n B.1 B.2.1 dX11_blow_74 rfl (lv_at hl 5 rfl) ?_
                    refine lv_iload B.1 B.2.1 dX11_blow_75 (lv_at hl 6 rfl) ?_
                    refine x_bipush B (by decide) dX11_blow_77 ?_
                    refine lv_aload B.1 B.2.1 dX11_blow_79 (lv_at hl 1 rfl) ?_
                    refine y_getX B h kX7 (1000 + 16 * ship.toNat + 1) fo2.1 1 (z := (T 1 ship)) rfl m_461 (by decide) dX11_blow_81 ?_
                    have tb12 := pi_1 (CW.pi hC) ship
                    refine x_imul B dX11_blow_84 ?_
                    refine lv_iload B.1 B.2.1 dX11_blow_85 (lv_at hl 7 rfl) ?_
                    refine x_iadd B dX11_blow_87 ?_
                    refine lv_iload B.1 B.2.1 dX11_blow_88 (lv_at hl 0 rfl) ?_
                    refine y_cV B h kX6 4 (CW.f hC 4 _ rfl) k_X6_numberFor rfl (c_X6_numberFor l D Zk ca T G u ad _ hC z11 kind wind (((10 * (T 1 ship)) + depth)) ((watch / 100))  (by omega) (by omega) (by omega) (by omega) (by omega)) m_882 rfl (by decide) hl.1 [] (Nat.le_of_ble_eq_true rfl) rfl dX11_blow_90 (fun r w1 hq H locs h => ?_)
                    obtain ⟨rfl, z13, rfl, hz13⟩ := hq
                    show W p l e r_c_X11_blow s m args below meth c _ _ 0 0 Qf (F0 m 93 ls [.int (iI z13)])
                    refine lv_istore (lv' := [(8, .int (iI z13)), (7, .int (iI (watch / 100))), (6, .ref (G 1 ship)), (0, .ref (ad 0)), (1, .int (iI ship)), (2, .int (iI watch)), (3, .int (iI kind)), (4, .int (iI wind)), (5, .int (iI depth))]) B.1 B.2.1 dX11_blow_93 hl (by decide) rfl (fun ls hl => ?_)
                    refine lv_aload_n B.1 B.2.1 dX11_blow_95 rfl (lv_at hl 3 rfl) ?_
                    refine lv_aload B.1 B.2.1 dX11_blow_96 (lv_at hl 2 rfl) ?_
                    refine lv_iload_n B.1 B.2.1 dX11_blow_98 rfl (lv_at hl 5 rfl) ?_
                    refine lv_iload B.1 B.2.1 dX11_blow_99 (lv_at hl 0 rfl) ?_
                    refine y_cV B h kX11 0 (CW.f hC 0 _ rfl) k_X11_written rfl (c_X11_written l D Zk ca T G u ad _ hC ship watch z13  (by omega) (by omega) (by omega)) m_912 rfl (by decide) hl.1 [] (Nat.le_of_ble_eq_true rfl) rfl dX11_blow_101 (fun r w1 hq H locs h => ?_)
                    obtain ⟨rfl, z14, rfl, hz14⟩ := hq
                    show W p l e r_c_X11_blow s m args below meth c _ _ 0 0 Qf (F0 m 104 ls [.int (iI z14)])
                    refine y_ri B hQ h (by decide) dX11_blow_104 ?_
                    exact ⟨rfl, _, rfl, (by first | omega | trivial | assumption)⟩
                  · exact absurd c10 (by omega)
                · show W p l e r_c_X11_blow s m args below meth c _ _ 0 0 Qf (F0 m 50 ls [.int (iI 0)])
                  refine x_if_ne B (by omega) (tgt := 55) dX11_blow_50 (by decide) (fun c15 => ?_) (fun c15 => ?_)
                  · exact absurd c15 (by omega)
                  · refine x_iconst B dX11_blow_53 ?_
                    refine y_ri B hQ h (by decide) dX11_blow_54 ?_
                    exact ⟨rfl, _, rfl, (by first | omega | trivial | assumption)⟩
            · show W p l e r_c_X11_blow s m args below meth c _ _ 0 0 Qf (F0 m 40 ls [.int (iI 0)])
              refine x_if_eq B (by omega) (tgt := 53) dX11_blow_40 (by decide) (fun c16 => ?_) (fun c16 => ?_)
              · refine x_iconst B dX11_blow_53 ?_
                refine y_ri B hQ h (by decide) dX11_blow_54 ?_
                exact ⟨rfl, _, rfl, (by first | omega | trivial | assumption)⟩
              · exact absurd c16 (by omega)
        · show W p l e r_c_X11_blow s m args below meth c _ _ 0 0 Qf (F0 m 30 ls [.int (iI 0)])
          refine x_if_eq B (by omega) (tgt := 53) dX11_blow_30 (by decide) (fun c17 => ?_) (fun c17 => ?_)
          · refine x_iconst B dX11_blow_53 ?_
            refine y_ri B hQ h (by decide) dX11_blow_54 ?_
            exact ⟨rfl, _, rfl, (by first | omega | trivial | assumption)⟩
          · exact absurd c17 (by omega)
    · show W p l e r_c_X11_blow s m args below meth c _ _ 0 0 Qf (F0 m 22 ls [.int (iI 0)])
      refine x_if_eq B (by omega) (tgt := 53) dX11_blow_22 (by decide) (fun c18 => ?_) (fun c18 => ?_)
      · refine x_iconst B dX11_blow_53 ?_
        refine y_ri B hQ h (by decide) dX11_blow_54 ?_
        exact ⟨rfl, _, rfl, (by first | omega | trivial | assumption)⟩
      · exact absurd c18 (by omega)
abbrev r_c_X11_run : Room := { frames := 4, cells := 0, slots := 0, locals := 101 }
set_option maxHeartbeats 4000000 in
set_option maxRecDepth 100000 in
theorem c_X11_run (l : Launch) (D : va_G) (Zk : yK) (ca : Nat → ClassId) (T : Nat → Int → Int) (G : Nat → Int → Nat) (u : Int) (ad : Nat → Nat) (w : yW) (hC : CW ca T G u ad w) (ship : Int) (watch : Int) (seed : Int) (n : Int) (number : Int)  (hship : xr ship) (hwatch : xr watch) (hseed : xr seed) (hn : xr n) (hnumber : xr number) : yC l D Zk ca yX11_run cX11_run 12 (some .int) r_c_X11_run [.ref (ad 0), .int (iI ship), .int (iI watch), .int (iI seed), .int (iI n), .int (iI number)] w (vI w (fun z => xr z)) := by
  refine yC.of2 "WindWords" (by decide) rfl (Nat.le_of_ble_eq_true rfl) ?_
  intro p e s m args below meth c A ls Qf B hnm h hl hQ
  have hl : lv_has ls 12 [(0, .ref (ad 0)), (1, .int (iI ship)), (2, .int (iI watch)), (3, .int (iI seed)), (4, .int (iI n)), (5, .int (iI number))] := hl
  have hs := pi_s (CW.pi hC)
  refine lv_aload_n B.1 B.2.1 dX11_run_0 rfl (lv_at hl 0 rfl) ?_
  refine y_getR B h kX11 0 (CW.f hC 0 _ rfl) 0 (b := ad 1) rfl m_361 (by decide) dX11_run_1 ?_
  refine lv_iload_n B.1 B.2.1 dX11_run_4 rfl (lv_at hl 1 rfl) ?_
  refine y_cV B h kX0 1 (CW.f hC 1 _ rfl) k_X0_shipAt rfl (c_X0_shipAt l D Zk ca T G u ad _ hC ship  (by omega)) m_481 rfl (by decide) hl.1 [] (Nat.le_of_ble_eq_true rfl) rfl dX11_run_5 (fun r w1 hq H locs h => ?_)
  obtain ⟨rfl, _, rfl, ⟨rfl, q1⟩ | ⟨rfl, q1⟩⟩ := hq
  · show W p l e r_c_X11_run s m args below meth c _ _ 0 0 Qf (F0 m 8 ls [.null])
    refine lv_astoreN (lv' := [(6, .null), (0, .ref (ad 0)), (1, .int (iI ship)), (2, .int (iI watch)), (3, .int (iI seed)), (4, .int (iI n)), (5, .int (iI number))]) B.1 B.2.1 dX11_run_8 hl (by decide) rfl (fun ls hl => ?_)
    refine lv_aloadN B.1 B.2.1 dX11_run_10 (lv_at hl 0 rfl) ?_
    refine lv_ifnullN (tgt := 58) B.1 B.2.1 dX11_run_12 (by decide) ?_
    refine x_iconst B dX11_run_58 ?_
    refine y_ri B hQ h (by decide) dX11_run_59 ?_
    exact ⟨rfl, _, rfl, (by first | omega | trivial | assumption)⟩
  · have fo2 := CW.sh hC ship (by omega)
    show W p l e r_c_X11_run s m args below meth c _ _ 0 0 Qf (F0 m 8 ls [.ref (G 1 ship)])
    refine lv_astore (lv' := [(6, .ref (G 1 ship)), (0, .ref (ad 0)), (1, .int (iI ship)), (2, .int (iI watch)), (3, .int (iI seed)), (4, .int (iI n)), (5, .int (iI number))]) B.1 B.2.1 dX11_run_8 hl (by decide) rfl (fun ls hl => ?_)
    refine lv_aload B.1 B.2.1 dX11_run_10 (lv_at hl 0 rfl) ?_
    refine lv_ifnull B.1 B.2.1 dX11_run_12 ?_
    refine lv_iload_n B.1 B.2.1 dX11_run_15 rfl (lv_at hl 3 rfl) ?_
    refine x_sipush B (by decide) dX11_run_16 ?_
    refine y_cS B h k_X11_within (c_X11_within l D Zk ca _ watch 999  (by omega) (by omega)) m_431 rfl (by decide) hl.1 [] (Nat.le_of_ble_eq_true rfl) rfl dX11_run_19 (fun r w1 hq H locs h => ?_)
    obtain ⟨rfl, _, rfl, ⟨rfl, b3⟩ | ⟨rfl, b3⟩⟩ := hq
    · show W p l e r_c_X11_run s m args below meth c _ _ 0 0 Qf (F0 m 22 ls [.int (iI 1)])
      refine x_if_eq B (by omega) (tgt := 58) dX11_run_22 (by decide) (fun c4 => ?_) (fun c4 => ?_)
      · exact absurd c4 (by omega)
      · refine lv_iload_n B.1 B.2.1 dX11_run_25 rfl (lv_at hl 4 rfl) ?_
        refine x_ldc B (z := 999999999) m_929 (by decide) dX11_run_26 ?_
        refine y_cS B h k_X11_within (c_X11_within l D Zk ca _ seed 999999999  (by omega) (by omega)) m_431 rfl (by decide) hl.1 [] (Nat.le_of_ble_eq_true rfl) rfl dX11_run_28 (fun r w1 hq H locs h => ?_)
        obtain ⟨rfl, _, rfl, ⟨rfl, b5⟩ | ⟨rfl, b5⟩⟩ := hq
        · show W p l e r_c_X11_run s m args below meth c _ _ 0 0 Qf (F0 m 31 ls [.int (iI 1)])
          refine x_if_eq B (by omega) (tgt := 58) dX11_run_31 (by decide) (fun c6 => ?_) (fun c6 => ?_)
          · exact absurd c6 (by omega)
          · refine lv_iload B.1 B.2.1 dX11_run_34 (lv_at hl 5 rfl) ?_
            refine x_iconst B dX11_run_36 ?_
            refine x_icmp_lt B (by omega) (tgt := 58) dX11_run_37 (by decide) (fun c7 => ?_) (fun c7 => ?_)
            · refine x_iconst B dX11_run_58 ?_
              refine y_ri B hQ h (by decide) dX11_run_59 ?_
              exact ⟨rfl, _, rfl, (by first | omega | trivial | assumption)⟩
            · refine lv_iload B.1 B.2.1 dX11_run_40 (lv_at hl 5 rfl) ?_
              refine x_sipush B (by decide) dX11_run_42 ?_
              refine x_icmp_gt B (by omega) (tgt := 58) dX11_run_45 (by decide) (fun c8 => ?_) (fun c8 => ?_)
              · refine x_iconst B dX11_run_58 ?_
                refine y_ri B hQ h (by decide) dX11_run_59 ?_
                exact ⟨rfl, _, rfl, (by first | omega | trivial | assumption)⟩
              · refine lv_iload B.1 B.2.1 dX11_run_48 (lv_at hl 6 rfl) ?_
                refine x_bipush B (by decide) dX11_run_50 ?_
                refine y_cS B h k_X11_within (c_X11_within l D Zk ca _ number 12  (by omega) (by omega)) m_431 rfl (by decide) hl.1 [] (Nat.le_of_ble_eq_true rfl) rfl dX11_run_52 (fun r w1 hq H locs h => ?_)
                obtain ⟨rfl, _, rfl, ⟨rfl, b9⟩ | ⟨rfl, b9⟩⟩ := hq
                · show W p l e r_c_X11_run s m args below meth c _ _ 0 0 Qf (F0 m 55 ls [.int (iI 1)])
                  refine x_if_ne B (by omega) (tgt := 60) dX11_run_55 (by decide) (fun c10 => ?_) (fun c10 => ?_)
                  · refine lv_iload_n B.1 B.2.1 dX11_run_60 rfl (lv_at hl 3 rfl) ?_
                    refine x_bipush B (by decide) dX11_run_61 ?_
                    refine x_idiv B (by omega) dX11_run_63 ?_
                    refine lv_istore (lv' := [(7, .int (iI (watch / 100))), (6, .ref (G 1 ship)), (0, .ref (ad 0)), (1, .int (iI ship)), (2, .int (iI watch)), (3, .int (iI seed)), (4, .int (iI n)), (5, .int (iI number))]) B.1 B.2.1 dX11_run_64 hl (by decide) rfl (fun ls hl => ?_)
                    refine lv_aload_n B.1 B.2.1 dX11_run_66 rfl (lv_at hl 2 rfl) ?_
                    refine y_getR B h kX11 0 (CW.f hC 0 _ rfl) 1 (b := ad 4) rfl m_362 (by decide) dX11_run_67 ?_
                    refine lv_aload_n B.1 B.2.1 dX11_run_70 rfl (lv_at hl 2 rfl) ?_
                    refine y_getR B h kX11 0 (CW.f hC 0 _ rfl) 11 (b := ad 31) rfl m_372 (by decide) dX11_run_71 ?_
                    refine lv_aload_n B.1 B.2.1 dX11_run_74 rfl (lv_at hl 2 rfl) ?_
                    refine y_getR B h kX11 0 (CW.f hC 0 _ rfl) 1 (b := ad 4) rfl m_362 (by decide) dX11_run_75 ?_
                    refine lv_iload B.1 B.2.1 dX11_run_78 (lv_at hl 0 rfl) ?_
                    refine y_cV B h kX6 4 (CW.f hC 4 _ rfl) k_X6_ofYear rfl (c_X6_ofYear l D Zk ca T G u ad _ hC ((watch / 100))  (by omega)) m_878 rfl (by decide) hl.1 [.ref (ad 31), .ref (ad 4)] (Nat.le_of_ble_eq_true rfl) rfl dX11_run_80 (fun r w1 hq H locs h => ?_)
                    obtain ⟨rfl, z11, rfl, hz11⟩ := hq
                    show W p l e r_c_X11_run s m args below meth c _ _ 0 0 Qf (F0 m 83 ls [.int (iI z11), .ref (ad 31), .ref (ad 4)])
                    refine x_iconst B dX11_run_83 ?_
                    refine x_bipush B (by decide) dX11_run_84 ?_
                    refine lv_aload B.1 B.2.1 dX11_run_86 (lv_at hl 1 rfl) ?_
                    refine y_getX B h kX7 (1000 + 16 * ship.toNat + 1) fo2.1 1 (z := (T 1 ship)) rfl m_461 (by decide) dX11_run_88 ?_
                    have tb12 := pi_1 (CW.pi hC) ship
                    refine x_imul B dX11_run_91 ?_
                    refine lv_iload B.1 B.2.1 dX11_run_92 (lv_at hl 0 rfl) ?_
                    refine y_cV B h kX6 4 (CW.f hC 4 _ rfl) k_X6_fillRow rfl (c_X6_fillRow l D Zk ca T G u ad _ hC z11 0 ((10 * (T 1 ship))) ((watch / 100)) (ad 31) 31 (CW.f hC 31 _ rfl) (by omega) (by omega) (by omega) (by omega)) m_930 rfl (by decide) hl.1 [] (Nat.le_of_ble_eq_true rfl) rfl dX11_run_94 (fun r w1 hq H locs h => ?_)
                    obtain ⟨rfl, rfl⟩ := hq
                    show W p l e r_c_X11_run s m args below meth c _ _ 0 0 Qf (F0 m 97 ls [])
                    refine x_iconst B dX11_run_97 ?_
                    refine lv_istore (lv' := [(8, .int (iI 0)), (7, .int (iI (watch / 100))), (6, .ref (G 1 ship)), (0, .ref (ad 0)), (1, .int (iI ship)), (2, .int (iI watch)), (3, .int (iI seed)), (4, .int (iI n)), (5, .int (iI number))]) B.1 B.2.1 dX11_run_98 hl (by decide) rfl (fun ls hl => ?_)
                    have loop100 : ∀ (n100 : Nat) (i : Int), (0 ≤ i ∧ i ≤ 100) → ((100 - i : Int)).toNat < n100 → ∀ (H : Heap) (locs : List Loc) (ls : Array Slot), yH D Zk A s w H locs → lv_has ls 12 [(8, .int (iI i)), (6, .ref (G 1 ship)), (0, .ref (ad 0)), (2, .int (iI watch)), (3, .int (iI seed)), (4, .int (iI n)), (5, .int (iI number))] → W p l e r_c_X11_run s m args below meth c H locs 0 0 Qf (F0 m 100 ls []) := by
                      intro n100
                      induction n100 with
                      | zero =>
                        intro i h0 hm100 H locs ls h hl
                        exact absurd hm100 (Nat.not_lt_zero _)
                      | succ n100 ih100 =>
                        intro i h0 hm100 H locs ls h hl
                        refine lv_iload B.1 B.2.1 dX11_run_100 (lv_at hl 0 rfl) ?_
                        refine x_bipush B (by decide) dX11_run_102 ?_
                        refine x_icmp_ge B (by omega) (tgt := 134) dX11_run_104 (by decide) (fun c13 => ?_) (fun c13 => ?_)
                        · refine lv_iload_n B.1 B.2.1 dX11_run_134 rfl (lv_at hl 4 rfl) ?_
                          refine lv_i2l B.1 B.2.1 dX11_run_135 rfl ?_
                          refine x_rawL (fun y14 => ?_)
                          refine lv_lstore (lv' := [(8, .long (y14)), (6, .ref (G 1 ship)), (0, .ref (ad 0)), (2, .int (iI watch)), (3, .int (iI seed)), (4, .int (iI n)), (5, .int (iI number))]) B.1 B.2.1 dX11_run_136 hl (by decide) rfl (fun ls hl => ?_)
                          refine x_iconst B dX11_run_138 ?_
                          refine lv_istore (lv' := [(10, .int (iI 0)), (8, .long (y14)), (6, .ref (G 1 ship)), (0, .ref (ad 0)), (2, .int (iI watch)), (3, .int (iI seed)), (4, .int (iI n)), (5, .int (iI number))]) B.1 B.2.1 dX11_run_139 hl (by decide) rfl (fun ls hl => ?_)
                          refine x_iconst B dX11_run_141 ?_
                          refine lv_istore (lv' := [(11, .int (iI 0)), (10, .int (iI 0)), (8, .long (y14)), (6, .ref (G 1 ship)), (0, .ref (ad 0)), (2, .int (iI watch)), (3, .int (iI seed)), (4, .int (iI n)), (5, .int (iI number))]) B.1 B.2.1 dX11_run_142 hl (by decide) rfl (fun ls hl => ?_)
                          have loop144 : ∀ (n144 : Nat) (z_ : Int64) (o : Int) (k : Int), (0 ≤ o ∧ o ≤ k) → (0 ≤ k ∧ k ≤ 1000) → ((1000 - k : Int)).toNat < n144 → ∀ (H : Heap) (locs : List Loc) (ls : Array Slot), yH D Zk A s w H locs → lv_has ls 12 [(11, .int (iI k)), (10, .int (iI o)), (8, .long (z_)), (0, .ref (ad 0)), (4, .int (iI n)), (5, .int (iI number))] → W p l e r_c_X11_run s m args below meth c H locs 0 0 Qf (F0 m 144 ls []) := by
                            intro n144
                            induction n144 with
                            | zero =>
                              intro z_ o k h1 h2 hm144 H locs ls h hl
                              exact absurd hm144 (Nat.not_lt_zero _)
                            | succ n144 ih144 =>
                              intro z_ o k h1 h2 hm144 H locs ls h hl
                              refine lv_iload B.1 B.2.1 dX11_run_144 (lv_at hl 0 rfl) ?_
                              refine lv_iload B.1 B.2.1 dX11_run_146 (lv_at hl 4 rfl) ?_
                              refine x_icmp_ge B (by omega) (tgt := 192) dX11_run_148 (by decide) (fun c15 => ?_) (fun c15 => ?_)
                              · refine lv_iload B.1 B.2.1 dX11_run_192 (lv_at hl 1 rfl) ?_
                                refine y_ri B hQ h (by decide) dX11_run_194 ?_
                                exact ⟨rfl, _, rfl, (by first | omega | trivial | assumption)⟩
                              · refine lv_lload B.1 B.2.1 dX11_run_151 (lv_at hl 2 rfl) ?_
                                refine x_ldc2 B m_940 dX11_run_153 ?_
                                refine lv_lmul B.1 B.2.1 dX11_run_156 ?_
                                refine x_rawL (fun y16 => ?_)
                                refine x_ldc2 B m_941 dX11_run_157 ?_
                                refine lv_ladd B.1 B.2.1 dX11_run_160 ?_
                                refine x_rawL (fun y17 => ?_)
                                refine lv_lstore (lv' := [(8, .long (y17)), (11, .int (iI k)), (10, .int (iI o)), (0, .ref (ad 0)), (4, .int (iI n)), (5, .int (iI number))]) B.1 B.2.1 dX11_run_161 hl (by decide) rfl (fun ls hl => ?_)
                                refine lv_aload_n B.1 B.2.1 dX11_run_163 rfl (lv_at hl 3 rfl) ?_
                                refine y_getR B h kX11 0 (CW.f hC 0 _ rfl) 11 (b := ad 31) rfl m_372 (by decide) dX11_run_164 ?_
                                refine lv_lload B.1 B.2.1 dX11_run_167 (lv_at hl 0 rfl) ?_
                                refine x_bipush B (by decide) dX11_run_169 ?_
                                refine lv_lushr B.1 B.2.1 dX11_run_171 rfl ?_
                                refine x_ldc2 B m_942 dX11_run_172 ?_
                                refine lv_lrem B.1 B.2.1 dX11_run_175 (by decide) ?_
                                obtain ⟨z18, z18a, z18b, ez18⟩ := run_ix y17
                                refine lv_l2i (v := iI z18) B.1 B.2.1 dX11_run_176 ez18 ?_
                                refine y_ialdG B h 31 (CW.f hC 31 _ rfl) (by omega) dX11_run_177 (fun z19 z19a z19b => ?_)
                                refine lv_iload B.1 B.2.1 dX11_run_178 (lv_at hl 5 rfl) ?_
                                refine x_icmp_ne B (by omega) (tgt := 186) dX11_run_180 (by decide) (fun c20 => ?_) (fun c20 => ?_)
                                · refine lv_iinc (v := iI (k + 1)) (lv' := [(11, .int (iI (k + 1))), (8, .long (y17)), (10, .int (iI o)), (0, .ref (ad 0)), (4, .int (iI n)), (5, .int (iI number))]) B.1 B.2.1 dX11_run_186 hl (k := 1) rfl (iI_add _ _) (by decide) rfl (fun ls hl => ?_)
                                  refine lv_goto (tgt := 144) B.1 B.2.1 dX11_run_189 (by decide) ?_
                                  exact ih144 y17 o ((k + 1)) (by omega) (by omega) (by omega) _ _ _ h (lv_sub hl [0, 2, 1, 3, 4, 5] rfl)
                                · refine lv_iinc (v := iI (o + 1)) (lv' := [(10, .int (iI (o + 1))), (8, .long (y17)), (11, .int (iI k)), (0, .ref (ad 0)), (4, .int (iI n)), (5, .int (iI number))]) B.1 B.2.1 dX11_run_183 hl (k := 2) rfl (iI_add _ _) (by decide) rfl (fun ls hl => ?_)
                                  refine lv_iinc (v := iI (k + 1)) (lv' := [(11, .int (iI (k + 1))), (10, .int (iI (o + 1))), (8, .long (y17)), (0, .ref (ad 0)), (4, .int (iI n)), (5, .int (iI number))]) B.1 B.2.1 dX11_run_186 hl (k := 2) rfl (iI_add _ _) (by decide) rfl (fun ls hl => ?_)
                                  refine lv_goto (tgt := 144) B.1 B.2.1 dX11_run_189 (by decide) ?_
                                  exact ih144 y17 ((o + 1)) ((k + 1)) (by omega) (by omega) (by omega) _ _ _ h (lv_sub hl [0, 1, 2, 3, 4, 5] rfl)
                          exact loop144 (((1000 - 0 : Int)).toNat + 1) y14 0 0 (by omega) (by omega) (Nat.lt_succ_self _) _ _ _ h (lv_sub hl [0, 1, 2, 4, 7, 8] rfl)
                        · refine lv_aload_n B.1 B.2.1 dX11_run_107 rfl (lv_at hl 2 rfl) ?_
                          refine y_getR B h kX11 0 (CW.f hC 0 _ rfl) 11 (b := ad 31) rfl m_372 (by decide) dX11_run_108 ?_
                          refine lv_iload B.1 B.2.1 dX11_run_111 (lv_at hl 0 rfl) ?_
                          refine lv_aload_n B.1 B.2.1 dX11_run_113 rfl (lv_at hl 2 rfl) ?_
                          refine lv_aload B.1 B.2.1 dX11_run_114 (lv_at hl 1 rfl) ?_
                          refine lv_iload_n B.1 B.2.1 dX11_run_116 rfl (lv_at hl 3 rfl) ?_
                          refine lv_aload_n B.1 B.2.1 dX11_run_117 rfl (lv_at hl 2 rfl) ?_
                          refine y_getR B h kX11 0 (CW.f hC 0 _ rfl) 11 (b := ad 31) rfl m_372 (by decide) dX11_run_118 ?_
                          refine lv_iload B.1 B.2.1 dX11_run_121 (lv_at hl 0 rfl) ?_
                          refine y_ialdG B h 31 (CW.f hC 31 _ rfl) (by omega) dX11_run_123 (fun z21 z21a z21b => ?_)
                          refine y_cV B h kX11 0 (CW.f hC 0 _ rfl) k_X11_written rfl (c_X11_written l D Zk ca T G u ad _ hC ship watch z21  (by omega) (by omega) (by omega)) m_912 rfl (by decide) hl.1 [.int (iI i), .ref (ad 31)] (Nat.le_of_ble_eq_true rfl) rfl dX11_run_124 (fun r w1 hq H locs h => ?_)
                          obtain ⟨rfl, z22, rfl, hz22⟩ := hq
                          show W p l e r_c_X11_run s m args below meth c _ _ 0 0 Qf (F0 m 127 ls [.int (iI z22), .int (iI i), .ref (ad 31)])
                          refine y_iastS B h 31 (CW.f hC 31 _ rfl) (by omega) (gG_upd (by omega)) dX11_run_127 (fun H locs h => ?_)
                          refine lv_iinc (v := iI (i + 1)) (lv' := [(8, .int (iI (i + 1))), (6, .ref (G 1 ship)), (0, .ref (ad 0)), (2, .int (iI watch)), (3, .int (iI seed)), (4, .int (iI n)), (5, .int (iI number))]) B.1 B.2.1 dX11_run_128 hl (k := 0) rfl (iI_add _ _) (by decide) rfl (fun ls hl => ?_)
                          refine lv_goto (tgt := 100) B.1 B.2.1 dX11_run_131 (by decide) ?_
                          exact ih100 ((i + 1)) (by omega) (by omega) _ _ _ h (lv_sub hl [0, 1, 2, 3, 4, 5, 6] rfl)
                    exact loop100 (((100 - 0 : Int)).toNat + 1) 0 (by omega) (Nat.lt_succ_self _) _ _ _ h (lv_sub hl [0, 2, 3, 5, 6, 7, 8] rfl)
                  · exact absurd c10 (by omega)
                · show W p l e r_c_X11_run s m args below meth c _ _ 0 0 Qf (F0 m 55 ls [.int (iI 0)])
                  refine x_if_ne B (by omega) (tgt := 60) dX11_run_55 (by decide) (fun c23 => ?_) (fun c23 => ?_)
                  · exact absurd c23 (by omega)
                  · refine x_iconst B dX11_run_58 ?_
                    refine y_ri B hQ h (by decide) dX11_run_59 ?_
                    exact ⟨rfl, _, rfl, (by first | omega | trivial | assumption)⟩
        · show W p l e r_c_X11_run s m args below meth c _ _ 0 0 Qf (F0 m 31 ls [.int (iI 0)])
          refine x_if_eq B (by omega) (tgt := 58) dX11_run_31 (by decide) (fun c24 => ?_) (fun c24 => ?_)
          · refine x_iconst B dX11_run_58 ?_
            refine y_ri B hQ h (by decide) dX11_run_59 ?_
            exact ⟨rfl, _, rfl, (by first | omega | trivial | assumption)⟩
          · exact absurd c24 (by omega)
    · show W p l e r_c_X11_run s m args below meth c _ _ 0 0 Qf (F0 m 22 ls [.int (iI 0)])
      refine x_if_eq B (by omega) (tgt := 58) dX11_run_22 (by decide) (fun c25 => ?_) (fun c25 => ?_)
      · refine x_iconst B dX11_run_58 ?_
        refine y_ri B hQ h (by decide) dX11_run_59 ?_
        exact ⟨rfl, _, rfl, (by first | omega | trivial | assumption)⟩
      · exact absurd c25 (by omega)
abbrev r_c_X11_column : Room := { frames := 4, cells := 0, slots := 0, locals := 101 }
set_option maxHeartbeats 4000000 in
set_option maxRecDepth 100000 in
theorem c_X11_column (l : Launch) (D : va_G) (Zk : yK) (ca : Nat → ClassId) (T : Nat → Int → Int) (G : Nat → Int → Nat) (u : Int) (ad : Nat → Nat) (w : yW) (hC : CW ca T G u ad w) (year : Int) (kind : Int) (mix : Int) (number : Int) (what : Int)  (hyear : xr year) (hkind : xr kind) (hmix : xr mix) (hnumber : xr number) (hwhat : xr what) : yC l D Zk ca yX11_column cX11_column 6 (some .int) r_c_X11_column [.ref (ad 0), .int (iI year), .int (iI kind), .int (iI mix), .int (iI number), .int (iI what)] w (vI w (fun z => xr z)) := by
  refine yC.of2 "WindWords" (by decide) rfl (Nat.le_of_ble_eq_true rfl) ?_
  intro p e s m args below meth c A ls Qf B hnm h hl hQ
  have hl : lv_has ls 6 [(0, .ref (ad 0)), (1, .int (iI year)), (2, .int (iI kind)), (3, .int (iI mix)), (4, .int (iI number)), (5, .int (iI what))] := hl
  have hs := pi_s (CW.pi hC)
  refine lv_iload_n B.1 B.2.1 dX11_column_0 rfl (lv_at hl 1 rfl) ?_
  refine x_bipush B (by decide) dX11_column_1 ?_
  refine y_cS B h k_X11_within (c_X11_within l D Zk ca _ year 9  (by omega) (by omega)) m_431 rfl (by decide) hl.1 [] (Nat.le_of_ble_eq_true rfl) rfl dX11_column_3 (fun r w1 hq H locs h => ?_)
  obtain ⟨rfl, _, rfl, ⟨rfl, b1⟩ | ⟨rfl, b1⟩⟩ := hq
  · show W p l e r_c_X11_column s m args below meth c _ _ 0 0 Qf (F0 m 6 ls [.int (iI 1)])
    refine x_if_eq B (by omega) (tgt := 45) dX11_column_6 (by decide) (fun c2 => ?_) (fun c2 => ?_)
    · exact absurd c2 (by omega)
    · refine lv_iload_n B.1 B.2.1 dX11_column_9 rfl (lv_at hl 2 rfl) ?_
      refine x_iconst B dX11_column_10 ?_
      refine y_cS B h k_X11_within (c_X11_within l D Zk ca _ kind 2  (by omega) (by omega)) m_431 rfl (by decide) hl.1 [] (Nat.le_of_ble_eq_true rfl) rfl dX11_column_11 (fun r w1 hq H locs h => ?_)
      obtain ⟨rfl, _, rfl, ⟨rfl, b3⟩ | ⟨rfl, b3⟩⟩ := hq
      · show W p l e r_c_X11_column s m args below meth c _ _ 0 0 Qf (F0 m 14 ls [.int (iI 1)])
        refine x_if_eq B (by omega) (tgt := 45) dX11_column_14 (by decide) (fun c4 => ?_) (fun c4 => ?_)
        · exact absurd c4 (by omega)
        · refine lv_iload_n B.1 B.2.1 dX11_column_17 rfl (lv_at hl 3 rfl) ?_
          refine x_bipush B (by decide) dX11_column_18 ?_
          refine y_cS B h k_X11_within (c_X11_within l D Zk ca _ mix 39  (by omega) (by omega)) m_431 rfl (by decide) hl.1 [] (Nat.le_of_ble_eq_true rfl) rfl dX11_column_20 (fun r w1 hq H locs h => ?_)
          obtain ⟨rfl, _, rfl, ⟨rfl, b5⟩ | ⟨rfl, b5⟩⟩ := hq
          · show W p l e r_c_X11_column s m args below meth c _ _ 0 0 Qf (F0 m 23 ls [.int (iI 1)])
            refine x_if_eq B (by omega) (tgt := 45) dX11_column_23 (by decide) (fun c6 => ?_) (fun c6 => ?_)
            · exact absurd c6 (by omega)
            · refine lv_iload B.1 B.2.1 dX11_column_26 (lv_at hl 4 rfl) ?_
              refine x_bipush B (by decide) dX11_column_28 ?_
              refine y_cS B h k_X11_within (c_X11_within l D Zk ca _ number 12  (by omega) (by omega)) m_431 rfl (by decide) hl.1 [] (Nat.le_of_ble_eq_true rfl) rfl dX11_column_30 (fun r w1 hq H locs h => ?_)
              obtain ⟨rfl, _, rfl, ⟨rfl, b7⟩ | ⟨rfl, b7⟩⟩ := hq
              · show W p l e r_c_X11_column s m args below meth c _ _ 0 0 Qf (F0 m 33 ls [.int (iI 1)])
                refine x_if_eq B (by omega) (tgt := 45) dX11_column_33 (by decide) (fun c8 => ?_) (fun c8 => ?_)
                · exact absurd c8 (by omega)
                · refine lv_iload B.1 B.2.1 dX11_column_36 (lv_at hl 5 rfl) ?_
                  refine x_iconst B dX11_column_38 ?_
                  refine y_cS B h k_X11_within (c_X11_within l D Zk ca _ what 1  (by omega) (by omega)) m_431 rfl (by decide) hl.1 [] (Nat.le_of_ble_eq_true rfl) rfl dX11_column_39 (fun r w1 hq H locs h => ?_)
                  obtain ⟨rfl, _, rfl, ⟨rfl, b9⟩ | ⟨rfl, b9⟩⟩ := hq
                  · show W p l e r_c_X11_column s m args below meth c _ _ 0 0 Qf (F0 m 42 ls [.int (iI 1)])
                    refine x_if_ne B (by omega) (tgt := 47) dX11_column_42 (by decide) (fun c10 => ?_) (fun c10 => ?_)
                    · refine lv_aload_n B.1 B.2.1 dX11_column_47 rfl (lv_at hl 0 rfl) ?_
                      refine y_getR B h kX11 0 (CW.f hC 0 _ rfl) 1 (b := ad 4) rfl m_362 (by decide) dX11_column_48 ?_
                      refine lv_aload_n B.1 B.2.1 dX11_column_51 rfl (lv_at hl 0 rfl) ?_
                      refine y_getR B h kX11 0 (CW.f hC 0 _ rfl) 11 (b := ad 31) rfl m_372 (by decide) dX11_column_52 ?_
                      refine lv_aload_n B.1 B.2.1 dX11_column_55 rfl (lv_at hl 0 rfl) ?_
                      refine y_getR B h kX11 0 (CW.f hC 0 _ rfl) 1 (b := ad 4) rfl m_362 (by decide) dX11_column_56 ?_
                      refine lv_iload_n B.1 B.2.1 dX11_column_59 rfl (lv_at hl 1 rfl) ?_
                      refine y_cV B h kX6 4 (CW.f hC 4 _ rfl) k_X6_ofYear rfl (c_X6_ofYear l D Zk ca T G u ad _ hC year  (by omega)) m_878 rfl (by decide) hl.1 [.ref (ad 31), .ref (ad 4)] (Nat.le_of_ble_eq_true rfl) rfl dX11_column_60 (fun r w1 hq H locs h => ?_)
                      obtain ⟨rfl, z11, rfl, hz11⟩ := hq
                      show W p l e r_c_X11_column s m args below meth c _ _ 0 0 Qf (F0 m 63 ls [.int (iI z11), .ref (ad 31), .ref (ad 4)])
                      refine lv_iload_n B.1 B.2.1 dX11_column_63 rfl (lv_at hl 2 rfl) ?_
                      refine lv_iload_n B.1 B.2.1 dX11_column_64 rfl (lv_at hl 3 rfl) ?_
                      refine lv_iload_n B.1 B.2.1 dX11_column_65 rfl (lv_at hl 1 rfl) ?_
                      refine y_cV B h kX6 4 (CW.f hC 4 _ rfl) k_X6_fillRow rfl (c_X6_fillRow l D Zk ca T G u ad _ hC z11 kind mix year (ad 31) 31 (CW.f hC 31 _ rfl) (by omega) (by omega) (by omega) (by omega)) m_930 rfl (by decide) hl.1 [] (Nat.le_of_ble_eq_true rfl) rfl dX11_column_66 (fun r w1 hq H locs h => ?_)
                      obtain ⟨rfl, rfl⟩ := hq
                      show W p l e r_c_X11_column s m args below meth c _ _ 0 0 Qf (F0 m 69 ls [])
                      refine lv_iload B.1 B.2.1 dX11_column_69 (lv_at hl 5 rfl) ?_
                      refine x_if_ne B (by omega) (tgt := 88) dX11_column_71 (by decide) (fun c12 => ?_) (fun c12 => ?_)
                      · refine lv_aload_n B.1 B.2.1 dX11_column_88 rfl (lv_at hl 0 rfl) ?_
                        refine y_getR B h kX11 0 (CW.f hC 0 _ rfl) 11 (b := ad 31) rfl m_372 (by decide) dX11_column_89 ?_
                        refine lv_iload B.1 B.2.1 dX11_column_92 (lv_at hl 4 rfl) ?_
                        refine lv_iload B.1 B.2.1 dX11_column_94 (lv_at hl 4 rfl) ?_
                        refine y_cS B h k_X11_greatestWind (c_X11_greatestWind l D Zk ca _ number number (ad 31) 31 (CW.f hC 31 _ rfl) (by omega) (by omega)) m_950 rfl (by decide) hl.1 [] (Nat.le_of_ble_eq_true rfl) rfl dX11_column_96 (fun r w1 hq H locs h => ?_)
                        obtain ⟨rfl, z13, rfl, hz13⟩ := hq
                        show W p l e r_c_X11_column s m args below meth c _ _ 0 0 Qf (F0 m 99 ls [.int (iI z13)])
                        refine y_ri B hQ h (by decide) dX11_column_99 ?_
                        exact ⟨rfl, _, rfl, (by first | omega | trivial | assumption)⟩
                      · refine lv_aload_n B.1 B.2.1 dX11_column_74 rfl (lv_at hl 0 rfl) ?_
                        refine y_getR B h kX11 0 (CW.f hC 0 _ rfl) 11 (b := ad 31) rfl m_372 (by decide) dX11_column_75 ?_
                        refine lv_iload B.1 B.2.1 dX11_column_78 (lv_at hl 4 rfl) ?_
                        refine lv_iload B.1 B.2.1 dX11_column_80 (lv_at hl 4 rfl) ?_
                        refine y_cS B h k_X11_leastWind (c_X11_leastWind l D Zk ca _ number number (ad 31) 31 (CW.f hC 31 _ rfl) (by omega) (by omega)) m_947 rfl (by decide) hl.1 [] (Nat.le_of_ble_eq_true rfl) rfl dX11_column_82 (fun r w1 hq H locs h => ?_)
                        obtain ⟨rfl, z14, rfl, hz14⟩ := hq
                        show W p l e r_c_X11_column s m args below meth c _ _ 0 0 Qf (F0 m 85 ls [.int (iI z14)])
                        refine lv_goto (tgt := 99) B.1 B.2.1 dX11_column_85 (by decide) ?_
                        refine y_ri B hQ h (by decide) dX11_column_99 ?_
                        exact ⟨rfl, _, rfl, (by first | omega | trivial | assumption)⟩
                    · exact absurd c10 (by omega)
                  · show W p l e r_c_X11_column s m args below meth c _ _ 0 0 Qf (F0 m 42 ls [.int (iI 0)])
                    refine x_if_ne B (by omega) (tgt := 47) dX11_column_42 (by decide) (fun c15 => ?_) (fun c15 => ?_)
                    · exact absurd c15 (by omega)
                    · refine x_iconst B dX11_column_45 ?_
                      refine y_ri B hQ h (by decide) dX11_column_46 ?_
                      exact ⟨rfl, _, rfl, (by first | omega | trivial | assumption)⟩
              · show W p l e r_c_X11_column s m args below meth c _ _ 0 0 Qf (F0 m 33 ls [.int (iI 0)])
                refine x_if_eq B (by omega) (tgt := 45) dX11_column_33 (by decide) (fun c16 => ?_) (fun c16 => ?_)
                · refine x_iconst B dX11_column_45 ?_
                  refine y_ri B hQ h (by decide) dX11_column_46 ?_
                  exact ⟨rfl, _, rfl, (by first | omega | trivial | assumption)⟩
                · exact absurd c16 (by omega)
          · show W p l e r_c_X11_column s m args below meth c _ _ 0 0 Qf (F0 m 23 ls [.int (iI 0)])
            refine x_if_eq B (by omega) (tgt := 45) dX11_column_23 (by decide) (fun c17 => ?_) (fun c17 => ?_)
            · refine x_iconst B dX11_column_45 ?_
              refine y_ri B hQ h (by decide) dX11_column_46 ?_
              exact ⟨rfl, _, rfl, (by first | omega | trivial | assumption)⟩
            · exact absurd c17 (by omega)
      · show W p l e r_c_X11_column s m args below meth c _ _ 0 0 Qf (F0 m 14 ls [.int (iI 0)])
        refine x_if_eq B (by omega) (tgt := 45) dX11_column_14 (by decide) (fun c18 => ?_) (fun c18 => ?_)
        · refine x_iconst B dX11_column_45 ?_
          refine y_ri B hQ h (by decide) dX11_column_46 ?_
          exact ⟨rfl, _, rfl, (by first | omega | trivial | assumption)⟩
        · exact absurd c18 (by omega)
  · show W p l e r_c_X11_column s m args below meth c _ _ 0 0 Qf (F0 m 6 ls [.int (iI 0)])
    refine x_if_eq B (by omega) (tgt := 45) dX11_column_6 (by decide) (fun c19 => ?_) (fun c19 => ?_)
    · refine x_iconst B dX11_column_45 ?_
      refine y_ri B hQ h (by decide) dX11_column_46 ?_
      exact ⟨rfl, _, rfl, (by first | omega | trivial | assumption)⟩
    · exact absurd c19 (by omega)
abbrev r_c_X11_turn : Room := { frames := 5, cells := 0, slots := 0, locals := 128 }
set_option maxHeartbeats 4000000 in
set_option maxRecDepth 100000 in
theorem c_X11_turn (l : Launch) (D : va_G) (Zk : yK) (ca : Nat → ClassId) (T : Nat → Int → Int) (G : Nat → Int → Nat) (u : Int) (ad : Nat → Nat) (w : yW) (hC : CW ca T G u ad w) (kind : Int) (year : Int) (number : Int) (other : Int) (what : Int)  (hkind : xr kind) (hyear : xr year) (hnumber : xr number) (hother : xr other) (hwhat : xr what) : yC l D Zk ca yX11_turn cX11_turn 6 (some .int) r_c_X11_turn [.ref (ad 0), .int (iI kind), .int (iI year), .int (iI number), .int (iI other), .int (iI what)] w (vI w (fun z => xr z)) := by
  refine yC.of2 "WindWords" (by decide) rfl (Nat.le_of_ble_eq_true rfl) ?_
  intro p e s m args below meth c A ls Qf B hnm h hl hQ
  have hl : lv_has ls 6 [(0, .ref (ad 0)), (1, .int (iI kind)), (2, .int (iI year)), (3, .int (iI number)), (4, .int (iI other)), (5, .int (iI what))] := hl
  have hs := pi_s (CW.pi hC)
  refine lv_iload_n B.1 B.2.1 dX11_turn_0 rfl (lv_at hl 1 rfl) ?_
  refine x_iconst B dX11_turn_1 ?_
  refine y_cS B h k_X11_within (c_X11_within l D Zk ca _ kind 2  (by omega) (by omega)) m_431 rfl (by decide) hl.1 [] (Nat.le_of_ble_eq_true rfl) rfl dX11_turn_2 (fun r w1 hq H locs h => ?_)
  obtain ⟨rfl, _, rfl, ⟨rfl, b1⟩ | ⟨rfl, b1⟩⟩ := hq
  · show W p l e r_c_X11_turn s m args below meth c _ _ 0 0 Qf (F0 m 5 ls [.int (iI 1)])
    refine x_if_eq B (by omega) (tgt := 45) dX11_turn_5 (by decide) (fun c2 => ?_) (fun c2 => ?_)
    · exact absurd c2 (by omega)
    · refine lv_iload_n B.1 B.2.1 dX11_turn_8 rfl (lv_at hl 2 rfl) ?_
      refine x_bipush B (by decide) dX11_turn_9 ?_
      refine y_cS B h k_X11_within (c_X11_within l D Zk ca _ year 9  (by omega) (by omega)) m_431 rfl (by decide) hl.1 [] (Nat.le_of_ble_eq_true rfl) rfl dX11_turn_11 (fun r w1 hq H locs h => ?_)
      obtain ⟨rfl, _, rfl, ⟨rfl, b3⟩ | ⟨rfl, b3⟩⟩ := hq
      · show W p l e r_c_X11_turn s m args below meth c _ _ 0 0 Qf (F0 m 14 ls [.int (iI 1)])
        refine x_if_eq B (by omega) (tgt := 45) dX11_turn_14 (by decide) (fun c4 => ?_) (fun c4 => ?_)
        · exact absurd c4 (by omega)
        · refine lv_iload_n B.1 B.2.1 dX11_turn_17 rfl (lv_at hl 3 rfl) ?_
          refine x_bipush B (by decide) dX11_turn_18 ?_
          refine y_cS B h k_X11_within (c_X11_within l D Zk ca _ number 12  (by omega) (by omega)) m_431 rfl (by decide) hl.1 [] (Nat.le_of_ble_eq_true rfl) rfl dX11_turn_20 (fun r w1 hq H locs h => ?_)
          obtain ⟨rfl, _, rfl, ⟨rfl, b5⟩ | ⟨rfl, b5⟩⟩ := hq
          · show W p l e r_c_X11_turn s m args below meth c _ _ 0 0 Qf (F0 m 23 ls [.int (iI 1)])
            refine x_if_eq B (by omega) (tgt := 45) dX11_turn_23 (by decide) (fun c6 => ?_) (fun c6 => ?_)
            · exact absurd c6 (by omega)
            · refine lv_iload B.1 B.2.1 dX11_turn_26 (lv_at hl 4 rfl) ?_
              refine x_bipush B (by decide) dX11_turn_28 ?_
              refine y_cS B h k_X11_within (c_X11_within l D Zk ca _ other 9  (by omega) (by omega)) m_431 rfl (by decide) hl.1 [] (Nat.le_of_ble_eq_true rfl) rfl dX11_turn_30 (fun r w1 hq H locs h => ?_)
              obtain ⟨rfl, _, rfl, ⟨rfl, b7⟩ | ⟨rfl, b7⟩⟩ := hq
              · show W p l e r_c_X11_turn s m args below meth c _ _ 0 0 Qf (F0 m 33 ls [.int (iI 1)])
                refine x_if_eq B (by omega) (tgt := 45) dX11_turn_33 (by decide) (fun c8 => ?_) (fun c8 => ?_)
                · exact absurd c8 (by omega)
                · refine lv_iload B.1 B.2.1 dX11_turn_36 (lv_at hl 5 rfl) ?_
                  refine x_iconst B dX11_turn_38 ?_
                  refine y_cS B h k_X11_within (c_X11_within l D Zk ca _ what 3  (by omega) (by omega)) m_431 rfl (by decide) hl.1 [] (Nat.le_of_ble_eq_true rfl) rfl dX11_turn_39 (fun r w1 hq H locs h => ?_)
                  obtain ⟨rfl, _, rfl, ⟨rfl, b9⟩ | ⟨rfl, b9⟩⟩ := hq
                  · show W p l e r_c_X11_turn s m args below meth c _ _ 0 0 Qf (F0 m 42 ls [.int (iI 1)])
                    refine x_if_ne B (by omega) (tgt := 47) dX11_turn_42 (by decide) (fun c10 => ?_) (fun c10 => ?_)
                    · refine lv_aload_n B.1 B.2.1 dX11_turn_47 rfl (lv_at hl 0 rfl) ?_
                      refine y_getR B h kX11 0 (CW.f hC 0 _ rfl) 1 (b := ad 4) rfl m_362 (by decide) dX11_turn_48 ?_
                      refine lv_aload_n B.1 B.2.1 dX11_turn_51 rfl (lv_at hl 0 rfl) ?_
                      refine y_getR B h kX11 0 (CW.f hC 0 _ rfl) 1 (b := ad 4) rfl m_362 (by decide) dX11_turn_52 ?_
                      refine lv_iload B.1 B.2.1 dX11_turn_55 (lv_at hl 4 rfl) ?_
                      refine y_cV B h kX6 4 (CW.f hC 4 _ rfl) k_X6_ofYear rfl (c_X6_ofYear l D Zk ca T G u ad _ hC other  (by omega)) m_878 rfl (by decide) hl.1 [.ref (ad 4)] (Nat.le_of_ble_eq_true rfl) rfl dX11_turn_57 (fun r w1 hq H locs h => ?_)
                      obtain ⟨rfl, z11, rfl, hz11⟩ := hq
                      show W p l e r_c_X11_turn s m args below meth c _ _ 0 0 Qf (F0 m 60 ls [.int (iI z11), .ref (ad 4)])
                      refine lv_iload B.1 B.2.1 dX11_turn_60 (lv_at hl 4 rfl) ?_
                      refine lv_iload_n B.1 B.2.1 dX11_turn_62 rfl (lv_at hl 1 rfl) ?_
                      refine lv_iload_n B.1 B.2.1 dX11_turn_63 rfl (lv_at hl 2 rfl) ?_
                      refine lv_iload_n B.1 B.2.1 dX11_turn_64 rfl (lv_at hl 3 rfl) ?_
                      refine y_cV B h kX6 4 (CW.f hC 4 _ rfl) k_X6_turnInto rfl (c_X6_turnInto l D Zk ca T G u ad _ hC z11 other kind year number  (by omega) (by omega) (by omega) (by omega) (by omega)) m_957 rfl (by decide) hl.1 [] (Nat.le_of_ble_eq_true rfl) rfl dX11_turn_65 (fun r w1 hq H locs h => ?_)
                      obtain ⟨rfl, _, rfl, ⟨rfl, b12⟩ | ⟨rfl, b12⟩⟩ := hq
                      · show W p l e r_c_X11_turn s m args below meth c _ _ 0 0 Qf (F0 m 68 ls [.int (iI 1)])
                        refine x_if_ne B (by omega) (tgt := 73) dX11_turn_68 (by decide) (fun c13 => ?_) (fun c13 => ?_)
                        · refine lv_aload_n B.1 B.2.1 dX11_turn_73 rfl (lv_at hl 0 rfl) ?_
                          refine y_getR B h kX11 0 (CW.f hC 0 _ rfl) 1 (b := ad 4) rfl m_362 (by decide) dX11_turn_74 ?_
                          refine y_getR B h kX6 4 (CW.f hC 4 _ rfl) 6 (b := ad 11) rfl m_193 (by decide) dX11_turn_77 ?_
                          refine lv_iload B.1 B.2.1 dX11_turn_80 (lv_at hl 5 rfl) ?_
                          refine y_iald B h 11 (CW.f hC 11 _ rfl) (by omega) dX11_turn_82 (fun fz14 hfz14 => ?_)
                          refine x_name (fun z14 hz14 ez14 => ?_)
                          refine y_ri B hQ h (by decide) dX11_turn_83 ?_
                          exact ⟨rfl, _, rfl, (by first | omega | trivial | assumption)⟩
                        · exact absurd c13 (by omega)
                      · show W p l e r_c_X11_turn s m args below meth c _ _ 0 0 Qf (F0 m 68 ls [.int (iI 0)])
                        refine x_if_ne B (by omega) (tgt := 73) dX11_turn_68 (by decide) (fun c15 => ?_) (fun c15 => ?_)
                        · exact absurd c15 (by omega)
                        · refine x_iconst B dX11_turn_71 ?_
                          refine y_ri B hQ h (by decide) dX11_turn_72 ?_
                          exact ⟨rfl, _, rfl, (by first | omega | trivial | assumption)⟩
                    · exact absurd c10 (by omega)
                  · show W p l e r_c_X11_turn s m args below meth c _ _ 0 0 Qf (F0 m 42 ls [.int (iI 0)])
                    refine x_if_ne B (by omega) (tgt := 47) dX11_turn_42 (by decide) (fun c16 => ?_) (fun c16 => ?_)
                    · exact absurd c16 (by omega)
                    · refine x_iconst B dX11_turn_45 ?_
                      refine y_ri B hQ h (by decide) dX11_turn_46 ?_
                      exact ⟨rfl, _, rfl, (by first | omega | trivial | assumption)⟩
              · show W p l e r_c_X11_turn s m args below meth c _ _ 0 0 Qf (F0 m 33 ls [.int (iI 0)])
                refine x_if_eq B (by omega) (tgt := 45) dX11_turn_33 (by decide) (fun c17 => ?_) (fun c17 => ?_)
                · refine x_iconst B dX11_turn_45 ?_
                  refine y_ri B hQ h (by decide) dX11_turn_46 ?_
                  exact ⟨rfl, _, rfl, (by first | omega | trivial | assumption)⟩
                · exact absurd c17 (by omega)
          · show W p l e r_c_X11_turn s m args below meth c _ _ 0 0 Qf (F0 m 23 ls [.int (iI 0)])
            refine x_if_eq B (by omega) (tgt := 45) dX11_turn_23 (by decide) (fun c18 => ?_) (fun c18 => ?_)
            · refine x_iconst B dX11_turn_45 ?_
              refine y_ri B hQ h (by decide) dX11_turn_46 ?_
              exact ⟨rfl, _, rfl, (by first | omega | trivial | assumption)⟩
            · exact absurd c18 (by omega)
      · show W p l e r_c_X11_turn s m args below meth c _ _ 0 0 Qf (F0 m 14 ls [.int (iI 0)])
        refine x_if_eq B (by omega) (tgt := 45) dX11_turn_14 (by decide) (fun c19 => ?_) (fun c19 => ?_)
        · refine x_iconst B dX11_turn_45 ?_
          refine y_ri B hQ h (by decide) dX11_turn_46 ?_
          exact ⟨rfl, _, rfl, (by first | omega | trivial | assumption)⟩
        · exact absurd c19 (by omega)
  · show W p l e r_c_X11_turn s m args below meth c _ _ 0 0 Qf (F0 m 5 ls [.int (iI 0)])
    refine x_if_eq B (by omega) (tgt := 45) dX11_turn_5 (by decide) (fun c20 => ?_) (fun c20 => ?_)
    · refine x_iconst B dX11_turn_45 ?_
      refine y_ri B hQ h (by decide) dX11_turn_46 ?_
      exact ⟨rfl, _, rfl, (by first | omega | trivial | assumption)⟩
    · exact absurd c20 (by omega)
abbrev r_c_X11_tight : Room := { frames := 6, cells := 0, slots := 0, locals := 151 }
set_option maxHeartbeats 4000000 in
set_option maxRecDepth 100000 in
theorem c_X11_tight (l : Launch) (D : va_G) (Zk : yK) (ca : Nat → ClassId) (T : Nat → Int → Int) (G : Nat → Int → Nat) (u : Int) (ad : Nat → Nat) (w : yW) (hC : CW ca T G u ad w)    : yC l D Zk ca yX11_tight cX11_tight 1 (some .int) r_c_X11_tight [.ref (ad 0)] w (vI w (fun z => xr z)) := by
  refine yC.of2 "WindWords" (by decide) rfl (Nat.le_of_ble_eq_true rfl) ?_
  intro p e s m args below meth c A ls Qf B hnm h hl hQ
  have hl : lv_has ls 1 [(0, .ref (ad 0))] := hl
  have hs := pi_s (CW.pi hC)
  refine lv_aload_n B.1 B.2.1 dX11_tight_0 rfl (lv_at hl 0 rfl) ?_
  refine y_getR B h kX11 0 (CW.f hC 0 _ rfl) 2 (b := ad 12) rfl m_363 (by decide) dX11_tight_1 ?_
  refine lv_aload_n B.1 B.2.1 dX11_tight_4 rfl (lv_at hl 0 rfl) ?_
  refine y_getR B h kX11 0 (CW.f hC 0 _ rfl) 0 (b := ad 1) rfl m_361 (by decide) dX11_tight_5 ?_
  refine lv_aload_n B.1 B.2.1 dX11_tight_8 rfl (lv_at hl 0 rfl) ?_
  refine y_getR B h kX11 0 (CW.f hC 0 _ rfl) 1 (b := ad 4) rfl m_362 (by decide) dX11_tight_9 ?_
  refine y_cV B h kX3 12 (CW.f hC 12 _ rfl) k_X3_solve rfl (c_X3_solve l D Zk ca T G u ad _ hC   ) m_971 rfl (by decide) hl.1 [] (Nat.le_of_ble_eq_true rfl) rfl dX11_tight_12 (fun r w1 hq H locs h => ?_)
  obtain ⟨rfl, _, rfl, ⟨rfl, b1⟩ | ⟨rfl, b1⟩⟩ := hq
  · show W p l e r_c_X11_tight s m args below meth c _ _ 0 0 Qf (F0 m 15 ls [.int (iI 1)])
    refine x_if_eq B (by omega) (tgt := 22) dX11_tight_15 (by decide) (fun c2 => ?_) (fun c2 => ?_)
    · exact absurd c2 (by omega)
    · refine x_iconst B dX11_tight_18 ?_
      refine lv_goto (tgt := 23) B.1 B.2.1 dX11_tight_19 (by decide) ?_
      refine y_ri B hQ h (by decide) dX11_tight_23 ?_
      exact ⟨rfl, _, rfl, (by first | omega | trivial | assumption)⟩
  · show W p l e r_c_X11_tight s m args below meth c _ _ 0 0 Qf (F0 m 15 ls [.int (iI 0)])
    refine x_if_eq B (by omega) (tgt := 22) dX11_tight_15 (by decide) (fun c3 => ?_) (fun c3 => ?_)
    · refine x_iconst B dX11_tight_22 ?_
      refine y_ri B hQ h (by decide) dX11_tight_23 ?_
      exact ⟨rfl, _, rfl, (by first | omega | trivial | assumption)⟩
    · exact absurd c3 (by omega)
abbrev r_c_X11_lean : Room := { frames := 6, cells := 0, slots := 0, locals := 151 }
set_option maxHeartbeats 4000000 in
set_option maxRecDepth 100000 in
theorem c_X11_lean (l : Launch) (D : va_G) (Zk : yK) (ca : Nat → ClassId) (T : Nat → Int → Int) (G : Nat → Int → Nat) (u : Int) (ad : Nat → Nat) (w : yW) (hC : CW ca T G u ad w) (o : Int) (what : Int)  (ho : xr o) (hwhat : xr what) : yC l D Zk ca yX11_lean cX11_lean 3 (some .int) r_c_X11_lean [.ref (ad 0), .int (iI o), .int (iI what)] w (vI w (fun z => xr z)) := by
  refine yC.of2 "WindWords" (by decide) rfl (Nat.le_of_ble_eq_true rfl) ?_
  intro p e s m args below meth c A ls Qf B hnm h hl hQ
  have hl : lv_has ls 3 [(0, .ref (ad 0)), (1, .int (iI o)), (2, .int (iI what))] := hl
  have hs := pi_s (CW.pi hC)
  refine lv_aload_n B.1 B.2.1 dX11_lean_0 rfl (lv_at hl 0 rfl) ?_
  refine y_getR B h kX11 0 (CW.f hC 0 _ rfl) 0 (b := ad 1) rfl m_361 (by decide) dX11_lean_1 ?_
  refine lv_iload_n B.1 B.2.1 dX11_lean_4 rfl (lv_at hl 1 rfl) ?_
  refine y_cV B h kX0 1 (CW.f hC 1 _ rfl) k_X0_hasOfficer rfl (c_X0_hasOfficer l D Zk ca T G u ad _ hC o  (by omega)) m_434 rfl (by decide) hl.1 [] (Nat.le_of_ble_eq_true rfl) rfl dX11_lean_5 (fun r w1 hq H locs h => ?_)
  obtain ⟨rfl, _, rfl, ⟨rfl, b1⟩ | ⟨rfl, b1⟩⟩ := hq
  · show W p l e r_c_X11_lean s m args below meth c _ _ 0 0 Qf (F0 m 8 ls [.int (iI 1)])
    refine x_if_eq B (by omega) (tgt := 37) dX11_lean_8 (by decide) (fun c2 => ?_) (fun c2 => ?_)
    · exact absurd c2 (by omega)
    · refine lv_iload_n B.1 B.2.1 dX11_lean_11 rfl (lv_at hl 2 rfl) ?_
      refine x_iconst B dX11_lean_12 ?_
      refine y_cS B h k_X11_within (c_X11_within l D Zk ca _ what 1  (by omega) (by omega)) m_431 rfl (by decide) hl.1 [] (Nat.le_of_ble_eq_true rfl) rfl dX11_lean_13 (fun r w1 hq H locs h => ?_)
      obtain ⟨rfl, _, rfl, ⟨rfl, b3⟩ | ⟨rfl, b3⟩⟩ := hq
      · show W p l e r_c_X11_lean s m args below meth c _ _ 0 0 Qf (F0 m 16 ls [.int (iI 1)])
        refine x_if_eq B (by omega) (tgt := 37) dX11_lean_16 (by decide) (fun c4 => ?_) (fun c4 => ?_)
        · exact absurd c4 (by omega)
        · refine lv_aload_n B.1 B.2.1 dX11_lean_19 rfl (lv_at hl 0 rfl) ?_
          refine y_getR B h kX11 0 (CW.f hC 0 _ rfl) 2 (b := ad 12) rfl m_363 (by decide) dX11_lean_20 ?_
          refine lv_aload_n B.1 B.2.1 dX11_lean_23 rfl (lv_at hl 0 rfl) ?_
          refine y_getR B h kX11 0 (CW.f hC 0 _ rfl) 0 (b := ad 1) rfl m_361 (by decide) dX11_lean_24 ?_
          refine lv_aload_n B.1 B.2.1 dX11_lean_27 rfl (lv_at hl 0 rfl) ?_
          refine y_getR B h kX11 0 (CW.f hC 0 _ rfl) 1 (b := ad 4) rfl m_362 (by decide) dX11_lean_28 ?_
          refine y_cV B h kX3 12 (CW.f hC 12 _ rfl) k_X3_solve rfl (c_X3_solve l D Zk ca T G u ad _ hC   ) m_971 rfl (by decide) hl.1 [] (Nat.le_of_ble_eq_true rfl) rfl dX11_lean_31 (fun r w1 hq H locs h => ?_)
          obtain ⟨rfl, _, rfl, ⟨rfl, b5⟩ | ⟨rfl, b5⟩⟩ := hq
          · show W p l e r_c_X11_lean s m args below meth c _ _ 0 0 Qf (F0 m 34 ls [.int (iI 1)])
            refine x_if_ne B (by omega) (tgt := 41) dX11_lean_34 (by decide) (fun c6 => ?_) (fun c6 => ?_)
            · refine lv_iload_n B.1 B.2.1 dX11_lean_41 rfl (lv_at hl 2 rfl) ?_
              refine x_if_ne B (by omega) (tgt := 56) dX11_lean_42 (by decide) (fun c7 => ?_) (fun c7 => ?_)
              · refine lv_aload_n B.1 B.2.1 dX11_lean_56 rfl (lv_at hl 0 rfl) ?_
                refine y_getR B h kX11 0 (CW.f hC 0 _ rfl) 2 (b := ad 12) rfl m_363 (by decide) dX11_lean_57 ?_
                refine lv_iload_n B.1 B.2.1 dX11_lean_60 rfl (lv_at hl 1 rfl) ?_
                refine y_cV B h kX3 12 (CW.f hC 12 _ rfl) k_X3_greatest rfl (c_X3_greatest l D Zk ca T G u ad _ hC o  (by omega)) m_1038 rfl (by decide) hl.1 [] (Nat.le_of_ble_eq_true rfl) rfl dX11_lean_61 (fun r w1 hq H locs h => ?_)
                obtain ⟨rfl, z8, rfl, hz8⟩ := hq
                show W p l e r_c_X11_lean s m args below meth c _ _ 0 0 Qf (F0 m 64 ls [.int (iI z8)])
                refine y_ri B hQ h (by decide) dX11_lean_64 ?_
                exact ⟨rfl, _, rfl, (by first | omega | trivial | assumption)⟩
              · refine lv_aload_n B.1 B.2.1 dX11_lean_45 rfl (lv_at hl 0 rfl) ?_
                refine y_getR B h kX11 0 (CW.f hC 0 _ rfl) 2 (b := ad 12) rfl m_363 (by decide) dX11_lean_46 ?_
                refine lv_iload_n B.1 B.2.1 dX11_lean_49 rfl (lv_at hl 1 rfl) ?_
                refine y_cV B h kX3 12 (CW.f hC 12 _ rfl) k_X3_least rfl (c_X3_least l D Zk ca T G u ad _ hC o  (by omega)) m_1034 rfl (by decide) hl.1 [] (Nat.le_of_ble_eq_true rfl) rfl dX11_lean_50 (fun r w1 hq H locs h => ?_)
                obtain ⟨rfl, z9, rfl, hz9⟩ := hq
                show W p l e r_c_X11_lean s m args below meth c _ _ 0 0 Qf (F0 m 53 ls [.int (iI z9)])
                refine lv_goto (tgt := 64) B.1 B.2.1 dX11_lean_53 (by decide) ?_
                refine y_ri B hQ h (by decide) dX11_lean_64 ?_
                exact ⟨rfl, _, rfl, (by first | omega | trivial | assumption)⟩
            · exact absurd c6 (by omega)
          · show W p l e r_c_X11_lean s m args below meth c _ _ 0 0 Qf (F0 m 34 ls [.int (iI 0)])
            refine x_if_ne B (by omega) (tgt := 41) dX11_lean_34 (by decide) (fun c10 => ?_) (fun c10 => ?_)
            · exact absurd c10 (by omega)
            · refine x_sipush B (by decide) dX11_lean_37 ?_
              refine y_ri B hQ h (by decide) dX11_lean_40 ?_
              exact ⟨rfl, _, rfl, (by first | omega | trivial | assumption)⟩
      · show W p l e r_c_X11_lean s m args below meth c _ _ 0 0 Qf (F0 m 16 ls [.int (iI 0)])
        refine x_if_eq B (by omega) (tgt := 37) dX11_lean_16 (by decide) (fun c11 => ?_) (fun c11 => ?_)
        · refine x_sipush B (by decide) dX11_lean_37 ?_
          refine y_ri B hQ h (by decide) dX11_lean_40 ?_
          exact ⟨rfl, _, rfl, (by first | omega | trivial | assumption)⟩
        · exact absurd c11 (by omega)
  · show W p l e r_c_X11_lean s m args below meth c _ _ 0 0 Qf (F0 m 8 ls [.int (iI 0)])
    refine x_if_eq B (by omega) (tgt := 37) dX11_lean_8 (by decide) (fun c12 => ?_) (fun c12 => ?_)
    · refine x_sipush B (by decide) dX11_lean_37 ?_
      refine y_ri B hQ h (by decide) dX11_lean_40 ?_
      exact ⟨rfl, _, rfl, (by first | omega | trivial | assumption)⟩
    · exact absurd c12 (by omega)
abbrev r_c_X11_liked : Room := { frames := 4, cells := 0, slots := 0, locals := 90 }
set_option maxHeartbeats 4000000 in
set_option maxRecDepth 100000 in
theorem c_X11_liked (l : Launch) (D : va_G) (Zk : yK) (ca : Nat → ClassId) (T : Nat → Int → Int) (G : Nat → Int → Nat) (u : Int) (ad : Nat → Nat) (w : yW) (hC : CW ca T G u ad w) (o : Int) (number : Int) (what : Int)  (ho : xr o) (hnumber : xr number) (hwhat : xr what) : yC l D Zk ca yX11_liked cX11_liked 6 (some .int) r_c_X11_liked [.ref (ad 0), .int (iI o), .int (iI number), .int (iI what)] w (vI w (fun z => xr z)) := by
  refine yC.of2 "WindWords" (by decide) rfl (Nat.le_of_ble_eq_true rfl) ?_
  intro p e s m args below meth c A ls Qf B hnm h hl hQ
  have hl : lv_has ls 6 [(0, .ref (ad 0)), (1, .int (iI o)), (2, .int (iI number)), (3, .int (iI what))] := hl
  have hs := pi_s (CW.pi hC)
  refine lv_aload_n B.1 B.2.1 dX11_liked_0 rfl (lv_at hl 0 rfl) ?_
  refine y_getR B h kX11 0 (CW.f hC 0 _ rfl) 0 (b := ad 1) rfl m_361 (by decide) dX11_liked_1 ?_
  refine lv_iload_n B.1 B.2.1 dX11_liked_4 rfl (lv_at hl 1 rfl) ?_
  refine y_cV B h kX0 1 (CW.f hC 1 _ rfl) k_X0_hasOfficer rfl (c_X0_hasOfficer l D Zk ca T G u ad _ hC o  (by omega)) m_434 rfl (by decide) hl.1 [] (Nat.le_of_ble_eq_true rfl) rfl dX11_liked_5 (fun r w1 hq H locs h => ?_)
  obtain ⟨rfl, _, rfl, ⟨rfl, b1⟩ | ⟨rfl, b1⟩⟩ := hq
  · show W p l e r_c_X11_liked s m args below meth c _ _ 0 0 Qf (F0 m 8 ls [.int (iI 1)])
    refine x_if_eq B (by omega) (tgt := 30) dX11_liked_8 (by decide) (fun c2 => ?_) (fun c2 => ?_)
    · exact absurd c2 (by omega)
    · refine lv_iload_n B.1 B.2.1 dX11_liked_11 rfl (lv_at hl 2 rfl) ?_
      refine x_iconst B dX11_liked_12 ?_
      refine x_icmp_lt B (by omega) (tgt := 30) dX11_liked_13 (by decide) (fun c3 => ?_) (fun c3 => ?_)
      · refine x_sipush B (by decide) dX11_liked_30 ?_
        refine y_ri B hQ h (by decide) dX11_liked_33 ?_
        exact ⟨rfl, _, rfl, (by first | omega | trivial | assumption)⟩
      · refine lv_iload_n B.1 B.2.1 dX11_liked_16 rfl (lv_at hl 2 rfl) ?_
        refine x_bipush B (by decide) dX11_liked_17 ?_
        refine x_icmp_gt B (by omega) (tgt := 30) dX11_liked_19 (by decide) (fun c4 => ?_) (fun c4 => ?_)
        · refine x_sipush B (by decide) dX11_liked_30 ?_
          refine y_ri B hQ h (by decide) dX11_liked_33 ?_
          exact ⟨rfl, _, rfl, (by first | omega | trivial | assumption)⟩
        · refine lv_iload_n B.1 B.2.1 dX11_liked_22 rfl (lv_at hl 3 rfl) ?_
          refine x_iconst B dX11_liked_23 ?_
          refine y_cS B h k_X11_within (c_X11_within l D Zk ca _ what 3  (by omega) (by omega)) m_431 rfl (by decide) hl.1 [] (Nat.le_of_ble_eq_true rfl) rfl dX11_liked_24 (fun r w1 hq H locs h => ?_)
          obtain ⟨rfl, _, rfl, ⟨rfl, b5⟩ | ⟨rfl, b5⟩⟩ := hq
          · show W p l e r_c_X11_liked s m args below meth c _ _ 0 0 Qf (F0 m 27 ls [.int (iI 1)])
            refine x_if_ne B (by omega) (tgt := 34) dX11_liked_27 (by decide) (fun c6 => ?_) (fun c6 => ?_)
            · refine lv_aload_n B.1 B.2.1 dX11_liked_34 rfl (lv_at hl 0 rfl) ?_
              refine lv_iload_n B.1 B.2.1 dX11_liked_35 rfl (lv_at hl 1 rfl) ?_
              refine lv_iload_n B.1 B.2.1 dX11_liked_36 rfl (lv_at hl 2 rfl) ?_
              refine lv_iload_n B.1 B.2.1 dX11_liked_37 rfl (lv_at hl 2 rfl) ?_
              refine y_cV B h kX11 0 (CW.f hC 0 _ rfl) k_X11_timesWritten rfl (c_X11_timesWritten l D Zk ca T G u ad _ hC o number number  (by omega) (by omega) (by omega)) m_1046 rfl (by decide) hl.1 [] (Nat.le_of_ble_eq_true rfl) rfl dX11_liked_38 (fun r w1 hq H locs h => ?_)
              obtain ⟨rfl, z7, rfl, hz7⟩ := hq
              show W p l e r_c_X11_liked s m args below meth c _ _ 0 0 Qf (F0 m 41 ls [.int (iI z7)])
              refine lv_istore (lv' := [(4, .int (iI z7)), (0, .ref (ad 0)), (1, .int (iI o)), (2, .int (iI number)), (3, .int (iI what))]) B.1 B.2.1 dX11_liked_41 hl (by decide) rfl (fun ls hl => ?_)
              refine lv_aload_n B.1 B.2.1 dX11_liked_43 rfl (lv_at hl 1 rfl) ?_
              refine lv_iload_n B.1 B.2.1 dX11_liked_44 rfl (lv_at hl 2 rfl) ?_
              refine lv_iload_n B.1 B.2.1 dX11_liked_45 rfl (lv_at hl 3 rfl) ?_
              refine x_iconst B dX11_liked_46 ?_
              refine x_isub B dX11_liked_47 ?_
              refine lv_iload_n B.1 B.2.1 dX11_liked_48 rfl (lv_at hl 3 rfl) ?_
              refine x_iconst B dX11_liked_49 ?_
              refine x_iadd B dX11_liked_50 ?_
              refine y_cV B h kX11 0 (CW.f hC 0 _ rfl) k_X11_timesWritten rfl (c_X11_timesWritten l D Zk ca T G u ad _ hC o ((number - 1)) ((number + 1))  (by omega) (by omega) (by omega)) m_1046 rfl (by decide) hl.1 [] (Nat.le_of_ble_eq_true rfl) rfl dX11_liked_51 (fun r w1 hq H locs h => ?_)
              obtain ⟨rfl, z8, rfl, hz8⟩ := hq
              show W p l e r_c_X11_liked s m args below meth c _ _ 0 0 Qf (F0 m 54 ls [.int (iI z8)])
              refine lv_iload B.1 B.2.1 dX11_liked_54 (lv_at hl 0 rfl) ?_
              refine x_isub B dX11_liked_56 ?_
              refine lv_istore (lv' := [(5, .int (iI (z8 - z7))), (4, .int (iI z7)), (0, .ref (ad 0)), (1, .int (iI o)), (2, .int (iI number)), (3, .int (iI what))]) B.1 B.2.1 dX11_liked_57 hl (by decide) rfl (fun ls hl => ?_)
              refine lv_iload_n B.1 B.2.1 dX11_liked_59 rfl (lv_at hl 5 rfl) ?_
              by_cases t9 : what = 0
              · refine x_tin B (tgt := 88) 0 (by omega) dX11_liked_60 rfl (by decide) ?_
                refine lv_iload B.1 B.2.1 dX11_liked_88 (lv_at hl 1 rfl) ?_
                refine y_ri B hQ h (by decide) dX11_liked_90 ?_
                exact ⟨rfl, _, rfl, (by first | omega | trivial | assumption)⟩
              by_cases t10 : what = 1
              · refine x_tin B (tgt := 91) 1 (by omega) dX11_liked_60 rfl (by decide) ?_
                refine lv_iload B.1 B.2.1 dX11_liked_91 (lv_at hl 0 rfl) ?_
                refine y_ri B hQ h (by decide) dX11_liked_93 ?_
                exact ⟨rfl, _, rfl, (by first | omega | trivial | assumption)⟩
              by_cases t11 : what = 2
              · refine x_tin B (tgt := 94) 2 (by omega) dX11_liked_60 rfl (by decide) ?_
                refine x_iconst B dX11_liked_94 ?_
                refine lv_iload B.1 B.2.1 dX11_liked_95 (lv_at hl 1 rfl) ?_
                refine x_imul B dX11_liked_97 ?_
                refine lv_iload B.1 B.2.1 dX11_liked_98 (lv_at hl 0 rfl) ?_
                refine x_icmp_ge B (by omega) (tgt := 107) dX11_liked_100 (by decide) (fun c12 => ?_) (fun c12 => ?_)
                · refine lv_iload B.1 B.2.1 dX11_liked_107 (lv_at hl 1 rfl) ?_
                  refine lv_iload B.1 B.2.1 dX11_liked_109 (lv_at hl 0 rfl) ?_
                  refine x_icmp_le B (by omega) (tgt := 118) dX11_liked_111 (by decide) (fun c13 => ?_) (fun c13 => ?_)
                  · refine x_iconst B dX11_liked_118 ?_
                    refine y_ri B hQ h (by decide) dX11_liked_119 ?_
                    exact ⟨rfl, _, rfl, (by first | omega | trivial | assumption)⟩
                  · refine x_iconst B dX11_liked_114 ?_
                    refine lv_goto (tgt := 119) B.1 B.2.1 dX11_liked_115 (by decide) ?_
                    refine y_ri B hQ h (by decide) dX11_liked_119 ?_
                    exact ⟨rfl, _, rfl, (by first | omega | trivial | assumption)⟩
                · refine x_iconst B dX11_liked_103 ?_
                  refine lv_goto (tgt := 119) B.1 B.2.1 dX11_liked_104 (by decide) ?_
                  refine y_ri B hQ h (by decide) dX11_liked_119 ?_
                  exact ⟨rfl, _, rfl, (by first | omega | trivial | assumption)⟩
              refine x_tout B (tgt := 120) (by omega) dX11_liked_60 (by decide) ?_
              refine lv_iload B.1 B.2.1 dX11_liked_120 (lv_at hl 1 rfl) ?_
              refine x_if_le B (by omega) (tgt := 129) dX11_liked_122 (by decide) (fun c14 => ?_) (fun c14 => ?_)
              · refine lv_aload_n B.1 B.2.1 dX11_liked_129 rfl (lv_at hl 2 rfl) ?_
                refine lv_iload_n B.1 B.2.1 dX11_liked_130 rfl (lv_at hl 3 rfl) ?_
                refine x_iconst B dX11_liked_131 ?_
                refine x_bipush B (by decide) dX11_liked_132 ?_
                refine y_cV B h kX11 0 (CW.f hC 0 _ rfl) k_X11_timesWritten rfl (c_X11_timesWritten l D Zk ca T G u ad _ hC o 0 12  (by omega) (by omega) (by omega)) m_1046 rfl (by decide) hl.1 [] (Nat.le_of_ble_eq_true rfl) rfl dX11_liked_134 (fun r w1 hq H locs h => ?_)
                obtain ⟨rfl, z15, rfl, hz15⟩ := hq
                show W p l e r_c_X11_liked s m args below meth c _ _ 0 0 Qf (F0 m 137 ls [.int (iI z15)])
                refine lv_iload B.1 B.2.1 dX11_liked_137 (lv_at hl 0 rfl) ?_
                refine y_cS B h k_X11_odds (c_X11_odds l D Zk ca _ z15 ((z8 - z7))  (by omega) (by omega)) m_1051 rfl (by decide) hl.1 [] (Nat.le_of_ble_eq_true rfl) rfl dX11_liked_139 (fun r w1 hq H locs h => ?_)
                obtain ⟨rfl, z16, rfl, hz16⟩ := hq
                show W p l e r_c_X11_liked s m args below meth c _ _ 0 0 Qf (F0 m 142 ls [.int (iI z16)])
                refine y_ri B hQ h (by decide) dX11_liked_142 ?_
                exact ⟨rfl, _, rfl, (by first | omega | trivial | assumption)⟩
              · refine x_iconst B dX11_liked_125 ?_
                refine lv_goto (tgt := 142) B.1 B.2.1 dX11_liked_126 (by decide) ?_
                refine y_ri B hQ h (by decide) dX11_liked_142 ?_
                exact ⟨rfl, _, rfl, (by first | omega | trivial | assumption)⟩
            · exact absurd c6 (by omega)
          · show W p l e r_c_X11_liked s m args below meth c _ _ 0 0 Qf (F0 m 27 ls [.int (iI 0)])
            refine x_if_ne B (by omega) (tgt := 34) dX11_liked_27 (by decide) (fun c17 => ?_) (fun c17 => ?_)
            · exact absurd c17 (by omega)
            · refine x_sipush B (by decide) dX11_liked_30 ?_
              refine y_ri B hQ h (by decide) dX11_liked_33 ?_
              exact ⟨rfl, _, rfl, (by first | omega | trivial | assumption)⟩
  · show W p l e r_c_X11_liked s m args below meth c _ _ 0 0 Qf (F0 m 8 ls [.int (iI 0)])
    refine x_if_eq B (by omega) (tgt := 30) dX11_liked_8 (by decide) (fun c18 => ?_) (fun c18 => ?_)
    · refine x_sipush B (by decide) dX11_liked_30 ?_
      refine y_ri B hQ h (by decide) dX11_liked_33 ?_
      exact ⟨rfl, _, rfl, (by first | omega | trivial | assumption)⟩
    · exact absurd c18 (by omega)
abbrev r_c_X11_wind : Room := { frames := 6, cells := 0, slots := 0, locals := 153 }
set_option maxHeartbeats 4000000 in
set_option maxRecDepth 100000 in
theorem c_X11_wind (l : Launch) (D : va_G) (Zk : yK) (ca : Nat → ClassId) (T : Nat → Int → Int) (G : Nat → Int → Nat) (u : Int) (ad : Nat → Nat) (w : yW) (hC : CW ca T G u ad w) (year : Int) (what : Int)  (hyear : xr year) (hwhat : xr what) : yC l D Zk ca yX11_wind cX11_wind 3 (some .int) r_c_X11_wind [.ref (ad 0), .int (iI year), .int (iI what)] w (vI w (fun z => xr z)) := by
  refine yC.of2 "WindWords" (by decide) rfl (Nat.le_of_ble_eq_true rfl) ?_
  intro p e s m args below meth c A ls Qf B hnm h hl hQ
  have hl : lv_has ls 3 [(0, .ref (ad 0)), (1, .int (iI year)), (2, .int (iI what))] := hl
  have hs := pi_s (CW.pi hC)
  refine lv_iload_n B.1 B.2.1 dX11_wind_0 rfl (lv_at hl 1 rfl) ?_
  refine x_bipush B (by decide) dX11_wind_1 ?_
  refine y_cS B h k_X11_within (c_X11_within l D Zk ca _ year 9  (by omega) (by omega)) m_431 rfl (by decide) hl.1 [] (Nat.le_of_ble_eq_true rfl) rfl dX11_wind_3 (fun r w1 hq H locs h => ?_)
  obtain ⟨rfl, _, rfl, ⟨rfl, b1⟩ | ⟨rfl, b1⟩⟩ := hq
  · show W p l e r_c_X11_wind s m args below meth c _ _ 0 0 Qf (F0 m 6 ls [.int (iI 1)])
    refine x_if_eq B (by omega) (tgt := 35) dX11_wind_6 (by decide) (fun c2 => ?_) (fun c2 => ?_)
    · exact absurd c2 (by omega)
    · refine lv_iload_n B.1 B.2.1 dX11_wind_9 rfl (lv_at hl 2 rfl) ?_
      refine x_iconst B dX11_wind_10 ?_
      refine y_cS B h k_X11_within (c_X11_within l D Zk ca _ what 2  (by omega) (by omega)) m_431 rfl (by decide) hl.1 [] (Nat.le_of_ble_eq_true rfl) rfl dX11_wind_11 (fun r w1 hq H locs h => ?_)
      obtain ⟨rfl, _, rfl, ⟨rfl, b3⟩ | ⟨rfl, b3⟩⟩ := hq
      · show W p l e r_c_X11_wind s m args below meth c _ _ 0 0 Qf (F0 m 14 ls [.int (iI 1)])
        refine x_if_eq B (by omega) (tgt := 35) dX11_wind_14 (by decide) (fun c4 => ?_) (fun c4 => ?_)
        · exact absurd c4 (by omega)
        · refine lv_aload_n B.1 B.2.1 dX11_wind_17 rfl (lv_at hl 0 rfl) ?_
          refine y_getR B h kX11 0 (CW.f hC 0 _ rfl) 2 (b := ad 12) rfl m_363 (by decide) dX11_wind_18 ?_
          refine lv_aload_n B.1 B.2.1 dX11_wind_21 rfl (lv_at hl 0 rfl) ?_
          refine y_getR B h kX11 0 (CW.f hC 0 _ rfl) 0 (b := ad 1) rfl m_361 (by decide) dX11_wind_22 ?_
          refine lv_aload_n B.1 B.2.1 dX11_wind_25 rfl (lv_at hl 0 rfl) ?_
          refine y_getR B h kX11 0 (CW.f hC 0 _ rfl) 1 (b := ad 4) rfl m_362 (by decide) dX11_wind_26 ?_
          refine y_cV B h kX3 12 (CW.f hC 12 _ rfl) k_X3_solve rfl (c_X3_solve l D Zk ca T G u ad _ hC   ) m_971 rfl (by decide) hl.1 [] (Nat.le_of_ble_eq_true rfl) rfl dX11_wind_29 (fun r w1 hq H locs h => ?_)
          obtain ⟨rfl, _, rfl, ⟨rfl, b5⟩ | ⟨rfl, b5⟩⟩ := hq
          · show W p l e r_c_X11_wind s m args below meth c _ _ 0 0 Qf (F0 m 32 ls [.int (iI 1)])
            refine x_if_ne B (by omega) (tgt := 37) dX11_wind_32 (by decide) (fun c6 => ?_) (fun c6 => ?_)
            · refine lv_aload_n B.1 B.2.1 dX11_wind_37 rfl (lv_at hl 0 rfl) ?_
              refine y_getR B h kX11 0 (CW.f hC 0 _ rfl) 3 (b := ad 14) rfl m_364 (by decide) dX11_wind_38 ?_
              refine lv_iload_n B.1 B.2.1 dX11_wind_41 rfl (lv_at hl 1 rfl) ?_
              refine lv_aload_n B.1 B.2.1 dX11_wind_42 rfl (lv_at hl 0 rfl) ?_
              refine y_getR B h kX11 0 (CW.f hC 0 _ rfl) 0 (b := ad 1) rfl m_361 (by decide) dX11_wind_43 ?_
              refine lv_aload_n B.1 B.2.1 dX11_wind_46 rfl (lv_at hl 0 rfl) ?_
              refine y_getR B h kX11 0 (CW.f hC 0 _ rfl) 1 (b := ad 4) rfl m_362 (by decide) dX11_wind_47 ?_
              refine lv_aload_n B.1 B.2.1 dX11_wind_50 rfl (lv_at hl 0 rfl) ?_
              refine y_getR B h kX11 0 (CW.f hC 0 _ rfl) 2 (b := ad 12) rfl m_363 (by decide) dX11_wind_51 ?_
              refine y_cV B h kX10 14 (CW.f hC 14 _ rfl) k_X10_gather rfl (c_X10_gather l D Zk ca T G u ad _ hC year  (by omega)) m_1059 rfl (by decide) hl.1 [] (Nat.le_of_ble_eq_true rfl) rfl dX11_wind_54 (fun r w1 hq H locs h => ?_)
              obtain ⟨rfl, rfl⟩ := hq
              show W p l e r_c_X11_wind s m args below meth c _ _ 0 0 Qf (F0 m 57 ls [])
              refine lv_iload_n B.1 B.2.1 dX11_wind_57 rfl (lv_at hl 2 rfl) ?_
              refine x_if_ne B (by omega) (tgt := 69) dX11_wind_58 (by decide) (fun c7 => ?_) (fun c7 => ?_)
              · refine lv_aload_n B.1 B.2.1 dX11_wind_69 rfl (lv_at hl 0 rfl) ?_
                refine y_getR B h kX11 0 (CW.f hC 0 _ rfl) 3 (b := ad 14) rfl m_364 (by decide) dX11_wind_70 ?_
                obtain ⟨z8, z8a, z8b, h⟩ := yH.pin h (CW.f hC 14 _ rfl) 3 (lo := (-2147483648)) (hi := 2147483647) rfl
                have h : yH D Zk A s ((wu w 14 (ad 14, xO 10 [fR (ad 15), fR (ad 16), fR (ad 17), fX z8, fG (-2147483648) 2147483647, fG (-2147483648) 2147483647, fG 0 10]))) _ _ := h
                refine y_getX B h kX10 14 wu_eq 3 (z := z8) rfl m_234 (by decide) dX11_wind_73 ?_
                refine x_if_ne B (by omega) (tgt := 81) dX11_wind_76 (by decide) (fun c9 => ?_) (fun c9 => ?_)
                · refine lv_iload_n B.1 B.2.1 dX11_wind_81 rfl (lv_at hl 2 rfl) ?_
                  refine x_iconst B dX11_wind_82 ?_
                  refine x_icmp_ne B (by omega) (tgt := 96) dX11_wind_83 (by decide) (fun c10 => ?_) (fun c10 => ?_)
                  · refine lv_aload_n B.1 B.2.1 dX11_wind_96 rfl (lv_at hl 0 rfl) ?_
                    refine y_getR B h kX11 0 (wu_at (CW.f hC 0 _ rfl) (by decide)) 3 (b := ad 14) rfl m_364 (by decide) dX11_wind_97 ?_
                    refine y_getG B h kX10 14 wu_eq 5 (lo := (-2147483648)) (hi := 2147483647) rfl m_238 (by decide) dX11_wind_100 (fun z11 z11a z11b => ?_)
                    refine lv_aload_n B.1 B.2.1 dX11_wind_103 rfl (lv_at hl 0 rfl) ?_
                    refine y_getR B h kX11 0 (wu_at (CW.f hC 0 _ rfl) (by decide)) 3 (b := ad 14) rfl m_364 (by decide) dX11_wind_104 ?_
                    refine y_getX B h kX10 14 wu_eq 3 (z := z8) rfl m_234 (by decide) dX11_wind_107 ?_
                    refine lv_idiv B.1 B.2.1 dX11_wind_110 (iI_ne0 (by omega)) ?_
                    refine x_name (fun z12 hz12 ez12 => ?_)
                    have h : yH D Zk A s w _ _ := yH.unpin h (CW.f hC 14 _ rfl) (xO_le (fLe_cons (fun _ x => x) (fLe_cons (fun _ x => x) (fLe_cons (fun _ x => x) (fLe_cons (fX_G (by omega)) (fLe_cons (fun _ x => x) (fLe_cons (fun _ x => x) (fLe_cons (fun _ x => x) fLe_nil))))))))
                    refine y_ri B hQ h (by decide) dX11_wind_111 ?_
                    exact ⟨rfl, _, rfl, (by first | omega | trivial | assumption)⟩
                  · refine lv_aload_n B.1 B.2.1 dX11_wind_86 rfl (lv_at hl 0 rfl) ?_
                    refine y_getR B h kX11 0 (wu_at (CW.f hC 0 _ rfl) (by decide)) 3 (b := ad 14) rfl m_364 (by decide) dX11_wind_87 ?_
                    refine y_getG B h kX10 14 wu_eq 4 (lo := (-2147483648)) (hi := 2147483647) rfl m_236 (by decide) dX11_wind_90 (fun z13 z13a z13b => ?_)
                    refine lv_goto (tgt := 103) B.1 B.2.1 dX11_wind_93 (by decide) ?_
                    refine lv_aload_n B.1 B.2.1 dX11_wind_103 rfl (lv_at hl 0 rfl) ?_
                    refine y_getR B h kX11 0 (wu_at (CW.f hC 0 _ rfl) (by decide)) 3 (b := ad 14) rfl m_364 (by decide) dX11_wind_104 ?_
                    refine y_getX B h kX10 14 wu_eq 3 (z := z8) rfl m_234 (by decide) dX11_wind_107 ?_
                    refine lv_idiv B.1 B.2.1 dX11_wind_110 (iI_ne0 (by omega)) ?_
                    refine x_name (fun z14 hz14 ez14 => ?_)
                    have h : yH D Zk A s w _ _ := yH.unpin h (CW.f hC 14 _ rfl) (xO_le (fLe_cons (fun _ x => x) (fLe_cons (fun _ x => x) (fLe_cons (fun _ x => x) (fLe_cons (fX_G (by omega)) (fLe_cons (fun _ x => x) (fLe_cons (fun _ x => x) (fLe_cons (fun _ x => x) fLe_nil))))))))
                    refine y_ri B hQ h (by decide) dX11_wind_111 ?_
                    exact ⟨rfl, _, rfl, (by first | omega | trivial | assumption)⟩
                · refine x_iconst B dX11_wind_79 ?_
                  have h : yH D Zk A s w _ _ := yH.unpin h (CW.f hC 14 _ rfl) (xO_le (fLe_cons (fun _ x => x) (fLe_cons (fun _ x => x) (fLe_cons (fun _ x => x) (fLe_cons (fX_G (by omega)) (fLe_cons (fun _ x => x) (fLe_cons (fun _ x => x) (fLe_cons (fun _ x => x) fLe_nil))))))))
                  refine y_ri B hQ h (by decide) dX11_wind_80 ?_
                  exact ⟨rfl, _, rfl, (by first | omega | trivial | assumption)⟩
              · refine lv_aload_n B.1 B.2.1 dX11_wind_61 rfl (lv_at hl 0 rfl) ?_
                refine y_getR B h kX11 0 (CW.f hC 0 _ rfl) 3 (b := ad 14) rfl m_364 (by decide) dX11_wind_62 ?_
                obtain ⟨z15, z15a, z15b, h⟩ := yH.pin h (CW.f hC 14 _ rfl) 3 (lo := (-2147483648)) (hi := 2147483647) rfl
                have h : yH D Zk A s ((wu w 14 (ad 14, xO 10 [fR (ad 15), fR (ad 16), fR (ad 17), fX z15, fG (-2147483648) 2147483647, fG (-2147483648) 2147483647, fG 0 10]))) _ _ := h
                refine y_getX B h kX10 14 wu_eq 3 (z := z15) rfl m_234 (by decide) dX11_wind_65 ?_
                have h : yH D Zk A s w _ _ := yH.unpin h (CW.f hC 14 _ rfl) (xO_le (fLe_cons (fun _ x => x) (fLe_cons (fun _ x => x) (fLe_cons (fun _ x => x) (fLe_cons (fX_G (by omega)) (fLe_cons (fun _ x => x) (fLe_cons (fun _ x => x) (fLe_cons (fun _ x => x) fLe_nil))))))))
                refine y_ri B hQ h (by decide) dX11_wind_68 ?_
                exact ⟨rfl, _, rfl, (by first | omega | trivial | assumption)⟩
            · exact absurd c6 (by omega)
          · show W p l e r_c_X11_wind s m args below meth c _ _ 0 0 Qf (F0 m 32 ls [.int (iI 0)])
            refine x_if_ne B (by omega) (tgt := 37) dX11_wind_32 (by decide) (fun c16 => ?_) (fun c16 => ?_)
            · exact absurd c16 (by omega)
            · refine x_iconst B dX11_wind_35 ?_
              refine y_ri B hQ h (by decide) dX11_wind_36 ?_
              exact ⟨rfl, _, rfl, (by first | omega | trivial | assumption)⟩
      · show W p l e r_c_X11_wind s m args below meth c _ _ 0 0 Qf (F0 m 14 ls [.int (iI 0)])
        refine x_if_eq B (by omega) (tgt := 35) dX11_wind_14 (by decide) (fun c17 => ?_) (fun c17 => ?_)
        · refine x_iconst B dX11_wind_35 ?_
          refine y_ri B hQ h (by decide) dX11_wind_36 ?_
          exact ⟨rfl, _, rfl, (by first | omega | trivial | assumption)⟩
        · exact absurd c17 (by omega)
  · show W p l e r_c_X11_wind s m args below meth c _ _ 0 0 Qf (F0 m 6 ls [.int (iI 0)])
    refine x_if_eq B (by omega) (tgt := 35) dX11_wind_6 (by decide) (fun c18 => ?_) (fun c18 => ?_)
    · refine x_iconst B dX11_wind_35 ?_
      refine y_ri B hQ h (by decide) dX11_wind_36 ?_
      exact ⟨rfl, _, rfl, (by first | omega | trivial | assumption)⟩
    · exact absurd c18 (by omega)
abbrev r_c_X11_grew : Room := { frames := 7, cells := 0, slots := 0, locals := 177 }
set_option maxHeartbeats 4000000 in
set_option maxRecDepth 100000 in
theorem c_X11_grew (l : Launch) (D : va_G) (Zk : yK) (ca : Nat → ClassId) (T : Nat → Int → Int) (G : Nat → Int → Nat) (u : Int) (ad : Nat → Nat) (w : yW) (hC : CW ca T G u ad w) (what : Int)  (hwhat : xr what) : yC l D Zk ca yX11_grew cX11_grew 2 (some .int) r_c_X11_grew [.ref (ad 0), .int (iI what)] w (vI w (fun z => xr z)) := by
  refine yC.of2 "WindWords" (by decide) rfl (Nat.le_of_ble_eq_true rfl) ?_
  intro p e s m args below meth c A ls Qf B hnm h hl hQ
  have hl : lv_has ls 2 [(0, .ref (ad 0)), (1, .int (iI what))] := hl
  have hs := pi_s (CW.pi hC)
  refine lv_iload_n B.1 B.2.1 dX11_grew_0 rfl (lv_at hl 1 rfl) ?_
  refine x_iconst B dX11_grew_1 ?_
  refine y_cS B h k_X11_within (c_X11_within l D Zk ca _ what 3  (by omega) (by omega)) m_431 rfl (by decide) hl.1 [] (Nat.le_of_ble_eq_true rfl) rfl dX11_grew_2 (fun r w1 hq H locs h => ?_)
  obtain ⟨rfl, _, rfl, ⟨rfl, b1⟩ | ⟨rfl, b1⟩⟩ := hq
  · show W p l e r_c_X11_grew s m args below meth c _ _ 0 0 Qf (F0 m 5 ls [.int (iI 1)])
    refine x_if_eq B (by omega) (tgt := 26) dX11_grew_5 (by decide) (fun c2 => ?_) (fun c2 => ?_)
    · exact absurd c2 (by omega)
    · refine lv_aload_n B.1 B.2.1 dX11_grew_8 rfl (lv_at hl 0 rfl) ?_
      refine y_getR B h kX11 0 (CW.f hC 0 _ rfl) 2 (b := ad 12) rfl m_363 (by decide) dX11_grew_9 ?_
      refine lv_aload_n B.1 B.2.1 dX11_grew_12 rfl (lv_at hl 0 rfl) ?_
      refine y_getR B h kX11 0 (CW.f hC 0 _ rfl) 0 (b := ad 1) rfl m_361 (by decide) dX11_grew_13 ?_
      refine lv_aload_n B.1 B.2.1 dX11_grew_16 rfl (lv_at hl 0 rfl) ?_
      refine y_getR B h kX11 0 (CW.f hC 0 _ rfl) 1 (b := ad 4) rfl m_362 (by decide) dX11_grew_17 ?_
      refine y_cV B h kX3 12 (CW.f hC 12 _ rfl) k_X3_solve rfl (c_X3_solve l D Zk ca T G u ad _ hC   ) m_971 rfl (by decide) hl.1 [] (Nat.le_of_ble_eq_true rfl) rfl dX11_grew_20 (fun r w1 hq H locs h => ?_)
      obtain ⟨rfl, _, rfl, ⟨rfl, b3⟩ | ⟨rfl, b3⟩⟩ := hq
      · show W p l e r_c_X11_grew s m args below meth c _ _ 0 0 Qf (F0 m 23 ls [.int (iI 1)])
        refine x_if_ne B (by omega) (tgt := 28) dX11_grew_23 (by decide) (fun c4 => ?_) (fun c4 => ?_)
        · refine lv_aload_n B.1 B.2.1 dX11_grew_28 rfl (lv_at hl 0 rfl) ?_
          refine y_getR B h kX11 0 (CW.f hC 0 _ rfl) 3 (b := ad 14) rfl m_364 (by decide) dX11_grew_29 ?_
          refine lv_aload_n B.1 B.2.1 dX11_grew_32 rfl (lv_at hl 0 rfl) ?_
          refine y_getR B h kX11 0 (CW.f hC 0 _ rfl) 0 (b := ad 1) rfl m_361 (by decide) dX11_grew_33 ?_
          refine lv_aload_n B.1 B.2.1 dX11_grew_36 rfl (lv_at hl 0 rfl) ?_
          refine y_getR B h kX11 0 (CW.f hC 0 _ rfl) 1 (b := ad 4) rfl m_362 (by decide) dX11_grew_37 ?_
          refine lv_aload_n B.1 B.2.1 dX11_grew_40 rfl (lv_at hl 0 rfl) ?_
          refine y_getR B h kX11 0 (CW.f hC 0 _ rfl) 2 (b := ad 12) rfl m_363 (by decide) dX11_grew_41 ?_
          refine y_cV B h kX10 14 (CW.f hC 14 _ rfl) k_X10_gatherValues rfl (c_X10_gatherValues l D Zk ca T G u ad _ hC   ) m_1086 rfl (by decide) hl.1 [] (Nat.le_of_ble_eq_true rfl) rfl dX11_grew_44 (fun r w1 hq H locs h => ?_)
          obtain ⟨rfl, rfl⟩ := hq
          show W p l e r_c_X11_grew s m args below meth c _ _ 0 0 Qf (F0 m 47 ls [])
          refine lv_iload_n B.1 B.2.1 dX11_grew_47 rfl (lv_at hl 1 rfl) ?_
          by_cases t5 : what = 0
          · refine x_tin B (tgt := 76) 0 (by omega) dX11_grew_48 rfl (by decide) ?_
            refine lv_aload_n B.1 B.2.1 dX11_grew_76 rfl (lv_at hl 0 rfl) ?_
            refine y_getR B h kX11 0 (CW.f hC 0 _ rfl) 3 (b := ad 14) rfl m_364 (by decide) dX11_grew_77 ?_
            refine y_cV B h kX10 14 (CW.f hC 14 _ rfl) k_X10_rising rfl (c_X10_rising l D Zk ca T G u ad _ hC   ) m_1091 rfl (by decide) hl.1 [] (Nat.le_of_ble_eq_true rfl) rfl dX11_grew_80 (fun r w1 hq H locs h => ?_)
            obtain ⟨rfl, z6, rfl, hz6⟩ := hq
            show W p l e r_c_X11_grew s m args below meth c _ _ 0 0 Qf (F0 m 83 ls [.int (iI z6)])
            refine y_ri B hQ h (by decide) dX11_grew_83 ?_
            exact ⟨rfl, _, rfl, (by first | omega | trivial | assumption)⟩
          by_cases t7 : what = 1
          · refine x_tin B (tgt := 84) 1 (by omega) dX11_grew_48 rfl (by decide) ?_
            refine lv_aload_n B.1 B.2.1 dX11_grew_84 rfl (lv_at hl 0 rfl) ?_
            refine y_getR B h kX11 0 (CW.f hC 0 _ rfl) 3 (b := ad 14) rfl m_364 (by decide) dX11_grew_85 ?_
            refine lv_aload_n B.1 B.2.1 dX11_grew_88 rfl (lv_at hl 0 rfl) ?_
            refine y_getR B h kX11 0 (CW.f hC 0 _ rfl) 3 (b := ad 14) rfl m_364 (by decide) dX11_grew_89 ?_
            refine y_cV B h kX10 14 (CW.f hC 14 _ rfl) k_X10_rising rfl (c_X10_rising l D Zk ca T G u ad _ hC   ) m_1091 rfl (by decide) hl.1 [.ref (ad 14)] (Nat.le_of_ble_eq_true rfl) rfl dX11_grew_92 (fun r w1 hq H locs h => ?_)
            obtain ⟨rfl, z8, rfl, hz8⟩ := hq
            show W p l e r_c_X11_grew s m args below meth c _ _ 0 0 Qf (F0 m 95 ls [.int (iI z8), .ref (ad 14)])
            refine y_cV B h kX10 14 (CW.f hC 14 _ rfl) k_X10_ordersRising rfl (c_X10_ordersRising l D Zk ca T G u ad _ hC z8  (by omega)) m_1095 rfl (by decide) hl.1 [] (Nat.le_of_ble_eq_true rfl) rfl dX11_grew_95 (fun r w1 hq H locs h => ?_)
            obtain ⟨rfl, z9, rfl, hz9⟩ := hq
            show W p l e r_c_X11_grew s m args below meth c _ _ 0 0 Qf (F0 m 98 ls [.int (iI z9)])
            refine y_ri B hQ h (by decide) dX11_grew_98 ?_
            exact ⟨rfl, _, rfl, (by first | omega | trivial | assumption)⟩
          by_cases t10 : what = 2
          · refine x_tin B (tgt := 99) 2 (by omega) dX11_grew_48 rfl (by decide) ?_
            refine lv_aload_n B.1 B.2.1 dX11_grew_99 rfl (lv_at hl 0 rfl) ?_
            refine y_getR B h kX11 0 (CW.f hC 0 _ rfl) 3 (b := ad 14) rfl m_364 (by decide) dX11_grew_100 ?_
            refine x_iconst B dX11_grew_103 ?_
            refine y_cV B h kX10 14 (CW.f hC 14 _ rfl) k_X10_ordersRising rfl (c_X10_ordersRising l D Zk ca T G u ad _ hC 0  (by omega)) m_1095 rfl (by decide) hl.1 [] (Nat.le_of_ble_eq_true rfl) rfl dX11_grew_104 (fun r w1 hq H locs h => ?_)
            obtain ⟨rfl, z11, rfl, hz11⟩ := hq
            show W p l e r_c_X11_grew s m args below meth c _ _ 0 0 Qf (F0 m 107 ls [.int (iI z11)])
            refine y_ri B hQ h (by decide) dX11_grew_107 ?_
            exact ⟨rfl, _, rfl, (by first | omega | trivial | assumption)⟩
          refine x_tout B (tgt := 108) (by omega) dX11_grew_48 (by decide) ?_
          refine lv_aload_n B.1 B.2.1 dX11_grew_108 rfl (lv_at hl 0 rfl) ?_
          refine y_getR B h kX11 0 (CW.f hC 0 _ rfl) 3 (b := ad 14) rfl m_364 (by decide) dX11_grew_109 ?_
          refine y_getG B h kX10 14 (CW.f hC 14 _ rfl) 6 (lo := 0) (hi := 10) rfl m_240 (by decide) dX11_grew_112 (fun z12 z12a z12b => ?_)
          refine y_ri B hQ h (by decide) dX11_grew_115 ?_
          exact ⟨rfl, _, rfl, (by first | omega | trivial | assumption)⟩
        · exact absurd c4 (by omega)
      · show W p l e r_c_X11_grew s m args below meth c _ _ 0 0 Qf (F0 m 23 ls [.int (iI 0)])
        refine x_if_ne B (by omega) (tgt := 28) dX11_grew_23 (by decide) (fun c13 => ?_) (fun c13 => ?_)
        · exact absurd c13 (by omega)
        · refine x_iconst B dX11_grew_26 ?_
          refine y_ri B hQ h (by decide) dX11_grew_27 ?_
          exact ⟨rfl, _, rfl, (by first | omega | trivial | assumption)⟩
  · show W p l e r_c_X11_grew s m args below meth c _ _ 0 0 Qf (F0 m 5 ls [.int (iI 0)])
    refine x_if_eq B (by omega) (tgt := 26) dX11_grew_5 (by decide) (fun c14 => ?_) (fun c14 => ?_)
    · refine x_iconst B dX11_grew_26 ?_
      refine y_ri B hQ h (by decide) dX11_grew_27 ?_
      exact ⟨rfl, _, rfl, (by first | omega | trivial | assumption)⟩
    · exact absurd c14 (by omega)
abbrev r_c_X11_late : Room := { frames := 6, cells := 0, slots := 0, locals := 148 }
set_option maxHeartbeats 4000000 in
set_option maxRecDepth 100000 in
theorem c_X11_late (l : Launch) (D : va_G) (Zk : yK) (ca : Nat → ClassId) (T : Nat → Int → Int) (G : Nat → Int → Nat) (u : Int) (ad : Nat → Nat) (w : yW) (hC : CW ca T G u ad w) (what : Int)  (hwhat : xr what) : yC l D Zk ca yX11_late cX11_late 3 (some .int) r_c_X11_late [.ref (ad 0), .int (iI what)] w (vI w (fun z => xr z)) := by
  refine yC.of2 "WindWords" (by decide) rfl (Nat.le_of_ble_eq_true rfl) ?_
  intro p e s m args below meth c A ls Qf B hnm h hl hQ
  have hl : lv_has ls 3 [(0, .ref (ad 0)), (1, .int (iI what))] := hl
  have hs := pi_s (CW.pi hC)
  refine lv_aload_n B.1 B.2.1 dX11_late_0 rfl (lv_at hl 0 rfl) ?_
  refine y_cV B h kX11 0 (CW.f hC 0 _ rfl) k_X11_gatherLags rfl (c_X11_gatherLags l D Zk ca T G u ad _ hC   ) m_1104 rfl (by decide) hl.1 [] (Nat.le_of_ble_eq_true rfl) rfl dX11_late_1 (fun r w1 hq H locs h => ?_)
  obtain ⟨rfl, rfl⟩ := hq
  show W p l e r_c_X11_late s m args below meth c _ _ 0 0 Qf (F0 m 4 ls [])
  refine lv_aload_n B.1 B.2.1 dX11_late_4 rfl (lv_at hl 0 rfl) ?_
  refine y_cV B h kX11 0 (CW.f hC 0 _ rfl) k_X11_bestLag rfl (c_X11_bestLag l D Zk ca T G u ad _ hC   ) m_1115 rfl (by decide) hl.1 [] (Nat.le_of_ble_eq_true rfl) rfl dX11_late_5 (fun r w1 hq H locs h => ?_)
  obtain ⟨rfl, z1, rfl, hz1⟩ := hq
  show W p l e r_c_X11_late s m args below meth c _ _ 0 0 Qf (F0 m 8 ls [.int (iI z1)])
  refine lv_istore_n (lv' := [(2, .int (iI z1)), (0, .ref (ad 0)), (1, .int (iI what))]) B.1 B.2.1 dX11_late_8 rfl hl (by decide) rfl (fun ls hl => ?_)
  refine lv_iload_n B.1 B.2.1 dX11_late_9 rfl (lv_at hl 2 rfl) ?_
  refine x_iconst B dX11_late_10 ?_
  refine y_cS B h k_X11_within (c_X11_within l D Zk ca _ what 2  (by omega) (by omega)) m_431 rfl (by decide) hl.1 [] (Nat.le_of_ble_eq_true rfl) rfl dX11_late_11 (fun r w1 hq H locs h => ?_)
  obtain ⟨rfl, _, rfl, ⟨rfl, b2⟩ | ⟨rfl, b2⟩⟩ := hq
  · show W p l e r_c_X11_late s m args below meth c _ _ 0 0 Qf (F0 m 14 ls [.int (iI 1)])
    refine x_if_eq B (by omega) (tgt := 53) dX11_late_14 (by decide) (fun c3 => ?_) (fun c3 => ?_)
    · exact absurd c3 (by omega)
    · refine lv_iload_n B.1 B.2.1 dX11_late_17 rfl (lv_at hl 0 rfl) ?_
      refine x_iconst B dX11_late_18 ?_
      refine x_icmp_ne B (by omega) (tgt := 24) dX11_late_19 (by decide) (fun c4 => ?_) (fun c4 => ?_)
      · refine lv_iload_n B.1 B.2.1 dX11_late_24 rfl (lv_at hl 2 rfl) ?_
        refine x_if_ne B (by omega) (tgt := 32) dX11_late_25 (by decide) (fun c5 => ?_) (fun c5 => ?_)
        · refine lv_iload_n B.1 B.2.1 dX11_late_32 rfl (lv_at hl 2 rfl) ?_
          refine x_iconst B dX11_late_33 ?_
          refine x_icmp_ne B (by omega) (tgt := 46) dX11_late_34 (by decide) (fun c6 => ?_) (fun c6 => ?_)
          · refine lv_aload_n B.1 B.2.1 dX11_late_46 rfl (lv_at hl 1 rfl) ?_
            refine y_getR B h kX11 0 (CW.f hC 0 _ rfl) 14 (b := ad 34) rfl m_375 (by decide) dX11_late_47 ?_
            refine lv_iload_n B.1 B.2.1 dX11_late_50 rfl (lv_at hl 0 rfl) ?_
            refine y_iald B h 34 (CW.f hC 34 _ rfl) (by omega) dX11_late_51 (fun fz7 hfz7 => ?_)
            refine x_name (fun z7 hz7 ez7 => ?_)
            refine y_ri B hQ h (by decide) dX11_late_52 ?_
            exact ⟨rfl, _, rfl, (by first | omega | trivial | assumption)⟩
          · refine lv_aload_n B.1 B.2.1 dX11_late_37 rfl (lv_at hl 1 rfl) ?_
            refine y_getR B h kX11 0 (CW.f hC 0 _ rfl) 13 (b := ad 33) rfl m_374 (by decide) dX11_late_38 ?_
            refine lv_iload_n B.1 B.2.1 dX11_late_41 rfl (lv_at hl 0 rfl) ?_
            refine y_iald B h 33 (CW.f hC 33 _ rfl) (by omega) dX11_late_42 (fun fz8 hfz8 => ?_)
            refine x_name (fun z8 hz8 ez8 => ?_)
            refine lv_goto (tgt := 52) B.1 B.2.1 dX11_late_43 (by decide) ?_
            refine y_ri B hQ h (by decide) dX11_late_52 ?_
            exact ⟨rfl, _, rfl, (by first | omega | trivial | assumption)⟩
        · refine lv_iload_n B.1 B.2.1 dX11_late_28 rfl (lv_at hl 0 rfl) ?_
          refine lv_goto (tgt := 52) B.1 B.2.1 dX11_late_29 (by decide) ?_
          refine y_ri B hQ h (by decide) dX11_late_52 ?_
          exact ⟨rfl, _, rfl, (by first | omega | trivial | assumption)⟩
      · refine x_iconst B dX11_late_22 ?_
        refine y_ri B hQ h (by decide) dX11_late_23 ?_
        exact ⟨rfl, _, rfl, (by first | omega | trivial | assumption)⟩
  · show W p l e r_c_X11_late s m args below meth c _ _ 0 0 Qf (F0 m 14 ls [.int (iI 0)])
    refine x_if_eq B (by omega) (tgt := 53) dX11_late_14 (by decide) (fun c9 => ?_) (fun c9 => ?_)
    · refine lv_iload_n B.1 B.2.1 dX11_late_53 rfl (lv_at hl 2 rfl) ?_
      refine x_bipush B (by decide) dX11_late_54 ?_
      refine x_icmp_lt B (by omega) (tgt := 78) dX11_late_56 (by decide) (fun c10 => ?_) (fun c10 => ?_)
      · refine lv_iload_n B.1 B.2.1 dX11_late_78 rfl (lv_at hl 2 rfl) ?_
        refine x_bipush B (by decide) dX11_late_79 ?_
        refine x_icmp_lt B (by omega) (tgt := 103) dX11_late_81 (by decide) (fun c11 => ?_) (fun c11 => ?_)
        · refine x_iconst B dX11_late_103 ?_
          refine y_ri B hQ h (by decide) dX11_late_104 ?_
          exact ⟨rfl, _, rfl, (by first | omega | trivial | assumption)⟩
        · refine lv_iload_n B.1 B.2.1 dX11_late_84 rfl (lv_at hl 2 rfl) ?_
          refine x_bipush B (by decide) dX11_late_85 ?_
          refine x_isub B dX11_late_87 ?_
          refine x_bipush B (by decide) dX11_late_88 ?_
          refine x_icmp_ge B (by omega) (tgt := 103) dX11_late_90 (by decide) (fun c12 => ?_) (fun c12 => ?_)
          · refine x_iconst B dX11_late_103 ?_
            refine y_ri B hQ h (by decide) dX11_late_104 ?_
            exact ⟨rfl, _, rfl, (by first | omega | trivial | assumption)⟩
          · refine lv_aload_n B.1 B.2.1 dX11_late_93 rfl (lv_at hl 1 rfl) ?_
            refine y_getR B h kX11 0 (CW.f hC 0 _ rfl) 14 (b := ad 34) rfl m_375 (by decide) dX11_late_94 ?_
            refine lv_iload_n B.1 B.2.1 dX11_late_97 rfl (lv_at hl 2 rfl) ?_
            refine x_bipush B (by decide) dX11_late_98 ?_
            refine x_isub B dX11_late_100 ?_
            refine y_iald B h 34 (CW.f hC 34 _ rfl) (by omega) dX11_late_101 (fun fz13 hfz13 => ?_)
            refine x_name (fun z13 hz13 ez13 => ?_)
            refine y_ri B hQ h (by decide) dX11_late_102 ?_
            exact ⟨rfl, _, rfl, (by first | omega | trivial | assumption)⟩
      · refine lv_iload_n B.1 B.2.1 dX11_late_59 rfl (lv_at hl 2 rfl) ?_
        refine x_bipush B (by decide) dX11_late_60 ?_
        refine x_isub B dX11_late_62 ?_
        refine x_bipush B (by decide) dX11_late_63 ?_
        refine x_icmp_ge B (by omega) (tgt := 78) dX11_late_65 (by decide) (fun c14 => ?_) (fun c14 => ?_)
        · refine lv_iload_n B.1 B.2.1 dX11_late_78 rfl (lv_at hl 2 rfl) ?_
          refine x_bipush B (by decide) dX11_late_79 ?_
          refine x_icmp_lt B (by omega) (tgt := 103) dX11_late_81 (by decide) (fun c15 => ?_) (fun c15 => ?_)
          · refine x_iconst B dX11_late_103 ?_
            refine y_ri B hQ h (by decide) dX11_late_104 ?_
            exact ⟨rfl, _, rfl, (by first | omega | trivial | assumption)⟩
          · refine lv_iload_n B.1 B.2.1 dX11_late_84 rfl (lv_at hl 2 rfl) ?_
            refine x_bipush B (by decide) dX11_late_85 ?_
            refine x_isub B dX11_late_87 ?_
            refine x_bipush B (by decide) dX11_late_88 ?_
            refine x_icmp_ge B (by omega) (tgt := 103) dX11_late_90 (by decide) (fun c16 => ?_) (fun c16 => ?_)
            · refine x_iconst B dX11_late_103 ?_
              refine y_ri B hQ h (by decide) dX11_late_104 ?_
              exact ⟨rfl, _, rfl, (by first | omega | trivial | assumption)⟩
            · refine lv_aload_n B.1 B.2.1 dX11_late_93 rfl (lv_at hl 1 rfl) ?_
              refine y_getR B h kX11 0 (CW.f hC 0 _ rfl) 14 (b := ad 34) rfl m_375 (by decide) dX11_late_94 ?_
              refine lv_iload_n B.1 B.2.1 dX11_late_97 rfl (lv_at hl 2 rfl) ?_
              refine x_bipush B (by decide) dX11_late_98 ?_
              refine x_isub B dX11_late_100 ?_
              refine y_iald B h 34 (CW.f hC 34 _ rfl) (by omega) dX11_late_101 (fun fz17 hfz17 => ?_)
              refine x_name (fun z17 hz17 ez17 => ?_)
              refine y_ri B hQ h (by decide) dX11_late_102 ?_
              exact ⟨rfl, _, rfl, (by first | omega | trivial | assumption)⟩
        · refine lv_aload_n B.1 B.2.1 dX11_late_68 rfl (lv_at hl 1 rfl) ?_
          refine y_getR B h kX11 0 (CW.f hC 0 _ rfl) 13 (b := ad 33) rfl m_374 (by decide) dX11_late_69 ?_
          refine lv_iload_n B.1 B.2.1 dX11_late_72 rfl (lv_at hl 2 rfl) ?_
          refine x_bipush B (by decide) dX11_late_73 ?_
          refine x_isub B dX11_late_75 ?_
          refine y_iald B h 33 (CW.f hC 33 _ rfl) (by omega) dX11_late_76 (fun fz18 hfz18 => ?_)
          refine x_name (fun z18 hz18 ez18 => ?_)
          refine y_ri B hQ h (by decide) dX11_late_77 ?_
          exact ⟨rfl, _, rfl, (by first | omega | trivial | assumption)⟩
    · exact absurd c9 (by omega)
abbrev r_c_X11_copied : Room := { frames := 6, cells := 0, slots := 0, locals := 129 }
set_option maxHeartbeats 4000000 in
set_option maxRecDepth 100000 in
theorem c_X11_copied (l : Launch) (D : va_G) (Zk : yK) (ca : Nat → ClassId) (T : Nat → Int → Int) (G : Nat → Int → Nat) (u : Int) (ad : Nat → Nat) (w : yW) (hC : CW ca T G u ad w) (ship : Int) (what : Int)  (hship : xr ship) (hwhat : xr what) : yC l D Zk ca yX11_copied cX11_copied 6 (some .int) r_c_X11_copied [.ref (ad 0), .int (iI ship), .int (iI what)] w (vI w (fun z => xr z)) := by
  refine yC.of2 "WindWords" (by decide) rfl (Nat.le_of_ble_eq_true rfl) ?_
  intro p e s m args below meth c A ls Qf B hnm h hl hQ
  have hl : lv_has ls 6 [(0, .ref (ad 0)), (1, .int (iI ship)), (2, .int (iI what))] := hl
  have hs := pi_s (CW.pi hC)
  refine lv_aload_n B.1 B.2.1 dX11_copied_0 rfl (lv_at hl 0 rfl) ?_
  refine y_getR B h kX11 0 (CW.f hC 0 _ rfl) 0 (b := ad 1) rfl m_361 (by decide) dX11_copied_1 ?_
  refine lv_iload_n B.1 B.2.1 dX11_copied_4 rfl (lv_at hl 1 rfl) ?_
  refine y_cV B h kX0 1 (CW.f hC 1 _ rfl) k_X0_shipAt rfl (c_X0_shipAt l D Zk ca T G u ad _ hC ship  (by omega)) m_481 rfl (by decide) hl.1 [] (Nat.le_of_ble_eq_true rfl) rfl dX11_copied_5 (fun r w1 hq H locs h => ?_)
  obtain ⟨rfl, _, rfl, ⟨rfl, q1⟩ | ⟨rfl, q1⟩⟩ := hq
  · show W p l e r_c_X11_copied s m args below meth c _ _ 0 0 Qf (F0 m 8 ls [.null])
    refine lv_ifnullN (tgt := 19) B.1 B.2.1 dX11_copied_8 (by decide) ?_
    refine x_iconst B dX11_copied_19 ?_
    refine y_ri B hQ h (by decide) dX11_copied_20 ?_
    exact ⟨rfl, _, rfl, (by first | omega | trivial | assumption)⟩
  · have fo2 := CW.sh hC ship (by omega)
    show W p l e r_c_X11_copied s m args below meth c _ _ 0 0 Qf (F0 m 8 ls [.ref (G 1 ship)])
    refine lv_ifnull B.1 B.2.1 dX11_copied_8 ?_
    refine lv_iload_n B.1 B.2.1 dX11_copied_11 rfl (lv_at hl 2 rfl) ?_
    refine x_iconst B dX11_copied_12 ?_
    refine y_cS B h k_X11_within (c_X11_within l D Zk ca _ what 2  (by omega) (by omega)) m_431 rfl (by decide) hl.1 [] (Nat.le_of_ble_eq_true rfl) rfl dX11_copied_13 (fun r w1 hq H locs h => ?_)
    obtain ⟨rfl, _, rfl, ⟨rfl, b3⟩ | ⟨rfl, b3⟩⟩ := hq
    · show W p l e r_c_X11_copied s m args below meth c _ _ 0 0 Qf (F0 m 16 ls [.int (iI 1)])
      refine x_if_ne B (by omega) (tgt := 21) dX11_copied_16 (by decide) (fun c4 => ?_) (fun c4 => ?_)
      · refine x_iconst B dX11_copied_21 ?_
        refine lv_istore_n (lv' := [(3, .int (iI 0)), (0, .ref (ad 0)), (1, .int (iI ship)), (2, .int (iI what))]) B.1 B.2.1 dX11_copied_22 rfl hl (by decide) rfl (fun ls hl => ?_)
        refine x_iconst B dX11_copied_23 ?_
        refine lv_istore (lv' := [(4, .int (iI 0)), (3, .int (iI 0)), (0, .ref (ad 0)), (1, .int (iI ship)), (2, .int (iI what))]) B.1 B.2.1 dX11_copied_24 hl (by decide) rfl (fun ls hl => ?_)
        have loop26 : ∀ (n26 : Nat) (m_ : Int) (k : Int), (0 ≤ m_ ∧ m_ ≤ k) → (0 ≤ k ∧ k ≤ 300) → ((300 - k : Int)).toNat < n26 → ∀ (H : Heap) (locs : List Loc) (ls : Array Slot), yH D Zk A s w H locs → lv_has ls 6 [(4, .int (iI k)), (3, .int (iI m_)), (0, .ref (ad 0)), (1, .int (iI ship)), (2, .int (iI what))] → W p l e r_c_X11_copied s m args below meth c H locs 0 0 Qf (F0 m 26 ls []) := by
          intro n26
          induction n26 with
          | zero =>
            intro m_ k h0 h1 hm26 H locs ls h hl
            exact absurd hm26 (Nat.not_lt_zero _)
          | succ n26 ih26 =>
            intro m_ k h0 h1 hm26 H locs ls h hl
            refine lv_iload B.1 B.2.1 dX11_copied_26 (lv_at hl 0 rfl) ?_
            refine lv_aload_n B.1 B.2.1 dX11_copied_28 rfl (lv_at hl 2 rfl) ?_
            refine y_getR B h kX11 0 (CW.f hC 0 _ rfl) 0 (b := ad 1) rfl m_361 (by decide) dX11_copied_29 ?_
            refine y_getX B h kX0 1 (CW.f hC 1 _ rfl) 5 (z := (T 0 2)) rfl m_149 (by decide) dX11_copied_32 ?_
            refine x_icmp_ge B (by omega) (tgt := 115) dX11_copied_35 (by decide) (fun c5 => ?_) (fun c5 => ?_)
            · refine lv_iload_n B.1 B.2.1 dX11_copied_115 rfl (lv_at hl 1 rfl) ?_
              refine y_ri B hQ h (by decide) dX11_copied_116 ?_
              exact ⟨rfl, _, rfl, (by first | omega | trivial | assumption)⟩
            · refine lv_aload_n B.1 B.2.1 dX11_copied_38 rfl (lv_at hl 2 rfl) ?_
              refine y_getR B h kX11 0 (CW.f hC 0 _ rfl) 0 (b := ad 1) rfl m_361 (by decide) dX11_copied_39 ?_
              refine lv_iload B.1 B.2.1 dX11_copied_42 (lv_at hl 0 rfl) ?_
              refine y_cV B h kX0 1 (CW.f hC 1 _ rfl) k_X0_readingAt rfl (c_X0_readingAt l D Zk ca T G u ad _ hC k  (by omega)) m_830 rfl (by decide) hl.1 [] (Nat.le_of_ble_eq_true rfl) rfl dX11_copied_44 (fun r w1 hq H locs h => ?_)
              obtain ⟨rfl, _, rfl, ⟨rfl, q6⟩ | ⟨rfl, q6⟩⟩ := hq
              · show W p l e r_c_X11_copied s m args below meth c _ _ 0 0 Qf (F0 m 47 ls [.null])
                refine lv_astoreN (lv' := [(5, .null), (4, .int (iI k)), (3, .int (iI m_)), (0, .ref (ad 0)), (1, .int (iI ship)), (2, .int (iI what))]) B.1 B.2.1 dX11_copied_47 hl (by decide) rfl (fun ls hl => ?_)
                refine lv_aloadN B.1 B.2.1 dX11_copied_49 (lv_at hl 0 rfl) ?_
                refine lv_ifnullN (tgt := 109) B.1 B.2.1 dX11_copied_51 (by decide) ?_
                refine lv_iinc (v := iI (k + 1)) (lv' := [(4, .int (iI (k + 1))), (5, .null), (3, .int (iI m_)), (0, .ref (ad 0)), (1, .int (iI ship)), (2, .int (iI what))]) B.1 B.2.1 dX11_copied_109 hl (k := 1) rfl (iI_add _ _) (by decide) rfl (fun ls hl => ?_)
                refine lv_goto (tgt := 26) B.1 B.2.1 dX11_copied_112 (by decide) ?_
                exact ih26 m_ ((k + 1)) (by omega) (by omega) (by omega) _ _ _ h (lv_sub hl [0, 2, 3, 4, 5] rfl)
              · have fo7 := CW.rd hC k (by omega)
                show W p l e r_c_X11_copied s m args below meth c _ _ 0 0 Qf (F0 m 47 ls [.ref (G 4 k)])
                refine lv_astore (lv' := [(5, .ref (G 4 k)), (4, .int (iI k)), (3, .int (iI m_)), (0, .ref (ad 0)), (1, .int (iI ship)), (2, .int (iI what))]) B.1 B.2.1 dX11_copied_47 hl (by decide) rfl (fun ls hl => ?_)
                refine lv_aload B.1 B.2.1 dX11_copied_49 (lv_at hl 0 rfl) ?_
                refine lv_ifnull B.1 B.2.1 dX11_copied_51 ?_
                refine lv_aload B.1 B.2.1 dX11_copied_54 (lv_at hl 0 rfl) ?_
                refine y_getR B h kX4 (1000 + 16 * k.toNat + 4) fo7 0 (b := G 1 (T 4 k)) rfl m_515 (by decide) dX11_copied_56 ?_
                have tb8 := pi_4 (CW.pi hC) k
                have pn9 := pi_in (CW.pi hC) k (by omega)
                have fo10 := CW.sh hC (T 4 k) (by omega)
                refine y_getX B h kX7 (1000 + 16 * ((T 4 k)).toNat + 1) fo10.1 0 (z := (T 4 k)) rfl m_458 (by decide) dX11_copied_59 ?_
                refine lv_iload_n B.1 B.2.1 dX11_copied_62 rfl (lv_at hl 4 rfl) ?_
                refine x_icmp_ne B (by omega) (tgt := 109) dX11_copied_63 (by decide) (fun c11 => ?_) (fun c11 => ?_)
                · refine lv_iinc (v := iI (k + 1)) (lv' := [(4, .int (iI (k + 1))), (5, .ref (G 4 k)), (3, .int (iI m_)), (0, .ref (ad 0)), (1, .int (iI ship)), (2, .int (iI what))]) B.1 B.2.1 dX11_copied_109 hl (k := 1) rfl (iI_add _ _) (by decide) rfl (fun ls hl => ?_)
                  refine lv_goto (tgt := 26) B.1 B.2.1 dX11_copied_112 (by decide) ?_
                  exact ih26 m_ ((k + 1)) (by omega) (by omega) (by omega) _ _ _ h (lv_sub hl [0, 2, 3, 4, 5] rfl)
                · refine lv_iload_n B.1 B.2.1 dX11_copied_66 rfl (lv_at hl 5 rfl) ?_
                  refine x_if_ne B (by omega) (tgt := 81) dX11_copied_67 (by decide) (fun c12 => ?_) (fun c12 => ?_)
                  · refine lv_iload_n B.1 B.2.1 dX11_copied_81 rfl (lv_at hl 5 rfl) ?_
                    refine x_iconst B dX11_copied_82 ?_
                    refine x_icmp_ne B (by omega) (tgt := 97) dX11_copied_83 (by decide) (fun c13 => ?_) (fun c13 => ?_)
                    · refine lv_aload_n B.1 B.2.1 dX11_copied_97 rfl (lv_at hl 3 rfl) ?_
                      refine lv_aload B.1 B.2.1 dX11_copied_98 (lv_at hl 0 rfl) ?_
                      refine y_cV B h kX11 0 (CW.f hC 0 _ rfl) k_X11_isCopied rfl (c_X11_isCopied l D Zk ca T G u ad _ hC k  (by omega)) m_842 rfl (by decide) hl.1 [] (Nat.le_of_ble_eq_true rfl) rfl dX11_copied_100 (fun r w1 hq H locs h => ?_)
                      obtain ⟨rfl, _, rfl, ⟨rfl, b14⟩ | ⟨rfl, b14⟩⟩ := hq
                      · show W p l e r_c_X11_copied s m args below meth c _ _ 0 0 Qf (F0 m 103 ls [.int (iI 1)])
                        refine x_if_eq B (by omega) (tgt := 109) dX11_copied_103 (by decide) (fun c15 => ?_) (fun c15 => ?_)
                        · exact absurd c15 (by omega)
                        · refine lv_iinc (v := iI (m_ + 1)) (lv' := [(3, .int (iI (m_ + 1))), (5, .ref (G 4 k)), (4, .int (iI k)), (0, .ref (ad 0)), (1, .int (iI ship)), (2, .int (iI what))]) B.1 B.2.1 dX11_copied_106 hl (k := 2) rfl (iI_add _ _) (by decide) rfl (fun ls hl => ?_)
                          refine lv_iinc (v := iI (k + 1)) (lv' := [(4, .int (iI (k + 1))), (3, .int (iI (m_ + 1))), (5, .ref (G 4 k)), (0, .ref (ad 0)), (1, .int (iI ship)), (2, .int (iI what))]) B.1 B.2.1 dX11_copied_109 hl (k := 2) rfl (iI_add _ _) (by decide) rfl (fun ls hl => ?_)
                          refine lv_goto (tgt := 26) B.1 B.2.1 dX11_copied_112 (by decide) ?_
                          exact ih26 ((m_ + 1)) ((k + 1)) (by omega) (by omega) (by omega) _ _ _ h (lv_sub hl [0, 1, 3, 4, 5] rfl)
                      · show W p l e r_c_X11_copied s m args below meth c _ _ 0 0 Qf (F0 m 103 ls [.int (iI 0)])
                        refine x_if_eq B (by omega) (tgt := 109) dX11_copied_103 (by decide) (fun c16 => ?_) (fun c16 => ?_)
                        · refine lv_iinc (v := iI (k + 1)) (lv' := [(4, .int (iI (k + 1))), (5, .ref (G 4 k)), (3, .int (iI m_)), (0, .ref (ad 0)), (1, .int (iI ship)), (2, .int (iI what))]) B.1 B.2.1 dX11_copied_109 hl (k := 1) rfl (iI_add _ _) (by decide) rfl (fun ls hl => ?_)
                          refine lv_goto (tgt := 26) B.1 B.2.1 dX11_copied_112 (by decide) ?_
                          exact ih26 m_ ((k + 1)) (by omega) (by omega) (by omega) _ _ _ h (lv_sub hl [0, 2, 3, 4, 5] rfl)
                        · exact absurd c16 (by omega)
                    · refine lv_aload B.1 B.2.1 dX11_copied_86 (lv_at hl 0 rfl) ?_
                      refine y_cS B h k_X11_repeats (c_X11_repeats l D Zk ca T G u ad _ hC k  (by omega)) m_846 rfl (by decide) hl.1 [] (Nat.le_of_ble_eq_true rfl) rfl dX11_copied_88 (fun r w1 hq H locs h => ?_)
                      obtain ⟨rfl, _, rfl, ⟨rfl, b17⟩ | ⟨rfl, b17⟩⟩ := hq
                      · show W p l e r_c_X11_copied s m args below meth c _ _ 0 0 Qf (F0 m 91 ls [.int (iI 1)])
                        refine x_if_eq B (by omega) (tgt := 109) dX11_copied_91 (by decide) (fun c18 => ?_) (fun c18 => ?_)
                        · exact absurd c18 (by omega)
                        · refine lv_goto (tgt := 106) B.1 B.2.1 dX11_copied_94 (by decide) ?_
                          refine lv_iinc (v := iI (m_ + 1)) (lv' := [(3, .int (iI (m_ + 1))), (5, .ref (G 4 k)), (4, .int (iI k)), (0, .ref (ad 0)), (1, .int (iI ship)), (2, .int (iI what))]) B.1 B.2.1 dX11_copied_106 hl (k := 2) rfl (iI_add _ _) (by decide) rfl (fun ls hl => ?_)
                          refine lv_iinc (v := iI (k + 1)) (lv' := [(4, .int (iI (k + 1))), (3, .int (iI (m_ + 1))), (5, .ref (G 4 k)), (0, .ref (ad 0)), (1, .int (iI ship)), (2, .int (iI what))]) B.1 B.2.1 dX11_copied_109 hl (k := 2) rfl (iI_add _ _) (by decide) rfl (fun ls hl => ?_)
                          refine lv_goto (tgt := 26) B.1 B.2.1 dX11_copied_112 (by decide) ?_
                          exact ih26 ((m_ + 1)) ((k + 1)) (by omega) (by omega) (by omega) _ _ _ h (lv_sub hl [0, 1, 3, 4, 5] rfl)
                      · show W p l e r_c_X11_copied s m args below meth c _ _ 0 0 Qf (F0 m 91 ls [.int (iI 0)])
                        refine x_if_eq B (by omega) (tgt := 109) dX11_copied_91 (by decide) (fun c19 => ?_) (fun c19 => ?_)
                        · refine lv_iinc (v := iI (k + 1)) (lv' := [(4, .int (iI (k + 1))), (5, .ref (G 4 k)), (3, .int (iI m_)), (0, .ref (ad 0)), (1, .int (iI ship)), (2, .int (iI what))]) B.1 B.2.1 dX11_copied_109 hl (k := 1) rfl (iI_add _ _) (by decide) rfl (fun ls hl => ?_)
                          refine lv_goto (tgt := 26) B.1 B.2.1 dX11_copied_112 (by decide) ?_
                          exact ih26 m_ ((k + 1)) (by omega) (by omega) (by omega) _ _ _ h (lv_sub hl [0, 2, 3, 4, 5] rfl)
                        · exact absurd c19 (by omega)
                  · refine lv_aload B.1 B.2.1 dX11_copied_70 (lv_at hl 0 rfl) ?_
                    refine y_cS B h k_X11_follows (c_X11_follows l D Zk ca T G u ad _ hC k  (by omega)) m_849 rfl (by decide) hl.1 [] (Nat.le_of_ble_eq_true rfl) rfl dX11_copied_72 (fun r w1 hq H locs h => ?_)
                    obtain ⟨rfl, _, rfl, ⟨rfl, b20⟩ | ⟨rfl, b20⟩⟩ := hq
                    · show W p l e r_c_X11_copied s m args below meth c _ _ 0 0 Qf (F0 m 75 ls [.int (iI 1)])
                      refine x_if_eq B (by omega) (tgt := 109) dX11_copied_75 (by decide) (fun c21 => ?_) (fun c21 => ?_)
                      · exact absurd c21 (by omega)
                      · refine lv_goto (tgt := 106) B.1 B.2.1 dX11_copied_78 (by decide) ?_
                        refine lv_iinc (v := iI (m_ + 1)) (lv' := [(3, .int (iI (m_ + 1))), (5, .ref (G 4 k)), (4, .int (iI k)), (0, .ref (ad 0)), (1, .int (iI ship)), (2, .int (iI what))]) B.1 B.2.1 dX11_copied_106 hl (k := 2) rfl (iI_add _ _) (by decide) rfl (fun ls hl => ?_)
                        refine lv_iinc (v := iI (k + 1)) (lv' := [(4, .int (iI (k + 1))), (3, .int (iI (m_ + 1))), (5, .ref (G 4 k)), (0, .ref (ad 0)), (1, .int (iI ship)), (2, .int (iI what))]) B.1 B.2.1 dX11_copied_109 hl (k := 2) rfl (iI_add _ _) (by decide) rfl (fun ls hl => ?_)
                        refine lv_goto (tgt := 26) B.1 B.2.1 dX11_copied_112 (by decide) ?_
                        exact ih26 ((m_ + 1)) ((k + 1)) (by omega) (by omega) (by omega) _ _ _ h (lv_sub hl [0, 1, 3, 4, 5] rfl)
                    · show W p l e r_c_X11_copied s m args below meth c _ _ 0 0 Qf (F0 m 75 ls [.int (iI 0)])
                      refine x_if_eq B (by omega) (tgt := 109) dX11_copied_75 (by decide) (fun c22 => ?_) (fun c22 => ?_)
                      · refine lv_iinc (v := iI (k + 1)) (lv' := [(4, .int (iI (k + 1))), (5, .ref (G 4 k)), (3, .int (iI m_)), (0, .ref (ad 0)), (1, .int (iI ship)), (2, .int (iI what))]) B.1 B.2.1 dX11_copied_109 hl (k := 1) rfl (iI_add _ _) (by decide) rfl (fun ls hl => ?_)
                        refine lv_goto (tgt := 26) B.1 B.2.1 dX11_copied_112 (by decide) ?_
                        exact ih26 m_ ((k + 1)) (by omega) (by omega) (by omega) _ _ _ h (lv_sub hl [0, 2, 3, 4, 5] rfl)
                      · exact absurd c22 (by omega)
        exact loop26 (((300 - 0 : Int)).toNat + 1) 0 0 (by omega) (by omega) (Nat.lt_succ_self _) _ _ _ h (lv_sub hl [0, 1, 2, 3, 4] rfl)
      · exact absurd c4 (by omega)
    · show W p l e r_c_X11_copied s m args below meth c _ _ 0 0 Qf (F0 m 16 ls [.int (iI 0)])
      refine x_if_ne B (by omega) (tgt := 21) dX11_copied_16 (by decide) (fun c23 => ?_) (fun c23 => ?_)
      · exact absurd c23 (by omega)
      · refine x_iconst B dX11_copied_19 ?_
        refine y_ri B hQ h (by decide) dX11_copied_20 ?_
        exact ⟨rfl, _, rfl, (by first | omega | trivial | assumption)⟩
abbrev r_c_X11_find : Room := { frames := 6, cells := 0, slots := 0, locals := 129 }
set_option maxHeartbeats 4000000 in
set_option maxRecDepth 100000 in
theorem c_X11_find (l : Launch) (D : va_G) (Zk : yK) (ca : Nat → ClassId) (T : Nat → Int → Int) (G : Nat → Int → Nat) (u : Int) (ad : Nat → Nat) (w : yW) (hC : CW ca T G u ad w) (k : Int)  (hk : xr k) : yC l D Zk ca yX11_find cX11_find 5 (some .int) r_c_X11_find [.ref (ad 0), .int (iI k)] w (vI w (fun z => xr z)) := by
  refine yC.of2 "WindWords" (by decide) rfl (Nat.le_of_ble_eq_true rfl) ?_
  intro p e s m args below meth c A ls Qf B hnm h hl hQ
  have hl : lv_has ls 5 [(0, .ref (ad 0)), (1, .int (iI k))] := hl
  have hs := pi_s (CW.pi hC)
  refine x_iconst B dX11_find_0 ?_
  refine lv_istore_n (lv' := [(2, .int (iI 0)), (0, .ref (ad 0)), (1, .int (iI k))]) B.1 B.2.1 dX11_find_1 rfl hl (by decide) rfl (fun ls hl => ?_)
  refine x_iconst B dX11_find_2 ?_
  refine lv_istore_n (lv' := [(3, .int (iI 0)), (2, .int (iI 0)), (0, .ref (ad 0)), (1, .int (iI k))]) B.1 B.2.1 dX11_find_3 rfl hl (by decide) rfl (fun ls hl => ?_)
  have loop4 : ∀ (n4 : Nat) (b : Int) (i : Int), (0 ≤ b ∧ b ≤ i) → (0 ≤ i ∧ i ≤ 300) → ((300 - i : Int)).toNat < n4 → ∀ (H : Heap) (locs : List Loc) (ls : Array Slot), yH D Zk A s w H locs → lv_has ls 5 [(3, .int (iI i)), (2, .int (iI b)), (0, .ref (ad 0)), (1, .int (iI k))] → W p l e r_c_X11_find s m args below meth c H locs 0 0 Qf (F0 m 4 ls []) := by
    intro n4
    induction n4 with
    | zero =>
      intro b i h0 h1 hm4 H locs ls h hl
      exact absurd hm4 (Nat.not_lt_zero _)
    | succ n4 ih4 =>
      intro b i h0 h1 hm4 H locs ls h hl
      refine lv_iload_n B.1 B.2.1 dX11_find_4 rfl (lv_at hl 0 rfl) ?_
      refine lv_aload_n B.1 B.2.1 dX11_find_5 rfl (lv_at hl 2 rfl) ?_
      refine y_getR B h kX11 0 (CW.f hC 0 _ rfl) 0 (b := ad 1) rfl m_361 (by decide) dX11_find_6 ?_
      refine y_getX B h kX0 1 (CW.f hC 1 _ rfl) 5 (z := (T 0 2)) rfl m_149 (by decide) dX11_find_9 ?_
      refine x_icmp_ge B (by omega) (tgt := 55) dX11_find_12 (by decide) (fun c1 => ?_) (fun c1 => ?_)
      · refine x_iconst B dX11_find_55 ?_
        refine y_ri B hQ h (by decide) dX11_find_56 ?_
        exact ⟨rfl, _, rfl, (by first | omega | trivial | assumption)⟩
      · refine lv_aload_n B.1 B.2.1 dX11_find_15 rfl (lv_at hl 2 rfl) ?_
        refine y_getR B h kX11 0 (CW.f hC 0 _ rfl) 0 (b := ad 1) rfl m_361 (by decide) dX11_find_16 ?_
        refine lv_iload_n B.1 B.2.1 dX11_find_19 rfl (lv_at hl 0 rfl) ?_
        refine y_cV B h kX0 1 (CW.f hC 1 _ rfl) k_X0_readingAt rfl (c_X0_readingAt l D Zk ca T G u ad _ hC i  (by omega)) m_830 rfl (by decide) hl.1 [] (Nat.le_of_ble_eq_true rfl) rfl dX11_find_20 (fun r w1 hq H locs h => ?_)
        obtain ⟨rfl, _, rfl, ⟨rfl, q2⟩ | ⟨rfl, q2⟩⟩ := hq
        · show W p l e r_c_X11_find s m args below meth c _ _ 0 0 Qf (F0 m 23 ls [.null])
          refine lv_astoreN (lv' := [(4, .null), (3, .int (iI i)), (2, .int (iI b)), (0, .ref (ad 0)), (1, .int (iI k))]) B.1 B.2.1 dX11_find_23 hl (by decide) rfl (fun ls hl => ?_)
          refine lv_aloadN B.1 B.2.1 dX11_find_25 (lv_at hl 0 rfl) ?_
          refine lv_ifnullN (tgt := 49) B.1 B.2.1 dX11_find_27 (by decide) ?_
          refine lv_iinc (v := iI (i + 1)) (lv' := [(3, .int (iI (i + 1))), (4, .null), (2, .int (iI b)), (0, .ref (ad 0)), (1, .int (iI k))]) B.1 B.2.1 dX11_find_49 hl (k := 1) rfl (iI_add _ _) (by decide) rfl (fun ls hl => ?_)
          refine lv_goto (tgt := 4) B.1 B.2.1 dX11_find_52 (by decide) ?_
          exact ih4 b ((i + 1)) (by omega) (by omega) (by omega) _ _ _ h (lv_sub hl [0, 2, 3, 4] rfl)
        · have fo3 := CW.rd hC i (by omega)
          show W p l e r_c_X11_find s m args below meth c _ _ 0 0 Qf (F0 m 23 ls [.ref (G 4 i)])
          refine lv_astore (lv' := [(4, .ref (G 4 i)), (3, .int (iI i)), (2, .int (iI b)), (0, .ref (ad 0)), (1, .int (iI k))]) B.1 B.2.1 dX11_find_23 hl (by decide) rfl (fun ls hl => ?_)
          refine lv_aload B.1 B.2.1 dX11_find_25 (lv_at hl 0 rfl) ?_
          refine lv_ifnull B.1 B.2.1 dX11_find_27 ?_
          refine lv_aload_n B.1 B.2.1 dX11_find_30 rfl (lv_at hl 3 rfl) ?_
          refine lv_aload B.1 B.2.1 dX11_find_31 (lv_at hl 0 rfl) ?_
          refine y_cV B h kX11 0 (CW.f hC 0 _ rfl) k_X11_isCopied rfl (c_X11_isCopied l D Zk ca T G u ad _ hC i  (by omega)) m_842 rfl (by decide) hl.1 [] (Nat.le_of_ble_eq_true rfl) rfl dX11_find_33 (fun r w1 hq H locs h => ?_)
          obtain ⟨rfl, _, rfl, ⟨rfl, b4⟩ | ⟨rfl, b4⟩⟩ := hq
          · show W p l e r_c_X11_find s m args below meth c _ _ 0 0 Qf (F0 m 36 ls [.int (iI 1)])
            refine x_if_eq B (by omega) (tgt := 49) dX11_find_36 (by decide) (fun c5 => ?_) (fun c5 => ?_)
            · exact absurd c5 (by omega)
            · refine lv_iload_n B.1 B.2.1 dX11_find_39 rfl (lv_at hl 2 rfl) ?_
              refine lv_iload_n B.1 B.2.1 dX11_find_40 rfl (lv_at hl 4 rfl) ?_
              refine x_icmp_ne B (by omega) (tgt := 46) dX11_find_41 (by decide) (fun c6 => ?_) (fun c6 => ?_)
              · refine lv_iinc (v := iI (b + 1)) (lv' := [(2, .int (iI (b + 1))), (4, .ref (G 4 i)), (3, .int (iI i)), (0, .ref (ad 0)), (1, .int (iI k))]) B.1 B.2.1 dX11_find_46 hl (k := 2) rfl (iI_add _ _) (by decide) rfl (fun ls hl => ?_)
                refine lv_iinc (v := iI (i + 1)) (lv' := [(3, .int (iI (i + 1))), (2, .int (iI (b + 1))), (4, .ref (G 4 i)), (0, .ref (ad 0)), (1, .int (iI k))]) B.1 B.2.1 dX11_find_49 hl (k := 2) rfl (iI_add _ _) (by decide) rfl (fun ls hl => ?_)
                refine lv_goto (tgt := 4) B.1 B.2.1 dX11_find_52 (by decide) ?_
                exact ih4 ((b + 1)) ((i + 1)) (by omega) (by omega) (by omega) _ _ _ h (lv_sub hl [0, 1, 3, 4] rfl)
              · refine lv_iload_n B.1 B.2.1 dX11_find_44 rfl (lv_at hl 1 rfl) ?_
                refine y_ri B hQ h (by decide) dX11_find_45 ?_
                exact ⟨rfl, _, rfl, (by first | omega | trivial | assumption)⟩
          · show W p l e r_c_X11_find s m args below meth c _ _ 0 0 Qf (F0 m 36 ls [.int (iI 0)])
            refine x_if_eq B (by omega) (tgt := 49) dX11_find_36 (by decide) (fun c7 => ?_) (fun c7 => ?_)
            · refine lv_iinc (v := iI (i + 1)) (lv' := [(3, .int (iI (i + 1))), (4, .ref (G 4 i)), (2, .int (iI b)), (0, .ref (ad 0)), (1, .int (iI k))]) B.1 B.2.1 dX11_find_49 hl (k := 1) rfl (iI_add _ _) (by decide) rfl (fun ls hl => ?_)
              refine lv_goto (tgt := 4) B.1 B.2.1 dX11_find_52 (by decide) ?_
              exact ih4 b ((i + 1)) (by omega) (by omega) (by omega) _ _ _ h (lv_sub hl [0, 2, 3, 4] rfl)
            · exact absurd c7 (by omega)
  exact loop4 (((300 - 0 : Int)).toNat + 1) 0 0 (by omega) (by omega) (Nat.lt_succ_self _) _ _ _ h (lv_sub hl [0, 1, 2, 3] rfl)
abbrev r_c_X11_wished : Room := { frames := 5, cells := 0, slots := 0, locals := 113 }
set_option maxHeartbeats 4000000 in
set_option maxRecDepth 100000 in
theorem c_X11_wished (l : Launch) (D : va_G) (Zk : yK) (ca : Nat → ClassId) (T : Nat → Int → Int) (G : Nat → Int → Nat) (u : Int) (ad : Nat → Nat) (w : yW) (hC : CW ca T G u ad w) (o : Int) (what : Int)  (ho : xr o) (hwhat : xr what) : yC l D Zk ca yX11_wished cX11_wished 8 (some .int) r_c_X11_wished [.ref (ad 0), .int (iI o), .int (iI what)] w (vI w (fun z => xr z)) := by
  refine yC.of2 "WindWords" (by decide) rfl (Nat.le_of_ble_eq_true rfl) ?_
  intro p e s m args below meth c A ls Qf B hnm h hl hQ
  have hl : lv_has ls 8 [(0, .ref (ad 0)), (1, .int (iI o)), (2, .int (iI what))] := hl
  have hs := pi_s (CW.pi hC)
  refine lv_aload_n B.1 B.2.1 dX11_wished_0 rfl (lv_at hl 0 rfl) ?_
  refine y_getR B h kX11 0 (CW.f hC 0 _ rfl) 0 (b := ad 1) rfl m_361 (by decide) dX11_wished_1 ?_
  refine lv_iload_n B.1 B.2.1 dX11_wished_4 rfl (lv_at hl 1 rfl) ?_
  refine y_cV B h kX0 1 (CW.f hC 1 _ rfl) k_X0_hasOfficer rfl (c_X0_hasOfficer l D Zk ca T G u ad _ hC o  (by omega)) m_434 rfl (by decide) hl.1 [] (Nat.le_of_ble_eq_true rfl) rfl dX11_wished_5 (fun r w1 hq H locs h => ?_)
  obtain ⟨rfl, _, rfl, ⟨rfl, b1⟩ | ⟨rfl, b1⟩⟩ := hq
  · show W p l e r_c_X11_wished s m args below meth c _ _ 0 0 Qf (F0 m 8 ls [.int (iI 1)])
    refine x_if_eq B (by omega) (tgt := 19) dX11_wished_8 (by decide) (fun c2 => ?_) (fun c2 => ?_)
    · exact absurd c2 (by omega)
    · refine lv_iload_n B.1 B.2.1 dX11_wished_11 rfl (lv_at hl 2 rfl) ?_
      refine x_iconst B dX11_wished_12 ?_
      refine y_cS B h k_X11_within (c_X11_within l D Zk ca _ what 3  (by omega) (by omega)) m_431 rfl (by decide) hl.1 [] (Nat.le_of_ble_eq_true rfl) rfl dX11_wished_13 (fun r w1 hq H locs h => ?_)
      obtain ⟨rfl, _, rfl, ⟨rfl, b3⟩ | ⟨rfl, b3⟩⟩ := hq
      · show W p l e r_c_X11_wished s m args below meth c _ _ 0 0 Qf (F0 m 16 ls [.int (iI 1)])
        refine x_if_ne B (by omega) (tgt := 23) dX11_wished_16 (by decide) (fun c4 => ?_) (fun c4 => ?_)
        · refine x_iconst B dX11_wished_23 ?_
          refine lv_istore_n (lv' := [(3, .int (iI 0)), (0, .ref (ad 0)), (1, .int (iI o)), (2, .int (iI what))]) B.1 B.2.1 dX11_wished_24 rfl hl (by decide) rfl (fun ls hl => ?_)
          refine x_iconst B dX11_wished_25 ?_
          refine lv_istore (lv' := [(4, .int (iI 0)), (3, .int (iI 0)), (0, .ref (ad 0)), (1, .int (iI o)), (2, .int (iI what))]) B.1 B.2.1 dX11_wished_26 hl (by decide) rfl (fun ls hl => ?_)
          refine x_iconst B dX11_wished_28 ?_
          refine lv_istore (lv' := [(5, .int (iI 0)), (4, .int (iI 0)), (3, .int (iI 0)), (0, .ref (ad 0)), (1, .int (iI o)), (2, .int (iI what))]) B.1 B.2.1 dX11_wished_29 hl (by decide) rfl (fun ls hl => ?_)
          have loop31 : ∀ (n31 : Nat) (m_ : Int) (k : Int) (l4 : Int), (xr l4) → (0 ≤ m_ ∧ m_ ≤ 12) → (0 ≤ k ∧ k ≤ 300) → ((300 - k : Int)).toNat < n31 → ∀ (H : Heap) (locs : List Loc) (ls : Array Slot), yH D Zk A s w H locs → lv_has ls 8 [(5, .int (iI k)), (4, .int (iI l4)), (3, .int (iI m_)), (0, .ref (ad 0)), (1, .int (iI o)), (2, .int (iI what))] → W p l e r_c_X11_wished s m args below meth c H locs 0 0 Qf (F0 m 31 ls []) := by
            intro n31
            induction n31 with
            | zero =>
              intro m_ k l4 xl4 h0 h1 hm31 H locs ls h hl
              exact absurd hm31 (Nat.not_lt_zero _)
            | succ n31 ih31 =>
              intro m_ k l4 xl4 h0 h1 hm31 H locs ls h hl
              refine lv_iload B.1 B.2.1 dX11_wished_31 (lv_at hl 0 rfl) ?_
              refine lv_aload_n B.1 B.2.1 dX11_wished_33 rfl (lv_at hl 3 rfl) ?_
              refine y_getR B h kX11 0 (CW.f hC 0 _ rfl) 0 (b := ad 1) rfl m_361 (by decide) dX11_wished_34 ?_
              refine y_getX B h kX0 1 (CW.f hC 1 _ rfl) 5 (z := (T 0 2)) rfl m_149 (by decide) dX11_wished_37 ?_
              refine x_icmp_ge B (by omega) (tgt := 142) dX11_wished_40 (by decide) (fun c5 => ?_) (fun c5 => ?_)
              · refine lv_aload_n B.1 B.2.1 dX11_wished_142 rfl (lv_at hl 3 rfl) ?_
                refine lv_iload B.1 B.2.1 dX11_wished_143 (lv_at hl 1 rfl) ?_
                refine lv_iload_n B.1 B.2.1 dX11_wished_145 rfl (lv_at hl 2 rfl) ?_
                refine y_cV B h kX11 0 (CW.f hC 0 _ rfl) k_X11_leadOf rfl (c_X11_leadOf l D Zk ca T G u ad _ hC l4 m_  (by omega) (by omega)) m_1136 rfl (by decide) hl.1 [] (Nat.le_of_ble_eq_true rfl) rfl dX11_wished_146 (fun r w1 hq H locs h => ?_)
                obtain ⟨rfl, z6, rfl, hz6⟩ := hq
                show W p l e r_c_X11_wished s m args below meth c _ _ 0 0 Qf (F0 m 149 ls [.int (iI z6)])
                refine lv_istore (lv' := [(5, .int (iI z6)), (4, .int (iI l4)), (3, .int (iI m_)), (0, .ref (ad 0)), (1, .int (iI o)), (2, .int (iI what))]) B.1 B.2.1 dX11_wished_149 hl (by decide) rfl (fun ls hl => ?_)
                refine lv_iload_n B.1 B.2.1 dX11_wished_151 rfl (lv_at hl 5 rfl) ?_
                by_cases t7 : what = 0
                · refine x_tin B (tgt := 180) 0 (by omega) dX11_wished_152 rfl (by decide) ?_
                  refine lv_aload_n B.1 B.2.1 dX11_wished_180 rfl (lv_at hl 3 rfl) ?_
                  refine lv_iload B.1 B.2.1 dX11_wished_181 (lv_at hl 1 rfl) ?_
                  refine lv_iload_n B.1 B.2.1 dX11_wished_183 rfl (lv_at hl 2 rfl) ?_
                  refine lv_iload B.1 B.2.1 dX11_wished_184 (lv_at hl 0 rfl) ?_
                  refine y_cV B h kX11 0 (CW.f hC 0 _ rfl) k_X11_waysLeading rfl (c_X11_waysLeading l D Zk ca T G u ad _ hC l4 m_ z6  (by omega) (by omega) (by omega)) m_1146 rfl (by decide) hl.1 [] (Nat.le_of_ble_eq_true rfl) rfl dX11_wished_186 (fun r w1 hq H locs h => ?_)
                  obtain ⟨rfl, z8, rfl, hz8⟩ := hq
                  show W p l e r_c_X11_wished s m args below meth c _ _ 0 0 Qf (F0 m 189 ls [.int (iI z8)])
                  refine y_ri B hQ h (by decide) dX11_wished_189 ?_
                  exact ⟨rfl, _, rfl, (by first | omega | trivial | assumption)⟩
                by_cases t9 : what = 1
                · refine x_tin B (tgt := 190) 1 (by omega) dX11_wished_152 rfl (by decide) ?_
                  refine lv_aload_n B.1 B.2.1 dX11_wished_190 rfl (lv_at hl 3 rfl) ?_
                  refine lv_iload B.1 B.2.1 dX11_wished_191 (lv_at hl 1 rfl) ?_
                  refine lv_iload_n B.1 B.2.1 dX11_wished_193 rfl (lv_at hl 2 rfl) ?_
                  refine x_ldcw B (z := (-1000000)) m_1131 (by decide) dX11_wished_194 ?_
                  refine y_cV B h kX11 0 (CW.f hC 0 _ rfl) k_X11_waysLeading rfl (c_X11_waysLeading l D Zk ca T G u ad _ hC l4 m_ ((-1000000))  (by omega) (by omega) (by omega)) m_1146 rfl (by decide) hl.1 [] (Nat.le_of_ble_eq_true rfl) rfl dX11_wished_197 (fun r w1 hq H locs h => ?_)
                  obtain ⟨rfl, z10, rfl, hz10⟩ := hq
                  show W p l e r_c_X11_wished s m args below meth c _ _ 0 0 Qf (F0 m 200 ls [.int (iI z10)])
                  refine y_ri B hQ h (by decide) dX11_wished_200 ?_
                  exact ⟨rfl, _, rfl, (by first | omega | trivial | assumption)⟩
                by_cases t11 : what = 2
                · refine x_tin B (tgt := 201) 2 (by omega) dX11_wished_152 rfl (by decide) ?_
                  refine lv_iload B.1 B.2.1 dX11_wished_201 (lv_at hl 0 rfl) ?_
                  refine y_ri B hQ h (by decide) dX11_wished_203 ?_
                  exact ⟨rfl, _, rfl, (by first | omega | trivial | assumption)⟩
                refine x_tout B (tgt := 204) (by omega) dX11_wished_152 (by decide) ?_
                refine lv_iload_n B.1 B.2.1 dX11_wished_204 rfl (lv_at hl 2 rfl) ?_
                refine y_ri B hQ h (by decide) dX11_wished_205 ?_
                exact ⟨rfl, _, rfl, (by first | omega | trivial | assumption)⟩
              · refine lv_iload_n B.1 B.2.1 dX11_wished_43 rfl (lv_at hl 2 rfl) ?_
                refine x_bipush B (by decide) dX11_wished_44 ?_
                refine x_icmp_ge B (by omega) (tgt := 142) dX11_wished_46 (by decide) (fun c12 => ?_) (fun c12 => ?_)
                · refine lv_aload_n B.1 B.2.1 dX11_wished_142 rfl (lv_at hl 3 rfl) ?_
                  refine lv_iload B.1 B.2.1 dX11_wished_143 (lv_at hl 1 rfl) ?_
                  refine lv_iload_n B.1 B.2.1 dX11_wished_145 rfl (lv_at hl 2 rfl) ?_
                  refine y_cV B h kX11 0 (CW.f hC 0 _ rfl) k_X11_leadOf rfl (c_X11_leadOf l D Zk ca T G u ad _ hC l4 m_  (by omega) (by omega)) m_1136 rfl (by decide) hl.1 [] (Nat.le_of_ble_eq_true rfl) rfl dX11_wished_146 (fun r w1 hq H locs h => ?_)
                  obtain ⟨rfl, z13, rfl, hz13⟩ := hq
                  show W p l e r_c_X11_wished s m args below meth c _ _ 0 0 Qf (F0 m 149 ls [.int (iI z13)])
                  refine lv_istore (lv' := [(5, .int (iI z13)), (4, .int (iI l4)), (3, .int (iI m_)), (0, .ref (ad 0)), (1, .int (iI o)), (2, .int (iI what))]) B.1 B.2.1 dX11_wished_149 hl (by decide) rfl (fun ls hl => ?_)
                  refine lv_iload_n B.1 B.2.1 dX11_wished_151 rfl (lv_at hl 5 rfl) ?_
                  by_cases t14 : what = 0
                  · refine x_tin B (tgt := 180) 0 (by omega) dX11_wished_152 rfl (by decide) ?_
                    refine lv_aload_n B.1 B.2.1 dX11_wished_180 rfl (lv_at hl 3 rfl) ?_
                    refine lv_iload B.1 B.2.1 dX11_wished_181 (lv_at hl 1 rfl) ?_
                    refine lv_iload_n B.1 B.2.1 dX11_wished_183 rfl (lv_at hl 2 rfl) ?_
                    refine lv_iload B.1 B.2.1 dX11_wished_184 (lv_at hl 0 rfl) ?_
                    refine y_cV B h kX11 0 (CW.f hC 0 _ rfl) k_X11_waysLeading rfl (c_X11_waysLeading l D Zk ca T G u ad _ hC l4 m_ z13  (by omega) (by omega) (by omega)) m_1146 rfl (by decide) hl.1 [] (Nat.le_of_ble_eq_true rfl) rfl dX11_wished_186 (fun r w1 hq H locs h => ?_)
                    obtain ⟨rfl, z15, rfl, hz15⟩ := hq
                    show W p l e r_c_X11_wished s m args below meth c _ _ 0 0 Qf (F0 m 189 ls [.int (iI z15)])
                    refine y_ri B hQ h (by decide) dX11_wished_189 ?_
                    exact ⟨rfl, _, rfl, (by first | omega | trivial | assumption)⟩
                  by_cases t16 : what = 1
                  · refine x_tin B (tgt := 190) 1 (by omega) dX11_wished_152 rfl (by decide) ?_
                    refine lv_aload_n B.1 B.2.1 dX11_wished_190 rfl (lv_at hl 3 rfl) ?_
                    refine lv_iload B.1 B.2.1 dX11_wished_191 (lv_at hl 1 rfl) ?_
                    refine lv_iload_n B.1 B.2.1 dX11_wished_193 rfl (lv_at hl 2 rfl) ?_
                    refine x_ldcw B (z := (-1000000)) m_1131 (by decide) dX11_wished_194 ?_
                    refine y_cV B h kX11 0 (CW.f hC 0 _ rfl) k_X11_waysLeading rfl (c_X11_waysLeading l D Zk ca T G u ad _ hC l4 m_ ((-1000000))  (by omega) (by omega) (by omega)) m_1146 rfl (by decide) hl.1 [] (Nat.le_of_ble_eq_true rfl) rfl dX11_wished_197 (fun r w1 hq H locs h => ?_)
                    obtain ⟨rfl, z17, rfl, hz17⟩ := hq
                    show W p l e r_c_X11_wished s m args below meth c _ _ 0 0 Qf (F0 m 200 ls [.int (iI z17)])
                    refine y_ri B hQ h (by decide) dX11_wished_200 ?_
                    exact ⟨rfl, _, rfl, (by first | omega | trivial | assumption)⟩
                  by_cases t18 : what = 2
                  · refine x_tin B (tgt := 201) 2 (by omega) dX11_wished_152 rfl (by decide) ?_
                    refine lv_iload B.1 B.2.1 dX11_wished_201 (lv_at hl 0 rfl) ?_
                    refine y_ri B hQ h (by decide) dX11_wished_203 ?_
                    exact ⟨rfl, _, rfl, (by first | omega | trivial | assumption)⟩
                  refine x_tout B (tgt := 204) (by omega) dX11_wished_152 (by decide) ?_
                  refine lv_iload_n B.1 B.2.1 dX11_wished_204 rfl (lv_at hl 2 rfl) ?_
                  refine y_ri B hQ h (by decide) dX11_wished_205 ?_
                  exact ⟨rfl, _, rfl, (by first | omega | trivial | assumption)⟩
                · refine lv_aload_n B.1 B.2.1 dX11_wished_49 rfl (lv_at hl 3 rfl) ?_
                  refine y_getR B h kX11 0 (CW.f hC 0 _ rfl) 0 (b := ad 1) rfl m_361 (by decide) dX11_wished_50 ?_
                  refine lv_iload B.1 B.2.1 dX11_wished_53 (lv_at hl 0 rfl) ?_
                  refine y_cV B h kX0 1 (CW.f hC 1 _ rfl) k_X0_mansAt rfl (c_X0_mansAt l D Zk ca T G u ad _ hC k  (by omega)) m_1050 rfl (by decide) hl.1 [] (Nat.le_of_ble_eq_true rfl) rfl dX11_wished_55 (fun r w1 hq H locs h => ?_)
                  obtain ⟨rfl, _, rfl, ⟨rfl, q19⟩ | ⟨rfl, q19⟩⟩ := hq
                  · show W p l e r_c_X11_wished s m args below meth c _ _ 0 0 Qf (F0 m 58 ls [.null])
                    refine lv_astoreN (lv' := [(6, .null), (5, .int (iI k)), (4, .int (iI l4)), (3, .int (iI m_)), (0, .ref (ad 0)), (1, .int (iI o)), (2, .int (iI what))]) B.1 B.2.1 dX11_wished_58 hl (by decide) rfl (fun ls hl => ?_)
                    refine lv_aloadN B.1 B.2.1 dX11_wished_60 (lv_at hl 0 rfl) ?_
                    refine lv_ifnullN (tgt := 74) B.1 B.2.1 dX11_wished_62 (by decide) ?_
                    refine lv_null B.1 B.2.1 dX11_wished_74 ?_
                    refine lv_goto (tgt := 84) B.1 B.2.1 dX11_wished_75 (by decide) ?_
                    refine lv_astoreN (lv' := [(7, .null), (6, .null), (5, .int (iI k)), (4, .int (iI l4)), (3, .int (iI m_)), (0, .ref (ad 0)), (1, .int (iI o)), (2, .int (iI what))]) B.1 B.2.1 dX11_wished_84 hl (by decide) rfl (fun ls hl => ?_)
                    refine lv_aloadN B.1 B.2.1 dX11_wished_86 (lv_at hl 1 rfl) ?_
                    refine lv_ifnullN (tgt := 136) B.1 B.2.1 dX11_wished_88 (by decide) ?_
                    refine lv_iinc (v := iI (k + 1)) (lv' := [(5, .int (iI (k + 1))), (7, .null), (6, .null), (4, .int (iI l4)), (3, .int (iI m_)), (0, .ref (ad 0)), (1, .int (iI o)), (2, .int (iI what))]) B.1 B.2.1 dX11_wished_136 hl (k := 2) rfl (iI_add _ _) (by decide) rfl (fun ls hl => ?_)
                    refine lv_goto (tgt := 31) B.1 B.2.1 dX11_wished_139 (by decide) ?_
                    exact ih31 m_ ((k + 1)) l4 (by omega) (by omega) (by omega) (by omega) _ _ _ h (lv_sub hl [0, 3, 4, 5, 6, 7] rfl)
                  · have fo20 := CW.rd hC k (by omega)
                    show W p l e r_c_X11_wished s m args below meth c _ _ 0 0 Qf (F0 m 58 ls [.ref (G 4 k)])
                    refine lv_astore (lv' := [(6, .ref (G 4 k)), (5, .int (iI k)), (4, .int (iI l4)), (3, .int (iI m_)), (0, .ref (ad 0)), (1, .int (iI o)), (2, .int (iI what))]) B.1 B.2.1 dX11_wished_58 hl (by decide) rfl (fun ls hl => ?_)
                    refine lv_aload B.1 B.2.1 dX11_wished_60 (lv_at hl 0 rfl) ?_
                    refine lv_ifnull B.1 B.2.1 dX11_wished_62 ?_
                    refine lv_aload B.1 B.2.1 dX11_wished_65 (lv_at hl 0 rfl) ?_
                    refine y_cV B h kX4 (1000 + 16 * k.toNat + 4) fo20 k_X4_writer rfl (c_X4_writer l D Zk ca T G u ad _ hC k  (by omega)) m_834 rfl (by decide) hl.1 [] (Nat.le_of_ble_eq_true rfl) rfl dX11_wished_67 (fun r w1 hq H locs h => ?_)
                    obtain ⟨rfl, _, rfl, rfl⟩ := hq
                    have tb21 := pi_3 (CW.pi hC) (1000 * T 4 k + T 5 k)
                    show W p l e r_c_X11_wished s m args below meth c _ _ 0 0 Qf (F0 m 70 ls [.int (iI (T 3 (1000 * T 4 k + T 5 k)))])
                    refine lv_iload_n B.1 B.2.1 dX11_wished_70 rfl (lv_at hl 5 rfl) ?_
                    refine x_icmp_eq B (by omega) (tgt := 78) dX11_wished_71 (by decide) (fun c22 => ?_) (fun c22 => ?_)
                    · refine lv_aload_n B.1 B.2.1 dX11_wished_78 rfl (lv_at hl 4 rfl) ?_
                      refine lv_aload B.1 B.2.1 dX11_wished_79 (lv_at hl 0 rfl) ?_
                      refine y_cV B h kX11 0 (CW.f hC 0 _ rfl) k_X11_firstBeside rfl (c_X11_firstBeside l D Zk ca T G u ad _ hC k  (by omega)) m_1132 rfl (by decide) hl.1 [] (Nat.le_of_ble_eq_true rfl) rfl dX11_wished_81 (fun r w1 hq H locs h => ?_)
                      obtain ⟨rfl, _, rfl, ⟨rfl, q23⟩ | ⟨k24, rfl, q23⟩⟩ := hq
                      · show W p l e r_c_X11_wished s m args below meth c _ _ 0 0 Qf (F0 m 84 ls [.null])
                        refine lv_astoreN (lv' := [(7, .null), (6, .ref (G 4 k)), (5, .int (iI k)), (4, .int (iI l4)), (3, .int (iI m_)), (0, .ref (ad 0)), (1, .int (iI o)), (2, .int (iI what))]) B.1 B.2.1 dX11_wished_84 hl (by decide) rfl (fun ls hl => ?_)
                        refine lv_aload B.1 B.2.1 dX11_wished_86 (lv_at hl 1 rfl) ?_
                        refine lv_ifnull B.1 B.2.1 dX11_wished_88 ?_
                        refine lv_aloadN B.1 B.2.1 dX11_wished_91 (lv_at hl 0 rfl) ?_
                        refine lv_ifnullN (tgt := 136) B.1 B.2.1 dX11_wished_93 (by decide) ?_
                        refine lv_iinc (v := iI (k + 1)) (lv' := [(5, .int (iI (k + 1))), (7, .null), (6, .ref (G 4 k)), (4, .int (iI l4)), (3, .int (iI m_)), (0, .ref (ad 0)), (1, .int (iI o)), (2, .int (iI what))]) B.1 B.2.1 dX11_wished_136 hl (k := 2) rfl (iI_add _ _) (by decide) rfl (fun ls hl => ?_)
                        refine lv_goto (tgt := 31) B.1 B.2.1 dX11_wished_139 (by decide) ?_
                        exact ih31 m_ ((k + 1)) l4 (by omega) (by omega) (by omega) (by omega) _ _ _ h (lv_sub hl [0, 3, 4, 5, 6, 7] rfl)
                      · have fo25 := CW.rd hC k24 (by omega)
                        show W p l e r_c_X11_wished s m args below meth c _ _ 0 0 Qf (F0 m 84 ls [.ref (G 4 k24)])
                        refine lv_astore (lv' := [(7, .ref (G 4 k24)), (6, .ref (G 4 k)), (5, .int (iI k)), (4, .int (iI l4)), (3, .int (iI m_)), (0, .ref (ad 0)), (1, .int (iI o)), (2, .int (iI what))]) B.1 B.2.1 dX11_wished_84 hl (by decide) rfl (fun ls hl => ?_)
                        refine lv_aload B.1 B.2.1 dX11_wished_86 (lv_at hl 1 rfl) ?_
                        refine lv_ifnull B.1 B.2.1 dX11_wished_88 ?_
                        refine lv_aload B.1 B.2.1 dX11_wished_91 (lv_at hl 0 rfl) ?_
                        refine lv_ifnull B.1 B.2.1 dX11_wished_93 ?_
                        refine lv_aload_n B.1 B.2.1 dX11_wished_96 rfl (lv_at hl 5 rfl) ?_
                        refine y_getR B h kX11 0 (CW.f hC 0 _ rfl) 15 (b := ad 35) rfl m_376 (by decide) dX11_wished_97 ?_
                        refine lv_iload_n B.1 B.2.1 dX11_wished_100 rfl (lv_at hl 4 rfl) ?_
                        refine lv_aload B.1 B.2.1 dX11_wished_101 (lv_at hl 1 rfl) ?_
                        refine y_getX B h kX4 (1000 + 16 * k.toNat + 4) fo20 4 (z := (T 8 k)) rfl m_532 (by decide) dX11_wished_103 ?_
                        have tb26 := pi_8 (CW.pi hC) k
                        have tb27 := pi_n (CW.pi hC) k
                        refine lv_aload B.1 B.2.1 dX11_wished_106 (lv_at hl 0 rfl) ?_
                        refine y_getX B h kX4 (1000 + 16 * k24.toNat + 4) fo25 4 (z := (T 8 k24)) rfl m_532 (by decide) dX11_wished_108 ?_
                        have tb28 := pi_8 (CW.pi hC) k24
                        have tb29 := pi_n (CW.pi hC) k24
                        refine x_isub B dX11_wished_111 ?_
                        refine y_iastS B h 35 (CW.f hC 35 _ rfl) (by omega) (fun _ _ => trivial) dX11_wished_112 (fun H locs h => ?_)
                        refine lv_iload B.1 B.2.1 dX11_wished_113 (lv_at hl 3 rfl) ?_
                        refine lv_aload B.1 B.2.1 dX11_wished_115 (lv_at hl 1 rfl) ?_
                        refine y_getX B h kX4 (1000 + 16 * k.toNat + 4) fo20 6 (z := (T 10 k)) rfl m_536 (by decide) dX11_wished_117 ?_
                        have tb30 := pi_10 (CW.pi hC) k
                        refine x_if_le B (by omega) (tgt := 129) dX11_wished_120 (by decide) (fun c31 => ?_) (fun c31 => ?_)
                        · refine x_iconst B dX11_wished_129 ?_
                          refine lv_ior B.1 B.2.1 dX11_wished_130 ?_
                          refine x_name (fun z32 hz32 ez32 => ?_)
                          refine lv_istore (lv' := [(4, .int (iI z32)), (7, .ref (G 4 k24)), (6, .ref (G 4 k)), (5, .int (iI k)), (3, .int (iI m_)), (0, .ref (ad 0)), (1, .int (iI o)), (2, .int (iI what))]) B.1 B.2.1 dX11_wished_131 hl (by decide) rfl (fun ls hl => ?_)
                          refine lv_iinc (v := iI (m_ + 1)) (lv' := [(3, .int (iI (m_ + 1))), (4, .int (iI z32)), (7, .ref (G 4 k24)), (6, .ref (G 4 k)), (5, .int (iI k)), (0, .ref (ad 0)), (1, .int (iI o)), (2, .int (iI what))]) B.1 B.2.1 dX11_wished_133 hl (k := 4) rfl (iI_add _ _) (by decide) rfl (fun ls hl => ?_)
                          refine lv_iinc (v := iI (k + 1)) (lv' := [(5, .int (iI (k + 1))), (3, .int (iI (m_ + 1))), (4, .int (iI z32)), (7, .ref (G 4 k24)), (6, .ref (G 4 k)), (0, .ref (ad 0)), (1, .int (iI o)), (2, .int (iI what))]) B.1 B.2.1 dX11_wished_136 hl (k := 4) rfl (iI_add _ _) (by decide) rfl (fun ls hl => ?_)
                          refine lv_goto (tgt := 31) B.1 B.2.1 dX11_wished_139 (by decide) ?_
                          exact ih31 ((m_ + 1)) ((k + 1)) z32 (by omega) (by omega) (by omega) (by omega) _ _ _ h (lv_sub hl [0, 2, 1, 5, 6, 7] rfl)
                        · refine x_iconst B dX11_wished_123 ?_
                          refine lv_iload_n B.1 B.2.1 dX11_wished_124 rfl (lv_at hl 4 rfl) ?_
                          refine lv_ishl B.1 B.2.1 dX11_wished_125 ?_
                          refine x_name (fun z33 hz33 ez33 => ?_)
                          refine lv_goto (tgt := 130) B.1 B.2.1 dX11_wished_126 (by decide) ?_
                          refine lv_ior B.1 B.2.1 dX11_wished_130 ?_
                          refine x_name (fun z34 hz34 ez34 => ?_)
                          refine lv_istore (lv' := [(4, .int (iI z34)), (7, .ref (G 4 k24)), (6, .ref (G 4 k)), (5, .int (iI k)), (3, .int (iI m_)), (0, .ref (ad 0)), (1, .int (iI o)), (2, .int (iI what))]) B.1 B.2.1 dX11_wished_131 hl (by decide) rfl (fun ls hl => ?_)
                          refine lv_iinc (v := iI (m_ + 1)) (lv' := [(3, .int (iI (m_ + 1))), (4, .int (iI z34)), (7, .ref (G 4 k24)), (6, .ref (G 4 k)), (5, .int (iI k)), (0, .ref (ad 0)), (1, .int (iI o)), (2, .int (iI what))]) B.1 B.2.1 dX11_wished_133 hl (k := 4) rfl (iI_add _ _) (by decide) rfl (fun ls hl => ?_)
                          refine lv_iinc (v := iI (k + 1)) (lv' := [(5, .int (iI (k + 1))), (3, .int (iI (m_ + 1))), (4, .int (iI z34)), (7, .ref (G 4 k24)), (6, .ref (G 4 k)), (0, .ref (ad 0)), (1, .int (iI o)), (2, .int (iI what))]) B.1 B.2.1 dX11_wished_136 hl (k := 4) rfl (iI_add _ _) (by decide) rfl (fun ls hl => ?_)
                          refine lv_goto (tgt := 31) B.1 B.2.1 dX11_wished_139 (by decide) ?_
                          exact ih31 ((m_ + 1)) ((k + 1)) z34 (by omega) (by omega) (by omega) (by omega) _ _ _ h (lv_sub hl [0, 2, 1, 5, 6, 7] rfl)
                    · refine lv_null B.1 B.2.1 dX11_wished_74 ?_
                      refine lv_goto (tgt := 84) B.1 B.2.1 dX11_wished_75 (by decide) ?_
                      refine lv_astoreN (lv' := [(7, .null), (6, .ref (G 4 k)), (5, .int (iI k)), (4, .int (iI l4)), (3, .int (iI m_)), (0, .ref (ad 0)), (1, .int (iI o)), (2, .int (iI what))]) B.1 B.2.1 dX11_wished_84 hl (by decide) rfl (fun ls hl => ?_)
                      refine lv_aload B.1 B.2.1 dX11_wished_86 (lv_at hl 1 rfl) ?_
                      refine lv_ifnull B.1 B.2.1 dX11_wished_88 ?_
                      refine lv_aloadN B.1 B.2.1 dX11_wished_91 (lv_at hl 0 rfl) ?_
                      refine lv_ifnullN (tgt := 136) B.1 B.2.1 dX11_wished_93 (by decide) ?_
                      refine lv_iinc (v := iI (k + 1)) (lv' := [(5, .int (iI (k + 1))), (7, .null), (6, .ref (G 4 k)), (4, .int (iI l4)), (3, .int (iI m_)), (0, .ref (ad 0)), (1, .int (iI o)), (2, .int (iI what))]) B.1 B.2.1 dX11_wished_136 hl (k := 2) rfl (iI_add _ _) (by decide) rfl (fun ls hl => ?_)
                      refine lv_goto (tgt := 31) B.1 B.2.1 dX11_wished_139 (by decide) ?_
                      exact ih31 m_ ((k + 1)) l4 (by omega) (by omega) (by omega) (by omega) _ _ _ h (lv_sub hl [0, 3, 4, 5, 6, 7] rfl)
          exact loop31 (((300 - 0 : Int)).toNat + 1) 0 0 0 (by omega) (by omega) (by omega) (Nat.lt_succ_self _) _ _ _ h (lv_sub hl [0, 1, 2, 3, 4, 5] rfl)
        · exact absurd c4 (by omega)
      · show W p l e r_c_X11_wished s m args below meth c _ _ 0 0 Qf (F0 m 16 ls [.int (iI 0)])
        refine x_if_ne B (by omega) (tgt := 23) dX11_wished_16 (by decide) (fun c35 => ?_) (fun c35 => ?_)
        · exact absurd c35 (by omega)
        · refine x_ldcw B (z := (-1000000)) m_1131 (by decide) dX11_wished_19 ?_
          refine y_ri B hQ h (by decide) dX11_wished_22 ?_
          exact ⟨rfl, _, rfl, (by first | omega | trivial | assumption)⟩
  · show W p l e r_c_X11_wished s m args below meth c _ _ 0 0 Qf (F0 m 8 ls [.int (iI 0)])
    refine x_if_eq B (by omega) (tgt := 19) dX11_wished_8 (by decide) (fun c36 => ?_) (fun c36 => ?_)
    · refine x_ldcw B (z := (-1000000)) m_1131 (by decide) dX11_wished_19 ?_
      refine y_ri B hQ h (by decide) dX11_wished_22 ?_
      exact ⟨rfl, _, rfl, (by first | omega | trivial | assumption)⟩
    · exact absurd c36 (by omega)
abbrev r_c_X11_eight : Room := { frames := 4, cells := 0, slots := 0, locals := 89 }
set_option maxHeartbeats 4000000 in
set_option maxRecDepth 100000 in
theorem c_X11_eight (l : Launch) (D : va_G) (Zk : yK) (ca : Nat → ClassId) (T : Nat → Int → Int) (G : Nat → Int → Nat) (u : Int) (ad : Nat → Nat) (w : yW) (hC : CW ca T G u ad w) (line : Int) (wind : Int) (coin : Int) (what : Int)  (hline : xr line) (hwind : xr wind) (hcoin : xr coin) (hwhat : xr what) : yC l D Zk ca yX11_eight cX11_eight 12 (some .int) r_c_X11_eight [.ref (ad 0), .int (iI line), .int (iI wind), .int (iI coin), .int (iI what)] w (vI w (fun z => xr z)) := by
  refine yC.of2 "WindWords" (by decide) rfl (Nat.le_of_ble_eq_true rfl) ?_
  intro p e s m args below meth c A ls Qf B hnm h hl hQ
  have hl : lv_has ls 12 [(0, .ref (ad 0)), (1, .int (iI line)), (2, .int (iI wind)), (3, .int (iI coin)), (4, .int (iI what))] := hl
  have hs := pi_s (CW.pi hC)
  refine lv_iload_n B.1 B.2.1 dX11_eight_0 rfl (lv_at hl 1 rfl) ?_
  refine x_bipush B (by decide) dX11_eight_1 ?_
  refine y_cS B h k_X11_within (c_X11_within l D Zk ca _ line 12  (by omega) (by omega)) m_431 rfl (by decide) hl.1 [] (Nat.le_of_ble_eq_true rfl) rfl dX11_eight_3 (fun r w1 hq H locs h => ?_)
  obtain ⟨rfl, _, rfl, ⟨rfl, b1⟩ | ⟨rfl, b1⟩⟩ := hq
  · show W p l e r_c_X11_eight s m args below meth c _ _ 0 0 Qf (F0 m 6 ls [.int (iI 1)])
    refine x_if_eq B (by omega) (tgt := 37) dX11_eight_6 (by decide) (fun c2 => ?_) (fun c2 => ?_)
    · exact absurd c2 (by omega)
    · refine lv_iload_n B.1 B.2.1 dX11_eight_9 rfl (lv_at hl 2 rfl) ?_
      refine x_bipush B (by decide) dX11_eight_10 ?_
      refine y_cS B h k_X11_within (c_X11_within l D Zk ca _ wind 99  (by omega) (by omega)) m_431 rfl (by decide) hl.1 [] (Nat.le_of_ble_eq_true rfl) rfl dX11_eight_12 (fun r w1 hq H locs h => ?_)
      obtain ⟨rfl, _, rfl, ⟨rfl, b3⟩ | ⟨rfl, b3⟩⟩ := hq
      · show W p l e r_c_X11_eight s m args below meth c _ _ 0 0 Qf (F0 m 15 ls [.int (iI 1)])
        refine x_if_eq B (by omega) (tgt := 37) dX11_eight_15 (by decide) (fun c4 => ?_) (fun c4 => ?_)
        · exact absurd c4 (by omega)
        · refine lv_iload_n B.1 B.2.1 dX11_eight_18 rfl (lv_at hl 3 rfl) ?_
          refine x_sipush B (by decide) dX11_eight_19 ?_
          refine y_cS B h k_X11_within (c_X11_within l D Zk ca _ coin 9999  (by omega) (by omega)) m_431 rfl (by decide) hl.1 [] (Nat.le_of_ble_eq_true rfl) rfl dX11_eight_22 (fun r w1 hq H locs h => ?_)
          obtain ⟨rfl, _, rfl, ⟨rfl, b5⟩ | ⟨rfl, b5⟩⟩ := hq
          · show W p l e r_c_X11_eight s m args below meth c _ _ 0 0 Qf (F0 m 25 ls [.int (iI 1)])
            refine x_if_eq B (by omega) (tgt := 37) dX11_eight_25 (by decide) (fun c6 => ?_) (fun c6 => ?_)
            · exact absurd c6 (by omega)
            · refine lv_iload B.1 B.2.1 dX11_eight_28 (lv_at hl 4 rfl) ?_
              refine x_iconst B dX11_eight_30 ?_
              refine y_cS B h k_X11_within (c_X11_within l D Zk ca _ what 3  (by omega) (by omega)) m_431 rfl (by decide) hl.1 [] (Nat.le_of_ble_eq_true rfl) rfl dX11_eight_31 (fun r w1 hq H locs h => ?_)
              obtain ⟨rfl, _, rfl, ⟨rfl, b7⟩ | ⟨rfl, b7⟩⟩ := hq
              · show W p l e r_c_X11_eight s m args below meth c _ _ 0 0 Qf (F0 m 34 ls [.int (iI 1)])
                refine x_if_ne B (by omega) (tgt := 41) dX11_eight_34 (by decide) (fun c8 => ?_) (fun c8 => ?_)
                · refine x_iconst B dX11_eight_41 ?_
                  refine lv_istore (lv' := [(5, .int (iI 0)), (0, .ref (ad 0)), (1, .int (iI line)), (2, .int (iI wind)), (3, .int (iI coin)), (4, .int (iI what))]) B.1 B.2.1 dX11_eight_42 hl (by decide) rfl (fun ls hl => ?_)
                  refine x_iconst B dX11_eight_44 ?_
                  refine lv_istore (lv' := [(6, .int (iI 0)), (5, .int (iI 0)), (0, .ref (ad 0)), (1, .int (iI line)), (2, .int (iI wind)), (3, .int (iI coin)), (4, .int (iI what))]) B.1 B.2.1 dX11_eight_45 hl (by decide) rfl (fun ls hl => ?_)
                  refine x_iconst B dX11_eight_47 ?_
                  refine lv_istore (lv' := [(7, .int (iI 0)), (6, .int (iI 0)), (5, .int (iI 0)), (0, .ref (ad 0)), (1, .int (iI line)), (2, .int (iI wind)), (3, .int (iI coin)), (4, .int (iI what))]) B.1 B.2.1 dX11_eight_48 hl (by decide) rfl (fun ls hl => ?_)
                  refine x_iconst B dX11_eight_50 ?_
                  refine lv_istore (lv' := [(8, .int (iI 0)), (7, .int (iI 0)), (6, .int (iI 0)), (5, .int (iI 0)), (0, .ref (ad 0)), (1, .int (iI line)), (2, .int (iI wind)), (3, .int (iI coin)), (4, .int (iI what))]) B.1 B.2.1 dX11_eight_51 hl (by decide) rfl (fun ls hl => ?_)
                  have loop53 : ∀ (n53 : Nat) (cp : Int) (a : Int) (b : Int) (k : Int), (0 ≤ cp ∧ cp ≤ 12 * k) → (0 ≤ a ∧ a ≤ 12 * k) → (0 ≤ b ∧ b ≤ 12 * k) → (0 ≤ k ∧ k ≤ 300) → ((300 - k : Int)).toNat < n53 → ∀ (H : Heap) (locs : List Loc) (ls : Array Slot), yH D Zk A s w H locs → lv_has ls 12 [(8, .int (iI k)), (7, .int (iI b)), (6, .int (iI a)), (5, .int (iI cp)), (0, .ref (ad 0)), (1, .int (iI line)), (2, .int (iI wind)), (3, .int (iI coin)), (4, .int (iI what))] → W p l e r_c_X11_eight s m args below meth c H locs 0 0 Qf (F0 m 53 ls []) := by
                    intro n53
                    induction n53 with
                    | zero =>
                      intro cp a b k h0 h1 h2 h3 hm53 H locs ls h hl
                      exact absurd hm53 (Nat.not_lt_zero _)
                    | succ n53 ih53 =>
                      intro cp a b k h0 h1 h2 h3 hm53 H locs ls h hl
                      refine lv_iload B.1 B.2.1 dX11_eight_53 (lv_at hl 0 rfl) ?_
                      refine lv_aload_n B.1 B.2.1 dX11_eight_55 rfl (lv_at hl 4 rfl) ?_
                      refine y_getR B h kX11 0 (CW.f hC 0 _ rfl) 0 (b := ad 1) rfl m_361 (by decide) dX11_eight_56 ?_
                      refine y_getX B h kX0 1 (CW.f hC 1 _ rfl) 5 (z := (T 0 2)) rfl m_149 (by decide) dX11_eight_59 ?_
                      refine x_icmp_ge B (by omega) (tgt := 167) dX11_eight_62 (by decide) (fun c9 => ?_) (fun c9 => ?_)
                      · refine lv_iload B.1 B.2.1 dX11_eight_167 (lv_at hl 8 rfl) ?_
                        by_cases t10 : what = 0
                        · refine x_tin B (tgt := 196) 0 (by omega) dX11_eight_169 rfl (by decide) ?_
                          refine lv_iload B.1 B.2.1 dX11_eight_196 (lv_at hl 3 rfl) ?_
                          refine y_ri B hQ h (by decide) dX11_eight_198 ?_
                          exact ⟨rfl, _, rfl, (by first | omega | trivial | assumption)⟩
                        by_cases t11 : what = 1
                        · refine x_tin B (tgt := 199) 1 (by omega) dX11_eight_169 rfl (by decide) ?_
                          refine lv_iload B.1 B.2.1 dX11_eight_199 (lv_at hl 2 rfl) ?_
                          refine y_ri B hQ h (by decide) dX11_eight_201 ?_
                          exact ⟨rfl, _, rfl, (by first | omega | trivial | assumption)⟩
                        by_cases t12 : what = 2
                        · refine x_tin B (tgt := 202) 2 (by omega) dX11_eight_169 rfl (by decide) ?_
                          refine lv_iload B.1 B.2.1 dX11_eight_202 (lv_at hl 1 rfl) ?_
                          refine y_ri B hQ h (by decide) dX11_eight_204 ?_
                          exact ⟨rfl, _, rfl, (by first | omega | trivial | assumption)⟩
                        refine x_tout B (tgt := 205) (by omega) dX11_eight_169 (by decide) ?_
                        refine lv_iload_n B.1 B.2.1 dX11_eight_205 rfl (lv_at hl 7 rfl) ?_
                        refine lv_iload B.1 B.2.1 dX11_eight_206 (lv_at hl 2 rfl) ?_
                        refine lv_iload B.1 B.2.1 dX11_eight_208 (lv_at hl 1 rfl) ?_
                        refine x_isub B dX11_eight_210 ?_
                        refine x_imul B dX11_eight_211 ?_
                        refine x_name (fun z13 hz13 ez13 => ?_)
                        refine y_ri B hQ h (by decide) dX11_eight_212 ?_
                        exact ⟨rfl, _, rfl, (by first | omega | trivial | assumption)⟩
                      · refine lv_aload_n B.1 B.2.1 dX11_eight_65 rfl (lv_at hl 4 rfl) ?_
                        refine y_getR B h kX11 0 (CW.f hC 0 _ rfl) 0 (b := ad 1) rfl m_361 (by decide) dX11_eight_66 ?_
                        refine lv_iload B.1 B.2.1 dX11_eight_69 (lv_at hl 0 rfl) ?_
                        refine y_cV B h kX0 1 (CW.f hC 1 _ rfl) k_X0_mansAt rfl (c_X0_mansAt l D Zk ca T G u ad _ hC k  (by omega)) m_1050 rfl (by decide) hl.1 [] (Nat.le_of_ble_eq_true rfl) rfl dX11_eight_71 (fun r w1 hq H locs h => ?_)
                        obtain ⟨rfl, _, rfl, ⟨rfl, q14⟩ | ⟨rfl, q14⟩⟩ := hq
                        · show W p l e r_c_X11_eight s m args below meth c _ _ 0 0 Qf (F0 m 74 ls [.null])
                          refine lv_astoreN (lv' := [(9, .null), (8, .int (iI k)), (7, .int (iI b)), (6, .int (iI a)), (5, .int (iI cp)), (0, .ref (ad 0)), (1, .int (iI line)), (2, .int (iI wind)), (3, .int (iI coin)), (4, .int (iI what))]) B.1 B.2.1 dX11_eight_74 hl (by decide) rfl (fun ls hl => ?_)
                          refine x_iconst B dX11_eight_76 ?_
                          refine lv_istore (lv' := [(10, .int (iI 0)), (9, .null), (8, .int (iI k)), (7, .int (iI b)), (6, .int (iI a)), (5, .int (iI cp)), (0, .ref (ad 0)), (1, .int (iI line)), (2, .int (iI wind)), (3, .int (iI coin)), (4, .int (iI what))]) B.1 B.2.1 dX11_eight_77 hl (by decide) rfl (fun ls hl => ?_)
                          have loop79 : ∀ (n79 : Nat) (cp : Int) (a : Int) (b : Int) (v : Int), (0 ≤ cp ∧ cp ≤ 12 * k + v) → (0 ≤ a ∧ a ≤ 12 * k + v) → (0 ≤ b ∧ b ≤ 12 * k + v) → (0 ≤ v ∧ v ≤ 12) → ((12 - v : Int)).toNat < n79 → ∀ (H : Heap) (locs : List Loc) (ls : Array Slot), yH D Zk A s w H locs → lv_has ls 12 [(10, .int (iI v)), (9, .null), (8, .int (iI k)), (7, .int (iI b)), (6, .int (iI a)), (5, .int (iI cp)), (0, .ref (ad 0)), (1, .int (iI line)), (2, .int (iI wind)), (3, .int (iI coin)), (4, .int (iI what))] → W p l e r_c_X11_eight s m args below meth c H locs 0 0 Qf (F0 m 79 ls []) := by
                            intro n79
                            induction n79 with
                            | zero =>
                              intro cp a b v g0 g1 g2 g3 hm79 H locs ls h hl
                              exact absurd hm79 (Nat.not_lt_zero _)
                            | succ n79 ih79 =>
                              intro cp a b v g0 g1 g2 g3 hm79 H locs ls h hl
                              refine lv_iload B.1 B.2.1 dX11_eight_79 (lv_at hl 0 rfl) ?_
                              refine lv_aload_n B.1 B.2.1 dX11_eight_81 rfl (lv_at hl 6 rfl) ?_
                              refine y_getR B h kX11 0 (CW.f hC 0 _ rfl) 0 (b := ad 1) rfl m_361 (by decide) dX11_eight_82 ?_
                              refine y_getX B h kX0 1 (CW.f hC 1 _ rfl) 4 (z := (T 0 1)) rfl m_143 (by decide) dX11_eight_85 ?_
                              refine x_icmp_ge B (by omega) (tgt := 161) dX11_eight_88 (by decide) (fun c15 => ?_) (fun c15 => ?_)
                              · refine lv_iinc (v := iI (k + 1)) (lv' := [(8, .int (iI (k + 1))), (10, .int (iI v)), (9, .null), (7, .int (iI b)), (6, .int (iI a)), (5, .int (iI cp)), (0, .ref (ad 0)), (1, .int (iI line)), (2, .int (iI wind)), (3, .int (iI coin)), (4, .int (iI what))]) B.1 B.2.1 dX11_eight_161 hl (k := 2) rfl (iI_add _ _) (by decide) rfl (fun ls hl => ?_)
                                refine lv_goto (tgt := 53) B.1 B.2.1 dX11_eight_164 (by decide) ?_
                                exact ih53 cp a b ((k + 1)) (by omega) (by omega) (by omega) (by omega) (by omega) _ _ _ h (lv_sub hl [0, 3, 4, 5, 6, 7, 8, 9, 10] rfl)
                              · refine lv_aload_n B.1 B.2.1 dX11_eight_91 rfl (lv_at hl 6 rfl) ?_
                                refine y_getR B h kX11 0 (CW.f hC 0 _ rfl) 0 (b := ad 1) rfl m_361 (by decide) dX11_eight_92 ?_
                                refine lv_aloadN B.1 B.2.1 dX11_eight_95 (lv_at hl 1 rfl) ?_
                                refine lv_iload B.1 B.2.1 dX11_eight_97 (lv_at hl 0 rfl) ?_
                                refine y_cV B h kX0 1 (CW.f hC 1 _ rfl) k_X0_cupBeside rfl (c_X0_cupBeside_N l D Zk ca T G u ad _ hC v  (by omega)) m_1155 rfl (by decide) hl.1 [] (Nat.le_of_ble_eq_true rfl) rfl dX11_eight_99 (fun r w1 hq H locs h => ?_)
                                obtain ⟨rfl, _, rfl, rfl⟩ := hq
                                show W p l e r_c_X11_eight s m args below meth c _ _ 0 0 Qf (F0 m 102 ls [.null])
                                refine lv_astoreN (lv' := [(11, .null), (10, .int (iI v)), (9, .null), (8, .int (iI k)), (7, .int (iI b)), (6, .int (iI a)), (5, .int (iI cp)), (0, .ref (ad 0)), (1, .int (iI line)), (2, .int (iI wind)), (3, .int (iI coin)), (4, .int (iI what))]) B.1 B.2.1 dX11_eight_102 hl (by decide) rfl (fun ls hl => ?_)
                                refine lv_aloadN B.1 B.2.1 dX11_eight_104 (lv_at hl 2 rfl) ?_
                                refine lv_ifnullN (tgt := 155) B.1 B.2.1 dX11_eight_106 (by decide) ?_
                                refine lv_iinc (v := iI (v + 1)) (lv' := [(10, .int (iI (v + 1))), (11, .null), (9, .null), (8, .int (iI k)), (7, .int (iI b)), (6, .int (iI a)), (5, .int (iI cp)), (0, .ref (ad 0)), (1, .int (iI line)), (2, .int (iI wind)), (3, .int (iI coin)), (4, .int (iI what))]) B.1 B.2.1 dX11_eight_155 hl (k := 1) rfl (iI_add _ _) (by decide) rfl (fun ls hl => ?_)
                                refine lv_goto (tgt := 79) B.1 B.2.1 dX11_eight_158 (by decide) ?_
                                exact ih79 cp a b ((v + 1)) (by omega) (by omega) (by omega) (by omega) (by omega) _ _ _ h (lv_sub hl [0, 2, 3, 4, 5, 6, 7, 8, 9, 10, 11] rfl)
                          exact loop79 (((12 - 0 : Int)).toNat + 1) cp a b 0 (by omega) (by omega) (by omega) (by omega) (Nat.lt_succ_self _) _ _ _ h (lv_sub hl [0, 1, 2, 3, 4, 5, 6, 7, 8, 9, 10] rfl)
                        · have fo16 := CW.rd hC k (by omega)
                          show W p l e r_c_X11_eight s m args below meth c _ _ 0 0 Qf (F0 m 74 ls [.ref (G 4 k)])
                          refine lv_astore (lv' := [(9, .ref (G 4 k)), (8, .int (iI k)), (7, .int (iI b)), (6, .int (iI a)), (5, .int (iI cp)), (0, .ref (ad 0)), (1, .int (iI line)), (2, .int (iI wind)), (3, .int (iI coin)), (4, .int (iI what))]) B.1 B.2.1 dX11_eight_74 hl (by decide) rfl (fun ls hl => ?_)
                          refine x_iconst B dX11_eight_76 ?_
                          refine lv_istore (lv' := [(10, .int (iI 0)), (9, .ref (G 4 k)), (8, .int (iI k)), (7, .int (iI b)), (6, .int (iI a)), (5, .int (iI cp)), (0, .ref (ad 0)), (1, .int (iI line)), (2, .int (iI wind)), (3, .int (iI coin)), (4, .int (iI what))]) B.1 B.2.1 dX11_eight_77 hl (by decide) rfl (fun ls hl => ?_)
                          have loop79 : ∀ (n79 : Nat) (cp : Int) (a : Int) (b : Int) (v : Int), (0 ≤ cp ∧ cp ≤ 12 * k + v) → (0 ≤ a ∧ a ≤ 12 * k + v) → (0 ≤ b ∧ b ≤ 12 * k + v) → (0 ≤ v ∧ v ≤ 12) → ((12 - v : Int)).toNat < n79 → ∀ (H : Heap) (locs : List Loc) (ls : Array Slot), yH D Zk A s w H locs → lv_has ls 12 [(10, .int (iI v)), (9, .ref (G 4 k)), (8, .int (iI k)), (7, .int (iI b)), (6, .int (iI a)), (5, .int (iI cp)), (0, .ref (ad 0)), (1, .int (iI line)), (2, .int (iI wind)), (3, .int (iI coin)), (4, .int (iI what))] → W p l e r_c_X11_eight s m args below meth c H locs 0 0 Qf (F0 m 79 ls []) := by
                            intro n79
                            induction n79 with
                            | zero =>
                              intro cp a b v g0 g1 g2 g3 hm79 H locs ls h hl
                              exact absurd hm79 (Nat.not_lt_zero _)
                            | succ n79 ih79 =>
                              intro cp a b v g0 g1 g2 g3 hm79 H locs ls h hl
                              refine lv_iload B.1 B.2.1 dX11_eight_79 (lv_at hl 0 rfl) ?_
                              refine lv_aload_n B.1 B.2.1 dX11_eight_81 rfl (lv_at hl 6 rfl) ?_
                              refine y_getR B h kX11 0 (CW.f hC 0 _ rfl) 0 (b := ad 1) rfl m_361 (by decide) dX11_eight_82 ?_
                              refine y_getX B h kX0 1 (CW.f hC 1 _ rfl) 4 (z := (T 0 1)) rfl m_143 (by decide) dX11_eight_85 ?_
                              refine x_icmp_ge B (by omega) (tgt := 161) dX11_eight_88 (by decide) (fun c17 => ?_) (fun c17 => ?_)
                              · refine lv_iinc (v := iI (k + 1)) (lv' := [(8, .int (iI (k + 1))), (10, .int (iI v)), (9, .ref (G 4 k)), (7, .int (iI b)), (6, .int (iI a)), (5, .int (iI cp)), (0, .ref (ad 0)), (1, .int (iI line)), (2, .int (iI wind)), (3, .int (iI coin)), (4, .int (iI what))]) B.1 B.2.1 dX11_eight_161 hl (k := 2) rfl (iI_add _ _) (by decide) rfl (fun ls hl => ?_)
                                refine lv_goto (tgt := 53) B.1 B.2.1 dX11_eight_164 (by decide) ?_
                                exact ih53 cp a b ((k + 1)) (by omega) (by omega) (by omega) (by omega) (by omega) _ _ _ h (lv_sub hl [0, 3, 4, 5, 6, 7, 8, 9, 10] rfl)
                              · refine lv_aload_n B.1 B.2.1 dX11_eight_91 rfl (lv_at hl 6 rfl) ?_
                                refine y_getR B h kX11 0 (CW.f hC 0 _ rfl) 0 (b := ad 1) rfl m_361 (by decide) dX11_eight_92 ?_
                                refine lv_aload B.1 B.2.1 dX11_eight_95 (lv_at hl 1 rfl) ?_
                                refine lv_iload B.1 B.2.1 dX11_eight_97 (lv_at hl 0 rfl) ?_
                                refine y_cV B h kX0 1 (CW.f hC 1 _ rfl) k_X0_cupBeside rfl (c_X0_cupBeside l D Zk ca T G u ad _ hC k v  (by omega) (by omega)) m_1155 rfl (by decide) hl.1 [] (Nat.le_of_ble_eq_true rfl) rfl dX11_eight_99 (fun r w1 hq H locs h => ?_)
                                obtain ⟨rfl, _, rfl, ⟨rfl, q18⟩ | ⟨k19, rfl, q18⟩⟩ := hq
                                · show W p l e r_c_X11_eight s m args below meth c _ _ 0 0 Qf (F0 m 102 ls [.null])
                                  refine lv_astoreN (lv' := [(11, .null), (10, .int (iI v)), (9, .ref (G 4 k)), (8, .int (iI k)), (7, .int (iI b)), (6, .int (iI a)), (5, .int (iI cp)), (0, .ref (ad 0)), (1, .int (iI line)), (2, .int (iI wind)), (3, .int (iI coin)), (4, .int (iI what))]) B.1 B.2.1 dX11_eight_102 hl (by decide) rfl (fun ls hl => ?_)
                                  refine lv_aload B.1 B.2.1 dX11_eight_104 (lv_at hl 2 rfl) ?_
                                  refine lv_ifnull B.1 B.2.1 dX11_eight_106 ?_
                                  refine lv_aloadN B.1 B.2.1 dX11_eight_109 (lv_at hl 0 rfl) ?_
                                  refine lv_ifnullN (tgt := 155) B.1 B.2.1 dX11_eight_111 (by decide) ?_
                                  refine lv_iinc (v := iI (v + 1)) (lv' := [(10, .int (iI (v + 1))), (11, .null), (9, .ref (G 4 k)), (8, .int (iI k)), (7, .int (iI b)), (6, .int (iI a)), (5, .int (iI cp)), (0, .ref (ad 0)), (1, .int (iI line)), (2, .int (iI wind)), (3, .int (iI coin)), (4, .int (iI what))]) B.1 B.2.1 dX11_eight_155 hl (k := 1) rfl (iI_add _ _) (by decide) rfl (fun ls hl => ?_)
                                  refine lv_goto (tgt := 79) B.1 B.2.1 dX11_eight_158 (by decide) ?_
                                  exact ih79 cp a b ((v + 1)) (by omega) (by omega) (by omega) (by omega) (by omega) _ _ _ h (lv_sub hl [0, 2, 3, 4, 5, 6, 7, 8, 9, 10, 11] rfl)
                                · have fo20 := CW.rd hC k19 (by omega)
                                  show W p l e r_c_X11_eight s m args below meth c _ _ 0 0 Qf (F0 m 102 ls [.ref (G 4 k19)])
                                  refine lv_astore (lv' := [(11, .ref (G 4 k19)), (10, .int (iI v)), (9, .ref (G 4 k)), (8, .int (iI k)), (7, .int (iI b)), (6, .int (iI a)), (5, .int (iI cp)), (0, .ref (ad 0)), (1, .int (iI line)), (2, .int (iI wind)), (3, .int (iI coin)), (4, .int (iI what))]) B.1 B.2.1 dX11_eight_102 hl (by decide) rfl (fun ls hl => ?_)
                                  refine lv_aload B.1 B.2.1 dX11_eight_104 (lv_at hl 2 rfl) ?_
                                  refine lv_ifnull B.1 B.2.1 dX11_eight_106 ?_
                                  refine lv_aload B.1 B.2.1 dX11_eight_109 (lv_at hl 0 rfl) ?_
                                  refine lv_ifnull B.1 B.2.1 dX11_eight_111 ?_
                                  refine lv_iinc (v := iI (cp + 1)) (lv' := [(5, .int (iI (cp + 1))), (11, .ref (G 4 k19)), (10, .int (iI v)), (9, .ref (G 4 k)), (8, .int (iI k)), (7, .int (iI b)), (6, .int (iI a)), (0, .ref (ad 0)), (1, .int (iI line)), (2, .int (iI wind)), (3, .int (iI coin)), (4, .int (iI what))]) B.1 B.2.1 dX11_eight_114 hl (k := 6) rfl (iI_add _ _) (by decide) rfl (fun ls hl => ?_)
                                  refine lv_iload B.1 B.2.1 dX11_eight_117 (lv_at hl 6 rfl) ?_
                                  refine lv_aload B.1 B.2.1 dX11_eight_119 (lv_at hl 3 rfl) ?_
                                  refine y_getX B h kX4 (1000 + 16 * k.toNat + 4) fo16 4 (z := (T 8 k)) rfl m_532 (by decide) dX11_eight_121 ?_
                                  have tb21 := pi_8 (CW.pi hC) k
                                  have tb22 := pi_n (CW.pi hC) k
                                  refine lv_iload_n B.1 B.2.1 dX11_eight_124 rfl (lv_at hl 8 rfl) ?_
                                  refine x_icmp_lt B (by omega) (tgt := 132) dX11_eight_125 (by decide) (fun c23 => ?_) (fun c23 => ?_)
                                  · refine x_iconst B dX11_eight_132 ?_
                                    refine x_iadd B dX11_eight_133 ?_
                                    refine lv_istore (lv' := [(6, .int (iI (a + 0))), (5, .int (iI (cp + 1))), (11, .ref (G 4 k19)), (10, .int (iI v)), (9, .ref (G 4 k)), (8, .int (iI k)), (7, .int (iI b)), (0, .ref (ad 0)), (1, .int (iI line)), (2, .int (iI wind)), (3, .int (iI coin)), (4, .int (iI what))]) B.1 B.2.1 dX11_eight_134 hl (by decide) rfl (fun ls hl => ?_)
                                    refine lv_iload B.1 B.2.1 dX11_eight_136 (lv_at hl 6 rfl) ?_
                                    refine lv_aload B.1 B.2.1 dX11_eight_138 (lv_at hl 2 rfl) ?_
                                    refine y_getX B h kX4 (1000 + 16 * k19.toNat + 4) fo20 4 (z := (T 8 k19)) rfl m_532 (by decide) dX11_eight_140 ?_
                                    have tb24 := pi_8 (CW.pi hC) k19
                                    have tb25 := pi_n (CW.pi hC) k19
                                    refine lv_iload_n B.1 B.2.1 dX11_eight_143 rfl (lv_at hl 9 rfl) ?_
                                    refine x_icmp_lt B (by omega) (tgt := 151) dX11_eight_144 (by decide) (fun c26 => ?_) (fun c26 => ?_)
                                    · refine x_iconst B dX11_eight_151 ?_
                                      refine x_iadd B dX11_eight_152 ?_
                                      refine lv_istore (lv' := [(7, .int (iI (b + 0))), (6, .int (iI (a + 0))), (5, .int (iI (cp + 1))), (11, .ref (G 4 k19)), (10, .int (iI v)), (9, .ref (G 4 k)), (8, .int (iI k)), (0, .ref (ad 0)), (1, .int (iI line)), (2, .int (iI wind)), (3, .int (iI coin)), (4, .int (iI what))]) B.1 B.2.1 dX11_eight_153 hl (by decide) rfl (fun ls hl => ?_)
                                      refine lv_iinc (v := iI (v + 1)) (lv' := [(10, .int (iI (v + 1))), (7, .int (iI (b + 0))), (6, .int (iI (a + 0))), (5, .int (iI (cp + 1))), (11, .ref (G 4 k19)), (9, .ref (G 4 k)), (8, .int (iI k)), (0, .ref (ad 0)), (1, .int (iI line)), (2, .int (iI wind)), (3, .int (iI coin)), (4, .int (iI what))]) B.1 B.2.1 dX11_eight_155 hl (k := 4) rfl (iI_add _ _) (by decide) rfl (fun ls hl => ?_)
                                      refine lv_goto (tgt := 79) B.1 B.2.1 dX11_eight_158 (by decide) ?_
                                      exact ih79 ((cp + 1)) ((a + 0)) ((b + 0)) ((v + 1)) (by omega) (by omega) (by omega) (by omega) (by omega) _ _ _ h (lv_sub hl [0, 5, 6, 1, 2, 3, 7, 8, 9, 10, 11] rfl)
                                    · refine x_iconst B dX11_eight_147 ?_
                                      refine lv_goto (tgt := 152) B.1 B.2.1 dX11_eight_148 (by decide) ?_
                                      refine x_iadd B dX11_eight_152 ?_
                                      refine lv_istore (lv' := [(7, .int (iI (b + 1))), (6, .int (iI (a + 0))), (5, .int (iI (cp + 1))), (11, .ref (G 4 k19)), (10, .int (iI v)), (9, .ref (G 4 k)), (8, .int (iI k)), (0, .ref (ad 0)), (1, .int (iI line)), (2, .int (iI wind)), (3, .int (iI coin)), (4, .int (iI what))]) B.1 B.2.1 dX11_eight_153 hl (by decide) rfl (fun ls hl => ?_)
                                      refine lv_iinc (v := iI (v + 1)) (lv' := [(10, .int (iI (v + 1))), (7, .int (iI (b + 1))), (6, .int (iI (a + 0))), (5, .int (iI (cp + 1))), (11, .ref (G 4 k19)), (9, .ref (G 4 k)), (8, .int (iI k)), (0, .ref (ad 0)), (1, .int (iI line)), (2, .int (iI wind)), (3, .int (iI coin)), (4, .int (iI what))]) B.1 B.2.1 dX11_eight_155 hl (k := 4) rfl (iI_add _ _) (by decide) rfl (fun ls hl => ?_)
                                      refine lv_goto (tgt := 79) B.1 B.2.1 dX11_eight_158 (by decide) ?_
                                      exact ih79 ((cp + 1)) ((a + 0)) ((b + 1)) ((v + 1)) (by omega) (by omega) (by omega) (by omega) (by omega) _ _ _ h (lv_sub hl [0, 5, 6, 1, 2, 3, 7, 8, 9, 10, 11] rfl)
                                  · refine x_iconst B dX11_eight_128 ?_
                                    refine lv_goto (tgt := 133) B.1 B.2.1 dX11_eight_129 (by decide) ?_
                                    refine x_iadd B dX11_eight_133 ?_
                                    refine lv_istore (lv' := [(6, .int (iI (a + 1))), (5, .int (iI (cp + 1))), (11, .ref (G 4 k19)), (10, .int (iI v)), (9, .ref (G 4 k)), (8, .int (iI k)), (7, .int (iI b)), (0, .ref (ad 0)), (1, .int (iI line)), (2, .int (iI wind)), (3, .int (iI coin)), (4, .int (iI what))]) B.1 B.2.1 dX11_eight_134 hl (by decide) rfl (fun ls hl => ?_)
                                    refine lv_iload B.1 B.2.1 dX11_eight_136 (lv_at hl 6 rfl) ?_
                                    refine lv_aload B.1 B.2.1 dX11_eight_138 (lv_at hl 2 rfl) ?_
                                    refine y_getX B h kX4 (1000 + 16 * k19.toNat + 4) fo20 4 (z := (T 8 k19)) rfl m_532 (by decide) dX11_eight_140 ?_
                                    have tb27 := pi_8 (CW.pi hC) k19
                                    have tb28 := pi_n (CW.pi hC) k19
                                    refine lv_iload_n B.1 B.2.1 dX11_eight_143 rfl (lv_at hl 9 rfl) ?_
                                    refine x_icmp_lt B (by omega) (tgt := 151) dX11_eight_144 (by decide) (fun c29 => ?_) (fun c29 => ?_)
                                    · refine x_iconst B dX11_eight_151 ?_
                                      refine x_iadd B dX11_eight_152 ?_
                                      refine lv_istore (lv' := [(7, .int (iI (b + 0))), (6, .int (iI (a + 1))), (5, .int (iI (cp + 1))), (11, .ref (G 4 k19)), (10, .int (iI v)), (9, .ref (G 4 k)), (8, .int (iI k)), (0, .ref (ad 0)), (1, .int (iI line)), (2, .int (iI wind)), (3, .int (iI coin)), (4, .int (iI what))]) B.1 B.2.1 dX11_eight_153 hl (by decide) rfl (fun ls hl => ?_)
                                      refine lv_iinc (v := iI (v + 1)) (lv' := [(10, .int (iI (v + 1))), (7, .int (iI (b + 0))), (6, .int (iI (a + 1))), (5, .int (iI (cp + 1))), (11, .ref (G 4 k19)), (9, .ref (G 4 k)), (8, .int (iI k)), (0, .ref (ad 0)), (1, .int (iI line)), (2, .int (iI wind)), (3, .int (iI coin)), (4, .int (iI what))]) B.1 B.2.1 dX11_eight_155 hl (k := 4) rfl (iI_add _ _) (by decide) rfl (fun ls hl => ?_)
                                      refine lv_goto (tgt := 79) B.1 B.2.1 dX11_eight_158 (by decide) ?_
                                      exact ih79 ((cp + 1)) ((a + 1)) ((b + 0)) ((v + 1)) (by omega) (by omega) (by omega) (by omega) (by omega) _ _ _ h (lv_sub hl [0, 5, 6, 1, 2, 3, 7, 8, 9, 10, 11] rfl)
                                    · refine x_iconst B dX11_eight_147 ?_
                                      refine lv_goto (tgt := 152) B.1 B.2.1 dX11_eight_148 (by decide) ?_
                                      refine x_iadd B dX11_eight_152 ?_
                                      refine lv_istore (lv' := [(7, .int (iI (b + 1))), (6, .int (iI (a + 1))), (5, .int (iI (cp + 1))), (11, .ref (G 4 k19)), (10, .int (iI v)), (9, .ref (G 4 k)), (8, .int (iI k)), (0, .ref (ad 0)), (1, .int (iI line)), (2, .int (iI wind)), (3, .int (iI coin)), (4, .int (iI what))]) B.1 B.2.1 dX11_eight_153 hl (by decide) rfl (fun ls hl => ?_)
                                      refine lv_iinc (v := iI (v + 1)) (lv' := [(10, .int (iI (v + 1))), (7, .int (iI (b + 1))), (6, .int (iI (a + 1))), (5, .int (iI (cp + 1))), (11, .ref (G 4 k19)), (9, .ref (G 4 k)), (8, .int (iI k)), (0, .ref (ad 0)), (1, .int (iI line)), (2, .int (iI wind)), (3, .int (iI coin)), (4, .int (iI what))]) B.1 B.2.1 dX11_eight_155 hl (k := 4) rfl (iI_add _ _) (by decide) rfl (fun ls hl => ?_)
                                      refine lv_goto (tgt := 79) B.1 B.2.1 dX11_eight_158 (by decide) ?_
                                      exact ih79 ((cp + 1)) ((a + 1)) ((b + 1)) ((v + 1)) (by omega) (by omega) (by omega) (by omega) (by omega) _ _ _ h (lv_sub hl [0, 5, 6, 1, 2, 3, 7, 8, 9, 10, 11] rfl)
                          exact loop79 (((12 - 0 : Int)).toNat + 1) cp a b 0 (by omega) (by omega) (by omega) (by omega) (Nat.lt_succ_self _) _ _ _ h (lv_sub hl [0, 1, 2, 3, 4, 5, 6, 7, 8, 9, 10] rfl)
                  exact loop53 (((300 - 0 : Int)).toNat + 1) 0 0 0 0 (by omega) (by omega) (by omega) (by omega) (Nat.lt_succ_self _) _ _ _ h (lv_sub hl [0, 1, 2, 3, 4, 5, 6, 7, 8] rfl)
                · exact absurd c8 (by omega)
              · show W p l e r_c_X11_eight s m args below meth c _ _ 0 0 Qf (F0 m 34 ls [.int (iI 0)])
                refine x_if_ne B (by omega) (tgt := 41) dX11_eight_34 (by decide) (fun c30 => ?_) (fun c30 => ?_)
                · exact absurd c30 (by omega)
                · refine x_ldcw B (z := (-1000000000)) m_1154 (by decide) dX11_eight_37 ?_
                  refine y_ri B hQ h (by decide) dX11_eight_40 ?_
                  exact ⟨rfl, _, rfl, (by first | omega | trivial | assumption)⟩
          · show W p l e r_c_X11_eight s m args below meth c _ _ 0 0 Qf (F0 m 25 ls [.int (iI 0)])
            refine x_if_eq B (by omega) (tgt := 37) dX11_eight_25 (by decide) (fun c31 => ?_) (fun c31 => ?_)
            · refine x_ldcw B (z := (-1000000000)) m_1154 (by decide) dX11_eight_37 ?_
              refine y_ri B hQ h (by decide) dX11_eight_40 ?_
              exact ⟨rfl, _, rfl, (by first | omega | trivial | assumption)⟩
            · exact absurd c31 (by omega)
      · show W p l e r_c_X11_eight s m args below meth c _ _ 0 0 Qf (F0 m 15 ls [.int (iI 0)])
        refine x_if_eq B (by omega) (tgt := 37) dX11_eight_15 (by decide) (fun c32 => ?_) (fun c32 => ?_)
        · refine x_ldcw B (z := (-1000000000)) m_1154 (by decide) dX11_eight_37 ?_
          refine y_ri B hQ h (by decide) dX11_eight_40 ?_
          exact ⟨rfl, _, rfl, (by first | omega | trivial | assumption)⟩
        · exact absurd c32 (by omega)
  · show W p l e r_c_X11_eight s m args below meth c _ _ 0 0 Qf (F0 m 6 ls [.int (iI 0)])
    refine x_if_eq B (by omega) (tgt := 37) dX11_eight_6 (by decide) (fun c33 => ?_) (fun c33 => ?_)
    · refine x_ldcw B (z := (-1000000000)) m_1154 (by decide) dX11_eight_37 ?_
      refine y_ri B hQ h (by decide) dX11_eight_40 ?_
      exact ⟨rfl, _, rfl, (by first | omega | trivial | assumption)⟩
    · exact absurd c33 (by omega)
abbrev r_c_X11_alike : Room := { frames := 6, cells := 0, slots := 0, locals := 154 }
set_option maxHeartbeats 4000000 in
set_option maxRecDepth 100000 in
theorem c_X11_alike (l : Launch) (D : va_G) (Zk : yK) (ca : Nat → ClassId) (T : Nat → Int → Int) (G : Nat → Int → Nat) (u : Int) (ad : Nat → Nat) (w : yW) (hC : CW ca T G u ad w) (scale : Int)  (hscale : xr scale) : yC l D Zk ca yX11_alike cX11_alike 6 (some .int) r_c_X11_alike [.ref (ad 0), .int (iI scale)] w (vI w (fun z => xr z)) := by
  refine yC.of2 "WindWords" (by decide) rfl (Nat.le_of_ble_eq_true rfl) ?_
  intro p e s m args below meth c A ls Qf B hnm h hl hQ
  have hl : lv_has ls 6 [(0, .ref (ad 0)), (1, .int (iI scale))] := hl
  have hs := pi_s (CW.pi hC)
  refine lv_iload_n B.1 B.2.1 dX11_alike_0 rfl (lv_at hl 1 rfl) ?_
  refine lv_aload_n B.1 B.2.1 dX11_alike_1 rfl (lv_at hl 0 rfl) ?_
  refine y_getR B h kX11 0 (CW.f hC 0 _ rfl) 1 (b := ad 4) rfl m_362 (by decide) dX11_alike_2 ?_
  refine y_getG B h kX6 4 (CW.f hC 4 _ rfl) 7 (lo := 0) (hi := 8) rfl m_195 (by decide) dX11_alike_5 (fun z1 z1a z1b => ?_)
  refine x_iconst B dX11_alike_8 ?_
  refine x_isub B dX11_alike_9 ?_
  refine y_cS B h k_X11_within (c_X11_within l D Zk ca _ scale ((z1 - 1))  (by omega) (by omega)) m_431 rfl (by decide) hl.1 [] (Nat.le_of_ble_eq_true rfl) rfl dX11_alike_10 (fun r w1 hq H locs h => ?_)
  obtain ⟨rfl, _, rfl, ⟨rfl, b2⟩ | ⟨rfl, b2⟩⟩ := hq
  · show W p l e r_c_X11_alike s m args below meth c _ _ 0 0 Qf (F0 m 13 ls [.int (iI 1)])
    refine x_if_eq B (by omega) (tgt := 22) dX11_alike_13 (by decide) (fun c3 => ?_) (fun c3 => ?_)
    · exact absurd c3 (by omega)
    · refine lv_aload_n B.1 B.2.1 dX11_alike_16 rfl (lv_at hl 0 rfl) ?_
      refine lv_iload_n B.1 B.2.1 dX11_alike_17 rfl (lv_at hl 1 rfl) ?_
      refine y_cV B h kX11 0 (CW.f hC 0 _ rfl) k_X11_unlikeness rfl (c_X11_unlikeness l D Zk ca T G u ad _ hC scale  (by omega)) m_1160 rfl (by decide) hl.1 [] (Nat.le_of_ble_eq_true rfl) rfl dX11_alike_18 (fun r w1 hq H locs h => ?_)
      obtain ⟨rfl, z4, rfl, hz4⟩ := hq
      show W p l e r_c_X11_alike s m args below meth c _ _ 0 0 Qf (F0 m 21 ls [.int (iI z4)])
      refine y_ri B hQ h (by decide) dX11_alike_21 ?_
      exact ⟨rfl, _, rfl, (by first | omega | trivial | assumption)⟩
  · show W p l e r_c_X11_alike s m args below meth c _ _ 0 0 Qf (F0 m 13 ls [.int (iI 0)])
    refine x_if_eq B (by omega) (tgt := 22) dX11_alike_13 (by decide) (fun c5 => ?_) (fun c5 => ?_)
    · refine lv_iload_n B.1 B.2.1 dX11_alike_22 rfl (lv_at hl 1 rfl) ?_
      refine x_iconst B dX11_alike_23 ?_
      refine x_icmp_eq B (by omega) (tgt := 29) dX11_alike_24 (by decide) (fun c6 => ?_) (fun c6 => ?_)
      · refine x_iconst B dX11_alike_29 ?_
        refine lv_istore_n (lv' := [(2, .int (iI (-1))), (0, .ref (ad 0)), (1, .int (iI scale))]) B.1 B.2.1 dX11_alike_30 rfl hl (by decide) rfl (fun ls hl => ?_)
        refine x_iconst B dX11_alike_31 ?_
        refine lv_istore_n (lv' := [(3, .int (iI 0)), (2, .int (iI (-1))), (0, .ref (ad 0)), (1, .int (iI scale))]) B.1 B.2.1 dX11_alike_32 rfl hl (by decide) rfl (fun ls hl => ?_)
        refine x_iconst B dX11_alike_33 ?_
        refine lv_istore (lv' := [(4, .int (iI 0)), (3, .int (iI 0)), (2, .int (iI (-1))), (0, .ref (ad 0)), (1, .int (iI scale))]) B.1 B.2.1 dX11_alike_34 hl (by decide) rfl (fun ls hl => ?_)
        have loop36 : ∀ (n36 : Nat) (b : Int) (l_ : Int) (k : Int), (-1 ≤ b ∧ b ≤ 7) → (xr l_) → (0 ≤ k ∧ k ≤ 8) → ((8 - k : Int)).toNat < n36 → ∀ (H : Heap) (locs : List Loc) (ls : Array Slot), yH D Zk A s w H locs → lv_has ls 6 [(4, .int (iI k)), (3, .int (iI l_)), (2, .int (iI b)), (0, .ref (ad 0))] → W p l e r_c_X11_alike s m args below meth c H locs 0 0 Qf (F0 m 36 ls []) := by
          intro n36
          induction n36 with
          | zero =>
            intro b l_ k h0 h1 h2 hm36 H locs ls h hl
            exact absurd hm36 (Nat.not_lt_zero _)
          | succ n36 ih36 =>
            intro b l_ k h0 h1 h2 hm36 H locs ls h hl
            refine lv_iload B.1 B.2.1 dX11_alike_36 (lv_at hl 0 rfl) ?_
            refine lv_aload_n B.1 B.2.1 dX11_alike_38 rfl (lv_at hl 3 rfl) ?_
            refine y_getR B h kX11 0 (CW.f hC 0 _ rfl) 1 (b := ad 4) rfl m_362 (by decide) dX11_alike_39 ?_
            refine y_getG B h kX6 4 (CW.f hC 4 _ rfl) 7 (lo := 0) (hi := 8) rfl m_195 (by decide) dX11_alike_42 (fun z7 z7a z7b => ?_)
            refine x_icmp_ge B (by omega) (tgt := 79) dX11_alike_45 (by decide) (fun c8 => ?_) (fun c8 => ?_)
            · refine lv_iload_n B.1 B.2.1 dX11_alike_79 rfl (lv_at hl 2 rfl) ?_
              refine y_ri B hQ h (by decide) dX11_alike_80 ?_
              exact ⟨rfl, _, rfl, (by first | omega | trivial | assumption)⟩
            · refine lv_aload_n B.1 B.2.1 dX11_alike_48 rfl (lv_at hl 3 rfl) ?_
              refine lv_iload B.1 B.2.1 dX11_alike_49 (lv_at hl 0 rfl) ?_
              refine y_cV B h kX11 0 (CW.f hC 0 _ rfl) k_X11_unlikeness rfl (c_X11_unlikeness l D Zk ca T G u ad _ hC k  (by omega)) m_1160 rfl (by decide) hl.1 [] (Nat.le_of_ble_eq_true rfl) rfl dX11_alike_51 (fun r w1 hq H locs h => ?_)
              obtain ⟨rfl, z9, rfl, hz9⟩ := hq
              show W p l e r_c_X11_alike s m args below meth c _ _ 0 0 Qf (F0 m 54 ls [.int (iI z9)])
              refine lv_istore (lv' := [(5, .int (iI z9)), (4, .int (iI k)), (3, .int (iI l_)), (2, .int (iI b)), (0, .ref (ad 0))]) B.1 B.2.1 dX11_alike_54 hl (by decide) rfl (fun ls hl => ?_)
              refine lv_iload_n B.1 B.2.1 dX11_alike_56 rfl (lv_at hl 3 rfl) ?_
              refine x_iconst B dX11_alike_57 ?_
              refine x_icmp_eq B (by omega) (tgt := 67) dX11_alike_58 (by decide) (fun c10 => ?_) (fun c10 => ?_)
              · refine lv_iload B.1 B.2.1 dX11_alike_67 (lv_at hl 1 rfl) ?_
                refine lv_istore_n (lv' := [(2, .int (iI k)), (5, .int (iI z9)), (4, .int (iI k)), (3, .int (iI l_)), (0, .ref (ad 0))]) B.1 B.2.1 dX11_alike_69 rfl hl (by decide) rfl (fun ls hl => ?_)
                refine lv_iload B.1 B.2.1 dX11_alike_70 (lv_at hl 1 rfl) ?_
                refine lv_istore_n (lv' := [(3, .int (iI z9)), (2, .int (iI k)), (5, .int (iI z9)), (4, .int (iI k)), (0, .ref (ad 0))]) B.1 B.2.1 dX11_alike_72 rfl hl (by decide) rfl (fun ls hl => ?_)
                refine lv_iinc (v := iI (k + 1)) (lv' := [(4, .int (iI (k + 1))), (3, .int (iI z9)), (2, .int (iI k)), (5, .int (iI z9)), (0, .ref (ad 0))]) B.1 B.2.1 dX11_alike_73 hl (k := 3) rfl (iI_add _ _) (by decide) rfl (fun ls hl => ?_)
                refine lv_goto (tgt := 36) B.1 B.2.1 dX11_alike_76 (by decide) ?_
                exact ih36 k z9 ((k + 1)) (by omega) (by omega) (by omega) (by omega) _ _ _ h (lv_sub hl [0, 1, 2, 4] rfl)
              · refine lv_iload B.1 B.2.1 dX11_alike_61 (lv_at hl 0 rfl) ?_
                refine lv_iload_n B.1 B.2.1 dX11_alike_63 rfl (lv_at hl 2 rfl) ?_
                refine x_icmp_ge B (by omega) (tgt := 73) dX11_alike_64 (by decide) (fun c11 => ?_) (fun c11 => ?_)
                · refine lv_iinc (v := iI (k + 1)) (lv' := [(4, .int (iI (k + 1))), (5, .int (iI z9)), (3, .int (iI l_)), (2, .int (iI b)), (0, .ref (ad 0))]) B.1 B.2.1 dX11_alike_73 hl (k := 1) rfl (iI_add _ _) (by decide) rfl (fun ls hl => ?_)
                  refine lv_goto (tgt := 36) B.1 B.2.1 dX11_alike_76 (by decide) ?_
                  exact ih36 b l_ ((k + 1)) (by omega) (by omega) (by omega) (by omega) _ _ _ h (lv_sub hl [0, 2, 3, 4] rfl)
                · refine lv_iload B.1 B.2.1 dX11_alike_67 (lv_at hl 1 rfl) ?_
                  refine lv_istore_n (lv' := [(2, .int (iI k)), (5, .int (iI z9)), (4, .int (iI k)), (3, .int (iI l_)), (0, .ref (ad 0))]) B.1 B.2.1 dX11_alike_69 rfl hl (by decide) rfl (fun ls hl => ?_)
                  refine lv_iload B.1 B.2.1 dX11_alike_70 (lv_at hl 1 rfl) ?_
                  refine lv_istore_n (lv' := [(3, .int (iI z9)), (2, .int (iI k)), (5, .int (iI z9)), (4, .int (iI k)), (0, .ref (ad 0))]) B.1 B.2.1 dX11_alike_72 rfl hl (by decide) rfl (fun ls hl => ?_)
                  refine lv_iinc (v := iI (k + 1)) (lv' := [(4, .int (iI (k + 1))), (3, .int (iI z9)), (2, .int (iI k)), (5, .int (iI z9)), (0, .ref (ad 0))]) B.1 B.2.1 dX11_alike_73 hl (k := 3) rfl (iI_add _ _) (by decide) rfl (fun ls hl => ?_)
                  refine lv_goto (tgt := 36) B.1 B.2.1 dX11_alike_76 (by decide) ?_
                  exact ih36 k z9 ((k + 1)) (by omega) (by omega) (by omega) (by omega) _ _ _ h (lv_sub hl [0, 1, 2, 4] rfl)
        exact loop36 (((8 - 0 : Int)).toNat + 1) ((-1)) 0 0 (by omega) (by omega) (by omega) (Nat.lt_succ_self _) _ _ _ h (lv_sub hl [0, 1, 2, 3] rfl)
      · refine x_iconst B dX11_alike_27 ?_
        refine y_ri B hQ h (by decide) dX11_alike_28 ?_
        exact ⟨rfl, _, rfl, (by first | omega | trivial | assumption)⟩
    · exact absurd c5 (by omega)
abbrev r_c_X11_way : Room := { frames := 6, cells := 0, slots := 0, locals := 137 }
set_option maxHeartbeats 4000000 in
set_option maxRecDepth 100000 in
theorem c_X11_way (l : Launch) (D : va_G) (Zk : yK) (ca : Nat → ClassId) (T : Nat → Int → Int) (G : Nat → Int → Nat) (u : Int) (ad : Nat → Nat) (w : yW) (hC : CW ca T G u ad w) (watch : Int) (cell : Int)  (hwatch : xr watch) (hcell : xr cell) : yC l D Zk ca yX11_way cX11_way 5 (some .int) r_c_X11_way [.ref (ad 0), .int (iI watch), .int (iI cell)] w (vI w (fun z => xr z)) := by
  refine yC.of2 "WindWords" (by decide) rfl (Nat.le_of_ble_eq_true rfl) ?_
  intro p e s m args below meth c A ls Qf B hnm h hl hQ
  have hl : lv_has ls 5 [(0, .ref (ad 0)), (1, .int (iI watch)), (2, .int (iI cell))] := hl
  have hs := pi_s (CW.pi hC)
  refine lv_aload_n B.1 B.2.1 dX11_way_0 rfl (lv_at hl 0 rfl) ?_
  refine y_getR B h kX11 0 (CW.f hC 0 _ rfl) 4 (b := ad 18) rfl m_365 (by decide) dX11_way_1 ?_
  refine lv_iload_n B.1 B.2.1 dX11_way_4 rfl (lv_at hl 1 rfl) ?_
  refine y_cV B h kX8 18 (CW.f hC 18 _ rfl) k_X8_lasts rfl (c_X8_lasts l D Zk ca T G u ad _ hC watch  (by omega)) m_1204 rfl (by decide) hl.1 [] (Nat.le_of_ble_eq_true rfl) rfl dX11_way_5 (fun r w1 hq H locs h => ?_)
  obtain ⟨rfl, _, rfl, ⟨rfl, b1⟩ | ⟨rfl, b1⟩⟩ := hq
  · show W p l e r_c_X11_way s m args below meth c _ _ 0 0 Qf (F0 m 8 ls [.int (iI 1)])
    refine x_if_eq B (by omega) (tgt := 22) dX11_way_8 (by decide) (fun c2 => ?_) (fun c2 => ?_)
    · exact absurd c2 (by omega)
    · refine lv_iload_n B.1 B.2.1 dX11_way_11 rfl (lv_at hl 2 rfl) ?_
      refine x_iconst B dX11_way_12 ?_
      refine x_icmp_lt B (by omega) (tgt := 22) dX11_way_13 (by decide) (fun c3 => ?_) (fun c3 => ?_)
      · refine x_iconst B dX11_way_22 ?_
        refine y_ri B hQ h (by decide) dX11_way_23 ?_
        exact ⟨rfl, _, rfl, (by first | omega | trivial | assumption)⟩
      · refine lv_iload_n B.1 B.2.1 dX11_way_16 rfl (lv_at hl 2 rfl) ?_
        refine x_bipush B (by decide) dX11_way_17 ?_
        refine x_icmp_le B (by omega) (tgt := 24) dX11_way_19 (by decide) (fun c4 => ?_) (fun c4 => ?_)
        · refine lv_aload_n B.1 B.2.1 dX11_way_24 rfl (lv_at hl 0 rfl) ?_
          refine y_getR B h kX11 0 (CW.f hC 0 _ rfl) 4 (b := ad 18) rfl m_365 (by decide) dX11_way_25 ?_
          refine lv_aload_n B.1 B.2.1 dX11_way_28 rfl (lv_at hl 0 rfl) ?_
          refine y_getR B h kX11 0 (CW.f hC 0 _ rfl) 0 (b := ad 1) rfl m_361 (by decide) dX11_way_29 ?_
          refine y_cV B h kX8 18 (CW.f hC 18 _ rfl) k_X8_follow rfl (c_X8_follow l D Zk ca T G u ad _ hC   ) m_1172 rfl (by decide) hl.1 [] (Nat.le_of_ble_eq_true rfl) rfl dX11_way_32 (fun r w1 hq H locs h => ?_)
          obtain ⟨rfl, rfl⟩ := hq
          show W p l e r_c_X11_way s m args below meth c _ _ 0 0 Qf (F0 m 35 ls [])
          refine lv_aload_n B.1 B.2.1 dX11_way_35 rfl (lv_at hl 0 rfl) ?_
          refine y_getR B h kX11 0 (CW.f hC 0 _ rfl) 4 (b := ad 18) rfl m_365 (by decide) dX11_way_36 ?_
          refine lv_iload_n B.1 B.2.1 dX11_way_39 rfl (lv_at hl 1 rfl) ?_
          refine y_cV B h kX8 18 (CW.f hC 18 _ rfl) k_X8_cellsOn rfl (c_X8_cellsOn l D Zk ca T G u ad _ hC watch  (by omega)) m_1192 rfl (by decide) hl.1 [] (Nat.le_of_ble_eq_true rfl) rfl dX11_way_40 (fun r w1 hq H locs h => ?_)
          obtain ⟨rfl, y5, rfl, hy5⟩ := hq
          show W p l e r_c_X11_way s m args below meth c _ _ 0 0 Qf (F0 m 43 ls [.long (y5)])
          refine lv_lstore_n (lv' := [(3, .long (y5)), (0, .ref (ad 0)), (1, .int (iI watch)), (2, .int (iI cell))]) B.1 B.2.1 dX11_way_43 rfl hl (by decide) rfl (fun ls hl => ?_)
          refine lv_iload_n B.1 B.2.1 dX11_way_44 rfl (lv_at hl 3 rfl) ?_
          refine x_iconst B dX11_way_45 ?_
          refine x_icmp_ne B (by omega) (tgt := 56) dX11_way_46 (by decide) (fun c6 => ?_) (fun c6 => ?_)
          · refine lv_lload_n B.1 B.2.1 dX11_way_56 rfl (lv_at hl 0 rfl) ?_
            refine lv_iload_n B.1 B.2.1 dX11_way_57 rfl (lv_at hl 3 rfl) ?_
            refine lv_lushr B.1 B.2.1 dX11_way_58 rfl ?_
            refine x_rawL (fun y7 => ?_)
            refine lv_lconst (v := 1) B.1 B.2.1 dX11_way_59 (by decide) ?_
            refine lv_land B.1 B.2.1 dX11_way_60 ?_
            refine x_rawL (fun y8 => ?_)
            refine lv_l2i B.1 B.2.1 dX11_way_61 rfl ?_
            refine x_name (fun z9 hz9 ez9 => ?_)
            refine y_ri B hQ h (by decide) dX11_way_62 ?_
            exact ⟨rfl, _, rfl, (by first | omega | trivial | assumption)⟩
          · refine lv_lload_n B.1 B.2.1 dX11_way_49 rfl (lv_at hl 0 rfl) ?_
            refine y_cS B h k_J13_bitCount_95d88 (c_J13_bitCount_95d88 l D Zk ca _ y5  ) m_1205 rfl (by decide) hl.1 [] (Nat.le_of_ble_eq_true rfl) rfl dX11_way_50 (fun r w1 hq H locs h => ?_)
            obtain ⟨rfl, z10, rfl, hz10⟩ := hq
            show W p l e r_c_X11_way s m args below meth c _ _ 0 0 Qf (F0 m 53 ls [.int (iI z10)])
            refine lv_goto (tgt := 62) B.1 B.2.1 dX11_way_53 (by decide) ?_
            refine y_ri B hQ h (by decide) dX11_way_62 ?_
            exact ⟨rfl, _, rfl, (by first | omega | trivial | assumption)⟩
        · refine x_iconst B dX11_way_22 ?_
          refine y_ri B hQ h (by decide) dX11_way_23 ?_
          exact ⟨rfl, _, rfl, (by first | omega | trivial | assumption)⟩
  · show W p l e r_c_X11_way s m args below meth c _ _ 0 0 Qf (F0 m 8 ls [.int (iI 0)])
    refine x_if_eq B (by omega) (tgt := 22) dX11_way_8 (by decide) (fun c11 => ?_) (fun c11 => ?_)
    · refine x_iconst B dX11_way_22 ?_
      refine y_ri B hQ h (by decide) dX11_way_23 ?_
      exact ⟨rfl, _, rfl, (by first | omega | trivial | assumption)⟩
    · exact absurd c11 (by omega)
abbrev r_c_X11_count : Room := { frames := 1, cells := 0, slots := 0, locals := 23 }
set_option maxHeartbeats 4000000 in
set_option maxRecDepth 100000 in
theorem c_X11_count (l : Launch) (D : va_G) (Zk : yK) (ca : Nat → ClassId) (T : Nat → Int → Int) (G : Nat → Int → Nat) (u : Int) (ad : Nat → Nat) (w : yW) (hC : CW ca T G u ad w) (what : Int)  (hwhat : xr what) : yC l D Zk ca yX11_count cX11_count 2 (some .int) r_c_X11_count [.ref (ad 0), .int (iI what)] w (vI w (fun z => xr z)) := by
  refine yC.of2 "WindWords" (by decide) rfl (Nat.le_of_ble_eq_true rfl) ?_
  intro p e s m args below meth c A ls Qf B hnm h hl hQ
  have hl : lv_has ls 2 [(0, .ref (ad 0)), (1, .int (iI what))] := hl
  have hs := pi_s (CW.pi hC)
  refine lv_iload_n B.1 B.2.1 dX11_count_0 rfl (lv_at hl 1 rfl) ?_
  by_cases t1 : what = 0
  · refine x_tin B (tgt := 72) 0 (by omega) dX11_count_1 rfl (by decide) ?_
    refine lv_aload_n B.1 B.2.1 dX11_count_72 rfl (lv_at hl 0 rfl) ?_
    refine y_getR B h kX11 0 (CW.f hC 0 _ rfl) 0 (b := ad 1) rfl m_361 (by decide) dX11_count_73 ?_
    refine y_getX B h kX0 1 (CW.f hC 1 _ rfl) 2 (z := (T 0 0)) rfl m_137 (by decide) dX11_count_76 ?_
    refine y_ri B hQ h (by decide) dX11_count_79 ?_
    exact ⟨rfl, _, rfl, (by first | omega | trivial | assumption)⟩
  by_cases t2 : what = 1
  · refine x_tin B (tgt := 80) 1 (by omega) dX11_count_1 rfl (by decide) ?_
    refine lv_aload_n B.1 B.2.1 dX11_count_80 rfl (lv_at hl 0 rfl) ?_
    refine y_getR B h kX11 0 (CW.f hC 0 _ rfl) 0 (b := ad 1) rfl m_361 (by decide) dX11_count_81 ?_
    refine y_getX B h kX0 1 (CW.f hC 1 _ rfl) 4 (z := (T 0 1)) rfl m_143 (by decide) dX11_count_84 ?_
    refine y_ri B hQ h (by decide) dX11_count_87 ?_
    exact ⟨rfl, _, rfl, (by first | omega | trivial | assumption)⟩
  by_cases t3 : what = 2
  · refine x_tin B (tgt := 88) 2 (by omega) dX11_count_1 rfl (by decide) ?_
    refine lv_aload_n B.1 B.2.1 dX11_count_88 rfl (lv_at hl 0 rfl) ?_
    refine y_getR B h kX11 0 (CW.f hC 0 _ rfl) 0 (b := ad 1) rfl m_361 (by decide) dX11_count_89 ?_
    refine y_getX B h kX0 1 (CW.f hC 1 _ rfl) 5 (z := (T 0 2)) rfl m_149 (by decide) dX11_count_92 ?_
    refine y_ri B hQ h (by decide) dX11_count_95 ?_
    exact ⟨rfl, _, rfl, (by first | omega | trivial | assumption)⟩
  by_cases t4 : what = 3
  · refine x_tin B (tgt := 96) 3 (by omega) dX11_count_1 rfl (by decide) ?_
    refine lv_aload_n B.1 B.2.1 dX11_count_96 rfl (lv_at hl 0 rfl) ?_
    refine y_getR B h kX11 0 (CW.f hC 0 _ rfl) 1 (b := ad 4) rfl m_362 (by decide) dX11_count_97 ?_
    refine y_getG B h kX6 4 (CW.f hC 4 _ rfl) 7 (lo := 0) (hi := 8) rfl m_195 (by decide) dX11_count_100 (fun z5 z5a z5b => ?_)
    refine y_ri B hQ h (by decide) dX11_count_103 ?_
    exact ⟨rfl, _, rfl, (by first | omega | trivial | assumption)⟩
  by_cases t6 : what = 4
  · refine x_tin B (tgt := 104) 4 (by omega) dX11_count_1 rfl (by decide) ?_
    refine lv_aload_n B.1 B.2.1 dX11_count_104 rfl (lv_at hl 0 rfl) ?_
    refine y_getR B h kX11 0 (CW.f hC 0 _ rfl) 0 (b := ad 1) rfl m_361 (by decide) dX11_count_105 ?_
    refine y_getX B h kX0 1 (CW.f hC 1 _ rfl) 7 (z := (T 0 4)) rfl m_154 (by decide) dX11_count_108 ?_
    refine y_ri B hQ h (by decide) dX11_count_111 ?_
    exact ⟨rfl, _, rfl, (by first | omega | trivial | assumption)⟩
  by_cases t7 : what = 5
  · refine x_tin B (tgt := 112) 5 (by omega) dX11_count_1 rfl (by decide) ?_
    refine lv_aload_n B.1 B.2.1 dX11_count_112 rfl (lv_at hl 0 rfl) ?_
    refine y_getR B h kX11 0 (CW.f hC 0 _ rfl) 0 (b := ad 1) rfl m_361 (by decide) dX11_count_113 ?_
    refine y_getX B h kX0 1 (CW.f hC 1 _ rfl) 8 (z := (T 0 5)) rfl m_158 (by decide) dX11_count_116 ?_
    refine y_ri B hQ h (by decide) dX11_count_119 ?_
    exact ⟨rfl, _, rfl, (by first | omega | trivial | assumption)⟩
  by_cases t8 : what = 6
  · refine x_tin B (tgt := 120) 6 (by omega) dX11_count_1 rfl (by decide) ?_
    refine lv_aload_n B.1 B.2.1 dX11_count_120 rfl (lv_at hl 0 rfl) ?_
    refine y_getR B h kX11 0 (CW.f hC 0 _ rfl) 0 (b := ad 1) rfl m_361 (by decide) dX11_count_121 ?_
    refine y_getX B h kX0 1 (CW.f hC 1 _ rfl) 6 (z := (T 0 3)) rfl m_151 (by decide) dX11_count_124 ?_
    refine y_ri B hQ h (by decide) dX11_count_127 ?_
    exact ⟨rfl, _, rfl, (by first | omega | trivial | assumption)⟩
  by_cases t9 : what = 7
  · refine x_tin B (tgt := 128) 7 (by omega) dX11_count_1 rfl (by decide) ?_
    refine lv_aload_n B.1 B.2.1 dX11_count_128 rfl (lv_at hl 0 rfl) ?_
    refine y_getR B h kX11 0 (CW.f hC 0 _ rfl) 0 (b := ad 1) rfl m_361 (by decide) dX11_count_129 ?_
    refine y_getX B h kX0 1 (CW.f hC 1 _ rfl) 2 (z := (T 0 0)) rfl m_137 (by decide) dX11_count_132 ?_
    refine lv_aload_n B.1 B.2.1 dX11_count_135 rfl (lv_at hl 0 rfl) ?_
    refine y_getR B h kX11 0 (CW.f hC 0 _ rfl) 0 (b := ad 1) rfl m_361 (by decide) dX11_count_136 ?_
    refine y_getG B h kX0 1 (CW.f hC 1 _ rfl) 3 (lo := (-2147483648)) (hi := 2147483647) rfl m_140 (by decide) dX11_count_139 (fun z10 z10a z10b => ?_)
    refine y_cS B h k_J6_bitCount_0f7a4 (c_J6_bitCount_0f7a4 l D Zk ca _ z10  (by omega)) m_1140 rfl (by decide) hl.1 [.int (iI (T 0 0))] (Nat.le_of_ble_eq_true rfl) rfl dX11_count_142 (fun r w1 hq H locs h => ?_)
    obtain ⟨rfl, z11, rfl, hz11⟩ := hq
    show W p l e r_c_X11_count s m args below meth c _ _ 0 0 Qf (F0 m 145 ls [.int (iI z11), .int (iI (T 0 0))])
    refine x_isub B dX11_count_145 ?_
    refine x_name (fun z12 hz12 ez12 => ?_)
    refine y_ri B hQ h (by decide) dX11_count_146 ?_
    exact ⟨rfl, _, rfl, (by first | omega | trivial | assumption)⟩
  by_cases t13 : what = 8
  · refine x_tin B (tgt := 147) 8 (by omega) dX11_count_1 rfl (by decide) ?_
    refine lv_aload_n B.1 B.2.1 dX11_count_147 rfl (lv_at hl 0 rfl) ?_
    refine y_getR B h kX11 0 (CW.f hC 0 _ rfl) 9 (b := ad 29) rfl m_370 (by decide) dX11_count_148 ?_
    refine x_iconst B dX11_count_151 ?_
    refine y_iald B h 29 (CW.f hC 29 _ rfl) (by omega) dX11_count_152 (fun fz14 hfz14 => ?_)
    refine x_name (fun z14 hz14 ez14 => ?_)
    refine y_ri B hQ h (by decide) dX11_count_153 ?_
    exact ⟨rfl, _, rfl, (by first | omega | trivial | assumption)⟩
  by_cases t15 : what = 9
  · refine x_tin B (tgt := 154) 9 (by omega) dX11_count_1 rfl (by decide) ?_
    refine lv_aload_n B.1 B.2.1 dX11_count_154 rfl (lv_at hl 0 rfl) ?_
    refine y_getR B h kX11 0 (CW.f hC 0 _ rfl) 9 (b := ad 29) rfl m_370 (by decide) dX11_count_155 ?_
    refine x_iconst B dX11_count_158 ?_
    refine y_iald B h 29 (CW.f hC 29 _ rfl) (by omega) dX11_count_159 (fun fz16 hfz16 => ?_)
    refine x_name (fun z16 hz16 ez16 => ?_)
    refine y_ri B hQ h (by decide) dX11_count_160 ?_
    exact ⟨rfl, _, rfl, (by first | omega | trivial | assumption)⟩
  by_cases t17 : what = 10
  · refine x_tin B (tgt := 161) 10 (by omega) dX11_count_1 rfl (by decide) ?_
    refine lv_aload_n B.1 B.2.1 dX11_count_161 rfl (lv_at hl 0 rfl) ?_
    refine y_getR B h kX11 0 (CW.f hC 0 _ rfl) 9 (b := ad 29) rfl m_370 (by decide) dX11_count_162 ?_
    refine x_iconst B dX11_count_165 ?_
    refine y_iald B h 29 (CW.f hC 29 _ rfl) (by omega) dX11_count_166 (fun fz18 hfz18 => ?_)
    refine x_name (fun z18 hz18 ez18 => ?_)
    refine y_ri B hQ h (by decide) dX11_count_167 ?_
    exact ⟨rfl, _, rfl, (by first | omega | trivial | assumption)⟩
  by_cases t19 : what = 11
  · refine x_tin B (tgt := 168) 11 (by omega) dX11_count_1 rfl (by decide) ?_
    refine lv_aload_n B.1 B.2.1 dX11_count_168 rfl (lv_at hl 0 rfl) ?_
    refine y_getX B h kX11 0 (CW.f hC 0 _ rfl) 17 (z := (T 0 6)) rfl m_378 (by decide) dX11_count_169 ?_
    refine y_ri B hQ h (by decide) dX11_count_172 ?_
    exact ⟨rfl, _, rfl, (by first | omega | trivial | assumption)⟩
  by_cases t20 : what = 12
  · refine x_tin B (tgt := 173) 12 (by omega) dX11_count_1 rfl (by decide) ?_
    refine lv_aload_n B.1 B.2.1 dX11_count_173 rfl (lv_at hl 0 rfl) ?_
    refine y_getR B h kX11 0 (CW.f hC 0 _ rfl) 5 (b := ad 20) rfl m_366 (by decide) dX11_count_174 ?_
    refine y_getG B h kX9 20 (CW.f hC 20 _ rfl) 0 (lo := 0) (hi := 900) rfl m_289 (by decide) dX11_count_177 (fun z21 z21a z21b => ?_)
    refine y_ri B hQ h (by decide) dX11_count_180 ?_
    exact ⟨rfl, _, rfl, (by first | omega | trivial | assumption)⟩
  by_cases t22 : what = 13
  · refine x_tin B (tgt := 181) 13 (by omega) dX11_count_1 rfl (by decide) ?_
    refine lv_aload_n B.1 B.2.1 dX11_count_181 rfl (lv_at hl 0 rfl) ?_
    refine y_cV B h kX11 0 (CW.f hC 0 _ rfl) k_X11_statementsOfHabits rfl (c_X11_statementsOfHabits l D Zk ca T G u ad _ hC   ) m_1251 rfl (by decide) hl.1 [] (Nat.le_of_ble_eq_true rfl) rfl dX11_count_182 (fun r w1 hq H locs h => ?_)
    obtain ⟨rfl, z23, rfl, hz23⟩ := hq
    show W p l e r_c_X11_count s m args below meth c _ _ 0 0 Qf (F0 m 185 ls [.int (iI z23)])
    refine y_ri B hQ h (by decide) dX11_count_185 ?_
    exact ⟨rfl, _, rfl, (by first | omega | trivial | assumption)⟩
  refine x_tout B (tgt := 186) (by omega) dX11_count_1 (by decide) ?_
  refine x_iconst B dX11_count_186 ?_
  refine y_ri B hQ h (by decide) dX11_count_187 ?_
  exact ⟨rfl, _, rfl, (by first | omega | trivial | assumption)⟩
