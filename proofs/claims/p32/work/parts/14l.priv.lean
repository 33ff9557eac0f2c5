theorem k_X5_written : xMV yX5_written cX5_written 5 (some .int) 2 := ⟨m_920, m_918, m_919, m_103, ⟨by decide +kernel, by decide +kernel, by decide +kernel⟩⟩
theorem k_X11_gatherLagsOf : xMV yX11_gatherLagsOf cX11_gatherLagsOf 6 none 1 := ⟨m_1112, m_1111, m_29, m_95, ⟨by decide +kernel, by decide +kernel, by decide +kernel⟩⟩
theorem k_X11_follows : xMS yX11_follows cX11_follows 2 (some .boolean) 1 := ⟨m_851, m_850, m_95, ⟨by decide +kernel, by decide +kernel, by decide +kernel⟩⟩
theorem k_X11_repeats : xMS yX11_repeats cX11_repeats 2 (some .boolean) 1 := ⟨m_848, m_847, m_95, ⟨by decide +kernel, by decide +kernel, by decide +kernel⟩⟩
theorem k_J6_bitCount_0f7a4 : xMS yJ6_bitCount_0f7a4 cJ6_bitCount_0f7a4 1 (some .int) 1 := ⟨m_1142, m_1141, m_113, ⟨by decide +kernel, by decide +kernel, by decide +kernel⟩⟩
theorem k_X11_leadOf : xMV yX11_leadOf cX11_leadOf 6 (some .int) 2 := ⟨m_1139, m_1138, m_32, m_95, ⟨by decide +kernel, by decide +kernel, by decide +kernel⟩⟩
theorem k_X6_turnInto : xMV yX6_turnInto cX6_turnInto 8 (some .boolean) 5 := ⟨m_960, m_958, m_959, m_97, ⟨by decide +kernel, by decide +kernel, by decide +kernel⟩⟩
theorem k_X9_split : xMV yX9_split cX9_split 4 none 1 := ⟨m_584, m_582, m_583, m_101, ⟨by decide +kernel, by decide +kernel, by decide +kernel⟩⟩
theorem k_X1_faultOf : xMV yX1_faultOf cX1_faultOf 6 (some .int) 3 := ⟨m_745, m_743, m_744, m_102, ⟨by decide +kernel, by decide +kernel, by decide +kernel⟩⟩
abbrev r_c_J6_bitCount_0f7a4 : Room := { frames := 0, cells := 0, slots := 0, locals := 0 }
set_option maxHeartbeats 4000000 in
set_option maxRecDepth 100000 in
theorem c_J6_bitCount_0f7a4 (l : Launch) (D : va_G) (Zk : yK) (ca : Nat → ClassId) (w : yW) (v : Int)  (hv : xr v) : yC l D Zk ca yJ6_bitCount_0f7a4 cJ6_bitCount_0f7a4 1 (some .int) r_c_J6_bitCount_0f7a4 [.int (iI v)] w (vI w (fun z => xr z)) := by
  refine yC.of2 "java/lang/Integer" (by decide) rfl (Nat.le_of_ble_eq_true rfl) ?_
  intro p e s m args below meth c A ls Qf B hnm h hl hQ
  have hl : lv_has ls 1 [(0, .int (iI v))] := hl
  refine lv_iload_n B.1 B.2.1 dJ6_bitCount_0f7a4_0 rfl (lv_at hl 0 rfl) ?_
  refine lv_iload_n B.1 B.2.1 dJ6_bitCount_0f7a4_1 rfl (lv_at hl 0 rfl) ?_
  refine x_iconst B dJ6_bitCount_0f7a4_2 ?_
  refine lv_iushr B.1 B.2.1 dJ6_bitCount_0f7a4_3 rfl ?_
  refine x_name (fun z1 hz1 ez1 => ?_)
  refine x_ldcw B (z := 1431655765) m_1143 (by decide) dJ6_bitCount_0f7a4_4 ?_
  refine lv_iand B.1 B.2.1 dJ6_bitCount_0f7a4_7 ?_
  refine x_name (fun z2 hz2 ez2 => ?_)
  refine x_isub B dJ6_bitCount_0f7a4_8 ?_
  refine lv_istore_n (lv' := [(0, .int (iI (v - z2)))]) B.1 B.2.1 dJ6_bitCount_0f7a4_9 rfl hl (by decide) rfl (fun ls hl => ?_)
  refine lv_iload_n B.1 B.2.1 dJ6_bitCount_0f7a4_10 rfl (lv_at hl 0 rfl) ?_
  refine x_ldcw B (z := 858993459) m_1144 (by decide) dJ6_bitCount_0f7a4_11 ?_
  refine lv_iand B.1 B.2.1 dJ6_bitCount_0f7a4_14 ?_
  refine x_name (fun z3 hz3 ez3 => ?_)
  refine lv_iload_n B.1 B.2.1 dJ6_bitCount_0f7a4_15 rfl (lv_at hl 0 rfl) ?_
  refine x_iconst B dJ6_bitCount_0f7a4_16 ?_
  refine lv_iushr B.1 B.2.1 dJ6_bitCount_0f7a4_17 rfl ?_
  refine x_name (fun z4 hz4 ez4 => ?_)
  refine x_ldcw B (z := 858993459) m_1144 (by decide) dJ6_bitCount_0f7a4_18 ?_
  refine lv_iand B.1 B.2.1 dJ6_bitCount_0f7a4_21 ?_
  refine x_name (fun z5 hz5 ez5 => ?_)
  refine x_iadd B dJ6_bitCount_0f7a4_22 ?_
  refine lv_istore_n (lv' := [(0, .int (iI (z3 + z5)))]) B.1 B.2.1 dJ6_bitCount_0f7a4_23 rfl hl (by decide) rfl (fun ls hl => ?_)
  refine lv_iload_n B.1 B.2.1 dJ6_bitCount_0f7a4_24 rfl (lv_at hl 0 rfl) ?_
  refine lv_iload_n B.1 B.2.1 dJ6_bitCount_0f7a4_25 rfl (lv_at hl 0 rfl) ?_
  refine x_iconst B dJ6_bitCount_0f7a4_26 ?_
  refine lv_iushr B.1 B.2.1 dJ6_bitCount_0f7a4_27 rfl ?_
  refine x_name (fun z6 hz6 ez6 => ?_)
  refine x_iadd B dJ6_bitCount_0f7a4_28 ?_
  refine x_ldcw B (z := 252645135) m_1145 (by decide) dJ6_bitCount_0f7a4_29 ?_
  refine lv_iand B.1 B.2.1 dJ6_bitCount_0f7a4_32 ?_
  refine x_name (fun z7 hz7 ez7 => ?_)
  refine lv_istore_n (lv' := [(0, .int (iI z7))]) B.1 B.2.1 dJ6_bitCount_0f7a4_33 rfl hl (by decide) rfl (fun ls hl => ?_)
  refine lv_iload_n B.1 B.2.1 dJ6_bitCount_0f7a4_34 rfl (lv_at hl 0 rfl) ?_
  refine lv_iload_n B.1 B.2.1 dJ6_bitCount_0f7a4_35 rfl (lv_at hl 0 rfl) ?_
  refine x_bipush B (by decide) dJ6_bitCount_0f7a4_36 ?_
  refine lv_iushr B.1 B.2.1 dJ6_bitCount_0f7a4_38 rfl ?_
  refine x_name (fun z8 hz8 ez8 => ?_)
  refine x_iadd B dJ6_bitCount_0f7a4_39 ?_
  refine lv_istore_n (lv' := [(0, .int (iI (z7 + z8)))]) B.1 B.2.1 dJ6_bitCount_0f7a4_40 rfl hl (by decide) rfl (fun ls hl => ?_)
  refine lv_iload_n B.1 B.2.1 dJ6_bitCount_0f7a4_41 rfl (lv_at hl 0 rfl) ?_
  refine lv_iload_n B.1 B.2.1 dJ6_bitCount_0f7a4_42 rfl (lv_at hl 0 rfl) ?_
  refine x_bipush B (by decide) dJ6_bitCount_0f7a4_43 ?_
  refine lv_iushr B.1 B.2.1 dJ6_bitCount_0f7a4_45 rfl ?_
  refine x_name (fun z9 hz9 ez9 => ?_)
  refine x_iadd B dJ6_bitCount_0f7a4_46 ?_
  refine lv_istore_n (lv' := [(0, .int (iI ((z7 + z8) + z9)))]) B.1 B.2.1 dJ6_bitCount_0f7a4_47 rfl hl (by decide) rfl (fun ls hl => ?_)
  refine lv_iload_n B.1 B.2.1 dJ6_bitCount_0f7a4_48 rfl (lv_at hl 0 rfl) ?_
  refine x_bipush B (by decide) dJ6_bitCount_0f7a4_49 ?_
  refine lv_iand B.1 B.2.1 dJ6_bitCount_0f7a4_51 ?_
  refine x_name (fun z10 hz10 ez10 => ?_)
  refine y_ri B hQ h (by decide) dJ6_bitCount_0f7a4_52 ?_
  exact ⟨rfl, _, rfl, (by first | omega | trivial | assumption)⟩
abbrev r_c_J13_bitCount_95d88 : Room := { frames := 0, cells := 0, slots := 0, locals := 0 }
set_option maxHeartbeats 4000000 in
set_option maxRecDepth 100000 in
theorem c_J13_bitCount_95d88 (l : Launch) (D : va_G) (Zk : yK) (ca : Nat → ClassId) (w : yW) (x : Int64)   : yC l D Zk ca yJ13_bitCount_95d88 cJ13_bitCount_95d88 2 (some .int) r_c_J13_bitCount_95d88 [.long (x)] w (vI w (fun z => xr z)) := by
  refine yC.of2 "java/lang/Long" (by decide) rfl (Nat.le_of_ble_eq_true rfl) ?_
  intro p e s m args below meth c A ls Qf B hnm h hl hQ
  have hl : lv_has ls 2 [(0, .long (x))] := hl
  refine lv_lload_n B.1 B.2.1 dJ13_bitCount_95d88_0 rfl (lv_at hl 0 rfl) ?_
  refine lv_lload_n B.1 B.2.1 dJ13_bitCount_95d88_1 rfl (lv_at hl 0 rfl) ?_
  refine x_iconst B dJ13_bitCount_95d88_2 ?_
  refine lv_lushr B.1 B.2.1 dJ13_bitCount_95d88_3 rfl ?_
  refine x_rawL (fun y1 => ?_)
  refine x_ldc2 B m_1208 dJ13_bitCount_95d88_4 ?_
  refine lv_land B.1 B.2.1 dJ13_bitCount_95d88_7 ?_
  refine x_rawL (fun y2 => ?_)
  refine lv_lsub B.1 B.2.1 dJ13_bitCount_95d88_8 ?_
  refine x_rawL (fun y3 => ?_)
  refine lv_lstore_n (lv' := [(0, .long (y3))]) B.1 B.2.1 dJ13_bitCount_95d88_9 rfl hl (by decide) rfl (fun ls hl => ?_)
  refine lv_lload_n B.1 B.2.1 dJ13_bitCount_95d88_10 rfl (lv_at hl 0 rfl) ?_
  refine x_ldc2 B m_1209 dJ13_bitCount_95d88_11 ?_
  refine lv_land B.1 B.2.1 dJ13_bitCount_95d88_14 ?_
  refine x_rawL (fun y4 => ?_)
  refine lv_lload_n B.1 B.2.1 dJ13_bitCount_95d88_15 rfl (lv_at hl 0 rfl) ?_
  refine x_iconst B dJ13_bitCount_95d88_16 ?_
  refine lv_lushr B.1 B.2.1 dJ13_bitCount_95d88_17 rfl ?_
  refine x_rawL (fun y5 => ?_)
  refine x_ldc2 B m_1209 dJ13_bitCount_95d88_18 ?_
  refine lv_land B.1 B.2.1 dJ13_bitCount_95d88_21 ?_
  refine x_rawL (fun y6 => ?_)
  refine lv_ladd B.1 B.2.1 dJ13_bitCount_95d88_22 ?_
  refine x_rawL (fun y7 => ?_)
  refine lv_lstore_n (lv' := [(0, .long (y7))]) B.1 B.2.1 dJ13_bitCount_95d88_23 rfl hl (by decide) rfl (fun ls hl => ?_)
  refine lv_lload_n B.1 B.2.1 dJ13_bitCount_95d88_24 rfl (lv_at hl 0 rfl) ?_
  refine lv_lload_n B.1 B.2.1 dJ13_bitCount_95d88_25 rfl (lv_at hl 0 rfl) ?_
  refine x_iconst B dJ13_bitCount_95d88_26 ?_
  refine lv_lushr B.1 B.2.1 dJ13_bitCount_95d88_27 rfl ?_
  refine x_rawL (fun y8 => ?_)
  refine lv_ladd B.1 B.2.1 dJ13_bitCount_95d88_28 ?_
  refine x_rawL (fun y9 => ?_)
  refine x_ldc2 B m_1210 dJ13_bitCount_95d88_29 ?_
  refine lv_land B.1 B.2.1 dJ13_bitCount_95d88_32 ?_
  refine x_rawL (fun y10 => ?_)
  refine lv_lstore_n (lv' := [(0, .long (y10))]) B.1 B.2.1 dJ13_bitCount_95d88_33 rfl hl (by decide) rfl (fun ls hl => ?_)
  refine lv_lload_n B.1 B.2.1 dJ13_bitCount_95d88_34 rfl (lv_at hl 0 rfl) ?_
  refine lv_lload_n B.1 B.2.1 dJ13_bitCount_95d88_35 rfl (lv_at hl 0 rfl) ?_
  refine x_bipush B (by decide) dJ13_bitCount_95d88_36 ?_
  refine lv_lushr B.1 B.2.1 dJ13_bitCount_95d88_38 rfl ?_
  refine x_rawL (fun y11 => ?_)
  refine lv_ladd B.1 B.2.1 dJ13_bitCount_95d88_39 ?_
  refine x_rawL (fun y12 => ?_)
  refine lv_lstore_n (lv' := [(0, .long (y12))]) B.1 B.2.1 dJ13_bitCount_95d88_40 rfl hl (by decide) rfl (fun ls hl => ?_)
  refine lv_lload_n B.1 B.2.1 dJ13_bitCount_95d88_41 rfl (lv_at hl 0 rfl) ?_
  refine lv_lload_n B.1 B.2.1 dJ13_bitCount_95d88_42 rfl (lv_at hl 0 rfl) ?_
  refine x_bipush B (by decide) dJ13_bitCount_95d88_43 ?_
  refine lv_lushr B.1 B.2.1 dJ13_bitCount_95d88_45 rfl ?_
  refine x_rawL (fun y13 => ?_)
  refine lv_ladd B.1 B.2.1 dJ13_bitCount_95d88_46 ?_
  refine x_rawL (fun y14 => ?_)
  refine lv_lstore_n (lv' := [(0, .long (y14))]) B.1 B.2.1 dJ13_bitCount_95d88_47 rfl hl (by decide) rfl (fun ls hl => ?_)
  refine lv_lload_n B.1 B.2.1 dJ13_bitCount_95d88_48 rfl (lv_at hl 0 rfl) ?_
  refine lv_lload_n B.1 B.2.1 dJ13_bitCount_95d88_49 rfl (lv_at hl 0 rfl) ?_
  refine x_bipush B (by decide) dJ13_bitCount_95d88_50 ?_
  refine lv_lushr B.1 B.2.1 dJ13_bitCount_95d88_52 rfl ?_
  refine x_rawL (fun y15 => ?_)
  refine lv_ladd B.1 B.2.1 dJ13_bitCount_95d88_53 ?_
  refine x_rawL (fun y16 => ?_)
  refine lv_lstore_n (lv' := [(0, .long (y16))]) B.1 B.2.1 dJ13_bitCount_95d88_54 rfl hl (by decide) rfl (fun ls hl => ?_)
  refine lv_lload_n B.1 B.2.1 dJ13_bitCount_95d88_55 rfl (lv_at hl 0 rfl) ?_
  refine lv_l2i B.1 B.2.1 dJ13_bitCount_95d88_56 rfl ?_
  refine x_name (fun z17 hz17 ez17 => ?_)
  refine x_bipush B (by decide) dJ13_bitCount_95d88_57 ?_
  refine lv_iand B.1 B.2.1 dJ13_bitCount_95d88_59 ?_
  refine x_name (fun z18 hz18 ez18 => ?_)
  refine y_ri B hQ h (by decide) dJ13_bitCount_95d88_60 ?_
  exact ⟨rfl, _, rfl, (by first | omega | trivial | assumption)⟩
abbrev r_c_X11_written : Room := { frames := 3, cells := 0, slots := 0, locals := 74 }
set_option maxHeartbeats 4000000 in
set_option maxRecDepth 100000 in
theorem c_X11_written (l : Launch) (D : va_G) (Zk : yK) (ca : Nat → ClassId) (T : Nat → Int → Int) (G : Nat → Int → Nat) (u : Int) (ad : Nat → Nat) (w : yW) (hC : CW ca T G u ad w) (sh : Int) (watch : Int) (number : Int)  (hsh : 0 ≤ sh ∧ sh < T 0 1) (hwatch : 0 ≤ watch ∧ watch ≤ 999) (hnumber : 0 ≤ number ∧ number ≤ 12) : yC l D Zk ca yX11_written cX11_written 6 (some .int) r_c_X11_written [.ref (ad 0), .ref (G 1 sh), .int (iI watch), .int (iI number)] w (vI w (fun z => 0 ≤ z ∧ z ≤ 12)) := by
  refine yC.of2 "WindWords" (by decide) rfl (Nat.le_of_ble_eq_true rfl) ?_
  intro p e s m args below meth c A ls Qf B hnm h hl hQ
  have hl : lv_has ls 6 [(0, .ref (ad 0)), (1, .ref (G 1 sh)), (2, .int (iI watch)), (3, .int (iI number))] := hl
  have hs := pi_s (CW.pi hC)
  have tb0 := pi_3 (CW.pi hC) (1000 * sh + watch)
  have fo1 := CW.sh hC sh (by omega)
  refine lv_aload_n B.1 B.2.1 dX11_written_0 rfl (lv_at hl 1 rfl) ?_
  refine lv_iload_n B.1 B.2.1 dX11_written_1 rfl (lv_at hl 2 rfl) ?_
  refine y_cV B h kX7 (1000 + 16 * sh.toNat + 1) fo1.1 k_X7_officerOn rfl (c_X7_officerOn l D Zk ca T G u ad _ hC sh watch  (by omega) (by omega)) m_916 rfl (by decide) hl.1 [] (Nat.le_of_ble_eq_true rfl) rfl dX11_written_2 (fun r w1 hq H locs h => ?_)
  obtain ⟨rfl, z2, rfl, hz2⟩ := hq
  show W p l e r_c_X11_written s m args below meth c _ _ 0 0 Qf (F0 m 5 ls [.int (iI z2)])
  refine lv_istore (lv' := [(4, .int (iI z2)), (0, .ref (ad 0)), (1, .ref (G 1 sh)), (2, .int (iI watch)), (3, .int (iI number))]) B.1 B.2.1 dX11_written_5 hl (by decide) rfl (fun ls hl => ?_)
  refine lv_iload B.1 B.2.1 dX11_written_7 (lv_at hl 0 rfl) ?_
  refine x_bipush B (by decide) dX11_written_9 ?_
  refine y_cS B h k_X11_within (c_X11_within l D Zk ca _ z2 15  (by omega) (by omega)) m_431 rfl (by decide) hl.1 [] (Nat.le_of_ble_eq_true rfl) rfl dX11_written_11 (fun r w1 hq H locs h => ?_)
  obtain ⟨rfl, _, rfl, ⟨rfl, b3⟩ | ⟨rfl, b3⟩⟩ := hq
  · show W p l e r_c_X11_written s m args below meth c _ _ 0 0 Qf (F0 m 14 ls [.int (iI 1)])
    refine x_if_eq B (by omega) (tgt := 27) dX11_written_14 (by decide) (fun c4 => ?_) (fun c4 => ?_)
    · exact absurd c4 (by omega)
    · refine lv_aload_n B.1 B.2.1 dX11_written_17 rfl (lv_at hl 1 rfl) ?_
      refine y_getR B h kX11 0 (CW.f hC 0 _ rfl) 7 (b := ad 27) rfl m_368 (by decide) dX11_written_18 ?_
      refine lv_iload B.1 B.2.1 dX11_written_21 (lv_at hl 0 rfl) ?_
      refine y_qald B h 27 6 rfl (CW.f hC 27 _ rfl) (by omega) dX11_written_23 (fun f6 hf5 => ?_)
      rcases hf5 (z2) (by omega) with e7 | ⟨j8, hj8, e7⟩
      · rw [e7]
        show W p l e r_c_X11_written s m args below meth c _ _ 0 0 Qf (F0 m 24 ls [.null])
        refine lv_goto (tgt := 28) B.1 B.2.1 dX11_written_24 (by decide) ?_
        refine lv_astoreN (lv' := [(5, .null), (4, .int (iI z2)), (0, .ref (ad 0)), (1, .ref (G 1 sh)), (2, .int (iI watch)), (3, .int (iI number))]) B.1 B.2.1 dX11_written_28 hl (by decide) rfl (fun ls hl => ?_)
        refine lv_aloadN B.1 B.2.1 dX11_written_30 (lv_at hl 0 rfl) ?_
        refine lv_ifnonnullN B.1 B.2.1 dX11_written_32 ?_
        refine lv_iload_n B.1 B.2.1 dX11_written_35 rfl (lv_at hl 5 rfl) ?_
        refine y_ri B hQ h (by decide) dX11_written_36 ?_
        exact ⟨rfl, _, rfl, (by first | omega | trivial | assumption)⟩
      · rw [e7]
        have fo9 := CW.ru hC j8 (by omega)
        show W p l e r_c_X11_written s m args below meth c _ _ 0 0 Qf (F0 m 24 ls [.ref (G 6 j8)])
        refine lv_goto (tgt := 28) B.1 B.2.1 dX11_written_24 (by decide) ?_
        refine lv_astore (lv' := [(5, .ref (G 6 j8)), (4, .int (iI z2)), (0, .ref (ad 0)), (1, .ref (G 1 sh)), (2, .int (iI watch)), (3, .int (iI number))]) B.1 B.2.1 dX11_written_28 hl (by decide) rfl (fun ls hl => ?_)
        refine lv_aload B.1 B.2.1 dX11_written_30 (lv_at hl 0 rfl) ?_
        refine lv_ifnonnull (tgt := 37) B.1 B.2.1 dX11_written_32 (by decide) ?_
        refine lv_aload_n B.1 B.2.1 dX11_written_37 rfl (lv_at hl 2 rfl) ?_
        refine y_getR B h kX11 0 (CW.f hC 0 _ rfl) 10 (b := ad 30) rfl m_371 (by decide) dX11_written_38 ?_
        refine x_iconst B dX11_written_41 ?_
        refine lv_aload_n B.1 B.2.1 dX11_written_42 rfl (lv_at hl 3 rfl) ?_
        refine y_getX B h kX7 (1000 + 16 * sh.toNat + 1) fo1.1 1 (z := (T 1 sh)) rfl m_461 (by decide) dX11_written_43 ?_
        have tb10 := pi_1 (CW.pi hC) sh
        refine y_iastS B h 30 (CW.f hC 30 _ rfl) (by omega) (fun _ _ => trivial) dX11_written_46 (fun H locs h => ?_)
        refine lv_aload_n B.1 B.2.1 dX11_written_47 rfl (lv_at hl 2 rfl) ?_
        refine y_getR B h kX11 0 (CW.f hC 0 _ rfl) 10 (b := ad 30) rfl m_371 (by decide) dX11_written_48 ?_
        refine x_iconst B dX11_written_51 ?_
        refine lv_iload_n B.1 B.2.1 dX11_written_52 rfl (lv_at hl 4 rfl) ?_
        refine x_bipush B (by decide) dX11_written_53 ?_
        refine x_idiv B (by omega) dX11_written_55 ?_
        refine y_iastS B h 30 (CW.f hC 30 _ rfl) (by omega) (fun _ _ => trivial) dX11_written_56 (fun H locs h => ?_)
        refine lv_aload_n B.1 B.2.1 dX11_written_57 rfl (lv_at hl 2 rfl) ?_
        refine y_getR B h kX11 0 (CW.f hC 0 _ rfl) 10 (b := ad 30) rfl m_371 (by decide) dX11_written_58 ?_
        refine x_iconst B dX11_written_61 ?_
        refine x_iconst B dX11_written_62 ?_
        refine y_iastS B h 30 (CW.f hC 30 _ rfl) (by omega) (fun _ _ => trivial) dX11_written_63 (fun H locs h => ?_)
        refine lv_aload B.1 B.2.1 dX11_written_64 (lv_at hl 0 rfl) ?_
        refine lv_iload_n B.1 B.2.1 dX11_written_66 rfl (lv_at hl 5 rfl) ?_
        refine lv_aload_n B.1 B.2.1 dX11_written_67 rfl (lv_at hl 2 rfl) ?_
        refine y_getR B h kX11 0 (CW.f hC 0 _ rfl) 10 (b := ad 30) rfl m_371 (by decide) dX11_written_68 ?_
        refine y_cV B h kX5 (1000 + 16 * j8.toNat + 6) fo9.1 k_X5_written rfl (c_X5_written l D Zk ca T G u ad _ hC j8 number (ad 30) 30 (CW.f hC 30 _ rfl) (by omega) (by omega)) m_917 rfl (by decide) hl.1 [] (Nat.le_of_ble_eq_true rfl) rfl dX11_written_71 (fun r w1 hq H locs h => ?_)
        obtain ⟨rfl, z11, rfl, hz11⟩ := hq
        show W p l e r_c_X11_written s m args below meth c _ _ 0 0 Qf (F0 m 74 ls [.int (iI z11)])
        refine y_ri B hQ h (by decide) dX11_written_74 ?_
        exact ⟨rfl, _, rfl, (by first | omega | trivial | assumption)⟩
  · show W p l e r_c_X11_written s m args below meth c _ _ 0 0 Qf (F0 m 14 ls [.int (iI 0)])
    refine x_if_eq B (by omega) (tgt := 27) dX11_written_14 (by decide) (fun c12 => ?_) (fun c12 => ?_)
    · refine lv_null B.1 B.2.1 dX11_written_27 ?_
      refine lv_astoreN (lv' := [(5, .null), (4, .int (iI z2)), (0, .ref (ad 0)), (1, .ref (G 1 sh)), (2, .int (iI watch)), (3, .int (iI number))]) B.1 B.2.1 dX11_written_28 hl (by decide) rfl (fun ls hl => ?_)
      refine lv_aloadN B.1 B.2.1 dX11_written_30 (lv_at hl 0 rfl) ?_
      refine lv_ifnonnullN B.1 B.2.1 dX11_written_32 ?_
      refine lv_iload_n B.1 B.2.1 dX11_written_35 rfl (lv_at hl 5 rfl) ?_
      refine y_ri B hQ h (by decide) dX11_written_36 ?_
      exact ⟨rfl, _, rfl, (by first | omega | trivial | assumption)⟩
    · exact absurd c12 (by omega)
abbrev r_c_X11_statementsOfHabits : Room := { frames := 0, cells := 0, slots := 0, locals := 0 }
set_option maxHeartbeats 4000000 in
set_option maxRecDepth 100000 in
theorem c_X11_statementsOfHabits (l : Launch) (D : va_G) (Zk : yK) (ca : Nat → ClassId) (T : Nat → Int → Int) (G : Nat → Int → Nat) (u : Int) (ad : Nat → Nat) (w : yW) (hC : CW ca T G u ad w)    : yC l D Zk ca yX11_statementsOfHabits cX11_statementsOfHabits 4 (some .int) r_c_X11_statementsOfHabits [.ref (ad 0)] w (vI w (fun z => xr z)) := by
  refine yC.of2 "WindWords" (by decide) rfl (Nat.le_of_ble_eq_true rfl) ?_
  intro p e s m args below meth c A ls Qf B hnm h hl hQ
  have hl : lv_has ls 4 [(0, .ref (ad 0))] := hl
  have hs := pi_s (CW.pi hC)
  refine x_iconst B dX11_statementsOfHabits_0 ?_
  refine lv_istore_n (lv' := [(1, .int (iI 0)), (0, .ref (ad 0))]) B.1 B.2.1 dX11_statementsOfHabits_1 rfl hl (by decide) rfl (fun ls hl => ?_)
  refine x_iconst B dX11_statementsOfHabits_2 ?_
  refine lv_istore_n (lv' := [(2, .int (iI 0)), (1, .int (iI 0)), (0, .ref (ad 0))]) B.1 B.2.1 dX11_statementsOfHabits_3 rfl hl (by decide) rfl (fun ls hl => ?_)
  have loop4 : ∀ (n4 : Nat) (a : Int) (k : Int), (0 ≤ a ∧ a ≤ 40 * k) → (0 ≤ k ∧ k ≤ 16) → ((16 - k : Int)).toNat < n4 → ∀ (H : Heap) (locs : List Loc) (ls : Array Slot), yH D Zk A s w H locs → lv_has ls 4 [(2, .int (iI k)), (1, .int (iI a)), (0, .ref (ad 0))] → W p l e r_c_X11_statementsOfHabits s m args below meth c H locs 0 0 Qf (F0 m 4 ls []) := by
    intro n4
    induction n4 with
    | zero =>
      intro a k h0 h1 hm4 H locs ls h hl
      exact absurd hm4 (Nat.not_lt_zero _)
    | succ n4 ih4 =>
      intro a k h0 h1 hm4 H locs ls h hl
      refine lv_iload_n B.1 B.2.1 dX11_statementsOfHabits_4 rfl (lv_at hl 0 rfl) ?_
      refine x_bipush B (by decide) dX11_statementsOfHabits_5 ?_
      refine x_icmp_ge B (by omega) (tgt := 38) dX11_statementsOfHabits_7 (by decide) (fun c1 => ?_) (fun c1 => ?_)
      · refine lv_iload_n B.1 B.2.1 dX11_statementsOfHabits_38 rfl (lv_at hl 1 rfl) ?_
        refine y_ri B hQ h (by decide) dX11_statementsOfHabits_39 ?_
        exact ⟨rfl, _, rfl, (by first | omega | trivial | assumption)⟩
      · refine lv_aload_n B.1 B.2.1 dX11_statementsOfHabits_10 rfl (lv_at hl 2 rfl) ?_
        refine y_getR B h kX11 0 (CW.f hC 0 _ rfl) 7 (b := ad 27) rfl m_368 (by decide) dX11_statementsOfHabits_11 ?_
        refine lv_iload_n B.1 B.2.1 dX11_statementsOfHabits_14 rfl (lv_at hl 0 rfl) ?_
        refine y_qald B h 27 6 rfl (CW.f hC 27 _ rfl) (by omega) dX11_statementsOfHabits_15 (fun f3 hf2 => ?_)
        rcases hf2 (k) (by omega) with e4 | ⟨j5, hj5, e4⟩
        · rw [e4]
          show W p l e r_c_X11_statementsOfHabits s m args below meth c _ _ 0 0 Qf (F0 m 16 ls [.null])
          refine lv_astore_nN (lv' := [(3, .null), (2, .int (iI k)), (1, .int (iI a)), (0, .ref (ad 0))]) B.1 B.2.1 dX11_statementsOfHabits_16 rfl hl (by decide) rfl (fun ls hl => ?_)
          refine lv_iload_n B.1 B.2.1 dX11_statementsOfHabits_17 rfl (lv_at hl 2 rfl) ?_
          refine lv_aload_nN B.1 B.2.1 dX11_statementsOfHabits_18 rfl (lv_at hl 0 rfl) ?_
          refine lv_ifnonnullN B.1 B.2.1 dX11_statementsOfHabits_19 ?_
          refine x_iconst B dX11_statementsOfHabits_22 ?_
          refine lv_goto (tgt := 30) B.1 B.2.1 dX11_statementsOfHabits_23 (by decide) ?_
          refine x_iadd B dX11_statementsOfHabits_30 ?_
          refine lv_istore_n (lv' := [(1, .int (iI (a + 0))), (3, .null), (2, .int (iI k)), (0, .ref (ad 0))]) B.1 B.2.1 dX11_statementsOfHabits_31 rfl hl (by decide) rfl (fun ls hl => ?_)
          refine lv_iinc (v := iI (k + 1)) (lv' := [(2, .int (iI (k + 1))), (1, .int (iI (a + 0))), (3, .null), (0, .ref (ad 0))]) B.1 B.2.1 dX11_statementsOfHabits_32 hl (k := 2) rfl (iI_add _ _) (by decide) rfl (fun ls hl => ?_)
          refine lv_goto (tgt := 4) B.1 B.2.1 dX11_statementsOfHabits_35 (by decide) ?_
          exact ih4 ((a + 0)) ((k + 1)) (by omega) (by omega) (by omega) _ _ _ h (lv_sub hl [0, 1, 3] rfl)
        · rw [e4]
          have fo6 := CW.ru hC j5 (by omega)
          show W p l e r_c_X11_statementsOfHabits s m args below meth c _ _ 0 0 Qf (F0 m 16 ls [.ref (G 6 j5)])
          refine lv_astore_n (lv' := [(3, .ref (G 6 j5)), (2, .int (iI k)), (1, .int (iI a)), (0, .ref (ad 0))]) B.1 B.2.1 dX11_statementsOfHabits_16 rfl hl (by decide) rfl (fun ls hl => ?_)
          refine lv_iload_n B.1 B.2.1 dX11_statementsOfHabits_17 rfl (lv_at hl 2 rfl) ?_
          refine lv_aload_n B.1 B.2.1 dX11_statementsOfHabits_18 rfl (lv_at hl 0 rfl) ?_
          refine lv_ifnonnull (tgt := 26) B.1 B.2.1 dX11_statementsOfHabits_19 (by decide) ?_
          refine lv_aload_n B.1 B.2.1 dX11_statementsOfHabits_26 rfl (lv_at hl 0 rfl) ?_
          refine y_getG B h kX5 (1000 + 16 * j5.toNat + 6) fo6.1 5 (lo := 0) (hi := 40) rfl m_344 (by decide) dX11_statementsOfHabits_27 (fun z7 z7a z7b => ?_)
          refine x_iadd B dX11_statementsOfHabits_30 ?_
          refine lv_istore_n (lv' := [(1, .int (iI (a + z7))), (3, .ref (G 6 j5)), (2, .int (iI k)), (0, .ref (ad 0))]) B.1 B.2.1 dX11_statementsOfHabits_31 rfl hl (by decide) rfl (fun ls hl => ?_)
          refine lv_iinc (v := iI (k + 1)) (lv' := [(2, .int (iI (k + 1))), (1, .int (iI (a + z7))), (3, .ref (G 6 j5)), (0, .ref (ad 0))]) B.1 B.2.1 dX11_statementsOfHabits_32 hl (k := 2) rfl (iI_add _ _) (by decide) rfl (fun ls hl => ?_)
          refine lv_goto (tgt := 4) B.1 B.2.1 dX11_statementsOfHabits_35 (by decide) ?_
          exact ih4 ((a + z7)) ((k + 1)) (by omega) (by omega) (by omega) _ _ _ h (lv_sub hl [0, 1, 3] rfl)
  exact loop4 (((16 - 0 : Int)).toNat + 1) 0 0 (by omega) (by omega) (Nat.lt_succ_self _) _ _ _ h (lv_sub hl [0, 1, 2] rfl)
abbrev r_c_X11_timesWritten : Room := { frames := 3, cells := 0, slots := 0, locals := 64 }
set_option maxHeartbeats 4000000 in
set_option maxRecDepth 100000 in
theorem c_X11_timesWritten (l : Launch) (D : va_G) (Zk : yK) (ca : Nat → ClassId) (T : Nat → Int → Int) (G : Nat → Int → Nat) (u : Int) (ad : Nat → Nat) (w : yW) (hC : CW ca T G u ad w) (o : Int) (low : Int) (high : Int)  (ho : xr o) (hlow : xr low) (hhigh : xr high) : yC l D Zk ca yX11_timesWritten cX11_timesWritten 7 (some .int) r_c_X11_timesWritten [.ref (ad 0), .int (iI o), .int (iI low), .int (iI high)] w (vI w (fun z => 0 ≤ z ∧ z ≤ 300)) := by
  refine yC.of2 "WindWords" (by decide) rfl (Nat.le_of_ble_eq_true rfl) ?_
  intro p e s m args below meth c A ls Qf B hnm h hl hQ
  have hl : lv_has ls 7 [(0, .ref (ad 0)), (1, .int (iI o)), (2, .int (iI low)), (3, .int (iI high))] := hl
  have hs := pi_s (CW.pi hC)
  refine x_iconst B dX11_timesWritten_0 ?_
  refine lv_istore (lv' := [(4, .int (iI 0)), (0, .ref (ad 0)), (1, .int (iI o)), (2, .int (iI low)), (3, .int (iI high))]) B.1 B.2.1 dX11_timesWritten_1 hl (by decide) rfl (fun ls hl => ?_)
  refine x_iconst B dX11_timesWritten_3 ?_
  refine lv_istore (lv' := [(5, .int (iI 0)), (4, .int (iI 0)), (0, .ref (ad 0)), (1, .int (iI o)), (2, .int (iI low)), (3, .int (iI high))]) B.1 B.2.1 dX11_timesWritten_4 hl (by decide) rfl (fun ls hl => ?_)
  have loop6 : ∀ (n6 : Nat) (t : Int) (k : Int), (0 ≤ t ∧ t ≤ k) → (0 ≤ k ∧ k ≤ 300) → ((300 - k : Int)).toNat < n6 → ∀ (H : Heap) (locs : List Loc) (ls : Array Slot), yH D Zk A s w H locs → lv_has ls 7 [(5, .int (iI k)), (4, .int (iI t)), (0, .ref (ad 0)), (1, .int (iI o)), (2, .int (iI low)), (3, .int (iI high))] → W p l e r_c_X11_timesWritten s m args below meth c H locs 0 0 Qf (F0 m 6 ls []) := by
    intro n6
    induction n6 with
    | zero =>
      intro t k h0 h1 hm6 H locs ls h hl
      exact absurd hm6 (Nat.not_lt_zero _)
    | succ n6 ih6 =>
      intro t k h0 h1 hm6 H locs ls h hl
      refine lv_iload B.1 B.2.1 dX11_timesWritten_6 (lv_at hl 0 rfl) ?_
      refine lv_aload_n B.1 B.2.1 dX11_timesWritten_8 rfl (lv_at hl 2 rfl) ?_
      refine y_getR B h kX11 0 (CW.f hC 0 _ rfl) 0 (b := ad 1) rfl m_361 (by decide) dX11_timesWritten_9 ?_
      refine y_getX B h kX0 1 (CW.f hC 1 _ rfl) 5 (z := (T 0 2)) rfl m_149 (by decide) dX11_timesWritten_12 ?_
      refine x_icmp_ge B (by omega) (tgt := 70) dX11_timesWritten_15 (by decide) (fun c1 => ?_) (fun c1 => ?_)
      · refine lv_iload B.1 B.2.1 dX11_timesWritten_70 (lv_at hl 1 rfl) ?_
        refine y_ri B hQ h (by decide) dX11_timesWritten_72 ?_
        exact ⟨rfl, _, rfl, (by first | omega | trivial | assumption)⟩
      · refine lv_aload_n B.1 B.2.1 dX11_timesWritten_18 rfl (lv_at hl 2 rfl) ?_
        refine y_getR B h kX11 0 (CW.f hC 0 _ rfl) 0 (b := ad 1) rfl m_361 (by decide) dX11_timesWritten_19 ?_
        refine lv_iload B.1 B.2.1 dX11_timesWritten_22 (lv_at hl 0 rfl) ?_
        refine y_cV B h kX0 1 (CW.f hC 1 _ rfl) k_X0_mansAt rfl (c_X0_mansAt l D Zk ca T G u ad _ hC k  (by omega)) m_1050 rfl (by decide) hl.1 [] (Nat.le_of_ble_eq_true rfl) rfl dX11_timesWritten_24 (fun r w1 hq H locs h => ?_)
        obtain ⟨rfl, _, rfl, ⟨rfl, q2⟩ | ⟨rfl, q2⟩⟩ := hq
        · show W p l e r_c_X11_timesWritten s m args below meth c _ _ 0 0 Qf (F0 m 27 ls [.null])
          refine lv_astoreN (lv' := [(6, .null), (5, .int (iI k)), (4, .int (iI t)), (0, .ref (ad 0)), (1, .int (iI o)), (2, .int (iI low)), (3, .int (iI high))]) B.1 B.2.1 dX11_timesWritten_27 hl (by decide) rfl (fun ls hl => ?_)
          refine lv_aloadN B.1 B.2.1 dX11_timesWritten_29 (lv_at hl 0 rfl) ?_
          refine lv_ifnullN (tgt := 64) B.1 B.2.1 dX11_timesWritten_31 (by decide) ?_
          refine lv_iinc (v := iI (k + 1)) (lv' := [(5, .int (iI (k + 1))), (6, .null), (4, .int (iI t)), (0, .ref (ad 0)), (1, .int (iI o)), (2, .int (iI low)), (3, .int (iI high))]) B.1 B.2.1 dX11_timesWritten_64 hl (k := 1) rfl (iI_add _ _) (by decide) rfl (fun ls hl => ?_)
          refine lv_goto (tgt := 6) B.1 B.2.1 dX11_timesWritten_67 (by decide) ?_
          exact ih6 t ((k + 1)) (by omega) (by omega) (by omega) _ _ _ h (lv_sub hl [0, 2, 3, 4, 5, 6] rfl)
        · have fo3 := CW.rd hC k (by omega)
          show W p l e r_c_X11_timesWritten s m args below meth c _ _ 0 0 Qf (F0 m 27 ls [.ref (G 4 k)])
          refine lv_astore (lv' := [(6, .ref (G 4 k)), (5, .int (iI k)), (4, .int (iI t)), (0, .ref (ad 0)), (1, .int (iI o)), (2, .int (iI low)), (3, .int (iI high))]) B.1 B.2.1 dX11_timesWritten_27 hl (by decide) rfl (fun ls hl => ?_)
          refine lv_aload B.1 B.2.1 dX11_timesWritten_29 (lv_at hl 0 rfl) ?_
          refine lv_ifnull B.1 B.2.1 dX11_timesWritten_31 ?_
          refine lv_aload B.1 B.2.1 dX11_timesWritten_34 (lv_at hl 0 rfl) ?_
          refine y_cV B h kX4 (1000 + 16 * k.toNat + 4) fo3 k_X4_writer rfl (c_X4_writer l D Zk ca T G u ad _ hC k  (by omega)) m_834 rfl (by decide) hl.1 [] (Nat.le_of_ble_eq_true rfl) rfl dX11_timesWritten_36 (fun r w1 hq H locs h => ?_)
          obtain ⟨rfl, _, rfl, rfl⟩ := hq
          have tb4 := pi_3 (CW.pi hC) (1000 * T 4 k + T 5 k)
          show W p l e r_c_X11_timesWritten s m args below meth c _ _ 0 0 Qf (F0 m 39 ls [.int (iI (T 3 (1000 * T 4 k + T 5 k)))])
          refine lv_iload_n B.1 B.2.1 dX11_timesWritten_39 rfl (lv_at hl 4 rfl) ?_
          refine x_icmp_ne B (by omega) (tgt := 64) dX11_timesWritten_40 (by decide) (fun c5 => ?_) (fun c5 => ?_)
          · refine lv_iinc (v := iI (k + 1)) (lv' := [(5, .int (iI (k + 1))), (6, .ref (G 4 k)), (4, .int (iI t)), (0, .ref (ad 0)), (1, .int (iI o)), (2, .int (iI low)), (3, .int (iI high))]) B.1 B.2.1 dX11_timesWritten_64 hl (k := 1) rfl (iI_add _ _) (by decide) rfl (fun ls hl => ?_)
            refine lv_goto (tgt := 6) B.1 B.2.1 dX11_timesWritten_67 (by decide) ?_
            exact ih6 t ((k + 1)) (by omega) (by omega) (by omega) _ _ _ h (lv_sub hl [0, 2, 3, 4, 5, 6] rfl)
          · refine lv_aload B.1 B.2.1 dX11_timesWritten_43 (lv_at hl 0 rfl) ?_
            refine y_getX B h kX4 (1000 + 16 * k.toNat + 4) fo3 4 (z := (T 8 k)) rfl m_532 (by decide) dX11_timesWritten_45 ?_
            have tb6 := pi_8 (CW.pi hC) k
            have tb7 := pi_n (CW.pi hC) k
            refine lv_iload_n B.1 B.2.1 dX11_timesWritten_48 rfl (lv_at hl 5 rfl) ?_
            refine x_icmp_lt B (by omega) (tgt := 64) dX11_timesWritten_49 (by decide) (fun c8 => ?_) (fun c8 => ?_)
            · refine lv_iinc (v := iI (k + 1)) (lv' := [(5, .int (iI (k + 1))), (6, .ref (G 4 k)), (4, .int (iI t)), (0, .ref (ad 0)), (1, .int (iI o)), (2, .int (iI low)), (3, .int (iI high))]) B.1 B.2.1 dX11_timesWritten_64 hl (k := 1) rfl (iI_add _ _) (by decide) rfl (fun ls hl => ?_)
              refine lv_goto (tgt := 6) B.1 B.2.1 dX11_timesWritten_67 (by decide) ?_
              exact ih6 t ((k + 1)) (by omega) (by omega) (by omega) _ _ _ h (lv_sub hl [0, 2, 3, 4, 5, 6] rfl)
            · refine lv_aload B.1 B.2.1 dX11_timesWritten_52 (lv_at hl 0 rfl) ?_
              refine y_getX B h kX4 (1000 + 16 * k.toNat + 4) fo3 4 (z := (T 8 k)) rfl m_532 (by decide) dX11_timesWritten_54 ?_
              refine lv_iload_n B.1 B.2.1 dX11_timesWritten_57 rfl (lv_at hl 6 rfl) ?_
              refine x_icmp_gt B (by omega) (tgt := 64) dX11_timesWritten_58 (by decide) (fun c9 => ?_) (fun c9 => ?_)
              · refine lv_iinc (v := iI (k + 1)) (lv' := [(5, .int (iI (k + 1))), (6, .ref (G 4 k)), (4, .int (iI t)), (0, .ref (ad 0)), (1, .int (iI o)), (2, .int (iI low)), (3, .int (iI high))]) B.1 B.2.1 dX11_timesWritten_64 hl (k := 1) rfl (iI_add _ _) (by decide) rfl (fun ls hl => ?_)
                refine lv_goto (tgt := 6) B.1 B.2.1 dX11_timesWritten_67 (by decide) ?_
                exact ih6 t ((k + 1)) (by omega) (by omega) (by omega) _ _ _ h (lv_sub hl [0, 2, 3, 4, 5, 6] rfl)
              · refine lv_iinc (v := iI (t + 1)) (lv' := [(4, .int (iI (t + 1))), (6, .ref (G 4 k)), (5, .int (iI k)), (0, .ref (ad 0)), (1, .int (iI o)), (2, .int (iI low)), (3, .int (iI high))]) B.1 B.2.1 dX11_timesWritten_61 hl (k := 2) rfl (iI_add _ _) (by decide) rfl (fun ls hl => ?_)
                refine lv_iinc (v := iI (k + 1)) (lv' := [(5, .int (iI (k + 1))), (4, .int (iI (t + 1))), (6, .ref (G 4 k)), (0, .ref (ad 0)), (1, .int (iI o)), (2, .int (iI low)), (3, .int (iI high))]) B.1 B.2.1 dX11_timesWritten_64 hl (k := 2) rfl (iI_add _ _) (by decide) rfl (fun ls hl => ?_)
                refine lv_goto (tgt := 6) B.1 B.2.1 dX11_timesWritten_67 (by decide) ?_
                exact ih6 ((t + 1)) ((k + 1)) (by omega) (by omega) (by omega) _ _ _ h (lv_sub hl [0, 1, 3, 4, 5, 6] rfl)
  exact loop6 (((300 - 0 : Int)).toNat + 1) 0 0 (by omega) (by omega) (Nat.lt_succ_self _) _ _ _ h (lv_sub hl [0, 1, 2, 3, 4, 5] rfl)
abbrev r_c_X11_odds : Room := { frames := 0, cells := 0, slots := 0, locals := 0 }
set_option maxHeartbeats 4000000 in
set_option maxRecDepth 100000 in
theorem c_X11_odds (l : Launch) (D : va_G) (Zk : yK) (ca : Nat → ClassId) (w : yW) (all : Int) (tw : Int)  (hall : 0 ≤ all ∧ all ≤ 300) (htw : -600 ≤ tw ∧ tw ≤ 600) : yC l D Zk ca yX11_odds cX11_odds 5 (some .int) r_c_X11_odds [.int (iI all), .int (iI tw)] w (vI w (fun z => xr z)) := by
  refine yC.of2 "WindWords" (by decide) rfl (Nat.le_of_ble_eq_true rfl) ?_
  intro p e s m args below meth c A ls Qf B hnm h hl hQ
  have hl : lv_has ls 5 [(0, .int (iI all)), (1, .int (iI tw))] := hl
  refine lv_iload_n B.1 B.2.1 dX11_odds_0 rfl (lv_at hl 0 rfl) ?_
  refine x_if_gt B (by omega) (tgt := 6) dX11_odds_1 (by decide) (fun c1 => ?_) (fun c1 => ?_)
  · refine x_ldc2 B m_1054 dX11_odds_6 ?_
    refine lv_lstore_n (lv' := [(2, .long ((1000000000 : Int64))), (0, .int (iI all)), (1, .int (iI tw))]) B.1 B.2.1 dX11_odds_9 rfl hl (by decide) rfl (fun ls hl => ?_)
    refine x_iconst B dX11_odds_10 ?_
    refine lv_istore (lv' := [(4, .int (iI 0)), (2, .long ((1000000000 : Int64))), (0, .int (iI all)), (1, .int (iI tw))]) B.1 B.2.1 dX11_odds_11 hl (by decide) rfl (fun ls hl => ?_)
    have loop13 : ∀ (n13 : Nat) (ch : Int64) (k : Int), (0 ≤ k ∧ k ≤ 300) → ((300 - k : Int)).toNat < n13 → ∀ (H : Heap) (locs : List Loc) (ls : Array Slot), yH D Zk A s w H locs → lv_has ls 5 [(4, .int (iI k)), (2, .long (ch)), (0, .int (iI all)), (1, .int (iI tw))] → W p l e r_c_X11_odds s m args below meth c H locs 0 0 Qf (F0 m 13 ls []) := by
      intro n13
      induction n13 with
      | zero =>
        intro ch k h1 hm13 H locs ls h hl
        exact absurd hm13 (Nat.not_lt_zero _)
      | succ n13 ih13 =>
        intro ch k h1 hm13 H locs ls h hl
        refine lv_iload B.1 B.2.1 dX11_odds_13 (lv_at hl 0 rfl) ?_
        refine lv_iload_n B.1 B.2.1 dX11_odds_15 rfl (lv_at hl 2 rfl) ?_
        refine x_icmp_ge B (by omega) (tgt := 39) dX11_odds_16 (by decide) (fun c2 => ?_) (fun c2 => ?_)
        · refine lv_lload_n B.1 B.2.1 dX11_odds_39 rfl (lv_at hl 1 rfl) ?_
          refine lv_l2i B.1 B.2.1 dX11_odds_40 rfl ?_
          refine x_name (fun z3 hz3 ez3 => ?_)
          refine y_ri B hQ h (by decide) dX11_odds_41 ?_
          exact ⟨rfl, _, rfl, (by first | omega | trivial | assumption)⟩
        · refine lv_lload_n B.1 B.2.1 dX11_odds_19 rfl (lv_at hl 1 rfl) ?_
          refine x_iconst B dX11_odds_20 ?_
          refine lv_iload_n B.1 B.2.1 dX11_odds_21 rfl (lv_at hl 2 rfl) ?_
          refine x_imul B dX11_odds_22 ?_
          refine lv_iload_n B.1 B.2.1 dX11_odds_23 rfl (lv_at hl 3 rfl) ?_
          refine x_isub B dX11_odds_24 ?_
          refine lv_i2l B.1 B.2.1 dX11_odds_25 rfl ?_
          refine x_rawL (fun y4 => ?_)
          refine lv_lmul B.1 B.2.1 dX11_odds_26 ?_
          refine x_rawL (fun y5 => ?_)
          refine x_iconst B dX11_odds_27 ?_
          refine lv_iload_n B.1 B.2.1 dX11_odds_28 rfl (lv_at hl 2 rfl) ?_
          refine x_imul B dX11_odds_29 ?_
          refine lv_i2l B.1 B.2.1 dX11_odds_30 rfl ?_
          refine lv_ldiv B.1 B.2.1 dX11_odds_31 (i2l_ne (by omega)) ?_
          refine x_rawL (fun y6 => ?_)
          refine lv_lstore_n (lv' := [(2, .long (y6)), (4, .int (iI k)), (0, .int (iI all)), (1, .int (iI tw))]) B.1 B.2.1 dX11_odds_32 rfl hl (by decide) rfl (fun ls hl => ?_)
          refine lv_iinc (v := iI (k + 1)) (lv' := [(4, .int (iI (k + 1))), (2, .long (y6)), (0, .int (iI all)), (1, .int (iI tw))]) B.1 B.2.1 dX11_odds_33 hl (k := 1) rfl (iI_add _ _) (by decide) rfl (fun ls hl => ?_)
          refine lv_goto (tgt := 13) B.1 B.2.1 dX11_odds_36 (by decide) ?_
          exact ih13 y6 ((k + 1)) (by omega) (by omega) _ _ _ h (lv_sub hl [0, 1, 2, 3] rfl)
    exact loop13 (((300 - 0 : Int)).toNat + 1) ((1000000000 : Int64)) 0 (by omega) (Nat.lt_succ_self _) _ _ _ h (lv_sub hl [0, 1, 2, 3] rfl)
  · refine x_iconst B dX11_odds_4 ?_
    refine y_ri B hQ h (by decide) dX11_odds_5 ?_
    exact ⟨rfl, _, rfl, (by first | omega | trivial | assumption)⟩
abbrev r_c_X11_gatherLagsOf : Room := { frames := 4, cells := 0, slots := 0, locals := 101 }
set_option maxHeartbeats 4000000 in
set_option maxRecDepth 100000 in
theorem c_X11_gatherLagsOf (l : Launch) (D : va_G) (Zk : yK) (ca : Nat → ClassId) (T : Nat → Int → Int) (G : Nat → Int → Nat) (u : Int) (ad : Nat → Nat) (w : yW) (hC : CW ca T G u ad w) (k : Int)  (hk : 0 ≤ k ∧ k < T 0 2) : yC l D Zk ca yX11_gatherLagsOf cX11_gatherLagsOf 6 none r_c_X11_gatherLagsOf [.ref (ad 0), .ref (G 4 k)] w (vV w) := by
  refine yC.of2 "WindWords" (by decide) rfl (Nat.le_of_ble_eq_true rfl) ?_
  intro p e s m args below meth c A ls Qf B hnm h hl hQ
  have hl : lv_has ls 6 [(0, .ref (ad 0)), (1, .ref (G 4 k))] := hl
  have hs := pi_s (CW.pi hC)
  have fo1 := CW.rd hC k (by omega)
  refine lv_aload_n B.1 B.2.1 dX11_gatherLagsOf_0 rfl (lv_at hl 0 rfl) ?_
  refine y_getR B h kX11 0 (CW.f hC 0 _ rfl) 1 (b := ad 4) rfl m_362 (by decide) dX11_gatherLagsOf_1 ?_
  refine lv_aload_n B.1 B.2.1 dX11_gatherLagsOf_4 rfl (lv_at hl 0 rfl) ?_
  refine y_getR B h kX11 0 (CW.f hC 0 _ rfl) 11 (b := ad 31) rfl m_372 (by decide) dX11_gatherLagsOf_5 ?_
  refine lv_aload_n B.1 B.2.1 dX11_gatherLagsOf_8 rfl (lv_at hl 0 rfl) ?_
  refine y_getR B h kX11 0 (CW.f hC 0 _ rfl) 1 (b := ad 4) rfl m_362 (by decide) dX11_gatherLagsOf_9 ?_
  refine lv_aload_n B.1 B.2.1 dX11_gatherLagsOf_12 rfl (lv_at hl 1 rfl) ?_
  refine y_cV B h kX4 (1000 + 16 * k.toNat + 4) fo1 k_X4_year rfl (c_X4_year l D Zk ca T G u ad _ hC k  (by omega)) m_1113 rfl (by decide) hl.1 [.ref (ad 4), .ref (ad 31), .ref (ad 4)] (Nat.le_of_ble_eq_true rfl) rfl dX11_gatherLagsOf_13 (fun r w1 hq H locs h => ?_)
  obtain ⟨rfl, _, rfl, rfl⟩ := hq
  have tb2 := pi_5 (CW.pi hC) k
  show W p l e r_c_X11_gatherLagsOf s m args below meth c _ _ 0 0 Qf (F0 m 16 ls [.int (iI ((T 5 k) / 100)), .ref (ad 4), .ref (ad 31), .ref (ad 4)])
  refine y_cV B h kX6 4 (CW.f hC 4 _ rfl) k_X6_ofYear rfl (c_X6_ofYear l D Zk ca T G u ad _ hC (((T 5 k) / 100))  (by omega)) m_878 rfl (by decide) hl.1 [.ref (ad 31), .ref (ad 4)] (Nat.le_of_ble_eq_true rfl) rfl dX11_gatherLagsOf_16 (fun r w1 hq H locs h => ?_)
  obtain ⟨rfl, z3, rfl, hz3⟩ := hq
  show W p l e r_c_X11_gatherLagsOf s m args below meth c _ _ 0 0 Qf (F0 m 19 ls [.int (iI z3), .ref (ad 31), .ref (ad 4)])
  refine x_iconst B dX11_gatherLagsOf_19 ?_
  refine lv_aload_n B.1 B.2.1 dX11_gatherLagsOf_20 rfl (lv_at hl 1 rfl) ?_
  refine y_cV B h kX4 (1000 + 16 * k.toNat + 4) fo1 k_X4_mix rfl (c_X4_mix l D Zk ca T G u ad _ hC k  (by omega)) m_1114 rfl (by decide) hl.1 [.int (iI 1), .int (iI z3), .ref (ad 31), .ref (ad 4)] (Nat.le_of_ble_eq_true rfl) rfl dX11_gatherLagsOf_21 (fun r w1 hq H locs h => ?_)
  obtain ⟨rfl, _, rfl, rfl⟩ := hq
  have tb4 := pi_1 (CW.pi hC) (T 4 k)
  have tb5 := pi_4 (CW.pi hC) k
  have tb6 := pi_9 (CW.pi hC) k
  show W p l e r_c_X11_gatherLagsOf s m args below meth c _ _ 0 0 Qf (F0 m 24 ls [.int (iI ((10 * (T 1 (T 4 k))) + (T 9 k))), .int (iI 1), .int (iI z3), .ref (ad 31), .ref (ad 4)])
  refine lv_aload_n B.1 B.2.1 dX11_gatherLagsOf_24 rfl (lv_at hl 1 rfl) ?_
  refine y_cV B h kX4 (1000 + 16 * k.toNat + 4) fo1 k_X4_year rfl (c_X4_year l D Zk ca T G u ad _ hC k  (by omega)) m_1113 rfl (by decide) hl.1 [.int (iI ((10 * (T 1 (T 4 k))) + (T 9 k))), .int (iI 1), .int (iI z3), .ref (ad 31), .ref (ad 4)] (Nat.le_of_ble_eq_true rfl) rfl dX11_gatherLagsOf_25 (fun r w1 hq H locs h => ?_)
  obtain ⟨rfl, _, rfl, rfl⟩ := hq
  show W p l e r_c_X11_gatherLagsOf s m args below meth c _ _ 0 0 Qf (F0 m 28 ls [.int (iI ((T 5 k) / 100)), .int (iI ((10 * (T 1 (T 4 k))) + (T 9 k))), .int (iI 1), .int (iI z3), .ref (ad 31), .ref (ad 4)])
  refine y_cV B h kX6 4 (CW.f hC 4 _ rfl) k_X6_fillRow rfl (c_X6_fillRow l D Zk ca T G u ad _ hC z3 1 (((10 * (T 1 (T 4 k))) + (T 9 k))) (((T 5 k) / 100)) (ad 31) 31 (CW.f hC 31 _ rfl) (by omega) (by omega) (by omega) (by omega)) m_930 rfl (by decide) hl.1 [] (Nat.le_of_ble_eq_true rfl) rfl dX11_gatherLagsOf_28 (fun r w1 hq H locs h => ?_)
  obtain ⟨rfl, rfl⟩ := hq
  show W p l e r_c_X11_gatherLagsOf s m args below meth c _ _ 0 0 Qf (F0 m 31 ls [])
  refine x_iconst B dX11_gatherLagsOf_31 ?_
  refine lv_istore_n (lv' := [(2, .int (iI 0)), (0, .ref (ad 0)), (1, .ref (G 4 k))]) B.1 B.2.1 dX11_gatherLagsOf_32 rfl hl (by decide) rfl (fun ls hl => ?_)
  have loop33 : ∀ (n33 : Nat) (i : Int), (0 ≤ i ∧ i ≤ 12) → ((12 - i : Int)).toNat < n33 → ∀ (H : Heap) (locs : List Loc) (ls : Array Slot), yH D Zk A s w H locs → lv_has ls 6 [(2, .int (iI i)), (0, .ref (ad 0)), (1, .ref (G 4 k))] → W p l e r_c_X11_gatherLagsOf s m args below meth c H locs 0 0 Qf (F0 m 33 ls []) := by
    intro n33
    induction n33 with
    | zero =>
      intro i h0 hm33 H locs ls h hl
      exact absurd hm33 (Nat.not_lt_zero _)
    | succ n33 ih33 =>
      intro i h0 hm33 H locs ls h hl
      refine lv_iload_n B.1 B.2.1 dX11_gatherLagsOf_33 rfl (lv_at hl 0 rfl) ?_
      refine lv_aload_n B.1 B.2.1 dX11_gatherLagsOf_34 rfl (lv_at hl 1 rfl) ?_
      refine y_getR B h kX11 0 (CW.f hC 0 _ rfl) 0 (b := ad 1) rfl m_361 (by decide) dX11_gatherLagsOf_35 ?_
      refine y_getX B h kX0 1 (CW.f hC 1 _ rfl) 4 (z := (T 0 1)) rfl m_143 (by decide) dX11_gatherLagsOf_38 ?_
      refine x_icmp_ge B (by omega) (tgt := 169) dX11_gatherLagsOf_41 (by decide) (fun c7 => ?_) (fun c7 => ?_)
      · refine y_rv B hQ h (by decide) dX11_gatherLagsOf_169 ?_
        exact ⟨rfl, rfl⟩
      · refine lv_aload_n B.1 B.2.1 dX11_gatherLagsOf_44 rfl (lv_at hl 1 rfl) ?_
        refine y_getR B h kX11 0 (CW.f hC 0 _ rfl) 0 (b := ad 1) rfl m_361 (by decide) dX11_gatherLagsOf_45 ?_
        refine lv_iload_n B.1 B.2.1 dX11_gatherLagsOf_48 rfl (lv_at hl 0 rfl) ?_
        refine y_cV B h kX0 1 (CW.f hC 1 _ rfl) k_X0_shipAt rfl (c_X0_shipAt l D Zk ca T G u ad _ hC i  (by omega)) m_481 rfl (by decide) hl.1 [] (Nat.le_of_ble_eq_true rfl) rfl dX11_gatherLagsOf_49 (fun r w1 hq H locs h => ?_)
        obtain ⟨rfl, _, rfl, ⟨rfl, q8⟩ | ⟨rfl, q8⟩⟩ := hq
        · show W p l e r_c_X11_gatherLagsOf s m args below meth c _ _ 0 0 Qf (F0 m 52 ls [.null])
          refine lv_astore_nN (lv' := [(3, .null), (2, .int (iI i)), (0, .ref (ad 0)), (1, .ref (G 4 k))]) B.1 B.2.1 dX11_gatherLagsOf_52 rfl hl (by decide) rfl (fun ls hl => ?_)
          refine x_iconst B dX11_gatherLagsOf_53 ?_
          refine lv_istore (lv' := [(4, .int (iI 0)), (3, .null), (2, .int (iI i)), (0, .ref (ad 0)), (1, .ref (G 4 k))]) B.1 B.2.1 dX11_gatherLagsOf_54 hl (by decide) rfl (fun ls hl => ?_)
          have loop56 : ∀ (n56 : Nat) (v : Int), (0 ≤ v ∧ v ≤ 10) → ((10 - v : Int)).toNat < n56 → ∀ (H : Heap) (locs : List Loc) (ls : Array Slot), yH D Zk A s w H locs → lv_has ls 6 [(4, .int (iI v)), (3, .null), (2, .int (iI i)), (0, .ref (ad 0)), (1, .ref (G 4 k))] → W p l e r_c_X11_gatherLagsOf s m args below meth c H locs 0 0 Qf (F0 m 56 ls []) := by
            intro n56
            induction n56 with
            | zero =>
              intro v h1 hm56 H locs ls h hl
              exact absurd hm56 (Nat.not_lt_zero _)
            | succ n56 ih56 =>
              intro v h1 hm56 H locs ls h hl
              refine lv_iload B.1 B.2.1 dX11_gatherLagsOf_56 (lv_at hl 0 rfl) ?_
              refine x_bipush B (by decide) dX11_gatherLagsOf_58 ?_
              refine x_icmp_ge B (by omega) (tgt := 163) dX11_gatherLagsOf_60 (by decide) (fun c9 => ?_) (fun c9 => ?_)
              · refine lv_iinc (v := iI (i + 1)) (lv' := [(2, .int (iI (i + 1))), (4, .int (iI v)), (3, .null), (0, .ref (ad 0)), (1, .ref (G 4 k))]) B.1 B.2.1 dX11_gatherLagsOf_163 hl (k := 2) rfl (iI_add _ _) (by decide) rfl (fun ls hl => ?_)
                refine lv_goto (tgt := 33) B.1 B.2.1 dX11_gatherLagsOf_166 (by decide) ?_
                exact ih33 ((i + 1)) (by omega) (by omega) _ _ _ h (lv_sub hl [0, 3, 4] rfl)
              · refine lv_aload_nN B.1 B.2.1 dX11_gatherLagsOf_63 rfl (lv_at hl 1 rfl) ?_
                refine lv_ifnullN (tgt := 163) B.1 B.2.1 dX11_gatherLagsOf_64 (by decide) ?_
                refine lv_iinc (v := iI (i + 1)) (lv' := [(2, .int (iI (i + 1))), (4, .int (iI v)), (3, .null), (0, .ref (ad 0)), (1, .ref (G 4 k))]) B.1 B.2.1 dX11_gatherLagsOf_163 hl (k := 2) rfl (iI_add _ _) (by decide) rfl (fun ls hl => ?_)
                refine lv_goto (tgt := 33) B.1 B.2.1 dX11_gatherLagsOf_166 (by decide) ?_
                exact ih33 ((i + 1)) (by omega) (by omega) _ _ _ h (lv_sub hl [0, 3, 4] rfl)
          exact loop56 (((10 - 0 : Int)).toNat + 1) 0 (by omega) (Nat.lt_succ_self _) _ _ _ h (lv_sub hl [0, 1, 2, 3, 4] rfl)
        · have fo10 := CW.sh hC i (by omega)
          show W p l e r_c_X11_gatherLagsOf s m args below meth c _ _ 0 0 Qf (F0 m 52 ls [.ref (G 1 i)])
          refine lv_astore_n (lv' := [(3, .ref (G 1 i)), (2, .int (iI i)), (0, .ref (ad 0)), (1, .ref (G 4 k))]) B.1 B.2.1 dX11_gatherLagsOf_52 rfl hl (by decide) rfl (fun ls hl => ?_)
          refine x_iconst B dX11_gatherLagsOf_53 ?_
          refine lv_istore (lv' := [(4, .int (iI 0)), (3, .ref (G 1 i)), (2, .int (iI i)), (0, .ref (ad 0)), (1, .ref (G 4 k))]) B.1 B.2.1 dX11_gatherLagsOf_54 hl (by decide) rfl (fun ls hl => ?_)
          have loop56 : ∀ (n56 : Nat) (v : Int), (0 ≤ v ∧ v ≤ 10) → ((10 - v : Int)).toNat < n56 → ∀ (H : Heap) (locs : List Loc) (ls : Array Slot), yH D Zk A s w H locs → lv_has ls 6 [(4, .int (iI v)), (3, .ref (G 1 i)), (2, .int (iI i)), (0, .ref (ad 0)), (1, .ref (G 4 k))] → W p l e r_c_X11_gatherLagsOf s m args below meth c H locs 0 0 Qf (F0 m 56 ls []) := by
            intro n56
            induction n56 with
            | zero =>
              intro v h1 hm56 H locs ls h hl
              exact absurd hm56 (Nat.not_lt_zero _)
            | succ n56 ih56 =>
              intro v h1 hm56 H locs ls h hl
              refine lv_iload B.1 B.2.1 dX11_gatherLagsOf_56 (lv_at hl 0 rfl) ?_
              refine x_bipush B (by decide) dX11_gatherLagsOf_58 ?_
              refine x_icmp_ge B (by omega) (tgt := 163) dX11_gatherLagsOf_60 (by decide) (fun c11 => ?_) (fun c11 => ?_)
              · refine lv_iinc (v := iI (i + 1)) (lv' := [(2, .int (iI (i + 1))), (4, .int (iI v)), (3, .ref (G 1 i)), (0, .ref (ad 0)), (1, .ref (G 4 k))]) B.1 B.2.1 dX11_gatherLagsOf_163 hl (k := 2) rfl (iI_add _ _) (by decide) rfl (fun ls hl => ?_)
                refine lv_goto (tgt := 33) B.1 B.2.1 dX11_gatherLagsOf_166 (by decide) ?_
                exact ih33 ((i + 1)) (by omega) (by omega) _ _ _ h (lv_sub hl [0, 3, 4] rfl)
              · refine lv_aload_n B.1 B.2.1 dX11_gatherLagsOf_63 rfl (lv_at hl 1 rfl) ?_
                refine lv_ifnull B.1 B.2.1 dX11_gatherLagsOf_64 ?_
                refine lv_aload_n B.1 B.2.1 dX11_gatherLagsOf_67 rfl (lv_at hl 1 rfl) ?_
                refine lv_aload_n B.1 B.2.1 dX11_gatherLagsOf_68 rfl (lv_at hl 4 rfl) ?_
                refine y_getX B h kX4 (1000 + 16 * k.toNat + 4) fo1 1 (z := (T 5 k)) rfl m_519 (by decide) dX11_gatherLagsOf_69 ?_
                refine lv_iload B.1 B.2.1 dX11_gatherLagsOf_72 (lv_at hl 0 rfl) ?_
                refine x_isub B dX11_gatherLagsOf_74 ?_
                refine y_cV B h kX7 (1000 + 16 * i.toNat + 1) fo10.1 k_X7_readingOn rfl (c_X7_readingOn l D Zk ca T G u ad _ hC i (((T 5 k) - v))  (by omega) (by omega)) m_502 rfl (by decide) hl.1 [] (Nat.le_of_ble_eq_true rfl) rfl dX11_gatherLagsOf_75 (fun r w1 hq H locs h => ?_)
                obtain ⟨rfl, _, rfl, ⟨rfl, q12⟩ | ⟨k13, rfl, q12⟩⟩ := hq
                · show W p l e r_c_X11_gatherLagsOf s m args below meth c _ _ 0 0 Qf (F0 m 78 ls [.null])
                  refine lv_astoreN (lv' := [(5, .null), (4, .int (iI v)), (3, .ref (G 1 i)), (2, .int (iI i)), (0, .ref (ad 0)), (1, .ref (G 4 k))]) B.1 B.2.1 dX11_gatherLagsOf_78 hl (by decide) rfl (fun ls hl => ?_)
                  refine lv_aloadN B.1 B.2.1 dX11_gatherLagsOf_80 (lv_at hl 0 rfl) ?_
                  refine lv_ifnullN (tgt := 157) B.1 B.2.1 dX11_gatherLagsOf_82 (by decide) ?_
                  refine lv_iinc (v := iI (v + 1)) (lv' := [(4, .int (iI (v + 1))), (5, .null), (3, .ref (G 1 i)), (2, .int (iI i)), (0, .ref (ad 0)), (1, .ref (G 4 k))]) B.1 B.2.1 dX11_gatherLagsOf_157 hl (k := 1) rfl (iI_add _ _) (by decide) rfl (fun ls hl => ?_)
                  refine lv_goto (tgt := 56) B.1 B.2.1 dX11_gatherLagsOf_160 (by decide) ?_
                  exact ih56 ((v + 1)) (by omega) (by omega) _ _ _ h (lv_sub hl [0, 2, 3, 4, 5] rfl)
                · have fo14 := CW.rd hC k13 (by omega)
                  show W p l e r_c_X11_gatherLagsOf s m args below meth c _ _ 0 0 Qf (F0 m 78 ls [.ref (G 4 k13)])
                  refine lv_astore (lv' := [(5, .ref (G 4 k13)), (4, .int (iI v)), (3, .ref (G 1 i)), (2, .int (iI i)), (0, .ref (ad 0)), (1, .ref (G 4 k))]) B.1 B.2.1 dX11_gatherLagsOf_78 hl (by decide) rfl (fun ls hl => ?_)
                  refine lv_aload B.1 B.2.1 dX11_gatherLagsOf_80 (lv_at hl 0 rfl) ?_
                  refine lv_ifnull B.1 B.2.1 dX11_gatherLagsOf_82 ?_
                  refine lv_aload B.1 B.2.1 dX11_gatherLagsOf_85 (lv_at hl 0 rfl) ?_
                  refine y_cV B h kX4 (1000 + 16 * k13.toNat + 4) fo14 k_X4_isMans rfl (c_X4_isMans l D Zk ca T G u ad _ hC k13  (by omega)) m_852 rfl (by decide) hl.1 [] (Nat.le_of_ble_eq_true rfl) rfl dX11_gatherLagsOf_87 (fun r w1 hq H locs h => ?_)
                  obtain ⟨rfl, _, rfl, ⟨rfl, b15⟩ | ⟨rfl, b15⟩⟩ := hq
                  · show W p l e r_c_X11_gatherLagsOf s m args below meth c _ _ 0 0 Qf (F0 m 90 ls [.int (iI 1)])
                    refine x_if_ne B (by omega) (tgt := 157) dX11_gatherLagsOf_90 (by decide) (fun c16 => ?_) (fun c16 => ?_)
                    · refine lv_iinc (v := iI (v + 1)) (lv' := [(4, .int (iI (v + 1))), (5, .ref (G 4 k13)), (3, .ref (G 1 i)), (2, .int (iI i)), (0, .ref (ad 0)), (1, .ref (G 4 k))]) B.1 B.2.1 dX11_gatherLagsOf_157 hl (k := 1) rfl (iI_add _ _) (by decide) rfl (fun ls hl => ?_)
                      refine lv_goto (tgt := 56) B.1 B.2.1 dX11_gatherLagsOf_160 (by decide) ?_
                      exact ih56 ((v + 1)) (by omega) (by omega) _ _ _ h (lv_sub hl [0, 2, 3, 4, 5] rfl)
                    · exact absurd c16 (by omega)
                  · show W p l e r_c_X11_gatherLagsOf s m args below meth c _ _ 0 0 Qf (F0 m 90 ls [.int (iI 0)])
                    refine x_if_ne B (by omega) (tgt := 157) dX11_gatherLagsOf_90 (by decide) (fun c17 => ?_) (fun c17 => ?_)
                    · exact absurd c17 (by omega)
                    · refine lv_aload B.1 B.2.1 dX11_gatherLagsOf_93 (lv_at hl 0 rfl) ?_
                      refine y_getX B h kX4 (1000 + 16 * k13.toNat + 4) fo14 2 (z := (T 6 k13)) rfl m_523 (by decide) dX11_gatherLagsOf_95 ?_
                      have tb18 := pi_6 (CW.pi hC) k13
                      refine lv_aload_n B.1 B.2.1 dX11_gatherLagsOf_98 rfl (lv_at hl 5 rfl) ?_
                      refine y_getX B h kX4 (1000 + 16 * k.toNat + 4) fo1 2 (z := (T 6 k)) rfl m_523 (by decide) dX11_gatherLagsOf_99 ?_
                      have tb19 := pi_6 (CW.pi hC) k
                      refine x_icmp_ne B (by omega) (tgt := 157) dX11_gatherLagsOf_102 (by decide) (fun c20 => ?_) (fun c20 => ?_)
                      · refine lv_iinc (v := iI (v + 1)) (lv' := [(4, .int (iI (v + 1))), (5, .ref (G 4 k13)), (3, .ref (G 1 i)), (2, .int (iI i)), (0, .ref (ad 0)), (1, .ref (G 4 k))]) B.1 B.2.1 dX11_gatherLagsOf_157 hl (k := 1) rfl (iI_add _ _) (by decide) rfl (fun ls hl => ?_)
                        refine lv_goto (tgt := 56) B.1 B.2.1 dX11_gatherLagsOf_160 (by decide) ?_
                        exact ih56 ((v + 1)) (by omega) (by omega) _ _ _ h (lv_sub hl [0, 2, 3, 4, 5] rfl)
                      · refine lv_aload B.1 B.2.1 dX11_gatherLagsOf_105 (lv_at hl 0 rfl) ?_
                        refine y_getX B h kX4 (1000 + 16 * k13.toNat + 4) fo14 4 (z := (T 8 k13)) rfl m_532 (by decide) dX11_gatherLagsOf_107 ?_
                        have tb21 := pi_8 (CW.pi hC) k13
                        have tb22 := pi_n (CW.pi hC) k13
                        refine x_bipush B (by decide) dX11_gatherLagsOf_110 ?_
                        refine y_cS B h k_X11_within (c_X11_within l D Zk ca _ ((T 8 k13)) 99  (by omega) (by omega)) m_431 rfl (by decide) hl.1 [] (Nat.le_of_ble_eq_true rfl) rfl dX11_gatherLagsOf_112 (fun r w1 hq H locs h => ?_)
                        obtain ⟨rfl, _, rfl, ⟨rfl, b23⟩ | ⟨rfl, b23⟩⟩ := hq
                        · show W p l e r_c_X11_gatherLagsOf s m args below meth c _ _ 0 0 Qf (F0 m 115 ls [.int (iI 1)])
                          refine x_if_eq B (by omega) (tgt := 157) dX11_gatherLagsOf_115 (by decide) (fun c24 => ?_) (fun c24 => ?_)
                          · exact absurd c24 (by omega)
                          · refine lv_aload_n B.1 B.2.1 dX11_gatherLagsOf_118 rfl (lv_at hl 4 rfl) ?_
                            refine y_getR B h kX11 0 (CW.f hC 0 _ rfl) 13 (b := ad 33) rfl m_374 (by decide) dX11_gatherLagsOf_119 ?_
                            refine lv_iload B.1 B.2.1 dX11_gatherLagsOf_122 (lv_at hl 1 rfl) ?_
                            refine lv_dup2_11 B.1 B.2.1 dX11_gatherLagsOf_124 rfl rfl ?_
                            refine y_iald B h 33 (CW.f hC 33 _ rfl) (by omega) dX11_gatherLagsOf_125 (fun fz25 hfz25 => ?_)
                            refine x_name (fun z25 hz25 ez25 => ?_)
                            refine lv_aload_n B.1 B.2.1 dX11_gatherLagsOf_126 rfl (lv_at hl 5 rfl) ?_
                            refine y_getX B h kX4 (1000 + 16 * k.toNat + 4) fo1 4 (z := (T 8 k)) rfl m_532 (by decide) dX11_gatherLagsOf_127 ?_
                            have tb26 := pi_8 (CW.pi hC) k
                            have tb27 := pi_n (CW.pi hC) k
                            refine lv_aload_n B.1 B.2.1 dX11_gatherLagsOf_130 rfl (lv_at hl 4 rfl) ?_
                            refine y_getR B h kX11 0 (CW.f hC 0 _ rfl) 11 (b := ad 31) rfl m_372 (by decide) dX11_gatherLagsOf_131 ?_
                            refine lv_aload B.1 B.2.1 dX11_gatherLagsOf_134 (lv_at hl 0 rfl) ?_
                            refine y_getX B h kX4 (1000 + 16 * k13.toNat + 4) fo14 4 (z := (T 8 k13)) rfl m_532 (by decide) dX11_gatherLagsOf_136 ?_
                            refine y_ialdG B h 31 (CW.f hC 31 _ rfl) (by omega) dX11_gatherLagsOf_139 (fun z28 z28a z28b => ?_)
                            refine x_isub B dX11_gatherLagsOf_140 ?_
                            refine x_abs B (by omega) m_869 m_870 m_106 m_871 hl.1 (Nat.le_of_ble_eq_true rfl) (by decide) dX11_gatherLagsOf_141 ?_
                            refine x_iadd B dX11_gatherLagsOf_144 ?_
                            refine y_iastS B h 33 (CW.f hC 33 _ rfl) (by omega) (fun _ _ => trivial) dX11_gatherLagsOf_145 (fun H locs h => ?_)
                            refine lv_aload_n B.1 B.2.1 dX11_gatherLagsOf_146 rfl (lv_at hl 4 rfl) ?_
                            refine y_getR B h kX11 0 (CW.f hC 0 _ rfl) 14 (b := ad 34) rfl m_375 (by decide) dX11_gatherLagsOf_147 ?_
                            refine lv_iload B.1 B.2.1 dX11_gatherLagsOf_150 (lv_at hl 1 rfl) ?_
                            refine lv_dup2_11 B.1 B.2.1 dX11_gatherLagsOf_152 rfl rfl ?_
                            refine y_iald B h 34 (CW.f hC 34 _ rfl) (by omega) dX11_gatherLagsOf_153 (fun fz29 hfz29 => ?_)
                            refine x_name (fun z29 hz29 ez29 => ?_)
                            refine x_iconst B dX11_gatherLagsOf_154 ?_
                            refine x_iadd B dX11_gatherLagsOf_155 ?_
                            refine y_iastS B h 34 (CW.f hC 34 _ rfl) (by omega) (fun _ _ => trivial) dX11_gatherLagsOf_156 (fun H locs h => ?_)
                            refine lv_iinc (v := iI (v + 1)) (lv' := [(4, .int (iI (v + 1))), (5, .ref (G 4 k13)), (3, .ref (G 1 i)), (2, .int (iI i)), (0, .ref (ad 0)), (1, .ref (G 4 k))]) B.1 B.2.1 dX11_gatherLagsOf_157 hl (k := 1) rfl (iI_add _ _) (by decide) rfl (fun ls hl => ?_)
                            refine lv_goto (tgt := 56) B.1 B.2.1 dX11_gatherLagsOf_160 (by decide) ?_
                            exact ih56 ((v + 1)) (by omega) (by omega) _ _ _ h (lv_sub hl [0, 2, 3, 4, 5] rfl)
                        · show W p l e r_c_X11_gatherLagsOf s m args below meth c _ _ 0 0 Qf (F0 m 115 ls [.int (iI 0)])
                          refine x_if_eq B (by omega) (tgt := 157) dX11_gatherLagsOf_115 (by decide) (fun c30 => ?_) (fun c30 => ?_)
                          · refine lv_iinc (v := iI (v + 1)) (lv' := [(4, .int (iI (v + 1))), (5, .ref (G 4 k13)), (3, .ref (G 1 i)), (2, .int (iI i)), (0, .ref (ad 0)), (1, .ref (G 4 k))]) B.1 B.2.1 dX11_gatherLagsOf_157 hl (k := 1) rfl (iI_add _ _) (by decide) rfl (fun ls hl => ?_)
                            refine lv_goto (tgt := 56) B.1 B.2.1 dX11_gatherLagsOf_160 (by decide) ?_
                            exact ih56 ((v + 1)) (by omega) (by omega) _ _ _ h (lv_sub hl [0, 2, 3, 4, 5] rfl)
                          · exact absurd c30 (by omega)
          exact loop56 (((10 - 0 : Int)).toNat + 1) 0 (by omega) (Nat.lt_succ_self _) _ _ _ h (lv_sub hl [0, 1, 2, 3, 4] rfl)
  exact loop33 (((12 - 0 : Int)).toNat + 1) 0 (by omega) (Nat.lt_succ_self _) _ _ _ h (lv_sub hl [0, 1, 2] rfl)
abbrev r_c_X11_gatherLags : Room := { frames := 5, cells := 0, slots := 0, locals := 126 }
set_option maxHeartbeats 4000000 in
set_option maxRecDepth 100000 in
theorem c_X11_gatherLags (l : Launch) (D : va_G) (Zk : yK) (ca : Nat → ClassId) (T : Nat → Int → Int) (G : Nat → Int → Nat) (u : Int) (ad : Nat → Nat) (w : yW) (hC : CW ca T G u ad w)    : yC l D Zk ca yX11_gatherLags cX11_gatherLags 3 none r_c_X11_gatherLags [.ref (ad 0)] w (vV w) := by
  refine yC.of2 "WindWords" (by decide) rfl (Nat.le_of_ble_eq_true rfl) ?_
  intro p e s m args below meth c A ls Qf B hnm h hl hQ
  have hl : lv_has ls 3 [(0, .ref (ad 0))] := hl
  have hs := pi_s (CW.pi hC)
  refine x_iconst B dX11_gatherLags_0 ?_
  refine lv_istore_n (lv' := [(1, .int (iI 0)), (0, .ref (ad 0))]) B.1 B.2.1 dX11_gatherLags_1 rfl hl (by decide) rfl (fun ls hl => ?_)
  have loop2 : ∀ (n2 : Nat) (i : Int), (0 ≤ i ∧ i ≤ 10) → ((10 - i : Int)).toNat < n2 → ∀ (H : Heap) (locs : List Loc) (ls : Array Slot), yH D Zk A s w H locs → lv_has ls 3 [(1, .int (iI i)), (0, .ref (ad 0))] → W p l e r_c_X11_gatherLags s m args below meth c H locs 0 0 Qf (F0 m 2 ls []) := by
    intro n2
    induction n2 with
    | zero =>
      intro i h0 hm2 H locs ls h hl
      exact absurd hm2 (Nat.not_lt_zero _)
    | succ n2 ih2 =>
      intro i h0 hm2 H locs ls h hl
      refine lv_iload_n B.1 B.2.1 dX11_gatherLags_2 rfl (lv_at hl 0 rfl) ?_
      refine x_bipush B (by decide) dX11_gatherLags_3 ?_
      refine x_icmp_ge B (by omega) (tgt := 28) dX11_gatherLags_5 (by decide) (fun c1 => ?_) (fun c1 => ?_)
      · refine x_iconst B dX11_gatherLags_28 ?_
        refine lv_istore_n (lv' := [(1, .int (iI 0)), (0, .ref (ad 0))]) B.1 B.2.1 dX11_gatherLags_29 rfl hl (by decide) rfl (fun ls hl => ?_)
        have loop30 : ∀ (n30 : Nat) (i : Int), (0 ≤ i ∧ i ≤ 300) → ((300 - i : Int)).toNat < n30 → ∀ (H : Heap) (locs : List Loc) (ls : Array Slot), yH D Zk A s w H locs → lv_has ls 3 [(1, .int (iI i)), (0, .ref (ad 0))] → W p l e r_c_X11_gatherLags s m args below meth c H locs 0 0 Qf (F0 m 30 ls []) := by
          intro n30
          induction n30 with
          | zero =>
            intro i h0 hm30 H locs ls h hl
            exact absurd hm30 (Nat.not_lt_zero _)
          | succ n30 ih30 =>
            intro i h0 hm30 H locs ls h hl
            refine lv_iload_n B.1 B.2.1 dX11_gatherLags_30 rfl (lv_at hl 0 rfl) ?_
            refine lv_aload_n B.1 B.2.1 dX11_gatherLags_31 rfl (lv_at hl 1 rfl) ?_
            refine y_getR B h kX11 0 (CW.f hC 0 _ rfl) 0 (b := ad 1) rfl m_361 (by decide) dX11_gatherLags_32 ?_
            refine y_getX B h kX0 1 (CW.f hC 1 _ rfl) 5 (z := (T 0 2)) rfl m_149 (by decide) dX11_gatherLags_35 ?_
            refine x_icmp_ge B (by omega) (tgt := 73) dX11_gatherLags_38 (by decide) (fun c2 => ?_) (fun c2 => ?_)
            · refine y_rv B hQ h (by decide) dX11_gatherLags_73 ?_
              exact ⟨rfl, rfl⟩
            · refine lv_aload_n B.1 B.2.1 dX11_gatherLags_41 rfl (lv_at hl 1 rfl) ?_
              refine y_getR B h kX11 0 (CW.f hC 0 _ rfl) 0 (b := ad 1) rfl m_361 (by decide) dX11_gatherLags_42 ?_
              refine lv_iload_n B.1 B.2.1 dX11_gatherLags_45 rfl (lv_at hl 0 rfl) ?_
              refine y_cV B h kX0 1 (CW.f hC 1 _ rfl) k_X0_trustedMansAt rfl (c_X0_trustedMansAt l D Zk ca T G u ad _ hC i  (by omega)) m_1108 rfl (by decide) hl.1 [] (Nat.le_of_ble_eq_true rfl) rfl dX11_gatherLags_46 (fun r w1 hq H locs h => ?_)
              obtain ⟨rfl, _, rfl, ⟨rfl, q3⟩ | ⟨rfl, q3⟩⟩ := hq
              · show W p l e r_c_X11_gatherLags s m args below meth c _ _ 0 0 Qf (F0 m 49 ls [.null])
                refine lv_astore_nN (lv' := [(2, .null), (1, .int (iI i)), (0, .ref (ad 0))]) B.1 B.2.1 dX11_gatherLags_49 rfl hl (by decide) rfl (fun ls hl => ?_)
                refine lv_aload_nN B.1 B.2.1 dX11_gatherLags_50 rfl (lv_at hl 0 rfl) ?_
                refine lv_ifnullN (tgt := 67) B.1 B.2.1 dX11_gatherLags_51 (by decide) ?_
                refine lv_iinc (v := iI (i + 1)) (lv' := [(1, .int (iI (i + 1))), (2, .null), (0, .ref (ad 0))]) B.1 B.2.1 dX11_gatherLags_67 hl (k := 1) rfl (iI_add _ _) (by decide) rfl (fun ls hl => ?_)
                refine lv_goto (tgt := 30) B.1 B.2.1 dX11_gatherLags_70 (by decide) ?_
                exact ih30 ((i + 1)) (by omega) (by omega) _ _ _ h (lv_sub hl [0, 2] rfl)
              · have fo4 := CW.rd hC i (by omega)
                show W p l e r_c_X11_gatherLags s m args below meth c _ _ 0 0 Qf (F0 m 49 ls [.ref (G 4 i)])
                refine lv_astore_n (lv' := [(2, .ref (G 4 i)), (1, .int (iI i)), (0, .ref (ad 0))]) B.1 B.2.1 dX11_gatherLags_49 rfl hl (by decide) rfl (fun ls hl => ?_)
                refine lv_aload_n B.1 B.2.1 dX11_gatherLags_50 rfl (lv_at hl 0 rfl) ?_
                refine lv_ifnull B.1 B.2.1 dX11_gatherLags_51 ?_
                refine lv_aload_n B.1 B.2.1 dX11_gatherLags_54 rfl (lv_at hl 0 rfl) ?_
                refine y_getX B h kX4 (1000 + 16 * i.toNat + 4) fo4 3 (z := (T 7 i)) rfl m_527 (by decide) dX11_gatherLags_55 ?_
                have tb5 := pi_7 (CW.pi hC) i
                refine x_iconst B dX11_gatherLags_58 ?_
                refine x_icmp_ne B (by omega) (tgt := 67) dX11_gatherLags_59 (by decide) (fun c6 => ?_) (fun c6 => ?_)
                · refine lv_iinc (v := iI (i + 1)) (lv' := [(1, .int (iI (i + 1))), (2, .ref (G 4 i)), (0, .ref (ad 0))]) B.1 B.2.1 dX11_gatherLags_67 hl (k := 1) rfl (iI_add _ _) (by decide) rfl (fun ls hl => ?_)
                  refine lv_goto (tgt := 30) B.1 B.2.1 dX11_gatherLags_70 (by decide) ?_
                  exact ih30 ((i + 1)) (by omega) (by omega) _ _ _ h (lv_sub hl [0, 2] rfl)
                · refine lv_aload_n B.1 B.2.1 dX11_gatherLags_62 rfl (lv_at hl 2 rfl) ?_
                  refine lv_aload_n B.1 B.2.1 dX11_gatherLags_63 rfl (lv_at hl 0 rfl) ?_
                  refine y_cV B h kX11 0 (CW.f hC 0 _ rfl) k_X11_gatherLagsOf rfl (c_X11_gatherLagsOf l D Zk ca T G u ad _ hC i  (by omega)) m_1109 rfl (by decide) hl.1 [] (Nat.le_of_ble_eq_true rfl) rfl dX11_gatherLags_64 (fun r w1 hq H locs h => ?_)
                  obtain ⟨rfl, rfl⟩ := hq
                  show W p l e r_c_X11_gatherLags s m args below meth c _ _ 0 0 Qf (F0 m 67 ls [])
                  refine lv_iinc (v := iI (i + 1)) (lv' := [(1, .int (iI (i + 1))), (2, .ref (G 4 i)), (0, .ref (ad 0))]) B.1 B.2.1 dX11_gatherLags_67 hl (k := 1) rfl (iI_add _ _) (by decide) rfl (fun ls hl => ?_)
                  refine lv_goto (tgt := 30) B.1 B.2.1 dX11_gatherLags_70 (by decide) ?_
                  exact ih30 ((i + 1)) (by omega) (by omega) _ _ _ h (lv_sub hl [0, 2] rfl)
        exact loop30 (((300 - 0 : Int)).toNat + 1) 0 (by omega) (Nat.lt_succ_self _) _ _ _ h (lv_sub hl [0, 1] rfl)
      · refine lv_aload_n B.1 B.2.1 dX11_gatherLags_8 rfl (lv_at hl 1 rfl) ?_
        refine y_getR B h kX11 0 (CW.f hC 0 _ rfl) 13 (b := ad 33) rfl m_374 (by decide) dX11_gatherLags_9 ?_
        refine lv_iload_n B.1 B.2.1 dX11_gatherLags_12 rfl (lv_at hl 0 rfl) ?_
        refine x_iconst B dX11_gatherLags_13 ?_
        refine y_iastS B h 33 (CW.f hC 33 _ rfl) (by omega) (fun _ _ => trivial) dX11_gatherLags_14 (fun H locs h => ?_)
        refine lv_aload_n B.1 B.2.1 dX11_gatherLags_15 rfl (lv_at hl 1 rfl) ?_
        refine y_getR B h kX11 0 (CW.f hC 0 _ rfl) 14 (b := ad 34) rfl m_375 (by decide) dX11_gatherLags_16 ?_
        refine lv_iload_n B.1 B.2.1 dX11_gatherLags_19 rfl (lv_at hl 0 rfl) ?_
        refine x_iconst B dX11_gatherLags_20 ?_
        refine y_iastS B h 34 (CW.f hC 34 _ rfl) (by omega) (fun _ _ => trivial) dX11_gatherLags_21 (fun H locs h => ?_)
        refine lv_iinc (v := iI (i + 1)) (lv' := [(1, .int (iI (i + 1))), (0, .ref (ad 0))]) B.1 B.2.1 dX11_gatherLags_22 hl (k := 0) rfl (iI_add _ _) (by decide) rfl (fun ls hl => ?_)
        refine lv_goto (tgt := 2) B.1 B.2.1 dX11_gatherLags_25 (by decide) ?_
        exact ih2 ((i + 1)) (by omega) (by omega) _ _ _ h (lv_sub hl [0, 1] rfl)
  exact loop2 (((10 - 0 : Int)).toNat + 1) 0 (by omega) (Nat.lt_succ_self _) _ _ _ h (lv_sub hl [0, 1] rfl)
abbrev r_c_X11_bestLag : Room := { frames := 0, cells := 0, slots := 0, locals := 0 }
set_option maxHeartbeats 4000000 in
set_option maxRecDepth 100000 in
theorem c_X11_bestLag (l : Launch) (D : va_G) (Zk : yK) (ca : Nat → ClassId) (T : Nat → Int → Int) (G : Nat → Int → Nat) (u : Int) (ad : Nat → Nat) (w : yW) (hC : CW ca T G u ad w)    : yC l D Zk ca yX11_bestLag cX11_bestLag 3 (some .int) r_c_X11_bestLag [.ref (ad 0)] w (vI w (fun z => -1 ≤ z ∧ z ≤ 9)) := by
  refine yC.of2 "WindWords" (by decide) rfl (Nat.le_of_ble_eq_true rfl) ?_
  intro p e s m args below meth c A ls Qf B hnm h hl hQ
  have hl : lv_has ls 3 [(0, .ref (ad 0))] := hl
  have hs := pi_s (CW.pi hC)
  refine x_iconst B dX11_bestLag_0 ?_
  refine lv_istore_n (lv' := [(1, .int (iI (-1))), (0, .ref (ad 0))]) B.1 B.2.1 dX11_bestLag_1 rfl hl (by decide) rfl (fun ls hl => ?_)
  refine x_iconst B dX11_bestLag_2 ?_
  refine lv_istore_n (lv' := [(2, .int (iI 0)), (1, .int (iI (-1))), (0, .ref (ad 0))]) B.1 B.2.1 dX11_bestLag_3 rfl hl (by decide) rfl (fun ls hl => ?_)
  have loop4 : ∀ (n4 : Nat) (b : Int) (i : Int), (-1 ≤ b ∧ b ≤ 9) → (0 ≤ i ∧ i ≤ 10) → ((10 - i : Int)).toNat < n4 → ∀ (H : Heap) (locs : List Loc) (ls : Array Slot), yH D Zk A s w H locs → lv_has ls 3 [(2, .int (iI i)), (1, .int (iI b)), (0, .ref (ad 0))] → W p l e r_c_X11_bestLag s m args below meth c H locs 0 0 Qf (F0 m 4 ls []) := by
    intro n4
    induction n4 with
    | zero =>
      intro b i h0 h1 hm4 H locs ls h hl
      exact absurd hm4 (Nat.not_lt_zero _)
    | succ n4 ih4 =>
      intro b i h0 h1 hm4 H locs ls h hl
      refine lv_iload_n B.1 B.2.1 dX11_bestLag_4 rfl (lv_at hl 0 rfl) ?_
      refine x_bipush B (by decide) dX11_bestLag_5 ?_
      refine x_icmp_ge B (by omega) (tgt := 61) dX11_bestLag_7 (by decide) (fun c1 => ?_) (fun c1 => ?_)
      · refine lv_iload_n B.1 B.2.1 dX11_bestLag_61 rfl (lv_at hl 1 rfl) ?_
        refine y_ri B hQ h (by decide) dX11_bestLag_62 ?_
        exact ⟨rfl, _, rfl, (by first | omega | trivial | assumption)⟩
      · refine lv_aload_n B.1 B.2.1 dX11_bestLag_10 rfl (lv_at hl 2 rfl) ?_
        refine y_getR B h kX11 0 (CW.f hC 0 _ rfl) 14 (b := ad 34) rfl m_375 (by decide) dX11_bestLag_11 ?_
        refine lv_iload_n B.1 B.2.1 dX11_bestLag_14 rfl (lv_at hl 0 rfl) ?_
        refine y_iald B h 34 (CW.f hC 34 _ rfl) (by omega) dX11_bestLag_15 (fun fz2 hfz2 => ?_)
        refine x_name (fun z2 hz2 ez2 => ?_)
        refine x_if_le B (by omega) (tgt := 55) dX11_bestLag_16 (by decide) (fun c3 => ?_) (fun c3 => ?_)
        · refine lv_iinc (v := iI (i + 1)) (lv' := [(2, .int (iI (i + 1))), (1, .int (iI b)), (0, .ref (ad 0))]) B.1 B.2.1 dX11_bestLag_55 hl (k := 0) rfl (iI_add _ _) (by decide) rfl (fun ls hl => ?_)
          refine lv_goto (tgt := 4) B.1 B.2.1 dX11_bestLag_58 (by decide) ?_
          exact ih4 b ((i + 1)) (by omega) (by omega) (by omega) _ _ _ h (lv_sub hl [0, 1, 2] rfl)
        · refine lv_iload_n B.1 B.2.1 dX11_bestLag_19 rfl (lv_at hl 1 rfl) ?_
          refine x_iconst B dX11_bestLag_20 ?_
          refine x_icmp_eq B (by omega) (tgt := 53) dX11_bestLag_21 (by decide) (fun c4 => ?_) (fun c4 => ?_)
          · refine lv_iload_n B.1 B.2.1 dX11_bestLag_53 rfl (lv_at hl 0 rfl) ?_
            refine lv_istore_n (lv' := [(1, .int (iI i)), (2, .int (iI i)), (0, .ref (ad 0))]) B.1 B.2.1 dX11_bestLag_54 rfl hl (by decide) rfl (fun ls hl => ?_)
            refine lv_iinc (v := iI (i + 1)) (lv' := [(2, .int (iI (i + 1))), (1, .int (iI i)), (0, .ref (ad 0))]) B.1 B.2.1 dX11_bestLag_55 hl (k := 1) rfl (iI_add _ _) (by decide) rfl (fun ls hl => ?_)
            refine lv_goto (tgt := 4) B.1 B.2.1 dX11_bestLag_58 (by decide) ?_
            exact ih4 i ((i + 1)) (by omega) (by omega) (by omega) _ _ _ h (lv_sub hl [0, 1, 2] rfl)
          · refine lv_aload_n B.1 B.2.1 dX11_bestLag_24 rfl (lv_at hl 2 rfl) ?_
            refine y_getR B h kX11 0 (CW.f hC 0 _ rfl) 13 (b := ad 33) rfl m_374 (by decide) dX11_bestLag_25 ?_
            refine lv_iload_n B.1 B.2.1 dX11_bestLag_28 rfl (lv_at hl 0 rfl) ?_
            refine y_iald B h 33 (CW.f hC 33 _ rfl) (by omega) dX11_bestLag_29 (fun fz5 hfz5 => ?_)
            refine x_name (fun z5 hz5 ez5 => ?_)
            refine lv_aload_n B.1 B.2.1 dX11_bestLag_30 rfl (lv_at hl 2 rfl) ?_
            refine y_getR B h kX11 0 (CW.f hC 0 _ rfl) 14 (b := ad 34) rfl m_375 (by decide) dX11_bestLag_31 ?_
            refine lv_iload_n B.1 B.2.1 dX11_bestLag_34 rfl (lv_at hl 1 rfl) ?_
            refine y_iald B h 34 (CW.f hC 34 _ rfl) (by omega) dX11_bestLag_35 (fun fz6 hfz6 => ?_)
            refine x_name (fun z6 hz6 ez6 => ?_)
            refine x_imul B dX11_bestLag_36 ?_
            refine x_name (fun z7 hz7 ez7 => ?_)
            refine lv_aload_n B.1 B.2.1 dX11_bestLag_37 rfl (lv_at hl 2 rfl) ?_
            refine y_getR B h kX11 0 (CW.f hC 0 _ rfl) 13 (b := ad 33) rfl m_374 (by decide) dX11_bestLag_38 ?_
            refine lv_iload_n B.1 B.2.1 dX11_bestLag_41 rfl (lv_at hl 1 rfl) ?_
            refine y_iald B h 33 (CW.f hC 33 _ rfl) (by omega) dX11_bestLag_42 (fun fz8 hfz8 => ?_)
            refine x_name (fun z8 hz8 ez8 => ?_)
            refine lv_aload_n B.1 B.2.1 dX11_bestLag_43 rfl (lv_at hl 2 rfl) ?_
            refine y_getR B h kX11 0 (CW.f hC 0 _ rfl) 14 (b := ad 34) rfl m_375 (by decide) dX11_bestLag_44 ?_
            refine lv_iload_n B.1 B.2.1 dX11_bestLag_47 rfl (lv_at hl 0 rfl) ?_
            refine y_iald B h 34 (CW.f hC 34 _ rfl) (by omega) dX11_bestLag_48 (fun fz9 hfz9 => ?_)
            refine x_name (fun z9 hz9 ez9 => ?_)
            refine x_imul B dX11_bestLag_49 ?_
            refine x_name (fun z10 hz10 ez10 => ?_)
            refine x_icmp_ge B (by omega) (tgt := 55) dX11_bestLag_50 (by decide) (fun c11 => ?_) (fun c11 => ?_)
            · refine lv_iinc (v := iI (i + 1)) (lv' := [(2, .int (iI (i + 1))), (1, .int (iI b)), (0, .ref (ad 0))]) B.1 B.2.1 dX11_bestLag_55 hl (k := 0) rfl (iI_add _ _) (by decide) rfl (fun ls hl => ?_)
              refine lv_goto (tgt := 4) B.1 B.2.1 dX11_bestLag_58 (by decide) ?_
              exact ih4 b ((i + 1)) (by omega) (by omega) (by omega) _ _ _ h (lv_sub hl [0, 1, 2] rfl)
            · refine lv_iload_n B.1 B.2.1 dX11_bestLag_53 rfl (lv_at hl 0 rfl) ?_
              refine lv_istore_n (lv' := [(1, .int (iI i)), (2, .int (iI i)), (0, .ref (ad 0))]) B.1 B.2.1 dX11_bestLag_54 rfl hl (by decide) rfl (fun ls hl => ?_)
              refine lv_iinc (v := iI (i + 1)) (lv' := [(2, .int (iI (i + 1))), (1, .int (iI i)), (0, .ref (ad 0))]) B.1 B.2.1 dX11_bestLag_55 hl (k := 1) rfl (iI_add _ _) (by decide) rfl (fun ls hl => ?_)
              refine lv_goto (tgt := 4) B.1 B.2.1 dX11_bestLag_58 (by decide) ?_
              exact ih4 i ((i + 1)) (by omega) (by omega) (by omega) _ _ _ h (lv_sub hl [0, 1, 2] rfl)
  exact loop4 (((10 - 0 : Int)).toNat + 1) ((-1)) 0 (by omega) (by omega) (Nat.lt_succ_self _) _ _ _ h (lv_sub hl [0, 1, 2] rfl)
abbrev r_c_X11_follows : Room := { frames := 3, cells := 0, slots := 0, locals := 62 }
set_option maxHeartbeats 4000000 in
set_option maxRecDepth 100000 in
theorem c_X11_follows (l : Launch) (D : va_G) (Zk : yK) (ca : Nat → ClassId) (T : Nat → Int → Int) (G : Nat → Int → Nat) (u : Int) (ad : Nat → Nat) (w : yW) (hC : CW ca T G u ad w) (k : Int)  (hk : 0 ≤ k ∧ k < T 0 2) : yC l D Zk ca yX11_follows cX11_follows 2 (some .boolean) r_c_X11_follows [.ref (G 4 k)] w (vI w (fun z => (z = 1 ∧ (True)) ∨ (z = 0 ∧ (True)))) := by
  refine yC.of2 "WindWords" (by decide) rfl (Nat.le_of_ble_eq_true rfl) ?_
  intro p e s m args below meth c A ls Qf B hnm h hl hQ
  have hl : lv_has ls 2 [(0, .ref (G 4 k))] := hl
  have hs := pi_s (CW.pi hC)
  have fo1 := CW.rd hC k (by omega)
  refine lv_aload_n B.1 B.2.1 dX11_follows_0 rfl (lv_at hl 0 rfl) ?_
  refine y_getR B h kX4 (1000 + 16 * k.toNat + 4) fo1 0 (b := G 1 (T 4 k)) rfl m_515 (by decide) dX11_follows_1 ?_
  have tb2 := pi_4 (CW.pi hC) k
  have pn3 := pi_in (CW.pi hC) k (by omega)
  have fo4 := CW.sh hC (T 4 k) (by omega)
  refine lv_aload_n B.1 B.2.1 dX11_follows_4 rfl (lv_at hl 0 rfl) ?_
  refine y_getX B h kX4 (1000 + 16 * k.toNat + 4) fo1 1 (z := (T 5 k)) rfl m_519 (by decide) dX11_follows_5 ?_
  have tb5 := pi_5 (CW.pi hC) k
  refine x_iconst B dX11_follows_8 ?_
  refine x_isub B dX11_follows_9 ?_
  refine y_cV B h kX7 (1000 + 16 * ((T 4 k)).toNat + 1) fo4.1 k_X7_readingOn rfl (c_X7_readingOn l D Zk ca T G u ad _ hC (T 4 k) (((T 5 k) - 1))  (by omega) (by omega)) m_502 rfl (by decide) hl.1 [] (Nat.le_of_ble_eq_true rfl) rfl dX11_follows_10 (fun r w1 hq H locs h => ?_)
  obtain ⟨rfl, _, rfl, ⟨rfl, q6⟩ | ⟨k7, rfl, q6⟩⟩ := hq
  · show W p l e r_c_X11_follows s m args below meth c _ _ 0 0 Qf (F0 m 13 ls [.null])
    refine lv_astore_nN (lv' := [(1, .null), (0, .ref (G 4 k))]) B.1 B.2.1 dX11_follows_13 rfl hl (by decide) rfl (fun ls hl => ?_)
    refine lv_aload_nN B.1 B.2.1 dX11_follows_14 rfl (lv_at hl 0 rfl) ?_
    refine lv_ifnullN (tgt := 47) B.1 B.2.1 dX11_follows_15 (by decide) ?_
    refine x_iconst B dX11_follows_47 ?_
    refine y_rz B hQ h (by decide) (by decide) dX11_follows_48 ?_
    exact ⟨rfl, _, rfl, Or.inr ⟨rfl, (by first | omega | trivial | assumption)⟩⟩
  · have fo8 := CW.rd hC k7 (by omega)
    show W p l e r_c_X11_follows s m args below meth c _ _ 0 0 Qf (F0 m 13 ls [.ref (G 4 k7)])
    refine lv_astore_n (lv' := [(1, .ref (G 4 k7)), (0, .ref (G 4 k))]) B.1 B.2.1 dX11_follows_13 rfl hl (by decide) rfl (fun ls hl => ?_)
    refine lv_aload_n B.1 B.2.1 dX11_follows_14 rfl (lv_at hl 0 rfl) ?_
    refine lv_ifnull B.1 B.2.1 dX11_follows_15 ?_
    refine lv_aload_n B.1 B.2.1 dX11_follows_18 rfl (lv_at hl 1 rfl) ?_
    refine y_cV B h kX4 (1000 + 16 * k.toNat + 4) fo1 k_X4_isMans rfl (c_X4_isMans l D Zk ca T G u ad _ hC k  (by omega)) m_852 rfl (by decide) hl.1 [] (Nat.le_of_ble_eq_true rfl) rfl dX11_follows_19 (fun r w1 hq H locs h => ?_)
    obtain ⟨rfl, _, rfl, ⟨rfl, b9⟩ | ⟨rfl, b9⟩⟩ := hq
    · show W p l e r_c_X11_follows s m args below meth c _ _ 0 0 Qf (F0 m 22 ls [.int (iI 1)])
      refine x_if_eq B (by omega) (tgt := 47) dX11_follows_22 (by decide) (fun c10 => ?_) (fun c10 => ?_)
      · exact absurd c10 (by omega)
      · refine lv_aload_n B.1 B.2.1 dX11_follows_25 rfl (lv_at hl 0 rfl) ?_
        refine y_cV B h kX4 (1000 + 16 * k7.toNat + 4) fo8 k_X4_isMans rfl (c_X4_isMans l D Zk ca T G u ad _ hC k7  (by omega)) m_852 rfl (by decide) hl.1 [] (Nat.le_of_ble_eq_true rfl) rfl dX11_follows_26 (fun r w1 hq H locs h => ?_)
        obtain ⟨rfl, _, rfl, ⟨rfl, b11⟩ | ⟨rfl, b11⟩⟩ := hq
        · show W p l e r_c_X11_follows s m args below meth c _ _ 0 0 Qf (F0 m 29 ls [.int (iI 1)])
          refine x_if_eq B (by omega) (tgt := 47) dX11_follows_29 (by decide) (fun c12 => ?_) (fun c12 => ?_)
          · exact absurd c12 (by omega)
          · refine lv_aload_n B.1 B.2.1 dX11_follows_32 rfl (lv_at hl 1 rfl) ?_
            refine y_cV B h kX4 (1000 + 16 * k.toNat + 4) fo1 k_X4_writer rfl (c_X4_writer l D Zk ca T G u ad _ hC k  (by omega)) m_834 rfl (by decide) hl.1 [] (Nat.le_of_ble_eq_true rfl) rfl dX11_follows_33 (fun r w1 hq H locs h => ?_)
            obtain ⟨rfl, _, rfl, rfl⟩ := hq
            have tb13 := pi_3 (CW.pi hC) (1000 * T 4 k + T 5 k)
            show W p l e r_c_X11_follows s m args below meth c _ _ 0 0 Qf (F0 m 36 ls [.int (iI (T 3 (1000 * T 4 k + T 5 k)))])
            refine lv_aload_n B.1 B.2.1 dX11_follows_36 rfl (lv_at hl 0 rfl) ?_
            refine y_cV B h kX4 (1000 + 16 * k7.toNat + 4) fo8 k_X4_writer rfl (c_X4_writer l D Zk ca T G u ad _ hC k7  (by omega)) m_834 rfl (by decide) hl.1 [.int (iI (T 3 (1000 * T 4 k + T 5 k)))] (Nat.le_of_ble_eq_true rfl) rfl dX11_follows_37 (fun r w1 hq H locs h => ?_)
            obtain ⟨rfl, _, rfl, rfl⟩ := hq
            have tb14 := pi_3 (CW.pi hC) (1000 * T 4 k7 + T 5 k7)
            show W p l e r_c_X11_follows s m args below meth c _ _ 0 0 Qf (F0 m 40 ls [.int (iI (T 3 (1000 * T 4 k7 + T 5 k7))), .int (iI (T 3 (1000 * T 4 k + T 5 k)))])
            refine x_icmp_ne B (by omega) (tgt := 47) dX11_follows_40 (by decide) (fun c15 => ?_) (fun c15 => ?_)
            · refine x_iconst B dX11_follows_47 ?_
              refine y_rz B hQ h (by decide) (by decide) dX11_follows_48 ?_
              exact ⟨rfl, _, rfl, Or.inr ⟨rfl, (by first | omega | trivial | assumption)⟩⟩
            · refine x_iconst B dX11_follows_43 ?_
              refine lv_goto (tgt := 48) B.1 B.2.1 dX11_follows_44 (by decide) ?_
              refine y_rz B hQ h (by decide) (by decide) dX11_follows_48 ?_
              exact ⟨rfl, _, rfl, Or.inl ⟨rfl, (by first | omega | trivial | assumption)⟩⟩
        · show W p l e r_c_X11_follows s m args below meth c _ _ 0 0 Qf (F0 m 29 ls [.int (iI 0)])
          refine x_if_eq B (by omega) (tgt := 47) dX11_follows_29 (by decide) (fun c16 => ?_) (fun c16 => ?_)
          · refine x_iconst B dX11_follows_47 ?_
            refine y_rz B hQ h (by decide) (by decide) dX11_follows_48 ?_
            exact ⟨rfl, _, rfl, Or.inr ⟨rfl, (by first | omega | trivial | assumption)⟩⟩
          · exact absurd c16 (by omega)
    · show W p l e r_c_X11_follows s m args below meth c _ _ 0 0 Qf (F0 m 22 ls [.int (iI 0)])
      refine x_if_eq B (by omega) (tgt := 47) dX11_follows_22 (by decide) (fun c17 => ?_) (fun c17 => ?_)
      · refine x_iconst B dX11_follows_47 ?_
        refine y_rz B hQ h (by decide) (by decide) dX11_follows_48 ?_
        exact ⟨rfl, _, rfl, Or.inr ⟨rfl, (by first | omega | trivial | assumption)⟩⟩
      · exact absurd c17 (by omega)
abbrev r_c_X11_repeats : Room := { frames := 4, cells := 0, slots := 0, locals := 83 }
set_option maxHeartbeats 4000000 in
set_option maxRecDepth 100000 in
theorem c_X11_repeats (l : Launch) (D : va_G) (Zk : yK) (ca : Nat → ClassId) (T : Nat → Int → Int) (G : Nat → Int → Nat) (u : Int) (ad : Nat → Nat) (w : yW) (hC : CW ca T G u ad w) (k : Int)  (hk : 0 ≤ k ∧ k < T 0 2) : yC l D Zk ca yX11_repeats cX11_repeats 2 (some .boolean) r_c_X11_repeats [.ref (G 4 k)] w (vI w (fun z => (z = 1 ∧ (True)) ∨ (z = 0 ∧ (True)))) := by
  refine yC.of2 "WindWords" (by decide) rfl (Nat.le_of_ble_eq_true rfl) ?_
  intro p e s m args below meth c A ls Qf B hnm h hl hQ
  have hl : lv_has ls 2 [(0, .ref (G 4 k))] := hl
  have hs := pi_s (CW.pi hC)
  have fo1 := CW.rd hC k (by omega)
  refine lv_aload_n B.1 B.2.1 dX11_repeats_0 rfl (lv_at hl 0 rfl) ?_
  refine y_getR B h kX4 (1000 + 16 * k.toNat + 4) fo1 0 (b := G 1 (T 4 k)) rfl m_515 (by decide) dX11_repeats_1 ?_
  have tb2 := pi_4 (CW.pi hC) k
  have pn3 := pi_in (CW.pi hC) k (by omega)
  have fo4 := CW.sh hC (T 4 k) (by omega)
  refine lv_aload_n B.1 B.2.1 dX11_repeats_4 rfl (lv_at hl 0 rfl) ?_
  refine y_getX B h kX4 (1000 + 16 * k.toNat + 4) fo1 1 (z := (T 5 k)) rfl m_519 (by decide) dX11_repeats_5 ?_
  have tb5 := pi_5 (CW.pi hC) k
  refine x_iconst B dX11_repeats_8 ?_
  refine x_isub B dX11_repeats_9 ?_
  refine y_cV B h kX7 (1000 + 16 * ((T 4 k)).toNat + 1) fo4.1 k_X7_readingOn rfl (c_X7_readingOn l D Zk ca T G u ad _ hC (T 4 k) (((T 5 k) - 1))  (by omega) (by omega)) m_502 rfl (by decide) hl.1 [] (Nat.le_of_ble_eq_true rfl) rfl dX11_repeats_10 (fun r w1 hq H locs h => ?_)
  obtain ⟨rfl, _, rfl, ⟨rfl, q6⟩ | ⟨k7, rfl, q6⟩⟩ := hq
  · show W p l e r_c_X11_repeats s m args below meth c _ _ 0 0 Qf (F0 m 13 ls [.null])
    refine lv_astore_nN (lv' := [(1, .null), (0, .ref (G 4 k))]) B.1 B.2.1 dX11_repeats_13 rfl hl (by decide) rfl (fun ls hl => ?_)
    refine lv_aload_nN B.1 B.2.1 dX11_repeats_14 rfl (lv_at hl 0 rfl) ?_
    refine lv_ifnullN (tgt := 40) B.1 B.2.1 dX11_repeats_15 (by decide) ?_
    refine x_iconst B dX11_repeats_40 ?_
    refine y_rz B hQ h (by decide) (by decide) dX11_repeats_41 ?_
    exact ⟨rfl, _, rfl, Or.inr ⟨rfl, (by first | omega | trivial | assumption)⟩⟩
  · have fo8 := CW.rd hC k7 (by omega)
    show W p l e r_c_X11_repeats s m args below meth c _ _ 0 0 Qf (F0 m 13 ls [.ref (G 4 k7)])
    refine lv_astore_n (lv' := [(1, .ref (G 4 k7)), (0, .ref (G 4 k))]) B.1 B.2.1 dX11_repeats_13 rfl hl (by decide) rfl (fun ls hl => ?_)
    refine lv_aload_n B.1 B.2.1 dX11_repeats_14 rfl (lv_at hl 0 rfl) ?_
    refine lv_ifnull B.1 B.2.1 dX11_repeats_15 ?_
    refine lv_aload_n B.1 B.2.1 dX11_repeats_18 rfl (lv_at hl 1 rfl) ?_
    refine y_cS B h k_X11_follows (c_X11_follows l D Zk ca T G u ad _ hC k  (by omega)) m_849 rfl (by decide) hl.1 [] (Nat.le_of_ble_eq_true rfl) rfl dX11_repeats_19 (fun r w1 hq H locs h => ?_)
    obtain ⟨rfl, _, rfl, ⟨rfl, b9⟩ | ⟨rfl, b9⟩⟩ := hq
    · show W p l e r_c_X11_repeats s m args below meth c _ _ 0 0 Qf (F0 m 22 ls [.int (iI 1)])
      refine x_if_eq B (by omega) (tgt := 40) dX11_repeats_22 (by decide) (fun c10 => ?_) (fun c10 => ?_)
      · exact absurd c10 (by omega)
      · refine lv_aload_n B.1 B.2.1 dX11_repeats_25 rfl (lv_at hl 1 rfl) ?_
        refine y_getX B h kX4 (1000 + 16 * k.toNat + 4) fo1 4 (z := (T 8 k)) rfl m_532 (by decide) dX11_repeats_26 ?_
        have tb11 := pi_8 (CW.pi hC) k
        have tb12 := pi_n (CW.pi hC) k
        refine lv_aload_n B.1 B.2.1 dX11_repeats_29 rfl (lv_at hl 0 rfl) ?_
        refine y_getX B h kX4 (1000 + 16 * k7.toNat + 4) fo8 4 (z := (T 8 k7)) rfl m_532 (by decide) dX11_repeats_30 ?_
        have tb13 := pi_8 (CW.pi hC) k7
        have tb14 := pi_n (CW.pi hC) k7
        refine x_icmp_ne B (by omega) (tgt := 40) dX11_repeats_33 (by decide) (fun c15 => ?_) (fun c15 => ?_)
        · refine x_iconst B dX11_repeats_40 ?_
          refine y_rz B hQ h (by decide) (by decide) dX11_repeats_41 ?_
          exact ⟨rfl, _, rfl, Or.inr ⟨rfl, (by first | omega | trivial | assumption)⟩⟩
        · refine x_iconst B dX11_repeats_36 ?_
          refine lv_goto (tgt := 41) B.1 B.2.1 dX11_repeats_37 (by decide) ?_
          refine y_rz B hQ h (by decide) (by decide) dX11_repeats_41 ?_
          exact ⟨rfl, _, rfl, Or.inl ⟨rfl, (by first | omega | trivial | assumption)⟩⟩
    · show W p l e r_c_X11_repeats s m args below meth c _ _ 0 0 Qf (F0 m 22 ls [.int (iI 0)])
      refine x_if_eq B (by omega) (tgt := 40) dX11_repeats_22 (by decide) (fun c16 => ?_) (fun c16 => ?_)
      · refine x_iconst B dX11_repeats_40 ?_
        refine y_rz B hQ h (by decide) (by decide) dX11_repeats_41 ?_
        exact ⟨rfl, _, rfl, Or.inr ⟨rfl, (by first | omega | trivial | assumption)⟩⟩
      · exact absurd c16 (by omega)
abbrev r_c_X11_isCopied : Room := { frames := 5, cells := 0, slots := 0, locals := 104 }
set_option maxHeartbeats 4000000 in
set_option maxRecDepth 100000 in
theorem c_X11_isCopied (l : Launch) (D : va_G) (Zk : yK) (ca : Nat → ClassId) (T : Nat → Int → Int) (G : Nat → Int → Nat) (u : Int) (ad : Nat → Nat) (w : yW) (hC : CW ca T G u ad w) (k : Int)  (hk : 0 ≤ k ∧ k < T 0 2) : yC l D Zk ca yX11_isCopied cX11_isCopied 6 (some .boolean) r_c_X11_isCopied [.ref (ad 0), .ref (G 4 k)] w (vI w (fun z => (z = 1 ∧ (True)) ∨ (z = 0 ∧ (True)))) := by
  refine yC.of2 "WindWords" (by decide) rfl (Nat.le_of_ble_eq_true rfl) ?_
  intro p e s m args below meth c A ls Qf B hnm h hl hQ
  have hl : lv_has ls 6 [(0, .ref (ad 0)), (1, .ref (G 4 k))] := hl
  have hs := pi_s (CW.pi hC)
  have fo1 := CW.rd hC k (by omega)
  refine lv_aload_n B.1 B.2.1 dX11_isCopied_0 rfl (lv_at hl 1 rfl) ?_
  refine y_getR B h kX4 (1000 + 16 * k.toNat + 4) fo1 0 (b := G 1 (T 4 k)) rfl m_515 (by decide) dX11_isCopied_1 ?_
  have tb2 := pi_4 (CW.pi hC) k
  have pn3 := pi_in (CW.pi hC) k (by omega)
  have fo4 := CW.sh hC (T 4 k) (by omega)
  refine lv_aload_n B.1 B.2.1 dX11_isCopied_4 rfl (lv_at hl 1 rfl) ?_
  refine y_getX B h kX4 (1000 + 16 * k.toNat + 4) fo1 1 (z := (T 5 k)) rfl m_519 (by decide) dX11_isCopied_5 ?_
  have tb5 := pi_5 (CW.pi hC) k
  refine x_iconst B dX11_isCopied_8 ?_
  refine x_isub B dX11_isCopied_9 ?_
  refine y_cV B h kX7 (1000 + 16 * ((T 4 k)).toNat + 1) fo4.1 k_X7_readingOn rfl (c_X7_readingOn l D Zk ca T G u ad _ hC (T 4 k) (((T 5 k) - 1))  (by omega) (by omega)) m_502 rfl (by decide) hl.1 [] (Nat.le_of_ble_eq_true rfl) rfl dX11_isCopied_10 (fun r w1 hq H locs h => ?_)
  obtain ⟨rfl, _, rfl, ⟨rfl, q6⟩ | ⟨k7, rfl, q6⟩⟩ := hq
  · show W p l e r_c_X11_isCopied s m args below meth c _ _ 0 0 Qf (F0 m 13 ls [.null])
    refine lv_astore_nN (lv' := [(2, .null), (0, .ref (ad 0)), (1, .ref (G 4 k))]) B.1 B.2.1 dX11_isCopied_13 rfl hl (by decide) rfl (fun ls hl => ?_)
    refine lv_aload_nN B.1 B.2.1 dX11_isCopied_14 rfl (lv_at hl 0 rfl) ?_
    refine lv_ifnullN (tgt := 25) B.1 B.2.1 dX11_isCopied_15 (by decide) ?_
    refine x_iconst B dX11_isCopied_25 ?_
    refine y_rz B hQ h (by decide) (by decide) dX11_isCopied_26 ?_
    exact ⟨rfl, _, rfl, Or.inr ⟨rfl, (by first | omega | trivial | assumption)⟩⟩
  · have fo8 := CW.rd hC k7 (by omega)
    show W p l e r_c_X11_isCopied s m args below meth c _ _ 0 0 Qf (F0 m 13 ls [.ref (G 4 k7)])
    refine lv_astore_n (lv' := [(2, .ref (G 4 k7)), (0, .ref (ad 0)), (1, .ref (G 4 k))]) B.1 B.2.1 dX11_isCopied_13 rfl hl (by decide) rfl (fun ls hl => ?_)
    refine lv_aload_n B.1 B.2.1 dX11_isCopied_14 rfl (lv_at hl 0 rfl) ?_
    refine lv_ifnull B.1 B.2.1 dX11_isCopied_15 ?_
    refine lv_aload_n B.1 B.2.1 dX11_isCopied_18 rfl (lv_at hl 2 rfl) ?_
    refine y_cS B h k_X11_repeats (c_X11_repeats l D Zk ca T G u ad _ hC k  (by omega)) m_846 rfl (by decide) hl.1 [] (Nat.le_of_ble_eq_true rfl) rfl dX11_isCopied_19 (fun r w1 hq H locs h => ?_)
    obtain ⟨rfl, _, rfl, ⟨rfl, b9⟩ | ⟨rfl, b9⟩⟩ := hq
    · show W p l e r_c_X11_isCopied s m args below meth c _ _ 0 0 Qf (F0 m 22 ls [.int (iI 1)])
      refine x_if_ne B (by omega) (tgt := 27) dX11_isCopied_22 (by decide) (fun c10 => ?_) (fun c10 => ?_)
      · refine x_iconst B dX11_isCopied_27 ?_
        refine lv_istore_n (lv' := [(3, .int (iI 0)), (2, .ref (G 4 k7)), (0, .ref (ad 0)), (1, .ref (G 4 k))]) B.1 B.2.1 dX11_isCopied_28 rfl hl (by decide) rfl (fun ls hl => ?_)
        have loop29 : ∀ (n29 : Nat) (i : Int), (0 ≤ i ∧ i ≤ 12) → ((12 - i : Int)).toNat < n29 → ∀ (H : Heap) (locs : List Loc) (ls : Array Slot), yH D Zk A s w H locs → lv_has ls 6 [(3, .int (iI i)), (2, .ref (G 4 k7)), (0, .ref (ad 0)), (1, .ref (G 4 k))] → W p l e r_c_X11_isCopied s m args below meth c H locs 0 0 Qf (F0 m 29 ls []) := by
          intro n29
          induction n29 with
          | zero =>
            intro i h0 hm29 H locs ls h hl
            exact absurd hm29 (Nat.not_lt_zero _)
          | succ n29 ih29 =>
            intro i h0 hm29 H locs ls h hl
            refine lv_iload_n B.1 B.2.1 dX11_isCopied_29 rfl (lv_at hl 0 rfl) ?_
            refine lv_aload_n B.1 B.2.1 dX11_isCopied_30 rfl (lv_at hl 2 rfl) ?_
            refine y_getR B h kX11 0 (CW.f hC 0 _ rfl) 0 (b := ad 1) rfl m_361 (by decide) dX11_isCopied_31 ?_
            refine y_getX B h kX0 1 (CW.f hC 1 _ rfl) 4 (z := (T 0 1)) rfl m_143 (by decide) dX11_isCopied_34 ?_
            refine x_icmp_ge B (by omega) (tgt := 98) dX11_isCopied_37 (by decide) (fun c11 => ?_) (fun c11 => ?_)
            · refine x_iconst B dX11_isCopied_98 ?_
              refine y_rz B hQ h (by decide) (by decide) dX11_isCopied_99 ?_
              exact ⟨rfl, _, rfl, Or.inr ⟨rfl, (by first | omega | trivial | assumption)⟩⟩
            · refine lv_aload_n B.1 B.2.1 dX11_isCopied_40 rfl (lv_at hl 2 rfl) ?_
              refine y_getR B h kX11 0 (CW.f hC 0 _ rfl) 0 (b := ad 1) rfl m_361 (by decide) dX11_isCopied_41 ?_
              refine lv_aload_n B.1 B.2.1 dX11_isCopied_44 rfl (lv_at hl 1 rfl) ?_
              refine lv_iload_n B.1 B.2.1 dX11_isCopied_45 rfl (lv_at hl 0 rfl) ?_
              refine y_cV B h kX0 1 (CW.f hC 1 _ rfl) k_X0_mansBeside rfl (c_X0_mansBeside l D Zk ca T G u ad _ hC k7 i  (by omega) (by omega)) m_856 rfl (by decide) hl.1 [] (Nat.le_of_ble_eq_true rfl) rfl dX11_isCopied_46 (fun r w1 hq H locs h => ?_)
              obtain ⟨rfl, _, rfl, ⟨rfl, q12⟩ | ⟨k13, rfl, q12⟩⟩ := hq
              · show W p l e r_c_X11_isCopied s m args below meth c _ _ 0 0 Qf (F0 m 49 ls [.null])
                refine lv_astoreN (lv' := [(4, .null), (3, .int (iI i)), (2, .ref (G 4 k7)), (0, .ref (ad 0)), (1, .ref (G 4 k))]) B.1 B.2.1 dX11_isCopied_49 hl (by decide) rfl (fun ls hl => ?_)
                refine lv_aload_n B.1 B.2.1 dX11_isCopied_51 rfl (lv_at hl 3 rfl) ?_
                refine y_getR B h kX11 0 (CW.f hC 0 _ rfl) 0 (b := ad 1) rfl m_361 (by decide) dX11_isCopied_52 ?_
                refine lv_aload_n B.1 B.2.1 dX11_isCopied_55 rfl (lv_at hl 4 rfl) ?_
                refine lv_iload_n B.1 B.2.1 dX11_isCopied_56 rfl (lv_at hl 1 rfl) ?_
                refine y_cV B h kX0 1 (CW.f hC 1 _ rfl) k_X0_mansBeside rfl (c_X0_mansBeside l D Zk ca T G u ad _ hC k i  (by omega) (by omega)) m_856 rfl (by decide) hl.1 [] (Nat.le_of_ble_eq_true rfl) rfl dX11_isCopied_57 (fun r w1 hq H locs h => ?_)
                obtain ⟨rfl, _, rfl, ⟨rfl, q14⟩ | ⟨k15, rfl, q14⟩⟩ := hq
                · show W p l e r_c_X11_isCopied s m args below meth c _ _ 0 0 Qf (F0 m 60 ls [.null])
                  refine lv_astoreN (lv' := [(5, .null), (4, .null), (3, .int (iI i)), (2, .ref (G 4 k7)), (0, .ref (ad 0)), (1, .ref (G 4 k))]) B.1 B.2.1 dX11_isCopied_60 hl (by decide) rfl (fun ls hl => ?_)
                  refine lv_aloadN B.1 B.2.1 dX11_isCopied_62 (lv_at hl 1 rfl) ?_
                  refine lv_ifnullN (tgt := 92) B.1 B.2.1 dX11_isCopied_64 (by decide) ?_
                  refine lv_iinc (v := iI (i + 1)) (lv' := [(3, .int (iI (i + 1))), (5, .null), (4, .null), (2, .ref (G 4 k7)), (0, .ref (ad 0)), (1, .ref (G 4 k))]) B.1 B.2.1 dX11_isCopied_92 hl (k := 2) rfl (iI_add _ _) (by decide) rfl (fun ls hl => ?_)
                  refine lv_goto (tgt := 29) B.1 B.2.1 dX11_isCopied_95 (by decide) ?_
                  exact ih29 ((i + 1)) (by omega) (by omega) _ _ _ h (lv_sub hl [0, 3, 4, 5] rfl)
                · have fo16 := CW.rd hC k15 (by omega)
                  show W p l e r_c_X11_isCopied s m args below meth c _ _ 0 0 Qf (F0 m 60 ls [.ref (G 4 k15)])
                  refine lv_astore (lv' := [(5, .ref (G 4 k15)), (4, .null), (3, .int (iI i)), (2, .ref (G 4 k7)), (0, .ref (ad 0)), (1, .ref (G 4 k))]) B.1 B.2.1 dX11_isCopied_60 hl (by decide) rfl (fun ls hl => ?_)
                  refine lv_aloadN B.1 B.2.1 dX11_isCopied_62 (lv_at hl 1 rfl) ?_
                  refine lv_ifnullN (tgt := 92) B.1 B.2.1 dX11_isCopied_64 (by decide) ?_
                  refine lv_iinc (v := iI (i + 1)) (lv' := [(3, .int (iI (i + 1))), (5, .ref (G 4 k15)), (4, .null), (2, .ref (G 4 k7)), (0, .ref (ad 0)), (1, .ref (G 4 k))]) B.1 B.2.1 dX11_isCopied_92 hl (k := 2) rfl (iI_add _ _) (by decide) rfl (fun ls hl => ?_)
                  refine lv_goto (tgt := 29) B.1 B.2.1 dX11_isCopied_95 (by decide) ?_
                  exact ih29 ((i + 1)) (by omega) (by omega) _ _ _ h (lv_sub hl [0, 3, 4, 5] rfl)
              · have fo17 := CW.rd hC k13 (by omega)
                show W p l e r_c_X11_isCopied s m args below meth c _ _ 0 0 Qf (F0 m 49 ls [.ref (G 4 k13)])
                refine lv_astore (lv' := [(4, .ref (G 4 k13)), (3, .int (iI i)), (2, .ref (G 4 k7)), (0, .ref (ad 0)), (1, .ref (G 4 k))]) B.1 B.2.1 dX11_isCopied_49 hl (by decide) rfl (fun ls hl => ?_)
                refine lv_aload_n B.1 B.2.1 dX11_isCopied_51 rfl (lv_at hl 3 rfl) ?_
                refine y_getR B h kX11 0 (CW.f hC 0 _ rfl) 0 (b := ad 1) rfl m_361 (by decide) dX11_isCopied_52 ?_
                refine lv_aload_n B.1 B.2.1 dX11_isCopied_55 rfl (lv_at hl 4 rfl) ?_
                refine lv_iload_n B.1 B.2.1 dX11_isCopied_56 rfl (lv_at hl 1 rfl) ?_
                refine y_cV B h kX0 1 (CW.f hC 1 _ rfl) k_X0_mansBeside rfl (c_X0_mansBeside l D Zk ca T G u ad _ hC k i  (by omega) (by omega)) m_856 rfl (by decide) hl.1 [] (Nat.le_of_ble_eq_true rfl) rfl dX11_isCopied_57 (fun r w1 hq H locs h => ?_)
                obtain ⟨rfl, _, rfl, ⟨rfl, q18⟩ | ⟨k19, rfl, q18⟩⟩ := hq
                · show W p l e r_c_X11_isCopied s m args below meth c _ _ 0 0 Qf (F0 m 60 ls [.null])
                  refine lv_astoreN (lv' := [(5, .null), (4, .ref (G 4 k13)), (3, .int (iI i)), (2, .ref (G 4 k7)), (0, .ref (ad 0)), (1, .ref (G 4 k))]) B.1 B.2.1 dX11_isCopied_60 hl (by decide) rfl (fun ls hl => ?_)
                  refine lv_aload B.1 B.2.1 dX11_isCopied_62 (lv_at hl 1 rfl) ?_
                  refine lv_ifnull B.1 B.2.1 dX11_isCopied_64 ?_
                  refine lv_aloadN B.1 B.2.1 dX11_isCopied_67 (lv_at hl 0 rfl) ?_
                  refine lv_ifnullN (tgt := 92) B.1 B.2.1 dX11_isCopied_69 (by decide) ?_
                  refine lv_iinc (v := iI (i + 1)) (lv' := [(3, .int (iI (i + 1))), (5, .null), (4, .ref (G 4 k13)), (2, .ref (G 4 k7)), (0, .ref (ad 0)), (1, .ref (G 4 k))]) B.1 B.2.1 dX11_isCopied_92 hl (k := 2) rfl (iI_add _ _) (by decide) rfl (fun ls hl => ?_)
                  refine lv_goto (tgt := 29) B.1 B.2.1 dX11_isCopied_95 (by decide) ?_
                  exact ih29 ((i + 1)) (by omega) (by omega) _ _ _ h (lv_sub hl [0, 3, 4, 5] rfl)
                · have fo20 := CW.rd hC k19 (by omega)
                  show W p l e r_c_X11_isCopied s m args below meth c _ _ 0 0 Qf (F0 m 60 ls [.ref (G 4 k19)])
                  refine lv_astore (lv' := [(5, .ref (G 4 k19)), (4, .ref (G 4 k13)), (3, .int (iI i)), (2, .ref (G 4 k7)), (0, .ref (ad 0)), (1, .ref (G 4 k))]) B.1 B.2.1 dX11_isCopied_60 hl (by decide) rfl (fun ls hl => ?_)
                  refine lv_aload B.1 B.2.1 dX11_isCopied_62 (lv_at hl 1 rfl) ?_
                  refine lv_ifnull B.1 B.2.1 dX11_isCopied_64 ?_
                  refine lv_aload B.1 B.2.1 dX11_isCopied_67 (lv_at hl 0 rfl) ?_
                  refine lv_ifnull B.1 B.2.1 dX11_isCopied_69 ?_
                  refine lv_aload B.1 B.2.1 dX11_isCopied_72 (lv_at hl 0 rfl) ?_
                  refine y_getX B h kX4 (1000 + 16 * k19.toNat + 4) fo20 4 (z := (T 8 k19)) rfl m_532 (by decide) dX11_isCopied_74 ?_
                  have tb21 := pi_8 (CW.pi hC) k19
                  have tb22 := pi_n (CW.pi hC) k19
                  refine lv_aload B.1 B.2.1 dX11_isCopied_77 (lv_at hl 1 rfl) ?_
                  refine y_getX B h kX4 (1000 + 16 * k13.toNat + 4) fo17 4 (z := (T 8 k13)) rfl m_532 (by decide) dX11_isCopied_79 ?_
                  have tb23 := pi_8 (CW.pi hC) k13
                  have tb24 := pi_n (CW.pi hC) k13
                  refine x_isub B dX11_isCopied_82 ?_
                  refine x_abs B (by omega) m_869 m_870 m_106 m_871 hl.1 (Nat.le_of_ble_eq_true rfl) (by decide) dX11_isCopied_83 ?_
                  refine x_iconst B dX11_isCopied_86 ?_
                  refine x_icmp_lt B (by omega) (tgt := 92) dX11_isCopied_87 (by decide) (fun c25 => ?_) (fun c25 => ?_)
                  · refine lv_iinc (v := iI (i + 1)) (lv' := [(3, .int (iI (i + 1))), (5, .ref (G 4 k19)), (4, .ref (G 4 k13)), (2, .ref (G 4 k7)), (0, .ref (ad 0)), (1, .ref (G 4 k))]) B.1 B.2.1 dX11_isCopied_92 hl (k := 2) rfl (iI_add _ _) (by decide) rfl (fun ls hl => ?_)
                    refine lv_goto (tgt := 29) B.1 B.2.1 dX11_isCopied_95 (by decide) ?_
                    exact ih29 ((i + 1)) (by omega) (by omega) _ _ _ h (lv_sub hl [0, 3, 4, 5] rfl)
                  · refine x_iconst B dX11_isCopied_90 ?_
                    refine y_rz B hQ h (by decide) (by decide) dX11_isCopied_91 ?_
                    exact ⟨rfl, _, rfl, Or.inl ⟨rfl, (by first | omega | trivial | assumption)⟩⟩
        exact loop29 (((12 - 0 : Int)).toNat + 1) 0 (by omega) (Nat.lt_succ_self _) _ _ _ h (lv_sub hl [0, 1, 2, 3] rfl)
      · exact absurd c10 (by omega)
    · show W p l e r_c_X11_isCopied s m args below meth c _ _ 0 0 Qf (F0 m 22 ls [.int (iI 0)])
      refine x_if_ne B (by omega) (tgt := 27) dX11_isCopied_22 (by decide) (fun c26 => ?_) (fun c26 => ?_)
      · exact absurd c26 (by omega)
      · refine x_iconst B dX11_isCopied_25 ?_
        refine y_rz B hQ h (by decide) (by decide) dX11_isCopied_26 ?_
        exact ⟨rfl, _, rfl, Or.inr ⟨rfl, (by first | omega | trivial | assumption)⟩⟩
abbrev r_c_X11_firstBeside : Room := { frames := 4, cells := 0, slots := 0, locals := 89 }
set_option maxHeartbeats 4000000 in
set_option maxRecDepth 100000 in
theorem c_X11_firstBeside (l : Launch) (D : va_G) (Zk : yK) (ca : Nat → ClassId) (T : Nat → Int → Int) (G : Nat → Int → Nat) (u : Int) (ad : Nat → Nat) (w : yW) (hC : CW ca T G u ad w) (k : Int)  (hk : 0 ≤ k ∧ k < T 0 2) : yC l D Zk ca yX11_firstBeside cX11_firstBeside 5 (some (.object "WindWords$Reading")) r_c_X11_firstBeside [.ref (ad 0), .ref (G 4 k)] w (vQ w (fun q => (q = none ∧ True) ∨ ∃ j : Int, q = some (G 4 j) ∧ 0 ≤ j ∧ j < T 0 2)) := by
  refine yC.of2 "WindWords" (by decide) rfl (Nat.le_of_ble_eq_true rfl) ?_
  intro p e s m args below meth c A ls Qf B hnm h hl hQ
  have hl : lv_has ls 5 [(0, .ref (ad 0)), (1, .ref (G 4 k))] := hl
  have hs := pi_s (CW.pi hC)
  have fo1 := CW.rd hC k (by omega)
  refine lv_null B.1 B.2.1 dX11_firstBeside_0 ?_
  refine lv_astore_nN (lv' := [(2, .null), (0, .ref (ad 0)), (1, .ref (G 4 k))]) B.1 B.2.1 dX11_firstBeside_1 rfl hl (by decide) rfl (fun ls hl => ?_)
  refine x_iconst B dX11_firstBeside_2 ?_
  refine lv_istore_n (lv' := [(3, .int (iI 0)), (2, .null), (0, .ref (ad 0)), (1, .ref (G 4 k))]) B.1 B.2.1 dX11_firstBeside_3 rfl hl (by decide) rfl (fun ls hl => ?_)
  have hl : lv_has ls 5 [(3, .int (iI 0)), (2, va_rf (if ((-1)) < 0 then none else some (G 4 ((-1))))), (0, .ref (ad 0)), (1, .ref (G 4 k))] := hl
  have loop4 : ∀ (n4 : Nat) (i : Int) (f : Int), (0 ≤ i ∧ i ≤ 12) → (f < 0 ∨ (0 ≤ f ∧ f < T 0 2)) → ((12 - i : Int)).toNat < n4 → ∀ (H : Heap) (locs : List Loc) (ls : Array Slot), yH D Zk A s w H locs → lv_has ls 5 [(3, .int (iI i)), (2, va_rf (if f < 0 then none else some (G 4 f))), (0, .ref (ad 0)), (1, .ref (G 4 k))] → W p l e r_c_X11_firstBeside s m args below meth c H locs 0 0 Qf (F0 m 4 ls []) := by
    intro n4
    induction n4 with
    | zero =>
      intro i f h0 h1 hm4 H locs ls h hl
      exact absurd hm4 (Nat.not_lt_zero _)
    | succ n4 ih4 =>
      intro i f h0 h1 hm4 H locs ls h hl
      by_cases hqf : f < 0
      · have hl : lv_has ls 5 [(3, .int (iI i)), (2, .null), (0, .ref (ad 0)), (1, .ref (G 4 k))] := by rw [if_pos hqf] at hl; exact hl
        refine lv_iload_n B.1 B.2.1 dX11_firstBeside_4 rfl (lv_at hl 0 rfl) ?_
        refine lv_aload_n B.1 B.2.1 dX11_firstBeside_5 rfl (lv_at hl 2 rfl) ?_
        refine y_getR B h kX11 0 (CW.f hC 0 _ rfl) 0 (b := ad 1) rfl m_361 (by decide) dX11_firstBeside_6 ?_
        refine y_getX B h kX0 1 (CW.f hC 1 _ rfl) 4 (z := (T 0 1)) rfl m_143 (by decide) dX11_firstBeside_9 ?_
        refine x_icmp_ge B (by omega) (tgt := 56) dX11_firstBeside_12 (by decide) (fun c2 => ?_) (fun c2 => ?_)
        · refine lv_aload_nN B.1 B.2.1 dX11_firstBeside_56 rfl (lv_at hl 1 rfl) ?_
          refine y_ra (r := none) B hQ h (by decide) dX11_firstBeside_57 ?_
          exact ⟨rfl, _, rfl, Or.inl ⟨rfl, trivial⟩⟩
        · refine lv_aload_n B.1 B.2.1 dX11_firstBeside_15 rfl (lv_at hl 2 rfl) ?_
          refine y_getR B h kX11 0 (CW.f hC 0 _ rfl) 0 (b := ad 1) rfl m_361 (by decide) dX11_firstBeside_16 ?_
          refine lv_aload_n B.1 B.2.1 dX11_firstBeside_19 rfl (lv_at hl 3 rfl) ?_
          refine lv_iload_n B.1 B.2.1 dX11_firstBeside_20 rfl (lv_at hl 0 rfl) ?_
          refine y_cV B h kX0 1 (CW.f hC 1 _ rfl) k_X0_mansBeside rfl (c_X0_mansBeside l D Zk ca T G u ad _ hC k i  (by omega) (by omega)) m_856 rfl (by decide) hl.1 [] (Nat.le_of_ble_eq_true rfl) rfl dX11_firstBeside_21 (fun r w1 hq H locs h => ?_)
          obtain ⟨rfl, _, rfl, ⟨rfl, q3⟩ | ⟨k4, rfl, q3⟩⟩ := hq
          · show W p l e r_c_X11_firstBeside s m args below meth c _ _ 0 0 Qf (F0 m 24 ls [.null])
            refine lv_astoreN (lv' := [(4, .null), (3, .int (iI i)), (2, .null), (0, .ref (ad 0)), (1, .ref (G 4 k))]) B.1 B.2.1 dX11_firstBeside_24 hl (by decide) rfl (fun ls hl => ?_)
            refine lv_aloadN B.1 B.2.1 dX11_firstBeside_26 (lv_at hl 0 rfl) ?_
            refine lv_ifnullN (tgt := 50) B.1 B.2.1 dX11_firstBeside_28 (by decide) ?_
            refine lv_iinc (v := iI (i + 1)) (lv' := [(3, .int (iI (i + 1))), (4, .null), (2, .null), (0, .ref (ad 0)), (1, .ref (G 4 k))]) B.1 B.2.1 dX11_firstBeside_50 hl (k := 1) rfl (iI_add _ _) (by decide) rfl (fun ls hl => ?_)
            refine lv_goto (tgt := 4) B.1 B.2.1 dX11_firstBeside_53 (by decide) ?_
            have hl : lv_has ls 5 [(3, .int (iI (i + 1))), (4, .null), (2, va_rf (if ((-1)) < 0 then none else some (G 4 ((-1))))), (0, .ref (ad 0)), (1, .ref (G 4 k))] := hl
            exact ih4 ((i + 1)) ((-1)) (by omega) (by omega) (by omega) _ _ _ h (lv_sub hl [0, 2, 3, 4] rfl)
          · have fo5 := CW.rd hC k4 (by omega)
            show W p l e r_c_X11_firstBeside s m args below meth c _ _ 0 0 Qf (F0 m 24 ls [.ref (G 4 k4)])
            refine lv_astore (lv' := [(4, .ref (G 4 k4)), (3, .int (iI i)), (2, .null), (0, .ref (ad 0)), (1, .ref (G 4 k))]) B.1 B.2.1 dX11_firstBeside_24 hl (by decide) rfl (fun ls hl => ?_)
            refine lv_aload B.1 B.2.1 dX11_firstBeside_26 (lv_at hl 0 rfl) ?_
            refine lv_ifnull B.1 B.2.1 dX11_firstBeside_28 ?_
            refine lv_aload_nN B.1 B.2.1 dX11_firstBeside_31 rfl (lv_at hl 2 rfl) ?_
            refine lv_ifnullN (tgt := 47) B.1 B.2.1 dX11_firstBeside_32 (by decide) ?_
            refine lv_aload B.1 B.2.1 dX11_firstBeside_47 (lv_at hl 0 rfl) ?_
            refine lv_astore_n (lv' := [(2, .ref (G 4 k4)), (4, .ref (G 4 k4)), (3, .int (iI i)), (0, .ref (ad 0)), (1, .ref (G 4 k))]) B.1 B.2.1 dX11_firstBeside_49 rfl hl (by decide) rfl (fun ls hl => ?_)
            refine lv_iinc (v := iI (i + 1)) (lv' := [(3, .int (iI (i + 1))), (2, .ref (G 4 k4)), (4, .ref (G 4 k4)), (0, .ref (ad 0)), (1, .ref (G 4 k))]) B.1 B.2.1 dX11_firstBeside_50 hl (k := 2) rfl (iI_add _ _) (by decide) rfl (fun ls hl => ?_)
            refine lv_goto (tgt := 4) B.1 B.2.1 dX11_firstBeside_53 (by decide) ?_
            have hl : lv_has ls 5 [(3, .int (iI (i + 1))), (2, va_rf (if k4 < 0 then none else some (G 4 k4))), (4, .ref (G 4 k4)), (0, .ref (ad 0)), (1, .ref (G 4 k))] := by rw [if_neg (show ¬ k4 < 0 by omega)]; exact hl
            exact ih4 ((i + 1)) k4 (by omega) (by omega) (by omega) _ _ _ h (lv_sub hl [0, 1, 3, 4] rfl)
      · have hl : lv_has ls 5 [(3, .int (iI i)), (2, .ref (G 4 f)), (0, .ref (ad 0)), (1, .ref (G 4 k))] := by rw [if_neg hqf] at hl; exact hl
        have fo6 := CW.rd hC f (by omega)
        refine lv_iload_n B.1 B.2.1 dX11_firstBeside_4 rfl (lv_at hl 0 rfl) ?_
        refine lv_aload_n B.1 B.2.1 dX11_firstBeside_5 rfl (lv_at hl 2 rfl) ?_
        refine y_getR B h kX11 0 (CW.f hC 0 _ rfl) 0 (b := ad 1) rfl m_361 (by decide) dX11_firstBeside_6 ?_
        refine y_getX B h kX0 1 (CW.f hC 1 _ rfl) 4 (z := (T 0 1)) rfl m_143 (by decide) dX11_firstBeside_9 ?_
        refine x_icmp_ge B (by omega) (tgt := 56) dX11_firstBeside_12 (by decide) (fun c7 => ?_) (fun c7 => ?_)
        · refine lv_aload_n B.1 B.2.1 dX11_firstBeside_56 rfl (lv_at hl 1 rfl) ?_
          refine y_ra (r := (some (G 4 f))) B hQ h (by decide) dX11_firstBeside_57 ?_
          exact ⟨rfl, _, rfl, Or.inr ⟨f, rfl, by omega⟩⟩
        · refine lv_aload_n B.1 B.2.1 dX11_firstBeside_15 rfl (lv_at hl 2 rfl) ?_
          refine y_getR B h kX11 0 (CW.f hC 0 _ rfl) 0 (b := ad 1) rfl m_361 (by decide) dX11_firstBeside_16 ?_
          refine lv_aload_n B.1 B.2.1 dX11_firstBeside_19 rfl (lv_at hl 3 rfl) ?_
          refine lv_iload_n B.1 B.2.1 dX11_firstBeside_20 rfl (lv_at hl 0 rfl) ?_
          refine y_cV B h kX0 1 (CW.f hC 1 _ rfl) k_X0_mansBeside rfl (c_X0_mansBeside l D Zk ca T G u ad _ hC k i  (by omega) (by omega)) m_856 rfl (by decide) hl.1 [] (Nat.le_of_ble_eq_true rfl) rfl dX11_firstBeside_21 (fun r w1 hq H locs h => ?_)
          obtain ⟨rfl, _, rfl, ⟨rfl, q8⟩ | ⟨k9, rfl, q8⟩⟩ := hq
          · show W p l e r_c_X11_firstBeside s m args below meth c _ _ 0 0 Qf (F0 m 24 ls [.null])
            refine lv_astoreN (lv' := [(4, .null), (3, .int (iI i)), (2, .ref (G 4 f)), (0, .ref (ad 0)), (1, .ref (G 4 k))]) B.1 B.2.1 dX11_firstBeside_24 hl (by decide) rfl (fun ls hl => ?_)
            refine lv_aloadN B.1 B.2.1 dX11_firstBeside_26 (lv_at hl 0 rfl) ?_
            refine lv_ifnullN (tgt := 50) B.1 B.2.1 dX11_firstBeside_28 (by decide) ?_
            refine lv_iinc (v := iI (i + 1)) (lv' := [(3, .int (iI (i + 1))), (4, .null), (2, .ref (G 4 f)), (0, .ref (ad 0)), (1, .ref (G 4 k))]) B.1 B.2.1 dX11_firstBeside_50 hl (k := 1) rfl (iI_add _ _) (by decide) rfl (fun ls hl => ?_)
            refine lv_goto (tgt := 4) B.1 B.2.1 dX11_firstBeside_53 (by decide) ?_
            have hl : lv_has ls 5 [(3, .int (iI (i + 1))), (4, .null), (2, va_rf (if f < 0 then none else some (G 4 f))), (0, .ref (ad 0)), (1, .ref (G 4 k))] := by rw [if_neg (show ¬ f < 0 by omega)]; exact hl
            exact ih4 ((i + 1)) f (by omega) (by omega) (by omega) _ _ _ h (lv_sub hl [0, 2, 3, 4] rfl)
          · have fo10 := CW.rd hC k9 (by omega)
            show W p l e r_c_X11_firstBeside s m args below meth c _ _ 0 0 Qf (F0 m 24 ls [.ref (G 4 k9)])
            refine lv_astore (lv' := [(4, .ref (G 4 k9)), (3, .int (iI i)), (2, .ref (G 4 f)), (0, .ref (ad 0)), (1, .ref (G 4 k))]) B.1 B.2.1 dX11_firstBeside_24 hl (by decide) rfl (fun ls hl => ?_)
            refine lv_aload B.1 B.2.1 dX11_firstBeside_26 (lv_at hl 0 rfl) ?_
            refine lv_ifnull B.1 B.2.1 dX11_firstBeside_28 ?_
            refine lv_aload_n B.1 B.2.1 dX11_firstBeside_31 rfl (lv_at hl 2 rfl) ?_
            refine lv_ifnull B.1 B.2.1 dX11_firstBeside_32 ?_
            refine lv_aload B.1 B.2.1 dX11_firstBeside_35 (lv_at hl 0 rfl) ?_
            refine y_getX B h kX4 (1000 + 16 * k9.toNat + 4) fo10 7 (z := k9) rfl m_539 (by decide) dX11_firstBeside_37 ?_
            refine lv_aload_n B.1 B.2.1 dX11_firstBeside_40 rfl (lv_at hl 2 rfl) ?_
            refine y_getX B h kX4 (1000 + 16 * f.toNat + 4) fo6 7 (z := f) rfl m_539 (by decide) dX11_firstBeside_41 ?_
            refine x_icmp_ge B (by omega) (tgt := 50) dX11_firstBeside_44 (by decide) (fun c11 => ?_) (fun c11 => ?_)
            · refine lv_iinc (v := iI (i + 1)) (lv' := [(3, .int (iI (i + 1))), (4, .ref (G 4 k9)), (2, .ref (G 4 f)), (0, .ref (ad 0)), (1, .ref (G 4 k))]) B.1 B.2.1 dX11_firstBeside_50 hl (k := 1) rfl (iI_add _ _) (by decide) rfl (fun ls hl => ?_)
              refine lv_goto (tgt := 4) B.1 B.2.1 dX11_firstBeside_53 (by decide) ?_
              have hl : lv_has ls 5 [(3, .int (iI (i + 1))), (4, .ref (G 4 k9)), (2, va_rf (if f < 0 then none else some (G 4 f))), (0, .ref (ad 0)), (1, .ref (G 4 k))] := by rw [if_neg (show ¬ f < 0 by omega)]; exact hl
              exact ih4 ((i + 1)) f (by omega) (by omega) (by omega) _ _ _ h (lv_sub hl [0, 2, 3, 4] rfl)
            · refine lv_aload B.1 B.2.1 dX11_firstBeside_47 (lv_at hl 0 rfl) ?_
              refine lv_astore_n (lv' := [(2, .ref (G 4 k9)), (4, .ref (G 4 k9)), (3, .int (iI i)), (0, .ref (ad 0)), (1, .ref (G 4 k))]) B.1 B.2.1 dX11_firstBeside_49 rfl hl (by decide) rfl (fun ls hl => ?_)
              refine lv_iinc (v := iI (i + 1)) (lv' := [(3, .int (iI (i + 1))), (2, .ref (G 4 k9)), (4, .ref (G 4 k9)), (0, .ref (ad 0)), (1, .ref (G 4 k))]) B.1 B.2.1 dX11_firstBeside_50 hl (k := 2) rfl (iI_add _ _) (by decide) rfl (fun ls hl => ?_)
              refine lv_goto (tgt := 4) B.1 B.2.1 dX11_firstBeside_53 (by decide) ?_
              have hl : lv_has ls 5 [(3, .int (iI (i + 1))), (2, va_rf (if k9 < 0 then none else some (G 4 k9))), (4, .ref (G 4 k9)), (0, .ref (ad 0)), (1, .ref (G 4 k))] := by rw [if_neg (show ¬ k9 < 0 by omega)]; exact hl
              exact ih4 ((i + 1)) k9 (by omega) (by omega) (by omega) _ _ _ h (lv_sub hl [0, 1, 3, 4] rfl)
  exact loop4 (((12 - 0 : Int)).toNat + 1) 0 ((-1)) (by omega) (by omega) (Nat.lt_succ_self _) _ _ _ h (lv_sub hl [0, 1, 2, 3] rfl)
abbrev r_c_X11_leadOf : Room := { frames := 1, cells := 0, slots := 0, locals := 20 }
set_option maxHeartbeats 4000000 in
set_option maxRecDepth 100000 in
theorem c_X11_leadOf (l : Launch) (D : va_G) (Zk : yK) (ca : Nat → ClassId) (T : Nat → Int → Int) (G : Nat → Int → Nat) (u : Int) (ad : Nat → Nat) (w : yW) (hC : CW ca T G u ad w) (ones : Int) (many : Int)  (hones : xr ones) (hmany : 0 ≤ many ∧ many ≤ 12) : yC l D Zk ca yX11_leadOf cX11_leadOf 6 (some .int) r_c_X11_leadOf [.ref (ad 0), .int (iI ones), .int (iI many)] w (vI w (fun z => xr z)) := by
  refine yC.of2 "WindWords" (by decide) rfl (Nat.le_of_ble_eq_true rfl) ?_
  intro p e s m args below meth c A ls Qf B hnm h hl hQ
  have hl : lv_has ls 6 [(0, .ref (ad 0)), (1, .int (iI ones)), (2, .int (iI many))] := hl
  have hs := pi_s (CW.pi hC)
  refine x_iconst B dX11_leadOf_0 ?_
  refine lv_istore_n (lv' := [(3, .int (iI 0)), (0, .ref (ad 0)), (1, .int (iI ones)), (2, .int (iI many))]) B.1 B.2.1 dX11_leadOf_1 rfl hl (by decide) rfl (fun ls hl => ?_)
  refine x_iconst B dX11_leadOf_2 ?_
  refine lv_istore (lv' := [(4, .int (iI 0)), (3, .int (iI 0)), (0, .ref (ad 0)), (1, .int (iI ones)), (2, .int (iI many))]) B.1 B.2.1 dX11_leadOf_3 hl (by decide) rfl (fun ls hl => ?_)
  refine x_iconst B dX11_leadOf_5 ?_
  refine lv_istore (lv' := [(5, .int (iI 0)), (4, .int (iI 0)), (3, .int (iI 0)), (0, .ref (ad 0)), (1, .int (iI ones)), (2, .int (iI many))]) B.1 B.2.1 dX11_leadOf_6 hl (by decide) rfl (fun ls hl => ?_)
  have loop8 : ∀ (n8 : Nat) (k : Int) (l3 : Int) (l4 : Int), (xr l3) → (xr l4) → (0 ≤ k ∧ k ≤ 12) → ((12 - k : Int)).toNat < n8 → ∀ (H : Heap) (locs : List Loc) (ls : Array Slot), yH D Zk A s w H locs → lv_has ls 6 [(5, .int (iI k)), (4, .int (iI l4)), (3, .int (iI l3)), (0, .ref (ad 0)), (1, .int (iI ones)), (2, .int (iI many))] → W p l e r_c_X11_leadOf s m args below meth c H locs 0 0 Qf (F0 m 8 ls []) := by
    intro n8
    induction n8 with
    | zero =>
      intro k l3 l4 xl3 xl4 h0 hm8 H locs ls h hl
      exact absurd hm8 (Nat.not_lt_zero _)
    | succ n8 ih8 =>
      intro k l3 l4 xl3 xl4 h0 hm8 H locs ls h hl
      refine lv_iload B.1 B.2.1 dX11_leadOf_8 (lv_at hl 0 rfl) ?_
      refine lv_iload_n B.1 B.2.1 dX11_leadOf_10 rfl (lv_at hl 5 rfl) ?_
      refine x_icmp_ge B (by omega) (tgt := 55) dX11_leadOf_11 (by decide) (fun c1 => ?_) (fun c1 => ?_)
      · refine lv_iload_n B.1 B.2.1 dX11_leadOf_55 rfl (lv_at hl 4 rfl) ?_
        refine y_cS B h k_J6_bitCount_0f7a4 (c_J6_bitCount_0f7a4 l D Zk ca _ ones  (by omega)) m_1140 rfl (by decide) hl.1 [] (Nat.le_of_ble_eq_true rfl) rfl dX11_leadOf_56 (fun r w1 hq H locs h => ?_)
        obtain ⟨rfl, z2, rfl, hz2⟩ := hq
        show W p l e r_c_X11_leadOf s m args below meth c _ _ 0 0 Qf (F0 m 59 ls [.int (iI z2)])
        refine lv_istore (lv' := [(5, .int (iI z2)), (4, .int (iI l4)), (3, .int (iI l3)), (0, .ref (ad 0)), (1, .int (iI ones)), (2, .int (iI many))]) B.1 B.2.1 dX11_leadOf_59 hl (by decide) rfl (fun ls hl => ?_)
        refine lv_iload_n B.1 B.2.1 dX11_leadOf_61 rfl (lv_at hl 2 rfl) ?_
        refine lv_iload_n B.1 B.2.1 dX11_leadOf_62 rfl (lv_at hl 5 rfl) ?_
        refine lv_iload B.1 B.2.1 dX11_leadOf_63 (lv_at hl 0 rfl) ?_
        refine x_isub B dX11_leadOf_65 ?_
        refine x_imul B dX11_leadOf_66 ?_
        refine x_name (fun z3 hz3 ez3 => ?_)
        refine lv_iload B.1 B.2.1 dX11_leadOf_67 (lv_at hl 1 rfl) ?_
        refine lv_iload B.1 B.2.1 dX11_leadOf_69 (lv_at hl 0 rfl) ?_
        refine x_imul B dX11_leadOf_71 ?_
        refine x_name (fun z4 hz4 ez4 => ?_)
        refine x_isub B dX11_leadOf_72 ?_
        refine x_name (fun z5 hz5 ez5 => ?_)
        refine y_ri B hQ h (by decide) dX11_leadOf_73 ?_
        exact ⟨rfl, _, rfl, (by first | omega | trivial | assumption)⟩
      · refine lv_iload_n B.1 B.2.1 dX11_leadOf_14 rfl (lv_at hl 4 rfl) ?_
        refine lv_iload B.1 B.2.1 dX11_leadOf_15 (lv_at hl 0 rfl) ?_
        refine lv_ishr B.1 B.2.1 dX11_leadOf_17 ?_
        refine x_name (fun z6 hz6 ez6 => ?_)
        refine x_iconst B dX11_leadOf_18 ?_
        refine lv_iand B.1 B.2.1 dX11_leadOf_19 ?_
        obtain ⟨z7, z7a, z7b, ez7⟩ := and1_ex ((iI z6))
        refine x_iset ez7 ?_
        refine x_iconst B dX11_leadOf_20 ?_
        refine x_icmp_ne B (by omega) (tgt := 37) dX11_leadOf_21 (by decide) (fun c8 => ?_) (fun c8 => ?_)
        · refine lv_iload B.1 B.2.1 dX11_leadOf_37 (lv_at hl 1 rfl) ?_
          refine lv_aload_n B.1 B.2.1 dX11_leadOf_39 rfl (lv_at hl 3 rfl) ?_
          refine y_getR B h kX11 0 (CW.f hC 0 _ rfl) 15 (b := ad 35) rfl m_376 (by decide) dX11_leadOf_40 ?_
          refine lv_iload B.1 B.2.1 dX11_leadOf_43 (lv_at hl 0 rfl) ?_
          refine y_iald B h 35 (CW.f hC 35 _ rfl) (by omega) dX11_leadOf_45 (fun fz9 hfz9 => ?_)
          refine x_name (fun z9 hz9 ez9 => ?_)
          refine x_iadd B dX11_leadOf_46 ?_
          refine x_name (fun z10 hz10 ez10 => ?_)
          refine lv_istore (lv' := [(4, .int (iI z10)), (5, .int (iI k)), (3, .int (iI l3)), (0, .ref (ad 0)), (1, .int (iI ones)), (2, .int (iI many))]) B.1 B.2.1 dX11_leadOf_47 hl (by decide) rfl (fun ls hl => ?_)
          refine lv_iinc (v := iI (k + 1)) (lv' := [(5, .int (iI (k + 1))), (4, .int (iI z10)), (3, .int (iI l3)), (0, .ref (ad 0)), (1, .int (iI ones)), (2, .int (iI many))]) B.1 B.2.1 dX11_leadOf_49 hl (k := 1) rfl (iI_add _ _) (by decide) rfl (fun ls hl => ?_)
          refine lv_goto (tgt := 8) B.1 B.2.1 dX11_leadOf_52 (by decide) ?_
          exact ih8 ((k + 1)) l3 z10 (by omega) (by omega) (by omega) (by omega) _ _ _ h (lv_sub hl [0, 1, 2, 3, 4, 5] rfl)
        · refine lv_iload_n B.1 B.2.1 dX11_leadOf_24 rfl (lv_at hl 2 rfl) ?_
          refine lv_aload_n B.1 B.2.1 dX11_leadOf_25 rfl (lv_at hl 3 rfl) ?_
          refine y_getR B h kX11 0 (CW.f hC 0 _ rfl) 15 (b := ad 35) rfl m_376 (by decide) dX11_leadOf_26 ?_
          refine lv_iload B.1 B.2.1 dX11_leadOf_29 (lv_at hl 0 rfl) ?_
          refine y_iald B h 35 (CW.f hC 35 _ rfl) (by omega) dX11_leadOf_31 (fun fz11 hfz11 => ?_)
          refine x_name (fun z11 hz11 ez11 => ?_)
          refine x_iadd B dX11_leadOf_32 ?_
          refine x_name (fun z12 hz12 ez12 => ?_)
          refine lv_istore_n (lv' := [(3, .int (iI z12)), (5, .int (iI k)), (4, .int (iI l4)), (0, .ref (ad 0)), (1, .int (iI ones)), (2, .int (iI many))]) B.1 B.2.1 dX11_leadOf_33 rfl hl (by decide) rfl (fun ls hl => ?_)
          refine lv_goto (tgt := 49) B.1 B.2.1 dX11_leadOf_34 (by decide) ?_
          refine lv_iinc (v := iI (k + 1)) (lv' := [(5, .int (iI (k + 1))), (3, .int (iI z12)), (4, .int (iI l4)), (0, .ref (ad 0)), (1, .int (iI ones)), (2, .int (iI many))]) B.1 B.2.1 dX11_leadOf_49 hl (k := 1) rfl (iI_add _ _) (by decide) rfl (fun ls hl => ?_)
          refine lv_goto (tgt := 8) B.1 B.2.1 dX11_leadOf_52 (by decide) ?_
          exact ih8 ((k + 1)) z12 l4 (by omega) (by omega) (by omega) (by omega) _ _ _ h (lv_sub hl [0, 2, 1, 3, 4, 5] rfl)
  exact loop8 (((12 - 0 : Int)).toNat + 1) 0 0 0 (by omega) (by omega) (by omega) (Nat.lt_succ_self _) _ _ _ h (lv_sub hl [0, 1, 2, 3, 4, 5] rfl)
abbrev r_c_X11_waysLeading : Room := { frames := 2, cells := 0, slots := 0, locals := 45 }
set_option maxHeartbeats 4000000 in
set_option maxRecDepth 100000 in
theorem c_X11_waysLeading (l : Launch) (D : va_G) (Zk : yK) (ca : Nat → ClassId) (T : Nat → Int → Int) (G : Nat → Int → Nat) (u : Int) (ad : Nat → Nat) (w : yW) (hC : CW ca T G u ad w) (ones : Int) (many : Int) (lead : Int)  (hones : xr ones) (hmany : 0 ≤ many ∧ many ≤ 12) (hlead : xr lead) : yC l D Zk ca yX11_waysLeading cX11_waysLeading 6 (some .int) r_c_X11_waysLeading [.ref (ad 0), .int (iI ones), .int (iI many), .int (iI lead)] w (vI w (fun z => xr z)) := by
  refine yC.of2 "WindWords" (by decide) rfl (Nat.le_of_ble_eq_true rfl) ?_
  intro p e s m args below meth c A ls Qf B hnm h hl hQ
  have hl : lv_has ls 6 [(0, .ref (ad 0)), (1, .int (iI ones)), (2, .int (iI many)), (3, .int (iI lead))] := hl
  have hs := pi_s (CW.pi hC)
  refine x_iconst B dX11_waysLeading_0 ?_
  refine lv_istore (lv' := [(4, .int (iI 0)), (0, .ref (ad 0)), (1, .int (iI ones)), (2, .int (iI many)), (3, .int (iI lead))]) B.1 B.2.1 dX11_waysLeading_1 hl (by decide) rfl (fun ls hl => ?_)
  refine x_iconst B dX11_waysLeading_3 ?_
  refine lv_istore (lv' := [(5, .int (iI 0)), (4, .int (iI 0)), (0, .ref (ad 0)), (1, .int (iI ones)), (2, .int (iI many)), (3, .int (iI lead))]) B.1 B.2.1 dX11_waysLeading_4 hl (by decide) rfl (fun ls hl => ?_)
  have loop6 : ∀ (n6 : Nat) (n : Int) (t : Int), (0 ≤ n ∧ n ≤ t) → (0 ≤ t ∧ t ≤ 2147483647) → ((2147483647 - t : Int)).toNat < n6 → ∀ (H : Heap) (locs : List Loc) (ls : Array Slot), yH D Zk A s w H locs → lv_has ls 6 [(5, .int (iI t)), (4, .int (iI n)), (0, .ref (ad 0)), (1, .int (iI ones)), (2, .int (iI many)), (3, .int (iI lead))] → W p l e r_c_X11_waysLeading s m args below meth c H locs 0 0 Qf (F0 m 6 ls []) := by
    intro n6
    induction n6 with
    | zero =>
      intro n t h0 h1 hm6 H locs ls h hl
      exact absurd hm6 (Nat.not_lt_zero _)
    | succ n6 ih6 =>
      intro n t h0 h1 hm6 H locs ls h hl
      refine lv_iload B.1 B.2.1 dX11_waysLeading_6 (lv_at hl 0 rfl) ?_
      refine x_iconst B dX11_waysLeading_8 ?_
      refine lv_iload_n B.1 B.2.1 dX11_waysLeading_9 rfl (lv_at hl 4 rfl) ?_
      refine lv_ishl B.1 B.2.1 dX11_waysLeading_10 ?_
      refine x_name (fun z1 hz1 ez1 => ?_)
      refine x_icmp_ge B (by omega) (tgt := 46) dX11_waysLeading_11 (by decide) (fun c2 => ?_) (fun c2 => ?_)
      · refine lv_iload B.1 B.2.1 dX11_waysLeading_46 (lv_at hl 1 rfl) ?_
        refine y_ri B hQ h (by decide) dX11_waysLeading_48 ?_
        exact ⟨rfl, _, rfl, (by first | omega | trivial | assumption)⟩
      · refine lv_iload B.1 B.2.1 dX11_waysLeading_14 (lv_at hl 0 rfl) ?_
        refine y_cS B h k_J6_bitCount_0f7a4 (c_J6_bitCount_0f7a4 l D Zk ca _ t  (by omega)) m_1140 rfl (by decide) hl.1 [] (Nat.le_of_ble_eq_true rfl) rfl dX11_waysLeading_16 (fun r w1 hq H locs h => ?_)
        obtain ⟨rfl, z3, rfl, hz3⟩ := hq
        show W p l e r_c_X11_waysLeading s m args below meth c _ _ 0 0 Qf (F0 m 19 ls [.int (iI z3)])
        refine lv_iload_n B.1 B.2.1 dX11_waysLeading_19 rfl (lv_at hl 3 rfl) ?_
        refine y_cS B h k_J6_bitCount_0f7a4 (c_J6_bitCount_0f7a4 l D Zk ca _ ones  (by omega)) m_1140 rfl (by decide) hl.1 [.int (iI z3)] (Nat.le_of_ble_eq_true rfl) rfl dX11_waysLeading_20 (fun r w1 hq H locs h => ?_)
        obtain ⟨rfl, z4, rfl, hz4⟩ := hq
        show W p l e r_c_X11_waysLeading s m args below meth c _ _ 0 0 Qf (F0 m 23 ls [.int (iI z4), .int (iI z3)])
        refine x_icmp_ne B (by omega) (tgt := 40) dX11_waysLeading_23 (by decide) (fun c5 => ?_) (fun c5 => ?_)
        · refine lv_iinc (v := iI (t + 1)) (lv' := [(5, .int (iI (t + 1))), (4, .int (iI n)), (0, .ref (ad 0)), (1, .int (iI ones)), (2, .int (iI many)), (3, .int (iI lead))]) B.1 B.2.1 dX11_waysLeading_40 hl (k := 0) rfl (iI_add _ _) (by decide) rfl (fun ls hl => ?_)
          refine lv_goto (tgt := 6) B.1 B.2.1 dX11_waysLeading_43 (by decide) ?_
          exact ih6 n ((t + 1)) (by omega) (by omega) (by omega) _ _ _ h (lv_sub hl [0, 1, 2, 3, 4, 5] rfl)
        · refine lv_aload_n B.1 B.2.1 dX11_waysLeading_26 rfl (lv_at hl 2 rfl) ?_
          refine lv_iload B.1 B.2.1 dX11_waysLeading_27 (lv_at hl 0 rfl) ?_
          refine lv_iload_n B.1 B.2.1 dX11_waysLeading_29 rfl (lv_at hl 4 rfl) ?_
          refine y_cV B h kX11 0 (CW.f hC 0 _ rfl) k_X11_leadOf rfl (c_X11_leadOf l D Zk ca T G u ad _ hC t many  (by omega) (by omega)) m_1136 rfl (by decide) hl.1 [] (Nat.le_of_ble_eq_true rfl) rfl dX11_waysLeading_30 (fun r w1 hq H locs h => ?_)
          obtain ⟨rfl, z6, rfl, hz6⟩ := hq
          show W p l e r_c_X11_waysLeading s m args below meth c _ _ 0 0 Qf (F0 m 33 ls [.int (iI z6)])
          refine lv_iload_n B.1 B.2.1 dX11_waysLeading_33 rfl (lv_at hl 5 rfl) ?_
          refine x_icmp_lt B (by omega) (tgt := 40) dX11_waysLeading_34 (by decide) (fun c7 => ?_) (fun c7 => ?_)
          · refine lv_iinc (v := iI (t + 1)) (lv' := [(5, .int (iI (t + 1))), (4, .int (iI n)), (0, .ref (ad 0)), (1, .int (iI ones)), (2, .int (iI many)), (3, .int (iI lead))]) B.1 B.2.1 dX11_waysLeading_40 hl (k := 0) rfl (iI_add _ _) (by decide) rfl (fun ls hl => ?_)
            refine lv_goto (tgt := 6) B.1 B.2.1 dX11_waysLeading_43 (by decide) ?_
            exact ih6 n ((t + 1)) (by omega) (by omega) (by omega) _ _ _ h (lv_sub hl [0, 1, 2, 3, 4, 5] rfl)
          · refine lv_iinc (v := iI (n + 1)) (lv' := [(4, .int (iI (n + 1))), (5, .int (iI t)), (0, .ref (ad 0)), (1, .int (iI ones)), (2, .int (iI many)), (3, .int (iI lead))]) B.1 B.2.1 dX11_waysLeading_37 hl (k := 1) rfl (iI_add _ _) (by decide) rfl (fun ls hl => ?_)
            refine lv_iinc (v := iI (t + 1)) (lv' := [(5, .int (iI (t + 1))), (4, .int (iI (n + 1))), (0, .ref (ad 0)), (1, .int (iI ones)), (2, .int (iI many)), (3, .int (iI lead))]) B.1 B.2.1 dX11_waysLeading_40 hl (k := 1) rfl (iI_add _ _) (by decide) rfl (fun ls hl => ?_)
            refine lv_goto (tgt := 6) B.1 B.2.1 dX11_waysLeading_43 (by decide) ?_
            exact ih6 ((n + 1)) ((t + 1)) (by omega) (by omega) (by omega) _ _ _ h (lv_sub hl [0, 1, 2, 3, 4, 5] rfl)
  exact loop6 (((2147483647 - 0 : Int)).toNat + 1) 0 0 (by omega) (by omega) (Nat.lt_succ_self _) _ _ _ h (lv_sub hl [0, 1, 2, 3, 4, 5] rfl)
abbrev r_c_X11_unlikeness : Room := { frames := 5, cells := 0, slots := 0, locals := 128 }
set_option maxHeartbeats 4000000 in
set_option maxRecDepth 100000 in
theorem c_X11_unlikeness (l : Launch) (D : va_G) (Zk : yK) (ca : Nat → ClassId) (T : Nat → Int → Int) (G : Nat → Int → Nat) (u : Int) (ad : Nat → Nat) (w : yW) (hC : CW ca T G u ad w) (sc : Int)  (hsc : xr sc) : yC l D Zk ca yX11_unlikeness cX11_unlikeness 7 (some .int) r_c_X11_unlikeness [.ref (ad 0), .int (iI sc)] w (vI w (fun z => xr z)) := by
  refine yC.of2 "WindWords" (by decide) rfl (Nat.le_of_ble_eq_true rfl) ?_
  intro p e s m args below meth c A ls Qf B hnm h hl hQ
  have hl : lv_has ls 7 [(0, .ref (ad 0)), (1, .int (iI sc))] := hl
  have hs := pi_s (CW.pi hC)
  refine x_iconst B dX11_unlikeness_0 ?_
  refine lv_istore_n (lv' := [(2, .int (iI 0)), (0, .ref (ad 0)), (1, .int (iI sc))]) B.1 B.2.1 dX11_unlikeness_1 rfl hl (by decide) rfl (fun ls hl => ?_)
  have loop2 : ∀ (n2 : Nat) (i : Int), (0 ≤ i ∧ i ≤ 300) → ((300 - i : Int)).toNat < n2 → ∀ (H : Heap) (locs : List Loc) (ls : Array Slot), yH D Zk A s w H locs → lv_has ls 7 [(2, .int (iI i)), (0, .ref (ad 0)), (1, .int (iI sc))] → W p l e r_c_X11_unlikeness s m args below meth c H locs 0 0 Qf (F0 m 2 ls []) := by
    intro n2
    induction n2 with
    | zero =>
      intro i h0 hm2 H locs ls h hl
      exact absurd hm2 (Nat.not_lt_zero _)
    | succ n2 ih2 =>
      intro i h0 hm2 H locs ls h hl
      refine lv_iload_n B.1 B.2.1 dX11_unlikeness_2 rfl (lv_at hl 0 rfl) ?_
      refine lv_aload_n B.1 B.2.1 dX11_unlikeness_3 rfl (lv_at hl 1 rfl) ?_
      refine y_getR B h kX11 0 (CW.f hC 0 _ rfl) 0 (b := ad 1) rfl m_361 (by decide) dX11_unlikeness_4 ?_
      refine y_getX B h kX0 1 (CW.f hC 1 _ rfl) 5 (z := (T 0 2)) rfl m_149 (by decide) dX11_unlikeness_7 ?_
      refine x_icmp_ge B (by omega) (tgt := 90) dX11_unlikeness_10 (by decide) (fun c1 => ?_) (fun c1 => ?_)
      · refine x_iconst B dX11_unlikeness_90 ?_
        refine lv_istore_n (lv' := [(2, .int (iI 0)), (0, .ref (ad 0)), (1, .int (iI sc))]) B.1 B.2.1 dX11_unlikeness_91 rfl hl (by decide) rfl (fun ls hl => ?_)
        refine x_iconst B dX11_unlikeness_92 ?_
        refine lv_istore_n (lv' := [(3, .int (iI 0)), (2, .int (iI 0)), (0, .ref (ad 0)), (1, .int (iI sc))]) B.1 B.2.1 dX11_unlikeness_93 rfl hl (by decide) rfl (fun ls hl => ?_)
        have loop94 : ∀ (n94 : Nat) (i : Int) (l2 : Int), (xr l2) → (0 ≤ i ∧ i ≤ 300) → ((300 - i : Int)).toNat < n94 → ∀ (H : Heap) (locs : List Loc) (ls : Array Slot), yH D Zk A s w H locs → lv_has ls 7 [(3, .int (iI i)), (2, .int (iI l2)), (0, .ref (ad 0))] → W p l e r_c_X11_unlikeness s m args below meth c H locs 0 0 Qf (F0 m 94 ls []) := by
          intro n94
          induction n94 with
          | zero =>
            intro i l2 xl2 h1 hm94 H locs ls h hl
            exact absurd hm94 (Nat.not_lt_zero _)
          | succ n94 ih94 =>
            intro i l2 xl2 h1 hm94 H locs ls h hl
            refine lv_iload_n B.1 B.2.1 dX11_unlikeness_94 rfl (lv_at hl 0 rfl) ?_
            refine lv_aload_n B.1 B.2.1 dX11_unlikeness_95 rfl (lv_at hl 2 rfl) ?_
            refine y_getR B h kX11 0 (CW.f hC 0 _ rfl) 0 (b := ad 1) rfl m_361 (by decide) dX11_unlikeness_96 ?_
            refine y_getX B h kX0 1 (CW.f hC 1 _ rfl) 5 (z := (T 0 2)) rfl m_149 (by decide) dX11_unlikeness_99 ?_
            refine x_icmp_ge B (by omega) (tgt := 221) dX11_unlikeness_102 (by decide) (fun c2 => ?_) (fun c2 => ?_)
            · refine lv_iload_n B.1 B.2.1 dX11_unlikeness_221 rfl (lv_at hl 1 rfl) ?_
              refine y_ri B hQ h (by decide) dX11_unlikeness_222 ?_
              exact ⟨rfl, _, rfl, (by first | omega | trivial | assumption)⟩
            · refine lv_aload_n B.1 B.2.1 dX11_unlikeness_105 rfl (lv_at hl 2 rfl) ?_
              refine y_getR B h kX11 0 (CW.f hC 0 _ rfl) 0 (b := ad 1) rfl m_361 (by decide) dX11_unlikeness_106 ?_
              refine lv_iload_n B.1 B.2.1 dX11_unlikeness_109 rfl (lv_at hl 0 rfl) ?_
              refine y_cV B h kX0 1 (CW.f hC 1 _ rfl) k_X0_mansAt rfl (c_X0_mansAt l D Zk ca T G u ad _ hC i  (by omega)) m_1050 rfl (by decide) hl.1 [] (Nat.le_of_ble_eq_true rfl) rfl dX11_unlikeness_110 (fun r w1 hq H locs h => ?_)
              obtain ⟨rfl, _, rfl, ⟨rfl, q3⟩ | ⟨rfl, q3⟩⟩ := hq
              · show W p l e r_c_X11_unlikeness s m args below meth c _ _ 0 0 Qf (F0 m 113 ls [.null])
                refine lv_astoreN (lv' := [(4, .null), (3, .int (iI i)), (2, .int (iI l2)), (0, .ref (ad 0))]) B.1 B.2.1 dX11_unlikeness_113 hl (by decide) rfl (fun ls hl => ?_)
                refine x_iconst B dX11_unlikeness_115 ?_
                refine lv_istore (lv' := [(5, .int (iI 0)), (4, .null), (3, .int (iI i)), (2, .int (iI l2)), (0, .ref (ad 0))]) B.1 B.2.1 dX11_unlikeness_116 hl (by decide) rfl (fun ls hl => ?_)
                have loop118 : ∀ (n118 : Nat) (v : Int) (l2 : Int), (xr l2) → (0 ≤ v ∧ v ≤ 12) → ((12 - v : Int)).toNat < n118 → ∀ (H : Heap) (locs : List Loc) (ls : Array Slot), yH D Zk A s w H locs → lv_has ls 7 [(5, .int (iI v)), (4, .null), (3, .int (iI i)), (2, .int (iI l2)), (0, .ref (ad 0))] → W p l e r_c_X11_unlikeness s m args below meth c H locs 0 0 Qf (F0 m 118 ls []) := by
                  intro n118
                  induction n118 with
                  | zero =>
                    intro v l2 xl2 h2 hm118 H locs ls h hl
                    exact absurd hm118 (Nat.not_lt_zero _)
                  | succ n118 ih118 =>
                    intro v l2 xl2 h2 hm118 H locs ls h hl
                    refine lv_iload B.1 B.2.1 dX11_unlikeness_118 (lv_at hl 0 rfl) ?_
                    refine lv_aload_n B.1 B.2.1 dX11_unlikeness_120 rfl (lv_at hl 4 rfl) ?_
                    refine y_getR B h kX11 0 (CW.f hC 0 _ rfl) 0 (b := ad 1) rfl m_361 (by decide) dX11_unlikeness_121 ?_
                    refine y_getX B h kX0 1 (CW.f hC 1 _ rfl) 4 (z := (T 0 1)) rfl m_143 (by decide) dX11_unlikeness_124 ?_
                    refine x_icmp_ge B (by omega) (tgt := 215) dX11_unlikeness_127 (by decide) (fun c4 => ?_) (fun c4 => ?_)
                    · refine lv_iinc (v := iI (i + 1)) (lv' := [(3, .int (iI (i + 1))), (5, .int (iI v)), (4, .null), (2, .int (iI l2)), (0, .ref (ad 0))]) B.1 B.2.1 dX11_unlikeness_215 hl (k := 2) rfl (iI_add _ _) (by decide) rfl (fun ls hl => ?_)
                      refine lv_goto (tgt := 94) B.1 B.2.1 dX11_unlikeness_218 (by decide) ?_
                      exact ih94 ((i + 1)) l2 (by omega) (by omega) (by omega) _ _ _ h (lv_sub hl [0, 3, 4] rfl)
                    · refine lv_aload_n B.1 B.2.1 dX11_unlikeness_130 rfl (lv_at hl 4 rfl) ?_
                      refine y_getR B h kX11 0 (CW.f hC 0 _ rfl) 0 (b := ad 1) rfl m_361 (by decide) dX11_unlikeness_131 ?_
                      refine lv_aloadN B.1 B.2.1 dX11_unlikeness_134 (lv_at hl 1 rfl) ?_
                      refine lv_iload B.1 B.2.1 dX11_unlikeness_136 (lv_at hl 0 rfl) ?_
                      refine y_cV B h kX0 1 (CW.f hC 1 _ rfl) k_X0_mansBeside rfl (c_X0_mansBeside_N l D Zk ca T G u ad _ hC v  (by omega)) m_856 rfl (by decide) hl.1 [] (Nat.le_of_ble_eq_true rfl) rfl dX11_unlikeness_138 (fun r w1 hq H locs h => ?_)
                      obtain ⟨rfl, _, rfl, rfl⟩ := hq
                      show W p l e r_c_X11_unlikeness s m args below meth c _ _ 0 0 Qf (F0 m 141 ls [.null])
                      refine lv_astoreN (lv' := [(6, .null), (5, .int (iI v)), (4, .null), (3, .int (iI i)), (2, .int (iI l2)), (0, .ref (ad 0))]) B.1 B.2.1 dX11_unlikeness_141 hl (by decide) rfl (fun ls hl => ?_)
                      refine lv_aloadN B.1 B.2.1 dX11_unlikeness_143 (lv_at hl 0 rfl) ?_
                      refine lv_ifnullN (tgt := 209) B.1 B.2.1 dX11_unlikeness_145 (by decide) ?_
                      refine lv_iinc (v := iI (v + 1)) (lv' := [(5, .int (iI (v + 1))), (6, .null), (4, .null), (3, .int (iI i)), (2, .int (iI l2)), (0, .ref (ad 0))]) B.1 B.2.1 dX11_unlikeness_209 hl (k := 1) rfl (iI_add _ _) (by decide) rfl (fun ls hl => ?_)
                      refine lv_goto (tgt := 118) B.1 B.2.1 dX11_unlikeness_212 (by decide) ?_
                      exact ih118 ((v + 1)) l2 (by omega) (by omega) (by omega) _ _ _ h (lv_sub hl [0, 2, 3, 4, 5] rfl)
                exact loop118 (((12 - 0 : Int)).toNat + 1) 0 l2 (by omega) (by omega) (Nat.lt_succ_self _) _ _ _ h (lv_sub hl [0, 1, 2, 3, 4] rfl)
              · have fo5 := CW.rd hC i (by omega)
                show W p l e r_c_X11_unlikeness s m args below meth c _ _ 0 0 Qf (F0 m 113 ls [.ref (G 4 i)])
                refine lv_astore (lv' := [(4, .ref (G 4 i)), (3, .int (iI i)), (2, .int (iI l2)), (0, .ref (ad 0))]) B.1 B.2.1 dX11_unlikeness_113 hl (by decide) rfl (fun ls hl => ?_)
                refine x_iconst B dX11_unlikeness_115 ?_
                refine lv_istore (lv' := [(5, .int (iI 0)), (4, .ref (G 4 i)), (3, .int (iI i)), (2, .int (iI l2)), (0, .ref (ad 0))]) B.1 B.2.1 dX11_unlikeness_116 hl (by decide) rfl (fun ls hl => ?_)
                have loop118 : ∀ (n118 : Nat) (v : Int) (l2 : Int), (xr l2) → (0 ≤ v ∧ v ≤ 12) → ((12 - v : Int)).toNat < n118 → ∀ (H : Heap) (locs : List Loc) (ls : Array Slot), yH D Zk A s w H locs → lv_has ls 7 [(5, .int (iI v)), (4, .ref (G 4 i)), (3, .int (iI i)), (2, .int (iI l2)), (0, .ref (ad 0))] → W p l e r_c_X11_unlikeness s m args below meth c H locs 0 0 Qf (F0 m 118 ls []) := by
                  intro n118
                  induction n118 with
                  | zero =>
                    intro v l2 xl2 h2 hm118 H locs ls h hl
                    exact absurd hm118 (Nat.not_lt_zero _)
                  | succ n118 ih118 =>
                    intro v l2 xl2 h2 hm118 H locs ls h hl
                    refine lv_iload B.1 B.2.1 dX11_unlikeness_118 (lv_at hl 0 rfl) ?_
                    refine lv_aload_n B.1 B.2.1 dX11_unlikeness_120 rfl (lv_at hl 4 rfl) ?_
                    refine y_getR B h kX11 0 (CW.f hC 0 _ rfl) 0 (b := ad 1) rfl m_361 (by decide) dX11_unlikeness_121 ?_
                    refine y_getX B h kX0 1 (CW.f hC 1 _ rfl) 4 (z := (T 0 1)) rfl m_143 (by decide) dX11_unlikeness_124 ?_
                    refine x_icmp_ge B (by omega) (tgt := 215) dX11_unlikeness_127 (by decide) (fun c6 => ?_) (fun c6 => ?_)
                    · refine lv_iinc (v := iI (i + 1)) (lv' := [(3, .int (iI (i + 1))), (5, .int (iI v)), (4, .ref (G 4 i)), (2, .int (iI l2)), (0, .ref (ad 0))]) B.1 B.2.1 dX11_unlikeness_215 hl (k := 2) rfl (iI_add _ _) (by decide) rfl (fun ls hl => ?_)
                      refine lv_goto (tgt := 94) B.1 B.2.1 dX11_unlikeness_218 (by decide) ?_
                      exact ih94 ((i + 1)) l2 (by omega) (by omega) (by omega) _ _ _ h (lv_sub hl [0, 3, 4] rfl)
                    · refine lv_aload_n B.1 B.2.1 dX11_unlikeness_130 rfl (lv_at hl 4 rfl) ?_
                      refine y_getR B h kX11 0 (CW.f hC 0 _ rfl) 0 (b := ad 1) rfl m_361 (by decide) dX11_unlikeness_131 ?_
                      refine lv_aload B.1 B.2.1 dX11_unlikeness_134 (lv_at hl 1 rfl) ?_
                      refine lv_iload B.1 B.2.1 dX11_unlikeness_136 (lv_at hl 0 rfl) ?_
                      refine y_cV B h kX0 1 (CW.f hC 1 _ rfl) k_X0_mansBeside rfl (c_X0_mansBeside l D Zk ca T G u ad _ hC i v  (by omega) (by omega)) m_856 rfl (by decide) hl.1 [] (Nat.le_of_ble_eq_true rfl) rfl dX11_unlikeness_138 (fun r w1 hq H locs h => ?_)
                      obtain ⟨rfl, _, rfl, ⟨rfl, q7⟩ | ⟨k8, rfl, q7⟩⟩ := hq
                      · show W p l e r_c_X11_unlikeness s m args below meth c _ _ 0 0 Qf (F0 m 141 ls [.null])
                        refine lv_astoreN (lv' := [(6, .null), (5, .int (iI v)), (4, .ref (G 4 i)), (3, .int (iI i)), (2, .int (iI l2)), (0, .ref (ad 0))]) B.1 B.2.1 dX11_unlikeness_141 hl (by decide) rfl (fun ls hl => ?_)
                        refine lv_aloadN B.1 B.2.1 dX11_unlikeness_143 (lv_at hl 0 rfl) ?_
                        refine lv_ifnullN (tgt := 209) B.1 B.2.1 dX11_unlikeness_145 (by decide) ?_
                        refine lv_iinc (v := iI (v + 1)) (lv' := [(5, .int (iI (v + 1))), (6, .null), (4, .ref (G 4 i)), (3, .int (iI i)), (2, .int (iI l2)), (0, .ref (ad 0))]) B.1 B.2.1 dX11_unlikeness_209 hl (k := 1) rfl (iI_add _ _) (by decide) rfl (fun ls hl => ?_)
                        refine lv_goto (tgt := 118) B.1 B.2.1 dX11_unlikeness_212 (by decide) ?_
                        exact ih118 ((v + 1)) l2 (by omega) (by omega) (by omega) _ _ _ h (lv_sub hl [0, 2, 3, 4, 5] rfl)
                      · have fo9 := CW.rd hC k8 (by omega)
                        show W p l e r_c_X11_unlikeness s m args below meth c _ _ 0 0 Qf (F0 m 141 ls [.ref (G 4 k8)])
                        refine lv_astore (lv' := [(6, .ref (G 4 k8)), (5, .int (iI v)), (4, .ref (G 4 i)), (3, .int (iI i)), (2, .int (iI l2)), (0, .ref (ad 0))]) B.1 B.2.1 dX11_unlikeness_141 hl (by decide) rfl (fun ls hl => ?_)
                        refine lv_aload B.1 B.2.1 dX11_unlikeness_143 (lv_at hl 0 rfl) ?_
                        refine lv_ifnull B.1 B.2.1 dX11_unlikeness_145 ?_
                        refine lv_aload B.1 B.2.1 dX11_unlikeness_148 (lv_at hl 0 rfl) ?_
                        refine y_getX B h kX4 (1000 + 16 * k8.toNat + 4) fo9 7 (z := k8) rfl m_539 (by decide) dX11_unlikeness_150 ?_
                        refine lv_iload_n B.1 B.2.1 dX11_unlikeness_153 rfl (lv_at hl 3 rfl) ?_
                        refine x_iconst B dX11_unlikeness_154 ?_
                        refine x_isub B dX11_unlikeness_155 ?_
                        refine y_cS B h k_X11_within (c_X11_within l D Zk ca _ k8 ((i - 1))  (by omega) (by omega)) m_431 rfl (by decide) hl.1 [] (Nat.le_of_ble_eq_true rfl) rfl dX11_unlikeness_156 (fun r w1 hq H locs h => ?_)
                        obtain ⟨rfl, _, rfl, ⟨rfl, b10⟩ | ⟨rfl, b10⟩⟩ := hq
                        · show W p l e r_c_X11_unlikeness s m args below meth c _ _ 0 0 Qf (F0 m 159 ls [.int (iI 1)])
                          refine x_if_eq B (by omega) (tgt := 209) dX11_unlikeness_159 (by decide) (fun c11 => ?_) (fun c11 => ?_)
                          · exact absurd c11 (by omega)
                          · refine lv_aload_n B.1 B.2.1 dX11_unlikeness_162 rfl (lv_at hl 5 rfl) ?_
                            refine y_getR B h kX11 0 (CW.f hC 0 _ rfl) 12 (b := ad 32) rfl m_373 (by decide) dX11_unlikeness_163 ?_
                            refine lv_iload_n B.1 B.2.1 dX11_unlikeness_166 rfl (lv_at hl 3 rfl) ?_
                            refine y_iald B h 32 (CW.f hC 32 _ rfl) (by omega) dX11_unlikeness_167 (fun fz12 hfz12 => ?_)
                            refine x_name (fun z12 hz12 ez12 => ?_)
                            refine x_iconst B dX11_unlikeness_168 ?_
                            refine x_icmp_eq B (by omega) (tgt := 209) dX11_unlikeness_169 (by decide) (fun c13 => ?_) (fun c13 => ?_)
                            · refine lv_iinc (v := iI (v + 1)) (lv' := [(5, .int (iI (v + 1))), (6, .ref (G 4 k8)), (4, .ref (G 4 i)), (3, .int (iI i)), (2, .int (iI l2)), (0, .ref (ad 0))]) B.1 B.2.1 dX11_unlikeness_209 hl (k := 1) rfl (iI_add _ _) (by decide) rfl (fun ls hl => ?_)
                              refine lv_goto (tgt := 118) B.1 B.2.1 dX11_unlikeness_212 (by decide) ?_
                              exact ih118 ((v + 1)) l2 (by omega) (by omega) (by omega) _ _ _ h (lv_sub hl [0, 2, 3, 4, 5] rfl)
                            · refine lv_aload_n B.1 B.2.1 dX11_unlikeness_172 rfl (lv_at hl 5 rfl) ?_
                              refine y_getR B h kX11 0 (CW.f hC 0 _ rfl) 12 (b := ad 32) rfl m_373 (by decide) dX11_unlikeness_173 ?_
                              refine lv_aload B.1 B.2.1 dX11_unlikeness_176 (lv_at hl 0 rfl) ?_
                              refine y_getX B h kX4 (1000 + 16 * k8.toNat + 4) fo9 7 (z := k8) rfl m_539 (by decide) dX11_unlikeness_178 ?_
                              refine y_iald B h 32 (CW.f hC 32 _ rfl) (by omega) dX11_unlikeness_181 (fun fz14 hfz14 => ?_)
                              refine x_name (fun z14 hz14 ez14 => ?_)
                              refine x_iconst B dX11_unlikeness_182 ?_
                              refine x_icmp_eq B (by omega) (tgt := 209) dX11_unlikeness_183 (by decide) (fun c15 => ?_) (fun c15 => ?_)
                              · refine lv_iinc (v := iI (v + 1)) (lv' := [(5, .int (iI (v + 1))), (6, .ref (G 4 k8)), (4, .ref (G 4 i)), (3, .int (iI i)), (2, .int (iI l2)), (0, .ref (ad 0))]) B.1 B.2.1 dX11_unlikeness_209 hl (k := 1) rfl (iI_add _ _) (by decide) rfl (fun ls hl => ?_)
                                refine lv_goto (tgt := 118) B.1 B.2.1 dX11_unlikeness_212 (by decide) ?_
                                exact ih118 ((v + 1)) l2 (by omega) (by omega) (by omega) _ _ _ h (lv_sub hl [0, 2, 3, 4, 5] rfl)
                              · refine lv_iload_n B.1 B.2.1 dX11_unlikeness_186 rfl (lv_at hl 4 rfl) ?_
                                refine lv_aload_n B.1 B.2.1 dX11_unlikeness_187 rfl (lv_at hl 5 rfl) ?_
                                refine y_getR B h kX11 0 (CW.f hC 0 _ rfl) 12 (b := ad 32) rfl m_373 (by decide) dX11_unlikeness_188 ?_
                                refine lv_iload_n B.1 B.2.1 dX11_unlikeness_191 rfl (lv_at hl 3 rfl) ?_
                                refine y_iald B h 32 (CW.f hC 32 _ rfl) (by omega) dX11_unlikeness_192 (fun fz16 hfz16 => ?_)
                                refine x_name (fun z16 hz16 ez16 => ?_)
                                refine lv_aload_n B.1 B.2.1 dX11_unlikeness_193 rfl (lv_at hl 5 rfl) ?_
                                refine y_getR B h kX11 0 (CW.f hC 0 _ rfl) 12 (b := ad 32) rfl m_373 (by decide) dX11_unlikeness_194 ?_
                                refine lv_aload B.1 B.2.1 dX11_unlikeness_197 (lv_at hl 0 rfl) ?_
                                refine y_getX B h kX4 (1000 + 16 * k8.toNat + 4) fo9 7 (z := k8) rfl m_539 (by decide) dX11_unlikeness_199 ?_
                                refine y_iald B h 32 (CW.f hC 32 _ rfl) (by omega) dX11_unlikeness_202 (fun fz17 hfz17 => ?_)
                                refine x_name (fun z17 hz17 ez17 => ?_)
                                refine x_isub B dX11_unlikeness_203 ?_
                                refine x_name (fun z18 hz18 ez18 => ?_)
                                refine x_absR B m_869 m_870 m_106 m_871 hl.1 (Nat.le_of_ble_eq_true rfl) (by decide) dX11_unlikeness_204 (fun z19 hz19 => ?_)
                                refine x_iadd B dX11_unlikeness_207 ?_
                                refine x_name (fun z20 hz20 ez20 => ?_)
                                refine lv_istore_n (lv' := [(2, .int (iI z20)), (6, .ref (G 4 k8)), (5, .int (iI v)), (4, .ref (G 4 i)), (3, .int (iI i)), (0, .ref (ad 0))]) B.1 B.2.1 dX11_unlikeness_208 rfl hl (by decide) rfl (fun ls hl => ?_)
                                refine lv_iinc (v := iI (v + 1)) (lv' := [(5, .int (iI (v + 1))), (2, .int (iI z20)), (6, .ref (G 4 k8)), (4, .ref (G 4 i)), (3, .int (iI i)), (0, .ref (ad 0))]) B.1 B.2.1 dX11_unlikeness_209 hl (k := 2) rfl (iI_add _ _) (by decide) rfl (fun ls hl => ?_)
                                refine lv_goto (tgt := 118) B.1 B.2.1 dX11_unlikeness_212 (by decide) ?_
                                exact ih118 ((v + 1)) z20 (by omega) (by omega) (by omega) _ _ _ h (lv_sub hl [0, 3, 4, 1, 5] rfl)
                        · show W p l e r_c_X11_unlikeness s m args below meth c _ _ 0 0 Qf (F0 m 159 ls [.int (iI 0)])
                          refine x_if_eq B (by omega) (tgt := 209) dX11_unlikeness_159 (by decide) (fun c21 => ?_) (fun c21 => ?_)
                          · refine lv_iinc (v := iI (v + 1)) (lv' := [(5, .int (iI (v + 1))), (6, .ref (G 4 k8)), (4, .ref (G 4 i)), (3, .int (iI i)), (2, .int (iI l2)), (0, .ref (ad 0))]) B.1 B.2.1 dX11_unlikeness_209 hl (k := 1) rfl (iI_add _ _) (by decide) rfl (fun ls hl => ?_)
                            refine lv_goto (tgt := 118) B.1 B.2.1 dX11_unlikeness_212 (by decide) ?_
                            exact ih118 ((v + 1)) l2 (by omega) (by omega) (by omega) _ _ _ h (lv_sub hl [0, 2, 3, 4, 5] rfl)
                          · exact absurd c21 (by omega)
                exact loop118 (((12 - 0 : Int)).toNat + 1) 0 l2 (by omega) (by omega) (Nat.lt_succ_self _) _ _ _ h (lv_sub hl [0, 1, 2, 3, 4] rfl)
        exact loop94 (((300 - 0 : Int)).toNat + 1) 0 0 (by omega) (by omega) (Nat.lt_succ_self _) _ _ _ h (lv_sub hl [0, 1, 2] rfl)
      · refine lv_aload_n B.1 B.2.1 dX11_unlikeness_13 rfl (lv_at hl 1 rfl) ?_
        refine y_getR B h kX11 0 (CW.f hC 0 _ rfl) 0 (b := ad 1) rfl m_361 (by decide) dX11_unlikeness_14 ?_
        refine lv_iload_n B.1 B.2.1 dX11_unlikeness_17 rfl (lv_at hl 0 rfl) ?_
        refine y_cV B h kX0 1 (CW.f hC 1 _ rfl) k_X0_mansAt rfl (c_X0_mansAt l D Zk ca T G u ad _ hC i  (by omega)) m_1050 rfl (by decide) hl.1 [] (Nat.le_of_ble_eq_true rfl) rfl dX11_unlikeness_18 (fun r w1 hq H locs h => ?_)
        obtain ⟨rfl, _, rfl, ⟨rfl, q22⟩ | ⟨rfl, q22⟩⟩ := hq
        · show W p l e r_c_X11_unlikeness s m args below meth c _ _ 0 0 Qf (F0 m 21 ls [.null])
          refine lv_astore_nN (lv' := [(3, .null), (2, .int (iI i)), (0, .ref (ad 0)), (1, .int (iI sc))]) B.1 B.2.1 dX11_unlikeness_21 rfl hl (by decide) rfl (fun ls hl => ?_)
          refine lv_aload_nN B.1 B.2.1 dX11_unlikeness_22 rfl (lv_at hl 0 rfl) ?_
          refine lv_ifnullN (tgt := 57) B.1 B.2.1 dX11_unlikeness_23 (by decide) ?_
          refine x_iconst B dX11_unlikeness_57 ?_
          refine lv_istore (lv' := [(4, .int (iI 0)), (3, .null), (2, .int (iI i)), (0, .ref (ad 0)), (1, .int (iI sc))]) B.1 B.2.1 dX11_unlikeness_58 hl (by decide) rfl (fun ls hl => ?_)
          refine lv_aload_n B.1 B.2.1 dX11_unlikeness_60 rfl (lv_at hl 3 rfl) ?_
          refine y_getR B h kX11 0 (CW.f hC 0 _ rfl) 12 (b := ad 32) rfl m_373 (by decide) dX11_unlikeness_61 ?_
          refine lv_iload_n B.1 B.2.1 dX11_unlikeness_64 rfl (lv_at hl 2 rfl) ?_
          refine lv_iload B.1 B.2.1 dX11_unlikeness_65 (lv_at hl 0 rfl) ?_
          refine x_if_eq B (by omega) (tgt := 82) dX11_unlikeness_67 (by decide) (fun c23 => ?_) (fun c23 => ?_)
          · refine x_iconst B dX11_unlikeness_82 ?_
            refine y_iastS B h 32 (CW.f hC 32 _ rfl) (by omega) (fun _ _ => trivial) dX11_unlikeness_83 (fun H locs h => ?_)
            refine lv_iinc (v := iI (i + 1)) (lv' := [(2, .int (iI (i + 1))), (4, .int (iI 0)), (3, .null), (0, .ref (ad 0)), (1, .int (iI sc))]) B.1 B.2.1 dX11_unlikeness_84 hl (k := 2) rfl (iI_add _ _) (by decide) rfl (fun ls hl => ?_)
            refine lv_goto (tgt := 2) B.1 B.2.1 dX11_unlikeness_87 (by decide) ?_
            exact ih2 ((i + 1)) (by omega) (by omega) _ _ _ h (lv_sub hl [0, 3, 4] rfl)
          · exact absurd c23 (by omega)
        · have fo24 := CW.rd hC i (by omega)
          show W p l e r_c_X11_unlikeness s m args below meth c _ _ 0 0 Qf (F0 m 21 ls [.ref (G 4 i)])
          refine lv_astore_n (lv' := [(3, .ref (G 4 i)), (2, .int (iI i)), (0, .ref (ad 0)), (1, .int (iI sc))]) B.1 B.2.1 dX11_unlikeness_21 rfl hl (by decide) rfl (fun ls hl => ?_)
          refine lv_aload_n B.1 B.2.1 dX11_unlikeness_22 rfl (lv_at hl 0 rfl) ?_
          refine lv_ifnull B.1 B.2.1 dX11_unlikeness_23 ?_
          refine lv_aload_n B.1 B.2.1 dX11_unlikeness_26 rfl (lv_at hl 2 rfl) ?_
          refine y_getR B h kX11 0 (CW.f hC 0 _ rfl) 1 (b := ad 4) rfl m_362 (by decide) dX11_unlikeness_27 ?_
          refine lv_iload_n B.1 B.2.1 dX11_unlikeness_30 rfl (lv_at hl 3 rfl) ?_
          refine lv_aload_n B.1 B.2.1 dX11_unlikeness_31 rfl (lv_at hl 0 rfl) ?_
          refine y_cV B h kX4 (1000 + 16 * i.toNat + 4) fo24 k_X4_year rfl (c_X4_year l D Zk ca T G u ad _ hC i  (by omega)) m_1113 rfl (by decide) hl.1 [.int (iI sc), .ref (ad 4)] (Nat.le_of_ble_eq_true rfl) rfl dX11_unlikeness_32 (fun r w1 hq H locs h => ?_)
          obtain ⟨rfl, _, rfl, rfl⟩ := hq
          have tb25 := pi_5 (CW.pi hC) i
          show W p l e r_c_X11_unlikeness s m args below meth c _ _ 0 0 Qf (F0 m 35 ls [.int (iI ((T 5 i) / 100)), .int (iI sc), .ref (ad 4)])
          refine lv_aload_n B.1 B.2.1 dX11_unlikeness_35 rfl (lv_at hl 0 rfl) ?_
          refine y_getX B h kX4 (1000 + 16 * i.toNat + 4) fo24 3 (z := (T 7 i)) rfl m_527 (by decide) dX11_unlikeness_36 ?_
          have tb26 := pi_7 (CW.pi hC) i
          refine lv_aload_n B.1 B.2.1 dX11_unlikeness_39 rfl (lv_at hl 0 rfl) ?_
          refine y_cV B h kX4 (1000 + 16 * i.toNat + 4) fo24 k_X4_year rfl (c_X4_year l D Zk ca T G u ad _ hC i  (by omega)) m_1113 rfl (by decide) hl.1 [.int (iI (T 7 i)), .int (iI ((T 5 i) / 100)), .int (iI sc), .ref (ad 4)] (Nat.le_of_ble_eq_true rfl) rfl dX11_unlikeness_40 (fun r w1 hq H locs h => ?_)
          obtain ⟨rfl, _, rfl, rfl⟩ := hq
          show W p l e r_c_X11_unlikeness s m args below meth c _ _ 0 0 Qf (F0 m 43 ls [.int (iI ((T 5 i) / 100)), .int (iI (T 7 i)), .int (iI ((T 5 i) / 100)), .int (iI sc), .ref (ad 4)])
          refine lv_aload_n B.1 B.2.1 dX11_unlikeness_43 rfl (lv_at hl 0 rfl) ?_
          refine y_getX B h kX4 (1000 + 16 * i.toNat + 4) fo24 4 (z := (T 8 i)) rfl m_532 (by decide) dX11_unlikeness_44 ?_
          have tb27 := pi_8 (CW.pi hC) i
          have tb28 := pi_n (CW.pi hC) i
          refine y_cV B h kX6 4 (CW.f hC 4 _ rfl) k_X6_turnInto rfl (c_X6_turnInto l D Zk ca T G u ad _ hC sc (((T 5 i) / 100)) ((T 7 i)) (((T 5 i) / 100)) ((T 8 i))  (by omega) (by omega) (by omega) (by omega) (by omega)) m_957 rfl (by decide) hl.1 [] (Nat.le_of_ble_eq_true rfl) rfl dX11_unlikeness_47 (fun r w1 hq H locs h => ?_)
          obtain ⟨rfl, _, rfl, ⟨rfl, b29⟩ | ⟨rfl, b29⟩⟩ := hq
          · show W p l e r_c_X11_unlikeness s m args below meth c _ _ 0 0 Qf (F0 m 50 ls [.int (iI 1)])
            refine x_if_eq B (by omega) (tgt := 57) dX11_unlikeness_50 (by decide) (fun c30 => ?_) (fun c30 => ?_)
            · exact absurd c30 (by omega)
            · refine x_iconst B dX11_unlikeness_53 ?_
              refine lv_goto (tgt := 58) B.1 B.2.1 dX11_unlikeness_54 (by decide) ?_
              refine lv_istore (lv' := [(4, .int (iI 1)), (3, .ref (G 4 i)), (2, .int (iI i)), (0, .ref (ad 0)), (1, .int (iI sc))]) B.1 B.2.1 dX11_unlikeness_58 hl (by decide) rfl (fun ls hl => ?_)
              refine lv_aload_n B.1 B.2.1 dX11_unlikeness_60 rfl (lv_at hl 3 rfl) ?_
              refine y_getR B h kX11 0 (CW.f hC 0 _ rfl) 12 (b := ad 32) rfl m_373 (by decide) dX11_unlikeness_61 ?_
              refine lv_iload_n B.1 B.2.1 dX11_unlikeness_64 rfl (lv_at hl 2 rfl) ?_
              refine lv_iload B.1 B.2.1 dX11_unlikeness_65 (lv_at hl 0 rfl) ?_
              refine x_if_eq B (by omega) (tgt := 82) dX11_unlikeness_67 (by decide) (fun c31 => ?_) (fun c31 => ?_)
              · exact absurd c31 (by omega)
              · refine lv_aload_n B.1 B.2.1 dX11_unlikeness_70 rfl (lv_at hl 3 rfl) ?_
                refine y_getR B h kX11 0 (CW.f hC 0 _ rfl) 1 (b := ad 4) rfl m_362 (by decide) dX11_unlikeness_71 ?_
                refine y_getR B h kX6 4 (CW.f hC 4 _ rfl) 6 (b := ad 11) rfl m_193 (by decide) dX11_unlikeness_74 ?_
                refine x_iconst B dX11_unlikeness_77 ?_
                refine y_iald B h 11 (CW.f hC 11 _ rfl) (by omega) dX11_unlikeness_78 (fun fz32 hfz32 => ?_)
                refine x_name (fun z32 hz32 ez32 => ?_)
                refine lv_goto (tgt := 83) B.1 B.2.1 dX11_unlikeness_79 (by decide) ?_
                refine y_iastS B h 32 (CW.f hC 32 _ rfl) (by omega) (fun _ _ => trivial) dX11_unlikeness_83 (fun H locs h => ?_)
                refine lv_iinc (v := iI (i + 1)) (lv' := [(2, .int (iI (i + 1))), (4, .int (iI 1)), (3, .ref (G 4 i)), (0, .ref (ad 0)), (1, .int (iI sc))]) B.1 B.2.1 dX11_unlikeness_84 hl (k := 2) rfl (iI_add _ _) (by decide) rfl (fun ls hl => ?_)
                refine lv_goto (tgt := 2) B.1 B.2.1 dX11_unlikeness_87 (by decide) ?_
                exact ih2 ((i + 1)) (by omega) (by omega) _ _ _ h (lv_sub hl [0, 3, 4] rfl)
          · show W p l e r_c_X11_unlikeness s m args below meth c _ _ 0 0 Qf (F0 m 50 ls [.int (iI 0)])
            refine x_if_eq B (by omega) (tgt := 57) dX11_unlikeness_50 (by decide) (fun c33 => ?_) (fun c33 => ?_)
            · refine x_iconst B dX11_unlikeness_57 ?_
              refine lv_istore (lv' := [(4, .int (iI 0)), (3, .ref (G 4 i)), (2, .int (iI i)), (0, .ref (ad 0)), (1, .int (iI sc))]) B.1 B.2.1 dX11_unlikeness_58 hl (by decide) rfl (fun ls hl => ?_)
              refine lv_aload_n B.1 B.2.1 dX11_unlikeness_60 rfl (lv_at hl 3 rfl) ?_
              refine y_getR B h kX11 0 (CW.f hC 0 _ rfl) 12 (b := ad 32) rfl m_373 (by decide) dX11_unlikeness_61 ?_
              refine lv_iload_n B.1 B.2.1 dX11_unlikeness_64 rfl (lv_at hl 2 rfl) ?_
              refine lv_iload B.1 B.2.1 dX11_unlikeness_65 (lv_at hl 0 rfl) ?_
              refine x_if_eq B (by omega) (tgt := 82) dX11_unlikeness_67 (by decide) (fun c34 => ?_) (fun c34 => ?_)
              · refine x_iconst B dX11_unlikeness_82 ?_
                refine y_iastS B h 32 (CW.f hC 32 _ rfl) (by omega) (fun _ _ => trivial) dX11_unlikeness_83 (fun H locs h => ?_)
                refine lv_iinc (v := iI (i + 1)) (lv' := [(2, .int (iI (i + 1))), (4, .int (iI 0)), (3, .ref (G 4 i)), (0, .ref (ad 0)), (1, .int (iI sc))]) B.1 B.2.1 dX11_unlikeness_84 hl (k := 2) rfl (iI_add _ _) (by decide) rfl (fun ls hl => ?_)
                refine lv_goto (tgt := 2) B.1 B.2.1 dX11_unlikeness_87 (by decide) ?_
                exact ih2 ((i + 1)) (by omega) (by omega) _ _ _ h (lv_sub hl [0, 3, 4] rfl)
              · exact absurd c34 (by omega)
            · exact absurd c33 (by omega)
  exact loop2 (((300 - 0 : Int)).toNat + 1) 0 (by omega) (Nat.lt_succ_self _) _ _ _ h (lv_sub hl [0, 1, 2] rfl)
abbrev r_c_X11_understood : Room := { frames := 35, cells := 0, slots := 0, locals := 851 }
set_option maxHeartbeats 4000000 in
set_option maxRecDepth 100000 in
theorem c_X11_understood (l : Launch) (D : va_G) (Zk : yK) (ca : Nat → ClassId) (T : Nat → Int → Int) (G : Nat → Int → Nat) (u : Int) (ad : Nat → Nat) (w : yW) (hC : CW ca T G u ad w) (n : Int) (sc : Int)  (hn : xr n) (hsc : 0 ≤ sc ∧ sc ≤ 1) : yC l D Zk ca yX11_understood cX11_understood 3 (some .boolean) r_c_X11_understood [.ref (ad 0), .int (iI n), .int (iI sc)] w (vI w (fun z => (z = 1 ∧ (True)) ∨ (z = 0 ∧ (True)))) := by
  refine yC.of2 "WindWords" (by decide) rfl (Nat.le_of_ble_eq_true rfl) ?_
  intro p e s m args below meth c A ls Qf B hnm h hl hQ
  have hl : lv_has ls 3 [(0, .ref (ad 0)), (1, .int (iI n)), (2, .int (iI sc))] := hl
  have hs := pi_s (CW.pi hC)
  refine lv_aload_n B.1 B.2.1 dX11_understood_0 rfl (lv_at hl 0 rfl) ?_
  refine y_getR B h kX11 0 (CW.f hC 0 _ rfl) 5 (b := ad 20) rfl m_366 (by decide) dX11_understood_1 ?_
  refine lv_iload_n B.1 B.2.1 dX11_understood_4 rfl (lv_at hl 1 rfl) ?_
  refine y_cV B h kX9 20 (CW.f hC 20 _ rfl) k_X9_split rfl (c_X9_split l D Zk ca T G u ad _ hC n  (by omega)) m_581 rfl (by decide) hl.1 [] (Nat.le_of_ble_eq_true rfl) rfl dX11_understood_5 (fun r w1 hq H locs h => ?_)
  obtain ⟨rfl, rfl⟩ := hq
  show W p l e r_c_X11_understood s m args below meth c _ _ 0 0 Qf (F0 m 8 ls [])
  refine lv_aload_n B.1 B.2.1 dX11_understood_8 rfl (lv_at hl 0 rfl) ?_
  refine lv_aload_n B.1 B.2.1 dX11_understood_9 rfl (lv_at hl 0 rfl) ?_
  refine y_getR B h kX11 0 (CW.f hC 0 _ rfl) 6 (b := ad 26) rfl m_367 (by decide) dX11_understood_10 ?_
  refine lv_aload_n B.1 B.2.1 dX11_understood_13 rfl (lv_at hl 0 rfl) ?_
  refine y_getR B h kX11 0 (CW.f hC 0 _ rfl) 5 (b := ad 20) rfl m_366 (by decide) dX11_understood_14 ?_
  refine lv_aload_n B.1 B.2.1 dX11_understood_17 rfl (lv_at hl 0 rfl) ?_
  refine y_get B h kX11 0 (CW.f hC 0 _ rfl) 16 (P := fU G u) rfl m_377 (by decide) dX11_understood_18 (fun v1 hv1 => ?_)
  obtain ⟨j2, hj2, rfl⟩ := hv1
  have fo3 := CW.ru hC j2 (by omega)
  refine lv_iload_n B.1 B.2.1 dX11_understood_21 rfl (lv_at hl 2 rfl) ?_
  refine y_cV B h kX1 26 (CW.f hC 26 _ rfl) k_X1_faultOf rfl (c_X1_faultOf l D Zk ca T G u ad _ hC j2 sc  (by omega) (by omega)) m_742 rfl (by decide) hl.1 [.ref (ad 0)] (Nat.le_of_ble_eq_true rfl) rfl dX11_understood_22 (fun r w1 hq H locs h => ?_)
  obtain ⟨rfl, z4, rfl, hz4⟩ := hq
  show W p l e r_c_X11_understood s m args below meth c _ _ 0 0 Qf (F0 m 25 ls [.int (iI z4), .ref (ad 0)])
  refine y_putS B h kX11 0 (CW.f hC 0 _ rfl) 18 (P := fG (-2147483648) 2147483647) rfl m_379 (by decide) ⟨_, rfl, by omega, by omega⟩ rfl rfl rfl dX11_understood_25 (fun H locs h => ?_)
  refine lv_aload_n B.1 B.2.1 dX11_understood_28 rfl (lv_at hl 0 rfl) ?_
  refine y_getR B h kX11 0 (CW.f hC 0 _ rfl) 5 (b := ad 20) rfl m_366 (by decide) dX11_understood_29 ?_
  refine x_iconst B dX11_understood_32 ?_
  refine y_putS B h kX9 20 (CW.f hC 20 _ rfl) 0 (P := fG 0 900) rfl m_289 (by decide) ⟨_, rfl, by omega, by omega⟩ rfl rfl rfl dX11_understood_33 (fun H locs h => ?_)
  refine lv_aload_n B.1 B.2.1 dX11_understood_36 rfl (lv_at hl 0 rfl) ?_
  refine y_getG B h kX11 0 (CW.f hC 0 _ rfl) 18 (lo := (-2147483648)) (hi := 2147483647) rfl m_379 (by decide) dX11_understood_37 (fun z5 z5a z5b => ?_)
  refine x_iconst B dX11_understood_40 ?_
  refine x_icmp_ne B (by omega) (tgt := 48) dX11_understood_41 (by decide) (fun c6 => ?_) (fun c6 => ?_)
  · refine x_iconst B dX11_understood_48 ?_
    refine y_rz B hQ h (by decide) (by decide) dX11_understood_49 ?_
    exact ⟨rfl, _, rfl, Or.inr ⟨rfl, (by first | omega | trivial | assumption)⟩⟩
  · refine x_iconst B dX11_understood_44 ?_
    refine lv_goto (tgt := 49) B.1 B.2.1 dX11_understood_45 (by decide) ?_
    refine y_rz B hQ h (by decide) (by decide) dX11_understood_49 ?_
    exact ⟨rfl, _, rfl, Or.inl ⟨rfl, (by first | omega | trivial | assumption)⟩⟩
