theorem k_X3_hold : xMV yX3_hold cX3_hold 7 none 4 := ⟨m_1001, m_1000, m_22, m_98, ⟨by decide +kernel, by decide +kernel, by decide +kernel⟩⟩
theorem k_X4_year : xMV yX4_year cX4_year 1 (some .int) 0 := ⟨m_1015, m_1013, m_1014, m_107, ⟨by decide +kernel, by decide +kernel, by decide +kernel⟩⟩
theorem k_X4_mix : xMV yX4_mix cX4_mix 1 (some .int) 0 := ⟨m_1020, m_1018, m_1019, m_107, ⟨by decide +kernel, by decide +kernel, by decide +kernel⟩⟩
theorem k_X6_numberFor : xMV yX6_numberFor cX6_numberFor 7 (some .int) 5 := ⟨m_885, m_883, m_884, m_97, ⟨by decide +kernel, by decide +kernel, by decide +kernel⟩⟩
theorem k_X3_join : xMV yX3_join cX3_join 7 none 3 := ⟨m_1029, m_1028, m_25, m_98, ⟨by decide +kernel, by decide +kernel, by decide +kernel⟩⟩
theorem k_X3_closes : xMV yX3_closes cX3_closes 4 (some .boolean) 0 := ⟨m_1025, m_1024, m_24, m_98, ⟨by decide +kernel, by decide +kernel, by decide +kernel⟩⟩
theorem k_X0_trustedMansAt : xMV yX0_trustedMansAt cX0_trustedMansAt 3 (some (.object "WindWords$Reading")) 1 := ⟨m_979, m_977, m_978, m_96, ⟨by decide +kernel, by decide +kernel, by decide +kernel⟩⟩
theorem k_X0_mansBeside : xMV yX0_mansBeside cX0_mansBeside 4 (some (.object "WindWords$Reading")) 2 := ⟨m_859, m_857, m_858, m_96, ⟨by decide +kernel, by decide +kernel, by decide +kernel⟩⟩
theorem k_X3_hear : xMV yX3_hear cX3_hear 4 none 3 := ⟨m_995, m_994, m_21, m_98, ⟨by decide +kernel, by decide +kernel, by decide +kernel⟩⟩
theorem k_X0_cupBeside : xMV yX0_cupBeside cX0_cupBeside 4 (some (.object "WindWords$Reading")) 2 := ⟨m_1007, m_1005, m_1006, m_96, ⟨by decide +kernel, by decide +kernel, by decide +kernel⟩⟩
theorem k_X3_hearCup : xMV yX3_hearCup cX3_hearCup 6 none 4 := ⟨m_1011, m_1010, m_23, m_98, ⟨by decide +kernel, by decide +kernel, by decide +kernel⟩⟩
abbrev r_c_X3_hold : Room := { frames := 1, cells := 0, slots := 0, locals := 21 }
set_option maxHeartbeats 4000000 in
set_option maxRecDepth 100000 in
theorem c_X3_hold (l : Launch) (D : va_G) (Zk : yK) (ca : Nat → ClassId) (T : Nat → Int → Int) (G : Nat → Int → Nat) (u : Int) (ad : Nat → Nat) (w : yW) (hC : CW ca T G u ad w) (one : Int) (other : Int) (d : Int) (er : Int)  (hone : xr one) (hother : xr other) (hd : -500 ≤ d ∧ d ≤ 500) (her : 0 ≤ er ∧ er ≤ 5) : yC l D Zk ca yX3_hold cX3_hold 7 none r_c_X3_hold [.ref (ad 12), .int (iI one), .int (iI other), .int (iI d), .int (iI er)] w (vV w) := by
  refine yC.of2 "WindWords$Leans" (by decide) rfl (Nat.le_of_ble_eq_true rfl) ?_
  intro p e s m args below meth c A ls Qf B hnm h hl hQ
  have hl : lv_has ls 7 [(0, .ref (ad 12)), (1, .int (iI one)), (2, .int (iI other)), (3, .int (iI d)), (4, .int (iI er))] := hl
  have hs := pi_s (CW.pi hC)
  refine lv_iload_n B.1 B.2.1 dX3_hold_0 rfl (lv_at hl 1 rfl) ?_
  refine x_bipush B (by decide) dX3_hold_1 ?_
  refine y_cSN (host := "WindWords") B h k_X11_within (c_X11_within l D Zk ca _ one 16  (by omega) (by omega)) (by decide) rfl (by decide) hl.1 [] (Nat.le_of_ble_eq_true rfl) rfl dX3_hold_3 (fun r w1 hq H locs h => ?_)
  obtain ⟨rfl, _, rfl, ⟨rfl, b1⟩ | ⟨rfl, b1⟩⟩ := hq
  · show W p l e r_c_X3_hold s m args below meth c _ _ 0 0 Qf (F0 m 6 ls [.int (iI 1)])
    refine x_if_eq B (by omega) (tgt := 76) dX3_hold_6 (by decide) (fun c2 => ?_) (fun c2 => ?_)
    · exact absurd c2 (by omega)
    · refine lv_iload_n B.1 B.2.1 dX3_hold_9 rfl (lv_at hl 2 rfl) ?_
      refine x_bipush B (by decide) dX3_hold_10 ?_
      refine y_cSN (host := "WindWords") B h k_X11_within (c_X11_within l D Zk ca _ other 16  (by omega) (by omega)) (by decide) rfl (by decide) hl.1 [] (Nat.le_of_ble_eq_true rfl) rfl dX3_hold_12 (fun r w1 hq H locs h => ?_)
      obtain ⟨rfl, _, rfl, ⟨rfl, b3⟩ | ⟨rfl, b3⟩⟩ := hq
      · show W p l e r_c_X3_hold s m args below meth c _ _ 0 0 Qf (F0 m 15 ls [.int (iI 1)])
        refine x_if_eq B (by omega) (tgt := 76) dX3_hold_15 (by decide) (fun c4 => ?_) (fun c4 => ?_)
        · exact absurd c4 (by omega)
        · refine lv_iload_n B.1 B.2.1 dX3_hold_18 rfl (lv_at hl 1 rfl) ?_
          refine x_bipush B (by decide) dX3_hold_19 ?_
          refine x_imul B dX3_hold_21 ?_
          refine lv_iload_n B.1 B.2.1 dX3_hold_22 rfl (lv_at hl 2 rfl) ?_
          refine x_iadd B dX3_hold_23 ?_
          refine lv_istore (lv' := [(5, .int (iI ((one * 17) + other))), (0, .ref (ad 12)), (1, .int (iI one)), (2, .int (iI other)), (3, .int (iI d)), (4, .int (iI er))]) B.1 B.2.1 dX3_hold_24 hl (by decide) rfl (fun ls hl => ?_)
          refine lv_iload_n B.1 B.2.1 dX3_hold_26 rfl (lv_at hl 3 rfl) ?_
          refine x_bipush B (by decide) dX3_hold_27 ?_
          refine x_imul B dX3_hold_29 ?_
          refine lv_iload_n B.1 B.2.1 dX3_hold_30 rfl (lv_at hl 2 rfl) ?_
          refine x_iadd B dX3_hold_31 ?_
          refine lv_istore (lv' := [(6, .int (iI ((other * 17) + one))), (5, .int (iI ((one * 17) + other))), (0, .ref (ad 12)), (1, .int (iI one)), (2, .int (iI other)), (3, .int (iI d)), (4, .int (iI er))]) B.1 B.2.1 dX3_hold_32 hl (by decide) rfl (fun ls hl => ?_)
          refine lv_aload_n B.1 B.2.1 dX3_hold_34 rfl (lv_at hl 2 rfl) ?_
          refine y_getR B h kX3 12 (CW.f hC 12 _ rfl) 0 (b := ad 13) rfl m_220 (by decide) dX3_hold_35 ?_
          refine lv_iload B.1 B.2.1 dX3_hold_38 (lv_at hl 1 rfl) ?_
          refine lv_aload_n B.1 B.2.1 dX3_hold_40 rfl (lv_at hl 2 rfl) ?_
          refine y_getR B h kX3 12 (CW.f hC 12 _ rfl) 0 (b := ad 13) rfl m_220 (by decide) dX3_hold_41 ?_
          refine lv_iload B.1 B.2.1 dX3_hold_44 (lv_at hl 1 rfl) ?_
          refine y_iald B h 13 (CW.f hC 13 _ rfl) (by omega) dX3_hold_46 (fun fz5 hfz5 => ?_)
          refine x_name (fun z5 hz5 ez5 => ?_)
          refine lv_iload_n B.1 B.2.1 dX3_hold_47 rfl (lv_at hl 5 rfl) ?_
          refine lv_iload B.1 B.2.1 dX3_hold_48 (lv_at hl 6 rfl) ?_
          refine x_iadd B dX3_hold_50 ?_
          refine x_min B (by omega) m_1003 m_586 m_106 m_587 hl.1 (Nat.le_of_ble_eq_true rfl) (by decide) dX3_hold_51 ?_
          refine y_iastS B h 13 (CW.f hC 13 _ rfl) (by omega) (fun _ _ => trivial) dX3_hold_54 (fun H locs h => ?_)
          refine lv_aload_n B.1 B.2.1 dX3_hold_55 rfl (lv_at hl 2 rfl) ?_
          refine y_getR B h kX3 12 (CW.f hC 12 _ rfl) 0 (b := ad 13) rfl m_220 (by decide) dX3_hold_56 ?_
          refine lv_iload B.1 B.2.1 dX3_hold_59 (lv_at hl 0 rfl) ?_
          refine lv_aload_n B.1 B.2.1 dX3_hold_61 rfl (lv_at hl 2 rfl) ?_
          refine y_getR B h kX3 12 (CW.f hC 12 _ rfl) 0 (b := ad 13) rfl m_220 (by decide) dX3_hold_62 ?_
          refine lv_iload B.1 B.2.1 dX3_hold_65 (lv_at hl 0 rfl) ?_
          refine y_iald B h 13 (CW.f hC 13 _ rfl) (by omega) dX3_hold_67 (fun fz6 hfz6 => ?_)
          refine x_name (fun z6 hz6 ez6 => ?_)
          refine lv_iload B.1 B.2.1 dX3_hold_68 (lv_at hl 6 rfl) ?_
          refine lv_iload_n B.1 B.2.1 dX3_hold_70 rfl (lv_at hl 5 rfl) ?_
          refine x_isub B dX3_hold_71 ?_
          refine x_min B (by omega) m_1003 m_586 m_106 m_587 hl.1 (Nat.le_of_ble_eq_true rfl) (by decide) dX3_hold_72 ?_
          refine y_iastS B h 13 (CW.f hC 13 _ rfl) (by omega) (fun _ _ => trivial) dX3_hold_75 (fun H locs h => ?_)
          refine y_rv B hQ h (by decide) dX3_hold_76 ?_
          exact ⟨rfl, rfl⟩
      · show W p l e r_c_X3_hold s m args below meth c _ _ 0 0 Qf (F0 m 15 ls [.int (iI 0)])
        refine x_if_eq B (by omega) (tgt := 76) dX3_hold_15 (by decide) (fun c7 => ?_) (fun c7 => ?_)
        · refine y_rv B hQ h (by decide) dX3_hold_76 ?_
          exact ⟨rfl, rfl⟩
        · exact absurd c7 (by omega)
  · show W p l e r_c_X3_hold s m args below meth c _ _ 0 0 Qf (F0 m 6 ls [.int (iI 0)])
    refine x_if_eq B (by omega) (tgt := 76) dX3_hold_6 (by decide) (fun c8 => ?_) (fun c8 => ?_)
    · refine y_rv B hQ h (by decide) dX3_hold_76 ?_
      exact ⟨rfl, rfl⟩
    · exact absurd c8 (by omega)
abbrev r_c_X3_hear : Room := { frames := 3, cells := 0, slots := 0, locals := 63 }
set_option maxHeartbeats 4000000 in
set_option maxRecDepth 100000 in
theorem c_X3_hear (l : Launch) (D : va_G) (Zk : yK) (ca : Nat → ClassId) (T : Nat → Int → Int) (G : Nat → Int → Nat) (u : Int) (ad : Nat → Nat) (w : yW) (hC : CW ca T G u ad w) (k : Int) (j : Int)  (hk : 0 ≤ k ∧ k < T 0 2) (hj : 0 ≤ j ∧ j < T 0 2) : yC l D Zk ca yX3_hear cX3_hear 4 none r_c_X3_hear [.ref (ad 12), .ref (G 4 k), .ref (G 4 j), .ref (ad 1)] w (vV w) := by
  refine yC.of2 "WindWords$Leans" (by decide) rfl (Nat.le_of_ble_eq_true rfl) ?_
  intro p e s m args below meth c A ls Qf B hnm h hl hQ
  have hl : lv_has ls 4 [(0, .ref (ad 12)), (1, .ref (G 4 k)), (2, .ref (G 4 j)), (3, .ref (ad 1))] := hl
  have hs := pi_s (CW.pi hC)
  have fo1 := CW.rd hC k (by omega)
  have fo2 := CW.rd hC j (by omega)
  refine lv_aload_n B.1 B.2.1 dX3_hear_0 rfl (lv_at hl 2 rfl) ?_
  refine lv_ifnull B.1 B.2.1 dX3_hear_1 ?_
  refine lv_aload_n B.1 B.2.1 dX3_hear_4 rfl (lv_at hl 3 rfl) ?_
  refine lv_aload_n B.1 B.2.1 dX3_hear_5 rfl (lv_at hl 2 rfl) ?_
  refine y_cV B h kX4 (1000 + 16 * j.toNat + 4) fo2 k_X4_writer rfl (c_X4_writer l D Zk ca T G u ad _ hC j  (by omega)) m_996 rfl (by decide) hl.1 [.ref (ad 1)] (Nat.le_of_ble_eq_true rfl) rfl dX3_hear_6 (fun r w1 hq H locs h => ?_)
  obtain ⟨rfl, _, rfl, rfl⟩ := hq
  have tb3 := pi_3 (CW.pi hC) (1000 * T 4 j + T 5 j)
  show W p l e r_c_X3_hear s m args below meth c _ _ 0 0 Qf (F0 m 9 ls [.int (iI (T 3 (1000 * T 4 j + T 5 j))), .ref (ad 1)])
  refine y_cV B h kX0 1 (CW.f hC 1 _ rfl) k_X0_isTrusted rfl (c_X0_isTrusted l D Zk ca T G u ad _ hC ((T 3 (1000 * T 4 j + T 5 j)))  (by omega)) m_997 rfl (by decide) hl.1 [] (Nat.le_of_ble_eq_true rfl) rfl dX3_hear_9 (fun r w1 hq H locs h => ?_)
  obtain ⟨rfl, _, rfl, ⟨rfl, b4⟩ | ⟨rfl, b4⟩⟩ := hq
  · show W p l e r_c_X3_hear s m args below meth c _ _ 0 0 Qf (F0 m 12 ls [.int (iI 1)])
    refine x_if_eq B (by omega) (tgt := 51) dX3_hear_12 (by decide) (fun c5 => ?_) (fun c5 => ?_)
    · exact absurd c5 (by omega)
    · refine lv_aload_n B.1 B.2.1 dX3_hear_15 rfl (lv_at hl 2 rfl) ?_
      refine y_cV B h kX4 (1000 + 16 * j.toNat + 4) fo2 k_X4_writer rfl (c_X4_writer l D Zk ca T G u ad _ hC j  (by omega)) m_996 rfl (by decide) hl.1 [] (Nat.le_of_ble_eq_true rfl) rfl dX3_hear_16 (fun r w1 hq H locs h => ?_)
      obtain ⟨rfl, _, rfl, rfl⟩ := hq
      show W p l e r_c_X3_hear s m args below meth c _ _ 0 0 Qf (F0 m 19 ls [.int (iI (T 3 (1000 * T 4 j + T 5 j)))])
      refine lv_aload_n B.1 B.2.1 dX3_hear_19 rfl (lv_at hl 1 rfl) ?_
      refine y_cV B h kX4 (1000 + 16 * k.toNat + 4) fo1 k_X4_writer rfl (c_X4_writer l D Zk ca T G u ad _ hC k  (by omega)) m_996 rfl (by decide) hl.1 [.int (iI (T 3 (1000 * T 4 j + T 5 j)))] (Nat.le_of_ble_eq_true rfl) rfl dX3_hear_20 (fun r w1 hq H locs h => ?_)
      obtain ⟨rfl, _, rfl, rfl⟩ := hq
      have tb6 := pi_3 (CW.pi hC) (1000 * T 4 k + T 5 k)
      show W p l e r_c_X3_hear s m args below meth c _ _ 0 0 Qf (F0 m 23 ls [.int (iI (T 3 (1000 * T 4 k + T 5 k))), .int (iI (T 3 (1000 * T 4 j + T 5 j)))])
      refine x_icmp_eq B (by omega) (tgt := 51) dX3_hear_23 (by decide) (fun c7 => ?_) (fun c7 => ?_)
      · refine y_rv B hQ h (by decide) dX3_hear_51 ?_
        exact ⟨rfl, rfl⟩
      · refine lv_aload_n B.1 B.2.1 dX3_hear_26 rfl (lv_at hl 0 rfl) ?_
        refine lv_aload_n B.1 B.2.1 dX3_hear_27 rfl (lv_at hl 1 rfl) ?_
        refine y_cV B h kX4 (1000 + 16 * k.toNat + 4) fo1 k_X4_writer rfl (c_X4_writer l D Zk ca T G u ad _ hC k  (by omega)) m_996 rfl (by decide) hl.1 [.ref (ad 12)] (Nat.le_of_ble_eq_true rfl) rfl dX3_hear_28 (fun r w1 hq H locs h => ?_)
        obtain ⟨rfl, _, rfl, rfl⟩ := hq
        show W p l e r_c_X3_hear s m args below meth c _ _ 0 0 Qf (F0 m 31 ls [.int (iI (T 3 (1000 * T 4 k + T 5 k))), .ref (ad 12)])
        refine lv_aload_n B.1 B.2.1 dX3_hear_31 rfl (lv_at hl 2 rfl) ?_
        refine y_cV B h kX4 (1000 + 16 * j.toNat + 4) fo2 k_X4_writer rfl (c_X4_writer l D Zk ca T G u ad _ hC j  (by omega)) m_996 rfl (by decide) hl.1 [.int (iI (T 3 (1000 * T 4 k + T 5 k))), .ref (ad 12)] (Nat.le_of_ble_eq_true rfl) rfl dX3_hear_32 (fun r w1 hq H locs h => ?_)
        obtain ⟨rfl, _, rfl, rfl⟩ := hq
        show W p l e r_c_X3_hear s m args below meth c _ _ 0 0 Qf (F0 m 35 ls [.int (iI (T 3 (1000 * T 4 j + T 5 j))), .int (iI (T 3 (1000 * T 4 k + T 5 k))), .ref (ad 12)])
        refine lv_aload_n B.1 B.2.1 dX3_hear_35 rfl (lv_at hl 1 rfl) ?_
        refine y_getX B h kX4 (1000 + 16 * k.toNat + 4) fo1 4 (z := (T 8 k)) rfl m_530 (by decide) dX3_hear_36 ?_
        have tb8 := pi_8 (CW.pi hC) k
        have tb9 := pi_n (CW.pi hC) k
        refine lv_aload_n B.1 B.2.1 dX3_hear_39 rfl (lv_at hl 2 rfl) ?_
        refine y_getX B h kX4 (1000 + 16 * j.toNat + 4) fo2 4 (z := (T 8 j)) rfl m_530 (by decide) dX3_hear_40 ?_
        have tb10 := pi_8 (CW.pi hC) j
        have tb11 := pi_n (CW.pi hC) j
        refine x_isub B dX3_hear_43 ?_
        refine lv_aload_n B.1 B.2.1 dX3_hear_44 rfl (lv_at hl 3 rfl) ?_
        refine y_getX B h kX0 1 (CW.f hC 1 _ rfl) 8 (z := (T 0 5)) rfl m_157 (by decide) dX3_hear_45 ?_
        refine y_cV B h kX3 12 (CW.f hC 12 _ rfl) k_X3_hold rfl (c_X3_hold l D Zk ca T G u ad _ hC ((T 3 (1000 * T 4 k + T 5 k))) ((T 3 (1000 * T 4 j + T 5 j))) (((T 8 k) - (T 8 j))) ((T 0 5))  (by omega) (by omega) (by omega) (by omega)) m_998 rfl (by decide) hl.1 [] (Nat.le_of_ble_eq_true rfl) rfl dX3_hear_48 (fun r w1 hq H locs h => ?_)
        obtain ⟨rfl, rfl⟩ := hq
        show W p l e r_c_X3_hear s m args below meth c _ _ 0 0 Qf (F0 m 51 ls [])
        refine y_rv B hQ h (by decide) dX3_hear_51 ?_
        exact ⟨rfl, rfl⟩
  · show W p l e r_c_X3_hear s m args below meth c _ _ 0 0 Qf (F0 m 12 ls [.int (iI 0)])
    refine x_if_eq B (by omega) (tgt := 51) dX3_hear_12 (by decide) (fun c12 => ?_) (fun c12 => ?_)
    · refine y_rv B hQ h (by decide) dX3_hear_51 ?_
      exact ⟨rfl, rfl⟩
    · exact absurd c12 (by omega)
abbrev r_c_X3_hear_N : Room := { frames := 0, cells := 0, slots := 0, locals := 0 }
set_option maxHeartbeats 4000000 in
set_option maxRecDepth 100000 in
theorem c_X3_hear_N (l : Launch) (D : va_G) (Zk : yK) (ca : Nat → ClassId) (T : Nat → Int → Int) (G : Nat → Int → Nat) (u : Int) (ad : Nat → Nat) (w : yW) (hC : CW ca T G u ad w) (k : Int)  (hk : 0 ≤ k ∧ k < T 0 2) : yC l D Zk ca yX3_hear cX3_hear 4 none r_c_X3_hear_N [.ref (ad 12), .ref (G 4 k), .null, .ref (ad 1)] w (vV w) := by
  refine yC.of2 "WindWords$Leans" (by decide) rfl (Nat.le_of_ble_eq_true rfl) ?_
  intro p e s m args below meth c A ls Qf B hnm h hl hQ
  have hl : lv_has ls 4 [(0, .ref (ad 12)), (1, .ref (G 4 k)), (2, .null), (3, .ref (ad 1))] := hl
  have hs := pi_s (CW.pi hC)
  have fo1 := CW.rd hC k (by omega)
  refine lv_aload_nN B.1 B.2.1 dX3_hear_0 rfl (lv_at hl 2 rfl) ?_
  refine lv_ifnullN (tgt := 51) B.1 B.2.1 dX3_hear_1 (by decide) ?_
  refine y_rv B hQ h (by decide) dX3_hear_51 ?_
  exact ⟨rfl, rfl⟩
abbrev r_c_X3_hearCup : Room := { frames := 4, cells := 0, slots := 0, locals := 101 }
set_option maxHeartbeats 4000000 in
set_option maxRecDepth 100000 in
theorem c_X3_hearCup (l : Launch) (D : va_G) (Zk : yK) (ca : Nat → ClassId) (T : Nat → Int → Int) (G : Nat → Int → Nat) (u : Int) (ad : Nat → Nat) (w : yW) (hC : CW ca T G u ad w) (k : Int) (j : Int)  (hk : 0 ≤ k ∧ k < T 0 2) (hj : 0 ≤ j ∧ j < T 0 2) : yC l D Zk ca yX3_hearCup cX3_hearCup 6 none r_c_X3_hearCup [.ref (ad 12), .ref (G 4 k), .ref (G 4 j), .ref (ad 1), .ref (ad 4)] w (vV w) := by
  refine yC.of2 "WindWords$Leans" (by decide) rfl (Nat.le_of_ble_eq_true rfl) ?_
  intro p e s m args below meth c A ls Qf B hnm h hl hQ
  have hl : lv_has ls 6 [(0, .ref (ad 12)), (1, .ref (G 4 k)), (2, .ref (G 4 j)), (3, .ref (ad 1)), (4, .ref (ad 4))] := hl
  have hs := pi_s (CW.pi hC)
  have fo1 := CW.rd hC k (by omega)
  have fo2 := CW.rd hC j (by omega)
  refine lv_aload_n B.1 B.2.1 dX3_hearCup_0 rfl (lv_at hl 2 rfl) ?_
  refine lv_ifnull B.1 B.2.1 dX3_hearCup_1 ?_
  refine lv_aload B.1 B.2.1 dX3_hearCup_4 (lv_at hl 4 rfl) ?_
  refine lv_aload B.1 B.2.1 dX3_hearCup_6 (lv_at hl 4 rfl) ?_
  refine lv_aload_n B.1 B.2.1 dX3_hearCup_8 rfl (lv_at hl 1 rfl) ?_
  refine y_cV B h kX4 (1000 + 16 * k.toNat + 4) fo1 k_X4_year rfl (c_X4_year l D Zk ca T G u ad _ hC k  (by omega)) m_1012 rfl (by decide) hl.1 [.ref (ad 4), .ref (ad 4)] (Nat.le_of_ble_eq_true rfl) rfl dX3_hearCup_9 (fun r w1 hq H locs h => ?_)
  obtain ⟨rfl, _, rfl, rfl⟩ := hq
  have tb3 := pi_5 (CW.pi hC) k
  show W p l e r_c_X3_hearCup s m args below meth c _ _ 0 0 Qf (F0 m 12 ls [.int (iI ((T 5 k) / 100)), .ref (ad 4), .ref (ad 4)])
  refine y_cV B h kX6 4 (CW.f hC 4 _ rfl) k_X6_ofYear rfl (c_X6_ofYear l D Zk ca T G u ad _ hC (((T 5 k) / 100))  (by omega)) m_1016 rfl (by decide) hl.1 [.ref (ad 4)] (Nat.le_of_ble_eq_true rfl) rfl dX3_hearCup_12 (fun r w1 hq H locs h => ?_)
  obtain ⟨rfl, z4, rfl, hz4⟩ := hq
  show W p l e r_c_X3_hearCup s m args below meth c _ _ 0 0 Qf (F0 m 15 ls [.int (iI z4), .ref (ad 4)])
  refine lv_aload_n B.1 B.2.1 dX3_hearCup_15 rfl (lv_at hl 1 rfl) ?_
  refine y_getX B h kX4 (1000 + 16 * k.toNat + 4) fo1 3 (z := (T 7 k)) rfl m_526 (by decide) dX3_hearCup_16 ?_
  have tb5 := pi_7 (CW.pi hC) k
  refine lv_aload_n B.1 B.2.1 dX3_hearCup_19 rfl (lv_at hl 2 rfl) ?_
  refine y_getX B h kX4 (1000 + 16 * j.toNat + 4) fo2 4 (z := (T 8 j)) rfl m_530 (by decide) dX3_hearCup_20 ?_
  have tb6 := pi_8 (CW.pi hC) j
  have tb7 := pi_n (CW.pi hC) j
  refine lv_aload_n B.1 B.2.1 dX3_hearCup_23 rfl (lv_at hl 1 rfl) ?_
  refine y_cV B h kX4 (1000 + 16 * k.toNat + 4) fo1 k_X4_mix rfl (c_X4_mix l D Zk ca T G u ad _ hC k  (by omega)) m_1017 rfl (by decide) hl.1 [.int (iI (T 8 j)), .int (iI (T 7 k)), .int (iI z4), .ref (ad 4)] (Nat.le_of_ble_eq_true rfl) rfl dX3_hearCup_24 (fun r w1 hq H locs h => ?_)
  obtain ⟨rfl, _, rfl, rfl⟩ := hq
  have tb8 := pi_1 (CW.pi hC) (T 4 k)
  have tb9 := pi_4 (CW.pi hC) k
  have tb10 := pi_9 (CW.pi hC) k
  show W p l e r_c_X3_hearCup s m args below meth c _ _ 0 0 Qf (F0 m 27 ls [.int (iI ((10 * (T 1 (T 4 k))) + (T 9 k))), .int (iI (T 8 j)), .int (iI (T 7 k)), .int (iI z4), .ref (ad 4)])
  refine lv_aload_n B.1 B.2.1 dX3_hearCup_27 rfl (lv_at hl 1 rfl) ?_
  refine y_cV B h kX4 (1000 + 16 * k.toNat + 4) fo1 k_X4_year rfl (c_X4_year l D Zk ca T G u ad _ hC k  (by omega)) m_1012 rfl (by decide) hl.1 [.int (iI ((10 * (T 1 (T 4 k))) + (T 9 k))), .int (iI (T 8 j)), .int (iI (T 7 k)), .int (iI z4), .ref (ad 4)] (Nat.le_of_ble_eq_true rfl) rfl dX3_hearCup_28 (fun r w1 hq H locs h => ?_)
  obtain ⟨rfl, _, rfl, rfl⟩ := hq
  show W p l e r_c_X3_hearCup s m args below meth c _ _ 0 0 Qf (F0 m 31 ls [.int (iI ((T 5 k) / 100)), .int (iI ((10 * (T 1 (T 4 k))) + (T 9 k))), .int (iI (T 8 j)), .int (iI (T 7 k)), .int (iI z4), .ref (ad 4)])
  refine y_cV B h kX6 4 (CW.f hC 4 _ rfl) k_X6_numberFor rfl (c_X6_numberFor l D Zk ca T G u ad _ hC z4 ((T 7 k)) ((T 8 j)) (((10 * (T 1 (T 4 k))) + (T 9 k))) (((T 5 k) / 100))  (by omega) (by omega) (by omega) (by omega) (by omega)) m_1021 rfl (by decide) hl.1 [] (Nat.le_of_ble_eq_true rfl) rfl dX3_hearCup_31 (fun r w1 hq H locs h => ?_)
  obtain ⟨rfl, z11, rfl, hz11⟩ := hq
  show W p l e r_c_X3_hearCup s m args below meth c _ _ 0 0 Qf (F0 m 34 ls [.int (iI z11)])
  refine lv_istore (lv' := [(5, .int (iI z11)), (0, .ref (ad 12)), (1, .ref (G 4 k)), (2, .ref (G 4 j)), (3, .ref (ad 1)), (4, .ref (ad 4))]) B.1 B.2.1 dX3_hearCup_34 hl (by decide) rfl (fun ls hl => ?_)
  refine lv_aload_n B.1 B.2.1 dX3_hearCup_36 rfl (lv_at hl 1 rfl) ?_
  refine lv_aload_n B.1 B.2.1 dX3_hearCup_37 rfl (lv_at hl 2 rfl) ?_
  refine y_cV B h kX4 (1000 + 16 * k.toNat + 4) fo1 k_X4_writer rfl (c_X4_writer l D Zk ca T G u ad _ hC k  (by omega)) m_996 rfl (by decide) hl.1 [.ref (ad 12)] (Nat.le_of_ble_eq_true rfl) rfl dX3_hearCup_38 (fun r w1 hq H locs h => ?_)
  obtain ⟨rfl, _, rfl, rfl⟩ := hq
  have tb12 := pi_3 (CW.pi hC) (1000 * T 4 k + T 5 k)
  show W p l e r_c_X3_hearCup s m args below meth c _ _ 0 0 Qf (F0 m 41 ls [.int (iI (T 3 (1000 * T 4 k + T 5 k))), .ref (ad 12)])
  refine x_bipush B (by decide) dX3_hearCup_41 ?_
  refine lv_aload_n B.1 B.2.1 dX3_hearCup_43 rfl (lv_at hl 2 rfl) ?_
  refine y_getX B h kX4 (1000 + 16 * k.toNat + 4) fo1 4 (z := (T 8 k)) rfl m_530 (by decide) dX3_hearCup_44 ?_
  have tb13 := pi_8 (CW.pi hC) k
  have tb14 := pi_n (CW.pi hC) k
  refine lv_iload B.1 B.2.1 dX3_hearCup_47 (lv_at hl 0 rfl) ?_
  refine x_isub B dX3_hearCup_49 ?_
  refine lv_aload_n B.1 B.2.1 dX3_hearCup_50 rfl (lv_at hl 4 rfl) ?_
  refine y_getX B h kX0 1 (CW.f hC 1 _ rfl) 8 (z := (T 0 5)) rfl m_157 (by decide) dX3_hearCup_51 ?_
  refine y_cV B h kX3 12 (CW.f hC 12 _ rfl) k_X3_hold rfl (c_X3_hold l D Zk ca T G u ad _ hC ((T 3 (1000 * T 4 k + T 5 k))) 16 (((T 8 k) - z11)) ((T 0 5))  (by omega) (by omega) (by omega) (by omega)) m_998 rfl (by decide) hl.1 [] (Nat.le_of_ble_eq_true rfl) rfl dX3_hearCup_54 (fun r w1 hq H locs h => ?_)
  obtain ⟨rfl, rfl⟩ := hq
  show W p l e r_c_X3_hearCup s m args below meth c _ _ 0 0 Qf (F0 m 57 ls [])
  refine y_rv B hQ h (by decide) dX3_hearCup_57 ?_
  exact ⟨rfl, rfl⟩
abbrev r_c_X3_hearCup_N : Room := { frames := 0, cells := 0, slots := 0, locals := 0 }
set_option maxHeartbeats 4000000 in
set_option maxRecDepth 100000 in
theorem c_X3_hearCup_N (l : Launch) (D : va_G) (Zk : yK) (ca : Nat → ClassId) (T : Nat → Int → Int) (G : Nat → Int → Nat) (u : Int) (ad : Nat → Nat) (w : yW) (hC : CW ca T G u ad w) (k : Int)  (hk : 0 ≤ k ∧ k < T 0 2) : yC l D Zk ca yX3_hearCup cX3_hearCup 6 none r_c_X3_hearCup_N [.ref (ad 12), .ref (G 4 k), .null, .ref (ad 1), .ref (ad 4)] w (vV w) := by
  refine yC.of2 "WindWords$Leans" (by decide) rfl (Nat.le_of_ble_eq_true rfl) ?_
  intro p e s m args below meth c A ls Qf B hnm h hl hQ
  have hl : lv_has ls 6 [(0, .ref (ad 12)), (1, .ref (G 4 k)), (2, .null), (3, .ref (ad 1)), (4, .ref (ad 4))] := hl
  have hs := pi_s (CW.pi hC)
  have fo1 := CW.rd hC k (by omega)
  refine lv_aload_nN B.1 B.2.1 dX3_hearCup_0 rfl (lv_at hl 2 rfl) ?_
  refine lv_ifnullN (tgt := 57) B.1 B.2.1 dX3_hearCup_1 (by decide) ?_
  refine y_rv B hQ h (by decide) dX3_hearCup_57 ?_
  exact ⟨rfl, rfl⟩
abbrev r_c_X3_join : Room := { frames := 1, cells := 0, slots := 0, locals := 21 }
set_option maxHeartbeats 4000000 in
set_option maxRecDepth 100000 in
theorem c_X3_join (l : Launch) (D : va_G) (Zk : yK) (ca : Nat → ClassId) (T : Nat → Int → Int) (G : Nat → Int → Nat) (u : Int) (ad : Nat → Nat) (w : yW) (hC : CW ca T G u ad w) (one : Int) (by_ : Int) (other : Int)  (hone : 0 ≤ one ∧ one ≤ 16) (hby_ : 0 ≤ by_ ∧ by_ ≤ 16) (hother : 0 ≤ other ∧ other ≤ 16) : yC l D Zk ca yX3_join cX3_join 7 none r_c_X3_join [.ref (ad 12), .int (iI one), .int (iI by_), .int (iI other)] w (vV w) := by
  refine yC.of2 "WindWords$Leans" (by decide) rfl (Nat.le_of_ble_eq_true rfl) ?_
  intro p e s m args below meth c A ls Qf B hnm h hl hQ
  have hl : lv_has ls 7 [(0, .ref (ad 12)), (1, .int (iI one)), (2, .int (iI by_)), (3, .int (iI other))] := hl
  have hs := pi_s (CW.pi hC)
  refine lv_aload_n B.1 B.2.1 dX3_join_0 rfl (lv_at hl 0 rfl) ?_
  refine y_getR B h kX3 12 (CW.f hC 12 _ rfl) 0 (b := ad 13) rfl m_220 (by decide) dX3_join_1 ?_
  refine lv_iload_n B.1 B.2.1 dX3_join_4 rfl (lv_at hl 1 rfl) ?_
  refine x_bipush B (by decide) dX3_join_5 ?_
  refine x_imul B dX3_join_7 ?_
  refine lv_iload_n B.1 B.2.1 dX3_join_8 rfl (lv_at hl 2 rfl) ?_
  refine x_iadd B dX3_join_9 ?_
  refine y_iald B h 13 (CW.f hC 13 _ rfl) (by omega) dX3_join_10 (fun fz1 hfz1 => ?_)
  refine x_name (fun z1 hz1 ez1 => ?_)
  refine lv_istore (lv' := [(4, .int (iI z1)), (0, .ref (ad 12)), (1, .int (iI one)), (2, .int (iI by_)), (3, .int (iI other))]) B.1 B.2.1 dX3_join_11 hl (by decide) rfl (fun ls hl => ?_)
  refine lv_aload_n B.1 B.2.1 dX3_join_13 rfl (lv_at hl 1 rfl) ?_
  refine y_getR B h kX3 12 (CW.f hC 12 _ rfl) 0 (b := ad 13) rfl m_220 (by decide) dX3_join_14 ?_
  refine lv_iload_n B.1 B.2.1 dX3_join_17 rfl (lv_at hl 3 rfl) ?_
  refine x_bipush B (by decide) dX3_join_18 ?_
  refine x_imul B dX3_join_20 ?_
  refine lv_iload_n B.1 B.2.1 dX3_join_21 rfl (lv_at hl 4 rfl) ?_
  refine x_iadd B dX3_join_22 ?_
  refine y_iald B h 13 (CW.f hC 13 _ rfl) (by omega) dX3_join_23 (fun fz2 hfz2 => ?_)
  refine x_name (fun z2 hz2 ez2 => ?_)
  refine lv_istore (lv' := [(5, .int (iI z2)), (4, .int (iI z1)), (0, .ref (ad 12)), (1, .int (iI one)), (2, .int (iI by_)), (3, .int (iI other))]) B.1 B.2.1 dX3_join_24 hl (by decide) rfl (fun ls hl => ?_)
  refine lv_iload B.1 B.2.1 dX3_join_26 (lv_at hl 1 rfl) ?_
  refine x_ldc B (z := 1000000) m_975 (by decide) dX3_join_28 ?_
  refine x_icmp_ge B (by omega) (tgt := 70) dX3_join_30 (by decide) (fun c3 => ?_) (fun c3 => ?_)
  · refine y_rv B hQ h (by decide) dX3_join_70 ?_
    exact ⟨rfl, rfl⟩
  · refine lv_iload B.1 B.2.1 dX3_join_33 (lv_at hl 0 rfl) ?_
    refine x_ldc B (z := 1000000) m_975 (by decide) dX3_join_35 ?_
    refine x_icmp_ge B (by omega) (tgt := 70) dX3_join_37 (by decide) (fun c4 => ?_) (fun c4 => ?_)
    · refine y_rv B hQ h (by decide) dX3_join_70 ?_
      exact ⟨rfl, rfl⟩
    · refine lv_iload_n B.1 B.2.1 dX3_join_40 rfl (lv_at hl 3 rfl) ?_
      refine x_bipush B (by decide) dX3_join_41 ?_
      refine x_imul B dX3_join_43 ?_
      refine lv_iload_n B.1 B.2.1 dX3_join_44 rfl (lv_at hl 5 rfl) ?_
      refine x_iadd B dX3_join_45 ?_
      refine lv_istore (lv' := [(6, .int (iI ((one * 17) + other))), (5, .int (iI z2)), (4, .int (iI z1)), (0, .ref (ad 12)), (1, .int (iI one)), (2, .int (iI by_)), (3, .int (iI other))]) B.1 B.2.1 dX3_join_46 hl (by decide) rfl (fun ls hl => ?_)
      refine lv_aload_n B.1 B.2.1 dX3_join_48 rfl (lv_at hl 3 rfl) ?_
      refine y_getR B h kX3 12 (CW.f hC 12 _ rfl) 0 (b := ad 13) rfl m_220 (by decide) dX3_join_49 ?_
      refine lv_iload B.1 B.2.1 dX3_join_52 (lv_at hl 0 rfl) ?_
      refine lv_aload_n B.1 B.2.1 dX3_join_54 rfl (lv_at hl 3 rfl) ?_
      refine y_getR B h kX3 12 (CW.f hC 12 _ rfl) 0 (b := ad 13) rfl m_220 (by decide) dX3_join_55 ?_
      refine lv_iload B.1 B.2.1 dX3_join_58 (lv_at hl 0 rfl) ?_
      refine y_iald B h 13 (CW.f hC 13 _ rfl) (by omega) dX3_join_60 (fun fz5 hfz5 => ?_)
      refine x_name (fun z5 hz5 ez5 => ?_)
      refine lv_iload B.1 B.2.1 dX3_join_61 (lv_at hl 2 rfl) ?_
      refine lv_iload B.1 B.2.1 dX3_join_63 (lv_at hl 1 rfl) ?_
      refine x_iadd B dX3_join_65 ?_
      refine x_name (fun z6 hz6 ez6 => ?_)
      refine x_min B (by omega) m_1003 m_586 m_106 m_587 hl.1 (Nat.le_of_ble_eq_true rfl) (by decide) dX3_join_66 ?_
      refine y_iastS B h 13 (CW.f hC 13 _ rfl) (by omega) (fun _ _ => trivial) dX3_join_69 (fun H locs h => ?_)
      refine y_rv B hQ h (by decide) dX3_join_70 ?_
      exact ⟨rfl, rfl⟩
abbrev r_c_X3_closes : Room := { frames := 2, cells := 0, slots := 0, locals := 47 }
set_option maxHeartbeats 4000000 in
set_option maxRecDepth 100000 in
theorem c_X3_closes (l : Launch) (D : va_G) (Zk : yK) (ca : Nat → ClassId) (T : Nat → Int → Int) (G : Nat → Int → Nat) (u : Int) (ad : Nat → Nat) (w : yW) (hC : CW ca T G u ad w)    : yC l D Zk ca yX3_closes cX3_closes 4 (some .boolean) r_c_X3_closes [.ref (ad 12)] w (vI w (fun z => (z = 1 ∧ (True)) ∨ (z = 0 ∧ (True)))) := by
  refine yC.of2 "WindWords$Leans" (by decide) rfl (Nat.le_of_ble_eq_true rfl) ?_
  intro p e s m args below meth c A ls Qf B hnm h hl hQ
  have hl : lv_has ls 4 [(0, .ref (ad 12))] := hl
  have hs := pi_s (CW.pi hC)
  refine x_iconst B dX3_closes_0 ?_
  refine lv_istore_n (lv' := [(1, .int (iI 0)), (0, .ref (ad 12))]) B.1 B.2.1 dX3_closes_1 rfl hl (by decide) rfl (fun ls hl => ?_)
  have loop2 : ∀ (n2 : Nat) (x : Int), (0 ≤ x ∧ x ≤ 17) → ((17 - x : Int)).toNat < n2 → ∀ (H : Heap) (locs : List Loc) (ls : Array Slot), yH D Zk A s w H locs → lv_has ls 4 [(1, .int (iI x)), (0, .ref (ad 12))] → W p l e r_c_X3_closes s m args below meth c H locs 0 0 Qf (F0 m 2 ls []) := by
    intro n2
    induction n2 with
    | zero =>
      intro x hx hm2 H locs ls h hl
      exact absurd hm2 (Nat.not_lt_zero _)
    | succ n2 ih2 =>
      intro x hx hm2 H locs ls h hl
      refine lv_iload_n B.1 B.2.1 dX3_closes_2 rfl (lv_at hl 0 rfl) ?_
      refine x_bipush B (by decide) dX3_closes_3 ?_
      refine x_icmp_ge B (by omega) (tgt := 79) dX3_closes_5 (by decide) (fun c1 => ?_) (fun c1 => ?_)
      · refine x_iconst B dX3_closes_79 ?_
        refine y_rz B hQ h (by decide) (by decide) dX3_closes_80 ?_
        exact ⟨rfl, _, rfl, Or.inl ⟨rfl, (by first | omega | trivial | assumption)⟩⟩
      · refine x_iconst B dX3_closes_8 ?_
        refine lv_istore_n (lv' := [(2, .int (iI 0)), (1, .int (iI x)), (0, .ref (ad 12))]) B.1 B.2.1 dX3_closes_9 rfl hl (by decide) rfl (fun ls hl => ?_)
        have loop10 : ∀ (n10 : Nat) (y : Int), (0 ≤ y ∧ y ≤ 17) → ((17 - y : Int)).toNat < n10 → ∀ (H : Heap) (locs : List Loc) (ls : Array Slot), yH D Zk A s w H locs → lv_has ls 4 [(2, .int (iI y)), (1, .int (iI x)), (0, .ref (ad 12))] → W p l e r_c_X3_closes s m args below meth c H locs 0 0 Qf (F0 m 10 ls []) := by
          intro n10
          induction n10 with
          | zero =>
            intro y hy hm10 H locs ls h hl
            exact absurd hm10 (Nat.not_lt_zero _)
          | succ n10 ih10 =>
            intro y hy hm10 H locs ls h hl
            refine lv_iload_n B.1 B.2.1 dX3_closes_10 rfl (lv_at hl 0 rfl) ?_
            refine x_bipush B (by decide) dX3_closes_11 ?_
            refine x_icmp_ge B (by omega) (tgt := 43) dX3_closes_13 (by decide) (fun c2 => ?_) (fun c2 => ?_)
            · refine x_iconst B dX3_closes_43 ?_
              refine lv_istore_n (lv' := [(2, .int (iI 0)), (1, .int (iI x)), (0, .ref (ad 12))]) B.1 B.2.1 dX3_closes_44 rfl hl (by decide) rfl (fun ls hl => ?_)
              have loop45 : ∀ (n45 : Nat) (y : Int), (0 ≤ y ∧ y ≤ 17) → ((17 - y : Int)).toNat < n45 → ∀ (H : Heap) (locs : List Loc) (ls : Array Slot), yH D Zk A s w H locs → lv_has ls 4 [(2, .int (iI y)), (1, .int (iI x)), (0, .ref (ad 12))] → W p l e r_c_X3_closes s m args below meth c H locs 0 0 Qf (F0 m 45 ls []) := by
                intro n45
                induction n45 with
                | zero =>
                  intro y hu hm45 H locs ls h hl
                  exact absurd hm45 (Nat.not_lt_zero _)
                | succ n45 ih45 =>
                  intro y hu hm45 H locs ls h hl
                  refine lv_iload_n B.1 B.2.1 dX3_closes_45 rfl (lv_at hl 0 rfl) ?_
                  refine x_bipush B (by decide) dX3_closes_46 ?_
                  refine x_icmp_ge B (by omega) (tgt := 73) dX3_closes_48 (by decide) (fun c3 => ?_) (fun c3 => ?_)
                  · refine lv_iinc (v := iI (x + 1)) (lv' := [(1, .int (iI (x + 1))), (2, .int (iI y)), (0, .ref (ad 12))]) B.1 B.2.1 dX3_closes_73 hl (k := 1) rfl (iI_add _ _) (by decide) rfl (fun ls hl => ?_)
                    refine lv_goto (tgt := 2) B.1 B.2.1 dX3_closes_76 (by decide) ?_
                    exact ih2 ((x + 1)) (by omega) (by omega) _ _ _ h (lv_sub hl [0, 2] rfl)
                  · refine lv_aload_n B.1 B.2.1 dX3_closes_51 rfl (lv_at hl 2 rfl) ?_
                    refine y_getR B h kX3 12 (CW.f hC 12 _ rfl) 0 (b := ad 13) rfl m_220 (by decide) dX3_closes_52 ?_
                    refine lv_iload_n B.1 B.2.1 dX3_closes_55 rfl (lv_at hl 0 rfl) ?_
                    refine x_bipush B (by decide) dX3_closes_56 ?_
                    refine x_imul B dX3_closes_58 ?_
                    refine lv_iload_n B.1 B.2.1 dX3_closes_59 rfl (lv_at hl 0 rfl) ?_
                    refine x_iadd B dX3_closes_60 ?_
                    refine y_iald B h 13 (CW.f hC 13 _ rfl) (by omega) dX3_closes_61 (fun fz4 hfz4 => ?_)
                    refine x_name (fun z4 hz4 ez4 => ?_)
                    refine x_if_ge B (by omega) (tgt := 67) dX3_closes_62 (by decide) (fun c5 => ?_) (fun c5 => ?_)
                    · refine lv_iinc (v := iI (y + 1)) (lv' := [(2, .int (iI (y + 1))), (1, .int (iI x)), (0, .ref (ad 12))]) B.1 B.2.1 dX3_closes_67 hl (k := 0) rfl (iI_add _ _) (by decide) rfl (fun ls hl => ?_)
                      refine lv_goto (tgt := 45) B.1 B.2.1 dX3_closes_70 (by decide) ?_
                      exact ih45 ((y + 1)) (by omega) (by omega) _ _ _ h (lv_sub hl [0, 1, 2] rfl)
                    · refine x_iconst B dX3_closes_65 ?_
                      refine y_rz B hQ h (by decide) (by decide) dX3_closes_66 ?_
                      exact ⟨rfl, _, rfl, Or.inr ⟨rfl, (by first | omega | trivial | assumption)⟩⟩
              exact loop45 (((17 - 0 : Int)).toNat + 1) 0 (by omega) (Nat.lt_succ_self _) _ _ _ h (lv_sub hl [0, 1, 2] rfl)
            · refine x_iconst B dX3_closes_16 ?_
              refine lv_istore_n (lv' := [(3, .int (iI 0)), (2, .int (iI y)), (1, .int (iI x)), (0, .ref (ad 12))]) B.1 B.2.1 dX3_closes_17 rfl hl (by decide) rfl (fun ls hl => ?_)
              have loop18 : ∀ (n18 : Nat) (v : Int), (0 ≤ v ∧ v ≤ 17) → ((17 - v : Int)).toNat < n18 → ∀ (H : Heap) (locs : List Loc) (ls : Array Slot), yH D Zk A s w H locs → lv_has ls 4 [(3, .int (iI v)), (2, .int (iI y)), (1, .int (iI x)), (0, .ref (ad 12))] → W p l e r_c_X3_closes s m args below meth c H locs 0 0 Qf (F0 m 18 ls []) := by
                intro n18
                induction n18 with
                | zero =>
                  intro v hv hm18 H locs ls h hl
                  exact absurd hm18 (Nat.not_lt_zero _)
                | succ n18 ih18 =>
                  intro v hv hm18 H locs ls h hl
                  refine lv_iload_n B.1 B.2.1 dX3_closes_18 rfl (lv_at hl 0 rfl) ?_
                  refine x_bipush B (by decide) dX3_closes_19 ?_
                  refine x_icmp_ge B (by omega) (tgt := 37) dX3_closes_21 (by decide) (fun c6 => ?_) (fun c6 => ?_)
                  · refine lv_iinc (v := iI (y + 1)) (lv' := [(2, .int (iI (y + 1))), (3, .int (iI v)), (1, .int (iI x)), (0, .ref (ad 12))]) B.1 B.2.1 dX3_closes_37 hl (k := 1) rfl (iI_add _ _) (by decide) rfl (fun ls hl => ?_)
                    refine lv_goto (tgt := 10) B.1 B.2.1 dX3_closes_40 (by decide) ?_
                    exact ih10 ((y + 1)) (by omega) (by omega) _ _ _ h (lv_sub hl [0, 2, 3] rfl)
                  · refine lv_aload_n B.1 B.2.1 dX3_closes_24 rfl (lv_at hl 3 rfl) ?_
                    refine lv_iload_n B.1 B.2.1 dX3_closes_25 rfl (lv_at hl 1 rfl) ?_
                    refine lv_iload_n B.1 B.2.1 dX3_closes_26 rfl (lv_at hl 2 rfl) ?_
                    refine lv_iload_n B.1 B.2.1 dX3_closes_27 rfl (lv_at hl 0 rfl) ?_
                    refine y_cV B h kX3 12 (CW.f hC 12 _ rfl) k_X3_join rfl (c_X3_join l D Zk ca T G u ad _ hC y x v  (by omega) (by omega) (by omega)) m_1026 rfl (by decide) hl.1 [] (Nat.le_of_ble_eq_true rfl) rfl dX3_closes_28 (fun r w1 hq H locs h => ?_)
                    obtain ⟨rfl, rfl⟩ := hq
                    show W p l e r_c_X3_closes s m args below meth c _ _ 0 0 Qf (F0 m 31 ls [])
                    refine lv_iinc (v := iI (v + 1)) (lv' := [(3, .int (iI (v + 1))), (2, .int (iI y)), (1, .int (iI x)), (0, .ref (ad 12))]) B.1 B.2.1 dX3_closes_31 hl (k := 0) rfl (iI_add _ _) (by decide) rfl (fun ls hl => ?_)
                    refine lv_goto (tgt := 18) B.1 B.2.1 dX3_closes_34 (by decide) ?_
                    exact ih18 ((v + 1)) (by omega) (by omega) _ _ _ h (lv_sub hl [0, 1, 2, 3] rfl)
              exact loop18 (((17 - 0 : Int)).toNat + 1) 0 (by omega) (Nat.lt_succ_self _) _ _ _ h (lv_sub hl [0, 1, 2, 3] rfl)
        exact loop10 (((17 - 0 : Int)).toNat + 1) 0 (by omega) (Nat.lt_succ_self _) _ _ _ h (lv_sub hl [0, 1, 2] rfl)
  exact loop2 (((17 - 0 : Int)).toNat + 1) 0 (by omega) (Nat.lt_succ_self _) _ _ _ h (lv_sub hl [0, 1] rfl)
abbrev r_c_X3_solve : Room := { frames := 5, cells := 0, slots := 0, locals := 126 }
set_option maxHeartbeats 4000000 in
set_option maxRecDepth 100000 in
theorem c_X3_solve (l : Launch) (D : va_G) (Zk : yK) (ca : Nat → ClassId) (T : Nat → Int → Int) (G : Nat → Int → Nat) (u : Int) (ad : Nat → Nat) (w : yW) (hC : CW ca T G u ad w)    : yC l D Zk ca yX3_solve cX3_solve 6 (some .boolean) r_c_X3_solve [.ref (ad 12), .ref (ad 1), .ref (ad 4)] w (vI w (fun z => (z = 1 ∧ (True)) ∨ (z = 0 ∧ (True)))) := by
  refine yC.of2 "WindWords$Leans" (by decide) rfl (Nat.le_of_ble_eq_true rfl) ?_
  intro p e s m args below meth c A ls Qf B hnm h hl hQ
  have hl : lv_has ls 6 [(0, .ref (ad 12)), (1, .ref (ad 1)), (2, .ref (ad 4))] := hl
  have hs := pi_s (CW.pi hC)
  refine x_iconst B dX3_solve_0 ?_
  refine lv_istore_n (lv' := [(3, .int (iI 0)), (0, .ref (ad 12)), (1, .ref (ad 1)), (2, .ref (ad 4))]) B.1 B.2.1 dX3_solve_1 rfl hl (by decide) rfl (fun ls hl => ?_)
  have loop2 : ∀ (n2 : Nat) (i : Int), (0 ≤ i ∧ i ≤ 289) → ((289 - i : Int)).toNat < n2 → ∀ (H : Heap) (locs : List Loc) (ls : Array Slot), yH D Zk A s w H locs → lv_has ls 6 [(3, .int (iI i)), (0, .ref (ad 12)), (1, .ref (ad 1)), (2, .ref (ad 4))] → W p l e r_c_X3_solve s m args below meth c H locs 0 0 Qf (F0 m 2 ls []) := by
    intro n2
    induction n2 with
    | zero =>
      intro i h0 hm2 H locs ls h hl
      exact absurd hm2 (Nat.not_lt_zero _)
    | succ n2 ih2 =>
      intro i h0 hm2 H locs ls h hl
      refine lv_iload_n B.1 B.2.1 dX3_solve_2 rfl (lv_at hl 0 rfl) ?_
      refine lv_aload_n B.1 B.2.1 dX3_solve_3 rfl (lv_at hl 1 rfl) ?_
      refine y_getR B h kX3 12 (CW.f hC 12 _ rfl) 0 (b := ad 13) rfl m_220 (by decide) dX3_solve_4 ?_
      refine y_alenI B h 13 0 (CW.f hC 13 _ rfl) rfl dX3_solve_7 ?_
      refine x_icmp_ge B (by omega) (tgt := 25) dX3_solve_8 (by decide) (fun c1 => ?_) (fun c1 => ?_)
      · refine x_iconst B dX3_solve_25 ?_
        refine lv_istore_n (lv' := [(3, .int (iI 0)), (0, .ref (ad 12)), (1, .ref (ad 1)), (2, .ref (ad 4))]) B.1 B.2.1 dX3_solve_26 rfl hl (by decide) rfl (fun ls hl => ?_)
        have loop27 : ∀ (n27 : Nat) (i : Int), (0 ≤ i ∧ i ≤ 17) → ((17 - i : Int)).toNat < n27 → ∀ (H : Heap) (locs : List Loc) (ls : Array Slot), yH D Zk A s w H locs → lv_has ls 6 [(3, .int (iI i)), (0, .ref (ad 12)), (1, .ref (ad 1)), (2, .ref (ad 4))] → W p l e r_c_X3_solve s m args below meth c H locs 0 0 Qf (F0 m 27 ls []) := by
          intro n27
          induction n27 with
          | zero =>
            intro i h0 hm27 H locs ls h hl
            exact absurd hm27 (Nat.not_lt_zero _)
          | succ n27 ih27 =>
            intro i h0 hm27 H locs ls h hl
            refine lv_iload_n B.1 B.2.1 dX3_solve_27 rfl (lv_at hl 0 rfl) ?_
            refine x_bipush B (by decide) dX3_solve_28 ?_
            refine x_icmp_ge B (by omega) (tgt := 51) dX3_solve_30 (by decide) (fun c2 => ?_) (fun c2 => ?_)
            · refine x_iconst B dX3_solve_51 ?_
              refine lv_istore_n (lv' := [(3, .int (iI 0)), (0, .ref (ad 12)), (1, .ref (ad 1)), (2, .ref (ad 4))]) B.1 B.2.1 dX3_solve_52 rfl hl (by decide) rfl (fun ls hl => ?_)
              have loop53 : ∀ (n53 : Nat) (i : Int), (0 ≤ i ∧ i ≤ 300) → ((300 - i : Int)).toNat < n53 → ∀ (H : Heap) (locs : List Loc) (ls : Array Slot), yH D Zk A s w H locs → lv_has ls 6 [(3, .int (iI i)), (0, .ref (ad 12)), (1, .ref (ad 1)), (2, .ref (ad 4))] → W p l e r_c_X3_solve s m args below meth c H locs 0 0 Qf (F0 m 53 ls []) := by
                intro n53
                induction n53 with
                | zero =>
                  intro i h0 hm53 H locs ls h hl
                  exact absurd hm53 (Nat.not_lt_zero _)
                | succ n53 ih53 =>
                  intro i h0 hm53 H locs ls h hl
                  refine lv_iload_n B.1 B.2.1 dX3_solve_53 rfl (lv_at hl 0 rfl) ?_
                  refine lv_aload_n B.1 B.2.1 dX3_solve_54 rfl (lv_at hl 2 rfl) ?_
                  refine y_getX B h kX0 1 (CW.f hC 1 _ rfl) 5 (z := (T 0 2)) rfl m_147 (by decide) dX3_solve_55 ?_
                  refine x_icmp_ge B (by omega) (tgt := 128) dX3_solve_58 (by decide) (fun c3 => ?_) (fun c3 => ?_)
                  · refine lv_aload_n B.1 B.2.1 dX3_solve_128 rfl (lv_at hl 1 rfl) ?_
                    refine y_cV B h kX3 12 (CW.f hC 12 _ rfl) k_X3_closes rfl (c_X3_closes l D Zk ca T G u ad _ hC   ) m_1022 rfl (by decide) hl.1 [] (Nat.le_of_ble_eq_true rfl) rfl dX3_solve_129 (fun r w1 hq H locs h => ?_)
                    obtain ⟨rfl, _, rfl, ⟨rfl, b4⟩ | ⟨rfl, b4⟩⟩ := hq
                    · show W p l e r_c_X3_solve s m args below meth c _ _ 0 0 Qf (F0 m 132 ls [.int (iI 1)])
                      refine y_rz B hQ h (by decide) (by decide) dX3_solve_132 ?_
                      exact ⟨rfl, _, rfl, Or.inl ⟨rfl, (by first | omega | trivial | assumption)⟩⟩
                    · show W p l e r_c_X3_solve s m args below meth c _ _ 0 0 Qf (F0 m 132 ls [.int (iI 0)])
                      refine y_rz B hQ h (by decide) (by decide) dX3_solve_132 ?_
                      exact ⟨rfl, _, rfl, Or.inr ⟨rfl, (by first | omega | trivial | assumption)⟩⟩
                  · refine lv_aload_n B.1 B.2.1 dX3_solve_61 rfl (lv_at hl 2 rfl) ?_
                    refine lv_iload_n B.1 B.2.1 dX3_solve_62 rfl (lv_at hl 0 rfl) ?_
                    refine y_cV B h kX0 1 (CW.f hC 1 _ rfl) k_X0_trustedMansAt rfl (c_X0_trustedMansAt l D Zk ca T G u ad _ hC i  (by omega)) m_976 rfl (by decide) hl.1 [] (Nat.le_of_ble_eq_true rfl) rfl dX3_solve_63 (fun r w1 hq H locs h => ?_)
                    obtain ⟨rfl, _, rfl, ⟨rfl, q5⟩ | ⟨rfl, q5⟩⟩ := hq
                    · show W p l e r_c_X3_solve s m args below meth c _ _ 0 0 Qf (F0 m 66 ls [.null])
                      refine lv_astoreN (lv' := [(4, .null), (3, .int (iI i)), (0, .ref (ad 12)), (1, .ref (ad 1)), (2, .ref (ad 4))]) B.1 B.2.1 dX3_solve_66 hl (by decide) rfl (fun ls hl => ?_)
                      refine x_iconst B dX3_solve_68 ?_
                      refine lv_istore (lv' := [(5, .int (iI 0)), (4, .null), (3, .int (iI i)), (0, .ref (ad 12)), (1, .ref (ad 1)), (2, .ref (ad 4))]) B.1 B.2.1 dX3_solve_69 hl (by decide) rfl (fun ls hl => ?_)
                      have loop71 : ∀ (n71 : Nat) (v : Int), (0 ≤ v ∧ v ≤ 12) → ((12 - v : Int)).toNat < n71 → ∀ (H : Heap) (locs : List Loc) (ls : Array Slot), yH D Zk A s w H locs → lv_has ls 6 [(5, .int (iI v)), (4, .null), (3, .int (iI i)), (0, .ref (ad 12)), (1, .ref (ad 1)), (2, .ref (ad 4))] → W p l e r_c_X3_solve s m args below meth c H locs 0 0 Qf (F0 m 71 ls []) := by
                        intro n71
                        induction n71 with
                        | zero =>
                          intro v h5 hm71 H locs ls h hl
                          exact absurd hm71 (Nat.not_lt_zero _)
                        | succ n71 ih71 =>
                          intro v h5 hm71 H locs ls h hl
                          refine lv_iload B.1 B.2.1 dX3_solve_71 (lv_at hl 0 rfl) ?_
                          refine lv_aload_n B.1 B.2.1 dX3_solve_73 rfl (lv_at hl 4 rfl) ?_
                          refine y_getX B h kX0 1 (CW.f hC 1 _ rfl) 4 (z := (T 0 1)) rfl m_142 (by decide) dX3_solve_74 ?_
                          refine x_icmp_ge B (by omega) (tgt := 122) dX3_solve_77 (by decide) (fun c6 => ?_) (fun c6 => ?_)
                          · refine lv_iinc (v := iI (i + 1)) (lv' := [(3, .int (iI (i + 1))), (5, .int (iI v)), (4, .null), (0, .ref (ad 12)), (1, .ref (ad 1)), (2, .ref (ad 4))]) B.1 B.2.1 dX3_solve_122 hl (k := 2) rfl (iI_add _ _) (by decide) rfl (fun ls hl => ?_)
                            refine lv_goto (tgt := 53) B.1 B.2.1 dX3_solve_125 (by decide) ?_
                            exact ih53 ((i + 1)) (by omega) (by omega) _ _ _ h (lv_sub hl [0, 3, 4, 5] rfl)
                          · refine lv_aloadN B.1 B.2.1 dX3_solve_80 (lv_at hl 1 rfl) ?_
                            refine lv_ifnullN (tgt := 122) B.1 B.2.1 dX3_solve_82 (by decide) ?_
                            refine lv_iinc (v := iI (i + 1)) (lv' := [(3, .int (iI (i + 1))), (5, .int (iI v)), (4, .null), (0, .ref (ad 12)), (1, .ref (ad 1)), (2, .ref (ad 4))]) B.1 B.2.1 dX3_solve_122 hl (k := 2) rfl (iI_add _ _) (by decide) rfl (fun ls hl => ?_)
                            refine lv_goto (tgt := 53) B.1 B.2.1 dX3_solve_125 (by decide) ?_
                            exact ih53 ((i + 1)) (by omega) (by omega) _ _ _ h (lv_sub hl [0, 3, 4, 5] rfl)
                      exact loop71 (((12 - 0 : Int)).toNat + 1) 0 (by omega) (Nat.lt_succ_self _) _ _ _ h (lv_sub hl [0, 1, 2, 3, 4, 5] rfl)
                    · have fo7 := CW.rd hC i (by omega)
                      show W p l e r_c_X3_solve s m args below meth c _ _ 0 0 Qf (F0 m 66 ls [.ref (G 4 i)])
                      refine lv_astore (lv' := [(4, .ref (G 4 i)), (3, .int (iI i)), (0, .ref (ad 12)), (1, .ref (ad 1)), (2, .ref (ad 4))]) B.1 B.2.1 dX3_solve_66 hl (by decide) rfl (fun ls hl => ?_)
                      refine x_iconst B dX3_solve_68 ?_
                      refine lv_istore (lv' := [(5, .int (iI 0)), (4, .ref (G 4 i)), (3, .int (iI i)), (0, .ref (ad 12)), (1, .ref (ad 1)), (2, .ref (ad 4))]) B.1 B.2.1 dX3_solve_69 hl (by decide) rfl (fun ls hl => ?_)
                      have loop71 : ∀ (n71 : Nat) (v : Int), (0 ≤ v ∧ v ≤ 12) → ((12 - v : Int)).toNat < n71 → ∀ (H : Heap) (locs : List Loc) (ls : Array Slot), yH D Zk A s w H locs → lv_has ls 6 [(5, .int (iI v)), (4, .ref (G 4 i)), (3, .int (iI i)), (0, .ref (ad 12)), (1, .ref (ad 1)), (2, .ref (ad 4))] → W p l e r_c_X3_solve s m args below meth c H locs 0 0 Qf (F0 m 71 ls []) := by
                        intro n71
                        induction n71 with
                        | zero =>
                          intro v h5 hm71 H locs ls h hl
                          exact absurd hm71 (Nat.not_lt_zero _)
                        | succ n71 ih71 =>
                          intro v h5 hm71 H locs ls h hl
                          refine lv_iload B.1 B.2.1 dX3_solve_71 (lv_at hl 0 rfl) ?_
                          refine lv_aload_n B.1 B.2.1 dX3_solve_73 rfl (lv_at hl 4 rfl) ?_
                          refine y_getX B h kX0 1 (CW.f hC 1 _ rfl) 4 (z := (T 0 1)) rfl m_142 (by decide) dX3_solve_74 ?_
                          refine x_icmp_ge B (by omega) (tgt := 122) dX3_solve_77 (by decide) (fun c8 => ?_) (fun c8 => ?_)
                          · refine lv_iinc (v := iI (i + 1)) (lv' := [(3, .int (iI (i + 1))), (5, .int (iI v)), (4, .ref (G 4 i)), (0, .ref (ad 12)), (1, .ref (ad 1)), (2, .ref (ad 4))]) B.1 B.2.1 dX3_solve_122 hl (k := 2) rfl (iI_add _ _) (by decide) rfl (fun ls hl => ?_)
                            refine lv_goto (tgt := 53) B.1 B.2.1 dX3_solve_125 (by decide) ?_
                            exact ih53 ((i + 1)) (by omega) (by omega) _ _ _ h (lv_sub hl [0, 3, 4, 5] rfl)
                          · refine lv_aload B.1 B.2.1 dX3_solve_80 (lv_at hl 1 rfl) ?_
                            refine lv_ifnull B.1 B.2.1 dX3_solve_82 ?_
                            refine lv_aload_n B.1 B.2.1 dX3_solve_85 rfl (lv_at hl 3 rfl) ?_
                            refine lv_aload B.1 B.2.1 dX3_solve_86 (lv_at hl 1 rfl) ?_
                            refine lv_aload_n B.1 B.2.1 dX3_solve_88 rfl (lv_at hl 4 rfl) ?_
                            refine lv_aload B.1 B.2.1 dX3_solve_89 (lv_at hl 1 rfl) ?_
                            refine lv_iload B.1 B.2.1 dX3_solve_91 (lv_at hl 0 rfl) ?_
                            refine y_cV B h kX0 1 (CW.f hC 1 _ rfl) k_X0_mansBeside rfl (c_X0_mansBeside l D Zk ca T G u ad _ hC i v  (by omega) (by omega)) m_991 rfl (by decide) hl.1 [.ref (G 4 i), .ref (ad 12)] (Nat.le_of_ble_eq_true rfl) rfl dX3_solve_93 (fun r w1 hq H locs h => ?_)
                            obtain ⟨rfl, _, rfl, ⟨rfl, q9⟩ | ⟨k10, rfl, q9⟩⟩ := hq
                            · show W p l e r_c_X3_solve s m args below meth c _ _ 0 0 Qf (F0 m 96 ls [.null, .ref (G 4 i), .ref (ad 12)])
                              refine lv_aload_n B.1 B.2.1 dX3_solve_96 rfl (lv_at hl 4 rfl) ?_
                              refine y_cV B h kX3 12 (CW.f hC 12 _ rfl) k_X3_hear rfl (c_X3_hear_N l D Zk ca T G u ad _ hC i  (by omega)) m_992 rfl (by decide) hl.1 [] (Nat.le_of_ble_eq_true rfl) rfl dX3_solve_97 (fun r w1 hq H locs h => ?_)
                              obtain ⟨rfl, rfl⟩ := hq
                              show W p l e r_c_X3_solve s m args below meth c _ _ 0 0 Qf (F0 m 100 ls [])
                              refine lv_aload_n B.1 B.2.1 dX3_solve_100 rfl (lv_at hl 3 rfl) ?_
                              refine lv_aload B.1 B.2.1 dX3_solve_101 (lv_at hl 1 rfl) ?_
                              refine lv_aload_n B.1 B.2.1 dX3_solve_103 rfl (lv_at hl 4 rfl) ?_
                              refine lv_aload B.1 B.2.1 dX3_solve_104 (lv_at hl 1 rfl) ?_
                              refine lv_iload B.1 B.2.1 dX3_solve_106 (lv_at hl 0 rfl) ?_
                              refine y_cV B h kX0 1 (CW.f hC 1 _ rfl) k_X0_cupBeside rfl (c_X0_cupBeside l D Zk ca T G u ad _ hC i v  (by omega) (by omega)) m_1004 rfl (by decide) hl.1 [.ref (G 4 i), .ref (ad 12)] (Nat.le_of_ble_eq_true rfl) rfl dX3_solve_108 (fun r w1 hq H locs h => ?_)
                              obtain ⟨rfl, _, rfl, ⟨rfl, q11⟩ | ⟨k12, rfl, q11⟩⟩ := hq
                              · show W p l e r_c_X3_solve s m args below meth c _ _ 0 0 Qf (F0 m 111 ls [.null, .ref (G 4 i), .ref (ad 12)])
                                refine lv_aload_n B.1 B.2.1 dX3_solve_111 rfl (lv_at hl 4 rfl) ?_
                                refine lv_aload_n B.1 B.2.1 dX3_solve_112 rfl (lv_at hl 5 rfl) ?_
                                refine y_cV B h kX3 12 (CW.f hC 12 _ rfl) k_X3_hearCup rfl (c_X3_hearCup_N l D Zk ca T G u ad _ hC i  (by omega)) m_1008 rfl (by decide) hl.1 [] (Nat.le_of_ble_eq_true rfl) rfl dX3_solve_113 (fun r w1 hq H locs h => ?_)
                                obtain ⟨rfl, rfl⟩ := hq
                                show W p l e r_c_X3_solve s m args below meth c _ _ 0 0 Qf (F0 m 116 ls [])
                                refine lv_iinc (v := iI (v + 1)) (lv' := [(5, .int (iI (v + 1))), (4, .ref (G 4 i)), (3, .int (iI i)), (0, .ref (ad 12)), (1, .ref (ad 1)), (2, .ref (ad 4))]) B.1 B.2.1 dX3_solve_116 hl (k := 0) rfl (iI_add _ _) (by decide) rfl (fun ls hl => ?_)
                                refine lv_goto (tgt := 71) B.1 B.2.1 dX3_solve_119 (by decide) ?_
                                exact ih71 ((v + 1)) (by omega) (by omega) _ _ _ h (lv_sub hl [0, 1, 2, 3, 4, 5] rfl)
                              · have fo13 := CW.rd hC k12 (by omega)
                                show W p l e r_c_X3_solve s m args below meth c _ _ 0 0 Qf (F0 m 111 ls [.ref (G 4 k12), .ref (G 4 i), .ref (ad 12)])
                                refine lv_aload_n B.1 B.2.1 dX3_solve_111 rfl (lv_at hl 4 rfl) ?_
                                refine lv_aload_n B.1 B.2.1 dX3_solve_112 rfl (lv_at hl 5 rfl) ?_
                                refine y_cV B h kX3 12 (CW.f hC 12 _ rfl) k_X3_hearCup rfl (c_X3_hearCup l D Zk ca T G u ad _ hC i k12  (by omega) (by omega)) m_1008 rfl (by decide) hl.1 [] (Nat.le_of_ble_eq_true rfl) rfl dX3_solve_113 (fun r w1 hq H locs h => ?_)
                                obtain ⟨rfl, rfl⟩ := hq
                                show W p l e r_c_X3_solve s m args below meth c _ _ 0 0 Qf (F0 m 116 ls [])
                                refine lv_iinc (v := iI (v + 1)) (lv' := [(5, .int (iI (v + 1))), (4, .ref (G 4 i)), (3, .int (iI i)), (0, .ref (ad 12)), (1, .ref (ad 1)), (2, .ref (ad 4))]) B.1 B.2.1 dX3_solve_116 hl (k := 0) rfl (iI_add _ _) (by decide) rfl (fun ls hl => ?_)
                                refine lv_goto (tgt := 71) B.1 B.2.1 dX3_solve_119 (by decide) ?_
                                exact ih71 ((v + 1)) (by omega) (by omega) _ _ _ h (lv_sub hl [0, 1, 2, 3, 4, 5] rfl)
                            · have fo14 := CW.rd hC k10 (by omega)
                              show W p l e r_c_X3_solve s m args below meth c _ _ 0 0 Qf (F0 m 96 ls [.ref (G 4 k10), .ref (G 4 i), .ref (ad 12)])
                              refine lv_aload_n B.1 B.2.1 dX3_solve_96 rfl (lv_at hl 4 rfl) ?_
                              refine y_cV B h kX3 12 (CW.f hC 12 _ rfl) k_X3_hear rfl (c_X3_hear l D Zk ca T G u ad _ hC i k10  (by omega) (by omega)) m_992 rfl (by decide) hl.1 [] (Nat.le_of_ble_eq_true rfl) rfl dX3_solve_97 (fun r w1 hq H locs h => ?_)
                              obtain ⟨rfl, rfl⟩ := hq
                              show W p l e r_c_X3_solve s m args below meth c _ _ 0 0 Qf (F0 m 100 ls [])
                              refine lv_aload_n B.1 B.2.1 dX3_solve_100 rfl (lv_at hl 3 rfl) ?_
                              refine lv_aload B.1 B.2.1 dX3_solve_101 (lv_at hl 1 rfl) ?_
                              refine lv_aload_n B.1 B.2.1 dX3_solve_103 rfl (lv_at hl 4 rfl) ?_
                              refine lv_aload B.1 B.2.1 dX3_solve_104 (lv_at hl 1 rfl) ?_
                              refine lv_iload B.1 B.2.1 dX3_solve_106 (lv_at hl 0 rfl) ?_
                              refine y_cV B h kX0 1 (CW.f hC 1 _ rfl) k_X0_cupBeside rfl (c_X0_cupBeside l D Zk ca T G u ad _ hC i v  (by omega) (by omega)) m_1004 rfl (by decide) hl.1 [.ref (G 4 i), .ref (ad 12)] (Nat.le_of_ble_eq_true rfl) rfl dX3_solve_108 (fun r w1 hq H locs h => ?_)
                              obtain ⟨rfl, _, rfl, ⟨rfl, q15⟩ | ⟨k16, rfl, q15⟩⟩ := hq
                              · show W p l e r_c_X3_solve s m args below meth c _ _ 0 0 Qf (F0 m 111 ls [.null, .ref (G 4 i), .ref (ad 12)])
                                refine lv_aload_n B.1 B.2.1 dX3_solve_111 rfl (lv_at hl 4 rfl) ?_
                                refine lv_aload_n B.1 B.2.1 dX3_solve_112 rfl (lv_at hl 5 rfl) ?_
                                refine y_cV B h kX3 12 (CW.f hC 12 _ rfl) k_X3_hearCup rfl (c_X3_hearCup_N l D Zk ca T G u ad _ hC i  (by omega)) m_1008 rfl (by decide) hl.1 [] (Nat.le_of_ble_eq_true rfl) rfl dX3_solve_113 (fun r w1 hq H locs h => ?_)
                                obtain ⟨rfl, rfl⟩ := hq
                                show W p l e r_c_X3_solve s m args below meth c _ _ 0 0 Qf (F0 m 116 ls [])
                                refine lv_iinc (v := iI (v + 1)) (lv' := [(5, .int (iI (v + 1))), (4, .ref (G 4 i)), (3, .int (iI i)), (0, .ref (ad 12)), (1, .ref (ad 1)), (2, .ref (ad 4))]) B.1 B.2.1 dX3_solve_116 hl (k := 0) rfl (iI_add _ _) (by decide) rfl (fun ls hl => ?_)
                                refine lv_goto (tgt := 71) B.1 B.2.1 dX3_solve_119 (by decide) ?_
                                exact ih71 ((v + 1)) (by omega) (by omega) _ _ _ h (lv_sub hl [0, 1, 2, 3, 4, 5] rfl)
                              · have fo17 := CW.rd hC k16 (by omega)
                                show W p l e r_c_X3_solve s m args below meth c _ _ 0 0 Qf (F0 m 111 ls [.ref (G 4 k16), .ref (G 4 i), .ref (ad 12)])
                                refine lv_aload_n B.1 B.2.1 dX3_solve_111 rfl (lv_at hl 4 rfl) ?_
                                refine lv_aload_n B.1 B.2.1 dX3_solve_112 rfl (lv_at hl 5 rfl) ?_
                                refine y_cV B h kX3 12 (CW.f hC 12 _ rfl) k_X3_hearCup rfl (c_X3_hearCup l D Zk ca T G u ad _ hC i k16  (by omega) (by omega)) m_1008 rfl (by decide) hl.1 [] (Nat.le_of_ble_eq_true rfl) rfl dX3_solve_113 (fun r w1 hq H locs h => ?_)
                                obtain ⟨rfl, rfl⟩ := hq
                                show W p l e r_c_X3_solve s m args below meth c _ _ 0 0 Qf (F0 m 116 ls [])
                                refine lv_iinc (v := iI (v + 1)) (lv' := [(5, .int (iI (v + 1))), (4, .ref (G 4 i)), (3, .int (iI i)), (0, .ref (ad 12)), (1, .ref (ad 1)), (2, .ref (ad 4))]) B.1 B.2.1 dX3_solve_116 hl (k := 0) rfl (iI_add _ _) (by decide) rfl (fun ls hl => ?_)
                                refine lv_goto (tgt := 71) B.1 B.2.1 dX3_solve_119 (by decide) ?_
                                exact ih71 ((v + 1)) (by omega) (by omega) _ _ _ h (lv_sub hl [0, 1, 2, 3, 4, 5] rfl)
                      exact loop71 (((12 - 0 : Int)).toNat + 1) 0 (by omega) (Nat.lt_succ_self _) _ _ _ h (lv_sub hl [0, 1, 2, 3, 4, 5] rfl)
              exact loop53 (((300 - 0 : Int)).toNat + 1) 0 (by omega) (Nat.lt_succ_self _) _ _ _ h (lv_sub hl [0, 1, 2, 3] rfl)
            · refine lv_aload_n B.1 B.2.1 dX3_solve_33 rfl (lv_at hl 1 rfl) ?_
              refine y_getR B h kX3 12 (CW.f hC 12 _ rfl) 0 (b := ad 13) rfl m_220 (by decide) dX3_solve_34 ?_
              refine lv_iload_n B.1 B.2.1 dX3_solve_37 rfl (lv_at hl 0 rfl) ?_
              refine x_bipush B (by decide) dX3_solve_38 ?_
              refine x_imul B dX3_solve_40 ?_
              refine lv_iload_n B.1 B.2.1 dX3_solve_41 rfl (lv_at hl 0 rfl) ?_
              refine x_iadd B dX3_solve_42 ?_
              refine x_iconst B dX3_solve_43 ?_
              refine y_iastS B h 13 (CW.f hC 13 _ rfl) (by omega) (fun _ _ => trivial) dX3_solve_44 (fun H locs h => ?_)
              refine lv_iinc (v := iI (i + 1)) (lv' := [(3, .int (iI (i + 1))), (0, .ref (ad 12)), (1, .ref (ad 1)), (2, .ref (ad 4))]) B.1 B.2.1 dX3_solve_45 hl (k := 0) rfl (iI_add _ _) (by decide) rfl (fun ls hl => ?_)
              refine lv_goto (tgt := 27) B.1 B.2.1 dX3_solve_48 (by decide) ?_
              exact ih27 ((i + 1)) (by omega) (by omega) _ _ _ h (lv_sub hl [0, 1, 2, 3] rfl)
        exact loop27 (((17 - 0 : Int)).toNat + 1) 0 (by omega) (Nat.lt_succ_self _) _ _ _ h (lv_sub hl [0, 1, 2, 3] rfl)
      · refine lv_aload_n B.1 B.2.1 dX3_solve_11 rfl (lv_at hl 1 rfl) ?_
        refine y_getR B h kX3 12 (CW.f hC 12 _ rfl) 0 (b := ad 13) rfl m_220 (by decide) dX3_solve_12 ?_
        refine lv_iload_n B.1 B.2.1 dX3_solve_15 rfl (lv_at hl 0 rfl) ?_
        refine x_ldc B (z := 1000000) m_975 (by decide) dX3_solve_16 ?_
        refine y_iastS B h 13 (CW.f hC 13 _ rfl) (by omega) (fun _ _ => trivial) dX3_solve_18 (fun H locs h => ?_)
        refine lv_iinc (v := iI (i + 1)) (lv' := [(3, .int (iI (i + 1))), (0, .ref (ad 12)), (1, .ref (ad 1)), (2, .ref (ad 4))]) B.1 B.2.1 dX3_solve_19 hl (k := 0) rfl (iI_add _ _) (by decide) rfl (fun ls hl => ?_)
        refine lv_goto (tgt := 2) B.1 B.2.1 dX3_solve_22 (by decide) ?_
        exact ih2 ((i + 1)) (by omega) (by omega) _ _ _ h (lv_sub hl [0, 1, 2, 3] rfl)
  exact loop2 (((289 - 0 : Int)).toNat + 1) 0 (by omega) (Nat.lt_succ_self _) _ _ _ h (lv_sub hl [0, 1, 2, 3] rfl)
abbrev r_c_X3_least : Room := { frames := 1, cells := 0, slots := 0, locals := 21 }
set_option maxHeartbeats 4000000 in
set_option maxRecDepth 100000 in
theorem c_X3_least (l : Launch) (D : va_G) (Zk : yK) (ca : Nat → ClassId) (T : Nat → Int → Int) (G : Nat → Int → Nat) (u : Int) (ad : Nat → Nat) (w : yW) (hC : CW ca T G u ad w) (o : Int)  (ho : xr o) : yC l D Zk ca yX3_least cX3_least 3 (some .int) r_c_X3_least [.ref (ad 12), .int (iI o)] w (vI w (fun z => xr z)) := by
  refine yC.of2 "WindWords$Leans" (by decide) rfl (Nat.le_of_ble_eq_true rfl) ?_
  intro p e s m args below meth c A ls Qf B hnm h hl hQ
  have hl : lv_has ls 3 [(0, .ref (ad 12)), (1, .int (iI o))] := hl
  have hs := pi_s (CW.pi hC)
  refine lv_iload_n B.1 B.2.1 dX3_least_0 rfl (lv_at hl 1 rfl) ?_
  refine x_bipush B (by decide) dX3_least_1 ?_
  refine y_cSN (host := "WindWords") B h k_X11_within (c_X11_within l D Zk ca _ o 15  (by omega) (by omega)) (by decide) rfl (by decide) hl.1 [] (Nat.le_of_ble_eq_true rfl) rfl dX3_least_3 (fun r w1 hq H locs h => ?_)
  obtain ⟨rfl, _, rfl, ⟨rfl, b1⟩ | ⟨rfl, b1⟩⟩ := hq
  · show W p l e r_c_X3_least s m args below meth c _ _ 0 0 Qf (F0 m 6 ls [.int (iI 1)])
    refine x_if_eq B (by omega) (tgt := 22) dX3_least_6 (by decide) (fun c2 => ?_) (fun c2 => ?_)
    · exact absurd c2 (by omega)
    · refine lv_aload_n B.1 B.2.1 dX3_least_9 rfl (lv_at hl 0 rfl) ?_
      refine y_getR B h kX3 12 (CW.f hC 12 _ rfl) 0 (b := ad 13) rfl m_220 (by decide) dX3_least_10 ?_
      refine x_sipush B (by decide) dX3_least_13 ?_
      refine lv_iload_n B.1 B.2.1 dX3_least_16 rfl (lv_at hl 1 rfl) ?_
      refine x_iadd B dX3_least_17 ?_
      refine y_iald B h 13 (CW.f hC 13 _ rfl) (by omega) dX3_least_18 (fun fz3 hfz3 => ?_)
      refine x_name (fun z3 hz3 ez3 => ?_)
      refine lv_goto (tgt := 24) B.1 B.2.1 dX3_least_19 (by decide) ?_
      refine lv_istore_n (lv' := [(2, .int (iI z3)), (0, .ref (ad 12)), (1, .int (iI o))]) B.1 B.2.1 dX3_least_24 rfl hl (by decide) rfl (fun ls hl => ?_)
      refine lv_iload_n B.1 B.2.1 dX3_least_25 rfl (lv_at hl 0 rfl) ?_
      refine x_ldc B (z := 1000000) m_975 (by decide) dX3_least_26 ?_
      refine x_icmp_ge B (by omega) (tgt := 36) dX3_least_28 (by decide) (fun c4 => ?_) (fun c4 => ?_)
      · refine x_sipush B (by decide) dX3_least_36 ?_
        refine y_ri B hQ h (by decide) dX3_least_39 ?_
        exact ⟨rfl, _, rfl, (by first | omega | trivial | assumption)⟩
      · refine lv_iload_n B.1 B.2.1 dX3_least_31 rfl (lv_at hl 0 rfl) ?_
        refine x_ineg B dX3_least_32 ?_
        refine x_name (fun z5 hz5 ez5 => ?_)
        refine lv_goto (tgt := 39) B.1 B.2.1 dX3_least_33 (by decide) ?_
        refine y_ri B hQ h (by decide) dX3_least_39 ?_
        exact ⟨rfl, _, rfl, (by first | omega | trivial | assumption)⟩
  · show W p l e r_c_X3_least s m args below meth c _ _ 0 0 Qf (F0 m 6 ls [.int (iI 0)])
    refine x_if_eq B (by omega) (tgt := 22) dX3_least_6 (by decide) (fun c6 => ?_) (fun c6 => ?_)
    · refine x_ldc B (z := 1000000) m_975 (by decide) dX3_least_22 ?_
      refine lv_istore_n (lv' := [(2, .int (iI 1000000)), (0, .ref (ad 12)), (1, .int (iI o))]) B.1 B.2.1 dX3_least_24 rfl hl (by decide) rfl (fun ls hl => ?_)
      refine lv_iload_n B.1 B.2.1 dX3_least_25 rfl (lv_at hl 0 rfl) ?_
      refine x_ldc B (z := 1000000) m_975 (by decide) dX3_least_26 ?_
      refine x_icmp_ge B (by omega) (tgt := 36) dX3_least_28 (by decide) (fun c7 => ?_) (fun c7 => ?_)
      · refine x_sipush B (by decide) dX3_least_36 ?_
        refine y_ri B hQ h (by decide) dX3_least_39 ?_
        exact ⟨rfl, _, rfl, (by first | omega | trivial | assumption)⟩
      · exact absurd c7 (by omega)
    · exact absurd c6 (by omega)
abbrev r_c_X3_greatest : Room := { frames := 1, cells := 0, slots := 0, locals := 21 }
set_option maxHeartbeats 4000000 in
set_option maxRecDepth 100000 in
theorem c_X3_greatest (l : Launch) (D : va_G) (Zk : yK) (ca : Nat → ClassId) (T : Nat → Int → Int) (G : Nat → Int → Nat) (u : Int) (ad : Nat → Nat) (w : yW) (hC : CW ca T G u ad w) (o : Int)  (ho : xr o) : yC l D Zk ca yX3_greatest cX3_greatest 3 (some .int) r_c_X3_greatest [.ref (ad 12), .int (iI o)] w (vI w (fun z => xr z)) := by
  refine yC.of2 "WindWords$Leans" (by decide) rfl (Nat.le_of_ble_eq_true rfl) ?_
  intro p e s m args below meth c A ls Qf B hnm h hl hQ
  have hl : lv_has ls 3 [(0, .ref (ad 12)), (1, .int (iI o))] := hl
  have hs := pi_s (CW.pi hC)
  refine lv_iload_n B.1 B.2.1 dX3_greatest_0 rfl (lv_at hl 1 rfl) ?_
  refine x_bipush B (by decide) dX3_greatest_1 ?_
  refine y_cSN (host := "WindWords") B h k_X11_within (c_X11_within l D Zk ca _ o 15  (by omega) (by omega)) (by decide) rfl (by decide) hl.1 [] (Nat.le_of_ble_eq_true rfl) rfl dX3_greatest_3 (fun r w1 hq H locs h => ?_)
  obtain ⟨rfl, _, rfl, ⟨rfl, b1⟩ | ⟨rfl, b1⟩⟩ := hq
  · show W p l e r_c_X3_greatest s m args below meth c _ _ 0 0 Qf (F0 m 6 ls [.int (iI 1)])
    refine x_if_eq B (by omega) (tgt := 24) dX3_greatest_6 (by decide) (fun c2 => ?_) (fun c2 => ?_)
    · exact absurd c2 (by omega)
    · refine lv_aload_n B.1 B.2.1 dX3_greatest_9 rfl (lv_at hl 0 rfl) ?_
      refine y_getR B h kX3 12 (CW.f hC 12 _ rfl) 0 (b := ad 13) rfl m_220 (by decide) dX3_greatest_10 ?_
      refine lv_iload_n B.1 B.2.1 dX3_greatest_13 rfl (lv_at hl 1 rfl) ?_
      refine x_bipush B (by decide) dX3_greatest_14 ?_
      refine x_imul B dX3_greatest_16 ?_
      refine x_bipush B (by decide) dX3_greatest_17 ?_
      refine x_iadd B dX3_greatest_19 ?_
      refine y_iald B h 13 (CW.f hC 13 _ rfl) (by omega) dX3_greatest_20 (fun fz3 hfz3 => ?_)
      refine x_name (fun z3 hz3 ez3 => ?_)
      refine lv_goto (tgt := 26) B.1 B.2.1 dX3_greatest_21 (by decide) ?_
      refine lv_istore_n (lv' := [(2, .int (iI z3)), (0, .ref (ad 12)), (1, .int (iI o))]) B.1 B.2.1 dX3_greatest_26 rfl hl (by decide) rfl (fun ls hl => ?_)
      refine lv_iload_n B.1 B.2.1 dX3_greatest_27 rfl (lv_at hl 0 rfl) ?_
      refine x_ldc B (z := 1000000) m_975 (by decide) dX3_greatest_28 ?_
      refine x_icmp_ge B (by omega) (tgt := 37) dX3_greatest_30 (by decide) (fun c4 => ?_) (fun c4 => ?_)
      · refine x_sipush B (by decide) dX3_greatest_37 ?_
        refine y_ri B hQ h (by decide) dX3_greatest_40 ?_
        exact ⟨rfl, _, rfl, (by first | omega | trivial | assumption)⟩
      · refine lv_iload_n B.1 B.2.1 dX3_greatest_33 rfl (lv_at hl 0 rfl) ?_
        refine lv_goto (tgt := 40) B.1 B.2.1 dX3_greatest_34 (by decide) ?_
        refine y_ri B hQ h (by decide) dX3_greatest_40 ?_
        exact ⟨rfl, _, rfl, (by first | omega | trivial | assumption)⟩
  · show W p l e r_c_X3_greatest s m args below meth c _ _ 0 0 Qf (F0 m 6 ls [.int (iI 0)])
    refine x_if_eq B (by omega) (tgt := 24) dX3_greatest_6 (by decide) (fun c5 => ?_) (fun c5 => ?_)
    · refine x_ldc B (z := 1000000) m_975 (by decide) dX3_greatest_24 ?_
      refine lv_istore_n (lv' := [(2, .int (iI 1000000)), (0, .ref (ad 12)), (1, .int (iI o))]) B.1 B.2.1 dX3_greatest_26 rfl hl (by decide) rfl (fun ls hl => ?_)
      refine lv_iload_n B.1 B.2.1 dX3_greatest_27 rfl (lv_at hl 0 rfl) ?_
      refine x_ldc B (z := 1000000) m_975 (by decide) dX3_greatest_28 ?_
      refine x_icmp_ge B (by omega) (tgt := 37) dX3_greatest_30 (by decide) (fun c6 => ?_) (fun c6 => ?_)
      · refine x_sipush B (by decide) dX3_greatest_37 ?_
        refine y_ri B hQ h (by decide) dX3_greatest_40 ?_
        exact ⟨rfl, _, rfl, (by first | omega | trivial | assumption)⟩
      · exact absurd c6 (by omega)
    · exact absurd c5 (by omega)
abbrev r_c_X3_bindsBothSides : Room := { frames := 1, cells := 0, slots := 0, locals := 21 }
set_option maxHeartbeats 4000000 in
set_option maxRecDepth 100000 in
theorem c_X3_bindsBothSides (l : Launch) (D : va_G) (Zk : yK) (ca : Nat → ClassId) (T : Nat → Int → Int) (G : Nat → Int → Nat) (u : Int) (ad : Nat → Nat) (w : yW) (hC : CW ca T G u ad w) (o : Int)  (ho : xr o) : yC l D Zk ca yX3_bindsBothSides cX3_bindsBothSides 2 (some .boolean) r_c_X3_bindsBothSides [.ref (ad 12), .int (iI o)] w (vI w (fun z => (z = 1 ∧ (True)) ∨ (z = 0 ∧ (True)))) := by
  refine yC.of2 "WindWords$Leans" (by decide) rfl (Nat.le_of_ble_eq_true rfl) ?_
  intro p e s m args below meth c A ls Qf B hnm h hl hQ
  have hl : lv_has ls 2 [(0, .ref (ad 12)), (1, .int (iI o))] := hl
  have hs := pi_s (CW.pi hC)
  refine lv_iload_n B.1 B.2.1 dX3_bindsBothSides_0 rfl (lv_at hl 1 rfl) ?_
  refine x_bipush B (by decide) dX3_bindsBothSides_1 ?_
  refine y_cSN (host := "WindWords") B h k_X11_within (c_X11_within l D Zk ca _ o 15  (by omega) (by omega)) (by decide) rfl (by decide) hl.1 [] (Nat.le_of_ble_eq_true rfl) rfl dX3_bindsBothSides_3 (fun r w1 hq H locs h => ?_)
  obtain ⟨rfl, _, rfl, ⟨rfl, b1⟩ | ⟨rfl, b1⟩⟩ := hq
  · show W p l e r_c_X3_bindsBothSides s m args below meth c _ _ 0 0 Qf (F0 m 6 ls [.int (iI 1)])
    refine x_if_eq B (by omega) (tgt := 45) dX3_bindsBothSides_6 (by decide) (fun c2 => ?_) (fun c2 => ?_)
    · exact absurd c2 (by omega)
    · refine lv_aload_n B.1 B.2.1 dX3_bindsBothSides_9 rfl (lv_at hl 0 rfl) ?_
      refine y_getR B h kX3 12 (CW.f hC 12 _ rfl) 0 (b := ad 13) rfl m_220 (by decide) dX3_bindsBothSides_10 ?_
      refine x_sipush B (by decide) dX3_bindsBothSides_13 ?_
      refine lv_iload_n B.1 B.2.1 dX3_bindsBothSides_16 rfl (lv_at hl 1 rfl) ?_
      refine x_iadd B dX3_bindsBothSides_17 ?_
      refine y_iald B h 13 (CW.f hC 13 _ rfl) (by omega) dX3_bindsBothSides_18 (fun fz3 hfz3 => ?_)
      refine x_name (fun z3 hz3 ez3 => ?_)
      refine x_ldc B (z := 1000000) m_975 (by decide) dX3_bindsBothSides_19 ?_
      refine x_icmp_ge B (by omega) (tgt := 45) dX3_bindsBothSides_21 (by decide) (fun c4 => ?_) (fun c4 => ?_)
      · refine x_iconst B dX3_bindsBothSides_45 ?_
        refine y_rz B hQ h (by decide) (by decide) dX3_bindsBothSides_46 ?_
        exact ⟨rfl, _, rfl, Or.inr ⟨rfl, (by first | omega | trivial | assumption)⟩⟩
      · refine lv_aload_n B.1 B.2.1 dX3_bindsBothSides_24 rfl (lv_at hl 0 rfl) ?_
        refine y_getR B h kX3 12 (CW.f hC 12 _ rfl) 0 (b := ad 13) rfl m_220 (by decide) dX3_bindsBothSides_25 ?_
        refine lv_iload_n B.1 B.2.1 dX3_bindsBothSides_28 rfl (lv_at hl 1 rfl) ?_
        refine x_bipush B (by decide) dX3_bindsBothSides_29 ?_
        refine x_imul B dX3_bindsBothSides_31 ?_
        refine x_bipush B (by decide) dX3_bindsBothSides_32 ?_
        refine x_iadd B dX3_bindsBothSides_34 ?_
        refine y_iald B h 13 (CW.f hC 13 _ rfl) (by omega) dX3_bindsBothSides_35 (fun fz5 hfz5 => ?_)
        refine x_name (fun z5 hz5 ez5 => ?_)
        refine x_ldc B (z := 1000000) m_975 (by decide) dX3_bindsBothSides_36 ?_
        refine x_icmp_ge B (by omega) (tgt := 45) dX3_bindsBothSides_38 (by decide) (fun c6 => ?_) (fun c6 => ?_)
        · refine x_iconst B dX3_bindsBothSides_45 ?_
          refine y_rz B hQ h (by decide) (by decide) dX3_bindsBothSides_46 ?_
          exact ⟨rfl, _, rfl, Or.inr ⟨rfl, (by first | omega | trivial | assumption)⟩⟩
        · refine x_iconst B dX3_bindsBothSides_41 ?_
          refine lv_goto (tgt := 46) B.1 B.2.1 dX3_bindsBothSides_42 (by decide) ?_
          refine y_rz B hQ h (by decide) (by decide) dX3_bindsBothSides_46 ?_
          exact ⟨rfl, _, rfl, Or.inl ⟨rfl, (by first | omega | trivial | assumption)⟩⟩
  · show W p l e r_c_X3_bindsBothSides s m args below meth c _ _ 0 0 Qf (F0 m 6 ls [.int (iI 0)])
    refine x_if_eq B (by omega) (tgt := 45) dX3_bindsBothSides_6 (by decide) (fun c7 => ?_) (fun c7 => ?_)
    · refine x_iconst B dX3_bindsBothSides_45 ?_
      refine y_rz B hQ h (by decide) (by decide) dX3_bindsBothSides_46 ?_
      exact ⟨rfl, _, rfl, Or.inr ⟨rfl, (by first | omega | trivial | assumption)⟩⟩
    · exact absurd c7 (by omega)
