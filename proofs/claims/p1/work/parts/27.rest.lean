theorem k_X11_understood : xMV yX11_understood cX11_understood 3 (some .boolean) 2 := ⟨m_580, m_579, m_1, m_95, ⟨by decide +kernel, by decide +kernel, by decide +kernel⟩⟩
theorem k_X6_add : xMV yX6_add cX6_add 3 (some .int) 2 := ⟨m_816, m_814, m_815, m_97, ⟨by decide +kernel, by decide +kernel, by decide +kernel⟩⟩
theorem k_X2_init : xMI yX2_init cX2_init 2 1 := ⟨m_1218, m_1217, rfl, m_115, ⟨by decide +kernel, by decide +kernel, by decide +kernel⟩⟩
theorem k_J6_bitCount_0f7a4 : xMS yJ6_bitCount_0f7a4 cJ6_bitCount_0f7a4 1 (some .int) 1 := ⟨m_1142, m_1141, m_113, ⟨by decide +kernel, by decide +kernel, by decide +kernel⟩⟩
theorem k_X11_statementsOfHabits : xMV yX11_statementsOfHabits cX11_statementsOfHabits 4 (some .int) 0 := ⟨m_1254, m_1253, m_37, m_95, ⟨by decide +kernel, by decide +kernel, by decide +kernel⟩⟩
abbrev r_c_X11_scale : Room := { frames := 3, cells := 6, slots := 618, locals := 67 }
set_option maxHeartbeats 4000000 in
set_option maxRecDepth 100000 in
theorem c_X11_scale (l : Launch) (D : va_G) (ca : Nat → ClassId) (w : xW) (ad : Nat → Nat) (hC : C0 ca ad w) (n : Int) (year : Int)  (hn : xr n) (hyear : xr year) : xC l D ca yX11_scale cX11_scale 4 (some .int) r_c_X11_scale [.ref (ad 0), .int (iI n), .int (iI year)] w (qIa (fun z => ((n = 0 ∧ 0 ≤ year ∧ year ≤ 9) → z = 0) ∧ (¬ (n = 0 ∧ 0 ≤ year ∧ year ≤ 9) → z = -2))) := by
  refine xC.of2 "WindWords" (by decide) rfl (Nat.le_of_ble_eq_true rfl) ?_
  intro p e s m args below meth c A ls Qf B hnm h hl hQ
  have hl : lv_has ls 4 [(0, .ref (ad 0)), (1, .int (iI n)), (2, .int (iI year))] := hl
  refine lv_iload_n B.1 B.2.1 dX11_scale_0 rfl (lv_at hl 1 rfl) ?_
  refine lv_aload_n B.1 B.2.1 dX11_scale_1 rfl (lv_at hl 0 rfl) ?_
  refine x_getR B h kX11 0 (hC 0 _ rfl) 5 (b := ad 20) rfl m_366 (by decide) dX11_scale_2 ?_
  refine x_getX B h kX9 20 (hC 20 _ rfl) 0 (z := 0) rfl m_289 (by decide) dX11_scale_5 ?_
  refine x_cS B h k_X11_within (c_X11_within l D ca _ n 0  (by omega) (by omega)) m_431 rfl (by decide) hl.1 [] (Nat.le_of_ble_eq_true rfl) rfl dX11_scale_8 (fun r w1 hq H locs h => ?_)
  obtain ⟨rfl, ⟨rfl, b1⟩ | ⟨rfl, b1⟩⟩ := hq
  · show W p l e r_c_X11_scale s m args below meth c H locs 0 0 Qf (F0 m 11 ls [.int (iI 1)])
    refine x_if_eq B (by omega) (tgt := 23) dX11_scale_11 (by decide) (fun c2 => ?_) (fun c2 => ?_)
    · exact absurd c2 (by omega)
    · refine lv_iload_n B.1 B.2.1 dX11_scale_14 rfl (lv_at hl 2 rfl) ?_
      refine x_bipush B (by decide) dX11_scale_15 ?_
      refine x_cS B h k_X11_within (c_X11_within l D ca _ year 9  (by omega) (by omega)) m_431 rfl (by decide) hl.1 [] (Nat.le_of_ble_eq_true rfl) rfl dX11_scale_17 (fun r w1 hq H locs h => ?_)
      obtain ⟨rfl, ⟨rfl, b3⟩ | ⟨rfl, b3⟩⟩ := hq
      · show W p l e r_c_X11_scale s m args below meth c H locs 0 0 Qf (F0 m 20 ls [.int (iI 1)])
        refine x_if_ne B (by omega) (tgt := 31) dX11_scale_20 (by decide) (fun c4 => ?_) (fun c4 => ?_)
        · refine lv_aload_n B.1 B.2.1 dX11_scale_31 rfl (lv_at hl 0 rfl) ?_
          refine x_getR B h kX11 0 (hC 0 _ rfl) 1 (b := ad 4) rfl m_362 (by decide) dX11_scale_32 ?_
          refine x_getX B h kX6 4 (hC 4 _ rfl) 7 (z := 0) rfl m_195 (by decide) dX11_scale_35 ?_
          refine x_bipush B (by decide) dX11_scale_38 ?_
          refine x_icmp_lt B (by omega) (tgt := 51) dX11_scale_40 (by decide) (fun c5 => ?_) (fun c5 => ?_)
          · refine lv_aload_n B.1 B.2.1 dX11_scale_51 rfl (lv_at hl 0 rfl) ?_
            refine lv_iload_n B.1 B.2.1 dX11_scale_52 rfl (lv_at hl 1 rfl) ?_
            refine x_iconst B dX11_scale_53 ?_
            refine x_cV B h kX11 0 (hC 0 _ rfl) k_X11_understood rfl (c_X11_understood l D ca _ ad hC n  (by omega)) m_577 rfl (by decide) hl.1 [] (Nat.le_of_ble_eq_true rfl) rfl dX11_scale_54 (fun r w1 hq H locs h => ?_)
            obtain ⟨rfl, ⟨rfl, b6⟩ | ⟨rfl, b6⟩⟩ := hq
            · show W p l e r_c_X11_scale s m args below meth c H locs 0 0 Qf (F0 m 57 ls [.int (iI 1)])
              refine x_if_ne B (by omega) (tgt := 67) dX11_scale_57 (by decide) (fun c7 => ?_) (fun c7 => ?_)
              · refine lv_aload_n B.1 B.2.1 dX11_scale_67 rfl (lv_at hl 0 rfl) ?_
                refine x_getR B h kX11 0 (hC 0 _ rfl) 1 (b := ad 4) rfl m_362 (by decide) dX11_scale_68 ?_
                refine lv_aload_n B.1 B.2.1 dX11_scale_71 rfl (lv_at hl 0 rfl) ?_
                refine x_getR B h kX11 0 (hC 0 _ rfl) 16 (b := ad 36) rfl m_377 (by decide) dX11_scale_72 ?_
                refine lv_iload_n B.1 B.2.1 dX11_scale_75 rfl (lv_at hl 2 rfl) ?_
                refine x_cV B h kX6 4 (hC 4 _ rfl) k_X6_add rfl (c_X6_add l D ca _ ad hC year  (by omega)) m_813 rfl (by decide) hl.1 [] (Nat.le_of_ble_eq_true rfl) rfl dX11_scale_76 (fun r w1 hq H locs h => ?_)
                obtain ⟨rfl, _, rfl, rfl⟩ := hq
                show W p l e r_c_X11_scale s m args below meth c H locs 0 0 Qf (F0 m 79 ls [.int (iI 0)])
                have h : xH D A s.heap ((w.set 5 (ad 5, xAQ (ca 6) 8 (fun _ => True))).set 4 (ad 4, xO 6 [fR (ad 5), fR (ad 6), fR (ad 7), fR (ad 8), fR (ad 9), fR (ad 10), fR (ad 11), fX (0 + 1)])) H locs := h
                refine lv_istore_n (lv' := [(3, .int (iI 0)), (0, .ref (ad 0)), (1, .int (iI n)), (2, .int (iI year))]) B.1 B.2.1 dX11_scale_79 rfl hl (by decide) rfl (fun ls hl => ?_)
                refine lv_aload_n B.1 B.2.1 dX11_scale_80 rfl (lv_at hl 1 rfl) ?_
                refine x_new B h kX5 m_330 m_333 m_103 [fN, fN, fN, fN, fN, fX 0, fX 0] rfl ⟨rfl, rfl, rfl, rfl, rfl, rfl, rfl, trivial⟩ (by decide) dX11_scale_81 (fun q9 H h => ?_)
                refine lv_dup B.1 B.2.1 dX11_scale_84 rfl ?_
                refine x_cIN0 (host := "WindWords") B h k_X5_init (c_X5_init l D ca _ q9 _ xapp_new ) (by decide) rfl (by decide) hl.1 [.ref q9, .ref (ad 0)] (Nat.le_of_ble_eq_true rfl) rfl dX11_scale_85 (fun r w1 hq H locs h => ?_)
                obtain ⟨rfl, q10, q11, q12, q13, q14, rfl⟩ := hq
                show W p l e r_c_X11_scale s m args below meth c H locs 6 618 Qf (F0 m 88 ls [.ref q9, .ref (ad 0)])
                refine x_put B h kX11 0 (xset_ne (xapp_l (xset_ne (xapp_l (xset_ne (xapp_l (xset_ne (xapp_l (xset_ne (xapp_l (xapp_l (xset_ne (xset_ne (hC 0 _ rfl) (by decide)) (by decide)))) (xlen_ne (xset_ne (xset_ne (hC 0 _ rfl) (by decide)) (by decide))))) (xlen_ne (xset_ne (xset_ne (hC 0 _ rfl) (by decide)) (by decide))))) (xlen_ne (xset_ne (xset_ne (hC 0 _ rfl) (by decide)) (by decide))))) (xlen_ne (xset_ne (xset_ne (hC 0 _ rfl) (by decide)) (by decide))))) (xlen_ne (xset_ne (xset_ne (hC 0 _ rfl) (by decide)) (by decide)))) 16 (Nat.le_of_ble_eq_true rfl) (P' := fR q9) m_377 (by decide) rfl rfl rfl rfl dX11_scale_88 (fun H locs h => ?_)
                refine lv_iload_n B.1 B.2.1 dX11_scale_91 rfl (lv_at hl 0 rfl) ?_
                refine x_ri B hQ h (by decide) dX11_scale_92 ?_
                exact ⟨_, rfl, by omega⟩
              · exact absurd c7 (by omega)
            · exact (b6 trivial).elim
          · exact absurd c5 (by omega)
        · exact absurd c4 (by omega)
      · show W p l e r_c_X11_scale s m args below meth c H locs 0 0 Qf (F0 m 20 ls [.int (iI 0)])
        refine x_if_ne B (by omega) (tgt := 31) dX11_scale_20 (by decide) (fun c15 => ?_) (fun c15 => ?_)
        · exact absurd c15 (by omega)
        · refine lv_aload_n B.1 B.2.1 dX11_scale_23 rfl (lv_at hl 0 rfl) ?_
          refine x_iconst B dX11_scale_24 ?_
          refine x_bipush B (by decide) dX11_scale_25 ?_
          refine x_cV B h kX11 0 (hC 0 _ rfl) k_X11_refuse rfl (c_X11_refuse l D ca _ ad hC 0 ((-2))  (by omega) (by omega)) m_423 rfl (by decide) hl.1 [] (Nat.le_of_ble_eq_true rfl) rfl dX11_scale_27 (fun r w1 hq H locs h => ?_)
          obtain ⟨z16, rfl, hz16⟩ := hq
          show W p l e r_c_X11_scale s m args below meth c H locs 0 0 Qf (F0 m 30 ls [.int (iI z16)])
          refine x_ri B hQ h (by decide) dX11_scale_30 ?_
          exact ⟨_, rfl, by omega⟩
  · show W p l e r_c_X11_scale s m args below meth c H locs 0 0 Qf (F0 m 11 ls [.int (iI 0)])
    refine x_if_eq B (by omega) (tgt := 23) dX11_scale_11 (by decide) (fun c17 => ?_) (fun c17 => ?_)
    · refine lv_aload_n B.1 B.2.1 dX11_scale_23 rfl (lv_at hl 0 rfl) ?_
      refine x_iconst B dX11_scale_24 ?_
      refine x_bipush B (by decide) dX11_scale_25 ?_
      refine x_cV B h kX11 0 (hC 0 _ rfl) k_X11_refuse rfl (c_X11_refuse l D ca _ ad hC 0 ((-2))  (by omega) (by omega)) m_423 rfl (by decide) hl.1 [] (Nat.le_of_ble_eq_true rfl) rfl dX11_scale_27 (fun r w1 hq H locs h => ?_)
      obtain ⟨z18, rfl, hz18⟩ := hq
      show W p l e r_c_X11_scale s m args below meth c H locs 0 0 Qf (F0 m 30 ls [.int (iI z18)])
      refine x_ri B hQ h (by decide) dX11_scale_30 ?_
      exact ⟨_, rfl, by omega⟩
    · exact absurd c17 (by omega)
abbrev r_c_X11_image : Room := { frames := 2, cells := 1, slots := 4, locals := 41 }
set_option maxHeartbeats 4000000 in
set_option maxRecDepth 100000 in
theorem c_X11_image (l : Launch) (D : va_G) (ca : Nat → ClassId) (w : xW) (ad : Nat → Nat) (hC : C0 ca ad w)    : xC l D ca yX11_image cX11_image 1 (some .int) r_c_X11_image [.ref (ad 0)] w (qIa (fun z => z = 0)) := by
  refine xC.of2 "WindWords" (by decide) rfl (Nat.le_of_ble_eq_true rfl) ?_
  intro p e s m args below meth c A ls Qf B hnm h hl hQ
  have hl : lv_has ls 1 [(0, .ref (ad 0))] := hl
  refine lv_aload_n B.1 B.2.1 dX11_image_0 rfl (lv_at hl 0 rfl) ?_
  refine x_getX B h kX11 0 (hC 0 _ rfl) 17 (z := 0) rfl m_378 (by decide) dX11_image_1 ?_
  refine x_iconst B dX11_image_4 ?_
  refine x_icmp_lt B (by omega) (tgt := 15) dX11_image_5 (by decide) (fun c1 => ?_) (fun c1 => ?_)
  · refine lv_aload_n B.1 B.2.1 dX11_image_15 rfl (lv_at hl 0 rfl) ?_
    refine x_getR B h kX11 0 (hC 0 _ rfl) 8 (b := ad 28) rfl m_369 (by decide) dX11_image_16 ?_
    refine lv_aload_n B.1 B.2.1 dX11_image_19 rfl (lv_at hl 0 rfl) ?_
    refine x_getX B h kX11 0 (hC 0 _ rfl) 17 (z := 0) rfl m_378 (by decide) dX11_image_20 ?_
    refine x_new B h kX2 m_331 m_1215 m_115 [fX 0, fX 0, fX 0, fX 0] rfl ⟨rfl, rfl, rfl, rfl, trivial⟩ (by decide) dX11_image_23 (fun q2 H h => ?_)
    refine lv_dup B.1 B.2.1 dX11_image_26 rfl ?_
    refine lv_aload_n B.1 B.2.1 dX11_image_27 rfl (lv_at hl 0 rfl) ?_
    refine x_getR B h kX11 0 (xapp_l (hC 0 _ rfl)) 0 (b := ad 1) rfl m_361 (by decide) dX11_image_28 ?_
    refine x_cI0 B h k_X2_init (c_X2_init l D ca _ q2 _ (ad 1) 1 ad xapp_new (xapp_l (hC 1 _ rfl)) (xlen_ne (hC 1 _ rfl))) m_1216 rfl (by decide) hl.1 [.ref q2, .int (iI 0), .ref (ad 28)] (Nat.le_of_ble_eq_true rfl) rfl dX11_image_31 (fun r w1 hq H locs h => ?_)
    obtain ⟨rfl, rfl⟩ := hq
    show W p l e r_c_X11_image s m args below meth c H locs 1 4 Qf (F0 m 34 ls [.ref q2, .int (iI 0), .ref (ad 28)])
    refine x_qast B h 28 7 kX2 rfl (xset_ne (xapp_l (hC 28 _ rfl)) (xlen_ne (hC 28 _ rfl))) (by omega) (xset_eq xapp_new) (P' := fun _ => True) (fun _ _ => trivial) dX11_image_34 (fun H locs h => ?_)
    refine lv_aload_n B.1 B.2.1 dX11_image_35 rfl (lv_at hl 0 rfl) ?_
    refine lv_dup B.1 B.2.1 dX11_image_36 rfl ?_
    refine x_getX B h kX11 0 (xset_ne (xset_ne (xapp_l (hC 0 _ rfl)) (xlen_ne (hC 0 _ rfl))) (by decide)) 17 (z := 0) rfl m_378 (by decide) dX11_image_37 ?_
    refine x_iconst B dX11_image_40 ?_
    refine x_iadd B dX11_image_41 ?_
    refine x_put B h kX11 0 (xset_ne (xset_ne (xapp_l (hC 0 _ rfl)) (xlen_ne (hC 0 _ rfl))) (by decide)) 17 (Nat.le_of_ble_eq_true rfl) (P' := fX (0 + 1)) m_378 (by decide) rfl rfl rfl rfl dX11_image_42 (fun H locs h => ?_)
    refine lv_aload_n B.1 B.2.1 dX11_image_45 rfl (lv_at hl 0 rfl) ?_
    refine x_getX B h kX11 0 (xset_eq (xset_ne (xset_ne (xapp_l (hC 0 _ rfl)) (xlen_ne (hC 0 _ rfl))) (by decide))) 17 (z := (0 + 1)) rfl m_378 (by decide) dX11_image_46 ?_
    refine x_iconst B dX11_image_49 ?_
    refine x_isub B dX11_image_50 ?_
    refine x_ri B hQ h (by decide) dX11_image_51 ?_
    exact ⟨_, rfl, by omega⟩
  · exact absurd c1 (by omega)
abbrev r_c_X11_statementsOfHabits : Room := { frames := 0, cells := 0, slots := 0, locals := 0 }
set_option maxHeartbeats 4000000 in
set_option maxRecDepth 100000 in
theorem c_X11_statementsOfHabits (l : Launch) (D : va_G) (ca : Nat → ClassId) (w : xW) (ad : Nat → Nat) (hC : C0 ca ad w)    : xC l D ca yX11_statementsOfHabits cX11_statementsOfHabits 4 (some .int) r_c_X11_statementsOfHabits [.ref (ad 0)] w (qI w (fun z => z = 0)) := by
  refine xC.of2 "WindWords" (by decide) rfl (Nat.le_of_ble_eq_true rfl) ?_
  intro p e s m args below meth c A ls Qf B hnm h hl hQ
  have hl : lv_has ls 4 [(0, .ref (ad 0))] := hl
  refine x_iconst B dX11_statementsOfHabits_0 ?_
  refine lv_istore_n (lv' := [(1, .int (iI 0)), (0, .ref (ad 0))]) B.1 B.2.1 dX11_statementsOfHabits_1 rfl hl (by decide) rfl (fun ls hl => ?_)
  refine x_iconst B dX11_statementsOfHabits_2 ?_
  refine lv_istore_n (lv' := [(2, .int (iI 0)), (1, .int (iI 0)), (0, .ref (ad 0))]) B.1 B.2.1 dX11_statementsOfHabits_3 rfl hl (by decide) rfl (fun ls hl => ?_)
  refine lv_iload_n B.1 B.2.1 dX11_statementsOfHabits_4 rfl (lv_at hl 0 rfl) ?_
  refine x_bipush B (by decide) dX11_statementsOfHabits_5 ?_
  refine x_icmp_ge B (by omega) (tgt := 38) dX11_statementsOfHabits_7 (by decide) (fun c1 => ?_) (fun c1 => ?_)
  · exact absurd c1 (by omega)
  · refine lv_aload_n B.1 B.2.1 dX11_statementsOfHabits_10 rfl (lv_at hl 2 rfl) ?_
    refine x_getR B h kX11 0 (hC 0 _ rfl) 7 (b := ad 27) rfl m_368 (by decide) dX11_statementsOfHabits_11 ?_
    refine lv_iload_n B.1 B.2.1 dX11_statementsOfHabits_14 rfl (lv_at hl 0 rfl) ?_
    refine x_qaldN B h 27 6 rfl (hC 27 _ rfl) (by omega) dX11_statementsOfHabits_15 ?_
    refine lv_astore_nN (lv' := [(3, .null), (2, .int (iI 0)), (1, .int (iI 0)), (0, .ref (ad 0))]) B.1 B.2.1 dX11_statementsOfHabits_16 rfl hl (by decide) rfl (fun ls hl => ?_)
    refine lv_iload_n B.1 B.2.1 dX11_statementsOfHabits_17 rfl (lv_at hl 2 rfl) ?_
    refine lv_aload_nN B.1 B.2.1 dX11_statementsOfHabits_18 rfl (lv_at hl 0 rfl) ?_
    refine lv_ifnonnullN B.1 B.2.1 dX11_statementsOfHabits_19 ?_
    refine x_iconst B dX11_statementsOfHabits_22 ?_
    refine lv_goto (tgt := 30) B.1 B.2.1 dX11_statementsOfHabits_23 (by decide) ?_
    refine x_iadd B dX11_statementsOfHabits_30 ?_
    refine lv_istore_n (lv' := [(1, .int (iI (0 + 0))), (3, .null), (2, .int (iI 0)), (0, .ref (ad 0))]) B.1 B.2.1 dX11_statementsOfHabits_31 rfl hl (by decide) rfl (fun ls hl => ?_)
    refine lv_iinc (v := iI (0 + 1)) (lv' := [(2, .int (iI (0 + 1))), (1, .int (iI (0 + 0))), (3, .null), (0, .ref (ad 0))]) B.1 B.2.1 dX11_statementsOfHabits_32 hl (k := 2) rfl (iI_add _ _) (by decide) rfl (fun ls hl => ?_)
    refine lv_goto (tgt := 4) B.1 B.2.1 dX11_statementsOfHabits_35 (by decide) ?_
    refine lv_iload_n B.1 B.2.1 dX11_statementsOfHabits_4 rfl (lv_at hl 0 rfl) ?_
    refine x_bipush B (by decide) dX11_statementsOfHabits_5 ?_
    refine x_icmp_ge B (by omega) (tgt := 38) dX11_statementsOfHabits_7 (by decide) (fun c2 => ?_) (fun c2 => ?_)
    · exact absurd c2 (by omega)
    · refine lv_aload_n B.1 B.2.1 dX11_statementsOfHabits_10 rfl (lv_at hl 3 rfl) ?_
      refine x_getR B h kX11 0 (hC 0 _ rfl) 7 (b := ad 27) rfl m_368 (by decide) dX11_statementsOfHabits_11 ?_
      refine lv_iload_n B.1 B.2.1 dX11_statementsOfHabits_14 rfl (lv_at hl 0 rfl) ?_
      refine x_qaldN B h 27 6 rfl (hC 27 _ rfl) (by omega) dX11_statementsOfHabits_15 ?_
      refine lv_astore_nN (lv' := [(3, .null), (2, .int (iI (0 + 1))), (1, .int (iI (0 + 0))), (0, .ref (ad 0))]) B.1 B.2.1 dX11_statementsOfHabits_16 rfl hl (by decide) rfl (fun ls hl => ?_)
      refine lv_iload_n B.1 B.2.1 dX11_statementsOfHabits_17 rfl (lv_at hl 2 rfl) ?_
      refine lv_aload_nN B.1 B.2.1 dX11_statementsOfHabits_18 rfl (lv_at hl 0 rfl) ?_
      refine lv_ifnonnullN B.1 B.2.1 dX11_statementsOfHabits_19 ?_
      refine x_iconst B dX11_statementsOfHabits_22 ?_
      refine lv_goto (tgt := 30) B.1 B.2.1 dX11_statementsOfHabits_23 (by decide) ?_
      refine x_iadd B dX11_statementsOfHabits_30 ?_
      refine lv_istore_n (lv' := [(1, .int (iI ((0 + 0) + 0))), (3, .null), (2, .int (iI (0 + 1))), (0, .ref (ad 0))]) B.1 B.2.1 dX11_statementsOfHabits_31 rfl hl (by decide) rfl (fun ls hl => ?_)
      refine lv_iinc (v := iI ((0 + 1) + 1)) (lv' := [(2, .int (iI ((0 + 1) + 1))), (1, .int (iI ((0 + 0) + 0))), (3, .null), (0, .ref (ad 0))]) B.1 B.2.1 dX11_statementsOfHabits_32 hl (k := 2) rfl (iI_add _ _) (by decide) rfl (fun ls hl => ?_)
      refine lv_goto (tgt := 4) B.1 B.2.1 dX11_statementsOfHabits_35 (by decide) ?_
      refine lv_iload_n B.1 B.2.1 dX11_statementsOfHabits_4 rfl (lv_at hl 0 rfl) ?_
      refine x_bipush B (by decide) dX11_statementsOfHabits_5 ?_
      refine x_icmp_ge B (by omega) (tgt := 38) dX11_statementsOfHabits_7 (by decide) (fun c3 => ?_) (fun c3 => ?_)
      · exact absurd c3 (by omega)
      · refine lv_aload_n B.1 B.2.1 dX11_statementsOfHabits_10 rfl (lv_at hl 3 rfl) ?_
        refine x_getR B h kX11 0 (hC 0 _ rfl) 7 (b := ad 27) rfl m_368 (by decide) dX11_statementsOfHabits_11 ?_
        refine lv_iload_n B.1 B.2.1 dX11_statementsOfHabits_14 rfl (lv_at hl 0 rfl) ?_
        refine x_qaldN B h 27 6 rfl (hC 27 _ rfl) (by omega) dX11_statementsOfHabits_15 ?_
        refine lv_astore_nN (lv' := [(3, .null), (2, .int (iI ((0 + 1) + 1))), (1, .int (iI ((0 + 0) + 0))), (0, .ref (ad 0))]) B.1 B.2.1 dX11_statementsOfHabits_16 rfl hl (by decide) rfl (fun ls hl => ?_)
        refine lv_iload_n B.1 B.2.1 dX11_statementsOfHabits_17 rfl (lv_at hl 2 rfl) ?_
        refine lv_aload_nN B.1 B.2.1 dX11_statementsOfHabits_18 rfl (lv_at hl 0 rfl) ?_
        refine lv_ifnonnullN B.1 B.2.1 dX11_statementsOfHabits_19 ?_
        refine x_iconst B dX11_statementsOfHabits_22 ?_
        refine lv_goto (tgt := 30) B.1 B.2.1 dX11_statementsOfHabits_23 (by decide) ?_
        refine x_iadd B dX11_statementsOfHabits_30 ?_
        refine lv_istore_n (lv' := [(1, .int (iI (((0 + 0) + 0) + 0))), (3, .null), (2, .int (iI ((0 + 1) + 1))), (0, .ref (ad 0))]) B.1 B.2.1 dX11_statementsOfHabits_31 rfl hl (by decide) rfl (fun ls hl => ?_)
        refine lv_iinc (v := iI (((0 + 1) + 1) + 1)) (lv' := [(2, .int (iI (((0 + 1) + 1) + 1))), (1, .int (iI (((0 + 0) + 0) + 0))), (3, .null), (0, .ref (ad 0))]) B.1 B.2.1 dX11_statementsOfHabits_32 hl (k := 2) rfl (iI_add _ _) (by decide) rfl (fun ls hl => ?_)
        refine lv_goto (tgt := 4) B.1 B.2.1 dX11_statementsOfHabits_35 (by decide) ?_
        refine lv_iload_n B.1 B.2.1 dX11_statementsOfHabits_4 rfl (lv_at hl 0 rfl) ?_
        refine x_bipush B (by decide) dX11_statementsOfHabits_5 ?_
        refine x_icmp_ge B (by omega) (tgt := 38) dX11_statementsOfHabits_7 (by decide) (fun c4 => ?_) (fun c4 => ?_)
        · exact absurd c4 (by omega)
        · refine lv_aload_n B.1 B.2.1 dX11_statementsOfHabits_10 rfl (lv_at hl 3 rfl) ?_
          refine x_getR B h kX11 0 (hC 0 _ rfl) 7 (b := ad 27) rfl m_368 (by decide) dX11_statementsOfHabits_11 ?_
          refine lv_iload_n B.1 B.2.1 dX11_statementsOfHabits_14 rfl (lv_at hl 0 rfl) ?_
          refine x_qaldN B h 27 6 rfl (hC 27 _ rfl) (by omega) dX11_statementsOfHabits_15 ?_
          refine lv_astore_nN (lv' := [(3, .null), (2, .int (iI (((0 + 1) + 1) + 1))), (1, .int (iI (((0 + 0) + 0) + 0))), (0, .ref (ad 0))]) B.1 B.2.1 dX11_statementsOfHabits_16 rfl hl (by decide) rfl (fun ls hl => ?_)
          refine lv_iload_n B.1 B.2.1 dX11_statementsOfHabits_17 rfl (lv_at hl 2 rfl) ?_
          refine lv_aload_nN B.1 B.2.1 dX11_statementsOfHabits_18 rfl (lv_at hl 0 rfl) ?_
          refine lv_ifnonnullN B.1 B.2.1 dX11_statementsOfHabits_19 ?_
          refine x_iconst B dX11_statementsOfHabits_22 ?_
          refine lv_goto (tgt := 30) B.1 B.2.1 dX11_statementsOfHabits_23 (by decide) ?_
          refine x_iadd B dX11_statementsOfHabits_30 ?_
          refine lv_istore_n (lv' := [(1, .int (iI ((((0 + 0) + 0) + 0) + 0))), (3, .null), (2, .int (iI (((0 + 1) + 1) + 1))), (0, .ref (ad 0))]) B.1 B.2.1 dX11_statementsOfHabits_31 rfl hl (by decide) rfl (fun ls hl => ?_)
          refine lv_iinc (v := iI ((((0 + 1) + 1) + 1) + 1)) (lv' := [(2, .int (iI ((((0 + 1) + 1) + 1) + 1))), (1, .int (iI ((((0 + 0) + 0) + 0) + 0))), (3, .null), (0, .ref (ad 0))]) B.1 B.2.1 dX11_statementsOfHabits_32 hl (k := 2) rfl (iI_add _ _) (by decide) rfl (fun ls hl => ?_)
          refine lv_goto (tgt := 4) B.1 B.2.1 dX11_statementsOfHabits_35 (by decide) ?_
          refine lv_iload_n B.1 B.2.1 dX11_statementsOfHabits_4 rfl (lv_at hl 0 rfl) ?_
          refine x_bipush B (by decide) dX11_statementsOfHabits_5 ?_
          refine x_icmp_ge B (by omega) (tgt := 38) dX11_statementsOfHabits_7 (by decide) (fun c5 => ?_) (fun c5 => ?_)
          · exact absurd c5 (by omega)
          · refine lv_aload_n B.1 B.2.1 dX11_statementsOfHabits_10 rfl (lv_at hl 3 rfl) ?_
            refine x_getR B h kX11 0 (hC 0 _ rfl) 7 (b := ad 27) rfl m_368 (by decide) dX11_statementsOfHabits_11 ?_
            refine lv_iload_n B.1 B.2.1 dX11_statementsOfHabits_14 rfl (lv_at hl 0 rfl) ?_
            refine x_qaldN B h 27 6 rfl (hC 27 _ rfl) (by omega) dX11_statementsOfHabits_15 ?_
            refine lv_astore_nN (lv' := [(3, .null), (2, .int (iI ((((0 + 1) + 1) + 1) + 1))), (1, .int (iI ((((0 + 0) + 0) + 0) + 0))), (0, .ref (ad 0))]) B.1 B.2.1 dX11_statementsOfHabits_16 rfl hl (by decide) rfl (fun ls hl => ?_)
            refine lv_iload_n B.1 B.2.1 dX11_statementsOfHabits_17 rfl (lv_at hl 2 rfl) ?_
            refine lv_aload_nN B.1 B.2.1 dX11_statementsOfHabits_18 rfl (lv_at hl 0 rfl) ?_
            refine lv_ifnonnullN B.1 B.2.1 dX11_statementsOfHabits_19 ?_
            refine x_iconst B dX11_statementsOfHabits_22 ?_
            refine lv_goto (tgt := 30) B.1 B.2.1 dX11_statementsOfHabits_23 (by decide) ?_
            refine x_iadd B dX11_statementsOfHabits_30 ?_
            refine lv_istore_n (lv' := [(1, .int (iI (((((0 + 0) + 0) + 0) + 0) + 0))), (3, .null), (2, .int (iI ((((0 + 1) + 1) + 1) + 1))), (0, .ref (ad 0))]) B.1 B.2.1 dX11_statementsOfHabits_31 rfl hl (by decide) rfl (fun ls hl => ?_)
            refine lv_iinc (v := iI (((((0 + 1) + 1) + 1) + 1) + 1)) (lv' := [(2, .int (iI (((((0 + 1) + 1) + 1) + 1) + 1))), (1, .int (iI (((((0 + 0) + 0) + 0) + 0) + 0))), (3, .null), (0, .ref (ad 0))]) B.1 B.2.1 dX11_statementsOfHabits_32 hl (k := 2) rfl (iI_add _ _) (by decide) rfl (fun ls hl => ?_)
            refine lv_goto (tgt := 4) B.1 B.2.1 dX11_statementsOfHabits_35 (by decide) ?_
            refine lv_iload_n B.1 B.2.1 dX11_statementsOfHabits_4 rfl (lv_at hl 0 rfl) ?_
            refine x_bipush B (by decide) dX11_statementsOfHabits_5 ?_
            refine x_icmp_ge B (by omega) (tgt := 38) dX11_statementsOfHabits_7 (by decide) (fun c6 => ?_) (fun c6 => ?_)
            · exact absurd c6 (by omega)
            · refine lv_aload_n B.1 B.2.1 dX11_statementsOfHabits_10 rfl (lv_at hl 3 rfl) ?_
              refine x_getR B h kX11 0 (hC 0 _ rfl) 7 (b := ad 27) rfl m_368 (by decide) dX11_statementsOfHabits_11 ?_
              refine lv_iload_n B.1 B.2.1 dX11_statementsOfHabits_14 rfl (lv_at hl 0 rfl) ?_
              refine x_qaldN B h 27 6 rfl (hC 27 _ rfl) (by omega) dX11_statementsOfHabits_15 ?_
              refine lv_astore_nN (lv' := [(3, .null), (2, .int (iI (((((0 + 1) + 1) + 1) + 1) + 1))), (1, .int (iI (((((0 + 0) + 0) + 0) + 0) + 0))), (0, .ref (ad 0))]) B.1 B.2.1 dX11_statementsOfHabits_16 rfl hl (by decide) rfl (fun ls hl => ?_)
              refine lv_iload_n B.1 B.2.1 dX11_statementsOfHabits_17 rfl (lv_at hl 2 rfl) ?_
              refine lv_aload_nN B.1 B.2.1 dX11_statementsOfHabits_18 rfl (lv_at hl 0 rfl) ?_
              refine lv_ifnonnullN B.1 B.2.1 dX11_statementsOfHabits_19 ?_
              refine x_iconst B dX11_statementsOfHabits_22 ?_
              refine lv_goto (tgt := 30) B.1 B.2.1 dX11_statementsOfHabits_23 (by decide) ?_
              refine x_iadd B dX11_statementsOfHabits_30 ?_
              refine lv_istore_n (lv' := [(1, .int (iI ((((((0 + 0) + 0) + 0) + 0) + 0) + 0))), (3, .null), (2, .int (iI (((((0 + 1) + 1) + 1) + 1) + 1))), (0, .ref (ad 0))]) B.1 B.2.1 dX11_statementsOfHabits_31 rfl hl (by decide) rfl (fun ls hl => ?_)
              refine lv_iinc (v := iI ((((((0 + 1) + 1) + 1) + 1) + 1) + 1)) (lv' := [(2, .int (iI ((((((0 + 1) + 1) + 1) + 1) + 1) + 1))), (1, .int (iI ((((((0 + 0) + 0) + 0) + 0) + 0) + 0))), (3, .null), (0, .ref (ad 0))]) B.1 B.2.1 dX11_statementsOfHabits_32 hl (k := 2) rfl (iI_add _ _) (by decide) rfl (fun ls hl => ?_)
              refine lv_goto (tgt := 4) B.1 B.2.1 dX11_statementsOfHabits_35 (by decide) ?_
              refine lv_iload_n B.1 B.2.1 dX11_statementsOfHabits_4 rfl (lv_at hl 0 rfl) ?_
              refine x_bipush B (by decide) dX11_statementsOfHabits_5 ?_
              refine x_icmp_ge B (by omega) (tgt := 38) dX11_statementsOfHabits_7 (by decide) (fun c7 => ?_) (fun c7 => ?_)
              · exact absurd c7 (by omega)
              · refine lv_aload_n B.1 B.2.1 dX11_statementsOfHabits_10 rfl (lv_at hl 3 rfl) ?_
                refine x_getR B h kX11 0 (hC 0 _ rfl) 7 (b := ad 27) rfl m_368 (by decide) dX11_statementsOfHabits_11 ?_
                refine lv_iload_n B.1 B.2.1 dX11_statementsOfHabits_14 rfl (lv_at hl 0 rfl) ?_
                refine x_qaldN B h 27 6 rfl (hC 27 _ rfl) (by omega) dX11_statementsOfHabits_15 ?_
                refine lv_astore_nN (lv' := [(3, .null), (2, .int (iI ((((((0 + 1) + 1) + 1) + 1) + 1) + 1))), (1, .int (iI ((((((0 + 0) + 0) + 0) + 0) + 0) + 0))), (0, .ref (ad 0))]) B.1 B.2.1 dX11_statementsOfHabits_16 rfl hl (by decide) rfl (fun ls hl => ?_)
                refine lv_iload_n B.1 B.2.1 dX11_statementsOfHabits_17 rfl (lv_at hl 2 rfl) ?_
                refine lv_aload_nN B.1 B.2.1 dX11_statementsOfHabits_18 rfl (lv_at hl 0 rfl) ?_
                refine lv_ifnonnullN B.1 B.2.1 dX11_statementsOfHabits_19 ?_
                refine x_iconst B dX11_statementsOfHabits_22 ?_
                refine lv_goto (tgt := 30) B.1 B.2.1 dX11_statementsOfHabits_23 (by decide) ?_
                refine x_iadd B dX11_statementsOfHabits_30 ?_
                refine lv_istore_n (lv' := [(1, .int (iI (((((((0 + 0) + 0) + 0) + 0) + 0) + 0) + 0))), (3, .null), (2, .int (iI ((((((0 + 1) + 1) + 1) + 1) + 1) + 1))), (0, .ref (ad 0))]) B.1 B.2.1 dX11_statementsOfHabits_31 rfl hl (by decide) rfl (fun ls hl => ?_)
                refine lv_iinc (v := iI (((((((0 + 1) + 1) + 1) + 1) + 1) + 1) + 1)) (lv' := [(2, .int (iI (((((((0 + 1) + 1) + 1) + 1) + 1) + 1) + 1))), (1, .int (iI (((((((0 + 0) + 0) + 0) + 0) + 0) + 0) + 0))), (3, .null), (0, .ref (ad 0))]) B.1 B.2.1 dX11_statementsOfHabits_32 hl (k := 2) rfl (iI_add _ _) (by decide) rfl (fun ls hl => ?_)
                refine lv_goto (tgt := 4) B.1 B.2.1 dX11_statementsOfHabits_35 (by decide) ?_
                refine lv_iload_n B.1 B.2.1 dX11_statementsOfHabits_4 rfl (lv_at hl 0 rfl) ?_
                refine x_bipush B (by decide) dX11_statementsOfHabits_5 ?_
                refine x_icmp_ge B (by omega) (tgt := 38) dX11_statementsOfHabits_7 (by decide) (fun c8 => ?_) (fun c8 => ?_)
                · exact absurd c8 (by omega)
                · refine lv_aload_n B.1 B.2.1 dX11_statementsOfHabits_10 rfl (lv_at hl 3 rfl) ?_
                  refine x_getR B h kX11 0 (hC 0 _ rfl) 7 (b := ad 27) rfl m_368 (by decide) dX11_statementsOfHabits_11 ?_
                  refine lv_iload_n B.1 B.2.1 dX11_statementsOfHabits_14 rfl (lv_at hl 0 rfl) ?_
                  refine x_qaldN B h 27 6 rfl (hC 27 _ rfl) (by omega) dX11_statementsOfHabits_15 ?_
                  refine lv_astore_nN (lv' := [(3, .null), (2, .int (iI (((((((0 + 1) + 1) + 1) + 1) + 1) + 1) + 1))), (1, .int (iI (((((((0 + 0) + 0) + 0) + 0) + 0) + 0) + 0))), (0, .ref (ad 0))]) B.1 B.2.1 dX11_statementsOfHabits_16 rfl hl (by decide) rfl (fun ls hl => ?_)
                  refine lv_iload_n B.1 B.2.1 dX11_statementsOfHabits_17 rfl (lv_at hl 2 rfl) ?_
                  refine lv_aload_nN B.1 B.2.1 dX11_statementsOfHabits_18 rfl (lv_at hl 0 rfl) ?_
                  refine lv_ifnonnullN B.1 B.2.1 dX11_statementsOfHabits_19 ?_
                  refine x_iconst B dX11_statementsOfHabits_22 ?_
                  refine lv_goto (tgt := 30) B.1 B.2.1 dX11_statementsOfHabits_23 (by decide) ?_
                  refine x_iadd B dX11_statementsOfHabits_30 ?_
                  refine lv_istore_n (lv' := [(1, .int (iI ((((((((0 + 0) + 0) + 0) + 0) + 0) + 0) + 0) + 0))), (3, .null), (2, .int (iI (((((((0 + 1) + 1) + 1) + 1) + 1) + 1) + 1))), (0, .ref (ad 0))]) B.1 B.2.1 dX11_statementsOfHabits_31 rfl hl (by decide) rfl (fun ls hl => ?_)
                  refine lv_iinc (v := iI ((((((((0 + 1) + 1) + 1) + 1) + 1) + 1) + 1) + 1)) (lv' := [(2, .int (iI ((((((((0 + 1) + 1) + 1) + 1) + 1) + 1) + 1) + 1))), (1, .int (iI ((((((((0 + 0) + 0) + 0) + 0) + 0) + 0) + 0) + 0))), (3, .null), (0, .ref (ad 0))]) B.1 B.2.1 dX11_statementsOfHabits_32 hl (k := 2) rfl (iI_add _ _) (by decide) rfl (fun ls hl => ?_)
                  refine lv_goto (tgt := 4) B.1 B.2.1 dX11_statementsOfHabits_35 (by decide) ?_
                  refine lv_iload_n B.1 B.2.1 dX11_statementsOfHabits_4 rfl (lv_at hl 0 rfl) ?_
                  refine x_bipush B (by decide) dX11_statementsOfHabits_5 ?_
                  refine x_icmp_ge B (by omega) (tgt := 38) dX11_statementsOfHabits_7 (by decide) (fun c9 => ?_) (fun c9 => ?_)
                  · exact absurd c9 (by omega)
                  · refine lv_aload_n B.1 B.2.1 dX11_statementsOfHabits_10 rfl (lv_at hl 3 rfl) ?_
                    refine x_getR B h kX11 0 (hC 0 _ rfl) 7 (b := ad 27) rfl m_368 (by decide) dX11_statementsOfHabits_11 ?_
                    refine lv_iload_n B.1 B.2.1 dX11_statementsOfHabits_14 rfl (lv_at hl 0 rfl) ?_
                    refine x_qaldN B h 27 6 rfl (hC 27 _ rfl) (by omega) dX11_statementsOfHabits_15 ?_
                    refine lv_astore_nN (lv' := [(3, .null), (2, .int (iI ((((((((0 + 1) + 1) + 1) + 1) + 1) + 1) + 1) + 1))), (1, .int (iI ((((((((0 + 0) + 0) + 0) + 0) + 0) + 0) + 0) + 0))), (0, .ref (ad 0))]) B.1 B.2.1 dX11_statementsOfHabits_16 rfl hl (by decide) rfl (fun ls hl => ?_)
                    refine lv_iload_n B.1 B.2.1 dX11_statementsOfHabits_17 rfl (lv_at hl 2 rfl) ?_
                    refine lv_aload_nN B.1 B.2.1 dX11_statementsOfHabits_18 rfl (lv_at hl 0 rfl) ?_
                    refine lv_ifnonnullN B.1 B.2.1 dX11_statementsOfHabits_19 ?_
                    refine x_iconst B dX11_statementsOfHabits_22 ?_
                    refine lv_goto (tgt := 30) B.1 B.2.1 dX11_statementsOfHabits_23 (by decide) ?_
                    refine x_iadd B dX11_statementsOfHabits_30 ?_
                    refine lv_istore_n (lv' := [(1, .int (iI (((((((((0 + 0) + 0) + 0) + 0) + 0) + 0) + 0) + 0) + 0))), (3, .null), (2, .int (iI ((((((((0 + 1) + 1) + 1) + 1) + 1) + 1) + 1) + 1))), (0, .ref (ad 0))]) B.1 B.2.1 dX11_statementsOfHabits_31 rfl hl (by decide) rfl (fun ls hl => ?_)
                    refine lv_iinc (v := iI (((((((((0 + 1) + 1) + 1) + 1) + 1) + 1) + 1) + 1) + 1)) (lv' := [(2, .int (iI (((((((((0 + 1) + 1) + 1) + 1) + 1) + 1) + 1) + 1) + 1))), (1, .int (iI (((((((((0 + 0) + 0) + 0) + 0) + 0) + 0) + 0) + 0) + 0))), (3, .null), (0, .ref (ad 0))]) B.1 B.2.1 dX11_statementsOfHabits_32 hl (k := 2) rfl (iI_add _ _) (by decide) rfl (fun ls hl => ?_)
                    refine lv_goto (tgt := 4) B.1 B.2.1 dX11_statementsOfHabits_35 (by decide) ?_
                    refine lv_iload_n B.1 B.2.1 dX11_statementsOfHabits_4 rfl (lv_at hl 0 rfl) ?_
                    refine x_bipush B (by decide) dX11_statementsOfHabits_5 ?_
                    refine x_icmp_ge B (by omega) (tgt := 38) dX11_statementsOfHabits_7 (by decide) (fun c10 => ?_) (fun c10 => ?_)
                    · exact absurd c10 (by omega)
                    · refine lv_aload_n B.1 B.2.1 dX11_statementsOfHabits_10 rfl (lv_at hl 3 rfl) ?_
                      refine x_getR B h kX11 0 (hC 0 _ rfl) 7 (b := ad 27) rfl m_368 (by decide) dX11_statementsOfHabits_11 ?_
                      refine lv_iload_n B.1 B.2.1 dX11_statementsOfHabits_14 rfl (lv_at hl 0 rfl) ?_
                      refine x_qaldN B h 27 6 rfl (hC 27 _ rfl) (by omega) dX11_statementsOfHabits_15 ?_
                      refine lv_astore_nN (lv' := [(3, .null), (2, .int (iI (((((((((0 + 1) + 1) + 1) + 1) + 1) + 1) + 1) + 1) + 1))), (1, .int (iI (((((((((0 + 0) + 0) + 0) + 0) + 0) + 0) + 0) + 0) + 0))), (0, .ref (ad 0))]) B.1 B.2.1 dX11_statementsOfHabits_16 rfl hl (by decide) rfl (fun ls hl => ?_)
                      refine lv_iload_n B.1 B.2.1 dX11_statementsOfHabits_17 rfl (lv_at hl 2 rfl) ?_
                      refine lv_aload_nN B.1 B.2.1 dX11_statementsOfHabits_18 rfl (lv_at hl 0 rfl) ?_
                      refine lv_ifnonnullN B.1 B.2.1 dX11_statementsOfHabits_19 ?_
                      refine x_iconst B dX11_statementsOfHabits_22 ?_
                      refine lv_goto (tgt := 30) B.1 B.2.1 dX11_statementsOfHabits_23 (by decide) ?_
                      refine x_iadd B dX11_statementsOfHabits_30 ?_
                      refine lv_istore_n (lv' := [(1, .int (iI ((((((((((0 + 0) + 0) + 0) + 0) + 0) + 0) + 0) + 0) + 0) + 0))), (3, .null), (2, .int (iI (((((((((0 + 1) + 1) + 1) + 1) + 1) + 1) + 1) + 1) + 1))), (0, .ref (ad 0))]) B.1 B.2.1 dX11_statementsOfHabits_31 rfl hl (by decide) rfl (fun ls hl => ?_)
                      refine lv_iinc (v := iI ((((((((((0 + 1) + 1) + 1) + 1) + 1) + 1) + 1) + 1) + 1) + 1)) (lv' := [(2, .int (iI ((((((((((0 + 1) + 1) + 1) + 1) + 1) + 1) + 1) + 1) + 1) + 1))), (1, .int (iI ((((((((((0 + 0) + 0) + 0) + 0) + 0) + 0) + 0) + 0) + 0) + 0))), (3, .null), (0, .ref (ad 0))]) B.1 B.2.1 dX11_statementsOfHabits_32 hl (k := 2) rfl (iI_add _ _) (by decide) rfl (fun ls hl => ?_)
                      refine lv_goto (tgt := 4) B.1 B.2.1 dX11_statementsOfHabits_35 (by decide) ?_
                      refine lv_iload_n B.1 B.2.1 dX11_statementsOfHabits_4 rfl (lv_at hl 0 rfl) ?_
                      refine x_bipush B (by decide) dX11_statementsOfHabits_5 ?_
                      refine x_icmp_ge B (by omega) (tgt := 38) dX11_statementsOfHabits_7 (by decide) (fun c11 => ?_) (fun c11 => ?_)
                      · exact absurd c11 (by omega)
                      · refine lv_aload_n B.1 B.2.1 dX11_statementsOfHabits_10 rfl (lv_at hl 3 rfl) ?_
                        refine x_getR B h kX11 0 (hC 0 _ rfl) 7 (b := ad 27) rfl m_368 (by decide) dX11_statementsOfHabits_11 ?_
                        refine lv_iload_n B.1 B.2.1 dX11_statementsOfHabits_14 rfl (lv_at hl 0 rfl) ?_
                        refine x_qaldN B h 27 6 rfl (hC 27 _ rfl) (by omega) dX11_statementsOfHabits_15 ?_
                        refine lv_astore_nN (lv' := [(3, .null), (2, .int (iI ((((((((((0 + 1) + 1) + 1) + 1) + 1) + 1) + 1) + 1) + 1) + 1))), (1, .int (iI ((((((((((0 + 0) + 0) + 0) + 0) + 0) + 0) + 0) + 0) + 0) + 0))), (0, .ref (ad 0))]) B.1 B.2.1 dX11_statementsOfHabits_16 rfl hl (by decide) rfl (fun ls hl => ?_)
                        refine lv_iload_n B.1 B.2.1 dX11_statementsOfHabits_17 rfl (lv_at hl 2 rfl) ?_
                        refine lv_aload_nN B.1 B.2.1 dX11_statementsOfHabits_18 rfl (lv_at hl 0 rfl) ?_
                        refine lv_ifnonnullN B.1 B.2.1 dX11_statementsOfHabits_19 ?_
                        refine x_iconst B dX11_statementsOfHabits_22 ?_
                        refine lv_goto (tgt := 30) B.1 B.2.1 dX11_statementsOfHabits_23 (by decide) ?_
                        refine x_iadd B dX11_statementsOfHabits_30 ?_
                        refine lv_istore_n (lv' := [(1, .int (iI (((((((((((0 + 0) + 0) + 0) + 0) + 0) + 0) + 0) + 0) + 0) + 0) + 0))), (3, .null), (2, .int (iI ((((((((((0 + 1) + 1) + 1) + 1) + 1) + 1) + 1) + 1) + 1) + 1))), (0, .ref (ad 0))]) B.1 B.2.1 dX11_statementsOfHabits_31 rfl hl (by decide) rfl (fun ls hl => ?_)
                        refine lv_iinc (v := iI (((((((((((0 + 1) + 1) + 1) + 1) + 1) + 1) + 1) + 1) + 1) + 1) + 1)) (lv' := [(2, .int (iI (((((((((((0 + 1) + 1) + 1) + 1) + 1) + 1) + 1) + 1) + 1) + 1) + 1))), (1, .int (iI (((((((((((0 + 0) + 0) + 0) + 0) + 0) + 0) + 0) + 0) + 0) + 0) + 0))), (3, .null), (0, .ref (ad 0))]) B.1 B.2.1 dX11_statementsOfHabits_32 hl (k := 2) rfl (iI_add _ _) (by decide) rfl (fun ls hl => ?_)
                        refine lv_goto (tgt := 4) B.1 B.2.1 dX11_statementsOfHabits_35 (by decide) ?_
                        refine lv_iload_n B.1 B.2.1 dX11_statementsOfHabits_4 rfl (lv_at hl 0 rfl) ?_
                        refine x_bipush B (by decide) dX11_statementsOfHabits_5 ?_
                        refine x_icmp_ge B (by omega) (tgt := 38) dX11_statementsOfHabits_7 (by decide) (fun c12 => ?_) (fun c12 => ?_)
                        · exact absurd c12 (by omega)
                        · refine lv_aload_n B.1 B.2.1 dX11_statementsOfHabits_10 rfl (lv_at hl 3 rfl) ?_
                          refine x_getR B h kX11 0 (hC 0 _ rfl) 7 (b := ad 27) rfl m_368 (by decide) dX11_statementsOfHabits_11 ?_
                          refine lv_iload_n B.1 B.2.1 dX11_statementsOfHabits_14 rfl (lv_at hl 0 rfl) ?_
                          refine x_qaldN B h 27 6 rfl (hC 27 _ rfl) (by omega) dX11_statementsOfHabits_15 ?_
                          refine lv_astore_nN (lv' := [(3, .null), (2, .int (iI (((((((((((0 + 1) + 1) + 1) + 1) + 1) + 1) + 1) + 1) + 1) + 1) + 1))), (1, .int (iI (((((((((((0 + 0) + 0) + 0) + 0) + 0) + 0) + 0) + 0) + 0) + 0) + 0))), (0, .ref (ad 0))]) B.1 B.2.1 dX11_statementsOfHabits_16 rfl hl (by decide) rfl (fun ls hl => ?_)
                          refine lv_iload_n B.1 B.2.1 dX11_statementsOfHabits_17 rfl (lv_at hl 2 rfl) ?_
                          refine lv_aload_nN B.1 B.2.1 dX11_statementsOfHabits_18 rfl (lv_at hl 0 rfl) ?_
                          refine lv_ifnonnullN B.1 B.2.1 dX11_statementsOfHabits_19 ?_
                          refine x_iconst B dX11_statementsOfHabits_22 ?_
                          refine lv_goto (tgt := 30) B.1 B.2.1 dX11_statementsOfHabits_23 (by decide) ?_
                          refine x_iadd B dX11_statementsOfHabits_30 ?_
                          refine lv_istore_n (lv' := [(1, .int (iI ((((((((((((0 + 0) + 0) + 0) + 0) + 0) + 0) + 0) + 0) + 0) + 0) + 0) + 0))), (3, .null), (2, .int (iI (((((((((((0 + 1) + 1) + 1) + 1) + 1) + 1) + 1) + 1) + 1) + 1) + 1))), (0, .ref (ad 0))]) B.1 B.2.1 dX11_statementsOfHabits_31 rfl hl (by decide) rfl (fun ls hl => ?_)
                          refine lv_iinc (v := iI ((((((((((((0 + 1) + 1) + 1) + 1) + 1) + 1) + 1) + 1) + 1) + 1) + 1) + 1)) (lv' := [(2, .int (iI ((((((((((((0 + 1) + 1) + 1) + 1) + 1) + 1) + 1) + 1) + 1) + 1) + 1) + 1))), (1, .int (iI ((((((((((((0 + 0) + 0) + 0) + 0) + 0) + 0) + 0) + 0) + 0) + 0) + 0) + 0))), (3, .null), (0, .ref (ad 0))]) B.1 B.2.1 dX11_statementsOfHabits_32 hl (k := 2) rfl (iI_add _ _) (by decide) rfl (fun ls hl => ?_)
                          refine lv_goto (tgt := 4) B.1 B.2.1 dX11_statementsOfHabits_35 (by decide) ?_
                          refine lv_iload_n B.1 B.2.1 dX11_statementsOfHabits_4 rfl (lv_at hl 0 rfl) ?_
                          refine x_bipush B (by decide) dX11_statementsOfHabits_5 ?_
                          refine x_icmp_ge B (by omega) (tgt := 38) dX11_statementsOfHabits_7 (by decide) (fun c13 => ?_) (fun c13 => ?_)
                          · exact absurd c13 (by omega)
                          · refine lv_aload_n B.1 B.2.1 dX11_statementsOfHabits_10 rfl (lv_at hl 3 rfl) ?_
                            refine x_getR B h kX11 0 (hC 0 _ rfl) 7 (b := ad 27) rfl m_368 (by decide) dX11_statementsOfHabits_11 ?_
                            refine lv_iload_n B.1 B.2.1 dX11_statementsOfHabits_14 rfl (lv_at hl 0 rfl) ?_
                            refine x_qaldN B h 27 6 rfl (hC 27 _ rfl) (by omega) dX11_statementsOfHabits_15 ?_
                            refine lv_astore_nN (lv' := [(3, .null), (2, .int (iI ((((((((((((0 + 1) + 1) + 1) + 1) + 1) + 1) + 1) + 1) + 1) + 1) + 1) + 1))), (1, .int (iI ((((((((((((0 + 0) + 0) + 0) + 0) + 0) + 0) + 0) + 0) + 0) + 0) + 0) + 0))), (0, .ref (ad 0))]) B.1 B.2.1 dX11_statementsOfHabits_16 rfl hl (by decide) rfl (fun ls hl => ?_)
                            refine lv_iload_n B.1 B.2.1 dX11_statementsOfHabits_17 rfl (lv_at hl 2 rfl) ?_
                            refine lv_aload_nN B.1 B.2.1 dX11_statementsOfHabits_18 rfl (lv_at hl 0 rfl) ?_
                            refine lv_ifnonnullN B.1 B.2.1 dX11_statementsOfHabits_19 ?_
                            refine x_iconst B dX11_statementsOfHabits_22 ?_
                            refine lv_goto (tgt := 30) B.1 B.2.1 dX11_statementsOfHabits_23 (by decide) ?_
                            refine x_iadd B dX11_statementsOfHabits_30 ?_
                            refine lv_istore_n (lv' := [(1, .int (iI (((((((((((((0 + 0) + 0) + 0) + 0) + 0) + 0) + 0) + 0) + 0) + 0) + 0) + 0) + 0))), (3, .null), (2, .int (iI ((((((((((((0 + 1) + 1) + 1) + 1) + 1) + 1) + 1) + 1) + 1) + 1) + 1) + 1))), (0, .ref (ad 0))]) B.1 B.2.1 dX11_statementsOfHabits_31 rfl hl (by decide) rfl (fun ls hl => ?_)
                            refine lv_iinc (v := iI (((((((((((((0 + 1) + 1) + 1) + 1) + 1) + 1) + 1) + 1) + 1) + 1) + 1) + 1) + 1)) (lv' := [(2, .int (iI (((((((((((((0 + 1) + 1) + 1) + 1) + 1) + 1) + 1) + 1) + 1) + 1) + 1) + 1) + 1))), (1, .int (iI (((((((((((((0 + 0) + 0) + 0) + 0) + 0) + 0) + 0) + 0) + 0) + 0) + 0) + 0) + 0))), (3, .null), (0, .ref (ad 0))]) B.1 B.2.1 dX11_statementsOfHabits_32 hl (k := 2) rfl (iI_add _ _) (by decide) rfl (fun ls hl => ?_)
                            refine lv_goto (tgt := 4) B.1 B.2.1 dX11_statementsOfHabits_35 (by decide) ?_
                            refine lv_iload_n B.1 B.2.1 dX11_statementsOfHabits_4 rfl (lv_at hl 0 rfl) ?_
                            refine x_bipush B (by decide) dX11_statementsOfHabits_5 ?_
                            refine x_icmp_ge B (by omega) (tgt := 38) dX11_statementsOfHabits_7 (by decide) (fun c14 => ?_) (fun c14 => ?_)
                            · exact absurd c14 (by omega)
                            · refine lv_aload_n B.1 B.2.1 dX11_statementsOfHabits_10 rfl (lv_at hl 3 rfl) ?_
                              refine x_getR B h kX11 0 (hC 0 _ rfl) 7 (b := ad 27) rfl m_368 (by decide) dX11_statementsOfHabits_11 ?_
                              refine lv_iload_n B.1 B.2.1 dX11_statementsOfHabits_14 rfl (lv_at hl 0 rfl) ?_
                              refine x_qaldN B h 27 6 rfl (hC 27 _ rfl) (by omega) dX11_statementsOfHabits_15 ?_
                              refine lv_astore_nN (lv' := [(3, .null), (2, .int (iI (((((((((((((0 + 1) + 1) + 1) + 1) + 1) + 1) + 1) + 1) + 1) + 1) + 1) + 1) + 1))), (1, .int (iI (((((((((((((0 + 0) + 0) + 0) + 0) + 0) + 0) + 0) + 0) + 0) + 0) + 0) + 0) + 0))), (0, .ref (ad 0))]) B.1 B.2.1 dX11_statementsOfHabits_16 rfl hl (by decide) rfl (fun ls hl => ?_)
                              refine lv_iload_n B.1 B.2.1 dX11_statementsOfHabits_17 rfl (lv_at hl 2 rfl) ?_
                              refine lv_aload_nN B.1 B.2.1 dX11_statementsOfHabits_18 rfl (lv_at hl 0 rfl) ?_
                              refine lv_ifnonnullN B.1 B.2.1 dX11_statementsOfHabits_19 ?_
                              refine x_iconst B dX11_statementsOfHabits_22 ?_
                              refine lv_goto (tgt := 30) B.1 B.2.1 dX11_statementsOfHabits_23 (by decide) ?_
                              refine x_iadd B dX11_statementsOfHabits_30 ?_
                              refine lv_istore_n (lv' := [(1, .int (iI ((((((((((((((0 + 0) + 0) + 0) + 0) + 0) + 0) + 0) + 0) + 0) + 0) + 0) + 0) + 0) + 0))), (3, .null), (2, .int (iI (((((((((((((0 + 1) + 1) + 1) + 1) + 1) + 1) + 1) + 1) + 1) + 1) + 1) + 1) + 1))), (0, .ref (ad 0))]) B.1 B.2.1 dX11_statementsOfHabits_31 rfl hl (by decide) rfl (fun ls hl => ?_)
                              refine lv_iinc (v := iI ((((((((((((((0 + 1) + 1) + 1) + 1) + 1) + 1) + 1) + 1) + 1) + 1) + 1) + 1) + 1) + 1)) (lv' := [(2, .int (iI ((((((((((((((0 + 1) + 1) + 1) + 1) + 1) + 1) + 1) + 1) + 1) + 1) + 1) + 1) + 1) + 1))), (1, .int (iI ((((((((((((((0 + 0) + 0) + 0) + 0) + 0) + 0) + 0) + 0) + 0) + 0) + 0) + 0) + 0) + 0))), (3, .null), (0, .ref (ad 0))]) B.1 B.2.1 dX11_statementsOfHabits_32 hl (k := 2) rfl (iI_add _ _) (by decide) rfl (fun ls hl => ?_)
                              refine lv_goto (tgt := 4) B.1 B.2.1 dX11_statementsOfHabits_35 (by decide) ?_
                              refine lv_iload_n B.1 B.2.1 dX11_statementsOfHabits_4 rfl (lv_at hl 0 rfl) ?_
                              refine x_bipush B (by decide) dX11_statementsOfHabits_5 ?_
                              refine x_icmp_ge B (by omega) (tgt := 38) dX11_statementsOfHabits_7 (by decide) (fun c15 => ?_) (fun c15 => ?_)
                              · exact absurd c15 (by omega)
                              · refine lv_aload_n B.1 B.2.1 dX11_statementsOfHabits_10 rfl (lv_at hl 3 rfl) ?_
                                refine x_getR B h kX11 0 (hC 0 _ rfl) 7 (b := ad 27) rfl m_368 (by decide) dX11_statementsOfHabits_11 ?_
                                refine lv_iload_n B.1 B.2.1 dX11_statementsOfHabits_14 rfl (lv_at hl 0 rfl) ?_
                                refine x_qaldN B h 27 6 rfl (hC 27 _ rfl) (by omega) dX11_statementsOfHabits_15 ?_
                                refine lv_astore_nN (lv' := [(3, .null), (2, .int (iI ((((((((((((((0 + 1) + 1) + 1) + 1) + 1) + 1) + 1) + 1) + 1) + 1) + 1) + 1) + 1) + 1))), (1, .int (iI ((((((((((((((0 + 0) + 0) + 0) + 0) + 0) + 0) + 0) + 0) + 0) + 0) + 0) + 0) + 0) + 0))), (0, .ref (ad 0))]) B.1 B.2.1 dX11_statementsOfHabits_16 rfl hl (by decide) rfl (fun ls hl => ?_)
                                refine lv_iload_n B.1 B.2.1 dX11_statementsOfHabits_17 rfl (lv_at hl 2 rfl) ?_
                                refine lv_aload_nN B.1 B.2.1 dX11_statementsOfHabits_18 rfl (lv_at hl 0 rfl) ?_
                                refine lv_ifnonnullN B.1 B.2.1 dX11_statementsOfHabits_19 ?_
                                refine x_iconst B dX11_statementsOfHabits_22 ?_
                                refine lv_goto (tgt := 30) B.1 B.2.1 dX11_statementsOfHabits_23 (by decide) ?_
                                refine x_iadd B dX11_statementsOfHabits_30 ?_
                                refine lv_istore_n (lv' := [(1, .int (iI (((((((((((((((0 + 0) + 0) + 0) + 0) + 0) + 0) + 0) + 0) + 0) + 0) + 0) + 0) + 0) + 0) + 0))), (3, .null), (2, .int (iI ((((((((((((((0 + 1) + 1) + 1) + 1) + 1) + 1) + 1) + 1) + 1) + 1) + 1) + 1) + 1) + 1))), (0, .ref (ad 0))]) B.1 B.2.1 dX11_statementsOfHabits_31 rfl hl (by decide) rfl (fun ls hl => ?_)
                                refine lv_iinc (v := iI (((((((((((((((0 + 1) + 1) + 1) + 1) + 1) + 1) + 1) + 1) + 1) + 1) + 1) + 1) + 1) + 1) + 1)) (lv' := [(2, .int (iI (((((((((((((((0 + 1) + 1) + 1) + 1) + 1) + 1) + 1) + 1) + 1) + 1) + 1) + 1) + 1) + 1) + 1))), (1, .int (iI (((((((((((((((0 + 0) + 0) + 0) + 0) + 0) + 0) + 0) + 0) + 0) + 0) + 0) + 0) + 0) + 0) + 0))), (3, .null), (0, .ref (ad 0))]) B.1 B.2.1 dX11_statementsOfHabits_32 hl (k := 2) rfl (iI_add _ _) (by decide) rfl (fun ls hl => ?_)
                                refine lv_goto (tgt := 4) B.1 B.2.1 dX11_statementsOfHabits_35 (by decide) ?_
                                refine lv_iload_n B.1 B.2.1 dX11_statementsOfHabits_4 rfl (lv_at hl 0 rfl) ?_
                                refine x_bipush B (by decide) dX11_statementsOfHabits_5 ?_
                                refine x_icmp_ge B (by omega) (tgt := 38) dX11_statementsOfHabits_7 (by decide) (fun c16 => ?_) (fun c16 => ?_)
                                · exact absurd c16 (by omega)
                                · refine lv_aload_n B.1 B.2.1 dX11_statementsOfHabits_10 rfl (lv_at hl 3 rfl) ?_
                                  refine x_getR B h kX11 0 (hC 0 _ rfl) 7 (b := ad 27) rfl m_368 (by decide) dX11_statementsOfHabits_11 ?_
                                  refine lv_iload_n B.1 B.2.1 dX11_statementsOfHabits_14 rfl (lv_at hl 0 rfl) ?_
                                  refine x_qaldN B h 27 6 rfl (hC 27 _ rfl) (by omega) dX11_statementsOfHabits_15 ?_
                                  refine lv_astore_nN (lv' := [(3, .null), (2, .int (iI (((((((((((((((0 + 1) + 1) + 1) + 1) + 1) + 1) + 1) + 1) + 1) + 1) + 1) + 1) + 1) + 1) + 1))), (1, .int (iI (((((((((((((((0 + 0) + 0) + 0) + 0) + 0) + 0) + 0) + 0) + 0) + 0) + 0) + 0) + 0) + 0) + 0))), (0, .ref (ad 0))]) B.1 B.2.1 dX11_statementsOfHabits_16 rfl hl (by decide) rfl (fun ls hl => ?_)
                                  refine lv_iload_n B.1 B.2.1 dX11_statementsOfHabits_17 rfl (lv_at hl 2 rfl) ?_
                                  refine lv_aload_nN B.1 B.2.1 dX11_statementsOfHabits_18 rfl (lv_at hl 0 rfl) ?_
                                  refine lv_ifnonnullN B.1 B.2.1 dX11_statementsOfHabits_19 ?_
                                  refine x_iconst B dX11_statementsOfHabits_22 ?_
                                  refine lv_goto (tgt := 30) B.1 B.2.1 dX11_statementsOfHabits_23 (by decide) ?_
                                  refine x_iadd B dX11_statementsOfHabits_30 ?_
                                  refine lv_istore_n (lv' := [(1, .int (iI ((((((((((((((((0 + 0) + 0) + 0) + 0) + 0) + 0) + 0) + 0) + 0) + 0) + 0) + 0) + 0) + 0) + 0) + 0))), (3, .null), (2, .int (iI (((((((((((((((0 + 1) + 1) + 1) + 1) + 1) + 1) + 1) + 1) + 1) + 1) + 1) + 1) + 1) + 1) + 1))), (0, .ref (ad 0))]) B.1 B.2.1 dX11_statementsOfHabits_31 rfl hl (by decide) rfl (fun ls hl => ?_)
                                  refine lv_iinc (v := iI ((((((((((((((((0 + 1) + 1) + 1) + 1) + 1) + 1) + 1) + 1) + 1) + 1) + 1) + 1) + 1) + 1) + 1) + 1)) (lv' := [(2, .int (iI ((((((((((((((((0 + 1) + 1) + 1) + 1) + 1) + 1) + 1) + 1) + 1) + 1) + 1) + 1) + 1) + 1) + 1) + 1))), (1, .int (iI ((((((((((((((((0 + 0) + 0) + 0) + 0) + 0) + 0) + 0) + 0) + 0) + 0) + 0) + 0) + 0) + 0) + 0) + 0))), (3, .null), (0, .ref (ad 0))]) B.1 B.2.1 dX11_statementsOfHabits_32 hl (k := 2) rfl (iI_add _ _) (by decide) rfl (fun ls hl => ?_)
                                  refine lv_goto (tgt := 4) B.1 B.2.1 dX11_statementsOfHabits_35 (by decide) ?_
                                  refine lv_iload_n B.1 B.2.1 dX11_statementsOfHabits_4 rfl (lv_at hl 0 rfl) ?_
                                  refine x_bipush B (by decide) dX11_statementsOfHabits_5 ?_
                                  refine x_icmp_ge B (by omega) (tgt := 38) dX11_statementsOfHabits_7 (by decide) (fun c17 => ?_) (fun c17 => ?_)
                                  · refine lv_iload_n B.1 B.2.1 dX11_statementsOfHabits_38 rfl (lv_at hl 1 rfl) ?_
                                    refine x_ri B hQ h (by decide) dX11_statementsOfHabits_39 ?_
                                    exact ⟨rfl, _, rfl, by omega⟩
                                  · exact absurd c17 (by omega)
abbrev r_c_J6_bitCount_0f7a4 : Room := { frames := 0, cells := 0, slots := 0, locals := 0 }
set_option maxHeartbeats 4000000 in
set_option maxRecDepth 100000 in
theorem c_J6_bitCount_0f7a4 (l : Launch) (D : va_G) (ca : Nat → ClassId) (w : xW)    : xC l D ca yJ6_bitCount_0f7a4 cJ6_bitCount_0f7a4 1 (some .int) r_c_J6_bitCount_0f7a4 [.int (iI 0)] w (qI w (fun z => z = 0)) := by
  refine xC.of2 "java/lang/Integer" (by decide) rfl (Nat.le_of_ble_eq_true rfl) ?_
  intro p e s m args below meth c A ls Qf B hnm h hl hQ
  have hl : lv_has ls 1 [(0, .int (iI 0))] := hl
  refine lv_iload_n B.1 B.2.1 dJ6_bitCount_0f7a4_0 rfl (lv_at hl 0 rfl) ?_
  refine lv_iload_n B.1 B.2.1 dJ6_bitCount_0f7a4_1 rfl (lv_at hl 0 rfl) ?_
  refine x_iconst B dJ6_bitCount_0f7a4_2 ?_
  refine lv_iushr B.1 B.2.1 dJ6_bitCount_0f7a4_3 rfl ?_
  refine x_iset (z := 0) (by decide) ?_
  refine x_ldcw B (z := 1431655765) m_1143 (by decide) dJ6_bitCount_0f7a4_4 ?_
  refine lv_iand B.1 B.2.1 dJ6_bitCount_0f7a4_7 ?_
  refine x_iset (z := 0) (by decide) ?_
  refine x_isub B dJ6_bitCount_0f7a4_8 ?_
  refine lv_istore_n (lv' := [(0, .int (iI (0 - 0)))]) B.1 B.2.1 dJ6_bitCount_0f7a4_9 rfl hl (by decide) rfl (fun ls hl => ?_)
  refine lv_iload_n B.1 B.2.1 dJ6_bitCount_0f7a4_10 rfl (lv_at hl 0 rfl) ?_
  refine x_ldcw B (z := 858993459) m_1144 (by decide) dJ6_bitCount_0f7a4_11 ?_
  refine lv_iand B.1 B.2.1 dJ6_bitCount_0f7a4_14 ?_
  refine x_iset (z := 0) (by decide) ?_
  refine lv_iload_n B.1 B.2.1 dJ6_bitCount_0f7a4_15 rfl (lv_at hl 0 rfl) ?_
  refine x_iconst B dJ6_bitCount_0f7a4_16 ?_
  refine lv_iushr B.1 B.2.1 dJ6_bitCount_0f7a4_17 rfl ?_
  refine x_iset (z := 0) (by decide) ?_
  refine x_ldcw B (z := 858993459) m_1144 (by decide) dJ6_bitCount_0f7a4_18 ?_
  refine lv_iand B.1 B.2.1 dJ6_bitCount_0f7a4_21 ?_
  refine x_iset (z := 0) (by decide) ?_
  refine x_iadd B dJ6_bitCount_0f7a4_22 ?_
  refine lv_istore_n (lv' := [(0, .int (iI (0 + 0)))]) B.1 B.2.1 dJ6_bitCount_0f7a4_23 rfl hl (by decide) rfl (fun ls hl => ?_)
  refine lv_iload_n B.1 B.2.1 dJ6_bitCount_0f7a4_24 rfl (lv_at hl 0 rfl) ?_
  refine lv_iload_n B.1 B.2.1 dJ6_bitCount_0f7a4_25 rfl (lv_at hl 0 rfl) ?_
  refine x_iconst B dJ6_bitCount_0f7a4_26 ?_
  refine lv_iushr B.1 B.2.1 dJ6_bitCount_0f7a4_27 rfl ?_
  refine x_iset (z := 0) (by decide) ?_
  refine x_iadd B dJ6_bitCount_0f7a4_28 ?_
  refine x_ldcw B (z := 252645135) m_1145 (by decide) dJ6_bitCount_0f7a4_29 ?_
  refine lv_iand B.1 B.2.1 dJ6_bitCount_0f7a4_32 ?_
  refine x_iset (z := 0) (by decide) ?_
  refine lv_istore_n (lv' := [(0, .int (iI 0))]) B.1 B.2.1 dJ6_bitCount_0f7a4_33 rfl hl (by decide) rfl (fun ls hl => ?_)
  refine lv_iload_n B.1 B.2.1 dJ6_bitCount_0f7a4_34 rfl (lv_at hl 0 rfl) ?_
  refine lv_iload_n B.1 B.2.1 dJ6_bitCount_0f7a4_35 rfl (lv_at hl 0 rfl) ?_
  refine x_bipush B (by decide) dJ6_bitCount_0f7a4_36 ?_
  refine lv_iushr B.1 B.2.1 dJ6_bitCount_0f7a4_38 rfl ?_
  refine x_iset (z := 0) (by decide) ?_
  refine x_iadd B dJ6_bitCount_0f7a4_39 ?_
  refine lv_istore_n (lv' := [(0, .int (iI (0 + 0)))]) B.1 B.2.1 dJ6_bitCount_0f7a4_40 rfl hl (by decide) rfl (fun ls hl => ?_)
  refine lv_iload_n B.1 B.2.1 dJ6_bitCount_0f7a4_41 rfl (lv_at hl 0 rfl) ?_
  refine lv_iload_n B.1 B.2.1 dJ6_bitCount_0f7a4_42 rfl (lv_at hl 0 rfl) ?_
  refine x_bipush B (by decide) dJ6_bitCount_0f7a4_43 ?_
  refine lv_iushr B.1 B.2.1 dJ6_bitCount_0f7a4_45 rfl ?_
  refine x_iset (z := 0) (by decide) ?_
  refine x_iadd B dJ6_bitCount_0f7a4_46 ?_
  refine lv_istore_n (lv' := [(0, .int (iI ((0 + 0) + 0)))]) B.1 B.2.1 dJ6_bitCount_0f7a4_47 rfl hl (by decide) rfl (fun ls hl => ?_)
  refine lv_iload_n B.1 B.2.1 dJ6_bitCount_0f7a4_48 rfl (lv_at hl 0 rfl) ?_
  refine x_bipush B (by decide) dJ6_bitCount_0f7a4_49 ?_
  refine lv_iand B.1 B.2.1 dJ6_bitCount_0f7a4_51 ?_
  refine x_iset (z := 0) (by decide) ?_
  refine x_ri B hQ h (by decide) dJ6_bitCount_0f7a4_52 ?_
  exact ⟨rfl, _, rfl, by omega⟩
abbrev r_c_X11_count : Room := { frames := 1, cells := 0, slots := 0, locals := 23 }
set_option maxHeartbeats 4000000 in
set_option maxRecDepth 100000 in
theorem c_X11_count (l : Launch) (D : va_G) (ca : Nat → ClassId) (w : xW) (ad : Nat → Nat) (hC : C0 ca ad w) (what : Int)  (hwhat : xr what) : xC l D ca yX11_count cX11_count 2 (some .int) r_c_X11_count [.ref (ad 0), .int (iI what)] w (qIa (fun z => ((what = 4 ∨ what = 5) → z = 1) ∧ ((0 ≤ what ∧ what ≤ 13 ∧ what ≠ 4 ∧ what ≠ 5) → z = 0) ∧ ((what < 0 ∨ 13 < what) → z = -1))) := by
  refine xC.of2 "WindWords" (by decide) rfl (Nat.le_of_ble_eq_true rfl) ?_
  intro p e s m args below meth c A ls Qf B hnm h hl hQ
  have hl : lv_has ls 2 [(0, .ref (ad 0)), (1, .int (iI what))] := hl
  refine lv_iload_n B.1 B.2.1 dX11_count_0 rfl (lv_at hl 1 rfl) ?_
  by_cases t1 : what = 0
  · refine x_tin B (tgt := 72) 0 (by omega) dX11_count_1 rfl (by decide) ?_
    refine lv_aload_n B.1 B.2.1 dX11_count_72 rfl (lv_at hl 0 rfl) ?_
    refine x_getR B h kX11 0 (hC 0 _ rfl) 0 (b := ad 1) rfl m_361 (by decide) dX11_count_73 ?_
    refine x_getX B h kX0 1 (hC 1 _ rfl) 2 (z := 0) rfl m_137 (by decide) dX11_count_76 ?_
    refine x_ri B hQ h (by decide) dX11_count_79 ?_
    exact ⟨_, rfl, by omega⟩
  by_cases t2 : what = 1
  · refine x_tin B (tgt := 80) 1 (by omega) dX11_count_1 rfl (by decide) ?_
    refine lv_aload_n B.1 B.2.1 dX11_count_80 rfl (lv_at hl 0 rfl) ?_
    refine x_getR B h kX11 0 (hC 0 _ rfl) 0 (b := ad 1) rfl m_361 (by decide) dX11_count_81 ?_
    refine x_getX B h kX0 1 (hC 1 _ rfl) 4 (z := 0) rfl m_143 (by decide) dX11_count_84 ?_
    refine x_ri B hQ h (by decide) dX11_count_87 ?_
    exact ⟨_, rfl, by omega⟩
  by_cases t3 : what = 2
  · refine x_tin B (tgt := 88) 2 (by omega) dX11_count_1 rfl (by decide) ?_
    refine lv_aload_n B.1 B.2.1 dX11_count_88 rfl (lv_at hl 0 rfl) ?_
    refine x_getR B h kX11 0 (hC 0 _ rfl) 0 (b := ad 1) rfl m_361 (by decide) dX11_count_89 ?_
    refine x_getX B h kX0 1 (hC 1 _ rfl) 5 (z := 0) rfl m_149 (by decide) dX11_count_92 ?_
    refine x_ri B hQ h (by decide) dX11_count_95 ?_
    exact ⟨_, rfl, by omega⟩
  by_cases t4 : what = 3
  · refine x_tin B (tgt := 96) 3 (by omega) dX11_count_1 rfl (by decide) ?_
    refine lv_aload_n B.1 B.2.1 dX11_count_96 rfl (lv_at hl 0 rfl) ?_
    refine x_getR B h kX11 0 (hC 0 _ rfl) 1 (b := ad 4) rfl m_362 (by decide) dX11_count_97 ?_
    refine x_getX B h kX6 4 (hC 4 _ rfl) 7 (z := 0) rfl m_195 (by decide) dX11_count_100 ?_
    refine x_ri B hQ h (by decide) dX11_count_103 ?_
    exact ⟨_, rfl, by omega⟩
  by_cases t5 : what = 4
  · refine x_tin B (tgt := 104) 4 (by omega) dX11_count_1 rfl (by decide) ?_
    refine lv_aload_n B.1 B.2.1 dX11_count_104 rfl (lv_at hl 0 rfl) ?_
    refine x_getR B h kX11 0 (hC 0 _ rfl) 0 (b := ad 1) rfl m_361 (by decide) dX11_count_105 ?_
    refine x_getX B h kX0 1 (hC 1 _ rfl) 7 (z := 1) rfl m_154 (by decide) dX11_count_108 ?_
    refine x_ri B hQ h (by decide) dX11_count_111 ?_
    exact ⟨_, rfl, by omega⟩
  by_cases t6 : what = 5
  · refine x_tin B (tgt := 112) 5 (by omega) dX11_count_1 rfl (by decide) ?_
    refine lv_aload_n B.1 B.2.1 dX11_count_112 rfl (lv_at hl 0 rfl) ?_
    refine x_getR B h kX11 0 (hC 0 _ rfl) 0 (b := ad 1) rfl m_361 (by decide) dX11_count_113 ?_
    refine x_getX B h kX0 1 (hC 1 _ rfl) 8 (z := 1) rfl m_158 (by decide) dX11_count_116 ?_
    refine x_ri B hQ h (by decide) dX11_count_119 ?_
    exact ⟨_, rfl, by omega⟩
  by_cases t7 : what = 6
  · refine x_tin B (tgt := 120) 6 (by omega) dX11_count_1 rfl (by decide) ?_
    refine lv_aload_n B.1 B.2.1 dX11_count_120 rfl (lv_at hl 0 rfl) ?_
    refine x_getR B h kX11 0 (hC 0 _ rfl) 0 (b := ad 1) rfl m_361 (by decide) dX11_count_121 ?_
    refine x_getX B h kX0 1 (hC 1 _ rfl) 6 (z := 0) rfl m_151 (by decide) dX11_count_124 ?_
    refine x_ri B hQ h (by decide) dX11_count_127 ?_
    exact ⟨_, rfl, by omega⟩
  by_cases t8 : what = 7
  · refine x_tin B (tgt := 128) 7 (by omega) dX11_count_1 rfl (by decide) ?_
    refine lv_aload_n B.1 B.2.1 dX11_count_128 rfl (lv_at hl 0 rfl) ?_
    refine x_getR B h kX11 0 (hC 0 _ rfl) 0 (b := ad 1) rfl m_361 (by decide) dX11_count_129 ?_
    refine x_getX B h kX0 1 (hC 1 _ rfl) 2 (z := 0) rfl m_137 (by decide) dX11_count_132 ?_
    refine lv_aload_n B.1 B.2.1 dX11_count_135 rfl (lv_at hl 0 rfl) ?_
    refine x_getR B h kX11 0 (hC 0 _ rfl) 0 (b := ad 1) rfl m_361 (by decide) dX11_count_136 ?_
    refine x_getX B h kX0 1 (hC 1 _ rfl) 3 (z := 0) rfl m_140 (by decide) dX11_count_139 ?_
    refine x_cS B h k_J6_bitCount_0f7a4 (c_J6_bitCount_0f7a4 l D ca _   ) m_1140 rfl (by decide) hl.1 [.int (iI 0)] (Nat.le_of_ble_eq_true rfl) rfl dX11_count_142 (fun r w1 hq H locs h => ?_)
    obtain ⟨rfl, _, rfl, rfl⟩ := hq
    show W p l e r_c_X11_count s m args below meth c H locs 0 0 Qf (F0 m 145 ls [.int (iI 0), .int (iI 0)])
    refine x_isub B dX11_count_145 ?_
    refine x_ri B hQ h (by decide) dX11_count_146 ?_
    exact ⟨_, rfl, by omega⟩
  by_cases t10 : what = 8
  · refine x_tin B (tgt := 147) 8 (by omega) dX11_count_1 rfl (by decide) ?_
    refine lv_aload_n B.1 B.2.1 dX11_count_147 rfl (lv_at hl 0 rfl) ?_
    refine x_getR B h kX11 0 (hC 0 _ rfl) 9 (b := ad 29) rfl m_370 (by decide) dX11_count_148 ?_
    refine x_iconst B dX11_count_151 ?_
    refine x_ialdX B h 29 (hC 29 _ rfl) (by omega) dX11_count_152 ?_
    refine x_ri B hQ h (by decide) dX11_count_153 ?_
    exact ⟨_, rfl, by omega⟩
  by_cases t11 : what = 9
  · refine x_tin B (tgt := 154) 9 (by omega) dX11_count_1 rfl (by decide) ?_
    refine lv_aload_n B.1 B.2.1 dX11_count_154 rfl (lv_at hl 0 rfl) ?_
    refine x_getR B h kX11 0 (hC 0 _ rfl) 9 (b := ad 29) rfl m_370 (by decide) dX11_count_155 ?_
    refine x_iconst B dX11_count_158 ?_
    refine x_ialdX B h 29 (hC 29 _ rfl) (by omega) dX11_count_159 ?_
    refine x_ri B hQ h (by decide) dX11_count_160 ?_
    exact ⟨_, rfl, by omega⟩
  by_cases t12 : what = 10
  · refine x_tin B (tgt := 161) 10 (by omega) dX11_count_1 rfl (by decide) ?_
    refine lv_aload_n B.1 B.2.1 dX11_count_161 rfl (lv_at hl 0 rfl) ?_
    refine x_getR B h kX11 0 (hC 0 _ rfl) 9 (b := ad 29) rfl m_370 (by decide) dX11_count_162 ?_
    refine x_iconst B dX11_count_165 ?_
    refine x_ialdX B h 29 (hC 29 _ rfl) (by omega) dX11_count_166 ?_
    refine x_ri B hQ h (by decide) dX11_count_167 ?_
    exact ⟨_, rfl, by omega⟩
  by_cases t13 : what = 11
  · refine x_tin B (tgt := 168) 11 (by omega) dX11_count_1 rfl (by decide) ?_
    refine lv_aload_n B.1 B.2.1 dX11_count_168 rfl (lv_at hl 0 rfl) ?_
    refine x_getX B h kX11 0 (hC 0 _ rfl) 17 (z := 0) rfl m_378 (by decide) dX11_count_169 ?_
    refine x_ri B hQ h (by decide) dX11_count_172 ?_
    exact ⟨_, rfl, by omega⟩
  by_cases t14 : what = 12
  · refine x_tin B (tgt := 173) 12 (by omega) dX11_count_1 rfl (by decide) ?_
    refine lv_aload_n B.1 B.2.1 dX11_count_173 rfl (lv_at hl 0 rfl) ?_
    refine x_getR B h kX11 0 (hC 0 _ rfl) 5 (b := ad 20) rfl m_366 (by decide) dX11_count_174 ?_
    refine x_getX B h kX9 20 (hC 20 _ rfl) 0 (z := 0) rfl m_289 (by decide) dX11_count_177 ?_
    refine x_ri B hQ h (by decide) dX11_count_180 ?_
    exact ⟨_, rfl, by omega⟩
  by_cases t15 : what = 13
  · refine x_tin B (tgt := 181) 13 (by omega) dX11_count_1 rfl (by decide) ?_
    refine lv_aload_n B.1 B.2.1 dX11_count_181 rfl (lv_at hl 0 rfl) ?_
    refine x_cV B h kX11 0 (hC 0 _ rfl) k_X11_statementsOfHabits rfl (c_X11_statementsOfHabits l D ca _ ad hC   ) m_1251 rfl (by decide) hl.1 [] (Nat.le_of_ble_eq_true rfl) rfl dX11_count_182 (fun r w1 hq H locs h => ?_)
    obtain ⟨rfl, _, rfl, rfl⟩ := hq
    show W p l e r_c_X11_count s m args below meth c H locs 0 0 Qf (F0 m 185 ls [.int (iI 0)])
    refine x_ri B hQ h (by decide) dX11_count_185 ?_
    exact ⟨_, rfl, by omega⟩
  refine x_tout B (tgt := 186) (by omega) dX11_count_1 (by decide) ?_
  refine x_iconst B dX11_count_186 ?_
  refine x_ri B hQ h (by decide) dX11_count_187 ?_
  exact ⟨_, rfl, by omega⟩
