theorem k_X9_put : xMV yX9_put cX9_put 3 none 1 := ⟨m_572, m_570, m_571, m_101, ⟨by decide +kernel, by decide +kernel, by decide +kernel⟩⟩
theorem k_X5_clear : xMV yX5_clear cX5_clear 1 none 0 := ⟨m_749, m_747, m_748, m_103, ⟨by decide +kernel, by decide +kernel, by decide +kernel⟩⟩
theorem k_X9_split : xMV yX9_split cX9_split 4 none 1 := ⟨m_584, m_582, m_583, m_101, ⟨by decide +kernel, by decide +kernel, by decide +kernel⟩⟩
theorem k_X1_faultOf : xMV yX1_faultOf cX1_faultOf 6 (some .int) 3 := ⟨m_745, m_743, m_744, m_102, ⟨by decide +kernel, by decide +kernel, by decide +kernel⟩⟩
abbrev r_c_X9_put : Room := { frames := 0, cells := 0, slots := 0, locals := 0 }
set_option maxHeartbeats 4000000 in
set_option maxRecDepth 100000 in
theorem c_X9_put (l : Launch) (D : va_G) (ca : Nat → ClassId) (w : xW) (ad : Nat → Nat) (four : Int32) (sz : Int) (ft : w[20]? = some (ad 20, xO 9 [fX sz, fG 0 0, fR (ad 21), fR (ad 22), fR (ad 23), fR (ad 24), fR (ad 25), fG 0 0])) (fb : w[21]? = some (ad 21, xAI (ca 0) 900 gA)) (hsz : 0 ≤ sz ∧ sz ≤ 880) : xC l D ca yX9_put cX9_put 3 none r_c_X9_put [.ref (ad 20), .int (four)] w (qV (w.set 20 (ad 20, xO 9 [fX ((((sz + 1) + 1) + 1) + 1), fG 0 0, fR (ad 21), fR (ad 22), fR (ad 23), fR (ad 24), fR (ad 25), fG 0 0]))) := by
  refine xC.of2 "WindWords$Tape" (by decide) rfl (Nat.le_of_ble_eq_true rfl) ?_
  intro p e s m args below meth c A ls Qf B hnm h hl hQ
  have hl : lv_has ls 3 [(0, .ref (ad 20)), (1, .int (four))] := hl
  refine x_bipush B (by decide) dX9_put_0 ?_
  refine lv_istore_n (lv' := [(2, .int (iI 24)), (0, .ref (ad 20)), (1, .int (four))]) B.1 B.2.1 dX9_put_2 rfl hl (by decide) rfl (fun ls hl => ?_)
  refine lv_iload_n B.1 B.2.1 dX9_put_3 rfl (lv_at hl 0 rfl) ?_
  refine x_if_lt B (by omega) (tgt := 49) dX9_put_4 (by decide) (fun c1 => ?_) (fun c1 => ?_)
  · exact absurd c1 (by omega)
  · refine lv_aload_n B.1 B.2.1 dX9_put_7 rfl (lv_at hl 1 rfl) ?_
    refine x_getX B h kX9 20 ft 0 (z := sz) rfl m_288 (by decide) dX9_put_8 ?_
    refine x_sipush B (by decide) dX9_put_11 ?_
    refine x_icmp_ge B (by omega) (tgt := 49) dX9_put_14 (by decide) (fun c2 => ?_) (fun c2 => ?_)
    · exact absurd c2 (by omega)
    · refine lv_aload_n B.1 B.2.1 dX9_put_17 rfl (lv_at hl 1 rfl) ?_
      refine x_getR B h kX9 20 ft 2 (b := ad 21) rfl m_292 (by decide) dX9_put_18 ?_
      refine lv_aload_n B.1 B.2.1 dX9_put_21 rfl (lv_at hl 1 rfl) ?_
      refine x_getX B h kX9 20 ft 0 (z := sz) rfl m_288 (by decide) dX9_put_22 ?_
      refine lv_iload_n B.1 B.2.1 dX9_put_25 rfl (lv_at hl 2 rfl) ?_
      refine lv_iload_n B.1 B.2.1 dX9_put_26 rfl (lv_at hl 0 rfl) ?_
      refine lv_iushr B.1 B.2.1 dX9_put_27 rfl ?_
      refine x_raw (fun y3 => ?_)
      refine x_sipush B (by decide) dX9_put_28 ?_
      refine lv_iand B.1 B.2.1 dX9_put_31 ?_
      refine x_raw (fun y4 => ?_)
      refine x_iastS B h 21 fb (by omega) (fun _ _ => trivial) dX9_put_32 (fun H locs h => ?_)
      refine lv_aload_n B.1 B.2.1 dX9_put_33 rfl (lv_at hl 1 rfl) ?_
      refine lv_dup B.1 B.2.1 dX9_put_34 rfl ?_
      refine x_getX B h kX9 20 ft 0 (z := sz) rfl m_288 (by decide) dX9_put_35 ?_
      refine x_iconst B dX9_put_38 ?_
      refine x_iadd B dX9_put_39 ?_
      refine x_put B h kX9 20 ft 0 (Nat.le_of_ble_eq_true rfl) (P' := fX (sz + 1)) m_288 (by decide) rfl rfl rfl rfl dX9_put_40 (fun H locs h => ?_)
      have h : xH D A s.heap (w.set 20 (ad 20, xO 9 [fX (sz + 1), fG 0 0, fR (ad 21), fR (ad 22), fR (ad 23), fR (ad 24), fR (ad 25), fG 0 0])) H locs := h
      refine lv_iinc (v := iI (24 + (-8))) (lv' := [(2, .int (iI (24 + (-8)))), (0, .ref (ad 20)), (1, .int (four))]) B.1 B.2.1 dX9_put_43 hl (k := 0) rfl (iI_add _ _) (by decide) rfl (fun ls hl => ?_)
      refine lv_goto (tgt := 3) B.1 B.2.1 dX9_put_46 (by decide) ?_
      refine lv_iload_n B.1 B.2.1 dX9_put_3 rfl (lv_at hl 0 rfl) ?_
      refine x_if_lt B (by omega) (tgt := 49) dX9_put_4 (by decide) (fun c5 => ?_) (fun c5 => ?_)
      · exact absurd c5 (by omega)
      · refine lv_aload_n B.1 B.2.1 dX9_put_7 rfl (lv_at hl 1 rfl) ?_
        refine x_getX B h kX9 20 (xset_eq ft) 0 (z := (sz + 1)) rfl m_288 (by decide) dX9_put_8 ?_
        refine x_sipush B (by decide) dX9_put_11 ?_
        refine x_icmp_ge B (by omega) (tgt := 49) dX9_put_14 (by decide) (fun c6 => ?_) (fun c6 => ?_)
        · exact absurd c6 (by omega)
        · refine lv_aload_n B.1 B.2.1 dX9_put_17 rfl (lv_at hl 1 rfl) ?_
          refine x_getR B h kX9 20 (xset_eq ft) 2 (b := ad 21) rfl m_292 (by decide) dX9_put_18 ?_
          refine lv_aload_n B.1 B.2.1 dX9_put_21 rfl (lv_at hl 1 rfl) ?_
          refine x_getX B h kX9 20 (xset_eq ft) 0 (z := (sz + 1)) rfl m_288 (by decide) dX9_put_22 ?_
          refine lv_iload_n B.1 B.2.1 dX9_put_25 rfl (lv_at hl 2 rfl) ?_
          refine lv_iload_n B.1 B.2.1 dX9_put_26 rfl (lv_at hl 0 rfl) ?_
          refine lv_iushr B.1 B.2.1 dX9_put_27 rfl ?_
          refine x_raw (fun y7 => ?_)
          refine x_sipush B (by decide) dX9_put_28 ?_
          refine lv_iand B.1 B.2.1 dX9_put_31 ?_
          refine x_raw (fun y8 => ?_)
          refine x_iastS B h 21 (xset_ne fb (by decide)) (by omega) (fun _ _ => trivial) dX9_put_32 (fun H locs h => ?_)
          refine lv_aload_n B.1 B.2.1 dX9_put_33 rfl (lv_at hl 1 rfl) ?_
          refine lv_dup B.1 B.2.1 dX9_put_34 rfl ?_
          refine x_getX B h kX9 20 (xset_eq ft) 0 (z := (sz + 1)) rfl m_288 (by decide) dX9_put_35 ?_
          refine x_iconst B dX9_put_38 ?_
          refine x_iadd B dX9_put_39 ?_
          refine x_put B h kX9 20 (xset_eq ft) 0 (Nat.le_of_ble_eq_true rfl) (P' := fX ((sz + 1) + 1)) m_288 (by decide) rfl rfl rfl rfl dX9_put_40 (fun H locs h => ?_)
          have h : xH D A s.heap (w.set 20 (ad 20, xO 9 [fX ((sz + 1) + 1), fG 0 0, fR (ad 21), fR (ad 22), fR (ad 23), fR (ad 24), fR (ad 25), fG 0 0])) H locs := by rw [List.set_set] at h; exact h
          refine lv_iinc (v := iI ((24 + (-8)) + (-8))) (lv' := [(2, .int (iI ((24 + (-8)) + (-8)))), (0, .ref (ad 20)), (1, .int (four))]) B.1 B.2.1 dX9_put_43 hl (k := 0) rfl (iI_add _ _) (by decide) rfl (fun ls hl => ?_)
          refine lv_goto (tgt := 3) B.1 B.2.1 dX9_put_46 (by decide) ?_
          refine lv_iload_n B.1 B.2.1 dX9_put_3 rfl (lv_at hl 0 rfl) ?_
          refine x_if_lt B (by omega) (tgt := 49) dX9_put_4 (by decide) (fun c9 => ?_) (fun c9 => ?_)
          · exact absurd c9 (by omega)
          · refine lv_aload_n B.1 B.2.1 dX9_put_7 rfl (lv_at hl 1 rfl) ?_
            refine x_getX B h kX9 20 (xset_eq ft) 0 (z := ((sz + 1) + 1)) rfl m_288 (by decide) dX9_put_8 ?_
            refine x_sipush B (by decide) dX9_put_11 ?_
            refine x_icmp_ge B (by omega) (tgt := 49) dX9_put_14 (by decide) (fun c10 => ?_) (fun c10 => ?_)
            · exact absurd c10 (by omega)
            · refine lv_aload_n B.1 B.2.1 dX9_put_17 rfl (lv_at hl 1 rfl) ?_
              refine x_getR B h kX9 20 (xset_eq ft) 2 (b := ad 21) rfl m_292 (by decide) dX9_put_18 ?_
              refine lv_aload_n B.1 B.2.1 dX9_put_21 rfl (lv_at hl 1 rfl) ?_
              refine x_getX B h kX9 20 (xset_eq ft) 0 (z := ((sz + 1) + 1)) rfl m_288 (by decide) dX9_put_22 ?_
              refine lv_iload_n B.1 B.2.1 dX9_put_25 rfl (lv_at hl 2 rfl) ?_
              refine lv_iload_n B.1 B.2.1 dX9_put_26 rfl (lv_at hl 0 rfl) ?_
              refine lv_iushr B.1 B.2.1 dX9_put_27 rfl ?_
              refine x_raw (fun y11 => ?_)
              refine x_sipush B (by decide) dX9_put_28 ?_
              refine lv_iand B.1 B.2.1 dX9_put_31 ?_
              refine x_raw (fun y12 => ?_)
              refine x_iastS B h 21 (xset_ne fb (by decide)) (by omega) (fun _ _ => trivial) dX9_put_32 (fun H locs h => ?_)
              refine lv_aload_n B.1 B.2.1 dX9_put_33 rfl (lv_at hl 1 rfl) ?_
              refine lv_dup B.1 B.2.1 dX9_put_34 rfl ?_
              refine x_getX B h kX9 20 (xset_eq ft) 0 (z := ((sz + 1) + 1)) rfl m_288 (by decide) dX9_put_35 ?_
              refine x_iconst B dX9_put_38 ?_
              refine x_iadd B dX9_put_39 ?_
              refine x_put B h kX9 20 (xset_eq ft) 0 (Nat.le_of_ble_eq_true rfl) (P' := fX (((sz + 1) + 1) + 1)) m_288 (by decide) rfl rfl rfl rfl dX9_put_40 (fun H locs h => ?_)
              have h : xH D A s.heap (w.set 20 (ad 20, xO 9 [fX (((sz + 1) + 1) + 1), fG 0 0, fR (ad 21), fR (ad 22), fR (ad 23), fR (ad 24), fR (ad 25), fG 0 0])) H locs := by rw [List.set_set] at h; exact h
              refine lv_iinc (v := iI (((24 + (-8)) + (-8)) + (-8))) (lv' := [(2, .int (iI (((24 + (-8)) + (-8)) + (-8)))), (0, .ref (ad 20)), (1, .int (four))]) B.1 B.2.1 dX9_put_43 hl (k := 0) rfl (iI_add _ _) (by decide) rfl (fun ls hl => ?_)
              refine lv_goto (tgt := 3) B.1 B.2.1 dX9_put_46 (by decide) ?_
              refine lv_iload_n B.1 B.2.1 dX9_put_3 rfl (lv_at hl 0 rfl) ?_
              refine x_if_lt B (by omega) (tgt := 49) dX9_put_4 (by decide) (fun c13 => ?_) (fun c13 => ?_)
              · exact absurd c13 (by omega)
              · refine lv_aload_n B.1 B.2.1 dX9_put_7 rfl (lv_at hl 1 rfl) ?_
                refine x_getX B h kX9 20 (xset_eq ft) 0 (z := (((sz + 1) + 1) + 1)) rfl m_288 (by decide) dX9_put_8 ?_
                refine x_sipush B (by decide) dX9_put_11 ?_
                refine x_icmp_ge B (by omega) (tgt := 49) dX9_put_14 (by decide) (fun c14 => ?_) (fun c14 => ?_)
                · exact absurd c14 (by omega)
                · refine lv_aload_n B.1 B.2.1 dX9_put_17 rfl (lv_at hl 1 rfl) ?_
                  refine x_getR B h kX9 20 (xset_eq ft) 2 (b := ad 21) rfl m_292 (by decide) dX9_put_18 ?_
                  refine lv_aload_n B.1 B.2.1 dX9_put_21 rfl (lv_at hl 1 rfl) ?_
                  refine x_getX B h kX9 20 (xset_eq ft) 0 (z := (((sz + 1) + 1) + 1)) rfl m_288 (by decide) dX9_put_22 ?_
                  refine lv_iload_n B.1 B.2.1 dX9_put_25 rfl (lv_at hl 2 rfl) ?_
                  refine lv_iload_n B.1 B.2.1 dX9_put_26 rfl (lv_at hl 0 rfl) ?_
                  refine lv_iushr B.1 B.2.1 dX9_put_27 rfl ?_
                  refine x_raw (fun y15 => ?_)
                  refine x_sipush B (by decide) dX9_put_28 ?_
                  refine lv_iand B.1 B.2.1 dX9_put_31 ?_
                  refine x_raw (fun y16 => ?_)
                  refine x_iastS B h 21 (xset_ne fb (by decide)) (by omega) (fun _ _ => trivial) dX9_put_32 (fun H locs h => ?_)
                  refine lv_aload_n B.1 B.2.1 dX9_put_33 rfl (lv_at hl 1 rfl) ?_
                  refine lv_dup B.1 B.2.1 dX9_put_34 rfl ?_
                  refine x_getX B h kX9 20 (xset_eq ft) 0 (z := (((sz + 1) + 1) + 1)) rfl m_288 (by decide) dX9_put_35 ?_
                  refine x_iconst B dX9_put_38 ?_
                  refine x_iadd B dX9_put_39 ?_
                  refine x_put B h kX9 20 (xset_eq ft) 0 (Nat.le_of_ble_eq_true rfl) (P' := fX ((((sz + 1) + 1) + 1) + 1)) m_288 (by decide) rfl rfl rfl rfl dX9_put_40 (fun H locs h => ?_)
                  have h : xH D A s.heap (w.set 20 (ad 20, xO 9 [fX ((((sz + 1) + 1) + 1) + 1), fG 0 0, fR (ad 21), fR (ad 22), fR (ad 23), fR (ad 24), fR (ad 25), fG 0 0])) H locs := by rw [List.set_set] at h; exact h
                  refine lv_iinc (v := iI ((((24 + (-8)) + (-8)) + (-8)) + (-8))) (lv' := [(2, .int (iI ((((24 + (-8)) + (-8)) + (-8)) + (-8)))), (0, .ref (ad 20)), (1, .int (four))]) B.1 B.2.1 dX9_put_43 hl (k := 0) rfl (iI_add _ _) (by decide) rfl (fun ls hl => ?_)
                  refine lv_goto (tgt := 3) B.1 B.2.1 dX9_put_46 (by decide) ?_
                  refine lv_iload_n B.1 B.2.1 dX9_put_3 rfl (lv_at hl 0 rfl) ?_
                  refine x_if_lt B (by omega) (tgt := 49) dX9_put_4 (by decide) (fun c17 => ?_) (fun c17 => ?_)
                  · refine x_rv B hQ h (by decide) dX9_put_49 ?_
                    exact ⟨rfl, rfl⟩
                  · exact absurd c17 (by omega)
abbrev r_c_X11_feed : Room := { frames := 1, cells := 0, slots := 0, locals := 22 }
set_option maxHeartbeats 4000000 in
set_option maxRecDepth 100000 in
theorem c_X11_feed (l : Launch) (D : va_G) (ca : Nat → ClassId) (w : xW) (ad : Nat → Nat) (hC : C0 ca ad w) (x1 : Int32) (x2 : Int32) (x3 : Int32) (x4 : Int32) (x5 : Int32)   : xC l D ca yX11_feed cX11_feed 6 (some .int) r_c_X11_feed [.ref (ad 0), .int (x1), .int (x2), .int (x3), .int (x4), .int (x5)] w (qIa (fun z => z = 20)) := by
  refine xC.of2 "WindWords" (by decide) rfl (Nat.le_of_ble_eq_true rfl) ?_
  intro p e s m args below meth c A ls Qf B hnm h hl hQ
  have hl : lv_has ls 6 [(0, .ref (ad 0)), (1, .int (x1)), (2, .int (x2)), (3, .int (x3)), (4, .int (x4)), (5, .int (x5))] := hl
  refine lv_aload_n B.1 B.2.1 dX11_feed_0 rfl (lv_at hl 0 rfl) ?_
  refine x_getR B h kX11 0 (hC 0 _ rfl) 5 (b := ad 20) rfl m_366 (by decide) dX11_feed_1 ?_
  refine x_getX B h kX9 20 (hC 20 _ rfl) 0 (z := 0) rfl m_289 (by decide) dX11_feed_4 ?_
  refine x_bipush B (by decide) dX11_feed_7 ?_
  refine x_iadd B dX11_feed_9 ?_
  refine x_sipush B (by decide) dX11_feed_10 ?_
  refine x_icmp_le B (by omega) (tgt := 18) dX11_feed_13 (by decide) (fun c1 => ?_) (fun c1 => ?_)
  · refine lv_aload_n B.1 B.2.1 dX11_feed_18 rfl (lv_at hl 0 rfl) ?_
    refine x_getR B h kX11 0 (hC 0 _ rfl) 5 (b := ad 20) rfl m_366 (by decide) dX11_feed_19 ?_
    refine lv_iload_n B.1 B.2.1 dX11_feed_22 rfl (lv_at hl 1 rfl) ?_
    refine x_cV B h kX9 20 (hC 20 _ rfl) k_X9_put rfl (c_X9_put l D ca _ ad x1 0 (hC 20 _ rfl) (hC 21 _ rfl) (by omega)) m_569 rfl (by decide) hl.1 [] (Nat.le_of_ble_eq_true rfl) rfl dX11_feed_23 (fun r w1 hq H locs h => ?_)
    obtain ⟨rfl, rfl⟩ := hq
    show W p l e r_c_X11_feed s m args below meth c H locs 0 0 Qf (F0 m 26 ls [])
    have h : xH D A s.heap (w.set 20 (ad 20, xO 9 [fX ((((0 + 1) + 1) + 1) + 1), fG 0 0, fR (ad 21), fR (ad 22), fR (ad 23), fR (ad 24), fR (ad 25), fG 0 0])) H locs := h
    refine lv_aload_n B.1 B.2.1 dX11_feed_26 rfl (lv_at hl 0 rfl) ?_
    refine x_getR B h kX11 0 (xset_ne (hC 0 _ rfl) (by decide)) 5 (b := ad 20) rfl m_366 (by decide) dX11_feed_27 ?_
    refine lv_iload_n B.1 B.2.1 dX11_feed_30 rfl (lv_at hl 2 rfl) ?_
    refine x_cV B h kX9 20 (xset_eq (hC 20 _ rfl)) k_X9_put rfl (c_X9_put l D ca _ ad x2 (((((0 + 1) + 1) + 1) + 1)) (xset_eq (hC 20 _ rfl)) (xset_ne (hC 21 _ rfl) (by decide)) (by omega)) m_569 rfl (by decide) hl.1 [] (Nat.le_of_ble_eq_true rfl) rfl dX11_feed_31 (fun r w1 hq H locs h => ?_)
    obtain ⟨rfl, rfl⟩ := hq
    show W p l e r_c_X11_feed s m args below meth c H locs 0 0 Qf (F0 m 34 ls [])
    have h : xH D A s.heap (w.set 20 (ad 20, xO 9 [fX ((((((((0 + 1) + 1) + 1) + 1) + 1) + 1) + 1) + 1), fG 0 0, fR (ad 21), fR (ad 22), fR (ad 23), fR (ad 24), fR (ad 25), fG 0 0])) H locs := by rw [List.set_set] at h; exact h
    refine lv_aload_n B.1 B.2.1 dX11_feed_34 rfl (lv_at hl 0 rfl) ?_
    refine x_getR B h kX11 0 (xset_ne (hC 0 _ rfl) (by decide)) 5 (b := ad 20) rfl m_366 (by decide) dX11_feed_35 ?_
    refine lv_iload_n B.1 B.2.1 dX11_feed_38 rfl (lv_at hl 3 rfl) ?_
    refine x_cV B h kX9 20 (xset_eq (hC 20 _ rfl)) k_X9_put rfl (c_X9_put l D ca _ ad x3 (((((((((0 + 1) + 1) + 1) + 1) + 1) + 1) + 1) + 1)) (xset_eq (hC 20 _ rfl)) (xset_ne (hC 21 _ rfl) (by decide)) (by omega)) m_569 rfl (by decide) hl.1 [] (Nat.le_of_ble_eq_true rfl) rfl dX11_feed_39 (fun r w1 hq H locs h => ?_)
    obtain ⟨rfl, rfl⟩ := hq
    show W p l e r_c_X11_feed s m args below meth c H locs 0 0 Qf (F0 m 42 ls [])
    have h : xH D A s.heap (w.set 20 (ad 20, xO 9 [fX ((((((((((((0 + 1) + 1) + 1) + 1) + 1) + 1) + 1) + 1) + 1) + 1) + 1) + 1), fG 0 0, fR (ad 21), fR (ad 22), fR (ad 23), fR (ad 24), fR (ad 25), fG 0 0])) H locs := by rw [List.set_set] at h; exact h
    refine lv_aload_n B.1 B.2.1 dX11_feed_42 rfl (lv_at hl 0 rfl) ?_
    refine x_getR B h kX11 0 (xset_ne (hC 0 _ rfl) (by decide)) 5 (b := ad 20) rfl m_366 (by decide) dX11_feed_43 ?_
    refine lv_iload B.1 B.2.1 dX11_feed_46 (lv_at hl 4 rfl) ?_
    refine x_cV B h kX9 20 (xset_eq (hC 20 _ rfl)) k_X9_put rfl (c_X9_put l D ca _ ad x4 (((((((((((((0 + 1) + 1) + 1) + 1) + 1) + 1) + 1) + 1) + 1) + 1) + 1) + 1)) (xset_eq (hC 20 _ rfl)) (xset_ne (hC 21 _ rfl) (by decide)) (by omega)) m_569 rfl (by decide) hl.1 [] (Nat.le_of_ble_eq_true rfl) rfl dX11_feed_48 (fun r w1 hq H locs h => ?_)
    obtain ⟨rfl, rfl⟩ := hq
    show W p l e r_c_X11_feed s m args below meth c H locs 0 0 Qf (F0 m 51 ls [])
    have h : xH D A s.heap (w.set 20 (ad 20, xO 9 [fX ((((((((((((((((0 + 1) + 1) + 1) + 1) + 1) + 1) + 1) + 1) + 1) + 1) + 1) + 1) + 1) + 1) + 1) + 1), fG 0 0, fR (ad 21), fR (ad 22), fR (ad 23), fR (ad 24), fR (ad 25), fG 0 0])) H locs := by rw [List.set_set] at h; exact h
    refine lv_aload_n B.1 B.2.1 dX11_feed_51 rfl (lv_at hl 0 rfl) ?_
    refine x_getR B h kX11 0 (xset_ne (hC 0 _ rfl) (by decide)) 5 (b := ad 20) rfl m_366 (by decide) dX11_feed_52 ?_
    refine lv_iload B.1 B.2.1 dX11_feed_55 (lv_at hl 5 rfl) ?_
    refine x_cV B h kX9 20 (xset_eq (hC 20 _ rfl)) k_X9_put rfl (c_X9_put l D ca _ ad x5 (((((((((((((((((0 + 1) + 1) + 1) + 1) + 1) + 1) + 1) + 1) + 1) + 1) + 1) + 1) + 1) + 1) + 1) + 1)) (xset_eq (hC 20 _ rfl)) (xset_ne (hC 21 _ rfl) (by decide)) (by omega)) m_569 rfl (by decide) hl.1 [] (Nat.le_of_ble_eq_true rfl) rfl dX11_feed_57 (fun r w1 hq H locs h => ?_)
    obtain ⟨rfl, rfl⟩ := hq
    show W p l e r_c_X11_feed s m args below meth c H locs 0 0 Qf (F0 m 60 ls [])
    have h : xH D A s.heap (w.set 20 (ad 20, xO 9 [fX ((((((((((((((((((((0 + 1) + 1) + 1) + 1) + 1) + 1) + 1) + 1) + 1) + 1) + 1) + 1) + 1) + 1) + 1) + 1) + 1) + 1) + 1) + 1), fG 0 0, fR (ad 21), fR (ad 22), fR (ad 23), fR (ad 24), fR (ad 25), fG 0 0])) H locs := by rw [List.set_set] at h; exact h
    refine lv_aload_n B.1 B.2.1 dX11_feed_60 rfl (lv_at hl 0 rfl) ?_
    refine x_getR B h kX11 0 (xset_ne (hC 0 _ rfl) (by decide)) 5 (b := ad 20) rfl m_366 (by decide) dX11_feed_61 ?_
    refine x_getX B h kX9 20 (xset_eq (hC 20 _ rfl)) 0 (z := ((((((((((((((((((((0 + 1) + 1) + 1) + 1) + 1) + 1) + 1) + 1) + 1) + 1) + 1) + 1) + 1) + 1) + 1) + 1) + 1) + 1) + 1) + 1)) rfl m_289 (by decide) dX11_feed_64 ?_
    refine x_ri B hQ h (by decide) dX11_feed_67 ?_
    exact ⟨_, rfl, by omega⟩
  · exact absurd c1 (by omega)
abbrev r_c_X9_split : Room := { frames := 1, cells := 0, slots := 0, locals := 21 }
set_option maxHeartbeats 4000000 in
set_option maxRecDepth 100000 in
theorem c_X9_split (l : Launch) (D : va_G) (ca : Nat → ClassId) (w : xW) (ad : Nat → Nat) (hC : C0 ca ad w) (n : Int)  (hn : 0 ≤ n ∧ n ≤ 0) : xC l D ca yX9_split cX9_split 4 none r_c_X9_split [.ref (ad 20), .int (iI n)] w (qV w) := by
  refine xC.of2 "WindWords$Tape" (by decide) rfl (Nat.le_of_ble_eq_true rfl) ?_
  intro p e s m args below meth c A ls Qf B hnm h hl hQ
  have hl : lv_has ls 4 [(0, .ref (ad 20)), (1, .int (iI n))] := hl
  refine lv_aload_n B.1 B.2.1 dX9_split_0 rfl (lv_at hl 0 rfl) ?_
  refine x_iconst B dX9_split_1 ?_
  refine lv_iload_n B.1 B.2.1 dX9_split_2 rfl (lv_at hl 1 rfl) ?_
  refine lv_aload_n B.1 B.2.1 dX9_split_3 rfl (lv_at hl 0 rfl) ?_
  refine x_getX B h kX9 20 (hC 20 _ rfl) 0 (z := 0) rfl m_288 (by decide) dX9_split_4 ?_
  refine x_min B (by omega) m_585 m_586 m_106 m_587 hl.1 (Nat.le_of_ble_eq_true rfl) (by decide) dX9_split_7 ?_
  refine x_max B (by omega) m_588 m_454 m_106 m_455 hl.1 (Nat.le_of_ble_eq_true rfl) (by decide) dX9_split_10 ?_
  refine x_putS B h kX9 20 (hC 20 _ rfl) 7 (P := fG 0 0) rfl m_299 (by decide) ⟨_, rfl, by omega, by omega⟩ rfl rfl rfl dX9_split_13 (fun H locs h => ?_)
  refine lv_aload_n B.1 B.2.1 dX9_split_16 rfl (lv_at hl 0 rfl) ?_
  refine x_iconst B dX9_split_17 ?_
  refine x_putS B h kX9 20 (hC 20 _ rfl) 1 (P := fG 0 0) rfl m_290 (by decide) ⟨_, rfl, by omega, by omega⟩ rfl rfl rfl dX9_split_18 (fun H locs h => ?_)
  refine x_iconst B dX9_split_21 ?_
  refine lv_istore_n (lv' := [(2, .int (iI 0)), (0, .ref (ad 20)), (1, .int (iI n))]) B.1 B.2.1 dX9_split_22 rfl hl (by decide) rfl (fun ls hl => ?_)
  refine x_iconst B dX9_split_23 ?_
  refine lv_istore_n (lv' := [(3, .int (iI 0)), (2, .int (iI 0)), (0, .ref (ad 20)), (1, .int (iI n))]) B.1 B.2.1 dX9_split_24 rfl hl (by decide) rfl (fun ls hl => ?_)
  refine lv_iload_n B.1 B.2.1 dX9_split_25 rfl (lv_at hl 0 rfl) ?_
  refine x_sipush B (by decide) dX9_split_26 ?_
  refine x_icmp_ge B (by omega) (tgt := 74) dX9_split_29 (by decide) (fun c1 => ?_) (fun c1 => ?_)
  · exact absurd c1 (by omega)
  · refine lv_iload_n B.1 B.2.1 dX9_split_32 rfl (lv_at hl 1 rfl) ?_
    refine lv_aload_n B.1 B.2.1 dX9_split_33 rfl (lv_at hl 2 rfl) ?_
    refine x_getG B h kX9 20 (hC 20 _ rfl) 7 (lo := 0) (hi := 0) rfl m_299 (by decide) dX9_split_34 (fun z2 z2a z2b => ?_)
    refine x_icmp_ge B (by omega) (tgt := 74) dX9_split_37 (by decide) (fun c3 => ?_) (fun c3 => ?_)
    · refine x_rv B hQ h (by decide) dX9_split_74 ?_
      exact ⟨rfl, rfl⟩
    · exact absurd c3 (by omega)
abbrev r_c_X5_clear : Room := { frames := 0, cells := 0, slots := 0, locals := 0 }
set_option maxHeartbeats 4000000 in
set_option maxRecDepth 100000 in
theorem c_X5_clear (l : Launch) (D : va_G) (ca : Nat → ClassId) (w : xW) (ad : Nat → Nat) (hC : C0 ca ad w)    : xC l D ca yX5_clear cX5_clear 1 none r_c_X5_clear [.ref (ad 36)] w (qV w) := by
  refine xC.of2 "WindWords$Rules" (by decide) rfl (Nat.le_of_ble_eq_true rfl) ?_
  intro p e s m args below meth c A ls Qf B hnm h hl hQ
  have hl : lv_has ls 1 [(0, .ref (ad 36))] := hl
  refine lv_aload_n B.1 B.2.1 dX5_clear_0 rfl (lv_at hl 0 rfl) ?_
  refine x_iconst B dX5_clear_1 ?_
  refine x_putS B h kX5 36 (hC 36 _ rfl) 5 (P := fG 0 0) rfl m_343 (by decide) ⟨_, rfl, by omega, by omega⟩ rfl rfl rfl dX5_clear_2 (fun H locs h => ?_)
  refine lv_aload_n B.1 B.2.1 dX5_clear_5 rfl (lv_at hl 0 rfl) ?_
  refine x_iconst B dX5_clear_6 ?_
  refine x_putS B h kX5 36 (hC 36 _ rfl) 6 (P := fG 0 0) rfl m_345 (by decide) ⟨_, rfl, by omega, by omega⟩ rfl rfl rfl dX5_clear_7 (fun H locs h => ?_)
  refine x_rv B hQ h (by decide) dX5_clear_10 ?_
  exact ⟨rfl, rfl⟩
abbrev r_c_X1_faultOf : Room := { frames := 1, cells := 0, slots := 0, locals := 20 }
set_option maxHeartbeats 4000000 in
set_option maxRecDepth 100000 in
theorem c_X1_faultOf (l : Launch) (D : va_G) (ca : Nat → ClassId) (w : xW) (ad : Nat → Nat) (hC : C0 ca ad w)    : xC l D ca yX1_faultOf cX1_faultOf 6 (some .int) r_c_X1_faultOf [.ref (ad 26), .ref (ad 20), .ref (ad 36), .int (iI 1)] w (qI w (fun z => z = (-1))) := by
  refine xC.of2 "WindWords$Grammar" (by decide) rfl (Nat.le_of_ble_eq_true rfl) ?_
  intro p e s m args below meth c A ls Qf B hnm h hl hQ
  have hl : lv_has ls 6 [(0, .ref (ad 26)), (1, .ref (ad 20)), (2, .ref (ad 36)), (3, .int (iI 1))] := hl
  refine lv_aload_n B.1 B.2.1 dX1_faultOf_0 rfl (lv_at hl 0 rfl) ?_
  refine lv_iload_n B.1 B.2.1 dX1_faultOf_1 rfl (lv_at hl 3 rfl) ?_
  refine x_putS B h kX1 26 (hC 26 _ rfl) 0 (P := fG 0 1) rfl m_323 (by decide) ⟨_, rfl, by omega, by omega⟩ rfl rfl rfl dX1_faultOf_2 (fun H locs h => ?_)
  refine lv_aload_n B.1 B.2.1 dX1_faultOf_5 rfl (lv_at hl 0 rfl) ?_
  refine x_iconst B dX1_faultOf_6 ?_
  refine x_putS B h kX1 26 (hC 26 _ rfl) 1 (P := fG 0 0) rfl m_324 (by decide) ⟨_, rfl, by omega, by omega⟩ rfl rfl rfl dX1_faultOf_7 (fun H locs h => ?_)
  refine lv_aload_n B.1 B.2.1 dX1_faultOf_10 rfl (lv_at hl 2 rfl) ?_
  refine x_cV B h kX5 36 (hC 36 _ rfl) k_X5_clear rfl (c_X5_clear l D ca _ ad hC   ) m_746 rfl (by decide) hl.1 [] (Nat.le_of_ble_eq_true rfl) rfl dX1_faultOf_11 (fun r w1 hq H locs h => ?_)
  obtain ⟨rfl, rfl⟩ := hq
  show W p l e r_c_X1_faultOf s m args below meth c H locs 0 0 Qf (F0 m 14 ls [])
  refine x_iconst B dX1_faultOf_14 ?_
  refine lv_istore (lv' := [(4, .int (iI 1)), (0, .ref (ad 26)), (1, .ref (ad 20)), (2, .ref (ad 36)), (3, .int (iI 1))]) B.1 B.2.1 dX1_faultOf_15 hl (by decide) rfl (fun ls hl => ?_)
  refine x_iconst B dX1_faultOf_17 ?_
  refine lv_istore (lv' := [(5, .int (iI 0)), (4, .int (iI 1)), (0, .ref (ad 26)), (1, .ref (ad 20)), (2, .ref (ad 36)), (3, .int (iI 1))]) B.1 B.2.1 dX1_faultOf_18 hl (by decide) rfl (fun ls hl => ?_)
  refine lv_iload B.1 B.2.1 dX1_faultOf_20 (lv_at hl 0 rfl) ?_
  refine x_bipush B (by decide) dX1_faultOf_22 ?_
  refine x_icmp_ge B (by omega) (tgt := 73) dX1_faultOf_24 (by decide) (fun c1 => ?_) (fun c1 => ?_)
  · exact absurd c1 (by omega)
  · refine lv_iload B.1 B.2.1 dX1_faultOf_27 (lv_at hl 1 rfl) ?_
    refine x_if_eq B (by omega) (tgt := 73) dX1_faultOf_29 (by decide) (fun c2 => ?_) (fun c2 => ?_)
    · exact absurd c2 (by omega)
    · refine lv_aload_n B.1 B.2.1 dX1_faultOf_32 rfl (lv_at hl 2 rfl) ?_
      refine x_getG B h kX1 26 (hC 26 _ rfl) 1 (lo := 0) (hi := 0) rfl m_324 (by decide) dX1_faultOf_33 (fun z3 z3a z3b => ?_)
      refine lv_aload_n B.1 B.2.1 dX1_faultOf_36 rfl (lv_at hl 3 rfl) ?_
      refine x_getG B h kX9 20 (hC 20 _ rfl) 1 (lo := 0) (hi := 0) rfl m_291 (by decide) dX1_faultOf_37 (fun z4 z4a z4b => ?_)
      refine x_icmp_ge B (by omega) (tgt := 73) dX1_faultOf_40 (by decide) (fun c5 => ?_) (fun c5 => ?_)
      · refine lv_iload B.1 B.2.1 dX1_faultOf_73 (lv_at hl 1 rfl) ?_
        refine x_if_eq B (by omega) (tgt := 93) dX1_faultOf_75 (by decide) (fun c6 => ?_) (fun c6 => ?_)
        · exact absurd c6 (by omega)
        · refine lv_aload_n B.1 B.2.1 dX1_faultOf_78 rfl (lv_at hl 2 rfl) ?_
          refine x_getG B h kX1 26 (hC 26 _ rfl) 1 (lo := 0) (hi := 0) rfl m_324 (by decide) dX1_faultOf_79 (fun z7 z7a z7b => ?_)
          refine lv_aload_n B.1 B.2.1 dX1_faultOf_82 rfl (lv_at hl 3 rfl) ?_
          refine x_getG B h kX9 20 (hC 20 _ rfl) 1 (lo := 0) (hi := 0) rfl m_291 (by decide) dX1_faultOf_83 (fun z8 z8a z8b => ?_)
          refine x_icmp_lt B (by omega) (tgt := 93) dX1_faultOf_86 (by decide) (fun c9 => ?_) (fun c9 => ?_)
          · exact absurd c9 (by omega)
          · refine x_iconst B dX1_faultOf_89 ?_
            refine lv_goto (tgt := 101) B.1 B.2.1 dX1_faultOf_90 (by decide) ?_
            refine x_ri B hQ h (by decide) dX1_faultOf_101 ?_
            exact ⟨rfl, _, rfl, by omega⟩
      · exact absurd c5 (by omega)
abbrev r_c_X11_understood : Room := { frames := 2, cells := 0, slots := 0, locals := 45 }
set_option maxHeartbeats 4000000 in
set_option maxRecDepth 100000 in
theorem c_X11_understood (l : Launch) (D : va_G) (ca : Nat → ClassId) (w : xW) (ad : Nat → Nat) (hC : C0 ca ad w) (n : Int)  (hn : 0 ≤ n ∧ n ≤ 0) : xC l D ca yX11_understood cX11_understood 3 (some .boolean) r_c_X11_understood [.ref (ad 0), .int (iI n), .int (iI 1)] w (qZ w (True)) := by
  refine xC.of2 "WindWords" (by decide) rfl (Nat.le_of_ble_eq_true rfl) ?_
  intro p e s m args below meth c A ls Qf B hnm h hl hQ
  have hl : lv_has ls 3 [(0, .ref (ad 0)), (1, .int (iI n)), (2, .int (iI 1))] := hl
  refine lv_aload_n B.1 B.2.1 dX11_understood_0 rfl (lv_at hl 0 rfl) ?_
  refine x_getR B h kX11 0 (hC 0 _ rfl) 5 (b := ad 20) rfl m_366 (by decide) dX11_understood_1 ?_
  refine lv_iload_n B.1 B.2.1 dX11_understood_4 rfl (lv_at hl 1 rfl) ?_
  refine x_cV B h kX9 20 (hC 20 _ rfl) k_X9_split rfl (c_X9_split l D ca _ ad hC n  (by omega)) m_581 rfl (by decide) hl.1 [] (Nat.le_of_ble_eq_true rfl) rfl dX11_understood_5 (fun r w1 hq H locs h => ?_)
  obtain ⟨rfl, rfl⟩ := hq
  show W p l e r_c_X11_understood s m args below meth c H locs 0 0 Qf (F0 m 8 ls [])
  refine lv_aload_n B.1 B.2.1 dX11_understood_8 rfl (lv_at hl 0 rfl) ?_
  refine lv_aload_n B.1 B.2.1 dX11_understood_9 rfl (lv_at hl 0 rfl) ?_
  refine x_getR B h kX11 0 (hC 0 _ rfl) 6 (b := ad 26) rfl m_367 (by decide) dX11_understood_10 ?_
  refine lv_aload_n B.1 B.2.1 dX11_understood_13 rfl (lv_at hl 0 rfl) ?_
  refine x_getR B h kX11 0 (hC 0 _ rfl) 5 (b := ad 20) rfl m_366 (by decide) dX11_understood_14 ?_
  refine lv_aload_n B.1 B.2.1 dX11_understood_17 rfl (lv_at hl 0 rfl) ?_
  refine x_getR B h kX11 0 (hC 0 _ rfl) 16 (b := ad 36) rfl m_377 (by decide) dX11_understood_18 ?_
  refine lv_iload_n B.1 B.2.1 dX11_understood_21 rfl (lv_at hl 2 rfl) ?_
  refine x_cV B h kX1 26 (hC 26 _ rfl) k_X1_faultOf rfl (c_X1_faultOf l D ca _ ad hC   ) m_742 rfl (by decide) hl.1 [.ref (ad 0)] (Nat.le_of_ble_eq_true rfl) rfl dX11_understood_22 (fun r w1 hq H locs h => ?_)
  obtain ⟨rfl, _, rfl, rfl⟩ := hq
  show W p l e r_c_X11_understood s m args below meth c H locs 0 0 Qf (F0 m 25 ls [.int (iI (-1)), .ref (ad 0)])
  refine x_putS B h kX11 0 (hC 0 _ rfl) 18 (P := fX (-1)) rfl m_379 (by decide) rfl rfl rfl rfl dX11_understood_25 (fun H locs h => ?_)
  refine lv_aload_n B.1 B.2.1 dX11_understood_28 rfl (lv_at hl 0 rfl) ?_
  refine x_getR B h kX11 0 (hC 0 _ rfl) 5 (b := ad 20) rfl m_366 (by decide) dX11_understood_29 ?_
  refine x_iconst B dX11_understood_32 ?_
  refine x_putS B h kX9 20 (hC 20 _ rfl) 0 (P := fX 0) rfl m_289 (by decide) rfl rfl rfl rfl dX11_understood_33 (fun H locs h => ?_)
  refine lv_aload_n B.1 B.2.1 dX11_understood_36 rfl (lv_at hl 0 rfl) ?_
  refine x_getX B h kX11 0 (hC 0 _ rfl) 18 (z := (-1)) rfl m_379 (by decide) dX11_understood_37 ?_
  refine x_iconst B dX11_understood_40 ?_
  refine x_icmp_ne B (by omega) (tgt := 48) dX11_understood_41 (by decide) (fun c2 => ?_) (fun c2 => ?_)
  · exact absurd c2 (by omega)
  · refine x_iconst B dX11_understood_44 ?_
    refine lv_goto (tgt := 49) B.1 B.2.1 dX11_understood_45 (by decide) ?_
    refine x_rz B hQ h (by decide) (by decide) dX11_understood_49 ?_
    exact ⟨rfl, Or.inl ⟨rfl, trivial⟩⟩
abbrev r_c_X6_add : Room := { frames := 0, cells := 0, slots := 0, locals := 0 }
set_option maxHeartbeats 4000000 in
set_option maxRecDepth 100000 in
theorem c_X6_add (l : Launch) (D : va_G) (ca : Nat → ClassId) (w : xW) (ad : Nat → Nat) (hC : C0 ca ad w) (year : Int)  (hyear : xr year) : xC l D ca yX6_add cX6_add 3 (some .int) r_c_X6_add [.ref (ad 4), .ref (ad 36), .int (iI year)] w (qI ((w.set 5 (ad 5, xAQ (ca 6) 8 (fun _ => True))).set 4 (ad 4, xO 6 [fR (ad 5), fR (ad 6), fR (ad 7), fR (ad 8), fR (ad 9), fR (ad 10), fR (ad 11), fX (0 + 1)])) (fun z => z = 0)) := by
  refine xC.of2 "WindWords$Scales" (by decide) rfl (Nat.le_of_ble_eq_true rfl) ?_
  intro p e s m args below meth c A ls Qf B hnm h hl hQ
  have hl : lv_has ls 3 [(0, .ref (ad 4)), (1, .ref (ad 36)), (2, .int (iI year))] := hl
  refine lv_aload_n B.1 B.2.1 dX6_add_0 rfl (lv_at hl 0 rfl) ?_
  refine x_getX B h kX6 4 (hC 4 _ rfl) 7 (z := 0) rfl m_194 (by decide) dX6_add_1 ?_
  refine x_bipush B (by decide) dX6_add_4 ?_
  refine x_icmp_lt B (by omega) (tgt := 11) dX6_add_6 (by decide) (fun c1 => ?_) (fun c1 => ?_)
  · refine lv_aload_n B.1 B.2.1 dX6_add_11 rfl (lv_at hl 0 rfl) ?_
    refine x_getR B h kX6 4 (hC 4 _ rfl) 0 (b := ad 5) rfl m_186 (by decide) dX6_add_12 ?_
    refine lv_aload_n B.1 B.2.1 dX6_add_15 rfl (lv_at hl 0 rfl) ?_
    refine x_getX B h kX6 4 (hC 4 _ rfl) 7 (z := 0) rfl m_194 (by decide) dX6_add_16 ?_
    refine lv_aload_n B.1 B.2.1 dX6_add_19 rfl (lv_at hl 1 rfl) ?_
    refine x_qast B h 5 6 kX5 rfl (hC 5 _ rfl) (by omega) (hC 36 _ rfl) (P' := fun _ => True) (fun _ _ => trivial) dX6_add_20 (fun H locs h => ?_)
    have h : xH D A s.heap (w.set 5 (ad 5, xAQ (ca 6) 8 (fun _ => True))) H locs := h
    refine lv_aload_n B.1 B.2.1 dX6_add_21 rfl (lv_at hl 0 rfl) ?_
    refine x_getR B h kX6 4 (xset_ne (hC 4 _ rfl) (by decide)) 1 (b := ad 6) rfl m_187 (by decide) dX6_add_22 ?_
    refine lv_aload_n B.1 B.2.1 dX6_add_25 rfl (lv_at hl 0 rfl) ?_
    refine x_getX B h kX6 4 (xset_ne (hC 4 _ rfl) (by decide)) 7 (z := 0) rfl m_194 (by decide) dX6_add_26 ?_
    refine lv_iload_n B.1 B.2.1 dX6_add_29 rfl (lv_at hl 2 rfl) ?_
    refine x_iastS B h 6 (xset_ne (hC 6 _ rfl) (by decide)) (by omega) (fun _ _ => trivial) dX6_add_30 (fun H locs h => ?_)
    refine lv_aload_n B.1 B.2.1 dX6_add_31 rfl (lv_at hl 0 rfl) ?_
    refine lv_dup B.1 B.2.1 dX6_add_32 rfl ?_
    refine x_getX B h kX6 4 (xset_ne (hC 4 _ rfl) (by decide)) 7 (z := 0) rfl m_194 (by decide) dX6_add_33 ?_
    refine x_iconst B dX6_add_36 ?_
    refine x_iadd B dX6_add_37 ?_
    refine x_put B h kX6 4 (xset_ne (hC 4 _ rfl) (by decide)) 7 (Nat.le_of_ble_eq_true rfl) (P' := fX (0 + 1)) m_194 (by decide) rfl rfl rfl rfl dX6_add_38 (fun H locs h => ?_)
    have h : xH D A s.heap ((w.set 5 (ad 5, xAQ (ca 6) 8 (fun _ => True))).set 4 (ad 4, xO 6 [fR (ad 5), fR (ad 6), fR (ad 7), fR (ad 8), fR (ad 9), fR (ad 10), fR (ad 11), fX (0 + 1)])) H locs := h
    refine lv_aload_n B.1 B.2.1 dX6_add_41 rfl (lv_at hl 0 rfl) ?_
    refine x_getX B h kX6 4 (xset_eq (xset_ne (hC 4 _ rfl) (by decide))) 7 (z := (0 + 1)) rfl m_194 (by decide) dX6_add_42 ?_
    refine x_iconst B dX6_add_45 ?_
    refine x_isub B dX6_add_46 ?_
    refine x_ri B hQ h (by decide) dX6_add_47 ?_
    exact ⟨rfl, _, rfl, by omega⟩
  · exact absurd c1 (by omega)
