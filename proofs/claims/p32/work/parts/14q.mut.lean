theorem k_X8_tell : xMV yX8_tell cX8_tell 5 none 4 := ⟨m_1171, m_1169, m_1170, m_100, ⟨by decide +kernel, by decide +kernel, by decide +kernel⟩⟩
abbrev r_c_X11_officer : Room := { frames := 1, cells := 0, slots := 0, locals := 22 }
set_option maxHeartbeats 4000000 in
set_option maxRecDepth 100000 in
theorem c_X11_officer (l : Launch) (D : va_G) (Zk : yK) (ca : Nat → ClassId) (T : Nat → Int → Int) (G : Nat → Int → Nat) (u : Int) (ad : Nat → Nat) (w : yW) (hC : CW ca T G u ad w)    : yC l D Zk ca yX11_officer cX11_officer 1 (some .int) r_c_X11_officer [.ref (ad 0)] w (fun r w1 => ∃ z : Int, r = some (.int (iI z)) ∧ ((T 0 0 < 16 ∧ z = T 0 0 ∧ CW ca (tOff T) G u ad w1 ∧ AGX w w1) ∨ (T 0 0 = 16 ∧ z = -1 ∧ w1 = w))) := by
  refine yC.of2 "WindWords" (by decide) rfl (Nat.le_of_ble_eq_true rfl) ?_
  intro p e s m args below meth c A ls Qf B hnm h hl hQ
  have hl : lv_has ls 1 [(0, .ref (ad 0))] := hl
  have hs := pi_s (CW.pi hC)
  refine lv_aload_n B.1 B.2.1 dX11_officer_0 rfl (lv_at hl 0 rfl) ?_
  refine y_getR B h kX11 0 (CW.f hC 0 _ rfl) 0 (b := ad 1) rfl m_361 (by decide) dX11_officer_1 ?_
  refine y_getX B h kX0 1 (CW.f hC 1 _ rfl) 2 (z := (T 0 0)) rfl m_137 (by decide) dX11_officer_4 ?_
  refine x_bipush B (by decide) dX11_officer_7 ?_
  refine x_icmp_lt B (by omega) (tgt := 19) dX11_officer_9 (by decide) (fun c1 => ?_) (fun c1 => ?_)
  · refine lv_aload_n B.1 B.2.1 dX11_officer_19 rfl (lv_at hl 0 rfl) ?_
    refine y_getR B h kX11 0 (CW.f hC 0 _ rfl) 0 (b := ad 1) rfl m_361 (by decide) dX11_officer_20 ?_
    refine lv_dup B.1 B.2.1 dX11_officer_23 rfl ?_
    refine y_getX B h kX0 1 (CW.f hC 1 _ rfl) 2 (z := (T 0 0)) rfl m_137 (by decide) dX11_officer_24 ?_
    refine x_iconst B dX11_officer_27 ?_
    refine x_iadd B dX11_officer_28 ?_
    refine y_put B h kX0 1 (CW.f hC 1 _ rfl) 2 (Nat.le_of_ble_eq_true rfl) (P' := fX ((T 0 0) + 1)) m_137 (by decide) rfl rfl rfl rfl dX11_officer_29 (fun H locs h => ?_)
    have h : yH D Zk A s ((wu w 1 (ad 1, xO 0 [fR (ad 2), fR (ad 3), fX ((T 0 0) + 1), fG (-2147483648) 2147483647, fX (T 0 1), fX (T 0 2), fX (T 0 3), fX (T 0 4), fX (T 0 5)]))) _ _ := h
    refine lv_aload_n B.1 B.2.1 dX11_officer_32 rfl (lv_at hl 0 rfl) ?_
    refine y_getR B h kX11 0 (wu_at (CW.f hC 0 _ rfl) (by decide)) 0 (b := ad 1) rfl m_361 (by decide) dX11_officer_33 ?_
    refine y_getX B h kX0 1 wu_eq 2 (z := ((T 0 0) + 1)) rfl m_137 (by decide) dX11_officer_36 ?_
    refine x_iconst B dX11_officer_39 ?_
    refine x_isub B dX11_officer_40 ?_
    refine y_ri B hQ h (by decide) dX11_officer_41 ?_
    exact ⟨_, rfl, Or.inl ⟨by omega, by omega, cw_off hC (by omega), fun k h1 h2 => by rw [wu_ne (by omega)]⟩⟩
  · refine lv_aload_n B.1 B.2.1 dX11_officer_12 rfl (lv_at hl 0 rfl) ?_
    refine x_iconst B dX11_officer_13 ?_
    refine x_iconst B dX11_officer_14 ?_
    refine y_cV B h kX11 0 (CW.f hC 0 _ rfl) k_X11_refuse rfl (c_X11_refuse l D Zk ca T G u ad _ hC 1 ((-1))  (by omega) (by omega)) m_423 rfl (by decide) hl.1 [] (Nat.le_of_ble_eq_true rfl) rfl dX11_officer_15 (fun r w1 hq H locs h => ?_)
    obtain ⟨rfl, z2, rfl, hz2⟩ := hq
    show W p l e r_c_X11_officer s m args below meth c _ _ 0 0 Qf (F0 m 18 ls [.int (iI z2)])
    refine y_ri B hQ h (by decide) dX11_officer_18 ?_
    exact ⟨_, rfl, Or.inr ⟨by omega, by omega, rfl⟩⟩
abbrev r_c_X11_set : Room := { frames := 1, cells := 0, slots := 0, locals := 22 }
set_option maxHeartbeats 4000000 in
set_option maxRecDepth 100000 in
theorem c_X11_set (l : Launch) (D : va_G) (Zk : yK) (ca : Nat → ClassId) (T : Nat → Int → Int) (G : Nat → Int → Nat) (u : Int) (ad : Nat → Nat) (w : yW) (hC : CW ca T G u ad w) (si : Int) (er : Int)  (hsi : xr si) (her : xr er) : yC l D Zk ca yX11_set cX11_set 3 (some .boolean) r_c_X11_set [.ref (ad 0), .int (iI si), .int (iI er)] w (fun r w1 => ∃ z : Int, r = some (.int (iI z)) ∧ ((((0 ≤ si ∧ si ≤ 7) ∧ 0 ≤ er ∧ er ≤ 5) ∧ z = 1 ∧ CW ca (tSet T si er) G u ad w1 ∧ AGX w w1) ∨ (¬ ((0 ≤ si ∧ si ≤ 7) ∧ 0 ≤ er ∧ er ≤ 5) ∧ z = 0 ∧ w1 = w))) := by
  refine yC.of2 "WindWords" (by decide) rfl (Nat.le_of_ble_eq_true rfl) ?_
  intro p e s m args below meth c A ls Qf B hnm h hl hQ
  have hl : lv_has ls 3 [(0, .ref (ad 0)), (1, .int (iI si)), (2, .int (iI er))] := hl
  have hs := pi_s (CW.pi hC)
  refine lv_iload_n B.1 B.2.1 dX11_set_0 rfl (lv_at hl 1 rfl) ?_
  refine x_bipush B (by decide) dX11_set_1 ?_
  refine y_cS B h k_X11_within (c_X11_within l D Zk ca _ si 7  (by omega) (by omega)) m_431 rfl (by decide) hl.1 [] (Nat.le_of_ble_eq_true rfl) rfl dX11_set_3 (fun r w1 hq H locs h => ?_)
  obtain ⟨rfl, _, rfl, ⟨rfl, b1⟩ | ⟨rfl, b1⟩⟩ := hq
  · show W p l e r_c_X11_set s m args below meth c _ _ 0 0 Qf (F0 m 6 ls [.int (iI 1)])
    refine x_if_eq B (by omega) (tgt := 17) dX11_set_6 (by decide) (fun c2 => ?_) (fun c2 => ?_)
    · exact absurd c2 (by omega)
    · refine lv_iload_n B.1 B.2.1 dX11_set_9 rfl (lv_at hl 2 rfl) ?_
      refine x_iconst B dX11_set_10 ?_
      refine y_cS B h k_X11_within (c_X11_within l D Zk ca _ er 5  (by omega) (by omega)) m_431 rfl (by decide) hl.1 [] (Nat.le_of_ble_eq_true rfl) rfl dX11_set_11 (fun r w1 hq H locs h => ?_)
      obtain ⟨rfl, _, rfl, ⟨rfl, b3⟩ | ⟨rfl, b3⟩⟩ := hq
      · show W p l e r_c_X11_set s m args below meth c _ _ 0 0 Qf (F0 m 14 ls [.int (iI 1)])
        refine x_if_ne B (by omega) (tgt := 26) dX11_set_14 (by decide) (fun c4 => ?_) (fun c4 => ?_)
        · refine lv_aload_n B.1 B.2.1 dX11_set_26 rfl (lv_at hl 0 rfl) ?_
          refine y_getR B h kX11 0 (CW.f hC 0 _ rfl) 0 (b := ad 1) rfl m_361 (by decide) dX11_set_27 ?_
          refine lv_iload_n B.1 B.2.1 dX11_set_30 rfl (lv_at hl 1 rfl) ?_
          refine y_put B h kX0 1 (CW.f hC 1 _ rfl) 7 (Nat.le_of_ble_eq_true rfl) (P' := fX si) m_154 (by decide) rfl rfl rfl rfl dX11_set_31 (fun H locs h => ?_)
          have h : yH D Zk A s ((wu w 1 (ad 1, xO 0 [fR (ad 2), fR (ad 3), fX (T 0 0), fG (-2147483648) 2147483647, fX (T 0 1), fX (T 0 2), fX (T 0 3), fX si, fX (T 0 5)]))) _ _ := h
          refine lv_aload_n B.1 B.2.1 dX11_set_34 rfl (lv_at hl 0 rfl) ?_
          refine y_getR B h kX11 0 (wu_at (CW.f hC 0 _ rfl) (by decide)) 0 (b := ad 1) rfl m_361 (by decide) dX11_set_35 ?_
          refine lv_iload_n B.1 B.2.1 dX11_set_38 rfl (lv_at hl 2 rfl) ?_
          refine y_put B h kX0 1 wu_eq 8 (Nat.le_of_ble_eq_true rfl) (P' := fX er) m_158 (by decide) rfl rfl rfl rfl dX11_set_39 (fun H locs h => ?_)
          rw [wu_wu] at h
          have h : yH D Zk A s ((wu w 1 (ad 1, xO 0 [fR (ad 2), fR (ad 3), fX (T 0 0), fG (-2147483648) 2147483647, fX (T 0 1), fX (T 0 2), fX (T 0 3), fX si, fX er]))) _ _ := h
          refine x_iconst B dX11_set_42 ?_
          refine y_rz B hQ h (by decide) (by decide) dX11_set_43 ?_
          exact ⟨_, rfl, Or.inl ⟨by omega, by omega, cw_set hC (by omega) (by omega), fun k h1 h2 => by rw [wu_ne (by omega)]⟩⟩
        · exact absurd c4 (by omega)
      · show W p l e r_c_X11_set s m args below meth c _ _ 0 0 Qf (F0 m 14 ls [.int (iI 0)])
        refine x_if_ne B (by omega) (tgt := 26) dX11_set_14 (by decide) (fun c5 => ?_) (fun c5 => ?_)
        · exact absurd c5 (by omega)
        · refine lv_aload_n B.1 B.2.1 dX11_set_17 rfl (lv_at hl 0 rfl) ?_
          refine x_iconst B dX11_set_18 ?_
          refine x_iconst B dX11_set_19 ?_
          refine y_cV B h kX11 0 (CW.f hC 0 _ rfl) k_X11_refuse rfl (c_X11_refuse l D Zk ca T G u ad _ hC 0 ((-1))  (by omega) (by omega)) m_423 rfl (by decide) hl.1 [] (Nat.le_of_ble_eq_true rfl) rfl dX11_set_20 (fun r w1 hq H locs h => ?_)
          obtain ⟨rfl, z6, rfl, hz6⟩ := hq
          show W p l e r_c_X11_set s m args below meth c _ _ 0 0 Qf (F0 m 23 ls [.int (iI z6)])
          refine lv_pop B.1 B.2.1 dX11_set_23 rfl ?_
          refine x_iconst B dX11_set_24 ?_
          refine y_rz B hQ h (by decide) (by decide) dX11_set_25 ?_
          exact ⟨_, rfl, Or.inr ⟨by omega, by omega, rfl⟩⟩
  · show W p l e r_c_X11_set s m args below meth c _ _ 0 0 Qf (F0 m 6 ls [.int (iI 0)])
    refine x_if_eq B (by omega) (tgt := 17) dX11_set_6 (by decide) (fun c7 => ?_) (fun c7 => ?_)
    · refine lv_aload_n B.1 B.2.1 dX11_set_17 rfl (lv_at hl 0 rfl) ?_
      refine x_iconst B dX11_set_18 ?_
      refine x_iconst B dX11_set_19 ?_
      refine y_cV B h kX11 0 (CW.f hC 0 _ rfl) k_X11_refuse rfl (c_X11_refuse l D Zk ca T G u ad _ hC 0 ((-1))  (by omega) (by omega)) m_423 rfl (by decide) hl.1 [] (Nat.le_of_ble_eq_true rfl) rfl dX11_set_20 (fun r w1 hq H locs h => ?_)
      obtain ⟨rfl, z8, rfl, hz8⟩ := hq
      show W p l e r_c_X11_set s m args below meth c _ _ 0 0 Qf (F0 m 23 ls [.int (iI z8)])
      refine lv_pop B.1 B.2.1 dX11_set_23 rfl ?_
      refine x_iconst B dX11_set_24 ?_
      refine y_rz B hQ h (by decide) (by decide) dX11_set_25 ?_
      exact ⟨_, rfl, Or.inr ⟨by omega, by omega, rfl⟩⟩
    · exact absurd c7 (by omega)
abbrev r_c_X8_tell : Room := { frames := 0, cells := 0, slots := 0, locals := 0 }
set_option maxHeartbeats 4000000 in
set_option maxRecDepth 100000 in
theorem c_X8_tell (l : Launch) (D : va_G) (Zk : yK) (ca : Nat → ClassId) (T : Nat → Int → Int) (G : Nat → Int → Nat) (u : Int) (ad : Nat → Nat) (w : yW) (hC : CW ca T G u ad w) (fr : Int) (to : Int) (rd : Int) (li : Int)  (hfr : xr fr) (hto : xr to) (hrd : xr rd) (hli : xr li) : yC l D Zk ca yX8_tell cX8_tell 5 none r_c_X8_tell [.ref (ad 18), .int (iI fr), .int (iI to), .int (iI rd), .int (iI li)] w (fun r w1 => r = none ∧ w1 = (wu w 18 (ad 18, xO 8 [fR (ad 19), fX 1, fX fr, fX to, fX rd, fX li])) ∧ (True)) := by
  refine yC.of2 "WindWords$Storm" (by decide) rfl (Nat.le_of_ble_eq_true rfl) ?_
  intro p e s m args below meth c A ls Qf B hnm h hl hQ
  have hl : lv_has ls 5 [(0, .ref (ad 18)), (1, .int (iI fr)), (2, .int (iI to)), (3, .int (iI rd)), (4, .int (iI li))] := hl
  have hs := pi_s (CW.pi hC)
  have h : yH D Zk A s ((wu w 18 (ad 18, xO 8 [fR (ad 19), fX (T 0 14), fX (T 0 15), fX (T 0 11), fX (T 0 12), fX (T 0 13)]))) s.heap [] := by rw [wu_same (show w 18 = _ from (CW.f hC 18 _ rfl))]; exact h
  refine lv_aload_n B.1 B.2.1 dX8_tell_0 rfl (lv_at hl 0 rfl) ?_
  refine x_iconst B dX8_tell_1 ?_
  refine y_put B h kX8 18 wu_eq 1 (Nat.le_of_ble_eq_true rfl) (P' := fX 1) m_263 (by decide) rfl rfl rfl rfl dX8_tell_2 (fun H locs h => ?_)
  rw [wu_wu] at h
  have h : yH D Zk A s ((wu w 18 (ad 18, xO 8 [fR (ad 19), fX 1, fX (T 0 15), fX (T 0 11), fX (T 0 12), fX (T 0 13)]))) _ _ := h
  refine lv_aload_n B.1 B.2.1 dX8_tell_5 rfl (lv_at hl 0 rfl) ?_
  refine lv_iload_n B.1 B.2.1 dX8_tell_6 rfl (lv_at hl 1 rfl) ?_
  refine y_put B h kX8 18 wu_eq 2 (Nat.le_of_ble_eq_true rfl) (P' := fX fr) m_264 (by decide) rfl rfl rfl rfl dX8_tell_7 (fun H locs h => ?_)
  rw [wu_wu] at h
  have h : yH D Zk A s ((wu w 18 (ad 18, xO 8 [fR (ad 19), fX 1, fX fr, fX (T 0 11), fX (T 0 12), fX (T 0 13)]))) _ _ := h
  refine lv_aload_n B.1 B.2.1 dX8_tell_10 rfl (lv_at hl 0 rfl) ?_
  refine lv_iload_n B.1 B.2.1 dX8_tell_11 rfl (lv_at hl 2 rfl) ?_
  refine y_put B h kX8 18 wu_eq 3 (Nat.le_of_ble_eq_true rfl) (P' := fX to) m_265 (by decide) rfl rfl rfl rfl dX8_tell_12 (fun H locs h => ?_)
  rw [wu_wu] at h
  have h : yH D Zk A s ((wu w 18 (ad 18, xO 8 [fR (ad 19), fX 1, fX fr, fX to, fX (T 0 12), fX (T 0 13)]))) _ _ := h
  refine lv_aload_n B.1 B.2.1 dX8_tell_15 rfl (lv_at hl 0 rfl) ?_
  refine lv_iload_n B.1 B.2.1 dX8_tell_16 rfl (lv_at hl 3 rfl) ?_
  refine y_put B h kX8 18 wu_eq 4 (Nat.le_of_ble_eq_true rfl) (P' := fX rd) m_266 (by decide) rfl rfl rfl rfl dX8_tell_17 (fun H locs h => ?_)
  rw [wu_wu] at h
  have h : yH D Zk A s ((wu w 18 (ad 18, xO 8 [fR (ad 19), fX 1, fX fr, fX to, fX rd, fX (T 0 13)]))) _ _ := h
  refine lv_aload_n B.1 B.2.1 dX8_tell_20 rfl (lv_at hl 0 rfl) ?_
  refine lv_iload B.1 B.2.1 dX8_tell_21 (lv_at hl 4 rfl) ?_
  refine y_put B h kX8 18 wu_eq 5 (Nat.le_of_ble_eq_true rfl) (P' := fX li) m_267 (by decide) rfl rfl rfl rfl dX8_tell_23 (fun H locs h => ?_)
  rw [wu_wu] at h
  have h : yH D Zk A s ((wu w 18 (ad 18, xO 8 [fR (ad 19), fX 1, fX fr, fX to, fX rd, fX li]))) _ _ := h
  refine y_rv B hQ h (by decide) dX8_tell_26 ?_
  exact ⟨rfl, rfl, trivial⟩
abbrev r_c_X11_storm : Room := { frames := 6, cells := 0, slots := 0, locals := 137 }
set_option maxHeartbeats 4000000 in
set_option maxRecDepth 100000 in
theorem c_X11_storm (l : Launch) (D : va_G) (Zk : yK) (ca : Nat → ClassId) (T : Nat → Int → Int) (G : Nat → Int → Nat) (u : Int) (ad : Nat → Nat) (w : yW) (hC : CW ca T G u ad w) (fr : Int) (to : Int) (rd : Int) (li : Int)  (hfr : xr fr) (hto : xr to) (hrd : xr rd) (hli : xr li) : yC l D Zk ca yX11_storm cX11_storm 5 (some .int) r_c_X11_storm [.ref (ad 0), .int (iI fr), .int (iI to), .int (iI rd), .int (iI li)] w (fun r w1 => ∃ z : Int, r = some (.int (iI z)) ∧ ((((0 ≤ fr ∧ fr ≤ 999) ∧ (0 ≤ to ∧ to ≤ 999) ∧ fr ≤ to ∧ to - fr ≤ 59 ∧ (0 ≤ rd ∧ rd ≤ 7) ∧ 0 ≤ li ∧ li ≤ 12) ∧ (z = 0 ∨ z = 1) ∧ CW ca (tStorm T fr to rd li) G u ad w1 ∧ AGX w w1) ∨ (¬ ((0 ≤ fr ∧ fr ≤ 999) ∧ (0 ≤ to ∧ to ≤ 999) ∧ fr ≤ to ∧ to - fr ≤ 59 ∧ (0 ≤ rd ∧ rd ≤ 7) ∧ 0 ≤ li ∧ li ≤ 12) ∧ z = -1 ∧ w1 = w))) := by
  refine yC.of2 "WindWords" (by decide) rfl (Nat.le_of_ble_eq_true rfl) ?_
  intro p e s m args below meth c A ls Qf B hnm h hl hQ
  have hl : lv_has ls 5 [(0, .ref (ad 0)), (1, .int (iI fr)), (2, .int (iI to)), (3, .int (iI rd)), (4, .int (iI li))] := hl
  have hs := pi_s (CW.pi hC)
  refine lv_iload_n B.1 B.2.1 dX11_storm_0 rfl (lv_at hl 1 rfl) ?_
  refine x_sipush B (by decide) dX11_storm_1 ?_
  refine y_cS B h k_X11_within (c_X11_within l D Zk ca _ fr 999  (by omega) (by omega)) m_431 rfl (by decide) hl.1 [] (Nat.le_of_ble_eq_true rfl) rfl dX11_storm_4 (fun r w1 hq H locs h => ?_)
  obtain ⟨rfl, _, rfl, ⟨rfl, b1⟩ | ⟨rfl, b1⟩⟩ := hq
  · show W p l e r_c_X11_storm s m args below meth c _ _ 0 0 Qf (F0 m 7 ls [.int (iI 1)])
    refine x_if_eq B (by omega) (tgt := 52) dX11_storm_7 (by decide) (fun c2 => ?_) (fun c2 => ?_)
    · exact absurd c2 (by omega)
    · refine lv_iload_n B.1 B.2.1 dX11_storm_10 rfl (lv_at hl 2 rfl) ?_
      refine x_sipush B (by decide) dX11_storm_11 ?_
      refine y_cS B h k_X11_within (c_X11_within l D Zk ca _ to 999  (by omega) (by omega)) m_431 rfl (by decide) hl.1 [] (Nat.le_of_ble_eq_true rfl) rfl dX11_storm_14 (fun r w1 hq H locs h => ?_)
      obtain ⟨rfl, _, rfl, ⟨rfl, b3⟩ | ⟨rfl, b3⟩⟩ := hq
      · show W p l e r_c_X11_storm s m args below meth c _ _ 0 0 Qf (F0 m 17 ls [.int (iI 1)])
        refine x_if_eq B (by omega) (tgt := 52) dX11_storm_17 (by decide) (fun c4 => ?_) (fun c4 => ?_)
        · exact absurd c4 (by omega)
        · refine lv_iload_n B.1 B.2.1 dX11_storm_20 rfl (lv_at hl 2 rfl) ?_
          refine lv_iload_n B.1 B.2.1 dX11_storm_21 rfl (lv_at hl 1 rfl) ?_
          refine x_icmp_lt B (by omega) (tgt := 52) dX11_storm_22 (by decide) (fun c5 => ?_) (fun c5 => ?_)
          · refine x_iconst B dX11_storm_52 ?_
            refine y_ri B hQ h (by decide) dX11_storm_53 ?_
            exact ⟨_, rfl, Or.inr ⟨by omega, by omega, rfl⟩⟩
          · refine lv_iload_n B.1 B.2.1 dX11_storm_25 rfl (lv_at hl 2 rfl) ?_
            refine lv_iload_n B.1 B.2.1 dX11_storm_26 rfl (lv_at hl 1 rfl) ?_
            refine x_isub B dX11_storm_27 ?_
            refine x_bipush B (by decide) dX11_storm_28 ?_
            refine x_icmp_ge B (by omega) (tgt := 52) dX11_storm_30 (by decide) (fun c6 => ?_) (fun c6 => ?_)
            · refine x_iconst B dX11_storm_52 ?_
              refine y_ri B hQ h (by decide) dX11_storm_53 ?_
              exact ⟨_, rfl, Or.inr ⟨by omega, by omega, rfl⟩⟩
            · refine lv_iload_n B.1 B.2.1 dX11_storm_33 rfl (lv_at hl 3 rfl) ?_
              refine x_bipush B (by decide) dX11_storm_34 ?_
              refine y_cS B h k_X11_within (c_X11_within l D Zk ca _ rd 7  (by omega) (by omega)) m_431 rfl (by decide) hl.1 [] (Nat.le_of_ble_eq_true rfl) rfl dX11_storm_36 (fun r w1 hq H locs h => ?_)
              obtain ⟨rfl, _, rfl, ⟨rfl, b7⟩ | ⟨rfl, b7⟩⟩ := hq
              · show W p l e r_c_X11_storm s m args below meth c _ _ 0 0 Qf (F0 m 39 ls [.int (iI 1)])
                refine x_if_eq B (by omega) (tgt := 52) dX11_storm_39 (by decide) (fun c8 => ?_) (fun c8 => ?_)
                · exact absurd c8 (by omega)
                · refine lv_iload B.1 B.2.1 dX11_storm_42 (lv_at hl 4 rfl) ?_
                  refine x_bipush B (by decide) dX11_storm_44 ?_
                  refine y_cS B h k_X11_within (c_X11_within l D Zk ca _ li 12  (by omega) (by omega)) m_431 rfl (by decide) hl.1 [] (Nat.le_of_ble_eq_true rfl) rfl dX11_storm_46 (fun r w1 hq H locs h => ?_)
                  obtain ⟨rfl, _, rfl, ⟨rfl, b9⟩ | ⟨rfl, b9⟩⟩ := hq
                  · show W p l e r_c_X11_storm s m args below meth c _ _ 0 0 Qf (F0 m 49 ls [.int (iI 1)])
                    refine x_if_ne B (by omega) (tgt := 54) dX11_storm_49 (by decide) (fun c10 => ?_) (fun c10 => ?_)
                    · refine lv_aload_n B.1 B.2.1 dX11_storm_54 rfl (lv_at hl 0 rfl) ?_
                      refine y_getR B h kX11 0 (CW.f hC 0 _ rfl) 4 (b := ad 18) rfl m_365 (by decide) dX11_storm_55 ?_
                      refine lv_iload_n B.1 B.2.1 dX11_storm_58 rfl (lv_at hl 1 rfl) ?_
                      refine lv_iload_n B.1 B.2.1 dX11_storm_59 rfl (lv_at hl 2 rfl) ?_
                      refine lv_iload_n B.1 B.2.1 dX11_storm_60 rfl (lv_at hl 3 rfl) ?_
                      refine lv_iload B.1 B.2.1 dX11_storm_61 (lv_at hl 4 rfl) ?_
                      refine y_cV B h kX8 18 (CW.f hC 18 _ rfl) k_X8_tell rfl (c_X8_tell l D Zk ca T G u ad _ hC fr to rd li  (by omega) (by omega) (by omega) (by omega)) m_1168 rfl (by decide) hl.1 [] (Nat.le_of_ble_eq_true rfl) rfl dX11_storm_63 (fun r w1 hq H locs h => ?_)
                      obtain ⟨rfl, rfl, hr11⟩ := hq
                      have h : yH D Zk A s ((wu w 18 (ad 18, xO 8 [fR (ad 19), fX 1, fX fr, fX to, fX rd, fX li]))) _ _ := h
                      obtain ⟨w2, T2, eT2, hC2, hag2, h⟩ : ∃ (w2 : yW) (T2 : Nat → Int → Int), T2 = tStorm T fr to rd li ∧ CW ca T2 G u ad w2 ∧ AGX w w2 ∧ yH D Zk A s w2 H locs := ⟨_, _, rfl, cw_storm hC (by omega), fun k h1 h2 => by rw [wu_ne (by omega)], h⟩
                      have hs2 := pi_s (CW.pi hC2)
                      show W p l e r_c_X11_storm s m args below meth c _ _ 0 0 Qf (F0 m 66 ls [])
                      refine lv_aload_n B.1 B.2.1 dX11_storm_66 rfl (lv_at hl 0 rfl) ?_
                      refine y_getR B h kX11 0 (CW.f hC2 0 _ rfl) 4 (b := ad 18) rfl m_365 (by decide) dX11_storm_67 ?_
                      refine lv_aload_n B.1 B.2.1 dX11_storm_70 rfl (lv_at hl 0 rfl) ?_
                      refine y_getR B h kX11 0 (CW.f hC2 0 _ rfl) 0 (b := ad 1) rfl m_361 (by decide) dX11_storm_71 ?_
                      refine y_cV B h kX8 18 (CW.f hC2 18 _ rfl) k_X8_follow rfl (c_X8_follow l D Zk ca T2 G u ad _ hC2   ) m_1172 rfl (by decide) hl.1 [] (Nat.le_of_ble_eq_true rfl) rfl dX11_storm_74 (fun r w1 hq H locs h => ?_)
                      obtain ⟨rfl, rfl⟩ := hq
                      show W p l e r_c_X11_storm s m args below meth c _ _ 0 0 Qf (F0 m 77 ls [])
                      refine lv_aload_n B.1 B.2.1 dX11_storm_77 rfl (lv_at hl 0 rfl) ?_
                      refine y_getR B h kX11 0 (CW.f hC2 0 _ rfl) 4 (b := ad 18) rfl m_365 (by decide) dX11_storm_78 ?_
                      refine lv_iload_n B.1 B.2.1 dX11_storm_81 rfl (lv_at hl 1 rfl) ?_
                      refine y_cV B h kX8 18 (CW.f hC2 18 _ rfl) k_X8_cellsOn rfl (c_X8_cellsOn l D Zk ca T2 G u ad _ hC2 fr  (by omega)) m_1192 rfl (by decide) hl.1 [] (Nat.le_of_ble_eq_true rfl) rfl dX11_storm_82 (fun r w1 hq H locs h => ?_)
                      obtain ⟨rfl, y12, rfl, hy12⟩ := hq
                      show W p l e r_c_X11_storm s m args below meth c _ _ 0 0 Qf (F0 m 85 ls [.long (y12)])
                      refine lv_lconst (v := 0) B.1 B.2.1 dX11_storm_85 (by decide) ?_
                      refine W.lcmp B.1 B.2.1 dX11_storm_86 ?_
                      refine x_name (fun z13 hz13 ez13 => ?_)
                      refine x_if_ne B (by omega) (tgt := 94) dX11_storm_87 (by decide) (fun c14 => ?_) (fun c14 => ?_)
                      · refine x_iconst B dX11_storm_94 ?_
                        refine y_ri B hQ h (by decide) dX11_storm_95 ?_
                        exact ⟨_, rfl, Or.inl ⟨by omega, by omega, by rw [← eT2]; exact hC2, hag2⟩⟩
                      · refine x_iconst B dX11_storm_90 ?_
                        refine lv_goto (tgt := 95) B.1 B.2.1 dX11_storm_91 (by decide) ?_
                        refine y_ri B hQ h (by decide) dX11_storm_95 ?_
                        exact ⟨_, rfl, Or.inl ⟨by omega, by omega, by rw [← eT2]; exact hC2, hag2⟩⟩
                    · exact absurd c10 (by omega)
                  · show W p l e r_c_X11_storm s m args below meth c _ _ 0 0 Qf (F0 m 49 ls [.int (iI 0)])
                    refine x_if_ne B (by omega) (tgt := 54) dX11_storm_49 (by decide) (fun c15 => ?_) (fun c15 => ?_)
                    · exact absurd c15 (by omega)
                    · refine x_iconst B dX11_storm_52 ?_
                      refine y_ri B hQ h (by decide) dX11_storm_53 ?_
                      exact ⟨_, rfl, Or.inr ⟨by omega, by omega, rfl⟩⟩
              · show W p l e r_c_X11_storm s m args below meth c _ _ 0 0 Qf (F0 m 39 ls [.int (iI 0)])
                refine x_if_eq B (by omega) (tgt := 52) dX11_storm_39 (by decide) (fun c16 => ?_) (fun c16 => ?_)
                · refine x_iconst B dX11_storm_52 ?_
                  refine y_ri B hQ h (by decide) dX11_storm_53 ?_
                  exact ⟨_, rfl, Or.inr ⟨by omega, by omega, rfl⟩⟩
                · exact absurd c16 (by omega)
      · show W p l e r_c_X11_storm s m args below meth c _ _ 0 0 Qf (F0 m 17 ls [.int (iI 0)])
        refine x_if_eq B (by omega) (tgt := 52) dX11_storm_17 (by decide) (fun c17 => ?_) (fun c17 => ?_)
        · refine x_iconst B dX11_storm_52 ?_
          refine y_ri B hQ h (by decide) dX11_storm_53 ?_
          exact ⟨_, rfl, Or.inr ⟨by omega, by omega, rfl⟩⟩
        · exact absurd c17 (by omega)
  · show W p l e r_c_X11_storm s m args below meth c _ _ 0 0 Qf (F0 m 7 ls [.int (iI 0)])
    refine x_if_eq B (by omega) (tgt := 52) dX11_storm_7 (by decide) (fun c18 => ?_) (fun c18 => ?_)
    · refine x_iconst B dX11_storm_52 ?_
      refine y_ri B hQ h (by decide) dX11_storm_53 ?_
      exact ⟨_, rfl, Or.inr ⟨by omega, by omega, rfl⟩⟩
    · exact absurd c18 (by omega)
