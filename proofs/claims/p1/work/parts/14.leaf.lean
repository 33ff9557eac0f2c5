def cW0 (ca : Nat → ClassId) (ad : Nat → Nat) : xW := [(ad 0, xO 11 [fR (ad 1), fR (ad 4), fR (ad 12), fR (ad 14), fR (ad 18), fR (ad 20), fR (ad 26), fR (ad 27), fR (ad 28), fR (ad 29), fR (ad 30), fR (ad 31), fR (ad 32), fR (ad 33), fR (ad 34), fR (ad 35), fR (ad 36), fX 0, fX (-1)]),
  (ad 1, xO 0 [fR (ad 2), fR (ad 3), fX 0, fX 0, fX 0, fX 0, fX 0, fX 1, fX 1]),
  (ad 2, xAQ (ca 4) 12 (fun f => f = fun _ => none)),
  (ad 3, xAQ (ca 5) 300 (fun f => f = fun _ => none)),
  (ad 4, xO 6 [fR (ad 5), fR (ad 6), fR (ad 7), fR (ad 8), fR (ad 9), fR (ad 10), fR (ad 11), fX 0]),
  (ad 5, xAQ (ca 6) 8 (fun f => f = fun _ => none)),
  (ad 6, xAI (ca 0) 8 gA),
  (ad 7, xAI (ca 0) 5 gA),
  (ad 8, xAI (ca 0) 100 gA),
  (ad 9, xAI (ca 0) 100 gA),
  (ad 10, xAI (ca 0) 13 gA),
  (ad 11, xAI (ca 0) 4 gA),
  (ad 12, xO 3 [fR (ad 13)]),
  (ad 13, xAI (ca 0) 289 (gG 289 0 1000000)),
  (ad 14, xO 10 [fR (ad 15), fR (ad 16), fR (ad 17), fX 0, fX 0, fX 0, fX 0]),
  (ad 15, xAI (ca 0) 100 gA),
  (ad 16, xAI (ca 0) 10 gA),
  (ad 17, xAI (ca 0) 46 gA),
  (ad 18, xO 8 [fR (ad 19), fX 0, fX 0, fX 0, fX 0, fX 0]),
  (ad 19, xAL (ca 1) 60 (fun _ => True)),
  (ad 20, xO 9 [fX 0, fX 0, fR (ad 21), fR (ad 22), fR (ad 23), fR (ad 24), fR (ad 25), fX 0]),
  (ad 21, xAI (ca 0) 900 gA),
  (ad 22, xAI (ca 0) 900 gA),
  (ad 23, xAI (ca 0) 900 gA),
  (ad 24, xAI (ca 0) 900 gA),
  (ad 25, xAI (ca 0) 900 gA),
  (ad 26, xO 1 [fX 0, fX 0]),
  (ad 27, xAQ (ca 6) 16 (fun f => f = fun _ => none)),
  (ad 28, xAQ (ca 7) 4 (fun f => f = fun _ => none)),
  (ad 29, xAI (ca 0) 3 (gX 3 (fun _ => 0))),
  (ad 30, xAI (ca 0) 5 gA),
  (ad 31, xAI (ca 0) 100 gA),
  (ad 32, xAI (ca 0) 300 gA),
  (ad 33, xAI (ca 0) 10 (gG 10 0 0)),
  (ad 34, xAI (ca 0) 10 (gG 10 0 0)),
  (ad 35, xAI (ca 0) 12 gA),
  (ad 36, xO 5 [fR (ad 37), fR (ad 38), fR (ad 39), fR (ad 40), fR (ad 41), fX 0, fX 0]),
  (ad 37, xAI (ca 0) 40 gA),
  (ad 38, xAI (ca 0) 40 gA),
  (ad 39, xAI (ca 0) 40 gA),
  (ad 40, xAI (ca 0) 41 gA),
  (ad 41, xAI (ca 0) 450 gA)]
def C0 (ca : Nat → ClassId) (ad : Nat → Nat) (w : xW) : Prop := ∀ (k : Nat) (x : Nat × xPd), (cW0 ca ad)[k]? = some x → w[k]? = some x
theorem k_X11_within : xMS yX11_within cX11_within 2 (some .boolean) 2 := ⟨m_433, m_432, m_95, ⟨by decide +kernel, by decide +kernel, by decide +kernel⟩⟩
abbrev r_c_X11_within : Room := { frames := 0, cells := 0, slots := 0, locals := 0 }
set_option maxHeartbeats 4000000 in
set_option maxRecDepth 100000 in
theorem c_X11_within (l : Launch) (D : va_G) (ca : Nat → ClassId) (w : xW) (x : Int) (most : Int)  (hx : xr x) (hmost : xr most) : xC l D ca yX11_within cX11_within 2 (some .boolean) r_c_X11_within [.int (iI x), .int (iI most)] w (qZ w (0 ≤ x ∧ x ≤ most)) := by
  refine xC.of2 "WindWords" (by decide) rfl (Nat.le_of_ble_eq_true rfl) ?_
  intro p e s m args below meth c A ls Qf B hnm h hl hQ
  have hl : lv_has ls 2 [(0, .int (iI x)), (1, .int (iI most))] := hl
  refine lv_iload_n B.1 B.2.1 dX11_within_0 rfl (lv_at hl 0 rfl) ?_
  refine x_if_lt B (by omega) (tgt := 13) dX11_within_1 (by decide) (fun c1 => ?_) (fun c1 => ?_)
  · refine x_iconst B dX11_within_13 ?_
    refine x_rz B hQ h (by decide) (by decide) dX11_within_14 ?_
    exact ⟨rfl, Or.inr ⟨rfl, by omega⟩⟩
  · refine lv_iload_n B.1 B.2.1 dX11_within_4 rfl (lv_at hl 0 rfl) ?_
    refine lv_iload_n B.1 B.2.1 dX11_within_5 rfl (lv_at hl 1 rfl) ?_
    refine x_icmp_gt B (by omega) (tgt := 13) dX11_within_6 (by decide) (fun c2 => ?_) (fun c2 => ?_)
    · refine x_iconst B dX11_within_13 ?_
      refine x_rz B hQ h (by decide) (by decide) dX11_within_14 ?_
      exact ⟨rfl, Or.inr ⟨rfl, by omega⟩⟩
    · refine x_iconst B dX11_within_9 ?_
      refine lv_goto (tgt := 14) B.1 B.2.1 dX11_within_10 (by decide) ?_
      refine x_rz B hQ h (by decide) (by decide) dX11_within_14 ?_
      exact ⟨rfl, Or.inl ⟨rfl, by omega⟩⟩
abbrev r_c_X11_refuse : Room := { frames := 0, cells := 0, slots := 0, locals := 0 }
set_option maxHeartbeats 4000000 in
set_option maxRecDepth 100000 in
theorem c_X11_refuse (l : Launch) (D : va_G) (ca : Nat → ClassId) (w : xW) (ad : Nat → Nat) (hC : C0 ca ad w) (reason : Int) (answer : Int)  (hr : 0 ≤ reason ∧ reason ≤ 2) (ha : xr answer) : xC l D ca yX11_refuse cX11_refuse 3 (some .int) r_c_X11_refuse [.ref (ad 0), .int (iI reason), .int (iI answer)] w (qIa (fun z => z = answer)) := by
  refine xC.of2 "WindWords" (by decide) rfl (Nat.le_of_ble_eq_true rfl) ?_
  intro p e s m args below meth c A ls Qf B hnm h hl hQ
  have hl : lv_has ls 3 [(0, .ref (ad 0)), (1, .int (iI reason)), (2, .int (iI answer))] := hl
  refine lv_aload_n B.1 B.2.1 dX11_refuse_0 rfl (lv_at hl 0 rfl) ?_
  refine x_getR B h kX11 0 (hC 0 _ rfl) 9 (b := ad 29) rfl m_370 (by decide) dX11_refuse_1 ?_
  refine lv_iload_n B.1 B.2.1 dX11_refuse_4 rfl (lv_at hl 1 rfl) ?_
  refine lv_dup2_11 B.1 B.2.1 dX11_refuse_5 rfl rfl ?_
  refine x_ialdX B h 29 (hC 29 _ rfl) (by omega) dX11_refuse_6 ?_
  refine x_iconst B dX11_refuse_7 ?_
  refine x_iadd B dX11_refuse_8 ?_
  refine x_iast B h 29 (hC 29 _ rfl) (by omega) (P' := gX 3 (iu (fun _ => 0) reason (((fun _ => 0) (reason).toNat) + 1))) (gX_upd (by omega)) dX11_refuse_9 (fun H locs h => ?_)
  have h : xH D A s.heap (w.set 29 (ad 29, xAI (ca 0) 3 (gX 3 (iu (fun _ => 0) reason (((fun _ => 0) (reason).toNat) + 1))))) H locs := h
  refine lv_iload_n B.1 B.2.1 dX11_refuse_10 rfl (lv_at hl 2 rfl) ?_
  refine x_ri B hQ h (by decide) dX11_refuse_11 ?_
  exact ⟨_, rfl, by omega⟩
abbrev r_c_X0_hasOfficer : Room := { frames := 1, cells := 0, slots := 0, locals := 21 }
set_option maxHeartbeats 4000000 in
set_option maxRecDepth 100000 in
theorem c_X0_hasOfficer (l : Launch) (D : va_G) (ca : Nat → ClassId) (w : xW) (ad : Nat → Nat) (hC : C0 ca ad w) (o : Int)  (ho : xr o) : xC l D ca yX0_hasOfficer cX0_hasOfficer 2 (some .boolean) r_c_X0_hasOfficer [.ref (ad 1), .int (iI o)] w (qZ w (False)) := by
  refine xC.of2 "WindWords$Fleet" (by decide) rfl (Nat.le_of_ble_eq_true rfl) ?_
  intro p e s m args below meth c A ls Qf B hnm h hl hQ
  have hl : lv_has ls 2 [(0, .ref (ad 1)), (1, .int (iI o))] := hl
  refine lv_iload_n B.1 B.2.1 dX0_hasOfficer_0 rfl (lv_at hl 1 rfl) ?_
  refine lv_aload_n B.1 B.2.1 dX0_hasOfficer_1 rfl (lv_at hl 0 rfl) ?_
  refine x_getX B h kX0 1 (hC 1 _ rfl) 2 (z := 0) rfl m_136 (by decide) dX0_hasOfficer_2 ?_
  refine x_iconst B dX0_hasOfficer_5 ?_
  refine x_isub B dX0_hasOfficer_6 ?_
  refine x_cSN (host := "WindWords") B h k_X11_within (c_X11_within l D ca _ o ((0 - 1))  (by omega) (by omega)) (by decide) rfl (by decide) hl.1 [] (by decide) rfl dX0_hasOfficer_7 (fun r w1 hq H locs h => ?_)
  obtain ⟨rfl, ⟨rfl, b1⟩ | ⟨rfl, b1⟩⟩ := hq
  · exact absurd b1 (by omega)
  · show W p l e r_c_X0_hasOfficer s m args below meth c H locs 0 0 Qf (F0 m 10 ls [.int (iI 0)])
    refine x_rz B hQ h (by decide) (by decide) dX0_hasOfficer_10 ?_
    exact ⟨rfl, Or.inr ⟨rfl, by omega⟩⟩
abbrev r_c_X0_shipAt : Room := { frames := 1, cells := 0, slots := 0, locals := 21 }
set_option maxHeartbeats 4000000 in
set_option maxRecDepth 100000 in
theorem c_X0_shipAt (l : Launch) (D : va_G) (ca : Nat → ClassId) (w : xW) (ad : Nat → Nat) (hC : C0 ca ad w) (k : Int)  (hk : xr k) : xC l D ca yX0_shipAt cX0_shipAt 2 (some (.object "WindWords$Ship")) r_c_X0_shipAt [.ref (ad 1), .int (iI k)] w (qQ w (fun q => q = none)) := by
  refine xC.of2 "WindWords$Fleet" (by decide) rfl (Nat.le_of_ble_eq_true rfl) ?_
  intro p e s m args below meth c A ls Qf B hnm h hl hQ
  have hl : lv_has ls 2 [(0, .ref (ad 1)), (1, .int (iI k))] := hl
  refine lv_iload_n B.1 B.2.1 dX0_shipAt_0 rfl (lv_at hl 1 rfl) ?_
  refine lv_aload_n B.1 B.2.1 dX0_shipAt_1 rfl (lv_at hl 0 rfl) ?_
  refine x_getX B h kX0 1 (hC 1 _ rfl) 4 (z := 0) rfl m_141 (by decide) dX0_shipAt_2 ?_
  refine x_iconst B dX0_shipAt_5 ?_
  refine x_isub B dX0_shipAt_6 ?_
  refine x_cSN (host := "WindWords") B h k_X11_within (c_X11_within l D ca _ k ((0 - 1))  (by omega) (by omega)) (by decide) rfl (by decide) hl.1 [] (by decide) rfl dX0_shipAt_7 (fun r w1 hq H locs h => ?_)
  obtain ⟨rfl, ⟨rfl, b1⟩ | ⟨rfl, b1⟩⟩ := hq
  · exact absurd b1 (by omega)
  · show W p l e r_c_X0_shipAt s m args below meth c H locs 0 0 Qf (F0 m 10 ls [.int (iI 0)])
    refine x_if_eq B (by omega) (tgt := 22) dX0_shipAt_10 (by decide) (fun c2 => ?_) (fun c2 => ?_)
    · refine lv_null B.1 B.2.1 dX0_shipAt_22 ?_
      refine x_ra (r := none) B hQ h (by decide) dX0_shipAt_23 ?_
      exact ⟨rfl, _, rfl, rfl⟩
    · exact absurd c2 (by omega)
abbrev r_c_X0_readingAt : Room := { frames := 1, cells := 0, slots := 0, locals := 21 }
set_option maxHeartbeats 4000000 in
set_option maxRecDepth 100000 in
theorem c_X0_readingAt (l : Launch) (D : va_G) (ca : Nat → ClassId) (w : xW) (ad : Nat → Nat) (hC : C0 ca ad w) (k : Int)  (hk : xr k) : xC l D ca yX0_readingAt cX0_readingAt 2 (some (.object "WindWords$Reading")) r_c_X0_readingAt [.ref (ad 1), .int (iI k)] w (qQ w (fun q => q = none)) := by
  refine xC.of2 "WindWords$Fleet" (by decide) rfl (Nat.le_of_ble_eq_true rfl) ?_
  intro p e s m args below meth c A ls Qf B hnm h hl hQ
  have hl : lv_has ls 2 [(0, .ref (ad 1)), (1, .int (iI k))] := hl
  refine lv_iload_n B.1 B.2.1 dX0_readingAt_0 rfl (lv_at hl 1 rfl) ?_
  refine lv_aload_n B.1 B.2.1 dX0_readingAt_1 rfl (lv_at hl 0 rfl) ?_
  refine x_getX B h kX0 1 (hC 1 _ rfl) 5 (z := 0) rfl m_145 (by decide) dX0_readingAt_2 ?_
  refine x_iconst B dX0_readingAt_5 ?_
  refine x_isub B dX0_readingAt_6 ?_
  refine x_cSN (host := "WindWords") B h k_X11_within (c_X11_within l D ca _ k ((0 - 1))  (by omega) (by omega)) (by decide) rfl (by decide) hl.1 [] (by decide) rfl dX0_readingAt_7 (fun r w1 hq H locs h => ?_)
  obtain ⟨rfl, ⟨rfl, b1⟩ | ⟨rfl, b1⟩⟩ := hq
  · exact absurd b1 (by omega)
  · show W p l e r_c_X0_readingAt s m args below meth c H locs 0 0 Qf (F0 m 10 ls [.int (iI 0)])
    refine x_if_eq B (by omega) (tgt := 22) dX0_readingAt_10 (by decide) (fun c2 => ?_) (fun c2 => ?_)
    · refine lv_null B.1 B.2.1 dX0_readingAt_22 ?_
      refine x_ra (r := none) B hQ h (by decide) dX0_readingAt_23 ?_
      exact ⟨rfl, _, rfl, rfl⟩
    · exact absurd c2 (by omega)
abbrev r_c_X11_officer : Room := { frames := 0, cells := 0, slots := 0, locals := 0 }
set_option maxHeartbeats 4000000 in
set_option maxRecDepth 100000 in
theorem c_X11_officer (l : Launch) (D : va_G) (ca : Nat → ClassId) (w : xW) (ad : Nat → Nat) (hC : C0 ca ad w)    : xC l D ca yX11_officer cX11_officer 1 (some .int) r_c_X11_officer [.ref (ad 0)] w (qIa (fun z => z = 0)) := by
  refine xC.of2 "WindWords" (by decide) rfl (Nat.le_of_ble_eq_true rfl) ?_
  intro p e s m args below meth c A ls Qf B hnm h hl hQ
  have hl : lv_has ls 1 [(0, .ref (ad 0))] := hl
  refine lv_aload_n B.1 B.2.1 dX11_officer_0 rfl (lv_at hl 0 rfl) ?_
  refine x_getR B h kX11 0 (hC 0 _ rfl) 0 (b := ad 1) rfl m_361 (by decide) dX11_officer_1 ?_
  refine x_getX B h kX0 1 (hC 1 _ rfl) 2 (z := 0) rfl m_137 (by decide) dX11_officer_4 ?_
  refine x_bipush B (by decide) dX11_officer_7 ?_
  refine x_icmp_lt B (by omega) (tgt := 19) dX11_officer_9 (by decide) (fun c1 => ?_) (fun c1 => ?_)
  · refine lv_aload_n B.1 B.2.1 dX11_officer_19 rfl (lv_at hl 0 rfl) ?_
    refine x_getR B h kX11 0 (hC 0 _ rfl) 0 (b := ad 1) rfl m_361 (by decide) dX11_officer_20 ?_
    refine lv_dup B.1 B.2.1 dX11_officer_23 rfl ?_
    refine x_getX B h kX0 1 (hC 1 _ rfl) 2 (z := 0) rfl m_137 (by decide) dX11_officer_24 ?_
    refine x_iconst B dX11_officer_27 ?_
    refine x_iadd B dX11_officer_28 ?_
    refine x_put B h kX0 1 (hC 1 _ rfl) 2 (Nat.le_of_ble_eq_true rfl) (P' := fX (0 + 1)) m_137 (by decide) rfl rfl rfl rfl dX11_officer_29 (fun H locs h => ?_)
    have h : xH D A s.heap (w.set 1 (ad 1, xO 0 [fR (ad 2), fR (ad 3), fX (0 + 1), fX 0, fX 0, fX 0, fX 0, fX 1, fX 1])) H locs := h
    refine lv_aload_n B.1 B.2.1 dX11_officer_32 rfl (lv_at hl 0 rfl) ?_
    refine x_getR B h kX11 0 (xset_ne (hC 0 _ rfl) (by decide)) 0 (b := ad 1) rfl m_361 (by decide) dX11_officer_33 ?_
    refine x_getX B h kX0 1 (xset_eq (hC 1 _ rfl)) 2 (z := (0 + 1)) rfl m_137 (by decide) dX11_officer_36 ?_
    refine x_iconst B dX11_officer_39 ?_
    refine x_isub B dX11_officer_40 ?_
    refine x_ri B hQ h (by decide) dX11_officer_41 ?_
    exact ⟨_, rfl, by omega⟩
  · exact absurd c1 (by omega)
