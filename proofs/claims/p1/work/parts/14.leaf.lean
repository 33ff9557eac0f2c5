def cW0 (ca : Nat → ClassId) (ad : Nat → Nat) : xW := [(ad 0, xO 11 [fR (ad 1), fR (ad 4), fR (ad 12), fR (ad 14), fR (ad 18), fR (ad 20), fR (ad 26), fR (ad 27), fR (ad 28), fR (ad 29), fR (ad 30), fR (ad 31), fR (ad 32), fR (ad 33), fR (ad 34), fR (ad 35), fR (ad 36), fX 0, fX (-1)]),
  (ad 1, xO 0 [fR (ad 2), fR (ad 3), fX 0, fX 0, fX 0, fX 0, fX 0, fX 1, fX 1]),
  (ad 2, xAQ (ca 4) 12 (fun f => f = fun _ => none)),
  (ad 3, xAQ (ca 5) 300 (fun f => f = fun _ => none)),
  (ad 4, xO 6 [fR (ad 5), fR (ad 6), fR (ad 7), fR (ad 8), fR (ad 9), fR (ad 10), fR (ad 11), fX 0]),
  (ad 5, xAQ (ca 6) 8 (fun f => f = fun _ => none)),
  (ad 6, xAI (ca 0) 8 gA),
  (ad 7, xAI (ca 0) 5 gA),
  (ad 8, xAI (ca 0) 100 gA),
  (ad 9, xAI (ca 0) 100 gA),
  (ad 10, xAI (ca 0) 13 gA),
  (ad 11, xAI (ca 0) 4 (gX 4 (fun _ => 0))),
  (ad 12, xO 3 [fR (ad 13)]),
  (ad 13, xAI (ca 0) 289 (gG 289 0 1000000)),
  (ad 14, xO 10 [fR (ad 15), fR (ad 16), fR (ad 17), fX 0, fX 0, fX 0, fX 0]),
  (ad 15, xAI (ca 0) 100 gA),
  (ad 16, xAI (ca 0) 10 gA),
  (ad 17, xAI (ca 0) 46 gA),
  (ad 18, xO 8 [fR (ad 19), fX 0, fX 0, fX 0, fX 0, fX 0]),
  (ad 19, xAL (ca 1) 60 (fun _ => True)),
  (ad 20, xO 9 [fX 0, fG 0 0, fR (ad 21), fR (ad 22), fR (ad 23), fR (ad 24), fR (ad 25), fG 0 0]),
  (ad 21, xAI (ca 0) 900 gA),
  (ad 22, xAI (ca 0) 900 gA),
  (ad 23, xAI (ca 0) 900 gA),
  (ad 24, xAI (ca 0) 900 gA),
  (ad 25, xAI (ca 0) 900 gA),
  (ad 26, xO 1 [fG 0 1, fG 0 0]),
  (ad 27, xAQ (ca 6) 16 (fun f => f = fun _ => none)),
  (ad 28, xAQ (ca 7) 4 (fun f => f = fun _ => none)),
  (ad 29, xAI (ca 0) 3 (gX 3 (fun _ => 0))),
  (ad 30, xAI (ca 0) 5 gA),
  (ad 31, xAI (ca 0) 100 gA),
  (ad 32, xAI (ca 0) 300 gA),
  (ad 33, xAI (ca 0) 10 (gG 10 0 0)),
  (ad 34, xAI (ca 0) 10 (gG 10 0 0)),
  (ad 35, xAI (ca 0) 12 gA),
  (ad 36, xO 5 [fR (ad 37), fR (ad 38), fR (ad 39), fR (ad 40), fR (ad 41), fG 0 0, fG 0 0]),
  (ad 37, xAI (ca 0) 40 gA),
  (ad 38, xAI (ca 0) 40 gA),
  (ad 39, xAI (ca 0) 40 gA),
  (ad 40, xAI (ca 0) 41 gA),
  (ad 41, xAI (ca 0) 450 gA)]
def C0 (ca : Nat → ClassId) (ad : Nat → Nat) (w : xW) : Prop := ∀ (k : Nat) (x : Nat × xPd), (cW0 ca ad)[k]? = some x → w[k]? = some x
theorem k_X11_within : xMS yX11_within cX11_within 2 (some .boolean) 2 := ⟨m_433, m_432, m_95, ⟨by decide +kernel, by decide +kernel, by decide +kernel⟩⟩
theorem k_X0_hasOfficer : xMV yX0_hasOfficer cX0_hasOfficer 2 (some .boolean) 1 := ⟨m_437, m_435, m_436, m_96, ⟨by decide +kernel, by decide +kernel, by decide +kernel⟩⟩
theorem k_X11_refuse : xMV yX11_refuse cX11_refuse 3 (some .int) 2 := ⟨m_426, m_425, m_0, m_95, ⟨by decide +kernel, by decide +kernel, by decide +kernel⟩⟩
theorem k_X0_shipAt : xMV yX0_shipAt cX0_shipAt 2 (some (.object "WindWords$Ship")) 1 := ⟨m_484, m_482, m_483, m_96, ⟨by decide +kernel, by decide +kernel, by decide +kernel⟩⟩
abbrev r_c_X11_within : Room := { frames := 0, cells := 0, slots := 0, locals := 0 }
set_option maxHeartbeats 4000000 in
set_option maxRecDepth 100000 in
theorem c_X11_within (l : Launch) (D : va_G) (ca : Nat → ClassId) (w : xW) (x : Int) (most : Int)  (hx : xr x) (hmost : xr most) : xC l D ca yX11_within cX11_within 2 (some .boolean) r_c_X11_within [.int (iI x), .int (iI most)] w (qZ w (0 ≤ x ∧ x ≤ most)) := by
  refine xC.of2 "WindWords" (by decide) rfl (Nat.le_of_ble_eq_true rfl) ?_
  intro p e s m args below meth c A ls Qf B hnm h hl hQ
  have hl : lv_has ls 2 [(0, .int (iI x)), (1, .int (iI most))] := hl
  refine lv_iload_n B.1 B.2.1 dX11_within_0 rfl (lv_at hl 0 rfl) ?_
  refine x_if_lt B (by omega) (tgt := 13) dX11_within_1 (by decide) (fun c1 => ?_) (fun c1 => ?_)
  · refine x_iconst B dX11_within_13 ?_
    refine x_rz B hQ h (by decide) (by decide) dX11_within_14 ?_
    exact ⟨rfl, Or.inr ⟨rfl, by omega⟩⟩
  · refine lv_iload_n B.1 B.2.1 dX11_within_4 rfl (lv_at hl 0 rfl) ?_
    refine lv_iload_n B.1 B.2.1 dX11_within_5 rfl (lv_at hl 1 rfl) ?_
    refine x_icmp_gt B (by omega) (tgt := 13) dX11_within_6 (by decide) (fun c2 => ?_) (fun c2 => ?_)
    · refine x_iconst B dX11_within_13 ?_
      refine x_rz B hQ h (by decide) (by decide) dX11_within_14 ?_
      exact ⟨rfl, Or.inr ⟨rfl, by omega⟩⟩
    · refine x_iconst B dX11_within_9 ?_
      refine lv_goto (tgt := 14) B.1 B.2.1 dX11_within_10 (by decide) ?_
      refine x_rz B hQ h (by decide) (by decide) dX11_within_14 ?_
      exact ⟨rfl, Or.inl ⟨rfl, by omega⟩⟩
abbrev r_c_X11_refuse : Room := { frames := 0, cells := 0, slots := 0, locals := 0 }
set_option maxHeartbeats 4000000 in
set_option maxRecDepth 100000 in
theorem c_X11_refuse (l : Launch) (D : va_G) (ca : Nat → ClassId) (w : xW) (ad : Nat → Nat) (hC : C0 ca ad w) (reason : Int) (answer : Int)  (hr : 0 ≤ reason ∧ reason ≤ 2) (ha : xr answer) : xC l D ca yX11_refuse cX11_refuse 3 (some .int) r_c_X11_refuse [.ref (ad 0), .int (iI reason), .int (iI answer)] w (qIa (fun z => z = answer)) := by
  refine xC.of2 "WindWords" (by decide) rfl (Nat.le_of_ble_eq_true rfl) ?_
  intro p e s m args below meth c A ls Qf B hnm h hl hQ
  have hl : lv_has ls 3 [(0, .ref (ad 0)), (1, .int (iI reason)), (2, .int (iI answer))] := hl
  refine lv_aload_n B.1 B.2.1 dX11_refuse_0 rfl (lv_at hl 0 rfl) ?_
  refine x_getR B h kX11 0 (hC 0 _ rfl) 9 (b := ad 29) rfl m_370 (by decide) dX11_refuse_1 ?_
  refine lv_iload_n B.1 B.2.1 dX11_refuse_4 rfl (lv_at hl 1 rfl) ?_
  refine lv_dup2_11 B.1 B.2.1 dX11_refuse_5 rfl rfl ?_
  refine x_ialdX B h 29 (hC 29 _ rfl) (by omega) dX11_refuse_6 ?_
  refine x_iconst B dX11_refuse_7 ?_
  refine x_iadd B dX11_refuse_8 ?_
  refine x_iast B h 29 (hC 29 _ rfl) (by omega) (P' := gX 3 (iu (fun _ => 0) reason (((fun _ => 0) (reason).toNat) + 1))) (gX_upd (by omega)) dX11_refuse_9 (fun H locs h => ?_)
  have h : xH D A s.heap (w.set 29 (ad 29, xAI (ca 0) 3 (gX 3 (iu (fun _ => 0) reason (((fun _ => 0) (reason).toNat) + 1))))) H locs := h
  refine lv_iload_n B.1 B.2.1 dX11_refuse_10 rfl (lv_at hl 2 rfl) ?_
  refine x_ri B hQ h (by decide) dX11_refuse_11 ?_
  exact ⟨_, rfl, by omega⟩
abbrev r_c_X0_hasOfficer : Room := { frames := 1, cells := 0, slots := 0, locals := 21 }
set_option maxHeartbeats 4000000 in
set_option maxRecDepth 100000 in
theorem c_X0_hasOfficer (l : Launch) (D : va_G) (ca : Nat → ClassId) (w : xW) (ad : Nat → Nat) (hC : C0 ca ad w) (o : Int)  (ho : xr o) : xC l D ca yX0_hasOfficer cX0_hasOfficer 2 (some .boolean) r_c_X0_hasOfficer [.ref (ad 1), .int (iI o)] w (qZ w (False)) := by
  refine xC.of2 "WindWords$Fleet" (by decide) rfl (Nat.le_of_ble_eq_true rfl) ?_
  intro p e s m args below meth c A ls Qf B hnm h hl hQ
  have hl : lv_has ls 2 [(0, .ref (ad 1)), (1, .int (iI o))] := hl
  refine lv_iload_n B.1 B.2.1 dX0_hasOfficer_0 rfl (lv_at hl 1 rfl) ?_
  refine lv_aload_n B.1 B.2.1 dX0_hasOfficer_1 rfl (lv_at hl 0 rfl) ?_
  refine x_getX B h kX0 1 (hC 1 _ rfl) 2 (z := 0) rfl m_136 (by decide) dX0_hasOfficer_2 ?_
  refine x_iconst B dX0_hasOfficer_5 ?_
  refine x_isub B dX0_hasOfficer_6 ?_
  refine x_cSN (host := "WindWords") B h k_X11_within (c_X11_within l D ca _ o ((0 - 1))  (by omega) (by omega)) (by decide) rfl (by decide) hl.1 [] (Nat.le_of_ble_eq_true rfl) rfl dX0_hasOfficer_7 (fun r w1 hq H locs h => ?_)
  obtain ⟨rfl, ⟨rfl, b1⟩ | ⟨rfl, b1⟩⟩ := hq
  · exact absurd b1 (by omega)
  · show W p l e r_c_X0_hasOfficer s m args below meth c H locs 0 0 Qf (F0 m 10 ls [.int (iI 0)])
    refine x_rz B hQ h (by decide) (by decide) dX0_hasOfficer_10 ?_
    exact ⟨rfl, Or.inr ⟨rfl, fun q => q⟩⟩
abbrev r_c_X0_shipAt : Room := { frames := 1, cells := 0, slots := 0, locals := 21 }
set_option maxHeartbeats 4000000 in
set_option maxRecDepth 100000 in
theorem c_X0_shipAt (l : Launch) (D : va_G) (ca : Nat → ClassId) (w : xW) (ad : Nat → Nat) (hC : C0 ca ad w) (k : Int)  (hk : xr k) : xC l D ca yX0_shipAt cX0_shipAt 2 (some (.object "WindWords$Ship")) r_c_X0_shipAt [.ref (ad 1), .int (iI k)] w (qQ w (fun q => q = none)) := by
  refine xC.of2 "WindWords$Fleet" (by decide) rfl (Nat.le_of_ble_eq_true rfl) ?_
  intro p e s m args below meth c A ls Qf B hnm h hl hQ
  have hl : lv_has ls 2 [(0, .ref (ad 1)), (1, .int (iI k))] := hl
  refine lv_iload_n B.1 B.2.1 dX0_shipAt_0 rfl (lv_at hl 1 rfl) ?_
  refine lv_aload_n B.1 B.2.1 dX0_shipAt_1 rfl (lv_at hl 0 rfl) ?_
  refine x_getX B h kX0 1 (hC 1 _ rfl) 4 (z := 0) rfl m_141 (by decide) dX0_shipAt_2 ?_
  refine x_iconst B dX0_shipAt_5 ?_
  refine x_isub B dX0_shipAt_6 ?_
  refine x_cSN (host := "WindWords") B h k_X11_within (c_X11_within l D ca _ k ((0 - 1))  (by omega) (by omega)) (by decide) rfl (by decide) hl.1 [] (Nat.le_of_ble_eq_true rfl) rfl dX0_shipAt_7 (fun r w1 hq H locs h => ?_)
  obtain ⟨rfl, ⟨rfl, b1⟩ | ⟨rfl, b1⟩⟩ := hq
  · exact absurd b1 (by omega)
  · show W p l e r_c_X0_shipAt s m args below meth c H locs 0 0 Qf (F0 m 10 ls [.int (iI 0)])
    refine x_if_eq B (by omega) (tgt := 22) dX0_shipAt_10 (by decide) (fun c2 => ?_) (fun c2 => ?_)
    · refine lv_null B.1 B.2.1 dX0_shipAt_22 ?_
      refine x_ra (r := none) B hQ h (by decide) dX0_shipAt_23 ?_
      exact ⟨rfl, _, rfl, rfl⟩
    · exact absurd c2 (by omega)
abbrev r_c_X0_readingAt : Room := { frames := 1, cells := 0, slots := 0, locals := 21 }
set_option maxHeartbeats 4000000 in
set_option maxRecDepth 100000 in
theorem c_X0_readingAt (l : Launch) (D : va_G) (ca : Nat → ClassId) (w : xW) (ad : Nat → Nat) (hC : C0 ca ad w) (k : Int)  (hk : xr k) : xC l D ca yX0_readingAt cX0_readingAt 2 (some (.object "WindWords$Reading")) r_c_X0_readingAt [.ref (ad 1), .int (iI k)] w (qQ w (fun q => q = none)) := by
  refine xC.of2 "WindWords$Fleet" (by decide) rfl (Nat.le_of_ble_eq_true rfl) ?_
  intro p e s m args below meth c A ls Qf B hnm h hl hQ
  have hl : lv_has ls 2 [(0, .ref (ad 1)), (1, .int (iI k))] := hl
  refine lv_iload_n B.1 B.2.1 dX0_readingAt_0 rfl (lv_at hl 1 rfl) ?_
  refine lv_aload_n B.1 B.2.1 dX0_readingAt_1 rfl (lv_at hl 0 rfl) ?_
  refine x_getX B h kX0 1 (hC 1 _ rfl) 5 (z := 0) rfl m_145 (by decide) dX0_readingAt_2 ?_
  refine x_iconst B dX0_readingAt_5 ?_
  refine x_isub B dX0_readingAt_6 ?_
  refine x_cSN (host := "WindWords") B h k_X11_within (c_X11_within l D ca _ k ((0 - 1))  (by omega) (by omega)) (by decide) rfl (by decide) hl.1 [] (Nat.le_of_ble_eq_true rfl) rfl dX0_readingAt_7 (fun r w1 hq H locs h => ?_)
  obtain ⟨rfl, ⟨rfl, b1⟩ | ⟨rfl, b1⟩⟩ := hq
  · exact absurd b1 (by omega)
  · show W p l e r_c_X0_readingAt s m args below meth c H locs 0 0 Qf (F0 m 10 ls [.int (iI 0)])
    refine x_if_eq B (by omega) (tgt := 22) dX0_readingAt_10 (by decide) (fun c2 => ?_) (fun c2 => ?_)
    · refine lv_null B.1 B.2.1 dX0_readingAt_22 ?_
      refine x_ra (r := none) B hQ h (by decide) dX0_readingAt_23 ?_
      exact ⟨rfl, _, rfl, rfl⟩
    · exact absurd c2 (by omega)
abbrev r_c_X11_officer : Room := { frames := 0, cells := 0, slots := 0, locals := 0 }
set_option maxHeartbeats 4000000 in
set_option maxRecDepth 100000 in
theorem c_X11_officer (l : Launch) (D : va_G) (ca : Nat → ClassId) (w : xW) (ad : Nat → Nat) (hC : C0 ca ad w)    : xC l D ca yX11_officer cX11_officer 1 (some .int) r_c_X11_officer [.ref (ad 0)] w (qIa (fun z => z = 0)) := by
  refine xC.of2 "WindWords" (by decide) rfl (Nat.le_of_ble_eq_true rfl) ?_
  intro p e s m args below meth c A ls Qf B hnm h hl hQ
  have hl : lv_has ls 1 [(0, .ref (ad 0))] := hl
  refine lv_aload_n B.1 B.2.1 dX11_officer_0 rfl (lv_at hl 0 rfl) ?_
  refine x_getR B h kX11 0 (hC 0 _ rfl) 0 (b := ad 1) rfl m_361 (by decide) dX11_officer_1 ?_
  refine x_getX B h kX0 1 (hC 1 _ rfl) 2 (z := 0) rfl m_137 (by decide) dX11_officer_4 ?_
  refine x_bipush B (by decide) dX11_officer_7 ?_
  refine x_icmp_lt B (by omega) (tgt := 19) dX11_officer_9 (by decide) (fun c1 => ?_) (fun c1 => ?_)
  · refine lv_aload_n B.1 B.2.1 dX11_officer_19 rfl (lv_at hl 0 rfl) ?_
    refine x_getR B h kX11 0 (hC 0 _ rfl) 0 (b := ad 1) rfl m_361 (by decide) dX11_officer_20 ?_
    refine lv_dup B.1 B.2.1 dX11_officer_23 rfl ?_
    refine x_getX B h kX0 1 (hC 1 _ rfl) 2 (z := 0) rfl m_137 (by decide) dX11_officer_24 ?_
    refine x_iconst B dX11_officer_27 ?_
    refine x_iadd B dX11_officer_28 ?_
    refine x_put B h kX0 1 (hC 1 _ rfl) 2 (Nat.le_of_ble_eq_true rfl) (P' := fX (0 + 1)) m_137 (by decide) rfl rfl rfl rfl dX11_officer_29 (fun H locs h => ?_)
    have h : xH D A s.heap (w.set 1 (ad 1, xO 0 [fR (ad 2), fR (ad 3), fX (0 + 1), fX 0, fX 0, fX 0, fX 0, fX 1, fX 1])) H locs := h
    refine lv_aload_n B.1 B.2.1 dX11_officer_32 rfl (lv_at hl 0 rfl) ?_
    refine x_getR B h kX11 0 (xset_ne (hC 0 _ rfl) (by decide)) 0 (b := ad 1) rfl m_361 (by decide) dX11_officer_33 ?_
    refine x_getX B h kX0 1 (xset_eq (hC 1 _ rfl)) 2 (z := (0 + 1)) rfl m_137 (by decide) dX11_officer_36 ?_
    refine x_iconst B dX11_officer_39 ?_
    refine x_isub B dX11_officer_40 ?_
    refine x_ri B hQ h (by decide) dX11_officer_41 ?_
    exact ⟨_, rfl, by omega⟩
  · exact absurd c1 (by omega)
abbrev r_c_X11_ship : Room := { frames := 2, cells := 0, slots := 0, locals := 42 }
set_option maxHeartbeats 4000000 in
set_option maxRecDepth 100000 in
theorem c_X11_ship (l : Launch) (D : va_G) (ca : Nat → ClassId) (w : xW) (ad : Nat → Nat) (hC : C0 ca ad w) (rig : Int) (o : Int)  (hrig : xr rig) (ho : xr o) : xC l D ca yX11_ship cX11_ship 3 (some .int) r_c_X11_ship [.ref (ad 0), .int (iI rig), .int (iI o)] w (qIa (fun z => z = -1)) := by
  refine xC.of2 "WindWords" (by decide) rfl (Nat.le_of_ble_eq_true rfl) ?_
  intro p e s m args below meth c A ls Qf B hnm h hl hQ
  have hl : lv_has ls 3 [(0, .ref (ad 0)), (1, .int (iI rig)), (2, .int (iI o))] := hl
  refine lv_iload_n B.1 B.2.1 dX11_ship_0 rfl (lv_at hl 1 rfl) ?_
  refine x_iconst B dX11_ship_1 ?_
  refine x_cS B h k_X11_within (c_X11_within l D ca _ rig 3  (by omega) (by omega)) m_431 rfl (by decide) hl.1 [] (Nat.le_of_ble_eq_true rfl) rfl dX11_ship_2 (fun r w1 hq H locs h => ?_)
  obtain ⟨rfl, ⟨rfl, b1⟩ | ⟨rfl, b1⟩⟩ := hq
  · show W p l e r_c_X11_ship s m args below meth c H locs 0 0 Qf (F0 m 5 ls [.int (iI 1)])
    refine x_if_eq B (by omega) (tgt := 19) dX11_ship_5 (by decide) (fun c2 => ?_) (fun c2 => ?_)
    · exact absurd c2 (by omega)
    · refine lv_aload_n B.1 B.2.1 dX11_ship_8 rfl (lv_at hl 0 rfl) ?_
      refine x_getR B h kX11 0 (hC 0 _ rfl) 0 (b := ad 1) rfl m_361 (by decide) dX11_ship_9 ?_
      refine lv_iload_n B.1 B.2.1 dX11_ship_12 rfl (lv_at hl 2 rfl) ?_
      refine x_cV B h kX0 1 (hC 1 _ rfl) k_X0_hasOfficer rfl (c_X0_hasOfficer l D ca _ ad hC o  (by omega)) m_434 rfl (by decide) hl.1 [] (Nat.le_of_ble_eq_true rfl) rfl dX11_ship_13 (fun r w1 hq H locs h => ?_)
      obtain ⟨rfl, ⟨rfl, b3⟩ | ⟨rfl, b3⟩⟩ := hq
      · exact b3.elim
      · show W p l e r_c_X11_ship s m args below meth c H locs 0 0 Qf (F0 m 16 ls [.int (iI 0)])
        refine x_if_ne B (by omega) (tgt := 26) dX11_ship_16 (by decide) (fun c4 => ?_) (fun c4 => ?_)
        · exact absurd c4 (by omega)
        · refine lv_aload_n B.1 B.2.1 dX11_ship_19 rfl (lv_at hl 0 rfl) ?_
          refine x_iconst B dX11_ship_20 ?_
          refine x_iconst B dX11_ship_21 ?_
          refine x_cV B h kX11 0 (hC 0 _ rfl) k_X11_refuse rfl (c_X11_refuse l D ca _ ad hC 0 ((-1))  (by omega) (by omega)) m_423 rfl (by decide) hl.1 [] (Nat.le_of_ble_eq_true rfl) rfl dX11_ship_22 (fun r w1 hq H locs h => ?_)
          obtain ⟨z5, rfl, hz5⟩ := hq
          show W p l e r_c_X11_ship s m args below meth c H locs 0 0 Qf (F0 m 25 ls [.int (iI z5)])
          refine x_ri B hQ h (by decide) dX11_ship_25 ?_
          exact ⟨_, rfl, by omega⟩
  · show W p l e r_c_X11_ship s m args below meth c H locs 0 0 Qf (F0 m 5 ls [.int (iI 0)])
    refine x_if_eq B (by omega) (tgt := 19) dX11_ship_5 (by decide) (fun c6 => ?_) (fun c6 => ?_)
    · refine lv_aload_n B.1 B.2.1 dX11_ship_19 rfl (lv_at hl 0 rfl) ?_
      refine x_iconst B dX11_ship_20 ?_
      refine x_iconst B dX11_ship_21 ?_
      refine x_cV B h kX11 0 (hC 0 _ rfl) k_X11_refuse rfl (c_X11_refuse l D ca _ ad hC 0 ((-1))  (by omega) (by omega)) m_423 rfl (by decide) hl.1 [] (Nat.le_of_ble_eq_true rfl) rfl dX11_ship_22 (fun r w1 hq H locs h => ?_)
      obtain ⟨z7, rfl, hz7⟩ := hq
      show W p l e r_c_X11_ship s m args below meth c H locs 0 0 Qf (F0 m 25 ls [.int (iI z7)])
      refine x_ri B hQ h (by decide) dX11_ship_25 ?_
      exact ⟨_, rfl, by omega⟩
    · exact absurd c6 (by omega)
abbrev r_c_X11_signs : Room := { frames := 2, cells := 0, slots := 0, locals := 42 }
set_option maxHeartbeats 4000000 in
set_option maxRecDepth 100000 in
theorem c_X11_signs (l : Launch) (D : va_G) (ca : Nat → ClassId) (w : xW) (ad : Nat → Nat) (hC : C0 ca ad w) (ship : Int) (o : Int) (watch : Int)  (hship : xr ship) (ho : xr o) (hwatch : xr watch) : xC l D ca yX11_signs cX11_signs 5 (some .int) r_c_X11_signs [.ref (ad 0), .int (iI ship), .int (iI o), .int (iI watch)] w (qIa (fun z => z = -1)) := by
  refine xC.of2 "WindWords" (by decide) rfl (Nat.le_of_ble_eq_true rfl) ?_
  intro p e s m args below meth c A ls Qf B hnm h hl hQ
  have hl : lv_has ls 5 [(0, .ref (ad 0)), (1, .int (iI ship)), (2, .int (iI o)), (3, .int (iI watch))] := hl
  refine lv_aload_n B.1 B.2.1 dX11_signs_0 rfl (lv_at hl 0 rfl) ?_
  refine x_getR B h kX11 0 (hC 0 _ rfl) 0 (b := ad 1) rfl m_361 (by decide) dX11_signs_1 ?_
  refine lv_iload_n B.1 B.2.1 dX11_signs_4 rfl (lv_at hl 1 rfl) ?_
  refine x_cV B h kX0 1 (hC 1 _ rfl) k_X0_shipAt rfl (c_X0_shipAt l D ca _ ad hC ship  (by omega)) m_481 rfl (by decide) hl.1 [] (Nat.le_of_ble_eq_true rfl) rfl dX11_signs_5 (fun r w1 hq H locs h => ?_)
  obtain ⟨rfl, _, rfl, rfl⟩ := hq
  show W p l e r_c_X11_signs s m args below meth c H locs 0 0 Qf (F0 m 8 ls [.null])
  refine lv_astoreN (lv' := [(4, .null), (0, .ref (ad 0)), (1, .int (iI ship)), (2, .int (iI o)), (3, .int (iI watch))]) B.1 B.2.1 dX11_signs_8 hl (by decide) rfl (fun ls hl => ?_)
  refine lv_aloadN B.1 B.2.1 dX11_signs_10 (lv_at hl 0 rfl) ?_
  refine lv_ifnullN (tgt := 42) B.1 B.2.1 dX11_signs_12 (by decide) ?_
  refine lv_aload_n B.1 B.2.1 dX11_signs_42 rfl (lv_at hl 1 rfl) ?_
  refine x_iconst B dX11_signs_43 ?_
  refine x_iconst B dX11_signs_44 ?_
  refine x_cV B h kX11 0 (hC 0 _ rfl) k_X11_refuse rfl (c_X11_refuse l D ca _ ad hC 0 ((-1))  (by omega) (by omega)) m_423 rfl (by decide) hl.1 [] (Nat.le_of_ble_eq_true rfl) rfl dX11_signs_45 (fun r w1 hq H locs h => ?_)
  obtain ⟨z1, rfl, hz1⟩ := hq
  show W p l e r_c_X11_signs s m args below meth c H locs 0 0 Qf (F0 m 48 ls [.int (iI z1)])
  refine x_ri B hQ h (by decide) dX11_signs_48 ?_
  exact ⟨_, rfl, by omega⟩
abbrev r_c_X11_trust : Room := { frames := 2, cells := 0, slots := 0, locals := 42 }
set_option maxHeartbeats 4000000 in
set_option maxRecDepth 100000 in
theorem c_X11_trust (l : Launch) (D : va_G) (ca : Nat → ClassId) (w : xW) (ad : Nat → Nat) (hC : C0 ca ad w) (o : Int) (b : Int32)  (ho : xr o) : xC l D ca yX11_trust cX11_trust 3 (some .boolean) r_c_X11_trust [.ref (ad 0), .int (iI o), .int (b)] w (qZa (False)) := by
  refine xC.of2 "WindWords" (by decide) rfl (Nat.le_of_ble_eq_true rfl) ?_
  intro p e s m args below meth c A ls Qf B hnm h hl hQ
  have hl : lv_has ls 3 [(0, .ref (ad 0)), (1, .int (iI o)), (2, .int (b))] := hl
  refine lv_aload_n B.1 B.2.1 dX11_trust_0 rfl (lv_at hl 0 rfl) ?_
  refine x_getR B h kX11 0 (hC 0 _ rfl) 0 (b := ad 1) rfl m_361 (by decide) dX11_trust_1 ?_
  refine lv_iload_n B.1 B.2.1 dX11_trust_4 rfl (lv_at hl 1 rfl) ?_
  refine x_cV B h kX0 1 (hC 1 _ rfl) k_X0_hasOfficer rfl (c_X0_hasOfficer l D ca _ ad hC o  (by omega)) m_434 rfl (by decide) hl.1 [] (Nat.le_of_ble_eq_true rfl) rfl dX11_trust_5 (fun r w1 hq H locs h => ?_)
  obtain ⟨rfl, ⟨rfl, b1⟩ | ⟨rfl, b1⟩⟩ := hq
  · exact b1.elim
  · show W p l e r_c_X11_trust s m args below meth c H locs 0 0 Qf (F0 m 8 ls [.int (iI 0)])
    refine x_if_ne B (by omega) (tgt := 20) dX11_trust_8 (by decide) (fun c2 => ?_) (fun c2 => ?_)
    · exact absurd c2 (by omega)
    · refine lv_aload_n B.1 B.2.1 dX11_trust_11 rfl (lv_at hl 0 rfl) ?_
      refine x_iconst B dX11_trust_12 ?_
      refine x_iconst B dX11_trust_13 ?_
      refine x_cV B h kX11 0 (hC 0 _ rfl) k_X11_refuse rfl (c_X11_refuse l D ca _ ad hC 0 ((-1))  (by omega) (by omega)) m_423 rfl (by decide) hl.1 [] (Nat.le_of_ble_eq_true rfl) rfl dX11_trust_14 (fun r w1 hq H locs h => ?_)
      obtain ⟨z3, rfl, hz3⟩ := hq
      show W p l e r_c_X11_trust s m args below meth c H locs 0 0 Qf (F0 m 17 ls [.int (iI z3)])
      refine lv_pop B.1 B.2.1 dX11_trust_17 rfl ?_
      refine x_iconst B dX11_trust_18 ?_
      refine x_rz B hQ h (by decide) (by decide) dX11_trust_19 ?_
      exact Or.inr ⟨rfl, fun q => q⟩
abbrev r_c_X11_set : Room := { frames := 1, cells := 0, slots := 0, locals := 22 }
set_option maxHeartbeats 4000000 in
set_option maxRecDepth 100000 in
theorem c_X11_set (l : Launch) (D : va_G) (ca : Nat → ClassId) (w : xW) (ad : Nat → Nat) (hC : C0 ca ad w) (sight : Int) (err : Int)  (hsight : xr sight) (herr : xr err) : xC l D ca yX11_set cX11_set 3 (some .boolean) r_c_X11_set [.ref (ad 0), .int (iI sight), .int (iI err)] w (qZa ((0 ≤ sight ∧ sight ≤ 7) ∧ 0 ≤ err ∧ err ≤ 5)) := by
  refine xC.of2 "WindWords" (by decide) rfl (Nat.le_of_ble_eq_true rfl) ?_
  intro p e s m args below meth c A ls Qf B hnm h hl hQ
  have hl : lv_has ls 3 [(0, .ref (ad 0)), (1, .int (iI sight)), (2, .int (iI err))] := hl
  refine lv_iload_n B.1 B.2.1 dX11_set_0 rfl (lv_at hl 1 rfl) ?_
  refine x_bipush B (by decide) dX11_set_1 ?_
  refine x_cS B h k_X11_within (c_X11_within l D ca _ sight 7  (by omega) (by omega)) m_431 rfl (by decide) hl.1 [] (Nat.le_of_ble_eq_true rfl) rfl dX11_set_3 (fun r w1 hq H locs h => ?_)
  obtain ⟨rfl, ⟨rfl, b1⟩ | ⟨rfl, b1⟩⟩ := hq
  · show W p l e r_c_X11_set s m args below meth c H locs 0 0 Qf (F0 m 6 ls [.int (iI 1)])
    refine x_if_eq B (by omega) (tgt := 17) dX11_set_6 (by decide) (fun c2 => ?_) (fun c2 => ?_)
    · exact absurd c2 (by omega)
    · refine lv_iload_n B.1 B.2.1 dX11_set_9 rfl (lv_at hl 2 rfl) ?_
      refine x_iconst B dX11_set_10 ?_
      refine x_cS B h k_X11_within (c_X11_within l D ca _ err 5  (by omega) (by omega)) m_431 rfl (by decide) hl.1 [] (Nat.le_of_ble_eq_true rfl) rfl dX11_set_11 (fun r w1 hq H locs h => ?_)
      obtain ⟨rfl, ⟨rfl, b3⟩ | ⟨rfl, b3⟩⟩ := hq
      · show W p l e r_c_X11_set s m args below meth c H locs 0 0 Qf (F0 m 14 ls [.int (iI 1)])
        refine x_if_ne B (by omega) (tgt := 26) dX11_set_14 (by decide) (fun c4 => ?_) (fun c4 => ?_)
        · refine lv_aload_n B.1 B.2.1 dX11_set_26 rfl (lv_at hl 0 rfl) ?_
          refine x_getR B h kX11 0 (hC 0 _ rfl) 0 (b := ad 1) rfl m_361 (by decide) dX11_set_27 ?_
          refine lv_iload_n B.1 B.2.1 dX11_set_30 rfl (lv_at hl 1 rfl) ?_
          refine x_put B h kX0 1 (hC 1 _ rfl) 7 (Nat.le_of_ble_eq_true rfl) (P' := fX sight) m_154 (by decide) rfl rfl rfl rfl dX11_set_31 (fun H locs h => ?_)
          have h : xH D A s.heap (w.set 1 (ad 1, xO 0 [fR (ad 2), fR (ad 3), fX 0, fX 0, fX 0, fX 0, fX 0, fX sight, fX 1])) H locs := h
          refine lv_aload_n B.1 B.2.1 dX11_set_34 rfl (lv_at hl 0 rfl) ?_
          refine x_getR B h kX11 0 (xset_ne (hC 0 _ rfl) (by decide)) 0 (b := ad 1) rfl m_361 (by decide) dX11_set_35 ?_
          refine lv_iload_n B.1 B.2.1 dX11_set_38 rfl (lv_at hl 2 rfl) ?_
          refine x_put B h kX0 1 (xset_eq (hC 1 _ rfl)) 8 (Nat.le_of_ble_eq_true rfl) (P' := fX err) m_158 (by decide) rfl rfl rfl rfl dX11_set_39 (fun H locs h => ?_)
          have h : xH D A s.heap (w.set 1 (ad 1, xO 0 [fR (ad 2), fR (ad 3), fX 0, fX 0, fX 0, fX 0, fX 0, fX sight, fX err])) H locs := by rw [List.set_set] at h; exact h
          refine x_iconst B dX11_set_42 ?_
          refine x_rz B hQ h (by decide) (by decide) dX11_set_43 ?_
          exact Or.inl ⟨rfl, by omega⟩
        · exact absurd c4 (by omega)
      · show W p l e r_c_X11_set s m args below meth c H locs 0 0 Qf (F0 m 14 ls [.int (iI 0)])
        refine x_if_ne B (by omega) (tgt := 26) dX11_set_14 (by decide) (fun c5 => ?_) (fun c5 => ?_)
        · exact absurd c5 (by omega)
        · refine lv_aload_n B.1 B.2.1 dX11_set_17 rfl (lv_at hl 0 rfl) ?_
          refine x_iconst B dX11_set_18 ?_
          refine x_iconst B dX11_set_19 ?_
          refine x_cV B h kX11 0 (hC 0 _ rfl) k_X11_refuse rfl (c_X11_refuse l D ca _ ad hC 0 ((-1))  (by omega) (by omega)) m_423 rfl (by decide) hl.1 [] (Nat.le_of_ble_eq_true rfl) rfl dX11_set_20 (fun r w1 hq H locs h => ?_)
          obtain ⟨z6, rfl, hz6⟩ := hq
          show W p l e r_c_X11_set s m args below meth c H locs 0 0 Qf (F0 m 23 ls [.int (iI z6)])
          refine lv_pop B.1 B.2.1 dX11_set_23 rfl ?_
          refine x_iconst B dX11_set_24 ?_
          refine x_rz B hQ h (by decide) (by decide) dX11_set_25 ?_
          exact Or.inr ⟨rfl, by omega⟩
  · show W p l e r_c_X11_set s m args below meth c H locs 0 0 Qf (F0 m 6 ls [.int (iI 0)])
    refine x_if_eq B (by omega) (tgt := 17) dX11_set_6 (by decide) (fun c7 => ?_) (fun c7 => ?_)
    · refine lv_aload_n B.1 B.2.1 dX11_set_17 rfl (lv_at hl 0 rfl) ?_
      refine x_iconst B dX11_set_18 ?_
      refine x_iconst B dX11_set_19 ?_
      refine x_cV B h kX11 0 (hC 0 _ rfl) k_X11_refuse rfl (c_X11_refuse l D ca _ ad hC 0 ((-1))  (by omega) (by omega)) m_423 rfl (by decide) hl.1 [] (Nat.le_of_ble_eq_true rfl) rfl dX11_set_20 (fun r w1 hq H locs h => ?_)
      obtain ⟨z8, rfl, hz8⟩ := hq
      show W p l e r_c_X11_set s m args below meth c H locs 0 0 Qf (F0 m 23 ls [.int (iI z8)])
      refine lv_pop B.1 B.2.1 dX11_set_23 rfl ?_
      refine x_iconst B dX11_set_24 ?_
      refine x_rz B hQ h (by decide) (by decide) dX11_set_25 ?_
      exact Or.inr ⟨rfl, by omega⟩
    · exact absurd c7 (by omega)
abbrev r_c_X11_read : Room := { frames := 2, cells := 0, slots := 0, locals := 42 }
set_option maxHeartbeats 4000000 in
set_option maxRecDepth 100000 in
theorem c_X11_read (l : Launch) (D : va_G) (ca : Nat → ClassId) (w : xW) (ad : Nat → Nat) (hC : C0 ca ad w) (ship : Int) (watch : Int) (spot : Int) (kind : Int) (number : Int)  (hship : xr ship) (hwatch : xr watch) (hspot : xr spot) (hkind : xr kind) (hnumber : xr number) : xC l D ca yX11_read cX11_read 7 (some .int) r_c_X11_read [.ref (ad 0), .int (iI ship), .int (iI watch), .int (iI spot), .int (iI kind), .int (iI number)] w (qIa (fun z => z = -1)) := by
  refine xC.of2 "WindWords" (by decide) rfl (Nat.le_of_ble_eq_true rfl) ?_
  intro p e s m args below meth c A ls Qf B hnm h hl hQ
  have hl : lv_has ls 7 [(0, .ref (ad 0)), (1, .int (iI ship)), (2, .int (iI watch)), (3, .int (iI spot)), (4, .int (iI kind)), (5, .int (iI number))] := hl
  refine lv_aload_n B.1 B.2.1 dX11_read_0 rfl (lv_at hl 0 rfl) ?_
  refine x_getR B h kX11 0 (hC 0 _ rfl) 0 (b := ad 1) rfl m_361 (by decide) dX11_read_1 ?_
  refine lv_iload_n B.1 B.2.1 dX11_read_4 rfl (lv_at hl 1 rfl) ?_
  refine x_cV B h kX0 1 (hC 1 _ rfl) k_X0_shipAt rfl (c_X0_shipAt l D ca _ ad hC ship  (by omega)) m_481 rfl (by decide) hl.1 [] (Nat.le_of_ble_eq_true rfl) rfl dX11_read_5 (fun r w1 hq H locs h => ?_)
  obtain ⟨rfl, _, rfl, rfl⟩ := hq
  show W p l e r_c_X11_read s m args below meth c H locs 0 0 Qf (F0 m 8 ls [.null])
  refine lv_astoreN (lv' := [(6, .null), (0, .ref (ad 0)), (1, .int (iI ship)), (2, .int (iI watch)), (3, .int (iI spot)), (4, .int (iI kind)), (5, .int (iI number))]) B.1 B.2.1 dX11_read_8 hl (by decide) rfl (fun ls hl => ?_)
  refine lv_aloadN B.1 B.2.1 dX11_read_10 (lv_at hl 0 rfl) ?_
  refine lv_ifnullN (tgt := 74) B.1 B.2.1 dX11_read_12 (by decide) ?_
  refine lv_aload_n B.1 B.2.1 dX11_read_74 rfl (lv_at hl 1 rfl) ?_
  refine x_iconst B dX11_read_75 ?_
  refine x_iconst B dX11_read_76 ?_
  refine x_cV B h kX11 0 (hC 0 _ rfl) k_X11_refuse rfl (c_X11_refuse l D ca _ ad hC 0 ((-1))  (by omega) (by omega)) m_423 rfl (by decide) hl.1 [] (Nat.le_of_ble_eq_true rfl) rfl dX11_read_77 (fun r w1 hq H locs h => ?_)
  obtain ⟨z1, rfl, hz1⟩ := hq
  show W p l e r_c_X11_read s m args below meth c H locs 0 0 Qf (F0 m 80 ls [.int (iI z1)])
  refine x_ri B hQ h (by decide) dX11_read_80 ?_
  exact ⟨_, rfl, by omega⟩
