def cM0 (ca : Nat → ClassId) (am : Nat → Nat) : xW := [(am 0, xO 12 [fR (am 1), fX 0, fX 0, fX 0, fX 0, fX 1, fX 1, fR (am 2), fR (am 3), fR (am 4), fR (am 5), fR (am 6), fR (am 7), fR (am 8), fR (am 9), fR (am 10), fR (am 11), fR (am 12), fR (am 13), fR (am 14), fR (am 15), fR (am 16), fR (am 17), fX 0, fR (am 18), fR (am 19), fR (am 20), fR (am 21), fR (am 22), fR (am 23), fR (am 24), fR (am 25), fX 0, fX (-1), fG 0 0, fG 0 0, fG 0 0, fG 0 0, fG 0 0, fG 0 0, fG 0 0, fG 0 0, fL, fX 0, fR (am 26), fX 0, fX 0, fR (am 27), fR (am 28), fR (am 29), fR (am 30), fR (am 31), fX 0, fX 0, fX 0, fX 0, fR (am 32), fX 0, fX 0, fX 0, fX 0, fR (am 33), fR (am 34), fR (am 35), fX 0, fX 0, fR (am 36), fR (am 37), fR (am 38), fX (-1), fX 0, fX 0, fX 0, fR (am 39), fX 0, fR (am 40), fR (am 41), fR (am 42), fR (am 43), fR (am 44)]),
  (am 1, xAI (ca 0) 3 (gX 3 (fun _ => 0))),
  (am 2, xAI (ca 2) 16 gA),
  (am 3, xAI (ca 0) 12 gA),
  (am 4, xAI (ca 0) 12 gA),
  (am 5, xAI (ca 0) 12 gA),
  (am 6, xAI (ca 0) 60 gA),
  (am 7, xAI (ca 0) 60 gA),
  (am 8, xAI (ca 0) 60 gA),
  (am 9, xAI (ca 0) 300 gA),
  (am 10, xAI (ca 0) 300 gA),
  (am 11, xAI (ca 0) 300 gA),
  (am 12, xAI (ca 0) 300 gA),
  (am 13, xAI (ca 0) 300 gA),
  (am 14, xAI (ca 0) 300 gA),
  (am 15, xAI (ca 0) 300 gA),
  (am 16, xAI (ca 0) 25 gA),
  (am 17, xAI (ca 0) 8 gA),
  (am 18, xAI (ca 0) 1000 gA),
  (am 19, xAI (ca 0) 1000 gA),
  (am 20, xAI (ca 0) 1000 gA),
  (am 21, xAI (ca 0) 1000 gA),
  (am 22, xAI (ca 0) 1000 gA),
  (am 23, xAI (ca 0) 8000 gA),
  (am 24, xAI (ca 0) 8000 gA),
  (am 25, xAI (ca 3) 900 gA),
  (am 26, xAI (ca 0) 48 gA),
  (am 27, xAI (ca 0) 4 gA),
  (am 28, xAI (ca 2) 48 gA),
  (am 29, xAI (ca 0) 13 gA),
  (am 30, xAI (ca 0) 13 gA),
  (am 31, xAI (ca 0) 13 gA),
  (am 32, xAI (ca 0) 289 (gG 289 0 100000)),
  (am 33, xAL (ca 1) 50 (fun _ => True)),
  (am 34, xAL (ca 1) 50 (fun _ => True)),
  (am 35, xAI (ca 0) 10 gA),
  (am 36, xAI (ca 0) 12 gA),
  (am 37, xAI (ca 2) 12 gA),
  (am 38, xAI (ca 0) 300 gA),
  (am 39, xAI (ca 2) 3840 gA),
  (am 40, xAI (ca 0) 4 gA),
  (am 41, xAI (ca 0) 4 gA),
  (am 42, xAI (ca 0) 4 gA),
  (am 43, xAI (ca 0) 4 gA),
  (am 44, xAI (ca 2) 64 gA)]
theorem k_X12_within : xMS yX12_within cX12_within 3 (some .boolean) 3 := ⟨m_1517, m_1516, m_104, ⟨by decide +kernel, by decide +kernel, by decide +kernel⟩⟩
theorem k_X12_isOfficer : xMV yX12_isOfficer cX12_isOfficer 2 (some .boolean) 1 := ⟨m_1521, m_1520, m_39, m_104, ⟨by decide +kernel, by decide +kernel, by decide +kernel⟩⟩
theorem k_X12_refuse : xMV yX12_refuse cX12_refuse 2 (some .int) 1 := ⟨m_1510, m_1509, m_38, m_104, ⟨by decide +kernel, by decide +kernel, by decide +kernel⟩⟩
theorem k_X12_isShip : xMV yX12_isShip cX12_isShip 2 (some .boolean) 1 := ⟨m_1529, m_1528, m_40, m_104, ⟨by decide +kernel, by decide +kernel, by decide +kernel⟩⟩
theorem k_X12_here : xMV yX12_here cX12_here 1 (some .int) 0 := ⟨m_1565, m_1564, m_44, m_104, ⟨by decide +kernel, by decide +kernel, by decide +kernel⟩⟩
theorem k_X12_next : xMV yX12_next cX12_next 2 none 0 := ⟨m_1561, m_1560, m_43, m_104, ⟨by decide +kernel, by decide +kernel, by decide +kernel⟩⟩
theorem k_X12_reads : xMV yX12_reads cX12_reads 4 (some .boolean) 3 := ⟨m_1557, m_1556, m_42, m_104, ⟨by decide +kernel, by decide +kernel, by decide +kernel⟩⟩
abbrev r_c_X12_within : Room := { frames := 0, cells := 0, slots := 0, locals := 0 }
set_option maxHeartbeats 4000000 in
set_option maxRecDepth 100000 in
theorem c_X12_within (l : Launch) (D : va_G) (ca : Nat → ClassId) (w : xW) (v : Int) (lo : Int) (hi : Int)  (hv : xr v) (hlo : xr lo) (hhi : xr hi) : xC l D ca yX12_within cX12_within 3 (some .boolean) r_c_X12_within [.int (iI v), .int (iI lo), .int (iI hi)] w (qZ w (lo ≤ v ∧ v ≤ hi)) := by
  refine xC.of2 "WindWordsModel" (by decide) rfl (Nat.le_of_ble_eq_true rfl) ?_
  intro p e s m args below meth c A ls Qf B hnm h hl hQ
  have hl : lv_has ls 3 [(0, .int (iI v)), (1, .int (iI lo)), (2, .int (iI hi))] := hl
  refine lv_iload_n B.1 B.2.1 dX12_within_0 rfl (lv_at hl 0 rfl) ?_
  refine lv_iload_n B.1 B.2.1 dX12_within_1 rfl (lv_at hl 1 rfl) ?_
  refine x_icmp_lt B (by omega) (tgt := 14) dX12_within_2 (by decide) (fun c1 => ?_) (fun c1 => ?_)
  · refine x_iconst B dX12_within_14 ?_
    refine x_rz B hQ h (by decide) (by decide) dX12_within_15 ?_
    exact ⟨rfl, Or.inr ⟨rfl, by omega⟩⟩
  · refine lv_iload_n B.1 B.2.1 dX12_within_5 rfl (lv_at hl 0 rfl) ?_
    refine lv_iload_n B.1 B.2.1 dX12_within_6 rfl (lv_at hl 2 rfl) ?_
    refine x_icmp_gt B (by omega) (tgt := 14) dX12_within_7 (by decide) (fun c2 => ?_) (fun c2 => ?_)
    · refine x_iconst B dX12_within_14 ?_
      refine x_rz B hQ h (by decide) (by decide) dX12_within_15 ?_
      exact ⟨rfl, Or.inr ⟨rfl, by omega⟩⟩
    · refine x_iconst B dX12_within_10 ?_
      refine lv_goto (tgt := 15) B.1 B.2.1 dX12_within_11 (by decide) ?_
      refine x_rz B hQ h (by decide) (by decide) dX12_within_15 ?_
      exact ⟨rfl, Or.inl ⟨rfl, by omega⟩⟩
abbrev r_c_X12_abs : Room := { frames := 0, cells := 0, slots := 0, locals := 0 }
set_option maxHeartbeats 4000000 in
set_option maxRecDepth 100000 in
theorem c_X12_abs (l : Launch) (D : va_G) (ca : Nat → ClassId) (w : xW) (a : Int)  (ha : -1000 ≤ a ∧ a ≤ 1000) : xC l D ca yX12_abs cX12_abs 1 (some .int) r_c_X12_abs [.int (iI a)] w (qI w (fun z => z = max a (-a))) := by
  refine xC.of2 "WindWordsModel" (by decide) rfl (Nat.le_of_ble_eq_true rfl) ?_
  intro p e s m args below meth c A ls Qf B hnm h hl hQ
  have hl : lv_has ls 1 [(0, .int (iI a))] := hl
  refine lv_iload_n B.1 B.2.1 dX12_abs_0 rfl (lv_at hl 0 rfl) ?_
  refine x_if_ge B (by omega) (tgt := 9) dX12_abs_1 (by decide) (fun c1 => ?_) (fun c1 => ?_)
  · refine lv_iload_n B.1 B.2.1 dX12_abs_9 rfl (lv_at hl 0 rfl) ?_
    refine x_ri B hQ h (by decide) dX12_abs_10 ?_
    exact ⟨rfl, _, rfl, by omega⟩
  · refine lv_iload_n B.1 B.2.1 dX12_abs_4 rfl (lv_at hl 0 rfl) ?_
    refine x_ineg B dX12_abs_5 ?_
    refine lv_goto (tgt := 10) B.1 B.2.1 dX12_abs_6 (by decide) ?_
    refine x_ri B hQ h (by decide) dX12_abs_10 ?_
    exact ⟨rfl, _, rfl, by omega⟩
abbrev r_c_X12_refuse : Room := { frames := 0, cells := 0, slots := 0, locals := 0 }
set_option maxHeartbeats 4000000 in
set_option maxRecDepth 100000 in
theorem c_X12_refuse (l : Launch) (D : va_G) (ca : Nat → ClassId) (w : xW) (why : Int) (am : Nat → Nat) (f0 : w[0]? = some (am 0, xO 12 [fR (am 1), fX 0, fX 0, fX 0, fX 0, fX 1, fX 1, fR (am 2), fR (am 3), fR (am 4), fR (am 5), fR (am 6), fR (am 7), fR (am 8), fR (am 9), fR (am 10), fR (am 11), fR (am 12), fR (am 13), fR (am 14), fR (am 15), fR (am 16), fR (am 17), fX 0, fR (am 18), fR (am 19), fR (am 20), fR (am 21), fR (am 22), fR (am 23), fR (am 24), fR (am 25), fX 0, fX (-1), fG 0 0, fG 0 0, fG 0 0, fG 0 0, fG 0 0, fG 0 0, fG 0 0, fG 0 0, fL, fX 0, fR (am 26), fX 0, fX 0, fR (am 27), fR (am 28), fR (am 29), fR (am 30), fR (am 31), fX 0, fX 0, fX 0, fX 0, fR (am 32), fX 0, fX 0, fX 0, fX 0, fR (am 33), fR (am 34), fR (am 35), fX 0, fX 0, fR (am 36), fR (am 37), fR (am 38), fX (-1), fX 0, fX 0, fX 0, fR (am 39), fX 0, fR (am 40), fR (am 41), fR (am 42), fR (am 43), fR (am 44)])) (f1 : w[1]? = some (am 1, xAI (ca 0) 3 (gX 3 (fun _ => 0)))) (hr : 0 ≤ why ∧ why ≤ 2) : xC l D ca yX12_refuse cX12_refuse 2 (some .int) r_c_X12_refuse [.ref (am 0), .int (iI why)] w (qIa (fun z => z = -1)) := by
  refine xC.of2 "WindWordsModel" (by decide) rfl (Nat.le_of_ble_eq_true rfl) ?_
  intro p e s m args below meth c A ls Qf B hnm h hl hQ
  have hl : lv_has ls 2 [(0, .ref (am 0)), (1, .int (iI why))] := hl
  refine lv_aload_n B.1 B.2.1 dX12_refuse_0 rfl (lv_at hl 0 rfl) ?_
  refine x_getR B h kX12 0 f0 0 (b := am 1) rfl m_1261 (by decide) dX12_refuse_1 ?_
  refine lv_iload_n B.1 B.2.1 dX12_refuse_4 rfl (lv_at hl 1 rfl) ?_
  refine lv_dup2_11 B.1 B.2.1 dX12_refuse_5 rfl rfl ?_
  refine x_ialdX B h 1 f1 (by omega) dX12_refuse_6 ?_
  refine x_iconst B dX12_refuse_7 ?_
  refine x_iadd B dX12_refuse_8 ?_
  refine x_iast B h 1 f1 (by omega) (P' := gX 3 (iu (fun _ => 0) why (((fun _ => 0) (why).toNat) + 1))) (gX_upd (by omega)) dX12_refuse_9 (fun H locs h => ?_)
  have h : xH D A s.heap (w.set 1 (am 1, xAI (ca 0) 3 (gX 3 (iu (fun _ => 0) why (((fun _ => 0) (why).toNat) + 1))))) H locs := h
  refine x_iconst B dX12_refuse_10 ?_
  refine x_ri B hQ h (by decide) dX12_refuse_11 ?_
  exact ⟨_, rfl, by omega⟩
abbrev r_c_X12_isOfficer : Room := { frames := 0, cells := 0, slots := 0, locals := 0 }
set_option maxHeartbeats 4000000 in
set_option maxRecDepth 100000 in
theorem c_X12_isOfficer (l : Launch) (D : va_G) (ca : Nat → ClassId) (w : xW) (o : Int) (am : Nat → Nat) (f0 : w[0]? = some (am 0, xO 12 [fR (am 1), fX 0, fX 0, fX 0, fX 0, fX 1, fX 1, fR (am 2), fR (am 3), fR (am 4), fR (am 5), fR (am 6), fR (am 7), fR (am 8), fR (am 9), fR (am 10), fR (am 11), fR (am 12), fR (am 13), fR (am 14), fR (am 15), fR (am 16), fR (am 17), fX 0, fR (am 18), fR (am 19), fR (am 20), fR (am 21), fR (am 22), fR (am 23), fR (am 24), fR (am 25), fX 0, fX (-1), fG 0 0, fG 0 0, fG 0 0, fG 0 0, fG 0 0, fG 0 0, fG 0 0, fG 0 0, fL, fX 0, fR (am 26), fX 0, fX 0, fR (am 27), fR (am 28), fR (am 29), fR (am 30), fR (am 31), fX 0, fX 0, fX 0, fX 0, fR (am 32), fX 0, fX 0, fX 0, fX 0, fR (am 33), fR (am 34), fR (am 35), fX 0, fX 0, fR (am 36), fR (am 37), fR (am 38), fX (-1), fX 0, fX 0, fX 0, fR (am 39), fX 0, fR (am 40), fR (am 41), fR (am 42), fR (am 43), fR (am 44)])) (ho : xr o) : xC l D ca yX12_isOfficer cX12_isOfficer 2 (some .boolean) r_c_X12_isOfficer [.ref (am 0), .int (iI o)] w (qZ w (False)) := by
  refine xC.of2 "WindWordsModel" (by decide) rfl (Nat.le_of_ble_eq_true rfl) ?_
  intro p e s m args below meth c A ls Qf B hnm h hl hQ
  have hl : lv_has ls 2 [(0, .ref (am 0)), (1, .int (iI o))] := hl
  refine lv_iload_n B.1 B.2.1 dX12_isOfficer_0 rfl (lv_at hl 1 rfl) ?_
  refine x_if_lt B (by omega) (tgt := 16) dX12_isOfficer_1 (by decide) (fun c1 => ?_) (fun c1 => ?_)
  · refine x_iconst B dX12_isOfficer_16 ?_
    refine x_rz B hQ h (by decide) (by decide) dX12_isOfficer_17 ?_
    exact ⟨rfl, Or.inr ⟨rfl, fun q => q⟩⟩
  · refine lv_iload_n B.1 B.2.1 dX12_isOfficer_4 rfl (lv_at hl 1 rfl) ?_
    refine lv_aload_n B.1 B.2.1 dX12_isOfficer_5 rfl (lv_at hl 0 rfl) ?_
    refine x_getX B h kX12 0 f0 1 (z := 0) rfl m_1262 (by decide) dX12_isOfficer_6 ?_
    refine x_icmp_ge B (by omega) (tgt := 16) dX12_isOfficer_9 (by decide) (fun c2 => ?_) (fun c2 => ?_)
    · refine x_iconst B dX12_isOfficer_16 ?_
      refine x_rz B hQ h (by decide) (by decide) dX12_isOfficer_17 ?_
      exact ⟨rfl, Or.inr ⟨rfl, fun q => q⟩⟩
    · refine x_iconst B dX12_isOfficer_12 ?_
      refine lv_goto (tgt := 17) B.1 B.2.1 dX12_isOfficer_13 (by decide) ?_
      refine x_rz B hQ h (by decide) (by decide) dX12_isOfficer_17 ?_
      exact ⟨rfl, Or.inl ⟨rfl, by omega⟩⟩
abbrev r_c_X12_isShip : Room := { frames := 0, cells := 0, slots := 0, locals := 0 }
set_option maxHeartbeats 4000000 in
set_option maxRecDepth 100000 in
theorem c_X12_isShip (l : Launch) (D : va_G) (ca : Nat → ClassId) (w : xW) (k : Int) (am : Nat → Nat) (f0 : w[0]? = some (am 0, xO 12 [fR (am 1), fX 0, fX 0, fX 0, fX 0, fX 1, fX 1, fR (am 2), fR (am 3), fR (am 4), fR (am 5), fR (am 6), fR (am 7), fR (am 8), fR (am 9), fR (am 10), fR (am 11), fR (am 12), fR (am 13), fR (am 14), fR (am 15), fR (am 16), fR (am 17), fX 0, fR (am 18), fR (am 19), fR (am 20), fR (am 21), fR (am 22), fR (am 23), fR (am 24), fR (am 25), fX 0, fX (-1), fG 0 0, fG 0 0, fG 0 0, fG 0 0, fG 0 0, fG 0 0, fG 0 0, fG 0 0, fL, fX 0, fR (am 26), fX 0, fX 0, fR (am 27), fR (am 28), fR (am 29), fR (am 30), fR (am 31), fX 0, fX 0, fX 0, fX 0, fR (am 32), fX 0, fX 0, fX 0, fX 0, fR (am 33), fR (am 34), fR (am 35), fX 0, fX 0, fR (am 36), fR (am 37), fR (am 38), fX (-1), fX 0, fX 0, fX 0, fR (am 39), fX 0, fR (am 40), fR (am 41), fR (am 42), fR (am 43), fR (am 44)])) (hk : xr k) : xC l D ca yX12_isShip cX12_isShip 2 (some .boolean) r_c_X12_isShip [.ref (am 0), .int (iI k)] w (qZ w (False)) := by
  refine xC.of2 "WindWordsModel" (by decide) rfl (Nat.le_of_ble_eq_true rfl) ?_
  intro p e s m args below meth c A ls Qf B hnm h hl hQ
  have hl : lv_has ls 2 [(0, .ref (am 0)), (1, .int (iI k))] := hl
  refine lv_iload_n B.1 B.2.1 dX12_isShip_0 rfl (lv_at hl 1 rfl) ?_
  refine x_if_lt B (by omega) (tgt := 16) dX12_isShip_1 (by decide) (fun c1 => ?_) (fun c1 => ?_)
  · refine x_iconst B dX12_isShip_16 ?_
    refine x_rz B hQ h (by decide) (by decide) dX12_isShip_17 ?_
    exact ⟨rfl, Or.inr ⟨rfl, fun q => q⟩⟩
  · refine lv_iload_n B.1 B.2.1 dX12_isShip_4 rfl (lv_at hl 1 rfl) ?_
    refine lv_aload_n B.1 B.2.1 dX12_isShip_5 rfl (lv_at hl 0 rfl) ?_
    refine x_getX B h kX12 0 f0 2 (z := 0) rfl m_1263 (by decide) dX12_isShip_6 ?_
    refine x_icmp_ge B (by omega) (tgt := 16) dX12_isShip_9 (by decide) (fun c2 => ?_) (fun c2 => ?_)
    · refine x_iconst B dX12_isShip_16 ?_
      refine x_rz B hQ h (by decide) (by decide) dX12_isShip_17 ?_
      exact ⟨rfl, Or.inr ⟨rfl, fun q => q⟩⟩
    · refine x_iconst B dX12_isShip_12 ?_
      refine lv_goto (tgt := 17) B.1 B.2.1 dX12_isShip_13 (by decide) ?_
      refine x_rz B hQ h (by decide) (by decide) dX12_isShip_17 ?_
      exact ⟨rfl, Or.inl ⟨rfl, by omega⟩⟩
abbrev r_c_X12_officer : Room := { frames := 0, cells := 0, slots := 0, locals := 0 }
set_option maxHeartbeats 4000000 in
set_option maxRecDepth 100000 in
theorem c_X12_officer (l : Launch) (D : va_G) (ca : Nat → ClassId) (w : xW) (am : Nat → Nat) (f0 : w[0]? = some (am 0, xO 12 [fR (am 1), fX 0, fX 0, fX 0, fX 0, fX 1, fX 1, fR (am 2), fR (am 3), fR (am 4), fR (am 5), fR (am 6), fR (am 7), fR (am 8), fR (am 9), fR (am 10), fR (am 11), fR (am 12), fR (am 13), fR (am 14), fR (am 15), fR (am 16), fR (am 17), fX 0, fR (am 18), fR (am 19), fR (am 20), fR (am 21), fR (am 22), fR (am 23), fR (am 24), fR (am 25), fX 0, fX (-1), fG 0 0, fG 0 0, fG 0 0, fG 0 0, fG 0 0, fG 0 0, fG 0 0, fG 0 0, fL, fX 0, fR (am 26), fX 0, fX 0, fR (am 27), fR (am 28), fR (am 29), fR (am 30), fR (am 31), fX 0, fX 0, fX 0, fX 0, fR (am 32), fX 0, fX 0, fX 0, fX 0, fR (am 33), fR (am 34), fR (am 35), fX 0, fX 0, fR (am 36), fR (am 37), fR (am 38), fX (-1), fX 0, fX 0, fX 0, fR (am 39), fX 0, fR (am 40), fR (am 41), fR (am 42), fR (am 43), fR (am 44)])) (f2 : w[2]? = some (am 2, xAI (ca 2) 16 gA)) (f1 : w[1]? = some (am 1, xAI (ca 0) 3 (gX 3 (fun _ => 0))))  : xC l D ca yX12_officer cX12_officer 1 (some .int) r_c_X12_officer [.ref (am 0)] w (qIa (fun z => z = 0)) := by
  refine xC.of2 "WindWordsModel" (by decide) rfl (Nat.le_of_ble_eq_true rfl) ?_
  intro p e s m args below meth c A ls Qf B hnm h hl hQ
  have hl : lv_has ls 1 [(0, .ref (am 0))] := hl
  refine lv_aload_n B.1 B.2.1 dX12_officer_0 rfl (lv_at hl 0 rfl) ?_
  refine x_getX B h kX12 0 f0 1 (z := 0) rfl m_1262 (by decide) dX12_officer_1 ?_
  refine x_bipush B (by decide) dX12_officer_4 ?_
  refine x_icmp_ne B (by omega) (tgt := 15) dX12_officer_6 (by decide) (fun c1 => ?_) (fun c1 => ?_)
  · refine lv_aload_n B.1 B.2.1 dX12_officer_15 rfl (lv_at hl 0 rfl) ?_
    refine x_getR B h kX12 0 f0 7 (b := am 2) rfl m_1268 (by decide) dX12_officer_16 ?_
    refine lv_aload_n B.1 B.2.1 dX12_officer_19 rfl (lv_at hl 0 rfl) ?_
    refine x_getX B h kX12 0 f0 1 (z := 0) rfl m_1262 (by decide) dX12_officer_20 ?_
    refine x_iconst B dX12_officer_23 ?_
    refine x_zastS B h 2 f2 (by omega) (fun _ _ => trivial) dX12_officer_24 (fun H locs h => ?_)
    refine lv_aload_n B.1 B.2.1 dX12_officer_25 rfl (lv_at hl 0 rfl) ?_
    refine lv_dup B.1 B.2.1 dX12_officer_26 rfl ?_
    refine x_getX B h kX12 0 f0 1 (z := 0) rfl m_1262 (by decide) dX12_officer_27 ?_
    refine x_iconst B dX12_officer_30 ?_
    refine x_iadd B dX12_officer_31 ?_
    refine x_put B h kX12 0 f0 1 (Nat.le_of_ble_eq_true rfl) (P' := fX (0 + 1)) m_1262 (by decide) rfl rfl rfl rfl dX12_officer_32 (fun H locs h => ?_)
    have h : xH D A s.heap (w.set 0 (am 0, xO 12 [fR (am 1), fX (0 + 1), fX 0, fX 0, fX 0, fX 1, fX 1, fR (am 2), fR (am 3), fR (am 4), fR (am 5), fR (am 6), fR (am 7), fR (am 8), fR (am 9), fR (am 10), fR (am 11), fR (am 12), fR (am 13), fR (am 14), fR (am 15), fR (am 16), fR (am 17), fX 0, fR (am 18), fR (am 19), fR (am 20), fR (am 21), fR (am 22), fR (am 23), fR (am 24), fR (am 25), fX 0, fX (-1), fG 0 0, fG 0 0, fG 0 0, fG 0 0, fG 0 0, fG 0 0, fG 0 0, fG 0 0, fL, fX 0, fR (am 26), fX 0, fX 0, fR (am 27), fR (am 28), fR (am 29), fR (am 30), fR (am 31), fX 0, fX 0, fX 0, fX 0, fR (am 32), fX 0, fX 0, fX 0, fX 0, fR (am 33), fR (am 34), fR (am 35), fX 0, fX 0, fR (am 36), fR (am 37), fR (am 38), fX (-1), fX 0, fX 0, fX 0, fR (am 39), fX 0, fR (am 40), fR (am 41), fR (am 42), fR (am 43), fR (am 44)])) H locs := h
    refine lv_aload_n B.1 B.2.1 dX12_officer_35 rfl (lv_at hl 0 rfl) ?_
    refine x_getX B h kX12 0 (xset_eq f0) 1 (z := (0 + 1)) rfl m_1262 (by decide) dX12_officer_36 ?_
    refine x_iconst B dX12_officer_39 ?_
    refine x_isub B dX12_officer_40 ?_
    refine x_ri B hQ h (by decide) dX12_officer_41 ?_
    exact ⟨_, rfl, by omega⟩
  · exact absurd c1 (by omega)
abbrev r_c_X12_ship : Room := { frames := 1, cells := 0, slots := 0, locals := 22 }
set_option maxHeartbeats 4000000 in
set_option maxRecDepth 100000 in
theorem c_X12_ship (l : Launch) (D : va_G) (ca : Nat → ClassId) (w : xW) (rigged : Int) (o : Int) (am : Nat → Nat) (f0 : w[0]? = some (am 0, xO 12 [fR (am 1), fX 0, fX 0, fX 0, fX 0, fX 1, fX 1, fR (am 2), fR (am 3), fR (am 4), fR (am 5), fR (am 6), fR (am 7), fR (am 8), fR (am 9), fR (am 10), fR (am 11), fR (am 12), fR (am 13), fR (am 14), fR (am 15), fR (am 16), fR (am 17), fX 0, fR (am 18), fR (am 19), fR (am 20), fR (am 21), fR (am 22), fR (am 23), fR (am 24), fR (am 25), fX 0, fX (-1), fG 0 0, fG 0 0, fG 0 0, fG 0 0, fG 0 0, fG 0 0, fG 0 0, fG 0 0, fL, fX 0, fR (am 26), fX 0, fX 0, fR (am 27), fR (am 28), fR (am 29), fR (am 30), fR (am 31), fX 0, fX 0, fX 0, fX 0, fR (am 32), fX 0, fX 0, fX 0, fX 0, fR (am 33), fR (am 34), fR (am 35), fX 0, fX 0, fR (am 36), fR (am 37), fR (am 38), fX (-1), fX 0, fX 0, fX 0, fR (am 39), fX 0, fR (am 40), fR (am 41), fR (am 42), fR (am 43), fR (am 44)])) (f1 : w[1]? = some (am 1, xAI (ca 0) 3 (gX 3 (fun _ => 0)))) (hrigged : xr rigged) (ho : xr o) : xC l D ca yX12_ship cX12_ship 3 (some .int) r_c_X12_ship [.ref (am 0), .int (iI rigged), .int (iI o)] w (qIa (fun z => z = -1)) := by
  refine xC.of2 "WindWordsModel" (by decide) rfl (Nat.le_of_ble_eq_true rfl) ?_
  intro p e s m args below meth c A ls Qf B hnm h hl hQ
  have hl : lv_has ls 3 [(0, .ref (am 0)), (1, .int (iI rigged)), (2, .int (iI o))] := hl
  refine lv_iload_n B.1 B.2.1 dX12_ship_0 rfl (lv_at hl 1 rfl) ?_
  refine x_iconst B dX12_ship_1 ?_
  refine x_iconst B dX12_ship_2 ?_
  refine x_cS B h k_X12_within (c_X12_within l D ca _ rigged 0 3  (by omega) (by omega) (by omega)) m_1515 rfl (by decide) hl.1 [] (Nat.le_of_ble_eq_true rfl) rfl dX12_ship_3 (fun r w1 hq H locs h => ?_)
  obtain ⟨rfl, ⟨rfl, b1⟩ | ⟨rfl, b1⟩⟩ := hq
  · show W p l e r_c_X12_ship s m args below meth c H locs 0 0 Qf (F0 m 6 ls [.int (iI 1)])
    refine x_if_eq B (by omega) (tgt := 17) dX12_ship_6 (by decide) (fun c2 => ?_) (fun c2 => ?_)
    · exact absurd c2 (by omega)
    · refine lv_aload_n B.1 B.2.1 dX12_ship_9 rfl (lv_at hl 0 rfl) ?_
      refine lv_iload_n B.1 B.2.1 dX12_ship_10 rfl (lv_at hl 2 rfl) ?_
      refine x_cV B h kX12 0 f0 k_X12_isOfficer rfl (c_X12_isOfficer l D ca _ o am f0 (by omega)) m_1518 rfl (by decide) hl.1 [] (Nat.le_of_ble_eq_true rfl) rfl dX12_ship_11 (fun r w1 hq H locs h => ?_)
      obtain ⟨rfl, ⟨rfl, b3⟩ | ⟨rfl, b3⟩⟩ := hq
      · exact b3.elim
      · show W p l e r_c_X12_ship s m args below meth c H locs 0 0 Qf (F0 m 14 ls [.int (iI 0)])
        refine x_if_ne B (by omega) (tgt := 23) dX12_ship_14 (by decide) (fun c4 => ?_) (fun c4 => ?_)
        · exact absurd c4 (by omega)
        · refine lv_aload_n B.1 B.2.1 dX12_ship_17 rfl (lv_at hl 0 rfl) ?_
          refine x_iconst B dX12_ship_18 ?_
          refine x_cV B h kX12 0 f0 k_X12_refuse rfl (c_X12_refuse l D ca _ 0 am f0 f1 (by omega)) m_1507 rfl (by decide) hl.1 [] (Nat.le_of_ble_eq_true rfl) rfl dX12_ship_19 (fun r w1 hq H locs h => ?_)
          obtain ⟨z5, rfl, hz5⟩ := hq
          show W p l e r_c_X12_ship s m args below meth c H locs 0 0 Qf (F0 m 22 ls [.int (iI z5)])
          refine x_ri B hQ h (by decide) dX12_ship_22 ?_
          exact ⟨_, rfl, by omega⟩
  · show W p l e r_c_X12_ship s m args below meth c H locs 0 0 Qf (F0 m 6 ls [.int (iI 0)])
    refine x_if_eq B (by omega) (tgt := 17) dX12_ship_6 (by decide) (fun c6 => ?_) (fun c6 => ?_)
    · refine lv_aload_n B.1 B.2.1 dX12_ship_17 rfl (lv_at hl 0 rfl) ?_
      refine x_iconst B dX12_ship_18 ?_
      refine x_cV B h kX12 0 f0 k_X12_refuse rfl (c_X12_refuse l D ca _ 0 am f0 f1 (by omega)) m_1507 rfl (by decide) hl.1 [] (Nat.le_of_ble_eq_true rfl) rfl dX12_ship_19 (fun r w1 hq H locs h => ?_)
      obtain ⟨z7, rfl, hz7⟩ := hq
      show W p l e r_c_X12_ship s m args below meth c H locs 0 0 Qf (F0 m 22 ls [.int (iI z7)])
      refine x_ri B hQ h (by decide) dX12_ship_22 ?_
      exact ⟨_, rfl, by omega⟩
    · exact absurd c6 (by omega)
abbrev r_c_X12_signs : Room := { frames := 1, cells := 0, slots := 0, locals := 21 }
set_option maxHeartbeats 4000000 in
set_option maxRecDepth 100000 in
theorem c_X12_signs (l : Launch) (D : va_G) (ca : Nat → ClassId) (w : xW) (ship : Int) (o : Int) (watch : Int) (am : Nat → Nat) (f0 : w[0]? = some (am 0, xO 12 [fR (am 1), fX 0, fX 0, fX 0, fX 0, fX 1, fX 1, fR (am 2), fR (am 3), fR (am 4), fR (am 5), fR (am 6), fR (am 7), fR (am 8), fR (am 9), fR (am 10), fR (am 11), fR (am 12), fR (am 13), fR (am 14), fR (am 15), fR (am 16), fR (am 17), fX 0, fR (am 18), fR (am 19), fR (am 20), fR (am 21), fR (am 22), fR (am 23), fR (am 24), fR (am 25), fX 0, fX (-1), fG 0 0, fG 0 0, fG 0 0, fG 0 0, fG 0 0, fG 0 0, fG 0 0, fG 0 0, fL, fX 0, fR (am 26), fX 0, fX 0, fR (am 27), fR (am 28), fR (am 29), fR (am 30), fR (am 31), fX 0, fX 0, fX 0, fX 0, fR (am 32), fX 0, fX 0, fX 0, fX 0, fR (am 33), fR (am 34), fR (am 35), fX 0, fX 0, fR (am 36), fR (am 37), fR (am 38), fX (-1), fX 0, fX 0, fX 0, fR (am 39), fX 0, fR (am 40), fR (am 41), fR (am 42), fR (am 43), fR (am 44)])) (f1 : w[1]? = some (am 1, xAI (ca 0) 3 (gX 3 (fun _ => 0)))) (hship : xr ship) (ho : xr o) (hwatch : xr watch) : xC l D ca yX12_signs cX12_signs 4 (some .int) r_c_X12_signs [.ref (am 0), .int (iI ship), .int (iI o), .int (iI watch)] w (qIa (fun z => z = -1)) := by
  refine xC.of2 "WindWordsModel" (by decide) rfl (Nat.le_of_ble_eq_true rfl) ?_
  intro p e s m args below meth c A ls Qf B hnm h hl hQ
  have hl : lv_has ls 4 [(0, .ref (am 0)), (1, .int (iI ship)), (2, .int (iI o)), (3, .int (iI watch))] := hl
  refine lv_aload_n B.1 B.2.1 dX12_signs_0 rfl (lv_at hl 0 rfl) ?_
  refine lv_iload_n B.1 B.2.1 dX12_signs_1 rfl (lv_at hl 1 rfl) ?_
  refine x_cV B h kX12 0 f0 k_X12_isShip rfl (c_X12_isShip l D ca _ ship am f0 (by omega)) m_1526 rfl (by decide) hl.1 [] (Nat.le_of_ble_eq_true rfl) rfl dX12_signs_2 (fun r w1 hq H locs h => ?_)
  obtain ⟨rfl, ⟨rfl, b1⟩ | ⟨rfl, b1⟩⟩ := hq
  · exact b1.elim
  · show W p l e r_c_X12_signs s m args below meth c H locs 0 0 Qf (F0 m 5 ls [.int (iI 0)])
    refine x_if_eq B (by omega) (tgt := 33) dX12_signs_5 (by decide) (fun c2 => ?_) (fun c2 => ?_)
    · refine lv_aload_n B.1 B.2.1 dX12_signs_33 rfl (lv_at hl 0 rfl) ?_
      refine x_iconst B dX12_signs_34 ?_
      refine x_cV B h kX12 0 f0 k_X12_refuse rfl (c_X12_refuse l D ca _ 0 am f0 f1 (by omega)) m_1507 rfl (by decide) hl.1 [] (Nat.le_of_ble_eq_true rfl) rfl dX12_signs_35 (fun r w1 hq H locs h => ?_)
      obtain ⟨z3, rfl, hz3⟩ := hq
      show W p l e r_c_X12_signs s m args below meth c H locs 0 0 Qf (F0 m 38 ls [.int (iI z3)])
      refine x_ri B hQ h (by decide) dX12_signs_38 ?_
      exact ⟨_, rfl, by omega⟩
    · exact absurd c2 (by omega)
abbrev r_c_X12_trust : Room := { frames := 1, cells := 0, slots := 0, locals := 21 }
set_option maxHeartbeats 4000000 in
set_option maxRecDepth 100000 in
theorem c_X12_trust (l : Launch) (D : va_G) (ca : Nat → ClassId) (w : xW) (o : Int) (am : Nat → Nat) (b : Int32) (f0 : w[0]? = some (am 0, xO 12 [fR (am 1), fX 0, fX 0, fX 0, fX 0, fX 1, fX 1, fR (am 2), fR (am 3), fR (am 4), fR (am 5), fR (am 6), fR (am 7), fR (am 8), fR (am 9), fR (am 10), fR (am 11), fR (am 12), fR (am 13), fR (am 14), fR (am 15), fR (am 16), fR (am 17), fX 0, fR (am 18), fR (am 19), fR (am 20), fR (am 21), fR (am 22), fR (am 23), fR (am 24), fR (am 25), fX 0, fX (-1), fG 0 0, fG 0 0, fG 0 0, fG 0 0, fG 0 0, fG 0 0, fG 0 0, fG 0 0, fL, fX 0, fR (am 26), fX 0, fX 0, fR (am 27), fR (am 28), fR (am 29), fR (am 30), fR (am 31), fX 0, fX 0, fX 0, fX 0, fR (am 32), fX 0, fX 0, fX 0, fX 0, fR (am 33), fR (am 34), fR (am 35), fX 0, fX 0, fR (am 36), fR (am 37), fR (am 38), fX (-1), fX 0, fX 0, fX 0, fR (am 39), fX 0, fR (am 40), fR (am 41), fR (am 42), fR (am 43), fR (am 44)])) (f1 : w[1]? = some (am 1, xAI (ca 0) 3 (gX 3 (fun _ => 0)))) (ho : xr o) : xC l D ca yX12_trust cX12_trust 3 (some .boolean) r_c_X12_trust [.ref (am 0), .int (iI o), .int (b)] w (qZa (False)) := by
  refine xC.of2 "WindWordsModel" (by decide) rfl (Nat.le_of_ble_eq_true rfl) ?_
  intro p e s m args below meth c A ls Qf B hnm h hl hQ
  have hl : lv_has ls 3 [(0, .ref (am 0)), (1, .int (iI o)), (2, .int (b))] := hl
  refine lv_aload_n B.1 B.2.1 dX12_trust_0 rfl (lv_at hl 0 rfl) ?_
  refine lv_iload_n B.1 B.2.1 dX12_trust_1 rfl (lv_at hl 1 rfl) ?_
  refine x_cV B h kX12 0 f0 k_X12_isOfficer rfl (c_X12_isOfficer l D ca _ o am f0 (by omega)) m_1518 rfl (by decide) hl.1 [] (Nat.le_of_ble_eq_true rfl) rfl dX12_trust_2 (fun r w1 hq H locs h => ?_)
  obtain ⟨rfl, ⟨rfl, b1⟩ | ⟨rfl, b1⟩⟩ := hq
  · exact b1.elim
  · show W p l e r_c_X12_trust s m args below meth c H locs 0 0 Qf (F0 m 5 ls [.int (iI 0)])
    refine x_if_ne B (by omega) (tgt := 22) dX12_trust_5 (by decide) (fun c2 => ?_) (fun c2 => ?_)
    · exact absurd c2 (by omega)
    · refine lv_aload_n B.1 B.2.1 dX12_trust_8 rfl (lv_at hl 0 rfl) ?_
      refine x_iconst B dX12_trust_9 ?_
      refine x_cV B h kX12 0 f0 k_X12_refuse rfl (c_X12_refuse l D ca _ 0 am f0 f1 (by omega)) m_1507 rfl (by decide) hl.1 [] (Nat.le_of_ble_eq_true rfl) rfl dX12_trust_10 (fun r w1 hq H locs h => ?_)
      obtain ⟨z3, rfl, hz3⟩ := hq
      show W p l e r_c_X12_trust s m args below meth c H locs 0 0 Qf (F0 m 13 ls [.int (iI z3)])
      refine x_if_lt B (by omega) (tgt := 20) dX12_trust_13 (by decide) (fun c4 => ?_) (fun c4 => ?_)
      · refine x_iconst B dX12_trust_20 ?_
        refine x_rz B hQ h (by decide) (by decide) dX12_trust_21 ?_
        exact Or.inr ⟨rfl, fun q => q⟩
      · exact absurd c4 (by omega)
abbrev r_c_X12_set : Room := { frames := 1, cells := 0, slots := 0, locals := 22 }
set_option maxHeartbeats 4000000 in
set_option maxRecDepth 100000 in
theorem c_X12_set (l : Launch) (D : va_G) (ca : Nat → ClassId) (w : xW) (sight : Int) (err : Int) (am : Nat → Nat) (f0 : w[0]? = some (am 0, xO 12 [fR (am 1), fX 0, fX 0, fX 0, fX 0, fX 1, fX 1, fR (am 2), fR (am 3), fR (am 4), fR (am 5), fR (am 6), fR (am 7), fR (am 8), fR (am 9), fR (am 10), fR (am 11), fR (am 12), fR (am 13), fR (am 14), fR (am 15), fR (am 16), fR (am 17), fX 0, fR (am 18), fR (am 19), fR (am 20), fR (am 21), fR (am 22), fR (am 23), fR (am 24), fR (am 25), fX 0, fX (-1), fG 0 0, fG 0 0, fG 0 0, fG 0 0, fG 0 0, fG 0 0, fG 0 0, fG 0 0, fL, fX 0, fR (am 26), fX 0, fX 0, fR (am 27), fR (am 28), fR (am 29), fR (am 30), fR (am 31), fX 0, fX 0, fX 0, fX 0, fR (am 32), fX 0, fX 0, fX 0, fX 0, fR (am 33), fR (am 34), fR (am 35), fX 0, fX 0, fR (am 36), fR (am 37), fR (am 38), fX (-1), fX 0, fX 0, fX 0, fR (am 39), fX 0, fR (am 40), fR (am 41), fR (am 42), fR (am 43), fR (am 44)])) (f1 : w[1]? = some (am 1, xAI (ca 0) 3 (gX 3 (fun _ => 0)))) (hsight : xr sight) (herr : xr err) : xC l D ca yX12_set cX12_set 3 (some .boolean) r_c_X12_set [.ref (am 0), .int (iI sight), .int (iI err)] w (qZa ((0 ≤ sight ∧ sight ≤ 7) ∧ 0 ≤ err ∧ err ≤ 5)) := by
  refine xC.of2 "WindWordsModel" (by decide) rfl (Nat.le_of_ble_eq_true rfl) ?_
  intro p e s m args below meth c A ls Qf B hnm h hl hQ
  have hl : lv_has ls 3 [(0, .ref (am 0)), (1, .int (iI sight)), (2, .int (iI err))] := hl
  refine lv_iload_n B.1 B.2.1 dX12_set_0 rfl (lv_at hl 1 rfl) ?_
  refine x_iconst B dX12_set_1 ?_
  refine x_bipush B (by decide) dX12_set_2 ?_
  refine x_cS B h k_X12_within (c_X12_within l D ca _ sight 0 7  (by omega) (by omega) (by omega)) m_1515 rfl (by decide) hl.1 [] (Nat.le_of_ble_eq_true rfl) rfl dX12_set_4 (fun r w1 hq H locs h => ?_)
  obtain ⟨rfl, ⟨rfl, b1⟩ | ⟨rfl, b1⟩⟩ := hq
  · show W p l e r_c_X12_set s m args below meth c H locs 0 0 Qf (F0 m 7 ls [.int (iI 1)])
    refine x_if_eq B (by omega) (tgt := 19) dX12_set_7 (by decide) (fun c2 => ?_) (fun c2 => ?_)
    · exact absurd c2 (by omega)
    · refine lv_iload_n B.1 B.2.1 dX12_set_10 rfl (lv_at hl 2 rfl) ?_
      refine x_iconst B dX12_set_11 ?_
      refine x_iconst B dX12_set_12 ?_
      refine x_cS B h k_X12_within (c_X12_within l D ca _ err 0 5  (by omega) (by omega) (by omega)) m_1515 rfl (by decide) hl.1 [] (Nat.le_of_ble_eq_true rfl) rfl dX12_set_13 (fun r w1 hq H locs h => ?_)
      obtain ⟨rfl, ⟨rfl, b3⟩ | ⟨rfl, b3⟩⟩ := hq
      · show W p l e r_c_X12_set s m args below meth c H locs 0 0 Qf (F0 m 16 ls [.int (iI 1)])
        refine x_if_ne B (by omega) (tgt := 33) dX12_set_16 (by decide) (fun c4 => ?_) (fun c4 => ?_)
        · refine lv_aload_n B.1 B.2.1 dX12_set_33 rfl (lv_at hl 0 rfl) ?_
          refine lv_iload_n B.1 B.2.1 dX12_set_34 rfl (lv_at hl 1 rfl) ?_
          refine x_put B h kX12 0 f0 5 (Nat.le_of_ble_eq_true rfl) (P' := fX sight) m_1266 (by decide) rfl rfl rfl rfl dX12_set_35 (fun H locs h => ?_)
          have h : xH D A s.heap (w.set 0 (am 0, xO 12 [fR (am 1), fX 0, fX 0, fX 0, fX 0, fX sight, fX 1, fR (am 2), fR (am 3), fR (am 4), fR (am 5), fR (am 6), fR (am 7), fR (am 8), fR (am 9), fR (am 10), fR (am 11), fR (am 12), fR (am 13), fR (am 14), fR (am 15), fR (am 16), fR (am 17), fX 0, fR (am 18), fR (am 19), fR (am 20), fR (am 21), fR (am 22), fR (am 23), fR (am 24), fR (am 25), fX 0, fX (-1), fG 0 0, fG 0 0, fG 0 0, fG 0 0, fG 0 0, fG 0 0, fG 0 0, fG 0 0, fL, fX 0, fR (am 26), fX 0, fX 0, fR (am 27), fR (am 28), fR (am 29), fR (am 30), fR (am 31), fX 0, fX 0, fX 0, fX 0, fR (am 32), fX 0, fX 0, fX 0, fX 0, fR (am 33), fR (am 34), fR (am 35), fX 0, fX 0, fR (am 36), fR (am 37), fR (am 38), fX (-1), fX 0, fX 0, fX 0, fR (am 39), fX 0, fR (am 40), fR (am 41), fR (am 42), fR (am 43), fR (am 44)])) H locs := h
          refine lv_aload_n B.1 B.2.1 dX12_set_38 rfl (lv_at hl 0 rfl) ?_
          refine lv_iload_n B.1 B.2.1 dX12_set_39 rfl (lv_at hl 2 rfl) ?_
          refine x_put B h kX12 0 (xset_eq f0) 6 (Nat.le_of_ble_eq_true rfl) (P' := fX err) m_1267 (by decide) rfl rfl rfl rfl dX12_set_40 (fun H locs h => ?_)
          have h : xH D A s.heap (w.set 0 (am 0, xO 12 [fR (am 1), fX 0, fX 0, fX 0, fX 0, fX sight, fX err, fR (am 2), fR (am 3), fR (am 4), fR (am 5), fR (am 6), fR (am 7), fR (am 8), fR (am 9), fR (am 10), fR (am 11), fR (am 12), fR (am 13), fR (am 14), fR (am 15), fR (am 16), fR (am 17), fX 0, fR (am 18), fR (am 19), fR (am 20), fR (am 21), fR (am 22), fR (am 23), fR (am 24), fR (am 25), fX 0, fX (-1), fG 0 0, fG 0 0, fG 0 0, fG 0 0, fG 0 0, fG 0 0, fG 0 0, fG 0 0, fL, fX 0, fR (am 26), fX 0, fX 0, fR (am 27), fR (am 28), fR (am 29), fR (am 30), fR (am 31), fX 0, fX 0, fX 0, fX 0, fR (am 32), fX 0, fX 0, fX 0, fX 0, fR (am 33), fR (am 34), fR (am 35), fX 0, fX 0, fR (am 36), fR (am 37), fR (am 38), fX (-1), fX 0, fX 0, fX 0, fR (am 39), fX 0, fR (am 40), fR (am 41), fR (am 42), fR (am 43), fR (am 44)])) H locs := by rw [List.set_set] at h; exact h
          refine x_iconst B dX12_set_43 ?_
          refine x_rz B hQ h (by decide) (by decide) dX12_set_44 ?_
          exact Or.inl ⟨rfl, by omega⟩
        · exact absurd c4 (by omega)
      · show W p l e r_c_X12_set s m args below meth c H locs 0 0 Qf (F0 m 16 ls [.int (iI 0)])
        refine x_if_ne B (by omega) (tgt := 33) dX12_set_16 (by decide) (fun c5 => ?_) (fun c5 => ?_)
        · exact absurd c5 (by omega)
        · refine lv_aload_n B.1 B.2.1 dX12_set_19 rfl (lv_at hl 0 rfl) ?_
          refine x_iconst B dX12_set_20 ?_
          refine x_cV B h kX12 0 f0 k_X12_refuse rfl (c_X12_refuse l D ca _ 0 am f0 f1 (by omega)) m_1507 rfl (by decide) hl.1 [] (Nat.le_of_ble_eq_true rfl) rfl dX12_set_21 (fun r w1 hq H locs h => ?_)
          obtain ⟨z6, rfl, hz6⟩ := hq
          show W p l e r_c_X12_set s m args below meth c H locs 0 0 Qf (F0 m 24 ls [.int (iI z6)])
          refine x_if_lt B (by omega) (tgt := 31) dX12_set_24 (by decide) (fun c7 => ?_) (fun c7 => ?_)
          · refine x_iconst B dX12_set_31 ?_
            refine x_rz B hQ h (by decide) (by decide) dX12_set_32 ?_
            exact Or.inr ⟨rfl, by omega⟩
          · refine x_iconst B dX12_set_27 ?_
            refine lv_goto (tgt := 32) B.1 B.2.1 dX12_set_28 (by decide) ?_
            refine x_rz B hQ h (by decide) (by decide) dX12_set_32 ?_
            exact Or.inl ⟨rfl, by omega⟩
  · show W p l e r_c_X12_set s m args below meth c H locs 0 0 Qf (F0 m 7 ls [.int (iI 0)])
    refine x_if_eq B (by omega) (tgt := 19) dX12_set_7 (by decide) (fun c8 => ?_) (fun c8 => ?_)
    · refine lv_aload_n B.1 B.2.1 dX12_set_19 rfl (lv_at hl 0 rfl) ?_
      refine x_iconst B dX12_set_20 ?_
      refine x_cV B h kX12 0 f0 k_X12_refuse rfl (c_X12_refuse l D ca _ 0 am f0 f1 (by omega)) m_1507 rfl (by decide) hl.1 [] (Nat.le_of_ble_eq_true rfl) rfl dX12_set_21 (fun r w1 hq H locs h => ?_)
      obtain ⟨z9, rfl, hz9⟩ := hq
      show W p l e r_c_X12_set s m args below meth c H locs 0 0 Qf (F0 m 24 ls [.int (iI z9)])
      refine x_if_lt B (by omega) (tgt := 31) dX12_set_24 (by decide) (fun c10 => ?_) (fun c10 => ?_)
      · refine x_iconst B dX12_set_31 ?_
        refine x_rz B hQ h (by decide) (by decide) dX12_set_32 ?_
        exact Or.inr ⟨rfl, by omega⟩
      · refine x_iconst B dX12_set_27 ?_
        refine lv_goto (tgt := 32) B.1 B.2.1 dX12_set_28 (by decide) ?_
        refine x_rz B hQ h (by decide) (by decide) dX12_set_32 ?_
        exact Or.inl ⟨rfl, by omega⟩
    · exact absurd c8 (by omega)
abbrev r_c_X12_read : Room := { frames := 1, cells := 0, slots := 0, locals := 21 }
set_option maxHeartbeats 4000000 in
set_option maxRecDepth 100000 in
theorem c_X12_read (l : Launch) (D : va_G) (ca : Nat → ClassId) (w : xW) (ship : Int) (watch : Int) (spot : Int) (kind : Int) (number : Int) (am : Nat → Nat) (f0 : w[0]? = some (am 0, xO 12 [fR (am 1), fX 0, fX 0, fX 0, fX 0, fX 1, fX 1, fR (am 2), fR (am 3), fR (am 4), fR (am 5), fR (am 6), fR (am 7), fR (am 8), fR (am 9), fR (am 10), fR (am 11), fR (am 12), fR (am 13), fR (am 14), fR (am 15), fR (am 16), fR (am 17), fX 0, fR (am 18), fR (am 19), fR (am 20), fR (am 21), fR (am 22), fR (am 23), fR (am 24), fR (am 25), fX 0, fX (-1), fG 0 0, fG 0 0, fG 0 0, fG 0 0, fG 0 0, fG 0 0, fG 0 0, fG 0 0, fL, fX 0, fR (am 26), fX 0, fX 0, fR (am 27), fR (am 28), fR (am 29), fR (am 30), fR (am 31), fX 0, fX 0, fX 0, fX 0, fR (am 32), fX 0, fX 0, fX 0, fX 0, fR (am 33), fR (am 34), fR (am 35), fX 0, fX 0, fR (am 36), fR (am 37), fR (am 38), fX (-1), fX 0, fX 0, fX 0, fR (am 39), fX 0, fR (am 40), fR (am 41), fR (am 42), fR (am 43), fR (am 44)])) (f1 : w[1]? = some (am 1, xAI (ca 0) 3 (gX 3 (fun _ => 0)))) (hship : xr ship) (hwatch : xr watch) (hspot : xr spot) (hkind : xr kind) (hnumber : xr number) : xC l D ca yX12_read cX12_read 6 (some .int) r_c_X12_read [.ref (am 0), .int (iI ship), .int (iI watch), .int (iI spot), .int (iI kind), .int (iI number)] w (qIa (fun z => z = -1)) := by
  refine xC.of2 "WindWordsModel" (by decide) rfl (Nat.le_of_ble_eq_true rfl) ?_
  intro p e s m args below meth c A ls Qf B hnm h hl hQ
  have hl : lv_has ls 6 [(0, .ref (am 0)), (1, .int (iI ship)), (2, .int (iI watch)), (3, .int (iI spot)), (4, .int (iI kind)), (5, .int (iI number))] := hl
  refine lv_aload_n B.1 B.2.1 dX12_read_0 rfl (lv_at hl 0 rfl) ?_
  refine lv_iload_n B.1 B.2.1 dX12_read_1 rfl (lv_at hl 1 rfl) ?_
  refine x_cV B h kX12 0 f0 k_X12_isShip rfl (c_X12_isShip l D ca _ ship am f0 (by omega)) m_1526 rfl (by decide) hl.1 [] (Nat.le_of_ble_eq_true rfl) rfl dX12_read_2 (fun r w1 hq H locs h => ?_)
  obtain ⟨rfl, ⟨rfl, b1⟩ | ⟨rfl, b1⟩⟩ := hq
  · exact b1.elim
  · show W p l e r_c_X12_read s m args below meth c H locs 0 0 Qf (F0 m 5 ls [.int (iI 0)])
    refine x_if_eq B (by omega) (tgt := 71) dX12_read_5 (by decide) (fun c2 => ?_) (fun c2 => ?_)
    · refine lv_aload_n B.1 B.2.1 dX12_read_71 rfl (lv_at hl 0 rfl) ?_
      refine x_iconst B dX12_read_72 ?_
      refine x_cV B h kX12 0 f0 k_X12_refuse rfl (c_X12_refuse l D ca _ 0 am f0 f1 (by omega)) m_1507 rfl (by decide) hl.1 [] (Nat.le_of_ble_eq_true rfl) rfl dX12_read_73 (fun r w1 hq H locs h => ?_)
      obtain ⟨z3, rfl, hz3⟩ := hq
      show W p l e r_c_X12_read s m args below meth c H locs 0 0 Qf (F0 m 76 ls [.int (iI z3)])
      refine x_ri B hQ h (by decide) dX12_read_76 ?_
      exact ⟨_, rfl, by omega⟩
    · exact absurd c2 (by omega)
abbrev r_c_X12_feed : Room := { frames := 0, cells := 0, slots := 0, locals := 0 }
set_option maxHeartbeats 4000000 in
set_option maxRecDepth 100000 in
theorem c_X12_feed (l : Launch) (D : va_G) (ca : Nat → ClassId) (w : xW) (am : Nat → Nat) (x1 : Int32) (x2 : Int32) (x3 : Int32) (x4 : Int32) (x5 : Int32) (f0 : w[0]? = some (am 0, xO 12 [fR (am 1), fX 0, fX 0, fX 0, fX 0, fX 1, fX 1, fR (am 2), fR (am 3), fR (am 4), fR (am 5), fR (am 6), fR (am 7), fR (am 8), fR (am 9), fR (am 10), fR (am 11), fR (am 12), fR (am 13), fR (am 14), fR (am 15), fR (am 16), fR (am 17), fX 0, fR (am 18), fR (am 19), fR (am 20), fR (am 21), fR (am 22), fR (am 23), fR (am 24), fR (am 25), fX 0, fX (-1), fG 0 0, fG 0 0, fG 0 0, fG 0 0, fG 0 0, fG 0 0, fG 0 0, fG 0 0, fL, fX 0, fR (am 26), fX 0, fX 0, fR (am 27), fR (am 28), fR (am 29), fR (am 30), fR (am 31), fX 0, fX 0, fX 0, fX 0, fR (am 32), fX 0, fX 0, fX 0, fX 0, fR (am 33), fR (am 34), fR (am 35), fX 0, fX 0, fR (am 36), fR (am 37), fR (am 38), fX (-1), fX 0, fX 0, fX 0, fR (am 39), fX 0, fR (am 40), fR (am 41), fR (am 42), fR (am 43), fR (am 44)])) (f25 : w[25]? = some (am 25, xAI (ca 3) 900 gA))  : xC l D ca yX12_feed cX12_feed 8 (some .int) r_c_X12_feed [.ref (am 0), .int (x1), .int (x2), .int (x3), .int (x4), .int (x5)] w (qIa (fun z => z = 20)) := by
  refine xC.of2 "WindWordsModel" (by decide) rfl (Nat.le_of_ble_eq_true rfl) ?_
  intro p e s m args below meth c A ls Qf B hnm h hl hQ
  have hl : lv_has ls 8 [(0, .ref (am 0)), (1, .int (x1)), (2, .int (x2)), (3, .int (x3)), (4, .int (x4)), (5, .int (x5))] := hl
  refine lv_aload_n B.1 B.2.1 dX12_feed_0 rfl (lv_at hl 0 rfl) ?_
  refine x_getX B h kX12 0 f0 32 (z := 0) rfl m_1293 (by decide) dX12_feed_1 ?_
  refine x_bipush B (by decide) dX12_feed_4 ?_
  refine x_iadd B dX12_feed_6 ?_
  refine x_sipush B (by decide) dX12_feed_7 ?_
  refine x_icmp_le B (by omega) (tgt := 15) dX12_feed_10 (by decide) (fun c1 => ?_) (fun c1 => ?_)
  · refine x_iconst B dX12_feed_15 ?_
    refine lv_istore (lv' := [(6, .int (iI 0)), (0, .ref (am 0)), (1, .int (x1)), (2, .int (x2)), (3, .int (x3)), (4, .int (x4)), (5, .int (x5))]) B.1 B.2.1 dX12_feed_16 hl (by decide) rfl (fun ls hl => ?_)
    refine lv_iload B.1 B.2.1 dX12_feed_18 (lv_at hl 0 rfl) ?_
    refine x_bipush B (by decide) dX12_feed_20 ?_
    refine x_icmp_ge B (by omega) (tgt := 112) dX12_feed_22 (by decide) (fun c2 => ?_) (fun c2 => ?_)
    · exact absurd c2 (by omega)
    · refine lv_iload B.1 B.2.1 dX12_feed_25 (lv_at hl 0 rfl) ?_
      refine x_iconst B dX12_feed_27 ?_
      refine x_icmp_ge B (by omega) (tgt := 35) dX12_feed_28 (by decide) (fun c3 => ?_) (fun c3 => ?_)
      · exact absurd c3 (by omega)
      · refine lv_iload_n B.1 B.2.1 dX12_feed_31 rfl (lv_at hl 2 rfl) ?_
        refine lv_goto (tgt := 71) B.1 B.2.1 dX12_feed_32 (by decide) ?_
        refine lv_istore (lv' := [(7, .int (x1)), (6, .int (iI 0)), (0, .ref (am 0)), (1, .int (x1)), (2, .int (x2)), (3, .int (x3)), (4, .int (x4)), (5, .int (x5))]) B.1 B.2.1 dX12_feed_71 hl (by decide) rfl (fun ls hl => ?_)
        refine lv_aload_n B.1 B.2.1 dX12_feed_73 rfl (lv_at hl 2 rfl) ?_
        refine x_getR B h kX12 0 f0 31 (b := am 25) rfl m_1292 (by decide) dX12_feed_74 ?_
        refine lv_aload_n B.1 B.2.1 dX12_feed_77 rfl (lv_at hl 2 rfl) ?_
        refine x_getX B h kX12 0 f0 32 (z := 0) rfl m_1293 (by decide) dX12_feed_78 ?_
        refine lv_iload B.1 B.2.1 dX12_feed_81 (lv_at hl 0 rfl) ?_
        refine x_bipush B (by decide) dX12_feed_83 ?_
        refine x_bipush B (by decide) dX12_feed_85 ?_
        refine lv_iload B.1 B.2.1 dX12_feed_87 (lv_at hl 1 rfl) ?_
        refine x_iconst B dX12_feed_89 ?_
        refine x_irem B (by omega) dX12_feed_90 ?_
        refine x_imul B dX12_feed_91 ?_
        refine x_isub B dX12_feed_92 ?_
        refine lv_ishr B.1 B.2.1 dX12_feed_93 ?_
        refine x_raw (fun y4 => ?_)
        refine lv_i2b B.1 B.2.1 dX12_feed_94 rfl ?_
        refine x_raw (fun y5 => ?_)
        refine x_bastS B h 25 f25 (by omega) (fun _ _ => trivial) dX12_feed_95 (fun H locs h => ?_)
        refine lv_aload_n B.1 B.2.1 dX12_feed_96 rfl (lv_at hl 2 rfl) ?_
        refine lv_dup B.1 B.2.1 dX12_feed_97 rfl ?_
        refine x_getX B h kX12 0 f0 32 (z := 0) rfl m_1293 (by decide) dX12_feed_98 ?_
        refine x_iconst B dX12_feed_101 ?_
        refine x_iadd B dX12_feed_102 ?_
        refine x_put B h kX12 0 f0 32 (Nat.le_of_ble_eq_true rfl) (P' := fX (0 + 1)) m_1293 (by decide) rfl rfl rfl rfl dX12_feed_103 (fun H locs h => ?_)
        have h : xH D A s.heap (w.set 0 (am 0, xO 12 [fR (am 1), fX 0, fX 0, fX 0, fX 0, fX 1, fX 1, fR (am 2), fR (am 3), fR (am 4), fR (am 5), fR (am 6), fR (am 7), fR (am 8), fR (am 9), fR (am 10), fR (am 11), fR (am 12), fR (am 13), fR (am 14), fR (am 15), fR (am 16), fR (am 17), fX 0, fR (am 18), fR (am 19), fR (am 20), fR (am 21), fR (am 22), fR (am 23), fR (am 24), fR (am 25), fX (0 + 1), fX (-1), fG 0 0, fG 0 0, fG 0 0, fG 0 0, fG 0 0, fG 0 0, fG 0 0, fG 0 0, fL, fX 0, fR (am 26), fX 0, fX 0, fR (am 27), fR (am 28), fR (am 29), fR (am 30), fR (am 31), fX 0, fX 0, fX 0, fX 0, fR (am 32), fX 0, fX 0, fX 0, fX 0, fR (am 33), fR (am 34), fR (am 35), fX 0, fX 0, fR (am 36), fR (am 37), fR (am 38), fX (-1), fX 0, fX 0, fX 0, fR (am 39), fX 0, fR (am 40), fR (am 41), fR (am 42), fR (am 43), fR (am 44)])) H locs := h
        refine lv_iinc (v := iI (0 + 1)) (lv' := [(6, .int (iI (0 + 1))), (7, .int (x1)), (0, .ref (am 0)), (1, .int (x1)), (2, .int (x2)), (3, .int (x3)), (4, .int (x4)), (5, .int (x5))]) B.1 B.2.1 dX12_feed_106 hl (k := 1) rfl (iI_add _ _) (by decide) rfl (fun ls hl => ?_)
        refine lv_goto (tgt := 18) B.1 B.2.1 dX12_feed_109 (by decide) ?_
        refine lv_iload B.1 B.2.1 dX12_feed_18 (lv_at hl 0 rfl) ?_
        refine x_bipush B (by decide) dX12_feed_20 ?_
        refine x_icmp_ge B (by omega) (tgt := 112) dX12_feed_22 (by decide) (fun c6 => ?_) (fun c6 => ?_)
        · exact absurd c6 (by omega)
        · refine lv_iload B.1 B.2.1 dX12_feed_25 (lv_at hl 0 rfl) ?_
          refine x_iconst B dX12_feed_27 ?_
          refine x_icmp_ge B (by omega) (tgt := 35) dX12_feed_28 (by decide) (fun c7 => ?_) (fun c7 => ?_)
          · exact absurd c7 (by omega)
          · refine lv_iload_n B.1 B.2.1 dX12_feed_31 rfl (lv_at hl 3 rfl) ?_
            refine lv_goto (tgt := 71) B.1 B.2.1 dX12_feed_32 (by decide) ?_
            refine lv_istore (lv' := [(7, .int (x1)), (6, .int (iI (0 + 1))), (0, .ref (am 0)), (1, .int (x1)), (2, .int (x2)), (3, .int (x3)), (4, .int (x4)), (5, .int (x5))]) B.1 B.2.1 dX12_feed_71 hl (by decide) rfl (fun ls hl => ?_)
            refine lv_aload_n B.1 B.2.1 dX12_feed_73 rfl (lv_at hl 2 rfl) ?_
            refine x_getR B h kX12 0 (xset_eq f0) 31 (b := am 25) rfl m_1292 (by decide) dX12_feed_74 ?_
            refine lv_aload_n B.1 B.2.1 dX12_feed_77 rfl (lv_at hl 2 rfl) ?_
            refine x_getX B h kX12 0 (xset_eq f0) 32 (z := (0 + 1)) rfl m_1293 (by decide) dX12_feed_78 ?_
            refine lv_iload B.1 B.2.1 dX12_feed_81 (lv_at hl 0 rfl) ?_
            refine x_bipush B (by decide) dX12_feed_83 ?_
            refine x_bipush B (by decide) dX12_feed_85 ?_
            refine lv_iload B.1 B.2.1 dX12_feed_87 (lv_at hl 1 rfl) ?_
            refine x_iconst B dX12_feed_89 ?_
            refine x_irem B (by omega) dX12_feed_90 ?_
            refine x_imul B dX12_feed_91 ?_
            refine x_isub B dX12_feed_92 ?_
            refine lv_ishr B.1 B.2.1 dX12_feed_93 ?_
            refine x_raw (fun y8 => ?_)
            refine lv_i2b B.1 B.2.1 dX12_feed_94 rfl ?_
            refine x_raw (fun y9 => ?_)
            refine x_bastS B h 25 (xset_ne f25 (by decide)) (by omega) (fun _ _ => trivial) dX12_feed_95 (fun H locs h => ?_)
            refine lv_aload_n B.1 B.2.1 dX12_feed_96 rfl (lv_at hl 2 rfl) ?_
            refine lv_dup B.1 B.2.1 dX12_feed_97 rfl ?_
            refine x_getX B h kX12 0 (xset_eq f0) 32 (z := (0 + 1)) rfl m_1293 (by decide) dX12_feed_98 ?_
            refine x_iconst B dX12_feed_101 ?_
            refine x_iadd B dX12_feed_102 ?_
            refine x_put B h kX12 0 (xset_eq f0) 32 (Nat.le_of_ble_eq_true rfl) (P' := fX ((0 + 1) + 1)) m_1293 (by decide) rfl rfl rfl rfl dX12_feed_103 (fun H locs h => ?_)
            have h : xH D A s.heap (w.set 0 (am 0, xO 12 [fR (am 1), fX 0, fX 0, fX 0, fX 0, fX 1, fX 1, fR (am 2), fR (am 3), fR (am 4), fR (am 5), fR (am 6), fR (am 7), fR (am 8), fR (am 9), fR (am 10), fR (am 11), fR (am 12), fR (am 13), fR (am 14), fR (am 15), fR (am 16), fR (am 17), fX 0, fR (am 18), fR (am 19), fR (am 20), fR (am 21), fR (am 22), fR (am 23), fR (am 24), fR (am 25), fX ((0 + 1) + 1), fX (-1), fG 0 0, fG 0 0, fG 0 0, fG 0 0, fG 0 0, fG 0 0, fG 0 0, fG 0 0, fL, fX 0, fR (am 26), fX 0, fX 0, fR (am 27), fR (am 28), fR (am 29), fR (am 30), fR (am 31), fX 0, fX 0, fX 0, fX 0, fR (am 32), fX 0, fX 0, fX 0, fX 0, fR (am 33), fR (am 34), fR (am 35), fX 0, fX 0, fR (am 36), fR (am 37), fR (am 38), fX (-1), fX 0, fX 0, fX 0, fR (am 39), fX 0, fR (am 40), fR (am 41), fR (am 42), fR (am 43), fR (am 44)])) H locs := by rw [List.set_set] at h; exact h
            refine lv_iinc (v := iI ((0 + 1) + 1)) (lv' := [(6, .int (iI ((0 + 1) + 1))), (7, .int (x1)), (0, .ref (am 0)), (1, .int (x1)), (2, .int (x2)), (3, .int (x3)), (4, .int (x4)), (5, .int (x5))]) B.1 B.2.1 dX12_feed_106 hl (k := 1) rfl (iI_add _ _) (by decide) rfl (fun ls hl => ?_)
            refine lv_goto (tgt := 18) B.1 B.2.1 dX12_feed_109 (by decide) ?_
            refine lv_iload B.1 B.2.1 dX12_feed_18 (lv_at hl 0 rfl) ?_
            refine x_bipush B (by decide) dX12_feed_20 ?_
            refine x_icmp_ge B (by omega) (tgt := 112) dX12_feed_22 (by decide) (fun c10 => ?_) (fun c10 => ?_)
            · exact absurd c10 (by omega)
            · refine lv_iload B.1 B.2.1 dX12_feed_25 (lv_at hl 0 rfl) ?_
              refine x_iconst B dX12_feed_27 ?_
              refine x_icmp_ge B (by omega) (tgt := 35) dX12_feed_28 (by decide) (fun c11 => ?_) (fun c11 => ?_)
              · exact absurd c11 (by omega)
              · refine lv_iload_n B.1 B.2.1 dX12_feed_31 rfl (lv_at hl 3 rfl) ?_
                refine lv_goto (tgt := 71) B.1 B.2.1 dX12_feed_32 (by decide) ?_
                refine lv_istore (lv' := [(7, .int (x1)), (6, .int (iI ((0 + 1) + 1))), (0, .ref (am 0)), (1, .int (x1)), (2, .int (x2)), (3, .int (x3)), (4, .int (x4)), (5, .int (x5))]) B.1 B.2.1 dX12_feed_71 hl (by decide) rfl (fun ls hl => ?_)
                refine lv_aload_n B.1 B.2.1 dX12_feed_73 rfl (lv_at hl 2 rfl) ?_
                refine x_getR B h kX12 0 (xset_eq f0) 31 (b := am 25) rfl m_1292 (by decide) dX12_feed_74 ?_
                refine lv_aload_n B.1 B.2.1 dX12_feed_77 rfl (lv_at hl 2 rfl) ?_
                refine x_getX B h kX12 0 (xset_eq f0) 32 (z := ((0 + 1) + 1)) rfl m_1293 (by decide) dX12_feed_78 ?_
                refine lv_iload B.1 B.2.1 dX12_feed_81 (lv_at hl 0 rfl) ?_
                refine x_bipush B (by decide) dX12_feed_83 ?_
                refine x_bipush B (by decide) dX12_feed_85 ?_
                refine lv_iload B.1 B.2.1 dX12_feed_87 (lv_at hl 1 rfl) ?_
                refine x_iconst B dX12_feed_89 ?_
                refine x_irem B (by omega) dX12_feed_90 ?_
                refine x_imul B dX12_feed_91 ?_
                refine x_isub B dX12_feed_92 ?_
                refine lv_ishr B.1 B.2.1 dX12_feed_93 ?_
                refine x_raw (fun y12 => ?_)
                refine lv_i2b B.1 B.2.1 dX12_feed_94 rfl ?_
                refine x_raw (fun y13 => ?_)
                refine x_bastS B h 25 (xset_ne f25 (by decide)) (by omega) (fun _ _ => trivial) dX12_feed_95 (fun H locs h => ?_)
                refine lv_aload_n B.1 B.2.1 dX12_feed_96 rfl (lv_at hl 2 rfl) ?_
                refine lv_dup B.1 B.2.1 dX12_feed_97 rfl ?_
                refine x_getX B h kX12 0 (xset_eq f0) 32 (z := ((0 + 1) + 1)) rfl m_1293 (by decide) dX12_feed_98 ?_
                refine x_iconst B dX12_feed_101 ?_
                refine x_iadd B dX12_feed_102 ?_
                refine x_put B h kX12 0 (xset_eq f0) 32 (Nat.le_of_ble_eq_true rfl) (P' := fX (((0 + 1) + 1) + 1)) m_1293 (by decide) rfl rfl rfl rfl dX12_feed_103 (fun H locs h => ?_)
                have h : xH D A s.heap (w.set 0 (am 0, xO 12 [fR (am 1), fX 0, fX 0, fX 0, fX 0, fX 1, fX 1, fR (am 2), fR (am 3), fR (am 4), fR (am 5), fR (am 6), fR (am 7), fR (am 8), fR (am 9), fR (am 10), fR (am 11), fR (am 12), fR (am 13), fR (am 14), fR (am 15), fR (am 16), fR (am 17), fX 0, fR (am 18), fR (am 19), fR (am 20), fR (am 21), fR (am 22), fR (am 23), fR (am 24), fR (am 25), fX (((0 + 1) + 1) + 1), fX (-1), fG 0 0, fG 0 0, fG 0 0, fG 0 0, fG 0 0, fG 0 0, fG 0 0, fG 0 0, fL, fX 0, fR (am 26), fX 0, fX 0, fR (am 27), fR (am 28), fR (am 29), fR (am 30), fR (am 31), fX 0, fX 0, fX 0, fX 0, fR (am 32), fX 0, fX 0, fX 0, fX 0, fR (am 33), fR (am 34), fR (am 35), fX 0, fX 0, fR (am 36), fR (am 37), fR (am 38), fX (-1), fX 0, fX 0, fX 0, fR (am 39), fX 0, fR (am 40), fR (am 41), fR (am 42), fR (am 43), fR (am 44)])) H locs := by rw [List.set_set] at h; exact h
                refine lv_iinc (v := iI (((0 + 1) + 1) + 1)) (lv' := [(6, .int (iI (((0 + 1) + 1) + 1))), (7, .int (x1)), (0, .ref (am 0)), (1, .int (x1)), (2, .int (x2)), (3, .int (x3)), (4, .int (x4)), (5, .int (x5))]) B.1 B.2.1 dX12_feed_106 hl (k := 1) rfl (iI_add _ _) (by decide) rfl (fun ls hl => ?_)
                refine lv_goto (tgt := 18) B.1 B.2.1 dX12_feed_109 (by decide) ?_
                refine lv_iload B.1 B.2.1 dX12_feed_18 (lv_at hl 0 rfl) ?_
                refine x_bipush B (by decide) dX12_feed_20 ?_
                refine x_icmp_ge B (by omega) (tgt := 112) dX12_feed_22 (by decide) (fun c14 => ?_) (fun c14 => ?_)
                · exact absurd c14 (by omega)
                · refine lv_iload B.1 B.2.1 dX12_feed_25 (lv_at hl 0 rfl) ?_
                  refine x_iconst B dX12_feed_27 ?_
                  refine x_icmp_ge B (by omega) (tgt := 35) dX12_feed_28 (by decide) (fun c15 => ?_) (fun c15 => ?_)
                  · exact absurd c15 (by omega)
                  · refine lv_iload_n B.1 B.2.1 dX12_feed_31 rfl (lv_at hl 3 rfl) ?_
                    refine lv_goto (tgt := 71) B.1 B.2.1 dX12_feed_32 (by decide) ?_
                    refine lv_istore (lv' := [(7, .int (x1)), (6, .int (iI (((0 + 1) + 1) + 1))), (0, .ref (am 0)), (1, .int (x1)), (2, .int (x2)), (3, .int (x3)), (4, .int (x4)), (5, .int (x5))]) B.1 B.2.1 dX12_feed_71 hl (by decide) rfl (fun ls hl => ?_)
                    refine lv_aload_n B.1 B.2.1 dX12_feed_73 rfl (lv_at hl 2 rfl) ?_
                    refine x_getR B h kX12 0 (xset_eq f0) 31 (b := am 25) rfl m_1292 (by decide) dX12_feed_74 ?_
                    refine lv_aload_n B.1 B.2.1 dX12_feed_77 rfl (lv_at hl 2 rfl) ?_
                    refine x_getX B h kX12 0 (xset_eq f0) 32 (z := (((0 + 1) + 1) + 1)) rfl m_1293 (by decide) dX12_feed_78 ?_
                    refine lv_iload B.1 B.2.1 dX12_feed_81 (lv_at hl 0 rfl) ?_
                    refine x_bipush B (by decide) dX12_feed_83 ?_
                    refine x_bipush B (by decide) dX12_feed_85 ?_
                    refine lv_iload B.1 B.2.1 dX12_feed_87 (lv_at hl 1 rfl) ?_
                    refine x_iconst B dX12_feed_89 ?_
                    refine x_irem B (by omega) dX12_feed_90 ?_
                    refine x_imul B dX12_feed_91 ?_
                    refine x_isub B dX12_feed_92 ?_
                    refine lv_ishr B.1 B.2.1 dX12_feed_93 ?_
                    refine x_raw (fun y16 => ?_)
                    refine lv_i2b B.1 B.2.1 dX12_feed_94 rfl ?_
                    refine x_raw (fun y17 => ?_)
                    refine x_bastS B h 25 (xset_ne f25 (by decide)) (by omega) (fun _ _ => trivial) dX12_feed_95 (fun H locs h => ?_)
                    refine lv_aload_n B.1 B.2.1 dX12_feed_96 rfl (lv_at hl 2 rfl) ?_
                    refine lv_dup B.1 B.2.1 dX12_feed_97 rfl ?_
                    refine x_getX B h kX12 0 (xset_eq f0) 32 (z := (((0 + 1) + 1) + 1)) rfl m_1293 (by decide) dX12_feed_98 ?_
                    refine x_iconst B dX12_feed_101 ?_
                    refine x_iadd B dX12_feed_102 ?_
                    refine x_put B h kX12 0 (xset_eq f0) 32 (Nat.le_of_ble_eq_true rfl) (P' := fX ((((0 + 1) + 1) + 1) + 1)) m_1293 (by decide) rfl rfl rfl rfl dX12_feed_103 (fun H locs h => ?_)
                    have h : xH D A s.heap (w.set 0 (am 0, xO 12 [fR (am 1), fX 0, fX 0, fX 0, fX 0, fX 1, fX 1, fR (am 2), fR (am 3), fR (am 4), fR (am 5), fR (am 6), fR (am 7), fR (am 8), fR (am 9), fR (am 10), fR (am 11), fR (am 12), fR (am 13), fR (am 14), fR (am 15), fR (am 16), fR (am 17), fX 0, fR (am 18), fR (am 19), fR (am 20), fR (am 21), fR (am 22), fR (am 23), fR (am 24), fR (am 25), fX ((((0 + 1) + 1) + 1) + 1), fX (-1), fG 0 0, fG 0 0, fG 0 0, fG 0 0, fG 0 0, fG 0 0, fG 0 0, fG 0 0, fL, fX 0, fR (am 26), fX 0, fX 0, fR (am 27), fR (am 28), fR (am 29), fR (am 30), fR (am 31), fX 0, fX 0, fX 0, fX 0, fR (am 32), fX 0, fX 0, fX 0, fX 0, fR (am 33), fR (am 34), fR (am 35), fX 0, fX 0, fR (am 36), fR (am 37), fR (am 38), fX (-1), fX 0, fX 0, fX 0, fR (am 39), fX 0, fR (am 40), fR (am 41), fR (am 42), fR (am 43), fR (am 44)])) H locs := by rw [List.set_set] at h; exact h
                    refine lv_iinc (v := iI ((((0 + 1) + 1) + 1) + 1)) (lv' := [(6, .int (iI ((((0 + 1) + 1) + 1) + 1))), (7, .int (x1)), (0, .ref (am 0)), (1, .int (x1)), (2, .int (x2)), (3, .int (x3)), (4, .int (x4)), (5, .int (x5))]) B.1 B.2.1 dX12_feed_106 hl (k := 1) rfl (iI_add _ _) (by decide) rfl (fun ls hl => ?_)
                    refine lv_goto (tgt := 18) B.1 B.2.1 dX12_feed_109 (by decide) ?_
                    refine lv_iload B.1 B.2.1 dX12_feed_18 (lv_at hl 0 rfl) ?_
                    refine x_bipush B (by decide) dX12_feed_20 ?_
                    refine x_icmp_ge B (by omega) (tgt := 112) dX12_feed_22 (by decide) (fun c18 => ?_) (fun c18 => ?_)
                    · exact absurd c18 (by omega)
                    · refine lv_iload B.1 B.2.1 dX12_feed_25 (lv_at hl 0 rfl) ?_
                      refine x_iconst B dX12_feed_27 ?_
                      refine x_icmp_ge B (by omega) (tgt := 35) dX12_feed_28 (by decide) (fun c19 => ?_) (fun c19 => ?_)
                      · refine lv_iload B.1 B.2.1 dX12_feed_35 (lv_at hl 0 rfl) ?_
                        refine x_bipush B (by decide) dX12_feed_37 ?_
                        refine x_icmp_ge B (by omega) (tgt := 46) dX12_feed_39 (by decide) (fun c20 => ?_) (fun c20 => ?_)
                        · exact absurd c20 (by omega)
                        · refine lv_iload_n B.1 B.2.1 dX12_feed_42 rfl (lv_at hl 4 rfl) ?_
                          refine lv_goto (tgt := 71) B.1 B.2.1 dX12_feed_43 (by decide) ?_
                          refine lv_istore (lv' := [(7, .int (x2)), (6, .int (iI ((((0 + 1) + 1) + 1) + 1))), (0, .ref (am 0)), (1, .int (x1)), (2, .int (x2)), (3, .int (x3)), (4, .int (x4)), (5, .int (x5))]) B.1 B.2.1 dX12_feed_71 hl (by decide) rfl (fun ls hl => ?_)
                          refine lv_aload_n B.1 B.2.1 dX12_feed_73 rfl (lv_at hl 2 rfl) ?_
                          refine x_getR B h kX12 0 (xset_eq f0) 31 (b := am 25) rfl m_1292 (by decide) dX12_feed_74 ?_
                          refine lv_aload_n B.1 B.2.1 dX12_feed_77 rfl (lv_at hl 2 rfl) ?_
                          refine x_getX B h kX12 0 (xset_eq f0) 32 (z := ((((0 + 1) + 1) + 1) + 1)) rfl m_1293 (by decide) dX12_feed_78 ?_
                          refine lv_iload B.1 B.2.1 dX12_feed_81 (lv_at hl 0 rfl) ?_
                          refine x_bipush B (by decide) dX12_feed_83 ?_
                          refine x_bipush B (by decide) dX12_feed_85 ?_
                          refine lv_iload B.1 B.2.1 dX12_feed_87 (lv_at hl 1 rfl) ?_
                          refine x_iconst B dX12_feed_89 ?_
                          refine x_irem B (by omega) dX12_feed_90 ?_
                          refine x_imul B dX12_feed_91 ?_
                          refine x_isub B dX12_feed_92 ?_
                          refine lv_ishr B.1 B.2.1 dX12_feed_93 ?_
                          refine x_raw (fun y21 => ?_)
                          refine lv_i2b B.1 B.2.1 dX12_feed_94 rfl ?_
                          refine x_raw (fun y22 => ?_)
                          refine x_bastS B h 25 (xset_ne f25 (by decide)) (by omega) (fun _ _ => trivial) dX12_feed_95 (fun H locs h => ?_)
                          refine lv_aload_n B.1 B.2.1 dX12_feed_96 rfl (lv_at hl 2 rfl) ?_
                          refine lv_dup B.1 B.2.1 dX12_feed_97 rfl ?_
                          refine x_getX B h kX12 0 (xset_eq f0) 32 (z := ((((0 + 1) + 1) + 1) + 1)) rfl m_1293 (by decide) dX12_feed_98 ?_
                          refine x_iconst B dX12_feed_101 ?_
                          refine x_iadd B dX12_feed_102 ?_
                          refine x_put B h kX12 0 (xset_eq f0) 32 (Nat.le_of_ble_eq_true rfl) (P' := fX (((((0 + 1) + 1) + 1) + 1) + 1)) m_1293 (by decide) rfl rfl rfl rfl dX12_feed_103 (fun H locs h => ?_)
                          have h : xH D A s.heap (w.set 0 (am 0, xO 12 [fR (am 1), fX 0, fX 0, fX 0, fX 0, fX 1, fX 1, fR (am 2), fR (am 3), fR (am 4), fR (am 5), fR (am 6), fR (am 7), fR (am 8), fR (am 9), fR (am 10), fR (am 11), fR (am 12), fR (am 13), fR (am 14), fR (am 15), fR (am 16), fR (am 17), fX 0, fR (am 18), fR (am 19), fR (am 20), fR (am 21), fR (am 22), fR (am 23), fR (am 24), fR (am 25), fX (((((0 + 1) + 1) + 1) + 1) + 1), fX (-1), fG 0 0, fG 0 0, fG 0 0, fG 0 0, fG 0 0, fG 0 0, fG 0 0, fG 0 0, fL, fX 0, fR (am 26), fX 0, fX 0, fR (am 27), fR (am 28), fR (am 29), fR (am 30), fR (am 31), fX 0, fX 0, fX 0, fX 0, fR (am 32), fX 0, fX 0, fX 0, fX 0, fR (am 33), fR (am 34), fR (am 35), fX 0, fX 0, fR (am 36), fR (am 37), fR (am 38), fX (-1), fX 0, fX 0, fX 0, fR (am 39), fX 0, fR (am 40), fR (am 41), fR (am 42), fR (am 43), fR (am 44)])) H locs := by rw [List.set_set] at h; exact h
                          refine lv_iinc (v := iI (((((0 + 1) + 1) + 1) + 1) + 1)) (lv' := [(6, .int (iI (((((0 + 1) + 1) + 1) + 1) + 1))), (7, .int (x2)), (0, .ref (am 0)), (1, .int (x1)), (2, .int (x2)), (3, .int (x3)), (4, .int (x4)), (5, .int (x5))]) B.1 B.2.1 dX12_feed_106 hl (k := 1) rfl (iI_add _ _) (by decide) rfl (fun ls hl => ?_)
                          refine lv_goto (tgt := 18) B.1 B.2.1 dX12_feed_109 (by decide) ?_
                          refine lv_iload B.1 B.2.1 dX12_feed_18 (lv_at hl 0 rfl) ?_
                          refine x_bipush B (by decide) dX12_feed_20 ?_
                          refine x_icmp_ge B (by omega) (tgt := 112) dX12_feed_22 (by decide) (fun c23 => ?_) (fun c23 => ?_)
                          · exact absurd c23 (by omega)
                          · refine lv_iload B.1 B.2.1 dX12_feed_25 (lv_at hl 0 rfl) ?_
                            refine x_iconst B dX12_feed_27 ?_
                            refine x_icmp_ge B (by omega) (tgt := 35) dX12_feed_28 (by decide) (fun c24 => ?_) (fun c24 => ?_)
                            · refine lv_iload B.1 B.2.1 dX12_feed_35 (lv_at hl 0 rfl) ?_
                              refine x_bipush B (by decide) dX12_feed_37 ?_
                              refine x_icmp_ge B (by omega) (tgt := 46) dX12_feed_39 (by decide) (fun c25 => ?_) (fun c25 => ?_)
                              · exact absurd c25 (by omega)
                              · refine lv_iload_n B.1 B.2.1 dX12_feed_42 rfl (lv_at hl 4 rfl) ?_
                                refine lv_goto (tgt := 71) B.1 B.2.1 dX12_feed_43 (by decide) ?_
                                refine lv_istore (lv' := [(7, .int (x2)), (6, .int (iI (((((0 + 1) + 1) + 1) + 1) + 1))), (0, .ref (am 0)), (1, .int (x1)), (2, .int (x2)), (3, .int (x3)), (4, .int (x4)), (5, .int (x5))]) B.1 B.2.1 dX12_feed_71 hl (by decide) rfl (fun ls hl => ?_)
                                refine lv_aload_n B.1 B.2.1 dX12_feed_73 rfl (lv_at hl 2 rfl) ?_
                                refine x_getR B h kX12 0 (xset_eq f0) 31 (b := am 25) rfl m_1292 (by decide) dX12_feed_74 ?_
                                refine lv_aload_n B.1 B.2.1 dX12_feed_77 rfl (lv_at hl 2 rfl) ?_
                                refine x_getX B h kX12 0 (xset_eq f0) 32 (z := (((((0 + 1) + 1) + 1) + 1) + 1)) rfl m_1293 (by decide) dX12_feed_78 ?_
                                refine lv_iload B.1 B.2.1 dX12_feed_81 (lv_at hl 0 rfl) ?_
                                refine x_bipush B (by decide) dX12_feed_83 ?_
                                refine x_bipush B (by decide) dX12_feed_85 ?_
                                refine lv_iload B.1 B.2.1 dX12_feed_87 (lv_at hl 1 rfl) ?_
                                refine x_iconst B dX12_feed_89 ?_
                                refine x_irem B (by omega) dX12_feed_90 ?_
                                refine x_imul B dX12_feed_91 ?_
                                refine x_isub B dX12_feed_92 ?_
                                refine lv_ishr B.1 B.2.1 dX12_feed_93 ?_
                                refine x_raw (fun y26 => ?_)
                                refine lv_i2b B.1 B.2.1 dX12_feed_94 rfl ?_
                                refine x_raw (fun y27 => ?_)
                                refine x_bastS B h 25 (xset_ne f25 (by decide)) (by omega) (fun _ _ => trivial) dX12_feed_95 (fun H locs h => ?_)
                                refine lv_aload_n B.1 B.2.1 dX12_feed_96 rfl (lv_at hl 2 rfl) ?_
                                refine lv_dup B.1 B.2.1 dX12_feed_97 rfl ?_
                                refine x_getX B h kX12 0 (xset_eq f0) 32 (z := (((((0 + 1) + 1) + 1) + 1) + 1)) rfl m_1293 (by decide) dX12_feed_98 ?_
                                refine x_iconst B dX12_feed_101 ?_
                                refine x_iadd B dX12_feed_102 ?_
                                refine x_put B h kX12 0 (xset_eq f0) 32 (Nat.le_of_ble_eq_true rfl) (P' := fX ((((((0 + 1) + 1) + 1) + 1) + 1) + 1)) m_1293 (by decide) rfl rfl rfl rfl dX12_feed_103 (fun H locs h => ?_)
                                have h : xH D A s.heap (w.set 0 (am 0, xO 12 [fR (am 1), fX 0, fX 0, fX 0, fX 0, fX 1, fX 1, fR (am 2), fR (am 3), fR (am 4), fR (am 5), fR (am 6), fR (am 7), fR (am 8), fR (am 9), fR (am 10), fR (am 11), fR (am 12), fR (am 13), fR (am 14), fR (am 15), fR (am 16), fR (am 17), fX 0, fR (am 18), fR (am 19), fR (am 20), fR (am 21), fR (am 22), fR (am 23), fR (am 24), fR (am 25), fX ((((((0 + 1) + 1) + 1) + 1) + 1) + 1), fX (-1), fG 0 0, fG 0 0, fG 0 0, fG 0 0, fG 0 0, fG 0 0, fG 0 0, fG 0 0, fL, fX 0, fR (am 26), fX 0, fX 0, fR (am 27), fR (am 28), fR (am 29), fR (am 30), fR (am 31), fX 0, fX 0, fX 0, fX 0, fR (am 32), fX 0, fX 0, fX 0, fX 0, fR (am 33), fR (am 34), fR (am 35), fX 0, fX 0, fR (am 36), fR (am 37), fR (am 38), fX (-1), fX 0, fX 0, fX 0, fR (am 39), fX 0, fR (am 40), fR (am 41), fR (am 42), fR (am 43), fR (am 44)])) H locs := by rw [List.set_set] at h; exact h
                                refine lv_iinc (v := iI ((((((0 + 1) + 1) + 1) + 1) + 1) + 1)) (lv' := [(6, .int (iI ((((((0 + 1) + 1) + 1) + 1) + 1) + 1))), (7, .int (x2)), (0, .ref (am 0)), (1, .int (x1)), (2, .int (x2)), (3, .int (x3)), (4, .int (x4)), (5, .int (x5))]) B.1 B.2.1 dX12_feed_106 hl (k := 1) rfl (iI_add _ _) (by decide) rfl (fun ls hl => ?_)
                                refine lv_goto (tgt := 18) B.1 B.2.1 dX12_feed_109 (by decide) ?_
                                refine lv_iload B.1 B.2.1 dX12_feed_18 (lv_at hl 0 rfl) ?_
                                refine x_bipush B (by decide) dX12_feed_20 ?_
                                refine x_icmp_ge B (by omega) (tgt := 112) dX12_feed_22 (by decide) (fun c28 => ?_) (fun c28 => ?_)
                                · exact absurd c28 (by omega)
                                · refine lv_iload B.1 B.2.1 dX12_feed_25 (lv_at hl 0 rfl) ?_
                                  refine x_iconst B dX12_feed_27 ?_
                                  refine x_icmp_ge B (by omega) (tgt := 35) dX12_feed_28 (by decide) (fun c29 => ?_) (fun c29 => ?_)
                                  · refine lv_iload B.1 B.2.1 dX12_feed_35 (lv_at hl 0 rfl) ?_
                                    refine x_bipush B (by decide) dX12_feed_37 ?_
                                    refine x_icmp_ge B (by omega) (tgt := 46) dX12_feed_39 (by decide) (fun c30 => ?_) (fun c30 => ?_)
                                    · exact absurd c30 (by omega)
                                    · refine lv_iload_n B.1 B.2.1 dX12_feed_42 rfl (lv_at hl 4 rfl) ?_
                                      refine lv_goto (tgt := 71) B.1 B.2.1 dX12_feed_43 (by decide) ?_
                                      refine lv_istore (lv' := [(7, .int (x2)), (6, .int (iI ((((((0 + 1) + 1) + 1) + 1) + 1) + 1))), (0, .ref (am 0)), (1, .int (x1)), (2, .int (x2)), (3, .int (x3)), (4, .int (x4)), (5, .int (x5))]) B.1 B.2.1 dX12_feed_71 hl (by decide) rfl (fun ls hl => ?_)
                                      refine lv_aload_n B.1 B.2.1 dX12_feed_73 rfl (lv_at hl 2 rfl) ?_
                                      refine x_getR B h kX12 0 (xset_eq f0) 31 (b := am 25) rfl m_1292 (by decide) dX12_feed_74 ?_
                                      refine lv_aload_n B.1 B.2.1 dX12_feed_77 rfl (lv_at hl 2 rfl) ?_
                                      refine x_getX B h kX12 0 (xset_eq f0) 32 (z := ((((((0 + 1) + 1) + 1) + 1) + 1) + 1)) rfl m_1293 (by decide) dX12_feed_78 ?_
                                      refine lv_iload B.1 B.2.1 dX12_feed_81 (lv_at hl 0 rfl) ?_
                                      refine x_bipush B (by decide) dX12_feed_83 ?_
                                      refine x_bipush B (by decide) dX12_feed_85 ?_
                                      refine lv_iload B.1 B.2.1 dX12_feed_87 (lv_at hl 1 rfl) ?_
                                      refine x_iconst B dX12_feed_89 ?_
                                      refine x_irem B (by omega) dX12_feed_90 ?_
                                      refine x_imul B dX12_feed_91 ?_
                                      refine x_isub B dX12_feed_92 ?_
                                      refine lv_ishr B.1 B.2.1 dX12_feed_93 ?_
                                      refine x_raw (fun y31 => ?_)
                                      refine lv_i2b B.1 B.2.1 dX12_feed_94 rfl ?_
                                      refine x_raw (fun y32 => ?_)
                                      refine x_bastS B h 25 (xset_ne f25 (by decide)) (by omega) (fun _ _ => trivial) dX12_feed_95 (fun H locs h => ?_)
                                      refine lv_aload_n B.1 B.2.1 dX12_feed_96 rfl (lv_at hl 2 rfl) ?_
                                      refine lv_dup B.1 B.2.1 dX12_feed_97 rfl ?_
                                      refine x_getX B h kX12 0 (xset_eq f0) 32 (z := ((((((0 + 1) + 1) + 1) + 1) + 1) + 1)) rfl m_1293 (by decide) dX12_feed_98 ?_
                                      refine x_iconst B dX12_feed_101 ?_
                                      refine x_iadd B dX12_feed_102 ?_
                                      refine x_put B h kX12 0 (xset_eq f0) 32 (Nat.le_of_ble_eq_true rfl) (P' := fX (((((((0 + 1) + 1) + 1) + 1) + 1) + 1) + 1)) m_1293 (by decide) rfl rfl rfl rfl dX12_feed_103 (fun H locs h => ?_)
                                      have h : xH D A s.heap (w.set 0 (am 0, xO 12 [fR (am 1), fX 0, fX 0, fX 0, fX 0, fX 1, fX 1, fR (am 2), fR (am 3), fR (am 4), fR (am 5), fR (am 6), fR (am 7), fR (am 8), fR (am 9), fR (am 10), fR (am 11), fR (am 12), fR (am 13), fR (am 14), fR (am 15), fR (am 16), fR (am 17), fX 0, fR (am 18), fR (am 19), fR (am 20), fR (am 21), fR (am 22), fR (am 23), fR (am 24), fR (am 25), fX (((((((0 + 1) + 1) + 1) + 1) + 1) + 1) + 1), fX (-1), fG 0 0, fG 0 0, fG 0 0, fG 0 0, fG 0 0, fG 0 0, fG 0 0, fG 0 0, fL, fX 0, fR (am 26), fX 0, fX 0, fR (am 27), fR (am 28), fR (am 29), fR (am 30), fR (am 31), fX 0, fX 0, fX 0, fX 0, fR (am 32), fX 0, fX 0, fX 0, fX 0, fR (am 33), fR (am 34), fR (am 35), fX 0, fX 0, fR (am 36), fR (am 37), fR (am 38), fX (-1), fX 0, fX 0, fX 0, fR (am 39), fX 0, fR (am 40), fR (am 41), fR (am 42), fR (am 43), fR (am 44)])) H locs := by rw [List.set_set] at h; exact h
                                      refine lv_iinc (v := iI (((((((0 + 1) + 1) + 1) + 1) + 1) + 1) + 1)) (lv' := [(6, .int (iI (((((((0 + 1) + 1) + 1) + 1) + 1) + 1) + 1))), (7, .int (x2)), (0, .ref (am 0)), (1, .int (x1)), (2, .int (x2)), (3, .int (x3)), (4, .int (x4)), (5, .int (x5))]) B.1 B.2.1 dX12_feed_106 hl (k := 1) rfl (iI_add _ _) (by decide) rfl (fun ls hl => ?_)
                                      refine lv_goto (tgt := 18) B.1 B.2.1 dX12_feed_109 (by decide) ?_
                                      refine lv_iload B.1 B.2.1 dX12_feed_18 (lv_at hl 0 rfl) ?_
                                      refine x_bipush B (by decide) dX12_feed_20 ?_
                                      refine x_icmp_ge B (by omega) (tgt := 112) dX12_feed_22 (by decide) (fun c33 => ?_) (fun c33 => ?_)
                                      · exact absurd c33 (by omega)
                                      · refine lv_iload B.1 B.2.1 dX12_feed_25 (lv_at hl 0 rfl) ?_
                                        refine x_iconst B dX12_feed_27 ?_
                                        refine x_icmp_ge B (by omega) (tgt := 35) dX12_feed_28 (by decide) (fun c34 => ?_) (fun c34 => ?_)
                                        · refine lv_iload B.1 B.2.1 dX12_feed_35 (lv_at hl 0 rfl) ?_
                                          refine x_bipush B (by decide) dX12_feed_37 ?_
                                          refine x_icmp_ge B (by omega) (tgt := 46) dX12_feed_39 (by decide) (fun c35 => ?_) (fun c35 => ?_)
                                          · exact absurd c35 (by omega)
                                          · refine lv_iload_n B.1 B.2.1 dX12_feed_42 rfl (lv_at hl 4 rfl) ?_
                                            refine lv_goto (tgt := 71) B.1 B.2.1 dX12_feed_43 (by decide) ?_
                                            refine lv_istore (lv' := [(7, .int (x2)), (6, .int (iI (((((((0 + 1) + 1) + 1) + 1) + 1) + 1) + 1))), (0, .ref (am 0)), (1, .int (x1)), (2, .int (x2)), (3, .int (x3)), (4, .int (x4)), (5, .int (x5))]) B.1 B.2.1 dX12_feed_71 hl (by decide) rfl (fun ls hl => ?_)
                                            refine lv_aload_n B.1 B.2.1 dX12_feed_73 rfl (lv_at hl 2 rfl) ?_
                                            refine x_getR B h kX12 0 (xset_eq f0) 31 (b := am 25) rfl m_1292 (by decide) dX12_feed_74 ?_
                                            refine lv_aload_n B.1 B.2.1 dX12_feed_77 rfl (lv_at hl 2 rfl) ?_
                                            refine x_getX B h kX12 0 (xset_eq f0) 32 (z := (((((((0 + 1) + 1) + 1) + 1) + 1) + 1) + 1)) rfl m_1293 (by decide) dX12_feed_78 ?_
                                            refine lv_iload B.1 B.2.1 dX12_feed_81 (lv_at hl 0 rfl) ?_
                                            refine x_bipush B (by decide) dX12_feed_83 ?_
                                            refine x_bipush B (by decide) dX12_feed_85 ?_
                                            refine lv_iload B.1 B.2.1 dX12_feed_87 (lv_at hl 1 rfl) ?_
                                            refine x_iconst B dX12_feed_89 ?_
                                            refine x_irem B (by omega) dX12_feed_90 ?_
                                            refine x_imul B dX12_feed_91 ?_
                                            refine x_isub B dX12_feed_92 ?_
                                            refine lv_ishr B.1 B.2.1 dX12_feed_93 ?_
                                            refine x_raw (fun y36 => ?_)
                                            refine lv_i2b B.1 B.2.1 dX12_feed_94 rfl ?_
                                            refine x_raw (fun y37 => ?_)
                                            refine x_bastS B h 25 (xset_ne f25 (by decide)) (by omega) (fun _ _ => trivial) dX12_feed_95 (fun H locs h => ?_)
                                            refine lv_aload_n B.1 B.2.1 dX12_feed_96 rfl (lv_at hl 2 rfl) ?_
                                            refine lv_dup B.1 B.2.1 dX12_feed_97 rfl ?_
                                            refine x_getX B h kX12 0 (xset_eq f0) 32 (z := (((((((0 + 1) + 1) + 1) + 1) + 1) + 1) + 1)) rfl m_1293 (by decide) dX12_feed_98 ?_
                                            refine x_iconst B dX12_feed_101 ?_
                                            refine x_iadd B dX12_feed_102 ?_
                                            refine x_put B h kX12 0 (xset_eq f0) 32 (Nat.le_of_ble_eq_true rfl) (P' := fX ((((((((0 + 1) + 1) + 1) + 1) + 1) + 1) + 1) + 1)) m_1293 (by decide) rfl rfl rfl rfl dX12_feed_103 (fun H locs h => ?_)
                                            have h : xH D A s.heap (w.set 0 (am 0, xO 12 [fR (am 1), fX 0, fX 0, fX 0, fX 0, fX 1, fX 1, fR (am 2), fR (am 3), fR (am 4), fR (am 5), fR (am 6), fR (am 7), fR (am 8), fR (am 9), fR (am 10), fR (am 11), fR (am 12), fR (am 13), fR (am 14), fR (am 15), fR (am 16), fR (am 17), fX 0, fR (am 18), fR (am 19), fR (am 20), fR (am 21), fR (am 22), fR (am 23), fR (am 24), fR (am 25), fX ((((((((0 + 1) + 1) + 1) + 1) + 1) + 1) + 1) + 1), fX (-1), fG 0 0, fG 0 0, fG 0 0, fG 0 0, fG 0 0, fG 0 0, fG 0 0, fG 0 0, fL, fX 0, fR (am 26), fX 0, fX 0, fR (am 27), fR (am 28), fR (am 29), fR (am 30), fR (am 31), fX 0, fX 0, fX 0, fX 0, fR (am 32), fX 0, fX 0, fX 0, fX 0, fR (am 33), fR (am 34), fR (am 35), fX 0, fX 0, fR (am 36), fR (am 37), fR (am 38), fX (-1), fX 0, fX 0, fX 0, fR (am 39), fX 0, fR (am 40), fR (am 41), fR (am 42), fR (am 43), fR (am 44)])) H locs := by rw [List.set_set] at h; exact h
                                            refine lv_iinc (v := iI ((((((((0 + 1) + 1) + 1) + 1) + 1) + 1) + 1) + 1)) (lv' := [(6, .int (iI ((((((((0 + 1) + 1) + 1) + 1) + 1) + 1) + 1) + 1))), (7, .int (x2)), (0, .ref (am 0)), (1, .int (x1)), (2, .int (x2)), (3, .int (x3)), (4, .int (x4)), (5, .int (x5))]) B.1 B.2.1 dX12_feed_106 hl (k := 1) rfl (iI_add _ _) (by decide) rfl (fun ls hl => ?_)
                                            refine lv_goto (tgt := 18) B.1 B.2.1 dX12_feed_109 (by decide) ?_
                                            refine lv_iload B.1 B.2.1 dX12_feed_18 (lv_at hl 0 rfl) ?_
                                            refine x_bipush B (by decide) dX12_feed_20 ?_
                                            refine x_icmp_ge B (by omega) (tgt := 112) dX12_feed_22 (by decide) (fun c38 => ?_) (fun c38 => ?_)
                                            · exact absurd c38 (by omega)
                                            · refine lv_iload B.1 B.2.1 dX12_feed_25 (lv_at hl 0 rfl) ?_
                                              refine x_iconst B dX12_feed_27 ?_
                                              refine x_icmp_ge B (by omega) (tgt := 35) dX12_feed_28 (by decide) (fun c39 => ?_) (fun c39 => ?_)
                                              · refine lv_iload B.1 B.2.1 dX12_feed_35 (lv_at hl 0 rfl) ?_
                                                refine x_bipush B (by decide) dX12_feed_37 ?_
                                                refine x_icmp_ge B (by omega) (tgt := 46) dX12_feed_39 (by decide) (fun c40 => ?_) (fun c40 => ?_)
                                                · refine lv_iload B.1 B.2.1 dX12_feed_46 (lv_at hl 0 rfl) ?_
                                                  refine x_bipush B (by decide) dX12_feed_48 ?_
                                                  refine x_icmp_ge B (by omega) (tgt := 57) dX12_feed_50 (by decide) (fun c41 => ?_) (fun c41 => ?_)
                                                  · exact absurd c41 (by omega)
                                                  · refine lv_iload_n B.1 B.2.1 dX12_feed_53 rfl (lv_at hl 5 rfl) ?_
                                                    refine lv_goto (tgt := 71) B.1 B.2.1 dX12_feed_54 (by decide) ?_
                                                    refine lv_istore (lv' := [(7, .int (x3)), (6, .int (iI ((((((((0 + 1) + 1) + 1) + 1) + 1) + 1) + 1) + 1))), (0, .ref (am 0)), (1, .int (x1)), (2, .int (x2)), (3, .int (x3)), (4, .int (x4)), (5, .int (x5))]) B.1 B.2.1 dX12_feed_71 hl (by decide) rfl (fun ls hl => ?_)
                                                    refine lv_aload_n B.1 B.2.1 dX12_feed_73 rfl (lv_at hl 2 rfl) ?_
                                                    refine x_getR B h kX12 0 (xset_eq f0) 31 (b := am 25) rfl m_1292 (by decide) dX12_feed_74 ?_
                                                    refine lv_aload_n B.1 B.2.1 dX12_feed_77 rfl (lv_at hl 2 rfl) ?_
                                                    refine x_getX B h kX12 0 (xset_eq f0) 32 (z := ((((((((0 + 1) + 1) + 1) + 1) + 1) + 1) + 1) + 1)) rfl m_1293 (by decide) dX12_feed_78 ?_
                                                    refine lv_iload B.1 B.2.1 dX12_feed_81 (lv_at hl 0 rfl) ?_
                                                    refine x_bipush B (by decide) dX12_feed_83 ?_
                                                    refine x_bipush B (by decide) dX12_feed_85 ?_
                                                    refine lv_iload B.1 B.2.1 dX12_feed_87 (lv_at hl 1 rfl) ?_
                                                    refine x_iconst B dX12_feed_89 ?_
                                                    refine x_irem B (by omega) dX12_feed_90 ?_
                                                    refine x_imul B dX12_feed_91 ?_
                                                    refine x_isub B dX12_feed_92 ?_
                                                    refine lv_ishr B.1 B.2.1 dX12_feed_93 ?_
                                                    refine x_raw (fun y42 => ?_)
                                                    refine lv_i2b B.1 B.2.1 dX12_feed_94 rfl ?_
                                                    refine x_raw (fun y43 => ?_)
                                                    refine x_bastS B h 25 (xset_ne f25 (by decide)) (by omega) (fun _ _ => trivial) dX12_feed_95 (fun H locs h => ?_)
                                                    refine lv_aload_n B.1 B.2.1 dX12_feed_96 rfl (lv_at hl 2 rfl) ?_
                                                    refine lv_dup B.1 B.2.1 dX12_feed_97 rfl ?_
                                                    refine x_getX B h kX12 0 (xset_eq f0) 32 (z := ((((((((0 + 1) + 1) + 1) + 1) + 1) + 1) + 1) + 1)) rfl m_1293 (by decide) dX12_feed_98 ?_
                                                    refine x_iconst B dX12_feed_101 ?_
                                                    refine x_iadd B dX12_feed_102 ?_
                                                    refine x_put B h kX12 0 (xset_eq f0) 32 (Nat.le_of_ble_eq_true rfl) (P' := fX (((((((((0 + 1) + 1) + 1) + 1) + 1) + 1) + 1) + 1) + 1)) m_1293 (by decide) rfl rfl rfl rfl dX12_feed_103 (fun H locs h => ?_)
                                                    have h : xH D A s.heap (w.set 0 (am 0, xO 12 [fR (am 1), fX 0, fX 0, fX 0, fX 0, fX 1, fX 1, fR (am 2), fR (am 3), fR (am 4), fR (am 5), fR (am 6), fR (am 7), fR (am 8), fR (am 9), fR (am 10), fR (am 11), fR (am 12), fR (am 13), fR (am 14), fR (am 15), fR (am 16), fR (am 17), fX 0, fR (am 18), fR (am 19), fR (am 20), fR (am 21), fR (am 22), fR (am 23), fR (am 24), fR (am 25), fX (((((((((0 + 1) + 1) + 1) + 1) + 1) + 1) + 1) + 1) + 1), fX (-1), fG 0 0, fG 0 0, fG 0 0, fG 0 0, fG 0 0, fG 0 0, fG 0 0, fG 0 0, fL, fX 0, fR (am 26), fX 0, fX 0, fR (am 27), fR (am 28), fR (am 29), fR (am 30), fR (am 31), fX 0, fX 0, fX 0, fX 0, fR (am 32), fX 0, fX 0, fX 0, fX 0, fR (am 33), fR (am 34), fR (am 35), fX 0, fX 0, fR (am 36), fR (am 37), fR (am 38), fX (-1), fX 0, fX 0, fX 0, fR (am 39), fX 0, fR (am 40), fR (am 41), fR (am 42), fR (am 43), fR (am 44)])) H locs := by rw [List.set_set] at h; exact h
                                                    refine lv_iinc (v := iI (((((((((0 + 1) + 1) + 1) + 1) + 1) + 1) + 1) + 1) + 1)) (lv' := [(6, .int (iI (((((((((0 + 1) + 1) + 1) + 1) + 1) + 1) + 1) + 1) + 1))), (7, .int (x3)), (0, .ref (am 0)), (1, .int (x1)), (2, .int (x2)), (3, .int (x3)), (4, .int (x4)), (5, .int (x5))]) B.1 B.2.1 dX12_feed_106 hl (k := 1) rfl (iI_add _ _) (by decide) rfl (fun ls hl => ?_)
                                                    refine lv_goto (tgt := 18) B.1 B.2.1 dX12_feed_109 (by decide) ?_
                                                    refine lv_iload B.1 B.2.1 dX12_feed_18 (lv_at hl 0 rfl) ?_
                                                    refine x_bipush B (by decide) dX12_feed_20 ?_
                                                    refine x_icmp_ge B (by omega) (tgt := 112) dX12_feed_22 (by decide) (fun c44 => ?_) (fun c44 => ?_)
                                                    · exact absurd c44 (by omega)
                                                    · refine lv_iload B.1 B.2.1 dX12_feed_25 (lv_at hl 0 rfl) ?_
                                                      refine x_iconst B dX12_feed_27 ?_
                                                      refine x_icmp_ge B (by omega) (tgt := 35) dX12_feed_28 (by decide) (fun c45 => ?_) (fun c45 => ?_)
                                                      · refine lv_iload B.1 B.2.1 dX12_feed_35 (lv_at hl 0 rfl) ?_
                                                        refine x_bipush B (by decide) dX12_feed_37 ?_
                                                        refine x_icmp_ge B (by omega) (tgt := 46) dX12_feed_39 (by decide) (fun c46 => ?_) (fun c46 => ?_)
                                                        · refine lv_iload B.1 B.2.1 dX12_feed_46 (lv_at hl 0 rfl) ?_
                                                          refine x_bipush B (by decide) dX12_feed_48 ?_
                                                          refine x_icmp_ge B (by omega) (tgt := 57) dX12_feed_50 (by decide) (fun c47 => ?_) (fun c47 => ?_)
                                                          · exact absurd c47 (by omega)
                                                          · refine lv_iload_n B.1 B.2.1 dX12_feed_53 rfl (lv_at hl 5 rfl) ?_
                                                            refine lv_goto (tgt := 71) B.1 B.2.1 dX12_feed_54 (by decide) ?_
                                                            refine lv_istore (lv' := [(7, .int (x3)), (6, .int (iI (((((((((0 + 1) + 1) + 1) + 1) + 1) + 1) + 1) + 1) + 1))), (0, .ref (am 0)), (1, .int (x1)), (2, .int (x2)), (3, .int (x3)), (4, .int (x4)), (5, .int (x5))]) B.1 B.2.1 dX12_feed_71 hl (by decide) rfl (fun ls hl => ?_)
                                                            refine lv_aload_n B.1 B.2.1 dX12_feed_73 rfl (lv_at hl 2 rfl) ?_
                                                            refine x_getR B h kX12 0 (xset_eq f0) 31 (b := am 25) rfl m_1292 (by decide) dX12_feed_74 ?_
                                                            refine lv_aload_n B.1 B.2.1 dX12_feed_77 rfl (lv_at hl 2 rfl) ?_
                                                            refine x_getX B h kX12 0 (xset_eq f0) 32 (z := (((((((((0 + 1) + 1) + 1) + 1) + 1) + 1) + 1) + 1) + 1)) rfl m_1293 (by decide) dX12_feed_78 ?_
                                                            refine lv_iload B.1 B.2.1 dX12_feed_81 (lv_at hl 0 rfl) ?_
                                                            refine x_bipush B (by decide) dX12_feed_83 ?_
                                                            refine x_bipush B (by decide) dX12_feed_85 ?_
                                                            refine lv_iload B.1 B.2.1 dX12_feed_87 (lv_at hl 1 rfl) ?_
                                                            refine x_iconst B dX12_feed_89 ?_
                                                            refine x_irem B (by omega) dX12_feed_90 ?_
                                                            refine x_imul B dX12_feed_91 ?_
                                                            refine x_isub B dX12_feed_92 ?_
                                                            refine lv_ishr B.1 B.2.1 dX12_feed_93 ?_
                                                            refine x_raw (fun y48 => ?_)
                                                            refine lv_i2b B.1 B.2.1 dX12_feed_94 rfl ?_
                                                            refine x_raw (fun y49 => ?_)
                                                            refine x_bastS B h 25 (xset_ne f25 (by decide)) (by omega) (fun _ _ => trivial) dX12_feed_95 (fun H locs h => ?_)
                                                            refine lv_aload_n B.1 B.2.1 dX12_feed_96 rfl (lv_at hl 2 rfl) ?_
                                                            refine lv_dup B.1 B.2.1 dX12_feed_97 rfl ?_
                                                            refine x_getX B h kX12 0 (xset_eq f0) 32 (z := (((((((((0 + 1) + 1) + 1) + 1) + 1) + 1) + 1) + 1) + 1)) rfl m_1293 (by decide) dX12_feed_98 ?_
                                                            refine x_iconst B dX12_feed_101 ?_
                                                            refine x_iadd B dX12_feed_102 ?_
                                                            refine x_put B h kX12 0 (xset_eq f0) 32 (Nat.le_of_ble_eq_true rfl) (P' := fX ((((((((((0 + 1) + 1) + 1) + 1) + 1) + 1) + 1) + 1) + 1) + 1)) m_1293 (by decide) rfl rfl rfl rfl dX12_feed_103 (fun H locs h => ?_)
                                                            have h : xH D A s.heap (w.set 0 (am 0, xO 12 [fR (am 1), fX 0, fX 0, fX 0, fX 0, fX 1, fX 1, fR (am 2), fR (am 3), fR (am 4), fR (am 5), fR (am 6), fR (am 7), fR (am 8), fR (am 9), fR (am 10), fR (am 11), fR (am 12), fR (am 13), fR (am 14), fR (am 15), fR (am 16), fR (am 17), fX 0, fR (am 18), fR (am 19), fR (am 20), fR (am 21), fR (am 22), fR (am 23), fR (am 24), fR (am 25), fX ((((((((((0 + 1) + 1) + 1) + 1) + 1) + 1) + 1) + 1) + 1) + 1), fX (-1), fG 0 0, fG 0 0, fG 0 0, fG 0 0, fG 0 0, fG 0 0, fG 0 0, fG 0 0, fL, fX 0, fR (am 26), fX 0, fX 0, fR (am 27), fR (am 28), fR (am 29), fR (am 30), fR (am 31), fX 0, fX 0, fX 0, fX 0, fR (am 32), fX 0, fX 0, fX 0, fX 0, fR (am 33), fR (am 34), fR (am 35), fX 0, fX 0, fR (am 36), fR (am 37), fR (am 38), fX (-1), fX 0, fX 0, fX 0, fR (am 39), fX 0, fR (am 40), fR (am 41), fR (am 42), fR (am 43), fR (am 44)])) H locs := by rw [List.set_set] at h; exact h
                                                            refine lv_iinc (v := iI ((((((((((0 + 1) + 1) + 1) + 1) + 1) + 1) + 1) + 1) + 1) + 1)) (lv' := [(6, .int (iI ((((((((((0 + 1) + 1) + 1) + 1) + 1) + 1) + 1) + 1) + 1) + 1))), (7, .int (x3)), (0, .ref (am 0)), (1, .int (x1)), (2, .int (x2)), (3, .int (x3)), (4, .int (x4)), (5, .int (x5))]) B.1 B.2.1 dX12_feed_106 hl (k := 1) rfl (iI_add _ _) (by decide) rfl (fun ls hl => ?_)
                                                            refine lv_goto (tgt := 18) B.1 B.2.1 dX12_feed_109 (by decide) ?_
                                                            refine lv_iload B.1 B.2.1 dX12_feed_18 (lv_at hl 0 rfl) ?_
                                                            refine x_bipush B (by decide) dX12_feed_20 ?_
                                                            refine x_icmp_ge B (by omega) (tgt := 112) dX12_feed_22 (by decide) (fun c50 => ?_) (fun c50 => ?_)
                                                            · exact absurd c50 (by omega)
                                                            · refine lv_iload B.1 B.2.1 dX12_feed_25 (lv_at hl 0 rfl) ?_
                                                              refine x_iconst B dX12_feed_27 ?_
                                                              refine x_icmp_ge B (by omega) (tgt := 35) dX12_feed_28 (by decide) (fun c51 => ?_) (fun c51 => ?_)
                                                              · refine lv_iload B.1 B.2.1 dX12_feed_35 (lv_at hl 0 rfl) ?_
                                                                refine x_bipush B (by decide) dX12_feed_37 ?_
                                                                refine x_icmp_ge B (by omega) (tgt := 46) dX12_feed_39 (by decide) (fun c52 => ?_) (fun c52 => ?_)
                                                                · refine lv_iload B.1 B.2.1 dX12_feed_46 (lv_at hl 0 rfl) ?_
                                                                  refine x_bipush B (by decide) dX12_feed_48 ?_
                                                                  refine x_icmp_ge B (by omega) (tgt := 57) dX12_feed_50 (by decide) (fun c53 => ?_) (fun c53 => ?_)
                                                                  · exact absurd c53 (by omega)
                                                                  · refine lv_iload_n B.1 B.2.1 dX12_feed_53 rfl (lv_at hl 5 rfl) ?_
                                                                    refine lv_goto (tgt := 71) B.1 B.2.1 dX12_feed_54 (by decide) ?_
                                                                    refine lv_istore (lv' := [(7, .int (x3)), (6, .int (iI ((((((((((0 + 1) + 1) + 1) + 1) + 1) + 1) + 1) + 1) + 1) + 1))), (0, .ref (am 0)), (1, .int (x1)), (2, .int (x2)), (3, .int (x3)), (4, .int (x4)), (5, .int (x5))]) B.1 B.2.1 dX12_feed_71 hl (by decide) rfl (fun ls hl => ?_)
                                                                    refine lv_aload_n B.1 B.2.1 dX12_feed_73 rfl (lv_at hl 2 rfl) ?_
                                                                    refine x_getR B h kX12 0 (xset_eq f0) 31 (b := am 25) rfl m_1292 (by decide) dX12_feed_74 ?_
                                                                    refine lv_aload_n B.1 B.2.1 dX12_feed_77 rfl (lv_at hl 2 rfl) ?_
                                                                    refine x_getX B h kX12 0 (xset_eq f0) 32 (z := ((((((((((0 + 1) + 1) + 1) + 1) + 1) + 1) + 1) + 1) + 1) + 1)) rfl m_1293 (by decide) dX12_feed_78 ?_
                                                                    refine lv_iload B.1 B.2.1 dX12_feed_81 (lv_at hl 0 rfl) ?_
                                                                    refine x_bipush B (by decide) dX12_feed_83 ?_
                                                                    refine x_bipush B (by decide) dX12_feed_85 ?_
                                                                    refine lv_iload B.1 B.2.1 dX12_feed_87 (lv_at hl 1 rfl) ?_
                                                                    refine x_iconst B dX12_feed_89 ?_
                                                                    refine x_irem B (by omega) dX12_feed_90 ?_
                                                                    refine x_imul B dX12_feed_91 ?_
                                                                    refine x_isub B dX12_feed_92 ?_
                                                                    refine lv_ishr B.1 B.2.1 dX12_feed_93 ?_
                                                                    refine x_raw (fun y54 => ?_)
                                                                    refine lv_i2b B.1 B.2.1 dX12_feed_94 rfl ?_
                                                                    refine x_raw (fun y55 => ?_)
                                                                    refine x_bastS B h 25 (xset_ne f25 (by decide)) (by omega) (fun _ _ => trivial) dX12_feed_95 (fun H locs h => ?_)
                                                                    refine lv_aload_n B.1 B.2.1 dX12_feed_96 rfl (lv_at hl 2 rfl) ?_
                                                                    refine lv_dup B.1 B.2.1 dX12_feed_97 rfl ?_
                                                                    refine x_getX B h kX12 0 (xset_eq f0) 32 (z := ((((((((((0 + 1) + 1) + 1) + 1) + 1) + 1) + 1) + 1) + 1) + 1)) rfl m_1293 (by decide) dX12_feed_98 ?_
                                                                    refine x_iconst B dX12_feed_101 ?_
                                                                    refine x_iadd B dX12_feed_102 ?_
                                                                    refine x_put B h kX12 0 (xset_eq f0) 32 (Nat.le_of_ble_eq_true rfl) (P' := fX (((((((((((0 + 1) + 1) + 1) + 1) + 1) + 1) + 1) + 1) + 1) + 1) + 1)) m_1293 (by decide) rfl rfl rfl rfl dX12_feed_103 (fun H locs h => ?_)
                                                                    have h : xH D A s.heap (w.set 0 (am 0, xO 12 [fR (am 1), fX 0, fX 0, fX 0, fX 0, fX 1, fX 1, fR (am 2), fR (am 3), fR (am 4), fR (am 5), fR (am 6), fR (am 7), fR (am 8), fR (am 9), fR (am 10), fR (am 11), fR (am 12), fR (am 13), fR (am 14), fR (am 15), fR (am 16), fR (am 17), fX 0, fR (am 18), fR (am 19), fR (am 20), fR (am 21), fR (am 22), fR (am 23), fR (am 24), fR (am 25), fX (((((((((((0 + 1) + 1) + 1) + 1) + 1) + 1) + 1) + 1) + 1) + 1) + 1), fX (-1), fG 0 0, fG 0 0, fG 0 0, fG 0 0, fG 0 0, fG 0 0, fG 0 0, fG 0 0, fL, fX 0, fR (am 26), fX 0, fX 0, fR (am 27), fR (am 28), fR (am 29), fR (am 30), fR (am 31), fX 0, fX 0, fX 0, fX 0, fR (am 32), fX 0, fX 0, fX 0, fX 0, fR (am 33), fR (am 34), fR (am 35), fX 0, fX 0, fR (am 36), fR (am 37), fR (am 38), fX (-1), fX 0, fX 0, fX 0, fR (am 39), fX 0, fR (am 40), fR (am 41), fR (am 42), fR (am 43), fR (am 44)])) H locs := by rw [List.set_set] at h; exact h
                                                                    refine lv_iinc (v := iI (((((((((((0 + 1) + 1) + 1) + 1) + 1) + 1) + 1) + 1) + 1) + 1) + 1)) (lv' := [(6, .int (iI (((((((((((0 + 1) + 1) + 1) + 1) + 1) + 1) + 1) + 1) + 1) + 1) + 1))), (7, .int (x3)), (0, .ref (am 0)), (1, .int (x1)), (2, .int (x2)), (3, .int (x3)), (4, .int (x4)), (5, .int (x5))]) B.1 B.2.1 dX12_feed_106 hl (k := 1) rfl (iI_add _ _) (by decide) rfl (fun ls hl => ?_)
                                                                    refine lv_goto (tgt := 18) B.1 B.2.1 dX12_feed_109 (by decide) ?_
                                                                    refine lv_iload B.1 B.2.1 dX12_feed_18 (lv_at hl 0 rfl) ?_
                                                                    refine x_bipush B (by decide) dX12_feed_20 ?_
                                                                    refine x_icmp_ge B (by omega) (tgt := 112) dX12_feed_22 (by decide) (fun c56 => ?_) (fun c56 => ?_)
                                                                    · exact absurd c56 (by omega)
                                                                    · refine lv_iload B.1 B.2.1 dX12_feed_25 (lv_at hl 0 rfl) ?_
                                                                      refine x_iconst B dX12_feed_27 ?_
                                                                      refine x_icmp_ge B (by omega) (tgt := 35) dX12_feed_28 (by decide) (fun c57 => ?_) (fun c57 => ?_)
                                                                      · refine lv_iload B.1 B.2.1 dX12_feed_35 (lv_at hl 0 rfl) ?_
                                                                        refine x_bipush B (by decide) dX12_feed_37 ?_
                                                                        refine x_icmp_ge B (by omega) (tgt := 46) dX12_feed_39 (by decide) (fun c58 => ?_) (fun c58 => ?_)
                                                                        · refine lv_iload B.1 B.2.1 dX12_feed_46 (lv_at hl 0 rfl) ?_
                                                                          refine x_bipush B (by decide) dX12_feed_48 ?_
                                                                          refine x_icmp_ge B (by omega) (tgt := 57) dX12_feed_50 (by decide) (fun c59 => ?_) (fun c59 => ?_)
                                                                          · exact absurd c59 (by omega)
                                                                          · refine lv_iload_n B.1 B.2.1 dX12_feed_53 rfl (lv_at hl 5 rfl) ?_
                                                                            refine lv_goto (tgt := 71) B.1 B.2.1 dX12_feed_54 (by decide) ?_
                                                                            refine lv_istore (lv' := [(7, .int (x3)), (6, .int (iI (((((((((((0 + 1) + 1) + 1) + 1) + 1) + 1) + 1) + 1) + 1) + 1) + 1))), (0, .ref (am 0)), (1, .int (x1)), (2, .int (x2)), (3, .int (x3)), (4, .int (x4)), (5, .int (x5))]) B.1 B.2.1 dX12_feed_71 hl (by decide) rfl (fun ls hl => ?_)
                                                                            refine lv_aload_n B.1 B.2.1 dX12_feed_73 rfl (lv_at hl 2 rfl) ?_
                                                                            refine x_getR B h kX12 0 (xset_eq f0) 31 (b := am 25) rfl m_1292 (by decide) dX12_feed_74 ?_
                                                                            refine lv_aload_n B.1 B.2.1 dX12_feed_77 rfl (lv_at hl 2 rfl) ?_
                                                                            refine x_getX B h kX12 0 (xset_eq f0) 32 (z := (((((((((((0 + 1) + 1) + 1) + 1) + 1) + 1) + 1) + 1) + 1) + 1) + 1)) rfl m_1293 (by decide) dX12_feed_78 ?_
                                                                            refine lv_iload B.1 B.2.1 dX12_feed_81 (lv_at hl 0 rfl) ?_
                                                                            refine x_bipush B (by decide) dX12_feed_83 ?_
                                                                            refine x_bipush B (by decide) dX12_feed_85 ?_
                                                                            refine lv_iload B.1 B.2.1 dX12_feed_87 (lv_at hl 1 rfl) ?_
                                                                            refine x_iconst B dX12_feed_89 ?_
                                                                            refine x_irem B (by omega) dX12_feed_90 ?_
                                                                            refine x_imul B dX12_feed_91 ?_
                                                                            refine x_isub B dX12_feed_92 ?_
                                                                            refine lv_ishr B.1 B.2.1 dX12_feed_93 ?_
                                                                            refine x_raw (fun y60 => ?_)
                                                                            refine lv_i2b B.1 B.2.1 dX12_feed_94 rfl ?_
                                                                            refine x_raw (fun y61 => ?_)
                                                                            refine x_bastS B h 25 (xset_ne f25 (by decide)) (by omega) (fun _ _ => trivial) dX12_feed_95 (fun H locs h => ?_)
                                                                            refine lv_aload_n B.1 B.2.1 dX12_feed_96 rfl (lv_at hl 2 rfl) ?_
                                                                            refine lv_dup B.1 B.2.1 dX12_feed_97 rfl ?_
                                                                            refine x_getX B h kX12 0 (xset_eq f0) 32 (z := (((((((((((0 + 1) + 1) + 1) + 1) + 1) + 1) + 1) + 1) + 1) + 1) + 1)) rfl m_1293 (by decide) dX12_feed_98 ?_
                                                                            refine x_iconst B dX12_feed_101 ?_
                                                                            refine x_iadd B dX12_feed_102 ?_
                                                                            refine x_put B h kX12 0 (xset_eq f0) 32 (Nat.le_of_ble_eq_true rfl) (P' := fX ((((((((((((0 + 1) + 1) + 1) + 1) + 1) + 1) + 1) + 1) + 1) + 1) + 1) + 1)) m_1293 (by decide) rfl rfl rfl rfl dX12_feed_103 (fun H locs h => ?_)
                                                                            have h : xH D A s.heap (w.set 0 (am 0, xO 12 [fR (am 1), fX 0, fX 0, fX 0, fX 0, fX 1, fX 1, fR (am 2), fR (am 3), fR (am 4), fR (am 5), fR (am 6), fR (am 7), fR (am 8), fR (am 9), fR (am 10), fR (am 11), fR (am 12), fR (am 13), fR (am 14), fR (am 15), fR (am 16), fR (am 17), fX 0, fR (am 18), fR (am 19), fR (am 20), fR (am 21), fR (am 22), fR (am 23), fR (am 24), fR (am 25), fX ((((((((((((0 + 1) + 1) + 1) + 1) + 1) + 1) + 1) + 1) + 1) + 1) + 1) + 1), fX (-1), fG 0 0, fG 0 0, fG 0 0, fG 0 0, fG 0 0, fG 0 0, fG 0 0, fG 0 0, fL, fX 0, fR (am 26), fX 0, fX 0, fR (am 27), fR (am 28), fR (am 29), fR (am 30), fR (am 31), fX 0, fX 0, fX 0, fX 0, fR (am 32), fX 0, fX 0, fX 0, fX 0, fR (am 33), fR (am 34), fR (am 35), fX 0, fX 0, fR (am 36), fR (am 37), fR (am 38), fX (-1), fX 0, fX 0, fX 0, fR (am 39), fX 0, fR (am 40), fR (am 41), fR (am 42), fR (am 43), fR (am 44)])) H locs := by rw [List.set_set] at h; exact h
                                                                            refine lv_iinc (v := iI ((((((((((((0 + 1) + 1) + 1) + 1) + 1) + 1) + 1) + 1) + 1) + 1) + 1) + 1)) (lv' := [(6, .int (iI ((((((((((((0 + 1) + 1) + 1) + 1) + 1) + 1) + 1) + 1) + 1) + 1) + 1) + 1))), (7, .int (x3)), (0, .ref (am 0)), (1, .int (x1)), (2, .int (x2)), (3, .int (x3)), (4, .int (x4)), (5, .int (x5))]) B.1 B.2.1 dX12_feed_106 hl (k := 1) rfl (iI_add _ _) (by decide) rfl (fun ls hl => ?_)
                                                                            refine lv_goto (tgt := 18) B.1 B.2.1 dX12_feed_109 (by decide) ?_
                                                                            refine lv_iload B.1 B.2.1 dX12_feed_18 (lv_at hl 0 rfl) ?_
                                                                            refine x_bipush B (by decide) dX12_feed_20 ?_
                                                                            refine x_icmp_ge B (by omega) (tgt := 112) dX12_feed_22 (by decide) (fun c62 => ?_) (fun c62 => ?_)
                                                                            · exact absurd c62 (by omega)
                                                                            · refine lv_iload B.1 B.2.1 dX12_feed_25 (lv_at hl 0 rfl) ?_
                                                                              refine x_iconst B dX12_feed_27 ?_
                                                                              refine x_icmp_ge B (by omega) (tgt := 35) dX12_feed_28 (by decide) (fun c63 => ?_) (fun c63 => ?_)
                                                                              · refine lv_iload B.1 B.2.1 dX12_feed_35 (lv_at hl 0 rfl) ?_
                                                                                refine x_bipush B (by decide) dX12_feed_37 ?_
                                                                                refine x_icmp_ge B (by omega) (tgt := 46) dX12_feed_39 (by decide) (fun c64 => ?_) (fun c64 => ?_)
                                                                                · refine lv_iload B.1 B.2.1 dX12_feed_46 (lv_at hl 0 rfl) ?_
                                                                                  refine x_bipush B (by decide) dX12_feed_48 ?_
                                                                                  refine x_icmp_ge B (by omega) (tgt := 57) dX12_feed_50 (by decide) (fun c65 => ?_) (fun c65 => ?_)
                                                                                  · refine lv_iload B.1 B.2.1 dX12_feed_57 (lv_at hl 0 rfl) ?_
                                                                                    refine x_bipush B (by decide) dX12_feed_59 ?_
                                                                                    refine x_icmp_ge B (by omega) (tgt := 69) dX12_feed_61 (by decide) (fun c66 => ?_) (fun c66 => ?_)
                                                                                    · exact absurd c66 (by omega)
                                                                                    · refine lv_iload B.1 B.2.1 dX12_feed_64 (lv_at hl 6 rfl) ?_
                                                                                      refine lv_goto (tgt := 71) B.1 B.2.1 dX12_feed_66 (by decide) ?_
                                                                                      refine lv_istore (lv' := [(7, .int (x4)), (6, .int (iI ((((((((((((0 + 1) + 1) + 1) + 1) + 1) + 1) + 1) + 1) + 1) + 1) + 1) + 1))), (0, .ref (am 0)), (1, .int (x1)), (2, .int (x2)), (3, .int (x3)), (4, .int (x4)), (5, .int (x5))]) B.1 B.2.1 dX12_feed_71 hl (by decide) rfl (fun ls hl => ?_)
                                                                                      refine lv_aload_n B.1 B.2.1 dX12_feed_73 rfl (lv_at hl 2 rfl) ?_
                                                                                      refine x_getR B h kX12 0 (xset_eq f0) 31 (b := am 25) rfl m_1292 (by decide) dX12_feed_74 ?_
                                                                                      refine lv_aload_n B.1 B.2.1 dX12_feed_77 rfl (lv_at hl 2 rfl) ?_
                                                                                      refine x_getX B h kX12 0 (xset_eq f0) 32 (z := ((((((((((((0 + 1) + 1) + 1) + 1) + 1) + 1) + 1) + 1) + 1) + 1) + 1) + 1)) rfl m_1293 (by decide) dX12_feed_78 ?_
                                                                                      refine lv_iload B.1 B.2.1 dX12_feed_81 (lv_at hl 0 rfl) ?_
                                                                                      refine x_bipush B (by decide) dX12_feed_83 ?_
                                                                                      refine x_bipush B (by decide) dX12_feed_85 ?_
                                                                                      refine lv_iload B.1 B.2.1 dX12_feed_87 (lv_at hl 1 rfl) ?_
                                                                                      refine x_iconst B dX12_feed_89 ?_
                                                                                      refine x_irem B (by omega) dX12_feed_90 ?_
                                                                                      refine x_imul B dX12_feed_91 ?_
                                                                                      refine x_isub B dX12_feed_92 ?_
                                                                                      refine lv_ishr B.1 B.2.1 dX12_feed_93 ?_
                                                                                      refine x_raw (fun y67 => ?_)
                                                                                      refine lv_i2b B.1 B.2.1 dX12_feed_94 rfl ?_
                                                                                      refine x_raw (fun y68 => ?_)
                                                                                      refine x_bastS B h 25 (xset_ne f25 (by decide)) (by omega) (fun _ _ => trivial) dX12_feed_95 (fun H locs h => ?_)
                                                                                      refine lv_aload_n B.1 B.2.1 dX12_feed_96 rfl (lv_at hl 2 rfl) ?_
                                                                                      refine lv_dup B.1 B.2.1 dX12_feed_97 rfl ?_
                                                                                      refine x_getX B h kX12 0 (xset_eq f0) 32 (z := ((((((((((((0 + 1) + 1) + 1) + 1) + 1) + 1) + 1) + 1) + 1) + 1) + 1) + 1)) rfl m_1293 (by decide) dX12_feed_98 ?_
                                                                                      refine x_iconst B dX12_feed_101 ?_
                                                                                      refine x_iadd B dX12_feed_102 ?_
                                                                                      refine x_put B h kX12 0 (xset_eq f0) 32 (Nat.le_of_ble_eq_true rfl) (P' := fX (((((((((((((0 + 1) + 1) + 1) + 1) + 1) + 1) + 1) + 1) + 1) + 1) + 1) + 1) + 1)) m_1293 (by decide) rfl rfl rfl rfl dX12_feed_103 (fun H locs h => ?_)
                                                                                      have h : xH D A s.heap (w.set 0 (am 0, xO 12 [fR (am 1), fX 0, fX 0, fX 0, fX 0, fX 1, fX 1, fR (am 2), fR (am 3), fR (am 4), fR (am 5), fR (am 6), fR (am 7), fR (am 8), fR (am 9), fR (am 10), fR (am 11), fR (am 12), fR (am 13), fR (am 14), fR (am 15), fR (am 16), fR (am 17), fX 0, fR (am 18), fR (am 19), fR (am 20), fR (am 21), fR (am 22), fR (am 23), fR (am 24), fR (am 25), fX (((((((((((((0 + 1) + 1) + 1) + 1) + 1) + 1) + 1) + 1) + 1) + 1) + 1) + 1) + 1), fX (-1), fG 0 0, fG 0 0, fG 0 0, fG 0 0, fG 0 0, fG 0 0, fG 0 0, fG 0 0, fL, fX 0, fR (am 26), fX 0, fX 0, fR (am 27), fR (am 28), fR (am 29), fR (am 30), fR (am 31), fX 0, fX 0, fX 0, fX 0, fR (am 32), fX 0, fX 0, fX 0, fX 0, fR (am 33), fR (am 34), fR (am 35), fX 0, fX 0, fR (am 36), fR (am 37), fR (am 38), fX (-1), fX 0, fX 0, fX 0, fR (am 39), fX 0, fR (am 40), fR (am 41), fR (am 42), fR (am 43), fR (am 44)])) H locs := by rw [List.set_set] at h; exact h
                                                                                      refine lv_iinc (v := iI (((((((((((((0 + 1) + 1) + 1) + 1) + 1) + 1) + 1) + 1) + 1) + 1) + 1) + 1) + 1)) (lv' := [(6, .int (iI (((((((((((((0 + 1) + 1) + 1) + 1) + 1) + 1) + 1) + 1) + 1) + 1) + 1) + 1) + 1))), (7, .int (x4)), (0, .ref (am 0)), (1, .int (x1)), (2, .int (x2)), (3, .int (x3)), (4, .int (x4)), (5, .int (x5))]) B.1 B.2.1 dX12_feed_106 hl (k := 1) rfl (iI_add _ _) (by decide) rfl (fun ls hl => ?_)
                                                                                      refine lv_goto (tgt := 18) B.1 B.2.1 dX12_feed_109 (by decide) ?_
                                                                                      refine lv_iload B.1 B.2.1 dX12_feed_18 (lv_at hl 0 rfl) ?_
                                                                                      refine x_bipush B (by decide) dX12_feed_20 ?_
                                                                                      refine x_icmp_ge B (by omega) (tgt := 112) dX12_feed_22 (by decide) (fun c69 => ?_) (fun c69 => ?_)
                                                                                      · exact absurd c69 (by omega)
                                                                                      · refine lv_iload B.1 B.2.1 dX12_feed_25 (lv_at hl 0 rfl) ?_
                                                                                        refine x_iconst B dX12_feed_27 ?_
                                                                                        refine x_icmp_ge B (by omega) (tgt := 35) dX12_feed_28 (by decide) (fun c70 => ?_) (fun c70 => ?_)
                                                                                        · refine lv_iload B.1 B.2.1 dX12_feed_35 (lv_at hl 0 rfl) ?_
                                                                                          refine x_bipush B (by decide) dX12_feed_37 ?_
                                                                                          refine x_icmp_ge B (by omega) (tgt := 46) dX12_feed_39 (by decide) (fun c71 => ?_) (fun c71 => ?_)
                                                                                          · refine lv_iload B.1 B.2.1 dX12_feed_46 (lv_at hl 0 rfl) ?_
                                                                                            refine x_bipush B (by decide) dX12_feed_48 ?_
                                                                                            refine x_icmp_ge B (by omega) (tgt := 57) dX12_feed_50 (by decide) (fun c72 => ?_) (fun c72 => ?_)
                                                                                            · refine lv_iload B.1 B.2.1 dX12_feed_57 (lv_at hl 0 rfl) ?_
                                                                                              refine x_bipush B (by decide) dX12_feed_59 ?_
                                                                                              refine x_icmp_ge B (by omega) (tgt := 69) dX12_feed_61 (by decide) (fun c73 => ?_) (fun c73 => ?_)
                                                                                              · exact absurd c73 (by omega)
                                                                                              · refine lv_iload B.1 B.2.1 dX12_feed_64 (lv_at hl 6 rfl) ?_
                                                                                                refine lv_goto (tgt := 71) B.1 B.2.1 dX12_feed_66 (by decide) ?_
                                                                                                refine lv_istore (lv' := [(7, .int (x4)), (6, .int (iI (((((((((((((0 + 1) + 1) + 1) + 1) + 1) + 1) + 1) + 1) + 1) + 1) + 1) + 1) + 1))), (0, .ref (am 0)), (1, .int (x1)), (2, .int (x2)), (3, .int (x3)), (4, .int (x4)), (5, .int (x5))]) B.1 B.2.1 dX12_feed_71 hl (by decide) rfl (fun ls hl => ?_)
                                                                                                refine lv_aload_n B.1 B.2.1 dX12_feed_73 rfl (lv_at hl 2 rfl) ?_
                                                                                                refine x_getR B h kX12 0 (xset_eq f0) 31 (b := am 25) rfl m_1292 (by decide) dX12_feed_74 ?_
                                                                                                refine lv_aload_n B.1 B.2.1 dX12_feed_77 rfl (lv_at hl 2 rfl) ?_
                                                                                                refine x_getX B h kX12 0 (xset_eq f0) 32 (z := (((((((((((((0 + 1) + 1) + 1) + 1) + 1) + 1) + 1) + 1) + 1) + 1) + 1) + 1) + 1)) rfl m_1293 (by decide) dX12_feed_78 ?_
                                                                                                refine lv_iload B.1 B.2.1 dX12_feed_81 (lv_at hl 0 rfl) ?_
                                                                                                refine x_bipush B (by decide) dX12_feed_83 ?_
                                                                                                refine x_bipush B (by decide) dX12_feed_85 ?_
                                                                                                refine lv_iload B.1 B.2.1 dX12_feed_87 (lv_at hl 1 rfl) ?_
                                                                                                refine x_iconst B dX12_feed_89 ?_
                                                                                                refine x_irem B (by omega) dX12_feed_90 ?_
                                                                                                refine x_imul B dX12_feed_91 ?_
                                                                                                refine x_isub B dX12_feed_92 ?_
                                                                                                refine lv_ishr B.1 B.2.1 dX12_feed_93 ?_
                                                                                                refine x_raw (fun y74 => ?_)
                                                                                                refine lv_i2b B.1 B.2.1 dX12_feed_94 rfl ?_
                                                                                                refine x_raw (fun y75 => ?_)
                                                                                                refine x_bastS B h 25 (xset_ne f25 (by decide)) (by omega) (fun _ _ => trivial) dX12_feed_95 (fun H locs h => ?_)
                                                                                                refine lv_aload_n B.1 B.2.1 dX12_feed_96 rfl (lv_at hl 2 rfl) ?_
                                                                                                refine lv_dup B.1 B.2.1 dX12_feed_97 rfl ?_
                                                                                                refine x_getX B h kX12 0 (xset_eq f0) 32 (z := (((((((((((((0 + 1) + 1) + 1) + 1) + 1) + 1) + 1) + 1) + 1) + 1) + 1) + 1) + 1)) rfl m_1293 (by decide) dX12_feed_98 ?_
                                                                                                refine x_iconst B dX12_feed_101 ?_
                                                                                                refine x_iadd B dX12_feed_102 ?_
                                                                                                refine x_put B h kX12 0 (xset_eq f0) 32 (Nat.le_of_ble_eq_true rfl) (P' := fX ((((((((((((((0 + 1) + 1) + 1) + 1) + 1) + 1) + 1) + 1) + 1) + 1) + 1) + 1) + 1) + 1)) m_1293 (by decide) rfl rfl rfl rfl dX12_feed_103 (fun H locs h => ?_)
                                                                                                have h : xH D A s.heap (w.set 0 (am 0, xO 12 [fR (am 1), fX 0, fX 0, fX 0, fX 0, fX 1, fX 1, fR (am 2), fR (am 3), fR (am 4), fR (am 5), fR (am 6), fR (am 7), fR (am 8), fR (am 9), fR (am 10), fR (am 11), fR (am 12), fR (am 13), fR (am 14), fR (am 15), fR (am 16), fR (am 17), fX 0, fR (am 18), fR (am 19), fR (am 20), fR (am 21), fR (am 22), fR (am 23), fR (am 24), fR (am 25), fX ((((((((((((((0 + 1) + 1) + 1) + 1) + 1) + 1) + 1) + 1) + 1) + 1) + 1) + 1) + 1) + 1), fX (-1), fG 0 0, fG 0 0, fG 0 0, fG 0 0, fG 0 0, fG 0 0, fG 0 0, fG 0 0, fL, fX 0, fR (am 26), fX 0, fX 0, fR (am 27), fR (am 28), fR (am 29), fR (am 30), fR (am 31), fX 0, fX 0, fX 0, fX 0, fR (am 32), fX 0, fX 0, fX 0, fX 0, fR (am 33), fR (am 34), fR (am 35), fX 0, fX 0, fR (am 36), fR (am 37), fR (am 38), fX (-1), fX 0, fX 0, fX 0, fR (am 39), fX 0, fR (am 40), fR (am 41), fR (am 42), fR (am 43), fR (am 44)])) H locs := by rw [List.set_set] at h; exact h
                                                                                                refine lv_iinc (v := iI ((((((((((((((0 + 1) + 1) + 1) + 1) + 1) + 1) + 1) + 1) + 1) + 1) + 1) + 1) + 1) + 1)) (lv' := [(6, .int (iI ((((((((((((((0 + 1) + 1) + 1) + 1) + 1) + 1) + 1) + 1) + 1) + 1) + 1) + 1) + 1) + 1))), (7, .int (x4)), (0, .ref (am 0)), (1, .int (x1)), (2, .int (x2)), (3, .int (x3)), (4, .int (x4)), (5, .int (x5))]) B.1 B.2.1 dX12_feed_106 hl (k := 1) rfl (iI_add _ _) (by decide) rfl (fun ls hl => ?_)
                                                                                                refine lv_goto (tgt := 18) B.1 B.2.1 dX12_feed_109 (by decide) ?_
                                                                                                refine lv_iload B.1 B.2.1 dX12_feed_18 (lv_at hl 0 rfl) ?_
                                                                                                refine x_bipush B (by decide) dX12_feed_20 ?_
                                                                                                refine x_icmp_ge B (by omega) (tgt := 112) dX12_feed_22 (by decide) (fun c76 => ?_) (fun c76 => ?_)
                                                                                                · exact absurd c76 (by omega)
                                                                                                · refine lv_iload B.1 B.2.1 dX12_feed_25 (lv_at hl 0 rfl) ?_
                                                                                                  refine x_iconst B dX12_feed_27 ?_
                                                                                                  refine x_icmp_ge B (by omega) (tgt := 35) dX12_feed_28 (by decide) (fun c77 => ?_) (fun c77 => ?_)
                                                                                                  · refine lv_iload B.1 B.2.1 dX12_feed_35 (lv_at hl 0 rfl) ?_
                                                                                                    refine x_bipush B (by decide) dX12_feed_37 ?_
                                                                                                    refine x_icmp_ge B (by omega) (tgt := 46) dX12_feed_39 (by decide) (fun c78 => ?_) (fun c78 => ?_)
                                                                                                    · refine lv_iload B.1 B.2.1 dX12_feed_46 (lv_at hl 0 rfl) ?_
                                                                                                      refine x_bipush B (by decide) dX12_feed_48 ?_
                                                                                                      refine x_icmp_ge B (by omega) (tgt := 57) dX12_feed_50 (by decide) (fun c79 => ?_) (fun c79 => ?_)
                                                                                                      · refine lv_iload B.1 B.2.1 dX12_feed_57 (lv_at hl 0 rfl) ?_
                                                                                                        refine x_bipush B (by decide) dX12_feed_59 ?_
                                                                                                        refine x_icmp_ge B (by omega) (tgt := 69) dX12_feed_61 (by decide) (fun c80 => ?_) (fun c80 => ?_)
                                                                                                        · exact absurd c80 (by omega)
                                                                                                        · refine lv_iload B.1 B.2.1 dX12_feed_64 (lv_at hl 6 rfl) ?_
                                                                                                          refine lv_goto (tgt := 71) B.1 B.2.1 dX12_feed_66 (by decide) ?_
                                                                                                          refine lv_istore (lv' := [(7, .int (x4)), (6, .int (iI ((((((((((((((0 + 1) + 1) + 1) + 1) + 1) + 1) + 1) + 1) + 1) + 1) + 1) + 1) + 1) + 1))), (0, .ref (am 0)), (1, .int (x1)), (2, .int (x2)), (3, .int (x3)), (4, .int (x4)), (5, .int (x5))]) B.1 B.2.1 dX12_feed_71 hl (by decide) rfl (fun ls hl => ?_)
                                                                                                          refine lv_aload_n B.1 B.2.1 dX12_feed_73 rfl (lv_at hl 2 rfl) ?_
                                                                                                          refine x_getR B h kX12 0 (xset_eq f0) 31 (b := am 25) rfl m_1292 (by decide) dX12_feed_74 ?_
                                                                                                          refine lv_aload_n B.1 B.2.1 dX12_feed_77 rfl (lv_at hl 2 rfl) ?_
                                                                                                          refine x_getX B h kX12 0 (xset_eq f0) 32 (z := ((((((((((((((0 + 1) + 1) + 1) + 1) + 1) + 1) + 1) + 1) + 1) + 1) + 1) + 1) + 1) + 1)) rfl m_1293 (by decide) dX12_feed_78 ?_
                                                                                                          refine lv_iload B.1 B.2.1 dX12_feed_81 (lv_at hl 0 rfl) ?_
                                                                                                          refine x_bipush B (by decide) dX12_feed_83 ?_
                                                                                                          refine x_bipush B (by decide) dX12_feed_85 ?_
                                                                                                          refine lv_iload B.1 B.2.1 dX12_feed_87 (lv_at hl 1 rfl) ?_
                                                                                                          refine x_iconst B dX12_feed_89 ?_
                                                                                                          refine x_irem B (by omega) dX12_feed_90 ?_
                                                                                                          refine x_imul B dX12_feed_91 ?_
                                                                                                          refine x_isub B dX12_feed_92 ?_
                                                                                                          refine lv_ishr B.1 B.2.1 dX12_feed_93 ?_
                                                                                                          refine x_raw (fun y81 => ?_)
                                                                                                          refine lv_i2b B.1 B.2.1 dX12_feed_94 rfl ?_
                                                                                                          refine x_raw (fun y82 => ?_)
                                                                                                          refine x_bastS B h 25 (xset_ne f25 (by decide)) (by omega) (fun _ _ => trivial) dX12_feed_95 (fun H locs h => ?_)
                                                                                                          refine lv_aload_n B.1 B.2.1 dX12_feed_96 rfl (lv_at hl 2 rfl) ?_
                                                                                                          refine lv_dup B.1 B.2.1 dX12_feed_97 rfl ?_
                                                                                                          refine x_getX B h kX12 0 (xset_eq f0) 32 (z := ((((((((((((((0 + 1) + 1) + 1) + 1) + 1) + 1) + 1) + 1) + 1) + 1) + 1) + 1) + 1) + 1)) rfl m_1293 (by decide) dX12_feed_98 ?_
                                                                                                          refine x_iconst B dX12_feed_101 ?_
                                                                                                          refine x_iadd B dX12_feed_102 ?_
                                                                                                          refine x_put B h kX12 0 (xset_eq f0) 32 (Nat.le_of_ble_eq_true rfl) (P' := fX (((((((((((((((0 + 1) + 1) + 1) + 1) + 1) + 1) + 1) + 1) + 1) + 1) + 1) + 1) + 1) + 1) + 1)) m_1293 (by decide) rfl rfl rfl rfl dX12_feed_103 (fun H locs h => ?_)
                                                                                                          have h : xH D A s.heap (w.set 0 (am 0, xO 12 [fR (am 1), fX 0, fX 0, fX 0, fX 0, fX 1, fX 1, fR (am 2), fR (am 3), fR (am 4), fR (am 5), fR (am 6), fR (am 7), fR (am 8), fR (am 9), fR (am 10), fR (am 11), fR (am 12), fR (am 13), fR (am 14), fR (am 15), fR (am 16), fR (am 17), fX 0, fR (am 18), fR (am 19), fR (am 20), fR (am 21), fR (am 22), fR (am 23), fR (am 24), fR (am 25), fX (((((((((((((((0 + 1) + 1) + 1) + 1) + 1) + 1) + 1) + 1) + 1) + 1) + 1) + 1) + 1) + 1) + 1), fX (-1), fG 0 0, fG 0 0, fG 0 0, fG 0 0, fG 0 0, fG 0 0, fG 0 0, fG 0 0, fL, fX 0, fR (am 26), fX 0, fX 0, fR (am 27), fR (am 28), fR (am 29), fR (am 30), fR (am 31), fX 0, fX 0, fX 0, fX 0, fR (am 32), fX 0, fX 0, fX 0, fX 0, fR (am 33), fR (am 34), fR (am 35), fX 0, fX 0, fR (am 36), fR (am 37), fR (am 38), fX (-1), fX 0, fX 0, fX 0, fR (am 39), fX 0, fR (am 40), fR (am 41), fR (am 42), fR (am 43), fR (am 44)])) H locs := by rw [List.set_set] at h; exact h
                                                                                                          refine lv_iinc (v := iI (((((((((((((((0 + 1) + 1) + 1) + 1) + 1) + 1) + 1) + 1) + 1) + 1) + 1) + 1) + 1) + 1) + 1)) (lv' := [(6, .int (iI (((((((((((((((0 + 1) + 1) + 1) + 1) + 1) + 1) + 1) + 1) + 1) + 1) + 1) + 1) + 1) + 1) + 1))), (7, .int (x4)), (0, .ref (am 0)), (1, .int (x1)), (2, .int (x2)), (3, .int (x3)), (4, .int (x4)), (5, .int (x5))]) B.1 B.2.1 dX12_feed_106 hl (k := 1) rfl (iI_add _ _) (by decide) rfl (fun ls hl => ?_)
                                                                                                          refine lv_goto (tgt := 18) B.1 B.2.1 dX12_feed_109 (by decide) ?_
                                                                                                          refine lv_iload B.1 B.2.1 dX12_feed_18 (lv_at hl 0 rfl) ?_
                                                                                                          refine x_bipush B (by decide) dX12_feed_20 ?_
                                                                                                          refine x_icmp_ge B (by omega) (tgt := 112) dX12_feed_22 (by decide) (fun c83 => ?_) (fun c83 => ?_)
                                                                                                          · exact absurd c83 (by omega)
                                                                                                          · refine lv_iload B.1 B.2.1 dX12_feed_25 (lv_at hl 0 rfl) ?_
                                                                                                            refine x_iconst B dX12_feed_27 ?_
                                                                                                            refine x_icmp_ge B (by omega) (tgt := 35) dX12_feed_28 (by decide) (fun c84 => ?_) (fun c84 => ?_)
                                                                                                            · refine lv_iload B.1 B.2.1 dX12_feed_35 (lv_at hl 0 rfl) ?_
                                                                                                              refine x_bipush B (by decide) dX12_feed_37 ?_
                                                                                                              refine x_icmp_ge B (by omega) (tgt := 46) dX12_feed_39 (by decide) (fun c85 => ?_) (fun c85 => ?_)
                                                                                                              · refine lv_iload B.1 B.2.1 dX12_feed_46 (lv_at hl 0 rfl) ?_
                                                                                                                refine x_bipush B (by decide) dX12_feed_48 ?_
                                                                                                                refine x_icmp_ge B (by omega) (tgt := 57) dX12_feed_50 (by decide) (fun c86 => ?_) (fun c86 => ?_)
                                                                                                                · refine lv_iload B.1 B.2.1 dX12_feed_57 (lv_at hl 0 rfl) ?_
                                                                                                                  refine x_bipush B (by decide) dX12_feed_59 ?_
                                                                                                                  refine x_icmp_ge B (by omega) (tgt := 69) dX12_feed_61 (by decide) (fun c87 => ?_) (fun c87 => ?_)
                                                                                                                  · exact absurd c87 (by omega)
                                                                                                                  · refine lv_iload B.1 B.2.1 dX12_feed_64 (lv_at hl 6 rfl) ?_
                                                                                                                    refine lv_goto (tgt := 71) B.1 B.2.1 dX12_feed_66 (by decide) ?_
                                                                                                                    refine lv_istore (lv' := [(7, .int (x4)), (6, .int (iI (((((((((((((((0 + 1) + 1) + 1) + 1) + 1) + 1) + 1) + 1) + 1) + 1) + 1) + 1) + 1) + 1) + 1))), (0, .ref (am 0)), (1, .int (x1)), (2, .int (x2)), (3, .int (x3)), (4, .int (x4)), (5, .int (x5))]) B.1 B.2.1 dX12_feed_71 hl (by decide) rfl (fun ls hl => ?_)
                                                                                                                    refine lv_aload_n B.1 B.2.1 dX12_feed_73 rfl (lv_at hl 2 rfl) ?_
                                                                                                                    refine x_getR B h kX12 0 (xset_eq f0) 31 (b := am 25) rfl m_1292 (by decide) dX12_feed_74 ?_
                                                                                                                    refine lv_aload_n B.1 B.2.1 dX12_feed_77 rfl (lv_at hl 2 rfl) ?_
                                                                                                                    refine x_getX B h kX12 0 (xset_eq f0) 32 (z := (((((((((((((((0 + 1) + 1) + 1) + 1) + 1) + 1) + 1) + 1) + 1) + 1) + 1) + 1) + 1) + 1) + 1)) rfl m_1293 (by decide) dX12_feed_78 ?_
                                                                                                                    refine lv_iload B.1 B.2.1 dX12_feed_81 (lv_at hl 0 rfl) ?_
                                                                                                                    refine x_bipush B (by decide) dX12_feed_83 ?_
                                                                                                                    refine x_bipush B (by decide) dX12_feed_85 ?_
                                                                                                                    refine lv_iload B.1 B.2.1 dX12_feed_87 (lv_at hl 1 rfl) ?_
                                                                                                                    refine x_iconst B dX12_feed_89 ?_
                                                                                                                    refine x_irem B (by omega) dX12_feed_90 ?_
                                                                                                                    refine x_imul B dX12_feed_91 ?_
                                                                                                                    refine x_isub B dX12_feed_92 ?_
                                                                                                                    refine lv_ishr B.1 B.2.1 dX12_feed_93 ?_
                                                                                                                    refine x_raw (fun y88 => ?_)
                                                                                                                    refine lv_i2b B.1 B.2.1 dX12_feed_94 rfl ?_
                                                                                                                    refine x_raw (fun y89 => ?_)
                                                                                                                    refine x_bastS B h 25 (xset_ne f25 (by decide)) (by omega) (fun _ _ => trivial) dX12_feed_95 (fun H locs h => ?_)
                                                                                                                    refine lv_aload_n B.1 B.2.1 dX12_feed_96 rfl (lv_at hl 2 rfl) ?_
                                                                                                                    refine lv_dup B.1 B.2.1 dX12_feed_97 rfl ?_
                                                                                                                    refine x_getX B h kX12 0 (xset_eq f0) 32 (z := (((((((((((((((0 + 1) + 1) + 1) + 1) + 1) + 1) + 1) + 1) + 1) + 1) + 1) + 1) + 1) + 1) + 1)) rfl m_1293 (by decide) dX12_feed_98 ?_
                                                                                                                    refine x_iconst B dX12_feed_101 ?_
                                                                                                                    refine x_iadd B dX12_feed_102 ?_
                                                                                                                    refine x_put B h kX12 0 (xset_eq f0) 32 (Nat.le_of_ble_eq_true rfl) (P' := fX ((((((((((((((((0 + 1) + 1) + 1) + 1) + 1) + 1) + 1) + 1) + 1) + 1) + 1) + 1) + 1) + 1) + 1) + 1)) m_1293 (by decide) rfl rfl rfl rfl dX12_feed_103 (fun H locs h => ?_)
                                                                                                                    have h : xH D A s.heap (w.set 0 (am 0, xO 12 [fR (am 1), fX 0, fX 0, fX 0, fX 0, fX 1, fX 1, fR (am 2), fR (am 3), fR (am 4), fR (am 5), fR (am 6), fR (am 7), fR (am 8), fR (am 9), fR (am 10), fR (am 11), fR (am 12), fR (am 13), fR (am 14), fR (am 15), fR (am 16), fR (am 17), fX 0, fR (am 18), fR (am 19), fR (am 20), fR (am 21), fR (am 22), fR (am 23), fR (am 24), fR (am 25), fX ((((((((((((((((0 + 1) + 1) + 1) + 1) + 1) + 1) + 1) + 1) + 1) + 1) + 1) + 1) + 1) + 1) + 1) + 1), fX (-1), fG 0 0, fG 0 0, fG 0 0, fG 0 0, fG 0 0, fG 0 0, fG 0 0, fG 0 0, fL, fX 0, fR (am 26), fX 0, fX 0, fR (am 27), fR (am 28), fR (am 29), fR (am 30), fR (am 31), fX 0, fX 0, fX 0, fX 0, fR (am 32), fX 0, fX 0, fX 0, fX 0, fR (am 33), fR (am 34), fR (am 35), fX 0, fX 0, fR (am 36), fR (am 37), fR (am 38), fX (-1), fX 0, fX 0, fX 0, fR (am 39), fX 0, fR (am 40), fR (am 41), fR (am 42), fR (am 43), fR (am 44)])) H locs := by rw [List.set_set] at h; exact h
                                                                                                                    refine lv_iinc (v := iI ((((((((((((((((0 + 1) + 1) + 1) + 1) + 1) + 1) + 1) + 1) + 1) + 1) + 1) + 1) + 1) + 1) + 1) + 1)) (lv' := [(6, .int (iI ((((((((((((((((0 + 1) + 1) + 1) + 1) + 1) + 1) + 1) + 1) + 1) + 1) + 1) + 1) + 1) + 1) + 1) + 1))), (7, .int (x4)), (0, .ref (am 0)), (1, .int (x1)), (2, .int (x2)), (3, .int (x3)), (4, .int (x4)), (5, .int (x5))]) B.1 B.2.1 dX12_feed_106 hl (k := 1) rfl (iI_add _ _) (by decide) rfl (fun ls hl => ?_)
                                                                                                                    refine lv_goto (tgt := 18) B.1 B.2.1 dX12_feed_109 (by decide) ?_
                                                                                                                    refine lv_iload B.1 B.2.1 dX12_feed_18 (lv_at hl 0 rfl) ?_
                                                                                                                    refine x_bipush B (by decide) dX12_feed_20 ?_
                                                                                                                    refine x_icmp_ge B (by omega) (tgt := 112) dX12_feed_22 (by decide) (fun c90 => ?_) (fun c90 => ?_)
                                                                                                                    · exact absurd c90 (by omega)
                                                                                                                    · refine lv_iload B.1 B.2.1 dX12_feed_25 (lv_at hl 0 rfl) ?_
                                                                                                                      refine x_iconst B dX12_feed_27 ?_
                                                                                                                      refine x_icmp_ge B (by omega) (tgt := 35) dX12_feed_28 (by decide) (fun c91 => ?_) (fun c91 => ?_)
                                                                                                                      · refine lv_iload B.1 B.2.1 dX12_feed_35 (lv_at hl 0 rfl) ?_
                                                                                                                        refine x_bipush B (by decide) dX12_feed_37 ?_
                                                                                                                        refine x_icmp_ge B (by omega) (tgt := 46) dX12_feed_39 (by decide) (fun c92 => ?_) (fun c92 => ?_)
                                                                                                                        · refine lv_iload B.1 B.2.1 dX12_feed_46 (lv_at hl 0 rfl) ?_
                                                                                                                          refine x_bipush B (by decide) dX12_feed_48 ?_
                                                                                                                          refine x_icmp_ge B (by omega) (tgt := 57) dX12_feed_50 (by decide) (fun c93 => ?_) (fun c93 => ?_)
                                                                                                                          · refine lv_iload B.1 B.2.1 dX12_feed_57 (lv_at hl 0 rfl) ?_
                                                                                                                            refine x_bipush B (by decide) dX12_feed_59 ?_
                                                                                                                            refine x_icmp_ge B (by omega) (tgt := 69) dX12_feed_61 (by decide) (fun c94 => ?_) (fun c94 => ?_)
                                                                                                                            · refine lv_iload B.1 B.2.1 dX12_feed_69 (lv_at hl 7 rfl) ?_
                                                                                                                              refine lv_istore (lv' := [(7, .int (x5)), (6, .int (iI ((((((((((((((((0 + 1) + 1) + 1) + 1) + 1) + 1) + 1) + 1) + 1) + 1) + 1) + 1) + 1) + 1) + 1) + 1))), (0, .ref (am 0)), (1, .int (x1)), (2, .int (x2)), (3, .int (x3)), (4, .int (x4)), (5, .int (x5))]) B.1 B.2.1 dX12_feed_71 hl (by decide) rfl (fun ls hl => ?_)
                                                                                                                              refine lv_aload_n B.1 B.2.1 dX12_feed_73 rfl (lv_at hl 2 rfl) ?_
                                                                                                                              refine x_getR B h kX12 0 (xset_eq f0) 31 (b := am 25) rfl m_1292 (by decide) dX12_feed_74 ?_
                                                                                                                              refine lv_aload_n B.1 B.2.1 dX12_feed_77 rfl (lv_at hl 2 rfl) ?_
                                                                                                                              refine x_getX B h kX12 0 (xset_eq f0) 32 (z := ((((((((((((((((0 + 1) + 1) + 1) + 1) + 1) + 1) + 1) + 1) + 1) + 1) + 1) + 1) + 1) + 1) + 1) + 1)) rfl m_1293 (by decide) dX12_feed_78 ?_
                                                                                                                              refine lv_iload B.1 B.2.1 dX12_feed_81 (lv_at hl 0 rfl) ?_
                                                                                                                              refine x_bipush B (by decide) dX12_feed_83 ?_
                                                                                                                              refine x_bipush B (by decide) dX12_feed_85 ?_
                                                                                                                              refine lv_iload B.1 B.2.1 dX12_feed_87 (lv_at hl 1 rfl) ?_
                                                                                                                              refine x_iconst B dX12_feed_89 ?_
                                                                                                                              refine x_irem B (by omega) dX12_feed_90 ?_
                                                                                                                              refine x_imul B dX12_feed_91 ?_
                                                                                                                              refine x_isub B dX12_feed_92 ?_
                                                                                                                              refine lv_ishr B.1 B.2.1 dX12_feed_93 ?_
                                                                                                                              refine x_raw (fun y95 => ?_)
                                                                                                                              refine lv_i2b B.1 B.2.1 dX12_feed_94 rfl ?_
                                                                                                                              refine x_raw (fun y96 => ?_)
                                                                                                                              refine x_bastS B h 25 (xset_ne f25 (by decide)) (by omega) (fun _ _ => trivial) dX12_feed_95 (fun H locs h => ?_)
                                                                                                                              refine lv_aload_n B.1 B.2.1 dX12_feed_96 rfl (lv_at hl 2 rfl) ?_
                                                                                                                              refine lv_dup B.1 B.2.1 dX12_feed_97 rfl ?_
                                                                                                                              refine x_getX B h kX12 0 (xset_eq f0) 32 (z := ((((((((((((((((0 + 1) + 1) + 1) + 1) + 1) + 1) + 1) + 1) + 1) + 1) + 1) + 1) + 1) + 1) + 1) + 1)) rfl m_1293 (by decide) dX12_feed_98 ?_
                                                                                                                              refine x_iconst B dX12_feed_101 ?_
                                                                                                                              refine x_iadd B dX12_feed_102 ?_
                                                                                                                              refine x_put B h kX12 0 (xset_eq f0) 32 (Nat.le_of_ble_eq_true rfl) (P' := fX (((((((((((((((((0 + 1) + 1) + 1) + 1) + 1) + 1) + 1) + 1) + 1) + 1) + 1) + 1) + 1) + 1) + 1) + 1) + 1)) m_1293 (by decide) rfl rfl rfl rfl dX12_feed_103 (fun H locs h => ?_)
                                                                                                                              have h : xH D A s.heap (w.set 0 (am 0, xO 12 [fR (am 1), fX 0, fX 0, fX 0, fX 0, fX 1, fX 1, fR (am 2), fR (am 3), fR (am 4), fR (am 5), fR (am 6), fR (am 7), fR (am 8), fR (am 9), fR (am 10), fR (am 11), fR (am 12), fR (am 13), fR (am 14), fR (am 15), fR (am 16), fR (am 17), fX 0, fR (am 18), fR (am 19), fR (am 20), fR (am 21), fR (am 22), fR (am 23), fR (am 24), fR (am 25), fX (((((((((((((((((0 + 1) + 1) + 1) + 1) + 1) + 1) + 1) + 1) + 1) + 1) + 1) + 1) + 1) + 1) + 1) + 1) + 1), fX (-1), fG 0 0, fG 0 0, fG 0 0, fG 0 0, fG 0 0, fG 0 0, fG 0 0, fG 0 0, fL, fX 0, fR (am 26), fX 0, fX 0, fR (am 27), fR (am 28), fR (am 29), fR (am 30), fR (am 31), fX 0, fX 0, fX 0, fX 0, fR (am 32), fX 0, fX 0, fX 0, fX 0, fR (am 33), fR (am 34), fR (am 35), fX 0, fX 0, fR (am 36), fR (am 37), fR (am 38), fX (-1), fX 0, fX 0, fX 0, fR (am 39), fX 0, fR (am 40), fR (am 41), fR (am 42), fR (am 43), fR (am 44)])) H locs := by rw [List.set_set] at h; exact h
                                                                                                                              refine lv_iinc (v := iI (((((((((((((((((0 + 1) + 1) + 1) + 1) + 1) + 1) + 1) + 1) + 1) + 1) + 1) + 1) + 1) + 1) + 1) + 1) + 1)) (lv' := [(6, .int (iI (((((((((((((((((0 + 1) + 1) + 1) + 1) + 1) + 1) + 1) + 1) + 1) + 1) + 1) + 1) + 1) + 1) + 1) + 1) + 1))), (7, .int (x5)), (0, .ref (am 0)), (1, .int (x1)), (2, .int (x2)), (3, .int (x3)), (4, .int (x4)), (5, .int (x5))]) B.1 B.2.1 dX12_feed_106 hl (k := 1) rfl (iI_add _ _) (by decide) rfl (fun ls hl => ?_)
                                                                                                                              refine lv_goto (tgt := 18) B.1 B.2.1 dX12_feed_109 (by decide) ?_
                                                                                                                              refine lv_iload B.1 B.2.1 dX12_feed_18 (lv_at hl 0 rfl) ?_
                                                                                                                              refine x_bipush B (by decide) dX12_feed_20 ?_
                                                                                                                              refine x_icmp_ge B (by omega) (tgt := 112) dX12_feed_22 (by decide) (fun c97 => ?_) (fun c97 => ?_)
                                                                                                                              · exact absurd c97 (by omega)
                                                                                                                              · refine lv_iload B.1 B.2.1 dX12_feed_25 (lv_at hl 0 rfl) ?_
                                                                                                                                refine x_iconst B dX12_feed_27 ?_
                                                                                                                                refine x_icmp_ge B (by omega) (tgt := 35) dX12_feed_28 (by decide) (fun c98 => ?_) (fun c98 => ?_)
                                                                                                                                · refine lv_iload B.1 B.2.1 dX12_feed_35 (lv_at hl 0 rfl) ?_
                                                                                                                                  refine x_bipush B (by decide) dX12_feed_37 ?_
                                                                                                                                  refine x_icmp_ge B (by omega) (tgt := 46) dX12_feed_39 (by decide) (fun c99 => ?_) (fun c99 => ?_)
                                                                                                                                  · refine lv_iload B.1 B.2.1 dX12_feed_46 (lv_at hl 0 rfl) ?_
                                                                                                                                    refine x_bipush B (by decide) dX12_feed_48 ?_
                                                                                                                                    refine x_icmp_ge B (by omega) (tgt := 57) dX12_feed_50 (by decide) (fun c100 => ?_) (fun c100 => ?_)
                                                                                                                                    · refine lv_iload B.1 B.2.1 dX12_feed_57 (lv_at hl 0 rfl) ?_
                                                                                                                                      refine x_bipush B (by decide) dX12_feed_59 ?_
                                                                                                                                      refine x_icmp_ge B (by omega) (tgt := 69) dX12_feed_61 (by decide) (fun c101 => ?_) (fun c101 => ?_)
                                                                                                                                      · refine lv_iload B.1 B.2.1 dX12_feed_69 (lv_at hl 7 rfl) ?_
                                                                                                                                        refine lv_istore (lv' := [(7, .int (x5)), (6, .int (iI (((((((((((((((((0 + 1) + 1) + 1) + 1) + 1) + 1) + 1) + 1) + 1) + 1) + 1) + 1) + 1) + 1) + 1) + 1) + 1))), (0, .ref (am 0)), (1, .int (x1)), (2, .int (x2)), (3, .int (x3)), (4, .int (x4)), (5, .int (x5))]) B.1 B.2.1 dX12_feed_71 hl (by decide) rfl (fun ls hl => ?_)
                                                                                                                                        refine lv_aload_n B.1 B.2.1 dX12_feed_73 rfl (lv_at hl 2 rfl) ?_
                                                                                                                                        refine x_getR B h kX12 0 (xset_eq f0) 31 (b := am 25) rfl m_1292 (by decide) dX12_feed_74 ?_
                                                                                                                                        refine lv_aload_n B.1 B.2.1 dX12_feed_77 rfl (lv_at hl 2 rfl) ?_
                                                                                                                                        refine x_getX B h kX12 0 (xset_eq f0) 32 (z := (((((((((((((((((0 + 1) + 1) + 1) + 1) + 1) + 1) + 1) + 1) + 1) + 1) + 1) + 1) + 1) + 1) + 1) + 1) + 1)) rfl m_1293 (by decide) dX12_feed_78 ?_
                                                                                                                                        refine lv_iload B.1 B.2.1 dX12_feed_81 (lv_at hl 0 rfl) ?_
                                                                                                                                        refine x_bipush B (by decide) dX12_feed_83 ?_
                                                                                                                                        refine x_bipush B (by decide) dX12_feed_85 ?_
                                                                                                                                        refine lv_iload B.1 B.2.1 dX12_feed_87 (lv_at hl 1 rfl) ?_
                                                                                                                                        refine x_iconst B dX12_feed_89 ?_
                                                                                                                                        refine x_irem B (by omega) dX12_feed_90 ?_
                                                                                                                                        refine x_imul B dX12_feed_91 ?_
                                                                                                                                        refine x_isub B dX12_feed_92 ?_
                                                                                                                                        refine lv_ishr B.1 B.2.1 dX12_feed_93 ?_
                                                                                                                                        refine x_raw (fun y102 => ?_)
                                                                                                                                        refine lv_i2b B.1 B.2.1 dX12_feed_94 rfl ?_
                                                                                                                                        refine x_raw (fun y103 => ?_)
                                                                                                                                        refine x_bastS B h 25 (xset_ne f25 (by decide)) (by omega) (fun _ _ => trivial) dX12_feed_95 (fun H locs h => ?_)
                                                                                                                                        refine lv_aload_n B.1 B.2.1 dX12_feed_96 rfl (lv_at hl 2 rfl) ?_
                                                                                                                                        refine lv_dup B.1 B.2.1 dX12_feed_97 rfl ?_
                                                                                                                                        refine x_getX B h kX12 0 (xset_eq f0) 32 (z := (((((((((((((((((0 + 1) + 1) + 1) + 1) + 1) + 1) + 1) + 1) + 1) + 1) + 1) + 1) + 1) + 1) + 1) + 1) + 1)) rfl m_1293 (by decide) dX12_feed_98 ?_
                                                                                                                                        refine x_iconst B dX12_feed_101 ?_
                                                                                                                                        refine x_iadd B dX12_feed_102 ?_
                                                                                                                                        refine x_put B h kX12 0 (xset_eq f0) 32 (Nat.le_of_ble_eq_true rfl) (P' := fX ((((((((((((((((((0 + 1) + 1) + 1) + 1) + 1) + 1) + 1) + 1) + 1) + 1) + 1) + 1) + 1) + 1) + 1) + 1) + 1) + 1)) m_1293 (by decide) rfl rfl rfl rfl dX12_feed_103 (fun H locs h => ?_)
                                                                                                                                        have h : xH D A s.heap (w.set 0 (am 0, xO 12 [fR (am 1), fX 0, fX 0, fX 0, fX 0, fX 1, fX 1, fR (am 2), fR (am 3), fR (am 4), fR (am 5), fR (am 6), fR (am 7), fR (am 8), fR (am 9), fR (am 10), fR (am 11), fR (am 12), fR (am 13), fR (am 14), fR (am 15), fR (am 16), fR (am 17), fX 0, fR (am 18), fR (am 19), fR (am 20), fR (am 21), fR (am 22), fR (am 23), fR (am 24), fR (am 25), fX ((((((((((((((((((0 + 1) + 1) + 1) + 1) + 1) + 1) + 1) + 1) + 1) + 1) + 1) + 1) + 1) + 1) + 1) + 1) + 1) + 1), fX (-1), fG 0 0, fG 0 0, fG 0 0, fG 0 0, fG 0 0, fG 0 0, fG 0 0, fG 0 0, fL, fX 0, fR (am 26), fX 0, fX 0, fR (am 27), fR (am 28), fR (am 29), fR (am 30), fR (am 31), fX 0, fX 0, fX 0, fX 0, fR (am 32), fX 0, fX 0, fX 0, fX 0, fR (am 33), fR (am 34), fR (am 35), fX 0, fX 0, fR (am 36), fR (am 37), fR (am 38), fX (-1), fX 0, fX 0, fX 0, fR (am 39), fX 0, fR (am 40), fR (am 41), fR (am 42), fR (am 43), fR (am 44)])) H locs := by rw [List.set_set] at h; exact h
                                                                                                                                        refine lv_iinc (v := iI ((((((((((((((((((0 + 1) + 1) + 1) + 1) + 1) + 1) + 1) + 1) + 1) + 1) + 1) + 1) + 1) + 1) + 1) + 1) + 1) + 1)) (lv' := [(6, .int (iI ((((((((((((((((((0 + 1) + 1) + 1) + 1) + 1) + 1) + 1) + 1) + 1) + 1) + 1) + 1) + 1) + 1) + 1) + 1) + 1) + 1))), (7, .int (x5)), (0, .ref (am 0)), (1, .int (x1)), (2, .int (x2)), (3, .int (x3)), (4, .int (x4)), (5, .int (x5))]) B.1 B.2.1 dX12_feed_106 hl (k := 1) rfl (iI_add _ _) (by decide) rfl (fun ls hl => ?_)
                                                                                                                                        refine lv_goto (tgt := 18) B.1 B.2.1 dX12_feed_109 (by decide) ?_
                                                                                                                                        refine lv_iload B.1 B.2.1 dX12_feed_18 (lv_at hl 0 rfl) ?_
                                                                                                                                        refine x_bipush B (by decide) dX12_feed_20 ?_
                                                                                                                                        refine x_icmp_ge B (by omega) (tgt := 112) dX12_feed_22 (by decide) (fun c104 => ?_) (fun c104 => ?_)
                                                                                                                                        · exact absurd c104 (by omega)
                                                                                                                                        · refine lv_iload B.1 B.2.1 dX12_feed_25 (lv_at hl 0 rfl) ?_
                                                                                                                                          refine x_iconst B dX12_feed_27 ?_
                                                                                                                                          refine x_icmp_ge B (by omega) (tgt := 35) dX12_feed_28 (by decide) (fun c105 => ?_) (fun c105 => ?_)
                                                                                                                                          · refine lv_iload B.1 B.2.1 dX12_feed_35 (lv_at hl 0 rfl) ?_
                                                                                                                                            refine x_bipush B (by decide) dX12_feed_37 ?_
                                                                                                                                            refine x_icmp_ge B (by omega) (tgt := 46) dX12_feed_39 (by decide) (fun c106 => ?_) (fun c106 => ?_)
                                                                                                                                            · refine lv_iload B.1 B.2.1 dX12_feed_46 (lv_at hl 0 rfl) ?_
                                                                                                                                              refine x_bipush B (by decide) dX12_feed_48 ?_
                                                                                                                                              refine x_icmp_ge B (by omega) (tgt := 57) dX12_feed_50 (by decide) (fun c107 => ?_) (fun c107 => ?_)
                                                                                                                                              · refine lv_iload B.1 B.2.1 dX12_feed_57 (lv_at hl 0 rfl) ?_
                                                                                                                                                refine x_bipush B (by decide) dX12_feed_59 ?_
                                                                                                                                                refine x_icmp_ge B (by omega) (tgt := 69) dX12_feed_61 (by decide) (fun c108 => ?_) (fun c108 => ?_)
                                                                                                                                                · refine lv_iload B.1 B.2.1 dX12_feed_69 (lv_at hl 7 rfl) ?_
                                                                                                                                                  refine lv_istore (lv' := [(7, .int (x5)), (6, .int (iI ((((((((((((((((((0 + 1) + 1) + 1) + 1) + 1) + 1) + 1) + 1) + 1) + 1) + 1) + 1) + 1) + 1) + 1) + 1) + 1) + 1))), (0, .ref (am 0)), (1, .int (x1)), (2, .int (x2)), (3, .int (x3)), (4, .int (x4)), (5, .int (x5))]) B.1 B.2.1 dX12_feed_71 hl (by decide) rfl (fun ls hl => ?_)
                                                                                                                                                  refine lv_aload_n B.1 B.2.1 dX12_feed_73 rfl (lv_at hl 2 rfl) ?_
                                                                                                                                                  refine x_getR B h kX12 0 (xset_eq f0) 31 (b := am 25) rfl m_1292 (by decide) dX12_feed_74 ?_
                                                                                                                                                  refine lv_aload_n B.1 B.2.1 dX12_feed_77 rfl (lv_at hl 2 rfl) ?_
                                                                                                                                                  refine x_getX B h kX12 0 (xset_eq f0) 32 (z := ((((((((((((((((((0 + 1) + 1) + 1) + 1) + 1) + 1) + 1) + 1) + 1) + 1) + 1) + 1) + 1) + 1) + 1) + 1) + 1) + 1)) rfl m_1293 (by decide) dX12_feed_78 ?_
                                                                                                                                                  refine lv_iload B.1 B.2.1 dX12_feed_81 (lv_at hl 0 rfl) ?_
                                                                                                                                                  refine x_bipush B (by decide) dX12_feed_83 ?_
                                                                                                                                                  refine x_bipush B (by decide) dX12_feed_85 ?_
                                                                                                                                                  refine lv_iload B.1 B.2.1 dX12_feed_87 (lv_at hl 1 rfl) ?_
                                                                                                                                                  refine x_iconst B dX12_feed_89 ?_
                                                                                                                                                  refine x_irem B (by omega) dX12_feed_90 ?_
                                                                                                                                                  refine x_imul B dX12_feed_91 ?_
                                                                                                                                                  refine x_isub B dX12_feed_92 ?_
                                                                                                                                                  refine lv_ishr B.1 B.2.1 dX12_feed_93 ?_
                                                                                                                                                  refine x_raw (fun y109 => ?_)
                                                                                                                                                  refine lv_i2b B.1 B.2.1 dX12_feed_94 rfl ?_
                                                                                                                                                  refine x_raw (fun y110 => ?_)
                                                                                                                                                  refine x_bastS B h 25 (xset_ne f25 (by decide)) (by omega) (fun _ _ => trivial) dX12_feed_95 (fun H locs h => ?_)
                                                                                                                                                  refine lv_aload_n B.1 B.2.1 dX12_feed_96 rfl (lv_at hl 2 rfl) ?_
                                                                                                                                                  refine lv_dup B.1 B.2.1 dX12_feed_97 rfl ?_
                                                                                                                                                  refine x_getX B h kX12 0 (xset_eq f0) 32 (z := ((((((((((((((((((0 + 1) + 1) + 1) + 1) + 1) + 1) + 1) + 1) + 1) + 1) + 1) + 1) + 1) + 1) + 1) + 1) + 1) + 1)) rfl m_1293 (by decide) dX12_feed_98 ?_
                                                                                                                                                  refine x_iconst B dX12_feed_101 ?_
                                                                                                                                                  refine x_iadd B dX12_feed_102 ?_
                                                                                                                                                  refine x_put B h kX12 0 (xset_eq f0) 32 (Nat.le_of_ble_eq_true rfl) (P' := fX (((((((((((((((((((0 + 1) + 1) + 1) + 1) + 1) + 1) + 1) + 1) + 1) + 1) + 1) + 1) + 1) + 1) + 1) + 1) + 1) + 1) + 1)) m_1293 (by decide) rfl rfl rfl rfl dX12_feed_103 (fun H locs h => ?_)
                                                                                                                                                  have h : xH D A s.heap (w.set 0 (am 0, xO 12 [fR (am 1), fX 0, fX 0, fX 0, fX 0, fX 1, fX 1, fR (am 2), fR (am 3), fR (am 4), fR (am 5), fR (am 6), fR (am 7), fR (am 8), fR (am 9), fR (am 10), fR (am 11), fR (am 12), fR (am 13), fR (am 14), fR (am 15), fR (am 16), fR (am 17), fX 0, fR (am 18), fR (am 19), fR (am 20), fR (am 21), fR (am 22), fR (am 23), fR (am 24), fR (am 25), fX (((((((((((((((((((0 + 1) + 1) + 1) + 1) + 1) + 1) + 1) + 1) + 1) + 1) + 1) + 1) + 1) + 1) + 1) + 1) + 1) + 1) + 1), fX (-1), fG 0 0, fG 0 0, fG 0 0, fG 0 0, fG 0 0, fG 0 0, fG 0 0, fG 0 0, fL, fX 0, fR (am 26), fX 0, fX 0, fR (am 27), fR (am 28), fR (am 29), fR (am 30), fR (am 31), fX 0, fX 0, fX 0, fX 0, fR (am 32), fX 0, fX 0, fX 0, fX 0, fR (am 33), fR (am 34), fR (am 35), fX 0, fX 0, fR (am 36), fR (am 37), fR (am 38), fX (-1), fX 0, fX 0, fX 0, fR (am 39), fX 0, fR (am 40), fR (am 41), fR (am 42), fR (am 43), fR (am 44)])) H locs := by rw [List.set_set] at h; exact h
                                                                                                                                                  refine lv_iinc (v := iI (((((((((((((((((((0 + 1) + 1) + 1) + 1) + 1) + 1) + 1) + 1) + 1) + 1) + 1) + 1) + 1) + 1) + 1) + 1) + 1) + 1) + 1)) (lv' := [(6, .int (iI (((((((((((((((((((0 + 1) + 1) + 1) + 1) + 1) + 1) + 1) + 1) + 1) + 1) + 1) + 1) + 1) + 1) + 1) + 1) + 1) + 1) + 1))), (7, .int (x5)), (0, .ref (am 0)), (1, .int (x1)), (2, .int (x2)), (3, .int (x3)), (4, .int (x4)), (5, .int (x5))]) B.1 B.2.1 dX12_feed_106 hl (k := 1) rfl (iI_add _ _) (by decide) rfl (fun ls hl => ?_)
                                                                                                                                                  refine lv_goto (tgt := 18) B.1 B.2.1 dX12_feed_109 (by decide) ?_
                                                                                                                                                  refine lv_iload B.1 B.2.1 dX12_feed_18 (lv_at hl 0 rfl) ?_
                                                                                                                                                  refine x_bipush B (by decide) dX12_feed_20 ?_
                                                                                                                                                  refine x_icmp_ge B (by omega) (tgt := 112) dX12_feed_22 (by decide) (fun c111 => ?_) (fun c111 => ?_)
                                                                                                                                                  · exact absurd c111 (by omega)
                                                                                                                                                  · refine lv_iload B.1 B.2.1 dX12_feed_25 (lv_at hl 0 rfl) ?_
                                                                                                                                                    refine x_iconst B dX12_feed_27 ?_
                                                                                                                                                    refine x_icmp_ge B (by omega) (tgt := 35) dX12_feed_28 (by decide) (fun c112 => ?_) (fun c112 => ?_)
                                                                                                                                                    · refine lv_iload B.1 B.2.1 dX12_feed_35 (lv_at hl 0 rfl) ?_
                                                                                                                                                      refine x_bipush B (by decide) dX12_feed_37 ?_
                                                                                                                                                      refine x_icmp_ge B (by omega) (tgt := 46) dX12_feed_39 (by decide) (fun c113 => ?_) (fun c113 => ?_)
                                                                                                                                                      · refine lv_iload B.1 B.2.1 dX12_feed_46 (lv_at hl 0 rfl) ?_
                                                                                                                                                        refine x_bipush B (by decide) dX12_feed_48 ?_
                                                                                                                                                        refine x_icmp_ge B (by omega) (tgt := 57) dX12_feed_50 (by decide) (fun c114 => ?_) (fun c114 => ?_)
                                                                                                                                                        · refine lv_iload B.1 B.2.1 dX12_feed_57 (lv_at hl 0 rfl) ?_
                                                                                                                                                          refine x_bipush B (by decide) dX12_feed_59 ?_
                                                                                                                                                          refine x_icmp_ge B (by omega) (tgt := 69) dX12_feed_61 (by decide) (fun c115 => ?_) (fun c115 => ?_)
                                                                                                                                                          · refine lv_iload B.1 B.2.1 dX12_feed_69 (lv_at hl 7 rfl) ?_
                                                                                                                                                            refine lv_istore (lv' := [(7, .int (x5)), (6, .int (iI (((((((((((((((((((0 + 1) + 1) + 1) + 1) + 1) + 1) + 1) + 1) + 1) + 1) + 1) + 1) + 1) + 1) + 1) + 1) + 1) + 1) + 1))), (0, .ref (am 0)), (1, .int (x1)), (2, .int (x2)), (3, .int (x3)), (4, .int (x4)), (5, .int (x5))]) B.1 B.2.1 dX12_feed_71 hl (by decide) rfl (fun ls hl => ?_)
                                                                                                                                                            refine lv_aload_n B.1 B.2.1 dX12_feed_73 rfl (lv_at hl 2 rfl) ?_
                                                                                                                                                            refine x_getR B h kX12 0 (xset_eq f0) 31 (b := am 25) rfl m_1292 (by decide) dX12_feed_74 ?_
                                                                                                                                                            refine lv_aload_n B.1 B.2.1 dX12_feed_77 rfl (lv_at hl 2 rfl) ?_
                                                                                                                                                            refine x_getX B h kX12 0 (xset_eq f0) 32 (z := (((((((((((((((((((0 + 1) + 1) + 1) + 1) + 1) + 1) + 1) + 1) + 1) + 1) + 1) + 1) + 1) + 1) + 1) + 1) + 1) + 1) + 1)) rfl m_1293 (by decide) dX12_feed_78 ?_
                                                                                                                                                            refine lv_iload B.1 B.2.1 dX12_feed_81 (lv_at hl 0 rfl) ?_
                                                                                                                                                            refine x_bipush B (by decide) dX12_feed_83 ?_
                                                                                                                                                            refine x_bipush B (by decide) dX12_feed_85 ?_
                                                                                                                                                            refine lv_iload B.1 B.2.1 dX12_feed_87 (lv_at hl 1 rfl) ?_
                                                                                                                                                            refine x_iconst B dX12_feed_89 ?_
                                                                                                                                                            refine x_irem B (by omega) dX12_feed_90 ?_
                                                                                                                                                            refine x_imul B dX12_feed_91 ?_
                                                                                                                                                            refine x_isub B dX12_feed_92 ?_
                                                                                                                                                            refine lv_ishr B.1 B.2.1 dX12_feed_93 ?_
                                                                                                                                                            refine x_raw (fun y116 => ?_)
                                                                                                                                                            refine lv_i2b B.1 B.2.1 dX12_feed_94 rfl ?_
                                                                                                                                                            refine x_raw (fun y117 => ?_)
                                                                                                                                                            refine x_bastS B h 25 (xset_ne f25 (by decide)) (by omega) (fun _ _ => trivial) dX12_feed_95 (fun H locs h => ?_)
                                                                                                                                                            refine lv_aload_n B.1 B.2.1 dX12_feed_96 rfl (lv_at hl 2 rfl) ?_
                                                                                                                                                            refine lv_dup B.1 B.2.1 dX12_feed_97 rfl ?_
                                                                                                                                                            refine x_getX B h kX12 0 (xset_eq f0) 32 (z := (((((((((((((((((((0 + 1) + 1) + 1) + 1) + 1) + 1) + 1) + 1) + 1) + 1) + 1) + 1) + 1) + 1) + 1) + 1) + 1) + 1) + 1)) rfl m_1293 (by decide) dX12_feed_98 ?_
                                                                                                                                                            refine x_iconst B dX12_feed_101 ?_
                                                                                                                                                            refine x_iadd B dX12_feed_102 ?_
                                                                                                                                                            refine x_put B h kX12 0 (xset_eq f0) 32 (Nat.le_of_ble_eq_true rfl) (P' := fX ((((((((((((((((((((0 + 1) + 1) + 1) + 1) + 1) + 1) + 1) + 1) + 1) + 1) + 1) + 1) + 1) + 1) + 1) + 1) + 1) + 1) + 1) + 1)) m_1293 (by decide) rfl rfl rfl rfl dX12_feed_103 (fun H locs h => ?_)
                                                                                                                                                            have h : xH D A s.heap (w.set 0 (am 0, xO 12 [fR (am 1), fX 0, fX 0, fX 0, fX 0, fX 1, fX 1, fR (am 2), fR (am 3), fR (am 4), fR (am 5), fR (am 6), fR (am 7), fR (am 8), fR (am 9), fR (am 10), fR (am 11), fR (am 12), fR (am 13), fR (am 14), fR (am 15), fR (am 16), fR (am 17), fX 0, fR (am 18), fR (am 19), fR (am 20), fR (am 21), fR (am 22), fR (am 23), fR (am 24), fR (am 25), fX ((((((((((((((((((((0 + 1) + 1) + 1) + 1) + 1) + 1) + 1) + 1) + 1) + 1) + 1) + 1) + 1) + 1) + 1) + 1) + 1) + 1) + 1) + 1), fX (-1), fG 0 0, fG 0 0, fG 0 0, fG 0 0, fG 0 0, fG 0 0, fG 0 0, fG 0 0, fL, fX 0, fR (am 26), fX 0, fX 0, fR (am 27), fR (am 28), fR (am 29), fR (am 30), fR (am 31), fX 0, fX 0, fX 0, fX 0, fR (am 32), fX 0, fX 0, fX 0, fX 0, fR (am 33), fR (am 34), fR (am 35), fX 0, fX 0, fR (am 36), fR (am 37), fR (am 38), fX (-1), fX 0, fX 0, fX 0, fR (am 39), fX 0, fR (am 40), fR (am 41), fR (am 42), fR (am 43), fR (am 44)])) H locs := by rw [List.set_set] at h; exact h
                                                                                                                                                            refine lv_iinc (v := iI ((((((((((((((((((((0 + 1) + 1) + 1) + 1) + 1) + 1) + 1) + 1) + 1) + 1) + 1) + 1) + 1) + 1) + 1) + 1) + 1) + 1) + 1) + 1)) (lv' := [(6, .int (iI ((((((((((((((((((((0 + 1) + 1) + 1) + 1) + 1) + 1) + 1) + 1) + 1) + 1) + 1) + 1) + 1) + 1) + 1) + 1) + 1) + 1) + 1) + 1))), (7, .int (x5)), (0, .ref (am 0)), (1, .int (x1)), (2, .int (x2)), (3, .int (x3)), (4, .int (x4)), (5, .int (x5))]) B.1 B.2.1 dX12_feed_106 hl (k := 1) rfl (iI_add _ _) (by decide) rfl (fun ls hl => ?_)
                                                                                                                                                            refine lv_goto (tgt := 18) B.1 B.2.1 dX12_feed_109 (by decide) ?_
                                                                                                                                                            refine lv_iload B.1 B.2.1 dX12_feed_18 (lv_at hl 0 rfl) ?_
                                                                                                                                                            refine x_bipush B (by decide) dX12_feed_20 ?_
                                                                                                                                                            refine x_icmp_ge B (by omega) (tgt := 112) dX12_feed_22 (by decide) (fun c118 => ?_) (fun c118 => ?_)
                                                                                                                                                            · refine lv_aload_n B.1 B.2.1 dX12_feed_112 rfl (lv_at hl 2 rfl) ?_
                                                                                                                                                              refine x_getX B h kX12 0 (xset_eq f0) 32 (z := ((((((((((((((((((((0 + 1) + 1) + 1) + 1) + 1) + 1) + 1) + 1) + 1) + 1) + 1) + 1) + 1) + 1) + 1) + 1) + 1) + 1) + 1) + 1)) rfl m_1293 (by decide) dX12_feed_113 ?_
                                                                                                                                                              refine x_ri B hQ h (by decide) dX12_feed_116 ?_
                                                                                                                                                              exact ⟨_, rfl, by omega⟩
                                                                                                                                                            · exact absurd c118 (by omega)
                                                                                                                                                          · exact absurd c115 (by omega)
                                                                                                                                                        · exact absurd c114 (by omega)
                                                                                                                                                      · exact absurd c113 (by omega)
                                                                                                                                                    · exact absurd c112 (by omega)
                                                                                                                                                · exact absurd c108 (by omega)
                                                                                                                                              · exact absurd c107 (by omega)
                                                                                                                                            · exact absurd c106 (by omega)
                                                                                                                                          · exact absurd c105 (by omega)
                                                                                                                                      · exact absurd c101 (by omega)
                                                                                                                                    · exact absurd c100 (by omega)
                                                                                                                                  · exact absurd c99 (by omega)
                                                                                                                                · exact absurd c98 (by omega)
                                                                                                                            · exact absurd c94 (by omega)
                                                                                                                          · exact absurd c93 (by omega)
                                                                                                                        · exact absurd c92 (by omega)
                                                                                                                      · exact absurd c91 (by omega)
                                                                                                                · exact absurd c86 (by omega)
                                                                                                              · exact absurd c85 (by omega)
                                                                                                            · exact absurd c84 (by omega)
                                                                                                      · exact absurd c79 (by omega)
                                                                                                    · exact absurd c78 (by omega)
                                                                                                  · exact absurd c77 (by omega)
                                                                                            · exact absurd c72 (by omega)
                                                                                          · exact absurd c71 (by omega)
                                                                                        · exact absurd c70 (by omega)
                                                                                  · exact absurd c65 (by omega)
                                                                                · exact absurd c64 (by omega)
                                                                              · exact absurd c63 (by omega)
                                                                        · exact absurd c58 (by omega)
                                                                      · exact absurd c57 (by omega)
                                                                · exact absurd c52 (by omega)
                                                              · exact absurd c51 (by omega)
                                                        · exact absurd c46 (by omega)
                                                      · exact absurd c45 (by omega)
                                                · exact absurd c40 (by omega)
                                              · exact absurd c39 (by omega)
                                        · exact absurd c34 (by omega)
                                  · exact absurd c29 (by omega)
                            · exact absurd c24 (by omega)
                      · exact absurd c19 (by omega)
  · exact absurd c1 (by omega)
abbrev r_c_X12_here : Room := { frames := 0, cells := 0, slots := 0, locals := 0 }
set_option maxHeartbeats 4000000 in
set_option maxRecDepth 100000 in
theorem c_X12_here (l : Launch) (D : va_G) (ca : Nat → ClassId) (w : xW) (am : Nat → Nat) (f0 : w[0]? = some (am 0, xO 12 [fR (am 1), fX 0, fX 0, fX 0, fX 0, fX 1, fX 1, fR (am 2), fR (am 3), fR (am 4), fR (am 5), fR (am 6), fR (am 7), fR (am 8), fR (am 9), fR (am 10), fR (am 11), fR (am 12), fR (am 13), fR (am 14), fR (am 15), fR (am 16), fR (am 17), fX 0, fR (am 18), fR (am 19), fR (am 20), fR (am 21), fR (am 22), fR (am 23), fR (am 24), fR (am 25), fX 0, fX (-1), fG 0 0, fG 0 0, fG 0 0, fG 0 0, fG 0 0, fG 0 0, fG 0 0, fG 0 0, fL, fX 0, fR (am 26), fX 0, fX 0, fR (am 27), fR (am 28), fR (am 29), fR (am 30), fR (am 31), fX 0, fX 0, fX 0, fX 0, fR (am 32), fX 0, fX 0, fX 0, fX 0, fR (am 33), fR (am 34), fR (am 35), fX 0, fX 0, fR (am 36), fR (am 37), fR (am 38), fX (-1), fX 0, fX 0, fX 0, fR (am 39), fX 0, fR (am 40), fR (am 41), fR (am 42), fR (am 43), fR (am 44)]))  : xC l D ca yX12_here cX12_here 1 (some .int) r_c_X12_here [.ref (am 0)] w (qI w (fun z => z = (-1))) := by
  refine xC.of2 "WindWordsModel" (by decide) rfl (Nat.le_of_ble_eq_true rfl) ?_
  intro p e s m args below meth c A ls Qf B hnm h hl hQ
  have hl : lv_has ls 1 [(0, .ref (am 0))] := hl
  refine lv_aload_n B.1 B.2.1 dX12_here_0 rfl (lv_at hl 0 rfl) ?_
  refine x_getG B h kX12 0 f0 35 (lo := 0) (hi := 0) rfl m_1296 (by decide) dX12_here_1 (fun z1 z1a z1b => ?_)
  refine lv_aload_n B.1 B.2.1 dX12_here_4 rfl (lv_at hl 0 rfl) ?_
  refine x_getG B h kX12 0 f0 34 (lo := 0) (hi := 0) rfl m_1295 (by decide) dX12_here_5 (fun z2 z2a z2b => ?_)
  refine x_icmp_ge B (by omega) (tgt := 27) dX12_here_8 (by decide) (fun c3 => ?_) (fun c3 => ?_)
  · refine x_iconst B dX12_here_27 ?_
    refine x_ri B hQ h (by decide) dX12_here_28 ?_
    exact ⟨rfl, _, rfl, by omega⟩
  · exact absurd c3 (by omega)
abbrev r_c_X12_next : Room := { frames := 1, cells := 0, slots := 0, locals := 20 }
set_option maxHeartbeats 4000000 in
set_option maxRecDepth 100000 in
theorem c_X12_next (l : Launch) (D : va_G) (ca : Nat → ClassId) (w : xW) (am : Nat → Nat) (f0 : w[0]? = some (am 0, xO 12 [fR (am 1), fX 0, fX 0, fX 0, fX 0, fX 1, fX 1, fR (am 2), fR (am 3), fR (am 4), fR (am 5), fR (am 6), fR (am 7), fR (am 8), fR (am 9), fR (am 10), fR (am 11), fR (am 12), fR (am 13), fR (am 14), fR (am 15), fR (am 16), fR (am 17), fX 0, fR (am 18), fR (am 19), fR (am 20), fR (am 21), fR (am 22), fR (am 23), fR (am 24), fR (am 25), fX 0, fX (-1), fG 0 0, fG 0 0, fG 0 0, fG 0 0, fG 0 0, fG 0 0, fG 0 0, fG 0 0, fL, fX 0, fR (am 26), fX 0, fX 0, fR (am 27), fR (am 28), fR (am 29), fR (am 30), fR (am 31), fX 0, fX 0, fX 0, fX 0, fR (am 32), fX 0, fX 0, fX 0, fX 0, fR (am 33), fR (am 34), fR (am 35), fX 0, fX 0, fR (am 36), fR (am 37), fR (am 38), fX (-1), fX 0, fX 0, fX 0, fR (am 39), fX 0, fR (am 40), fR (am 41), fR (am 42), fR (am 43), fR (am 44)]))  : xC l D ca yX12_next cX12_next 2 none r_c_X12_next [.ref (am 0)] w (qV w) := by
  refine xC.of2 "WindWordsModel" (by decide) rfl (Nat.le_of_ble_eq_true rfl) ?_
  intro p e s m args below meth c A ls Qf B hnm h hl hQ
  have hl : lv_has ls 2 [(0, .ref (am 0))] := hl
  refine lv_aload_n B.1 B.2.1 dX12_next_0 rfl (lv_at hl 0 rfl) ?_
  refine x_cV B h kX12 0 f0 k_X12_here rfl (c_X12_here l D ca _ am f0 ) m_1562 rfl (by decide) hl.1 [] (Nat.le_of_ble_eq_true rfl) rfl dX12_next_1 (fun r w1 hq H locs h => ?_)
  obtain ⟨rfl, _, rfl, rfl⟩ := hq
  show W p l e r_c_X12_next s m args below meth c H locs 0 0 Qf (F0 m 4 ls [.int (iI (-1))])
  refine x_bipush B (by decide) dX12_next_4 ?_
  refine x_icmp_eq B (by omega) (tgt := 18) dX12_next_6 (by decide) (fun c2 => ?_) (fun c2 => ?_)
  · exact absurd c2 (by omega)
  · refine lv_aload_n B.1 B.2.1 dX12_next_9 rfl (lv_at hl 0 rfl) ?_
    refine x_cV B h kX12 0 f0 k_X12_here rfl (c_X12_here l D ca _ am f0 ) m_1562 rfl (by decide) hl.1 [] (Nat.le_of_ble_eq_true rfl) rfl dX12_next_10 (fun r w1 hq H locs h => ?_)
    obtain ⟨rfl, _, rfl, rfl⟩ := hq
    show W p l e r_c_X12_next s m args below meth c H locs 0 0 Qf (F0 m 13 ls [.int (iI (-1))])
    refine x_bipush B (by decide) dX12_next_13 ?_
    refine x_icmp_ne B (by omega) (tgt := 31) dX12_next_15 (by decide) (fun c4 => ?_) (fun c4 => ?_)
    · refine lv_aload_n B.1 B.2.1 dX12_next_31 rfl (lv_at hl 0 rfl) ?_
      refine lv_aload_n B.1 B.2.1 dX12_next_32 rfl (lv_at hl 0 rfl) ?_
      refine x_getG B h kX12 0 f0 35 (lo := 0) (hi := 0) rfl m_1296 (by decide) dX12_next_33 (fun z5 z5a z5b => ?_)
      refine x_putS B h kX12 0 f0 36 (P := fG 0 0) rfl m_1297 (by decide) ⟨_, rfl, by omega, by omega⟩ rfl rfl rfl dX12_next_36 (fun H locs h => ?_)
      refine lv_aload_n B.1 B.2.1 dX12_next_39 rfl (lv_at hl 0 rfl) ?_
      refine x_cV B h kX12 0 f0 k_X12_here rfl (c_X12_here l D ca _ am f0 ) m_1562 rfl (by decide) hl.1 [] (Nat.le_of_ble_eq_true rfl) rfl dX12_next_40 (fun r w1 hq H locs h => ?_)
      obtain ⟨rfl, _, rfl, rfl⟩ := hq
      show W p l e r_c_X12_next s m args below meth c H locs 0 0 Qf (F0 m 43 ls [.int (iI (-1))])
      refine lv_istore_n (lv' := [(1, .int (iI (-1))), (0, .ref (am 0))]) B.1 B.2.1 dX12_next_43 rfl hl (by decide) rfl (fun ls hl => ?_)
      refine lv_aload_n B.1 B.2.1 dX12_next_44 rfl (lv_at hl 1 rfl) ?_
      refine x_ldc2 B m_1566 dX12_next_45 ?_
      refine x_putS B h kX12 0 f0 42 (P := fL) rfl m_1303 (by decide) ⟨_, rfl⟩ rfl rfl rfl dX12_next_48 (fun H locs h => ?_)
      refine lv_aload_n B.1 B.2.1 dX12_next_51 rfl (lv_at hl 1 rfl) ?_
      refine x_iconst B dX12_next_52 ?_
      refine x_putS B h kX12 0 f0 38 (P := fG 0 0) rfl m_1299 (by decide) ⟨_, rfl, by omega, by omega⟩ rfl rfl rfl dX12_next_53 (fun H locs h => ?_)
      refine lv_iload_n B.1 B.2.1 dX12_next_56 rfl (lv_at hl 0 rfl) ?_
      refine x_if_ge B (by omega) (tgt := 68) dX12_next_57 (by decide) (fun c7 => ?_) (fun c7 => ?_)
      · exact absurd c7 (by omega)
      · refine lv_aload_n B.1 B.2.1 dX12_next_60 rfl (lv_at hl 1 rfl) ?_
        refine x_iconst B dX12_next_61 ?_
        refine x_putS B h kX12 0 f0 37 (P := fG 0 0) rfl m_1298 (by decide) ⟨_, rfl, by omega, by omega⟩ rfl rfl rfl dX12_next_62 (fun H locs h => ?_)
        refine lv_goto (tgt := 303) B.1 B.2.1 dX12_next_65 (by decide) ?_
        refine x_rv B hQ h (by decide) dX12_next_303 ?_
        exact ⟨rfl, rfl⟩
    · exact absurd c4 (by omega)
abbrev r_c_X12_reads : Room := { frames := 2, cells := 0, slots := 0, locals := 41 }
set_option maxHeartbeats 4000000 in
set_option maxRecDepth 100000 in
theorem c_X12_reads (l : Launch) (D : va_G) (ca : Nat → ClassId) (w : xW) (n : Int) (am : Nat → Nat) (f0 : w[0]? = some (am 0, xO 12 [fR (am 1), fX 0, fX 0, fX 0, fX 0, fX 1, fX 1, fR (am 2), fR (am 3), fR (am 4), fR (am 5), fR (am 6), fR (am 7), fR (am 8), fR (am 9), fR (am 10), fR (am 11), fR (am 12), fR (am 13), fR (am 14), fR (am 15), fR (am 16), fR (am 17), fX 0, fR (am 18), fR (am 19), fR (am 20), fR (am 21), fR (am 22), fR (am 23), fR (am 24), fR (am 25), fX 0, fX (-1), fG 0 0, fG 0 0, fG 0 0, fG 0 0, fG 0 0, fG 0 0, fG 0 0, fG 0 0, fL, fX 0, fR (am 26), fX 0, fX 0, fR (am 27), fR (am 28), fR (am 29), fR (am 30), fR (am 31), fX 0, fX 0, fX 0, fX 0, fR (am 32), fX 0, fX 0, fX 0, fX 0, fR (am 33), fR (am 34), fR (am 35), fX 0, fX 0, fR (am 36), fR (am 37), fR (am 38), fX (-1), fX 0, fX 0, fX 0, fR (am 39), fX 0, fR (am 40), fR (am 41), fR (am 42), fR (am 43), fR (am 44)])) (f16 : w[16]? = some (am 16, xAI (ca 0) 25 gA)) (hn : 0 ≤ n ∧ n ≤ 0) : xC l D ca yX12_reads cX12_reads 4 (some .boolean) r_c_X12_reads [.ref (am 0), .int (iI n), .int (iI 0), .int (iI 1)] w (qZ w (True)) := by
  refine xC.of2 "WindWordsModel" (by decide) rfl (Nat.le_of_ble_eq_true rfl) ?_
  intro p e s m args below meth c A ls Qf B hnm h hl hQ
  have hl : lv_has ls 4 [(0, .ref (am 0)), (1, .int (iI n)), (2, .int (iI 0)), (3, .int (iI 1))] := hl
  refine lv_aload_n B.1 B.2.1 dX12_reads_0 rfl (lv_at hl 0 rfl) ?_
  refine lv_iload_n B.1 B.2.1 dX12_reads_1 rfl (lv_at hl 1 rfl) ?_
  refine x_putS B h kX12 0 f0 34 (P := fG 0 0) rfl m_1295 (by decide) ⟨_, rfl, by omega, by omega⟩ rfl rfl rfl dX12_reads_2 (fun H locs h => ?_)
  refine lv_aload_n B.1 B.2.1 dX12_reads_5 rfl (lv_at hl 0 rfl) ?_
  refine x_iconst B dX12_reads_6 ?_
  refine x_putS B h kX12 0 f0 32 (P := fX 0) rfl m_1293 (by decide) rfl rfl rfl rfl dX12_reads_7 (fun H locs h => ?_)
  refine lv_aload_n B.1 B.2.1 dX12_reads_10 rfl (lv_at hl 0 rfl) ?_
  refine x_iconst B dX12_reads_11 ?_
  refine x_putS B h kX12 0 f0 35 (P := fG 0 0) rfl m_1296 (by decide) ⟨_, rfl, by omega, by omega⟩ rfl rfl rfl dX12_reads_12 (fun H locs h => ?_)
  refine lv_aload_n B.1 B.2.1 dX12_reads_15 rfl (lv_at hl 0 rfl) ?_
  refine x_iconst B dX12_reads_16 ?_
  refine x_putS B h kX12 0 f0 33 (P := fX (-1)) rfl m_1294 (by decide) rfl rfl rfl rfl dX12_reads_17 (fun H locs h => ?_)
  refine lv_aload_n B.1 B.2.1 dX12_reads_20 rfl (lv_at hl 0 rfl) ?_
  refine x_iconst B dX12_reads_21 ?_
  refine x_putS B h kX12 0 f0 43 (P := fX 0) rfl m_1304 (by decide) rfl rfl rfl rfl dX12_reads_22 (fun H locs h => ?_)
  refine lv_aload_n B.1 B.2.1 dX12_reads_25 rfl (lv_at hl 0 rfl) ?_
  refine lv_iload_n B.1 B.2.1 dX12_reads_26 rfl (lv_at hl 2 rfl) ?_
  refine x_putS B h kX12 0 f0 39 (P := fG 0 0) rfl m_1300 (by decide) ⟨_, rfl, by omega, by omega⟩ rfl rfl rfl dX12_reads_27 (fun H locs h => ?_)
  refine lv_aload_n B.1 B.2.1 dX12_reads_30 rfl (lv_at hl 0 rfl) ?_
  refine x_iconst B dX12_reads_31 ?_
  refine x_putS B h kX12 0 f0 40 (P := fG 0 0) rfl m_1301 (by decide) ⟨_, rfl, by omega, by omega⟩ rfl rfl rfl dX12_reads_32 (fun H locs h => ?_)
  refine lv_aload_n B.1 B.2.1 dX12_reads_35 rfl (lv_at hl 0 rfl) ?_
  refine x_iconst B dX12_reads_36 ?_
  refine x_putS B h kX12 0 f0 41 (P := fG 0 0) rfl m_1302 (by decide) ⟨_, rfl, by omega, by omega⟩ rfl rfl rfl dX12_reads_37 (fun H locs h => ?_)
  refine lv_aload_n B.1 B.2.1 dX12_reads_40 rfl (lv_at hl 0 rfl) ?_
  refine x_cV B h kX12 0 f0 k_X12_next rfl (c_X12_next l D ca _ am f0 ) m_1558 rfl (by decide) hl.1 [] (Nat.le_of_ble_eq_true rfl) rfl dX12_reads_41 (fun r w1 hq H locs h => ?_)
  obtain ⟨rfl, rfl⟩ := hq
  show W p l e r_c_X12_reads s m args below meth c H locs 0 0 Qf (F0 m 44 ls [])
  refine lv_aload_n B.1 B.2.1 dX12_reads_44 rfl (lv_at hl 0 rfl) ?_
  refine x_getG B h kX12 0 f0 37 (lo := 0) (hi := 0) rfl m_1298 (by decide) dX12_reads_45 (fun z1 z1a z1b => ?_)
  refine x_if_eq B (by omega) (tgt := 126) dX12_reads_48 (by decide) (fun c2 => ?_) (fun c2 => ?_)
  · refine lv_aload_n B.1 B.2.1 dX12_reads_126 rfl (lv_at hl 0 rfl) ?_
    refine x_getX B h kX12 0 f0 43 (z := 0) rfl m_1304 (by decide) dX12_reads_127 ?_
    refine x_if_eq B (by omega) (tgt := 135) dX12_reads_130 (by decide) (fun c3 => ?_) (fun c3 => ?_)
    · refine lv_aload_n B.1 B.2.1 dX12_reads_135 rfl (lv_at hl 0 rfl) ?_
      refine x_getR B h kX12 0 f0 21 (b := am 16) rfl m_1282 (by decide) dX12_reads_136 ?_
      refine lv_aload_n B.1 B.2.1 dX12_reads_139 rfl (lv_at hl 0 rfl) ?_
      refine x_getG B h kX12 0 f0 39 (lo := 0) (hi := 0) rfl m_1300 (by decide) dX12_reads_140 (fun z4 z4a z4b => ?_)
      refine lv_aload_n B.1 B.2.1 dX12_reads_143 rfl (lv_at hl 0 rfl) ?_
      refine x_getG B h kX12 0 f0 40 (lo := 0) (hi := 0) rfl m_1301 (by decide) dX12_reads_144 (fun z5 z5a z5b => ?_)
      refine x_iastS B h 16 f16 (by omega) (fun _ _ => trivial) dX12_reads_147 (fun H locs h => ?_)
      refine x_iconst B dX12_reads_148 ?_
      refine x_rz B hQ h (by decide) (by decide) dX12_reads_149 ?_
      exact ⟨rfl, Or.inl ⟨rfl, trivial⟩⟩
    · exact absurd c3 (by omega)
  · exact absurd c2 (by omega)
abbrev r_c_X12_scale : Room := { frames := 3, cells := 0, slots := 0, locals := 64 }
set_option maxHeartbeats 4000000 in
set_option maxRecDepth 100000 in
theorem c_X12_scale (l : Launch) (D : va_G) (ca : Nat → ClassId) (w : xW) (n : Int) (year : Int) (am : Nat → Nat) (f0 : w[0]? = some (am 0, xO 12 [fR (am 1), fX 0, fX 0, fX 0, fX 0, fX 1, fX 1, fR (am 2), fR (am 3), fR (am 4), fR (am 5), fR (am 6), fR (am 7), fR (am 8), fR (am 9), fR (am 10), fR (am 11), fR (am 12), fR (am 13), fR (am 14), fR (am 15), fR (am 16), fR (am 17), fX 0, fR (am 18), fR (am 19), fR (am 20), fR (am 21), fR (am 22), fR (am 23), fR (am 24), fR (am 25), fX 0, fX (-1), fG 0 0, fG 0 0, fG 0 0, fG 0 0, fG 0 0, fG 0 0, fG 0 0, fG 0 0, fL, fX 0, fR (am 26), fX 0, fX 0, fR (am 27), fR (am 28), fR (am 29), fR (am 30), fR (am 31), fX 0, fX 0, fX 0, fX 0, fR (am 32), fX 0, fX 0, fX 0, fX 0, fR (am 33), fR (am 34), fR (am 35), fX 0, fX 0, fR (am 36), fR (am 37), fR (am 38), fX (-1), fX 0, fX 0, fX 0, fR (am 39), fX 0, fR (am 40), fR (am 41), fR (am 42), fR (am 43), fR (am 44)])) (f1 : w[1]? = some (am 1, xAI (ca 0) 3 (gX 3 (fun _ => 0)))) (f16 : w[16]? = some (am 16, xAI (ca 0) 25 gA)) (f17 : w[17]? = some (am 17, xAI (ca 0) 8 gA)) (hn : xr n) (hyear : xr year) : xC l D ca yX12_scale cX12_scale 3 (some .int) r_c_X12_scale [.ref (am 0), .int (iI n), .int (iI year)] w (qIa (fun z => ((n = 0 ∧ 0 ≤ year ∧ year ≤ 9) → z = 0) ∧ (¬ (n = 0 ∧ 0 ≤ year ∧ year ≤ 9) → z = -2))) := by
  refine xC.of2 "WindWordsModel" (by decide) rfl (Nat.le_of_ble_eq_true rfl) ?_
  intro p e s m args below meth c A ls Qf B hnm h hl hQ
  have hl : lv_has ls 3 [(0, .ref (am 0)), (1, .int (iI n)), (2, .int (iI year))] := hl
  refine lv_iload_n B.1 B.2.1 dX12_scale_0 rfl (lv_at hl 1 rfl) ?_
  refine x_if_lt B (by omega) (tgt := 22) dX12_scale_1 (by decide) (fun c1 => ?_) (fun c1 => ?_)
  · refine lv_aload_n B.1 B.2.1 dX12_scale_22 rfl (lv_at hl 0 rfl) ?_
    refine x_iconst B dX12_scale_23 ?_
    refine x_cV B h kX12 0 f0 k_X12_refuse rfl (c_X12_refuse l D ca _ 0 am f0 f1 (by omega)) m_1507 rfl (by decide) hl.1 [] (Nat.le_of_ble_eq_true rfl) rfl dX12_scale_24 (fun r w1 hq H locs h => ?_)
    obtain ⟨z2, rfl, hz2⟩ := hq
    show W p l e r_c_X12_scale s m args below meth c H locs 0 0 Qf (F0 m 27 ls [.int (iI z2)])
    refine lv_pop B.1 B.2.1 dX12_scale_27 rfl ?_
    refine x_bipush B (by decide) dX12_scale_28 ?_
    refine x_ri B hQ h (by decide) dX12_scale_30 ?_
    exact ⟨_, rfl, by omega⟩
  · refine lv_iload_n B.1 B.2.1 dX12_scale_4 rfl (lv_at hl 1 rfl) ?_
    refine lv_aload_n B.1 B.2.1 dX12_scale_5 rfl (lv_at hl 0 rfl) ?_
    refine x_getX B h kX12 0 f0 32 (z := 0) rfl m_1293 (by decide) dX12_scale_6 ?_
    refine x_icmp_gt B (by omega) (tgt := 22) dX12_scale_9 (by decide) (fun c3 => ?_) (fun c3 => ?_)
    · refine lv_aload_n B.1 B.2.1 dX12_scale_22 rfl (lv_at hl 0 rfl) ?_
      refine x_iconst B dX12_scale_23 ?_
      refine x_cV B h kX12 0 f0 k_X12_refuse rfl (c_X12_refuse l D ca _ 0 am f0 f1 (by omega)) m_1507 rfl (by decide) hl.1 [] (Nat.le_of_ble_eq_true rfl) rfl dX12_scale_24 (fun r w1 hq H locs h => ?_)
      obtain ⟨z4, rfl, hz4⟩ := hq
      show W p l e r_c_X12_scale s m args below meth c H locs 0 0 Qf (F0 m 27 ls [.int (iI z4)])
      refine lv_pop B.1 B.2.1 dX12_scale_27 rfl ?_
      refine x_bipush B (by decide) dX12_scale_28 ?_
      refine x_ri B hQ h (by decide) dX12_scale_30 ?_
      exact ⟨_, rfl, by omega⟩
    · refine lv_iload_n B.1 B.2.1 dX12_scale_12 rfl (lv_at hl 2 rfl) ?_
      refine x_iconst B dX12_scale_13 ?_
      refine x_bipush B (by decide) dX12_scale_14 ?_
      refine x_cS B h k_X12_within (c_X12_within l D ca _ year 0 9  (by omega) (by omega) (by omega)) m_1515 rfl (by decide) hl.1 [] (Nat.le_of_ble_eq_true rfl) rfl dX12_scale_16 (fun r w1 hq H locs h => ?_)
      obtain ⟨rfl, ⟨rfl, b5⟩ | ⟨rfl, b5⟩⟩ := hq
      · show W p l e r_c_X12_scale s m args below meth c H locs 0 0 Qf (F0 m 19 ls [.int (iI 1)])
        refine x_if_ne B (by omega) (tgt := 31) dX12_scale_19 (by decide) (fun c6 => ?_) (fun c6 => ?_)
        · refine lv_aload_n B.1 B.2.1 dX12_scale_31 rfl (lv_at hl 0 rfl) ?_
          refine x_getX B h kX12 0 f0 23 (z := 0) rfl m_1284 (by decide) dX12_scale_32 ?_
          refine x_bipush B (by decide) dX12_scale_35 ?_
          refine x_icmp_ne B (by omega) (tgt := 49) dX12_scale_37 (by decide) (fun c7 => ?_) (fun c7 => ?_)
          · refine lv_aload_n B.1 B.2.1 dX12_scale_49 rfl (lv_at hl 0 rfl) ?_
            refine lv_iload_n B.1 B.2.1 dX12_scale_50 rfl (lv_at hl 1 rfl) ?_
            refine lv_aload_n B.1 B.2.1 dX12_scale_51 rfl (lv_at hl 0 rfl) ?_
            refine x_getX B h kX12 0 f0 23 (z := 0) rfl m_1284 (by decide) dX12_scale_52 ?_
            refine x_iconst B dX12_scale_55 ?_
            refine x_cV B h kX12 0 f0 k_X12_reads rfl (c_X12_reads l D ca _ n am f0 f16 (by omega)) m_1554 rfl (by decide) hl.1 [] (Nat.le_of_ble_eq_true rfl) rfl dX12_scale_56 (fun r w1 hq H locs h => ?_)
            obtain ⟨rfl, ⟨rfl, b8⟩ | ⟨rfl, b8⟩⟩ := hq
            · show W p l e r_c_X12_scale s m args below meth c H locs 0 0 Qf (F0 m 59 ls [.int (iI 1)])
              refine x_if_ne B (by omega) (tgt := 68) dX12_scale_59 (by decide) (fun c9 => ?_) (fun c9 => ?_)
              · refine lv_aload_n B.1 B.2.1 dX12_scale_68 rfl (lv_at hl 0 rfl) ?_
                refine x_getR B h kX12 0 f0 22 (b := am 17) rfl m_1283 (by decide) dX12_scale_69 ?_
                refine lv_aload_n B.1 B.2.1 dX12_scale_72 rfl (lv_at hl 0 rfl) ?_
                refine x_getX B h kX12 0 f0 23 (z := 0) rfl m_1284 (by decide) dX12_scale_73 ?_
                refine lv_iload_n B.1 B.2.1 dX12_scale_76 rfl (lv_at hl 2 rfl) ?_
                refine x_iastS B h 17 f17 (by omega) (fun _ _ => trivial) dX12_scale_77 (fun H locs h => ?_)
                refine lv_aload_n B.1 B.2.1 dX12_scale_78 rfl (lv_at hl 0 rfl) ?_
                refine lv_dup B.1 B.2.1 dX12_scale_79 rfl ?_
                refine x_getX B h kX12 0 f0 23 (z := 0) rfl m_1284 (by decide) dX12_scale_80 ?_
                refine x_iconst B dX12_scale_83 ?_
                refine x_iadd B dX12_scale_84 ?_
                refine x_put B h kX12 0 f0 23 (Nat.le_of_ble_eq_true rfl) (P' := fX (0 + 1)) m_1284 (by decide) rfl rfl rfl rfl dX12_scale_85 (fun H locs h => ?_)
                have h : xH D A s.heap (w.set 0 (am 0, xO 12 [fR (am 1), fX 0, fX 0, fX 0, fX 0, fX 1, fX 1, fR (am 2), fR (am 3), fR (am 4), fR (am 5), fR (am 6), fR (am 7), fR (am 8), fR (am 9), fR (am 10), fR (am 11), fR (am 12), fR (am 13), fR (am 14), fR (am 15), fR (am 16), fR (am 17), fX (0 + 1), fR (am 18), fR (am 19), fR (am 20), fR (am 21), fR (am 22), fR (am 23), fR (am 24), fR (am 25), fX 0, fX (-1), fG 0 0, fG 0 0, fG 0 0, fG 0 0, fG 0 0, fG 0 0, fG 0 0, fG 0 0, fL, fX 0, fR (am 26), fX 0, fX 0, fR (am 27), fR (am 28), fR (am 29), fR (am 30), fR (am 31), fX 0, fX 0, fX 0, fX 0, fR (am 32), fX 0, fX 0, fX 0, fX 0, fR (am 33), fR (am 34), fR (am 35), fX 0, fX 0, fR (am 36), fR (am 37), fR (am 38), fX (-1), fX 0, fX 0, fX 0, fR (am 39), fX 0, fR (am 40), fR (am 41), fR (am 42), fR (am 43), fR (am 44)])) H locs := h
                refine lv_aload_n B.1 B.2.1 dX12_scale_88 rfl (lv_at hl 0 rfl) ?_
                refine x_getX B h kX12 0 (xset_eq f0) 23 (z := (0 + 1)) rfl m_1284 (by decide) dX12_scale_89 ?_
                refine x_iconst B dX12_scale_92 ?_
                refine x_isub B dX12_scale_93 ?_
                refine x_ri B hQ h (by decide) dX12_scale_94 ?_
                exact ⟨_, rfl, by omega⟩
              · exact absurd c9 (by omega)
            · exact (b8 trivial).elim
          · exact absurd c7 (by omega)
        · exact absurd c6 (by omega)
      · show W p l e r_c_X12_scale s m args below meth c H locs 0 0 Qf (F0 m 19 ls [.int (iI 0)])
        refine x_if_ne B (by omega) (tgt := 31) dX12_scale_19 (by decide) (fun c10 => ?_) (fun c10 => ?_)
        · exact absurd c10 (by omega)
        · refine lv_aload_n B.1 B.2.1 dX12_scale_22 rfl (lv_at hl 0 rfl) ?_
          refine x_iconst B dX12_scale_23 ?_
          refine x_cV B h kX12 0 f0 k_X12_refuse rfl (c_X12_refuse l D ca _ 0 am f0 f1 (by omega)) m_1507 rfl (by decide) hl.1 [] (Nat.le_of_ble_eq_true rfl) rfl dX12_scale_24 (fun r w1 hq H locs h => ?_)
          obtain ⟨z11, rfl, hz11⟩ := hq
          show W p l e r_c_X12_scale s m args below meth c H locs 0 0 Qf (F0 m 27 ls [.int (iI z11)])
          refine lv_pop B.1 B.2.1 dX12_scale_27 rfl ?_
          refine x_bipush B (by decide) dX12_scale_28 ?_
          refine x_ri B hQ h (by decide) dX12_scale_30 ?_
          exact ⟨_, rfl, by omega⟩
abbrev r_c_X12_habits : Room := { frames := 1, cells := 0, slots := 0, locals := 21 }
set_option maxHeartbeats 4000000 in
set_option maxRecDepth 100000 in
theorem c_X12_habits (l : Launch) (D : va_G) (ca : Nat → ClassId) (w : xW) (o : Int) (n : Int) (am : Nat → Nat) (f0 : w[0]? = some (am 0, xO 12 [fR (am 1), fX 0, fX 0, fX 0, fX 0, fX 1, fX 1, fR (am 2), fR (am 3), fR (am 4), fR (am 5), fR (am 6), fR (am 7), fR (am 8), fR (am 9), fR (am 10), fR (am 11), fR (am 12), fR (am 13), fR (am 14), fR (am 15), fR (am 16), fR (am 17), fX 0, fR (am 18), fR (am 19), fR (am 20), fR (am 21), fR (am 22), fR (am 23), fR (am 24), fR (am 25), fX 0, fX (-1), fG 0 0, fG 0 0, fG 0 0, fG 0 0, fG 0 0, fG 0 0, fG 0 0, fG 0 0, fL, fX 0, fR (am 26), fX 0, fX 0, fR (am 27), fR (am 28), fR (am 29), fR (am 30), fR (am 31), fX 0, fX 0, fX 0, fX 0, fR (am 32), fX 0, fX 0, fX 0, fX 0, fR (am 33), fR (am 34), fR (am 35), fX 0, fX 0, fR (am 36), fR (am 37), fR (am 38), fX (-1), fX 0, fX 0, fX 0, fR (am 39), fX 0, fR (am 40), fR (am 41), fR (am 42), fR (am 43), fR (am 44)])) (f1 : w[1]? = some (am 1, xAI (ca 0) 3 (gX 3 (fun _ => 0)))) (ho : xr o) (hn : xr n) : xC l D ca yX12_habits cX12_habits 5 (some .int) r_c_X12_habits [.ref (am 0), .int (iI o), .int (iI n)] w (qIa (fun z => z = -2)) := by
  refine xC.of2 "WindWordsModel" (by decide) rfl (Nat.le_of_ble_eq_true rfl) ?_
  intro p e s m args below meth c A ls Qf B hnm h hl hQ
  have hl : lv_has ls 5 [(0, .ref (am 0)), (1, .int (iI o)), (2, .int (iI n))] := hl
  refine lv_aload_n B.1 B.2.1 dX12_habits_0 rfl (lv_at hl 0 rfl) ?_
  refine lv_iload_n B.1 B.2.1 dX12_habits_1 rfl (lv_at hl 1 rfl) ?_
  refine x_cV B h kX12 0 f0 k_X12_isOfficer rfl (c_X12_isOfficer l D ca _ o am f0 (by omega)) m_1518 rfl (by decide) hl.1 [] (Nat.le_of_ble_eq_true rfl) rfl dX12_habits_2 (fun r w1 hq H locs h => ?_)
  obtain ⟨rfl, ⟨rfl, b1⟩ | ⟨rfl, b1⟩⟩ := hq
  · exact b1.elim
  · show W p l e r_c_X12_habits s m args below meth c H locs 0 0 Qf (F0 m 5 ls [.int (iI 0)])
    refine x_if_eq B (by omega) (tgt := 20) dX12_habits_5 (by decide) (fun c2 => ?_) (fun c2 => ?_)
    · refine lv_aload_n B.1 B.2.1 dX12_habits_20 rfl (lv_at hl 0 rfl) ?_
      refine x_iconst B dX12_habits_21 ?_
      refine x_cV B h kX12 0 f0 k_X12_refuse rfl (c_X12_refuse l D ca _ 0 am f0 f1 (by omega)) m_1507 rfl (by decide) hl.1 [] (Nat.le_of_ble_eq_true rfl) rfl dX12_habits_22 (fun r w1 hq H locs h => ?_)
      obtain ⟨z3, rfl, hz3⟩ := hq
      show W p l e r_c_X12_habits s m args below meth c H locs 0 0 Qf (F0 m 25 ls [.int (iI z3)])
      refine lv_pop B.1 B.2.1 dX12_habits_25 rfl ?_
      refine x_bipush B (by decide) dX12_habits_26 ?_
      refine x_ri B hQ h (by decide) dX12_habits_28 ?_
      exact ⟨_, rfl, by omega⟩
    · exact absurd c2 (by omega)
abbrev r_c_X12_fault : Room := { frames := 0, cells := 0, slots := 0, locals := 0 }
set_option maxHeartbeats 4000000 in
set_option maxRecDepth 100000 in
theorem c_X12_fault (l : Launch) (D : va_G) (ca : Nat → ClassId) (w : xW) (am : Nat → Nat) (f0 : w[0]? = some (am 0, xO 12 [fR (am 1), fX 0, fX 0, fX 0, fX 0, fX 1, fX 1, fR (am 2), fR (am 3), fR (am 4), fR (am 5), fR (am 6), fR (am 7), fR (am 8), fR (am 9), fR (am 10), fR (am 11), fR (am 12), fR (am 13), fR (am 14), fR (am 15), fR (am 16), fR (am 17), fX 0, fR (am 18), fR (am 19), fR (am 20), fR (am 21), fR (am 22), fR (am 23), fR (am 24), fR (am 25), fX 0, fX (-1), fG 0 0, fG 0 0, fG 0 0, fG 0 0, fG 0 0, fG 0 0, fG 0 0, fG 0 0, fL, fX 0, fR (am 26), fX 0, fX 0, fR (am 27), fR (am 28), fR (am 29), fR (am 30), fR (am 31), fX 0, fX 0, fX 0, fX 0, fR (am 32), fX 0, fX 0, fX 0, fX 0, fR (am 33), fR (am 34), fR (am 35), fX 0, fX 0, fR (am 36), fR (am 37), fR (am 38), fX (-1), fX 0, fX 0, fX 0, fR (am 39), fX 0, fR (am 40), fR (am 41), fR (am 42), fR (am 43), fR (am 44)]))  : xC l D ca yX12_fault cX12_fault 1 (some .int) r_c_X12_fault [.ref (am 0)] w (qIa (fun z => z = -1)) := by
  refine xC.of2 "WindWordsModel" (by decide) rfl (Nat.le_of_ble_eq_true rfl) ?_
  intro p e s m args below meth c A ls Qf B hnm h hl hQ
  have hl : lv_has ls 1 [(0, .ref (am 0))] := hl
  refine lv_aload_n B.1 B.2.1 dX12_fault_0 rfl (lv_at hl 0 rfl) ?_
  refine x_getX B h kX12 0 f0 33 (z := (-1)) rfl m_1294 (by decide) dX12_fault_1 ?_
  refine x_ri B hQ h (by decide) dX12_fault_4 ?_
  exact ⟨_, rfl, by omega⟩
