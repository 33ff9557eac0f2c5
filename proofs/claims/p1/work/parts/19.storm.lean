theorem k_X8_spread : xMS yX8_spread cX8_spread 4 (some .long) 1 := ⟨m_1189, m_1188, m_100, ⟨by decide +kernel, by decide +kernel, by decide +kernel⟩⟩
theorem k_X8_allowed : xMV yX8_allowed cX8_allowed 9 (some .long) 2 := ⟨m_1180, m_1179, m_35, m_100, ⟨by decide +kernel, by decide +kernel, by decide +kernel⟩⟩
theorem k_X8_lasts : xMV yX8_lasts cX8_lasts 2 (some .boolean) 1 := ⟨m_1199, m_1197, m_1198, m_100, ⟨by decide +kernel, by decide +kernel, by decide +kernel⟩⟩
theorem k_X8_tell : xMV yX8_tell cX8_tell 5 none 4 := ⟨m_1171, m_1169, m_1170, m_100, ⟨by decide +kernel, by decide +kernel, by decide +kernel⟩⟩
theorem k_X8_follow : xMV yX8_follow cX8_follow 4 none 1 := ⟨m_1175, m_1173, m_1174, m_100, ⟨by decide +kernel, by decide +kernel, by decide +kernel⟩⟩
theorem k_X8_cellsOn : xMV yX8_cellsOn cX8_cellsOn 2 (some .long) 1 := ⟨m_1195, m_1193, m_1194, m_100, ⟨by decide +kernel, by decide +kernel, by decide +kernel⟩⟩
abbrev r_c_X8_tell : Room := { frames := 0, cells := 0, slots := 0, locals := 0 }
set_option maxHeartbeats 4000000 in
set_option maxRecDepth 100000 in
theorem c_X8_tell (l : Launch) (D : va_G) (ca : Nat → ClassId) (w : xW) (fr : Int) (to : Int) (rad : Int) (li : Int) (ad : Nat → Nat) (f18 : w[18]? = some (ad 18, xO 8 [fR (ad 19), fX 0, fX 0, fX 0, fX 0, fX 0])) (hfr : xr fr) (hto : xr to) (hrad : xr rad) (hli : xr li) : xC l D ca yX8_tell cX8_tell 5 none r_c_X8_tell [.ref (ad 18), .int (iI fr), .int (iI to), .int (iI rad), .int (iI li)] w (qV (w.set 18 (ad 18, xO 8 [fR (ad 19), fX 1, fX fr, fX to, fX rad, fX li]))) := by
  refine xC.of2 "WindWords$Storm" (by decide) rfl (Nat.le_of_ble_eq_true rfl) ?_
  intro p e s m args below meth c A ls Qf B hnm h hl hQ
  have hl : lv_has ls 5 [(0, .ref (ad 18)), (1, .int (iI fr)), (2, .int (iI to)), (3, .int (iI rad)), (4, .int (iI li))] := hl
  refine lv_aload_n B.1 B.2.1 dX8_tell_0 rfl (lv_at hl 0 rfl) ?_
  refine x_iconst B dX8_tell_1 ?_
  refine x_put B h kX8 18 f18 1 (Nat.le_of_ble_eq_true rfl) (P' := fX 1) m_263 (by decide) rfl rfl rfl rfl dX8_tell_2 (fun H locs h => ?_)
  have h : xH D A s.heap (w.set 18 (ad 18, xO 8 [fR (ad 19), fX 1, fX 0, fX 0, fX 0, fX 0])) H locs := h
  refine lv_aload_n B.1 B.2.1 dX8_tell_5 rfl (lv_at hl 0 rfl) ?_
  refine lv_iload_n B.1 B.2.1 dX8_tell_6 rfl (lv_at hl 1 rfl) ?_
  refine x_put B h kX8 18 (xset_eq f18) 2 (Nat.le_of_ble_eq_true rfl) (P' := fX fr) m_264 (by decide) rfl rfl rfl rfl dX8_tell_7 (fun H locs h => ?_)
  have h : xH D A s.heap (w.set 18 (ad 18, xO 8 [fR (ad 19), fX 1, fX fr, fX 0, fX 0, fX 0])) H locs := by rw [List.set_set] at h; exact h
  refine lv_aload_n B.1 B.2.1 dX8_tell_10 rfl (lv_at hl 0 rfl) ?_
  refine lv_iload_n B.1 B.2.1 dX8_tell_11 rfl (lv_at hl 2 rfl) ?_
  refine x_put B h kX8 18 (xset_eq f18) 3 (Nat.le_of_ble_eq_true rfl) (P' := fX to) m_265 (by decide) rfl rfl rfl rfl dX8_tell_12 (fun H locs h => ?_)
  have h : xH D A s.heap (w.set 18 (ad 18, xO 8 [fR (ad 19), fX 1, fX fr, fX to, fX 0, fX 0])) H locs := by rw [List.set_set] at h; exact h
  refine lv_aload_n B.1 B.2.1 dX8_tell_15 rfl (lv_at hl 0 rfl) ?_
  refine lv_iload_n B.1 B.2.1 dX8_tell_16 rfl (lv_at hl 3 rfl) ?_
  refine x_put B h kX8 18 (xset_eq f18) 4 (Nat.le_of_ble_eq_true rfl) (P' := fX rad) m_266 (by decide) rfl rfl rfl rfl dX8_tell_17 (fun H locs h => ?_)
  have h : xH D A s.heap (w.set 18 (ad 18, xO 8 [fR (ad 19), fX 1, fX fr, fX to, fX rad, fX 0])) H locs := by rw [List.set_set] at h; exact h
  refine lv_aload_n B.1 B.2.1 dX8_tell_20 rfl (lv_at hl 0 rfl) ?_
  refine lv_iload B.1 B.2.1 dX8_tell_21 (lv_at hl 4 rfl) ?_
  refine x_put B h kX8 18 (xset_eq f18) 5 (Nat.le_of_ble_eq_true rfl) (P' := fX li) m_267 (by decide) rfl rfl rfl rfl dX8_tell_23 (fun H locs h => ?_)
  have h : xH D A s.heap (w.set 18 (ad 18, xO 8 [fR (ad 19), fX 1, fX fr, fX to, fX rad, fX li])) H locs := by rw [List.set_set] at h; exact h
  refine x_rv B hQ h (by decide) dX8_tell_26 ?_
  exact ⟨rfl, rfl⟩
abbrev r_c_X8_lasts0 : Room := { frames := 0, cells := 0, slots := 0, locals := 0 }
set_option maxHeartbeats 4000000 in
set_option maxRecDepth 100000 in
theorem c_X8_lasts0 (l : Launch) (D : va_G) (ca : Nat → ClassId) (w : xW) (watch : Int) (ad : Nat → Nat) (f18 : w[18]? = some (ad 18, xO 8 [fR (ad 19), fX 0, fX 0, fX 0, fX 0, fX 0])) (hwatch : xr watch) : xC l D ca yX8_lasts cX8_lasts 2 (some .boolean) r_c_X8_lasts0 [.ref (ad 18), .int (iI watch)] w (qZ w (False)) := by
  refine xC.of2 "WindWords$Storm" (by decide) rfl (Nat.le_of_ble_eq_true rfl) ?_
  intro p e s m args below meth c A ls Qf B hnm h hl hQ
  have hl : lv_has ls 2 [(0, .ref (ad 18)), (1, .int (iI watch))] := hl
  refine lv_aload_n B.1 B.2.1 dX8_lasts_0 rfl (lv_at hl 0 rfl) ?_
  refine x_getX B h kX8 18 f18 1 (z := 0) rfl m_263 (by decide) dX8_lasts_1 ?_
  refine x_if_eq B (by omega) (tgt := 27) dX8_lasts_4 (by decide) (fun c1 => ?_) (fun c1 => ?_)
  · refine x_iconst B dX8_lasts_27 ?_
    refine x_rz B hQ h (by decide) (by decide) dX8_lasts_28 ?_
    exact ⟨rfl, Or.inr ⟨rfl, fun q => q⟩⟩
  · exact absurd c1 (by omega)
abbrev r_c_X8_lasts1 : Room := { frames := 0, cells := 0, slots := 0, locals := 0 }
set_option maxHeartbeats 4000000 in
set_option maxRecDepth 100000 in
theorem c_X8_lasts1 (l : Launch) (D : va_G) (ca : Nat → ClassId) (w : xW) (watch : Int) (ad : Nat → Nat) (fr : Int) (to : Int) (rad : Int) (li : Int) (f18 : w[18]? = some (ad 18, xO 8 [fR (ad 19), fX 1, fX fr, fX to, fX rad, fX li])) (hw : xr watch) (hf : xr fr) (ht : xr to) : xC l D ca yX8_lasts cX8_lasts 2 (some .boolean) r_c_X8_lasts1 [.ref (ad 18), .int (iI watch)] w (qZ w (fr ≤ watch ∧ watch ≤ to)) := by
  refine xC.of2 "WindWords$Storm" (by decide) rfl (Nat.le_of_ble_eq_true rfl) ?_
  intro p e s m args below meth c A ls Qf B hnm h hl hQ
  have hl : lv_has ls 2 [(0, .ref (ad 18)), (1, .int (iI watch))] := hl
  refine lv_aload_n B.1 B.2.1 dX8_lasts_0 rfl (lv_at hl 0 rfl) ?_
  refine x_getX B h kX8 18 f18 1 (z := 1) rfl m_263 (by decide) dX8_lasts_1 ?_
  refine x_if_eq B (by omega) (tgt := 27) dX8_lasts_4 (by decide) (fun c1 => ?_) (fun c1 => ?_)
  · exact absurd c1 (by omega)
  · refine lv_iload_n B.1 B.2.1 dX8_lasts_7 rfl (lv_at hl 1 rfl) ?_
    refine lv_aload_n B.1 B.2.1 dX8_lasts_8 rfl (lv_at hl 0 rfl) ?_
    refine x_getX B h kX8 18 f18 2 (z := fr) rfl m_264 (by decide) dX8_lasts_9 ?_
    refine x_icmp_lt B (by omega) (tgt := 27) dX8_lasts_12 (by decide) (fun c2 => ?_) (fun c2 => ?_)
    · refine x_iconst B dX8_lasts_27 ?_
      refine x_rz B hQ h (by decide) (by decide) dX8_lasts_28 ?_
      exact ⟨rfl, Or.inr ⟨rfl, by omega⟩⟩
    · refine lv_iload_n B.1 B.2.1 dX8_lasts_15 rfl (lv_at hl 1 rfl) ?_
      refine lv_aload_n B.1 B.2.1 dX8_lasts_16 rfl (lv_at hl 0 rfl) ?_
      refine x_getX B h kX8 18 f18 3 (z := to) rfl m_265 (by decide) dX8_lasts_17 ?_
      refine x_icmp_gt B (by omega) (tgt := 27) dX8_lasts_20 (by decide) (fun c3 => ?_) (fun c3 => ?_)
      · refine x_iconst B dX8_lasts_27 ?_
        refine x_rz B hQ h (by decide) (by decide) dX8_lasts_28 ?_
        exact ⟨rfl, Or.inr ⟨rfl, by omega⟩⟩
      · refine x_iconst B dX8_lasts_23 ?_
        refine lv_goto (tgt := 28) B.1 B.2.1 dX8_lasts_24 (by decide) ?_
        refine x_rz B hQ h (by decide) (by decide) dX8_lasts_28 ?_
        exact ⟨rfl, Or.inl ⟨rfl, by omega⟩⟩
abbrev r_c_X8_spread : Room := { frames := 0, cells := 0, slots := 0, locals := 0 }
set_option maxHeartbeats 4000000 in
set_option maxRecDepth 100000 in
theorem c_X8_spread (l : Launch) (D : va_G) (ca : Nat → ClassId) (w : xW)    : xC l D ca yX8_spread cX8_spread 4 (some .long) r_c_X8_spread [.long ((-1 : Int64))] w (qL w (fun z => z = (-1 : Int64))) := by
  refine xC.of2 "WindWords$Storm" (by decide) rfl (Nat.le_of_ble_eq_true rfl) ?_
  intro p e s m args below meth c A ls Qf B hnm h hl hQ
  have hl : lv_has ls 4 [(0, .long ((-1 : Int64)))] := hl
  refine lv_lload_n B.1 B.2.1 dX8_spread_0 rfl (lv_at hl 0 rfl) ?_
  refine lv_lload_n B.1 B.2.1 dX8_spread_1 rfl (lv_at hl 0 rfl) ?_
  refine x_iconst B dX8_spread_2 ?_
  refine lv_lshl (v := (-2 : Int64)) B.1 B.2.1 dX8_spread_3 (by decide) ?_
  refine x_ldc2 B m_1190 dX8_spread_4 ?_
  refine lv_land B.1 B.2.1 dX8_spread_7 ?_
  refine x_lset (y := (-72340172838076674 : Int64)) (by decide) ?_
  refine lv_lor B.1 B.2.1 dX8_spread_8 ?_
  refine x_lset (y := (-1 : Int64)) (by decide) ?_
  refine lv_lload_n B.1 B.2.1 dX8_spread_9 rfl (lv_at hl 0 rfl) ?_
  refine x_iconst B dX8_spread_10 ?_
  refine lv_lushr (v := (9223372036854775807 : Int64)) B.1 B.2.1 dX8_spread_11 (by decide) ?_
  refine x_ldc2 B m_1191 dX8_spread_12 ?_
  refine lv_land B.1 B.2.1 dX8_spread_15 ?_
  refine x_lset (y := (9187201950435737471 : Int64)) (by decide) ?_
  refine lv_lor B.1 B.2.1 dX8_spread_16 ?_
  refine x_lset (y := (-1 : Int64)) (by decide) ?_
  refine lv_lstore_n (lv' := [(2, .long ((-1 : Int64))), (0, .long ((-1 : Int64)))]) B.1 B.2.1 dX8_spread_17 rfl hl (by decide) rfl (fun ls hl => ?_)
  refine lv_lload_n B.1 B.2.1 dX8_spread_18 rfl (lv_at hl 0 rfl) ?_
  refine lv_lload_n B.1 B.2.1 dX8_spread_19 rfl (lv_at hl 0 rfl) ?_
  refine x_bipush B (by decide) dX8_spread_20 ?_
  refine lv_lshl (v := (-256 : Int64)) B.1 B.2.1 dX8_spread_22 (by decide) ?_
  refine lv_lor B.1 B.2.1 dX8_spread_23 ?_
  refine x_lset (y := (-1 : Int64)) (by decide) ?_
  refine lv_lload_n B.1 B.2.1 dX8_spread_24 rfl (lv_at hl 0 rfl) ?_
  refine x_bipush B (by decide) dX8_spread_25 ?_
  refine lv_lushr (v := (72057594037927935 : Int64)) B.1 B.2.1 dX8_spread_27 (by decide) ?_
  refine lv_lor B.1 B.2.1 dX8_spread_28 ?_
  refine x_lset (y := (-1 : Int64)) (by decide) ?_
  refine x_rl B hQ h (by decide) dX8_spread_29 ?_
  exact ⟨rfl, _, rfl, rfl⟩
abbrev r_c_X8_allowed : Room := { frames := 0, cells := 0, slots := 0, locals := 0 }
set_option maxHeartbeats 4000000 in
set_option maxRecDepth 100000 in
theorem c_X8_allowed (l : Launch) (D : va_G) (ca : Nat → ClassId) (w : xW) (watch : Int) (ad : Nat → Nat) (f1 : w[1]? = some (ad 1, xO 0 [fR (ad 2), fR (ad 3), fX 0, fX 0, fX 0, fX 0, fX 0, fX 1, fX 1])) (hwatch : xr watch) : xC l D ca yX8_allowed cX8_allowed 9 (some .long) r_c_X8_allowed [.ref (ad 18), .int (iI watch), .ref (ad 1)] w (qL w (fun z => z = (-1 : Int64))) := by
  refine xC.of2 "WindWords$Storm" (by decide) rfl (Nat.le_of_ble_eq_true rfl) ?_
  intro p e s m args below meth c A ls Qf B hnm h hl hQ
  have hl : lv_has ls 9 [(0, .ref (ad 18)), (1, .int (iI watch)), (2, .ref (ad 1))] := hl
  refine x_ldc2 B m_1181 dX8_allowed_0 ?_
  refine lv_lstore_n (lv' := [(3, .long ((-1 : Int64))), (0, .ref (ad 18)), (1, .int (iI watch)), (2, .ref (ad 1))]) B.1 B.2.1 dX8_allowed_3 rfl hl (by decide) rfl (fun ls hl => ?_)
  refine x_iconst B dX8_allowed_4 ?_
  refine lv_istore (lv' := [(5, .int (iI 0)), (3, .long ((-1 : Int64))), (0, .ref (ad 18)), (1, .int (iI watch)), (2, .ref (ad 1))]) B.1 B.2.1 dX8_allowed_5 hl (by decide) rfl (fun ls hl => ?_)
  refine lv_iload B.1 B.2.1 dX8_allowed_7 (lv_at hl 0 rfl) ?_
  refine lv_aload_n B.1 B.2.1 dX8_allowed_9 rfl (lv_at hl 4 rfl) ?_
  refine x_getX B h kX0 1 f1 5 (z := 0) rfl m_148 (by decide) dX8_allowed_10 ?_
  refine x_icmp_ge B (by omega) (tgt := 81) dX8_allowed_13 (by decide) (fun c1 => ?_) (fun c1 => ?_)
  · refine lv_lload_n B.1 B.2.1 dX8_allowed_81 rfl (lv_at hl 1 rfl) ?_
    refine x_rl B hQ h (by decide) dX8_allowed_82 ?_
    exact ⟨rfl, _, rfl, rfl⟩
  · exact absurd c1 (by omega)
abbrev r_c_X8_follow : Room := { frames := 1, cells := 0, slots := 0, locals := 28 }
set_option maxHeartbeats 4000000 in
set_option maxRecDepth 100000 in
theorem c_X8_follow (l : Launch) (D : va_G) (ca : Nat → ClassId) (w : xW) (ad : Nat → Nat) (fr : Int) (to : Int) (rad : Int) (li : Int) (f18 : w[18]? = some (ad 18, xO 8 [fR (ad 19), fX 1, fX fr, fX to, fX rad, fX li])) (f1 : w[1]? = some (ad 1, xO 0 [fR (ad 2), fR (ad 3), fX 0, fX 0, fX 0, fX 0, fX 0, fX 1, fX 1])) (f19 : w[19]? = some (ad 19, xAL (ca 1) 60 (fun _ => True))) (hf : 0 ≤ fr ∧ fr ≤ 999) (ht : fr ≤ to ∧ to ≤ 999) (hd : to - fr < 60) : xC l D ca yX8_follow cX8_follow 4 none r_c_X8_follow [.ref (ad 18), .ref (ad 1)] w (qV (w.set 19 (ad 19, xAL (ca 1) 60 (gL (min 60 ((to - fr) + 1)) ((-1 : Int64)))))) := by
  refine xC.of2 "WindWords$Storm" (by decide) rfl (Nat.le_of_ble_eq_true rfl) ?_
  intro p e s m args below meth c A ls Qf B hnm h hl hQ
  have hl : lv_has ls 4 [(0, .ref (ad 18)), (1, .ref (ad 1))] := hl
  refine x_bipush B (by decide) dX8_follow_0 ?_
  refine lv_aload_n B.1 B.2.1 dX8_follow_2 rfl (lv_at hl 0 rfl) ?_
  refine x_getX B h kX8 18 f18 3 (z := to) rfl m_265 (by decide) dX8_follow_3 ?_
  refine lv_aload_n B.1 B.2.1 dX8_follow_6 rfl (lv_at hl 0 rfl) ?_
  refine x_getX B h kX8 18 f18 2 (z := fr) rfl m_264 (by decide) dX8_follow_7 ?_
  refine x_isub B dX8_follow_10 ?_
  refine x_iconst B dX8_follow_11 ?_
  refine x_iadd B dX8_follow_12 ?_
  refine x_min B (by omega) m_1176 m_586 m_106 m_587 hl.1 (Nat.le_of_ble_eq_true rfl) (by decide) dX8_follow_13 ?_
  refine lv_istore_n (lv' := [(2, .int (iI (min 60 ((to - fr) + 1)))), (0, .ref (ad 18)), (1, .ref (ad 1))]) B.1 B.2.1 dX8_follow_16 rfl hl (by decide) rfl (fun ls hl => ?_)
  refine x_iconst B dX8_follow_17 ?_
  refine lv_istore_n (lv' := [(3, .int (iI 0)), (2, .int (iI (min 60 ((to - fr) + 1)))), (0, .ref (ad 18)), (1, .ref (ad 1))]) B.1 B.2.1 dX8_follow_18 rfl hl (by decide) rfl (fun ls hl => ?_)
  have h := xH.weak (P' := xAL (ca 1) 60 (gL 0 ((-1 : Int64)))) h f19 (fun e he => by obtain ⟨f, rfl, _⟩ := he; exact ⟨f, rfl, fun j hj => by omega⟩)
  have h : xH D A s.heap (w.set 19 (ad 19, xAL (ca 1) 60 (gL 0 ((-1 : Int64))))) _ _ := h
  have loop19 : ∀ (n19 : Nat) (k : Int), (0 ≤ k ∧ k ≤ min 60 (to - fr + 1)) → (60 - k : Int).toNat < n19 → ∀ (H : Heap) (locs : List Loc) (ls : Array Slot), xH D A s.heap ((w.set 19 (ad 19, xAL (ca 1) 60 (gL k ((-1 : Int64)))))) H locs → lv_has ls 4 [(0, .ref (ad 18)), (1, .ref (ad 1)), (2, .int (iI (min 60 ((to - fr) + 1)))), (3, .int (iI k))] → W p l e r_c_X8_follow s m args below meth c H locs 0 0 Qf (F0 m 19 ls []) := by
    intro n19
    induction n19 with
    | zero =>
      intro k h0 hm19 H locs ls h hl
      exact absurd hm19 (Nat.not_lt_zero _)
    | succ n19 ih19 =>
      intro k h0 hm19 H locs ls h hl
      refine lv_iload_n B.1 B.2.1 dX8_follow_19 rfl (lv_at hl 3 rfl) ?_
      refine lv_iload_n B.1 B.2.1 dX8_follow_20 rfl (lv_at hl 2 rfl) ?_
      refine x_icmp_ge B (by omega) (tgt := 71) dX8_follow_21 (by decide) (fun c1 => ?_) (fun c1 => ?_)
      · have e9_k : (min 60 ((to - fr) + 1)) = k := by omega
        subst e9_k
        refine lv_iload_n B.1 B.2.1 dX8_follow_71 rfl (lv_at hl 2 rfl) ?_
        refine x_iconst B dX8_follow_72 ?_
        refine x_isub B dX8_follow_73 ?_
        refine lv_istore_n (lv' := [(3, .int (iI ((min 60 ((to - fr) + 1)) - 2))), (0, .ref (ad 18)), (1, .ref (ad 1)), (2, .int (iI (min 60 ((to - fr) + 1))))]) B.1 B.2.1 dX8_follow_74 rfl hl (by decide) rfl (fun ls hl => ?_)
        have loop75 : ∀ (n75 : Nat) (k : Int), (-1 ≤ k ∧ k + 2 ≤ min 60 (to - fr + 1)) → (k + 1 : Int).toNat < n75 → ∀ (H : Heap) (locs : List Loc) (ls : Array Slot), xH D A s.heap ((w.set 19 (ad 19, xAL (ca 1) 60 (gL (min 60 ((to - fr) + 1)) ((-1 : Int64)))))) H locs → lv_has ls 4 [(0, .ref (ad 18)), (1, .ref (ad 1)), (2, .int (iI (min 60 ((to - fr) + 1)))), (3, .int (iI k))] → W p l e r_c_X8_follow s m args below meth c H locs 0 0 Qf (F0 m 75 ls []) := by
          intro n75
          induction n75 with
          | zero =>
            intro k h0 hm75 H locs ls h hl
            exact absurd hm75 (Nat.not_lt_zero _)
          | succ n75 ih75 =>
            intro k h0 hm75 H locs ls h hl
            refine lv_iload_n B.1 B.2.1 dX8_follow_75 rfl (lv_at hl 3 rfl) ?_
            refine x_if_lt B (by omega) (tgt := 105) dX8_follow_76 (by decide) (fun c2 => ?_) (fun c2 => ?_)
            · refine x_rv B hQ h (by decide) dX8_follow_105 ?_
              exact ⟨rfl, rfl⟩
            · refine lv_aload_n B.1 B.2.1 dX8_follow_79 rfl (lv_at hl 0 rfl) ?_
              refine x_getR B h kX8 18 (xset_ne f18 (by decide)) 0 (b := ad 19) rfl m_262 (by decide) dX8_follow_80 ?_
              refine lv_iload_n B.1 B.2.1 dX8_follow_83 rfl (lv_at hl 3 rfl) ?_
              refine lv_dup2_11 B.1 B.2.1 dX8_follow_84 rfl rfl ?_
              refine x_laldC B h 19 (xset_eq f19) (by omega) dX8_follow_85 ?_
              refine lv_aload_n B.1 B.2.1 dX8_follow_86 rfl (lv_at hl 0 rfl) ?_
              refine x_getR B h kX8 18 (xset_ne f18 (by decide)) 0 (b := ad 19) rfl m_262 (by decide) dX8_follow_87 ?_
              refine lv_iload_n B.1 B.2.1 dX8_follow_90 rfl (lv_at hl 3 rfl) ?_
              refine x_iconst B dX8_follow_91 ?_
              refine x_iadd B dX8_follow_92 ?_
              refine x_laldC B h 19 (xset_eq f19) (by omega) dX8_follow_93 ?_
              refine x_cS B h k_X8_spread (c_X8_spread l D ca _   ) m_1187 rfl (by decide) hl.1 [.long ((-1 : Int64)), .int (iI k), .ref (ad 19)] (Nat.le_of_ble_eq_true rfl) rfl dX8_follow_94 (fun r w1 hq H locs h => ?_)
              obtain ⟨rfl, _, rfl, rfl⟩ := hq
              show W p l e r_c_X8_follow s m args below meth c H locs 0 0 Qf (F0 m 97 ls [.long ((-1 : Int64)), .long ((-1 : Int64)), .int (iI k), .ref (ad 19)])
              refine lv_land B.1 B.2.1 dX8_follow_97 ?_
              refine x_lset (y := (-1 : Int64)) (by decide) ?_
              refine x_last B h 19 (xset_eq f19) (by omega) (P' := gL (min 60 ((to - fr) + 1)) ((-1 : Int64))) (gL_put) dX8_follow_98 (fun H locs h => ?_)
              have h : xH D A s.heap (w.set 19 (ad 19, xAL (ca 1) 60 (gL (min 60 ((to - fr) + 1)) ((-1 : Int64))))) H locs := by rw [List.set_set] at h; exact h
              refine lv_iinc (v := iI (k + (-1))) (lv' := [(3, .int (iI (k + (-1)))), (0, .ref (ad 18)), (1, .ref (ad 1)), (2, .int (iI (min 60 ((to - fr) + 1))))]) B.1 B.2.1 dX8_follow_99 hl (k := 3) rfl (iI_add _ _) (by decide) rfl (fun ls hl => ?_)
              refine lv_goto (tgt := 75) B.1 B.2.1 dX8_follow_102 (by decide) ?_
              exact ih75 ((k + (-1))) (by omega) (by omega) _ _ _ h (lv_sub hl [1, 2, 3, 0] rfl)
        exact loop75 (((((min 60 ((to - fr) + 1)) - 2)) + 1 : Int).toNat + 1) (((min 60 ((to - fr) + 1)) - 2)) (by omega) (Nat.lt_succ_self _) _ _ _ h (lv_sub hl [1, 2, 3, 0] rfl)
      · refine lv_aload_n B.1 B.2.1 dX8_follow_24 rfl (lv_at hl 0 rfl) ?_
        refine x_getR B h kX8 18 (xset_ne f18 (by decide)) 0 (b := ad 19) rfl m_262 (by decide) dX8_follow_25 ?_
        refine lv_iload_n B.1 B.2.1 dX8_follow_28 rfl (lv_at hl 3 rfl) ?_
        refine lv_aload_n B.1 B.2.1 dX8_follow_29 rfl (lv_at hl 0 rfl) ?_
        refine lv_aload_n B.1 B.2.1 dX8_follow_30 rfl (lv_at hl 0 rfl) ?_
        refine x_getX B h kX8 18 (xset_ne f18 (by decide)) 2 (z := fr) rfl m_264 (by decide) dX8_follow_31 ?_
        refine lv_iload_n B.1 B.2.1 dX8_follow_34 rfl (lv_at hl 3 rfl) ?_
        refine x_iadd B dX8_follow_35 ?_
        refine lv_aload_n B.1 B.2.1 dX8_follow_36 rfl (lv_at hl 1 rfl) ?_
        refine x_cV B h kX8 18 (xset_ne f18 (by decide)) k_X8_allowed rfl (c_X8_allowed l D ca _ ((fr + k)) ad (xset_ne f1 (by decide)) (by omega)) m_1177 rfl (by decide) hl.1 [.int (iI k), .ref (ad 19)] (Nat.le_of_ble_eq_true rfl) rfl dX8_follow_37 (fun r w1 hq H locs h => ?_)
        obtain ⟨rfl, _, rfl, rfl⟩ := hq
        show W p l e r_c_X8_follow s m args below meth c H locs 0 0 Qf (F0 m 40 ls [.long ((-1 : Int64)), .int (iI k), .ref (ad 19)])
        refine x_last B h 19 (xset_eq f19) (by omega) (P' := gL (k + 1) ((-1 : Int64))) (gL_next (by omega)) dX8_follow_40 (fun H locs h => ?_)
        have h : xH D A s.heap (w.set 19 (ad 19, xAL (ca 1) 60 (gL (k + 1) ((-1 : Int64))))) H locs := by rw [List.set_set] at h; exact h
        refine lv_iload_n B.1 B.2.1 dX8_follow_41 rfl (lv_at hl 3 rfl) ?_
        refine x_if_le B (by omega) (tgt := 65) dX8_follow_42 (by decide) (fun c3 => ?_) (fun c3 => ?_)
        · refine lv_iinc (v := iI (k + 1)) (lv' := [(3, .int (iI (k + 1))), (0, .ref (ad 18)), (1, .ref (ad 1)), (2, .int (iI (min 60 ((to - fr) + 1))))]) B.1 B.2.1 dX8_follow_65 hl (k := 3) rfl (iI_add _ _) (by decide) rfl (fun ls hl => ?_)
          refine lv_goto (tgt := 19) B.1 B.2.1 dX8_follow_68 (by decide) ?_
          exact ih19 ((k + 1)) (by omega) (by omega) _ _ _ h (lv_sub hl [1, 2, 3, 0] rfl)
        · refine lv_aload_n B.1 B.2.1 dX8_follow_45 rfl (lv_at hl 0 rfl) ?_
          refine x_getR B h kX8 18 (xset_ne f18 (by decide)) 0 (b := ad 19) rfl m_262 (by decide) dX8_follow_46 ?_
          refine lv_iload_n B.1 B.2.1 dX8_follow_49 rfl (lv_at hl 3 rfl) ?_
          refine lv_dup2_11 B.1 B.2.1 dX8_follow_50 rfl rfl ?_
          refine x_laldC B h 19 (xset_eq f19) (by omega) dX8_follow_51 ?_
          refine lv_aload_n B.1 B.2.1 dX8_follow_52 rfl (lv_at hl 0 rfl) ?_
          refine x_getR B h kX8 18 (xset_ne f18 (by decide)) 0 (b := ad 19) rfl m_262 (by decide) dX8_follow_53 ?_
          refine lv_iload_n B.1 B.2.1 dX8_follow_56 rfl (lv_at hl 3 rfl) ?_
          refine x_iconst B dX8_follow_57 ?_
          refine x_isub B dX8_follow_58 ?_
          refine x_laldC B h 19 (xset_eq f19) (by omega) dX8_follow_59 ?_
          refine x_cS B h k_X8_spread (c_X8_spread l D ca _   ) m_1187 rfl (by decide) hl.1 [.long ((-1 : Int64)), .int (iI k), .ref (ad 19)] (Nat.le_of_ble_eq_true rfl) rfl dX8_follow_60 (fun r w1 hq H locs h => ?_)
          obtain ⟨rfl, _, rfl, rfl⟩ := hq
          show W p l e r_c_X8_follow s m args below meth c H locs 0 0 Qf (F0 m 63 ls [.long ((-1 : Int64)), .long ((-1 : Int64)), .int (iI k), .ref (ad 19)])
          refine lv_land B.1 B.2.1 dX8_follow_63 ?_
          refine x_lset (y := (-1 : Int64)) (by decide) ?_
          refine x_last B h 19 (xset_eq f19) (by omega) (P' := gL (k + 1) ((-1 : Int64))) (gL_put) dX8_follow_64 (fun H locs h => ?_)
          have h : xH D A s.heap (w.set 19 (ad 19, xAL (ca 1) 60 (gL (k + 1) ((-1 : Int64))))) H locs := by rw [List.set_set] at h; exact h
          refine lv_iinc (v := iI (k + 1)) (lv' := [(3, .int (iI (k + 1))), (0, .ref (ad 18)), (1, .ref (ad 1)), (2, .int (iI (min 60 ((to - fr) + 1))))]) B.1 B.2.1 dX8_follow_65 hl (k := 3) rfl (iI_add _ _) (by decide) rfl (fun ls hl => ?_)
          refine lv_goto (tgt := 19) B.1 B.2.1 dX8_follow_68 (by decide) ?_
          exact ih19 ((k + 1)) (by omega) (by omega) _ _ _ h (lv_sub hl [1, 2, 3, 0] rfl)
  exact loop19 ((60 - 0 : Int).toNat + 1) 0 (by omega) (Nat.lt_succ_self _) _ _ _ h (lv_sub hl [2, 3, 1, 0] rfl)
abbrev r_c_X8_cellsOn : Room := { frames := 1, cells := 0, slots := 0, locals := 21 }
set_option maxHeartbeats 4000000 in
set_option maxRecDepth 100000 in
theorem c_X8_cellsOn (l : Launch) (D : va_G) (ca : Nat → ClassId) (w : xW) (ad : Nat → Nat) (fr : Int) (to : Int) (rad : Int) (li : Int) (f18 : w[18]? = some (ad 18, xO 8 [fR (ad 19), fX 1, fX fr, fX to, fX rad, fX li])) (f19 : w[19]? = some (ad 19, xAL (ca 1) 60 (gL (min 60 ((to - fr) + 1)) ((-1 : Int64))))) (hf : 0 ≤ fr ∧ fr ≤ 999) (ht : fr ≤ to ∧ to ≤ 999) (hd : to - fr < 60) : xC l D ca yX8_cellsOn cX8_cellsOn 2 (some .long) r_c_X8_cellsOn [.ref (ad 18), .int (iI fr)] w (qL w (fun z => z = (-1 : Int64))) := by
  refine xC.of2 "WindWords$Storm" (by decide) rfl (Nat.le_of_ble_eq_true rfl) ?_
  intro p e s m args below meth c A ls Qf B hnm h hl hQ
  have hl : lv_has ls 2 [(0, .ref (ad 18)), (1, .int (iI fr))] := hl
  refine lv_aload_n B.1 B.2.1 dX8_cellsOn_0 rfl (lv_at hl 0 rfl) ?_
  refine lv_iload_n B.1 B.2.1 dX8_cellsOn_1 rfl (lv_at hl 1 rfl) ?_
  refine x_cV B h kX8 18 f18 k_X8_lasts rfl (c_X8_lasts1 l D ca _ fr ad fr to rad li f18 (by omega) (by omega) (by omega)) m_1196 rfl (by decide) hl.1 [] (Nat.le_of_ble_eq_true rfl) rfl dX8_cellsOn_2 (fun r w1 hq H locs h => ?_)
  obtain ⟨rfl, ⟨rfl, b1⟩ | ⟨rfl, b1⟩⟩ := hq
  · show W p l e r_c_X8_cellsOn s m args below meth c H locs 0 0 Qf (F0 m 5 ls [.int (iI 1)])
    refine x_if_eq B (by omega) (tgt := 33) dX8_cellsOn_5 (by decide) (fun c2 => ?_) (fun c2 => ?_)
    · exact absurd c2 (by omega)
    · refine lv_iload_n B.1 B.2.1 dX8_cellsOn_8 rfl (lv_at hl 1 rfl) ?_
      refine lv_aload_n B.1 B.2.1 dX8_cellsOn_9 rfl (lv_at hl 0 rfl) ?_
      refine x_getX B h kX8 18 f18 2 (z := fr) rfl m_264 (by decide) dX8_cellsOn_10 ?_
      refine x_isub B dX8_cellsOn_13 ?_
      refine x_bipush B (by decide) dX8_cellsOn_14 ?_
      refine x_icmp_ge B (by omega) (tgt := 33) dX8_cellsOn_16 (by decide) (fun c3 => ?_) (fun c3 => ?_)
      · exact absurd c3 (by omega)
      · refine lv_aload_n B.1 B.2.1 dX8_cellsOn_19 rfl (lv_at hl 0 rfl) ?_
        refine x_getR B h kX8 18 f18 0 (b := ad 19) rfl m_262 (by decide) dX8_cellsOn_20 ?_
        refine lv_iload_n B.1 B.2.1 dX8_cellsOn_23 rfl (lv_at hl 1 rfl) ?_
        refine lv_aload_n B.1 B.2.1 dX8_cellsOn_24 rfl (lv_at hl 0 rfl) ?_
        refine x_getX B h kX8 18 f18 2 (z := fr) rfl m_264 (by decide) dX8_cellsOn_25 ?_
        refine x_isub B dX8_cellsOn_28 ?_
        refine x_laldC B h 19 f19 (by omega) dX8_cellsOn_29 ?_
        refine lv_goto (tgt := 34) B.1 B.2.1 dX8_cellsOn_30 (by decide) ?_
        refine x_rl B hQ h (by decide) dX8_cellsOn_34 ?_
        exact ⟨rfl, _, rfl, rfl⟩
  · exact absurd (by omega) b1
abbrev r_c_X11_storm : Room := { frames := 2, cells := 0, slots := 0, locals := 51 }
set_option maxHeartbeats 4000000 in
set_option maxRecDepth 100000 in
theorem c_X11_storm (l : Launch) (D : va_G) (ca : Nat → ClassId) (w : xW) (ad : Nat → Nat) (hC : C0 ca ad w) (fr : Int) (to : Int) (rad : Int) (li : Int)  (hfr : xr fr) (hto : xr to) (hrad : xr rad) (hli : xr li) : xC l D ca yX11_storm cX11_storm 5 (some .int) r_c_X11_storm [.ref (ad 0), .int (iI fr), .int (iI to), .int (iI rad), .int (iI li)] w (qIa (fun z => (((0 ≤ fr ∧ fr ≤ 999) ∧ (0 ≤ to ∧ to ≤ 999) ∧ fr ≤ to ∧ to - fr < 60 ∧ (0 ≤ rad ∧ rad ≤ 7) ∧ 0 ≤ li ∧ li ≤ 12) → z = 1) ∧ (¬ ((0 ≤ fr ∧ fr ≤ 999) ∧ (0 ≤ to ∧ to ≤ 999) ∧ fr ≤ to ∧ to - fr < 60 ∧ (0 ≤ rad ∧ rad ≤ 7) ∧ 0 ≤ li ∧ li ≤ 12) → z = -1))) := by
  refine xC.of2 "WindWords" (by decide) rfl (Nat.le_of_ble_eq_true rfl) ?_
  intro p e s m args below meth c A ls Qf B hnm h hl hQ
  have hl : lv_has ls 5 [(0, .ref (ad 0)), (1, .int (iI fr)), (2, .int (iI to)), (3, .int (iI rad)), (4, .int (iI li))] := hl
  refine lv_iload_n B.1 B.2.1 dX11_storm_0 rfl (lv_at hl 1 rfl) ?_
  refine x_sipush B (by decide) dX11_storm_1 ?_
  refine x_cS B h k_X11_within (c_X11_within l D ca _ fr 999  (by omega) (by omega)) m_431 rfl (by decide) hl.1 [] (Nat.le_of_ble_eq_true rfl) rfl dX11_storm_4 (fun r w1 hq H locs h => ?_)
  obtain ⟨rfl, ⟨rfl, b1⟩ | ⟨rfl, b1⟩⟩ := hq
  · show W p l e r_c_X11_storm s m args below meth c H locs 0 0 Qf (F0 m 7 ls [.int (iI 1)])
    refine x_if_eq B (by omega) (tgt := 52) dX11_storm_7 (by decide) (fun c2 => ?_) (fun c2 => ?_)
    · exact absurd c2 (by omega)
    · refine lv_iload_n B.1 B.2.1 dX11_storm_10 rfl (lv_at hl 2 rfl) ?_
      refine x_sipush B (by decide) dX11_storm_11 ?_
      refine x_cS B h k_X11_within (c_X11_within l D ca _ to 999  (by omega) (by omega)) m_431 rfl (by decide) hl.1 [] (Nat.le_of_ble_eq_true rfl) rfl dX11_storm_14 (fun r w1 hq H locs h => ?_)
      obtain ⟨rfl, ⟨rfl, b3⟩ | ⟨rfl, b3⟩⟩ := hq
      · show W p l e r_c_X11_storm s m args below meth c H locs 0 0 Qf (F0 m 17 ls [.int (iI 1)])
        refine x_if_eq B (by omega) (tgt := 52) dX11_storm_17 (by decide) (fun c4 => ?_) (fun c4 => ?_)
        · exact absurd c4 (by omega)
        · refine lv_iload_n B.1 B.2.1 dX11_storm_20 rfl (lv_at hl 2 rfl) ?_
          refine lv_iload_n B.1 B.2.1 dX11_storm_21 rfl (lv_at hl 1 rfl) ?_
          refine x_icmp_lt B (by omega) (tgt := 52) dX11_storm_22 (by decide) (fun c5 => ?_) (fun c5 => ?_)
          · refine x_iconst B dX11_storm_52 ?_
            refine x_ri B hQ h (by decide) dX11_storm_53 ?_
            exact ⟨_, rfl, by omega⟩
          · refine lv_iload_n B.1 B.2.1 dX11_storm_25 rfl (lv_at hl 2 rfl) ?_
            refine lv_iload_n B.1 B.2.1 dX11_storm_26 rfl (lv_at hl 1 rfl) ?_
            refine x_isub B dX11_storm_27 ?_
            refine x_bipush B (by decide) dX11_storm_28 ?_
            refine x_icmp_ge B (by omega) (tgt := 52) dX11_storm_30 (by decide) (fun c6 => ?_) (fun c6 => ?_)
            · refine x_iconst B dX11_storm_52 ?_
              refine x_ri B hQ h (by decide) dX11_storm_53 ?_
              exact ⟨_, rfl, by omega⟩
            · refine lv_iload_n B.1 B.2.1 dX11_storm_33 rfl (lv_at hl 3 rfl) ?_
              refine x_bipush B (by decide) dX11_storm_34 ?_
              refine x_cS B h k_X11_within (c_X11_within l D ca _ rad 7  (by omega) (by omega)) m_431 rfl (by decide) hl.1 [] (Nat.le_of_ble_eq_true rfl) rfl dX11_storm_36 (fun r w1 hq H locs h => ?_)
              obtain ⟨rfl, ⟨rfl, b7⟩ | ⟨rfl, b7⟩⟩ := hq
              · show W p l e r_c_X11_storm s m args below meth c H locs 0 0 Qf (F0 m 39 ls [.int (iI 1)])
                refine x_if_eq B (by omega) (tgt := 52) dX11_storm_39 (by decide) (fun c8 => ?_) (fun c8 => ?_)
                · exact absurd c8 (by omega)
                · refine lv_iload B.1 B.2.1 dX11_storm_42 (lv_at hl 4 rfl) ?_
                  refine x_bipush B (by decide) dX11_storm_44 ?_
                  refine x_cS B h k_X11_within (c_X11_within l D ca _ li 12  (by omega) (by omega)) m_431 rfl (by decide) hl.1 [] (Nat.le_of_ble_eq_true rfl) rfl dX11_storm_46 (fun r w1 hq H locs h => ?_)
                  obtain ⟨rfl, ⟨rfl, b9⟩ | ⟨rfl, b9⟩⟩ := hq
                  · show W p l e r_c_X11_storm s m args below meth c H locs 0 0 Qf (F0 m 49 ls [.int (iI 1)])
                    refine x_if_ne B (by omega) (tgt := 54) dX11_storm_49 (by decide) (fun c10 => ?_) (fun c10 => ?_)
                    · refine lv_aload_n B.1 B.2.1 dX11_storm_54 rfl (lv_at hl 0 rfl) ?_
                      refine x_getR B h kX11 0 (hC 0 _ rfl) 4 (b := ad 18) rfl m_365 (by decide) dX11_storm_55 ?_
                      refine lv_iload_n B.1 B.2.1 dX11_storm_58 rfl (lv_at hl 1 rfl) ?_
                      refine lv_iload_n B.1 B.2.1 dX11_storm_59 rfl (lv_at hl 2 rfl) ?_
                      refine lv_iload_n B.1 B.2.1 dX11_storm_60 rfl (lv_at hl 3 rfl) ?_
                      refine lv_iload B.1 B.2.1 dX11_storm_61 (lv_at hl 4 rfl) ?_
                      refine x_cV B h kX8 18 (hC 18 _ rfl) k_X8_tell rfl (c_X8_tell l D ca _ fr to rad li ad (hC 18 _ rfl) (by omega) (by omega) (by omega) (by omega)) m_1168 rfl (by decide) hl.1 [] (Nat.le_of_ble_eq_true rfl) rfl dX11_storm_63 (fun r w1 hq H locs h => ?_)
                      obtain ⟨rfl, rfl⟩ := hq
                      show W p l e r_c_X11_storm s m args below meth c H locs 0 0 Qf (F0 m 66 ls [])
                      have h : xH D A s.heap (w.set 18 (ad 18, xO 8 [fR (ad 19), fX 1, fX fr, fX to, fX rad, fX li])) H locs := h
                      refine lv_aload_n B.1 B.2.1 dX11_storm_66 rfl (lv_at hl 0 rfl) ?_
                      refine x_getR B h kX11 0 (xset_ne (hC 0 _ rfl) (by decide)) 4 (b := ad 18) rfl m_365 (by decide) dX11_storm_67 ?_
                      refine lv_aload_n B.1 B.2.1 dX11_storm_70 rfl (lv_at hl 0 rfl) ?_
                      refine x_getR B h kX11 0 (xset_ne (hC 0 _ rfl) (by decide)) 0 (b := ad 1) rfl m_361 (by decide) dX11_storm_71 ?_
                      refine x_cV B h kX8 18 (xset_eq (hC 18 _ rfl)) k_X8_follow rfl (c_X8_follow l D ca _ ad fr to rad li (xset_eq (hC 18 _ rfl)) (xset_ne (hC 1 _ rfl) (by decide)) (xset_ne (hC 19 _ rfl) (by decide)) (by omega) (by omega) (by omega)) m_1172 rfl (by decide) hl.1 [] (Nat.le_of_ble_eq_true rfl) rfl dX11_storm_74 (fun r w1 hq H locs h => ?_)
                      obtain ⟨rfl, rfl⟩ := hq
                      show W p l e r_c_X11_storm s m args below meth c H locs 0 0 Qf (F0 m 77 ls [])
                      have h : xH D A s.heap ((w.set 18 (ad 18, xO 8 [fR (ad 19), fX 1, fX fr, fX to, fX rad, fX li])).set 19 (ad 19, xAL (ca 1) 60 (gL (min 60 ((to - fr) + 1)) ((-1 : Int64))))) H locs := h
                      refine lv_aload_n B.1 B.2.1 dX11_storm_77 rfl (lv_at hl 0 rfl) ?_
                      refine x_getR B h kX11 0 (xset_ne (xset_ne (hC 0 _ rfl) (by decide)) (by decide)) 4 (b := ad 18) rfl m_365 (by decide) dX11_storm_78 ?_
                      refine lv_iload_n B.1 B.2.1 dX11_storm_81 rfl (lv_at hl 1 rfl) ?_
                      refine x_cV B h kX8 18 (xset_ne (xset_eq (hC 18 _ rfl)) (by decide)) k_X8_cellsOn rfl (c_X8_cellsOn l D ca _ ad fr to rad li (xset_ne (xset_eq (hC 18 _ rfl)) (by decide)) (xset_eq (xset_ne (hC 19 _ rfl) (by decide))) (by omega) (by omega) (by omega)) m_1192 rfl (by decide) hl.1 [] (Nat.le_of_ble_eq_true rfl) rfl dX11_storm_82 (fun r w1 hq H locs h => ?_)
                      obtain ⟨rfl, _, rfl, rfl⟩ := hq
                      show W p l e r_c_X11_storm s m args below meth c H locs 0 0 Qf (F0 m 85 ls [.long ((-1 : Int64))])
                      refine lv_lconst (v := 0) B.1 B.2.1 dX11_storm_85 (by decide) ?_
                      refine x_lcmp B (z := (-1)) (by decide) dX11_storm_86 ?_
                      refine x_if_ne B (by omega) (tgt := 94) dX11_storm_87 (by decide) (fun c11 => ?_) (fun c11 => ?_)
                      · refine x_iconst B dX11_storm_94 ?_
                        refine x_ri B hQ h (by decide) dX11_storm_95 ?_
                        exact ⟨_, rfl, by omega⟩
                      · exact absurd c11 (by omega)
                    · exact absurd c10 (by omega)
                  · show W p l e r_c_X11_storm s m args below meth c H locs 0 0 Qf (F0 m 49 ls [.int (iI 0)])
                    refine x_if_ne B (by omega) (tgt := 54) dX11_storm_49 (by decide) (fun c12 => ?_) (fun c12 => ?_)
                    · exact absurd c12 (by omega)
                    · refine x_iconst B dX11_storm_52 ?_
                      refine x_ri B hQ h (by decide) dX11_storm_53 ?_
                      exact ⟨_, rfl, by omega⟩
              · show W p l e r_c_X11_storm s m args below meth c H locs 0 0 Qf (F0 m 39 ls [.int (iI 0)])
                refine x_if_eq B (by omega) (tgt := 52) dX11_storm_39 (by decide) (fun c13 => ?_) (fun c13 => ?_)
                · refine x_iconst B dX11_storm_52 ?_
                  refine x_ri B hQ h (by decide) dX11_storm_53 ?_
                  exact ⟨_, rfl, by omega⟩
                · exact absurd c13 (by omega)
      · show W p l e r_c_X11_storm s m args below meth c H locs 0 0 Qf (F0 m 17 ls [.int (iI 0)])
        refine x_if_eq B (by omega) (tgt := 52) dX11_storm_17 (by decide) (fun c14 => ?_) (fun c14 => ?_)
        · refine x_iconst B dX11_storm_52 ?_
          refine x_ri B hQ h (by decide) dX11_storm_53 ?_
          exact ⟨_, rfl, by omega⟩
        · exact absurd c14 (by omega)
  · show W p l e r_c_X11_storm s m args below meth c H locs 0 0 Qf (F0 m 7 ls [.int (iI 0)])
    refine x_if_eq B (by omega) (tgt := 52) dX11_storm_7 (by decide) (fun c15 => ?_) (fun c15 => ?_)
    · refine x_iconst B dX11_storm_52 ?_
      refine x_ri B hQ h (by decide) dX11_storm_53 ?_
      exact ⟨_, rfl, by omega⟩
    · exact absurd c15 (by omega)
abbrev r_c_X11_way : Room := { frames := 1, cells := 0, slots := 0, locals := 21 }
set_option maxHeartbeats 4000000 in
set_option maxRecDepth 100000 in
theorem c_X11_way (l : Launch) (D : va_G) (ca : Nat → ClassId) (w : xW) (ad : Nat → Nat) (hC : C0 ca ad w) (watch : Int) (cell : Int)  (hwatch : xr watch) (hcell : xr cell) : xC l D ca yX11_way cX11_way 5 (some .int) r_c_X11_way [.ref (ad 0), .int (iI watch), .int (iI cell)] w (qIa (fun z => z = -1)) := by
  refine xC.of2 "WindWords" (by decide) rfl (Nat.le_of_ble_eq_true rfl) ?_
  intro p e s m args below meth c A ls Qf B hnm h hl hQ
  have hl : lv_has ls 5 [(0, .ref (ad 0)), (1, .int (iI watch)), (2, .int (iI cell))] := hl
  refine lv_aload_n B.1 B.2.1 dX11_way_0 rfl (lv_at hl 0 rfl) ?_
  refine x_getR B h kX11 0 (hC 0 _ rfl) 4 (b := ad 18) rfl m_365 (by decide) dX11_way_1 ?_
  refine lv_iload_n B.1 B.2.1 dX11_way_4 rfl (lv_at hl 1 rfl) ?_
  refine x_cV B h kX8 18 (hC 18 _ rfl) k_X8_lasts rfl (c_X8_lasts0 l D ca _ watch ad (hC 18 _ rfl) (by omega)) m_1204 rfl (by decide) hl.1 [] (Nat.le_of_ble_eq_true rfl) rfl dX11_way_5 (fun r w1 hq H locs h => ?_)
  obtain ⟨rfl, ⟨rfl, b1⟩ | ⟨rfl, b1⟩⟩ := hq
  · exact b1.elim
  · show W p l e r_c_X11_way s m args below meth c H locs 0 0 Qf (F0 m 8 ls [.int (iI 0)])
    refine x_if_eq B (by omega) (tgt := 22) dX11_way_8 (by decide) (fun c2 => ?_) (fun c2 => ?_)
    · refine x_iconst B dX11_way_22 ?_
      refine x_ri B hQ h (by decide) dX11_way_23 ?_
      exact ⟨_, rfl, by omega⟩
    · exact absurd c2 (by omega)
