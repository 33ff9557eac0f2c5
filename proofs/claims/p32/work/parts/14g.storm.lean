theorem k_X8_lasts : xMV yX8_lasts cX8_lasts 2 (some .boolean) 1 := ⟨m_1199, m_1197, m_1198, m_100, ⟨by decide +kernel, by decide +kernel, by decide +kernel⟩⟩
theorem k_X8_spread : xMS yX8_spread cX8_spread 4 (some .long) 1 := ⟨m_1189, m_1188, m_100, ⟨by decide +kernel, by decide +kernel, by decide +kernel⟩⟩
theorem k_X8_around : xMV yX8_around cX8_around 5 (some .long) 1 := ⟨m_1186, m_1185, m_36, m_100, ⟨by decide +kernel, by decide +kernel, by decide +kernel⟩⟩
theorem k_X8_allowed : xMV yX8_allowed cX8_allowed 9 (some .long) 2 := ⟨m_1180, m_1179, m_35, m_100, ⟨by decide +kernel, by decide +kernel, by decide +kernel⟩⟩
abbrev r_c_X8_lasts : Room := { frames := 0, cells := 0, slots := 0, locals := 0 }
set_option maxHeartbeats 4000000 in
set_option maxRecDepth 100000 in
theorem c_X8_lasts (l : Launch) (D : va_G) (Zk : yK) (ca : Nat → ClassId) (T : Nat → Int → Int) (G : Nat → Int → Nat) (u : Int) (ad : Nat → Nat) (w : yW) (hC : CW ca T G u ad w) (v : Int)  (hv : xr v) : yC l D Zk ca yX8_lasts cX8_lasts 2 (some .boolean) r_c_X8_lasts [.ref (ad 18), .int (iI v)] w (vI w (fun z => (z = 1 ∧ (T 0 14 = 1 ∧ T 0 15 ≤ v ∧ v ≤ T 0 11)) ∨ (z = 0 ∧ (¬ (T 0 14 = 1 ∧ T 0 15 ≤ v ∧ v ≤ T 0 11))))) := by
  refine yC.of2 "WindWords$Storm" (by decide) rfl (Nat.le_of_ble_eq_true rfl) ?_
  intro p e s m args below meth c A ls Qf B hnm h hl hQ
  have hl : lv_has ls 2 [(0, .ref (ad 18)), (1, .int (iI v))] := hl
  have hs := pi_s (CW.pi hC)
  refine lv_aload_n B.1 B.2.1 dX8_lasts_0 rfl (lv_at hl 0 rfl) ?_
  refine y_getX B h kX8 18 (CW.f hC 18 _ rfl) 1 (z := (T 0 14)) rfl m_263 (by decide) dX8_lasts_1 ?_
  refine x_if_eq B (by omega) (tgt := 27) dX8_lasts_4 (by decide) (fun c1 => ?_) (fun c1 => ?_)
  · refine x_iconst B dX8_lasts_27 ?_
    refine y_rz B hQ h (by decide) (by decide) dX8_lasts_28 ?_
    exact ⟨rfl, _, rfl, Or.inr ⟨rfl, (by first | omega | trivial | assumption)⟩⟩
  · refine lv_iload_n B.1 B.2.1 dX8_lasts_7 rfl (lv_at hl 1 rfl) ?_
    refine lv_aload_n B.1 B.2.1 dX8_lasts_8 rfl (lv_at hl 0 rfl) ?_
    refine y_getX B h kX8 18 (CW.f hC 18 _ rfl) 2 (z := (T 0 15)) rfl m_264 (by decide) dX8_lasts_9 ?_
    refine x_icmp_lt B (by omega) (tgt := 27) dX8_lasts_12 (by decide) (fun c2 => ?_) (fun c2 => ?_)
    · refine x_iconst B dX8_lasts_27 ?_
      refine y_rz B hQ h (by decide) (by decide) dX8_lasts_28 ?_
      exact ⟨rfl, _, rfl, Or.inr ⟨rfl, (by first | omega | trivial | assumption)⟩⟩
    · refine lv_iload_n B.1 B.2.1 dX8_lasts_15 rfl (lv_at hl 1 rfl) ?_
      refine lv_aload_n B.1 B.2.1 dX8_lasts_16 rfl (lv_at hl 0 rfl) ?_
      refine y_getX B h kX8 18 (CW.f hC 18 _ rfl) 3 (z := (T 0 11)) rfl m_265 (by decide) dX8_lasts_17 ?_
      refine x_icmp_gt B (by omega) (tgt := 27) dX8_lasts_20 (by decide) (fun c3 => ?_) (fun c3 => ?_)
      · refine x_iconst B dX8_lasts_27 ?_
        refine y_rz B hQ h (by decide) (by decide) dX8_lasts_28 ?_
        exact ⟨rfl, _, rfl, Or.inr ⟨rfl, (by first | omega | trivial | assumption)⟩⟩
      · refine x_iconst B dX8_lasts_23 ?_
        refine lv_goto (tgt := 28) B.1 B.2.1 dX8_lasts_24 (by decide) ?_
        refine y_rz B hQ h (by decide) (by decide) dX8_lasts_28 ?_
        exact ⟨rfl, _, rfl, Or.inl ⟨rfl, (by first | omega | trivial | assumption)⟩⟩
abbrev r_c_X8_cellsOn : Room := { frames := 1, cells := 0, slots := 0, locals := 21 }
set_option maxHeartbeats 4000000 in
set_option maxRecDepth 100000 in
theorem c_X8_cellsOn (l : Launch) (D : va_G) (Zk : yK) (ca : Nat → ClassId) (T : Nat → Int → Int) (G : Nat → Int → Nat) (u : Int) (ad : Nat → Nat) (w : yW) (hC : CW ca T G u ad w) (v : Int)  (hv : xr v) : yC l D Zk ca yX8_cellsOn cX8_cellsOn 2 (some .long) r_c_X8_cellsOn [.ref (ad 18), .int (iI v)] w (vL w (fun z => True)) := by
  refine yC.of2 "WindWords$Storm" (by decide) rfl (Nat.le_of_ble_eq_true rfl) ?_
  intro p e s m args below meth c A ls Qf B hnm h hl hQ
  have hl : lv_has ls 2 [(0, .ref (ad 18)), (1, .int (iI v))] := hl
  have hs := pi_s (CW.pi hC)
  refine lv_aload_n B.1 B.2.1 dX8_cellsOn_0 rfl (lv_at hl 0 rfl) ?_
  refine lv_iload_n B.1 B.2.1 dX8_cellsOn_1 rfl (lv_at hl 1 rfl) ?_
  refine y_cV B h kX8 18 (CW.f hC 18 _ rfl) k_X8_lasts rfl (c_X8_lasts l D Zk ca T G u ad _ hC v  (by omega)) m_1196 rfl (by decide) hl.1 [] (Nat.le_of_ble_eq_true rfl) rfl dX8_cellsOn_2 (fun r w1 hq H locs h => ?_)
  obtain ⟨rfl, _, rfl, ⟨rfl, b1⟩ | ⟨rfl, b1⟩⟩ := hq
  · show W p l e r_c_X8_cellsOn s m args below meth c _ _ 0 0 Qf (F0 m 5 ls [.int (iI 1)])
    refine x_if_eq B (by omega) (tgt := 33) dX8_cellsOn_5 (by decide) (fun c2 => ?_) (fun c2 => ?_)
    · exact absurd c2 (by omega)
    · refine lv_iload_n B.1 B.2.1 dX8_cellsOn_8 rfl (lv_at hl 1 rfl) ?_
      refine lv_aload_n B.1 B.2.1 dX8_cellsOn_9 rfl (lv_at hl 0 rfl) ?_
      refine y_getX B h kX8 18 (CW.f hC 18 _ rfl) 2 (z := (T 0 15)) rfl m_264 (by decide) dX8_cellsOn_10 ?_
      refine x_isub B dX8_cellsOn_13 ?_
      refine x_bipush B (by decide) dX8_cellsOn_14 ?_
      refine x_icmp_ge B (by omega) (tgt := 33) dX8_cellsOn_16 (by decide) (fun c3 => ?_) (fun c3 => ?_)
      · refine lv_lconst (v := 0) B.1 B.2.1 dX8_cellsOn_33 (by decide) ?_
        refine y_rl B hQ h (by decide) dX8_cellsOn_34 ?_
        exact ⟨rfl, _, rfl, trivial⟩
      · refine lv_aload_n B.1 B.2.1 dX8_cellsOn_19 rfl (lv_at hl 0 rfl) ?_
        refine y_getR B h kX8 18 (CW.f hC 18 _ rfl) 0 (b := ad 19) rfl m_262 (by decide) dX8_cellsOn_20 ?_
        refine lv_iload_n B.1 B.2.1 dX8_cellsOn_23 rfl (lv_at hl 1 rfl) ?_
        refine lv_aload_n B.1 B.2.1 dX8_cellsOn_24 rfl (lv_at hl 0 rfl) ?_
        refine y_getX B h kX8 18 (CW.f hC 18 _ rfl) 2 (z := (T 0 15)) rfl m_264 (by decide) dX8_cellsOn_25 ?_
        refine x_isub B dX8_cellsOn_28 ?_
        refine y_lald B h 19 (CW.f hC 19 _ rfl) (by omega) dX8_cellsOn_29 (fun fy4 hfy4 => ?_)
        refine x_rawL (fun y4 => ?_)
        refine lv_goto (tgt := 34) B.1 B.2.1 dX8_cellsOn_30 (by decide) ?_
        refine y_rl B hQ h (by decide) dX8_cellsOn_34 ?_
        exact ⟨rfl, _, rfl, trivial⟩
  · show W p l e r_c_X8_cellsOn s m args below meth c _ _ 0 0 Qf (F0 m 5 ls [.int (iI 0)])
    refine x_if_eq B (by omega) (tgt := 33) dX8_cellsOn_5 (by decide) (fun c5 => ?_) (fun c5 => ?_)
    · refine lv_lconst (v := 0) B.1 B.2.1 dX8_cellsOn_33 (by decide) ?_
      refine y_rl B hQ h (by decide) dX8_cellsOn_34 ?_
      exact ⟨rfl, _, rfl, trivial⟩
    · exact absurd c5 (by omega)
abbrev r_c_X8_spread : Room := { frames := 0, cells := 0, slots := 0, locals := 0 }
set_option maxHeartbeats 4000000 in
set_option maxRecDepth 100000 in
theorem c_X8_spread (l : Launch) (D : va_G) (Zk : yK) (ca : Nat → ClassId) (w : yW) (x : Int64)   : yC l D Zk ca yX8_spread cX8_spread 4 (some .long) r_c_X8_spread [.long (x)] w (vL w (fun z => True)) := by
  refine yC.of2 "WindWords$Storm" (by decide) rfl (Nat.le_of_ble_eq_true rfl) ?_
  intro p e s m args below meth c A ls Qf B hnm h hl hQ
  have hl : lv_has ls 4 [(0, .long (x))] := hl
  refine lv_lload_n B.1 B.2.1 dX8_spread_0 rfl (lv_at hl 0 rfl) ?_
  refine lv_lload_n B.1 B.2.1 dX8_spread_1 rfl (lv_at hl 0 rfl) ?_
  refine x_iconst B dX8_spread_2 ?_
  refine lv_lshl B.1 B.2.1 dX8_spread_3 rfl ?_
  refine x_rawL (fun y1 => ?_)
  refine x_ldc2 B m_1190 dX8_spread_4 ?_
  refine lv_land B.1 B.2.1 dX8_spread_7 ?_
  refine x_rawL (fun y2 => ?_)
  refine lv_lor B.1 B.2.1 dX8_spread_8 ?_
  refine x_rawL (fun y3 => ?_)
  refine lv_lload_n B.1 B.2.1 dX8_spread_9 rfl (lv_at hl 0 rfl) ?_
  refine x_iconst B dX8_spread_10 ?_
  refine lv_lushr B.1 B.2.1 dX8_spread_11 rfl ?_
  refine x_rawL (fun y4 => ?_)
  refine x_ldc2 B m_1191 dX8_spread_12 ?_
  refine lv_land B.1 B.2.1 dX8_spread_15 ?_
  refine x_rawL (fun y5 => ?_)
  refine lv_lor B.1 B.2.1 dX8_spread_16 ?_
  refine x_rawL (fun y6 => ?_)
  refine lv_lstore_n (lv' := [(2, .long (y6)), (0, .long (x))]) B.1 B.2.1 dX8_spread_17 rfl hl (by decide) rfl (fun ls hl => ?_)
  refine lv_lload_n B.1 B.2.1 dX8_spread_18 rfl (lv_at hl 0 rfl) ?_
  refine lv_lload_n B.1 B.2.1 dX8_spread_19 rfl (lv_at hl 0 rfl) ?_
  refine x_bipush B (by decide) dX8_spread_20 ?_
  refine lv_lshl B.1 B.2.1 dX8_spread_22 rfl ?_
  refine x_rawL (fun y7 => ?_)
  refine lv_lor B.1 B.2.1 dX8_spread_23 ?_
  refine x_rawL (fun y8 => ?_)
  refine lv_lload_n B.1 B.2.1 dX8_spread_24 rfl (lv_at hl 0 rfl) ?_
  refine x_bipush B (by decide) dX8_spread_25 ?_
  refine lv_lushr B.1 B.2.1 dX8_spread_27 rfl ?_
  refine x_rawL (fun y9 => ?_)
  refine lv_lor B.1 B.2.1 dX8_spread_28 ?_
  refine x_rawL (fun y10 => ?_)
  refine y_rl B hQ h (by decide) dX8_spread_29 ?_
  exact ⟨rfl, _, rfl, trivial⟩
abbrev r_c_X8_around : Room := { frames := 1, cells := 0, slots := 0, locals := 23 }
set_option maxHeartbeats 4000000 in
set_option maxRecDepth 100000 in
theorem c_X8_around (l : Launch) (D : va_G) (Zk : yK) (ca : Nat → ClassId) (T : Nat → Int → Int) (G : Nat → Int → Nat) (u : Int) (ad : Nat → Nat) (w : yW) (hC : CW ca T G u ad w) (ce : Int)  (hce : 0 ≤ ce ∧ ce ≤ 63) : yC l D Zk ca yX8_around cX8_around 5 (some .long) r_c_X8_around [.ref (ad 18), .int (iI ce)] w (vL w (fun z => True)) := by
  refine yC.of2 "WindWords$Storm" (by decide) rfl (Nat.le_of_ble_eq_true rfl) ?_
  intro p e s m args below meth c A ls Qf B hnm h hl hQ
  have hl : lv_has ls 5 [(0, .ref (ad 18)), (1, .int (iI ce))] := hl
  have hs := pi_s (CW.pi hC)
  refine lv_lconst (v := 1) B.1 B.2.1 dX8_around_0 (by decide) ?_
  refine lv_iload_n B.1 B.2.1 dX8_around_1 rfl (lv_at hl 1 rfl) ?_
  refine lv_lshl B.1 B.2.1 dX8_around_2 rfl ?_
  refine x_rawL (fun y1 => ?_)
  refine lv_lstore_n (lv' := [(2, .long (y1)), (0, .ref (ad 18)), (1, .int (iI ce))]) B.1 B.2.1 dX8_around_3 rfl hl (by decide) rfl (fun ls hl => ?_)
  refine x_iconst B dX8_around_4 ?_
  refine lv_istore (lv' := [(4, .int (iI 0)), (2, .long (y1)), (0, .ref (ad 18)), (1, .int (iI ce))]) B.1 B.2.1 dX8_around_5 hl (by decide) rfl (fun ls hl => ?_)
  have loop7 : ∀ (n7 : Nat) (nr : Int64) (i : Int), (0 ≤ i ∧ i ≤ 7) → ((7 - i : Int)).toNat < n7 → ∀ (H : Heap) (locs : List Loc) (ls : Array Slot), yH D Zk A s w H locs → lv_has ls 5 [(4, .int (iI i)), (2, .long (nr)), (0, .ref (ad 18))] → W p l e r_c_X8_around s m args below meth c H locs 0 0 Qf (F0 m 7 ls []) := by
    intro n7
    induction n7 with
    | zero =>
      intro nr i h0 hm7 H locs ls h hl
      exact absurd hm7 (Nat.not_lt_zero _)
    | succ n7 ih7 =>
      intro nr i h0 hm7 H locs ls h hl
      refine lv_iload B.1 B.2.1 dX8_around_7 (lv_at hl 0 rfl) ?_
      refine lv_aload_n B.1 B.2.1 dX8_around_9 rfl (lv_at hl 2 rfl) ?_
      refine y_getX B h kX8 18 (CW.f hC 18 _ rfl) 4 (z := (T 0 12)) rfl m_266 (by decide) dX8_around_10 ?_
      refine x_icmp_ge B (by omega) (tgt := 27) dX8_around_13 (by decide) (fun c2 => ?_) (fun c2 => ?_)
      · refine lv_lload_n B.1 B.2.1 dX8_around_27 rfl (lv_at hl 1 rfl) ?_
        refine y_rl B hQ h (by decide) dX8_around_28 ?_
        exact ⟨rfl, _, rfl, trivial⟩
      · refine lv_lload_n B.1 B.2.1 dX8_around_16 rfl (lv_at hl 1 rfl) ?_
        refine y_cS B h k_X8_spread (c_X8_spread l D Zk ca _ nr  ) m_1187 rfl (by decide) hl.1 [] (Nat.le_of_ble_eq_true rfl) rfl dX8_around_17 (fun r w1 hq H locs h => ?_)
        obtain ⟨rfl, y3, rfl, hy3⟩ := hq
        show W p l e r_c_X8_around s m args below meth c _ _ 0 0 Qf (F0 m 20 ls [.long (y3)])
        refine lv_lstore_n (lv' := [(2, .long (y3)), (4, .int (iI i)), (0, .ref (ad 18))]) B.1 B.2.1 dX8_around_20 rfl hl (by decide) rfl (fun ls hl => ?_)
        refine lv_iinc (v := iI (i + 1)) (lv' := [(4, .int (iI (i + 1))), (2, .long (y3)), (0, .ref (ad 18))]) B.1 B.2.1 dX8_around_21 hl (k := 1) rfl (iI_add _ _) (by decide) rfl (fun ls hl => ?_)
        refine lv_goto (tgt := 7) B.1 B.2.1 dX8_around_24 (by decide) ?_
        exact ih7 y3 ((i + 1)) (by omega) (by omega) _ _ _ h (lv_sub hl [0, 1, 2] rfl)
  exact loop7 (((7 - 0 : Int)).toNat + 1) y1 0 (by omega) (Nat.lt_succ_self _) _ _ _ h (lv_sub hl [0, 1, 2] rfl)
abbrev r_c_X8_allowed : Room := { frames := 4, cells := 0, slots := 0, locals := 86 }
set_option maxHeartbeats 4000000 in
set_option maxRecDepth 100000 in
theorem c_X8_allowed (l : Launch) (D : va_G) (Zk : yK) (ca : Nat → ClassId) (T : Nat → Int → Int) (G : Nat → Int → Nat) (u : Int) (ad : Nat → Nat) (w : yW) (hC : CW ca T G u ad w) (v : Int)  (hv : xr v) : yC l D Zk ca yX8_allowed cX8_allowed 9 (some .long) r_c_X8_allowed [.ref (ad 18), .int (iI v), .ref (ad 1)] w (vL w (fun z => True)) := by
  refine yC.of2 "WindWords$Storm" (by decide) rfl (Nat.le_of_ble_eq_true rfl) ?_
  intro p e s m args below meth c A ls Qf B hnm h hl hQ
  have hl : lv_has ls 9 [(0, .ref (ad 18)), (1, .int (iI v)), (2, .ref (ad 1))] := hl
  have hs := pi_s (CW.pi hC)
  refine x_ldc2 B m_1181 dX8_allowed_0 ?_
  refine lv_lstore_n (lv' := [(3, .long ((-1 : Int64))), (0, .ref (ad 18)), (1, .int (iI v)), (2, .ref (ad 1))]) B.1 B.2.1 dX8_allowed_3 rfl hl (by decide) rfl (fun ls hl => ?_)
  refine x_iconst B dX8_allowed_4 ?_
  refine lv_istore (lv' := [(5, .int (iI 0)), (3, .long ((-1 : Int64))), (0, .ref (ad 18)), (1, .int (iI v)), (2, .ref (ad 1))]) B.1 B.2.1 dX8_allowed_5 hl (by decide) rfl (fun ls hl => ?_)
  have loop7 : ∀ (n7 : Nat) (md : Int64) (i : Int), (0 ≤ i ∧ i ≤ 300) → ((300 - i : Int)).toNat < n7 → ∀ (H : Heap) (locs : List Loc) (ls : Array Slot), yH D Zk A s w H locs → lv_has ls 9 [(5, .int (iI i)), (3, .long (md)), (0, .ref (ad 18)), (1, .int (iI v)), (2, .ref (ad 1))] → W p l e r_c_X8_allowed s m args below meth c H locs 0 0 Qf (F0 m 7 ls []) := by
    intro n7
    induction n7 with
    | zero =>
      intro md i h0 hm7 H locs ls h hl
      exact absurd hm7 (Nat.not_lt_zero _)
    | succ n7 ih7 =>
      intro md i h0 hm7 H locs ls h hl
      refine lv_iload B.1 B.2.1 dX8_allowed_7 (lv_at hl 0 rfl) ?_
      refine lv_aload_n B.1 B.2.1 dX8_allowed_9 rfl (lv_at hl 4 rfl) ?_
      refine y_getX B h kX0 1 (CW.f hC 1 _ rfl) 5 (z := (T 0 2)) rfl m_148 (by decide) dX8_allowed_10 ?_
      refine x_icmp_ge B (by omega) (tgt := 81) dX8_allowed_13 (by decide) (fun c1 => ?_) (fun c1 => ?_)
      · refine lv_lload_n B.1 B.2.1 dX8_allowed_81 rfl (lv_at hl 1 rfl) ?_
        refine y_rl B hQ h (by decide) dX8_allowed_82 ?_
        exact ⟨rfl, _, rfl, trivial⟩
      · refine lv_aload_n B.1 B.2.1 dX8_allowed_16 rfl (lv_at hl 4 rfl) ?_
        refine lv_iload B.1 B.2.1 dX8_allowed_17 (lv_at hl 0 rfl) ?_
        refine y_cV B h kX0 1 (CW.f hC 1 _ rfl) k_X0_trustedMansAt rfl (c_X0_trustedMansAt l D Zk ca T G u ad _ hC i  (by omega)) m_1182 rfl (by decide) hl.1 [] (Nat.le_of_ble_eq_true rfl) rfl dX8_allowed_19 (fun r w1 hq H locs h => ?_)
        obtain ⟨rfl, _, rfl, ⟨rfl, q2⟩ | ⟨rfl, q2⟩⟩ := hq
        · show W p l e r_c_X8_allowed s m args below meth c _ _ 0 0 Qf (F0 m 22 ls [.null])
          refine lv_astoreN (lv' := [(6, .null), (5, .int (iI i)), (3, .long (md)), (0, .ref (ad 18)), (1, .int (iI v)), (2, .ref (ad 1))]) B.1 B.2.1 dX8_allowed_22 hl (by decide) rfl (fun ls hl => ?_)
          refine lv_aloadN B.1 B.2.1 dX8_allowed_24 (lv_at hl 0 rfl) ?_
          refine lv_ifnullN (tgt := 75) B.1 B.2.1 dX8_allowed_26 (by decide) ?_
          refine lv_iinc (v := iI (i + 1)) (lv' := [(5, .int (iI (i + 1))), (6, .null), (3, .long (md)), (0, .ref (ad 18)), (1, .int (iI v)), (2, .ref (ad 1))]) B.1 B.2.1 dX8_allowed_75 hl (k := 1) rfl (iI_add _ _) (by decide) rfl (fun ls hl => ?_)
          refine lv_goto (tgt := 7) B.1 B.2.1 dX8_allowed_78 (by decide) ?_
          exact ih7 md ((i + 1)) (by omega) (by omega) _ _ _ h (lv_sub hl [0, 2, 3, 4, 5] rfl)
        · have fo3 := CW.rd hC i (by omega)
          show W p l e r_c_X8_allowed s m args below meth c _ _ 0 0 Qf (F0 m 22 ls [.ref (G 4 i)])
          refine lv_astore (lv' := [(6, .ref (G 4 i)), (5, .int (iI i)), (3, .long (md)), (0, .ref (ad 18)), (1, .int (iI v)), (2, .ref (ad 1))]) B.1 B.2.1 dX8_allowed_22 hl (by decide) rfl (fun ls hl => ?_)
          refine lv_aload B.1 B.2.1 dX8_allowed_24 (lv_at hl 0 rfl) ?_
          refine lv_ifnull B.1 B.2.1 dX8_allowed_26 ?_
          refine lv_aload B.1 B.2.1 dX8_allowed_29 (lv_at hl 0 rfl) ?_
          refine y_getX B h kX4 (1000 + 16 * i.toNat + 4) fo3 1 (z := (T 5 i)) rfl m_517 (by decide) dX8_allowed_31 ?_
          have tb4 := pi_5 (CW.pi hC) i
          refine lv_iload_n B.1 B.2.1 dX8_allowed_34 rfl (lv_at hl 4 rfl) ?_
          refine x_icmp_ne B (by omega) (tgt := 75) dX8_allowed_35 (by decide) (fun c5 => ?_) (fun c5 => ?_)
          · refine lv_iinc (v := iI (i + 1)) (lv' := [(5, .int (iI (i + 1))), (6, .ref (G 4 i)), (3, .long (md)), (0, .ref (ad 18)), (1, .int (iI v)), (2, .ref (ad 1))]) B.1 B.2.1 dX8_allowed_75 hl (k := 1) rfl (iI_add _ _) (by decide) rfl (fun ls hl => ?_)
            refine lv_goto (tgt := 7) B.1 B.2.1 dX8_allowed_78 (by decide) ?_
            exact ih7 md ((i + 1)) (by omega) (by omega) _ _ _ h (lv_sub hl [0, 2, 3, 4, 5] rfl)
          · refine lv_aload_n B.1 B.2.1 dX8_allowed_38 rfl (lv_at hl 3 rfl) ?_
            refine lv_aload B.1 B.2.1 dX8_allowed_39 (lv_at hl 0 rfl) ?_
            refine y_getX B h kX4 (1000 + 16 * i.toNat + 4) fo3 2 (z := (T 6 i)) rfl m_521 (by decide) dX8_allowed_41 ?_
            have tb6 := pi_6 (CW.pi hC) i
            refine y_cV B h kX8 18 (CW.f hC 18 _ rfl) k_X8_around rfl (c_X8_around l D Zk ca T G u ad _ hC ((T 6 i))  (by omega)) m_1183 rfl (by decide) hl.1 [] (Nat.le_of_ble_eq_true rfl) rfl dX8_allowed_44 (fun r w1 hq H locs h => ?_)
            obtain ⟨rfl, y7, rfl, hy7⟩ := hq
            show W p l e r_c_X8_allowed s m args below meth c _ _ 0 0 Qf (F0 m 47 ls [.long (y7)])
            refine lv_lstore (lv' := [(7, .long (y7)), (6, .ref (G 4 i)), (5, .int (iI i)), (3, .long (md)), (0, .ref (ad 18)), (1, .int (iI v)), (2, .ref (ad 1))]) B.1 B.2.1 dX8_allowed_47 hl (by decide) rfl (fun ls hl => ?_)
            refine lv_lload_n B.1 B.2.1 dX8_allowed_49 rfl (lv_at hl 3 rfl) ?_
            refine lv_aload B.1 B.2.1 dX8_allowed_50 (lv_at hl 1 rfl) ?_
            refine y_getX B h kX4 (1000 + 16 * i.toNat + 4) fo3 4 (z := (T 8 i)) rfl m_531 (by decide) dX8_allowed_52 ?_
            have tb8 := pi_8 (CW.pi hC) i
            have tb9 := pi_n (CW.pi hC) i
            refine lv_aload_n B.1 B.2.1 dX8_allowed_55 rfl (lv_at hl 4 rfl) ?_
            refine y_getX B h kX8 18 (CW.f hC 18 _ rfl) 5 (z := (T 0 13)) rfl m_267 (by decide) dX8_allowed_56 ?_
            refine x_icmp_lt B (by omega) (tgt := 67) dX8_allowed_59 (by decide) (fun c10 => ?_) (fun c10 => ?_)
            · refine lv_lload B.1 B.2.1 dX8_allowed_67 (lv_at hl 0 rfl) ?_
              refine x_ldc2 B m_1181 dX8_allowed_69 ?_
              refine lv_lxor B.1 B.2.1 dX8_allowed_72 ?_
              refine x_rawL (fun y11 => ?_)
              refine lv_land B.1 B.2.1 dX8_allowed_73 ?_
              refine x_rawL (fun y12 => ?_)
              refine lv_lstore_n (lv' := [(3, .long (y12)), (7, .long (y7)), (6, .ref (G 4 i)), (5, .int (iI i)), (0, .ref (ad 18)), (1, .int (iI v)), (2, .ref (ad 1))]) B.1 B.2.1 dX8_allowed_74 rfl hl (by decide) rfl (fun ls hl => ?_)
              refine lv_iinc (v := iI (i + 1)) (lv' := [(5, .int (iI (i + 1))), (3, .long (y12)), (7, .long (y7)), (6, .ref (G 4 i)), (0, .ref (ad 18)), (1, .int (iI v)), (2, .ref (ad 1))]) B.1 B.2.1 dX8_allowed_75 hl (k := 3) rfl (iI_add _ _) (by decide) rfl (fun ls hl => ?_)
              refine lv_goto (tgt := 7) B.1 B.2.1 dX8_allowed_78 (by decide) ?_
              exact ih7 y12 ((i + 1)) (by omega) (by omega) _ _ _ h (lv_sub hl [0, 1, 4, 5, 6] rfl)
            · refine lv_lload B.1 B.2.1 dX8_allowed_62 (lv_at hl 0 rfl) ?_
              refine lv_goto (tgt := 73) B.1 B.2.1 dX8_allowed_64 (by decide) ?_
              refine lv_land B.1 B.2.1 dX8_allowed_73 ?_
              refine x_rawL (fun y13 => ?_)
              refine lv_lstore_n (lv' := [(3, .long (y13)), (7, .long (y7)), (6, .ref (G 4 i)), (5, .int (iI i)), (0, .ref (ad 18)), (1, .int (iI v)), (2, .ref (ad 1))]) B.1 B.2.1 dX8_allowed_74 rfl hl (by decide) rfl (fun ls hl => ?_)
              refine lv_iinc (v := iI (i + 1)) (lv' := [(5, .int (iI (i + 1))), (3, .long (y13)), (7, .long (y7)), (6, .ref (G 4 i)), (0, .ref (ad 18)), (1, .int (iI v)), (2, .ref (ad 1))]) B.1 B.2.1 dX8_allowed_75 hl (k := 3) rfl (iI_add _ _) (by decide) rfl (fun ls hl => ?_)
              refine lv_goto (tgt := 7) B.1 B.2.1 dX8_allowed_78 (by decide) ?_
              exact ih7 y13 ((i + 1)) (by omega) (by omega) _ _ _ h (lv_sub hl [0, 1, 4, 5, 6] rfl)
  exact loop7 (((300 - 0 : Int)).toNat + 1) ((-1 : Int64)) 0 (by omega) (Nat.lt_succ_self _) _ _ _ h (lv_sub hl [0, 1, 2, 3, 4] rfl)
abbrev r_c_X8_follow : Room := { frames := 5, cells := 0, slots := 0, locals := 114 }
set_option maxHeartbeats 4000000 in
set_option maxRecDepth 100000 in
theorem c_X8_follow (l : Launch) (D : va_G) (Zk : yK) (ca : Nat → ClassId) (T : Nat → Int → Int) (G : Nat → Int → Nat) (u : Int) (ad : Nat → Nat) (w : yW) (hC : CW ca T G u ad w)    : yC l D Zk ca yX8_follow cX8_follow 4 none r_c_X8_follow [.ref (ad 18), .ref (ad 1)] w (vV w) := by
  refine yC.of2 "WindWords$Storm" (by decide) rfl (Nat.le_of_ble_eq_true rfl) ?_
  intro p e s m args below meth c A ls Qf B hnm h hl hQ
  have hl : lv_has ls 4 [(0, .ref (ad 18)), (1, .ref (ad 1))] := hl
  have hs := pi_s (CW.pi hC)
  refine x_bipush B (by decide) dX8_follow_0 ?_
  refine lv_aload_n B.1 B.2.1 dX8_follow_2 rfl (lv_at hl 0 rfl) ?_
  refine y_getX B h kX8 18 (CW.f hC 18 _ rfl) 3 (z := (T 0 11)) rfl m_265 (by decide) dX8_follow_3 ?_
  refine lv_aload_n B.1 B.2.1 dX8_follow_6 rfl (lv_at hl 0 rfl) ?_
  refine y_getX B h kX8 18 (CW.f hC 18 _ rfl) 2 (z := (T 0 15)) rfl m_264 (by decide) dX8_follow_7 ?_
  refine x_isub B dX8_follow_10 ?_
  refine x_iconst B dX8_follow_11 ?_
  refine x_iadd B dX8_follow_12 ?_
  refine x_min B (by omega) m_1176 m_586 m_106 m_587 hl.1 (Nat.le_of_ble_eq_true rfl) (by decide) dX8_follow_13 ?_
  refine lv_istore_n (lv' := [(2, .int (iI (min 60 (((T 0 11) - (T 0 15)) + 1)))), (0, .ref (ad 18)), (1, .ref (ad 1))]) B.1 B.2.1 dX8_follow_16 rfl hl (by decide) rfl (fun ls hl => ?_)
  refine x_iconst B dX8_follow_17 ?_
  refine lv_istore_n (lv' := [(3, .int (iI 0)), (2, .int (iI (min 60 (((T 0 11) - (T 0 15)) + 1)))), (0, .ref (ad 18)), (1, .ref (ad 1))]) B.1 B.2.1 dX8_follow_18 rfl hl (by decide) rfl (fun ls hl => ?_)
  have loop19 : ∀ (n19 : Nat) (i : Int), (0 ≤ i ∧ i ≤ 60) → ((60 - i : Int)).toNat < n19 → ∀ (H : Heap) (locs : List Loc) (ls : Array Slot), yH D Zk A s w H locs → lv_has ls 4 [(3, .int (iI i)), (2, .int (iI (min 60 (((T 0 11) - (T 0 15)) + 1)))), (0, .ref (ad 18)), (1, .ref (ad 1))] → W p l e r_c_X8_follow s m args below meth c H locs 0 0 Qf (F0 m 19 ls []) := by
    intro n19
    induction n19 with
    | zero =>
      intro i h0 hm19 H locs ls h hl
      exact absurd hm19 (Nat.not_lt_zero _)
    | succ n19 ih19 =>
      intro i h0 hm19 H locs ls h hl
      refine lv_iload_n B.1 B.2.1 dX8_follow_19 rfl (lv_at hl 0 rfl) ?_
      refine lv_iload_n B.1 B.2.1 dX8_follow_20 rfl (lv_at hl 1 rfl) ?_
      refine x_icmp_ge B (by omega) (tgt := 71) dX8_follow_21 (by decide) (fun c1 => ?_) (fun c1 => ?_)
      · refine lv_iload_n B.1 B.2.1 dX8_follow_71 rfl (lv_at hl 1 rfl) ?_
        refine x_iconst B dX8_follow_72 ?_
        refine x_isub B dX8_follow_73 ?_
        refine lv_istore_n (lv' := [(3, .int (iI ((min 60 (((T 0 11) - (T 0 15)) + 1)) - 2))), (2, .int (iI (min 60 (((T 0 11) - (T 0 15)) + 1)))), (0, .ref (ad 18)), (1, .ref (ad 1))]) B.1 B.2.1 dX8_follow_74 rfl hl (by decide) rfl (fun ls hl => ?_)
        have loop75 : ∀ (n75 : Nat) (i : Int), (-100000 ≤ i ∧ i ≤ 58) → ((i + 1 : Int)).toNat < n75 → ∀ (H : Heap) (locs : List Loc) (ls : Array Slot), yH D Zk A s w H locs → lv_has ls 4 [(3, .int (iI i)), (0, .ref (ad 18))] → W p l e r_c_X8_follow s m args below meth c H locs 0 0 Qf (F0 m 75 ls []) := by
          intro n75
          induction n75 with
          | zero =>
            intro i h0 hm75 H locs ls h hl
            exact absurd hm75 (Nat.not_lt_zero _)
          | succ n75 ih75 =>
            intro i h0 hm75 H locs ls h hl
            refine lv_iload_n B.1 B.2.1 dX8_follow_75 rfl (lv_at hl 0 rfl) ?_
            refine x_if_lt B (by omega) (tgt := 105) dX8_follow_76 (by decide) (fun c2 => ?_) (fun c2 => ?_)
            · refine y_rv B hQ h (by decide) dX8_follow_105 ?_
              exact ⟨rfl, rfl⟩
            · refine lv_aload_n B.1 B.2.1 dX8_follow_79 rfl (lv_at hl 1 rfl) ?_
              refine y_getR B h kX8 18 (CW.f hC 18 _ rfl) 0 (b := ad 19) rfl m_262 (by decide) dX8_follow_80 ?_
              refine lv_iload_n B.1 B.2.1 dX8_follow_83 rfl (lv_at hl 0 rfl) ?_
              refine lv_dup2_11 B.1 B.2.1 dX8_follow_84 rfl rfl ?_
              refine y_lald B h 19 (CW.f hC 19 _ rfl) (by omega) dX8_follow_85 (fun fy3 hfy3 => ?_)
              refine x_rawL (fun y3 => ?_)
              refine lv_aload_n B.1 B.2.1 dX8_follow_86 rfl (lv_at hl 1 rfl) ?_
              refine y_getR B h kX8 18 (CW.f hC 18 _ rfl) 0 (b := ad 19) rfl m_262 (by decide) dX8_follow_87 ?_
              refine lv_iload_n B.1 B.2.1 dX8_follow_90 rfl (lv_at hl 0 rfl) ?_
              refine x_iconst B dX8_follow_91 ?_
              refine x_iadd B dX8_follow_92 ?_
              refine y_lald B h 19 (CW.f hC 19 _ rfl) (by omega) dX8_follow_93 (fun fy4 hfy4 => ?_)
              refine x_rawL (fun y4 => ?_)
              refine y_cS B h k_X8_spread (c_X8_spread l D Zk ca _ y4  ) m_1187 rfl (by decide) hl.1 [.long (y3), .int (iI i), .ref (ad 19)] (Nat.le_of_ble_eq_true rfl) rfl dX8_follow_94 (fun r w1 hq H locs h => ?_)
              obtain ⟨rfl, y5, rfl, hy5⟩ := hq
              show W p l e r_c_X8_follow s m args below meth c _ _ 0 0 Qf (F0 m 97 ls [.long (y5), .long (y3), .int (iI i), .ref (ad 19)])
              refine lv_land B.1 B.2.1 dX8_follow_97 ?_
              refine x_rawL (fun y6 => ?_)
              refine y_last B h 19 (CW.f hC 19 _ rfl) (by omega) (P' := fun _ => True) (fun _ _ => trivial) dX8_follow_98 (fun H locs h => ?_)
              rw [wu_same (CW.f hC 19 _ rfl)] at h
              refine lv_iinc (v := iI (i + (-1))) (lv' := [(3, .int (iI (i + (-1)))), (0, .ref (ad 18))]) B.1 B.2.1 dX8_follow_99 hl (k := 0) rfl (iI_add _ _) (by decide) rfl (fun ls hl => ?_)
              refine lv_goto (tgt := 75) B.1 B.2.1 dX8_follow_102 (by decide) ?_
              exact ih75 ((i + (-1))) (by omega) (by omega) _ _ _ h (lv_sub hl [0, 1] rfl)
        exact loop75 ((((((min 60 (((T 0 11) - (T 0 15)) + 1)) - 2)) + 1 : Int)).toNat + 1) (((min 60 (((T 0 11) - (T 0 15)) + 1)) - 2)) (by omega) (Nat.lt_succ_self _) _ _ _ h (lv_sub hl [0, 2] rfl)
      · refine lv_aload_n B.1 B.2.1 dX8_follow_24 rfl (lv_at hl 2 rfl) ?_
        refine y_getR B h kX8 18 (CW.f hC 18 _ rfl) 0 (b := ad 19) rfl m_262 (by decide) dX8_follow_25 ?_
        refine lv_iload_n B.1 B.2.1 dX8_follow_28 rfl (lv_at hl 0 rfl) ?_
        refine lv_aload_n B.1 B.2.1 dX8_follow_29 rfl (lv_at hl 2 rfl) ?_
        refine lv_aload_n B.1 B.2.1 dX8_follow_30 rfl (lv_at hl 2 rfl) ?_
        refine y_getX B h kX8 18 (CW.f hC 18 _ rfl) 2 (z := (T 0 15)) rfl m_264 (by decide) dX8_follow_31 ?_
        refine lv_iload_n B.1 B.2.1 dX8_follow_34 rfl (lv_at hl 0 rfl) ?_
        refine x_iadd B dX8_follow_35 ?_
        refine lv_aload_n B.1 B.2.1 dX8_follow_36 rfl (lv_at hl 3 rfl) ?_
        refine y_cV B h kX8 18 (CW.f hC 18 _ rfl) k_X8_allowed rfl (c_X8_allowed l D Zk ca T G u ad _ hC (((T 0 15) + i))  (by omega)) m_1177 rfl (by decide) hl.1 [.int (iI i), .ref (ad 19)] (Nat.le_of_ble_eq_true rfl) rfl dX8_follow_37 (fun r w1 hq H locs h => ?_)
        obtain ⟨rfl, y7, rfl, hy7⟩ := hq
        show W p l e r_c_X8_follow s m args below meth c _ _ 0 0 Qf (F0 m 40 ls [.long (y7), .int (iI i), .ref (ad 19)])
        refine y_last B h 19 (CW.f hC 19 _ rfl) (by omega) (P' := fun _ => True) (fun _ _ => trivial) dX8_follow_40 (fun H locs h => ?_)
        rw [wu_same (CW.f hC 19 _ rfl)] at h
        refine lv_iload_n B.1 B.2.1 dX8_follow_41 rfl (lv_at hl 0 rfl) ?_
        refine x_if_le B (by omega) (tgt := 65) dX8_follow_42 (by decide) (fun c8 => ?_) (fun c8 => ?_)
        · refine lv_iinc (v := iI (i + 1)) (lv' := [(3, .int (iI (i + 1))), (2, .int (iI (min 60 (((T 0 11) - (T 0 15)) + 1)))), (0, .ref (ad 18)), (1, .ref (ad 1))]) B.1 B.2.1 dX8_follow_65 hl (k := 0) rfl (iI_add _ _) (by decide) rfl (fun ls hl => ?_)
          refine lv_goto (tgt := 19) B.1 B.2.1 dX8_follow_68 (by decide) ?_
          exact ih19 ((i + 1)) (by omega) (by omega) _ _ _ h (lv_sub hl [0, 1, 2, 3] rfl)
        · refine lv_aload_n B.1 B.2.1 dX8_follow_45 rfl (lv_at hl 2 rfl) ?_
          refine y_getR B h kX8 18 (CW.f hC 18 _ rfl) 0 (b := ad 19) rfl m_262 (by decide) dX8_follow_46 ?_
          refine lv_iload_n B.1 B.2.1 dX8_follow_49 rfl (lv_at hl 0 rfl) ?_
          refine lv_dup2_11 B.1 B.2.1 dX8_follow_50 rfl rfl ?_
          refine y_lald B h 19 (CW.f hC 19 _ rfl) (by omega) dX8_follow_51 (fun fy9 hfy9 => ?_)
          refine x_rawL (fun y9 => ?_)
          refine lv_aload_n B.1 B.2.1 dX8_follow_52 rfl (lv_at hl 2 rfl) ?_
          refine y_getR B h kX8 18 (CW.f hC 18 _ rfl) 0 (b := ad 19) rfl m_262 (by decide) dX8_follow_53 ?_
          refine lv_iload_n B.1 B.2.1 dX8_follow_56 rfl (lv_at hl 0 rfl) ?_
          refine x_iconst B dX8_follow_57 ?_
          refine x_isub B dX8_follow_58 ?_
          refine y_lald B h 19 (CW.f hC 19 _ rfl) (by omega) dX8_follow_59 (fun fy10 hfy10 => ?_)
          refine x_rawL (fun y10 => ?_)
          refine y_cS B h k_X8_spread (c_X8_spread l D Zk ca _ y10  ) m_1187 rfl (by decide) hl.1 [.long (y9), .int (iI i), .ref (ad 19)] (Nat.le_of_ble_eq_true rfl) rfl dX8_follow_60 (fun r w1 hq H locs h => ?_)
          obtain ⟨rfl, y11, rfl, hy11⟩ := hq
          show W p l e r_c_X8_follow s m args below meth c _ _ 0 0 Qf (F0 m 63 ls [.long (y11), .long (y9), .int (iI i), .ref (ad 19)])
          refine lv_land B.1 B.2.1 dX8_follow_63 ?_
          refine x_rawL (fun y12 => ?_)
          refine y_last B h 19 (CW.f hC 19 _ rfl) (by omega) (P' := fun _ => True) (fun _ _ => trivial) dX8_follow_64 (fun H locs h => ?_)
          rw [wu_same (CW.f hC 19 _ rfl)] at h
          refine lv_iinc (v := iI (i + 1)) (lv' := [(3, .int (iI (i + 1))), (2, .int (iI (min 60 (((T 0 11) - (T 0 15)) + 1)))), (0, .ref (ad 18)), (1, .ref (ad 1))]) B.1 B.2.1 dX8_follow_65 hl (k := 0) rfl (iI_add _ _) (by decide) rfl (fun ls hl => ?_)
          refine lv_goto (tgt := 19) B.1 B.2.1 dX8_follow_68 (by decide) ?_
          exact ih19 ((i + 1)) (by omega) (by omega) _ _ _ h (lv_sub hl [0, 1, 2, 3] rfl)
  exact loop19 (((60 - 0 : Int)).toNat + 1) 0 (by omega) (Nat.lt_succ_self _) _ _ _ h (lv_sub hl [0, 1, 2, 3] rfl)
