theorem k_X6_rulesOf : xMV yX6_rulesOf cX6_rulesOf 2 (some (.object "WindWords$Rules")) 1 := ⟨m_889, m_888, m_17, m_97, ⟨by decide +kernel, by decide +kernel, by decide +kernel⟩⟩
theorem k_X6_ofYear : xMV yX6_ofYear cX6_ofYear 4 (some .int) 1 := ⟨m_881, m_879, m_880, m_97, ⟨by decide +kernel, by decide +kernel, by decide +kernel⟩⟩
theorem k_X6_fillRow : xMV yX6_fillRow cX6_fillRow 8 none 5 := ⟨m_933, m_931, m_932, m_97, ⟨by decide +kernel, by decide +kernel, by decide +kernel⟩⟩
theorem k_X6_tellTurned : xMV yX6_tellTurned cX6_tellTurned 6 none 1 := ⟨m_966, m_965, m_20, m_97, ⟨by decide +kernel, by decide +kernel, by decide +kernel⟩⟩
theorem k_X11_greatestWind : xMS yX11_greatestWind cX11_greatestWind 4 (some .int) 3 := ⟨m_952, m_951, m_95, ⟨by decide +kernel, by decide +kernel, by decide +kernel⟩⟩
theorem k_X11_leastWind : xMS yX11_leastWind cX11_leastWind 4 (some .int) 3 := ⟨m_949, m_948, m_95, ⟨by decide +kernel, by decide +kernel, by decide +kernel⟩⟩
theorem k_X6_numberFor : xMV yX6_numberFor cX6_numberFor 7 (some .int) 5 := ⟨m_885, m_883, m_884, m_97, ⟨by decide +kernel, by decide +kernel, by decide +kernel⟩⟩
theorem k_X6_turnInto : xMV yX6_turnInto cX6_turnInto 8 (some .boolean) 5 := ⟨m_960, m_958, m_959, m_97, ⟨by decide +kernel, by decide +kernel, by decide +kernel⟩⟩
abbrev r_c_X6_ofYear : Room := { frames := 0, cells := 0, slots := 0, locals := 0 }
set_option maxHeartbeats 4000000 in
set_option maxRecDepth 100000 in
theorem c_X6_ofYear (l : Launch) (D : va_G) (ca : Nat → ClassId) (w : xW) (year : Int) (ad : Nat → Nat) (f4 : w[4]? = some (ad 4, xO 6 [fR (ad 5), fR (ad 6), fR (ad 7), fR (ad 8), fR (ad 9), fR (ad 10), fR (ad 11), fX 0])) (f6 : w[6]? = some (ad 6, xAI (ca 0) 8 gA)) (hyear : xr year) : xC l D ca yX6_ofYear cX6_ofYear 4 (some .int) r_c_X6_ofYear [.ref (ad 4), .int (iI year)] w (qI w (fun z => z = (-1))) := by
  refine xC.of2 "WindWords$Scales" (by decide) rfl (Nat.le_of_ble_eq_true rfl) ?_
  intro p e s m args below meth c A ls Qf B hnm h hl hQ
  have hl : lv_has ls 4 [(0, .ref (ad 4)), (1, .int (iI year))] := hl
  refine x_iconst B dX6_ofYear_0 ?_
  refine lv_istore_n (lv' := [(2, .int (iI (-1))), (0, .ref (ad 4)), (1, .int (iI year))]) B.1 B.2.1 dX6_ofYear_1 rfl hl (by decide) rfl (fun ls hl => ?_)
  refine x_iconst B dX6_ofYear_2 ?_
  refine lv_istore_n (lv' := [(3, .int (iI 0)), (2, .int (iI (-1))), (0, .ref (ad 4)), (1, .int (iI year))]) B.1 B.2.1 dX6_ofYear_3 rfl hl (by decide) rfl (fun ls hl => ?_)
  refine lv_iload_n B.1 B.2.1 dX6_ofYear_4 rfl (lv_at hl 0 rfl) ?_
  refine lv_aload_n B.1 B.2.1 dX6_ofYear_5 rfl (lv_at hl 2 rfl) ?_
  refine x_getX B h kX6 4 f4 7 (z := 0) rfl m_194 (by decide) dX6_ofYear_6 ?_
  refine x_icmp_ge B (by omega) (tgt := 50) dX6_ofYear_9 (by decide) (fun c1 => ?_) (fun c1 => ?_)
  · refine lv_iload_n B.1 B.2.1 dX6_ofYear_50 rfl (lv_at hl 1 rfl) ?_
    refine x_ri B hQ h (by decide) dX6_ofYear_51 ?_
    exact ⟨rfl, _, rfl, by omega⟩
  · exact absurd c1 (by omega)
abbrev r_c_X6_rulesOf : Room := { frames := 1, cells := 0, slots := 0, locals := 21 }
set_option maxHeartbeats 4000000 in
set_option maxRecDepth 100000 in
theorem c_X6_rulesOf (l : Launch) (D : va_G) (ca : Nat → ClassId) (w : xW) (k : Int) (ad : Nat → Nat) (f4 : w[4]? = some (ad 4, xO 6 [fR (ad 5), fR (ad 6), fR (ad 7), fR (ad 8), fR (ad 9), fR (ad 10), fR (ad 11), fX 0])) (hk : xr k) : xC l D ca yX6_rulesOf cX6_rulesOf 2 (some (.object "WindWords$Rules")) r_c_X6_rulesOf [.ref (ad 4), .int (iI k)] w (qQ w (fun q => q = none)) := by
  refine xC.of2 "WindWords$Scales" (by decide) rfl (Nat.le_of_ble_eq_true rfl) ?_
  intro p e s m args below meth c A ls Qf B hnm h hl hQ
  have hl : lv_has ls 2 [(0, .ref (ad 4)), (1, .int (iI k))] := hl
  refine lv_iload_n B.1 B.2.1 dX6_rulesOf_0 rfl (lv_at hl 1 rfl) ?_
  refine lv_aload_n B.1 B.2.1 dX6_rulesOf_1 rfl (lv_at hl 0 rfl) ?_
  refine x_getX B h kX6 4 f4 7 (z := 0) rfl m_194 (by decide) dX6_rulesOf_2 ?_
  refine x_iconst B dX6_rulesOf_5 ?_
  refine x_isub B dX6_rulesOf_6 ?_
  refine x_cSN (host := "WindWords") B h k_X11_within (c_X11_within l D ca _ k ((0 - 1))  (by omega) (by omega)) (by decide) rfl (by decide) hl.1 [] (Nat.le_of_ble_eq_true rfl) rfl dX6_rulesOf_7 (fun r w1 hq H locs h => ?_)
  obtain ⟨rfl, ⟨rfl, b1⟩ | ⟨rfl, b1⟩⟩ := hq
  · exact absurd b1 (by omega)
  · show W p l e r_c_X6_rulesOf s m args below meth c H locs 0 0 Qf (F0 m 10 ls [.int (iI 0)])
    refine x_if_eq B (by omega) (tgt := 22) dX6_rulesOf_10 (by decide) (fun c2 => ?_) (fun c2 => ?_)
    · refine lv_null B.1 B.2.1 dX6_rulesOf_22 ?_
      refine x_ra (r := none) B hQ h (by decide) dX6_rulesOf_23 ?_
      exact ⟨rfl, _, rfl, rfl⟩
    · exact absurd c2 (by omega)
abbrev r_c_X6_numberFor : Room := { frames := 2, cells := 0, slots := 0, locals := 42 }
set_option maxHeartbeats 4000000 in
set_option maxRecDepth 100000 in
theorem c_X6_numberFor (l : Launch) (D : va_G) (ca : Nat → ClassId) (w : xW) (k : Int) (kind : Int) (wind : Int) (mix : Int) (year : Int) (ad : Nat → Nat) (f4 : w[4]? = some (ad 4, xO 6 [fR (ad 5), fR (ad 6), fR (ad 7), fR (ad 8), fR (ad 9), fR (ad 10), fR (ad 11), fX 0])) (hk : xr k) (hw : 0 ≤ wind ∧ wind ≤ 99) : xC l D ca yX6_numberFor cX6_numberFor 7 (some .int) r_c_X6_numberFor [.ref (ad 4), .int (iI k), .int (iI kind), .int (iI wind), .int (iI mix), .int (iI year)] w (qI w (fun z => z = (min 12 (wind / 8)))) := by
  refine xC.of2 "WindWords$Scales" (by decide) rfl (Nat.le_of_ble_eq_true rfl) ?_
  intro p e s m args below meth c A ls Qf B hnm h hl hQ
  have hl : lv_has ls 7 [(0, .ref (ad 4)), (1, .int (iI k)), (2, .int (iI kind)), (3, .int (iI wind)), (4, .int (iI mix)), (5, .int (iI year))] := hl
  refine lv_aload_n B.1 B.2.1 dX6_numberFor_0 rfl (lv_at hl 0 rfl) ?_
  refine lv_iload_n B.1 B.2.1 dX6_numberFor_1 rfl (lv_at hl 1 rfl) ?_
  refine x_cV B h kX6 4 f4 k_X6_rulesOf rfl (c_X6_rulesOf l D ca _ k ad f4 (by omega)) m_886 rfl (by decide) hl.1 [] (Nat.le_of_ble_eq_true rfl) rfl dX6_numberFor_2 (fun r w1 hq H locs h => ?_)
  obtain ⟨rfl, _, rfl, rfl⟩ := hq
  show W p l e r_c_X6_numberFor s m args below meth c H locs 0 0 Qf (F0 m 5 ls [.null])
  refine lv_astoreN (lv' := [(6, .null), (0, .ref (ad 4)), (1, .int (iI k)), (2, .int (iI kind)), (3, .int (iI wind)), (4, .int (iI mix)), (5, .int (iI year))]) B.1 B.2.1 dX6_numberFor_5 hl (by decide) rfl (fun ls hl => ?_)
  refine lv_aloadN B.1 B.2.1 dX6_numberFor_7 (lv_at hl 0 rfl) ?_
  refine lv_ifnonnullN B.1 B.2.1 dX6_numberFor_9 ?_
  refine x_bipush B (by decide) dX6_numberFor_12 ?_
  refine lv_iload_n B.1 B.2.1 dX6_numberFor_14 rfl (lv_at hl 4 rfl) ?_
  refine x_bipush B (by decide) dX6_numberFor_15 ?_
  refine x_idiv B (by omega) dX6_numberFor_17 ?_
  refine x_min B (by omega) m_891 m_586 m_106 m_587 hl.1 (Nat.le_of_ble_eq_true rfl) (by decide) dX6_numberFor_18 ?_
  refine x_ri B hQ h (by decide) dX6_numberFor_21 ?_
  exact ⟨rfl, _, rfl, by omega⟩
abbrev r_c_X6_fillRow : Room := { frames := 2, cells := 0, slots := 0, locals := 42 }
set_option maxHeartbeats 4000000 in
set_option maxRecDepth 100000 in
theorem c_X6_fillRow (l : Launch) (D : va_G) (ca : Nat → ClassId) (w : xW) (k : Int) (kind : Int) (mix : Int) (year : Int) (ad : Nat → Nat) (arow : Nat) (irow : Nat) (f4 : w[4]? = some (ad 4, xO 6 [fR (ad 5), fR (ad 6), fR (ad 7), fR (ad 8), fR (ad 9), fR (ad 10), fR (ad 11), fX 0])) (frow : w[irow]? = some (arow, xAI (ca 0) 100 gA)) (hk : xr k) : xC l D ca yX6_fillRow cX6_fillRow 8 none r_c_X6_fillRow [.ref (ad 4), .ref arow, .int (iI k), .int (iI kind), .int (iI mix), .int (iI year)] w (qV (w.set irow (arow, xAI (ca 0) 100 (gP 100 bare)))) := by
  refine xC.of2 "WindWords$Scales" (by decide) rfl (Nat.le_of_ble_eq_true rfl) ?_
  intro p e s m args below meth c A ls Qf B hnm h hl hQ
  have hl : lv_has ls 8 [(0, .ref (ad 4)), (1, .ref arow), (2, .int (iI k)), (3, .int (iI kind)), (4, .int (iI mix)), (5, .int (iI year))] := hl
  refine lv_aload_n B.1 B.2.1 dX6_fillRow_0 rfl (lv_at hl 0 rfl) ?_
  refine lv_iload_n B.1 B.2.1 dX6_fillRow_1 rfl (lv_at hl 2 rfl) ?_
  refine x_cV B h kX6 4 f4 k_X6_rulesOf rfl (c_X6_rulesOf l D ca _ k ad f4 (by omega)) m_886 rfl (by decide) hl.1 [] (Nat.le_of_ble_eq_true rfl) rfl dX6_fillRow_2 (fun r w1 hq H locs h => ?_)
  obtain ⟨rfl, _, rfl, rfl⟩ := hq
  show W p l e r_c_X6_fillRow s m args below meth c H locs 0 0 Qf (F0 m 5 ls [.null])
  refine lv_astoreN (lv' := [(6, .null), (0, .ref (ad 4)), (1, .ref arow), (2, .int (iI k)), (3, .int (iI kind)), (4, .int (iI mix)), (5, .int (iI year))]) B.1 B.2.1 dX6_fillRow_5 hl (by decide) rfl (fun ls hl => ?_)
  refine lv_aloadN B.1 B.2.1 dX6_fillRow_7 (lv_at hl 0 rfl) ?_
  refine lv_ifnonnullN B.1 B.2.1 dX6_fillRow_9 ?_
  refine x_iconst B dX6_fillRow_12 ?_
  refine lv_istore (lv' := [(7, .int (iI 0)), (6, .null), (0, .ref (ad 4)), (1, .ref arow), (2, .int (iI k)), (3, .int (iI kind)), (4, .int (iI mix)), (5, .int (iI year))]) B.1 B.2.1 dX6_fillRow_13 hl (by decide) rfl (fun ls hl => ?_)
  have h := xH.weak (P' := xAI (ca 0) 100 (gP 0 bare)) h frow (fun e he => by obtain ⟨f, rfl, _⟩ := he; exact ⟨f, rfl, fun j hj => by omega⟩)
  have h : xH D A s.heap (w.set irow (arow, xAI (ca 0) 100 (gP 0 bare))) _ _ := h
  have loop15 : ∀ (n15 : Nat) (i : Int), (0 ≤ i) → (i ≤ 100) → (100 - i : Int).toNat < n15 → ∀ (H : Heap) (locs : List Loc) (ls : Array Slot), xH D A s.heap ((w.set irow (arow, xAI (ca 0) 100 (gP i bare)))) H locs → lv_has ls 8 [(0, .ref (ad 4)), (1, .ref arow), (7, .int (iI i))] → W p l e r_c_X6_fillRow s m args below meth c H locs 0 0 Qf (F0 m 15 ls []) := by
    intro n15
    induction n15 with
    | zero =>
      intro i h0 h1 hm15 H locs ls h hl
      exact absurd hm15 (Nat.not_lt_zero _)
    | succ n15 ih15 =>
      intro i h0 h1 hm15 H locs ls h hl
      refine lv_iload B.1 B.2.1 dX6_fillRow_15 (lv_at hl 2 rfl) ?_
      refine lv_aload_n B.1 B.2.1 dX6_fillRow_17 rfl (lv_at hl 1 rfl) ?_
      refine x_alenI B h irow 0 (xset_eq frow) rfl dX6_fillRow_18 ?_
      refine x_icmp_ge B (by omega) (tgt := 42) dX6_fillRow_19 (by decide) (fun c1 => ?_) (fun c1 => ?_)
      · refine x_rv B hQ h (by decide) dX6_fillRow_42 ?_
        have e9 : i = 100 := by omega
        subst e9
        exact ⟨rfl, rfl⟩
      · refine lv_aload_n B.1 B.2.1 dX6_fillRow_22 rfl (lv_at hl 1 rfl) ?_
        refine lv_iload B.1 B.2.1 dX6_fillRow_23 (lv_at hl 2 rfl) ?_
        refine x_bipush B (by decide) dX6_fillRow_25 ?_
        refine lv_iload B.1 B.2.1 dX6_fillRow_27 (lv_at hl 2 rfl) ?_
        refine x_bipush B (by decide) dX6_fillRow_29 ?_
        refine x_idiv B (by omega) dX6_fillRow_31 ?_
        refine x_min B (by omega) m_891 m_586 m_106 m_587 hl.1 (Nat.le_of_ble_eq_true rfl) (by decide) dX6_fillRow_32 ?_
        refine x_iast B h irow (xset_eq frow) (by omega) (P' := gP (i + 1) bare) (gP_next ⟨by omega, bare_at (by omega)⟩) dX6_fillRow_35 (fun H locs h => ?_)
        have h : xH D A s.heap (w.set irow (arow, xAI (ca 0) 100 (gP (i + 1) bare))) H locs := by rw [List.set_set] at h; exact h
        refine lv_iinc (v := iI (i + 1)) (lv' := [(7, .int (iI (i + 1))), (0, .ref (ad 4)), (1, .ref arow)]) B.1 B.2.1 dX6_fillRow_36 hl (k := 2) rfl (iI_add _ _) (by decide) rfl (fun ls hl => ?_)
        refine lv_goto (tgt := 15) B.1 B.2.1 dX6_fillRow_39 (by decide) ?_
        exact ih15 ((i + 1)) (by omega) (by omega) (by omega) _ _ _ h (lv_sub hl [1, 2, 0] rfl)
  exact loop15 ((100 - 0 : Int).toNat + 1) 0 (by omega) (by omega) (Nat.lt_succ_self _) _ _ _ h (lv_sub hl [2, 3, 0] rfl)
abbrev r_c_X11_leastWind : Room := { frames := 0, cells := 0, slots := 0, locals := 0 }
set_option maxHeartbeats 4000000 in
set_option maxRecDepth 100000 in
theorem c_X11_leastWind (l : Launch) (D : va_G) (ca : Nat → ClassId) (w : xW) (low : Int) (high : Int) (arow : Nat) (irow : Nat) (frow : w[irow]? = some (arow, xAI (ca 0) 100 (gP 100 bare))) (hl0 : 0 ≤ low ∧ low ≤ 12) (hh0 : high = low) : xC l D ca yX11_leastWind cX11_leastWind 4 (some .int) r_c_X11_leastWind [.ref arow, .int (iI low), .int (iI high)] w (qI w (fun z => z = 8 * low)) := by
  refine xC.of2 "WindWords" (by decide) rfl (Nat.le_of_ble_eq_true rfl) ?_
  intro p e s m args below meth c A ls Qf B hnm h hl hQ
  have hl : lv_has ls 4 [(0, .ref arow), (1, .int (iI low)), (2, .int (iI high))] := hl
  refine x_iconst B dX11_leastWind_0 ?_
  refine lv_istore_n (lv' := [(3, .int (iI 0)), (0, .ref arow), (1, .int (iI low)), (2, .int (iI high))]) B.1 B.2.1 dX11_leastWind_1 rfl hl (by decide) rfl (fun ls hl => ?_)
  have loop2 : ∀ (n2 : Nat) (i : Int), (0 ≤ i) → (i ≤ 8 * low) → (100 - i : Int).toNat < n2 → ∀ (H : Heap) (locs : List Loc) (ls : Array Slot), xH D A s.heap w H locs → lv_has ls 4 [(0, .ref arow), (1, .int (iI low)), (2, .int (iI high)), (3, .int (iI i))] → W p l e r_c_X11_leastWind s m args below meth c H locs 0 0 Qf (F0 m 2 ls []) := by
    intro n2
    induction n2 with
    | zero =>
      intro i h0 h1 hm2 H locs ls h hl
      exact absurd hm2 (Nat.not_lt_zero _)
    | succ n2 ih2 =>
      intro i h0 h1 hm2 H locs ls h hl
      refine lv_iload_n B.1 B.2.1 dX11_leastWind_2 rfl (lv_at hl 3 rfl) ?_
      refine lv_aload_n B.1 B.2.1 dX11_leastWind_3 rfl (lv_at hl 0 rfl) ?_
      refine x_alenI B h irow 0 frow rfl dX11_leastWind_4 ?_
      refine x_icmp_ge B (by omega) (tgt := 30) dX11_leastWind_5 (by decide) (fun c1 => ?_) (fun c1 => ?_)
      · refine x_iconst B dX11_leastWind_30 ?_
        refine x_ri B hQ h (by decide) dX11_leastWind_31 ?_
        exact ⟨rfl, _, rfl, by omega⟩
      · refine lv_aload_n B.1 B.2.1 dX11_leastWind_8 rfl (lv_at hl 0 rfl) ?_
        refine lv_iload_n B.1 B.2.1 dX11_leastWind_9 rfl (lv_at hl 3 rfl) ?_
        refine x_ialdP B h irow frow (by omega) dX11_leastWind_10 (z := (min 12 (i / 8))) (bare_at (by omega)) ?_
        refine lv_iload_n B.1 B.2.1 dX11_leastWind_11 rfl (lv_at hl 1 rfl) ?_
        refine x_icmp_lt B (by omega) (tgt := 24) dX11_leastWind_12 (by decide) (fun c2 => ?_) (fun c2 => ?_)
        · refine lv_iinc (v := iI (i + 1)) (lv' := [(3, .int (iI (i + 1))), (0, .ref arow), (1, .int (iI low)), (2, .int (iI high))]) B.1 B.2.1 dX11_leastWind_24 hl (k := 3) rfl (iI_add _ _) (by decide) rfl (fun ls hl => ?_)
          refine lv_goto (tgt := 2) B.1 B.2.1 dX11_leastWind_27 (by decide) ?_
          exact ih2 ((i + 1)) (by omega) (by omega) (by omega) _ _ _ h (lv_sub hl [1, 2, 3, 0] rfl)
        · refine lv_aload_n B.1 B.2.1 dX11_leastWind_15 rfl (lv_at hl 0 rfl) ?_
          refine lv_iload_n B.1 B.2.1 dX11_leastWind_16 rfl (lv_at hl 3 rfl) ?_
          refine x_ialdP B h irow frow (by omega) dX11_leastWind_17 (z := (min 12 (i / 8))) (bare_at (by omega)) ?_
          refine lv_iload_n B.1 B.2.1 dX11_leastWind_18 rfl (lv_at hl 2 rfl) ?_
          refine x_icmp_gt B (by omega) (tgt := 24) dX11_leastWind_19 (by decide) (fun c3 => ?_) (fun c3 => ?_)
          · refine lv_iinc (v := iI (i + 1)) (lv' := [(3, .int (iI (i + 1))), (0, .ref arow), (1, .int (iI low)), (2, .int (iI high))]) B.1 B.2.1 dX11_leastWind_24 hl (k := 3) rfl (iI_add _ _) (by decide) rfl (fun ls hl => ?_)
            refine lv_goto (tgt := 2) B.1 B.2.1 dX11_leastWind_27 (by decide) ?_
            exact ih2 ((i + 1)) (by omega) (by omega) (by omega) _ _ _ h (lv_sub hl [1, 2, 3, 0] rfl)
          · refine lv_iload_n B.1 B.2.1 dX11_leastWind_22 rfl (lv_at hl 3 rfl) ?_
            refine x_ri B hQ h (by decide) dX11_leastWind_23 ?_
            exact ⟨rfl, _, rfl, by omega⟩
  exact loop2 ((100 - 0 : Int).toNat + 1) 0 (by omega) (by omega) (Nat.lt_succ_self _) _ _ _ h (lv_sub hl [1, 2, 3, 0] rfl)
abbrev r_c_X11_greatestWind : Room := { frames := 0, cells := 0, slots := 0, locals := 0 }
set_option maxHeartbeats 4000000 in
set_option maxRecDepth 100000 in
theorem c_X11_greatestWind (l : Launch) (D : va_G) (ca : Nat → ClassId) (w : xW) (low : Int) (high : Int) (arow : Nat) (irow : Nat) (frow : w[irow]? = some (arow, xAI (ca 0) 100 (gP 100 bare))) (hl0 : 0 ≤ low ∧ low ≤ 12) (hh0 : high = low) : xC l D ca yX11_greatestWind cX11_greatestWind 4 (some .int) r_c_X11_greatestWind [.ref arow, .int (iI low), .int (iI high)] w (qI w (fun z => z = min 99 (8 * low + 7))) := by
  refine xC.of2 "WindWords" (by decide) rfl (Nat.le_of_ble_eq_true rfl) ?_
  intro p e s m args below meth c A ls Qf B hnm h hl hQ
  have hl : lv_has ls 4 [(0, .ref arow), (1, .int (iI low)), (2, .int (iI high))] := hl
  refine lv_aload_n B.1 B.2.1 dX11_greatestWind_0 rfl (lv_at hl 0 rfl) ?_
  refine x_alenI B h irow 0 frow rfl dX11_greatestWind_1 ?_
  refine x_iconst B dX11_greatestWind_2 ?_
  refine x_isub B dX11_greatestWind_3 ?_
  refine lv_istore_n (lv' := [(3, .int (iI (100 - 1))), (0, .ref arow), (1, .int (iI low)), (2, .int (iI high))]) B.1 B.2.1 dX11_greatestWind_4 rfl hl (by decide) rfl (fun ls hl => ?_)
  have loop5 : ∀ (n5 : Nat) (i : Int), (i ≤ 99) → (min 99 (8 * low + 7) ≤ i) → (i + 1 : Int).toNat < n5 → ∀ (H : Heap) (locs : List Loc) (ls : Array Slot), xH D A s.heap w H locs → lv_has ls 4 [(0, .ref arow), (1, .int (iI low)), (2, .int (iI high)), (3, .int (iI i))] → W p l e r_c_X11_greatestWind s m args below meth c H locs 0 0 Qf (F0 m 5 ls []) := by
    intro n5
    induction n5 with
    | zero =>
      intro i h0 h1 hm5 H locs ls h hl
      exact absurd hm5 (Nat.not_lt_zero _)
    | succ n5 ih5 =>
      intro i h0 h1 hm5 H locs ls h hl
      refine lv_iload_n B.1 B.2.1 dX11_greatestWind_5 rfl (lv_at hl 3 rfl) ?_
      refine x_if_lt B (by omega) (tgt := 31) dX11_greatestWind_6 (by decide) (fun c1 => ?_) (fun c1 => ?_)
      · refine x_iconst B dX11_greatestWind_31 ?_
        refine x_ri B hQ h (by decide) dX11_greatestWind_32 ?_
        exact ⟨rfl, _, rfl, by omega⟩
      · refine lv_aload_n B.1 B.2.1 dX11_greatestWind_9 rfl (lv_at hl 0 rfl) ?_
        refine lv_iload_n B.1 B.2.1 dX11_greatestWind_10 rfl (lv_at hl 3 rfl) ?_
        refine x_ialdP B h irow frow (by omega) dX11_greatestWind_11 (z := (min 12 (i / 8))) (bare_at (by omega)) ?_
        refine lv_iload_n B.1 B.2.1 dX11_greatestWind_12 rfl (lv_at hl 1 rfl) ?_
        refine x_icmp_lt B (by omega) (tgt := 25) dX11_greatestWind_13 (by decide) (fun c2 => ?_) (fun c2 => ?_)
        · refine lv_iinc (v := iI (i + (-1))) (lv' := [(3, .int (iI (i + (-1)))), (0, .ref arow), (1, .int (iI low)), (2, .int (iI high))]) B.1 B.2.1 dX11_greatestWind_25 hl (k := 3) rfl (iI_add _ _) (by decide) rfl (fun ls hl => ?_)
          refine lv_goto (tgt := 5) B.1 B.2.1 dX11_greatestWind_28 (by decide) ?_
          exact ih5 ((i + (-1))) (by omega) (by omega) (by omega) _ _ _ h (lv_sub hl [1, 2, 3, 0] rfl)
        · refine lv_aload_n B.1 B.2.1 dX11_greatestWind_16 rfl (lv_at hl 0 rfl) ?_
          refine lv_iload_n B.1 B.2.1 dX11_greatestWind_17 rfl (lv_at hl 3 rfl) ?_
          refine x_ialdP B h irow frow (by omega) dX11_greatestWind_18 (z := (min 12 (i / 8))) (bare_at (by omega)) ?_
          refine lv_iload_n B.1 B.2.1 dX11_greatestWind_19 rfl (lv_at hl 2 rfl) ?_
          refine x_icmp_gt B (by omega) (tgt := 25) dX11_greatestWind_20 (by decide) (fun c3 => ?_) (fun c3 => ?_)
          · refine lv_iinc (v := iI (i + (-1))) (lv' := [(3, .int (iI (i + (-1)))), (0, .ref arow), (1, .int (iI low)), (2, .int (iI high))]) B.1 B.2.1 dX11_greatestWind_25 hl (k := 3) rfl (iI_add _ _) (by decide) rfl (fun ls hl => ?_)
            refine lv_goto (tgt := 5) B.1 B.2.1 dX11_greatestWind_28 (by decide) ?_
            exact ih5 ((i + (-1))) (by omega) (by omega) (by omega) _ _ _ h (lv_sub hl [1, 2, 3, 0] rfl)
          · refine lv_iload_n B.1 B.2.1 dX11_greatestWind_23 rfl (lv_at hl 3 rfl) ?_
            refine x_ri B hQ h (by decide) dX11_greatestWind_24 ?_
            exact ⟨rfl, _, rfl, by omega⟩
  exact loop5 ((((100 - 1)) + 1 : Int).toNat + 1) ((100 - 1)) (by omega) (by omega) (Nat.lt_succ_self _) _ _ _ h (lv_sub hl [1, 2, 3, 0] rfl)
abbrev r_c_X6_tellTurned : Room := { frames := 0, cells := 0, slots := 0, locals := 0 }
set_option maxHeartbeats 4000000 in
set_option maxRecDepth 100000 in
theorem c_X6_tellTurned (l : Launch) (D : va_G) (ca : Nat → ClassId) (w : xW) (all : Int) (ad : Nat → Nat) (n : Int) (f4 : w[4]? = some (ad 4, xO 6 [fR (ad 5), fR (ad 6), fR (ad 7), fR (ad 8), fR (ad 9), fR (ad 10), fR (ad 11), fX 0])) (f10 : w[10]? = some (ad 10, xAI (ca 0) 13 (gP 13 ((gOne n all))))) (f11 : w[11]? = some (ad 11, xAI (ca 0) 4 (gX 4 (fun _ => 0)))) (hall : 1 ≤ all ∧ all ≤ 100) (hn : 0 ≤ n ∧ n ≤ 12) : xC l D ca yX6_tellTurned cX6_tellTurned 6 none r_c_X6_tellTurned [.ref (ad 4), .int (iI all)] w (qV (w.set 11 (ad 11, xAI (ca 0) 4 (gX 4 (iu (iu (iu (iu (fun _ => 0) 0 n) 1 n) 2 n) 3 0))))) := by
  refine xC.of2 "WindWords$Scales" (by decide) rfl (Nat.le_of_ble_eq_true rfl) ?_
  intro p e s m args below meth c A ls Qf B hnm h hl hQ
  have hl : lv_has ls 6 [(0, .ref (ad 4)), (1, .int (iI all))] := hl
  refine x_iconst B dX6_tellTurned_0 ?_
  refine lv_istore_n (lv' := [(2, .int (iI (-1))), (0, .ref (ad 4)), (1, .int (iI all))]) B.1 B.2.1 dX6_tellTurned_1 rfl hl (by decide) rfl (fun ls hl => ?_)
  refine x_iconst B dX6_tellTurned_2 ?_
  refine lv_istore_n (lv' := [(3, .int (iI (-1))), (2, .int (iI (-1))), (0, .ref (ad 4)), (1, .int (iI all))]) B.1 B.2.1 dX6_tellTurned_3 rfl hl (by decide) rfl (fun ls hl => ?_)
  refine x_iconst B dX6_tellTurned_4 ?_
  refine lv_istore (lv' := [(4, .int (iI 0)), (3, .int (iI (-1))), (2, .int (iI (-1))), (0, .ref (ad 4)), (1, .int (iI all))]) B.1 B.2.1 dX6_tellTurned_5 hl (by decide) rfl (fun ls hl => ?_)
  refine x_iconst B dX6_tellTurned_7 ?_
  refine lv_istore (lv' := [(5, .int (iI 0)), (4, .int (iI 0)), (3, .int (iI (-1))), (2, .int (iI (-1))), (0, .ref (ad 4)), (1, .int (iI all))]) B.1 B.2.1 dX6_tellTurned_8 hl (by decide) rfl (fun ls hl => ?_)
  have loop10 : ∀ (n10 : Nat) (k : Int) (le : Int) (gr : Int) (om : Int), (0 ≤ k) → (k ≤ 13) → ((k ≤ n ∧ le = -1 ∧ gr = -1 ∧ om = 0) ∨ (n < k ∧ le = n ∧ gr = n ∧ om = n)) → (13 - k : Int).toNat < n10 → ∀ (H : Heap) (locs : List Loc) (ls : Array Slot), xH D A s.heap w H locs → lv_has ls 6 [(0, .ref (ad 4)), (1, .int (iI all)), (2, .int (iI le)), (3, .int (iI gr)), (4, .int (iI om)), (5, .int (iI k))] → W p l e r_c_X6_tellTurned s m args below meth c H locs 0 0 Qf (F0 m 10 ls []) := by
    intro n10
    induction n10 with
    | zero =>
      intro k le gr om h0 h1 h2 hm10 H locs ls h hl
      exact absurd hm10 (Nat.not_lt_zero _)
    | succ n10 ih10 =>
      intro k le gr om h0 h1 h2 hm10 H locs ls h hl
      refine lv_iload B.1 B.2.1 dX6_tellTurned_10 (lv_at hl 5 rfl) ?_
      refine lv_aload_n B.1 B.2.1 dX6_tellTurned_12 rfl (lv_at hl 0 rfl) ?_
      refine x_getR B h kX6 4 f4 5 (b := ad 10) rfl m_191 (by decide) dX6_tellTurned_13 ?_
      refine x_alenI B h 10 0 f10 rfl dX6_tellTurned_16 ?_
      refine x_icmp_ge B (by omega) (tgt := 77) dX6_tellTurned_17 (by decide) (fun c1 => ?_) (fun c1 => ?_)
      · refine lv_aload_n B.1 B.2.1 dX6_tellTurned_77 rfl (lv_at hl 0 rfl) ?_
        refine x_getR B h kX6 4 f4 6 (b := ad 11) rfl m_192 (by decide) dX6_tellTurned_78 ?_
        refine x_iconst B dX6_tellTurned_81 ?_
        refine lv_iload_n B.1 B.2.1 dX6_tellTurned_82 rfl (lv_at hl 2 rfl) ?_
        refine x_iast B h 11 f11 (by omega) (P' := gX 4 (iu (fun _ => 0) 0 n)) ((by rw [show le = n by omega]; exact gX_upd (by omega))) dX6_tellTurned_83 (fun H locs h => ?_)
        have h : xH D A s.heap (w.set 11 (ad 11, xAI (ca 0) 4 (gX 4 (iu (fun _ => 0) 0 n)))) H locs := h
        refine lv_aload_n B.1 B.2.1 dX6_tellTurned_84 rfl (lv_at hl 0 rfl) ?_
        refine x_getR B h kX6 4 (xset_ne f4 (by decide)) 6 (b := ad 11) rfl m_192 (by decide) dX6_tellTurned_85 ?_
        refine x_iconst B dX6_tellTurned_88 ?_
        refine lv_iload_n B.1 B.2.1 dX6_tellTurned_89 rfl (lv_at hl 3 rfl) ?_
        refine x_iast B h 11 (xset_eq f11) (by omega) (P' := gX 4 (iu (iu (fun _ => 0) 0 n) 1 n)) ((by rw [show gr = n by omega]; exact gX_upd (by omega))) dX6_tellTurned_90 (fun H locs h => ?_)
        have h : xH D A s.heap (w.set 11 (ad 11, xAI (ca 0) 4 (gX 4 (iu (iu (fun _ => 0) 0 n) 1 n)))) H locs := by rw [List.set_set] at h; exact h
        refine lv_aload_n B.1 B.2.1 dX6_tellTurned_91 rfl (lv_at hl 0 rfl) ?_
        refine x_getR B h kX6 4 (xset_ne f4 (by decide)) 6 (b := ad 11) rfl m_192 (by decide) dX6_tellTurned_92 ?_
        refine x_iconst B dX6_tellTurned_95 ?_
        refine lv_iload B.1 B.2.1 dX6_tellTurned_96 (lv_at hl 4 rfl) ?_
        refine x_iast B h 11 (xset_eq f11) (by omega) (P' := gX 4 (iu (iu (iu (fun _ => 0) 0 n) 1 n) 2 n)) ((by rw [show om = n by omega]; exact gX_upd (by omega))) dX6_tellTurned_98 (fun H locs h => ?_)
        have h : xH D A s.heap (w.set 11 (ad 11, xAI (ca 0) 4 (gX 4 (iu (iu (iu (fun _ => 0) 0 n) 1 n) 2 n)))) H locs := by rw [List.set_set] at h; exact h
        refine lv_aload_n B.1 B.2.1 dX6_tellTurned_99 rfl (lv_at hl 0 rfl) ?_
        refine x_getR B h kX6 4 (xset_ne f4 (by decide)) 6 (b := ad 11) rfl m_192 (by decide) dX6_tellTurned_100 ?_
        refine x_iconst B dX6_tellTurned_103 ?_
        refine lv_iload_n B.1 B.2.1 dX6_tellTurned_104 rfl (lv_at hl 1 rfl) ?_
        refine lv_aload_n B.1 B.2.1 dX6_tellTurned_105 rfl (lv_at hl 0 rfl) ?_
        refine x_getR B h kX6 4 (xset_ne f4 (by decide)) 5 (b := ad 10) rfl m_191 (by decide) dX6_tellTurned_106 ?_
        refine lv_iload B.1 B.2.1 dX6_tellTurned_109 (lv_at hl 4 rfl) ?_
        obtain ⟨g2, eg2, hg2⟩ := gOne_ex (n := n) (a := all) (i := om) (by omega)
        refine x_ialdP B h 10 (xset_ne f10 (by decide)) (by omega) dX6_tellTurned_111 (z := g2) eg2 ?_
        refine x_isub B dX6_tellTurned_112 ?_
        refine x_iast B h 11 (xset_eq f11) (by omega) (P' := gX 4 (iu (iu (iu (iu (fun _ => 0) 0 n) 1 n) 2 n) 3 0)) ((by rw [show (all - g2) = 0 by omega]; exact gX_upd (by omega))) dX6_tellTurned_113 (fun H locs h => ?_)
        have h : xH D A s.heap (w.set 11 (ad 11, xAI (ca 0) 4 (gX 4 (iu (iu (iu (iu (fun _ => 0) 0 n) 1 n) 2 n) 3 0)))) H locs := by rw [List.set_set] at h; exact h
        refine x_rv B hQ h (by decide) dX6_tellTurned_114 ?_
        exact ⟨rfl, rfl⟩
      · refine lv_aload_n B.1 B.2.1 dX6_tellTurned_20 rfl (lv_at hl 0 rfl) ?_
        refine x_getR B h kX6 4 f4 5 (b := ad 10) rfl m_191 (by decide) dX6_tellTurned_21 ?_
        refine lv_iload B.1 B.2.1 dX6_tellTurned_24 (lv_at hl 5 rfl) ?_
        obtain ⟨g3, eg3, hg3⟩ := gOne_ex (n := n) (a := all) (i := k) (by omega)
        refine x_ialdP B h 10 f10 (by omega) dX6_tellTurned_26 (z := g3) eg3 ?_
        refine x_if_le B (by omega) (tgt := 45) dX6_tellTurned_27 (by decide) (fun c4 => ?_) (fun c4 => ?_)
        · refine lv_aload_n B.1 B.2.1 dX6_tellTurned_45 rfl (lv_at hl 0 rfl) ?_
          refine x_getR B h kX6 4 f4 5 (b := ad 10) rfl m_191 (by decide) dX6_tellTurned_46 ?_
          refine lv_iload B.1 B.2.1 dX6_tellTurned_49 (lv_at hl 5 rfl) ?_
          obtain ⟨g5, eg5, hg5⟩ := gOne_ex (n := n) (a := all) (i := k) (by omega)
          refine x_ialdP B h 10 f10 (by omega) dX6_tellTurned_51 (z := g5) eg5 ?_
          refine lv_aload_n B.1 B.2.1 dX6_tellTurned_52 rfl (lv_at hl 0 rfl) ?_
          refine x_getR B h kX6 4 f4 5 (b := ad 10) rfl m_191 (by decide) dX6_tellTurned_53 ?_
          refine lv_iload B.1 B.2.1 dX6_tellTurned_56 (lv_at hl 4 rfl) ?_
          obtain ⟨g6, eg6, hg6⟩ := gOne_ex (n := n) (a := all) (i := om) (by omega)
          refine x_ialdP B h 10 f10 (by omega) dX6_tellTurned_58 (z := g6) eg6 ?_
          refine x_icmp_le B (by omega) (tgt := 67) dX6_tellTurned_59 (by decide) (fun c7 => ?_) (fun c7 => ?_)
          · refine lv_iload B.1 B.2.1 dX6_tellTurned_67 (lv_at hl 4 rfl) ?_
            refine lv_istore (lv' := [(4, .int (iI om)), (0, .ref (ad 4)), (1, .int (iI all)), (2, .int (iI le)), (3, .int (iI gr)), (5, .int (iI k))]) B.1 B.2.1 dX6_tellTurned_69 hl (by decide) rfl (fun ls hl => ?_)
            refine lv_iinc (v := iI (k + 1)) (lv' := [(5, .int (iI (k + 1))), (4, .int (iI om)), (0, .ref (ad 4)), (1, .int (iI all)), (2, .int (iI le)), (3, .int (iI gr))]) B.1 B.2.1 dX6_tellTurned_71 hl (k := 5) rfl (iI_add _ _) (by decide) rfl (fun ls hl => ?_)
            refine lv_goto (tgt := 10) B.1 B.2.1 dX6_tellTurned_74 (by decide) ?_
            exact ih10 ((k + 1)) le gr om (by omega) (by omega) (by omega) (by omega) _ _ _ h (lv_sub hl [2, 3, 4, 5, 1, 0] rfl)
          · refine lv_iload B.1 B.2.1 dX6_tellTurned_62 (lv_at hl 5 rfl) ?_
            refine lv_goto (tgt := 69) B.1 B.2.1 dX6_tellTurned_64 (by decide) ?_
            refine lv_istore (lv' := [(4, .int (iI k)), (0, .ref (ad 4)), (1, .int (iI all)), (2, .int (iI le)), (3, .int (iI gr)), (5, .int (iI k))]) B.1 B.2.1 dX6_tellTurned_69 hl (by decide) rfl (fun ls hl => ?_)
            refine lv_iinc (v := iI (k + 1)) (lv' := [(5, .int (iI (k + 1))), (4, .int (iI k)), (0, .ref (ad 4)), (1, .int (iI all)), (2, .int (iI le)), (3, .int (iI gr))]) B.1 B.2.1 dX6_tellTurned_71 hl (k := 5) rfl (iI_add _ _) (by decide) rfl (fun ls hl => ?_)
            refine lv_goto (tgt := 10) B.1 B.2.1 dX6_tellTurned_74 (by decide) ?_
            exact ih10 ((k + 1)) le gr k (by omega) (by omega) (by omega) (by omega) _ _ _ h (lv_sub hl [2, 3, 4, 5, 1, 0] rfl)
        · refine lv_iload_n B.1 B.2.1 dX6_tellTurned_30 rfl (lv_at hl 2 rfl) ?_
          refine x_iconst B dX6_tellTurned_31 ?_
          refine x_icmp_ne B (by omega) (tgt := 40) dX6_tellTurned_32 (by decide) (fun c8 => ?_) (fun c8 => ?_)
          · refine lv_iload_n B.1 B.2.1 dX6_tellTurned_40 rfl (lv_at hl 2 rfl) ?_
            refine lv_istore_n (lv' := [(2, .int (iI le)), (0, .ref (ad 4)), (1, .int (iI all)), (3, .int (iI gr)), (4, .int (iI om)), (5, .int (iI k))]) B.1 B.2.1 dX6_tellTurned_41 rfl hl (by decide) rfl (fun ls hl => ?_)
            refine lv_iload B.1 B.2.1 dX6_tellTurned_42 (lv_at hl 5 rfl) ?_
            refine lv_istore_n (lv' := [(3, .int (iI k)), (2, .int (iI le)), (0, .ref (ad 4)), (1, .int (iI all)), (4, .int (iI om)), (5, .int (iI k))]) B.1 B.2.1 dX6_tellTurned_44 rfl hl (by decide) rfl (fun ls hl => ?_)
            refine lv_aload_n B.1 B.2.1 dX6_tellTurned_45 rfl (lv_at hl 2 rfl) ?_
            refine x_getR B h kX6 4 f4 5 (b := ad 10) rfl m_191 (by decide) dX6_tellTurned_46 ?_
            refine lv_iload B.1 B.2.1 dX6_tellTurned_49 (lv_at hl 5 rfl) ?_
            obtain ⟨g9, eg9, hg9⟩ := gOne_ex (n := n) (a := all) (i := k) (by omega)
            refine x_ialdP B h 10 f10 (by omega) dX6_tellTurned_51 (z := g9) eg9 ?_
            refine lv_aload_n B.1 B.2.1 dX6_tellTurned_52 rfl (lv_at hl 2 rfl) ?_
            refine x_getR B h kX6 4 f4 5 (b := ad 10) rfl m_191 (by decide) dX6_tellTurned_53 ?_
            refine lv_iload B.1 B.2.1 dX6_tellTurned_56 (lv_at hl 4 rfl) ?_
            obtain ⟨g10, eg10, hg10⟩ := gOne_ex (n := n) (a := all) (i := om) (by omega)
            refine x_ialdP B h 10 f10 (by omega) dX6_tellTurned_58 (z := g10) eg10 ?_
            refine x_icmp_le B (by omega) (tgt := 67) dX6_tellTurned_59 (by decide) (fun c11 => ?_) (fun c11 => ?_)
            · refine lv_iload B.1 B.2.1 dX6_tellTurned_67 (lv_at hl 4 rfl) ?_
              refine lv_istore (lv' := [(4, .int (iI om)), (3, .int (iI k)), (2, .int (iI le)), (0, .ref (ad 4)), (1, .int (iI all)), (5, .int (iI k))]) B.1 B.2.1 dX6_tellTurned_69 hl (by decide) rfl (fun ls hl => ?_)
              refine lv_iinc (v := iI (k + 1)) (lv' := [(5, .int (iI (k + 1))), (4, .int (iI om)), (3, .int (iI k)), (2, .int (iI le)), (0, .ref (ad 4)), (1, .int (iI all))]) B.1 B.2.1 dX6_tellTurned_71 hl (k := 5) rfl (iI_add _ _) (by decide) rfl (fun ls hl => ?_)
              refine lv_goto (tgt := 10) B.1 B.2.1 dX6_tellTurned_74 (by decide) ?_
              exact ih10 ((k + 1)) le k om (by omega) (by omega) (by omega) (by omega) _ _ _ h (lv_sub hl [4, 5, 3, 2, 1, 0] rfl)
            · refine lv_iload B.1 B.2.1 dX6_tellTurned_62 (lv_at hl 5 rfl) ?_
              refine lv_goto (tgt := 69) B.1 B.2.1 dX6_tellTurned_64 (by decide) ?_
              refine lv_istore (lv' := [(4, .int (iI k)), (3, .int (iI k)), (2, .int (iI le)), (0, .ref (ad 4)), (1, .int (iI all)), (5, .int (iI k))]) B.1 B.2.1 dX6_tellTurned_69 hl (by decide) rfl (fun ls hl => ?_)
              refine lv_iinc (v := iI (k + 1)) (lv' := [(5, .int (iI (k + 1))), (4, .int (iI k)), (3, .int (iI k)), (2, .int (iI le)), (0, .ref (ad 4)), (1, .int (iI all))]) B.1 B.2.1 dX6_tellTurned_71 hl (k := 5) rfl (iI_add _ _) (by decide) rfl (fun ls hl => ?_)
              refine lv_goto (tgt := 10) B.1 B.2.1 dX6_tellTurned_74 (by decide) ?_
              exact ih10 ((k + 1)) le k k (by omega) (by omega) (by omega) (by omega) _ _ _ h (lv_sub hl [4, 5, 3, 2, 1, 0] rfl)
          · refine lv_iload B.1 B.2.1 dX6_tellTurned_35 (lv_at hl 5 rfl) ?_
            refine lv_goto (tgt := 41) B.1 B.2.1 dX6_tellTurned_37 (by decide) ?_
            refine lv_istore_n (lv' := [(2, .int (iI k)), (0, .ref (ad 4)), (1, .int (iI all)), (3, .int (iI gr)), (4, .int (iI om)), (5, .int (iI k))]) B.1 B.2.1 dX6_tellTurned_41 rfl hl (by decide) rfl (fun ls hl => ?_)
            refine lv_iload B.1 B.2.1 dX6_tellTurned_42 (lv_at hl 5 rfl) ?_
            refine lv_istore_n (lv' := [(3, .int (iI k)), (2, .int (iI k)), (0, .ref (ad 4)), (1, .int (iI all)), (4, .int (iI om)), (5, .int (iI k))]) B.1 B.2.1 dX6_tellTurned_44 rfl hl (by decide) rfl (fun ls hl => ?_)
            refine lv_aload_n B.1 B.2.1 dX6_tellTurned_45 rfl (lv_at hl 2 rfl) ?_
            refine x_getR B h kX6 4 f4 5 (b := ad 10) rfl m_191 (by decide) dX6_tellTurned_46 ?_
            refine lv_iload B.1 B.2.1 dX6_tellTurned_49 (lv_at hl 5 rfl) ?_
            obtain ⟨g12, eg12, hg12⟩ := gOne_ex (n := n) (a := all) (i := k) (by omega)
            refine x_ialdP B h 10 f10 (by omega) dX6_tellTurned_51 (z := g12) eg12 ?_
            refine lv_aload_n B.1 B.2.1 dX6_tellTurned_52 rfl (lv_at hl 2 rfl) ?_
            refine x_getR B h kX6 4 f4 5 (b := ad 10) rfl m_191 (by decide) dX6_tellTurned_53 ?_
            refine lv_iload B.1 B.2.1 dX6_tellTurned_56 (lv_at hl 4 rfl) ?_
            obtain ⟨g13, eg13, hg13⟩ := gOne_ex (n := n) (a := all) (i := om) (by omega)
            refine x_ialdP B h 10 f10 (by omega) dX6_tellTurned_58 (z := g13) eg13 ?_
            refine x_icmp_le B (by omega) (tgt := 67) dX6_tellTurned_59 (by decide) (fun c14 => ?_) (fun c14 => ?_)
            · refine lv_iload B.1 B.2.1 dX6_tellTurned_67 (lv_at hl 4 rfl) ?_
              refine lv_istore (lv' := [(4, .int (iI om)), (3, .int (iI k)), (2, .int (iI k)), (0, .ref (ad 4)), (1, .int (iI all)), (5, .int (iI k))]) B.1 B.2.1 dX6_tellTurned_69 hl (by decide) rfl (fun ls hl => ?_)
              refine lv_iinc (v := iI (k + 1)) (lv' := [(5, .int (iI (k + 1))), (4, .int (iI om)), (3, .int (iI k)), (2, .int (iI k)), (0, .ref (ad 4)), (1, .int (iI all))]) B.1 B.2.1 dX6_tellTurned_71 hl (k := 5) rfl (iI_add _ _) (by decide) rfl (fun ls hl => ?_)
              refine lv_goto (tgt := 10) B.1 B.2.1 dX6_tellTurned_74 (by decide) ?_
              exact ih10 ((k + 1)) k k om (by omega) (by omega) (by omega) (by omega) _ _ _ h (lv_sub hl [4, 5, 3, 2, 1, 0] rfl)
            · refine lv_iload B.1 B.2.1 dX6_tellTurned_62 (lv_at hl 5 rfl) ?_
              refine lv_goto (tgt := 69) B.1 B.2.1 dX6_tellTurned_64 (by decide) ?_
              refine lv_istore (lv' := [(4, .int (iI k)), (3, .int (iI k)), (2, .int (iI k)), (0, .ref (ad 4)), (1, .int (iI all)), (5, .int (iI k))]) B.1 B.2.1 dX6_tellTurned_69 hl (by decide) rfl (fun ls hl => ?_)
              refine lv_iinc (v := iI (k + 1)) (lv' := [(5, .int (iI (k + 1))), (4, .int (iI k)), (3, .int (iI k)), (2, .int (iI k)), (0, .ref (ad 4)), (1, .int (iI all))]) B.1 B.2.1 dX6_tellTurned_71 hl (k := 5) rfl (iI_add _ _) (by decide) rfl (fun ls hl => ?_)
              refine lv_goto (tgt := 10) B.1 B.2.1 dX6_tellTurned_74 (by decide) ?_
              exact ih10 ((k + 1)) k k k (by omega) (by omega) (by omega) (by omega) _ _ _ h (lv_sub hl [4, 5, 3, 2, 1, 0] rfl)
  exact loop10 ((13 - 0 : Int).toNat + 1) 0 ((-1)) ((-1)) 0 (by omega) (by omega) (by omega) (Nat.lt_succ_self _) _ _ _ h (lv_sub hl [4, 5, 3, 2, 1, 0] rfl)
abbrev r_c_X6_turnInto : Room := { frames := 3, cells := 0, slots := 0, locals := 69 }
set_option maxHeartbeats 4000000 in
set_option maxRecDepth 100000 in
theorem c_X6_turnInto (l : Launch) (D : va_G) (ca : Nat → ClassId) (w : xW) (k : Int) (asked : Int) (kind : Int) (year : Int) (n : Int) (ad : Nat → Nat) (f4 : w[4]? = some (ad 4, xO 6 [fR (ad 5), fR (ad 6), fR (ad 7), fR (ad 8), fR (ad 9), fR (ad 10), fR (ad 11), fX 0])) (f6 : w[6]? = some (ad 6, xAI (ca 0) 8 gA)) (f8 : w[8]? = some (ad 8, xAI (ca 0) 100 gA)) (f9 : w[9]? = some (ad 9, xAI (ca 0) 100 gA)) (f10 : w[10]? = some (ad 10, xAI (ca 0) 13 gA)) (f11 : w[11]? = some (ad 11, xAI (ca 0) 4 (gX 4 (fun _ => 0)))) (hk : xr k) (ha : xr asked) (hy : xr year) (hn : 0 ≤ n ∧ n ≤ 12) : xC l D ca yX6_turnInto cX6_turnInto 8 (some .boolean) r_c_X6_turnInto [.ref (ad 4), .int (iI k), .int (iI asked), .int (iI kind), .int (iI year), .int (iI n)] w (fun r w1 => r = some (.int (iI 1)) ∧ ∃ tot : Int, w1 = ((((w.set 8 (ad 8, xAI (ca 0) 100 (gP 100 bare))).set 9 (ad 9, xAI (ca 0) 100 (gP 100 bare))).set 10 (ad 10, xAI (ca 0) 13 (gP 13 ((gOne n tot))))).set 11 (ad 11, xAI (ca 0) 4 (gX 4 (iu (iu (iu (iu (fun _ => 0) 0 n) 1 n) 2 n) 3 0))))) := by
  refine xC.of2 "WindWords$Scales" (by decide) rfl (Nat.le_of_ble_eq_true rfl) ?_
  intro p e s m args below meth c A ls Qf B hnm h hl hQ
  have hl : lv_has ls 8 [(0, .ref (ad 4)), (1, .int (iI k)), (2, .int (iI asked)), (3, .int (iI kind)), (4, .int (iI year)), (5, .int (iI n))] := hl
  refine lv_aload_n B.1 B.2.1 dX6_turnInto_0 rfl (lv_at hl 0 rfl) ?_
  refine lv_aload_n B.1 B.2.1 dX6_turnInto_1 rfl (lv_at hl 0 rfl) ?_
  refine x_getR B h kX6 4 f4 3 (b := ad 8) rfl m_189 (by decide) dX6_turnInto_2 ?_
  refine lv_aload_n B.1 B.2.1 dX6_turnInto_5 rfl (lv_at hl 0 rfl) ?_
  refine lv_iload B.1 B.2.1 dX6_turnInto_6 (lv_at hl 4 rfl) ?_
  refine x_cV B h kX6 4 f4 k_X6_ofYear rfl (c_X6_ofYear l D ca _ year ad f4 f6 (by omega)) m_961 rfl (by decide) hl.1 [.ref (ad 8), .ref (ad 4)] (Nat.le_of_ble_eq_true rfl) rfl dX6_turnInto_8 (fun r w1 hq H locs h => ?_)
  obtain ⟨rfl, _, rfl, rfl⟩ := hq
  show W p l e r_c_X6_turnInto s m args below meth c H locs 0 0 Qf (F0 m 11 ls [.int (iI (-1)), .ref (ad 8), .ref (ad 4)])
  refine lv_iload_n B.1 B.2.1 dX6_turnInto_11 rfl (lv_at hl 3 rfl) ?_
  refine x_iconst B dX6_turnInto_12 ?_
  refine lv_iload B.1 B.2.1 dX6_turnInto_13 (lv_at hl 4 rfl) ?_
  refine x_cV B h kX6 4 f4 k_X6_fillRow rfl (c_X6_fillRow l D ca _ ((-1)) kind 0 year ad (ad 8) 8 f4 f8 (by omega)) m_962 rfl (by decide) hl.1 [] (Nat.le_of_ble_eq_true rfl) rfl dX6_turnInto_15 (fun r w1 hq H locs h => ?_)
  obtain ⟨rfl, rfl⟩ := hq
  show W p l e r_c_X6_turnInto s m args below meth c H locs 0 0 Qf (F0 m 18 ls [])
  have h : xH D A s.heap (w.set 8 (ad 8, xAI (ca 0) 100 (gP 100 bare))) H locs := h
  refine lv_aload_n B.1 B.2.1 dX6_turnInto_18 rfl (lv_at hl 0 rfl) ?_
  refine lv_aload_n B.1 B.2.1 dX6_turnInto_19 rfl (lv_at hl 0 rfl) ?_
  refine x_getR B h kX6 4 (xset_ne f4 (by decide)) 4 (b := ad 9) rfl m_190 (by decide) dX6_turnInto_20 ?_
  refine lv_iload_n B.1 B.2.1 dX6_turnInto_23 rfl (lv_at hl 1 rfl) ?_
  refine lv_iload_n B.1 B.2.1 dX6_turnInto_24 rfl (lv_at hl 3 rfl) ?_
  refine x_iconst B dX6_turnInto_25 ?_
  refine lv_iload_n B.1 B.2.1 dX6_turnInto_26 rfl (lv_at hl 2 rfl) ?_
  refine x_cV B h kX6 4 (xset_ne f4 (by decide)) k_X6_fillRow rfl (c_X6_fillRow l D ca _ k kind 0 asked ad (ad 9) 9 (xset_ne f4 (by decide)) (xset_ne f9 (by decide)) (by omega)) m_962 rfl (by decide) hl.1 [] (Nat.le_of_ble_eq_true rfl) rfl dX6_turnInto_27 (fun r w1 hq H locs h => ?_)
  obtain ⟨rfl, rfl⟩ := hq
  show W p l e r_c_X6_turnInto s m args below meth c H locs 0 0 Qf (F0 m 30 ls [])
  have h : xH D A s.heap ((w.set 8 (ad 8, xAI (ca 0) 100 (gP 100 bare))).set 9 (ad 9, xAI (ca 0) 100 (gP 100 bare))) H locs := h
  refine x_iconst B dX6_turnInto_30 ?_
  refine lv_istore (lv' := [(6, .int (iI 0)), (0, .ref (ad 4)), (1, .int (iI k)), (2, .int (iI asked)), (3, .int (iI kind)), (4, .int (iI year)), (5, .int (iI n))]) B.1 B.2.1 dX6_turnInto_31 hl (by decide) rfl (fun ls hl => ?_)
  have h := xH.weak (P' := xAI (ca 0) 13 (gP 0 ((gOne n 0)))) h (xset_ne (xset_ne f10 (by decide)) (by decide)) (fun e he => by obtain ⟨f, rfl, _⟩ := he; exact ⟨f, rfl, fun j hj => by omega⟩)
  have h : xH D A s.heap (((w.set 8 (ad 8, xAI (ca 0) 100 (gP 100 bare))).set 9 (ad 9, xAI (ca 0) 100 (gP 100 bare))).set 10 (ad 10, xAI (ca 0) 13 (gP 0 ((gOne n 0))))) _ _ := h
  have loop33 : ∀ (n33 : Nat) (i : Int), (0 ≤ i) → (i ≤ 13) → (13 - i : Int).toNat < n33 → ∀ (H : Heap) (locs : List Loc) (ls : Array Slot), xH D A s.heap ((((w.set 8 (ad 8, xAI (ca 0) 100 (gP 100 bare))).set 9 (ad 9, xAI (ca 0) 100 (gP 100 bare))).set 10 (ad 10, xAI (ca 0) 13 (gP i ((gOne n 0)))))) H locs → lv_has ls 8 [(0, .ref (ad 4)), (1, .int (iI k)), (2, .int (iI asked)), (3, .int (iI kind)), (4, .int (iI year)), (5, .int (iI n)), (6, .int (iI i))] → W p l e r_c_X6_turnInto s m args below meth c H locs 0 0 Qf (F0 m 33 ls []) := by
    intro n33
    induction n33 with
    | zero =>
      intro i h0 h1 hm33 H locs ls h hl
      exact absurd hm33 (Nat.not_lt_zero _)
    | succ n33 ih33 =>
      intro i h0 h1 hm33 H locs ls h hl
      refine lv_iload B.1 B.2.1 dX6_turnInto_33 (lv_at hl 6 rfl) ?_
      refine lv_aload_n B.1 B.2.1 dX6_turnInto_35 rfl (lv_at hl 0 rfl) ?_
      refine x_getR B h kX6 4 (xset_ne (xset_ne (xset_ne f4 (by decide)) (by decide)) (by decide)) 5 (b := ad 10) rfl m_191 (by decide) dX6_turnInto_36 ?_
      refine x_alenI B h 10 0 (xset_eq (xset_ne (xset_ne f10 (by decide)) (by decide))) rfl dX6_turnInto_39 ?_
      refine x_icmp_ge B (by omega) (tgt := 57) dX6_turnInto_40 (by decide) (fun c2 => ?_) (fun c2 => ?_)
      · have e9_i : 13 = i := by omega
        subst e9_i
        refine x_iconst B dX6_turnInto_57 ?_
        refine lv_istore (lv' := [(6, .int (iI 0)), (0, .ref (ad 4)), (1, .int (iI k)), (2, .int (iI asked)), (3, .int (iI kind)), (4, .int (iI year)), (5, .int (iI n))]) B.1 B.2.1 dX6_turnInto_58 hl (by decide) rfl (fun ls hl => ?_)
        refine x_iconst B dX6_turnInto_60 ?_
        refine lv_istore (lv' := [(7, .int (iI 0)), (6, .int (iI 0)), (0, .ref (ad 4)), (1, .int (iI k)), (2, .int (iI asked)), (3, .int (iI kind)), (4, .int (iI year)), (5, .int (iI n))]) B.1 B.2.1 dX6_turnInto_61 hl (by decide) rfl (fun ls hl => ?_)
        have h := xH.weak (P' := xAI (ca 0) 13 (gP 13 ((gOne n 0)))) h (xset_eq (xset_ne (xset_ne f10 (by decide)) (by decide))) (fun e he => he)
        have h : xH D A s.heap (((w.set 8 (ad 8, xAI (ca 0) 100 (gP 100 bare))).set 9 (ad 9, xAI (ca 0) 100 (gP 100 bare))).set 10 (ad 10, xAI (ca 0) 13 (gP 13 ((gOne n 0))))) H locs := by rw [List.set_set] at h; exact h
        have loop63 : ∀ (n63 : Nat) (i : Int) (tot : Int), (0 ≤ i ∧ i ≤ 100) → (0 ≤ tot ∧ tot ≤ i) → (8 * n < i → 1 ≤ tot) → (100 - i : Int).toNat < n63 → ∀ (H : Heap) (locs : List Loc) (ls : Array Slot), xH D A s.heap ((((w.set 8 (ad 8, xAI (ca 0) 100 (gP 100 bare))).set 9 (ad 9, xAI (ca 0) 100 (gP 100 bare))).set 10 (ad 10, xAI (ca 0) 13 (gP 13 ((gOne n tot)))))) H locs → lv_has ls 8 [(0, .ref (ad 4)), (1, .int (iI k)), (2, .int (iI asked)), (3, .int (iI kind)), (4, .int (iI year)), (5, .int (iI n)), (6, .int (iI tot)), (7, .int (iI i))] → W p l e r_c_X6_turnInto s m args below meth c H locs 0 0 Qf (F0 m 63 ls []) := by
          intro n63
          induction n63 with
          | zero =>
            intro i tot h0 h1 h2 hm63 H locs ls h hl
            exact absurd hm63 (Nat.not_lt_zero _)
          | succ n63 ih63 =>
            intro i tot h0 h1 h2 hm63 H locs ls h hl
            refine lv_iload B.1 B.2.1 dX6_turnInto_63 (lv_at hl 7 rfl) ?_
            refine x_bipush B (by decide) dX6_turnInto_65 ?_
            refine x_icmp_ge B (by omega) (tgt := 122) dX6_turnInto_67 (by decide) (fun c3 => ?_) (fun c3 => ?_)
            · refine lv_iload B.1 B.2.1 dX6_turnInto_122 (lv_at hl 6 rfl) ?_
              refine x_if_ne B (by omega) (tgt := 129) dX6_turnInto_124 (by decide) (fun c4 => ?_) (fun c4 => ?_)
              · refine lv_aload_n B.1 B.2.1 dX6_turnInto_129 rfl (lv_at hl 0 rfl) ?_
                refine lv_iload B.1 B.2.1 dX6_turnInto_130 (lv_at hl 6 rfl) ?_
                refine x_cV B h kX6 4 (xset_ne (xset_ne (xset_ne f4 (by decide)) (by decide)) (by decide)) k_X6_tellTurned rfl (c_X6_tellTurned l D ca _ tot ad n (xset_ne (xset_ne (xset_ne f4 (by decide)) (by decide)) (by decide)) (xset_eq (xset_ne (xset_ne f10 (by decide)) (by decide))) (xset_ne (xset_ne (xset_ne f11 (by decide)) (by decide)) (by decide)) (by omega) (by omega)) m_963 rfl (by decide) hl.1 [] (Nat.le_of_ble_eq_true rfl) rfl dX6_turnInto_132 (fun r w1 hq H locs h => ?_)
                obtain ⟨rfl, rfl⟩ := hq
                show W p l e r_c_X6_turnInto s m args below meth c H locs 0 0 Qf (F0 m 135 ls [])
                have h : xH D A s.heap ((((w.set 8 (ad 8, xAI (ca 0) 100 (gP 100 bare))).set 9 (ad 9, xAI (ca 0) 100 (gP 100 bare))).set 10 (ad 10, xAI (ca 0) 13 (gP 13 ((gOne n tot))))).set 11 (ad 11, xAI (ca 0) 4 (gX 4 (iu (iu (iu (iu (fun _ => 0) 0 n) 1 n) 2 n) 3 0)))) H locs := h
                refine x_iconst B dX6_turnInto_135 ?_
                refine x_rz B hQ h (by decide) (by decide) dX6_turnInto_136 ?_
                exact ⟨rfl, _, rfl⟩
              · exact absurd c4 (by omega)
            · refine lv_aload_n B.1 B.2.1 dX6_turnInto_70 rfl (lv_at hl 0 rfl) ?_
              refine x_getR B h kX6 4 (xset_ne (xset_ne (xset_ne f4 (by decide)) (by decide)) (by decide)) 3 (b := ad 8) rfl m_189 (by decide) dX6_turnInto_71 ?_
              refine lv_iload B.1 B.2.1 dX6_turnInto_74 (lv_at hl 7 rfl) ?_
              refine x_ialdP B h 8 (xset_ne (xset_ne (xset_eq f8) (by decide)) (by decide)) (by omega) dX6_turnInto_76 (z := (min 12 (i / 8))) (bare_at (by omega)) ?_
              refine lv_iload B.1 B.2.1 dX6_turnInto_77 (lv_at hl 5 rfl) ?_
              refine x_icmp_ne B (by omega) (tgt := 116) dX6_turnInto_79 (by decide) (fun c5 => ?_) (fun c5 => ?_)
              · refine lv_iinc (v := iI (i + 1)) (lv' := [(7, .int (iI (i + 1))), (0, .ref (ad 4)), (1, .int (iI k)), (2, .int (iI asked)), (3, .int (iI kind)), (4, .int (iI year)), (5, .int (iI n)), (6, .int (iI tot))]) B.1 B.2.1 dX6_turnInto_116 hl (k := 7) rfl (iI_add _ _) (by decide) rfl (fun ls hl => ?_)
                refine lv_goto (tgt := 63) B.1 B.2.1 dX6_turnInto_119 (by decide) ?_
                exact ih63 ((i + 1)) tot (by omega) (by omega) (by omega) (by omega) _ _ _ h (lv_sub hl [1, 2, 3, 4, 5, 6, 7, 0] rfl)
              · refine lv_aload_n B.1 B.2.1 dX6_turnInto_82 rfl (lv_at hl 0 rfl) ?_
                refine x_getR B h kX6 4 (xset_ne (xset_ne (xset_ne f4 (by decide)) (by decide)) (by decide)) 4 (b := ad 9) rfl m_190 (by decide) dX6_turnInto_83 ?_
                refine lv_iload B.1 B.2.1 dX6_turnInto_86 (lv_at hl 7 rfl) ?_
                refine x_ialdP B h 9 (xset_ne (xset_eq (xset_ne f9 (by decide))) (by decide)) (by omega) dX6_turnInto_88 (z := (min 12 (i / 8))) (bare_at (by omega)) ?_
                refine x_bipush B (by decide) dX6_turnInto_89 ?_
                refine x_cSN (host := "WindWords") B h k_X11_within (c_X11_within l D ca _ ((min 12 (i / 8))) 12  (by omega) (by omega)) (by decide) rfl (by decide) hl.1 [] (Nat.le_of_ble_eq_true rfl) rfl dX6_turnInto_91 (fun r w1 hq H locs h => ?_)
                obtain ⟨rfl, ⟨rfl, b6⟩ | ⟨rfl, b6⟩⟩ := hq
                · show W p l e r_c_X6_turnInto s m args below meth c H locs 0 0 Qf (F0 m 94 ls [.int (iI 1)])
                  refine x_if_eq B (by omega) (tgt := 116) dX6_turnInto_94 (by decide) (fun c7 => ?_) (fun c7 => ?_)
                  · exact absurd c7 (by omega)
                  · refine lv_aload_n B.1 B.2.1 dX6_turnInto_97 rfl (lv_at hl 0 rfl) ?_
                    refine x_getR B h kX6 4 (xset_ne (xset_ne (xset_ne f4 (by decide)) (by decide)) (by decide)) 5 (b := ad 10) rfl m_191 (by decide) dX6_turnInto_98 ?_
                    refine lv_aload_n B.1 B.2.1 dX6_turnInto_101 rfl (lv_at hl 0 rfl) ?_
                    refine x_getR B h kX6 4 (xset_ne (xset_ne (xset_ne f4 (by decide)) (by decide)) (by decide)) 4 (b := ad 9) rfl m_190 (by decide) dX6_turnInto_102 ?_
                    refine lv_iload B.1 B.2.1 dX6_turnInto_105 (lv_at hl 7 rfl) ?_
                    refine x_ialdP B h 9 (xset_ne (xset_eq (xset_ne f9 (by decide))) (by decide)) (by omega) dX6_turnInto_107 (z := (min 12 (i / 8))) (bare_at (by omega)) ?_
                    refine lv_dup2_11 B.1 B.2.1 dX6_turnInto_108 rfl rfl ?_
                    obtain ⟨g8, eg8, hg8⟩ := gOne_ex (n := n) (a := tot) (i := (min 12 (i / 8))) (by omega)
                    refine x_ialdP B h 10 (xset_eq (xset_ne (xset_ne f10 (by decide)) (by decide))) (by omega) dX6_turnInto_109 (z := g8) eg8 ?_
                    refine x_iconst B dX6_turnInto_110 ?_
                    refine x_iadd B dX6_turnInto_111 ?_
                    refine x_iast B h 10 (xset_eq (xset_ne (xset_ne f10 (by decide)) (by decide))) (by omega) (P' := gP 13 ((gOne n (tot + 1)))) (gOneP_upd ⟨by omega, by omega, by omega⟩) dX6_turnInto_112 (fun H locs h => ?_)
                    have h : xH D A s.heap (((w.set 8 (ad 8, xAI (ca 0) 100 (gP 100 bare))).set 9 (ad 9, xAI (ca 0) 100 (gP 100 bare))).set 10 (ad 10, xAI (ca 0) 13 (gP 13 ((gOne n (tot + 1)))))) H locs := by rw [List.set_set] at h; exact h
                    refine lv_iinc (v := iI (tot + 1)) (lv' := [(6, .int (iI (tot + 1))), (0, .ref (ad 4)), (1, .int (iI k)), (2, .int (iI asked)), (3, .int (iI kind)), (4, .int (iI year)), (5, .int (iI n)), (7, .int (iI i))]) B.1 B.2.1 dX6_turnInto_113 hl (k := 6) rfl (iI_add _ _) (by decide) rfl (fun ls hl => ?_)
                    refine lv_iinc (v := iI (i + 1)) (lv' := [(7, .int (iI (i + 1))), (6, .int (iI (tot + 1))), (0, .ref (ad 4)), (1, .int (iI k)), (2, .int (iI asked)), (3, .int (iI kind)), (4, .int (iI year)), (5, .int (iI n))]) B.1 B.2.1 dX6_turnInto_116 hl (k := 7) rfl (iI_add _ _) (by decide) rfl (fun ls hl => ?_)
                    refine lv_goto (tgt := 63) B.1 B.2.1 dX6_turnInto_119 (by decide) ?_
                    exact ih63 ((i + 1)) ((tot + 1)) (by omega) (by omega) (by omega) (by omega) _ _ _ h (lv_sub hl [2, 3, 4, 5, 6, 7, 1, 0] rfl)
                · exact absurd (by omega) b6
        exact loop63 ((100 - 0 : Int).toNat + 1) 0 0 (by omega) (by omega) (by omega) (Nat.lt_succ_self _) _ _ _ h (lv_sub hl [2, 3, 4, 5, 6, 7, 1, 0] rfl)
      · refine lv_aload_n B.1 B.2.1 dX6_turnInto_43 rfl (lv_at hl 0 rfl) ?_
        refine x_getR B h kX6 4 (xset_ne (xset_ne (xset_ne f4 (by decide)) (by decide)) (by decide)) 5 (b := ad 10) rfl m_191 (by decide) dX6_turnInto_44 ?_
        refine lv_iload B.1 B.2.1 dX6_turnInto_47 (lv_at hl 6 rfl) ?_
        refine x_iconst B dX6_turnInto_49 ?_
        refine x_iast B h 10 (xset_eq (xset_ne (xset_ne f10 (by decide)) (by decide))) (by omega) (P' := gP (i + 1) ((gOne n 0))) (gP_next ⟨by omega, by rw [gOne_at (by omega)]; split <;> rfl⟩) dX6_turnInto_50 (fun H locs h => ?_)
        have h : xH D A s.heap (((w.set 8 (ad 8, xAI (ca 0) 100 (gP 100 bare))).set 9 (ad 9, xAI (ca 0) 100 (gP 100 bare))).set 10 (ad 10, xAI (ca 0) 13 (gP (i + 1) ((gOne n 0))))) H locs := by rw [List.set_set] at h; exact h
        refine lv_iinc (v := iI (i + 1)) (lv' := [(6, .int (iI (i + 1))), (0, .ref (ad 4)), (1, .int (iI k)), (2, .int (iI asked)), (3, .int (iI kind)), (4, .int (iI year)), (5, .int (iI n))]) B.1 B.2.1 dX6_turnInto_51 hl (k := 6) rfl (iI_add _ _) (by decide) rfl (fun ls hl => ?_)
        refine lv_goto (tgt := 33) B.1 B.2.1 dX6_turnInto_54 (by decide) ?_
        exact ih33 ((i + 1)) (by omega) (by omega) (by omega) _ _ _ h (lv_sub hl [1, 2, 3, 4, 5, 6, 0] rfl)
  exact loop33 ((13 - 0 : Int).toNat + 1) 0 (by omega) (by omega) (Nat.lt_succ_self _) _ _ _ h (lv_sub hl [1, 2, 3, 4, 5, 6, 0] rfl)
abbrev r_c_X11_column : Room := { frames := 3, cells := 0, slots := 0, locals := 69 }
set_option maxHeartbeats 4000000 in
set_option maxRecDepth 100000 in
theorem c_X11_column (l : Launch) (D : va_G) (ca : Nat → ClassId) (w : xW) (ad : Nat → Nat) (hC : C0 ca ad w) (year : Int) (kind : Int) (mix : Int) (number : Int) (what : Int)  (hyear : xr year) (hkind : xr kind) (hmix : xr mix) (hnumber : xr number) (hwhat : xr what) : xC l D ca yX11_column cX11_column 6 (some .int) r_c_X11_column [.ref (ad 0), .int (iI year), .int (iI kind), .int (iI mix), .int (iI number), .int (iI what)] w (qIa (fun z => (((0 ≤ year ∧ year ≤ 9) ∧ (0 ≤ kind ∧ kind ≤ 2) ∧ (0 ≤ mix ∧ mix ≤ 39) ∧ (0 ≤ number ∧ number ≤ 12) ∧ 0 ≤ what ∧ what ≤ 1) → (what = 0 → z = 8 * number) ∧ (what ≠ 0 → z = min 99 (8 * number + 7))) ∧ (¬ ((0 ≤ year ∧ year ≤ 9) ∧ (0 ≤ kind ∧ kind ≤ 2) ∧ (0 ≤ mix ∧ mix ≤ 39) ∧ (0 ≤ number ∧ number ≤ 12) ∧ 0 ≤ what ∧ what ≤ 1) → z = -1))) := by
  refine xC.of2 "WindWords" (by decide) rfl (Nat.le_of_ble_eq_true rfl) ?_
  intro p e s m args below meth c A ls Qf B hnm h hl hQ
  have hl : lv_has ls 6 [(0, .ref (ad 0)), (1, .int (iI year)), (2, .int (iI kind)), (3, .int (iI mix)), (4, .int (iI number)), (5, .int (iI what))] := hl
  refine lv_iload_n B.1 B.2.1 dX11_column_0 rfl (lv_at hl 1 rfl) ?_
  refine x_bipush B (by decide) dX11_column_1 ?_
  refine x_cS B h k_X11_within (c_X11_within l D ca _ year 9  (by omega) (by omega)) m_431 rfl (by decide) hl.1 [] (Nat.le_of_ble_eq_true rfl) rfl dX11_column_3 (fun r w1 hq H locs h => ?_)
  obtain ⟨rfl, ⟨rfl, b1⟩ | ⟨rfl, b1⟩⟩ := hq
  · show W p l e r_c_X11_column s m args below meth c H locs 0 0 Qf (F0 m 6 ls [.int (iI 1)])
    refine x_if_eq B (by omega) (tgt := 45) dX11_column_6 (by decide) (fun c2 => ?_) (fun c2 => ?_)
    · exact absurd c2 (by omega)
    · refine lv_iload_n B.1 B.2.1 dX11_column_9 rfl (lv_at hl 2 rfl) ?_
      refine x_iconst B dX11_column_10 ?_
      refine x_cS B h k_X11_within (c_X11_within l D ca _ kind 2  (by omega) (by omega)) m_431 rfl (by decide) hl.1 [] (Nat.le_of_ble_eq_true rfl) rfl dX11_column_11 (fun r w1 hq H locs h => ?_)
      obtain ⟨rfl, ⟨rfl, b3⟩ | ⟨rfl, b3⟩⟩ := hq
      · show W p l e r_c_X11_column s m args below meth c H locs 0 0 Qf (F0 m 14 ls [.int (iI 1)])
        refine x_if_eq B (by omega) (tgt := 45) dX11_column_14 (by decide) (fun c4 => ?_) (fun c4 => ?_)
        · exact absurd c4 (by omega)
        · refine lv_iload_n B.1 B.2.1 dX11_column_17 rfl (lv_at hl 3 rfl) ?_
          refine x_bipush B (by decide) dX11_column_18 ?_
          refine x_cS B h k_X11_within (c_X11_within l D ca _ mix 39  (by omega) (by omega)) m_431 rfl (by decide) hl.1 [] (Nat.le_of_ble_eq_true rfl) rfl dX11_column_20 (fun r w1 hq H locs h => ?_)
          obtain ⟨rfl, ⟨rfl, b5⟩ | ⟨rfl, b5⟩⟩ := hq
          · show W p l e r_c_X11_column s m args below meth c H locs 0 0 Qf (F0 m 23 ls [.int (iI 1)])
            refine x_if_eq B (by omega) (tgt := 45) dX11_column_23 (by decide) (fun c6 => ?_) (fun c6 => ?_)
            · exact absurd c6 (by omega)
            · refine lv_iload B.1 B.2.1 dX11_column_26 (lv_at hl 4 rfl) ?_
              refine x_bipush B (by decide) dX11_column_28 ?_
              refine x_cS B h k_X11_within (c_X11_within l D ca _ number 12  (by omega) (by omega)) m_431 rfl (by decide) hl.1 [] (Nat.le_of_ble_eq_true rfl) rfl dX11_column_30 (fun r w1 hq H locs h => ?_)
              obtain ⟨rfl, ⟨rfl, b7⟩ | ⟨rfl, b7⟩⟩ := hq
              · show W p l e r_c_X11_column s m args below meth c H locs 0 0 Qf (F0 m 33 ls [.int (iI 1)])
                refine x_if_eq B (by omega) (tgt := 45) dX11_column_33 (by decide) (fun c8 => ?_) (fun c8 => ?_)
                · exact absurd c8 (by omega)
                · refine lv_iload B.1 B.2.1 dX11_column_36 (lv_at hl 5 rfl) ?_
                  refine x_iconst B dX11_column_38 ?_
                  refine x_cS B h k_X11_within (c_X11_within l D ca _ what 1  (by omega) (by omega)) m_431 rfl (by decide) hl.1 [] (Nat.le_of_ble_eq_true rfl) rfl dX11_column_39 (fun r w1 hq H locs h => ?_)
                  obtain ⟨rfl, ⟨rfl, b9⟩ | ⟨rfl, b9⟩⟩ := hq
                  · show W p l e r_c_X11_column s m args below meth c H locs 0 0 Qf (F0 m 42 ls [.int (iI 1)])
                    refine x_if_ne B (by omega) (tgt := 47) dX11_column_42 (by decide) (fun c10 => ?_) (fun c10 => ?_)
                    · refine lv_aload_n B.1 B.2.1 dX11_column_47 rfl (lv_at hl 0 rfl) ?_
                      refine x_getR B h kX11 0 (hC 0 _ rfl) 1 (b := ad 4) rfl m_362 (by decide) dX11_column_48 ?_
                      refine lv_aload_n B.1 B.2.1 dX11_column_51 rfl (lv_at hl 0 rfl) ?_
                      refine x_getR B h kX11 0 (hC 0 _ rfl) 11 (b := ad 31) rfl m_372 (by decide) dX11_column_52 ?_
                      refine lv_aload_n B.1 B.2.1 dX11_column_55 rfl (lv_at hl 0 rfl) ?_
                      refine x_getR B h kX11 0 (hC 0 _ rfl) 1 (b := ad 4) rfl m_362 (by decide) dX11_column_56 ?_
                      refine lv_iload_n B.1 B.2.1 dX11_column_59 rfl (lv_at hl 1 rfl) ?_
                      refine x_cV B h kX6 4 (hC 4 _ rfl) k_X6_ofYear rfl (c_X6_ofYear l D ca _ year ad (hC 4 _ rfl) (hC 6 _ rfl) (by omega)) m_878 rfl (by decide) hl.1 [.ref (ad 31), .ref (ad 4)] (Nat.le_of_ble_eq_true rfl) rfl dX11_column_60 (fun r w1 hq H locs h => ?_)
                      obtain ⟨rfl, _, rfl, rfl⟩ := hq
                      show W p l e r_c_X11_column s m args below meth c H locs 0 0 Qf (F0 m 63 ls [.int (iI (-1)), .ref (ad 31), .ref (ad 4)])
                      refine lv_iload_n B.1 B.2.1 dX11_column_63 rfl (lv_at hl 2 rfl) ?_
                      refine lv_iload_n B.1 B.2.1 dX11_column_64 rfl (lv_at hl 3 rfl) ?_
                      refine lv_iload_n B.1 B.2.1 dX11_column_65 rfl (lv_at hl 1 rfl) ?_
                      refine x_cV B h kX6 4 (hC 4 _ rfl) k_X6_fillRow rfl (c_X6_fillRow l D ca _ ((-1)) kind mix year ad (ad 31) 31 (hC 4 _ rfl) (hC 31 _ rfl) (by omega)) m_930 rfl (by decide) hl.1 [] (Nat.le_of_ble_eq_true rfl) rfl dX11_column_66 (fun r w1 hq H locs h => ?_)
                      obtain ⟨rfl, rfl⟩ := hq
                      show W p l e r_c_X11_column s m args below meth c H locs 0 0 Qf (F0 m 69 ls [])
                      have h : xH D A s.heap (w.set 31 (ad 31, xAI (ca 0) 100 (gP 100 bare))) H locs := h
                      refine lv_iload B.1 B.2.1 dX11_column_69 (lv_at hl 5 rfl) ?_
                      refine x_if_ne B (by omega) (tgt := 88) dX11_column_71 (by decide) (fun c12 => ?_) (fun c12 => ?_)
                      · refine lv_aload_n B.1 B.2.1 dX11_column_88 rfl (lv_at hl 0 rfl) ?_
                        refine x_getR B h kX11 0 (xset_ne (hC 0 _ rfl) (by decide)) 11 (b := ad 31) rfl m_372 (by decide) dX11_column_89 ?_
                        refine lv_iload B.1 B.2.1 dX11_column_92 (lv_at hl 4 rfl) ?_
                        refine lv_iload B.1 B.2.1 dX11_column_94 (lv_at hl 4 rfl) ?_
                        refine x_cS B h k_X11_greatestWind (c_X11_greatestWind l D ca _ number number (ad 31) 31 (xset_eq (hC 31 _ rfl)) (by omega) (by omega)) m_950 rfl (by decide) hl.1 [] (Nat.le_of_ble_eq_true rfl) rfl dX11_column_96 (fun r w1 hq H locs h => ?_)
                        obtain ⟨rfl, _, rfl, rfl⟩ := hq
                        show W p l e r_c_X11_column s m args below meth c H locs 0 0 Qf (F0 m 99 ls [.int (iI (min 99 ((8 * number) + 7)))])
                        refine x_ri B hQ h (by decide) dX11_column_99 ?_
                        exact ⟨_, rfl, by omega⟩
                      · refine lv_aload_n B.1 B.2.1 dX11_column_74 rfl (lv_at hl 0 rfl) ?_
                        refine x_getR B h kX11 0 (xset_ne (hC 0 _ rfl) (by decide)) 11 (b := ad 31) rfl m_372 (by decide) dX11_column_75 ?_
                        refine lv_iload B.1 B.2.1 dX11_column_78 (lv_at hl 4 rfl) ?_
                        refine lv_iload B.1 B.2.1 dX11_column_80 (lv_at hl 4 rfl) ?_
                        refine x_cS B h k_X11_leastWind (c_X11_leastWind l D ca _ number number (ad 31) 31 (xset_eq (hC 31 _ rfl)) (by omega) (by omega)) m_947 rfl (by decide) hl.1 [] (Nat.le_of_ble_eq_true rfl) rfl dX11_column_82 (fun r w1 hq H locs h => ?_)
                        obtain ⟨rfl, _, rfl, rfl⟩ := hq
                        show W p l e r_c_X11_column s m args below meth c H locs 0 0 Qf (F0 m 85 ls [.int (iI (8 * number))])
                        refine lv_goto (tgt := 99) B.1 B.2.1 dX11_column_85 (by decide) ?_
                        refine x_ri B hQ h (by decide) dX11_column_99 ?_
                        exact ⟨_, rfl, by omega⟩
                    · exact absurd c10 (by omega)
                  · show W p l e r_c_X11_column s m args below meth c H locs 0 0 Qf (F0 m 42 ls [.int (iI 0)])
                    refine x_if_ne B (by omega) (tgt := 47) dX11_column_42 (by decide) (fun c15 => ?_) (fun c15 => ?_)
                    · exact absurd c15 (by omega)
                    · refine x_iconst B dX11_column_45 ?_
                      refine x_ri B hQ h (by decide) dX11_column_46 ?_
                      exact ⟨_, rfl, by omega⟩
              · show W p l e r_c_X11_column s m args below meth c H locs 0 0 Qf (F0 m 33 ls [.int (iI 0)])
                refine x_if_eq B (by omega) (tgt := 45) dX11_column_33 (by decide) (fun c16 => ?_) (fun c16 => ?_)
                · refine x_iconst B dX11_column_45 ?_
                  refine x_ri B hQ h (by decide) dX11_column_46 ?_
                  exact ⟨_, rfl, by omega⟩
                · exact absurd c16 (by omega)
          · show W p l e r_c_X11_column s m args below meth c H locs 0 0 Qf (F0 m 23 ls [.int (iI 0)])
            refine x_if_eq B (by omega) (tgt := 45) dX11_column_23 (by decide) (fun c17 => ?_) (fun c17 => ?_)
            · refine x_iconst B dX11_column_45 ?_
              refine x_ri B hQ h (by decide) dX11_column_46 ?_
              exact ⟨_, rfl, by omega⟩
            · exact absurd c17 (by omega)
      · show W p l e r_c_X11_column s m args below meth c H locs 0 0 Qf (F0 m 14 ls [.int (iI 0)])
        refine x_if_eq B (by omega) (tgt := 45) dX11_column_14 (by decide) (fun c18 => ?_) (fun c18 => ?_)
        · refine x_iconst B dX11_column_45 ?_
          refine x_ri B hQ h (by decide) dX11_column_46 ?_
          exact ⟨_, rfl, by omega⟩
        · exact absurd c18 (by omega)
  · show W p l e r_c_X11_column s m args below meth c H locs 0 0 Qf (F0 m 6 ls [.int (iI 0)])
    refine x_if_eq B (by omega) (tgt := 45) dX11_column_6 (by decide) (fun c19 => ?_) (fun c19 => ?_)
    · refine x_iconst B dX11_column_45 ?_
      refine x_ri B hQ h (by decide) dX11_column_46 ?_
      exact ⟨_, rfl, by omega⟩
    · exact absurd c19 (by omega)
abbrev r_c_X11_reads : Room := { frames := 3, cells := 0, slots := 0, locals := 68 }
set_option maxHeartbeats 4000000 in
set_option maxRecDepth 100000 in
theorem c_X11_reads (l : Launch) (D : va_G) (ca : Nat → ClassId) (w : xW) (ad : Nat → Nat) (hC : C0 ca ad w) (year : Int) (kind : Int) (wind : Int) (mix : Int)  (hyear : xr year) (hkind : xr kind) (hwind : xr wind) (hmix : xr mix) : xC l D ca yX11_reads cX11_reads 5 (some .int) r_c_X11_reads [.ref (ad 0), .int (iI year), .int (iI kind), .int (iI wind), .int (iI mix)] w (qIa (fun z => (((0 ≤ year ∧ year ≤ 9) ∧ (0 ≤ kind ∧ kind ≤ 2) ∧ (0 ≤ wind ∧ wind ≤ 99) ∧ (0 ≤ mix ∧ mix ≤ 39)) → z = min 12 (wind / 8)) ∧ (¬ ((0 ≤ year ∧ year ≤ 9) ∧ (0 ≤ kind ∧ kind ≤ 2) ∧ (0 ≤ wind ∧ wind ≤ 99) ∧ (0 ≤ mix ∧ mix ≤ 39)) → z = -1))) := by
  refine xC.of2 "WindWords" (by decide) rfl (Nat.le_of_ble_eq_true rfl) ?_
  intro p e s m args below meth c A ls Qf B hnm h hl hQ
  have hl : lv_has ls 5 [(0, .ref (ad 0)), (1, .int (iI year)), (2, .int (iI kind)), (3, .int (iI wind)), (4, .int (iI mix))] := hl
  refine lv_iload_n B.1 B.2.1 dX11_reads_0 rfl (lv_at hl 1 rfl) ?_
  refine x_bipush B (by decide) dX11_reads_1 ?_
  refine x_cS B h k_X11_within (c_X11_within l D ca _ year 9  (by omega) (by omega)) m_431 rfl (by decide) hl.1 [] (Nat.le_of_ble_eq_true rfl) rfl dX11_reads_3 (fun r w1 hq H locs h => ?_)
  obtain ⟨rfl, ⟨rfl, b1⟩ | ⟨rfl, b1⟩⟩ := hq
  · show W p l e r_c_X11_reads s m args below meth c H locs 0 0 Qf (F0 m 6 ls [.int (iI 1)])
    refine x_if_eq B (by omega) (tgt := 36) dX11_reads_6 (by decide) (fun c2 => ?_) (fun c2 => ?_)
    · exact absurd c2 (by omega)
    · refine lv_iload_n B.1 B.2.1 dX11_reads_9 rfl (lv_at hl 2 rfl) ?_
      refine x_iconst B dX11_reads_10 ?_
      refine x_cS B h k_X11_within (c_X11_within l D ca _ kind 2  (by omega) (by omega)) m_431 rfl (by decide) hl.1 [] (Nat.le_of_ble_eq_true rfl) rfl dX11_reads_11 (fun r w1 hq H locs h => ?_)
      obtain ⟨rfl, ⟨rfl, b3⟩ | ⟨rfl, b3⟩⟩ := hq
      · show W p l e r_c_X11_reads s m args below meth c H locs 0 0 Qf (F0 m 14 ls [.int (iI 1)])
        refine x_if_eq B (by omega) (tgt := 36) dX11_reads_14 (by decide) (fun c4 => ?_) (fun c4 => ?_)
        · exact absurd c4 (by omega)
        · refine lv_iload_n B.1 B.2.1 dX11_reads_17 rfl (lv_at hl 3 rfl) ?_
          refine x_bipush B (by decide) dX11_reads_18 ?_
          refine x_cS B h k_X11_within (c_X11_within l D ca _ wind 99  (by omega) (by omega)) m_431 rfl (by decide) hl.1 [] (Nat.le_of_ble_eq_true rfl) rfl dX11_reads_20 (fun r w1 hq H locs h => ?_)
          obtain ⟨rfl, ⟨rfl, b5⟩ | ⟨rfl, b5⟩⟩ := hq
          · show W p l e r_c_X11_reads s m args below meth c H locs 0 0 Qf (F0 m 23 ls [.int (iI 1)])
            refine x_if_eq B (by omega) (tgt := 36) dX11_reads_23 (by decide) (fun c6 => ?_) (fun c6 => ?_)
            · exact absurd c6 (by omega)
            · refine lv_iload B.1 B.2.1 dX11_reads_26 (lv_at hl 4 rfl) ?_
              refine x_bipush B (by decide) dX11_reads_28 ?_
              refine x_cS B h k_X11_within (c_X11_within l D ca _ mix 39  (by omega) (by omega)) m_431 rfl (by decide) hl.1 [] (Nat.le_of_ble_eq_true rfl) rfl dX11_reads_30 (fun r w1 hq H locs h => ?_)
              obtain ⟨rfl, ⟨rfl, b7⟩ | ⟨rfl, b7⟩⟩ := hq
              · show W p l e r_c_X11_reads s m args below meth c H locs 0 0 Qf (F0 m 33 ls [.int (iI 1)])
                refine x_if_ne B (by omega) (tgt := 38) dX11_reads_33 (by decide) (fun c8 => ?_) (fun c8 => ?_)
                · refine lv_aload_n B.1 B.2.1 dX11_reads_38 rfl (lv_at hl 0 rfl) ?_
                  refine x_getR B h kX11 0 (hC 0 _ rfl) 1 (b := ad 4) rfl m_362 (by decide) dX11_reads_39 ?_
                  refine lv_aload_n B.1 B.2.1 dX11_reads_42 rfl (lv_at hl 0 rfl) ?_
                  refine x_getR B h kX11 0 (hC 0 _ rfl) 1 (b := ad 4) rfl m_362 (by decide) dX11_reads_43 ?_
                  refine lv_iload_n B.1 B.2.1 dX11_reads_46 rfl (lv_at hl 1 rfl) ?_
                  refine x_cV B h kX6 4 (hC 4 _ rfl) k_X6_ofYear rfl (c_X6_ofYear l D ca _ year ad (hC 4 _ rfl) (hC 6 _ rfl) (by omega)) m_878 rfl (by decide) hl.1 [.ref (ad 4)] (Nat.le_of_ble_eq_true rfl) rfl dX11_reads_47 (fun r w1 hq H locs h => ?_)
                  obtain ⟨rfl, _, rfl, rfl⟩ := hq
                  show W p l e r_c_X11_reads s m args below meth c H locs 0 0 Qf (F0 m 50 ls [.int (iI (-1)), .ref (ad 4)])
                  refine lv_iload_n B.1 B.2.1 dX11_reads_50 rfl (lv_at hl 2 rfl) ?_
                  refine lv_iload_n B.1 B.2.1 dX11_reads_51 rfl (lv_at hl 3 rfl) ?_
                  refine lv_iload B.1 B.2.1 dX11_reads_52 (lv_at hl 4 rfl) ?_
                  refine lv_iload_n B.1 B.2.1 dX11_reads_54 rfl (lv_at hl 1 rfl) ?_
                  refine x_cV B h kX6 4 (hC 4 _ rfl) k_X6_numberFor rfl (c_X6_numberFor l D ca _ ((-1)) kind wind mix year ad (hC 4 _ rfl) (by omega) (by omega)) m_882 rfl (by decide) hl.1 [] (Nat.le_of_ble_eq_true rfl) rfl dX11_reads_55 (fun r w1 hq H locs h => ?_)
                  obtain ⟨rfl, _, rfl, rfl⟩ := hq
                  show W p l e r_c_X11_reads s m args below meth c H locs 0 0 Qf (F0 m 58 ls [.int (iI (min 12 (wind / 8)))])
                  refine x_ri B hQ h (by decide) dX11_reads_58 ?_
                  exact ⟨_, rfl, by omega⟩
                · exact absurd c8 (by omega)
              · show W p l e r_c_X11_reads s m args below meth c H locs 0 0 Qf (F0 m 33 ls [.int (iI 0)])
                refine x_if_ne B (by omega) (tgt := 38) dX11_reads_33 (by decide) (fun c11 => ?_) (fun c11 => ?_)
                · exact absurd c11 (by omega)
                · refine x_iconst B dX11_reads_36 ?_
                  refine x_ri B hQ h (by decide) dX11_reads_37 ?_
                  exact ⟨_, rfl, by omega⟩
          · show W p l e r_c_X11_reads s m args below meth c H locs 0 0 Qf (F0 m 23 ls [.int (iI 0)])
            refine x_if_eq B (by omega) (tgt := 36) dX11_reads_23 (by decide) (fun c12 => ?_) (fun c12 => ?_)
            · refine x_iconst B dX11_reads_36 ?_
              refine x_ri B hQ h (by decide) dX11_reads_37 ?_
              exact ⟨_, rfl, by omega⟩
            · exact absurd c12 (by omega)
      · show W p l e r_c_X11_reads s m args below meth c H locs 0 0 Qf (F0 m 14 ls [.int (iI 0)])
        refine x_if_eq B (by omega) (tgt := 36) dX11_reads_14 (by decide) (fun c13 => ?_) (fun c13 => ?_)
        · refine x_iconst B dX11_reads_36 ?_
          refine x_ri B hQ h (by decide) dX11_reads_37 ?_
          exact ⟨_, rfl, by omega⟩
        · exact absurd c13 (by omega)
  · show W p l e r_c_X11_reads s m args below meth c H locs 0 0 Qf (F0 m 6 ls [.int (iI 0)])
    refine x_if_eq B (by omega) (tgt := 36) dX11_reads_6 (by decide) (fun c14 => ?_) (fun c14 => ?_)
    · refine x_iconst B dX11_reads_36 ?_
      refine x_ri B hQ h (by decide) dX11_reads_37 ?_
      exact ⟨_, rfl, by omega⟩
    · exact absurd c14 (by omega)
abbrev r_c_X11_turn : Room := { frames := 4, cells := 0, slots := 0, locals := 96 }
set_option maxHeartbeats 4000000 in
set_option maxRecDepth 100000 in
theorem c_X11_turn (l : Launch) (D : va_G) (ca : Nat → ClassId) (w : xW) (ad : Nat → Nat) (hC : C0 ca ad w) (kind : Int) (year : Int) (number : Int) (other : Int) (what : Int)  (hkind : xr kind) (hyear : xr year) (hnumber : xr number) (hother : xr other) (hwhat : xr what) : xC l D ca yX11_turn cX11_turn 6 (some .int) r_c_X11_turn [.ref (ad 0), .int (iI kind), .int (iI year), .int (iI number), .int (iI other), .int (iI what)] w (qIa (fun z => (((0 ≤ kind ∧ kind ≤ 2) ∧ (0 ≤ year ∧ year ≤ 9) ∧ (0 ≤ number ∧ number ≤ 12) ∧ (0 ≤ other ∧ other ≤ 9) ∧ 0 ≤ what ∧ what ≤ 3) → (what = 3 → z = 0) ∧ (what ≠ 3 → z = number)) ∧ (¬ ((0 ≤ kind ∧ kind ≤ 2) ∧ (0 ≤ year ∧ year ≤ 9) ∧ (0 ≤ number ∧ number ≤ 12) ∧ (0 ≤ other ∧ other ≤ 9) ∧ 0 ≤ what ∧ what ≤ 3) → z = -1))) := by
  refine xC.of2 "WindWords" (by decide) rfl (Nat.le_of_ble_eq_true rfl) ?_
  intro p e s m args below meth c A ls Qf B hnm h hl hQ
  have hl : lv_has ls 6 [(0, .ref (ad 0)), (1, .int (iI kind)), (2, .int (iI year)), (3, .int (iI number)), (4, .int (iI other)), (5, .int (iI what))] := hl
  refine lv_iload_n B.1 B.2.1 dX11_turn_0 rfl (lv_at hl 1 rfl) ?_
  refine x_iconst B dX11_turn_1 ?_
  refine x_cS B h k_X11_within (c_X11_within l D ca _ kind 2  (by omega) (by omega)) m_431 rfl (by decide) hl.1 [] (Nat.le_of_ble_eq_true rfl) rfl dX11_turn_2 (fun r w1 hq H locs h => ?_)
  obtain ⟨rfl, ⟨rfl, b1⟩ | ⟨rfl, b1⟩⟩ := hq
  · show W p l e r_c_X11_turn s m args below meth c H locs 0 0 Qf (F0 m 5 ls [.int (iI 1)])
    refine x_if_eq B (by omega) (tgt := 45) dX11_turn_5 (by decide) (fun c2 => ?_) (fun c2 => ?_)
    · exact absurd c2 (by omega)
    · refine lv_iload_n B.1 B.2.1 dX11_turn_8 rfl (lv_at hl 2 rfl) ?_
      refine x_bipush B (by decide) dX11_turn_9 ?_
      refine x_cS B h k_X11_within (c_X11_within l D ca _ year 9  (by omega) (by omega)) m_431 rfl (by decide) hl.1 [] (Nat.le_of_ble_eq_true rfl) rfl dX11_turn_11 (fun r w1 hq H locs h => ?_)
      obtain ⟨rfl, ⟨rfl, b3⟩ | ⟨rfl, b3⟩⟩ := hq
      · show W p l e r_c_X11_turn s m args below meth c H locs 0 0 Qf (F0 m 14 ls [.int (iI 1)])
        refine x_if_eq B (by omega) (tgt := 45) dX11_turn_14 (by decide) (fun c4 => ?_) (fun c4 => ?_)
        · exact absurd c4 (by omega)
        · refine lv_iload_n B.1 B.2.1 dX11_turn_17 rfl (lv_at hl 3 rfl) ?_
          refine x_bipush B (by decide) dX11_turn_18 ?_
          refine x_cS B h k_X11_within (c_X11_within l D ca _ number 12  (by omega) (by omega)) m_431 rfl (by decide) hl.1 [] (Nat.le_of_ble_eq_true rfl) rfl dX11_turn_20 (fun r w1 hq H locs h => ?_)
          obtain ⟨rfl, ⟨rfl, b5⟩ | ⟨rfl, b5⟩⟩ := hq
          · show W p l e r_c_X11_turn s m args below meth c H locs 0 0 Qf (F0 m 23 ls [.int (iI 1)])
            refine x_if_eq B (by omega) (tgt := 45) dX11_turn_23 (by decide) (fun c6 => ?_) (fun c6 => ?_)
            · exact absurd c6 (by omega)
            · refine lv_iload B.1 B.2.1 dX11_turn_26 (lv_at hl 4 rfl) ?_
              refine x_bipush B (by decide) dX11_turn_28 ?_
              refine x_cS B h k_X11_within (c_X11_within l D ca _ other 9  (by omega) (by omega)) m_431 rfl (by decide) hl.1 [] (Nat.le_of_ble_eq_true rfl) rfl dX11_turn_30 (fun r w1 hq H locs h => ?_)
              obtain ⟨rfl, ⟨rfl, b7⟩ | ⟨rfl, b7⟩⟩ := hq
              · show W p l e r_c_X11_turn s m args below meth c H locs 0 0 Qf (F0 m 33 ls [.int (iI 1)])
                refine x_if_eq B (by omega) (tgt := 45) dX11_turn_33 (by decide) (fun c8 => ?_) (fun c8 => ?_)
                · exact absurd c8 (by omega)
                · refine lv_iload B.1 B.2.1 dX11_turn_36 (lv_at hl 5 rfl) ?_
                  refine x_iconst B dX11_turn_38 ?_
                  refine x_cS B h k_X11_within (c_X11_within l D ca _ what 3  (by omega) (by omega)) m_431 rfl (by decide) hl.1 [] (Nat.le_of_ble_eq_true rfl) rfl dX11_turn_39 (fun r w1 hq H locs h => ?_)
                  obtain ⟨rfl, ⟨rfl, b9⟩ | ⟨rfl, b9⟩⟩ := hq
                  · show W p l e r_c_X11_turn s m args below meth c H locs 0 0 Qf (F0 m 42 ls [.int (iI 1)])
                    refine x_if_ne B (by omega) (tgt := 47) dX11_turn_42 (by decide) (fun c10 => ?_) (fun c10 => ?_)
                    · refine lv_aload_n B.1 B.2.1 dX11_turn_47 rfl (lv_at hl 0 rfl) ?_
                      refine x_getR B h kX11 0 (hC 0 _ rfl) 1 (b := ad 4) rfl m_362 (by decide) dX11_turn_48 ?_
                      refine lv_aload_n B.1 B.2.1 dX11_turn_51 rfl (lv_at hl 0 rfl) ?_
                      refine x_getR B h kX11 0 (hC 0 _ rfl) 1 (b := ad 4) rfl m_362 (by decide) dX11_turn_52 ?_
                      refine lv_iload B.1 B.2.1 dX11_turn_55 (lv_at hl 4 rfl) ?_
                      refine x_cV B h kX6 4 (hC 4 _ rfl) k_X6_ofYear rfl (c_X6_ofYear l D ca _ other ad (hC 4 _ rfl) (hC 6 _ rfl) (by omega)) m_878 rfl (by decide) hl.1 [.ref (ad 4)] (Nat.le_of_ble_eq_true rfl) rfl dX11_turn_57 (fun r w1 hq H locs h => ?_)
                      obtain ⟨rfl, _, rfl, rfl⟩ := hq
                      show W p l e r_c_X11_turn s m args below meth c H locs 0 0 Qf (F0 m 60 ls [.int (iI (-1)), .ref (ad 4)])
                      refine lv_iload B.1 B.2.1 dX11_turn_60 (lv_at hl 4 rfl) ?_
                      refine lv_iload_n B.1 B.2.1 dX11_turn_62 rfl (lv_at hl 1 rfl) ?_
                      refine lv_iload_n B.1 B.2.1 dX11_turn_63 rfl (lv_at hl 2 rfl) ?_
                      refine lv_iload_n B.1 B.2.1 dX11_turn_64 rfl (lv_at hl 3 rfl) ?_
                      refine x_cV B h kX6 4 (hC 4 _ rfl) k_X6_turnInto rfl (c_X6_turnInto l D ca _ ((-1)) other kind year number ad (hC 4 _ rfl) (hC 6 _ rfl) (hC 8 _ rfl) (hC 9 _ rfl) (hC 10 _ rfl) (hC 11 _ rfl) (by omega) (by omega) (by omega) (by omega)) m_957 rfl (by decide) hl.1 [] (Nat.le_of_ble_eq_true rfl) rfl dX11_turn_65 (fun r w1 hq H locs h => ?_)
                      obtain ⟨rfl, tot12, rfl⟩ := hq
                      show W p l e r_c_X11_turn s m args below meth c H locs 0 0 Qf (F0 m 68 ls [.int (iI 1)])
                      have h : xH D A s.heap ((((w.set 8 (ad 8, xAI (ca 0) 100 (gP 100 bare))).set 9 (ad 9, xAI (ca 0) 100 (gP 100 bare))).set 10 (ad 10, xAI (ca 0) 13 (gP 13 ((gOne number tot12))))).set 11 (ad 11, xAI (ca 0) 4 (gX 4 (iu (iu (iu (iu (fun _ => 0) 0 number) 1 number) 2 number) 3 0)))) H locs := h
                      refine x_if_ne B (by omega) (tgt := 73) dX11_turn_68 (by decide) (fun c13 => ?_) (fun c13 => ?_)
                      · refine lv_aload_n B.1 B.2.1 dX11_turn_73 rfl (lv_at hl 0 rfl) ?_
                        refine x_getR B h kX11 0 (xset_ne (xset_ne (xset_ne (xset_ne (hC 0 _ rfl) (by decide)) (by decide)) (by decide)) (by decide)) 1 (b := ad 4) rfl m_362 (by decide) dX11_turn_74 ?_
                        refine x_getR B h kX6 4 (xset_ne (xset_ne (xset_ne (xset_ne (hC 4 _ rfl) (by decide)) (by decide)) (by decide)) (by decide)) 6 (b := ad 11) rfl m_193 (by decide) dX11_turn_77 ?_
                        refine lv_iload B.1 B.2.1 dX11_turn_80 (lv_at hl 5 rfl) ?_
                        refine x_ialdX B h 11 (xset_eq (xset_ne (xset_ne (xset_ne (hC 11 _ rfl) (by decide)) (by decide)) (by decide))) (by omega) dX11_turn_82 ?_
                        refine x_ri B hQ h (by decide) dX11_turn_83 ?_
                        have i4 := iu4_at (n := number) (i := what) (by omega)
                        exact ⟨_, rfl, ⟨fun _ => i4, fun q => absurd q (by omega)⟩⟩
                      · exact absurd c13 (by omega)
                    · exact absurd c10 (by omega)
                  · show W p l e r_c_X11_turn s m args below meth c H locs 0 0 Qf (F0 m 42 ls [.int (iI 0)])
                    refine x_if_ne B (by omega) (tgt := 47) dX11_turn_42 (by decide) (fun c14 => ?_) (fun c14 => ?_)
                    · exact absurd c14 (by omega)
                    · refine x_iconst B dX11_turn_45 ?_
                      refine x_ri B hQ h (by decide) dX11_turn_46 ?_
                      exact ⟨_, rfl, by omega⟩
              · show W p l e r_c_X11_turn s m args below meth c H locs 0 0 Qf (F0 m 33 ls [.int (iI 0)])
                refine x_if_eq B (by omega) (tgt := 45) dX11_turn_33 (by decide) (fun c15 => ?_) (fun c15 => ?_)
                · refine x_iconst B dX11_turn_45 ?_
                  refine x_ri B hQ h (by decide) dX11_turn_46 ?_
                  exact ⟨_, rfl, by omega⟩
                · exact absurd c15 (by omega)
          · show W p l e r_c_X11_turn s m args below meth c H locs 0 0 Qf (F0 m 23 ls [.int (iI 0)])
            refine x_if_eq B (by omega) (tgt := 45) dX11_turn_23 (by decide) (fun c16 => ?_) (fun c16 => ?_)
            · refine x_iconst B dX11_turn_45 ?_
              refine x_ri B hQ h (by decide) dX11_turn_46 ?_
              exact ⟨_, rfl, by omega⟩
            · exact absurd c16 (by omega)
      · show W p l e r_c_X11_turn s m args below meth c H locs 0 0 Qf (F0 m 14 ls [.int (iI 0)])
        refine x_if_eq B (by omega) (tgt := 45) dX11_turn_14 (by decide) (fun c17 => ?_) (fun c17 => ?_)
        · refine x_iconst B dX11_turn_45 ?_
          refine x_ri B hQ h (by decide) dX11_turn_46 ?_
          exact ⟨_, rfl, by omega⟩
        · exact absurd c17 (by omega)
  · show W p l e r_c_X11_turn s m args below meth c H locs 0 0 Qf (F0 m 5 ls [.int (iI 0)])
    refine x_if_eq B (by omega) (tgt := 45) dX11_turn_5 (by decide) (fun c18 => ?_) (fun c18 => ?_)
    · refine x_iconst B dX11_turn_45 ?_
      refine x_ri B hQ h (by decide) dX11_turn_46 ?_
      exact ⟨_, rfl, by omega⟩
    · exact absurd c18 (by omega)
