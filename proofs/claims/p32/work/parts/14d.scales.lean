theorem k_X6_rulesOf : xMV yX6_rulesOf cX6_rulesOf 2 (some (.object "WindWords$Rules")) 1 := ⟨m_889, m_888, m_17, m_97, ⟨by decide +kernel, by decide +kernel, by decide +kernel⟩⟩
theorem k_X6_ask : xMV yX6_ask cX6_ask 3 none 2 := ⟨m_895, m_894, m_18, m_97, ⟨by decide +kernel, by decide +kernel, by decide +kernel⟩⟩
theorem k_X5_greatest : xMV yX5_greatest cX5_greatest 6 (some .int) 3 := ⟨m_899, m_897, m_898, m_103, ⟨by decide +kernel, by decide +kernel, by decide +kernel⟩⟩
theorem k_X5_fillRow : xMV yX5_fillRow cX5_fillRow 5 none 3 := ⟨m_937, m_935, m_936, m_103, ⟨by decide +kernel, by decide +kernel, by decide +kernel⟩⟩
theorem k_X6_ofYear : xMV yX6_ofYear cX6_ofYear 4 (some .int) 1 := ⟨m_881, m_879, m_880, m_97, ⟨by decide +kernel, by decide +kernel, by decide +kernel⟩⟩
theorem k_X6_fillRow : xMV yX6_fillRow cX6_fillRow 8 none 5 := ⟨m_933, m_931, m_932, m_97, ⟨by decide +kernel, by decide +kernel, by decide +kernel⟩⟩
theorem k_X6_tellTurned : xMV yX6_tellTurned cX6_tellTurned 6 none 1 := ⟨m_966, m_965, m_20, m_97, ⟨by decide +kernel, by decide +kernel, by decide +kernel⟩⟩
abbrev r_c_X6_rulesOf : Room := { frames := 1, cells := 0, slots := 0, locals := 21 }
set_option maxHeartbeats 4000000 in
set_option maxRecDepth 100000 in
theorem c_X6_rulesOf (l : Launch) (D : va_G) (Zk : yK) (ca : Nat → ClassId) (T : Nat → Int → Int) (G : Nat → Int → Nat) (u : Int) (ad : Nat → Nat) (w : yW) (hC : CW ca T G u ad w) (k : Int)  (hk : xr k) : yC l D Zk ca yX6_rulesOf cX6_rulesOf 2 (some (.object "WindWords$Rules")) r_c_X6_rulesOf [.ref (ad 4), .int (iI k)] w (vQ w (fun q => (q = none ∧ True) ∨ ∃ j : Int, q = some (G 6 j) ∧ 0 ≤ j ∧ j < u)) := by
  refine yC.of2 "WindWords$Scales" (by decide) rfl (Nat.le_of_ble_eq_true rfl) ?_
  intro p e s m args below meth c A ls Qf B hnm h hl hQ
  have hl : lv_has ls 2 [(0, .ref (ad 4)), (1, .int (iI k))] := hl
  have hs := pi_s (CW.pi hC)
  refine lv_iload_n B.1 B.2.1 dX6_rulesOf_0 rfl (lv_at hl 1 rfl) ?_
  refine lv_aload_n B.1 B.2.1 dX6_rulesOf_1 rfl (lv_at hl 0 rfl) ?_
  refine y_getG B h kX6 4 (CW.f hC 4 _ rfl) 7 (lo := 0) (hi := 8) rfl m_194 (by decide) dX6_rulesOf_2 (fun z1 z1a z1b => ?_)
  refine x_iconst B dX6_rulesOf_5 ?_
  refine x_isub B dX6_rulesOf_6 ?_
  refine y_cSN (host := "WindWords") B h k_X11_within (c_X11_within l D Zk ca _ k ((z1 - 1))  (by omega) (by omega)) (by decide) rfl (by decide) hl.1 [] (Nat.le_of_ble_eq_true rfl) rfl dX6_rulesOf_7 (fun r w1 hq H locs h => ?_)
  obtain ⟨rfl, _, rfl, ⟨rfl, b2⟩ | ⟨rfl, b2⟩⟩ := hq
  · show W p l e r_c_X6_rulesOf s m args below meth c _ _ 0 0 Qf (F0 m 10 ls [.int (iI 1)])
    refine x_if_eq B (by omega) (tgt := 22) dX6_rulesOf_10 (by decide) (fun c3 => ?_) (fun c3 => ?_)
    · exact absurd c3 (by omega)
    · refine lv_aload_n B.1 B.2.1 dX6_rulesOf_13 rfl (lv_at hl 0 rfl) ?_
      refine y_getR B h kX6 4 (CW.f hC 4 _ rfl) 0 (b := ad 5) rfl m_186 (by decide) dX6_rulesOf_14 ?_
      refine lv_iload_n B.1 B.2.1 dX6_rulesOf_17 rfl (lv_at hl 1 rfl) ?_
      refine y_qald B h 5 6 rfl (CW.f hC 5 _ rfl) (by omega) dX6_rulesOf_18 (fun f5 hf4 => ?_)
      rcases hf4 (k) (by omega) with e6 | ⟨j7, hj7, e6⟩
      · rw [e6]
        show W p l e r_c_X6_rulesOf s m args below meth c _ _ 0 0 Qf (F0 m 19 ls [.null])
        refine lv_goto (tgt := 23) B.1 B.2.1 dX6_rulesOf_19 (by decide) ?_
        refine y_ra (r := none) B hQ h (by decide) dX6_rulesOf_23 ?_
        exact ⟨rfl, _, rfl, Or.inl ⟨rfl, trivial⟩⟩
      · rw [e6]
        have fo8 := CW.ru hC j7 (by omega)
        show W p l e r_c_X6_rulesOf s m args below meth c _ _ 0 0 Qf (F0 m 19 ls [.ref (G 6 j7)])
        refine lv_goto (tgt := 23) B.1 B.2.1 dX6_rulesOf_19 (by decide) ?_
        refine y_ra (r := (some (G 6 j7))) B hQ h (by decide) dX6_rulesOf_23 ?_
        exact ⟨rfl, _, rfl, Or.inr ⟨j7, rfl, by omega⟩⟩
  · show W p l e r_c_X6_rulesOf s m args below meth c _ _ 0 0 Qf (F0 m 10 ls [.int (iI 0)])
    refine x_if_eq B (by omega) (tgt := 22) dX6_rulesOf_10 (by decide) (fun c9 => ?_) (fun c9 => ?_)
    · refine lv_null B.1 B.2.1 dX6_rulesOf_22 ?_
      refine y_ra (r := none) B hQ h (by decide) dX6_rulesOf_23 ?_
      exact ⟨rfl, _, rfl, Or.inl ⟨rfl, trivial⟩⟩
    · exact absurd c9 (by omega)
abbrev r_c_X6_ofYear : Room := { frames := 0, cells := 0, slots := 0, locals := 0 }
set_option maxHeartbeats 4000000 in
set_option maxRecDepth 100000 in
theorem c_X6_ofYear (l : Launch) (D : va_G) (Zk : yK) (ca : Nat → ClassId) (T : Nat → Int → Int) (G : Nat → Int → Nat) (u : Int) (ad : Nat → Nat) (w : yW) (hC : CW ca T G u ad w) (year : Int)  (hyear : xr year) : yC l D Zk ca yX6_ofYear cX6_ofYear 4 (some .int) r_c_X6_ofYear [.ref (ad 4), .int (iI year)] w (vI w (fun z => -1 ≤ z ∧ z ≤ 7)) := by
  refine yC.of2 "WindWords$Scales" (by decide) rfl (Nat.le_of_ble_eq_true rfl) ?_
  intro p e s m args below meth c A ls Qf B hnm h hl hQ
  have hl : lv_has ls 4 [(0, .ref (ad 4)), (1, .int (iI year))] := hl
  have hs := pi_s (CW.pi hC)
  refine x_iconst B dX6_ofYear_0 ?_
  refine lv_istore_n (lv' := [(2, .int (iI (-1))), (0, .ref (ad 4)), (1, .int (iI year))]) B.1 B.2.1 dX6_ofYear_1 rfl hl (by decide) rfl (fun ls hl => ?_)
  refine x_iconst B dX6_ofYear_2 ?_
  refine lv_istore_n (lv' := [(3, .int (iI 0)), (2, .int (iI (-1))), (0, .ref (ad 4)), (1, .int (iI year))]) B.1 B.2.1 dX6_ofYear_3 rfl hl (by decide) rfl (fun ls hl => ?_)
  have loop4 : ∀ (n4 : Nat) (b : Int) (i : Int), (-1 ≤ b ∧ b ≤ 7) → (0 ≤ i ∧ i ≤ 8) → ((8 - i : Int)).toNat < n4 → ∀ (H : Heap) (locs : List Loc) (ls : Array Slot), yH D Zk A s w H locs → lv_has ls 4 [(3, .int (iI i)), (2, .int (iI b)), (0, .ref (ad 4)), (1, .int (iI year))] → W p l e r_c_X6_ofYear s m args below meth c H locs 0 0 Qf (F0 m 4 ls []) := by
    intro n4
    induction n4 with
    | zero =>
      intro b i h0 h1 hm4 H locs ls h hl
      exact absurd hm4 (Nat.not_lt_zero _)
    | succ n4 ih4 =>
      intro b i h0 h1 hm4 H locs ls h hl
      refine lv_iload_n B.1 B.2.1 dX6_ofYear_4 rfl (lv_at hl 0 rfl) ?_
      refine lv_aload_n B.1 B.2.1 dX6_ofYear_5 rfl (lv_at hl 2 rfl) ?_
      refine y_getG B h kX6 4 (CW.f hC 4 _ rfl) 7 (lo := 0) (hi := 8) rfl m_194 (by decide) dX6_ofYear_6 (fun z1 z1a z1b => ?_)
      refine x_icmp_ge B (by omega) (tgt := 50) dX6_ofYear_9 (by decide) (fun c2 => ?_) (fun c2 => ?_)
      · refine lv_iload_n B.1 B.2.1 dX6_ofYear_50 rfl (lv_at hl 1 rfl) ?_
        refine y_ri B hQ h (by decide) dX6_ofYear_51 ?_
        exact ⟨rfl, _, rfl, (by first | omega | trivial | assumption)⟩
      · refine lv_aload_n B.1 B.2.1 dX6_ofYear_12 rfl (lv_at hl 2 rfl) ?_
        refine y_getR B h kX6 4 (CW.f hC 4 _ rfl) 1 (b := ad 6) rfl m_187 (by decide) dX6_ofYear_13 ?_
        refine lv_iload_n B.1 B.2.1 dX6_ofYear_16 rfl (lv_at hl 0 rfl) ?_
        refine y_iald B h 6 (CW.f hC 6 _ rfl) (by omega) dX6_ofYear_17 (fun fz3 hfz3 => ?_)
        refine x_name (fun z3 hz3 ez3 => ?_)
        refine lv_iload_n B.1 B.2.1 dX6_ofYear_18 rfl (lv_at hl 3 rfl) ?_
        refine x_icmp_gt B (by omega) (tgt := 44) dX6_ofYear_19 (by decide) (fun c4 => ?_) (fun c4 => ?_)
        · refine lv_iinc (v := iI (i + 1)) (lv' := [(3, .int (iI (i + 1))), (2, .int (iI b)), (0, .ref (ad 4)), (1, .int (iI year))]) B.1 B.2.1 dX6_ofYear_44 hl (k := 0) rfl (iI_add _ _) (by decide) rfl (fun ls hl => ?_)
          refine lv_goto (tgt := 4) B.1 B.2.1 dX6_ofYear_47 (by decide) ?_
          exact ih4 b ((i + 1)) (by omega) (by omega) (by omega) _ _ _ h (lv_sub hl [0, 1, 2, 3] rfl)
        · refine lv_iload_n B.1 B.2.1 dX6_ofYear_22 rfl (lv_at hl 1 rfl) ?_
          refine x_iconst B dX6_ofYear_23 ?_
          refine x_icmp_eq B (by omega) (tgt := 42) dX6_ofYear_24 (by decide) (fun c5 => ?_) (fun c5 => ?_)
          · refine lv_iload_n B.1 B.2.1 dX6_ofYear_42 rfl (lv_at hl 0 rfl) ?_
            refine lv_istore_n (lv' := [(2, .int (iI i)), (3, .int (iI i)), (0, .ref (ad 4)), (1, .int (iI year))]) B.1 B.2.1 dX6_ofYear_43 rfl hl (by decide) rfl (fun ls hl => ?_)
            refine lv_iinc (v := iI (i + 1)) (lv' := [(3, .int (iI (i + 1))), (2, .int (iI i)), (0, .ref (ad 4)), (1, .int (iI year))]) B.1 B.2.1 dX6_ofYear_44 hl (k := 1) rfl (iI_add _ _) (by decide) rfl (fun ls hl => ?_)
            refine lv_goto (tgt := 4) B.1 B.2.1 dX6_ofYear_47 (by decide) ?_
            exact ih4 i ((i + 1)) (by omega) (by omega) (by omega) _ _ _ h (lv_sub hl [0, 1, 2, 3] rfl)
          · refine lv_aload_n B.1 B.2.1 dX6_ofYear_27 rfl (lv_at hl 2 rfl) ?_
            refine y_getR B h kX6 4 (CW.f hC 4 _ rfl) 1 (b := ad 6) rfl m_187 (by decide) dX6_ofYear_28 ?_
            refine lv_iload_n B.1 B.2.1 dX6_ofYear_31 rfl (lv_at hl 0 rfl) ?_
            refine y_iald B h 6 (CW.f hC 6 _ rfl) (by omega) dX6_ofYear_32 (fun fz6 hfz6 => ?_)
            refine x_name (fun z6 hz6 ez6 => ?_)
            refine lv_aload_n B.1 B.2.1 dX6_ofYear_33 rfl (lv_at hl 2 rfl) ?_
            refine y_getR B h kX6 4 (CW.f hC 4 _ rfl) 1 (b := ad 6) rfl m_187 (by decide) dX6_ofYear_34 ?_
            refine lv_iload_n B.1 B.2.1 dX6_ofYear_37 rfl (lv_at hl 1 rfl) ?_
            refine y_iald B h 6 (CW.f hC 6 _ rfl) (by omega) dX6_ofYear_38 (fun fz7 hfz7 => ?_)
            refine x_name (fun z7 hz7 ez7 => ?_)
            refine x_icmp_lt B (by omega) (tgt := 44) dX6_ofYear_39 (by decide) (fun c8 => ?_) (fun c8 => ?_)
            · refine lv_iinc (v := iI (i + 1)) (lv' := [(3, .int (iI (i + 1))), (2, .int (iI b)), (0, .ref (ad 4)), (1, .int (iI year))]) B.1 B.2.1 dX6_ofYear_44 hl (k := 0) rfl (iI_add _ _) (by decide) rfl (fun ls hl => ?_)
              refine lv_goto (tgt := 4) B.1 B.2.1 dX6_ofYear_47 (by decide) ?_
              exact ih4 b ((i + 1)) (by omega) (by omega) (by omega) _ _ _ h (lv_sub hl [0, 1, 2, 3] rfl)
            · refine lv_iload_n B.1 B.2.1 dX6_ofYear_42 rfl (lv_at hl 0 rfl) ?_
              refine lv_istore_n (lv' := [(2, .int (iI i)), (3, .int (iI i)), (0, .ref (ad 4)), (1, .int (iI year))]) B.1 B.2.1 dX6_ofYear_43 rfl hl (by decide) rfl (fun ls hl => ?_)
              refine lv_iinc (v := iI (i + 1)) (lv' := [(3, .int (iI (i + 1))), (2, .int (iI i)), (0, .ref (ad 4)), (1, .int (iI year))]) B.1 B.2.1 dX6_ofYear_44 hl (k := 1) rfl (iI_add _ _) (by decide) rfl (fun ls hl => ?_)
              refine lv_goto (tgt := 4) B.1 B.2.1 dX6_ofYear_47 (by decide) ?_
              exact ih4 i ((i + 1)) (by omega) (by omega) (by omega) _ _ _ h (lv_sub hl [0, 1, 2, 3] rfl)
  exact loop4 (((8 - 0 : Int)).toNat + 1) ((-1)) 0 (by omega) (by omega) (Nat.lt_succ_self _) _ _ _ h (lv_sub hl [0, 1, 2, 3] rfl)
abbrev r_c_X6_ask : Room := { frames := 0, cells := 0, slots := 0, locals := 0 }
set_option maxHeartbeats 4000000 in
set_option maxRecDepth 100000 in
theorem c_X6_ask (l : Launch) (D : va_G) (Zk : yK) (ca : Nat → ClassId) (T : Nat → Int → Int) (G : Nat → Int → Nat) (u : Int) (ad : Nat → Nat) (w : yW) (hC : CW ca T G u ad w) (mix : Int) (year : Int)  (hmix : 0 ≤ mix ∧ mix ≤ 39) (hyear : xr year) : yC l D Zk ca yX6_ask cX6_ask 3 none r_c_X6_ask [.ref (ad 4), .int (iI mix), .int (iI year)] w (vV w) := by
  refine yC.of2 "WindWords$Scales" (by decide) rfl (Nat.le_of_ble_eq_true rfl) ?_
  intro p e s m args below meth c A ls Qf B hnm h hl hQ
  have hl : lv_has ls 3 [(0, .ref (ad 4)), (1, .int (iI mix)), (2, .int (iI year))] := hl
  have hs := pi_s (CW.pi hC)
  refine lv_aload_n B.1 B.2.1 dX6_ask_0 rfl (lv_at hl 0 rfl) ?_
  refine y_getR B h kX6 4 (CW.f hC 4 _ rfl) 2 (b := ad 7) rfl m_188 (by decide) dX6_ask_1 ?_
  refine x_iconst B dX6_ask_4 ?_
  refine lv_iload_n B.1 B.2.1 dX6_ask_5 rfl (lv_at hl 1 rfl) ?_
  refine x_bipush B (by decide) dX6_ask_6 ?_
  refine x_idiv B (by omega) dX6_ask_8 ?_
  refine y_iastS B h 7 (CW.f hC 7 _ rfl) (by omega) (fun _ _ => trivial) dX6_ask_9 (fun H locs h => ?_)
  refine lv_aload_n B.1 B.2.1 dX6_ask_10 rfl (lv_at hl 0 rfl) ?_
  refine y_getR B h kX6 4 (CW.f hC 4 _ rfl) 2 (b := ad 7) rfl m_188 (by decide) dX6_ask_11 ?_
  refine x_iconst B dX6_ask_14 ?_
  refine lv_iload_n B.1 B.2.1 dX6_ask_15 rfl (lv_at hl 1 rfl) ?_
  refine x_bipush B (by decide) dX6_ask_16 ?_
  refine x_irem B (by omega) dX6_ask_18 ?_
  refine y_iastS B h 7 (CW.f hC 7 _ rfl) (by omega) (fun _ _ => trivial) dX6_ask_19 (fun H locs h => ?_)
  refine lv_aload_n B.1 B.2.1 dX6_ask_20 rfl (lv_at hl 0 rfl) ?_
  refine y_getR B h kX6 4 (CW.f hC 4 _ rfl) 2 (b := ad 7) rfl m_188 (by decide) dX6_ask_21 ?_
  refine x_iconst B dX6_ask_24 ?_
  refine lv_iload_n B.1 B.2.1 dX6_ask_25 rfl (lv_at hl 2 rfl) ?_
  refine y_iastS B h 7 (CW.f hC 7 _ rfl) (by omega) (fun _ _ => trivial) dX6_ask_26 (fun H locs h => ?_)
  refine y_rv B hQ h (by decide) dX6_ask_27 ?_
  exact ⟨rfl, rfl⟩
abbrev r_c_X6_numberFor : Room := { frames := 3, cells := 0, slots := 0, locals := 75 }
set_option maxHeartbeats 4000000 in
set_option maxRecDepth 100000 in
theorem c_X6_numberFor (l : Launch) (D : va_G) (Zk : yK) (ca : Nat → ClassId) (T : Nat → Int → Int) (G : Nat → Int → Nat) (u : Int) (ad : Nat → Nat) (w : yW) (hC : CW ca T G u ad w) (k : Int) (kind : Int) (wind : Int) (mix : Int) (year : Int)  (hk : xr k) (hkind : xr kind) (hwind : 0 ≤ wind ∧ wind ≤ 99) (hmix : 0 ≤ mix ∧ mix ≤ 39) (hyear : xr year) : yC l D Zk ca yX6_numberFor cX6_numberFor 7 (some .int) r_c_X6_numberFor [.ref (ad 4), .int (iI k), .int (iI kind), .int (iI wind), .int (iI mix), .int (iI year)] w (vI w (fun z => 0 ≤ z ∧ z ≤ 12)) := by
  refine yC.of2 "WindWords$Scales" (by decide) rfl (Nat.le_of_ble_eq_true rfl) ?_
  intro p e s m args below meth c A ls Qf B hnm h hl hQ
  have hl : lv_has ls 7 [(0, .ref (ad 4)), (1, .int (iI k)), (2, .int (iI kind)), (3, .int (iI wind)), (4, .int (iI mix)), (5, .int (iI year))] := hl
  have hs := pi_s (CW.pi hC)
  refine lv_aload_n B.1 B.2.1 dX6_numberFor_0 rfl (lv_at hl 0 rfl) ?_
  refine lv_iload_n B.1 B.2.1 dX6_numberFor_1 rfl (lv_at hl 1 rfl) ?_
  refine y_cV B h kX6 4 (CW.f hC 4 _ rfl) k_X6_rulesOf rfl (c_X6_rulesOf l D Zk ca T G u ad _ hC k  (by omega)) m_886 rfl (by decide) hl.1 [] (Nat.le_of_ble_eq_true rfl) rfl dX6_numberFor_2 (fun r w1 hq H locs h => ?_)
  obtain ⟨rfl, _, rfl, ⟨rfl, q1⟩ | ⟨k2, rfl, q1⟩⟩ := hq
  · show W p l e r_c_X6_numberFor s m args below meth c _ _ 0 0 Qf (F0 m 5 ls [.null])
    refine lv_astoreN (lv' := [(6, .null), (0, .ref (ad 4)), (1, .int (iI k)), (2, .int (iI kind)), (3, .int (iI wind)), (4, .int (iI mix)), (5, .int (iI year))]) B.1 B.2.1 dX6_numberFor_5 hl (by decide) rfl (fun ls hl => ?_)
    refine lv_aloadN B.1 B.2.1 dX6_numberFor_7 (lv_at hl 0 rfl) ?_
    refine lv_ifnonnullN B.1 B.2.1 dX6_numberFor_9 ?_
    refine x_bipush B (by decide) dX6_numberFor_12 ?_
    refine lv_iload_n B.1 B.2.1 dX6_numberFor_14 rfl (lv_at hl 4 rfl) ?_
    refine x_bipush B (by decide) dX6_numberFor_15 ?_
    refine x_idiv B (by omega) dX6_numberFor_17 ?_
    refine x_min B (by omega) m_891 m_586 m_106 m_587 hl.1 (Nat.le_of_ble_eq_true rfl) (by decide) dX6_numberFor_18 ?_
    refine y_ri B hQ h (by decide) dX6_numberFor_21 ?_
    exact ⟨rfl, _, rfl, (by first | omega | trivial | assumption)⟩
  · have fo3 := CW.ru hC k2 (by omega)
    show W p l e r_c_X6_numberFor s m args below meth c _ _ 0 0 Qf (F0 m 5 ls [.ref (G 6 k2)])
    refine lv_astore (lv' := [(6, .ref (G 6 k2)), (0, .ref (ad 4)), (1, .int (iI k)), (2, .int (iI kind)), (3, .int (iI wind)), (4, .int (iI mix)), (5, .int (iI year))]) B.1 B.2.1 dX6_numberFor_5 hl (by decide) rfl (fun ls hl => ?_)
    refine lv_aload B.1 B.2.1 dX6_numberFor_7 (lv_at hl 0 rfl) ?_
    refine lv_ifnonnull (tgt := 22) B.1 B.2.1 dX6_numberFor_9 (by decide) ?_
    refine lv_aload_n B.1 B.2.1 dX6_numberFor_22 rfl (lv_at hl 1 rfl) ?_
    refine lv_iload B.1 B.2.1 dX6_numberFor_23 (lv_at hl 5 rfl) ?_
    refine lv_iload B.1 B.2.1 dX6_numberFor_25 (lv_at hl 6 rfl) ?_
    refine y_cV B h kX6 4 (CW.f hC 4 _ rfl) k_X6_ask rfl (c_X6_ask l D Zk ca T G u ad _ hC mix year  (by omega) (by omega)) m_892 rfl (by decide) hl.1 [] (Nat.le_of_ble_eq_true rfl) rfl dX6_numberFor_27 (fun r w1 hq H locs h => ?_)
    obtain ⟨rfl, rfl⟩ := hq
    show W p l e r_c_X6_numberFor s m args below meth c _ _ 0 0 Qf (F0 m 30 ls [])
    refine lv_aload B.1 B.2.1 dX6_numberFor_30 (lv_at hl 0 rfl) ?_
    refine lv_iload_n B.1 B.2.1 dX6_numberFor_32 rfl (lv_at hl 3 rfl) ?_
    refine lv_iload_n B.1 B.2.1 dX6_numberFor_33 rfl (lv_at hl 4 rfl) ?_
    refine lv_aload_n B.1 B.2.1 dX6_numberFor_34 rfl (lv_at hl 1 rfl) ?_
    refine y_getR B h kX6 4 (CW.f hC 4 _ rfl) 2 (b := ad 7) rfl m_188 (by decide) dX6_numberFor_35 ?_
    refine y_cV B h kX5 (1000 + 16 * k2.toNat + 6) fo3.1 k_X5_greatest rfl (c_X5_greatest l D Zk ca T G u ad _ hC k2 kind wind (ad 7) 7 (CW.f hC 7 _ rfl) (by omega) (by omega) (by omega)) m_896 rfl (by decide) hl.1 [] (Nat.le_of_ble_eq_true rfl) rfl dX6_numberFor_38 (fun r w1 hq H locs h => ?_)
    obtain ⟨rfl, z4, rfl, hz4⟩ := hq
    show W p l e r_c_X6_numberFor s m args below meth c _ _ 0 0 Qf (F0 m 41 ls [.int (iI z4)])
    refine y_ri B hQ h (by decide) dX6_numberFor_41 ?_
    exact ⟨rfl, _, rfl, (by first | omega | trivial | assumption)⟩
abbrev r_c_X6_fillRow : Room := { frames := 3, cells := 0, slots := 0, locals := 74 }
set_option maxHeartbeats 4000000 in
set_option maxRecDepth 100000 in
theorem c_X6_fillRow (l : Launch) (D : va_G) (Zk : yK) (ca : Nat → ClassId) (T : Nat → Int → Int) (G : Nat → Int → Nat) (u : Int) (ad : Nat → Nat) (w : yW) (hC : CW ca T G u ad w) (k : Int) (kind : Int) (mix : Int) (year : Int) (ar : Nat) (ir : Nat) (fr : w ir = some (ar, xAI (ca 0) 100 (gG 100 0 12))) (hk : xr k) (hkind : xr kind) (hmix : 0 ≤ mix ∧ mix ≤ 39) (hyear : xr year) : yC l D Zk ca yX6_fillRow cX6_fillRow 8 none r_c_X6_fillRow [.ref (ad 4), .ref ar, .int (iI k), .int (iI kind), .int (iI mix), .int (iI year)] w (vV w) := by
  refine yC.of2 "WindWords$Scales" (by decide) rfl (Nat.le_of_ble_eq_true rfl) ?_
  intro p e s m args below meth c A ls Qf B hnm h hl hQ
  have hl : lv_has ls 8 [(0, .ref (ad 4)), (1, .ref ar), (2, .int (iI k)), (3, .int (iI kind)), (4, .int (iI mix)), (5, .int (iI year))] := hl
  have hs := pi_s (CW.pi hC)
  refine lv_aload_n B.1 B.2.1 dX6_fillRow_0 rfl (lv_at hl 0 rfl) ?_
  refine lv_iload_n B.1 B.2.1 dX6_fillRow_1 rfl (lv_at hl 2 rfl) ?_
  refine y_cV B h kX6 4 (CW.f hC 4 _ rfl) k_X6_rulesOf rfl (c_X6_rulesOf l D Zk ca T G u ad _ hC k  (by omega)) m_886 rfl (by decide) hl.1 [] (Nat.le_of_ble_eq_true rfl) rfl dX6_fillRow_2 (fun r w1 hq H locs h => ?_)
  obtain ⟨rfl, _, rfl, ⟨rfl, q1⟩ | ⟨k2, rfl, q1⟩⟩ := hq
  · show W p l e r_c_X6_fillRow s m args below meth c _ _ 0 0 Qf (F0 m 5 ls [.null])
    refine lv_astoreN (lv' := [(6, .null), (0, .ref (ad 4)), (1, .ref ar), (2, .int (iI k)), (3, .int (iI kind)), (4, .int (iI mix)), (5, .int (iI year))]) B.1 B.2.1 dX6_fillRow_5 hl (by decide) rfl (fun ls hl => ?_)
    refine lv_aloadN B.1 B.2.1 dX6_fillRow_7 (lv_at hl 0 rfl) ?_
    refine lv_ifnonnullN B.1 B.2.1 dX6_fillRow_9 ?_
    refine x_iconst B dX6_fillRow_12 ?_
    refine lv_istore (lv' := [(7, .int (iI 0)), (6, .null), (0, .ref (ad 4)), (1, .ref ar), (2, .int (iI k)), (3, .int (iI kind)), (4, .int (iI mix)), (5, .int (iI year))]) B.1 B.2.1 dX6_fillRow_13 hl (by decide) rfl (fun ls hl => ?_)
    have loop15 : ∀ (n15 : Nat) (i : Int), (0 ≤ i ∧ i ≤ 100) → ((100 - i : Int)).toNat < n15 → ∀ (H : Heap) (locs : List Loc) (ls : Array Slot), yH D Zk A s w H locs → lv_has ls 8 [(7, .int (iI i)), (1, .ref ar)] → W p l e r_c_X6_fillRow s m args below meth c H locs 0 0 Qf (F0 m 15 ls []) := by
      intro n15
      induction n15 with
      | zero =>
        intro i h1 hm15 H locs ls h hl
        exact absurd hm15 (Nat.not_lt_zero _)
      | succ n15 ih15 =>
        intro i h1 hm15 H locs ls h hl
        refine lv_iload B.1 B.2.1 dX6_fillRow_15 (lv_at hl 0 rfl) ?_
        refine lv_aload_n B.1 B.2.1 dX6_fillRow_17 rfl (lv_at hl 1 rfl) ?_
        refine y_alenI B h ir 0 fr rfl dX6_fillRow_18 ?_
        refine x_icmp_ge B (by omega) (tgt := 42) dX6_fillRow_19 (by decide) (fun c3 => ?_) (fun c3 => ?_)
        · refine y_rv B hQ h (by decide) dX6_fillRow_42 ?_
          exact ⟨rfl, rfl⟩
        · refine lv_aload_n B.1 B.2.1 dX6_fillRow_22 rfl (lv_at hl 1 rfl) ?_
          refine lv_iload B.1 B.2.1 dX6_fillRow_23 (lv_at hl 0 rfl) ?_
          refine x_bipush B (by decide) dX6_fillRow_25 ?_
          refine lv_iload B.1 B.2.1 dX6_fillRow_27 (lv_at hl 0 rfl) ?_
          refine x_bipush B (by decide) dX6_fillRow_29 ?_
          refine x_idiv B (by omega) dX6_fillRow_31 ?_
          refine x_min B (by omega) m_891 m_586 m_106 m_587 hl.1 (Nat.le_of_ble_eq_true rfl) (by decide) dX6_fillRow_32 ?_
          refine y_iastS B h ir fr (by omega) (gG_upd (by omega)) dX6_fillRow_35 (fun H locs h => ?_)
          refine lv_iinc (v := iI (i + 1)) (lv' := [(7, .int (iI (i + 1))), (1, .ref ar)]) B.1 B.2.1 dX6_fillRow_36 hl (k := 0) rfl (iI_add _ _) (by decide) rfl (fun ls hl => ?_)
          refine lv_goto (tgt := 15) B.1 B.2.1 dX6_fillRow_39 (by decide) ?_
          exact ih15 ((i + 1)) (by omega) (by omega) _ _ _ h (lv_sub hl [0, 1] rfl)
    exact loop15 (((100 - 0 : Int)).toNat + 1) 0 (by omega) (Nat.lt_succ_self _) _ _ _ h (lv_sub hl [0, 3] rfl)
  · have fo4 := CW.ru hC k2 (by omega)
    show W p l e r_c_X6_fillRow s m args below meth c _ _ 0 0 Qf (F0 m 5 ls [.ref (G 6 k2)])
    refine lv_astore (lv' := [(6, .ref (G 6 k2)), (0, .ref (ad 4)), (1, .ref ar), (2, .int (iI k)), (3, .int (iI kind)), (4, .int (iI mix)), (5, .int (iI year))]) B.1 B.2.1 dX6_fillRow_5 hl (by decide) rfl (fun ls hl => ?_)
    refine lv_aload B.1 B.2.1 dX6_fillRow_7 (lv_at hl 0 rfl) ?_
    refine lv_ifnonnull (tgt := 43) B.1 B.2.1 dX6_fillRow_9 (by decide) ?_
    refine lv_aload_n B.1 B.2.1 dX6_fillRow_43 rfl (lv_at hl 1 rfl) ?_
    refine lv_iload B.1 B.2.1 dX6_fillRow_44 (lv_at hl 5 rfl) ?_
    refine lv_iload B.1 B.2.1 dX6_fillRow_46 (lv_at hl 6 rfl) ?_
    refine y_cV B h kX6 4 (CW.f hC 4 _ rfl) k_X6_ask rfl (c_X6_ask l D Zk ca T G u ad _ hC mix year  (by omega) (by omega)) m_892 rfl (by decide) hl.1 [] (Nat.le_of_ble_eq_true rfl) rfl dX6_fillRow_48 (fun r w1 hq H locs h => ?_)
    obtain ⟨rfl, rfl⟩ := hq
    show W p l e r_c_X6_fillRow s m args below meth c _ _ 0 0 Qf (F0 m 51 ls [])
    refine lv_aload B.1 B.2.1 dX6_fillRow_51 (lv_at hl 0 rfl) ?_
    refine lv_aload_n B.1 B.2.1 dX6_fillRow_53 rfl (lv_at hl 2 rfl) ?_
    refine lv_iload_n B.1 B.2.1 dX6_fillRow_54 rfl (lv_at hl 4 rfl) ?_
    refine lv_aload_n B.1 B.2.1 dX6_fillRow_55 rfl (lv_at hl 1 rfl) ?_
    refine y_getR B h kX6 4 (CW.f hC 4 _ rfl) 2 (b := ad 7) rfl m_188 (by decide) dX6_fillRow_56 ?_
    refine y_cV B h kX5 (1000 + 16 * k2.toNat + 6) fo4.1 k_X5_fillRow rfl (c_X5_fillRow l D Zk ca T G u ad _ hC k2 kind ar ir (ad 7) 7 fr (CW.f hC 7 _ rfl) (by omega) (by omega)) m_934 rfl (by decide) hl.1 [] (Nat.le_of_ble_eq_true rfl) rfl dX6_fillRow_59 (fun r w1 hq H locs h => ?_)
    obtain ⟨rfl, rfl⟩ := hq
    show W p l e r_c_X6_fillRow s m args below meth c _ _ 0 0 Qf (F0 m 62 ls [])
    refine y_rv B hQ h (by decide) dX6_fillRow_62 ?_
    exact ⟨rfl, rfl⟩
abbrev r_c_X6_tellTurned : Room := { frames := 0, cells := 0, slots := 0, locals := 0 }
set_option maxHeartbeats 4000000 in
set_option maxRecDepth 100000 in
theorem c_X6_tellTurned (l : Launch) (D : va_G) (Zk : yK) (ca : Nat → ClassId) (T : Nat → Int → Int) (G : Nat → Int → Nat) (u : Int) (ad : Nat → Nat) (w : yW) (hC : CW ca T G u ad w) (all : Int)  (hall : xr all) : yC l D Zk ca yX6_tellTurned cX6_tellTurned 6 none r_c_X6_tellTurned [.ref (ad 4), .int (iI all)] w (vV w) := by
  refine yC.of2 "WindWords$Scales" (by decide) rfl (Nat.le_of_ble_eq_true rfl) ?_
  intro p e s m args below meth c A ls Qf B hnm h hl hQ
  have hl : lv_has ls 6 [(0, .ref (ad 4)), (1, .int (iI all))] := hl
  have hs := pi_s (CW.pi hC)
  refine x_iconst B dX6_tellTurned_0 ?_
  refine lv_istore_n (lv' := [(2, .int (iI (-1))), (0, .ref (ad 4)), (1, .int (iI all))]) B.1 B.2.1 dX6_tellTurned_1 rfl hl (by decide) rfl (fun ls hl => ?_)
  refine x_iconst B dX6_tellTurned_2 ?_
  refine lv_istore_n (lv' := [(3, .int (iI (-1))), (2, .int (iI (-1))), (0, .ref (ad 4)), (1, .int (iI all))]) B.1 B.2.1 dX6_tellTurned_3 rfl hl (by decide) rfl (fun ls hl => ?_)
  refine x_iconst B dX6_tellTurned_4 ?_
  refine lv_istore (lv' := [(4, .int (iI 0)), (3, .int (iI (-1))), (2, .int (iI (-1))), (0, .ref (ad 4)), (1, .int (iI all))]) B.1 B.2.1 dX6_tellTurned_5 hl (by decide) rfl (fun ls hl => ?_)
  refine x_iconst B dX6_tellTurned_7 ?_
  refine lv_istore (lv' := [(5, .int (iI 0)), (4, .int (iI 0)), (3, .int (iI (-1))), (2, .int (iI (-1))), (0, .ref (ad 4)), (1, .int (iI all))]) B.1 B.2.1 dX6_tellTurned_8 hl (by decide) rfl (fun ls hl => ?_)
  have loop10 : ∀ (n10 : Nat) (le : Int) (gr : Int) (om : Int) (i : Int), (-1 ≤ le ∧ le ≤ 12) → (-1 ≤ gr ∧ gr ≤ 12) → (0 ≤ om ∧ om ≤ 12) → (0 ≤ i ∧ i ≤ 13) → ((13 - i : Int)).toNat < n10 → ∀ (H : Heap) (locs : List Loc) (ls : Array Slot), yH D Zk A s w H locs → lv_has ls 6 [(5, .int (iI i)), (4, .int (iI om)), (3, .int (iI gr)), (2, .int (iI le)), (0, .ref (ad 4)), (1, .int (iI all))] → W p l e r_c_X6_tellTurned s m args below meth c H locs 0 0 Qf (F0 m 10 ls []) := by
    intro n10
    induction n10 with
    | zero =>
      intro le gr om i h0 h1 h2 h3 hm10 H locs ls h hl
      exact absurd hm10 (Nat.not_lt_zero _)
    | succ n10 ih10 =>
      intro le gr om i h0 h1 h2 h3 hm10 H locs ls h hl
      refine lv_iload B.1 B.2.1 dX6_tellTurned_10 (lv_at hl 0 rfl) ?_
      refine lv_aload_n B.1 B.2.1 dX6_tellTurned_12 rfl (lv_at hl 4 rfl) ?_
      refine y_getR B h kX6 4 (CW.f hC 4 _ rfl) 5 (b := ad 10) rfl m_191 (by decide) dX6_tellTurned_13 ?_
      refine y_alenI B h 10 0 (CW.f hC 10 _ rfl) rfl dX6_tellTurned_16 ?_
      refine x_icmp_ge B (by omega) (tgt := 77) dX6_tellTurned_17 (by decide) (fun c1 => ?_) (fun c1 => ?_)
      · refine lv_aload_n B.1 B.2.1 dX6_tellTurned_77 rfl (lv_at hl 4 rfl) ?_
        refine y_getR B h kX6 4 (CW.f hC 4 _ rfl) 6 (b := ad 11) rfl m_192 (by decide) dX6_tellTurned_78 ?_
        refine x_iconst B dX6_tellTurned_81 ?_
        refine lv_iload_n B.1 B.2.1 dX6_tellTurned_82 rfl (lv_at hl 3 rfl) ?_
        refine y_iastS B h 11 (CW.f hC 11 _ rfl) (by omega) (fun _ _ => trivial) dX6_tellTurned_83 (fun H locs h => ?_)
        refine lv_aload_n B.1 B.2.1 dX6_tellTurned_84 rfl (lv_at hl 4 rfl) ?_
        refine y_getR B h kX6 4 (CW.f hC 4 _ rfl) 6 (b := ad 11) rfl m_192 (by decide) dX6_tellTurned_85 ?_
        refine x_iconst B dX6_tellTurned_88 ?_
        refine lv_iload_n B.1 B.2.1 dX6_tellTurned_89 rfl (lv_at hl 2 rfl) ?_
        refine y_iastS B h 11 (CW.f hC 11 _ rfl) (by omega) (fun _ _ => trivial) dX6_tellTurned_90 (fun H locs h => ?_)
        refine lv_aload_n B.1 B.2.1 dX6_tellTurned_91 rfl (lv_at hl 4 rfl) ?_
        refine y_getR B h kX6 4 (CW.f hC 4 _ rfl) 6 (b := ad 11) rfl m_192 (by decide) dX6_tellTurned_92 ?_
        refine x_iconst B dX6_tellTurned_95 ?_
        refine lv_iload B.1 B.2.1 dX6_tellTurned_96 (lv_at hl 1 rfl) ?_
        refine y_iastS B h 11 (CW.f hC 11 _ rfl) (by omega) (fun _ _ => trivial) dX6_tellTurned_98 (fun H locs h => ?_)
        refine lv_aload_n B.1 B.2.1 dX6_tellTurned_99 rfl (lv_at hl 4 rfl) ?_
        refine y_getR B h kX6 4 (CW.f hC 4 _ rfl) 6 (b := ad 11) rfl m_192 (by decide) dX6_tellTurned_100 ?_
        refine x_iconst B dX6_tellTurned_103 ?_
        refine lv_iload_n B.1 B.2.1 dX6_tellTurned_104 rfl (lv_at hl 5 rfl) ?_
        refine lv_aload_n B.1 B.2.1 dX6_tellTurned_105 rfl (lv_at hl 4 rfl) ?_
        refine y_getR B h kX6 4 (CW.f hC 4 _ rfl) 5 (b := ad 10) rfl m_191 (by decide) dX6_tellTurned_106 ?_
        refine lv_iload B.1 B.2.1 dX6_tellTurned_109 (lv_at hl 1 rfl) ?_
        refine y_iald B h 10 (CW.f hC 10 _ rfl) (by omega) dX6_tellTurned_111 (fun fz2 hfz2 => ?_)
        refine x_name (fun z2 hz2 ez2 => ?_)
        refine x_isub B dX6_tellTurned_112 ?_
        refine y_iastS B h 11 (CW.f hC 11 _ rfl) (by omega) (fun _ _ => trivial) dX6_tellTurned_113 (fun H locs h => ?_)
        refine y_rv B hQ h (by decide) dX6_tellTurned_114 ?_
        exact ⟨rfl, rfl⟩
      · refine lv_aload_n B.1 B.2.1 dX6_tellTurned_20 rfl (lv_at hl 4 rfl) ?_
        refine y_getR B h kX6 4 (CW.f hC 4 _ rfl) 5 (b := ad 10) rfl m_191 (by decide) dX6_tellTurned_21 ?_
        refine lv_iload B.1 B.2.1 dX6_tellTurned_24 (lv_at hl 0 rfl) ?_
        refine y_iald B h 10 (CW.f hC 10 _ rfl) (by omega) dX6_tellTurned_26 (fun fz3 hfz3 => ?_)
        refine x_name (fun z3 hz3 ez3 => ?_)
        refine x_if_le B (by omega) (tgt := 45) dX6_tellTurned_27 (by decide) (fun c4 => ?_) (fun c4 => ?_)
        · refine lv_aload_n B.1 B.2.1 dX6_tellTurned_45 rfl (lv_at hl 4 rfl) ?_
          refine y_getR B h kX6 4 (CW.f hC 4 _ rfl) 5 (b := ad 10) rfl m_191 (by decide) dX6_tellTurned_46 ?_
          refine lv_iload B.1 B.2.1 dX6_tellTurned_49 (lv_at hl 0 rfl) ?_
          refine y_iald B h 10 (CW.f hC 10 _ rfl) (by omega) dX6_tellTurned_51 (fun fz5 hfz5 => ?_)
          refine x_name (fun z5 hz5 ez5 => ?_)
          refine lv_aload_n B.1 B.2.1 dX6_tellTurned_52 rfl (lv_at hl 4 rfl) ?_
          refine y_getR B h kX6 4 (CW.f hC 4 _ rfl) 5 (b := ad 10) rfl m_191 (by decide) dX6_tellTurned_53 ?_
          refine lv_iload B.1 B.2.1 dX6_tellTurned_56 (lv_at hl 1 rfl) ?_
          refine y_iald B h 10 (CW.f hC 10 _ rfl) (by omega) dX6_tellTurned_58 (fun fz6 hfz6 => ?_)
          refine x_name (fun z6 hz6 ez6 => ?_)
          refine x_icmp_le B (by omega) (tgt := 67) dX6_tellTurned_59 (by decide) (fun c7 => ?_) (fun c7 => ?_)
          · refine lv_iload B.1 B.2.1 dX6_tellTurned_67 (lv_at hl 1 rfl) ?_
            refine lv_istore (lv' := [(4, .int (iI om)), (5, .int (iI i)), (3, .int (iI gr)), (2, .int (iI le)), (0, .ref (ad 4)), (1, .int (iI all))]) B.1 B.2.1 dX6_tellTurned_69 hl (by decide) rfl (fun ls hl => ?_)
            refine lv_iinc (v := iI (i + 1)) (lv' := [(5, .int (iI (i + 1))), (4, .int (iI om)), (3, .int (iI gr)), (2, .int (iI le)), (0, .ref (ad 4)), (1, .int (iI all))]) B.1 B.2.1 dX6_tellTurned_71 hl (k := 1) rfl (iI_add _ _) (by decide) rfl (fun ls hl => ?_)
            refine lv_goto (tgt := 10) B.1 B.2.1 dX6_tellTurned_74 (by decide) ?_
            exact ih10 le gr om ((i + 1)) (by omega) (by omega) (by omega) (by omega) (by omega) _ _ _ h (lv_sub hl [0, 1, 2, 3, 4, 5] rfl)
          · refine lv_iload B.1 B.2.1 dX6_tellTurned_62 (lv_at hl 0 rfl) ?_
            refine lv_goto (tgt := 69) B.1 B.2.1 dX6_tellTurned_64 (by decide) ?_
            refine lv_istore (lv' := [(4, .int (iI i)), (5, .int (iI i)), (3, .int (iI gr)), (2, .int (iI le)), (0, .ref (ad 4)), (1, .int (iI all))]) B.1 B.2.1 dX6_tellTurned_69 hl (by decide) rfl (fun ls hl => ?_)
            refine lv_iinc (v := iI (i + 1)) (lv' := [(5, .int (iI (i + 1))), (4, .int (iI i)), (3, .int (iI gr)), (2, .int (iI le)), (0, .ref (ad 4)), (1, .int (iI all))]) B.1 B.2.1 dX6_tellTurned_71 hl (k := 1) rfl (iI_add _ _) (by decide) rfl (fun ls hl => ?_)
            refine lv_goto (tgt := 10) B.1 B.2.1 dX6_tellTurned_74 (by decide) ?_
            exact ih10 le gr i ((i + 1)) (by omega) (by omega) (by omega) (by omega) (by omega) _ _ _ h (lv_sub hl [0, 1, 2, 3, 4, 5] rfl)
        · refine lv_iload_n B.1 B.2.1 dX6_tellTurned_30 rfl (lv_at hl 3 rfl) ?_
          refine x_iconst B dX6_tellTurned_31 ?_
          refine x_icmp_ne B (by omega) (tgt := 40) dX6_tellTurned_32 (by decide) (fun c8 => ?_) (fun c8 => ?_)
          · refine lv_iload_n B.1 B.2.1 dX6_tellTurned_40 rfl (lv_at hl 3 rfl) ?_
            refine lv_istore_n (lv' := [(2, .int (iI le)), (5, .int (iI i)), (4, .int (iI om)), (3, .int (iI gr)), (0, .ref (ad 4)), (1, .int (iI all))]) B.1 B.2.1 dX6_tellTurned_41 rfl hl (by decide) rfl (fun ls hl => ?_)
            refine lv_iload B.1 B.2.1 dX6_tellTurned_42 (lv_at hl 1 rfl) ?_
            refine lv_istore_n (lv' := [(3, .int (iI i)), (2, .int (iI le)), (5, .int (iI i)), (4, .int (iI om)), (0, .ref (ad 4)), (1, .int (iI all))]) B.1 B.2.1 dX6_tellTurned_44 rfl hl (by decide) rfl (fun ls hl => ?_)
            refine lv_aload_n B.1 B.2.1 dX6_tellTurned_45 rfl (lv_at hl 4 rfl) ?_
            refine y_getR B h kX6 4 (CW.f hC 4 _ rfl) 5 (b := ad 10) rfl m_191 (by decide) dX6_tellTurned_46 ?_
            refine lv_iload B.1 B.2.1 dX6_tellTurned_49 (lv_at hl 2 rfl) ?_
            refine y_iald B h 10 (CW.f hC 10 _ rfl) (by omega) dX6_tellTurned_51 (fun fz9 hfz9 => ?_)
            refine x_name (fun z9 hz9 ez9 => ?_)
            refine lv_aload_n B.1 B.2.1 dX6_tellTurned_52 rfl (lv_at hl 4 rfl) ?_
            refine y_getR B h kX6 4 (CW.f hC 4 _ rfl) 5 (b := ad 10) rfl m_191 (by decide) dX6_tellTurned_53 ?_
            refine lv_iload B.1 B.2.1 dX6_tellTurned_56 (lv_at hl 3 rfl) ?_
            refine y_iald B h 10 (CW.f hC 10 _ rfl) (by omega) dX6_tellTurned_58 (fun fz10 hfz10 => ?_)
            refine x_name (fun z10 hz10 ez10 => ?_)
            refine x_icmp_le B (by omega) (tgt := 67) dX6_tellTurned_59 (by decide) (fun c11 => ?_) (fun c11 => ?_)
            · refine lv_iload B.1 B.2.1 dX6_tellTurned_67 (lv_at hl 3 rfl) ?_
              refine lv_istore (lv' := [(4, .int (iI om)), (3, .int (iI i)), (2, .int (iI le)), (5, .int (iI i)), (0, .ref (ad 4)), (1, .int (iI all))]) B.1 B.2.1 dX6_tellTurned_69 hl (by decide) rfl (fun ls hl => ?_)
              refine lv_iinc (v := iI (i + 1)) (lv' := [(5, .int (iI (i + 1))), (4, .int (iI om)), (3, .int (iI i)), (2, .int (iI le)), (0, .ref (ad 4)), (1, .int (iI all))]) B.1 B.2.1 dX6_tellTurned_71 hl (k := 3) rfl (iI_add _ _) (by decide) rfl (fun ls hl => ?_)
              refine lv_goto (tgt := 10) B.1 B.2.1 dX6_tellTurned_74 (by decide) ?_
              exact ih10 le i om ((i + 1)) (by omega) (by omega) (by omega) (by omega) (by omega) _ _ _ h (lv_sub hl [0, 1, 2, 3, 4, 5] rfl)
            · refine lv_iload B.1 B.2.1 dX6_tellTurned_62 (lv_at hl 2 rfl) ?_
              refine lv_goto (tgt := 69) B.1 B.2.1 dX6_tellTurned_64 (by decide) ?_
              refine lv_istore (lv' := [(4, .int (iI i)), (3, .int (iI i)), (2, .int (iI le)), (5, .int (iI i)), (0, .ref (ad 4)), (1, .int (iI all))]) B.1 B.2.1 dX6_tellTurned_69 hl (by decide) rfl (fun ls hl => ?_)
              refine lv_iinc (v := iI (i + 1)) (lv' := [(5, .int (iI (i + 1))), (4, .int (iI i)), (3, .int (iI i)), (2, .int (iI le)), (0, .ref (ad 4)), (1, .int (iI all))]) B.1 B.2.1 dX6_tellTurned_71 hl (k := 3) rfl (iI_add _ _) (by decide) rfl (fun ls hl => ?_)
              refine lv_goto (tgt := 10) B.1 B.2.1 dX6_tellTurned_74 (by decide) ?_
              exact ih10 le i i ((i + 1)) (by omega) (by omega) (by omega) (by omega) (by omega) _ _ _ h (lv_sub hl [0, 1, 2, 3, 4, 5] rfl)
          · refine lv_iload B.1 B.2.1 dX6_tellTurned_35 (lv_at hl 0 rfl) ?_
            refine lv_goto (tgt := 41) B.1 B.2.1 dX6_tellTurned_37 (by decide) ?_
            refine lv_istore_n (lv' := [(2, .int (iI i)), (5, .int (iI i)), (4, .int (iI om)), (3, .int (iI gr)), (0, .ref (ad 4)), (1, .int (iI all))]) B.1 B.2.1 dX6_tellTurned_41 rfl hl (by decide) rfl (fun ls hl => ?_)
            refine lv_iload B.1 B.2.1 dX6_tellTurned_42 (lv_at hl 1 rfl) ?_
            refine lv_istore_n (lv' := [(3, .int (iI i)), (2, .int (iI i)), (5, .int (iI i)), (4, .int (iI om)), (0, .ref (ad 4)), (1, .int (iI all))]) B.1 B.2.1 dX6_tellTurned_44 rfl hl (by decide) rfl (fun ls hl => ?_)
            refine lv_aload_n B.1 B.2.1 dX6_tellTurned_45 rfl (lv_at hl 4 rfl) ?_
            refine y_getR B h kX6 4 (CW.f hC 4 _ rfl) 5 (b := ad 10) rfl m_191 (by decide) dX6_tellTurned_46 ?_
            refine lv_iload B.1 B.2.1 dX6_tellTurned_49 (lv_at hl 2 rfl) ?_
            refine y_iald B h 10 (CW.f hC 10 _ rfl) (by omega) dX6_tellTurned_51 (fun fz12 hfz12 => ?_)
            refine x_name (fun z12 hz12 ez12 => ?_)
            refine lv_aload_n B.1 B.2.1 dX6_tellTurned_52 rfl (lv_at hl 4 rfl) ?_
            refine y_getR B h kX6 4 (CW.f hC 4 _ rfl) 5 (b := ad 10) rfl m_191 (by decide) dX6_tellTurned_53 ?_
            refine lv_iload B.1 B.2.1 dX6_tellTurned_56 (lv_at hl 3 rfl) ?_
            refine y_iald B h 10 (CW.f hC 10 _ rfl) (by omega) dX6_tellTurned_58 (fun fz13 hfz13 => ?_)
            refine x_name (fun z13 hz13 ez13 => ?_)
            refine x_icmp_le B (by omega) (tgt := 67) dX6_tellTurned_59 (by decide) (fun c14 => ?_) (fun c14 => ?_)
            · refine lv_iload B.1 B.2.1 dX6_tellTurned_67 (lv_at hl 3 rfl) ?_
              refine lv_istore (lv' := [(4, .int (iI om)), (3, .int (iI i)), (2, .int (iI i)), (5, .int (iI i)), (0, .ref (ad 4)), (1, .int (iI all))]) B.1 B.2.1 dX6_tellTurned_69 hl (by decide) rfl (fun ls hl => ?_)
              refine lv_iinc (v := iI (i + 1)) (lv' := [(5, .int (iI (i + 1))), (4, .int (iI om)), (3, .int (iI i)), (2, .int (iI i)), (0, .ref (ad 4)), (1, .int (iI all))]) B.1 B.2.1 dX6_tellTurned_71 hl (k := 3) rfl (iI_add _ _) (by decide) rfl (fun ls hl => ?_)
              refine lv_goto (tgt := 10) B.1 B.2.1 dX6_tellTurned_74 (by decide) ?_
              exact ih10 i i om ((i + 1)) (by omega) (by omega) (by omega) (by omega) (by omega) _ _ _ h (lv_sub hl [0, 1, 2, 3, 4, 5] rfl)
            · refine lv_iload B.1 B.2.1 dX6_tellTurned_62 (lv_at hl 2 rfl) ?_
              refine lv_goto (tgt := 69) B.1 B.2.1 dX6_tellTurned_64 (by decide) ?_
              refine lv_istore (lv' := [(4, .int (iI i)), (3, .int (iI i)), (2, .int (iI i)), (5, .int (iI i)), (0, .ref (ad 4)), (1, .int (iI all))]) B.1 B.2.1 dX6_tellTurned_69 hl (by decide) rfl (fun ls hl => ?_)
              refine lv_iinc (v := iI (i + 1)) (lv' := [(5, .int (iI (i + 1))), (4, .int (iI i)), (3, .int (iI i)), (2, .int (iI i)), (0, .ref (ad 4)), (1, .int (iI all))]) B.1 B.2.1 dX6_tellTurned_71 hl (k := 3) rfl (iI_add _ _) (by decide) rfl (fun ls hl => ?_)
              refine lv_goto (tgt := 10) B.1 B.2.1 dX6_tellTurned_74 (by decide) ?_
              exact ih10 i i i ((i + 1)) (by omega) (by omega) (by omega) (by omega) (by omega) _ _ _ h (lv_sub hl [0, 1, 2, 3, 4, 5] rfl)
  exact loop10 (((13 - 0 : Int)).toNat + 1) ((-1)) ((-1)) 0 0 (by omega) (by omega) (by omega) (by omega) (Nat.lt_succ_self _) _ _ _ h (lv_sub hl [0, 1, 2, 3, 4, 5] rfl)
abbrev r_c_X6_turnInto : Room := { frames := 4, cells := 0, slots := 0, locals := 101 }
set_option maxHeartbeats 4000000 in
set_option maxRecDepth 100000 in
theorem c_X6_turnInto (l : Launch) (D : va_G) (Zk : yK) (ca : Nat → ClassId) (T : Nat → Int → Int) (G : Nat → Int → Nat) (u : Int) (ad : Nat → Nat) (w : yW) (hC : CW ca T G u ad w) (k : Int) (asked : Int) (kind : Int) (year : Int) (n : Int)  (hk : xr k) (hasked : xr asked) (hkind : xr kind) (hyear : xr year) (hn : xr n) : yC l D Zk ca yX6_turnInto cX6_turnInto 8 (some .boolean) r_c_X6_turnInto [.ref (ad 4), .int (iI k), .int (iI asked), .int (iI kind), .int (iI year), .int (iI n)] w (vI w (fun z => (z = 1 ∧ (True)) ∨ (z = 0 ∧ (True)))) := by
  refine yC.of2 "WindWords$Scales" (by decide) rfl (Nat.le_of_ble_eq_true rfl) ?_
  intro p e s m args below meth c A ls Qf B hnm h hl hQ
  have hl : lv_has ls 8 [(0, .ref (ad 4)), (1, .int (iI k)), (2, .int (iI asked)), (3, .int (iI kind)), (4, .int (iI year)), (5, .int (iI n))] := hl
  have hs := pi_s (CW.pi hC)
  refine lv_aload_n B.1 B.2.1 dX6_turnInto_0 rfl (lv_at hl 0 rfl) ?_
  refine lv_aload_n B.1 B.2.1 dX6_turnInto_1 rfl (lv_at hl 0 rfl) ?_
  refine y_getR B h kX6 4 (CW.f hC 4 _ rfl) 3 (b := ad 8) rfl m_189 (by decide) dX6_turnInto_2 ?_
  refine lv_aload_n B.1 B.2.1 dX6_turnInto_5 rfl (lv_at hl 0 rfl) ?_
  refine lv_iload B.1 B.2.1 dX6_turnInto_6 (lv_at hl 4 rfl) ?_
  refine y_cV B h kX6 4 (CW.f hC 4 _ rfl) k_X6_ofYear rfl (c_X6_ofYear l D Zk ca T G u ad _ hC year  (by omega)) m_961 rfl (by decide) hl.1 [.ref (ad 8), .ref (ad 4)] (Nat.le_of_ble_eq_true rfl) rfl dX6_turnInto_8 (fun r w1 hq H locs h => ?_)
  obtain ⟨rfl, z1, rfl, hz1⟩ := hq
  show W p l e r_c_X6_turnInto s m args below meth c _ _ 0 0 Qf (F0 m 11 ls [.int (iI z1), .ref (ad 8), .ref (ad 4)])
  refine lv_iload_n B.1 B.2.1 dX6_turnInto_11 rfl (lv_at hl 3 rfl) ?_
  refine x_iconst B dX6_turnInto_12 ?_
  refine lv_iload B.1 B.2.1 dX6_turnInto_13 (lv_at hl 4 rfl) ?_
  refine y_cV B h kX6 4 (CW.f hC 4 _ rfl) k_X6_fillRow rfl (c_X6_fillRow l D Zk ca T G u ad _ hC z1 kind 0 year (ad 8) 8 (CW.f hC 8 _ rfl) (by omega) (by omega) (by omega) (by omega)) m_962 rfl (by decide) hl.1 [] (Nat.le_of_ble_eq_true rfl) rfl dX6_turnInto_15 (fun r w1 hq H locs h => ?_)
  obtain ⟨rfl, rfl⟩ := hq
  show W p l e r_c_X6_turnInto s m args below meth c _ _ 0 0 Qf (F0 m 18 ls [])
  refine lv_aload_n B.1 B.2.1 dX6_turnInto_18 rfl (lv_at hl 0 rfl) ?_
  refine lv_aload_n B.1 B.2.1 dX6_turnInto_19 rfl (lv_at hl 0 rfl) ?_
  refine y_getR B h kX6 4 (CW.f hC 4 _ rfl) 4 (b := ad 9) rfl m_190 (by decide) dX6_turnInto_20 ?_
  refine lv_iload_n B.1 B.2.1 dX6_turnInto_23 rfl (lv_at hl 1 rfl) ?_
  refine lv_iload_n B.1 B.2.1 dX6_turnInto_24 rfl (lv_at hl 3 rfl) ?_
  refine x_iconst B dX6_turnInto_25 ?_
  refine lv_iload_n B.1 B.2.1 dX6_turnInto_26 rfl (lv_at hl 2 rfl) ?_
  refine y_cV B h kX6 4 (CW.f hC 4 _ rfl) k_X6_fillRow rfl (c_X6_fillRow l D Zk ca T G u ad _ hC k kind 0 asked (ad 9) 9 (CW.f hC 9 _ rfl) (by omega) (by omega) (by omega) (by omega)) m_962 rfl (by decide) hl.1 [] (Nat.le_of_ble_eq_true rfl) rfl dX6_turnInto_27 (fun r w1 hq H locs h => ?_)
  obtain ⟨rfl, rfl⟩ := hq
  show W p l e r_c_X6_turnInto s m args below meth c _ _ 0 0 Qf (F0 m 30 ls [])
  refine x_iconst B dX6_turnInto_30 ?_
  refine lv_istore (lv' := [(6, .int (iI 0)), (0, .ref (ad 4)), (1, .int (iI k)), (2, .int (iI asked)), (3, .int (iI kind)), (4, .int (iI year)), (5, .int (iI n))]) B.1 B.2.1 dX6_turnInto_31 hl (by decide) rfl (fun ls hl => ?_)
  have loop33 : ∀ (n33 : Nat) (i : Int), (0 ≤ i ∧ i ≤ 13) → ((13 - i : Int)).toNat < n33 → ∀ (H : Heap) (locs : List Loc) (ls : Array Slot), yH D Zk A s w H locs → lv_has ls 8 [(6, .int (iI i)), (0, .ref (ad 4)), (5, .int (iI n))] → W p l e r_c_X6_turnInto s m args below meth c H locs 0 0 Qf (F0 m 33 ls []) := by
    intro n33
    induction n33 with
    | zero =>
      intro i h1 hm33 H locs ls h hl
      exact absurd hm33 (Nat.not_lt_zero _)
    | succ n33 ih33 =>
      intro i h1 hm33 H locs ls h hl
      refine lv_iload B.1 B.2.1 dX6_turnInto_33 (lv_at hl 0 rfl) ?_
      refine lv_aload_n B.1 B.2.1 dX6_turnInto_35 rfl (lv_at hl 1 rfl) ?_
      refine y_getR B h kX6 4 (CW.f hC 4 _ rfl) 5 (b := ad 10) rfl m_191 (by decide) dX6_turnInto_36 ?_
      refine y_alenI B h 10 0 (CW.f hC 10 _ rfl) rfl dX6_turnInto_39 ?_
      refine x_icmp_ge B (by omega) (tgt := 57) dX6_turnInto_40 (by decide) (fun c2 => ?_) (fun c2 => ?_)
      · refine x_iconst B dX6_turnInto_57 ?_
        refine lv_istore (lv' := [(6, .int (iI 0)), (0, .ref (ad 4)), (5, .int (iI n))]) B.1 B.2.1 dX6_turnInto_58 hl (by decide) rfl (fun ls hl => ?_)
        refine x_iconst B dX6_turnInto_60 ?_
        refine lv_istore (lv' := [(7, .int (iI 0)), (6, .int (iI 0)), (0, .ref (ad 4)), (5, .int (iI n))]) B.1 B.2.1 dX6_turnInto_61 hl (by decide) rfl (fun ls hl => ?_)
        have loop63 : ∀ (n63 : Nat) (t : Int) (i : Int), (0 ≤ t ∧ t ≤ i) → (0 ≤ i ∧ i ≤ 100) → ((100 - i : Int)).toNat < n63 → ∀ (H : Heap) (locs : List Loc) (ls : Array Slot), yH D Zk A s w H locs → lv_has ls 8 [(7, .int (iI i)), (6, .int (iI t)), (0, .ref (ad 4)), (5, .int (iI n))] → W p l e r_c_X6_turnInto s m args below meth c H locs 0 0 Qf (F0 m 63 ls []) := by
          intro n63
          induction n63 with
          | zero =>
            intro t i h0 h1 hm63 H locs ls h hl
            exact absurd hm63 (Nat.not_lt_zero _)
          | succ n63 ih63 =>
            intro t i h0 h1 hm63 H locs ls h hl
            refine lv_iload B.1 B.2.1 dX6_turnInto_63 (lv_at hl 0 rfl) ?_
            refine x_bipush B (by decide) dX6_turnInto_65 ?_
            refine x_icmp_ge B (by omega) (tgt := 122) dX6_turnInto_67 (by decide) (fun c3 => ?_) (fun c3 => ?_)
            · refine lv_iload B.1 B.2.1 dX6_turnInto_122 (lv_at hl 1 rfl) ?_
              refine x_if_ne B (by omega) (tgt := 129) dX6_turnInto_124 (by decide) (fun c4 => ?_) (fun c4 => ?_)
              · refine lv_aload_n B.1 B.2.1 dX6_turnInto_129 rfl (lv_at hl 2 rfl) ?_
                refine lv_iload B.1 B.2.1 dX6_turnInto_130 (lv_at hl 1 rfl) ?_
                refine y_cV B h kX6 4 (CW.f hC 4 _ rfl) k_X6_tellTurned rfl (c_X6_tellTurned l D Zk ca T G u ad _ hC t  (by omega)) m_963 rfl (by decide) hl.1 [] (Nat.le_of_ble_eq_true rfl) rfl dX6_turnInto_132 (fun r w1 hq H locs h => ?_)
                obtain ⟨rfl, rfl⟩ := hq
                show W p l e r_c_X6_turnInto s m args below meth c _ _ 0 0 Qf (F0 m 135 ls [])
                refine x_iconst B dX6_turnInto_135 ?_
                refine y_rz B hQ h (by decide) (by decide) dX6_turnInto_136 ?_
                exact ⟨rfl, _, rfl, Or.inl ⟨rfl, (by first | omega | trivial | assumption)⟩⟩
              · refine x_iconst B dX6_turnInto_127 ?_
                refine y_rz B hQ h (by decide) (by decide) dX6_turnInto_128 ?_
                exact ⟨rfl, _, rfl, Or.inr ⟨rfl, (by first | omega | trivial | assumption)⟩⟩
            · refine lv_aload_n B.1 B.2.1 dX6_turnInto_70 rfl (lv_at hl 2 rfl) ?_
              refine y_getR B h kX6 4 (CW.f hC 4 _ rfl) 3 (b := ad 8) rfl m_189 (by decide) dX6_turnInto_71 ?_
              refine lv_iload B.1 B.2.1 dX6_turnInto_74 (lv_at hl 0 rfl) ?_
              refine y_ialdG B h 8 (CW.f hC 8 _ rfl) (by omega) dX6_turnInto_76 (fun z5 z5a z5b => ?_)
              refine lv_iload B.1 B.2.1 dX6_turnInto_77 (lv_at hl 3 rfl) ?_
              refine x_icmp_ne B (by omega) (tgt := 116) dX6_turnInto_79 (by decide) (fun c6 => ?_) (fun c6 => ?_)
              · refine lv_iinc (v := iI (i + 1)) (lv' := [(7, .int (iI (i + 1))), (6, .int (iI t)), (0, .ref (ad 4)), (5, .int (iI n))]) B.1 B.2.1 dX6_turnInto_116 hl (k := 0) rfl (iI_add _ _) (by decide) rfl (fun ls hl => ?_)
                refine lv_goto (tgt := 63) B.1 B.2.1 dX6_turnInto_119 (by decide) ?_
                exact ih63 t ((i + 1)) (by omega) (by omega) (by omega) _ _ _ h (lv_sub hl [0, 1, 2, 3] rfl)
              · refine lv_aload_n B.1 B.2.1 dX6_turnInto_82 rfl (lv_at hl 2 rfl) ?_
                refine y_getR B h kX6 4 (CW.f hC 4 _ rfl) 4 (b := ad 9) rfl m_190 (by decide) dX6_turnInto_83 ?_
                refine lv_iload B.1 B.2.1 dX6_turnInto_86 (lv_at hl 0 rfl) ?_
                refine y_ialdG B h 9 (CW.f hC 9 _ rfl) (by omega) dX6_turnInto_88 (fun z7 z7a z7b => ?_)
                refine x_bipush B (by decide) dX6_turnInto_89 ?_
                refine y_cSN (host := "WindWords") B h k_X11_within (c_X11_within l D Zk ca _ z7 12  (by omega) (by omega)) (by decide) rfl (by decide) hl.1 [] (Nat.le_of_ble_eq_true rfl) rfl dX6_turnInto_91 (fun r w1 hq H locs h => ?_)
                obtain ⟨rfl, _, rfl, ⟨rfl, b8⟩ | ⟨rfl, b8⟩⟩ := hq
                · show W p l e r_c_X6_turnInto s m args below meth c _ _ 0 0 Qf (F0 m 94 ls [.int (iI 1)])
                  refine x_if_eq B (by omega) (tgt := 116) dX6_turnInto_94 (by decide) (fun c9 => ?_) (fun c9 => ?_)
                  · exact absurd c9 (by omega)
                  · refine lv_aload_n B.1 B.2.1 dX6_turnInto_97 rfl (lv_at hl 2 rfl) ?_
                    refine y_getR B h kX6 4 (CW.f hC 4 _ rfl) 5 (b := ad 10) rfl m_191 (by decide) dX6_turnInto_98 ?_
                    refine lv_aload_n B.1 B.2.1 dX6_turnInto_101 rfl (lv_at hl 2 rfl) ?_
                    refine y_getR B h kX6 4 (CW.f hC 4 _ rfl) 4 (b := ad 9) rfl m_190 (by decide) dX6_turnInto_102 ?_
                    refine lv_iload B.1 B.2.1 dX6_turnInto_105 (lv_at hl 0 rfl) ?_
                    refine y_ialdG B h 9 (CW.f hC 9 _ rfl) (by omega) dX6_turnInto_107 (fun z10 z10a z10b => ?_)
                    refine lv_dup2_11 B.1 B.2.1 dX6_turnInto_108 rfl rfl ?_
                    refine y_iald B h 10 (CW.f hC 10 _ rfl) (by omega) dX6_turnInto_109 (fun fz11 hfz11 => ?_)
                    refine x_name (fun z11 hz11 ez11 => ?_)
                    refine x_iconst B dX6_turnInto_110 ?_
                    refine x_iadd B dX6_turnInto_111 ?_
                    refine y_iastS B h 10 (CW.f hC 10 _ rfl) (by omega) (fun _ _ => trivial) dX6_turnInto_112 (fun H locs h => ?_)
                    refine lv_iinc (v := iI (t + 1)) (lv' := [(6, .int (iI (t + 1))), (7, .int (iI i)), (0, .ref (ad 4)), (5, .int (iI n))]) B.1 B.2.1 dX6_turnInto_113 hl (k := 1) rfl (iI_add _ _) (by decide) rfl (fun ls hl => ?_)
                    refine lv_iinc (v := iI (i + 1)) (lv' := [(7, .int (iI (i + 1))), (6, .int (iI (t + 1))), (0, .ref (ad 4)), (5, .int (iI n))]) B.1 B.2.1 dX6_turnInto_116 hl (k := 1) rfl (iI_add _ _) (by decide) rfl (fun ls hl => ?_)
                    refine lv_goto (tgt := 63) B.1 B.2.1 dX6_turnInto_119 (by decide) ?_
                    exact ih63 ((t + 1)) ((i + 1)) (by omega) (by omega) (by omega) _ _ _ h (lv_sub hl [0, 1, 2, 3] rfl)
                · show W p l e r_c_X6_turnInto s m args below meth c _ _ 0 0 Qf (F0 m 94 ls [.int (iI 0)])
                  refine x_if_eq B (by omega) (tgt := 116) dX6_turnInto_94 (by decide) (fun c12 => ?_) (fun c12 => ?_)
                  · refine lv_iinc (v := iI (i + 1)) (lv' := [(7, .int (iI (i + 1))), (6, .int (iI t)), (0, .ref (ad 4)), (5, .int (iI n))]) B.1 B.2.1 dX6_turnInto_116 hl (k := 0) rfl (iI_add _ _) (by decide) rfl (fun ls hl => ?_)
                    refine lv_goto (tgt := 63) B.1 B.2.1 dX6_turnInto_119 (by decide) ?_
                    exact ih63 t ((i + 1)) (by omega) (by omega) (by omega) _ _ _ h (lv_sub hl [0, 1, 2, 3] rfl)
                  · exact absurd c12 (by omega)
        exact loop63 (((100 - 0 : Int)).toNat + 1) 0 0 (by omega) (by omega) (Nat.lt_succ_self _) _ _ _ h (lv_sub hl [0, 1, 2, 3] rfl)
      · refine lv_aload_n B.1 B.2.1 dX6_turnInto_43 rfl (lv_at hl 1 rfl) ?_
        refine y_getR B h kX6 4 (CW.f hC 4 _ rfl) 5 (b := ad 10) rfl m_191 (by decide) dX6_turnInto_44 ?_
        refine lv_iload B.1 B.2.1 dX6_turnInto_47 (lv_at hl 0 rfl) ?_
        refine x_iconst B dX6_turnInto_49 ?_
        refine y_iastS B h 10 (CW.f hC 10 _ rfl) (by omega) (fun _ _ => trivial) dX6_turnInto_50 (fun H locs h => ?_)
        refine lv_iinc (v := iI (i + 1)) (lv' := [(6, .int (iI (i + 1))), (0, .ref (ad 4)), (5, .int (iI n))]) B.1 B.2.1 dX6_turnInto_51 hl (k := 0) rfl (iI_add _ _) (by decide) rfl (fun ls hl => ?_)
        refine lv_goto (tgt := 33) B.1 B.2.1 dX6_turnInto_54 (by decide) ?_
        exact ih33 ((i + 1)) (by omega) (by omega) _ _ _ h (lv_sub hl [0, 1, 2] rfl)
  exact loop33 (((13 - 0 : Int)).toNat + 1) 0 (by omega) (Nat.lt_succ_self _) _ _ _ h (lv_sub hl [0, 1, 6] rfl)
abbrev r_c_X6_add : Room := { frames := 0, cells := 0, slots := 0, locals := 0 }
set_option maxHeartbeats 4000000 in
set_option maxRecDepth 100000 in
theorem c_X6_add (l : Launch) (D : va_G) (Zk : yK) (ca : Nat → ClassId) (T : Nat → Int → Int) (G : Nat → Int → Nat) (u : Int) (ad : Nat → Nat) (w : yW) (hC : CW ca T G u ad w) (j : Int) (year : Int)  (hj : 0 ≤ j ∧ j < u) (hyear : xr year) : yC l D Zk ca yX6_add cX6_add 3 (some .int) r_c_X6_add [.ref (ad 4), .ref (G 6 j), .int (iI year)] w (vI w (fun z => -1 ≤ z ∧ z ≤ 7)) := by
  refine yC.of2 "WindWords$Scales" (by decide) rfl (Nat.le_of_ble_eq_true rfl) ?_
  intro p e s m args below meth c A ls Qf B hnm h hl hQ
  have hl : lv_has ls 3 [(0, .ref (ad 4)), (1, .ref (G 6 j)), (2, .int (iI year))] := hl
  have hs := pi_s (CW.pi hC)
  have fo1 := CW.ru hC j (by omega)
  refine lv_aload_n B.1 B.2.1 dX6_add_0 rfl (lv_at hl 0 rfl) ?_
  obtain ⟨z2, z2a, z2b, h⟩ := yH.pin h (CW.f hC 4 _ rfl) 7 (lo := 0) (hi := 8) rfl
  have h : yH D Zk A s ((wu w 4 (ad 4, xO 6 [fR (ad 5), fR (ad 6), fR (ad 7), fR (ad 8), fR (ad 9), fR (ad 10), fR (ad 11), fX z2]))) _ _ := h
  refine y_getX B h kX6 4 wu_eq 7 (z := z2) rfl m_194 (by decide) dX6_add_1 ?_
  refine x_bipush B (by decide) dX6_add_4 ?_
  refine x_icmp_lt B (by omega) (tgt := 11) dX6_add_6 (by decide) (fun c3 => ?_) (fun c3 => ?_)
  · refine lv_aload_n B.1 B.2.1 dX6_add_11 rfl (lv_at hl 0 rfl) ?_
    refine y_getR B h kX6 4 wu_eq 0 (b := ad 5) rfl m_186 (by decide) dX6_add_12 ?_
    refine lv_aload_n B.1 B.2.1 dX6_add_15 rfl (lv_at hl 0 rfl) ?_
    refine y_getX B h kX6 4 wu_eq 7 (z := z2) rfl m_194 (by decide) dX6_add_16 ?_
    refine lv_aload_n B.1 B.2.1 dX6_add_19 rfl (lv_at hl 1 rfl) ?_
    refine y_qastS B h 5 6 kX5 rfl (wu_at (CW.f hC 5 _ rfl) (by decide)) (by omega) (wu_at fo1.1 (by omega)) (gU_up (by omega)) dX6_add_20 (fun H locs h => ?_)
    refine lv_aload_n B.1 B.2.1 dX6_add_21 rfl (lv_at hl 0 rfl) ?_
    refine y_getR B h kX6 4 wu_eq 1 (b := ad 6) rfl m_187 (by decide) dX6_add_22 ?_
    refine lv_aload_n B.1 B.2.1 dX6_add_25 rfl (lv_at hl 0 rfl) ?_
    refine y_getX B h kX6 4 wu_eq 7 (z := z2) rfl m_194 (by decide) dX6_add_26 ?_
    refine lv_iload_n B.1 B.2.1 dX6_add_29 rfl (lv_at hl 2 rfl) ?_
    refine y_iastS B h 6 (wu_at (CW.f hC 6 _ rfl) (by decide)) (by omega) (fun _ _ => trivial) dX6_add_30 (fun H locs h => ?_)
    refine lv_aload_n B.1 B.2.1 dX6_add_31 rfl (lv_at hl 0 rfl) ?_
    refine lv_dup B.1 B.2.1 dX6_add_32 rfl ?_
    refine y_getX B h kX6 4 wu_eq 7 (z := z2) rfl m_194 (by decide) dX6_add_33 ?_
    refine x_iconst B dX6_add_36 ?_
    refine x_iadd B dX6_add_37 ?_
    refine y_put B h kX6 4 wu_eq 7 (Nat.le_of_ble_eq_true rfl) (P' := fX (z2 + 1)) m_194 (by decide) rfl rfl rfl rfl dX6_add_38 (fun H locs h => ?_)
    rw [wu_wu] at h
    have h : yH D Zk A s ((wu w 4 (ad 4, xO 6 [fR (ad 5), fR (ad 6), fR (ad 7), fR (ad 8), fR (ad 9), fR (ad 10), fR (ad 11), fX (z2 + 1)]))) _ _ := h
    refine lv_aload_n B.1 B.2.1 dX6_add_41 rfl (lv_at hl 0 rfl) ?_
    refine y_getX B h kX6 4 wu_eq 7 (z := (z2 + 1)) rfl m_194 (by decide) dX6_add_42 ?_
    refine x_iconst B dX6_add_45 ?_
    refine x_isub B dX6_add_46 ?_
    have h : yH D Zk A s w _ _ := yH.unpin h (CW.f hC 4 _ rfl) (xO_le (fLe_cons (fun _ x => x) (fLe_cons (fun _ x => x) (fLe_cons (fun _ x => x) (fLe_cons (fun _ x => x) (fLe_cons (fun _ x => x) (fLe_cons (fun _ x => x) (fLe_cons (fun _ x => x) (fLe_cons (fX_G (by omega)) fLe_nil)))))))))
    refine y_ri B hQ h (by decide) dX6_add_47 ?_
    exact ⟨rfl, _, rfl, (by first | omega | trivial | assumption)⟩
  · refine x_iconst B dX6_add_9 ?_
    have h : yH D Zk A s w _ _ := yH.unpin h (CW.f hC 4 _ rfl) (xO_le (fLe_cons (fun _ x => x) (fLe_cons (fun _ x => x) (fLe_cons (fun _ x => x) (fLe_cons (fun _ x => x) (fLe_cons (fun _ x => x) (fLe_cons (fun _ x => x) (fLe_cons (fun _ x => x) (fLe_cons (fX_G (by omega)) fLe_nil)))))))))
    refine y_ri B hQ h (by decide) dX6_add_10 ?_
    exact ⟨rfl, _, rfl, (by first | omega | trivial | assumption)⟩
