def FAR (a b : Int) : Int := max (max (a % 8 - b % 8) (-(a % 8 - b % 8))) (max (a / 8 - b / 8) (-(a / 8 - b / 8)))
/-- reading j is another ship's, on the same watch, within sight of reading k -/
abbrev SEE (T : Nat → Int → Int) (k j : Int) : Prop := T 5 j = T 5 k ∧ T 4 j ≠ T 4 k ∧ FAR (T 6 k) (T 6 j) ≤ T 0 4
theorem k_X11_within : xMS yX11_within cX11_within 2 (some .boolean) 2 := ⟨m_433, m_432, m_95, ⟨by decide +kernel, by decide +kernel, by decide +kernel⟩⟩
theorem k_X0_hasOfficer : xMV yX0_hasOfficer cX0_hasOfficer 2 (some .boolean) 1 := ⟨m_437, m_435, m_436, m_96, ⟨by decide +kernel, by decide +kernel, by decide +kernel⟩⟩
theorem k_X7_officerOn : xMV yX7_officerOn cX7_officerOn 2 (some .int) 1 := ⟨m_841, m_839, m_840, m_105, ⟨by decide +kernel, by decide +kernel, by decide +kernel⟩⟩
theorem k_X0_readingAt : xMV yX0_readingAt cX0_readingAt 2 (some (.object "WindWords$Reading")) 1 := ⟨m_833, m_831, m_832, m_96, ⟨by decide +kernel, by decide +kernel, by decide +kernel⟩⟩
theorem k_X4_isMans : xMV yX4_isMans cX4_isMans 1 (some .boolean) 0 := ⟨m_855, m_853, m_854, m_107, ⟨by decide +kernel, by decide +kernel, by decide +kernel⟩⟩
theorem k_X0_mansAt : xMV yX0_mansAt cX0_mansAt 3 (some (.object "WindWords$Reading")) 1 := ⟨m_983, m_981, m_982, m_96, ⟨by decide +kernel, by decide +kernel, by decide +kernel⟩⟩
theorem k_X4_writer : xMV yX4_writer cX4_writer 1 (some .int) 0 := ⟨m_837, m_835, m_836, m_107, ⟨by decide +kernel, by decide +kernel, by decide +kernel⟩⟩
theorem k_X0_isTrusted : xMV yX0_isTrusted cX0_isTrusted 2 (some .boolean) 1 := ⟨m_989, m_987, m_988, m_96, ⟨by decide +kernel, by decide +kernel, by decide +kernel⟩⟩
abbrev r_c_X11_within : Room := { frames := 0, cells := 0, slots := 0, locals := 0 }
set_option maxHeartbeats 4000000 in
set_option maxRecDepth 100000 in
theorem c_X11_within (l : Launch) (D : va_G) (Zk : yK) (ca : Nat → ClassId) (w : yW) (x : Int) (most : Int)  (hx : xr x) (hmost : xr most) : yC l D Zk ca yX11_within cX11_within 2 (some .boolean) r_c_X11_within [.int (iI x), .int (iI most)] w (vI w (fun z => (z = 1 ∧ (0 ≤ x ∧ x ≤ most)) ∨ (z = 0 ∧ (¬ (0 ≤ x ∧ x ≤ most))))) := by
  refine yC.of2 "WindWords" (by decide) rfl (Nat.le_of_ble_eq_true rfl) ?_
  intro p e s m args below meth c A ls Qf B hnm h hl hQ
  have hl : lv_has ls 2 [(0, .int (iI x)), (1, .int (iI most))] := hl
  refine lv_iload_n B.1 B.2.1 dX11_within_0 rfl (lv_at hl 0 rfl) ?_
  refine x_if_lt B (by omega) (tgt := 13) dX11_within_1 (by decide) (fun c1 => ?_) (fun c1 => ?_)
  · refine x_iconst B dX11_within_13 ?_
    refine y_rz B hQ h (by decide) (by decide) dX11_within_14 ?_
    exact ⟨rfl, _, rfl, Or.inr ⟨rfl, (by first | omega | trivial | assumption)⟩⟩
  · refine lv_iload_n B.1 B.2.1 dX11_within_4 rfl (lv_at hl 0 rfl) ?_
    refine lv_iload_n B.1 B.2.1 dX11_within_5 rfl (lv_at hl 1 rfl) ?_
    refine x_icmp_gt B (by omega) (tgt := 13) dX11_within_6 (by decide) (fun c2 => ?_) (fun c2 => ?_)
    · refine x_iconst B dX11_within_13 ?_
      refine y_rz B hQ h (by decide) (by decide) dX11_within_14 ?_
      exact ⟨rfl, _, rfl, Or.inr ⟨rfl, (by first | omega | trivial | assumption)⟩⟩
    · refine x_iconst B dX11_within_9 ?_
      refine lv_goto (tgt := 14) B.1 B.2.1 dX11_within_10 (by decide) ?_
      refine y_rz B hQ h (by decide) (by decide) dX11_within_14 ?_
      exact ⟨rfl, _, rfl, Or.inl ⟨rfl, (by first | omega | trivial | assumption)⟩⟩
abbrev r_c_X11_held : Room := { frames := 1, cells := 0, slots := 0, locals := 21 }
set_option maxHeartbeats 4000000 in
set_option maxRecDepth 100000 in
theorem c_X11_held (l : Launch) (D : va_G) (Zk : yK) (ca : Nat → ClassId) (w : yW) (x : Int)  (hx : xr x) : yC l D Zk ca yX11_held cX11_held 1 (some .int) r_c_X11_held [.int (iI x)] w (vI w (fun z => z = max 0 (min 12 x))) := by
  refine yC.of2 "WindWords" (by decide) rfl (Nat.le_of_ble_eq_true rfl) ?_
  intro p e s m args below meth c A ls Qf B hnm h hl hQ
  have hl : lv_has ls 1 [(0, .int (iI x))] := hl
  refine x_iconst B dX11_held_0 ?_
  refine x_bipush B (by decide) dX11_held_1 ?_
  refine lv_iload_n B.1 B.2.1 dX11_held_3 rfl (lv_at hl 0 rfl) ?_
  refine x_min B (by omega) m_924 m_586 m_106 m_587 hl.1 (Nat.le_of_ble_eq_true rfl) (by decide) dX11_held_4 ?_
  refine x_max B (by omega) m_872 m_454 m_106 m_455 hl.1 (Nat.le_of_ble_eq_true rfl) (by decide) dX11_held_7 ?_
  refine y_ri B hQ h (by decide) dX11_held_10 ?_
  exact ⟨rfl, _, rfl, (by first | omega | trivial | assumption)⟩
abbrev r_c_X11_far : Room := { frames := 1, cells := 0, slots := 0, locals := 21 }
set_option maxHeartbeats 4000000 in
set_option maxRecDepth 100000 in
theorem c_X11_far (l : Launch) (D : va_G) (Zk : yK) (ca : Nat → ClassId) (w : yW) (a : Int) (b : Int)  (ha : 0 ≤ a ∧ a ≤ 63) (hb : 0 ≤ b ∧ b ≤ 63) : yC l D Zk ca yX11_far cX11_far 2 (some .int) r_c_X11_far [.int (iI a), .int (iI b)] w (vI w (fun z => z = FAR a b ∧ 0 ≤ z ∧ z ≤ 7)) := by
  refine yC.of2 "WindWords" (by decide) rfl (Nat.le_of_ble_eq_true rfl) ?_
  intro p e s m args below meth c A ls Qf B hnm h hl hQ
  have hl : lv_has ls 2 [(0, .int (iI a)), (1, .int (iI b))] := hl
  refine lv_iload_n B.1 B.2.1 dX11_far_0 rfl (lv_at hl 0 rfl) ?_
  refine x_bipush B (by decide) dX11_far_1 ?_
  refine x_irem B (by omega) dX11_far_3 ?_
  refine lv_iload_n B.1 B.2.1 dX11_far_4 rfl (lv_at hl 1 rfl) ?_
  refine x_bipush B (by decide) dX11_far_5 ?_
  refine x_irem B (by omega) dX11_far_7 ?_
  refine x_isub B dX11_far_8 ?_
  refine x_abs B (by omega) m_869 m_870 m_106 m_871 hl.1 (Nat.le_of_ble_eq_true rfl) (by decide) dX11_far_9 ?_
  refine lv_iload_n B.1 B.2.1 dX11_far_12 rfl (lv_at hl 0 rfl) ?_
  refine x_bipush B (by decide) dX11_far_13 ?_
  refine x_idiv B (by omega) dX11_far_15 ?_
  refine lv_iload_n B.1 B.2.1 dX11_far_16 rfl (lv_at hl 1 rfl) ?_
  refine x_bipush B (by decide) dX11_far_17 ?_
  refine x_idiv B (by omega) dX11_far_19 ?_
  refine x_isub B dX11_far_20 ?_
  refine x_abs B (by omega) m_869 m_870 m_106 m_871 hl.1 (Nat.le_of_ble_eq_true rfl) (by decide) dX11_far_21 ?_
  refine x_max B (by omega) m_872 m_454 m_106 m_455 hl.1 (Nat.le_of_ble_eq_true rfl) (by decide) dX11_far_24 ?_
  refine y_ri B hQ h (by decide) dX11_far_27 ?_
  exact ⟨rfl, _, rfl, rfl, by omega, by omega⟩
abbrev r_c_X11_leastWind : Room := { frames := 0, cells := 0, slots := 0, locals := 0 }
set_option maxHeartbeats 4000000 in
set_option maxRecDepth 100000 in
theorem c_X11_leastWind (l : Launch) (D : va_G) (Zk : yK) (ca : Nat → ClassId) (w : yW) (low : Int) (high : Int) (ar : Nat) (ir : Nat) (fr : w ir = some (ar, xAI (ca 0) 100 (gG 100 0 12))) (hlow : xr low) (hhigh : xr high) : yC l D Zk ca yX11_leastWind cX11_leastWind 4 (some .int) r_c_X11_leastWind [.ref ar, .int (iI low), .int (iI high)] w (vI w (fun z => -1 ≤ z ∧ z ≤ 99)) := by
  refine yC.of2 "WindWords" (by decide) rfl (Nat.le_of_ble_eq_true rfl) ?_
  intro p e s m args below meth c A ls Qf B hnm h hl hQ
  have hl : lv_has ls 4 [(0, .ref ar), (1, .int (iI low)), (2, .int (iI high))] := hl
  refine x_iconst B dX11_leastWind_0 ?_
  refine lv_istore_n (lv' := [(3, .int (iI 0)), (0, .ref ar), (1, .int (iI low)), (2, .int (iI high))]) B.1 B.2.1 dX11_leastWind_1 rfl hl (by decide) rfl (fun ls hl => ?_)
  have loop2 : ∀ (n2 : Nat) (i : Int), (0 ≤ i ∧ i ≤ 100) → ((100 - i : Int)).toNat < n2 → ∀ (H : Heap) (locs : List Loc) (ls : Array Slot), yH D Zk A s w H locs → lv_has ls 4 [(3, .int (iI i)), (0, .ref ar), (1, .int (iI low)), (2, .int (iI high))] → W p l e r_c_X11_leastWind s m args below meth c H locs 0 0 Qf (F0 m 2 ls []) := by
    intro n2
    induction n2 with
    | zero =>
      intro i h0 hm2 H locs ls h hl
      exact absurd hm2 (Nat.not_lt_zero _)
    | succ n2 ih2 =>
      intro i h0 hm2 H locs ls h hl
      refine lv_iload_n B.1 B.2.1 dX11_leastWind_2 rfl (lv_at hl 0 rfl) ?_
      refine lv_aload_n B.1 B.2.1 dX11_leastWind_3 rfl (lv_at hl 1 rfl) ?_
      refine y_alenI B h ir 0 fr rfl dX11_leastWind_4 ?_
      refine x_icmp_ge B (by omega) (tgt := 30) dX11_leastWind_5 (by decide) (fun c1 => ?_) (fun c1 => ?_)
      · refine x_iconst B dX11_leastWind_30 ?_
        refine y_ri B hQ h (by decide) dX11_leastWind_31 ?_
        exact ⟨rfl, _, rfl, (by first | omega | trivial | assumption)⟩
      · refine lv_aload_n B.1 B.2.1 dX11_leastWind_8 rfl (lv_at hl 1 rfl) ?_
        refine lv_iload_n B.1 B.2.1 dX11_leastWind_9 rfl (lv_at hl 0 rfl) ?_
        refine y_ialdG B h ir fr (by omega) dX11_leastWind_10 (fun z2 z2a z2b => ?_)
        refine lv_iload_n B.1 B.2.1 dX11_leastWind_11 rfl (lv_at hl 2 rfl) ?_
        refine x_icmp_lt B (by omega) (tgt := 24) dX11_leastWind_12 (by decide) (fun c3 => ?_) (fun c3 => ?_)
        · refine lv_iinc (v := iI (i + 1)) (lv' := [(3, .int (iI (i + 1))), (0, .ref ar), (1, .int (iI low)), (2, .int (iI high))]) B.1 B.2.1 dX11_leastWind_24 hl (k := 0) rfl (iI_add _ _) (by decide) rfl (fun ls hl => ?_)
          refine lv_goto (tgt := 2) B.1 B.2.1 dX11_leastWind_27 (by decide) ?_
          exact ih2 ((i + 1)) (by omega) (by omega) _ _ _ h (lv_sub hl [0, 1, 2, 3] rfl)
        · refine lv_aload_n B.1 B.2.1 dX11_leastWind_15 rfl (lv_at hl 1 rfl) ?_
          refine lv_iload_n B.1 B.2.1 dX11_leastWind_16 rfl (lv_at hl 0 rfl) ?_
          refine y_ialdG B h ir fr (by omega) dX11_leastWind_17 (fun z4 z4a z4b => ?_)
          refine lv_iload_n B.1 B.2.1 dX11_leastWind_18 rfl (lv_at hl 3 rfl) ?_
          refine x_icmp_gt B (by omega) (tgt := 24) dX11_leastWind_19 (by decide) (fun c5 => ?_) (fun c5 => ?_)
          · refine lv_iinc (v := iI (i + 1)) (lv' := [(3, .int (iI (i + 1))), (0, .ref ar), (1, .int (iI low)), (2, .int (iI high))]) B.1 B.2.1 dX11_leastWind_24 hl (k := 0) rfl (iI_add _ _) (by decide) rfl (fun ls hl => ?_)
            refine lv_goto (tgt := 2) B.1 B.2.1 dX11_leastWind_27 (by decide) ?_
            exact ih2 ((i + 1)) (by omega) (by omega) _ _ _ h (lv_sub hl [0, 1, 2, 3] rfl)
          · refine lv_iload_n B.1 B.2.1 dX11_leastWind_22 rfl (lv_at hl 0 rfl) ?_
            refine y_ri B hQ h (by decide) dX11_leastWind_23 ?_
            exact ⟨rfl, _, rfl, (by first | omega | trivial | assumption)⟩
  exact loop2 (((100 - 0 : Int)).toNat + 1) 0 (by omega) (Nat.lt_succ_self _) _ _ _ h (lv_sub hl [0, 1, 2, 3] rfl)
abbrev r_c_X11_greatestWind : Room := { frames := 0, cells := 0, slots := 0, locals := 0 }
set_option maxHeartbeats 4000000 in
set_option maxRecDepth 100000 in
theorem c_X11_greatestWind (l : Launch) (D : va_G) (Zk : yK) (ca : Nat → ClassId) (w : yW) (low : Int) (high : Int) (ar : Nat) (ir : Nat) (fr : w ir = some (ar, xAI (ca 0) 100 (gG 100 0 12))) (hlow : xr low) (hhigh : xr high) : yC l D Zk ca yX11_greatestWind cX11_greatestWind 4 (some .int) r_c_X11_greatestWind [.ref ar, .int (iI low), .int (iI high)] w (vI w (fun z => -1 ≤ z ∧ z ≤ 99)) := by
  refine yC.of2 "WindWords" (by decide) rfl (Nat.le_of_ble_eq_true rfl) ?_
  intro p e s m args below meth c A ls Qf B hnm h hl hQ
  have hl : lv_has ls 4 [(0, .ref ar), (1, .int (iI low)), (2, .int (iI high))] := hl
  refine lv_aload_n B.1 B.2.1 dX11_greatestWind_0 rfl (lv_at hl 0 rfl) ?_
  refine y_alenI B h ir 0 fr rfl dX11_greatestWind_1 ?_
  refine x_iconst B dX11_greatestWind_2 ?_
  refine x_isub B dX11_greatestWind_3 ?_
  refine lv_istore_n (lv' := [(3, .int (iI (100 - 1))), (0, .ref ar), (1, .int (iI low)), (2, .int (iI high))]) B.1 B.2.1 dX11_greatestWind_4 rfl hl (by decide) rfl (fun ls hl => ?_)
  have loop5 : ∀ (n5 : Nat) (i : Int), (-1 ≤ i ∧ i ≤ 99) → ((i + 1 : Int)).toNat < n5 → ∀ (H : Heap) (locs : List Loc) (ls : Array Slot), yH D Zk A s w H locs → lv_has ls 4 [(3, .int (iI i)), (0, .ref ar), (1, .int (iI low)), (2, .int (iI high))] → W p l e r_c_X11_greatestWind s m args below meth c H locs 0 0 Qf (F0 m 5 ls []) := by
    intro n5
    induction n5 with
    | zero =>
      intro i h0 hm5 H locs ls h hl
      exact absurd hm5 (Nat.not_lt_zero _)
    | succ n5 ih5 =>
      intro i h0 hm5 H locs ls h hl
      refine lv_iload_n B.1 B.2.1 dX11_greatestWind_5 rfl (lv_at hl 0 rfl) ?_
      refine x_if_lt B (by omega) (tgt := 31) dX11_greatestWind_6 (by decide) (fun c1 => ?_) (fun c1 => ?_)
      · refine x_iconst B dX11_greatestWind_31 ?_
        refine y_ri B hQ h (by decide) dX11_greatestWind_32 ?_
        exact ⟨rfl, _, rfl, (by first | omega | trivial | assumption)⟩
      · refine lv_aload_n B.1 B.2.1 dX11_greatestWind_9 rfl (lv_at hl 1 rfl) ?_
        refine lv_iload_n B.1 B.2.1 dX11_greatestWind_10 rfl (lv_at hl 0 rfl) ?_
        refine y_ialdG B h ir fr (by omega) dX11_greatestWind_11 (fun z2 z2a z2b => ?_)
        refine lv_iload_n B.1 B.2.1 dX11_greatestWind_12 rfl (lv_at hl 2 rfl) ?_
        refine x_icmp_lt B (by omega) (tgt := 25) dX11_greatestWind_13 (by decide) (fun c3 => ?_) (fun c3 => ?_)
        · refine lv_iinc (v := iI (i + (-1))) (lv' := [(3, .int (iI (i + (-1)))), (0, .ref ar), (1, .int (iI low)), (2, .int (iI high))]) B.1 B.2.1 dX11_greatestWind_25 hl (k := 0) rfl (iI_add _ _) (by decide) rfl (fun ls hl => ?_)
          refine lv_goto (tgt := 5) B.1 B.2.1 dX11_greatestWind_28 (by decide) ?_
          exact ih5 ((i + (-1))) (by omega) (by omega) _ _ _ h (lv_sub hl [0, 1, 2, 3] rfl)
        · refine lv_aload_n B.1 B.2.1 dX11_greatestWind_16 rfl (lv_at hl 1 rfl) ?_
          refine lv_iload_n B.1 B.2.1 dX11_greatestWind_17 rfl (lv_at hl 0 rfl) ?_
          refine y_ialdG B h ir fr (by omega) dX11_greatestWind_18 (fun z4 z4a z4b => ?_)
          refine lv_iload_n B.1 B.2.1 dX11_greatestWind_19 rfl (lv_at hl 3 rfl) ?_
          refine x_icmp_gt B (by omega) (tgt := 25) dX11_greatestWind_20 (by decide) (fun c5 => ?_) (fun c5 => ?_)
          · refine lv_iinc (v := iI (i + (-1))) (lv' := [(3, .int (iI (i + (-1)))), (0, .ref ar), (1, .int (iI low)), (2, .int (iI high))]) B.1 B.2.1 dX11_greatestWind_25 hl (k := 0) rfl (iI_add _ _) (by decide) rfl (fun ls hl => ?_)
            refine lv_goto (tgt := 5) B.1 B.2.1 dX11_greatestWind_28 (by decide) ?_
            exact ih5 ((i + (-1))) (by omega) (by omega) _ _ _ h (lv_sub hl [0, 1, 2, 3] rfl)
          · refine lv_iload_n B.1 B.2.1 dX11_greatestWind_23 rfl (lv_at hl 0 rfl) ?_
            refine y_ri B hQ h (by decide) dX11_greatestWind_24 ?_
            exact ⟨rfl, _, rfl, (by first | omega | trivial | assumption)⟩
  exact loop5 (((((100 - 1)) + 1 : Int)).toNat + 1) ((100 - 1)) (by omega) (Nat.lt_succ_self _) _ _ _ h (lv_sub hl [0, 1, 2, 3] rfl)
abbrev r_c_X11_refuse : Room := { frames := 0, cells := 0, slots := 0, locals := 0 }
set_option maxHeartbeats 4000000 in
set_option maxRecDepth 100000 in
theorem c_X11_refuse (l : Launch) (D : va_G) (Zk : yK) (ca : Nat → ClassId) (T : Nat → Int → Int) (G : Nat → Int → Nat) (u : Int) (ad : Nat → Nat) (w : yW) (hC : CW ca T G u ad w) (reason : Int) (answer : Int)  (hreason : 0 ≤ reason ∧ reason ≤ 2) (hanswer : xr answer) : yC l D Zk ca yX11_refuse cX11_refuse 3 (some .int) r_c_X11_refuse [.ref (ad 0), .int (iI reason), .int (iI answer)] w (vI w (fun z => z = answer)) := by
  refine yC.of2 "WindWords" (by decide) rfl (Nat.le_of_ble_eq_true rfl) ?_
  intro p e s m args below meth c A ls Qf B hnm h hl hQ
  have hl : lv_has ls 3 [(0, .ref (ad 0)), (1, .int (iI reason)), (2, .int (iI answer))] := hl
  have hs := pi_s (CW.pi hC)
  refine lv_aload_n B.1 B.2.1 dX11_refuse_0 rfl (lv_at hl 0 rfl) ?_
  refine y_getR B h kX11 0 (CW.f hC 0 _ rfl) 9 (b := ad 29) rfl m_370 (by decide) dX11_refuse_1 ?_
  refine lv_iload_n B.1 B.2.1 dX11_refuse_4 rfl (lv_at hl 1 rfl) ?_
  refine lv_dup2_11 B.1 B.2.1 dX11_refuse_5 rfl rfl ?_
  refine y_iald B h 29 (CW.f hC 29 _ rfl) (by omega) dX11_refuse_6 (fun fz1 hfz1 => ?_)
  refine x_name (fun z1 hz1 ez1 => ?_)
  refine x_iconst B dX11_refuse_7 ?_
  refine x_iadd B dX11_refuse_8 ?_
  refine y_iastS B h 29 (CW.f hC 29 _ rfl) (by omega) (fun _ _ => trivial) dX11_refuse_9 (fun H locs h => ?_)
  refine lv_iload_n B.1 B.2.1 dX11_refuse_10 rfl (lv_at hl 2 rfl) ?_
  refine y_ri B hQ h (by decide) dX11_refuse_11 ?_
  exact ⟨rfl, _, rfl, (by first | omega | trivial | assumption)⟩
abbrev r_c_X0_hasOfficer : Room := { frames := 1, cells := 0, slots := 0, locals := 21 }
set_option maxHeartbeats 4000000 in
set_option maxRecDepth 100000 in
theorem c_X0_hasOfficer (l : Launch) (D : va_G) (Zk : yK) (ca : Nat → ClassId) (T : Nat → Int → Int) (G : Nat → Int → Nat) (u : Int) (ad : Nat → Nat) (w : yW) (hC : CW ca T G u ad w) (o : Int)  (ho : xr o) : yC l D Zk ca yX0_hasOfficer cX0_hasOfficer 2 (some .boolean) r_c_X0_hasOfficer [.ref (ad 1), .int (iI o)] w (vI w (fun z => (z = 1 ∧ (0 ≤ o ∧ o < T 0 0)) ∨ (z = 0 ∧ (¬ (0 ≤ o ∧ o < T 0 0))))) := by
  refine yC.of2 "WindWords$Fleet" (by decide) rfl (Nat.le_of_ble_eq_true rfl) ?_
  intro p e s m args below meth c A ls Qf B hnm h hl hQ
  have hl : lv_has ls 2 [(0, .ref (ad 1)), (1, .int (iI o))] := hl
  have hs := pi_s (CW.pi hC)
  refine lv_iload_n B.1 B.2.1 dX0_hasOfficer_0 rfl (lv_at hl 1 rfl) ?_
  refine lv_aload_n B.1 B.2.1 dX0_hasOfficer_1 rfl (lv_at hl 0 rfl) ?_
  refine y_getX B h kX0 1 (CW.f hC 1 _ rfl) 2 (z := (T 0 0)) rfl m_136 (by decide) dX0_hasOfficer_2 ?_
  refine x_iconst B dX0_hasOfficer_5 ?_
  refine x_isub B dX0_hasOfficer_6 ?_
  refine y_cSN (host := "WindWords") B h k_X11_within (c_X11_within l D Zk ca _ o (((T 0 0) - 1))  (by omega) (by omega)) (by decide) rfl (by decide) hl.1 [] (Nat.le_of_ble_eq_true rfl) rfl dX0_hasOfficer_7 (fun r w1 hq H locs h => ?_)
  obtain ⟨rfl, _, rfl, ⟨rfl, b1⟩ | ⟨rfl, b1⟩⟩ := hq
  · show W p l e r_c_X0_hasOfficer s m args below meth c _ _ 0 0 Qf (F0 m 10 ls [.int (iI 1)])
    refine y_rz B hQ h (by decide) (by decide) dX0_hasOfficer_10 ?_
    exact ⟨rfl, _, rfl, Or.inl ⟨rfl, (by first | omega | trivial | assumption)⟩⟩
  · show W p l e r_c_X0_hasOfficer s m args below meth c _ _ 0 0 Qf (F0 m 10 ls [.int (iI 0)])
    refine y_rz B hQ h (by decide) (by decide) dX0_hasOfficer_10 ?_
    exact ⟨rfl, _, rfl, Or.inr ⟨rfl, (by first | omega | trivial | assumption)⟩⟩
abbrev r_c_X0_isTrusted : Room := { frames := 2, cells := 0, slots := 0, locals := 42 }
set_option maxHeartbeats 4000000 in
set_option maxRecDepth 100000 in
theorem c_X0_isTrusted (l : Launch) (D : va_G) (Zk : yK) (ca : Nat → ClassId) (T : Nat → Int → Int) (G : Nat → Int → Nat) (u : Int) (ad : Nat → Nat) (w : yW) (hC : CW ca T G u ad w) (o : Int)  (ho : xr o) : yC l D Zk ca yX0_isTrusted cX0_isTrusted 2 (some .boolean) r_c_X0_isTrusted [.ref (ad 1), .int (iI o)] w (vI w (fun z => (z = 1 ∧ (0 ≤ o ∧ o < T 0 0)) ∨ (z = 0 ∧ (True)))) := by
  refine yC.of2 "WindWords$Fleet" (by decide) rfl (Nat.le_of_ble_eq_true rfl) ?_
  intro p e s m args below meth c A ls Qf B hnm h hl hQ
  have hl : lv_has ls 2 [(0, .ref (ad 1)), (1, .int (iI o))] := hl
  have hs := pi_s (CW.pi hC)
  refine lv_aload_n B.1 B.2.1 dX0_isTrusted_0 rfl (lv_at hl 0 rfl) ?_
  refine lv_iload_n B.1 B.2.1 dX0_isTrusted_1 rfl (lv_at hl 1 rfl) ?_
  refine y_cV B h kX0 1 (CW.f hC 1 _ rfl) k_X0_hasOfficer rfl (c_X0_hasOfficer l D Zk ca T G u ad _ hC o  (by omega)) m_990 rfl (by decide) hl.1 [] (Nat.le_of_ble_eq_true rfl) rfl dX0_isTrusted_2 (fun r w1 hq H locs h => ?_)
  obtain ⟨rfl, _, rfl, ⟨rfl, b1⟩ | ⟨rfl, b1⟩⟩ := hq
  · show W p l e r_c_X0_isTrusted s m args below meth c _ _ 0 0 Qf (F0 m 5 ls [.int (iI 1)])
    refine x_if_eq B (by omega) (tgt := 23) dX0_isTrusted_5 (by decide) (fun c2 => ?_) (fun c2 => ?_)
    · exact absurd c2 (by omega)
    · refine lv_aload_n B.1 B.2.1 dX0_isTrusted_8 rfl (lv_at hl 0 rfl) ?_
      refine y_getG B h kX0 1 (CW.f hC 1 _ rfl) 3 (lo := (-2147483648)) (hi := 2147483647) rfl m_139 (by decide) dX0_isTrusted_9 (fun z3 z3a z3b => ?_)
      refine lv_iload_n B.1 B.2.1 dX0_isTrusted_12 rfl (lv_at hl 1 rfl) ?_
      refine lv_ishr B.1 B.2.1 dX0_isTrusted_13 ?_
      refine x_name (fun z4 hz4 ez4 => ?_)
      refine x_iconst B dX0_isTrusted_14 ?_
      refine lv_iand B.1 B.2.1 dX0_isTrusted_15 ?_
      obtain ⟨z5, z5a, z5b, ez5⟩ := and1_ex ((iI z4))
      refine x_iset ez5 ?_
      refine x_if_ne B (by omega) (tgt := 23) dX0_isTrusted_16 (by decide) (fun c6 => ?_) (fun c6 => ?_)
      · refine x_iconst B dX0_isTrusted_23 ?_
        refine y_rz B hQ h (by decide) (by decide) dX0_isTrusted_24 ?_
        exact ⟨rfl, _, rfl, Or.inr ⟨rfl, (by first | omega | trivial | assumption)⟩⟩
      · refine x_iconst B dX0_isTrusted_19 ?_
        refine lv_goto (tgt := 24) B.1 B.2.1 dX0_isTrusted_20 (by decide) ?_
        refine y_rz B hQ h (by decide) (by decide) dX0_isTrusted_24 ?_
        exact ⟨rfl, _, rfl, Or.inl ⟨rfl, (by first | omega | trivial | assumption)⟩⟩
  · show W p l e r_c_X0_isTrusted s m args below meth c _ _ 0 0 Qf (F0 m 5 ls [.int (iI 0)])
    refine x_if_eq B (by omega) (tgt := 23) dX0_isTrusted_5 (by decide) (fun c7 => ?_) (fun c7 => ?_)
    · refine x_iconst B dX0_isTrusted_23 ?_
      refine y_rz B hQ h (by decide) (by decide) dX0_isTrusted_24 ?_
      exact ⟨rfl, _, rfl, Or.inr ⟨rfl, (by first | omega | trivial | assumption)⟩⟩
    · exact absurd c7 (by omega)
abbrev r_c_X0_setTrusted : Room := { frames := 0, cells := 0, slots := 0, locals := 0 }
set_option maxHeartbeats 4000000 in
set_option maxRecDepth 100000 in
theorem c_X0_setTrusted (l : Launch) (D : va_G) (Zk : yK) (ca : Nat → ClassId) (T : Nat → Int → Int) (G : Nat → Int → Nat) (u : Int) (ad : Nat → Nat) (w : yW) (hC : CW ca T G u ad w) (o : Int) (b : Int)  (ho : xr o) (hb : xr b) : yC l D Zk ca yX0_setTrusted cX0_setTrusted 3 none r_c_X0_setTrusted [.ref (ad 1), .int (iI o), .int (iI b)] w (vV w) := by
  refine yC.of2 "WindWords$Fleet" (by decide) rfl (Nat.le_of_ble_eq_true rfl) ?_
  intro p e s m args below meth c A ls Qf B hnm h hl hQ
  have hl : lv_has ls 3 [(0, .ref (ad 1)), (1, .int (iI o)), (2, .int (iI b))] := hl
  have hs := pi_s (CW.pi hC)
  refine lv_aload_n B.1 B.2.1 dX0_setTrusted_0 rfl (lv_at hl 0 rfl) ?_
  refine lv_iload_n B.1 B.2.1 dX0_setTrusted_1 rfl (lv_at hl 2 rfl) ?_
  refine x_if_eq B (by omega) (tgt := 18) dX0_setTrusted_2 (by decide) (fun c1 => ?_) (fun c1 => ?_)
  · refine lv_aload_n B.1 B.2.1 dX0_setTrusted_18 rfl (lv_at hl 0 rfl) ?_
    refine y_getG B h kX0 1 (CW.f hC 1 _ rfl) 3 (lo := (-2147483648)) (hi := 2147483647) rfl m_139 (by decide) dX0_setTrusted_19 (fun z2 z2a z2b => ?_)
    refine x_iconst B dX0_setTrusted_22 ?_
    refine lv_iload_n B.1 B.2.1 dX0_setTrusted_23 rfl (lv_at hl 1 rfl) ?_
    refine lv_ishl B.1 B.2.1 dX0_setTrusted_24 ?_
    refine x_name (fun z3 hz3 ez3 => ?_)
    refine lv_ior B.1 B.2.1 dX0_setTrusted_25 ?_
    refine x_name (fun z4 hz4 ez4 => ?_)
    refine y_putS B h kX0 1 (CW.f hC 1 _ rfl) 3 (P := fG (-2147483648) 2147483647) rfl m_139 (by decide) ⟨_, rfl, by omega, by omega⟩ rfl rfl rfl dX0_setTrusted_26 (fun H locs h => ?_)
    refine y_rv B hQ h (by decide) dX0_setTrusted_29 ?_
    exact ⟨rfl, rfl⟩
  · refine lv_aload_n B.1 B.2.1 dX0_setTrusted_5 rfl (lv_at hl 0 rfl) ?_
    refine y_getG B h kX0 1 (CW.f hC 1 _ rfl) 3 (lo := (-2147483648)) (hi := 2147483647) rfl m_139 (by decide) dX0_setTrusted_6 (fun z5 z5a z5b => ?_)
    refine x_iconst B dX0_setTrusted_9 ?_
    refine lv_iload_n B.1 B.2.1 dX0_setTrusted_10 rfl (lv_at hl 1 rfl) ?_
    refine lv_ishl B.1 B.2.1 dX0_setTrusted_11 ?_
    refine x_name (fun z6 hz6 ez6 => ?_)
    refine x_iconst B dX0_setTrusted_12 ?_
    refine lv_ixor B.1 B.2.1 dX0_setTrusted_13 ?_
    refine x_name (fun z7 hz7 ez7 => ?_)
    refine lv_iand B.1 B.2.1 dX0_setTrusted_14 ?_
    refine x_name (fun z8 hz8 ez8 => ?_)
    refine lv_goto (tgt := 26) B.1 B.2.1 dX0_setTrusted_15 (by decide) ?_
    refine y_putS B h kX0 1 (CW.f hC 1 _ rfl) 3 (P := fG (-2147483648) 2147483647) rfl m_139 (by decide) ⟨_, rfl, by omega, by omega⟩ rfl rfl rfl dX0_setTrusted_26 (fun H locs h => ?_)
    refine y_rv B hQ h (by decide) dX0_setTrusted_29 ?_
    exact ⟨rfl, rfl⟩
abbrev r_c_X0_shipAt : Room := { frames := 1, cells := 0, slots := 0, locals := 21 }
set_option maxHeartbeats 4000000 in
set_option maxRecDepth 100000 in
theorem c_X0_shipAt (l : Launch) (D : va_G) (Zk : yK) (ca : Nat → ClassId) (T : Nat → Int → Int) (G : Nat → Int → Nat) (u : Int) (ad : Nat → Nat) (w : yW) (hC : CW ca T G u ad w) (k : Int)  (hk : xr k) : yC l D Zk ca yX0_shipAt cX0_shipAt 2 (some (.object "WindWords$Ship")) r_c_X0_shipAt [.ref (ad 1), .int (iI k)] w (vQ w (fun q => (q = none ∧ ¬ (0 ≤ k ∧ k < T 0 1)) ∨ (q = some (G 1 k) ∧ 0 ≤ k ∧ k < T 0 1))) := by
  refine yC.of2 "WindWords$Fleet" (by decide) rfl (Nat.le_of_ble_eq_true rfl) ?_
  intro p e s m args below meth c A ls Qf B hnm h hl hQ
  have hl : lv_has ls 2 [(0, .ref (ad 1)), (1, .int (iI k))] := hl
  have hs := pi_s (CW.pi hC)
  refine lv_iload_n B.1 B.2.1 dX0_shipAt_0 rfl (lv_at hl 1 rfl) ?_
  refine lv_aload_n B.1 B.2.1 dX0_shipAt_1 rfl (lv_at hl 0 rfl) ?_
  refine y_getX B h kX0 1 (CW.f hC 1 _ rfl) 4 (z := (T 0 1)) rfl m_141 (by decide) dX0_shipAt_2 ?_
  refine x_iconst B dX0_shipAt_5 ?_
  refine x_isub B dX0_shipAt_6 ?_
  refine y_cSN (host := "WindWords") B h k_X11_within (c_X11_within l D Zk ca _ k (((T 0 1) - 1))  (by omega) (by omega)) (by decide) rfl (by decide) hl.1 [] (Nat.le_of_ble_eq_true rfl) rfl dX0_shipAt_7 (fun r w1 hq H locs h => ?_)
  obtain ⟨rfl, _, rfl, ⟨rfl, b1⟩ | ⟨rfl, b1⟩⟩ := hq
  · show W p l e r_c_X0_shipAt s m args below meth c _ _ 0 0 Qf (F0 m 10 ls [.int (iI 1)])
    refine x_if_eq B (by omega) (tgt := 22) dX0_shipAt_10 (by decide) (fun c2 => ?_) (fun c2 => ?_)
    · exact absurd c2 (by omega)
    · refine lv_aload_n B.1 B.2.1 dX0_shipAt_13 rfl (lv_at hl 0 rfl) ?_
      refine y_getR B h kX0 1 (CW.f hC 1 _ rfl) 0 (b := ad 2) rfl m_134 (by decide) dX0_shipAt_14 ?_
      refine lv_iload_n B.1 B.2.1 dX0_shipAt_17 rfl (lv_at hl 1 rfl) ?_
      refine y_qald B h 2 4 rfl (CW.f hC 2 _ rfl) (by omega) dX0_shipAt_18 (fun f4 hf3 => ?_)
      rw [hf3 (k) (by omega)]
      have fo5 := CW.sh hC k (by omega)
      show W p l e r_c_X0_shipAt s m args below meth c _ _ 0 0 Qf (F0 m 19 ls [.ref (G 1 k)])
      refine lv_goto (tgt := 23) B.1 B.2.1 dX0_shipAt_19 (by decide) ?_
      refine y_ra (r := (some (G 1 k))) B hQ h (by decide) dX0_shipAt_23 ?_
      exact ⟨rfl, _, rfl, Or.inr ⟨rfl, (by first | omega | trivial | assumption)⟩⟩
  · show W p l e r_c_X0_shipAt s m args below meth c _ _ 0 0 Qf (F0 m 10 ls [.int (iI 0)])
    refine x_if_eq B (by omega) (tgt := 22) dX0_shipAt_10 (by decide) (fun c6 => ?_) (fun c6 => ?_)
    · refine lv_null B.1 B.2.1 dX0_shipAt_22 ?_
      refine y_ra (r := none) B hQ h (by decide) dX0_shipAt_23 ?_
      exact ⟨rfl, _, rfl, Or.inl ⟨rfl, (by first | omega | trivial | assumption)⟩⟩
    · exact absurd c6 (by omega)
abbrev r_c_X0_readingAt : Room := { frames := 1, cells := 0, slots := 0, locals := 21 }
set_option maxHeartbeats 4000000 in
set_option maxRecDepth 100000 in
theorem c_X0_readingAt (l : Launch) (D : va_G) (Zk : yK) (ca : Nat → ClassId) (T : Nat → Int → Int) (G : Nat → Int → Nat) (u : Int) (ad : Nat → Nat) (w : yW) (hC : CW ca T G u ad w) (k : Int)  (hk : xr k) : yC l D Zk ca yX0_readingAt cX0_readingAt 2 (some (.object "WindWords$Reading")) r_c_X0_readingAt [.ref (ad 1), .int (iI k)] w (vQ w (fun q => (q = none ∧ ¬ (0 ≤ k ∧ k < T 0 2)) ∨ (q = some (G 4 k) ∧ 0 ≤ k ∧ k < T 0 2))) := by
  refine yC.of2 "WindWords$Fleet" (by decide) rfl (Nat.le_of_ble_eq_true rfl) ?_
  intro p e s m args below meth c A ls Qf B hnm h hl hQ
  have hl : lv_has ls 2 [(0, .ref (ad 1)), (1, .int (iI k))] := hl
  have hs := pi_s (CW.pi hC)
  refine lv_iload_n B.1 B.2.1 dX0_readingAt_0 rfl (lv_at hl 1 rfl) ?_
  refine lv_aload_n B.1 B.2.1 dX0_readingAt_1 rfl (lv_at hl 0 rfl) ?_
  refine y_getX B h kX0 1 (CW.f hC 1 _ rfl) 5 (z := (T 0 2)) rfl m_145 (by decide) dX0_readingAt_2 ?_
  refine x_iconst B dX0_readingAt_5 ?_
  refine x_isub B dX0_readingAt_6 ?_
  refine y_cSN (host := "WindWords") B h k_X11_within (c_X11_within l D Zk ca _ k (((T 0 2) - 1))  (by omega) (by omega)) (by decide) rfl (by decide) hl.1 [] (Nat.le_of_ble_eq_true rfl) rfl dX0_readingAt_7 (fun r w1 hq H locs h => ?_)
  obtain ⟨rfl, _, rfl, ⟨rfl, b1⟩ | ⟨rfl, b1⟩⟩ := hq
  · show W p l e r_c_X0_readingAt s m args below meth c _ _ 0 0 Qf (F0 m 10 ls [.int (iI 1)])
    refine x_if_eq B (by omega) (tgt := 22) dX0_readingAt_10 (by decide) (fun c2 => ?_) (fun c2 => ?_)
    · exact absurd c2 (by omega)
    · refine lv_aload_n B.1 B.2.1 dX0_readingAt_13 rfl (lv_at hl 0 rfl) ?_
      refine y_getR B h kX0 1 (CW.f hC 1 _ rfl) 1 (b := ad 3) rfl m_135 (by decide) dX0_readingAt_14 ?_
      refine lv_iload_n B.1 B.2.1 dX0_readingAt_17 rfl (lv_at hl 1 rfl) ?_
      refine y_qald B h 3 5 rfl (CW.f hC 3 _ rfl) (by omega) dX0_readingAt_18 (fun f4 hf3 => ?_)
      rw [hf3 (k) (by omega)]
      have fo5 := CW.rd hC k (by omega)
      show W p l e r_c_X0_readingAt s m args below meth c _ _ 0 0 Qf (F0 m 19 ls [.ref (G 4 k)])
      refine lv_goto (tgt := 23) B.1 B.2.1 dX0_readingAt_19 (by decide) ?_
      refine y_ra (r := (some (G 4 k))) B hQ h (by decide) dX0_readingAt_23 ?_
      exact ⟨rfl, _, rfl, Or.inr ⟨rfl, (by first | omega | trivial | assumption)⟩⟩
  · show W p l e r_c_X0_readingAt s m args below meth c _ _ 0 0 Qf (F0 m 10 ls [.int (iI 0)])
    refine x_if_eq B (by omega) (tgt := 22) dX0_readingAt_10 (by decide) (fun c6 => ?_) (fun c6 => ?_)
    · refine lv_null B.1 B.2.1 dX0_readingAt_22 ?_
      refine y_ra (r := none) B hQ h (by decide) dX0_readingAt_23 ?_
      exact ⟨rfl, _, rfl, Or.inl ⟨rfl, (by first | omega | trivial | assumption)⟩⟩
    · exact absurd c6 (by omega)
abbrev r_c_X7_officerOn : Room := { frames := 1, cells := 0, slots := 0, locals := 21 }
set_option maxHeartbeats 4000000 in
set_option maxRecDepth 100000 in
theorem c_X7_officerOn (l : Launch) (D : va_G) (Zk : yK) (ca : Nat → ClassId) (T : Nat → Int → Int) (G : Nat → Int → Nat) (u : Int) (ad : Nat → Nat) (w : yW) (hC : CW ca T G u ad w) (sh : Int) (v : Int)  (hsh : 0 ≤ sh ∧ sh < T 0 1) (hv : xr v) : yC l D Zk ca yX7_officerOn cX7_officerOn 2 (some .int) r_c_X7_officerOn [.ref (G 1 sh), .int (iI v)] w (vI w (fun z => (0 ≤ v ∧ v ≤ 999 ∧ z = T 3 (1000 * sh + v)) ∨ (¬ (0 ≤ v ∧ v ≤ 999) ∧ z = -1))) := by
  refine yC.of2 "WindWords$Ship" (by decide) rfl (Nat.le_of_ble_eq_true rfl) ?_
  intro p e s m args below meth c A ls Qf B hnm h hl hQ
  have hl : lv_has ls 2 [(0, .ref (G 1 sh)), (1, .int (iI v))] := hl
  have hs := pi_s (CW.pi hC)
  have fo1 := CW.sh hC sh (by omega)
  refine lv_iload_n B.1 B.2.1 dX7_officerOn_0 rfl (lv_at hl 1 rfl) ?_
  refine x_sipush B (by decide) dX7_officerOn_1 ?_
  refine y_cSN (host := "WindWords") B h k_X11_within (c_X11_within l D Zk ca _ v 999  (by omega) (by omega)) (by decide) rfl (by decide) hl.1 [] (Nat.le_of_ble_eq_true rfl) rfl dX7_officerOn_4 (fun r w1 hq H locs h => ?_)
  obtain ⟨rfl, _, rfl, ⟨rfl, b2⟩ | ⟨rfl, b2⟩⟩ := hq
  · show W p l e r_c_X7_officerOn s m args below meth c _ _ 0 0 Qf (F0 m 7 ls [.int (iI 1)])
    refine x_if_eq B (by omega) (tgt := 19) dX7_officerOn_7 (by decide) (fun c3 => ?_) (fun c3 => ?_)
    · exact absurd c3 (by omega)
    · refine lv_aload_n B.1 B.2.1 dX7_officerOn_10 rfl (lv_at hl 0 rfl) ?_
      refine y_getR B h kX7 (1000 + 16 * sh.toNat + 1) fo1.1 2 (b := G 2 sh) rfl m_462 (by decide) dX7_officerOn_11 ?_
      refine lv_iload_n B.1 B.2.1 dX7_officerOn_14 rfl (lv_at hl 1 rfl) ?_
      refine y_ialdX B h (1000 + 16 * sh.toNat + 2) fo1.2.1 (by omega) dX7_officerOn_15 ?_
      refine x_iset (z := (T 3 (1000 * sh + v))) (by show iI (T 3 (1000 * sh + (((v : Int).toNat : Nat) : Int))) = _; rw [show ((((v : Int).toNat : Nat) : Int)) = v by omega]) ?_
      have tb4 := pi_3 (CW.pi hC) (1000 * sh + v)
      refine lv_goto (tgt := 20) B.1 B.2.1 dX7_officerOn_16 (by decide) ?_
      refine y_ri B hQ h (by decide) dX7_officerOn_20 ?_
      exact ⟨rfl, _, rfl, (by first | omega | trivial | assumption)⟩
  · show W p l e r_c_X7_officerOn s m args below meth c _ _ 0 0 Qf (F0 m 7 ls [.int (iI 0)])
    refine x_if_eq B (by omega) (tgt := 19) dX7_officerOn_7 (by decide) (fun c5 => ?_) (fun c5 => ?_)
    · refine x_iconst B dX7_officerOn_19 ?_
      refine y_ri B hQ h (by decide) dX7_officerOn_20 ?_
      exact ⟨rfl, _, rfl, (by first | omega | trivial | assumption)⟩
    · exact absurd c5 (by omega)
abbrev r_c_X4_isMans : Room := { frames := 0, cells := 0, slots := 0, locals := 0 }
set_option maxHeartbeats 4000000 in
set_option maxRecDepth 100000 in
theorem c_X4_isMans (l : Launch) (D : va_G) (Zk : yK) (ca : Nat → ClassId) (T : Nat → Int → Int) (G : Nat → Int → Nat) (u : Int) (ad : Nat → Nat) (w : yW) (hC : CW ca T G u ad w) (k : Int)  (hk : 0 ≤ k ∧ k < T 0 2) : yC l D Zk ca yX4_isMans cX4_isMans 1 (some .boolean) r_c_X4_isMans [.ref (G 4 k)] w (vI w (fun z => (z = 1 ∧ (T 7 k ≠ 3)) ∨ (z = 0 ∧ (¬ (T 7 k ≠ 3))))) := by
  refine yC.of2 "WindWords$Reading" (by decide) rfl (Nat.le_of_ble_eq_true rfl) ?_
  intro p e s m args below meth c A ls Qf B hnm h hl hQ
  have hl : lv_has ls 1 [(0, .ref (G 4 k))] := hl
  have hs := pi_s (CW.pi hC)
  have fo1 := CW.rd hC k (by omega)
  refine lv_aload_n B.1 B.2.1 dX4_isMans_0 rfl (lv_at hl 0 rfl) ?_
  refine y_getX B h kX4 (1000 + 16 * k.toNat + 4) fo1 3 (z := (T 7 k)) rfl m_524 (by decide) dX4_isMans_1 ?_
  have tb2 := pi_7 (CW.pi hC) k
  refine x_iconst B dX4_isMans_4 ?_
  refine x_icmp_eq B (by omega) (tgt := 12) dX4_isMans_5 (by decide) (fun c3 => ?_) (fun c3 => ?_)
  · refine x_iconst B dX4_isMans_12 ?_
    refine y_rz B hQ h (by decide) (by decide) dX4_isMans_13 ?_
    exact ⟨rfl, _, rfl, Or.inr ⟨rfl, (by first | omega | trivial | assumption)⟩⟩
  · refine x_iconst B dX4_isMans_8 ?_
    refine lv_goto (tgt := 13) B.1 B.2.1 dX4_isMans_9 (by decide) ?_
    refine y_rz B hQ h (by decide) (by decide) dX4_isMans_13 ?_
    exact ⟨rfl, _, rfl, Or.inl ⟨rfl, (by first | omega | trivial | assumption)⟩⟩
abbrev r_c_X4_writer : Room := { frames := 2, cells := 0, slots := 0, locals := 42 }
set_option maxHeartbeats 4000000 in
set_option maxRecDepth 100000 in
theorem c_X4_writer (l : Launch) (D : va_G) (Zk : yK) (ca : Nat → ClassId) (T : Nat → Int → Int) (G : Nat → Int → Nat) (u : Int) (ad : Nat → Nat) (w : yW) (hC : CW ca T G u ad w) (k : Int)  (hk : 0 ≤ k ∧ k < T 0 2) : yC l D Zk ca yX4_writer cX4_writer 1 (some .int) r_c_X4_writer [.ref (G 4 k)] w (vI w (fun z => z = T 3 (1000 * T 4 k + T 5 k))) := by
  refine yC.of2 "WindWords$Reading" (by decide) rfl (Nat.le_of_ble_eq_true rfl) ?_
  intro p e s m args below meth c A ls Qf B hnm h hl hQ
  have hl : lv_has ls 1 [(0, .ref (G 4 k))] := hl
  have hs := pi_s (CW.pi hC)
  have fo1 := CW.rd hC k (by omega)
  refine lv_aload_n B.1 B.2.1 dX4_writer_0 rfl (lv_at hl 0 rfl) ?_
  refine y_getR B h kX4 (1000 + 16 * k.toNat + 4) fo1 0 (b := G 1 (T 4 k)) rfl m_513 (by decide) dX4_writer_1 ?_
  have tb2 := pi_4 (CW.pi hC) k
  have pn3 := pi_in (CW.pi hC) k (by omega)
  have fo4 := CW.sh hC (T 4 k) (by omega)
  refine lv_aload_n B.1 B.2.1 dX4_writer_4 rfl (lv_at hl 0 rfl) ?_
  refine y_getX B h kX4 (1000 + 16 * k.toNat + 4) fo1 1 (z := (T 5 k)) rfl m_516 (by decide) dX4_writer_5 ?_
  have tb5 := pi_5 (CW.pi hC) k
  refine y_cV B h kX7 (1000 + 16 * ((T 4 k)).toNat + 1) fo4.1 k_X7_officerOn rfl (c_X7_officerOn l D Zk ca T G u ad _ hC (T 4 k) ((T 5 k))  (by omega) (by omega)) m_838 rfl (by decide) hl.1 [] (Nat.le_of_ble_eq_true rfl) rfl dX4_writer_8 (fun r w1 hq H locs h => ?_)
  obtain ⟨rfl, z6, rfl, hz6⟩ := hq
  show W p l e r_c_X4_writer s m args below meth c _ _ 0 0 Qf (F0 m 11 ls [.int (iI z6)])
  refine y_ri B hQ h (by decide) dX4_writer_11 ?_
  exact ⟨rfl, _, rfl, (by first | omega | trivial | assumption)⟩
abbrev r_c_X4_year : Room := { frames := 0, cells := 0, slots := 0, locals := 0 }
set_option maxHeartbeats 4000000 in
set_option maxRecDepth 100000 in
theorem c_X4_year (l : Launch) (D : va_G) (Zk : yK) (ca : Nat → ClassId) (T : Nat → Int → Int) (G : Nat → Int → Nat) (u : Int) (ad : Nat → Nat) (w : yW) (hC : CW ca T G u ad w) (k : Int)  (hk : 0 ≤ k ∧ k < T 0 2) : yC l D Zk ca yX4_year cX4_year 1 (some .int) r_c_X4_year [.ref (G 4 k)] w (vI w (fun z => z = T 5 k / 100)) := by
  refine yC.of2 "WindWords$Reading" (by decide) rfl (Nat.le_of_ble_eq_true rfl) ?_
  intro p e s m args below meth c A ls Qf B hnm h hl hQ
  have hl : lv_has ls 1 [(0, .ref (G 4 k))] := hl
  have hs := pi_s (CW.pi hC)
  have fo1 := CW.rd hC k (by omega)
  refine lv_aload_n B.1 B.2.1 dX4_year_0 rfl (lv_at hl 0 rfl) ?_
  refine y_getX B h kX4 (1000 + 16 * k.toNat + 4) fo1 1 (z := (T 5 k)) rfl m_516 (by decide) dX4_year_1 ?_
  have tb2 := pi_5 (CW.pi hC) k
  refine x_bipush B (by decide) dX4_year_4 ?_
  refine x_idiv B (by omega) dX4_year_6 ?_
  refine y_ri B hQ h (by decide) dX4_year_7 ?_
  exact ⟨rfl, _, rfl, (by first | omega | trivial | assumption)⟩
abbrev r_c_X4_mix : Room := { frames := 0, cells := 0, slots := 0, locals := 0 }
set_option maxHeartbeats 4000000 in
set_option maxRecDepth 100000 in
theorem c_X4_mix (l : Launch) (D : va_G) (Zk : yK) (ca : Nat → ClassId) (T : Nat → Int → Int) (G : Nat → Int → Nat) (u : Int) (ad : Nat → Nat) (w : yW) (hC : CW ca T G u ad w) (k : Int)  (hk : 0 ≤ k ∧ k < T 0 2) : yC l D Zk ca yX4_mix cX4_mix 1 (some .int) r_c_X4_mix [.ref (G 4 k)] w (vI w (fun z => z = 10 * T 1 (T 4 k) + T 9 k)) := by
  refine yC.of2 "WindWords$Reading" (by decide) rfl (Nat.le_of_ble_eq_true rfl) ?_
  intro p e s m args below meth c A ls Qf B hnm h hl hQ
  have hl : lv_has ls 1 [(0, .ref (G 4 k))] := hl
  have hs := pi_s (CW.pi hC)
  have fo1 := CW.rd hC k (by omega)
  refine x_bipush B (by decide) dX4_mix_0 ?_
  refine lv_aload_n B.1 B.2.1 dX4_mix_2 rfl (lv_at hl 0 rfl) ?_
  refine y_getR B h kX4 (1000 + 16 * k.toNat + 4) fo1 0 (b := G 1 (T 4 k)) rfl m_513 (by decide) dX4_mix_3 ?_
  have tb2 := pi_4 (CW.pi hC) k
  have pn3 := pi_in (CW.pi hC) k (by omega)
  have fo4 := CW.sh hC (T 4 k) (by omega)
  refine y_getX B h kX7 (1000 + 16 * ((T 4 k)).toNat + 1) fo4.1 1 (z := (T 1 (T 4 k))) rfl m_460 (by decide) dX4_mix_6 ?_
  have tb5 := pi_1 (CW.pi hC) (T 4 k)
  refine x_imul B dX4_mix_9 ?_
  refine lv_aload_n B.1 B.2.1 dX4_mix_10 rfl (lv_at hl 0 rfl) ?_
  refine y_getX B h kX4 (1000 + 16 * k.toNat + 4) fo1 5 (z := (T 9 k)) rfl m_533 (by decide) dX4_mix_11 ?_
  have tb6 := pi_9 (CW.pi hC) k
  refine x_iadd B dX4_mix_14 ?_
  refine y_ri B hQ h (by decide) dX4_mix_15 ?_
  exact ⟨rfl, _, rfl, (by first | omega | trivial | assumption)⟩
abbrev r_c_X0_mansAt : Room := { frames := 2, cells := 0, slots := 0, locals := 42 }
set_option maxHeartbeats 4000000 in
set_option maxRecDepth 100000 in
theorem c_X0_mansAt (l : Launch) (D : va_G) (Zk : yK) (ca : Nat → ClassId) (T : Nat → Int → Int) (G : Nat → Int → Nat) (u : Int) (ad : Nat → Nat) (w : yW) (hC : CW ca T G u ad w) (k : Int)  (hk : xr k) : yC l D Zk ca yX0_mansAt cX0_mansAt 3 (some (.object "WindWords$Reading")) r_c_X0_mansAt [.ref (ad 1), .int (iI k)] w (vQ w (fun q => (q = none ∧ ¬ ((0 ≤ k ∧ k < T 0 2) ∧ T 7 k ≠ 3)) ∨ (q = some (G 4 k) ∧ (0 ≤ k ∧ k < T 0 2) ∧ T 7 k ≠ 3))) := by
  refine yC.of2 "WindWords$Fleet" (by decide) rfl (Nat.le_of_ble_eq_true rfl) ?_
  intro p e s m args below meth c A ls Qf B hnm h hl hQ
  have hl : lv_has ls 3 [(0, .ref (ad 1)), (1, .int (iI k))] := hl
  have hs := pi_s (CW.pi hC)
  refine lv_aload_n B.1 B.2.1 dX0_mansAt_0 rfl (lv_at hl 0 rfl) ?_
  refine lv_iload_n B.1 B.2.1 dX0_mansAt_1 rfl (lv_at hl 1 rfl) ?_
  refine y_cV B h kX0 1 (CW.f hC 1 _ rfl) k_X0_readingAt rfl (c_X0_readingAt l D Zk ca T G u ad _ hC k  (by omega)) m_984 rfl (by decide) hl.1 [] (Nat.le_of_ble_eq_true rfl) rfl dX0_mansAt_2 (fun r w1 hq H locs h => ?_)
  obtain ⟨rfl, _, rfl, ⟨rfl, q1⟩ | ⟨rfl, q1⟩⟩ := hq
  · show W p l e r_c_X0_mansAt s m args below meth c _ _ 0 0 Qf (F0 m 5 ls [.null])
    refine lv_astore_nN (lv' := [(2, .null), (0, .ref (ad 1)), (1, .int (iI k))]) B.1 B.2.1 dX0_mansAt_5 rfl hl (by decide) rfl (fun ls hl => ?_)
    refine lv_aload_nN B.1 B.2.1 dX0_mansAt_6 rfl (lv_at hl 0 rfl) ?_
    refine lv_ifnullN (tgt := 21) B.1 B.2.1 dX0_mansAt_7 (by decide) ?_
    refine lv_null B.1 B.2.1 dX0_mansAt_21 ?_
    refine y_ra (r := none) B hQ h (by decide) dX0_mansAt_22 ?_
    exact ⟨rfl, _, rfl, Or.inl ⟨rfl, (by first | omega | trivial | assumption)⟩⟩
  · have fo2 := CW.rd hC k (by omega)
    show W p l e r_c_X0_mansAt s m args below meth c _ _ 0 0 Qf (F0 m 5 ls [.ref (G 4 k)])
    refine lv_astore_n (lv' := [(2, .ref (G 4 k)), (0, .ref (ad 1)), (1, .int (iI k))]) B.1 B.2.1 dX0_mansAt_5 rfl hl (by decide) rfl (fun ls hl => ?_)
    refine lv_aload_n B.1 B.2.1 dX0_mansAt_6 rfl (lv_at hl 0 rfl) ?_
    refine lv_ifnull B.1 B.2.1 dX0_mansAt_7 ?_
    refine lv_aload_n B.1 B.2.1 dX0_mansAt_10 rfl (lv_at hl 0 rfl) ?_
    refine y_cV B h kX4 (1000 + 16 * k.toNat + 4) fo2 k_X4_isMans rfl (c_X4_isMans l D Zk ca T G u ad _ hC k  (by omega)) m_873 rfl (by decide) hl.1 [] (Nat.le_of_ble_eq_true rfl) rfl dX0_mansAt_11 (fun r w1 hq H locs h => ?_)
    obtain ⟨rfl, _, rfl, ⟨rfl, b3⟩ | ⟨rfl, b3⟩⟩ := hq
    · show W p l e r_c_X0_mansAt s m args below meth c _ _ 0 0 Qf (F0 m 14 ls [.int (iI 1)])
      refine x_if_eq B (by omega) (tgt := 21) dX0_mansAt_14 (by decide) (fun c4 => ?_) (fun c4 => ?_)
      · exact absurd c4 (by omega)
      · refine lv_aload_n B.1 B.2.1 dX0_mansAt_17 rfl (lv_at hl 0 rfl) ?_
        refine lv_goto (tgt := 22) B.1 B.2.1 dX0_mansAt_18 (by decide) ?_
        refine y_ra (r := (some (G 4 k))) B hQ h (by decide) dX0_mansAt_22 ?_
        exact ⟨rfl, _, rfl, Or.inr ⟨rfl, (by first | omega | trivial | assumption)⟩⟩
    · show W p l e r_c_X0_mansAt s m args below meth c _ _ 0 0 Qf (F0 m 14 ls [.int (iI 0)])
      refine x_if_eq B (by omega) (tgt := 21) dX0_mansAt_14 (by decide) (fun c5 => ?_) (fun c5 => ?_)
      · refine lv_null B.1 B.2.1 dX0_mansAt_21 ?_
        refine y_ra (r := none) B hQ h (by decide) dX0_mansAt_22 ?_
        exact ⟨rfl, _, rfl, Or.inl ⟨rfl, (by first | omega | trivial | assumption)⟩⟩
      · exact absurd c5 (by omega)
abbrev r_c_X0_trustedMansAt : Room := { frames := 3, cells := 0, slots := 0, locals := 64 }
set_option maxHeartbeats 4000000 in
set_option maxRecDepth 100000 in
theorem c_X0_trustedMansAt (l : Launch) (D : va_G) (Zk : yK) (ca : Nat → ClassId) (T : Nat → Int → Int) (G : Nat → Int → Nat) (u : Int) (ad : Nat → Nat) (w : yW) (hC : CW ca T G u ad w) (k : Int)  (hk : xr k) : yC l D Zk ca yX0_trustedMansAt cX0_trustedMansAt 3 (some (.object "WindWords$Reading")) r_c_X0_trustedMansAt [.ref (ad 1), .int (iI k)] w (vQ w (fun q => (q = none ∧ True) ∨ (q = some (G 4 k) ∧ (0 ≤ k ∧ k < T 0 2) ∧ T 7 k ≠ 3))) := by
  refine yC.of2 "WindWords$Fleet" (by decide) rfl (Nat.le_of_ble_eq_true rfl) ?_
  intro p e s m args below meth c A ls Qf B hnm h hl hQ
  have hl : lv_has ls 3 [(0, .ref (ad 1)), (1, .int (iI k))] := hl
  have hs := pi_s (CW.pi hC)
  refine lv_aload_n B.1 B.2.1 dX0_trustedMansAt_0 rfl (lv_at hl 0 rfl) ?_
  refine lv_iload_n B.1 B.2.1 dX0_trustedMansAt_1 rfl (lv_at hl 1 rfl) ?_
  refine y_cV B h kX0 1 (CW.f hC 1 _ rfl) k_X0_mansAt rfl (c_X0_mansAt l D Zk ca T G u ad _ hC k  (by omega)) m_980 rfl (by decide) hl.1 [] (Nat.le_of_ble_eq_true rfl) rfl dX0_trustedMansAt_2 (fun r w1 hq H locs h => ?_)
  obtain ⟨rfl, _, rfl, ⟨rfl, q1⟩ | ⟨rfl, q1⟩⟩ := hq
  · show W p l e r_c_X0_trustedMansAt s m args below meth c _ _ 0 0 Qf (F0 m 5 ls [.null])
    refine lv_astore_nN (lv' := [(2, .null), (0, .ref (ad 1)), (1, .int (iI k))]) B.1 B.2.1 dX0_trustedMansAt_5 rfl hl (by decide) rfl (fun ls hl => ?_)
    refine lv_aload_nN B.1 B.2.1 dX0_trustedMansAt_6 rfl (lv_at hl 0 rfl) ?_
    refine lv_ifnullN (tgt := 25) B.1 B.2.1 dX0_trustedMansAt_7 (by decide) ?_
    refine lv_null B.1 B.2.1 dX0_trustedMansAt_25 ?_
    refine y_ra (r := none) B hQ h (by decide) dX0_trustedMansAt_26 ?_
    exact ⟨rfl, _, rfl, Or.inl ⟨rfl, trivial⟩⟩
  · have fo2 := CW.rd hC k (by omega)
    show W p l e r_c_X0_trustedMansAt s m args below meth c _ _ 0 0 Qf (F0 m 5 ls [.ref (G 4 k)])
    refine lv_astore_n (lv' := [(2, .ref (G 4 k)), (0, .ref (ad 1)), (1, .int (iI k))]) B.1 B.2.1 dX0_trustedMansAt_5 rfl hl (by decide) rfl (fun ls hl => ?_)
    refine lv_aload_n B.1 B.2.1 dX0_trustedMansAt_6 rfl (lv_at hl 0 rfl) ?_
    refine lv_ifnull B.1 B.2.1 dX0_trustedMansAt_7 ?_
    refine lv_aload_n B.1 B.2.1 dX0_trustedMansAt_10 rfl (lv_at hl 1 rfl) ?_
    refine lv_aload_n B.1 B.2.1 dX0_trustedMansAt_11 rfl (lv_at hl 0 rfl) ?_
    refine y_cV B h kX4 (1000 + 16 * k.toNat + 4) fo2 k_X4_writer rfl (c_X4_writer l D Zk ca T G u ad _ hC k  (by omega)) m_985 rfl (by decide) hl.1 [.ref (ad 1)] (Nat.le_of_ble_eq_true rfl) rfl dX0_trustedMansAt_12 (fun r w1 hq H locs h => ?_)
    obtain ⟨rfl, _, rfl, rfl⟩ := hq
    have tb3 := pi_3 (CW.pi hC) (1000 * T 4 k + T 5 k)
    show W p l e r_c_X0_trustedMansAt s m args below meth c _ _ 0 0 Qf (F0 m 15 ls [.int (iI (T 3 (1000 * T 4 k + T 5 k))), .ref (ad 1)])
    refine y_cV B h kX0 1 (CW.f hC 1 _ rfl) k_X0_isTrusted rfl (c_X0_isTrusted l D Zk ca T G u ad _ hC ((T 3 (1000 * T 4 k + T 5 k)))  (by omega)) m_986 rfl (by decide) hl.1 [] (Nat.le_of_ble_eq_true rfl) rfl dX0_trustedMansAt_15 (fun r w1 hq H locs h => ?_)
    obtain ⟨rfl, _, rfl, ⟨rfl, b4⟩ | ⟨rfl, b4⟩⟩ := hq
    · show W p l e r_c_X0_trustedMansAt s m args below meth c _ _ 0 0 Qf (F0 m 18 ls [.int (iI 1)])
      refine x_if_eq B (by omega) (tgt := 25) dX0_trustedMansAt_18 (by decide) (fun c5 => ?_) (fun c5 => ?_)
      · exact absurd c5 (by omega)
      · refine lv_aload_n B.1 B.2.1 dX0_trustedMansAt_21 rfl (lv_at hl 0 rfl) ?_
        refine lv_goto (tgt := 26) B.1 B.2.1 dX0_trustedMansAt_22 (by decide) ?_
        refine y_ra (r := (some (G 4 k))) B hQ h (by decide) dX0_trustedMansAt_26 ?_
        exact ⟨rfl, _, rfl, Or.inr ⟨rfl, (by first | omega | trivial | assumption)⟩⟩
    · show W p l e r_c_X0_trustedMansAt s m args below meth c _ _ 0 0 Qf (F0 m 18 ls [.int (iI 0)])
      refine x_if_eq B (by omega) (tgt := 25) dX0_trustedMansAt_18 (by decide) (fun c6 => ?_) (fun c6 => ?_)
      · refine lv_null B.1 B.2.1 dX0_trustedMansAt_25 ?_
        refine y_ra (r := none) B hQ h (by decide) dX0_trustedMansAt_26 ?_
        exact ⟨rfl, _, rfl, Or.inl ⟨rfl, trivial⟩⟩
      · exact absurd c6 (by omega)
