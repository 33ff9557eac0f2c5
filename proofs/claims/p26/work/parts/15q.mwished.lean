
abbrev r_c_X12_officerOf_y : Room := { frames := 0, cells := 0, slots := 0, locals := 0 }
set_option maxHeartbeats 4000000 in
set_option maxRecDepth 100000 in
theorem c_X12_officerOf_y (l : Launch) (D : va_G) (Zk : yK) (ca : Nat → ClassId) (T : Nat → Int → Int) (E : Nat → Int → Int) (am : Nat → Nat) (v0 w : yW) (hM : MW ca T E am v0) (hv0 : ∀ k : Nat, k ≠ 86 → k ≠ 87 → w k = v0 k) (ship : Int) (watch : Int)  (hship : 0 ≤ ship ∧ ship ≤ 11) (hwatch : xr watch) : yC l D Zk ca yX12_officerOf cX12_officerOf 5 (some .int) r_c_X12_officerOf_y [.ref (am 0), .int (iI ship), .int (iI watch)] w (vI w (fun z => z = sgo T ship watch (T 0 3).toNat ∧ 0 ≤ z ∧ z ≤ 15)) := by
  refine yC.of2 "WindWordsModel" (by decide) rfl (Nat.le_of_ble_eq_true rfl) ?_
  intro p e s m args below meth c A ls Qf B hnm h hl hQ
  have hl : lv_has ls 5 [(0, .ref (am 0)), (1, .int (iI ship)), (2, .int (iI watch))] := hl
  have hs := pi_s (MW.pi hM)
  have hpe := pe_0 (MW.pe hM)
  refine lv_aload_n B.1 B.2.1 dX12_officerOf_0 rfl (lv_at hl 0 rfl) ?_
  refine y_getR B h kX12 50 ((hv0 (50) (by omega) (by omega)).trans ((MW.f hM 0 _ rfl))) 9 (b := am 4) rfl m_1270 (by decide) dX12_officerOf_1 ?_
  refine lv_iload_n B.1 B.2.1 dX12_officerOf_4 rfl (lv_at hl 1 rfl) ?_
  refine y_ialdX B h 54 ((hv0 (54) (by omega) (by omega)).trans ((MW.f hM 4 _ rfl))) (by omega) dX12_officerOf_5 ?_
  refine x_iset (z := (T 20 ship)) (by show iI (T 20 (((ship : Int).toNat : Nat) : Int)) = _; rw [show ((((ship : Int).toNat : Nat) : Int)) = ship by omega]) ?_
  have tb1 := pi_20 (MW.pi hM) ship
  refine lv_istore_n (lv' := [(3, .int (iI (T 20 ship))), (0, .ref (am 0)), (1, .int (iI ship)), (2, .int (iI watch))]) B.1 B.2.1 dX12_officerOf_6 rfl hl (by decide) rfl (fun ls hl => ?_)
  refine x_iconst B dX12_officerOf_7 ?_
  refine lv_istore (lv' := [(4, .int (iI 0)), (3, .int (iI (T 20 ship))), (0, .ref (am 0)), (1, .int (iI ship)), (2, .int (iI watch))]) B.1 B.2.1 dX12_officerOf_8 hl (by decide) rfl (fun ls hl => ?_)
  have loop10 : ∀ (n10 : Nat) (o : Int) (k : Int), (0 ≤ k ∧ k ≤ T 0 3) → (o = sgo T ship watch k.toNat) → (0 ≤ o ∧ o ≤ 15) → ((60 - k : Int)).toNat < n10 → ∀ (H : Heap) (locs : List Loc) (ls : Array Slot), yH D Zk A s w H locs → lv_has ls 5 [(4, .int (iI k)), (3, .int (iI o)), (0, .ref (am 0)), (1, .int (iI ship)), (2, .int (iI watch))] → W p l e r_c_X12_officerOf_y s m args below meth c H locs 0 0 Qf (F0 m 10 ls []) := by
    intro n10
    induction n10 with
    | zero =>
      intro o k h0 h1 h2 hm10 H locs ls h hl
      exact absurd hm10 (Nat.not_lt_zero _)
    | succ n10 ih10 =>
      intro o k h0 h1 h2 hm10 H locs ls h hl
      refine lv_iload B.1 B.2.1 dX12_officerOf_10 (lv_at hl 0 rfl) ?_
      refine lv_aload_n B.1 B.2.1 dX12_officerOf_12 rfl (lv_at hl 2 rfl) ?_
      refine y_getX B h kX12 50 ((hv0 (50) (by omega) (by omega)).trans ((MW.f hM 0 _ rfl))) 3 (z := (T 0 3)) rfl m_1264 (by decide) dX12_officerOf_13 ?_
      refine x_icmp_ge B (by omega) (tgt := 55) dX12_officerOf_16 (by decide) (fun c2 => ?_) (fun c2 => ?_)
      · refine lv_iload_n B.1 B.2.1 dX12_officerOf_55 rfl (lv_at hl 1 rfl) ?_
        refine y_ri B hQ h (by decide) dX12_officerOf_56 ?_
        have e9 : k = T 0 3 := by omega
        rw [e9] at h1
        exact ⟨rfl, _, rfl, h1, by omega⟩
      · refine lv_aload_n B.1 B.2.1 dX12_officerOf_19 rfl (lv_at hl 2 rfl) ?_
        refine y_getR B h kX12 50 ((hv0 (50) (by omega) (by omega)).trans ((MW.f hM 0 _ rfl))) 11 (b := am 6) rfl m_1272 (by decide) dX12_officerOf_20 ?_
        refine lv_iload B.1 B.2.1 dX12_officerOf_23 (lv_at hl 0 rfl) ?_
        refine y_ialdX B h 56 ((hv0 (56) (by omega) (by omega)).trans ((MW.f hM 6 _ rfl))) (by omega) dX12_officerOf_25 ?_
        refine x_iset (z := (T 21 k)) (by show iI (T 21 (((k : Int).toNat : Nat) : Int)) = _; rw [show ((((k : Int).toNat : Nat) : Int)) = k by omega]) ?_
        have tb3 := pi_21 (MW.pi hM) k
        refine lv_iload_n B.1 B.2.1 dX12_officerOf_26 rfl (lv_at hl 3 rfl) ?_
        refine x_icmp_ne B (by omega) (tgt := 49) dX12_officerOf_27 (by decide) (fun c4 => ?_) (fun c4 => ?_)
        · refine lv_iinc (v := iI (k + 1)) (lv' := [(4, .int (iI (k + 1))), (3, .int (iI o)), (0, .ref (am 0)), (1, .int (iI ship)), (2, .int (iI watch))]) B.1 B.2.1 dX12_officerOf_49 hl (k := 0) rfl (iI_add _ _) (by decide) rfl (fun ls hl => ?_)
          refine lv_goto (tgt := 10) B.1 B.2.1 dX12_officerOf_52 (by decide) ?_
          exact ih10 o ((k + 1)) (by omega) (sgo_step (T := T) (s := ship) (v := watch) (k := k) (by omega) h1 (by omega)) (by omega) (by omega) _ _ _ h (lv_sub hl [0, 1, 2, 3, 4] rfl)
        · refine lv_aload_n B.1 B.2.1 dX12_officerOf_30 rfl (lv_at hl 2 rfl) ?_
          refine y_getR B h kX12 50 ((hv0 (50) (by omega) (by omega)).trans ((MW.f hM 0 _ rfl))) 13 (b := am 8) rfl m_1274 (by decide) dX12_officerOf_31 ?_
          refine lv_iload B.1 B.2.1 dX12_officerOf_34 (lv_at hl 0 rfl) ?_
          refine y_ialdX B h 58 ((hv0 (58) (by omega) (by omega)).trans ((MW.f hM 8 _ rfl))) (by omega) dX12_officerOf_36 ?_
          refine x_iset (z := (T 23 k)) (by show iI (T 23 (((k : Int).toNat : Nat) : Int)) = _; rw [show ((((k : Int).toNat : Nat) : Int)) = k by omega]) ?_
          have tb5 := pi_23 (MW.pi hM) k
          refine lv_iload_n B.1 B.2.1 dX12_officerOf_37 rfl (lv_at hl 4 rfl) ?_
          refine x_icmp_gt B (by omega) (tgt := 49) dX12_officerOf_38 (by decide) (fun c6 => ?_) (fun c6 => ?_)
          · refine lv_iinc (v := iI (k + 1)) (lv' := [(4, .int (iI (k + 1))), (3, .int (iI o)), (0, .ref (am 0)), (1, .int (iI ship)), (2, .int (iI watch))]) B.1 B.2.1 dX12_officerOf_49 hl (k := 0) rfl (iI_add _ _) (by decide) rfl (fun ls hl => ?_)
            refine lv_goto (tgt := 10) B.1 B.2.1 dX12_officerOf_52 (by decide) ?_
            exact ih10 o ((k + 1)) (by omega) (sgo_step (T := T) (s := ship) (v := watch) (k := k) (by omega) h1 (by omega)) (by omega) (by omega) _ _ _ h (lv_sub hl [0, 1, 2, 3, 4] rfl)
          · refine lv_aload_n B.1 B.2.1 dX12_officerOf_41 rfl (lv_at hl 2 rfl) ?_
            refine y_getR B h kX12 50 ((hv0 (50) (by omega) (by omega)).trans ((MW.f hM 0 _ rfl))) 12 (b := am 7) rfl m_1273 (by decide) dX12_officerOf_42 ?_
            refine lv_iload B.1 B.2.1 dX12_officerOf_45 (lv_at hl 0 rfl) ?_
            refine y_ialdX B h 57 ((hv0 (57) (by omega) (by omega)).trans ((MW.f hM 7 _ rfl))) (by omega) dX12_officerOf_47 ?_
            refine x_iset (z := (T 22 k)) (by show iI (T 22 (((k : Int).toNat : Nat) : Int)) = _; rw [show ((((k : Int).toNat : Nat) : Int)) = k by omega]) ?_
            have tb7 := pi_22 (MW.pi hM) k
            refine lv_istore_n (lv' := [(3, .int (iI (T 22 k))), (4, .int (iI k)), (0, .ref (am 0)), (1, .int (iI ship)), (2, .int (iI watch))]) B.1 B.2.1 dX12_officerOf_48 rfl hl (by decide) rfl (fun ls hl => ?_)
            refine lv_iinc (v := iI (k + 1)) (lv' := [(4, .int (iI (k + 1))), (3, .int (iI (T 22 k))), (0, .ref (am 0)), (1, .int (iI ship)), (2, .int (iI watch))]) B.1 B.2.1 dX12_officerOf_49 hl (k := 1) rfl (iI_add _ _) (by decide) rfl (fun ls hl => ?_)
            refine lv_goto (tgt := 10) B.1 B.2.1 dX12_officerOf_52 (by decide) ?_
            exact ih10 ((T 22 k)) ((k + 1)) (by omega) (sgo_step (T := T) (s := ship) (v := watch) (k := k) (by omega) h1 (by omega)) (by omega) (by omega) _ _ _ h (lv_sub hl [0, 1, 2, 3, 4] rfl)
  exact loop10 (((60 - 0 : Int)).toNat + 1) ((T 20 ship)) 0 (by omega) (show T 20 ship = sgo T ship watch (0 : Int).toNat from rfl) (by omega) (Nat.lt_succ_self _) _ _ _ h (lv_sub hl [0, 1, 2, 3, 4] rfl)
abbrev r_c_X12_isMan_y : Room := { frames := 0, cells := 0, slots := 0, locals := 0 }
set_option maxHeartbeats 4000000 in
set_option maxRecDepth 100000 in
theorem c_X12_isMan_y (l : Launch) (D : va_G) (Zk : yK) (ca : Nat → ClassId) (T : Nat → Int → Int) (E : Nat → Int → Int) (am : Nat → Nat) (v0 w : yW) (hM : MW ca T E am v0) (hv0 : ∀ k : Nat, k ≠ 86 → k ≠ 87 → w k = v0 k) (k : Int)  (hk : 0 ≤ k ∧ k < T 0 2) : yC l D Zk ca yX12_isMan cX12_isMan 2 (some .boolean) r_c_X12_isMan_y [.ref (am 0), .int (iI k)] w (vI w (fun z => (z = 1 ∧ (T 7 k ≠ 3)) ∨ (z = 0 ∧ (¬ (T 7 k ≠ 3))))) := by
  refine yC.of2 "WindWordsModel" (by decide) rfl (Nat.le_of_ble_eq_true rfl) ?_
  intro p e s m args below meth c A ls Qf B hnm h hl hQ
  have hl : lv_has ls 2 [(0, .ref (am 0)), (1, .int (iI k))] := hl
  have hs := pi_s (MW.pi hM)
  have hpe := pe_0 (MW.pe hM)
  refine lv_aload_n B.1 B.2.1 dX12_isMan_0 rfl (lv_at hl 0 rfl) ?_
  refine y_getR B h kX12 50 ((hv0 (50) (by omega) (by omega)).trans ((MW.f hM 0 _ rfl))) 17 (b := am 12) rfl m_1278 (by decide) dX12_isMan_1 ?_
  refine lv_iload_n B.1 B.2.1 dX12_isMan_4 rfl (lv_at hl 1 rfl) ?_
  refine y_ialdX B h 62 ((hv0 (62) (by omega) (by omega)).trans ((MW.f hM 12 _ rfl))) (by omega) dX12_isMan_5 ?_
  refine x_iset (z := (T 7 k)) (by show iI (T 7 (((k : Int).toNat : Nat) : Int)) = _; rw [show ((((k : Int).toNat : Nat) : Int)) = k by omega]) ?_
  have tb1 := pi_7 (MW.pi hM) k
  refine x_iconst B dX12_isMan_6 ?_
  refine x_icmp_ge B (by omega) (tgt := 14) dX12_isMan_7 (by decide) (fun c2 => ?_) (fun c2 => ?_)
  · refine x_iconst B dX12_isMan_14 ?_
    refine y_rz B hQ h (by decide) (by decide) dX12_isMan_15 ?_
    exact ⟨rfl, _, rfl, Or.inr ⟨rfl, (by first | omega | trivial | assumption)⟩⟩
  · refine x_iconst B dX12_isMan_10 ?_
    refine lv_goto (tgt := 15) B.1 B.2.1 dX12_isMan_11 (by decide) ?_
    refine y_rz B hQ h (by decide) (by decide) dX12_isMan_15 ?_
    exact ⟨rfl, _, rfl, Or.inl ⟨rfl, (by first | omega | trivial | assumption)⟩⟩
abbrev r_c_X12_writer_y : Room := { frames := 1, cells := 0, slots := 0, locals := 24 }
set_option maxHeartbeats 4000000 in
set_option maxRecDepth 100000 in
theorem c_X12_writer_y (l : Launch) (D : va_G) (Zk : yK) (ca : Nat → ClassId) (T : Nat → Int → Int) (E : Nat → Int → Int) (am : Nat → Nat) (v0 w : yW) (hM : MW ca T E am v0) (hv0 : ∀ k : Nat, k ≠ 86 → k ≠ 87 → w k = v0 k) (k : Int)  (hk : 0 ≤ k ∧ k < T 0 2) : yC l D Zk ca yX12_writer cX12_writer 2 (some .int) r_c_X12_writer_y [.ref (am 0), .int (iI k)] w (vI w (fun z => z = T 3 (1000 * T 4 k + T 5 k))) := by
  refine yC.of2 "WindWordsModel" (by decide) rfl (Nat.le_of_ble_eq_true rfl) ?_
  intro p e s m args below meth c A ls Qf B hnm h hl hQ
  have hl : lv_has ls 2 [(0, .ref (am 0)), (1, .int (iI k))] := hl
  have hs := pi_s (MW.pi hM)
  have hpe := pe_0 (MW.pe hM)
  refine lv_aload_n B.1 B.2.1 dX12_writer_0 rfl (lv_at hl 0 rfl) ?_
  refine lv_aload_n B.1 B.2.1 dX12_writer_1 rfl (lv_at hl 0 rfl) ?_
  refine y_getR B h kX12 50 ((hv0 (50) (by omega) (by omega)).trans ((MW.f hM 0 _ rfl))) 14 (b := am 9) rfl m_1275 (by decide) dX12_writer_2 ?_
  refine lv_iload_n B.1 B.2.1 dX12_writer_5 rfl (lv_at hl 1 rfl) ?_
  refine y_ialdX B h 59 ((hv0 (59) (by omega) (by omega)).trans ((MW.f hM 9 _ rfl))) (by omega) dX12_writer_6 ?_
  refine x_iset (z := (T 4 k)) (by show iI (T 4 (((k : Int).toNat : Nat) : Int)) = _; rw [show ((((k : Int).toNat : Nat) : Int)) = k by omega]) ?_
  have tb1 := pi_4 (MW.pi hM) k
  refine lv_aload_n B.1 B.2.1 dX12_writer_7 rfl (lv_at hl 0 rfl) ?_
  refine y_getR B h kX12 50 ((hv0 (50) (by omega) (by omega)).trans ((MW.f hM 0 _ rfl))) 15 (b := am 10) rfl m_1276 (by decide) dX12_writer_8 ?_
  refine lv_iload_n B.1 B.2.1 dX12_writer_11 rfl (lv_at hl 1 rfl) ?_
  refine y_ialdX B h 60 ((hv0 (60) (by omega) (by omega)).trans ((MW.f hM 10 _ rfl))) (by omega) dX12_writer_12 ?_
  refine x_iset (z := (T 5 k)) (by show iI (T 5 (((k : Int).toNat : Nat) : Int)) = _; rw [show ((((k : Int).toNat : Nat) : Int)) = k by omega]) ?_
  have tb2 := pi_5 (MW.pi hM) k
  refine y_cV B h kX12 50 ((hv0 (50) (by omega) (by omega)).trans ((MW.f hM 0 _ rfl))) k_X12_officerOf rfl (c_X12_officerOf_y l D Zk ca T E am _ _ hM hv0 ((T 4 k)) ((T 5 k))  (by omega) (by omega)) m_1683 rfl (by decide) hl.1 [] (Nat.le_of_ble_eq_true rfl) rfl dX12_writer_13 (fun r w1 hq H locs h => ?_)
  obtain ⟨rfl, z3, rfl, hz3⟩ := hq
  show W p l e r_c_X12_writer_y s m args below meth c _ _ 0 0 Qf (F0 m 16 ls [.int (iI z3)])
  refine y_ri B hQ h (by decide) dX12_writer_16 ?_
  have q9 := pi_sg (MW.pi hM) (s := T 4 k) (v := T 5 k) ⟨by omega, pi_in (MW.pi hM) k hk⟩ (by omega)
  exact ⟨rfl, _, rfl, by omega⟩
abbrev r_c_X12_areInSight_y : Room := { frames := 2, cells := 0, slots := 0, locals := 43 }
set_option maxHeartbeats 4000000 in
set_option maxRecDepth 100000 in
theorem c_X12_areInSight_y (l : Launch) (D : va_G) (Zk : yK) (ca : Nat → ClassId) (T : Nat → Int → Int) (E : Nat → Int → Int) (am : Nat → Nat) (v0 w : yW) (hM : MW ca T E am v0) (hv0 : ∀ k : Nat, k ≠ 86 → k ≠ 87 → w k = v0 k) (a : Int) (b : Int)  (ha : 0 ≤ a ∧ a < T 0 2) (hb : 0 ≤ b ∧ b < T 0 2) : yC l D Zk ca yX12_areInSight cX12_areInSight 3 (some .boolean) r_c_X12_areInSight_y [.ref (am 0), .int (iI a), .int (iI b)] w (vI w (fun z => (z = 1 ∧ (SEE T a b)) ∨ (z = 0 ∧ (¬ (SEE T a b))))) := by
  refine yC.of2 "WindWordsModel" (by decide) rfl (Nat.le_of_ble_eq_true rfl) ?_
  intro p e s m args below meth c A ls Qf B hnm h hl hQ
  have hl : lv_has ls 3 [(0, .ref (am 0)), (1, .int (iI a)), (2, .int (iI b))] := hl
  have hs := pi_s (MW.pi hM)
  have hpe := pe_0 (MW.pe hM)
  refine lv_aload_n B.1 B.2.1 dX12_areInSight_0 rfl (lv_at hl 0 rfl) ?_
  refine y_getR B h kX12 50 ((hv0 (50) (by omega) (by omega)).trans ((MW.f hM 0 _ rfl))) 15 (b := am 10) rfl m_1276 (by decide) dX12_areInSight_1 ?_
  refine lv_iload_n B.1 B.2.1 dX12_areInSight_4 rfl (lv_at hl 1 rfl) ?_
  refine y_ialdX B h 60 ((hv0 (60) (by omega) (by omega)).trans ((MW.f hM 10 _ rfl))) (by omega) dX12_areInSight_5 ?_
  refine x_iset (z := (T 5 a)) (by show iI (T 5 (((a : Int).toNat : Nat) : Int)) = _; rw [show ((((a : Int).toNat : Nat) : Int)) = a by omega]) ?_
  have tb1 := pi_5 (MW.pi hM) a
  refine lv_aload_n B.1 B.2.1 dX12_areInSight_6 rfl (lv_at hl 0 rfl) ?_
  refine y_getR B h kX12 50 ((hv0 (50) (by omega) (by omega)).trans ((MW.f hM 0 _ rfl))) 15 (b := am 10) rfl m_1276 (by decide) dX12_areInSight_7 ?_
  refine lv_iload_n B.1 B.2.1 dX12_areInSight_10 rfl (lv_at hl 2 rfl) ?_
  refine y_ialdX B h 60 ((hv0 (60) (by omega) (by omega)).trans ((MW.f hM 10 _ rfl))) (by omega) dX12_areInSight_11 ?_
  refine x_iset (z := (T 5 b)) (by show iI (T 5 (((b : Int).toNat : Nat) : Int)) = _; rw [show ((((b : Int).toNat : Nat) : Int)) = b by omega]) ?_
  have tb2 := pi_5 (MW.pi hM) b
  refine x_icmp_ne B (by omega) (tgt := 56) dX12_areInSight_12 (by decide) (fun c3 => ?_) (fun c3 => ?_)
  · refine x_iconst B dX12_areInSight_56 ?_
    refine y_rz B hQ h (by decide) (by decide) dX12_areInSight_57 ?_
    exact ⟨rfl, _, rfl, Or.inr ⟨rfl, (by first | omega | trivial | assumption)⟩⟩
  · refine lv_aload_n B.1 B.2.1 dX12_areInSight_15 rfl (lv_at hl 0 rfl) ?_
    refine y_getR B h kX12 50 ((hv0 (50) (by omega) (by omega)).trans ((MW.f hM 0 _ rfl))) 14 (b := am 9) rfl m_1275 (by decide) dX12_areInSight_16 ?_
    refine lv_iload_n B.1 B.2.1 dX12_areInSight_19 rfl (lv_at hl 1 rfl) ?_
    refine y_ialdX B h 59 ((hv0 (59) (by omega) (by omega)).trans ((MW.f hM 9 _ rfl))) (by omega) dX12_areInSight_20 ?_
    refine x_iset (z := (T 4 a)) (by show iI (T 4 (((a : Int).toNat : Nat) : Int)) = _; rw [show ((((a : Int).toNat : Nat) : Int)) = a by omega]) ?_
    have tb4 := pi_4 (MW.pi hM) a
    refine lv_aload_n B.1 B.2.1 dX12_areInSight_21 rfl (lv_at hl 0 rfl) ?_
    refine y_getR B h kX12 50 ((hv0 (50) (by omega) (by omega)).trans ((MW.f hM 0 _ rfl))) 14 (b := am 9) rfl m_1275 (by decide) dX12_areInSight_22 ?_
    refine lv_iload_n B.1 B.2.1 dX12_areInSight_25 rfl (lv_at hl 2 rfl) ?_
    refine y_ialdX B h 59 ((hv0 (59) (by omega) (by omega)).trans ((MW.f hM 9 _ rfl))) (by omega) dX12_areInSight_26 ?_
    refine x_iset (z := (T 4 b)) (by show iI (T 4 (((b : Int).toNat : Nat) : Int)) = _; rw [show ((((b : Int).toNat : Nat) : Int)) = b by omega]) ?_
    have tb5 := pi_4 (MW.pi hM) b
    refine x_icmp_eq B (by omega) (tgt := 56) dX12_areInSight_27 (by decide) (fun c6 => ?_) (fun c6 => ?_)
    · refine x_iconst B dX12_areInSight_56 ?_
      refine y_rz B hQ h (by decide) (by decide) dX12_areInSight_57 ?_
      exact ⟨rfl, _, rfl, Or.inr ⟨rfl, (by first | omega | trivial | assumption)⟩⟩
    · refine lv_aload_n B.1 B.2.1 dX12_areInSight_30 rfl (lv_at hl 0 rfl) ?_
      refine y_getR B h kX12 50 ((hv0 (50) (by omega) (by omega)).trans ((MW.f hM 0 _ rfl))) 16 (b := am 11) rfl m_1277 (by decide) dX12_areInSight_31 ?_
      refine lv_iload_n B.1 B.2.1 dX12_areInSight_34 rfl (lv_at hl 1 rfl) ?_
      refine y_ialdX B h 61 ((hv0 (61) (by omega) (by omega)).trans ((MW.f hM 11 _ rfl))) (by omega) dX12_areInSight_35 ?_
      refine x_iset (z := (T 6 a)) (by show iI (T 6 (((a : Int).toNat : Nat) : Int)) = _; rw [show ((((a : Int).toNat : Nat) : Int)) = a by omega]) ?_
      have tb7 := pi_6 (MW.pi hM) a
      refine lv_aload_n B.1 B.2.1 dX12_areInSight_36 rfl (lv_at hl 0 rfl) ?_
      refine y_getR B h kX12 50 ((hv0 (50) (by omega) (by omega)).trans ((MW.f hM 0 _ rfl))) 16 (b := am 11) rfl m_1277 (by decide) dX12_areInSight_37 ?_
      refine lv_iload_n B.1 B.2.1 dX12_areInSight_40 rfl (lv_at hl 2 rfl) ?_
      refine y_ialdX B h 61 ((hv0 (61) (by omega) (by omega)).trans ((MW.f hM 11 _ rfl))) (by omega) dX12_areInSight_41 ?_
      refine x_iset (z := (T 6 b)) (by show iI (T 6 (((b : Int).toNat : Nat) : Int)) = _; rw [show ((((b : Int).toNat : Nat) : Int)) = b by omega]) ?_
      have tb8 := pi_6 (MW.pi hM) b
      refine y_cS B h k_X12_far (c_X12_far l D Zk ca _ ((T 6 a)) ((T 6 b))  (by omega) (by omega)) m_1744 rfl (by decide) hl.1 [] (Nat.le_of_ble_eq_true rfl) rfl dX12_areInSight_42 (fun r w1 hq H locs h => ?_)
      obtain ⟨rfl, z9, rfl, hz9⟩ := hq
      show W p l e r_c_X12_areInSight_y s m args below meth c _ _ 0 0 Qf (F0 m 45 ls [.int (iI z9)])
      refine lv_aload_n B.1 B.2.1 dX12_areInSight_45 rfl (lv_at hl 0 rfl) ?_
      refine y_getX B h kX12 50 ((hv0 (50) (by omega) (by omega)).trans ((MW.f hM 0 _ rfl))) 5 (z := (T 0 4)) rfl m_1266 (by decide) dX12_areInSight_46 ?_
      refine x_icmp_gt B (by omega) (tgt := 56) dX12_areInSight_49 (by decide) (fun c10 => ?_) (fun c10 => ?_)
      · refine x_iconst B dX12_areInSight_56 ?_
        refine y_rz B hQ h (by decide) (by decide) dX12_areInSight_57 ?_
        exact ⟨rfl, _, rfl, Or.inr ⟨rfl, (by first | omega | trivial | assumption)⟩⟩
      · refine x_iconst B dX12_areInSight_52 ?_
        refine lv_goto (tgt := 57) B.1 B.2.1 dX12_areInSight_53 (by decide) ?_
        refine y_rz B hQ h (by decide) (by decide) dX12_areInSight_57 ?_
        exact ⟨rfl, _, rfl, Or.inl ⟨rfl, (by first | omega | trivial | assumption)⟩⟩
abbrev r_c_X12_beside_e_y : Room := { frames := 3, cells := 0, slots := 0, locals := 65 }
set_option maxHeartbeats 4000000 in
set_option maxRecDepth 100000 in
theorem c_X12_beside_e_y (l : Launch) (D : va_G) (Zk : yK) (ca : Nat → ClassId) (T : Nat → Int → Int) (E : Nat → Int → Int) (am : Nat → Nat) (v0 w : yW) (hM : MW ca T E am v0) (hv0 : ∀ k : Nat, k ≠ 86 → k ≠ 87 → w k = v0 k) (k : Int)  (hk : 0 ≤ k ∧ k < T 0 2) : yC l D Zk ca yX12_beside cX12_beside 3 (some .int) r_c_X12_beside_e_y [.ref (am 0), .int (iI k)] w (vI w (fun z => (z = -1 ∧ ∀ j : Int, 0 ≤ j ∧ j < T 0 2 → ¬ (SEE T k j ∧ T 7 j ≠ 3)) ∨ ((0 ≤ z ∧ z < T 0 2) ∧ BES T k z))) := by
  refine yC.of2 "WindWordsModel" (by decide) rfl (Nat.le_of_ble_eq_true rfl) ?_
  intro p e s m args below meth c A ls Qf B hnm h hl hQ
  have hl : lv_has ls 3 [(0, .ref (am 0)), (1, .int (iI k))] := hl
  have hs := pi_s (MW.pi hM)
  refine x_iconst B dX12_beside_0 ?_
  refine lv_istore_n (lv' := [(2, .int (iI 0)), (0, .ref (am 0)), (1, .int (iI k))]) B.1 B.2.1 dX12_beside_1 rfl hl (by decide) rfl (fun ls hl => ?_)
  have loop2 : ∀ (n2 : Nat) (b : Int), (0 ≤ b ∧ b ≤ T 0 2) → (∀ j : Int, 0 ≤ j ∧ j < b → ¬ (SEE T k j ∧ T 7 j ≠ 3)) → ((300 - b : Int)).toNat < n2 → ∀ (H : Heap) (locs : List Loc) (ls : Array Slot), yH D Zk A s w H locs → lv_has ls 3 [(2, .int (iI b)), (0, .ref (am 0)), (1, .int (iI k))] → W p l e r_c_X12_beside_e_y s m args below meth c H locs 0 0 Qf (F0 m 2 ls []) := by
    intro n2
    induction n2 with
    | zero =>
      intro b h0 h1 hm2 H locs ls h hl
      exact absurd hm2 (Nat.not_lt_zero _)
    | succ n2 ih2 =>
      intro b h0 h1 hm2 H locs ls h hl
      refine lv_iload_n B.1 B.2.1 dX12_beside_2 rfl (lv_at hl 0 rfl) ?_
      refine lv_aload_n B.1 B.2.1 dX12_beside_3 rfl (lv_at hl 1 rfl) ?_
      refine y_getX B h kX12 50 ((hv0 (50) (by omega) (by omega)).trans ((MW.f hM 0 _ rfl))) 4 (z := (T 0 2)) rfl m_1265 (by decide) dX12_beside_4 ?_
      refine x_icmp_ge B (by omega) (tgt := 35) dX12_beside_7 (by decide) (fun c1 => ?_) (fun c1 => ?_)
      · refine x_iconst B dX12_beside_35 ?_
        refine y_ri B hQ h (by decide) dX12_beside_36 ?_
        exact ⟨rfl, _, rfl, Or.inl ⟨rfl, fun j hj => h1 j (by omega)⟩⟩
      · refine lv_aload_n B.1 B.2.1 dX12_beside_10 rfl (lv_at hl 1 rfl) ?_
        refine lv_iload_n B.1 B.2.1 dX12_beside_11 rfl (lv_at hl 0 rfl) ?_
        refine y_cV B h kX12 50 ((hv0 (50) (by omega) (by omega)).trans ((MW.f hM 0 _ rfl))) k_X12_isMan rfl (c_X12_isMan_y l D Zk ca T E am _ _ hM hv0 b  (by omega)) m_1728 rfl (by decide) hl.1 [] (Nat.le_of_ble_eq_true rfl) rfl dX12_beside_12 (fun r w1 hq H locs h => ?_)
        obtain ⟨rfl, _, rfl, ⟨rfl, b2⟩ | ⟨rfl, b2⟩⟩ := hq
        · show W p l e r_c_X12_beside_e_y s m args below meth c _ _ 0 0 Qf (F0 m 15 ls [.int (iI 1)])
          refine x_if_eq B (by omega) (tgt := 29) dX12_beside_15 (by decide) (fun c3 => ?_) (fun c3 => ?_)
          · exact absurd c3 (by omega)
          · refine lv_aload_n B.1 B.2.1 dX12_beside_18 rfl (lv_at hl 1 rfl) ?_
            refine lv_iload_n B.1 B.2.1 dX12_beside_19 rfl (lv_at hl 2 rfl) ?_
            refine lv_iload_n B.1 B.2.1 dX12_beside_20 rfl (lv_at hl 0 rfl) ?_
            refine y_cV B h kX12 50 ((hv0 (50) (by omega) (by omega)).trans ((MW.f hM 0 _ rfl))) k_X12_areInSight rfl (c_X12_areInSight_y l D Zk ca T E am _ _ hM hv0 k b  (by omega) (by omega)) m_1740 rfl (by decide) hl.1 [] (Nat.le_of_ble_eq_true rfl) rfl dX12_beside_21 (fun r w1 hq H locs h => ?_)
            obtain ⟨rfl, _, rfl, ⟨rfl, b4⟩ | ⟨rfl, b4⟩⟩ := hq
            · show W p l e r_c_X12_beside_e_y s m args below meth c _ _ 0 0 Qf (F0 m 24 ls [.int (iI 1)])
              refine x_if_eq B (by omega) (tgt := 29) dX12_beside_24 (by decide) (fun c5 => ?_) (fun c5 => ?_)
              · exact absurd c5 (by omega)
              · refine lv_iload_n B.1 B.2.1 dX12_beside_27 rfl (lv_at hl 0 rfl) ?_
                refine y_ri B hQ h (by decide) dX12_beside_28 ?_
                exact ⟨rfl, _, rfl, Or.inr ⟨by omega, by omega, by assumption, by assumption, fun j hj hs hm => by by_cases q : j < b; exact absurd ⟨hs, hm⟩ (h1 j (by omega)); omega⟩⟩
            · show W p l e r_c_X12_beside_e_y s m args below meth c _ _ 0 0 Qf (F0 m 24 ls [.int (iI 0)])
              refine x_if_eq B (by omega) (tgt := 29) dX12_beside_24 (by decide) (fun c6 => ?_) (fun c6 => ?_)
              · refine lv_iinc (v := iI (b + 1)) (lv' := [(2, .int (iI (b + 1))), (0, .ref (am 0)), (1, .int (iI k))]) B.1 B.2.1 dX12_beside_29 hl (k := 0) rfl (iI_add _ _) (by decide) rfl (fun ls hl => ?_)
                refine lv_goto (tgt := 2) B.1 B.2.1 dX12_beside_32 (by decide) ?_
                exact ih2 ((b + 1)) (by omega) (all_next h1 (fun ⟨x, y⟩ => by first | contradiction | omega)) (by omega) _ _ _ h (lv_sub hl [0, 1, 2] rfl)
              · exact absurd c6 (by omega)
        · show W p l e r_c_X12_beside_e_y s m args below meth c _ _ 0 0 Qf (F0 m 15 ls [.int (iI 0)])
          refine x_if_eq B (by omega) (tgt := 29) dX12_beside_15 (by decide) (fun c7 => ?_) (fun c7 => ?_)
          · refine lv_iinc (v := iI (b + 1)) (lv' := [(2, .int (iI (b + 1))), (0, .ref (am 0)), (1, .int (iI k))]) B.1 B.2.1 dX12_beside_29 hl (k := 0) rfl (iI_add _ _) (by decide) rfl (fun ls hl => ?_)
            refine lv_goto (tgt := 2) B.1 B.2.1 dX12_beside_32 (by decide) ?_
            exact ih2 ((b + 1)) (by omega) (all_next h1 (fun ⟨x, y⟩ => by first | contradiction | omega)) (by omega) _ _ _ h (lv_sub hl [0, 1, 2] rfl)
          · exact absurd c7 (by omega)
  exact loop2 (((300 - 0 : Int)).toNat + 1) 0 (by omega) (fun j hj => absurd hj (by omega)) (Nat.lt_succ_self _) _ _ _ h (lv_sub hl [0, 1, 2] rfl)
abbrev r_c_X12_bitsOf_e : Room := { frames := 0, cells := 0, slots := 0, locals := 0 }
set_option maxHeartbeats 4000000 in
set_option maxRecDepth 100000 in
theorem c_X12_bitsOf_e (l : Launch) (D : va_G) (Zk : yK) (ca : Nat → ClassId) (w : yW) (v : Int)  (hv : 0 ≤ v ∧ v ≤ 4095) : yC l D Zk ca yX12_bitsOf cX12_bitsOf 3 (some .int) r_c_X12_bitsOf_e [.int (iI v)] w (vI w (fun z => z = pcn v 12 ∧ 0 ≤ z ∧ z ≤ 12)) := by
  refine yC.of2 "WindWordsModel" (by decide) rfl (Nat.le_of_ble_eq_true rfl) ?_
  intro p e s m args below meth c A ls Qf B hnm h hl hQ
  have hl : lv_has ls 3 [(0, .int (iI v))] := hl
  refine x_iconst B dX12_bitsOf_0 ?_
  refine lv_istore_n (lv' := [(1, .int (iI 0)), (0, .int (iI v))]) B.1 B.2.1 dX12_bitsOf_1 rfl hl (by decide) rfl (fun ls hl => ?_)
  refine x_iconst B dX12_bitsOf_2 ?_
  refine lv_istore_n (lv' := [(2, .int (iI 0)), (1, .int (iI 0)), (0, .int (iI v))]) B.1 B.2.1 dX12_bitsOf_3 rfl hl (by decide) rfl (fun ls hl => ?_)
  have loop4 : ∀ (n4 : Nat) (n : Int) (k : Int), (0 ≤ k ∧ k ≤ 12) → (n = pcn v k.toNat) → ((12 - k : Int)).toNat < n4 → ∀ (H : Heap) (locs : List Loc) (ls : Array Slot), yH D Zk A s w H locs → lv_has ls 3 [(2, .int (iI k)), (1, .int (iI n)), (0, .int (iI v))] → W p l e r_c_X12_bitsOf_e s m args below meth c H locs 0 0 Qf (F0 m 4 ls []) := by
    intro n4
    induction n4 with
    | zero =>
      intro n k h0 h1 hm4 H locs ls h hl
      exact absurd hm4 (Nat.not_lt_zero _)
    | succ n4 ih4 =>
      intro n k h0 h1 hm4 H locs ls h hl
      refine lv_iload_n B.1 B.2.1 dX12_bitsOf_4 rfl (lv_at hl 0 rfl) ?_
      refine x_bipush B (by decide) dX12_bitsOf_5 ?_
      refine x_icmp_ge B (by omega) (tgt := 24) dX12_bitsOf_7 (by decide) (fun c1 => ?_) (fun c1 => ?_)
      · refine lv_iload_n B.1 B.2.1 dX12_bitsOf_24 rfl (lv_at hl 1 rfl) ?_
        refine y_ri B hQ h (by decide) dX12_bitsOf_25 ?_
        have e9 : k = 12 := by omega
        rw [e9] at h1
        have r9 := pcn_r v 12
        exact ⟨rfl, _, rfl, h1, by rw [h1]; exact r9.1, by rw [h1]; exact r9.2⟩
      · refine lv_iload_n B.1 B.2.1 dX12_bitsOf_10 rfl (lv_at hl 1 rfl) ?_
        refine lv_iload_n B.1 B.2.1 dX12_bitsOf_11 rfl (lv_at hl 2 rfl) ?_
        refine lv_iload_n B.1 B.2.1 dX12_bitsOf_12 rfl (lv_at hl 0 rfl) ?_
        refine lv_ishr B.1 B.2.1 dX12_bitsOf_13 ?_
        refine x_iset (z := (shri v k)) (iI_of _) ?_
        refine x_iconst B dX12_bitsOf_14 ?_
        refine lv_iand B.1 B.2.1 dX12_bitsOf_15 ?_
        have hb2 := bn_r v (k).toNat
        refine x_iset (z := (bn v (k).toNat)) (bit_e (by omega)) ?_
        refine x_iadd B dX12_bitsOf_16 ?_
        refine lv_istore_n (lv' := [(1, .int (iI (n + (bn v (k).toNat)))), (2, .int (iI k)), (0, .int (iI v))]) B.1 B.2.1 dX12_bitsOf_17 rfl hl (by decide) rfl (fun ls hl => ?_)
        refine lv_iinc (v := iI (k + 1)) (lv' := [(2, .int (iI (k + 1))), (1, .int (iI (n + (bn v (k).toNat)))), (0, .int (iI v))]) B.1 B.2.1 dX12_bitsOf_18 hl (k := 1) rfl (iI_add _ _) (by decide) rfl (fun ls hl => ?_)
        refine lv_goto (tgt := 4) B.1 B.2.1 dX12_bitsOf_21 (by decide) ?_
        exact ih4 ((n + (bn v (k).toNat))) ((k + 1)) (by omega) (by have e8 := pcn_next (t := v) (k := k) (by omega); omega) (by omega) _ _ _ h (lv_sub hl [0, 1, 2] rfl)
  exact loop4 (((12 - 0 : Int)).toNat + 1) 0 0 (by omega) rfl (Nat.lt_succ_self _) _ _ _ h (lv_sub hl [0, 1, 2] rfl)
abbrev r_c_X12_lead_e : Room := { frames := 0, cells := 0, slots := 0, locals := 0 }
set_option maxHeartbeats 4000000 in
set_option maxRecDepth 100000 in
theorem c_X12_lead_e (l : Launch) (D : va_G) (Zk : yK) (ca : Nat → ClassId) (w : yW) (ones : Int) (oneC : Int) (all : Int) (count : Int)  (hb : (-144 ≤ ones ∧ ones ≤ 144) ∧ -144 ≤ all - ones ∧ all - ones ≤ 144) (hones : xr ones) (honeC : 0 ≤ oneC ∧ oneC ≤ 12) (hall : xr all) (hcount : 0 ≤ count ∧ count ≤ 12) : yC l D Zk ca yX12_lead cX12_lead 4 (some .int) r_c_X12_lead_e [.int (iI ones), .int (iI oneC), .int (iI all), .int (iI count)] w (vI w (fun z => z = ones * (count - oneC) - (all - ones) * oneC ∧ -3456 ≤ z ∧ z ≤ 3456)) := by
  refine yC.of2 "WindWordsModel" (by decide) rfl (Nat.le_of_ble_eq_true rfl) ?_
  intro p e s m args below meth c A ls Qf B hnm h hl hQ
  have hl : lv_has ls 4 [(0, .int (iI ones)), (1, .int (iI oneC)), (2, .int (iI all)), (3, .int (iI count))] := hl
  refine lv_iload_n B.1 B.2.1 dX12_lead_0 rfl (lv_at hl 0 rfl) ?_
  refine lv_iload_n B.1 B.2.1 dX12_lead_1 rfl (lv_at hl 3 rfl) ?_
  refine lv_iload_n B.1 B.2.1 dX12_lead_2 rfl (lv_at hl 1 rfl) ?_
  refine x_isub B dX12_lead_3 ?_
  refine x_imul B dX12_lead_4 ?_
  refine lv_iload_n B.1 B.2.1 dX12_lead_5 rfl (lv_at hl 2 rfl) ?_
  refine lv_iload_n B.1 B.2.1 dX12_lead_6 rfl (lv_at hl 0 rfl) ?_
  refine x_isub B dX12_lead_7 ?_
  refine lv_iload_n B.1 B.2.1 dX12_lead_8 rfl (lv_at hl 1 rfl) ?_
  refine x_imul B dX12_lead_9 ?_
  refine x_isub B dX12_lead_10 ?_
  refine y_ri B hQ h (by decide) dX12_lead_11 ?_
  have m1 := mul12 (a := ones) (b := count - oneC) (by omega) (by omega)
  have m2 := mul12 (a := all - ones) (b := oneC) (by omega) (by omega)
  exact ⟨rfl, _, rfl, rfl, by omega, by omega⟩
abbrev r_c_X12_wished_e : Room := { frames := 4, cells := 0, slots := 0, locals := 87 }
set_option maxHeartbeats 4000000 in
set_option maxRecDepth 100000 in
theorem c_X12_wished_e (l : Launch) (D : va_G) (Zk : yK) (ca : Nat → ClassId) (T : Nat → Int → Int) (E : Nat → Int → Int) (am : Nat → Nat) (w : yW) (hM : MW ca T E am w) (o : Int) (what : Int)  (ho : xr o) (hwhat : xr what) : yC l D Zk ca yX12_wished cX12_wished 12 (some .int) r_c_X12_wished_e [.ref (am 0), .int (iI o), .int (iI what)] w (vI w (fun z => xr z ∧ WSD T o what z)) := by
  refine yC.of2 "WindWordsModel" (by decide) rfl (Nat.le_of_ble_eq_true rfl) ?_
  intro p e s m args below meth c A ls Qf B hnm h hl hQ
  have hl : lv_has ls 12 [(0, .ref (am 0)), (1, .int (iI o)), (2, .int (iI what))] := hl
  have hs := pi_s (MW.pi hM)
  have hpe := pe_0 (MW.pe hM)
  refine lv_aload_n B.1 B.2.1 dX12_wished_0 rfl (lv_at hl 0 rfl) ?_
  refine lv_iload_n B.1 B.2.1 dX12_wished_1 rfl (lv_at hl 1 rfl) ?_
  refine y_cV B h kX12 50 (MW.f hM 0 _ rfl) k_X12_isOfficer rfl (c_X12_isOfficer l D Zk ca T E am _ hM o  (by omega)) m_1518 rfl (by decide) hl.1 [] (Nat.le_of_ble_eq_true rfl) rfl dX12_wished_2 (fun r w1 hq H locs h => ?_)
  obtain ⟨rfl, _, rfl, ⟨rfl, b1⟩ | ⟨rfl, b1⟩⟩ := hq
  · show W p l e r_c_X12_wished_e s m args below meth c _ _ 0 0 Qf (F0 m 5 ls [.int (iI 1)])
    refine x_if_eq B (by omega) (tgt := 17) dX12_wished_5 (by decide) (fun c2 => ?_) (fun c2 => ?_)
    · exact absurd c2 (by omega)
    · refine lv_iload_n B.1 B.2.1 dX12_wished_8 rfl (lv_at hl 2 rfl) ?_
      refine x_iconst B dX12_wished_9 ?_
      refine x_iconst B dX12_wished_10 ?_
      refine y_cS B h k_X12_within (c_X12_within l D Zk ca _ what 0 3  (by omega) (by omega) (by omega)) m_1515 rfl (by decide) hl.1 [] (Nat.le_of_ble_eq_true rfl) rfl dX12_wished_11 (fun r w1 hq H locs h => ?_)
      obtain ⟨rfl, _, rfl, ⟨rfl, b3⟩ | ⟨rfl, b3⟩⟩ := hq
      · show W p l e r_c_X12_wished_e s m args below meth c _ _ 0 0 Qf (F0 m 14 ls [.int (iI 1)])
        refine x_if_ne B (by omega) (tgt := 21) dX12_wished_14 (by decide) (fun c4 => ?_) (fun c4 => ?_)
        · obtain ⟨g5, hg5, h⟩ := yH.pinA h (MW.f hM 36 _ rfl)
          have h : yH D Zk A s ((wu w 86 (am 36, xAI (ca 0) 12 (gX 12 g5)))) _ _ := h
          obtain ⟨g6, hg6, h⟩ := yH.pinG h (wu_at (MW.f hM 37 _ rfl) (by decide))
          have h : yH D Zk A s ((wu (wu w 86 (am 36, xAI (ca 0) 12 (gX 12 g5))) 87 (am 37, xAI (ca 2) 12 (gX 12 g6)))) _ _ := h
          refine x_iconst B dX12_wished_21 ?_
          refine lv_istore_n (lv' := [(3, .int (iI 0)), (0, .ref (am 0)), (1, .int (iI o)), (2, .int (iI what))]) B.1 B.2.1 dX12_wished_22 rfl hl (by decide) rfl (fun ls hl => ?_)
          refine x_iconst B dX12_wished_23 ?_
          refine lv_istore (lv' := [(4, .int (iI 0)), (3, .int (iI 0)), (0, .ref (am 0)), (1, .int (iI o)), (2, .int (iI what))]) B.1 B.2.1 dX12_wished_24 hl (by decide) rfl (fun ls hl => ?_)
          refine x_iconst B dX12_wished_26 ?_
          refine lv_istore (lv' := [(5, .int (iI 0)), (4, .int (iI 0)), (3, .int (iI 0)), (0, .ref (am 0)), (1, .int (iI o)), (2, .int (iI what))]) B.1 B.2.1 dX12_wished_27 hl (by decide) rfl (fun ls hl => ?_)
          refine x_iconst B dX12_wished_29 ?_
          refine lv_istore (lv' := [(6, .int (iI 0)), (5, .int (iI 0)), (4, .int (iI 0)), (3, .int (iI 0)), (0, .ref (am 0)), (1, .int (iI o)), (2, .int (iI what))]) B.1 B.2.1 dX12_wished_30 hl (by decide) rfl (fun ls hl => ?_)
          refine x_iconst B dX12_wished_32 ?_
          refine lv_istore (lv' := [(7, .int (iI 0)), (6, .int (iI 0)), (5, .int (iI 0)), (4, .int (iI 0)), (3, .int (iI 0)), (0, .ref (am 0)), (1, .int (iI o)), (2, .int (iI what))]) B.1 B.2.1 dX12_wished_33 hl (by decide) rfl (fun ls hl => ?_)
          have loop35 : ∀ (n35 : Nat) (n : Int) (pd : Int) (al : Int) (on_ : Int) (k : Int) (ga : Nat → Int) (gp : Nat → Int), (0 ≤ n ∧ n ≤ 12) → (0 ≤ k ∧ k ≤ T 0 2) → (n = wsn T o k.toNat) → (pd = pcn (wsl T o k.toNat) 12) → (al = S0 (wsa T o k.toNat) n.toNat) → (on_ = S1 (wsa T o k.toNat) (wsl T o k.toNat) n.toNat) → (∀ j : Nat, (j : Int) < n → ga j = wsa T o k.toNat j) → (∀ j : Nat, j < 12 → 0 ≤ gp j ∧ gp j ≤ 1) → ((300 - k : Int)).toNat < n35 → ∀ (H : Heap) (locs : List Loc) (ls : Array Slot), yH D Zk A s ((wu (wu w 86 (am 36, xAI (ca 0) 12 (gX 12 ga))) 87 (am 37, xAI (ca 2) 12 (gX 12 gp)))) H locs → lv_has ls 12 [(7, .int (iI k)), (6, .int (iI on_)), (5, .int (iI al)), (4, .int (iI pd)), (3, .int (iI n)), (0, .ref (am 0)), (1, .int (iI o)), (2, .int (iI what))] → W p l e r_c_X12_wished_e s m args below meth c H locs 0 0 Qf (F0 m 35 ls []) := by
            intro n35
            induction n35 with
            | zero =>
              intro n pd al on_ k ga gp h0 h1 hm hp ha ho hg9 hgp hm35 H locs ls h hl
              exact absurd hm35 (Nat.not_lt_zero _)
            | succ n35 ih35 =>
              intro n pd al on_ k ga gp h0 h1 hm hp ha ho hg9 hgp hm35 H locs ls h hl
              have hr9 := ws_r (o := o) (MW.pi hM) k.toNat
              rw [← hm] at hr9
              have hpr := pcn_r (wsl T o k.toNat) 12
              refine lv_iload B.1 B.2.1 dX12_wished_35 (lv_at hl 0 rfl) ?_
              refine lv_aload_n B.1 B.2.1 dX12_wished_37 rfl (lv_at hl 5 rfl) ?_
              refine y_getX B h kX12 50 (wu_at (wu_at (MW.f hM 0 _ rfl) (by decide)) (by decide)) 4 (z := (T 0 2)) rfl m_1265 (by decide) dX12_wished_38 ?_
              refine x_icmp_ge B (by omega) (tgt := 174) dX12_wished_41 (by decide) (fun c7 => ?_) (fun c7 => ?_)
              · have hE := ws_end (T := T) (o := o) (k := k) (N := T 0 2) (by omega) (by omega)
                have hgE : ∀ j : Nat, (j : Int) < n → -12 ≤ ga j ∧ ga j ≤ 12 := fun j hj => by rw [hg9 j hj]; exact hr9.2.2 j
                have hS := S_r (g := wsa T o k.toNat) (t := wsl T o k.toNat) n.toNat (fun j _ => hr9.2.2 j)
                have hpd := pcn_r (wsl T o k.toNat) 12
                refine lv_iload B.1 B.2.1 dX12_wished_174 (lv_at hl 1 rfl) ?_
                refine lv_iload B.1 B.2.1 dX12_wished_176 (lv_at hl 3 rfl) ?_
                refine lv_iload B.1 B.2.1 dX12_wished_178 (lv_at hl 2 rfl) ?_
                refine lv_iload_n B.1 B.2.1 dX12_wished_180 rfl (lv_at hl 4 rfl) ?_
                refine y_cS B h k_X12_lead (c_X12_lead_e l D Zk ca _ on_ pd al n  (by omega) (by omega) (by omega) (by omega) (by omega)) m_1841 rfl (by decide) hl.1 [] (Nat.le_of_ble_eq_true rfl) rfl dX12_wished_181 (fun r w1 hq H locs h => ?_)
                obtain ⟨rfl, ld9, rfl, hld9⟩ := hq
                show W p l e r_c_X12_wished_e s m args below meth c _ _ 0 0 Qf (F0 m 184 ls [.int (iI ld9)])
                refine lv_istore (lv' := [(7, .int (iI ld9)), (6, .int (iI on_)), (5, .int (iI al)), (4, .int (iI pd)), (3, .int (iI n)), (0, .ref (am 0)), (1, .int (iI o)), (2, .int (iI what))]) B.1 B.2.1 dX12_wished_184 hl (by decide) rfl (fun ls hl => ?_)
                have hLD : ld9 = LEAD (wsa T o k.toNat) (wsl T o k.toNat) n := by rw [hld9.1, ho, ha, hp]; rfl
                refine lv_iload_n B.1 B.2.1 dX12_wished_186 rfl (lv_at hl 7 rfl) ?_
                refine x_iconst B dX12_wished_187 ?_
                refine x_icmp_le B (by omega) (tgt := 203) dX12_wished_188 (by decide) (fun c9 => ?_) (fun c9 => ?_)
                · obtain ⟨lw, hlw⟩ : ∃ lw : Int, (what = 1 ∧ lw = -1000000) ∨ (what ≠ 1 ∧ lw = ld9) := by by_cases q : what = 1; exact ⟨-1000000, Or.inl ⟨q, rfl⟩⟩; exact ⟨ld9, Or.inr ⟨q, rfl⟩⟩
                  have hpn := P2_r (n := n) (by omega)
                  refine x_iconst B dX12_wished_203 ?_
                  refine lv_istore (lv' := [(8, .int (iI 0)), (7, .int (iI ld9)), (6, .int (iI on_)), (5, .int (iI al)), (4, .int (iI pd)), (3, .int (iI n)), (0, .ref (am 0)), (1, .int (iI o)), (2, .int (iI what))]) B.1 B.2.1 dX12_wished_204 hl (by decide) rfl (fun ls hl => ?_)
                  refine x_iconst B dX12_wished_206 ?_
                  refine lv_istore (lv' := [(9, .int (iI 0)), (8, .int (iI 0)), (7, .int (iI ld9)), (6, .int (iI on_)), (5, .int (iI al)), (4, .int (iI pd)), (3, .int (iI n)), (0, .ref (am 0)), (1, .int (iI o)), (2, .int (iI what))]) B.1 B.2.1 dX12_wished_207 hl (by decide) rfl (fun ls hl => ?_)
                  have loop209 : ∀ (n209 : Nat) (wy : Int) (bt : Int), (0 ≤ wy ∧ wy ≤ bt) → (0 ≤ bt ∧ bt ≤ P2 n) → (wy = cntp (fun x => pcn x 12 = pd ∧ lw ≤ LEAD ga x n) bt.toNat) → ((4096 - bt : Int)).toNat < n209 → ∀ (H : Heap) (locs : List Loc) (ls : Array Slot), yH D Zk A s ((wu (wu w 86 (am 36, xAI (ca 0) 12 (gX 12 ga))) 87 (am 37, xAI (ca 2) 12 (gX 12 gp)))) H locs → lv_has ls 12 [(9, .int (iI bt)), (8, .int (iI wy)), (7, .int (iI ld9)), (5, .int (iI al)), (4, .int (iI pd)), (3, .int (iI n)), (0, .ref (am 0)), (2, .int (iI what))] → W p l e r_c_X12_wished_e s m args below meth c H locs 0 0 Qf (F0 m 209 ls []) := by
                    intro n209
                    induction n209 with
                    | zero =>
                      intro wy bt k0 k1 kq hm209 H locs ls h hl
                      exact absurd hm209 (Nat.not_lt_zero _)
                    | succ n209 ih209 =>
                      intro wy bt k0 k1 kq hm209 H locs ls h hl
                      refine lv_iload B.1 B.2.1 dX12_wished_209 (lv_at hl 0 rfl) ?_
                      refine x_iconst B dX12_wished_211 ?_
                      refine lv_iload_n B.1 B.2.1 dX12_wished_212 rfl (lv_at hl 5 rfl) ?_
                      refine lv_ishl B.1 B.2.1 dX12_wished_213 ?_
                      have hp10 := P2_r (n := n) (by omega)
                      refine x_iset (z := (P2 n)) (shl_e (by omega)) ?_
                      refine x_icmp_ge B (by omega) (tgt := 311) dX12_wished_214 (by decide) (fun c11 => ?_) (fun c11 => ?_)
                      · refine lv_iload B.1 B.2.1 dX12_wished_311 (lv_at hl 1 rfl) ?_
                        have h : yH D Zk A s ((wu w 86 (am 36, xAI (ca 0) 12 (gX 12 ga)))) _ _ := yH.unpin h (wu_at (MW.f hM 37 _ rfl) (by decide)) (xAI_XG hgp)
                        have h : yH D Zk A s w _ _ := yH.unpin h (MW.f hM 36 _ rfl) (xAI_any)
                        refine y_ri B hQ h (by decide) dX12_wished_313 ?_
                        have hW : WSC T o what := ⟨by omega, by omega⟩
                        refine ⟨rfl, _, rfl, by omega, Or.inr ⟨hW, wsa T o (T 0 2).toNat, wsl T o (T 0 2).toNat, wsn T o (T 0 2).toNat, rfl, rfl, rfl, ?_⟩⟩
                        rw [hE.1, hE.2.1, hE.2.2, ← hm]
                        have eb : bt = P2 n := by omega
                        rw [eb, hp] at kq
                        rcases hlw with ⟨a, b⟩ | ⟨a, b⟩
                        · exact Or.inr (Or.inl ⟨a, kq.trans (WAYS_congr hg9 (by omega) b)⟩)
                        · exact Or.inl ⟨by omega, kq.trans (WAYS_congr hg9 (by omega) (b.trans hLD))⟩
                      · refine lv_iload B.1 B.2.1 dX12_wished_217 (lv_at hl 0 rfl) ?_
                        refine y_cS B h k_X12_bitsOf (c_X12_bitsOf_e l D Zk ca _ bt  (by omega)) m_1844 rfl (by decide) hl.1 [] (Nat.le_of_ble_eq_true rfl) rfl dX12_wished_219 (fun r w1 hq H locs h => ?_)
                        obtain ⟨rfl, tb, rfl, htb⟩ := hq
                        show W p l e r_c_X12_wished_e s m args below meth c _ _ 0 0 Qf (F0 m 222 ls [.int (iI tb)])
                        refine lv_iload B.1 B.2.1 dX12_wished_222 (lv_at hl 4 rfl) ?_
                        refine x_icmp_eq B (by omega) (tgt := 230) dX12_wished_224 (by decide) (fun c13 => ?_) (fun c13 => ?_)
                        · refine x_iconst B dX12_wished_230 ?_
                          refine lv_istore (lv' := [(10, .int (iI 0)), (9, .int (iI bt)), (8, .int (iI wy)), (7, .int (iI ld9)), (5, .int (iI al)), (4, .int (iI pd)), (3, .int (iI n)), (0, .ref (am 0)), (2, .int (iI what))]) B.1 B.2.1 dX12_wished_231 hl (by decide) rfl (fun ls hl => ?_)
                          refine x_iconst B dX12_wished_233 ?_
                          refine lv_istore (lv' := [(11, .int (iI 0)), (10, .int (iI 0)), (9, .int (iI bt)), (8, .int (iI wy)), (7, .int (iI ld9)), (5, .int (iI al)), (4, .int (iI pd)), (3, .int (iI n)), (0, .ref (am 0)), (2, .int (iI what))]) B.1 B.2.1 dX12_wished_234 hl (by decide) rfl (fun ls hl => ?_)
                          have loop236 : ∀ (n236 : Nat) (su : Int) (k2 : Int), (0 ≤ k2 ∧ k2 ≤ n) → (su = S1 ga bt k2.toNat) → ((12 - k2 : Int)).toNat < n236 → ∀ (H : Heap) (locs : List Loc) (ls : Array Slot), yH D Zk A s ((wu (wu w 86 (am 36, xAI (ca 0) 12 (gX 12 ga))) 87 (am 37, xAI (ca 2) 12 (gX 12 gp)))) H locs → lv_has ls 12 [(11, .int (iI k2)), (10, .int (iI su)), (9, .int (iI bt)), (8, .int (iI wy)), (7, .int (iI ld9)), (5, .int (iI al)), (4, .int (iI pd)), (3, .int (iI n)), (0, .ref (am 0)), (2, .int (iI what))] → W p l e r_c_X12_wished_e s m args below meth c H locs 0 0 Qf (F0 m 236 ls []) := by
                            intro n236
                            induction n236 with
                            | zero =>
                              intro su k2 j1 j2 hm236 H locs ls h hl
                              exact absurd hm236 (Nat.not_lt_zero _)
                            | succ n236 ih236 =>
                              intro su k2 j1 j2 hm236 H locs ls h hl
                              refine lv_iload B.1 B.2.1 dX12_wished_236 (lv_at hl 0 rfl) ?_
                              refine lv_iload_n B.1 B.2.1 dX12_wished_238 rfl (lv_at hl 7 rfl) ?_
                              refine x_icmp_ge B (by omega) (tgt := 275) dX12_wished_239 (by decide) (fun c14 => ?_) (fun c14 => ?_)
                              · have hk2 : k2 = n := by omega
                                rw [hk2] at j2
                                have hS2 := S_r (g := ga) (t := bt) n.toNat (fun j hj => hgE j (by omega))
                                have hal : al = S0 ga n.toNat := ha.trans (S0_congr n.toNat (fun j hj => (hg9 j (by omega)).symm))
                                have hLr := LEAD_r (g := ga) (t := bt) (n := n) (by omega) hgE
                                have hLE : LEAD ga bt n = su * (n - pd) - (al - su) * pd := by unfold LEAD; rw [← htb.1, show tb = pd by omega, ← hal, ← j2]
                                refine lv_iload B.1 B.2.1 dX12_wished_275 (lv_at hl 3 rfl) ?_
                                refine lv_iload_n B.1 B.2.1 dX12_wished_277 rfl (lv_at hl 9 rfl) ?_
                                refine x_iconst B dX12_wished_278 ?_
                                refine x_icmp_eq B (by omega) (tgt := 297) dX12_wished_279 (by decide) (fun c15 => ?_) (fun c15 => ?_)
                                · refine x_iconst B dX12_wished_297 ?_
                                  refine lv_goto (tgt := 302) B.1 B.2.1 dX12_wished_298 (by decide) ?_
                                  refine x_iadd B dX12_wished_302 ?_
                                  refine lv_istore (lv' := [(8, .int (iI (wy + 1))), (11, .int (iI k2)), (10, .int (iI su)), (9, .int (iI bt)), (7, .int (iI ld9)), (5, .int (iI al)), (4, .int (iI pd)), (3, .int (iI n)), (0, .ref (am 0)), (2, .int (iI what))]) B.1 B.2.1 dX12_wished_303 hl (by decide) rfl (fun ls hl => ?_)
                                  refine lv_iinc (v := iI (bt + 1)) (lv' := [(9, .int (iI (bt + 1))), (8, .int (iI (wy + 1))), (11, .int (iI k2)), (10, .int (iI su)), (7, .int (iI ld9)), (5, .int (iI al)), (4, .int (iI pd)), (3, .int (iI n)), (0, .ref (am 0)), (2, .int (iI what))]) B.1 B.2.1 dX12_wished_305 hl (k := 3) rfl (iI_add _ _) (by decide) rfl (fun ls hl => ?_)
                                  refine lv_goto (tgt := 209) B.1 B.2.1 dX12_wished_308 (by decide) ?_
                                  exact ih209 ((wy + 1)) ((bt + 1)) (by omega) (by omega) (cntp_next (by omega) kq (Or.inl ⟨⟨by omega, by omega⟩, by omega⟩)) (by omega) _ _ _ h (lv_sub hl [0, 1, 4, 5, 6, 7, 8, 9] rfl)
                                · refine lv_iload B.1 B.2.1 dX12_wished_282 (lv_at hl 1 rfl) ?_
                                  refine lv_iload B.1 B.2.1 dX12_wished_284 (lv_at hl 6 rfl) ?_
                                  refine lv_iload B.1 B.2.1 dX12_wished_286 (lv_at hl 5 rfl) ?_
                                  refine lv_iload_n B.1 B.2.1 dX12_wished_288 rfl (lv_at hl 7 rfl) ?_
                                  refine y_cS B h k_X12_lead (c_X12_lead_e l D Zk ca _ su pd al n  (by omega) (by omega) (by omega) (by omega) (by omega)) m_1841 rfl (by decide) hl.1 [.int (iI wy)] (Nat.le_of_ble_eq_true rfl) rfl dX12_wished_289 (fun r w1 hq H locs h => ?_)
                                  obtain ⟨rfl, lb, rfl, hlb⟩ := hq
                                  show W p l e r_c_X12_wished_e s m args below meth c _ _ 0 0 Qf (F0 m 292 ls [.int (iI lb), .int (iI wy)])
                                  refine lv_iload B.1 B.2.1 dX12_wished_292 (lv_at hl 4 rfl) ?_
                                  refine x_icmp_lt B (by omega) (tgt := 301) dX12_wished_294 (by decide) (fun c17 => ?_) (fun c17 => ?_)
                                  · refine x_iconst B dX12_wished_301 ?_
                                    refine x_iadd B dX12_wished_302 ?_
                                    refine lv_istore (lv' := [(8, .int (iI (wy + 0))), (11, .int (iI k2)), (10, .int (iI su)), (9, .int (iI bt)), (7, .int (iI ld9)), (5, .int (iI al)), (4, .int (iI pd)), (3, .int (iI n)), (0, .ref (am 0)), (2, .int (iI what))]) B.1 B.2.1 dX12_wished_303 hl (by decide) rfl (fun ls hl => ?_)
                                    refine lv_iinc (v := iI (bt + 1)) (lv' := [(9, .int (iI (bt + 1))), (8, .int (iI (wy + 0))), (11, .int (iI k2)), (10, .int (iI su)), (7, .int (iI ld9)), (5, .int (iI al)), (4, .int (iI pd)), (3, .int (iI n)), (0, .ref (am 0)), (2, .int (iI what))]) B.1 B.2.1 dX12_wished_305 hl (k := 3) rfl (iI_add _ _) (by decide) rfl (fun ls hl => ?_)
                                    refine lv_goto (tgt := 209) B.1 B.2.1 dX12_wished_308 (by decide) ?_
                                    exact ih209 ((wy + 0)) ((bt + 1)) (by omega) (by omega) (cntp_next (by omega) kq (Or.inr ⟨fun ⟨x, y⟩ => by omega, by omega⟩)) (by omega) _ _ _ h (lv_sub hl [0, 1, 4, 5, 6, 7, 8, 9] rfl)
                                  · refine x_iconst B dX12_wished_297 ?_
                                    refine lv_goto (tgt := 302) B.1 B.2.1 dX12_wished_298 (by decide) ?_
                                    refine x_iadd B dX12_wished_302 ?_
                                    refine lv_istore (lv' := [(8, .int (iI (wy + 1))), (11, .int (iI k2)), (10, .int (iI su)), (9, .int (iI bt)), (7, .int (iI ld9)), (5, .int (iI al)), (4, .int (iI pd)), (3, .int (iI n)), (0, .ref (am 0)), (2, .int (iI what))]) B.1 B.2.1 dX12_wished_303 hl (by decide) rfl (fun ls hl => ?_)
                                    refine lv_iinc (v := iI (bt + 1)) (lv' := [(9, .int (iI (bt + 1))), (8, .int (iI (wy + 1))), (11, .int (iI k2)), (10, .int (iI su)), (7, .int (iI ld9)), (5, .int (iI al)), (4, .int (iI pd)), (3, .int (iI n)), (0, .ref (am 0)), (2, .int (iI what))]) B.1 B.2.1 dX12_wished_305 hl (k := 3) rfl (iI_add _ _) (by decide) rfl (fun ls hl => ?_)
                                    refine lv_goto (tgt := 209) B.1 B.2.1 dX12_wished_308 (by decide) ?_
                                    exact ih209 ((wy + 1)) ((bt + 1)) (by omega) (by omega) (cntp_next (by omega) kq (Or.inl ⟨⟨by omega, by omega⟩, by omega⟩)) (by omega) _ _ _ h (lv_sub hl [0, 1, 4, 5, 6, 7, 8, 9] rfl)
                              · refine lv_iload B.1 B.2.1 dX12_wished_242 (lv_at hl 1 rfl) ?_
                                refine lv_iload B.1 B.2.1 dX12_wished_244 (lv_at hl 2 rfl) ?_
                                refine lv_iload B.1 B.2.1 dX12_wished_246 (lv_at hl 0 rfl) ?_
                                refine lv_ishr B.1 B.2.1 dX12_wished_248 ?_
                                refine x_iset (z := (shri bt k2)) (iI_of _) ?_
                                refine x_iconst B dX12_wished_249 ?_
                                refine lv_iand B.1 B.2.1 dX12_wished_250 ?_
                                have hb18 := bn_r bt (k2).toNat
                                refine x_iset (z := (bn bt (k2).toNat)) (bit_e (by omega)) ?_
                                refine x_iconst B dX12_wished_251 ?_
                                refine x_icmp_ne B (by omega) (tgt := 265) dX12_wished_252 (by decide) (fun c19 => ?_) (fun c19 => ?_)
                                · refine x_iconst B dX12_wished_265 ?_
                                  refine x_iadd B dX12_wished_266 ?_
                                  refine lv_istore (lv' := [(10, .int (iI (su + 0))), (11, .int (iI k2)), (9, .int (iI bt)), (8, .int (iI wy)), (7, .int (iI ld9)), (5, .int (iI al)), (4, .int (iI pd)), (3, .int (iI n)), (0, .ref (am 0)), (2, .int (iI what))]) B.1 B.2.1 dX12_wished_267 hl (by decide) rfl (fun ls hl => ?_)
                                  refine lv_iinc (v := iI (k2 + 1)) (lv' := [(11, .int (iI (k2 + 1))), (10, .int (iI (su + 0))), (9, .int (iI bt)), (8, .int (iI wy)), (7, .int (iI ld9)), (5, .int (iI al)), (4, .int (iI pd)), (3, .int (iI n)), (0, .ref (am 0)), (2, .int (iI what))]) B.1 B.2.1 dX12_wished_269 hl (k := 1) rfl (iI_add _ _) (by decide) rfl (fun ls hl => ?_)
                                  refine lv_goto (tgt := 236) B.1 B.2.1 dX12_wished_272 (by decide) ?_
                                  exact ih236 ((su + 0)) ((k2 + 1)) (by omega) (by have e8 := S1_next (g := ga) (t := bt) (k := k2) (by omega); (first | rw [if_pos (by omega)] at e8 | rw [if_neg (by omega)] at e8); omega) (by omega) _ _ _ h (lv_sub hl [0, 1, 2, 3, 4, 5, 6, 7, 8, 9] rfl)
                                · refine lv_aload_n B.1 B.2.1 dX12_wished_255 rfl (lv_at hl 8 rfl) ?_
                                  refine y_getR B h kX12 50 (wu_at (wu_at (MW.f hM 0 _ rfl) (by decide)) (by decide)) 66 (b := am 36) rfl m_1327 (by decide) dX12_wished_256 ?_
                                  refine lv_iload B.1 B.2.1 dX12_wished_259 (lv_at hl 0 rfl) ?_
                                  refine y_ialdX B h 86 (wu_at wu_eq (by decide)) (by omega) dX12_wished_261 ?_
                                  refine x_iset (z := (ga (k2).toNat)) rfl ?_
                                  refine lv_goto (tgt := 266) B.1 B.2.1 dX12_wished_262 (by decide) ?_
                                  refine x_iadd B dX12_wished_266 ?_
                                  refine lv_istore (lv' := [(10, .int (iI (su + (ga (k2).toNat)))), (11, .int (iI k2)), (9, .int (iI bt)), (8, .int (iI wy)), (7, .int (iI ld9)), (5, .int (iI al)), (4, .int (iI pd)), (3, .int (iI n)), (0, .ref (am 0)), (2, .int (iI what))]) B.1 B.2.1 dX12_wished_267 hl (by decide) rfl (fun ls hl => ?_)
                                  refine lv_iinc (v := iI (k2 + 1)) (lv' := [(11, .int (iI (k2 + 1))), (10, .int (iI (su + (ga (k2).toNat)))), (9, .int (iI bt)), (8, .int (iI wy)), (7, .int (iI ld9)), (5, .int (iI al)), (4, .int (iI pd)), (3, .int (iI n)), (0, .ref (am 0)), (2, .int (iI what))]) B.1 B.2.1 dX12_wished_269 hl (k := 1) rfl (iI_add _ _) (by decide) rfl (fun ls hl => ?_)
                                  refine lv_goto (tgt := 236) B.1 B.2.1 dX12_wished_272 (by decide) ?_
                                  exact ih236 ((su + (ga (k2).toNat))) ((k2 + 1)) (by omega) (by have e8 := S1_next (g := ga) (t := bt) (k := k2) (by omega); (first | rw [if_pos (by omega)] at e8 | rw [if_neg (by omega)] at e8); omega) (by omega) _ _ _ h (lv_sub hl [0, 1, 2, 3, 4, 5, 6, 7, 8, 9] rfl)
                          exact loop236 (((12 - 0 : Int)).toNat + 1) 0 0 (by omega) rfl (Nat.lt_succ_self _) _ _ _ h (lv_sub hl [0, 1, 2, 3, 4, 5, 6, 7, 8, 9] rfl)
                        · refine lv_goto (tgt := 305) B.1 B.2.1 dX12_wished_227 (by decide) ?_
                          refine lv_iinc (v := iI (bt + 1)) (lv' := [(9, .int (iI (bt + 1))), (8, .int (iI wy)), (7, .int (iI ld9)), (5, .int (iI al)), (4, .int (iI pd)), (3, .int (iI n)), (0, .ref (am 0)), (2, .int (iI what))]) B.1 B.2.1 dX12_wished_305 hl (k := 0) rfl (iI_add _ _) (by decide) rfl (fun ls hl => ?_)
                          refine lv_goto (tgt := 209) B.1 B.2.1 dX12_wished_308 (by decide) ?_
                          exact ih209 wy ((bt + 1)) (by omega) (by omega) (cntp_next (by omega) kq (Or.inr ⟨fun ⟨x, y⟩ => by omega, by omega⟩)) (by omega) _ _ _ h (lv_sub hl [0, 1, 2, 3, 4, 5, 6, 7] rfl)
                  exact loop209 (((4096 - 0 : Int)).toNat + 1) 0 0 (by omega) (by omega) rfl (Nat.lt_succ_self _) _ _ _ h (lv_sub hl [0, 1, 2, 4, 5, 6, 7, 9] rfl)
                · refine lv_iload_n B.1 B.2.1 dX12_wished_191 rfl (lv_at hl 7 rfl) ?_
                  refine x_iconst B dX12_wished_192 ?_
                  refine x_icmp_ne B (by omega) (tgt := 201) dX12_wished_193 (by decide) (fun c20 => ?_) (fun c20 => ?_)
                  · refine lv_iload_n B.1 B.2.1 dX12_wished_201 rfl (lv_at hl 4 rfl) ?_
                    have h : yH D Zk A s ((wu w 86 (am 36, xAI (ca 0) 12 (gX 12 ga)))) _ _ := yH.unpin h (wu_at (MW.f hM 37 _ rfl) (by decide)) (xAI_XG hgp)
                    have h : yH D Zk A s w _ _ := yH.unpin h (MW.f hM 36 _ rfl) (xAI_any)
                    refine y_ri B hQ h (by decide) dX12_wished_202 ?_
                    have hW : WSC T o what := ⟨by omega, by omega⟩
                    refine ⟨rfl, _, rfl, by omega, Or.inr ⟨hW, wsa T o (T 0 2).toNat, wsl T o (T 0 2).toNat, wsn T o (T 0 2).toNat, rfl, rfl, rfl, ?_⟩⟩
                    rw [hE.1, hE.2.1, hE.2.2, ← hm]
                    exact Or.inr (Or.inr (Or.inr ⟨by omega, rfl⟩))
                  · refine lv_iload B.1 B.2.1 dX12_wished_196 (lv_at hl 0 rfl) ?_
                    refine lv_goto (tgt := 202) B.1 B.2.1 dX12_wished_198 (by decide) ?_
                    have h : yH D Zk A s ((wu w 86 (am 36, xAI (ca 0) 12 (gX 12 ga)))) _ _ := yH.unpin h (wu_at (MW.f hM 37 _ rfl) (by decide)) (xAI_XG hgp)
                    have h : yH D Zk A s w _ _ := yH.unpin h (MW.f hM 36 _ rfl) (xAI_any)
                    refine y_ri B hQ h (by decide) dX12_wished_202 ?_
                    have hW : WSC T o what := ⟨by omega, by omega⟩
                    refine ⟨rfl, _, rfl, by omega, Or.inr ⟨hW, wsa T o (T 0 2).toNat, wsl T o (T 0 2).toNat, wsn T o (T 0 2).toNat, rfl, rfl, rfl, ?_⟩⟩
                    rw [hE.1, hE.2.1, hE.2.2, ← hm]
                    exact Or.inr (Or.inr (Or.inl ⟨by omega, hLD⟩))
              · refine lv_iload_n B.1 B.2.1 dX12_wished_44 rfl (lv_at hl 4 rfl) ?_
                refine x_bipush B (by decide) dX12_wished_45 ?_
                refine x_icmp_ge B (by omega) (tgt := 174) dX12_wished_47 (by decide) (fun c21 => ?_) (fun c21 => ?_)
                · have hE := ws_end (T := T) (o := o) (k := k) (N := T 0 2) (by omega) (by omega)
                  have hgE : ∀ j : Nat, (j : Int) < n → -12 ≤ ga j ∧ ga j ≤ 12 := fun j hj => by rw [hg9 j hj]; exact hr9.2.2 j
                  have hS := S_r (g := wsa T o k.toNat) (t := wsl T o k.toNat) n.toNat (fun j _ => hr9.2.2 j)
                  have hpd := pcn_r (wsl T o k.toNat) 12
                  refine lv_iload B.1 B.2.1 dX12_wished_174 (lv_at hl 1 rfl) ?_
                  refine lv_iload B.1 B.2.1 dX12_wished_176 (lv_at hl 3 rfl) ?_
                  refine lv_iload B.1 B.2.1 dX12_wished_178 (lv_at hl 2 rfl) ?_
                  refine lv_iload_n B.1 B.2.1 dX12_wished_180 rfl (lv_at hl 4 rfl) ?_
                  refine y_cS B h k_X12_lead (c_X12_lead_e l D Zk ca _ on_ pd al n  (by omega) (by omega) (by omega) (by omega) (by omega)) m_1841 rfl (by decide) hl.1 [] (Nat.le_of_ble_eq_true rfl) rfl dX12_wished_181 (fun r w1 hq H locs h => ?_)
                  obtain ⟨rfl, ld9, rfl, hld9⟩ := hq
                  show W p l e r_c_X12_wished_e s m args below meth c _ _ 0 0 Qf (F0 m 184 ls [.int (iI ld9)])
                  refine lv_istore (lv' := [(7, .int (iI ld9)), (6, .int (iI on_)), (5, .int (iI al)), (4, .int (iI pd)), (3, .int (iI n)), (0, .ref (am 0)), (1, .int (iI o)), (2, .int (iI what))]) B.1 B.2.1 dX12_wished_184 hl (by decide) rfl (fun ls hl => ?_)
                  have hLD : ld9 = LEAD (wsa T o k.toNat) (wsl T o k.toNat) n := by rw [hld9.1, ho, ha, hp]; rfl
                  refine lv_iload_n B.1 B.2.1 dX12_wished_186 rfl (lv_at hl 7 rfl) ?_
                  refine x_iconst B dX12_wished_187 ?_
                  refine x_icmp_le B (by omega) (tgt := 203) dX12_wished_188 (by decide) (fun c23 => ?_) (fun c23 => ?_)
                  · obtain ⟨lw, hlw⟩ : ∃ lw : Int, (what = 1 ∧ lw = -1000000) ∨ (what ≠ 1 ∧ lw = ld9) := by by_cases q : what = 1; exact ⟨-1000000, Or.inl ⟨q, rfl⟩⟩; exact ⟨ld9, Or.inr ⟨q, rfl⟩⟩
                    have hpn := P2_r (n := n) (by omega)
                    refine x_iconst B dX12_wished_203 ?_
                    refine lv_istore (lv' := [(8, .int (iI 0)), (7, .int (iI ld9)), (6, .int (iI on_)), (5, .int (iI al)), (4, .int (iI pd)), (3, .int (iI n)), (0, .ref (am 0)), (1, .int (iI o)), (2, .int (iI what))]) B.1 B.2.1 dX12_wished_204 hl (by decide) rfl (fun ls hl => ?_)
                    refine x_iconst B dX12_wished_206 ?_
                    refine lv_istore (lv' := [(9, .int (iI 0)), (8, .int (iI 0)), (7, .int (iI ld9)), (6, .int (iI on_)), (5, .int (iI al)), (4, .int (iI pd)), (3, .int (iI n)), (0, .ref (am 0)), (1, .int (iI o)), (2, .int (iI what))]) B.1 B.2.1 dX12_wished_207 hl (by decide) rfl (fun ls hl => ?_)
                    have loop209 : ∀ (n209 : Nat) (wy : Int) (bt : Int), (0 ≤ wy ∧ wy ≤ bt) → (0 ≤ bt ∧ bt ≤ P2 n) → (wy = cntp (fun x => pcn x 12 = pd ∧ lw ≤ LEAD ga x n) bt.toNat) → ((4096 - bt : Int)).toNat < n209 → ∀ (H : Heap) (locs : List Loc) (ls : Array Slot), yH D Zk A s ((wu (wu w 86 (am 36, xAI (ca 0) 12 (gX 12 ga))) 87 (am 37, xAI (ca 2) 12 (gX 12 gp)))) H locs → lv_has ls 12 [(9, .int (iI bt)), (8, .int (iI wy)), (7, .int (iI ld9)), (5, .int (iI al)), (4, .int (iI pd)), (3, .int (iI n)), (0, .ref (am 0)), (2, .int (iI what))] → W p l e r_c_X12_wished_e s m args below meth c H locs 0 0 Qf (F0 m 209 ls []) := by
                      intro n209
                      induction n209 with
                      | zero =>
                        intro wy bt k0 k1 kq hm209 H locs ls h hl
                        exact absurd hm209 (Nat.not_lt_zero _)
                      | succ n209 ih209 =>
                        intro wy bt k0 k1 kq hm209 H locs ls h hl
                        refine lv_iload B.1 B.2.1 dX12_wished_209 (lv_at hl 0 rfl) ?_
                        refine x_iconst B dX12_wished_211 ?_
                        refine lv_iload_n B.1 B.2.1 dX12_wished_212 rfl (lv_at hl 5 rfl) ?_
                        refine lv_ishl B.1 B.2.1 dX12_wished_213 ?_
                        have hp24 := P2_r (n := n) (by omega)
                        refine x_iset (z := (P2 n)) (shl_e (by omega)) ?_
                        refine x_icmp_ge B (by omega) (tgt := 311) dX12_wished_214 (by decide) (fun c25 => ?_) (fun c25 => ?_)
                        · refine lv_iload B.1 B.2.1 dX12_wished_311 (lv_at hl 1 rfl) ?_
                          have h : yH D Zk A s ((wu w 86 (am 36, xAI (ca 0) 12 (gX 12 ga)))) _ _ := yH.unpin h (wu_at (MW.f hM 37 _ rfl) (by decide)) (xAI_XG hgp)
                          have h : yH D Zk A s w _ _ := yH.unpin h (MW.f hM 36 _ rfl) (xAI_any)
                          refine y_ri B hQ h (by decide) dX12_wished_313 ?_
                          have hW : WSC T o what := ⟨by omega, by omega⟩
                          refine ⟨rfl, _, rfl, by omega, Or.inr ⟨hW, wsa T o (T 0 2).toNat, wsl T o (T 0 2).toNat, wsn T o (T 0 2).toNat, rfl, rfl, rfl, ?_⟩⟩
                          rw [hE.1, hE.2.1, hE.2.2, ← hm]
                          have eb : bt = P2 n := by omega
                          rw [eb, hp] at kq
                          rcases hlw with ⟨a, b⟩ | ⟨a, b⟩
                          · exact Or.inr (Or.inl ⟨a, kq.trans (WAYS_congr hg9 (by omega) b)⟩)
                          · exact Or.inl ⟨by omega, kq.trans (WAYS_congr hg9 (by omega) (b.trans hLD))⟩
                        · refine lv_iload B.1 B.2.1 dX12_wished_217 (lv_at hl 0 rfl) ?_
                          refine y_cS B h k_X12_bitsOf (c_X12_bitsOf_e l D Zk ca _ bt  (by omega)) m_1844 rfl (by decide) hl.1 [] (Nat.le_of_ble_eq_true rfl) rfl dX12_wished_219 (fun r w1 hq H locs h => ?_)
                          obtain ⟨rfl, tb, rfl, htb⟩ := hq
                          show W p l e r_c_X12_wished_e s m args below meth c _ _ 0 0 Qf (F0 m 222 ls [.int (iI tb)])
                          refine lv_iload B.1 B.2.1 dX12_wished_222 (lv_at hl 4 rfl) ?_
                          refine x_icmp_eq B (by omega) (tgt := 230) dX12_wished_224 (by decide) (fun c27 => ?_) (fun c27 => ?_)
                          · refine x_iconst B dX12_wished_230 ?_
                            refine lv_istore (lv' := [(10, .int (iI 0)), (9, .int (iI bt)), (8, .int (iI wy)), (7, .int (iI ld9)), (5, .int (iI al)), (4, .int (iI pd)), (3, .int (iI n)), (0, .ref (am 0)), (2, .int (iI what))]) B.1 B.2.1 dX12_wished_231 hl (by decide) rfl (fun ls hl => ?_)
                            refine x_iconst B dX12_wished_233 ?_
                            refine lv_istore (lv' := [(11, .int (iI 0)), (10, .int (iI 0)), (9, .int (iI bt)), (8, .int (iI wy)), (7, .int (iI ld9)), (5, .int (iI al)), (4, .int (iI pd)), (3, .int (iI n)), (0, .ref (am 0)), (2, .int (iI what))]) B.1 B.2.1 dX12_wished_234 hl (by decide) rfl (fun ls hl => ?_)
                            have loop236 : ∀ (n236 : Nat) (su : Int) (k2 : Int), (0 ≤ k2 ∧ k2 ≤ n) → (su = S1 ga bt k2.toNat) → ((12 - k2 : Int)).toNat < n236 → ∀ (H : Heap) (locs : List Loc) (ls : Array Slot), yH D Zk A s ((wu (wu w 86 (am 36, xAI (ca 0) 12 (gX 12 ga))) 87 (am 37, xAI (ca 2) 12 (gX 12 gp)))) H locs → lv_has ls 12 [(11, .int (iI k2)), (10, .int (iI su)), (9, .int (iI bt)), (8, .int (iI wy)), (7, .int (iI ld9)), (5, .int (iI al)), (4, .int (iI pd)), (3, .int (iI n)), (0, .ref (am 0)), (2, .int (iI what))] → W p l e r_c_X12_wished_e s m args below meth c H locs 0 0 Qf (F0 m 236 ls []) := by
                              intro n236
                              induction n236 with
                              | zero =>
                                intro su k2 j1 j2 hm236 H locs ls h hl
                                exact absurd hm236 (Nat.not_lt_zero _)
                              | succ n236 ih236 =>
                                intro su k2 j1 j2 hm236 H locs ls h hl
                                refine lv_iload B.1 B.2.1 dX12_wished_236 (lv_at hl 0 rfl) ?_
                                refine lv_iload_n B.1 B.2.1 dX12_wished_238 rfl (lv_at hl 7 rfl) ?_
                                refine x_icmp_ge B (by omega) (tgt := 275) dX12_wished_239 (by decide) (fun c28 => ?_) (fun c28 => ?_)
                                · have hk2 : k2 = n := by omega
                                  rw [hk2] at j2
                                  have hS2 := S_r (g := ga) (t := bt) n.toNat (fun j hj => hgE j (by omega))
                                  have hal : al = S0 ga n.toNat := ha.trans (S0_congr n.toNat (fun j hj => (hg9 j (by omega)).symm))
                                  have hLr := LEAD_r (g := ga) (t := bt) (n := n) (by omega) hgE
                                  have hLE : LEAD ga bt n = su * (n - pd) - (al - su) * pd := by unfold LEAD; rw [← htb.1, show tb = pd by omega, ← hal, ← j2]
                                  refine lv_iload B.1 B.2.1 dX12_wished_275 (lv_at hl 3 rfl) ?_
                                  refine lv_iload_n B.1 B.2.1 dX12_wished_277 rfl (lv_at hl 9 rfl) ?_
                                  refine x_iconst B dX12_wished_278 ?_
                                  refine x_icmp_eq B (by omega) (tgt := 297) dX12_wished_279 (by decide) (fun c29 => ?_) (fun c29 => ?_)
                                  · refine x_iconst B dX12_wished_297 ?_
                                    refine lv_goto (tgt := 302) B.1 B.2.1 dX12_wished_298 (by decide) ?_
                                    refine x_iadd B dX12_wished_302 ?_
                                    refine lv_istore (lv' := [(8, .int (iI (wy + 1))), (11, .int (iI k2)), (10, .int (iI su)), (9, .int (iI bt)), (7, .int (iI ld9)), (5, .int (iI al)), (4, .int (iI pd)), (3, .int (iI n)), (0, .ref (am 0)), (2, .int (iI what))]) B.1 B.2.1 dX12_wished_303 hl (by decide) rfl (fun ls hl => ?_)
                                    refine lv_iinc (v := iI (bt + 1)) (lv' := [(9, .int (iI (bt + 1))), (8, .int (iI (wy + 1))), (11, .int (iI k2)), (10, .int (iI su)), (7, .int (iI ld9)), (5, .int (iI al)), (4, .int (iI pd)), (3, .int (iI n)), (0, .ref (am 0)), (2, .int (iI what))]) B.1 B.2.1 dX12_wished_305 hl (k := 3) rfl (iI_add _ _) (by decide) rfl (fun ls hl => ?_)
                                    refine lv_goto (tgt := 209) B.1 B.2.1 dX12_wished_308 (by decide) ?_
                                    exact ih209 ((wy + 1)) ((bt + 1)) (by omega) (by omega) (cntp_next (by omega) kq (Or.inl ⟨⟨by omega, by omega⟩, by omega⟩)) (by omega) _ _ _ h (lv_sub hl [0, 1, 4, 5, 6, 7, 8, 9] rfl)
                                  · refine lv_iload B.1 B.2.1 dX12_wished_282 (lv_at hl 1 rfl) ?_
                                    refine lv_iload B.1 B.2.1 dX12_wished_284 (lv_at hl 6 rfl) ?_
                                    refine lv_iload B.1 B.2.1 dX12_wished_286 (lv_at hl 5 rfl) ?_
                                    refine lv_iload_n B.1 B.2.1 dX12_wished_288 rfl (lv_at hl 7 rfl) ?_
                                    refine y_cS B h k_X12_lead (c_X12_lead_e l D Zk ca _ su pd al n  (by omega) (by omega) (by omega) (by omega) (by omega)) m_1841 rfl (by decide) hl.1 [.int (iI wy)] (Nat.le_of_ble_eq_true rfl) rfl dX12_wished_289 (fun r w1 hq H locs h => ?_)
                                    obtain ⟨rfl, lb, rfl, hlb⟩ := hq
                                    show W p l e r_c_X12_wished_e s m args below meth c _ _ 0 0 Qf (F0 m 292 ls [.int (iI lb), .int (iI wy)])
                                    refine lv_iload B.1 B.2.1 dX12_wished_292 (lv_at hl 4 rfl) ?_
                                    refine x_icmp_lt B (by omega) (tgt := 301) dX12_wished_294 (by decide) (fun c31 => ?_) (fun c31 => ?_)
                                    · refine x_iconst B dX12_wished_301 ?_
                                      refine x_iadd B dX12_wished_302 ?_
                                      refine lv_istore (lv' := [(8, .int (iI (wy + 0))), (11, .int (iI k2)), (10, .int (iI su)), (9, .int (iI bt)), (7, .int (iI ld9)), (5, .int (iI al)), (4, .int (iI pd)), (3, .int (iI n)), (0, .ref (am 0)), (2, .int (iI what))]) B.1 B.2.1 dX12_wished_303 hl (by decide) rfl (fun ls hl => ?_)
                                      refine lv_iinc (v := iI (bt + 1)) (lv' := [(9, .int (iI (bt + 1))), (8, .int (iI (wy + 0))), (11, .int (iI k2)), (10, .int (iI su)), (7, .int (iI ld9)), (5, .int (iI al)), (4, .int (iI pd)), (3, .int (iI n)), (0, .ref (am 0)), (2, .int (iI what))]) B.1 B.2.1 dX12_wished_305 hl (k := 3) rfl (iI_add _ _) (by decide) rfl (fun ls hl => ?_)
                                      refine lv_goto (tgt := 209) B.1 B.2.1 dX12_wished_308 (by decide) ?_
                                      exact ih209 ((wy + 0)) ((bt + 1)) (by omega) (by omega) (cntp_next (by omega) kq (Or.inr ⟨fun ⟨x, y⟩ => by omega, by omega⟩)) (by omega) _ _ _ h (lv_sub hl [0, 1, 4, 5, 6, 7, 8, 9] rfl)
                                    · refine x_iconst B dX12_wished_297 ?_
                                      refine lv_goto (tgt := 302) B.1 B.2.1 dX12_wished_298 (by decide) ?_
                                      refine x_iadd B dX12_wished_302 ?_
                                      refine lv_istore (lv' := [(8, .int (iI (wy + 1))), (11, .int (iI k2)), (10, .int (iI su)), (9, .int (iI bt)), (7, .int (iI ld9)), (5, .int (iI al)), (4, .int (iI pd)), (3, .int (iI n)), (0, .ref (am 0)), (2, .int (iI what))]) B.1 B.2.1 dX12_wished_303 hl (by decide) rfl (fun ls hl => ?_)
                                      refine lv_iinc (v := iI (bt + 1)) (lv' := [(9, .int (iI (bt + 1))), (8, .int (iI (wy + 1))), (11, .int (iI k2)), (10, .int (iI su)), (7, .int (iI ld9)), (5, .int (iI al)), (4, .int (iI pd)), (3, .int (iI n)), (0, .ref (am 0)), (2, .int (iI what))]) B.1 B.2.1 dX12_wished_305 hl (k := 3) rfl (iI_add _ _) (by decide) rfl (fun ls hl => ?_)
                                      refine lv_goto (tgt := 209) B.1 B.2.1 dX12_wished_308 (by decide) ?_
                                      exact ih209 ((wy + 1)) ((bt + 1)) (by omega) (by omega) (cntp_next (by omega) kq (Or.inl ⟨⟨by omega, by omega⟩, by omega⟩)) (by omega) _ _ _ h (lv_sub hl [0, 1, 4, 5, 6, 7, 8, 9] rfl)
                                · refine lv_iload B.1 B.2.1 dX12_wished_242 (lv_at hl 1 rfl) ?_
                                  refine lv_iload B.1 B.2.1 dX12_wished_244 (lv_at hl 2 rfl) ?_
                                  refine lv_iload B.1 B.2.1 dX12_wished_246 (lv_at hl 0 rfl) ?_
                                  refine lv_ishr B.1 B.2.1 dX12_wished_248 ?_
                                  refine x_iset (z := (shri bt k2)) (iI_of _) ?_
                                  refine x_iconst B dX12_wished_249 ?_
                                  refine lv_iand B.1 B.2.1 dX12_wished_250 ?_
                                  have hb32 := bn_r bt (k2).toNat
                                  refine x_iset (z := (bn bt (k2).toNat)) (bit_e (by omega)) ?_
                                  refine x_iconst B dX12_wished_251 ?_
                                  refine x_icmp_ne B (by omega) (tgt := 265) dX12_wished_252 (by decide) (fun c33 => ?_) (fun c33 => ?_)
                                  · refine x_iconst B dX12_wished_265 ?_
                                    refine x_iadd B dX12_wished_266 ?_
                                    refine lv_istore (lv' := [(10, .int (iI (su + 0))), (11, .int (iI k2)), (9, .int (iI bt)), (8, .int (iI wy)), (7, .int (iI ld9)), (5, .int (iI al)), (4, .int (iI pd)), (3, .int (iI n)), (0, .ref (am 0)), (2, .int (iI what))]) B.1 B.2.1 dX12_wished_267 hl (by decide) rfl (fun ls hl => ?_)
                                    refine lv_iinc (v := iI (k2 + 1)) (lv' := [(11, .int (iI (k2 + 1))), (10, .int (iI (su + 0))), (9, .int (iI bt)), (8, .int (iI wy)), (7, .int (iI ld9)), (5, .int (iI al)), (4, .int (iI pd)), (3, .int (iI n)), (0, .ref (am 0)), (2, .int (iI what))]) B.1 B.2.1 dX12_wished_269 hl (k := 1) rfl (iI_add _ _) (by decide) rfl (fun ls hl => ?_)
                                    refine lv_goto (tgt := 236) B.1 B.2.1 dX12_wished_272 (by decide) ?_
                                    exact ih236 ((su + 0)) ((k2 + 1)) (by omega) (by have e8 := S1_next (g := ga) (t := bt) (k := k2) (by omega); (first | rw [if_pos (by omega)] at e8 | rw [if_neg (by omega)] at e8); omega) (by omega) _ _ _ h (lv_sub hl [0, 1, 2, 3, 4, 5, 6, 7, 8, 9] rfl)
                                  · refine lv_aload_n B.1 B.2.1 dX12_wished_255 rfl (lv_at hl 8 rfl) ?_
                                    refine y_getR B h kX12 50 (wu_at (wu_at (MW.f hM 0 _ rfl) (by decide)) (by decide)) 66 (b := am 36) rfl m_1327 (by decide) dX12_wished_256 ?_
                                    refine lv_iload B.1 B.2.1 dX12_wished_259 (lv_at hl 0 rfl) ?_
                                    refine y_ialdX B h 86 (wu_at wu_eq (by decide)) (by omega) dX12_wished_261 ?_
                                    refine x_iset (z := (ga (k2).toNat)) rfl ?_
                                    refine lv_goto (tgt := 266) B.1 B.2.1 dX12_wished_262 (by decide) ?_
                                    refine x_iadd B dX12_wished_266 ?_
                                    refine lv_istore (lv' := [(10, .int (iI (su + (ga (k2).toNat)))), (11, .int (iI k2)), (9, .int (iI bt)), (8, .int (iI wy)), (7, .int (iI ld9)), (5, .int (iI al)), (4, .int (iI pd)), (3, .int (iI n)), (0, .ref (am 0)), (2, .int (iI what))]) B.1 B.2.1 dX12_wished_267 hl (by decide) rfl (fun ls hl => ?_)
                                    refine lv_iinc (v := iI (k2 + 1)) (lv' := [(11, .int (iI (k2 + 1))), (10, .int (iI (su + (ga (k2).toNat)))), (9, .int (iI bt)), (8, .int (iI wy)), (7, .int (iI ld9)), (5, .int (iI al)), (4, .int (iI pd)), (3, .int (iI n)), (0, .ref (am 0)), (2, .int (iI what))]) B.1 B.2.1 dX12_wished_269 hl (k := 1) rfl (iI_add _ _) (by decide) rfl (fun ls hl => ?_)
                                    refine lv_goto (tgt := 236) B.1 B.2.1 dX12_wished_272 (by decide) ?_
                                    exact ih236 ((su + (ga (k2).toNat))) ((k2 + 1)) (by omega) (by have e8 := S1_next (g := ga) (t := bt) (k := k2) (by omega); (first | rw [if_pos (by omega)] at e8 | rw [if_neg (by omega)] at e8); omega) (by omega) _ _ _ h (lv_sub hl [0, 1, 2, 3, 4, 5, 6, 7, 8, 9] rfl)
                            exact loop236 (((12 - 0 : Int)).toNat + 1) 0 0 (by omega) rfl (Nat.lt_succ_self _) _ _ _ h (lv_sub hl [0, 1, 2, 3, 4, 5, 6, 7, 8, 9] rfl)
                          · refine lv_goto (tgt := 305) B.1 B.2.1 dX12_wished_227 (by decide) ?_
                            refine lv_iinc (v := iI (bt + 1)) (lv' := [(9, .int (iI (bt + 1))), (8, .int (iI wy)), (7, .int (iI ld9)), (5, .int (iI al)), (4, .int (iI pd)), (3, .int (iI n)), (0, .ref (am 0)), (2, .int (iI what))]) B.1 B.2.1 dX12_wished_305 hl (k := 0) rfl (iI_add _ _) (by decide) rfl (fun ls hl => ?_)
                            refine lv_goto (tgt := 209) B.1 B.2.1 dX12_wished_308 (by decide) ?_
                            exact ih209 wy ((bt + 1)) (by omega) (by omega) (cntp_next (by omega) kq (Or.inr ⟨fun ⟨x, y⟩ => by omega, by omega⟩)) (by omega) _ _ _ h (lv_sub hl [0, 1, 2, 3, 4, 5, 6, 7] rfl)
                    exact loop209 (((4096 - 0 : Int)).toNat + 1) 0 0 (by omega) (by omega) rfl (Nat.lt_succ_self _) _ _ _ h (lv_sub hl [0, 1, 2, 4, 5, 6, 7, 9] rfl)
                  · refine lv_iload_n B.1 B.2.1 dX12_wished_191 rfl (lv_at hl 7 rfl) ?_
                    refine x_iconst B dX12_wished_192 ?_
                    refine x_icmp_ne B (by omega) (tgt := 201) dX12_wished_193 (by decide) (fun c34 => ?_) (fun c34 => ?_)
                    · refine lv_iload_n B.1 B.2.1 dX12_wished_201 rfl (lv_at hl 4 rfl) ?_
                      have h : yH D Zk A s ((wu w 86 (am 36, xAI (ca 0) 12 (gX 12 ga)))) _ _ := yH.unpin h (wu_at (MW.f hM 37 _ rfl) (by decide)) (xAI_XG hgp)
                      have h : yH D Zk A s w _ _ := yH.unpin h (MW.f hM 36 _ rfl) (xAI_any)
                      refine y_ri B hQ h (by decide) dX12_wished_202 ?_
                      have hW : WSC T o what := ⟨by omega, by omega⟩
                      refine ⟨rfl, _, rfl, by omega, Or.inr ⟨hW, wsa T o (T 0 2).toNat, wsl T o (T 0 2).toNat, wsn T o (T 0 2).toNat, rfl, rfl, rfl, ?_⟩⟩
                      rw [hE.1, hE.2.1, hE.2.2, ← hm]
                      exact Or.inr (Or.inr (Or.inr ⟨by omega, rfl⟩))
                    · refine lv_iload B.1 B.2.1 dX12_wished_196 (lv_at hl 0 rfl) ?_
                      refine lv_goto (tgt := 202) B.1 B.2.1 dX12_wished_198 (by decide) ?_
                      have h : yH D Zk A s ((wu w 86 (am 36, xAI (ca 0) 12 (gX 12 ga)))) _ _ := yH.unpin h (wu_at (MW.f hM 37 _ rfl) (by decide)) (xAI_XG hgp)
                      have h : yH D Zk A s w _ _ := yH.unpin h (MW.f hM 36 _ rfl) (xAI_any)
                      refine y_ri B hQ h (by decide) dX12_wished_202 ?_
                      have hW : WSC T o what := ⟨by omega, by omega⟩
                      refine ⟨rfl, _, rfl, by omega, Or.inr ⟨hW, wsa T o (T 0 2).toNat, wsl T o (T 0 2).toNat, wsn T o (T 0 2).toNat, rfl, rfl, rfl, ?_⟩⟩
                      rw [hE.1, hE.2.1, hE.2.2, ← hm]
                      exact Or.inr (Or.inr (Or.inl ⟨by omega, hLD⟩))
                · refine lv_aload_n B.1 B.2.1 dX12_wished_50 rfl (lv_at hl 5 rfl) ?_
                  refine lv_iload B.1 B.2.1 dX12_wished_51 (lv_at hl 0 rfl) ?_
                  refine y_cV B h kX12 50 (wu_at (wu_at (MW.f hM 0 _ rfl) (by decide)) (by decide)) k_X12_isMan rfl (c_X12_isMan_y l D Zk ca T E am _ _ hM (fun k hk hk2 => by rw [wu_ne (by omega), wu_ne (by omega)]) k  (by omega)) m_1728 rfl (by decide) hl.1 [] (Nat.le_of_ble_eq_true rfl) rfl dX12_wished_53 (fun r w1 hq H locs h => ?_)
                  obtain ⟨rfl, _, rfl, ⟨rfl, b35⟩ | ⟨rfl, b35⟩⟩ := hq
                  · show W p l e r_c_X12_wished_e s m args below meth c _ _ 0 0 Qf (F0 m 56 ls [.int (iI 1)])
                    refine x_if_eq B (by omega) (tgt := 78) dX12_wished_56 (by decide) (fun c36 => ?_) (fun c36 => ?_)
                    · exact absurd c36 (by omega)
                    · refine lv_aload_n B.1 B.2.1 dX12_wished_59 rfl (lv_at hl 5 rfl) ?_
                      refine lv_iload B.1 B.2.1 dX12_wished_60 (lv_at hl 0 rfl) ?_
                      refine y_cV B h kX12 50 (wu_at (wu_at (MW.f hM 0 _ rfl) (by decide)) (by decide)) k_X12_writer rfl (c_X12_writer_y l D Zk ca T E am _ _ hM (fun k hk hk2 => by rw [wu_ne (by omega), wu_ne (by omega)]) k  (by omega)) m_1736 rfl (by decide) hl.1 [] (Nat.le_of_ble_eq_true rfl) rfl dX12_wished_62 (fun r w1 hq H locs h => ?_)
                      obtain ⟨rfl, _, rfl, rfl⟩ := hq
                      have tb37 := pi_3 (MW.pi hM) (1000 * T 4 k + T 5 k)
                      show W p l e r_c_X12_wished_e s m args below meth c _ _ 0 0 Qf (F0 m 65 ls [.int (iI (T 3 (1000 * T 4 k + T 5 k)))])
                      refine lv_iload_n B.1 B.2.1 dX12_wished_65 rfl (lv_at hl 6 rfl) ?_
                      refine x_icmp_ne B (by omega) (tgt := 78) dX12_wished_66 (by decide) (fun c38 => ?_) (fun c38 => ?_)
                      · refine x_iconst B dX12_wished_78 ?_
                        refine lv_istore (lv' := [(8, .int (iI (-1))), (7, .int (iI k)), (6, .int (iI on_)), (5, .int (iI al)), (4, .int (iI pd)), (3, .int (iI n)), (0, .ref (am 0)), (1, .int (iI o)), (2, .int (iI what))]) B.1 B.2.1 dX12_wished_79 hl (by decide) rfl (fun ls hl => ?_)
                        refine lv_iload B.1 B.2.1 dX12_wished_81 (lv_at hl 0 rfl) ?_
                        refine x_if_ge B (by omega) (tgt := 89) dX12_wished_83 (by decide) (fun c39 => ?_) (fun c39 => ?_)
                        · exact absurd c39 (by omega)
                        · refine lv_goto (tgt := 168) B.1 B.2.1 dX12_wished_86 (by decide) ?_
                          refine lv_iinc (v := iI (k + 1)) (lv' := [(7, .int (iI (k + 1))), (8, .int (iI (-1))), (6, .int (iI on_)), (5, .int (iI al)), (4, .int (iI pd)), (3, .int (iI n)), (0, .ref (am 0)), (1, .int (iI o)), (2, .int (iI what))]) B.1 B.2.1 dX12_wished_168 hl (k := 1) rfl (iI_add _ _) (by decide) rfl (fun ls hl => ?_)
                          refine lv_goto (tgt := 35) B.1 B.2.1 dX12_wished_171 (by decide) ?_
                          exact ih35 n pd al on_ ((k + 1)) ga gp (by omega) (by omega) (hm.trans (ws_n (T := T) (o := o) (k := k) (by omega) (fun q9 => by obtain ⟨⟨x, y, z⟩, -⟩ := q9; first | omega | (rcases hbqz9 with ⟨a, b⟩ | a; (rw [bes_n b] at z; omega); (have a9 := a.1; omega)))).1.symm) (by rw [(ws_n (T := T) (o := o) (k := k) (by omega) (fun q9 => by obtain ⟨⟨x, y, z⟩, -⟩ := q9; first | omega | (rcases hbqz9 with ⟨a, b⟩ | a; (rw [bes_n b] at z; omega); (have a9 := a.1; omega)))).2.2]; exact hp) (by rw [(ws_n (T := T) (o := o) (k := k) (by omega) (fun q9 => by obtain ⟨⟨x, y, z⟩, -⟩ := q9; first | omega | (rcases hbqz9 with ⟨a, b⟩ | a; (rw [bes_n b] at z; omega); (have a9 := a.1; omega)))).2.1]; exact ha) (by rw [(ws_n (T := T) (o := o) (k := k) (by omega) (fun q9 => by obtain ⟨⟨x, y, z⟩, -⟩ := q9; first | omega | (rcases hbqz9 with ⟨a, b⟩ | a; (rw [bes_n b] at z; omega); (have a9 := a.1; omega)))).2.1, (ws_n (T := T) (o := o) (k := k) (by omega) (fun q9 => by obtain ⟨⟨x, y, z⟩, -⟩ := q9; first | omega | (rcases hbqz9 with ⟨a, b⟩ | a; (rw [bes_n b] at z; omega); (have a9 := a.1; omega)))).2.2]; exact ho) (fun j hj => by rw [(ws_n (T := T) (o := o) (k := k) (by omega) (fun q9 => by obtain ⟨⟨x, y, z⟩, -⟩ := q9; first | omega | (rcases hbqz9 with ⟨a, b⟩ | a; (rw [bes_n b] at z; omega); (have a9 := a.1; omega)))).2.1]; exact hg9 j hj) hgp (by omega) _ _ _ h (lv_sub hl [0, 2, 3, 4, 5, 6, 7, 8] rfl)
                      · refine lv_aload_n B.1 B.2.1 dX12_wished_69 rfl (lv_at hl 5 rfl) ?_
                        refine lv_iload B.1 B.2.1 dX12_wished_70 (lv_at hl 0 rfl) ?_
                        refine y_cV B h kX12 50 (wu_at (wu_at (MW.f hM 0 _ rfl) (by decide)) (by decide)) k_X12_beside rfl (c_X12_beside_e_y l D Zk ca T E am _ _ hM (fun k hk hk2 => by rw [wu_ne (by omega), wu_ne (by omega)]) k  (by omega)) m_1837 rfl (by decide) hl.1 [] (Nat.le_of_ble_eq_true rfl) rfl dX12_wished_72 (fun r w1 hq H locs h => ?_)
                        obtain ⟨rfl, bqz9, rfl, hbqz9⟩ := hq
                        show W p l e r_c_X12_wished_e s m args below meth c _ _ 0 0 Qf (F0 m 75 ls [.int (iI bqz9)])
                        refine lv_goto (tgt := 79) B.1 B.2.1 dX12_wished_75 (by decide) ?_
                        refine lv_istore (lv' := [(8, .int (iI bqz9)), (7, .int (iI k)), (6, .int (iI on_)), (5, .int (iI al)), (4, .int (iI pd)), (3, .int (iI n)), (0, .ref (am 0)), (1, .int (iI o)), (2, .int (iI what))]) B.1 B.2.1 dX12_wished_79 hl (by decide) rfl (fun ls hl => ?_)
                        refine lv_iload B.1 B.2.1 dX12_wished_81 (lv_at hl 0 rfl) ?_
                        refine x_if_ge B (by omega) (tgt := 89) dX12_wished_83 (by decide) (fun c41 => ?_) (fun c41 => ?_)
                        · have cbqz9 : BES T k bqz9 := by rcases hbqz9 with ⟨a, -⟩ | a; omega; exact a.2
                          have cb1 := cbqz9.1
                          refine lv_aload_n B.1 B.2.1 dX12_wished_89 rfl (lv_at hl 6 rfl) ?_
                          refine y_getR B h kX12 50 (wu_at (wu_at (MW.f hM 0 _ rfl) (by decide)) (by decide)) 66 (b := am 36) rfl m_1327 (by decide) dX12_wished_90 ?_
                          refine lv_iload_n B.1 B.2.1 dX12_wished_93 rfl (lv_at hl 5 rfl) ?_
                          refine lv_aload_n B.1 B.2.1 dX12_wished_94 rfl (lv_at hl 6 rfl) ?_
                          refine y_getR B h kX12 50 (wu_at (wu_at (MW.f hM 0 _ rfl) (by decide)) (by decide)) 18 (b := am 13) rfl m_1279 (by decide) dX12_wished_95 ?_
                          refine lv_iload B.1 B.2.1 dX12_wished_98 (lv_at hl 1 rfl) ?_
                          refine y_ialdX B h 63 (wu_at (wu_at (MW.f hM 13 _ rfl) (by decide)) (by decide)) (by omega) dX12_wished_100 ?_
                          refine x_iset (z := (T 8 k)) (by show iI (T 8 (((k : Int).toNat : Nat) : Int)) = _; rw [show ((((k : Int).toNat : Nat) : Int)) = k by omega]) ?_
                          have tb42 := pi_8 (MW.pi hM) k
                          have tb43 := pi_n (MW.pi hM) k
                          refine lv_aload_n B.1 B.2.1 dX12_wished_101 rfl (lv_at hl 6 rfl) ?_
                          refine y_getR B h kX12 50 (wu_at (wu_at (MW.f hM 0 _ rfl) (by decide)) (by decide)) 18 (b := am 13) rfl m_1279 (by decide) dX12_wished_102 ?_
                          refine lv_iload B.1 B.2.1 dX12_wished_105 (lv_at hl 0 rfl) ?_
                          refine y_ialdX B h 63 (wu_at (wu_at (MW.f hM 13 _ rfl) (by decide)) (by decide)) (by omega) dX12_wished_107 ?_
                          refine x_iset (z := (T 8 bqz9)) (by show iI (T 8 (((bqz9 : Int).toNat : Nat) : Int)) = _; rw [show ((((bqz9 : Int).toNat : Nat) : Int)) = bqz9 by omega]) ?_
                          have tb44 := pi_8 (MW.pi hM) bqz9
                          have tb45 := pi_n (MW.pi hM) bqz9
                          refine x_isub B dX12_wished_108 ?_
                          rw [wu_comm (show (86 : Nat) ≠ 87 by decide)] at h
                          have h : yH D Zk A s ((wu (wu w 87 (am 37, xAI (ca 2) 12 (gX 12 gp))) 86 (am 36, xAI (ca 0) 12 (gX 12 ga)))) _ _ := h
                          refine y_iast B h 86 wu_eq (by omega) (P' := gX 12 (iu ga n ((T 8 k) - (T 8 bqz9)))) (gX_upd (by omega)) dX12_wished_109 (fun H locs h => ?_)
                          rw [wu_wu] at h
                          have h : yH D Zk A s ((wu (wu w 87 (am 37, xAI (ca 2) 12 (gX 12 gp))) 86 (am 36, xAI (ca 0) 12 (gX 12 (iu ga n ((T 8 k) - (T 8 bqz9))))))) _ _ := h
                          refine lv_aload_n B.1 B.2.1 dX12_wished_110 rfl (lv_at hl 6 rfl) ?_
                          refine y_getR B h kX12 50 (wu_at (wu_at (MW.f hM 0 _ rfl) (by decide)) (by decide)) 67 (b := am 37) rfl m_1328 (by decide) dX12_wished_111 ?_
                          refine lv_iload_n B.1 B.2.1 dX12_wished_114 rfl (lv_at hl 5 rfl) ?_
                          refine lv_aload_n B.1 B.2.1 dX12_wished_115 rfl (lv_at hl 6 rfl) ?_
                          refine y_getR B h kX12 50 (wu_at (wu_at (MW.f hM 0 _ rfl) (by decide)) (by decide)) 20 (b := am 15) rfl m_1281 (by decide) dX12_wished_116 ?_
                          refine lv_iload B.1 B.2.1 dX12_wished_119 (lv_at hl 1 rfl) ?_
                          refine y_ialdX B h 65 (wu_at (wu_at (MW.f hM 15 _ rfl) (by decide)) (by decide)) (by omega) dX12_wished_121 ?_
                          refine x_iset (z := (T 10 k)) (by show iI (T 10 (((k : Int).toNat : Nat) : Int)) = _; rw [show ((((k : Int).toNat : Nat) : Int)) = k by omega]) ?_
                          have tb46 := pi_10 (MW.pi hM) k
                          refine x_if_le B (by omega) (tgt := 129) dX12_wished_122 (by decide) (fun c47 => ?_) (fun c47 => ?_)
                          · refine x_iconst B dX12_wished_129 ?_
                            rw [wu_comm (show (87 : Nat) ≠ 86 by decide)] at h
                            have h : yH D Zk A s ((wu (wu w 86 (am 36, xAI (ca 0) 12 (gX 12 (iu ga n ((T 8 k) - (T 8 bqz9)))))) 87 (am 37, xAI (ca 2) 12 (gX 12 gp)))) _ _ := h
                            refine y_zast B h 87 wu_eq (by omega) (P' := gX 12 (iu gp n 0)) (gX_upd (by omega)) dX12_wished_130 (fun H locs h => ?_)
                            rw [wu_wu] at h
                            have h : yH D Zk A s ((wu (wu w 86 (am 36, xAI (ca 0) 12 (gX 12 (iu ga n ((T 8 k) - (T 8 bqz9)))))) 87 (am 37, xAI (ca 2) 12 (gX 12 (iu gp n 0))))) _ _ := h
                            refine lv_iload B.1 B.2.1 dX12_wished_131 (lv_at hl 3 rfl) ?_
                            refine lv_aload_n B.1 B.2.1 dX12_wished_133 rfl (lv_at hl 6 rfl) ?_
                            refine y_getR B h kX12 50 (wu_at (wu_at (MW.f hM 0 _ rfl) (by decide)) (by decide)) 66 (b := am 36) rfl m_1327 (by decide) dX12_wished_134 ?_
                            refine lv_iload_n B.1 B.2.1 dX12_wished_137 rfl (lv_at hl 5 rfl) ?_
                            refine y_ialdX B h 86 (wu_at wu_eq (by decide)) (by omega) dX12_wished_138 ?_
                            refine x_iset (z := ((T 8 k) - (T 8 bqz9))) (congrArg iI (iu_eq (by omega))) ?_
                            refine x_iadd B dX12_wished_139 ?_
                            refine lv_istore (lv' := [(5, .int (iI (al + ((T 8 k) - (T 8 bqz9))))), (8, .int (iI bqz9)), (7, .int (iI k)), (6, .int (iI on_)), (4, .int (iI pd)), (3, .int (iI n)), (0, .ref (am 0)), (1, .int (iI o)), (2, .int (iI what))]) B.1 B.2.1 dX12_wished_140 hl (by decide) rfl (fun ls hl => ?_)
                            refine lv_aload_n B.1 B.2.1 dX12_wished_142 rfl (lv_at hl 6 rfl) ?_
                            refine y_getR B h kX12 50 (wu_at (wu_at (MW.f hM 0 _ rfl) (by decide)) (by decide)) 67 (b := am 37) rfl m_1328 (by decide) dX12_wished_143 ?_
                            refine lv_iload_n B.1 B.2.1 dX12_wished_146 rfl (lv_at hl 5 rfl) ?_
                            refine y_zaldX B h 87 wu_eq (by omega) dX12_wished_147 ?_
                            refine x_iset (z := 0) (congrArg iI (iu_eq (by omega))) ?_
                            refine x_if_eq B (by omega) (tgt := 165) dX12_wished_148 (by decide) (fun c48 => ?_) (fun c48 => ?_)
                            · refine lv_iinc (v := iI (n + 1)) (lv' := [(3, .int (iI (n + 1))), (5, .int (iI (al + ((T 8 k) - (T 8 bqz9))))), (8, .int (iI bqz9)), (7, .int (iI k)), (6, .int (iI on_)), (4, .int (iI pd)), (0, .ref (am 0)), (1, .int (iI o)), (2, .int (iI what))]) B.1 B.2.1 dX12_wished_165 hl (k := 5) rfl (iI_add _ _) (by decide) rfl (fun ls hl => ?_)
                              refine lv_iinc (v := iI (k + 1)) (lv' := [(7, .int (iI (k + 1))), (3, .int (iI (n + 1))), (5, .int (iI (al + ((T 8 k) - (T 8 bqz9))))), (8, .int (iI bqz9)), (6, .int (iI on_)), (4, .int (iI pd)), (0, .ref (am 0)), (1, .int (iI o)), (2, .int (iI what))]) B.1 B.2.1 dX12_wished_168 hl (k := 3) rfl (iI_add _ _) (by decide) rfl (fun ls hl => ?_)
                              refine lv_goto (tgt := 35) B.1 B.2.1 dX12_wished_171 (by decide) ?_
                              exact ih35 ((n + 1)) pd ((al + ((T 8 k) - (T 8 bqz9)))) on_ ((k + 1)) (iu ga n ((T 8 k) - (T 8 bqz9))) (iu gp n 0) (by omega) (by omega) (by have q9 := (WSY (T := T) (o := o) (k := k) (MW.pi hM) (by omega) ⟨by omega, by omega, by rw [bes_y cbqz9]; exact cbqz9.1.1⟩ hm (by omega)).1; omega) (by have e8 := (WSY (T := T) (o := o) (k := k) (MW.pi hM) (by omega) ⟨by omega, by omega, by rw [bes_y cbqz9]; exact cbqz9.1.1⟩ hm (by omega)).2.2.2; (first | rw [if_pos (by omega)] at e8 | rw [if_neg (by omega)] at e8); omega) (by have q9 := (WSY (T := T) (o := o) (k := k) (MW.pi hM) (by omega) ⟨by omega, by omega, by rw [bes_y cbqz9]; exact cbqz9.1.1⟩ hm (by omega)).2.1; rw [bes_y cbqz9] at q9; omega) (by have e8 := (WSY (T := T) (o := o) (k := k) (MW.pi hM) (by omega) ⟨by omega, by omega, by rw [bes_y cbqz9]; exact cbqz9.1.1⟩ hm (by omega)).2.2.1; rw [bes_y cbqz9] at e8; (first | rw [if_pos (by omega)] at e8 | rw [if_neg (by omega)] at e8); omega) (fun j hj => by rw [(ws_y (T := T) (o := o) (k := k) (by omega) ⟨by omega, by omega, by rw [bes_y cbqz9]; exact cbqz9.1.1⟩ (by omega)).2.1, ← hm, bes_y cbqz9]; exact iu_cong hg9 j hj) (fun j hj => by unfold iu; split; omega; exact hgp j hj) (by omega) _ _ _ h (lv_sub hl [0, 4, 2, 5, 1, 6, 7, 8] rfl)
                            · exact absurd c48 (by omega)
                          · refine x_iconst B dX12_wished_125 ?_
                            refine lv_goto (tgt := 130) B.1 B.2.1 dX12_wished_126 (by decide) ?_
                            rw [wu_comm (show (87 : Nat) ≠ 86 by decide)] at h
                            have h : yH D Zk A s ((wu (wu w 86 (am 36, xAI (ca 0) 12 (gX 12 (iu ga n ((T 8 k) - (T 8 bqz9)))))) 87 (am 37, xAI (ca 2) 12 (gX 12 gp)))) _ _ := h
                            refine y_zast B h 87 wu_eq (by omega) (P' := gX 12 (iu gp n 1)) (gX_upd (by omega)) dX12_wished_130 (fun H locs h => ?_)
                            rw [wu_wu] at h
                            have h : yH D Zk A s ((wu (wu w 86 (am 36, xAI (ca 0) 12 (gX 12 (iu ga n ((T 8 k) - (T 8 bqz9)))))) 87 (am 37, xAI (ca 2) 12 (gX 12 (iu gp n 1))))) _ _ := h
                            refine lv_iload B.1 B.2.1 dX12_wished_131 (lv_at hl 3 rfl) ?_
                            refine lv_aload_n B.1 B.2.1 dX12_wished_133 rfl (lv_at hl 6 rfl) ?_
                            refine y_getR B h kX12 50 (wu_at (wu_at (MW.f hM 0 _ rfl) (by decide)) (by decide)) 66 (b := am 36) rfl m_1327 (by decide) dX12_wished_134 ?_
                            refine lv_iload_n B.1 B.2.1 dX12_wished_137 rfl (lv_at hl 5 rfl) ?_
                            refine y_ialdX B h 86 (wu_at wu_eq (by decide)) (by omega) dX12_wished_138 ?_
                            refine x_iset (z := ((T 8 k) - (T 8 bqz9))) (congrArg iI (iu_eq (by omega))) ?_
                            refine x_iadd B dX12_wished_139 ?_
                            refine lv_istore (lv' := [(5, .int (iI (al + ((T 8 k) - (T 8 bqz9))))), (8, .int (iI bqz9)), (7, .int (iI k)), (6, .int (iI on_)), (4, .int (iI pd)), (3, .int (iI n)), (0, .ref (am 0)), (1, .int (iI o)), (2, .int (iI what))]) B.1 B.2.1 dX12_wished_140 hl (by decide) rfl (fun ls hl => ?_)
                            refine lv_aload_n B.1 B.2.1 dX12_wished_142 rfl (lv_at hl 6 rfl) ?_
                            refine y_getR B h kX12 50 (wu_at (wu_at (MW.f hM 0 _ rfl) (by decide)) (by decide)) 67 (b := am 37) rfl m_1328 (by decide) dX12_wished_143 ?_
                            refine lv_iload_n B.1 B.2.1 dX12_wished_146 rfl (lv_at hl 5 rfl) ?_
                            refine y_zaldX B h 87 wu_eq (by omega) dX12_wished_147 ?_
                            refine x_iset (z := 1) (congrArg iI (iu_eq (by omega))) ?_
                            refine x_if_eq B (by omega) (tgt := 165) dX12_wished_148 (by decide) (fun c49 => ?_) (fun c49 => ?_)
                            · exact absurd c49 (by omega)
                            · refine lv_iinc (v := iI (pd + 1)) (lv' := [(4, .int (iI (pd + 1))), (5, .int (iI (al + ((T 8 k) - (T 8 bqz9))))), (8, .int (iI bqz9)), (7, .int (iI k)), (6, .int (iI on_)), (3, .int (iI n)), (0, .ref (am 0)), (1, .int (iI o)), (2, .int (iI what))]) B.1 B.2.1 dX12_wished_151 hl (k := 4) rfl (iI_add _ _) (by decide) rfl (fun ls hl => ?_)
                              refine lv_iload B.1 B.2.1 dX12_wished_154 (lv_at hl 4 rfl) ?_
                              refine lv_aload_n B.1 B.2.1 dX12_wished_156 rfl (lv_at hl 6 rfl) ?_
                              refine y_getR B h kX12 50 (wu_at (wu_at (MW.f hM 0 _ rfl) (by decide)) (by decide)) 66 (b := am 36) rfl m_1327 (by decide) dX12_wished_157 ?_
                              refine lv_iload_n B.1 B.2.1 dX12_wished_160 rfl (lv_at hl 5 rfl) ?_
                              refine y_ialdX B h 86 (wu_at wu_eq (by decide)) (by omega) dX12_wished_161 ?_
                              refine x_iset (z := ((T 8 k) - (T 8 bqz9))) (congrArg iI (iu_eq (by omega))) ?_
                              refine x_iadd B dX12_wished_162 ?_
                              refine lv_istore (lv' := [(6, .int (iI (on_ + ((T 8 k) - (T 8 bqz9))))), (4, .int (iI (pd + 1))), (5, .int (iI (al + ((T 8 k) - (T 8 bqz9))))), (8, .int (iI bqz9)), (7, .int (iI k)), (3, .int (iI n)), (0, .ref (am 0)), (1, .int (iI o)), (2, .int (iI what))]) B.1 B.2.1 dX12_wished_163 hl (by decide) rfl (fun ls hl => ?_)
                              refine lv_iinc (v := iI (n + 1)) (lv' := [(3, .int (iI (n + 1))), (6, .int (iI (on_ + ((T 8 k) - (T 8 bqz9))))), (4, .int (iI (pd + 1))), (5, .int (iI (al + ((T 8 k) - (T 8 bqz9))))), (8, .int (iI bqz9)), (7, .int (iI k)), (0, .ref (am 0)), (1, .int (iI o)), (2, .int (iI what))]) B.1 B.2.1 dX12_wished_165 hl (k := 5) rfl (iI_add _ _) (by decide) rfl (fun ls hl => ?_)
                              refine lv_iinc (v := iI (k + 1)) (lv' := [(7, .int (iI (k + 1))), (3, .int (iI (n + 1))), (6, .int (iI (on_ + ((T 8 k) - (T 8 bqz9))))), (4, .int (iI (pd + 1))), (5, .int (iI (al + ((T 8 k) - (T 8 bqz9))))), (8, .int (iI bqz9)), (0, .ref (am 0)), (1, .int (iI o)), (2, .int (iI what))]) B.1 B.2.1 dX12_wished_168 hl (k := 5) rfl (iI_add _ _) (by decide) rfl (fun ls hl => ?_)
                              refine lv_goto (tgt := 35) B.1 B.2.1 dX12_wished_171 (by decide) ?_
                              exact ih35 ((n + 1)) ((pd + 1)) ((al + ((T 8 k) - (T 8 bqz9)))) ((on_ + ((T 8 k) - (T 8 bqz9)))) ((k + 1)) (iu ga n ((T 8 k) - (T 8 bqz9))) (iu gp n 1) (by omega) (by omega) (by have q9 := (WSY (T := T) (o := o) (k := k) (MW.pi hM) (by omega) ⟨by omega, by omega, by rw [bes_y cbqz9]; exact cbqz9.1.1⟩ hm (by omega)).1; omega) (by have e8 := (WSY (T := T) (o := o) (k := k) (MW.pi hM) (by omega) ⟨by omega, by omega, by rw [bes_y cbqz9]; exact cbqz9.1.1⟩ hm (by omega)).2.2.2; (first | rw [if_pos (by omega)] at e8 | rw [if_neg (by omega)] at e8); omega) (by have q9 := (WSY (T := T) (o := o) (k := k) (MW.pi hM) (by omega) ⟨by omega, by omega, by rw [bes_y cbqz9]; exact cbqz9.1.1⟩ hm (by omega)).2.1; rw [bes_y cbqz9] at q9; omega) (by have e8 := (WSY (T := T) (o := o) (k := k) (MW.pi hM) (by omega) ⟨by omega, by omega, by rw [bes_y cbqz9]; exact cbqz9.1.1⟩ hm (by omega)).2.2.1; rw [bes_y cbqz9] at e8; (first | rw [if_pos (by omega)] at e8 | rw [if_neg (by omega)] at e8); omega) (fun j hj => by rw [(ws_y (T := T) (o := o) (k := k) (by omega) ⟨by omega, by omega, by rw [bes_y cbqz9]; exact cbqz9.1.1⟩ (by omega)).2.1, ← hm, bes_y cbqz9]; exact iu_cong hg9 j hj) (fun j hj => by unfold iu; split; omega; exact hgp j hj) (by omega) _ _ _ h (lv_sub hl [0, 2, 4, 3, 1, 6, 7, 8] rfl)
                        · refine lv_goto (tgt := 168) B.1 B.2.1 dX12_wished_86 (by decide) ?_
                          refine lv_iinc (v := iI (k + 1)) (lv' := [(7, .int (iI (k + 1))), (8, .int (iI bqz9)), (6, .int (iI on_)), (5, .int (iI al)), (4, .int (iI pd)), (3, .int (iI n)), (0, .ref (am 0)), (1, .int (iI o)), (2, .int (iI what))]) B.1 B.2.1 dX12_wished_168 hl (k := 1) rfl (iI_add _ _) (by decide) rfl (fun ls hl => ?_)
                          refine lv_goto (tgt := 35) B.1 B.2.1 dX12_wished_171 (by decide) ?_
                          exact ih35 n pd al on_ ((k + 1)) ga gp (by omega) (by omega) (hm.trans (ws_n (T := T) (o := o) (k := k) (by omega) (fun q9 => by obtain ⟨⟨x, y, z⟩, -⟩ := q9; first | omega | (rcases hbqz9 with ⟨a, b⟩ | a; (rw [bes_n b] at z; omega); (have a9 := a.1; omega)))).1.symm) (by rw [(ws_n (T := T) (o := o) (k := k) (by omega) (fun q9 => by obtain ⟨⟨x, y, z⟩, -⟩ := q9; first | omega | (rcases hbqz9 with ⟨a, b⟩ | a; (rw [bes_n b] at z; omega); (have a9 := a.1; omega)))).2.2]; exact hp) (by rw [(ws_n (T := T) (o := o) (k := k) (by omega) (fun q9 => by obtain ⟨⟨x, y, z⟩, -⟩ := q9; first | omega | (rcases hbqz9 with ⟨a, b⟩ | a; (rw [bes_n b] at z; omega); (have a9 := a.1; omega)))).2.1]; exact ha) (by rw [(ws_n (T := T) (o := o) (k := k) (by omega) (fun q9 => by obtain ⟨⟨x, y, z⟩, -⟩ := q9; first | omega | (rcases hbqz9 with ⟨a, b⟩ | a; (rw [bes_n b] at z; omega); (have a9 := a.1; omega)))).2.1, (ws_n (T := T) (o := o) (k := k) (by omega) (fun q9 => by obtain ⟨⟨x, y, z⟩, -⟩ := q9; first | omega | (rcases hbqz9 with ⟨a, b⟩ | a; (rw [bes_n b] at z; omega); (have a9 := a.1; omega)))).2.2]; exact ho) (fun j hj => by rw [(ws_n (T := T) (o := o) (k := k) (by omega) (fun q9 => by obtain ⟨⟨x, y, z⟩, -⟩ := q9; first | omega | (rcases hbqz9 with ⟨a, b⟩ | a; (rw [bes_n b] at z; omega); (have a9 := a.1; omega)))).2.1]; exact hg9 j hj) hgp (by omega) _ _ _ h (lv_sub hl [0, 2, 3, 4, 5, 6, 7, 8] rfl)
                  · show W p l e r_c_X12_wished_e s m args below meth c _ _ 0 0 Qf (F0 m 56 ls [.int (iI 0)])
                    refine x_if_eq B (by omega) (tgt := 78) dX12_wished_56 (by decide) (fun c50 => ?_) (fun c50 => ?_)
                    · refine x_iconst B dX12_wished_78 ?_
                      refine lv_istore (lv' := [(8, .int (iI (-1))), (7, .int (iI k)), (6, .int (iI on_)), (5, .int (iI al)), (4, .int (iI pd)), (3, .int (iI n)), (0, .ref (am 0)), (1, .int (iI o)), (2, .int (iI what))]) B.1 B.2.1 dX12_wished_79 hl (by decide) rfl (fun ls hl => ?_)
                      refine lv_iload B.1 B.2.1 dX12_wished_81 (lv_at hl 0 rfl) ?_
                      refine x_if_ge B (by omega) (tgt := 89) dX12_wished_83 (by decide) (fun c51 => ?_) (fun c51 => ?_)
                      · exact absurd c51 (by omega)
                      · refine lv_goto (tgt := 168) B.1 B.2.1 dX12_wished_86 (by decide) ?_
                        refine lv_iinc (v := iI (k + 1)) (lv' := [(7, .int (iI (k + 1))), (8, .int (iI (-1))), (6, .int (iI on_)), (5, .int (iI al)), (4, .int (iI pd)), (3, .int (iI n)), (0, .ref (am 0)), (1, .int (iI o)), (2, .int (iI what))]) B.1 B.2.1 dX12_wished_168 hl (k := 1) rfl (iI_add _ _) (by decide) rfl (fun ls hl => ?_)
                        refine lv_goto (tgt := 35) B.1 B.2.1 dX12_wished_171 (by decide) ?_
                        exact ih35 n pd al on_ ((k + 1)) ga gp (by omega) (by omega) (hm.trans (ws_n (T := T) (o := o) (k := k) (by omega) (fun q9 => by obtain ⟨⟨x, y, z⟩, -⟩ := q9; first | omega | (rcases hbqz9 with ⟨a, b⟩ | a; (rw [bes_n b] at z; omega); (have a9 := a.1; omega)))).1.symm) (by rw [(ws_n (T := T) (o := o) (k := k) (by omega) (fun q9 => by obtain ⟨⟨x, y, z⟩, -⟩ := q9; first | omega | (rcases hbqz9 with ⟨a, b⟩ | a; (rw [bes_n b] at z; omega); (have a9 := a.1; omega)))).2.2]; exact hp) (by rw [(ws_n (T := T) (o := o) (k := k) (by omega) (fun q9 => by obtain ⟨⟨x, y, z⟩, -⟩ := q9; first | omega | (rcases hbqz9 with ⟨a, b⟩ | a; (rw [bes_n b] at z; omega); (have a9 := a.1; omega)))).2.1]; exact ha) (by rw [(ws_n (T := T) (o := o) (k := k) (by omega) (fun q9 => by obtain ⟨⟨x, y, z⟩, -⟩ := q9; first | omega | (rcases hbqz9 with ⟨a, b⟩ | a; (rw [bes_n b] at z; omega); (have a9 := a.1; omega)))).2.1, (ws_n (T := T) (o := o) (k := k) (by omega) (fun q9 => by obtain ⟨⟨x, y, z⟩, -⟩ := q9; first | omega | (rcases hbqz9 with ⟨a, b⟩ | a; (rw [bes_n b] at z; omega); (have a9 := a.1; omega)))).2.2]; exact ho) (fun j hj => by rw [(ws_n (T := T) (o := o) (k := k) (by omega) (fun q9 => by obtain ⟨⟨x, y, z⟩, -⟩ := q9; first | omega | (rcases hbqz9 with ⟨a, b⟩ | a; (rw [bes_n b] at z; omega); (have a9 := a.1; omega)))).2.1]; exact hg9 j hj) hgp (by omega) _ _ _ h (lv_sub hl [0, 2, 3, 4, 5, 6, 7, 8] rfl)
                    · exact absurd c50 (by omega)
          exact loop35 (((300 - 0 : Int)).toNat + 1) 0 0 0 0 0 g5 g6 (by omega) (by omega) rfl (by show (0 : Int) = pcn 0 12; decide) rfl rfl (fun j hj => absurd hj (by omega)) hg6 (Nat.lt_succ_self _) _ _ _ h (lv_sub hl [0, 1, 2, 3, 4, 5, 6, 7] rfl)
        · exact absurd c4 (by omega)
      · show W p l e r_c_X12_wished_e s m args below meth c _ _ 0 0 Qf (F0 m 14 ls [.int (iI 0)])
        refine x_if_ne B (by omega) (tgt := 21) dX12_wished_14 (by decide) (fun c52 => ?_) (fun c52 => ?_)
        · exact absurd c52 (by omega)
        · refine x_ldcw B (z := (-1000000)) m_1836 (by decide) dX12_wished_17 ?_
          refine y_ri B hQ h (by decide) dX12_wished_20 ?_
          exact ⟨rfl, _, rfl, by omega, Or.inl ⟨fun ⟨x, y⟩ => by omega, rfl⟩⟩
  · show W p l e r_c_X12_wished_e s m args below meth c _ _ 0 0 Qf (F0 m 5 ls [.int (iI 0)])
    refine x_if_eq B (by omega) (tgt := 17) dX12_wished_5 (by decide) (fun c53 => ?_) (fun c53 => ?_)
    · refine x_ldcw B (z := (-1000000)) m_1836 (by decide) dX12_wished_17 ?_
      refine y_ri B hQ h (by decide) dX12_wished_20 ?_
      exact ⟨rfl, _, rfl, by omega, Or.inl ⟨fun ⟨x, y⟩ => by omega, rfl⟩⟩
    · exact absurd c53 (by omega)
