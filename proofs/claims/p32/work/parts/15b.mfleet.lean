theorem sgo_step {T : Nat → Int → Int} {s v k o o' : Int} (hk : 0 ≤ k) (h : o = sgo T s v k.toNat) (hn : (T 21 k = s ∧ T 23 k ≤ v ∧ o' = T 22 k) ∨ (¬ (T 21 k = s ∧ T 23 k ≤ v) ∧ o' = o)) : o' = sgo T s v (k + 1).toNat := by
  have e : (k + 1).toNat = k.toNat + 1 := by omega
  have ek : ((k.toNat : Nat) : Int) = k := by omega
  rw [e]
  show o' = if T 21 ((k.toNat : Nat) : Int) = s ∧ T 23 ((k.toNat : Nat) : Int) ≤ v then T 22 ((k.toNat : Nat) : Int) else sgo T s v k.toNat
  rw [ek]
  rcases hn with ⟨a, b, c⟩ | ⟨a, c⟩
  · rw [if_pos ⟨a, b⟩]; exact c
  · rw [if_neg a, ← h]; exact c
theorem k_X12_abs : xMS yX12_abs cX12_abs 1 (some .int) 1 := ⟨m_1749, m_1748, m_104, ⟨by decide +kernel, by decide +kernel, by decide +kernel⟩⟩
theorem k_X12_officerOf : xMV yX12_officerOf cX12_officerOf 5 (some .int) 2 := ⟨m_1686, m_1685, m_65, m_104, ⟨by decide +kernel, by decide +kernel, by decide +kernel⟩⟩
theorem k_X12_writer : xMV yX12_writer cX12_writer 2 (some .int) 1 := ⟨m_1739, m_1738, m_72, m_104, ⟨by decide +kernel, by decide +kernel, by decide +kernel⟩⟩
theorem k_X12_far : xMS yX12_far cX12_far 4 (some .int) 2 := ⟨m_1746, m_1745, m_104, ⟨by decide +kernel, by decide +kernel, by decide +kernel⟩⟩
abbrev r_c_X12_within : Room := { frames := 0, cells := 0, slots := 0, locals := 0 }
set_option maxHeartbeats 4000000 in
set_option maxRecDepth 100000 in
theorem c_X12_within (l : Launch) (D : va_G) (Zk : yK) (ca : Nat → ClassId) (w : yW) (v : Int) (lo : Int) (hi : Int)  (hv : xr v) (hlo : xr lo) (hhi : xr hi) : yC l D Zk ca yX12_within cX12_within 3 (some .boolean) r_c_X12_within [.int (iI v), .int (iI lo), .int (iI hi)] w (vI w (fun z => (z = 1 ∧ (lo ≤ v ∧ v ≤ hi)) ∨ (z = 0 ∧ (¬ (lo ≤ v ∧ v ≤ hi))))) := by
  refine yC.of2 "WindWordsModel" (by decide) rfl (Nat.le_of_ble_eq_true rfl) ?_
  intro p e s m args below meth c A ls Qf B hnm h hl hQ
  have hl : lv_has ls 3 [(0, .int (iI v)), (1, .int (iI lo)), (2, .int (iI hi))] := hl
  refine lv_iload_n B.1 B.2.1 dX12_within_0 rfl (lv_at hl 0 rfl) ?_
  refine lv_iload_n B.1 B.2.1 dX12_within_1 rfl (lv_at hl 1 rfl) ?_
  refine x_icmp_lt B (by omega) (tgt := 14) dX12_within_2 (by decide) (fun c1 => ?_) (fun c1 => ?_)
  · refine x_iconst B dX12_within_14 ?_
    refine y_rz B hQ h (by decide) (by decide) dX12_within_15 ?_
    exact ⟨rfl, _, rfl, Or.inr ⟨rfl, (by first | omega | trivial | assumption)⟩⟩
  · refine lv_iload_n B.1 B.2.1 dX12_within_5 rfl (lv_at hl 0 rfl) ?_
    refine lv_iload_n B.1 B.2.1 dX12_within_6 rfl (lv_at hl 2 rfl) ?_
    refine x_icmp_gt B (by omega) (tgt := 14) dX12_within_7 (by decide) (fun c2 => ?_) (fun c2 => ?_)
    · refine x_iconst B dX12_within_14 ?_
      refine y_rz B hQ h (by decide) (by decide) dX12_within_15 ?_
      exact ⟨rfl, _, rfl, Or.inr ⟨rfl, (by first | omega | trivial | assumption)⟩⟩
    · refine x_iconst B dX12_within_10 ?_
      refine lv_goto (tgt := 15) B.1 B.2.1 dX12_within_11 (by decide) ?_
      refine y_rz B hQ h (by decide) (by decide) dX12_within_15 ?_
      exact ⟨rfl, _, rfl, Or.inl ⟨rfl, (by first | omega | trivial | assumption)⟩⟩
abbrev r_c_X12_abs : Room := { frames := 0, cells := 0, slots := 0, locals := 0 }
set_option maxHeartbeats 4000000 in
set_option maxRecDepth 100000 in
theorem c_X12_abs (l : Launch) (D : va_G) (Zk : yK) (ca : Nat → ClassId) (w : yW) (a : Int)  (ha : -1000000 ≤ a ∧ a ≤ 1000000) : yC l D Zk ca yX12_abs cX12_abs 1 (some .int) r_c_X12_abs [.int (iI a)] w (vI w (fun z => z = max a (-a))) := by
  refine yC.of2 "WindWordsModel" (by decide) rfl (Nat.le_of_ble_eq_true rfl) ?_
  intro p e s m args below meth c A ls Qf B hnm h hl hQ
  have hl : lv_has ls 1 [(0, .int (iI a))] := hl
  refine lv_iload_n B.1 B.2.1 dX12_abs_0 rfl (lv_at hl 0 rfl) ?_
  refine x_if_ge B (by omega) (tgt := 9) dX12_abs_1 (by decide) (fun c1 => ?_) (fun c1 => ?_)
  · refine lv_iload_n B.1 B.2.1 dX12_abs_9 rfl (lv_at hl 0 rfl) ?_
    refine y_ri B hQ h (by decide) dX12_abs_10 ?_
    exact ⟨rfl, _, rfl, (by first | omega | trivial | assumption)⟩
  · refine lv_iload_n B.1 B.2.1 dX12_abs_4 rfl (lv_at hl 0 rfl) ?_
    refine x_ineg B dX12_abs_5 ?_
    refine lv_goto (tgt := 10) B.1 B.2.1 dX12_abs_6 (by decide) ?_
    refine y_ri B hQ h (by decide) dX12_abs_10 ?_
    exact ⟨rfl, _, rfl, (by first | omega | trivial | assumption)⟩
abbrev r_c_X12_held : Room := { frames := 0, cells := 0, slots := 0, locals := 0 }
set_option maxHeartbeats 4000000 in
set_option maxRecDepth 100000 in
theorem c_X12_held (l : Launch) (D : va_G) (Zk : yK) (ca : Nat → ClassId) (w : yW) (v : Int)  (hv : xr v) : yC l D Zk ca yX12_held cX12_held 1 (some .int) r_c_X12_held [.int (iI v)] w (vI w (fun z => z = max 0 (min 12 v))) := by
  refine yC.of2 "WindWordsModel" (by decide) rfl (Nat.le_of_ble_eq_true rfl) ?_
  intro p e s m args below meth c A ls Qf B hnm h hl hQ
  have hl : lv_has ls 1 [(0, .int (iI v))] := hl
  refine lv_iload_n B.1 B.2.1 dX12_held_0 rfl (lv_at hl 0 rfl) ?_
  refine x_if_ge B (by omega) (tgt := 8) dX12_held_1 (by decide) (fun c1 => ?_) (fun c1 => ?_)
  · refine lv_iload_n B.1 B.2.1 dX12_held_8 rfl (lv_at hl 0 rfl) ?_
    refine x_bipush B (by decide) dX12_held_9 ?_
    refine x_icmp_le B (by omega) (tgt := 19) dX12_held_11 (by decide) (fun c2 => ?_) (fun c2 => ?_)
    · refine lv_iload_n B.1 B.2.1 dX12_held_19 rfl (lv_at hl 0 rfl) ?_
      refine y_ri B hQ h (by decide) dX12_held_20 ?_
      exact ⟨rfl, _, rfl, (by first | omega | trivial | assumption)⟩
    · refine x_bipush B (by decide) dX12_held_14 ?_
      refine lv_goto (tgt := 20) B.1 B.2.1 dX12_held_16 (by decide) ?_
      refine y_ri B hQ h (by decide) dX12_held_20 ?_
      exact ⟨rfl, _, rfl, (by first | omega | trivial | assumption)⟩
  · refine x_iconst B dX12_held_4 ?_
    refine lv_goto (tgt := 20) B.1 B.2.1 dX12_held_5 (by decide) ?_
    refine y_ri B hQ h (by decide) dX12_held_20 ?_
    exact ⟨rfl, _, rfl, (by first | omega | trivial | assumption)⟩
abbrev r_c_X12_refuse : Room := { frames := 0, cells := 0, slots := 0, locals := 0 }
set_option maxHeartbeats 4000000 in
set_option maxRecDepth 100000 in
theorem c_X12_refuse (l : Launch) (D : va_G) (Zk : yK) (ca : Nat → ClassId) (T : Nat → Int → Int) (E : Nat → Int → Int) (am : Nat → Nat) (w : yW) (hM : MW ca T E am w) (why : Int)  (hwhy : 0 ≤ why ∧ why ≤ 2) : yC l D Zk ca yX12_refuse cX12_refuse 2 (some .int) r_c_X12_refuse [.ref (am 0), .int (iI why)] w (vI w (fun z => z = -1)) := by
  refine yC.of2 "WindWordsModel" (by decide) rfl (Nat.le_of_ble_eq_true rfl) ?_
  intro p e s m args below meth c A ls Qf B hnm h hl hQ
  have hl : lv_has ls 2 [(0, .ref (am 0)), (1, .int (iI why))] := hl
  have hs := pi_s (MW.pi hM)
  have hpe := pe_0 (MW.pe hM)
  refine lv_aload_n B.1 B.2.1 dX12_refuse_0 rfl (lv_at hl 0 rfl) ?_
  refine y_getR B h kX12 50 (MW.f hM 0 _ rfl) 0 (b := am 1) rfl m_1261 (by decide) dX12_refuse_1 ?_
  refine lv_iload_n B.1 B.2.1 dX12_refuse_4 rfl (lv_at hl 1 rfl) ?_
  refine lv_dup2_11 B.1 B.2.1 dX12_refuse_5 rfl rfl ?_
  refine y_iald B h 51 (MW.f hM 1 _ rfl) (by omega) dX12_refuse_6 (fun fz1 hfz1 => ?_)
  refine x_name (fun z1 hz1 ez1 => ?_)
  refine x_iconst B dX12_refuse_7 ?_
  refine x_iadd B dX12_refuse_8 ?_
  refine y_iastS B h 51 (MW.f hM 1 _ rfl) (by omega) (fun _ _ => trivial) dX12_refuse_9 (fun H locs h => ?_)
  refine x_iconst B dX12_refuse_10 ?_
  refine y_ri B hQ h (by decide) dX12_refuse_11 ?_
  exact ⟨rfl, _, rfl, (by first | omega | trivial | assumption)⟩
abbrev r_c_X12_isOfficer : Room := { frames := 0, cells := 0, slots := 0, locals := 0 }
set_option maxHeartbeats 4000000 in
set_option maxRecDepth 100000 in
theorem c_X12_isOfficer (l : Launch) (D : va_G) (Zk : yK) (ca : Nat → ClassId) (T : Nat → Int → Int) (E : Nat → Int → Int) (am : Nat → Nat) (w : yW) (hM : MW ca T E am w) (o : Int)  (ho : xr o) : yC l D Zk ca yX12_isOfficer cX12_isOfficer 2 (some .boolean) r_c_X12_isOfficer [.ref (am 0), .int (iI o)] w (vI w (fun z => (z = 1 ∧ (0 ≤ o ∧ o < T 0 0)) ∨ (z = 0 ∧ (¬ (0 ≤ o ∧ o < T 0 0))))) := by
  refine yC.of2 "WindWordsModel" (by decide) rfl (Nat.le_of_ble_eq_true rfl) ?_
  intro p e s m args below meth c A ls Qf B hnm h hl hQ
  have hl : lv_has ls 2 [(0, .ref (am 0)), (1, .int (iI o))] := hl
  have hs := pi_s (MW.pi hM)
  have hpe := pe_0 (MW.pe hM)
  refine lv_iload_n B.1 B.2.1 dX12_isOfficer_0 rfl (lv_at hl 1 rfl) ?_
  refine x_if_lt B (by omega) (tgt := 16) dX12_isOfficer_1 (by decide) (fun c1 => ?_) (fun c1 => ?_)
  · refine x_iconst B dX12_isOfficer_16 ?_
    refine y_rz B hQ h (by decide) (by decide) dX12_isOfficer_17 ?_
    exact ⟨rfl, _, rfl, Or.inr ⟨rfl, (by first | omega | trivial | assumption)⟩⟩
  · refine lv_iload_n B.1 B.2.1 dX12_isOfficer_4 rfl (lv_at hl 1 rfl) ?_
    refine lv_aload_n B.1 B.2.1 dX12_isOfficer_5 rfl (lv_at hl 0 rfl) ?_
    refine y_getX B h kX12 50 (MW.f hM 0 _ rfl) 1 (z := (T 0 0)) rfl m_1262 (by decide) dX12_isOfficer_6 ?_
    refine x_icmp_ge B (by omega) (tgt := 16) dX12_isOfficer_9 (by decide) (fun c2 => ?_) (fun c2 => ?_)
    · refine x_iconst B dX12_isOfficer_16 ?_
      refine y_rz B hQ h (by decide) (by decide) dX12_isOfficer_17 ?_
      exact ⟨rfl, _, rfl, Or.inr ⟨rfl, (by first | omega | trivial | assumption)⟩⟩
    · refine x_iconst B dX12_isOfficer_12 ?_
      refine lv_goto (tgt := 17) B.1 B.2.1 dX12_isOfficer_13 (by decide) ?_
      refine y_rz B hQ h (by decide) (by decide) dX12_isOfficer_17 ?_
      exact ⟨rfl, _, rfl, Or.inl ⟨rfl, (by first | omega | trivial | assumption)⟩⟩
abbrev r_c_X12_isShip : Room := { frames := 0, cells := 0, slots := 0, locals := 0 }
set_option maxHeartbeats 4000000 in
set_option maxRecDepth 100000 in
theorem c_X12_isShip (l : Launch) (D : va_G) (Zk : yK) (ca : Nat → ClassId) (T : Nat → Int → Int) (E : Nat → Int → Int) (am : Nat → Nat) (w : yW) (hM : MW ca T E am w) (k : Int)  (hk : xr k) : yC l D Zk ca yX12_isShip cX12_isShip 2 (some .boolean) r_c_X12_isShip [.ref (am 0), .int (iI k)] w (vI w (fun z => (z = 1 ∧ (0 ≤ k ∧ k < T 0 1)) ∨ (z = 0 ∧ (¬ (0 ≤ k ∧ k < T 0 1))))) := by
  refine yC.of2 "WindWordsModel" (by decide) rfl (Nat.le_of_ble_eq_true rfl) ?_
  intro p e s m args below meth c A ls Qf B hnm h hl hQ
  have hl : lv_has ls 2 [(0, .ref (am 0)), (1, .int (iI k))] := hl
  have hs := pi_s (MW.pi hM)
  have hpe := pe_0 (MW.pe hM)
  refine lv_iload_n B.1 B.2.1 dX12_isShip_0 rfl (lv_at hl 1 rfl) ?_
  refine x_if_lt B (by omega) (tgt := 16) dX12_isShip_1 (by decide) (fun c1 => ?_) (fun c1 => ?_)
  · refine x_iconst B dX12_isShip_16 ?_
    refine y_rz B hQ h (by decide) (by decide) dX12_isShip_17 ?_
    exact ⟨rfl, _, rfl, Or.inr ⟨rfl, (by first | omega | trivial | assumption)⟩⟩
  · refine lv_iload_n B.1 B.2.1 dX12_isShip_4 rfl (lv_at hl 1 rfl) ?_
    refine lv_aload_n B.1 B.2.1 dX12_isShip_5 rfl (lv_at hl 0 rfl) ?_
    refine y_getX B h kX12 50 (MW.f hM 0 _ rfl) 2 (z := (T 0 1)) rfl m_1263 (by decide) dX12_isShip_6 ?_
    refine x_icmp_ge B (by omega) (tgt := 16) dX12_isShip_9 (by decide) (fun c2 => ?_) (fun c2 => ?_)
    · refine x_iconst B dX12_isShip_16 ?_
      refine y_rz B hQ h (by decide) (by decide) dX12_isShip_17 ?_
      exact ⟨rfl, _, rfl, Or.inr ⟨rfl, (by first | omega | trivial | assumption)⟩⟩
    · refine x_iconst B dX12_isShip_12 ?_
      refine lv_goto (tgt := 17) B.1 B.2.1 dX12_isShip_13 (by decide) ?_
      refine y_rz B hQ h (by decide) (by decide) dX12_isShip_17 ?_
      exact ⟨rfl, _, rfl, Or.inl ⟨rfl, (by first | omega | trivial | assumption)⟩⟩
abbrev r_c_X12_officerOf : Room := { frames := 0, cells := 0, slots := 0, locals := 0 }
set_option maxHeartbeats 4000000 in
set_option maxRecDepth 100000 in
theorem c_X12_officerOf (l : Launch) (D : va_G) (Zk : yK) (ca : Nat → ClassId) (T : Nat → Int → Int) (E : Nat → Int → Int) (am : Nat → Nat) (w : yW) (hM : MW ca T E am w) (ship : Int) (watch : Int)  (hship : 0 ≤ ship ∧ ship ≤ 11) (hwatch : xr watch) : yC l D Zk ca yX12_officerOf cX12_officerOf 5 (some .int) r_c_X12_officerOf [.ref (am 0), .int (iI ship), .int (iI watch)] w (vI w (fun z => z = sgo T ship watch (T 0 3).toNat ∧ 0 ≤ z ∧ z ≤ 15)) := by
  refine yC.of2 "WindWordsModel" (by decide) rfl (Nat.le_of_ble_eq_true rfl) ?_
  intro p e s m args below meth c A ls Qf B hnm h hl hQ
  have hl : lv_has ls 5 [(0, .ref (am 0)), (1, .int (iI ship)), (2, .int (iI watch))] := hl
  have hs := pi_s (MW.pi hM)
  have hpe := pe_0 (MW.pe hM)
  refine lv_aload_n B.1 B.2.1 dX12_officerOf_0 rfl (lv_at hl 0 rfl) ?_
  refine y_getR B h kX12 50 (MW.f hM 0 _ rfl) 9 (b := am 4) rfl m_1270 (by decide) dX12_officerOf_1 ?_
  refine lv_iload_n B.1 B.2.1 dX12_officerOf_4 rfl (lv_at hl 1 rfl) ?_
  refine y_ialdX B h 54 (MW.f hM 4 _ rfl) (by omega) dX12_officerOf_5 ?_
  refine x_iset (z := (T 20 ship)) (by show iI (T 20 (((ship : Int).toNat : Nat) : Int)) = _; rw [show ((((ship : Int).toNat : Nat) : Int)) = ship by omega]) ?_
  have tb1 := pi_20 (MW.pi hM) ship
  refine lv_istore_n (lv' := [(3, .int (iI (T 20 ship))), (0, .ref (am 0)), (1, .int (iI ship)), (2, .int (iI watch))]) B.1 B.2.1 dX12_officerOf_6 rfl hl (by decide) rfl (fun ls hl => ?_)
  refine x_iconst B dX12_officerOf_7 ?_
  refine lv_istore (lv' := [(4, .int (iI 0)), (3, .int (iI (T 20 ship))), (0, .ref (am 0)), (1, .int (iI ship)), (2, .int (iI watch))]) B.1 B.2.1 dX12_officerOf_8 hl (by decide) rfl (fun ls hl => ?_)
  have loop10 : ∀ (n10 : Nat) (o : Int) (k : Int), (0 ≤ k ∧ k ≤ T 0 3) → (o = sgo T ship watch k.toNat) → (0 ≤ o ∧ o ≤ 15) → ((60 - k : Int)).toNat < n10 → ∀ (H : Heap) (locs : List Loc) (ls : Array Slot), yH D Zk A s w H locs → lv_has ls 5 [(4, .int (iI k)), (3, .int (iI o)), (0, .ref (am 0)), (1, .int (iI ship)), (2, .int (iI watch))] → W p l e r_c_X12_officerOf s m args below meth c H locs 0 0 Qf (F0 m 10 ls []) := by
    intro n10
    induction n10 with
    | zero =>
      intro o k h0 h1 h2 hm10 H locs ls h hl
      exact absurd hm10 (Nat.not_lt_zero _)
    | succ n10 ih10 =>
      intro o k h0 h1 h2 hm10 H locs ls h hl
      refine lv_iload B.1 B.2.1 dX12_officerOf_10 (lv_at hl 0 rfl) ?_
      refine lv_aload_n B.1 B.2.1 dX12_officerOf_12 rfl (lv_at hl 2 rfl) ?_
      refine y_getX B h kX12 50 (MW.f hM 0 _ rfl) 3 (z := (T 0 3)) rfl m_1264 (by decide) dX12_officerOf_13 ?_
      refine x_icmp_ge B (by omega) (tgt := 55) dX12_officerOf_16 (by decide) (fun c2 => ?_) (fun c2 => ?_)
      · refine lv_iload_n B.1 B.2.1 dX12_officerOf_55 rfl (lv_at hl 1 rfl) ?_
        refine y_ri B hQ h (by decide) dX12_officerOf_56 ?_
        have e9 : k = T 0 3 := by omega
        rw [e9] at h1
        exact ⟨rfl, _, rfl, h1, by omega⟩
      · refine lv_aload_n B.1 B.2.1 dX12_officerOf_19 rfl (lv_at hl 2 rfl) ?_
        refine y_getR B h kX12 50 (MW.f hM 0 _ rfl) 11 (b := am 6) rfl m_1272 (by decide) dX12_officerOf_20 ?_
        refine lv_iload B.1 B.2.1 dX12_officerOf_23 (lv_at hl 0 rfl) ?_
        refine y_ialdX B h 56 (MW.f hM 6 _ rfl) (by omega) dX12_officerOf_25 ?_
        refine x_iset (z := (T 21 k)) (by show iI (T 21 (((k : Int).toNat : Nat) : Int)) = _; rw [show ((((k : Int).toNat : Nat) : Int)) = k by omega]) ?_
        have tb3 := pi_21 (MW.pi hM) k
        refine lv_iload_n B.1 B.2.1 dX12_officerOf_26 rfl (lv_at hl 3 rfl) ?_
        refine x_icmp_ne B (by omega) (tgt := 49) dX12_officerOf_27 (by decide) (fun c4 => ?_) (fun c4 => ?_)
        · refine lv_iinc (v := iI (k + 1)) (lv' := [(4, .int (iI (k + 1))), (3, .int (iI o)), (0, .ref (am 0)), (1, .int (iI ship)), (2, .int (iI watch))]) B.1 B.2.1 dX12_officerOf_49 hl (k := 0) rfl (iI_add _ _) (by decide) rfl (fun ls hl => ?_)
          refine lv_goto (tgt := 10) B.1 B.2.1 dX12_officerOf_52 (by decide) ?_
          exact ih10 o ((k + 1)) (by omega) (sgo_step (T := T) (s := ship) (v := watch) (k := k) (by omega) h1 (by omega)) (by omega) (by omega) _ _ _ h (lv_sub hl [0, 1, 2, 3, 4] rfl)
        · refine lv_aload_n B.1 B.2.1 dX12_officerOf_30 rfl (lv_at hl 2 rfl) ?_
          refine y_getR B h kX12 50 (MW.f hM 0 _ rfl) 13 (b := am 8) rfl m_1274 (by decide) dX12_officerOf_31 ?_
          refine lv_iload B.1 B.2.1 dX12_officerOf_34 (lv_at hl 0 rfl) ?_
          refine y_ialdX B h 58 (MW.f hM 8 _ rfl) (by omega) dX12_officerOf_36 ?_
          refine x_iset (z := (T 23 k)) (by show iI (T 23 (((k : Int).toNat : Nat) : Int)) = _; rw [show ((((k : Int).toNat : Nat) : Int)) = k by omega]) ?_
          have tb5 := pi_23 (MW.pi hM) k
          refine lv_iload_n B.1 B.2.1 dX12_officerOf_37 rfl (lv_at hl 4 rfl) ?_
          refine x_icmp_gt B (by omega) (tgt := 49) dX12_officerOf_38 (by decide) (fun c6 => ?_) (fun c6 => ?_)
          · refine lv_iinc (v := iI (k + 1)) (lv' := [(4, .int (iI (k + 1))), (3, .int (iI o)), (0, .ref (am 0)), (1, .int (iI ship)), (2, .int (iI watch))]) B.1 B.2.1 dX12_officerOf_49 hl (k := 0) rfl (iI_add _ _) (by decide) rfl (fun ls hl => ?_)
            refine lv_goto (tgt := 10) B.1 B.2.1 dX12_officerOf_52 (by decide) ?_
            exact ih10 o ((k + 1)) (by omega) (sgo_step (T := T) (s := ship) (v := watch) (k := k) (by omega) h1 (by omega)) (by omega) (by omega) _ _ _ h (lv_sub hl [0, 1, 2, 3, 4] rfl)
          · refine lv_aload_n B.1 B.2.1 dX12_officerOf_41 rfl (lv_at hl 2 rfl) ?_
            refine y_getR B h kX12 50 (MW.f hM 0 _ rfl) 12 (b := am 7) rfl m_1273 (by decide) dX12_officerOf_42 ?_
            refine lv_iload B.1 B.2.1 dX12_officerOf_45 (lv_at hl 0 rfl) ?_
            refine y_ialdX B h 57 (MW.f hM 7 _ rfl) (by omega) dX12_officerOf_47 ?_
            refine x_iset (z := (T 22 k)) (by show iI (T 22 (((k : Int).toNat : Nat) : Int)) = _; rw [show ((((k : Int).toNat : Nat) : Int)) = k by omega]) ?_
            have tb7 := pi_22 (MW.pi hM) k
            refine lv_istore_n (lv' := [(3, .int (iI (T 22 k))), (4, .int (iI k)), (0, .ref (am 0)), (1, .int (iI ship)), (2, .int (iI watch))]) B.1 B.2.1 dX12_officerOf_48 rfl hl (by decide) rfl (fun ls hl => ?_)
            refine lv_iinc (v := iI (k + 1)) (lv' := [(4, .int (iI (k + 1))), (3, .int (iI (T 22 k))), (0, .ref (am 0)), (1, .int (iI ship)), (2, .int (iI watch))]) B.1 B.2.1 dX12_officerOf_49 hl (k := 1) rfl (iI_add _ _) (by decide) rfl (fun ls hl => ?_)
            refine lv_goto (tgt := 10) B.1 B.2.1 dX12_officerOf_52 (by decide) ?_
            exact ih10 ((T 22 k)) ((k + 1)) (by omega) (sgo_step (T := T) (s := ship) (v := watch) (k := k) (by omega) h1 (by omega)) (by omega) (by omega) _ _ _ h (lv_sub hl [0, 1, 2, 3, 4] rfl)
  exact loop10 (((60 - 0 : Int)).toNat + 1) ((T 20 ship)) 0 (by omega) (show T 20 ship = sgo T ship watch (0 : Int).toNat from rfl) (by omega) (Nat.lt_succ_self _) _ _ _ h (lv_sub hl [0, 1, 2, 3, 4] rfl)
abbrev r_c_X12_readingOf : Room := { frames := 0, cells := 0, slots := 0, locals := 0 }
set_option maxHeartbeats 4000000 in
set_option maxRecDepth 100000 in
theorem c_X12_readingOf (l : Launch) (D : va_G) (Zk : yK) (ca : Nat → ClassId) (T : Nat → Int → Int) (E : Nat → Int → Int) (am : Nat → Nat) (w : yW) (hM : MW ca T E am w) (ship : Int) (watch : Int)  (hship : xr ship) (hwatch : xr watch) : yC l D Zk ca yX12_readingOf cX12_readingOf 4 (some .int) r_c_X12_readingOf [.ref (am 0), .int (iI ship), .int (iI watch)] w (vI w (fun z => (z = -1 ∧ ∀ k : Int, 0 ≤ k ∧ k < T 0 2 → ¬ (T 4 k = ship ∧ T 5 k = watch)) ∨ ((0 ≤ z ∧ z < T 0 2) ∧ T 4 z = ship ∧ T 5 z = watch))) := by
  refine yC.of2 "WindWordsModel" (by decide) rfl (Nat.le_of_ble_eq_true rfl) ?_
  intro p e s m args below meth c A ls Qf B hnm h hl hQ
  have hl : lv_has ls 4 [(0, .ref (am 0)), (1, .int (iI ship)), (2, .int (iI watch))] := hl
  have hs := pi_s (MW.pi hM)
  have hpe := pe_0 (MW.pe hM)
  refine x_iconst B dX12_readingOf_0 ?_
  refine lv_istore_n (lv' := [(3, .int (iI 0)), (0, .ref (am 0)), (1, .int (iI ship)), (2, .int (iI watch))]) B.1 B.2.1 dX12_readingOf_1 rfl hl (by decide) rfl (fun ls hl => ?_)
  have loop2 : ∀ (n2 : Nat) (k : Int), (0 ≤ k ∧ k ≤ T 0 2) → (∀ j : Int, 0 ≤ j ∧ j < k → ¬ (T 4 j = ship ∧ T 5 j = watch)) → ((300 - k : Int)).toNat < n2 → ∀ (H : Heap) (locs : List Loc) (ls : Array Slot), yH D Zk A s w H locs → lv_has ls 4 [(3, .int (iI k)), (0, .ref (am 0)), (1, .int (iI ship)), (2, .int (iI watch))] → W p l e r_c_X12_readingOf s m args below meth c H locs 0 0 Qf (F0 m 2 ls []) := by
    intro n2
    induction n2 with
    | zero =>
      intro k h0 h1 hm2 H locs ls h hl
      exact absurd hm2 (Nat.not_lt_zero _)
    | succ n2 ih2 =>
      intro k h0 h1 hm2 H locs ls h hl
      refine lv_iload_n B.1 B.2.1 dX12_readingOf_2 rfl (lv_at hl 0 rfl) ?_
      refine lv_aload_n B.1 B.2.1 dX12_readingOf_3 rfl (lv_at hl 1 rfl) ?_
      refine y_getX B h kX12 50 (MW.f hM 0 _ rfl) 4 (z := (T 0 2)) rfl m_1265 (by decide) dX12_readingOf_4 ?_
      refine x_icmp_ge B (by omega) (tgt := 38) dX12_readingOf_7 (by decide) (fun c1 => ?_) (fun c1 => ?_)
      · refine x_iconst B dX12_readingOf_38 ?_
        refine y_ri B hQ h (by decide) dX12_readingOf_39 ?_
        exact ⟨rfl, _, rfl, Or.inl ⟨rfl, fun j hj => h1 j (by omega)⟩⟩
      · refine lv_aload_n B.1 B.2.1 dX12_readingOf_10 rfl (lv_at hl 1 rfl) ?_
        refine y_getR B h kX12 50 (MW.f hM 0 _ rfl) 14 (b := am 9) rfl m_1275 (by decide) dX12_readingOf_11 ?_
        refine lv_iload_n B.1 B.2.1 dX12_readingOf_14 rfl (lv_at hl 0 rfl) ?_
        refine y_ialdX B h 59 (MW.f hM 9 _ rfl) (by omega) dX12_readingOf_15 ?_
        refine x_iset (z := (T 4 k)) (by show iI (T 4 (((k : Int).toNat : Nat) : Int)) = _; rw [show ((((k : Int).toNat : Nat) : Int)) = k by omega]) ?_
        have tb2 := pi_4 (MW.pi hM) k
        refine lv_iload_n B.1 B.2.1 dX12_readingOf_16 rfl (lv_at hl 2 rfl) ?_
        refine x_icmp_ne B (by omega) (tgt := 32) dX12_readingOf_17 (by decide) (fun c3 => ?_) (fun c3 => ?_)
        · refine lv_iinc (v := iI (k + 1)) (lv' := [(3, .int (iI (k + 1))), (0, .ref (am 0)), (1, .int (iI ship)), (2, .int (iI watch))]) B.1 B.2.1 dX12_readingOf_32 hl (k := 0) rfl (iI_add _ _) (by decide) rfl (fun ls hl => ?_)
          refine lv_goto (tgt := 2) B.1 B.2.1 dX12_readingOf_35 (by decide) ?_
          exact ih2 ((k + 1)) (by omega) (fun j hj hh => by by_cases q : j = k; (subst q; omega); exact h1 j (by omega) hh) (by omega) _ _ _ h (lv_sub hl [0, 1, 2, 3] rfl)
        · refine lv_aload_n B.1 B.2.1 dX12_readingOf_20 rfl (lv_at hl 1 rfl) ?_
          refine y_getR B h kX12 50 (MW.f hM 0 _ rfl) 15 (b := am 10) rfl m_1276 (by decide) dX12_readingOf_21 ?_
          refine lv_iload_n B.1 B.2.1 dX12_readingOf_24 rfl (lv_at hl 0 rfl) ?_
          refine y_ialdX B h 60 (MW.f hM 10 _ rfl) (by omega) dX12_readingOf_25 ?_
          refine x_iset (z := (T 5 k)) (by show iI (T 5 (((k : Int).toNat : Nat) : Int)) = _; rw [show ((((k : Int).toNat : Nat) : Int)) = k by omega]) ?_
          have tb4 := pi_5 (MW.pi hM) k
          refine lv_iload_n B.1 B.2.1 dX12_readingOf_26 rfl (lv_at hl 3 rfl) ?_
          refine x_icmp_ne B (by omega) (tgt := 32) dX12_readingOf_27 (by decide) (fun c5 => ?_) (fun c5 => ?_)
          · refine lv_iinc (v := iI (k + 1)) (lv' := [(3, .int (iI (k + 1))), (0, .ref (am 0)), (1, .int (iI ship)), (2, .int (iI watch))]) B.1 B.2.1 dX12_readingOf_32 hl (k := 0) rfl (iI_add _ _) (by decide) rfl (fun ls hl => ?_)
            refine lv_goto (tgt := 2) B.1 B.2.1 dX12_readingOf_35 (by decide) ?_
            exact ih2 ((k + 1)) (by omega) (fun j hj hh => by by_cases q : j = k; (subst q; omega); exact h1 j (by omega) hh) (by omega) _ _ _ h (lv_sub hl [0, 1, 2, 3] rfl)
          · refine lv_iload_n B.1 B.2.1 dX12_readingOf_30 rfl (lv_at hl 0 rfl) ?_
            refine y_ri B hQ h (by decide) dX12_readingOf_31 ?_
            exact ⟨rfl, _, rfl, Or.inr ⟨by omega, by omega, by omega⟩⟩
  exact loop2 (((300 - 0 : Int)).toNat + 1) 0 (by omega) (fun j hj => by omega) (Nat.lt_succ_self _) _ _ _ h (lv_sub hl [0, 1, 2, 3] rfl)
abbrev r_c_X12_far : Room := { frames := 1, cells := 0, slots := 0, locals := 20 }
set_option maxHeartbeats 4000000 in
set_option maxRecDepth 100000 in
theorem c_X12_far (l : Launch) (D : va_G) (Zk : yK) (ca : Nat → ClassId) (w : yW) (a : Int) (b : Int)  (ha : 0 ≤ a ∧ a ≤ 63) (hb : 0 ≤ b ∧ b ≤ 63) : yC l D Zk ca yX12_far cX12_far 4 (some .int) r_c_X12_far [.int (iI a), .int (iI b)] w (vI w (fun z => z = FAR a b ∧ 0 ≤ z ∧ z ≤ 7)) := by
  refine yC.of2 "WindWordsModel" (by decide) rfl (Nat.le_of_ble_eq_true rfl) ?_
  intro p e s m args below meth c A ls Qf B hnm h hl hQ
  have hl : lv_has ls 4 [(0, .int (iI a)), (1, .int (iI b))] := hl
  refine lv_iload_n B.1 B.2.1 dX12_far_0 rfl (lv_at hl 0 rfl) ?_
  refine x_bipush B (by decide) dX12_far_1 ?_
  refine x_irem B (by omega) dX12_far_3 ?_
  refine lv_iload_n B.1 B.2.1 dX12_far_4 rfl (lv_at hl 1 rfl) ?_
  refine x_bipush B (by decide) dX12_far_5 ?_
  refine x_irem B (by omega) dX12_far_7 ?_
  refine x_isub B dX12_far_8 ?_
  refine y_cS B h k_X12_abs (c_X12_abs l D Zk ca _ (((a % 8) - (b % 8)))  (by omega)) m_1747 rfl (by decide) hl.1 [] (Nat.le_of_ble_eq_true rfl) rfl dX12_far_9 (fun r w1 hq H locs h => ?_)
  obtain ⟨rfl, z1, rfl, hz1⟩ := hq
  show W p l e r_c_X12_far s m args below meth c _ _ 0 0 Qf (F0 m 12 ls [.int (iI z1)])
  refine lv_istore_n (lv' := [(2, .int (iI z1)), (0, .int (iI a)), (1, .int (iI b))]) B.1 B.2.1 dX12_far_12 rfl hl (by decide) rfl (fun ls hl => ?_)
  refine lv_iload_n B.1 B.2.1 dX12_far_13 rfl (lv_at hl 1 rfl) ?_
  refine x_bipush B (by decide) dX12_far_14 ?_
  refine x_idiv B (by omega) dX12_far_16 ?_
  refine lv_iload_n B.1 B.2.1 dX12_far_17 rfl (lv_at hl 2 rfl) ?_
  refine x_bipush B (by decide) dX12_far_18 ?_
  refine x_idiv B (by omega) dX12_far_20 ?_
  refine x_isub B dX12_far_21 ?_
  refine y_cS B h k_X12_abs (c_X12_abs l D Zk ca _ (((a / 8) - (b / 8)))  (by omega)) m_1747 rfl (by decide) hl.1 [] (Nat.le_of_ble_eq_true rfl) rfl dX12_far_22 (fun r w1 hq H locs h => ?_)
  obtain ⟨rfl, z2, rfl, hz2⟩ := hq
  show W p l e r_c_X12_far s m args below meth c _ _ 0 0 Qf (F0 m 25 ls [.int (iI z2)])
  refine lv_istore_n (lv' := [(3, .int (iI z2)), (2, .int (iI z1)), (0, .int (iI a)), (1, .int (iI b))]) B.1 B.2.1 dX12_far_25 rfl hl (by decide) rfl (fun ls hl => ?_)
  refine lv_iload_n B.1 B.2.1 dX12_far_26 rfl (lv_at hl 1 rfl) ?_
  refine lv_iload_n B.1 B.2.1 dX12_far_27 rfl (lv_at hl 0 rfl) ?_
  refine x_icmp_le B (by omega) (tgt := 35) dX12_far_28 (by decide) (fun c3 => ?_) (fun c3 => ?_)
  · refine lv_iload_n B.1 B.2.1 dX12_far_35 rfl (lv_at hl 0 rfl) ?_
    refine y_ri B hQ h (by decide) dX12_far_36 ?_
    exact ⟨rfl, _, rfl, by unfold FAR; omega, by omega, by omega⟩
  · refine lv_iload_n B.1 B.2.1 dX12_far_31 rfl (lv_at hl 1 rfl) ?_
    refine lv_goto (tgt := 36) B.1 B.2.1 dX12_far_32 (by decide) ?_
    refine y_ri B hQ h (by decide) dX12_far_36 ?_
    exact ⟨rfl, _, rfl, by unfold FAR; omega, by omega, by omega⟩
abbrev r_c_X12_isMan : Room := { frames := 0, cells := 0, slots := 0, locals := 0 }
set_option maxHeartbeats 4000000 in
set_option maxRecDepth 100000 in
theorem c_X12_isMan (l : Launch) (D : va_G) (Zk : yK) (ca : Nat → ClassId) (T : Nat → Int → Int) (E : Nat → Int → Int) (am : Nat → Nat) (w : yW) (hM : MW ca T E am w) (k : Int)  (hk : 0 ≤ k ∧ k < T 0 2) : yC l D Zk ca yX12_isMan cX12_isMan 2 (some .boolean) r_c_X12_isMan [.ref (am 0), .int (iI k)] w (vI w (fun z => (z = 1 ∧ (T 7 k ≠ 3)) ∨ (z = 0 ∧ (¬ (T 7 k ≠ 3))))) := by
  refine yC.of2 "WindWordsModel" (by decide) rfl (Nat.le_of_ble_eq_true rfl) ?_
  intro p e s m args below meth c A ls Qf B hnm h hl hQ
  have hl : lv_has ls 2 [(0, .ref (am 0)), (1, .int (iI k))] := hl
  have hs := pi_s (MW.pi hM)
  have hpe := pe_0 (MW.pe hM)
  refine lv_aload_n B.1 B.2.1 dX12_isMan_0 rfl (lv_at hl 0 rfl) ?_
  refine y_getR B h kX12 50 (MW.f hM 0 _ rfl) 17 (b := am 12) rfl m_1278 (by decide) dX12_isMan_1 ?_
  refine lv_iload_n B.1 B.2.1 dX12_isMan_4 rfl (lv_at hl 1 rfl) ?_
  refine y_ialdX B h 62 (MW.f hM 12 _ rfl) (by omega) dX12_isMan_5 ?_
  refine x_iset (z := (T 7 k)) (by show iI (T 7 (((k : Int).toNat : Nat) : Int)) = _; rw [show ((((k : Int).toNat : Nat) : Int)) = k by omega]) ?_
  have tb1 := pi_7 (MW.pi hM) k
  refine x_iconst B dX12_isMan_6 ?_
  refine x_icmp_ge B (by omega) (tgt := 14) dX12_isMan_7 (by decide) (fun c2 => ?_) (fun c2 => ?_)
  · refine x_iconst B dX12_isMan_14 ?_
    refine y_rz B hQ h (by decide) (by decide) dX12_isMan_15 ?_
    exact ⟨rfl, _, rfl, Or.inr ⟨rfl, (by first | omega | trivial | assumption)⟩⟩
  · refine x_iconst B dX12_isMan_10 ?_
    refine lv_goto (tgt := 15) B.1 B.2.1 dX12_isMan_11 (by decide) ?_
    refine y_rz B hQ h (by decide) (by decide) dX12_isMan_15 ?_
    exact ⟨rfl, _, rfl, Or.inl ⟨rfl, (by first | omega | trivial | assumption)⟩⟩
abbrev r_c_X12_writer : Room := { frames := 1, cells := 0, slots := 0, locals := 24 }
set_option maxHeartbeats 4000000 in
set_option maxRecDepth 100000 in
theorem c_X12_writer (l : Launch) (D : va_G) (Zk : yK) (ca : Nat → ClassId) (T : Nat → Int → Int) (E : Nat → Int → Int) (am : Nat → Nat) (w : yW) (hM : MW ca T E am w) (k : Int)  (hk : 0 ≤ k ∧ k < T 0 2) : yC l D Zk ca yX12_writer cX12_writer 2 (some .int) r_c_X12_writer [.ref (am 0), .int (iI k)] w (vI w (fun z => z = T 3 (1000 * T 4 k + T 5 k))) := by
  refine yC.of2 "WindWordsModel" (by decide) rfl (Nat.le_of_ble_eq_true rfl) ?_
  intro p e s m args below meth c A ls Qf B hnm h hl hQ
  have hl : lv_has ls 2 [(0, .ref (am 0)), (1, .int (iI k))] := hl
  have hs := pi_s (MW.pi hM)
  have hpe := pe_0 (MW.pe hM)
  refine lv_aload_n B.1 B.2.1 dX12_writer_0 rfl (lv_at hl 0 rfl) ?_
  refine lv_aload_n B.1 B.2.1 dX12_writer_1 rfl (lv_at hl 0 rfl) ?_
  refine y_getR B h kX12 50 (MW.f hM 0 _ rfl) 14 (b := am 9) rfl m_1275 (by decide) dX12_writer_2 ?_
  refine lv_iload_n B.1 B.2.1 dX12_writer_5 rfl (lv_at hl 1 rfl) ?_
  refine y_ialdX B h 59 (MW.f hM 9 _ rfl) (by omega) dX12_writer_6 ?_
  refine x_iset (z := (T 4 k)) (by show iI (T 4 (((k : Int).toNat : Nat) : Int)) = _; rw [show ((((k : Int).toNat : Nat) : Int)) = k by omega]) ?_
  have tb1 := pi_4 (MW.pi hM) k
  refine lv_aload_n B.1 B.2.1 dX12_writer_7 rfl (lv_at hl 0 rfl) ?_
  refine y_getR B h kX12 50 (MW.f hM 0 _ rfl) 15 (b := am 10) rfl m_1276 (by decide) dX12_writer_8 ?_
  refine lv_iload_n B.1 B.2.1 dX12_writer_11 rfl (lv_at hl 1 rfl) ?_
  refine y_ialdX B h 60 (MW.f hM 10 _ rfl) (by omega) dX12_writer_12 ?_
  refine x_iset (z := (T 5 k)) (by show iI (T 5 (((k : Int).toNat : Nat) : Int)) = _; rw [show ((((k : Int).toNat : Nat) : Int)) = k by omega]) ?_
  have tb2 := pi_5 (MW.pi hM) k
  refine y_cV B h kX12 50 (MW.f hM 0 _ rfl) k_X12_officerOf rfl (c_X12_officerOf l D Zk ca T E am _ hM ((T 4 k)) ((T 5 k))  (by omega) (by omega)) m_1683 rfl (by decide) hl.1 [] (Nat.le_of_ble_eq_true rfl) rfl dX12_writer_13 (fun r w1 hq H locs h => ?_)
  obtain ⟨rfl, z3, rfl, hz3⟩ := hq
  show W p l e r_c_X12_writer s m args below meth c _ _ 0 0 Qf (F0 m 16 ls [.int (iI z3)])
  refine y_ri B hQ h (by decide) dX12_writer_16 ?_
  have q9 := pi_sg (MW.pi hM) (s := T 4 k) (v := T 5 k) ⟨by omega, pi_in (MW.pi hM) k hk⟩ (by omega)
  exact ⟨rfl, _, rfl, by omega⟩
abbrev r_c_X12_isTrustedOne : Room := { frames := 2, cells := 0, slots := 0, locals := 45 }
set_option maxHeartbeats 4000000 in
set_option maxRecDepth 100000 in
theorem c_X12_isTrustedOne (l : Launch) (D : va_G) (Zk : yK) (ca : Nat → ClassId) (T : Nat → Int → Int) (E : Nat → Int → Int) (am : Nat → Nat) (w : yW) (hM : MW ca T E am w) (k : Int)  (hk : 0 ≤ k ∧ k < T 0 2) : yC l D Zk ca yX12_isTrustedOne cX12_isTrustedOne 2 (some .boolean) r_c_X12_isTrustedOne [.ref (am 0), .int (iI k)] w (vI w (fun z => (z = 1 ∧ (True)) ∨ (z = 0 ∧ (True)))) := by
  refine yC.of2 "WindWordsModel" (by decide) rfl (Nat.le_of_ble_eq_true rfl) ?_
  intro p e s m args below meth c A ls Qf B hnm h hl hQ
  have hl : lv_has ls 2 [(0, .ref (am 0)), (1, .int (iI k))] := hl
  have hs := pi_s (MW.pi hM)
  have hpe := pe_0 (MW.pe hM)
  refine lv_aload_n B.1 B.2.1 dX12_isTrustedOne_0 rfl (lv_at hl 0 rfl) ?_
  refine y_getR B h kX12 50 (MW.f hM 0 _ rfl) 7 (b := am 2) rfl m_1268 (by decide) dX12_isTrustedOne_1 ?_
  refine lv_aload_n B.1 B.2.1 dX12_isTrustedOne_4 rfl (lv_at hl 0 rfl) ?_
  refine lv_iload_n B.1 B.2.1 dX12_isTrustedOne_5 rfl (lv_at hl 1 rfl) ?_
  refine y_cV B h kX12 50 (MW.f hM 0 _ rfl) k_X12_writer rfl (c_X12_writer l D Zk ca T E am _ hM k  (by omega)) m_1736 rfl (by decide) hl.1 [.ref (am 2)] (Nat.le_of_ble_eq_true rfl) rfl dX12_isTrustedOne_6 (fun r w1 hq H locs h => ?_)
  obtain ⟨rfl, _, rfl, rfl⟩ := hq
  have tb1 := pi_3 (MW.pi hM) (1000 * T 4 k + T 5 k)
  show W p l e r_c_X12_isTrustedOne s m args below meth c _ _ 0 0 Qf (F0 m 9 ls [.int (iI (T 3 (1000 * T 4 k + T 5 k))), .ref (am 2)])
  refine y_zaldG B h 52 (MW.f hM 2 _ rfl) (by omega) dX12_isTrustedOne_9 (fun z2 z2a z2b => ?_)
  refine y_rz B hQ h (by decide) (nz01 (by omega)) dX12_isTrustedOne_10 ?_
  rcases (show z2 = 1 ∨ z2 = 0 by omega) with e9 | e9
  · exact ⟨rfl, _, rfl, Or.inl ⟨e9, (by first | omega | trivial | assumption)⟩⟩
  · exact ⟨rfl, _, rfl, Or.inr ⟨e9, (by first | omega | trivial | assumption)⟩⟩
abbrev r_c_X12_areInSight : Room := { frames := 2, cells := 0, slots := 0, locals := 43 }
set_option maxHeartbeats 4000000 in
set_option maxRecDepth 100000 in
theorem c_X12_areInSight (l : Launch) (D : va_G) (Zk : yK) (ca : Nat → ClassId) (T : Nat → Int → Int) (E : Nat → Int → Int) (am : Nat → Nat) (w : yW) (hM : MW ca T E am w) (a : Int) (b : Int)  (ha : 0 ≤ a ∧ a < T 0 2) (hb : 0 ≤ b ∧ b < T 0 2) : yC l D Zk ca yX12_areInSight cX12_areInSight 3 (some .boolean) r_c_X12_areInSight [.ref (am 0), .int (iI a), .int (iI b)] w (vI w (fun z => (z = 1 ∧ (SEE T a b)) ∨ (z = 0 ∧ (¬ (SEE T a b))))) := by
  refine yC.of2 "WindWordsModel" (by decide) rfl (Nat.le_of_ble_eq_true rfl) ?_
  intro p e s m args below meth c A ls Qf B hnm h hl hQ
  have hl : lv_has ls 3 [(0, .ref (am 0)), (1, .int (iI a)), (2, .int (iI b))] := hl
  have hs := pi_s (MW.pi hM)
  have hpe := pe_0 (MW.pe hM)
  refine lv_aload_n B.1 B.2.1 dX12_areInSight_0 rfl (lv_at hl 0 rfl) ?_
  refine y_getR B h kX12 50 (MW.f hM 0 _ rfl) 15 (b := am 10) rfl m_1276 (by decide) dX12_areInSight_1 ?_
  refine lv_iload_n B.1 B.2.1 dX12_areInSight_4 rfl (lv_at hl 1 rfl) ?_
  refine y_ialdX B h 60 (MW.f hM 10 _ rfl) (by omega) dX12_areInSight_5 ?_
  refine x_iset (z := (T 5 a)) (by show iI (T 5 (((a : Int).toNat : Nat) : Int)) = _; rw [show ((((a : Int).toNat : Nat) : Int)) = a by omega]) ?_
  have tb1 := pi_5 (MW.pi hM) a
  refine lv_aload_n B.1 B.2.1 dX12_areInSight_6 rfl (lv_at hl 0 rfl) ?_
  refine y_getR B h kX12 50 (MW.f hM 0 _ rfl) 15 (b := am 10) rfl m_1276 (by decide) dX12_areInSight_7 ?_
  refine lv_iload_n B.1 B.2.1 dX12_areInSight_10 rfl (lv_at hl 2 rfl) ?_
  refine y_ialdX B h 60 (MW.f hM 10 _ rfl) (by omega) dX12_areInSight_11 ?_
  refine x_iset (z := (T 5 b)) (by show iI (T 5 (((b : Int).toNat : Nat) : Int)) = _; rw [show ((((b : Int).toNat : Nat) : Int)) = b by omega]) ?_
  have tb2 := pi_5 (MW.pi hM) b
  refine x_icmp_ne B (by omega) (tgt := 56) dX12_areInSight_12 (by decide) (fun c3 => ?_) (fun c3 => ?_)
  · refine x_iconst B dX12_areInSight_56 ?_
    refine y_rz B hQ h (by decide) (by decide) dX12_areInSight_57 ?_
    exact ⟨rfl, _, rfl, Or.inr ⟨rfl, (by first | omega | trivial | assumption)⟩⟩
  · refine lv_aload_n B.1 B.2.1 dX12_areInSight_15 rfl (lv_at hl 0 rfl) ?_
    refine y_getR B h kX12 50 (MW.f hM 0 _ rfl) 14 (b := am 9) rfl m_1275 (by decide) dX12_areInSight_16 ?_
    refine lv_iload_n B.1 B.2.1 dX12_areInSight_19 rfl (lv_at hl 1 rfl) ?_
    refine y_ialdX B h 59 (MW.f hM 9 _ rfl) (by omega) dX12_areInSight_20 ?_
    refine x_iset (z := (T 4 a)) (by show iI (T 4 (((a : Int).toNat : Nat) : Int)) = _; rw [show ((((a : Int).toNat : Nat) : Int)) = a by omega]) ?_
    have tb4 := pi_4 (MW.pi hM) a
    refine lv_aload_n B.1 B.2.1 dX12_areInSight_21 rfl (lv_at hl 0 rfl) ?_
    refine y_getR B h kX12 50 (MW.f hM 0 _ rfl) 14 (b := am 9) rfl m_1275 (by decide) dX12_areInSight_22 ?_
    refine lv_iload_n B.1 B.2.1 dX12_areInSight_25 rfl (lv_at hl 2 rfl) ?_
    refine y_ialdX B h 59 (MW.f hM 9 _ rfl) (by omega) dX12_areInSight_26 ?_
    refine x_iset (z := (T 4 b)) (by show iI (T 4 (((b : Int).toNat : Nat) : Int)) = _; rw [show ((((b : Int).toNat : Nat) : Int)) = b by omega]) ?_
    have tb5 := pi_4 (MW.pi hM) b
    refine x_icmp_eq B (by omega) (tgt := 56) dX12_areInSight_27 (by decide) (fun c6 => ?_) (fun c6 => ?_)
    · refine x_iconst B dX12_areInSight_56 ?_
      refine y_rz B hQ h (by decide) (by decide) dX12_areInSight_57 ?_
      exact ⟨rfl, _, rfl, Or.inr ⟨rfl, (by first | omega | trivial | assumption)⟩⟩
    · refine lv_aload_n B.1 B.2.1 dX12_areInSight_30 rfl (lv_at hl 0 rfl) ?_
      refine y_getR B h kX12 50 (MW.f hM 0 _ rfl) 16 (b := am 11) rfl m_1277 (by decide) dX12_areInSight_31 ?_
      refine lv_iload_n B.1 B.2.1 dX12_areInSight_34 rfl (lv_at hl 1 rfl) ?_
      refine y_ialdX B h 61 (MW.f hM 11 _ rfl) (by omega) dX12_areInSight_35 ?_
      refine x_iset (z := (T 6 a)) (by show iI (T 6 (((a : Int).toNat : Nat) : Int)) = _; rw [show ((((a : Int).toNat : Nat) : Int)) = a by omega]) ?_
      have tb7 := pi_6 (MW.pi hM) a
      refine lv_aload_n B.1 B.2.1 dX12_areInSight_36 rfl (lv_at hl 0 rfl) ?_
      refine y_getR B h kX12 50 (MW.f hM 0 _ rfl) 16 (b := am 11) rfl m_1277 (by decide) dX12_areInSight_37 ?_
      refine lv_iload_n B.1 B.2.1 dX12_areInSight_40 rfl (lv_at hl 2 rfl) ?_
      refine y_ialdX B h 61 (MW.f hM 11 _ rfl) (by omega) dX12_areInSight_41 ?_
      refine x_iset (z := (T 6 b)) (by show iI (T 6 (((b : Int).toNat : Nat) : Int)) = _; rw [show ((((b : Int).toNat : Nat) : Int)) = b by omega]) ?_
      have tb8 := pi_6 (MW.pi hM) b
      refine y_cS B h k_X12_far (c_X12_far l D Zk ca _ ((T 6 a)) ((T 6 b))  (by omega) (by omega)) m_1744 rfl (by decide) hl.1 [] (Nat.le_of_ble_eq_true rfl) rfl dX12_areInSight_42 (fun r w1 hq H locs h => ?_)
      obtain ⟨rfl, z9, rfl, hz9⟩ := hq
      show W p l e r_c_X12_areInSight s m args below meth c _ _ 0 0 Qf (F0 m 45 ls [.int (iI z9)])
      refine lv_aload_n B.1 B.2.1 dX12_areInSight_45 rfl (lv_at hl 0 rfl) ?_
      refine y_getX B h kX12 50 (MW.f hM 0 _ rfl) 5 (z := (T 0 4)) rfl m_1266 (by decide) dX12_areInSight_46 ?_
      refine x_icmp_gt B (by omega) (tgt := 56) dX12_areInSight_49 (by decide) (fun c10 => ?_) (fun c10 => ?_)
      · refine x_iconst B dX12_areInSight_56 ?_
        refine y_rz B hQ h (by decide) (by decide) dX12_areInSight_57 ?_
        exact ⟨rfl, _, rfl, Or.inr ⟨rfl, (by first | omega | trivial | assumption)⟩⟩
      · refine x_iconst B dX12_areInSight_52 ?_
        refine lv_goto (tgt := 57) B.1 B.2.1 dX12_areInSight_53 (by decide) ?_
        refine y_rz B hQ h (by decide) (by decide) dX12_areInSight_57 ?_
        exact ⟨rfl, _, rfl, Or.inl ⟨rfl, (by first | omega | trivial | assumption)⟩⟩
abbrev r_c_X12_yearOf : Room := { frames := 0, cells := 0, slots := 0, locals := 0 }
set_option maxHeartbeats 4000000 in
set_option maxRecDepth 100000 in
theorem c_X12_yearOf (l : Launch) (D : va_G) (Zk : yK) (ca : Nat → ClassId) (T : Nat → Int → Int) (E : Nat → Int → Int) (am : Nat → Nat) (w : yW) (hM : MW ca T E am w) (k : Int)  (hk : 0 ≤ k ∧ k < T 0 2) : yC l D Zk ca yX12_yearOf cX12_yearOf 2 (some .int) r_c_X12_yearOf [.ref (am 0), .int (iI k)] w (vI w (fun z => z = T 5 k / 100)) := by
  refine yC.of2 "WindWordsModel" (by decide) rfl (Nat.le_of_ble_eq_true rfl) ?_
  intro p e s m args below meth c A ls Qf B hnm h hl hQ
  have hl : lv_has ls 2 [(0, .ref (am 0)), (1, .int (iI k))] := hl
  have hs := pi_s (MW.pi hM)
  have hpe := pe_0 (MW.pe hM)
  refine lv_aload_n B.1 B.2.1 dX12_yearOf_0 rfl (lv_at hl 0 rfl) ?_
  refine y_getR B h kX12 50 (MW.f hM 0 _ rfl) 15 (b := am 10) rfl m_1276 (by decide) dX12_yearOf_1 ?_
  refine lv_iload_n B.1 B.2.1 dX12_yearOf_4 rfl (lv_at hl 1 rfl) ?_
  refine y_ialdX B h 60 (MW.f hM 10 _ rfl) (by omega) dX12_yearOf_5 ?_
  refine x_iset (z := (T 5 k)) (by show iI (T 5 (((k : Int).toNat : Nat) : Int)) = _; rw [show ((((k : Int).toNat : Nat) : Int)) = k by omega]) ?_
  have tb1 := pi_5 (MW.pi hM) k
  refine x_bipush B (by decide) dX12_yearOf_6 ?_
  refine x_idiv B (by omega) dX12_yearOf_8 ?_
  refine y_ri B hQ h (by decide) dX12_yearOf_9 ?_
  exact ⟨rfl, _, rfl, (by first | omega | trivial | assumption)⟩
