/-! ===== the storm in the reference ===== -/
def NRX (cb : Nat → Int) (b ce k : Int) : Prop := ∃ d : Int, (0 ≤ d ∧ d < k) ∧ FAR d ce ≤ 1 ∧ cb (b + d).toNat = 1
def NRN (cb : Nat → Int) (b ce k : Int) : Prop := ∀ d : Int, 0 ≤ d ∧ d < k → ¬ (FAR d ce ≤ 1 ∧ cb (b + d).toNat = 1)
theorem nrx_up {cb : Nat → Int} {b ce k : Int} (h : NRX cb b ce k) : NRX cb b ce (k + 1) := by
  obtain ⟨d, hd, q⟩ := h
  exact ⟨d, by omega, q⟩
theorem nrx_new {cb : Nat → Int} {b ce k : Int} (hk : 0 ≤ k) (hf : FAR k ce ≤ 1) (hc : cb (b + k).toNat = 1) : NRX cb b ce (k + 1) := ⟨k, by omega, hf, hc⟩
theorem nrn_next {cb : Nat → Int} {b ce k : Int} (h : NRN cb b ce k) (hn : ¬ (FAR k ce ≤ 1 ∧ cb (b + k).toNat = 1)) : NRN cb b ce (k + 1) := fun d hd => by
  by_cases e : d = k
  · subst e; exact hn
  · exact h d (by omega)
theorem nrn_no {cb : Nat → Int} {b ce k : Int} (h : NRN cb b ce k) : ¬ NRX cb b ce k := fun ⟨d, hd, q⟩ => h d hd q
def CFM (T : Nat → Int → Int) (j ce : Int) (cb : Nat → Int) : Prop := ∀ i c : Int, 0 ≤ i → (0 ≤ c ∧ c ≤ 63) → (i < j ∨ (i = j ∧ c < ce)) → (cb (64 * i + c).toNat = 1 ↔ FWD T i.toNat c)
theorem cfm_0 {T : Nat → Int → Int} {cb : Nat → Int} : CFM T (T 0 10 - T 0 10) 0 cb := fun i c h0 hc h => by omega
theorem cfm_next {T : Nat → Int → Int} {j ce z x : Int} {cb : Nat → Int} (hx : x = 64 * j + ce) (h0 : 0 ≤ j) (hc : 0 ≤ ce ∧ ce < 64) (h : CFM T j ce cb) (hz : (z = 1 ∧ FWD T j.toNat ce) ∨ (z = 0 ∧ ¬ FWD T j.toNat ce)) : CFM T j (ce + 1) (iu cb x z) := fun i c i0 ic q => by
  unfold iu
  by_cases e : i = j ∧ c = ce
  · obtain ⟨rfl, rfl⟩ := e
    rw [if_pos (by omega)]
    rcases hz with ⟨rfl, f⟩ | ⟨rfl, f⟩
    · exact ⟨fun _ => f, fun _ => rfl⟩
    · exact ⟨fun g => absurd g (by omega), fun g => absurd g f⟩
  · rw [if_neg (by omega)]
    exact h i c i0 ic (by omega)
theorem cfm_row {T : Nat → Int → Int} {j j2 ce : Int} {cb : Nat → Int} (h : CFM T j ce cb) (hc : 64 ≤ ce) (hj : j2 = j + 1) : CFM T j2 0 cb := fun i c i0 ic q => h i c i0 ic (by omega)
theorem fw_0 {T : Nat → Int → Int} {v ce : Int} (h : ALW T v ce) (hv : v = T 0 10) : FWD T (v - T 0 10).toNat ce := by
  rw [show (v - T 0 10).toNat = 0 by omega]
  rw [hv] at h; exact h
theorem fw_a {T : Nat → Int → Int} {v ce : Int} (h : ¬ ALW T v ce) (hv : T 0 10 ≤ v) : ¬ FWD T (v - T 0 10).toNat ce := fun q => by
  by_cases e : v = T 0 10
  · rw [show (v - T 0 10).toNat = 0 by omega] at q
    rw [e] at h; exact h q
  · have a := ((fwd_n (by omega)).mp q).1
    rw [show T 0 10 + (v - T 0 10) = v by omega] at a; exact h a
theorem fw_n {T : Nat → Int → Int} {v ce : Int} {cb : Nat → Int} (h : ALW T v ce) (hv : T 0 10 < v) (hc : CFM T (v - T 0 10) ce cb) (hn : NRX cb (64 * (v - 1 - T 0 10)) ce 64) : FWD T (v - T 0 10).toNat ce := by
  obtain ⟨d, hd, a, b⟩ := hn
  refine (fwd_n (by omega)).mpr ⟨by rw [show T 0 10 + (v - T 0 10) = v by omega]; exact h, d, by omega, a, ?_⟩
  rw [show v - T 0 10 - 1 = v - 1 - T 0 10 by omega]
  exact (hc (v - 1 - T 0 10) d (by omega) (by omega) (by omega)).mp b
theorem fw_x {T : Nat → Int → Int} {v ce : Int} {cb : Nat → Int} (hv : T 0 10 < v) (hc : CFM T (v - T 0 10) ce cb) (hn : ¬ NRX cb (64 * (v - 1 - T 0 10)) ce 64) : ¬ FWD T (v - T 0 10).toNat ce := fun q => by
  obtain ⟨-, d, hd, a, b⟩ := (fwd_n (by omega)).mp q
  rw [show v - T 0 10 - 1 = v - 1 - T 0 10 by omega] at b
  exact hn ⟨d, by omega, a, (hc (v - 1 - T 0 10) d (by omega) hd (by omega)).mpr b⟩
def CBM (T : Nat → Int → Int) (j ce : Int) (cb : Nat → Int) : Prop := ∀ i c : Int, (0 ≤ i ∧ i ≤ T 0 11 - T 0 10) → (0 ≤ c ∧ c ≤ 63) → ((j < i ∨ (i = j ∧ c < ce)) → (cb (64 * i + c).toNat = 1 ↔ HLD T i c)) ∧ ((i < j ∨ (i = j ∧ ce ≤ c)) → (cb (64 * i + c).toNat = 1 ↔ FWD T i.toNat c))
theorem cbm_0 {T : Nat → Int → Int} {n j : Int} {cb : Nat → Int} (h : CFM T n 0 cb) (hn : n = T 0 11 - T 0 10 + 1) (hj : j = T 0 11 - T 0 10 - 1) : CBM T j 0 cb := fun i c i0 ic => by
  have a := h i c (by omega) ic (by omega)
  refine ⟨fun q => ?_, fun _ => a⟩
  have e : i = T 0 11 - T 0 10 := by omega
  rw [e] at a ⊢
  exact a.trans hld_end.symm
theorem cbm_next {T : Nat → Int → Int} {j ce z x : Int} {cb : Nat → Int} (hx : x = 64 * j + ce) (h0 : 0 ≤ j ∧ j < T 0 11 - T 0 10) (hc : 0 ≤ ce ∧ ce < 64) (h : CBM T j ce cb) (hz : (z = 1 ∧ HLD T j ce) ∨ (z = 0 ∧ ¬ HLD T j ce)) : CBM T j (ce + 1) (iu cb x z) := fun i c i0 ic => by
  unfold iu
  by_cases e : i = j ∧ c = ce
  · obtain ⟨rfl, rfl⟩ := e
    rw [if_pos (by omega)]
    refine ⟨fun _ => ?_, fun q => by omega⟩
    rcases hz with ⟨rfl, f⟩ | ⟨rfl, f⟩
    · exact ⟨fun _ => f, fun _ => rfl⟩
    · exact ⟨fun g => absurd g (by omega), fun g => absurd g f⟩
  · rw [if_neg (by omega)]
    have a := h i c i0 ic
    exact ⟨fun q => a.1 (by omega), fun q => a.2 (by omega)⟩
theorem cbm_row {T : Nat → Int → Int} {j j2 ce : Int} {cb : Nat → Int} (h : CBM T j ce cb) (hc : 64 ≤ ce) (hj : j2 = j - 1) : CBM T j2 0 cb := fun i c i0 ic => by
  have a := h i c i0 ic
  exact ⟨fun q => a.1 (by omega), fun q => a.2 (by omega)⟩
theorem bw_y {T : Nat → Int → Int} {v ce : Int} {cb : Nat → Int} (hv : T 0 10 ≤ v ∧ v < T 0 11) (hc : 0 ≤ ce ∧ ce ≤ 63) (h : CBM T (v - T 0 10) ce cb) (hb : cb (64 * (v - T 0 10) + ce).toNat = 1) (hn : NRX cb (64 * (v + 1 - T 0 10)) ce 64) : HLD T (v - T 0 10) ce := by
  obtain ⟨d, hd, a, b⟩ := hn
  refine (hld_n (by omega)).mpr ⟨((h (v - T 0 10) ce (by omega) hc).2 (by omega)).mp hb, d, by omega, a, ?_⟩
  rw [show v - T 0 10 + 1 = v + 1 - T 0 10 by omega]
  exact ((h (v + 1 - T 0 10) d (by omega) (by omega)).1 (by omega)).mp b
theorem bw_x {T : Nat → Int → Int} {v ce : Int} {cb : Nat → Int} (hv : T 0 10 ≤ v ∧ v < T 0 11) (hc : 0 ≤ ce ∧ ce ≤ 63) (h : CBM T (v - T 0 10) ce cb) (hn : ¬ NRX cb (64 * (v + 1 - T 0 10)) ce 64) : ¬ HLD T (v - T 0 10) ce := fun q => by
  obtain ⟨-, d, hd, a, b⟩ := (hld_n (by omega)).mp q
  rw [show v - T 0 10 + 1 = v + 1 - T 0 10 by omega] at b
  exact hn ⟨d, by omega, a, ((h (v + 1 - T 0 10) d (by omega) hd).1 (by omega)).mpr b⟩
theorem bw_n {T : Nat → Int → Int} {v ce : Int} {cb : Nat → Int} (hv : T 0 10 ≤ v ∧ v < T 0 11) (hc : 0 ≤ ce ∧ ce ≤ 63) (h : CBM T (v - T 0 10) ce cb) (hb : ¬ cb (64 * (v - T 0 10) + ce).toNat = 1) : ¬ HLD T (v - T 0 10) ce := fun q =>
  hb (((h (v - T 0 10) ce (by omega) hc).2 (by omega)).mpr ((hld_n (by omega)).mp q).1)
def CBE (T : Nat → Int → Int) (cb : Nat → Int) : Prop := (∀ j : Nat, j < 3840 → 0 ≤ cb j ∧ cb j ≤ 1) ∧ ∀ i c : Int, (0 ≤ i ∧ i ≤ T 0 11 - T 0 10) → (0 ≤ c ∧ c ≤ 63) → (cb (64 * i + c).toNat = 1 ↔ HLD T i c)
theorem cbe_of {T : Nat → Int → Int} {j : Int} {cb : Nat → Int} (h : CBM T j 0 cb) (hj : j < 0) : ∀ i c : Int, (0 ≤ i ∧ i ≤ T 0 11 - T 0 10) → (0 ≤ c ∧ c ≤ 63) → (cb (64 * i + c).toNat = 1 ↔ HLD T i c) := fun i c i0 ic => (h i c i0 ic).1 (by omega)
theorem sta_c1 {T : Nat → Int → Int} (h : 0 < cntp (HLD T 0) 64) : ∃ c : Int, (0 ≤ c ∧ c ≤ 63) ∧ HLD T 0 c := by
  obtain ⟨c, hc, hp⟩ := cntp_pos 64 h
  exact ⟨c, by omega, hp⟩
theorem sta_c0 {T : Nat → Int → Int} (h : cntp (HLD T 0) 64 ≤ 0) : ∀ c : Int, 0 ≤ c ∧ c ≤ 63 → ¬ HLD T 0 c := fun c hc => cntp_zero 64 h c (by omega)


abbrev r_c_X12_officerOf_y : Room := { frames := 0, cells := 0, slots := 0, locals := 0 }
set_option maxHeartbeats 4000000 in
set_option maxRecDepth 100000 in
theorem c_X12_officerOf_y (l : Launch) (D : va_G) (Zk : yK) (ca : Nat → ClassId) (T : Nat → Int → Int) (E : Nat → Int → Int) (am : Nat → Nat) (v0 w : yW) (hM : MW ca T E am v0) (hv0 : ∀ k : Nat, k ≠ 89 → k ≠ 89 → w k = v0 k) (ship : Int) (watch : Int)  (hship : 0 ≤ ship ∧ ship ≤ 11) (hwatch : xr watch) : yC l D Zk ca yX12_officerOf cX12_officerOf 5 (some .int) r_c_X12_officerOf_y [.ref (am 0), .int (iI ship), .int (iI watch)] w (vI w (fun z => z = sgo T ship watch (T 0 3).toNat ∧ 0 ≤ z ∧ z ≤ 15)) := by
  refine yC.of2 "WindWordsModel" (by decide) rfl (Nat.le_of_ble_eq_true rfl) ?_
  intro p e s m args below meth c A ls Qf B hnm h hl hQ
  have hl : lv_has ls 5 [(0, .ref (am 0)), (1, .int (iI ship)), (2, .int (iI watch))] := hl
  have hs := pi_s (MW.pi hM)
  have hpe := pe_0 (MW.pe hM)
  refine lv_aload_n B.1 B.2.1 dX12_officerOf_0 rfl (lv_at hl 0 rfl) ?_
  refine y_getR B h kX12 50 ((hv0 (50) (by omega) (by omega)).trans ((MW.f hM 0 _ rfl))) 9 (b := am 4) rfl m_1270 (by decide) dX12_officerOf_1 ?_
  refine lv_iload_n B.1 B.2.1 dX12_officerOf_4 rfl (lv_at hl 1 rfl) ?_
  refine y_ialdX B h 54 ((hv0 (54) (by omega) (by omega)).trans ((MW.f hM 4 _ rfl))) (by omega) dX12_officerOf_5 ?_
  refine x_iset (z := (T 20 ship)) (by show iI (T 20 (((ship : Int).toNat : Nat) : Int)) = _; rw [show ((((ship : Int).toNat : Nat) : Int)) = ship by omega]) ?_
  have tb1 := pi_20 (MW.pi hM) ship
  refine lv_istore_n (lv' := [(3, .int (iI (T 20 ship))), (0, .ref (am 0)), (1, .int (iI ship)), (2, .int (iI watch))]) B.1 B.2.1 dX12_officerOf_6 rfl hl (by decide) rfl (fun ls hl => ?_)
  refine x_iconst B dX12_officerOf_7 ?_
  refine lv_istore (lv' := [(4, .int (iI 0)), (3, .int (iI (T 20 ship))), (0, .ref (am 0)), (1, .int (iI ship)), (2, .int (iI watch))]) B.1 B.2.1 dX12_officerOf_8 hl (by decide) rfl (fun ls hl => ?_)
  have loop10 : ∀ (n10 : Nat) (o : Int) (k : Int), (0 ≤ k ∧ k ≤ T 0 3) → (o = sgo T ship watch k.toNat) → (0 ≤ o ∧ o ≤ 15) → ((60 - k : Int)).toNat < n10 → ∀ (H : Heap) (locs : List Loc) (ls : Array Slot), yH D Zk A s w H locs → lv_has ls 5 [(4, .int (iI k)), (3, .int (iI o)), (0, .ref (am 0)), (1, .int (iI ship)), (2, .int (iI watch))] → W p l e r_c_X12_officerOf_y s m args below meth c H locs 0 0 Qf (F0 m 10 ls []) := by
    intro n10
    induction n10 with
    | zero =>
      intro o k h0 h1 h2 hm10 H locs ls h hl
      exact absurd hm10 (Nat.not_lt_zero _)
    | succ n10 ih10 =>
      intro o k h0 h1 h2 hm10 H locs ls h hl
      refine lv_iload B.1 B.2.1 dX12_officerOf_10 (lv_at hl 0 rfl) ?_
      refine lv_aload_n B.1 B.2.1 dX12_officerOf_12 rfl (lv_at hl 2 rfl) ?_
      refine y_getX B h kX12 50 ((hv0 (50) (by omega) (by omega)).trans ((MW.f hM 0 _ rfl))) 3 (z := (T 0 3)) rfl m_1264 (by decide) dX12_officerOf_13 ?_
      refine x_icmp_ge B (by omega) (tgt := 55) dX12_officerOf_16 (by decide) (fun c2 => ?_) (fun c2 => ?_)
      · refine lv_iload_n B.1 B.2.1 dX12_officerOf_55 rfl (lv_at hl 1 rfl) ?_
        refine y_ri B hQ h (by decide) dX12_officerOf_56 ?_
        have e9 : k = T 0 3 := by omega
        rw [e9] at h1
        exact ⟨rfl, _, rfl, h1, by omega⟩
      · refine lv_aload_n B.1 B.2.1 dX12_officerOf_19 rfl (lv_at hl 2 rfl) ?_
        refine y_getR B h kX12 50 ((hv0 (50) (by omega) (by omega)).trans ((MW.f hM 0 _ rfl))) 11 (b := am 6) rfl m_1272 (by decide) dX12_officerOf_20 ?_
        refine lv_iload B.1 B.2.1 dX12_officerOf_23 (lv_at hl 0 rfl) ?_
        refine y_ialdX B h 56 ((hv0 (56) (by omega) (by omega)).trans ((MW.f hM 6 _ rfl))) (by omega) dX12_officerOf_25 ?_
        refine x_iset (z := (T 21 k)) (by show iI (T 21 (((k : Int).toNat : Nat) : Int)) = _; rw [show ((((k : Int).toNat : Nat) : Int)) = k by omega]) ?_
        have tb3 := pi_21 (MW.pi hM) k
        refine lv_iload_n B.1 B.2.1 dX12_officerOf_26 rfl (lv_at hl 3 rfl) ?_
        refine x_icmp_ne B (by omega) (tgt := 49) dX12_officerOf_27 (by decide) (fun c4 => ?_) (fun c4 => ?_)
        · refine lv_iinc (v := iI (k + 1)) (lv' := [(4, .int (iI (k + 1))), (3, .int (iI o)), (0, .ref (am 0)), (1, .int (iI ship)), (2, .int (iI watch))]) B.1 B.2.1 dX12_officerOf_49 hl (k := 0) rfl (iI_add _ _) (by decide) rfl (fun ls hl => ?_)
          refine lv_goto (tgt := 10) B.1 B.2.1 dX12_officerOf_52 (by decide) ?_
          exact ih10 o ((k + 1)) (by omega) (sgo_step (T := T) (s := ship) (v := watch) (k := k) (by omega) h1 (by omega)) (by omega) (by omega) _ _ _ h (lv_sub hl [0, 1, 2, 3, 4] rfl)
        · refine lv_aload_n B.1 B.2.1 dX12_officerOf_30 rfl (lv_at hl 2 rfl) ?_
          refine y_getR B h kX12 50 ((hv0 (50) (by omega) (by omega)).trans ((MW.f hM 0 _ rfl))) 13 (b := am 8) rfl m_1274 (by decide) dX12_officerOf_31 ?_
          refine lv_iload B.1 B.2.1 dX12_officerOf_34 (lv_at hl 0 rfl) ?_
          refine y_ialdX B h 58 ((hv0 (58) (by omega) (by omega)).trans ((MW.f hM 8 _ rfl))) (by omega) dX12_officerOf_36 ?_
          refine x_iset (z := (T 23 k)) (by show iI (T 23 (((k : Int).toNat : Nat) : Int)) = _; rw [show ((((k : Int).toNat : Nat) : Int)) = k by omega]) ?_
          have tb5 := pi_23 (MW.pi hM) k
          refine lv_iload_n B.1 B.2.1 dX12_officerOf_37 rfl (lv_at hl 4 rfl) ?_
          refine x_icmp_gt B (by omega) (tgt := 49) dX12_officerOf_38 (by decide) (fun c6 => ?_) (fun c6 => ?_)
          · refine lv_iinc (v := iI (k + 1)) (lv' := [(4, .int (iI (k + 1))), (3, .int (iI o)), (0, .ref (am 0)), (1, .int (iI ship)), (2, .int (iI watch))]) B.1 B.2.1 dX12_officerOf_49 hl (k := 0) rfl (iI_add _ _) (by decide) rfl (fun ls hl => ?_)
            refine lv_goto (tgt := 10) B.1 B.2.1 dX12_officerOf_52 (by decide) ?_
            exact ih10 o ((k + 1)) (by omega) (sgo_step (T := T) (s := ship) (v := watch) (k := k) (by omega) h1 (by omega)) (by omega) (by omega) _ _ _ h (lv_sub hl [0, 1, 2, 3, 4] rfl)
          · refine lv_aload_n B.1 B.2.1 dX12_officerOf_41 rfl (lv_at hl 2 rfl) ?_
            refine y_getR B h kX12 50 ((hv0 (50) (by omega) (by omega)).trans ((MW.f hM 0 _ rfl))) 12 (b := am 7) rfl m_1273 (by decide) dX12_officerOf_42 ?_
            refine lv_iload B.1 B.2.1 dX12_officerOf_45 (lv_at hl 0 rfl) ?_
            refine y_ialdX B h 57 ((hv0 (57) (by omega) (by omega)).trans ((MW.f hM 7 _ rfl))) (by omega) dX12_officerOf_47 ?_
            refine x_iset (z := (T 22 k)) (by show iI (T 22 (((k : Int).toNat : Nat) : Int)) = _; rw [show ((((k : Int).toNat : Nat) : Int)) = k by omega]) ?_
            have tb7 := pi_22 (MW.pi hM) k
            refine lv_istore_n (lv' := [(3, .int (iI (T 22 k))), (4, .int (iI k)), (0, .ref (am 0)), (1, .int (iI ship)), (2, .int (iI watch))]) B.1 B.2.1 dX12_officerOf_48 rfl hl (by decide) rfl (fun ls hl => ?_)
            refine lv_iinc (v := iI (k + 1)) (lv' := [(4, .int (iI (k + 1))), (3, .int (iI (T 22 k))), (0, .ref (am 0)), (1, .int (iI ship)), (2, .int (iI watch))]) B.1 B.2.1 dX12_officerOf_49 hl (k := 1) rfl (iI_add _ _) (by decide) rfl (fun ls hl => ?_)
            refine lv_goto (tgt := 10) B.1 B.2.1 dX12_officerOf_52 (by decide) ?_
            exact ih10 ((T 22 k)) ((k + 1)) (by omega) (sgo_step (T := T) (s := ship) (v := watch) (k := k) (by omega) h1 (by omega)) (by omega) (by omega) _ _ _ h (lv_sub hl [0, 1, 2, 3, 4] rfl)
  exact loop10 (((60 - 0 : Int)).toNat + 1) ((T 20 ship)) 0 (by omega) (show T 20 ship = sgo T ship watch (0 : Int).toNat from rfl) (by omega) (Nat.lt_succ_self _) _ _ _ h (lv_sub hl [0, 1, 2, 3, 4] rfl)
abbrev r_c_X12_isMan_y : Room := { frames := 0, cells := 0, slots := 0, locals := 0 }
set_option maxHeartbeats 4000000 in
set_option maxRecDepth 100000 in
theorem c_X12_isMan_y (l : Launch) (D : va_G) (Zk : yK) (ca : Nat → ClassId) (T : Nat → Int → Int) (E : Nat → Int → Int) (am : Nat → Nat) (v0 w : yW) (hM : MW ca T E am v0) (hv0 : ∀ k : Nat, k ≠ 89 → k ≠ 89 → w k = v0 k) (k : Int)  (hk : 0 ≤ k ∧ k < T 0 2) : yC l D Zk ca yX12_isMan cX12_isMan 2 (some .boolean) r_c_X12_isMan_y [.ref (am 0), .int (iI k)] w (vI w (fun z => (z = 1 ∧ (T 7 k ≠ 3)) ∨ (z = 0 ∧ (¬ (T 7 k ≠ 3))))) := by
  refine yC.of2 "WindWordsModel" (by decide) rfl (Nat.le_of_ble_eq_true rfl) ?_
  intro p e s m args below meth c A ls Qf B hnm h hl hQ
  have hl : lv_has ls 2 [(0, .ref (am 0)), (1, .int (iI k))] := hl
  have hs := pi_s (MW.pi hM)
  have hpe := pe_0 (MW.pe hM)
  refine lv_aload_n B.1 B.2.1 dX12_isMan_0 rfl (lv_at hl 0 rfl) ?_
  refine y_getR B h kX12 50 ((hv0 (50) (by omega) (by omega)).trans ((MW.f hM 0 _ rfl))) 17 (b := am 12) rfl m_1278 (by decide) dX12_isMan_1 ?_
  refine lv_iload_n B.1 B.2.1 dX12_isMan_4 rfl (lv_at hl 1 rfl) ?_
  refine y_ialdX B h 62 ((hv0 (62) (by omega) (by omega)).trans ((MW.f hM 12 _ rfl))) (by omega) dX12_isMan_5 ?_
  refine x_iset (z := (T 7 k)) (by show iI (T 7 (((k : Int).toNat : Nat) : Int)) = _; rw [show ((((k : Int).toNat : Nat) : Int)) = k by omega]) ?_
  have tb1 := pi_7 (MW.pi hM) k
  refine x_iconst B dX12_isMan_6 ?_
  refine x_icmp_ge B (by omega) (tgt := 14) dX12_isMan_7 (by decide) (fun c2 => ?_) (fun c2 => ?_)
  · refine x_iconst B dX12_isMan_14 ?_
    refine y_rz B hQ h (by decide) (by decide) dX12_isMan_15 ?_
    exact ⟨rfl, _, rfl, Or.inr ⟨rfl, (by first | omega | trivial | assumption)⟩⟩
  · refine x_iconst B dX12_isMan_10 ?_
    refine lv_goto (tgt := 15) B.1 B.2.1 dX12_isMan_11 (by decide) ?_
    refine y_rz B hQ h (by decide) (by decide) dX12_isMan_15 ?_
    exact ⟨rfl, _, rfl, Or.inl ⟨rfl, (by first | omega | trivial | assumption)⟩⟩
abbrev r_c_X12_writer_y : Room := { frames := 1, cells := 0, slots := 0, locals := 24 }
set_option maxHeartbeats 4000000 in
set_option maxRecDepth 100000 in
theorem c_X12_writer_y (l : Launch) (D : va_G) (Zk : yK) (ca : Nat → ClassId) (T : Nat → Int → Int) (E : Nat → Int → Int) (am : Nat → Nat) (v0 w : yW) (hM : MW ca T E am v0) (hv0 : ∀ k : Nat, k ≠ 89 → k ≠ 89 → w k = v0 k) (k : Int)  (hk : 0 ≤ k ∧ k < T 0 2) : yC l D Zk ca yX12_writer cX12_writer 2 (some .int) r_c_X12_writer_y [.ref (am 0), .int (iI k)] w (vI w (fun z => z = T 3 (1000 * T 4 k + T 5 k))) := by
  refine yC.of2 "WindWordsModel" (by decide) rfl (Nat.le_of_ble_eq_true rfl) ?_
  intro p e s m args below meth c A ls Qf B hnm h hl hQ
  have hl : lv_has ls 2 [(0, .ref (am 0)), (1, .int (iI k))] := hl
  have hs := pi_s (MW.pi hM)
  have hpe := pe_0 (MW.pe hM)
  refine lv_aload_n B.1 B.2.1 dX12_writer_0 rfl (lv_at hl 0 rfl) ?_
  refine lv_aload_n B.1 B.2.1 dX12_writer_1 rfl (lv_at hl 0 rfl) ?_
  refine y_getR B h kX12 50 ((hv0 (50) (by omega) (by omega)).trans ((MW.f hM 0 _ rfl))) 14 (b := am 9) rfl m_1275 (by decide) dX12_writer_2 ?_
  refine lv_iload_n B.1 B.2.1 dX12_writer_5 rfl (lv_at hl 1 rfl) ?_
  refine y_ialdX B h 59 ((hv0 (59) (by omega) (by omega)).trans ((MW.f hM 9 _ rfl))) (by omega) dX12_writer_6 ?_
  refine x_iset (z := (T 4 k)) (by show iI (T 4 (((k : Int).toNat : Nat) : Int)) = _; rw [show ((((k : Int).toNat : Nat) : Int)) = k by omega]) ?_
  have tb1 := pi_4 (MW.pi hM) k
  refine lv_aload_n B.1 B.2.1 dX12_writer_7 rfl (lv_at hl 0 rfl) ?_
  refine y_getR B h kX12 50 ((hv0 (50) (by omega) (by omega)).trans ((MW.f hM 0 _ rfl))) 15 (b := am 10) rfl m_1276 (by decide) dX12_writer_8 ?_
  refine lv_iload_n B.1 B.2.1 dX12_writer_11 rfl (lv_at hl 1 rfl) ?_
  refine y_ialdX B h 60 ((hv0 (60) (by omega) (by omega)).trans ((MW.f hM 10 _ rfl))) (by omega) dX12_writer_12 ?_
  refine x_iset (z := (T 5 k)) (by show iI (T 5 (((k : Int).toNat : Nat) : Int)) = _; rw [show ((((k : Int).toNat : Nat) : Int)) = k by omega]) ?_
  have tb2 := pi_5 (MW.pi hM) k
  refine y_cV B h kX12 50 ((hv0 (50) (by omega) (by omega)).trans ((MW.f hM 0 _ rfl))) k_X12_officerOf rfl (c_X12_officerOf_y l D Zk ca T E am _ _ hM hv0 ((T 4 k)) ((T 5 k))  (by omega) (by omega)) m_1683 rfl (by decide) hl.1 [] (Nat.le_of_ble_eq_true rfl) rfl dX12_writer_13 (fun r w1 hq H locs h => ?_)
  obtain ⟨rfl, z3, rfl, hz3⟩ := hq
  show W p l e r_c_X12_writer_y s m args below meth c _ _ 0 0 Qf (F0 m 16 ls [.int (iI z3)])
  refine y_ri B hQ h (by decide) dX12_writer_16 ?_
  have q9 := pi_sg (MW.pi hM) (s := T 4 k) (v := T 5 k) ⟨by omega, pi_in (MW.pi hM) k hk⟩ (by omega)
  exact ⟨rfl, _, rfl, by omega⟩
abbrev r_c_X12_isTrustedOne_y : Room := { frames := 2, cells := 0, slots := 0, locals := 45 }
set_option maxHeartbeats 4000000 in
set_option maxRecDepth 100000 in
theorem c_X12_isTrustedOne_y (l : Launch) (D : va_G) (Zk : yK) (ca : Nat → ClassId) (T : Nat → Int → Int) (E : Nat → Int → Int) (am : Nat → Nat) (v0 w : yW) (hM : MW ca T E am v0) (hv0 : ∀ k : Nat, k ≠ 89 → k ≠ 89 → w k = v0 k) (k : Int)  (hk : 0 ≤ k ∧ k < T 0 2) : yC l D Zk ca yX12_isTrustedOne cX12_isTrustedOne 2 (some .boolean) r_c_X12_isTrustedOne_y [.ref (am 0), .int (iI k)] w (vI w (fun z => (z = 1 ∧ (T 24 (T 3 (1000 * T 4 k + T 5 k)) = 1)) ∨ (z = 0 ∧ (T 24 (T 3 (1000 * T 4 k + T 5 k)) = 0)))) := by
  refine yC.of2 "WindWordsModel" (by decide) rfl (Nat.le_of_ble_eq_true rfl) ?_
  intro p e s m args below meth c A ls Qf B hnm h hl hQ
  have hl : lv_has ls 2 [(0, .ref (am 0)), (1, .int (iI k))] := hl
  have hs := pi_s (MW.pi hM)
  have hpe := pe_0 (MW.pe hM)
  have w9 := pq_wr (MW.pi hM) (MW.pq hM) hk
  refine lv_aload_n B.1 B.2.1 dX12_isTrustedOne_0 rfl (lv_at hl 0 rfl) ?_
  refine y_getR B h kX12 50 ((hv0 (50) (by omega) (by omega)).trans ((MW.f hM 0 _ rfl))) 7 (b := am 2) rfl m_1268 (by decide) dX12_isTrustedOne_1 ?_
  refine lv_aload_n B.1 B.2.1 dX12_isTrustedOne_4 rfl (lv_at hl 0 rfl) ?_
  refine lv_iload_n B.1 B.2.1 dX12_isTrustedOne_5 rfl (lv_at hl 1 rfl) ?_
  refine y_cV B h kX12 50 ((hv0 (50) (by omega) (by omega)).trans ((MW.f hM 0 _ rfl))) k_X12_writer rfl (c_X12_writer_y l D Zk ca T E am _ _ hM hv0 k  (by omega)) m_1736 rfl (by decide) hl.1 [.ref (am 2)] (Nat.le_of_ble_eq_true rfl) rfl dX12_isTrustedOne_6 (fun r w1 hq H locs h => ?_)
  obtain ⟨rfl, _, rfl, rfl⟩ := hq
  have tb1 := pi_3 (MW.pi hM) (1000 * T 4 k + T 5 k)
  show W p l e r_c_X12_isTrustedOne_y s m args below meth c _ _ 0 0 Qf (F0 m 9 ls [.int (iI (T 3 (1000 * T 4 k + T 5 k))), .ref (am 2)])
  have eb2 := gTr_r (n := T 0 0) (MW.pq hM) ((T 3 (1000 * T 4 k + T 5 k))).toNat
  have ec3 := gTr_in (T := T) (n := T 0 0) (i := (T 3 (1000 * T 4 k + T 5 k)))
  refine y_zaldX B h 52 ((hv0 (52) (by omega) (by omega)).trans ((MW.f hM 2 _ rfl))) (by omega) dX12_isTrustedOne_9 ?_
  refine x_iset (z := (gTr T (T 0 0) ((T 3 (1000 * T 4 k + T 5 k))).toNat)) rfl ?_
  refine y_rz B hQ h (by decide) (nz01 (by omega)) dX12_isTrustedOne_10 ?_
  rcases (show (gTr T (T 0 0) ((T 3 (1000 * T 4 k + T 5 k))).toNat) = 1 ∨ (gTr T (T 0 0) ((T 3 (1000 * T 4 k + T 5 k))).toNat) = 0 by omega) with e9 | e9
  · exact ⟨rfl, _, rfl, Or.inl ⟨e9, (by first | omega | trivial | assumption)⟩⟩
  · exact ⟨rfl, _, rfl, Or.inr ⟨e9, (by first | omega | trivial | assumption)⟩⟩
abbrev r_c_X12_agrees_e_y : Room := { frames := 3, cells := 0, slots := 0, locals := 66 }
set_option maxHeartbeats 4000000 in
set_option maxRecDepth 100000 in
theorem c_X12_agrees_e_y (l : Launch) (D : va_G) (Zk : yK) (ca : Nat → ClassId) (T : Nat → Int → Int) (E : Nat → Int → Int) (am : Nat → Nat) (v0 w : yW) (hM : MW ca T E am v0) (hv0 : ∀ k : Nat, k ≠ 89 → k ≠ 89 → w k = v0 k) (v : Int) (ce : Int)  (hv : xr v) (hce : 0 ≤ ce ∧ ce ≤ 63) : yC l D Zk ca yX12_agrees cX12_agrees 5 (some .boolean) r_c_X12_agrees_e_y [.ref (am 0), .int (iI v), .int (iI ce)] w (vI w (fun z => (z = 1 ∧ (ALW T v ce)) ∨ (z = 0 ∧ (¬ ALW T v ce)))) := by
  refine yC.of2 "WindWordsModel" (by decide) rfl (Nat.le_of_ble_eq_true rfl) ?_
  intro p e s m args below meth c A ls Qf B hnm h hl hQ
  have hl : lv_has ls 5 [(0, .ref (am 0)), (1, .int (iI v)), (2, .int (iI ce))] := hl
  have hs := pi_s (MW.pi hM)
  refine x_iconst B dX12_agrees_0 ?_
  refine lv_istore_n (lv' := [(3, .int (iI 1)), (0, .ref (am 0)), (1, .int (iI v)), (2, .int (iI ce))]) B.1 B.2.1 dX12_agrees_1 rfl hl (by decide) rfl (fun ls hl => ?_)
  refine x_iconst B dX12_agrees_2 ?_
  refine lv_istore (lv' := [(4, .int (iI 0)), (3, .int (iI 1)), (0, .ref (am 0)), (1, .int (iI v)), (2, .int (iI ce))]) B.1 B.2.1 dX12_agrees_3 hl (by decide) rfl (fun ls hl => ?_)
  have loop5 : ∀ (n5 : Nat) (is : Int) (k : Int), (is = 0 ∨ is = 1) → (0 ≤ k ∧ k ≤ T 0 2) → ((is = 1 ∧ ALN T v ce k) ∨ (is = 0 ∧ ¬ ALN T v ce k)) → ((300 - k : Int)).toNat < n5 → ∀ (H : Heap) (locs : List Loc) (ls : Array Slot), yH D Zk A s w H locs → lv_has ls 5 [(4, .int (iI k)), (3, .int (iI is)), (0, .ref (am 0)), (1, .int (iI v)), (2, .int (iI ce))] → W p l e r_c_X12_agrees_e_y s m args below meth c H locs 0 0 Qf (F0 m 5 ls []) := by
    intro n5
    induction n5 with
    | zero =>
      intro is k h0 h1 h2 hm5 H locs ls h hl
      exact absurd hm5 (Nat.not_lt_zero _)
    | succ n5 ih5 =>
      intro is k h0 h1 h2 hm5 H locs ls h hl
      refine lv_iload B.1 B.2.1 dX12_agrees_5 (lv_at hl 0 rfl) ?_
      refine lv_aload_n B.1 B.2.1 dX12_agrees_7 rfl (lv_at hl 2 rfl) ?_
      refine y_getX B h kX12 50 ((hv0 (50) (by omega) (by omega)).trans ((MW.f hM 0 _ rfl))) 4 (z := (T 0 2)) rfl m_1265 (by decide) dX12_agrees_8 ?_
      refine x_icmp_ge B (by omega) (tgt := 107) dX12_agrees_11 (by decide) (fun c1 => ?_) (fun c1 => ?_)
      · refine lv_iload_n B.1 B.2.1 dX12_agrees_107 rfl (lv_at hl 1 rfl) ?_
        refine y_rz B hQ h (by decide) (nz01 (by omega)) dX12_agrees_108 ?_
        have e9 : k = T 0 2 := by omega
        rw [e9] at h2
        rcases h2 with ⟨x1, x2⟩ | ⟨x1, x2⟩
        · exact ⟨rfl, _, rfl, Or.inl ⟨x1, x2⟩⟩
        · exact ⟨rfl, _, rfl, Or.inr ⟨x1, x2⟩⟩
      · refine lv_aload_n B.1 B.2.1 dX12_agrees_14 rfl (lv_at hl 2 rfl) ?_
        refine y_getR B h kX12 50 ((hv0 (50) (by omega) (by omega)).trans ((MW.f hM 0 _ rfl))) 15 (b := am 10) rfl m_1276 (by decide) dX12_agrees_15 ?_
        refine lv_iload B.1 B.2.1 dX12_agrees_18 (lv_at hl 0 rfl) ?_
        refine y_ialdX B h 60 ((hv0 (60) (by omega) (by omega)).trans ((MW.f hM 10 _ rfl))) (by omega) dX12_agrees_20 ?_
        refine x_iset (z := (T 5 k)) (by show iI (T 5 (((k : Int).toNat : Nat) : Int)) = _; rw [show ((((k : Int).toNat : Nat) : Int)) = k by omega]) ?_
        have tb2 := pi_5 (MW.pi hM) k
        refine lv_iload_n B.1 B.2.1 dX12_agrees_21 rfl (lv_at hl 3 rfl) ?_
        refine x_icmp_ne B (by omega) (tgt := 101) dX12_agrees_22 (by decide) (fun c3 => ?_) (fun c3 => ?_)
        · refine lv_iinc (v := iI (k + 1)) (lv' := [(4, .int (iI (k + 1))), (3, .int (iI is)), (0, .ref (am 0)), (1, .int (iI v)), (2, .int (iI ce))]) B.1 B.2.1 dX12_agrees_101 hl (k := 0) rfl (iI_add _ _) (by decide) rfl (fun ls hl => ?_)
          refine lv_goto (tgt := 5) B.1 B.2.1 dX12_agrees_104 (by decide) ?_
          exact ih5 is ((k + 1)) (by omega) (by omega) (by have q7 : ¬ (T 5 k = v ∧ TRM T k) := fun q9 => (by obtain ⟨x, y, z9⟩ := q9; omega); rcases h2 with ⟨q9, n⟩ | ⟨q9, n⟩; exact Or.inl ⟨q9, (aln_skip q7).mpr n⟩; exact Or.inr ⟨q9, fun q8 => n ((aln_skip q7).mp q8)⟩) (by omega) _ _ _ h (lv_sub hl [0, 1, 2, 3, 4] rfl)
        · refine lv_aload_n B.1 B.2.1 dX12_agrees_25 rfl (lv_at hl 2 rfl) ?_
          refine lv_iload B.1 B.2.1 dX12_agrees_26 (lv_at hl 0 rfl) ?_
          refine y_cV B h kX12 50 ((hv0 (50) (by omega) (by omega)).trans ((MW.f hM 0 _ rfl))) k_X12_isMan rfl (c_X12_isMan_y l D Zk ca T E am _ _ hM hv0 k  (by omega)) m_1728 rfl (by decide) hl.1 [] (Nat.le_of_ble_eq_true rfl) rfl dX12_agrees_28 (fun r w1 hq H locs h => ?_)
          obtain ⟨rfl, _, rfl, ⟨rfl, b4⟩ | ⟨rfl, b4⟩⟩ := hq
          · show W p l e r_c_X12_agrees_e_y s m args below meth c _ _ 0 0 Qf (F0 m 31 ls [.int (iI 1)])
            refine x_if_eq B (by omega) (tgt := 101) dX12_agrees_31 (by decide) (fun c5 => ?_) (fun c5 => ?_)
            · exact absurd c5 (by omega)
            · refine lv_aload_n B.1 B.2.1 dX12_agrees_34 rfl (lv_at hl 2 rfl) ?_
              refine lv_iload B.1 B.2.1 dX12_agrees_35 (lv_at hl 0 rfl) ?_
              refine y_cV B h kX12 50 ((hv0 (50) (by omega) (by omega)).trans ((MW.f hM 0 _ rfl))) k_X12_isTrustedOne rfl (c_X12_isTrustedOne_y l D Zk ca T E am _ _ hM hv0 k  (by omega)) m_1732 rfl (by decide) hl.1 [] (Nat.le_of_ble_eq_true rfl) rfl dX12_agrees_37 (fun r w1 hq H locs h => ?_)
              obtain ⟨rfl, _, rfl, ⟨rfl, b6⟩ | ⟨rfl, b6⟩⟩ := hq
              · show W p l e r_c_X12_agrees_e_y s m args below meth c _ _ 0 0 Qf (F0 m 40 ls [.int (iI 1)])
                refine x_if_ne B (by omega) (tgt := 46) dX12_agrees_40 (by decide) (fun c7 => ?_) (fun c7 => ?_)
                · refine lv_iload_n B.1 B.2.1 dX12_agrees_46 rfl (lv_at hl 1 rfl) ?_
                  refine x_if_eq B (by omega) (tgt := 99) dX12_agrees_47 (by decide) (fun c8 => ?_) (fun c8 => ?_)
                  · refine x_iconst B dX12_agrees_99 ?_
                    refine lv_istore_n (lv' := [(3, .int (iI 0)), (4, .int (iI k)), (0, .ref (am 0)), (1, .int (iI v)), (2, .int (iI ce))]) B.1 B.2.1 dX12_agrees_100 rfl hl (by decide) rfl (fun ls hl => ?_)
                    refine lv_iinc (v := iI (k + 1)) (lv' := [(4, .int (iI (k + 1))), (3, .int (iI 0)), (0, .ref (am 0)), (1, .int (iI v)), (2, .int (iI ce))]) B.1 B.2.1 dX12_agrees_101 hl (k := 1) rfl (iI_add _ _) (by decide) rfl (fun ls hl => ?_)
                    refine lv_goto (tgt := 5) B.1 B.2.1 dX12_agrees_104 (by decide) ?_
                    exact ih5 0 ((k + 1)) (by omega) (by omega) (Or.inr ⟨rfl, fun q9 => by have q7 := (aln_take (by omega) ⟨by omega, by omega, by omega⟩).mp q9; rcases h2 with ⟨q8, n⟩ | ⟨-, n⟩; (have q6 := q7.2; omega); exact n q7.1⟩) (by omega) _ _ _ h (lv_sub hl [0, 1, 2, 3, 4] rfl)
                  · refine lv_aload_n B.1 B.2.1 dX12_agrees_50 rfl (lv_at hl 2 rfl) ?_
                    refine y_getR B h kX12 50 ((hv0 (50) (by omega) (by omega)).trans ((MW.f hM 0 _ rfl))) 16 (b := am 11) rfl m_1277 (by decide) dX12_agrees_51 ?_
                    refine lv_iload B.1 B.2.1 dX12_agrees_54 (lv_at hl 0 rfl) ?_
                    refine y_ialdX B h 61 ((hv0 (61) (by omega) (by omega)).trans ((MW.f hM 11 _ rfl))) (by omega) dX12_agrees_56 ?_
                    refine x_iset (z := (T 6 k)) (by show iI (T 6 (((k : Int).toNat : Nat) : Int)) = _; rw [show ((((k : Int).toNat : Nat) : Int)) = k by omega]) ?_
                    have tb9 := pi_6 (MW.pi hM) k
                    refine lv_iload_n B.1 B.2.1 dX12_agrees_57 rfl (lv_at hl 4 rfl) ?_
                    refine y_cS B h k_X12_far (c_X12_far l D Zk ca _ ((T 6 k)) ce  (by omega) (by omega)) m_1744 rfl (by decide) hl.1 [] (Nat.le_of_ble_eq_true rfl) rfl dX12_agrees_58 (fun r w1 hq H locs h => ?_)
                    obtain ⟨rfl, z10, rfl, hz10⟩ := hq
                    show W p l e r_c_X12_agrees_e_y s m args below meth c _ _ 0 0 Qf (F0 m 61 ls [.int (iI z10)])
                    refine lv_aload_n B.1 B.2.1 dX12_agrees_61 rfl (lv_at hl 2 rfl) ?_
                    refine y_getX B h kX12 50 ((hv0 (50) (by omega) (by omega)).trans ((MW.f hM 0 _ rfl))) 71 (z := (T 0 12)) rfl m_1332 (by decide) dX12_agrees_62 ?_
                    refine x_icmp_gt B (by omega) (tgt := 72) dX12_agrees_65 (by decide) (fun c11 => ?_) (fun c11 => ?_)
                    · refine x_iconst B dX12_agrees_72 ?_
                      refine lv_aload_n B.1 B.2.1 dX12_agrees_73 rfl (lv_at hl 2 rfl) ?_
                      refine y_getR B h kX12 50 ((hv0 (50) (by omega) (by omega)).trans ((MW.f hM 0 _ rfl))) 18 (b := am 13) rfl m_1279 (by decide) dX12_agrees_74 ?_
                      refine lv_iload B.1 B.2.1 dX12_agrees_77 (lv_at hl 0 rfl) ?_
                      refine y_ialdX B h 63 ((hv0 (63) (by omega) (by omega)).trans ((MW.f hM 13 _ rfl))) (by omega) dX12_agrees_79 ?_
                      refine x_iset (z := (T 8 k)) (by show iI (T 8 (((k : Int).toNat : Nat) : Int)) = _; rw [show ((((k : Int).toNat : Nat) : Int)) = k by omega]) ?_
                      have tb12 := pi_8 (MW.pi hM) k
                      have tb13 := pi_n (MW.pi hM) k
                      refine lv_aload_n B.1 B.2.1 dX12_agrees_80 rfl (lv_at hl 2 rfl) ?_
                      refine y_getX B h kX12 50 ((hv0 (50) (by omega) (by omega)).trans ((MW.f hM 0 _ rfl))) 72 (z := (T 0 13)) rfl m_1333 (by decide) dX12_agrees_81 ?_
                      refine x_icmp_lt B (by omega) (tgt := 91) dX12_agrees_84 (by decide) (fun c14 => ?_) (fun c14 => ?_)
                      · refine x_iconst B dX12_agrees_91 ?_
                        refine x_icmp_ne B (by omega) (tgt := 99) dX12_agrees_92 (by decide) (fun c15 => ?_) (fun c15 => ?_)
                        · exact absurd c15 (by omega)
                        · refine x_iconst B dX12_agrees_95 ?_
                          refine lv_goto (tgt := 100) B.1 B.2.1 dX12_agrees_96 (by decide) ?_
                          refine lv_istore_n (lv' := [(3, .int (iI 1)), (4, .int (iI k)), (0, .ref (am 0)), (1, .int (iI v)), (2, .int (iI ce))]) B.1 B.2.1 dX12_agrees_100 rfl hl (by decide) rfl (fun ls hl => ?_)
                          refine lv_iinc (v := iI (k + 1)) (lv' := [(4, .int (iI (k + 1))), (3, .int (iI 1)), (0, .ref (am 0)), (1, .int (iI v)), (2, .int (iI ce))]) B.1 B.2.1 dX12_agrees_101 hl (k := 1) rfl (iI_add _ _) (by decide) rfl (fun ls hl => ?_)
                          refine lv_goto (tgt := 5) B.1 B.2.1 dX12_agrees_104 (by decide) ?_
                          exact ih5 1 ((k + 1)) (by omega) (by omega) (Or.inl ⟨rfl, by rcases h2 with ⟨-, n⟩ | ⟨q9, -⟩; exact (aln_take (by omega) ⟨by omega, by omega, by omega⟩).mpr ⟨n, by omega⟩; omega⟩) (by omega) _ _ _ h (lv_sub hl [0, 1, 2, 3, 4] rfl)
                      · refine x_iconst B dX12_agrees_87 ?_
                        refine lv_goto (tgt := 92) B.1 B.2.1 dX12_agrees_88 (by decide) ?_
                        refine x_icmp_ne B (by omega) (tgt := 99) dX12_agrees_92 (by decide) (fun c16 => ?_) (fun c16 => ?_)
                        · refine x_iconst B dX12_agrees_99 ?_
                          refine lv_istore_n (lv' := [(3, .int (iI 0)), (4, .int (iI k)), (0, .ref (am 0)), (1, .int (iI v)), (2, .int (iI ce))]) B.1 B.2.1 dX12_agrees_100 rfl hl (by decide) rfl (fun ls hl => ?_)
                          refine lv_iinc (v := iI (k + 1)) (lv' := [(4, .int (iI (k + 1))), (3, .int (iI 0)), (0, .ref (am 0)), (1, .int (iI v)), (2, .int (iI ce))]) B.1 B.2.1 dX12_agrees_101 hl (k := 1) rfl (iI_add _ _) (by decide) rfl (fun ls hl => ?_)
                          refine lv_goto (tgt := 5) B.1 B.2.1 dX12_agrees_104 (by decide) ?_
                          exact ih5 0 ((k + 1)) (by omega) (by omega) (Or.inr ⟨rfl, fun q9 => by have q7 := (aln_take (by omega) ⟨by omega, by omega, by omega⟩).mp q9; rcases h2 with ⟨q8, n⟩ | ⟨-, n⟩; (have q6 := q7.2; omega); exact n q7.1⟩) (by omega) _ _ _ h (lv_sub hl [0, 1, 2, 3, 4] rfl)
                        · exact absurd c16 (by omega)
                    · refine x_iconst B dX12_agrees_68 ?_
                      refine lv_goto (tgt := 73) B.1 B.2.1 dX12_agrees_69 (by decide) ?_
                      refine lv_aload_n B.1 B.2.1 dX12_agrees_73 rfl (lv_at hl 2 rfl) ?_
                      refine y_getR B h kX12 50 ((hv0 (50) (by omega) (by omega)).trans ((MW.f hM 0 _ rfl))) 18 (b := am 13) rfl m_1279 (by decide) dX12_agrees_74 ?_
                      refine lv_iload B.1 B.2.1 dX12_agrees_77 (lv_at hl 0 rfl) ?_
                      refine y_ialdX B h 63 ((hv0 (63) (by omega) (by omega)).trans ((MW.f hM 13 _ rfl))) (by omega) dX12_agrees_79 ?_
                      refine x_iset (z := (T 8 k)) (by show iI (T 8 (((k : Int).toNat : Nat) : Int)) = _; rw [show ((((k : Int).toNat : Nat) : Int)) = k by omega]) ?_
                      have tb17 := pi_8 (MW.pi hM) k
                      have tb18 := pi_n (MW.pi hM) k
                      refine lv_aload_n B.1 B.2.1 dX12_agrees_80 rfl (lv_at hl 2 rfl) ?_
                      refine y_getX B h kX12 50 ((hv0 (50) (by omega) (by omega)).trans ((MW.f hM 0 _ rfl))) 72 (z := (T 0 13)) rfl m_1333 (by decide) dX12_agrees_81 ?_
                      refine x_icmp_lt B (by omega) (tgt := 91) dX12_agrees_84 (by decide) (fun c19 => ?_) (fun c19 => ?_)
                      · refine x_iconst B dX12_agrees_91 ?_
                        refine x_icmp_ne B (by omega) (tgt := 99) dX12_agrees_92 (by decide) (fun c20 => ?_) (fun c20 => ?_)
                        · refine x_iconst B dX12_agrees_99 ?_
                          refine lv_istore_n (lv' := [(3, .int (iI 0)), (4, .int (iI k)), (0, .ref (am 0)), (1, .int (iI v)), (2, .int (iI ce))]) B.1 B.2.1 dX12_agrees_100 rfl hl (by decide) rfl (fun ls hl => ?_)
                          refine lv_iinc (v := iI (k + 1)) (lv' := [(4, .int (iI (k + 1))), (3, .int (iI 0)), (0, .ref (am 0)), (1, .int (iI v)), (2, .int (iI ce))]) B.1 B.2.1 dX12_agrees_101 hl (k := 1) rfl (iI_add _ _) (by decide) rfl (fun ls hl => ?_)
                          refine lv_goto (tgt := 5) B.1 B.2.1 dX12_agrees_104 (by decide) ?_
                          exact ih5 0 ((k + 1)) (by omega) (by omega) (Or.inr ⟨rfl, fun q9 => by have q7 := (aln_take (by omega) ⟨by omega, by omega, by omega⟩).mp q9; rcases h2 with ⟨q8, n⟩ | ⟨-, n⟩; (have q6 := q7.2; omega); exact n q7.1⟩) (by omega) _ _ _ h (lv_sub hl [0, 1, 2, 3, 4] rfl)
                        · exact absurd c20 (by omega)
                      · refine x_iconst B dX12_agrees_87 ?_
                        refine lv_goto (tgt := 92) B.1 B.2.1 dX12_agrees_88 (by decide) ?_
                        refine x_icmp_ne B (by omega) (tgt := 99) dX12_agrees_92 (by decide) (fun c21 => ?_) (fun c21 => ?_)
                        · exact absurd c21 (by omega)
                        · refine x_iconst B dX12_agrees_95 ?_
                          refine lv_goto (tgt := 100) B.1 B.2.1 dX12_agrees_96 (by decide) ?_
                          refine lv_istore_n (lv' := [(3, .int (iI 1)), (4, .int (iI k)), (0, .ref (am 0)), (1, .int (iI v)), (2, .int (iI ce))]) B.1 B.2.1 dX12_agrees_100 rfl hl (by decide) rfl (fun ls hl => ?_)
                          refine lv_iinc (v := iI (k + 1)) (lv' := [(4, .int (iI (k + 1))), (3, .int (iI 1)), (0, .ref (am 0)), (1, .int (iI v)), (2, .int (iI ce))]) B.1 B.2.1 dX12_agrees_101 hl (k := 1) rfl (iI_add _ _) (by decide) rfl (fun ls hl => ?_)
                          refine lv_goto (tgt := 5) B.1 B.2.1 dX12_agrees_104 (by decide) ?_
                          exact ih5 1 ((k + 1)) (by omega) (by omega) (Or.inl ⟨rfl, by rcases h2 with ⟨-, n⟩ | ⟨q9, -⟩; exact (aln_take (by omega) ⟨by omega, by omega, by omega⟩).mpr ⟨n, by omega⟩; omega⟩) (by omega) _ _ _ h (lv_sub hl [0, 1, 2, 3, 4] rfl)
                · exact absurd c7 (by omega)
              · show W p l e r_c_X12_agrees_e_y s m args below meth c _ _ 0 0 Qf (F0 m 40 ls [.int (iI 0)])
                refine x_if_ne B (by omega) (tgt := 46) dX12_agrees_40 (by decide) (fun c22 => ?_) (fun c22 => ?_)
                · exact absurd c22 (by omega)
                · refine lv_goto (tgt := 101) B.1 B.2.1 dX12_agrees_43 (by decide) ?_
                  refine lv_iinc (v := iI (k + 1)) (lv' := [(4, .int (iI (k + 1))), (3, .int (iI is)), (0, .ref (am 0)), (1, .int (iI v)), (2, .int (iI ce))]) B.1 B.2.1 dX12_agrees_101 hl (k := 0) rfl (iI_add _ _) (by decide) rfl (fun ls hl => ?_)
                  refine lv_goto (tgt := 5) B.1 B.2.1 dX12_agrees_104 (by decide) ?_
                  exact ih5 is ((k + 1)) (by omega) (by omega) (by have q7 : ¬ (T 5 k = v ∧ TRM T k) := fun q9 => (by obtain ⟨x, y, z9⟩ := q9; omega); rcases h2 with ⟨q9, n⟩ | ⟨q9, n⟩; exact Or.inl ⟨q9, (aln_skip q7).mpr n⟩; exact Or.inr ⟨q9, fun q8 => n ((aln_skip q7).mp q8)⟩) (by omega) _ _ _ h (lv_sub hl [0, 1, 2, 3, 4] rfl)
          · show W p l e r_c_X12_agrees_e_y s m args below meth c _ _ 0 0 Qf (F0 m 31 ls [.int (iI 0)])
            refine x_if_eq B (by omega) (tgt := 101) dX12_agrees_31 (by decide) (fun c23 => ?_) (fun c23 => ?_)
            · refine lv_iinc (v := iI (k + 1)) (lv' := [(4, .int (iI (k + 1))), (3, .int (iI is)), (0, .ref (am 0)), (1, .int (iI v)), (2, .int (iI ce))]) B.1 B.2.1 dX12_agrees_101 hl (k := 0) rfl (iI_add _ _) (by decide) rfl (fun ls hl => ?_)
              refine lv_goto (tgt := 5) B.1 B.2.1 dX12_agrees_104 (by decide) ?_
              exact ih5 is ((k + 1)) (by omega) (by omega) (by have q7 : ¬ (T 5 k = v ∧ TRM T k) := fun q9 => (by obtain ⟨x, y, z9⟩ := q9; omega); rcases h2 with ⟨q9, n⟩ | ⟨q9, n⟩; exact Or.inl ⟨q9, (aln_skip q7).mpr n⟩; exact Or.inr ⟨q9, fun q8 => n ((aln_skip q7).mp q8)⟩) (by omega) _ _ _ h (lv_sub hl [0, 1, 2, 3, 4] rfl)
            · exact absurd c23 (by omega)
  exact loop5 (((300 - 0 : Int)).toNat + 1) 1 0 (by omega) (by omega) (Or.inl ⟨rfl, fun s9 hs9 => absurd hs9 (by omega)⟩) (Nat.lt_succ_self _) _ _ _ h (lv_sub hl [0, 1, 2, 3, 4] rfl)
abbrev r_c_X12_isNear_e_y : Room := { frames := 2, cells := 0, slots := 0, locals := 43 }
set_option maxHeartbeats 4000000 in
set_option maxRecDepth 100000 in
theorem c_X12_isNear_e_y (l : Launch) (D : va_G) (Zk : yK) (ca : Nat → ClassId) (T : Nat → Int → Int) (E : Nat → Int → Int) (am : Nat → Nat) (v0 w : yW) (hM : MW ca T E am v0) (hv0 : ∀ k : Nat, k ≠ 89 → k ≠ 89 → w k = v0 k) (cb : Nat → Int) (icb : Nat) (v : Int) (ce : Int) (fcb : w icb = some (am 39, xAI (ca 2) 3840 (gX 3840 cb))) (hv2 : T 0 10 ≤ v ∧ v ≤ T 0 11 ∧ 0 ≤ T 0 10) (hcb : ∀ j : Nat, j < 3840 → 0 ≤ cb j ∧ cb j ≤ 1) (hv : xr v) (hce : 0 ≤ ce ∧ ce ≤ 63) : yC l D Zk ca yX12_isNear cX12_isNear 5 (some .boolean) r_c_X12_isNear_e_y [.ref (am 0), .int (iI v), .int (iI ce)] w (vI w (fun z => (z = 1 ∧ (NRX cb (64 * (v - T 0 10)) ce 64)) ∨ (z = 0 ∧ (¬ NRX cb (64 * (v - T 0 10)) ce 64)))) := by
  refine yC.of2 "WindWordsModel" (by decide) rfl (Nat.le_of_ble_eq_true rfl) ?_
  intro p e s m args below meth c A ls Qf B hnm h hl hQ
  have hl : lv_has ls 5 [(0, .ref (am 0)), (1, .int (iI v)), (2, .int (iI ce))] := hl
  have hs := pi_s (MW.pi hM)
  refine x_iconst B dX12_isNear_0 ?_
  refine lv_istore_n (lv' := [(3, .int (iI 0)), (0, .ref (am 0)), (1, .int (iI v)), (2, .int (iI ce))]) B.1 B.2.1 dX12_isNear_1 rfl hl (by decide) rfl (fun ls hl => ?_)
  refine x_iconst B dX12_isNear_2 ?_
  refine lv_istore (lv' := [(4, .int (iI 0)), (3, .int (iI 0)), (0, .ref (am 0)), (1, .int (iI v)), (2, .int (iI ce))]) B.1 B.2.1 dX12_isNear_3 hl (by decide) rfl (fun ls hl => ?_)
  have loop5 : ∀ (n5 : Nat) (is : Int) (k : Int), (is = 0 ∨ is = 1) → (0 ≤ k ∧ k ≤ 64) → ((is = 1 ∧ NRX cb (64 * (v - T 0 10)) ce k) ∨ (is = 0 ∧ NRN cb (64 * (v - T 0 10)) ce k)) → ((64 - k : Int)).toNat < n5 → ∀ (H : Heap) (locs : List Loc) (ls : Array Slot), yH D Zk A s w H locs → lv_has ls 5 [(4, .int (iI k)), (3, .int (iI is)), (0, .ref (am 0)), (1, .int (iI v)), (2, .int (iI ce))] → W p l e r_c_X12_isNear_e_y s m args below meth c H locs 0 0 Qf (F0 m 5 ls []) := by
    intro n5
    induction n5 with
    | zero =>
      intro is k h0 h1 h2 hm5 H locs ls h hl
      exact absurd hm5 (Nat.not_lt_zero _)
    | succ n5 ih5 =>
      intro is k h0 h1 h2 hm5 H locs ls h hl
      refine lv_iload B.1 B.2.1 dX12_isNear_5 (lv_at hl 0 rfl) ?_
      refine x_bipush B (by decide) dX12_isNear_7 ?_
      refine x_icmp_ge B (by omega) (tgt := 58) dX12_isNear_9 (by decide) (fun c1 => ?_) (fun c1 => ?_)
      · refine lv_iload_n B.1 B.2.1 dX12_isNear_58 rfl (lv_at hl 1 rfl) ?_
        refine y_rz B hQ h (by decide) (nz01 (by omega)) dX12_isNear_59 ?_
        have e9 : k = 64 := by omega
        rw [e9] at h2
        rcases h2 with ⟨x1, x2⟩ | ⟨x1, x2⟩
        · exact ⟨rfl, _, rfl, Or.inl ⟨x1, x2⟩⟩
        · exact ⟨rfl, _, rfl, Or.inr ⟨x1, nrn_no x2⟩⟩
      · refine lv_iload_n B.1 B.2.1 dX12_isNear_12 rfl (lv_at hl 1 rfl) ?_
        refine x_if_ne B (by omega) (tgt := 46) dX12_isNear_13 (by decide) (fun c2 => ?_) (fun c2 => ?_)
        · refine x_iconst B dX12_isNear_46 ?_
          refine lv_goto (tgt := 51) B.1 B.2.1 dX12_isNear_47 (by decide) ?_
          refine lv_istore_n (lv' := [(3, .int (iI 1)), (4, .int (iI k)), (0, .ref (am 0)), (1, .int (iI v)), (2, .int (iI ce))]) B.1 B.2.1 dX12_isNear_51 rfl hl (by decide) rfl (fun ls hl => ?_)
          refine lv_iinc (v := iI (k + 1)) (lv' := [(4, .int (iI (k + 1))), (3, .int (iI 1)), (0, .ref (am 0)), (1, .int (iI v)), (2, .int (iI ce))]) B.1 B.2.1 dX12_isNear_52 hl (k := 1) rfl (iI_add _ _) (by decide) rfl (fun ls hl => ?_)
          refine lv_goto (tgt := 5) B.1 B.2.1 dX12_isNear_55 (by decide) ?_
          exact ih5 1 ((k + 1)) (by omega) (by omega) (Or.inl ⟨rfl, by rcases h2 with ⟨-, n⟩ | ⟨q9, -⟩; exact nrx_up n; first | omega | exact nrx_new (by omega) (by omega) (by omega)⟩) (by omega) _ _ _ h (lv_sub hl [0, 1, 2, 3, 4] rfl)
        · refine lv_iload B.1 B.2.1 dX12_isNear_16 (lv_at hl 0 rfl) ?_
          refine lv_iload_n B.1 B.2.1 dX12_isNear_18 rfl (lv_at hl 4 rfl) ?_
          refine y_cS B h k_X12_far (c_X12_far l D Zk ca _ k ce  (by omega) (by omega)) m_1744 rfl (by decide) hl.1 [] (Nat.le_of_ble_eq_true rfl) rfl dX12_isNear_19 (fun r w1 hq H locs h => ?_)
          obtain ⟨rfl, z3, rfl, hz3⟩ := hq
          show W p l e r_c_X12_isNear_e_y s m args below meth c _ _ 0 0 Qf (F0 m 22 ls [.int (iI z3)])
          refine x_iconst B dX12_isNear_22 ?_
          refine x_icmp_gt B (by omega) (tgt := 50) dX12_isNear_23 (by decide) (fun c4 => ?_) (fun c4 => ?_)
          · refine x_iconst B dX12_isNear_50 ?_
            refine lv_istore_n (lv' := [(3, .int (iI 0)), (4, .int (iI k)), (0, .ref (am 0)), (1, .int (iI v)), (2, .int (iI ce))]) B.1 B.2.1 dX12_isNear_51 rfl hl (by decide) rfl (fun ls hl => ?_)
            refine lv_iinc (v := iI (k + 1)) (lv' := [(4, .int (iI (k + 1))), (3, .int (iI 0)), (0, .ref (am 0)), (1, .int (iI v)), (2, .int (iI ce))]) B.1 B.2.1 dX12_isNear_52 hl (k := 1) rfl (iI_add _ _) (by decide) rfl (fun ls hl => ?_)
            refine lv_goto (tgt := 5) B.1 B.2.1 dX12_isNear_55 (by decide) ?_
            exact ih5 0 ((k + 1)) (by omega) (by omega) (Or.inr ⟨rfl, by rcases h2 with ⟨q9, -⟩ | ⟨-, n⟩; omega; exact nrn_next n (fun ⟨x1, x2⟩ => by omega)⟩) (by omega) _ _ _ h (lv_sub hl [0, 1, 2, 3, 4] rfl)
          · refine lv_aload_n B.1 B.2.1 dX12_isNear_26 rfl (lv_at hl 2 rfl) ?_
            refine y_getR B h kX12 50 ((hv0 (50) (by omega) (by omega)).trans ((MW.f hM 0 _ rfl))) 73 (b := am 39) rfl m_1334 (by decide) dX12_isNear_27 ?_
            refine x_bipush B (by decide) dX12_isNear_30 ?_
            refine lv_iload_n B.1 B.2.1 dX12_isNear_32 rfl (lv_at hl 3 rfl) ?_
            refine lv_aload_n B.1 B.2.1 dX12_isNear_33 rfl (lv_at hl 2 rfl) ?_
            refine y_getX B h kX12 50 ((hv0 (50) (by omega) (by omega)).trans ((MW.f hM 0 _ rfl))) 69 (z := (T 0 10)) rfl m_1330 (by decide) dX12_isNear_34 ?_
            refine x_isub B dX12_isNear_37 ?_
            refine x_imul B dX12_isNear_38 ?_
            refine lv_iload B.1 B.2.1 dX12_isNear_39 (lv_at hl 0 rfl) ?_
            refine x_iadd B dX12_isNear_41 ?_
            have qb5 := hcb (((64 * (v - (T 0 10))) + k)).toNat (by omega)
            have qb6 := hcb (((64 * (v - (T 0 10))) + k)).toNat (by omega)
            refine y_zaldX B h icb fcb (by omega) dX12_isNear_42 ?_
            refine x_iset (z := (cb (((64 * (v - (T 0 10))) + k)).toNat)) rfl ?_
            refine x_if_eq B (by omega) (tgt := 50) dX12_isNear_43 (by decide) (fun c7 => ?_) (fun c7 => ?_)
            · refine x_iconst B dX12_isNear_50 ?_
              refine lv_istore_n (lv' := [(3, .int (iI 0)), (4, .int (iI k)), (0, .ref (am 0)), (1, .int (iI v)), (2, .int (iI ce))]) B.1 B.2.1 dX12_isNear_51 rfl hl (by decide) rfl (fun ls hl => ?_)
              refine lv_iinc (v := iI (k + 1)) (lv' := [(4, .int (iI (k + 1))), (3, .int (iI 0)), (0, .ref (am 0)), (1, .int (iI v)), (2, .int (iI ce))]) B.1 B.2.1 dX12_isNear_52 hl (k := 1) rfl (iI_add _ _) (by decide) rfl (fun ls hl => ?_)
              refine lv_goto (tgt := 5) B.1 B.2.1 dX12_isNear_55 (by decide) ?_
              exact ih5 0 ((k + 1)) (by omega) (by omega) (Or.inr ⟨rfl, by rcases h2 with ⟨q9, -⟩ | ⟨-, n⟩; omega; exact nrn_next n (fun ⟨x1, x2⟩ => by omega)⟩) (by omega) _ _ _ h (lv_sub hl [0, 1, 2, 3, 4] rfl)
            · refine x_iconst B dX12_isNear_46 ?_
              refine lv_goto (tgt := 51) B.1 B.2.1 dX12_isNear_47 (by decide) ?_
              refine lv_istore_n (lv' := [(3, .int (iI 1)), (4, .int (iI k)), (0, .ref (am 0)), (1, .int (iI v)), (2, .int (iI ce))]) B.1 B.2.1 dX12_isNear_51 rfl hl (by decide) rfl (fun ls hl => ?_)
              refine lv_iinc (v := iI (k + 1)) (lv' := [(4, .int (iI (k + 1))), (3, .int (iI 1)), (0, .ref (am 0)), (1, .int (iI v)), (2, .int (iI ce))]) B.1 B.2.1 dX12_isNear_52 hl (k := 1) rfl (iI_add _ _) (by decide) rfl (fun ls hl => ?_)
              refine lv_goto (tgt := 5) B.1 B.2.1 dX12_isNear_55 (by decide) ?_
              exact ih5 1 ((k + 1)) (by omega) (by omega) (Or.inl ⟨rfl, by rcases h2 with ⟨-, n⟩ | ⟨q9, -⟩; exact nrx_up n; first | omega | exact nrx_new (by omega) (by omega) (by omega)⟩) (by omega) _ _ _ h (lv_sub hl [0, 1, 2, 3, 4] rfl)
  exact loop5 (((64 - 0 : Int)).toNat + 1) 0 0 (by omega) (by omega) (Or.inr ⟨rfl, fun s9 hs9 => absurd hs9 (by omega)⟩) (Nat.lt_succ_self _) _ _ _ h (lv_sub hl [0, 1, 2, 3, 4] rfl)
abbrev r_c_X12_findWays_e : Room := { frames := 4, cells := 0, slots := 0, locals := 90 }
set_option maxHeartbeats 4000000 in
set_option maxRecDepth 100000 in
theorem c_X12_findWays_e (l : Launch) (D : va_G) (Zk : yK) (ca : Nat → ClassId) (T : Nat → Int → Int) (E : Nat → Int → Int) (am : Nat → Nat) (w : yW) (hM : MW ca T E am w)   (hv2 : 0 ≤ T 0 10) : yC l D Zk ca yX12_findWays cX12_findWays 3 none r_c_X12_findWays_e [.ref (am 0)] w (fun r w1 => r = none ∧ ∃ cb2 : Nat → Int, w1 = (wu w 89 (am 39, xAI (ca 2) 3840 (gX 3840 cb2))) ∧ (CBE T cb2)) := by
  refine yC.of2 "WindWordsModel" (by decide) rfl (Nat.le_of_ble_eq_true rfl) ?_
  intro p e s m args below meth c A ls Qf B hnm h hl hQ
  have hl : lv_has ls 3 [(0, .ref (am 0))] := hl
  have hs := pi_s (MW.pi hM)
  have hpe := pe_0 (MW.pe hM)
  have h : yH D Zk A s ((wu w 89 (am 39, xAI (ca 2) 3840 (gG 3840 0 1)))) s.heap [] := by rw [wu_same (show w 89 = _ from (MW.f hM 39 _ rfl))]; exact h
  obtain ⟨g1, hg1, h⟩ := yH.pinG h wu_eq
  rw [wu_wu] at h
  have h : yH D Zk A s ((wu w 89 (am 39, xAI (ca 2) 3840 (gX 3840 g1)))) _ _ := h
  refine lv_aload_n B.1 B.2.1 dX12_findWays_0 rfl (lv_at hl 0 rfl) ?_
  refine y_getX B h kX12 50 (wu_at (MW.f hM 0 _ rfl) (by decide)) 69 (z := (T 0 10)) rfl m_1330 (by decide) dX12_findWays_1 ?_
  refine lv_istore_n (lv' := [(1, .int (iI (T 0 10))), (0, .ref (am 0))]) B.1 B.2.1 dX12_findWays_4 rfl hl (by decide) rfl (fun ls hl => ?_)
  have loop5 : ∀ (n5 : Nat) (v : Int) (cb5 : Nat → Int), (T 0 10 ≤ v ∧ v ≤ T 0 11 + 1) → (∀ j : Nat, j < 3840 → 0 ≤ cb5 j ∧ cb5 j ≤ 1) → (CFM T (v - T 0 10) 0 cb5) → ((1001 - v : Int)).toNat < n5 → ∀ (H : Heap) (locs : List Loc) (ls : Array Slot), yH D Zk A s ((wu w 89 (am 39, xAI (ca 2) 3840 (gX 3840 cb5)))) H locs → lv_has ls 3 [(1, .int (iI v)), (0, .ref (am 0))] → W p l e r_c_X12_findWays_e s m args below meth c H locs 0 0 Qf (F0 m 5 ls []) := by
    intro n5
    induction n5 with
    | zero =>
      intro v cb5 h0 hb5 hc5 hm5 H locs ls h hl
      exact absurd hm5 (Nat.not_lt_zero _)
    | succ n5 ih5 =>
      intro v cb5 h0 hb5 hc5 hm5 H locs ls h hl
      refine lv_iload_n B.1 B.2.1 dX12_findWays_5 rfl (lv_at hl 0 rfl) ?_
      refine lv_aload_n B.1 B.2.1 dX12_findWays_6 rfl (lv_at hl 1 rfl) ?_
      refine y_getX B h kX12 50 (wu_at (MW.f hM 0 _ rfl) (by decide)) 70 (z := (T 0 11)) rfl m_1331 (by decide) dX12_findWays_7 ?_
      refine x_icmp_gt B (by omega) (tgt := 82) dX12_findWays_10 (by decide) (fun c2 => ?_) (fun c2 => ?_)
      · refine lv_aload_n B.1 B.2.1 dX12_findWays_82 rfl (lv_at hl 1 rfl) ?_
        refine y_getX B h kX12 50 (wu_at (MW.f hM 0 _ rfl) (by decide)) 70 (z := (T 0 11)) rfl m_1331 (by decide) dX12_findWays_83 ?_
        refine x_iconst B dX12_findWays_86 ?_
        refine x_isub B dX12_findWays_87 ?_
        refine lv_istore_n (lv' := [(1, .int (iI ((T 0 11) - 1))), (0, .ref (am 0))]) B.1 B.2.1 dX12_findWays_88 rfl hl (by decide) rfl (fun ls hl => ?_)
        have loop89 : ∀ (n89 : Nat) (v9 : Int) (cb89 : Nat → Int), (T 0 10 - 1 ≤ v9 ∧ v9 ≤ T 0 11 - 1) → (∀ j : Nat, j < 3840 → 0 ≤ cb89 j ∧ cb89 j ≤ 1) → (CBM T (v9 - T 0 10) 0 cb89) → ((v9 + 1 : Int)).toNat < n89 → ∀ (H : Heap) (locs : List Loc) (ls : Array Slot), yH D Zk A s ((wu w 89 (am 39, xAI (ca 2) 3840 (gX 3840 cb89)))) H locs → lv_has ls 3 [(1, .int (iI v9)), (0, .ref (am 0))] → W p l e r_c_X12_findWays_e s m args below meth c H locs 0 0 Qf (F0 m 89 ls []) := by
          intro n89
          induction n89 with
          | zero =>
            intro v9 cb89 h2 hb89 hc89 hm89 H locs ls h hl
            exact absurd hm89 (Nat.not_lt_zero _)
          | succ n89 ih89 =>
            intro v9 cb89 h2 hb89 hc89 hm89 H locs ls h hl
            refine lv_iload_n B.1 B.2.1 dX12_findWays_89 rfl (lv_at hl 0 rfl) ?_
            refine lv_aload_n B.1 B.2.1 dX12_findWays_90 rfl (lv_at hl 1 rfl) ?_
            refine y_getX B h kX12 50 (wu_at (MW.f hM 0 _ rfl) (by decide)) 69 (z := (T 0 10)) rfl m_1330 (by decide) dX12_findWays_91 ?_
            refine x_icmp_lt B (by omega) (tgt := 168) dX12_findWays_94 (by decide) (fun c3 => ?_) (fun c3 => ?_)
            · refine y_rv B hQ h (by decide) dX12_findWays_168 ?_
              exact ⟨rfl, _, rfl, ⟨hb89, cbe_of hc89 (by omega)⟩⟩
            · refine x_iconst B dX12_findWays_97 ?_
              refine lv_istore_n (lv' := [(2, .int (iI 0)), (1, .int (iI v9)), (0, .ref (am 0))]) B.1 B.2.1 dX12_findWays_98 rfl hl (by decide) rfl (fun ls hl => ?_)
              have loop99 : ∀ (n99 : Nat) (ce : Int) (cb99 : Nat → Int), (0 ≤ ce ∧ ce ≤ 64) → (∀ j : Nat, j < 3840 → 0 ≤ cb99 j ∧ cb99 j ≤ 1) → (CBM T (v9 - T 0 10) ce cb99) → ((64 - ce : Int)).toNat < n99 → ∀ (H : Heap) (locs : List Loc) (ls : Array Slot), yH D Zk A s ((wu w 89 (am 39, xAI (ca 2) 3840 (gX 3840 cb99)))) H locs → lv_has ls 3 [(2, .int (iI ce)), (1, .int (iI v9)), (0, .ref (am 0))] → W p l e r_c_X12_findWays_e s m args below meth c H locs 0 0 Qf (F0 m 99 ls []) := by
                intro n99
                induction n99 with
                | zero =>
                  intro ce cb99 h3 hb99 hc99 hm99 H locs ls h hl
                  exact absurd hm99 (Nat.not_lt_zero _)
                | succ n99 ih99 =>
                  intro ce cb99 h3 hb99 hc99 hm99 H locs ls h hl
                  refine lv_iload_n B.1 B.2.1 dX12_findWays_99 rfl (lv_at hl 0 rfl) ?_
                  refine x_bipush B (by decide) dX12_findWays_100 ?_
                  refine x_icmp_ge B (by omega) (tgt := 162) dX12_findWays_102 (by decide) (fun c4 => ?_) (fun c4 => ?_)
                  · refine lv_iinc (v := iI (v9 + (-1))) (lv' := [(1, .int (iI (v9 + (-1)))), (2, .int (iI ce)), (0, .ref (am 0))]) B.1 B.2.1 dX12_findWays_162 hl (k := 1) rfl (iI_add _ _) (by decide) rfl (fun ls hl => ?_)
                    refine lv_goto (tgt := 89) B.1 B.2.1 dX12_findWays_165 (by decide) ?_
                    exact ih89 ((v9 + (-1))) cb99 (by omega) (fun j hj => hb99 j hj) (cbm_row hc99 (by omega) (by omega)) (by omega) _ _ _ h (lv_sub hl [0, 2] rfl)
                  · refine lv_aload_n B.1 B.2.1 dX12_findWays_105 rfl (lv_at hl 2 rfl) ?_
                    refine y_getR B h kX12 50 (wu_at (MW.f hM 0 _ rfl) (by decide)) 73 (b := am 39) rfl m_1334 (by decide) dX12_findWays_106 ?_
                    refine x_bipush B (by decide) dX12_findWays_109 ?_
                    refine lv_iload_n B.1 B.2.1 dX12_findWays_111 rfl (lv_at hl 1 rfl) ?_
                    refine lv_aload_n B.1 B.2.1 dX12_findWays_112 rfl (lv_at hl 2 rfl) ?_
                    refine y_getX B h kX12 50 (wu_at (MW.f hM 0 _ rfl) (by decide)) 69 (z := (T 0 10)) rfl m_1330 (by decide) dX12_findWays_113 ?_
                    refine x_isub B dX12_findWays_116 ?_
                    refine x_imul B dX12_findWays_117 ?_
                    refine lv_iload_n B.1 B.2.1 dX12_findWays_118 rfl (lv_at hl 0 rfl) ?_
                    refine x_iadd B dX12_findWays_119 ?_
                    refine lv_aload_n B.1 B.2.1 dX12_findWays_120 rfl (lv_at hl 2 rfl) ?_
                    refine y_getR B h kX12 50 (wu_at (MW.f hM 0 _ rfl) (by decide)) 73 (b := am 39) rfl m_1334 (by decide) dX12_findWays_121 ?_
                    refine x_bipush B (by decide) dX12_findWays_124 ?_
                    refine lv_iload_n B.1 B.2.1 dX12_findWays_126 rfl (lv_at hl 1 rfl) ?_
                    refine lv_aload_n B.1 B.2.1 dX12_findWays_127 rfl (lv_at hl 2 rfl) ?_
                    refine y_getX B h kX12 50 (wu_at (MW.f hM 0 _ rfl) (by decide)) 69 (z := (T 0 10)) rfl m_1330 (by decide) dX12_findWays_128 ?_
                    refine x_isub B dX12_findWays_131 ?_
                    refine x_imul B dX12_findWays_132 ?_
                    refine lv_iload_n B.1 B.2.1 dX12_findWays_133 rfl (lv_at hl 0 rfl) ?_
                    refine x_iadd B dX12_findWays_134 ?_
                    have qb5 := hb99 (((64 * (v9 - (T 0 10))) + ce)).toNat (by omega)
                    have qb6 := hb99 (((64 * (v9 - (T 0 10))) + ce)).toNat (by omega)
                    refine y_zaldX B h 89 wu_eq (by omega) dX12_findWays_135 ?_
                    refine x_iset (z := (cb99 (((64 * (v9 - (T 0 10))) + ce)).toNat)) rfl ?_
                    refine x_if_eq B (by omega) (tgt := 154) dX12_findWays_136 (by decide) (fun c7 => ?_) (fun c7 => ?_)
                    · refine x_iconst B dX12_findWays_154 ?_
                      refine y_zast B h 89 wu_eq (by omega) (P' := gX 3840 (iu cb99 ((64 * (v9 - (T 0 10))) + ce) 0)) (gX_upd (by omega)) dX12_findWays_155 (fun H locs h => ?_)
                      rw [wu_wu] at h
                      have h : yH D Zk A s ((wu w 89 (am 39, xAI (ca 2) 3840 (gX 3840 (iu cb99 ((64 * (v9 - (T 0 10))) + ce) 0))))) _ _ := h
                      refine lv_iinc (v := iI (ce + 1)) (lv' := [(2, .int (iI (ce + 1))), (1, .int (iI v9)), (0, .ref (am 0))]) B.1 B.2.1 dX12_findWays_156 hl (k := 0) rfl (iI_add _ _) (by decide) rfl (fun ls hl => ?_)
                      refine lv_goto (tgt := 99) B.1 B.2.1 dX12_findWays_159 (by decide) ?_
                      exact ih99 ((ce + 1)) (iu cb99 ((64 * (v9 - (T 0 10))) + ce) 0) (by omega) (fun j hj => by unfold iu; split; omega; exact hb99 j hj) (cbm_next rfl (by omega) (by omega) hc99 (Or.inr ⟨rfl, by first | exact bw_x (by omega) (by omega) hc99 nr | exact bw_n (by omega) (by omega) hc99 (by omega)⟩)) (by omega) _ _ _ h (lv_sub hl [0, 1, 2] rfl)
                    · refine lv_aload_n B.1 B.2.1 dX12_findWays_139 rfl (lv_at hl 2 rfl) ?_
                      refine lv_iload_n B.1 B.2.1 dX12_findWays_140 rfl (lv_at hl 1 rfl) ?_
                      refine x_iconst B dX12_findWays_141 ?_
                      refine x_iadd B dX12_findWays_142 ?_
                      refine lv_iload_n B.1 B.2.1 dX12_findWays_143 rfl (lv_at hl 0 rfl) ?_
                      refine y_cV B h kX12 50 (wu_at (MW.f hM 0 _ rfl) (by decide)) k_X12_isNear rfl (c_X12_isNear_e_y l D Zk ca T E am _ _ hM (fun k hk hk2 => by rw [wu_ne (by omega)]) cb99 89 ((v9 + 1)) ce wu_eq (by omega) hb99 (by omega) (by omega)) m_1872 rfl (by decide) hl.1 [.int (iI ((64 * (v9 - (T 0 10))) + ce)), .ref (am 39)] (Nat.le_of_ble_eq_true rfl) rfl dX12_findWays_144 (fun r w1 hq H locs h => ?_)
                      obtain ⟨rfl, _, rfl, ⟨rfl, nr⟩ | ⟨rfl, nr⟩⟩ := hq
                      · show W p l e r_c_X12_findWays_e s m args below meth c _ _ 0 0 Qf (F0 m 147 ls [.int (iI 1), .int (iI ((64 * (v9 - (T 0 10))) + ce)), .ref (am 39)])
                        refine x_if_eq B (by omega) (tgt := 154) dX12_findWays_147 (by decide) (fun c9 => ?_) (fun c9 => ?_)
                        · exact absurd c9 (by omega)
                        · refine x_iconst B dX12_findWays_150 ?_
                          refine lv_goto (tgt := 155) B.1 B.2.1 dX12_findWays_151 (by decide) ?_
                          refine y_zast B h 89 wu_eq (by omega) (P' := gX 3840 (iu cb99 ((64 * (v9 - (T 0 10))) + ce) 1)) (gX_upd (by omega)) dX12_findWays_155 (fun H locs h => ?_)
                          rw [wu_wu] at h
                          have h : yH D Zk A s ((wu w 89 (am 39, xAI (ca 2) 3840 (gX 3840 (iu cb99 ((64 * (v9 - (T 0 10))) + ce) 1))))) _ _ := h
                          refine lv_iinc (v := iI (ce + 1)) (lv' := [(2, .int (iI (ce + 1))), (1, .int (iI v9)), (0, .ref (am 0))]) B.1 B.2.1 dX12_findWays_156 hl (k := 0) rfl (iI_add _ _) (by decide) rfl (fun ls hl => ?_)
                          refine lv_goto (tgt := 99) B.1 B.2.1 dX12_findWays_159 (by decide) ?_
                          exact ih99 ((ce + 1)) (iu cb99 ((64 * (v9 - (T 0 10))) + ce) 1) (by omega) (fun j hj => by unfold iu; split; omega; exact hb99 j hj) (cbm_next rfl (by omega) (by omega) hc99 (Or.inl ⟨rfl, bw_y (by omega) (by omega) hc99 (by omega) nr⟩)) (by omega) _ _ _ h (lv_sub hl [0, 1, 2] rfl)
                      · show W p l e r_c_X12_findWays_e s m args below meth c _ _ 0 0 Qf (F0 m 147 ls [.int (iI 0), .int (iI ((64 * (v9 - (T 0 10))) + ce)), .ref (am 39)])
                        refine x_if_eq B (by omega) (tgt := 154) dX12_findWays_147 (by decide) (fun c10 => ?_) (fun c10 => ?_)
                        · refine x_iconst B dX12_findWays_154 ?_
                          refine y_zast B h 89 wu_eq (by omega) (P' := gX 3840 (iu cb99 ((64 * (v9 - (T 0 10))) + ce) 0)) (gX_upd (by omega)) dX12_findWays_155 (fun H locs h => ?_)
                          rw [wu_wu] at h
                          have h : yH D Zk A s ((wu w 89 (am 39, xAI (ca 2) 3840 (gX 3840 (iu cb99 ((64 * (v9 - (T 0 10))) + ce) 0))))) _ _ := h
                          refine lv_iinc (v := iI (ce + 1)) (lv' := [(2, .int (iI (ce + 1))), (1, .int (iI v9)), (0, .ref (am 0))]) B.1 B.2.1 dX12_findWays_156 hl (k := 0) rfl (iI_add _ _) (by decide) rfl (fun ls hl => ?_)
                          refine lv_goto (tgt := 99) B.1 B.2.1 dX12_findWays_159 (by decide) ?_
                          exact ih99 ((ce + 1)) (iu cb99 ((64 * (v9 - (T 0 10))) + ce) 0) (by omega) (fun j hj => by unfold iu; split; omega; exact hb99 j hj) (cbm_next rfl (by omega) (by omega) hc99 (Or.inr ⟨rfl, by first | exact bw_x (by omega) (by omega) hc99 nr | exact bw_n (by omega) (by omega) hc99 (by omega)⟩)) (by omega) _ _ _ h (lv_sub hl [0, 1, 2] rfl)
                        · exact absurd c10 (by omega)
              exact loop99 (((64 - 0 : Int)).toNat + 1) 0 cb89 (by omega) (fun j hj => hb89 j hj) hc89 (Nat.lt_succ_self _) _ _ _ h (lv_sub hl [0, 1, 2] rfl)
        exact loop89 ((((((T 0 11) - 1)) + 1 : Int)).toNat + 1) (((T 0 11) - 1)) cb5 (by omega) (fun j hj => hb5 j hj) (cbm_0 hc5 (by omega) (by omega)) (Nat.lt_succ_self _) _ _ _ h (lv_sub hl [0, 1] rfl)
      · refine x_iconst B dX12_findWays_13 ?_
        refine lv_istore_n (lv' := [(2, .int (iI 0)), (1, .int (iI v)), (0, .ref (am 0))]) B.1 B.2.1 dX12_findWays_14 rfl hl (by decide) rfl (fun ls hl => ?_)
        have loop15 : ∀ (n15 : Nat) (ce : Int) (cb15 : Nat → Int), (0 ≤ ce ∧ ce ≤ 64) → (∀ j : Nat, j < 3840 → 0 ≤ cb15 j ∧ cb15 j ≤ 1) → (CFM T (v - T 0 10) ce cb15) → ((64 - ce : Int)).toNat < n15 → ∀ (H : Heap) (locs : List Loc) (ls : Array Slot), yH D Zk A s ((wu w 89 (am 39, xAI (ca 2) 3840 (gX 3840 cb15)))) H locs → lv_has ls 3 [(2, .int (iI ce)), (1, .int (iI v)), (0, .ref (am 0))] → W p l e r_c_X12_findWays_e s m args below meth c H locs 0 0 Qf (F0 m 15 ls []) := by
          intro n15
          induction n15 with
          | zero =>
            intro ce cb15 h1 hb15 hc15 hm15 H locs ls h hl
            exact absurd hm15 (Nat.not_lt_zero _)
          | succ n15 ih15 =>
            intro ce cb15 h1 hb15 hc15 hm15 H locs ls h hl
            refine lv_iload_n B.1 B.2.1 dX12_findWays_15 rfl (lv_at hl 0 rfl) ?_
            refine x_bipush B (by decide) dX12_findWays_16 ?_
            refine x_icmp_ge B (by omega) (tgt := 76) dX12_findWays_18 (by decide) (fun c11 => ?_) (fun c11 => ?_)
            · refine lv_iinc (v := iI (v + 1)) (lv' := [(1, .int (iI (v + 1))), (2, .int (iI ce)), (0, .ref (am 0))]) B.1 B.2.1 dX12_findWays_76 hl (k := 1) rfl (iI_add _ _) (by decide) rfl (fun ls hl => ?_)
              refine lv_goto (tgt := 5) B.1 B.2.1 dX12_findWays_79 (by decide) ?_
              exact ih5 ((v + 1)) cb15 (by omega) (fun j hj => hb15 j hj) (cfm_row hc15 (by omega) (by omega)) (by omega) _ _ _ h (lv_sub hl [0, 2] rfl)
            · refine lv_aload_n B.1 B.2.1 dX12_findWays_21 rfl (lv_at hl 2 rfl) ?_
              refine y_getR B h kX12 50 (wu_at (MW.f hM 0 _ rfl) (by decide)) 73 (b := am 39) rfl m_1334 (by decide) dX12_findWays_22 ?_
              refine x_bipush B (by decide) dX12_findWays_25 ?_
              refine lv_iload_n B.1 B.2.1 dX12_findWays_27 rfl (lv_at hl 1 rfl) ?_
              refine lv_aload_n B.1 B.2.1 dX12_findWays_28 rfl (lv_at hl 2 rfl) ?_
              refine y_getX B h kX12 50 (wu_at (MW.f hM 0 _ rfl) (by decide)) 69 (z := (T 0 10)) rfl m_1330 (by decide) dX12_findWays_29 ?_
              refine x_isub B dX12_findWays_32 ?_
              refine x_imul B dX12_findWays_33 ?_
              refine lv_iload_n B.1 B.2.1 dX12_findWays_34 rfl (lv_at hl 0 rfl) ?_
              refine x_iadd B dX12_findWays_35 ?_
              refine lv_aload_n B.1 B.2.1 dX12_findWays_36 rfl (lv_at hl 2 rfl) ?_
              refine lv_iload_n B.1 B.2.1 dX12_findWays_37 rfl (lv_at hl 1 rfl) ?_
              refine lv_iload_n B.1 B.2.1 dX12_findWays_38 rfl (lv_at hl 0 rfl) ?_
              refine y_cV B h kX12 50 (wu_at (MW.f hM 0 _ rfl) (by decide)) k_X12_agrees rfl (c_X12_agrees_e_y l D Zk ca T E am _ _ hM (fun k hk hk2 => by rw [wu_ne (by omega)]) v ce  (by omega) (by omega)) m_1868 rfl (by decide) hl.1 [.int (iI ((64 * (v - (T 0 10))) + ce)), .ref (am 39)] (Nat.le_of_ble_eq_true rfl) rfl dX12_findWays_39 (fun r w1 hq H locs h => ?_)
              obtain ⟨rfl, _, rfl, ⟨rfl, ag⟩ | ⟨rfl, ag⟩⟩ := hq
              · show W p l e r_c_X12_findWays_e s m args below meth c _ _ 0 0 Qf (F0 m 42 ls [.int (iI 1), .int (iI ((64 * (v - (T 0 10))) + ce)), .ref (am 39)])
                refine x_if_eq B (by omega) (tgt := 68) dX12_findWays_42 (by decide) (fun c13 => ?_) (fun c13 => ?_)
                · exact absurd c13 (by omega)
                · refine lv_iload_n B.1 B.2.1 dX12_findWays_45 rfl (lv_at hl 1 rfl) ?_
                  refine lv_aload_n B.1 B.2.1 dX12_findWays_46 rfl (lv_at hl 2 rfl) ?_
                  refine y_getX B h kX12 50 (wu_at (MW.f hM 0 _ rfl) (by decide)) 69 (z := (T 0 10)) rfl m_1330 (by decide) dX12_findWays_47 ?_
                  refine x_icmp_eq B (by omega) (tgt := 64) dX12_findWays_50 (by decide) (fun c14 => ?_) (fun c14 => ?_)
                  · refine x_iconst B dX12_findWays_64 ?_
                    refine lv_goto (tgt := 69) B.1 B.2.1 dX12_findWays_65 (by decide) ?_
                    refine y_zast B h 89 wu_eq (by omega) (P' := gX 3840 (iu cb15 ((64 * (v - (T 0 10))) + ce) 1)) (gX_upd (by omega)) dX12_findWays_69 (fun H locs h => ?_)
                    rw [wu_wu] at h
                    have h : yH D Zk A s ((wu w 89 (am 39, xAI (ca 2) 3840 (gX 3840 (iu cb15 ((64 * (v - (T 0 10))) + ce) 1))))) _ _ := h
                    refine lv_iinc (v := iI (ce + 1)) (lv' := [(2, .int (iI (ce + 1))), (1, .int (iI v)), (0, .ref (am 0))]) B.1 B.2.1 dX12_findWays_70 hl (k := 0) rfl (iI_add _ _) (by decide) rfl (fun ls hl => ?_)
                    refine lv_goto (tgt := 15) B.1 B.2.1 dX12_findWays_73 (by decide) ?_
                    exact ih15 ((ce + 1)) (iu cb15 ((64 * (v - (T 0 10))) + ce) 1) (by omega) (fun j hj => by unfold iu; split; omega; exact hb15 j hj) (cfm_next rfl (by omega) (by omega) hc15 (Or.inl ⟨rfl, by first | exact fw_0 ag (by omega) | exact fw_n ag (by omega) hc15 nr⟩)) (by omega) _ _ _ h (lv_sub hl [0, 1, 2] rfl)
                  · refine lv_aload_n B.1 B.2.1 dX12_findWays_53 rfl (lv_at hl 2 rfl) ?_
                    refine lv_iload_n B.1 B.2.1 dX12_findWays_54 rfl (lv_at hl 1 rfl) ?_
                    refine x_iconst B dX12_findWays_55 ?_
                    refine x_isub B dX12_findWays_56 ?_
                    refine lv_iload_n B.1 B.2.1 dX12_findWays_57 rfl (lv_at hl 0 rfl) ?_
                    refine y_cV B h kX12 50 (wu_at (MW.f hM 0 _ rfl) (by decide)) k_X12_isNear rfl (c_X12_isNear_e_y l D Zk ca T E am _ _ hM (fun k hk hk2 => by rw [wu_ne (by omega)]) cb15 89 ((v - 1)) ce wu_eq (by omega) hb15 (by omega) (by omega)) m_1872 rfl (by decide) hl.1 [.int (iI ((64 * (v - (T 0 10))) + ce)), .ref (am 39)] (Nat.le_of_ble_eq_true rfl) rfl dX12_findWays_58 (fun r w1 hq H locs h => ?_)
                    obtain ⟨rfl, _, rfl, ⟨rfl, nr⟩ | ⟨rfl, nr⟩⟩ := hq
                    · show W p l e r_c_X12_findWays_e s m args below meth c _ _ 0 0 Qf (F0 m 61 ls [.int (iI 1), .int (iI ((64 * (v - (T 0 10))) + ce)), .ref (am 39)])
                      refine x_if_eq B (by omega) (tgt := 68) dX12_findWays_61 (by decide) (fun c16 => ?_) (fun c16 => ?_)
                      · exact absurd c16 (by omega)
                      · refine x_iconst B dX12_findWays_64 ?_
                        refine lv_goto (tgt := 69) B.1 B.2.1 dX12_findWays_65 (by decide) ?_
                        refine y_zast B h 89 wu_eq (by omega) (P' := gX 3840 (iu cb15 ((64 * (v - (T 0 10))) + ce) 1)) (gX_upd (by omega)) dX12_findWays_69 (fun H locs h => ?_)
                        rw [wu_wu] at h
                        have h : yH D Zk A s ((wu w 89 (am 39, xAI (ca 2) 3840 (gX 3840 (iu cb15 ((64 * (v - (T 0 10))) + ce) 1))))) _ _ := h
                        refine lv_iinc (v := iI (ce + 1)) (lv' := [(2, .int (iI (ce + 1))), (1, .int (iI v)), (0, .ref (am 0))]) B.1 B.2.1 dX12_findWays_70 hl (k := 0) rfl (iI_add _ _) (by decide) rfl (fun ls hl => ?_)
                        refine lv_goto (tgt := 15) B.1 B.2.1 dX12_findWays_73 (by decide) ?_
                        exact ih15 ((ce + 1)) (iu cb15 ((64 * (v - (T 0 10))) + ce) 1) (by omega) (fun j hj => by unfold iu; split; omega; exact hb15 j hj) (cfm_next rfl (by omega) (by omega) hc15 (Or.inl ⟨rfl, by first | exact fw_0 ag (by omega) | exact fw_n ag (by omega) hc15 nr⟩)) (by omega) _ _ _ h (lv_sub hl [0, 1, 2] rfl)
                    · show W p l e r_c_X12_findWays_e s m args below meth c _ _ 0 0 Qf (F0 m 61 ls [.int (iI 0), .int (iI ((64 * (v - (T 0 10))) + ce)), .ref (am 39)])
                      refine x_if_eq B (by omega) (tgt := 68) dX12_findWays_61 (by decide) (fun c17 => ?_) (fun c17 => ?_)
                      · refine x_iconst B dX12_findWays_68 ?_
                        refine y_zast B h 89 wu_eq (by omega) (P' := gX 3840 (iu cb15 ((64 * (v - (T 0 10))) + ce) 0)) (gX_upd (by omega)) dX12_findWays_69 (fun H locs h => ?_)
                        rw [wu_wu] at h
                        have h : yH D Zk A s ((wu w 89 (am 39, xAI (ca 2) 3840 (gX 3840 (iu cb15 ((64 * (v - (T 0 10))) + ce) 0))))) _ _ := h
                        refine lv_iinc (v := iI (ce + 1)) (lv' := [(2, .int (iI (ce + 1))), (1, .int (iI v)), (0, .ref (am 0))]) B.1 B.2.1 dX12_findWays_70 hl (k := 0) rfl (iI_add _ _) (by decide) rfl (fun ls hl => ?_)
                        refine lv_goto (tgt := 15) B.1 B.2.1 dX12_findWays_73 (by decide) ?_
                        exact ih15 ((ce + 1)) (iu cb15 ((64 * (v - (T 0 10))) + ce) 0) (by omega) (fun j hj => by unfold iu; split; omega; exact hb15 j hj) (cfm_next rfl (by omega) (by omega) hc15 (Or.inr ⟨rfl, by first | exact fw_a ag (by omega) | exact fw_x (by omega) hc15 nr⟩)) (by omega) _ _ _ h (lv_sub hl [0, 1, 2] rfl)
                      · exact absurd c17 (by omega)
              · show W p l e r_c_X12_findWays_e s m args below meth c _ _ 0 0 Qf (F0 m 42 ls [.int (iI 0), .int (iI ((64 * (v - (T 0 10))) + ce)), .ref (am 39)])
                refine x_if_eq B (by omega) (tgt := 68) dX12_findWays_42 (by decide) (fun c18 => ?_) (fun c18 => ?_)
                · refine x_iconst B dX12_findWays_68 ?_
                  refine y_zast B h 89 wu_eq (by omega) (P' := gX 3840 (iu cb15 ((64 * (v - (T 0 10))) + ce) 0)) (gX_upd (by omega)) dX12_findWays_69 (fun H locs h => ?_)
                  rw [wu_wu] at h
                  have h : yH D Zk A s ((wu w 89 (am 39, xAI (ca 2) 3840 (gX 3840 (iu cb15 ((64 * (v - (T 0 10))) + ce) 0))))) _ _ := h
                  refine lv_iinc (v := iI (ce + 1)) (lv' := [(2, .int (iI (ce + 1))), (1, .int (iI v)), (0, .ref (am 0))]) B.1 B.2.1 dX12_findWays_70 hl (k := 0) rfl (iI_add _ _) (by decide) rfl (fun ls hl => ?_)
                  refine lv_goto (tgt := 15) B.1 B.2.1 dX12_findWays_73 (by decide) ?_
                  exact ih15 ((ce + 1)) (iu cb15 ((64 * (v - (T 0 10))) + ce) 0) (by omega) (fun j hj => by unfold iu; split; omega; exact hb15 j hj) (cfm_next rfl (by omega) (by omega) hc15 (Or.inr ⟨rfl, by first | exact fw_a ag (by omega) | exact fw_x (by omega) hc15 nr⟩)) (by omega) _ _ _ h (lv_sub hl [0, 1, 2] rfl)
                · exact absurd c18 (by omega)
        exact loop15 (((64 - 0 : Int)).toNat + 1) 0 cb5 (by omega) (fun j hj => hb5 j hj) hc5 (Nat.lt_succ_self _) _ _ _ h (lv_sub hl [0, 1, 2] rfl)
  exact loop5 (((1001 - ((T 0 10)) : Int)).toNat + 1) ((T 0 10)) g1 (by omega) hg1 cfm_0 (Nat.lt_succ_self _) _ _ _ h (lv_sub hl [0, 1] rfl)
abbrev r_c_X12_cellsOn_e_y : Room := { frames := 0, cells := 0, slots := 0, locals := 0 }
set_option maxHeartbeats 4000000 in
set_option maxRecDepth 100000 in
theorem c_X12_cellsOn_e_y (l : Launch) (D : va_G) (Zk : yK) (ca : Nat → ClassId) (T : Nat → Int → Int) (E : Nat → Int → Int) (am : Nat → Nat) (v0 w : yW) (hM : MW ca T E am v0) (hv0 : ∀ k : Nat, k ≠ 89 → k ≠ 89 → w k = v0 k) (cb : Nat → Int) (icb : Nat) (v : Int) (fcb : w icb = some (am 39, xAI (ca 2) 3840 (gX 3840 cb))) (hv2 : T 0 10 ≤ v ∧ v ≤ T 0 11 ∧ 0 ≤ T 0 10) (hce : CBE T cb) (hv : xr v) : yC l D Zk ca yX12_cellsOn cX12_cellsOn 4 (some .int) r_c_X12_cellsOn_e_y [.ref (am 0), .int (iI v)] w (vI w (fun z => z = cntp (HLD T (v - T 0 10)) 64 ∧ 0 ≤ z ∧ z ≤ 64)) := by
  refine yC.of2 "WindWordsModel" (by decide) rfl (Nat.le_of_ble_eq_true rfl) ?_
  intro p e s m args below meth c A ls Qf B hnm h hl hQ
  have hl : lv_has ls 4 [(0, .ref (am 0)), (1, .int (iI v))] := hl
  have hs := pi_s (MW.pi hM)
  refine x_iconst B dX12_cellsOn_0 ?_
  refine lv_istore_n (lv' := [(2, .int (iI 0)), (0, .ref (am 0)), (1, .int (iI v))]) B.1 B.2.1 dX12_cellsOn_1 rfl hl (by decide) rfl (fun ls hl => ?_)
  refine x_iconst B dX12_cellsOn_2 ?_
  refine lv_istore_n (lv' := [(3, .int (iI 0)), (2, .int (iI 0)), (0, .ref (am 0)), (1, .int (iI v))]) B.1 B.2.1 dX12_cellsOn_3 rfl hl (by decide) rfl (fun ls hl => ?_)
  have loop4 : ∀ (n4 : Nat) (n : Int) (k : Int), (0 ≤ n ∧ n ≤ k) → (0 ≤ k ∧ k ≤ 64) → (n = cntp (HLD T (v - T 0 10)) k.toNat) → ((64 - k : Int)).toNat < n4 → ∀ (H : Heap) (locs : List Loc) (ls : Array Slot), yH D Zk A s w H locs → lv_has ls 4 [(3, .int (iI k)), (2, .int (iI n)), (0, .ref (am 0)), (1, .int (iI v))] → W p l e r_c_X12_cellsOn_e_y s m args below meth c H locs 0 0 Qf (F0 m 4 ls []) := by
    intro n4
    induction n4 with
    | zero =>
      intro n k h0 h1 h2 hm4 H locs ls h hl
      exact absurd hm4 (Nat.not_lt_zero _)
    | succ n4 ih4 =>
      intro n k h0 h1 h2 hm4 H locs ls h hl
      refine lv_iload_n B.1 B.2.1 dX12_cellsOn_4 rfl (lv_at hl 0 rfl) ?_
      refine x_bipush B (by decide) dX12_cellsOn_5 ?_
      refine x_icmp_ge B (by omega) (tgt := 43) dX12_cellsOn_7 (by decide) (fun c1 => ?_) (fun c1 => ?_)
      · refine lv_iload_n B.1 B.2.1 dX12_cellsOn_43 rfl (lv_at hl 1 rfl) ?_
        refine y_ri B hQ h (by decide) dX12_cellsOn_44 ?_
        have e9 : k = 64 := by omega
        rw [e9] at h2
        exact ⟨rfl, _, rfl, h2, by omega, by omega⟩
      · refine lv_iload_n B.1 B.2.1 dX12_cellsOn_10 rfl (lv_at hl 1 rfl) ?_
        refine lv_aload_n B.1 B.2.1 dX12_cellsOn_11 rfl (lv_at hl 2 rfl) ?_
        refine y_getR B h kX12 50 ((hv0 (50) (by omega) (by omega)).trans ((MW.f hM 0 _ rfl))) 73 (b := am 39) rfl m_1334 (by decide) dX12_cellsOn_12 ?_
        refine x_bipush B (by decide) dX12_cellsOn_15 ?_
        refine lv_iload_n B.1 B.2.1 dX12_cellsOn_17 rfl (lv_at hl 3 rfl) ?_
        refine lv_aload_n B.1 B.2.1 dX12_cellsOn_18 rfl (lv_at hl 2 rfl) ?_
        refine y_getX B h kX12 50 ((hv0 (50) (by omega) (by omega)).trans ((MW.f hM 0 _ rfl))) 69 (z := (T 0 10)) rfl m_1330 (by decide) dX12_cellsOn_19 ?_
        refine x_isub B dX12_cellsOn_22 ?_
        refine x_imul B dX12_cellsOn_23 ?_
        refine lv_iload_n B.1 B.2.1 dX12_cellsOn_24 rfl (lv_at hl 0 rfl) ?_
        refine x_iadd B dX12_cellsOn_25 ?_
        have qb2 := hce.1 (((64 * (v - (T 0 10))) + k)).toNat (by omega)
        have qb3 := hce.1 (((64 * (v - (T 0 10))) + k)).toNat (by omega)
        refine y_zaldX B h icb fcb (by omega) dX12_cellsOn_26 ?_
        refine x_iset (z := (cb (((64 * (v - (T 0 10))) + k)).toNat)) rfl ?_
        refine x_if_eq B (by omega) (tgt := 34) dX12_cellsOn_27 (by decide) (fun c4 => ?_) (fun c4 => ?_)
        · refine x_iconst B dX12_cellsOn_34 ?_
          refine x_iadd B dX12_cellsOn_35 ?_
          refine lv_istore_n (lv' := [(2, .int (iI (n + 0))), (3, .int (iI k)), (0, .ref (am 0)), (1, .int (iI v))]) B.1 B.2.1 dX12_cellsOn_36 rfl hl (by decide) rfl (fun ls hl => ?_)
          refine lv_iinc (v := iI (k + 1)) (lv' := [(3, .int (iI (k + 1))), (2, .int (iI (n + 0))), (0, .ref (am 0)), (1, .int (iI v))]) B.1 B.2.1 dX12_cellsOn_37 hl (k := 1) rfl (iI_add _ _) (by decide) rfl (fun ls hl => ?_)
          refine lv_goto (tgt := 4) B.1 B.2.1 dX12_cellsOn_40 (by decide) ?_
          exact ih4 ((n + 0)) ((k + 1)) (by omega) (by omega) (cntp_next (by omega) h2 (Or.inr ⟨fun q9 => by have q8 := (hce.2 (v - T 0 10) k (by omega) (by omega)).mpr q9; omega, by omega⟩)) (by omega) _ _ _ h (lv_sub hl [0, 1, 2, 3] rfl)
        · refine x_iconst B dX12_cellsOn_30 ?_
          refine lv_goto (tgt := 35) B.1 B.2.1 dX12_cellsOn_31 (by decide) ?_
          refine x_iadd B dX12_cellsOn_35 ?_
          refine lv_istore_n (lv' := [(2, .int (iI (n + 1))), (3, .int (iI k)), (0, .ref (am 0)), (1, .int (iI v))]) B.1 B.2.1 dX12_cellsOn_36 rfl hl (by decide) rfl (fun ls hl => ?_)
          refine lv_iinc (v := iI (k + 1)) (lv' := [(3, .int (iI (k + 1))), (2, .int (iI (n + 1))), (0, .ref (am 0)), (1, .int (iI v))]) B.1 B.2.1 dX12_cellsOn_37 hl (k := 1) rfl (iI_add _ _) (by decide) rfl (fun ls hl => ?_)
          refine lv_goto (tgt := 4) B.1 B.2.1 dX12_cellsOn_40 (by decide) ?_
          exact ih4 ((n + 1)) ((k + 1)) (by omega) (by omega) (cntp_next (by omega) h2 (Or.inl ⟨(hce.2 (v - T 0 10) k (by omega) (by omega)).mp (by omega), by omega⟩)) (by omega) _ _ _ h (lv_sub hl [0, 1, 2, 3] rfl)
  exact loop4 (((64 - 0 : Int)).toNat + 1) 0 0 (by omega) (by omega) rfl (Nat.lt_succ_self _) _ _ _ h (lv_sub hl [0, 1, 2, 3] rfl)
abbrev r_c_X12_storm_e : Room := { frames := 5, cells := 0, slots := 0, locals := 112 }
set_option maxHeartbeats 4000000 in
set_option maxRecDepth 100000 in
theorem c_X12_storm_e (l : Launch) (D : va_G) (Zk : yK) (ca : Nat → ClassId) (T : Nat → Int → Int) (E : Nat → Int → Int) (am : Nat → Nat) (w : yW) (hM : MW ca T E am w) (fr : Int) (to : Int) (rd : Int) (li : Int)  (hfr : xr fr) (hto : xr to) (hrd : xr rd) (hli : xr li) : yC l D Zk ca yX12_storm cX12_storm 5 (some .int) r_c_X12_storm_e [.ref (am 0), .int (iI fr), .int (iI to), .int (iI rd), .int (iI li)] w (fun r w1 => ∃ z : Int, r = some (.int (iI z)) ∧ ((((0 ≤ fr ∧ fr ≤ 999) ∧ (0 ≤ to ∧ to ≤ 999) ∧ fr ≤ to ∧ to - fr ≤ 59 ∧ (0 ≤ rd ∧ rd ≤ 7) ∧ 0 ≤ li ∧ li ≤ 12) ∧ STA (tStorm T fr to rd li) z ∧ MW ca (tStorm T fr to rd li) E am w1 ∧ AGM w w1) ∨ (¬ ((0 ≤ fr ∧ fr ≤ 999) ∧ (0 ≤ to ∧ to ≤ 999) ∧ fr ≤ to ∧ to - fr ≤ 59 ∧ (0 ≤ rd ∧ rd ≤ 7) ∧ 0 ≤ li ∧ li ≤ 12) ∧ z = -1 ∧ w1 = w))) := by
  refine yC.of2 "WindWordsModel" (by decide) rfl (Nat.le_of_ble_eq_true rfl) ?_
  intro p e s m args below meth c A ls Qf B hnm h hl hQ
  have hl : lv_has ls 5 [(0, .ref (am 0)), (1, .int (iI fr)), (2, .int (iI to)), (3, .int (iI rd)), (4, .int (iI li))] := hl
  have hs := pi_s (MW.pi hM)
  have hpe := pe_0 (MW.pe hM)
  refine lv_iload_n B.1 B.2.1 dX12_storm_0 rfl (lv_at hl 1 rfl) ?_
  refine x_iconst B dX12_storm_1 ?_
  refine x_sipush B (by decide) dX12_storm_2 ?_
  refine y_cS B h k_X12_within (c_X12_within l D Zk ca _ fr 0 999  (by omega) (by omega) (by omega)) m_1515 rfl (by decide) hl.1 [] (Nat.le_of_ble_eq_true rfl) rfl dX12_storm_5 (fun r w1 hq H locs h => ?_)
  obtain ⟨rfl, _, rfl, ⟨rfl, b1⟩ | ⟨rfl, b1⟩⟩ := hq
  · show W p l e r_c_X12_storm_e s m args below meth c _ _ 0 0 Qf (F0 m 8 ls [.int (iI 1)])
    refine x_if_eq B (by omega) (tgt := 56) dX12_storm_8 (by decide) (fun c2 => ?_) (fun c2 => ?_)
    · exact absurd c2 (by omega)
    · refine lv_iload_n B.1 B.2.1 dX12_storm_11 rfl (lv_at hl 2 rfl) ?_
      refine x_iconst B dX12_storm_12 ?_
      refine x_sipush B (by decide) dX12_storm_13 ?_
      refine y_cS B h k_X12_within (c_X12_within l D Zk ca _ to 0 999  (by omega) (by omega) (by omega)) m_1515 rfl (by decide) hl.1 [] (Nat.le_of_ble_eq_true rfl) rfl dX12_storm_16 (fun r w1 hq H locs h => ?_)
      obtain ⟨rfl, _, rfl, ⟨rfl, b3⟩ | ⟨rfl, b3⟩⟩ := hq
      · show W p l e r_c_X12_storm_e s m args below meth c _ _ 0 0 Qf (F0 m 19 ls [.int (iI 1)])
        refine x_if_eq B (by omega) (tgt := 56) dX12_storm_19 (by decide) (fun c4 => ?_) (fun c4 => ?_)
        · exact absurd c4 (by omega)
        · refine lv_iload_n B.1 B.2.1 dX12_storm_22 rfl (lv_at hl 2 rfl) ?_
          refine lv_iload_n B.1 B.2.1 dX12_storm_23 rfl (lv_at hl 1 rfl) ?_
          refine x_icmp_lt B (by omega) (tgt := 56) dX12_storm_24 (by decide) (fun c5 => ?_) (fun c5 => ?_)
          · refine x_iconst B dX12_storm_56 ?_
            refine y_ri B hQ h (by decide) dX12_storm_57 ?_
            exact ⟨_, rfl, Or.inr ⟨by omega, by omega, rfl⟩⟩
          · refine lv_iload_n B.1 B.2.1 dX12_storm_27 rfl (lv_at hl 2 rfl) ?_
            refine lv_iload_n B.1 B.2.1 dX12_storm_28 rfl (lv_at hl 1 rfl) ?_
            refine x_isub B dX12_storm_29 ?_
            refine x_bipush B (by decide) dX12_storm_30 ?_
            refine x_icmp_gt B (by omega) (tgt := 56) dX12_storm_32 (by decide) (fun c6 => ?_) (fun c6 => ?_)
            · refine x_iconst B dX12_storm_56 ?_
              refine y_ri B hQ h (by decide) dX12_storm_57 ?_
              exact ⟨_, rfl, Or.inr ⟨by omega, by omega, rfl⟩⟩
            · refine lv_iload_n B.1 B.2.1 dX12_storm_35 rfl (lv_at hl 3 rfl) ?_
              refine x_iconst B dX12_storm_36 ?_
              refine x_bipush B (by decide) dX12_storm_37 ?_
              refine y_cS B h k_X12_within (c_X12_within l D Zk ca _ rd 0 7  (by omega) (by omega) (by omega)) m_1515 rfl (by decide) hl.1 [] (Nat.le_of_ble_eq_true rfl) rfl dX12_storm_39 (fun r w1 hq H locs h => ?_)
              obtain ⟨rfl, _, rfl, ⟨rfl, b7⟩ | ⟨rfl, b7⟩⟩ := hq
              · show W p l e r_c_X12_storm_e s m args below meth c _ _ 0 0 Qf (F0 m 42 ls [.int (iI 1)])
                refine x_if_eq B (by omega) (tgt := 56) dX12_storm_42 (by decide) (fun c8 => ?_) (fun c8 => ?_)
                · exact absurd c8 (by omega)
                · refine lv_iload B.1 B.2.1 dX12_storm_45 (lv_at hl 4 rfl) ?_
                  refine x_iconst B dX12_storm_47 ?_
                  refine x_bipush B (by decide) dX12_storm_48 ?_
                  refine y_cS B h k_X12_within (c_X12_within l D Zk ca _ li 0 12  (by omega) (by omega) (by omega)) m_1515 rfl (by decide) hl.1 [] (Nat.le_of_ble_eq_true rfl) rfl dX12_storm_50 (fun r w1 hq H locs h => ?_)
                  obtain ⟨rfl, _, rfl, ⟨rfl, b9⟩ | ⟨rfl, b9⟩⟩ := hq
                  · show W p l e r_c_X12_storm_e s m args below meth c _ _ 0 0 Qf (F0 m 53 ls [.int (iI 1)])
                    refine x_if_ne B (by omega) (tgt := 58) dX12_storm_53 (by decide) (fun c10 => ?_) (fun c10 => ?_)
                    · refine lv_aload_n B.1 B.2.1 dX12_storm_58 rfl (lv_at hl 0 rfl) ?_
                      refine lv_iload_n B.1 B.2.1 dX12_storm_59 rfl (lv_at hl 1 rfl) ?_
                      refine y_put B h kX12 50 (MW.f hM 0 _ rfl) 69 (Nat.le_of_ble_eq_true rfl) (P' := fX fr) m_1330 (by decide) rfl rfl rfl rfl dX12_storm_60 (fun H locs h => ?_)
                      have h : yH D Zk A s ((wu w 50 (am 0, xO 12 [fR (am 1), fX (T 0 0), fX (T 0 1), fX (T 0 3), fX (T 0 2), fX (T 0 4), fX (T 0 5), fR (am 2), fR (am 3), fR (am 4), fR (am 5), fR (am 6), fR (am 7), fR (am 8), fR (am 9), fR (am 10), fR (am 11), fR (am 12), fR (am 13), fR (am 14), fR (am 15), fR (am 16), fR (am 17), fX (E 0 0), fR (am 18), fR (am 19), fR (am 20), fR (am 21), fR (am 22), fR (am 23), fR (am 24), fR (am 25), fG 0 900, fG (-2147483648) 2147483647, fG 0 900, fG 0 900, fG 0 900, fG (-2147483648) 2147483647, fG (-2147483648) 2147483647, fG 0 24, fG 0 41, fG 0 319, fL, fG 0 1, fR (am 26), fG 0 48, fG 0 9, fR (am 27), fR (am 28), fR (am 29), fR (am 30), fR (am 31), fG (-2147483648) 2147483647, fG (-2147483648) 2147483647, fG 0 12, fG (-2147483648) 2147483647, fR (am 32), fG 0 1, fX (E 0 5), fG (-2147483648) 2147483647, fG (-2147483648) 2147483647, fR (am 33), fR (am 34), fR (am 35), fG (-2147483648) 2147483647, fG (-2147483648) 2147483647, fR (am 36), fR (am 37), fR (am 38), fX fr, fX (T 0 11), fX (T 0 12), fX (T 0 13), fR (am 39), fX (T 0 6), fR (am 40), fR (am 41), fR (am 42), fR (am 43), fR (am 44)]))) _ _ := h
                      refine lv_aload_n B.1 B.2.1 dX12_storm_63 rfl (lv_at hl 0 rfl) ?_
                      refine lv_iload_n B.1 B.2.1 dX12_storm_64 rfl (lv_at hl 2 rfl) ?_
                      refine y_put B h kX12 50 wu_eq 70 (Nat.le_of_ble_eq_true rfl) (P' := fX to) m_1331 (by decide) rfl rfl rfl rfl dX12_storm_65 (fun H locs h => ?_)
                      rw [wu_wu] at h
                      have h : yH D Zk A s ((wu w 50 (am 0, xO 12 [fR (am 1), fX (T 0 0), fX (T 0 1), fX (T 0 3), fX (T 0 2), fX (T 0 4), fX (T 0 5), fR (am 2), fR (am 3), fR (am 4), fR (am 5), fR (am 6), fR (am 7), fR (am 8), fR (am 9), fR (am 10), fR (am 11), fR (am 12), fR (am 13), fR (am 14), fR (am 15), fR (am 16), fR (am 17), fX (E 0 0), fR (am 18), fR (am 19), fR (am 20), fR (am 21), fR (am 22), fR (am 23), fR (am 24), fR (am 25), fG 0 900, fG (-2147483648) 2147483647, fG 0 900, fG 0 900, fG 0 900, fG (-2147483648) 2147483647, fG (-2147483648) 2147483647, fG 0 24, fG 0 41, fG 0 319, fL, fG 0 1, fR (am 26), fG 0 48, fG 0 9, fR (am 27), fR (am 28), fR (am 29), fR (am 30), fR (am 31), fG (-2147483648) 2147483647, fG (-2147483648) 2147483647, fG 0 12, fG (-2147483648) 2147483647, fR (am 32), fG 0 1, fX (E 0 5), fG (-2147483648) 2147483647, fG (-2147483648) 2147483647, fR (am 33), fR (am 34), fR (am 35), fG (-2147483648) 2147483647, fG (-2147483648) 2147483647, fR (am 36), fR (am 37), fR (am 38), fX fr, fX to, fX (T 0 12), fX (T 0 13), fR (am 39), fX (T 0 6), fR (am 40), fR (am 41), fR (am 42), fR (am 43), fR (am 44)]))) _ _ := h
                      refine lv_aload_n B.1 B.2.1 dX12_storm_68 rfl (lv_at hl 0 rfl) ?_
                      refine lv_iload_n B.1 B.2.1 dX12_storm_69 rfl (lv_at hl 3 rfl) ?_
                      refine y_put B h kX12 50 wu_eq 71 (Nat.le_of_ble_eq_true rfl) (P' := fX rd) m_1332 (by decide) rfl rfl rfl rfl dX12_storm_70 (fun H locs h => ?_)
                      rw [wu_wu] at h
                      have h : yH D Zk A s ((wu w 50 (am 0, xO 12 [fR (am 1), fX (T 0 0), fX (T 0 1), fX (T 0 3), fX (T 0 2), fX (T 0 4), fX (T 0 5), fR (am 2), fR (am 3), fR (am 4), fR (am 5), fR (am 6), fR (am 7), fR (am 8), fR (am 9), fR (am 10), fR (am 11), fR (am 12), fR (am 13), fR (am 14), fR (am 15), fR (am 16), fR (am 17), fX (E 0 0), fR (am 18), fR (am 19), fR (am 20), fR (am 21), fR (am 22), fR (am 23), fR (am 24), fR (am 25), fG 0 900, fG (-2147483648) 2147483647, fG 0 900, fG 0 900, fG 0 900, fG (-2147483648) 2147483647, fG (-2147483648) 2147483647, fG 0 24, fG 0 41, fG 0 319, fL, fG 0 1, fR (am 26), fG 0 48, fG 0 9, fR (am 27), fR (am 28), fR (am 29), fR (am 30), fR (am 31), fG (-2147483648) 2147483647, fG (-2147483648) 2147483647, fG 0 12, fG (-2147483648) 2147483647, fR (am 32), fG 0 1, fX (E 0 5), fG (-2147483648) 2147483647, fG (-2147483648) 2147483647, fR (am 33), fR (am 34), fR (am 35), fG (-2147483648) 2147483647, fG (-2147483648) 2147483647, fR (am 36), fR (am 37), fR (am 38), fX fr, fX to, fX rd, fX (T 0 13), fR (am 39), fX (T 0 6), fR (am 40), fR (am 41), fR (am 42), fR (am 43), fR (am 44)]))) _ _ := h
                      refine lv_aload_n B.1 B.2.1 dX12_storm_73 rfl (lv_at hl 0 rfl) ?_
                      refine lv_iload B.1 B.2.1 dX12_storm_74 (lv_at hl 4 rfl) ?_
                      refine y_put B h kX12 50 wu_eq 72 (Nat.le_of_ble_eq_true rfl) (P' := fX li) m_1333 (by decide) rfl rfl rfl rfl dX12_storm_76 (fun H locs h => ?_)
                      rw [wu_wu] at h
                      have h : yH D Zk A s ((wu w 50 (am 0, xO 12 [fR (am 1), fX (T 0 0), fX (T 0 1), fX (T 0 3), fX (T 0 2), fX (T 0 4), fX (T 0 5), fR (am 2), fR (am 3), fR (am 4), fR (am 5), fR (am 6), fR (am 7), fR (am 8), fR (am 9), fR (am 10), fR (am 11), fR (am 12), fR (am 13), fR (am 14), fR (am 15), fR (am 16), fR (am 17), fX (E 0 0), fR (am 18), fR (am 19), fR (am 20), fR (am 21), fR (am 22), fR (am 23), fR (am 24), fR (am 25), fG 0 900, fG (-2147483648) 2147483647, fG 0 900, fG 0 900, fG 0 900, fG (-2147483648) 2147483647, fG (-2147483648) 2147483647, fG 0 24, fG 0 41, fG 0 319, fL, fG 0 1, fR (am 26), fG 0 48, fG 0 9, fR (am 27), fR (am 28), fR (am 29), fR (am 30), fR (am 31), fG (-2147483648) 2147483647, fG (-2147483648) 2147483647, fG 0 12, fG (-2147483648) 2147483647, fR (am 32), fG 0 1, fX (E 0 5), fG (-2147483648) 2147483647, fG (-2147483648) 2147483647, fR (am 33), fR (am 34), fR (am 35), fG (-2147483648) 2147483647, fG (-2147483648) 2147483647, fR (am 36), fR (am 37), fR (am 38), fX fr, fX to, fX rd, fX li, fR (am 39), fX (T 0 6), fR (am 40), fR (am 41), fR (am 42), fR (am 43), fR (am 44)]))) _ _ := h
                      obtain ⟨w2, T2, eT2, hM2, hag2, h⟩ : ∃ (w2 : yW) (T2 : Nat → Int → Int), T2 = tStorm T fr to rd li ∧ MW ca T2 E am w2 ∧ AGM w w2 ∧ yH D Zk A s w2 H locs := ⟨_, _, rfl, mw_storm hM (by omega) (fun k k0 => by rw [wu_ne (by omega)]) wu_eq, fun k h1 => by rw [wu_ne (by omega)], h⟩
                      have hs2 := pi_s (MW.pi hM2)
                      have eA : T2 0 10 = fr := by rw [eT2]; rfl
                      have eB : T2 0 11 = to := by rw [eT2]; rfl
                      refine lv_aload_n B.1 B.2.1 dX12_storm_79 rfl (lv_at hl 0 rfl) ?_
                      refine y_cV B h kX12 50 (MW.f hM2 0 _ rfl) k_X12_findWays rfl (c_X12_findWays_e l D Zk ca T2 E am _ hM2   (by omega)) m_1864 rfl (by decide) hl.1 [] (Nat.le_of_ble_eq_true rfl) rfl dX12_storm_80 (fun r w1 hq H locs h => ?_)
                      obtain ⟨rfl, cb2_11, rfl, hr12⟩ := hq
                      have h : yH D Zk A s ((wu w2 89 (am 39, xAI (ca 2) 3840 (gX 3840 cb2_11)))) _ _ := h
                      have hcb2_11 := hr12.1
                      show W p l e r_c_X12_storm_e s m args below meth c _ _ 0 0 Qf (F0 m 83 ls [])
                      refine lv_aload_n B.1 B.2.1 dX12_storm_83 rfl (lv_at hl 0 rfl) ?_
                      refine lv_aload_n B.1 B.2.1 dX12_storm_84 rfl (lv_at hl 0 rfl) ?_
                      refine y_getX B h kX12 50 (wu_at (MW.f hM2 0 _ rfl) (by decide)) 69 (z := (T2 0 10)) rfl m_1330 (by decide) dX12_storm_85 ?_
                      refine y_cV B h kX12 50 (wu_at (MW.f hM2 0 _ rfl) (by decide)) k_X12_cellsOn rfl (c_X12_cellsOn_e_y l D Zk ca T2 E am _ _ hM2 (fun k hk hk2 => by rw [wu_ne (by omega)]) cb2_11 89 ((T2 0 10)) wu_eq (by omega) hr12 (by omega)) m_1876 rfl (by decide) hl.1 [] (Nat.le_of_ble_eq_true rfl) rfl dX12_storm_88 (fun r w1 hq H locs h => ?_)
                      obtain ⟨rfl, zc, rfl, hzc⟩ := hq
                      show W p l e r_c_X12_storm_e s m args below meth c _ _ 0 0 Qf (F0 m 91 ls [.int (iI zc)])
                      have h : yH D Zk A s w2 _ _ := yH.unpin h (MW.f hM2 39 _ rfl) (xAI_XG hcb2_11)
                      refine x_if_le B (by omega) (tgt := 98) dX12_storm_91 (by decide) (fun c14 => ?_) (fun c14 => ?_)
                      · refine x_iconst B dX12_storm_98 ?_
                        refine y_ri B hQ h (by decide) dX12_storm_99 ?_
                        rw [show T2 0 10 - T2 0 10 = 0 by omega] at hzc
                        exact ⟨_, rfl, Or.inl ⟨by omega, by rw [← eT2]; exact Or.inr ⟨rfl, sta_c0 (by omega)⟩, by rw [← eT2]; exact hM2, hag2⟩⟩
                      · refine x_iconst B dX12_storm_94 ?_
                        refine lv_goto (tgt := 99) B.1 B.2.1 dX12_storm_95 (by decide) ?_
                        refine y_ri B hQ h (by decide) dX12_storm_99 ?_
                        rw [show T2 0 10 - T2 0 10 = 0 by omega] at hzc
                        exact ⟨_, rfl, Or.inl ⟨by omega, by rw [← eT2]; exact Or.inl ⟨rfl, sta_c1 (by omega)⟩, by rw [← eT2]; exact hM2, hag2⟩⟩
                    · exact absurd c10 (by omega)
                  · show W p l e r_c_X12_storm_e s m args below meth c _ _ 0 0 Qf (F0 m 53 ls [.int (iI 0)])
                    refine x_if_ne B (by omega) (tgt := 58) dX12_storm_53 (by decide) (fun c15 => ?_) (fun c15 => ?_)
                    · exact absurd c15 (by omega)
                    · refine x_iconst B dX12_storm_56 ?_
                      refine y_ri B hQ h (by decide) dX12_storm_57 ?_
                      exact ⟨_, rfl, Or.inr ⟨by omega, by omega, rfl⟩⟩
              · show W p l e r_c_X12_storm_e s m args below meth c _ _ 0 0 Qf (F0 m 42 ls [.int (iI 0)])
                refine x_if_eq B (by omega) (tgt := 56) dX12_storm_42 (by decide) (fun c16 => ?_) (fun c16 => ?_)
                · refine x_iconst B dX12_storm_56 ?_
                  refine y_ri B hQ h (by decide) dX12_storm_57 ?_
                  exact ⟨_, rfl, Or.inr ⟨by omega, by omega, rfl⟩⟩
                · exact absurd c16 (by omega)
      · show W p l e r_c_X12_storm_e s m args below meth c _ _ 0 0 Qf (F0 m 19 ls [.int (iI 0)])
        refine x_if_eq B (by omega) (tgt := 56) dX12_storm_19 (by decide) (fun c17 => ?_) (fun c17 => ?_)
        · refine x_iconst B dX12_storm_56 ?_
          refine y_ri B hQ h (by decide) dX12_storm_57 ?_
          exact ⟨_, rfl, Or.inr ⟨by omega, by omega, rfl⟩⟩
        · exact absurd c17 (by omega)
  · show W p l e r_c_X12_storm_e s m args below meth c _ _ 0 0 Qf (F0 m 8 ls [.int (iI 0)])
    refine x_if_eq B (by omega) (tgt := 56) dX12_storm_8 (by decide) (fun c18 => ?_) (fun c18 => ?_)
    · refine x_iconst B dX12_storm_56 ?_
      refine y_ri B hQ h (by decide) dX12_storm_57 ?_
      exact ⟨_, rfl, Or.inr ⟨by omega, by omega, rfl⟩⟩
    · exact absurd c18 (by omega)
