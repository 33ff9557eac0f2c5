/-! ===== numbers liked and shunned ===== -/
def odf (p q : Int) : Nat → Int64
  | 0 => (1000000000 : Int64)
  | n + 1 => odf p q n * (iI p).toInt64 / (iI q).toInt64
theorem odf_next {p q k : Int} (hk : 0 ≤ k) : odf p q (k + 1).toNat = odf p q k.toNat * (iI p).toInt64 / (iI q).toInt64 := by
  rw [show (k + 1).toNat = k.toNat + 1 by omega]; rfl
def TWW (T : Nat → Int → Int) (o lo hi k : Int) : Prop := T 7 k ≠ 3 ∧ T 3 (1000 * T 4 k + T 5 k) = o ∧ lo ≤ T 8 k ∧ T 8 k ≤ hi
def TNN (T : Nat → Int → Int) (o n k : Int) : Prop := T 7 k ≠ 3 ∧ T 3 (1000 * T 4 k + T 5 k) = o ∧ (n < 0 ∨ T 8 k = n)
noncomputable def NNO (T : Nat → Int → Int) (o n : Int) : Int := cntp (TNN T o n) (T 0 2).toNat
theorem TW_1 {T : Nat → Int → Int} {o n : Int} (h : 0 ≤ n) : cntp (TWW T o n n) (T 0 2).toNat = NNO T o n := cntp_congr _ (fun k _ => by unfold TWW TNN; omega)
theorem TW_a {T : Nat → Int → Int} {o : Int} (hp : PI T) : cntp (TWW T o 0 12) (T 0 2).toNat = NNO T o (-1) := cntp_congr _ (fun k _ => by
  have a := pi_n hp k
  have b := pi_8 hp k
  unfold TWW TNN; omega)
theorem cntp_or {P Q R : Int → Prop} (h : ∀ k : Int, R k ↔ (P k ∨ Q k)) (hd : ∀ k : Int, ¬ (P k ∧ Q k)) : ∀ n : Nat, cntp R n = cntp P n + cntp Q n
  | 0 => rfl
  | n + 1 => by
    have a := cntp_or h hd n
    have b := h (n : Int)
    have c := hd (n : Int)
    show cntp R n + @ite Int (R (n : Int)) (Classical.propDecidable _) 1 0 = cntp P n + @ite Int (P (n : Int)) (Classical.propDecidable _) 1 0 + (cntp Q n + @ite Int (Q (n : Int)) (Classical.propDecidable _) 1 0)
    rw [a]
    by_cases p : P (n : Int)
    · rw [if_pos p, if_pos (b.mpr (Or.inl p)), if_neg (fun q => c ⟨p, q⟩)]; omega
    · by_cases q : Q (n : Int)
      · rw [if_neg p, if_pos q, if_pos (b.mpr (Or.inr q))]; omega
      · rw [if_neg p, if_neg q, if_neg (fun r => (b.mp r).elim p q)]; omega
theorem TW_3 {T : Nat → Int → Int} {o n : Int} (h : 1 ≤ n) : cntp (TWW T o (n - 1) (n + 1)) (T 0 2).toNat = NNO T o (n - 1) + NNO T o n + NNO T o (n + 1) := by
  have a := cntp_or (R := TWW T o (n - 1) (n + 1)) (P := TWW T o (n - 1) n) (Q := TNN T o (n + 1)) (fun k => by unfold TWW TNN; omega) (fun k => by unfold TWW TNN; omega) (T 0 2).toNat
  have b := cntp_or (R := TWW T o (n - 1) n) (P := TNN T o (n - 1)) (Q := TNN T o n) (fun k => by unfold TWW TNN; omega) (fun k => by unfold TNN; omega) (T 0 2).toNat
  unfold NNO
  omega
def LK2 (a b z : Int) : Prop := (4 * a < b ∧ z = -1) ∨ (b ≤ 4 * a ∧ b < a ∧ z = 1) ∨ (b ≤ 4 * a ∧ a ≤ b ∧ z = 0)
def LK3 (a b n z : Int) : Prop := ((0 < a ∨ n = 0) ∧ z = -1) ∨ (a ≤ 0 ∧ n ≠ 0 ∧ iI z = (odf (2 * n - b) (2 * n) n.toNat).toInt32)
def LKC (T : Nat → Int → Int) (o number what : Int) : Prop := (0 ≤ o ∧ o < T 0 0) ∧ (1 ≤ number ∧ number ≤ 11) ∧ 0 ≤ what ∧ what ≤ 3
def LKD (T : Nat → Int → Int) (o number what z : Int) : Prop := (¬ LKC T o number what ∧ z = -200) ∨ (LKC T o number what ∧ ((what = 0 ∧ z = NNO T o number) ∨ (what = 1 ∧ z = NNO T o (number - 1) + NNO T o (number + 1)) ∨ (what = 2 ∧ LK2 (NNO T o number) (NNO T o (number - 1) + NNO T o (number + 1)) z) ∨ (what = 3 ∧ LK3 (NNO T o number) (NNO T o (number - 1) + NNO T o (number + 1)) (NNO T o (-1)) z)))
theorem LKD_eq {T : Nat → Int → Int} {o number what z z' : Int} (h : xr z ∧ LKD T o number what z) (h2 : xr z' ∧ LKD T o number what z') : z = z' := by
  obtain ⟨hz, h⟩ := h
  obtain ⟨hz2, h2⟩ := h2
  rcases h with ⟨a, b⟩ | ⟨a, b | b | b | b⟩ <;> rcases h2 with ⟨a', b'⟩ | ⟨a', b' | b' | b' | b'⟩ <;> first | omega | exact absurd a' a | exact absurd a a' | skip
  · obtain ⟨-, b⟩ := b
    obtain ⟨-, b'⟩ := b'
    unfold LK2 at b b'
    omega
  · obtain ⟨-, b⟩ := b
    obtain ⟨-, b'⟩ := b'
    rcases b with ⟨q, r⟩ | ⟨q, r, t⟩ <;> rcases b' with ⟨q', r'⟩ | ⟨q', r', t'⟩ <;> first | omega | exact (iI_eq ⟨hz, hz2⟩).mp (t.trans t'.symm)


abbrev r_c_X11_timesWritten_e : Room := { frames := 3, cells := 0, slots := 0, locals := 64 }
set_option maxHeartbeats 4000000 in
set_option maxRecDepth 100000 in
theorem c_X11_timesWritten_e (l : Launch) (D : va_G) (Zk : yK) (ca : Nat → ClassId) (T : Nat → Int → Int) (G : Nat → Int → Nat) (u : Int) (ad : Nat → Nat) (w : yW) (hC : CW ca T G u ad w) (o : Int) (low : Int) (high : Int)  (ho : xr o) (hlow : xr low) (hhigh : xr high) : yC l D Zk ca yX11_timesWritten cX11_timesWritten 7 (some .int) r_c_X11_timesWritten_e [.ref (ad 0), .int (iI o), .int (iI low), .int (iI high)] w (vI w (fun z => z = cntp (TWW T o low high) (T 0 2).toNat ∧ 0 ≤ z ∧ z ≤ 300)) := by
  refine yC.of2 "WindWords" (by decide) rfl (Nat.le_of_ble_eq_true rfl) ?_
  intro p e s m args below meth c A ls Qf B hnm h hl hQ
  have hl : lv_has ls 7 [(0, .ref (ad 0)), (1, .int (iI o)), (2, .int (iI low)), (3, .int (iI high))] := hl
  have hs := pi_s (CW.pi hC)
  refine x_iconst B dX11_timesWritten_0 ?_
  refine lv_istore (lv' := [(4, .int (iI 0)), (0, .ref (ad 0)), (1, .int (iI o)), (2, .int (iI low)), (3, .int (iI high))]) B.1 B.2.1 dX11_timesWritten_1 hl (by decide) rfl (fun ls hl => ?_)
  refine x_iconst B dX11_timesWritten_3 ?_
  refine lv_istore (lv' := [(5, .int (iI 0)), (4, .int (iI 0)), (0, .ref (ad 0)), (1, .int (iI o)), (2, .int (iI low)), (3, .int (iI high))]) B.1 B.2.1 dX11_timesWritten_4 hl (by decide) rfl (fun ls hl => ?_)
  have loop6 : ∀ (n6 : Nat) (t : Int) (k : Int), (0 ≤ t ∧ t ≤ k) → (0 ≤ k ∧ k ≤ T 0 2) → (t = cntp (TWW T o low high) k.toNat) → ((300 - k : Int)).toNat < n6 → ∀ (H : Heap) (locs : List Loc) (ls : Array Slot), yH D Zk A s w H locs → lv_has ls 7 [(5, .int (iI k)), (4, .int (iI t)), (0, .ref (ad 0)), (1, .int (iI o)), (2, .int (iI low)), (3, .int (iI high))] → W p l e r_c_X11_timesWritten_e s m args below meth c H locs 0 0 Qf (F0 m 6 ls []) := by
    intro n6
    induction n6 with
    | zero =>
      intro t k h0 h1 h2 hm6 H locs ls h hl
      exact absurd hm6 (Nat.not_lt_zero _)
    | succ n6 ih6 =>
      intro t k h0 h1 h2 hm6 H locs ls h hl
      refine lv_iload B.1 B.2.1 dX11_timesWritten_6 (lv_at hl 0 rfl) ?_
      refine lv_aload_n B.1 B.2.1 dX11_timesWritten_8 rfl (lv_at hl 2 rfl) ?_
      refine y_getR B h kX11 0 (CW.f hC 0 _ rfl) 0 (b := ad 1) rfl m_361 (by decide) dX11_timesWritten_9 ?_
      refine y_getX B h kX0 1 (CW.f hC 1 _ rfl) 5 (z := (T 0 2)) rfl m_149 (by decide) dX11_timesWritten_12 ?_
      refine x_icmp_ge B (by omega) (tgt := 70) dX11_timesWritten_15 (by decide) (fun c1 => ?_) (fun c1 => ?_)
      · refine lv_iload B.1 B.2.1 dX11_timesWritten_70 (lv_at hl 1 rfl) ?_
        refine y_ri B hQ h (by decide) dX11_timesWritten_72 ?_
        have e9 : k = T 0 2 := by omega
        rw [e9] at h2
        exact ⟨rfl, _, rfl, h2, by omega⟩
      · refine lv_aload_n B.1 B.2.1 dX11_timesWritten_18 rfl (lv_at hl 2 rfl) ?_
        refine y_getR B h kX11 0 (CW.f hC 0 _ rfl) 0 (b := ad 1) rfl m_361 (by decide) dX11_timesWritten_19 ?_
        refine lv_iload B.1 B.2.1 dX11_timesWritten_22 (lv_at hl 0 rfl) ?_
        refine y_cV B h kX0 1 (CW.f hC 1 _ rfl) k_X0_mansAt rfl (c_X0_mansAt l D Zk ca T G u ad _ hC k  (by omega)) m_1050 rfl (by decide) hl.1 [] (Nat.le_of_ble_eq_true rfl) rfl dX11_timesWritten_24 (fun r w1 hq H locs h => ?_)
        obtain ⟨rfl, _, rfl, ⟨rfl, q2⟩ | ⟨rfl, q2⟩⟩ := hq
        · show W p l e r_c_X11_timesWritten_e s m args below meth c _ _ 0 0 Qf (F0 m 27 ls [.null])
          refine lv_astoreN (lv' := [(6, .null), (5, .int (iI k)), (4, .int (iI t)), (0, .ref (ad 0)), (1, .int (iI o)), (2, .int (iI low)), (3, .int (iI high))]) B.1 B.2.1 dX11_timesWritten_27 hl (by decide) rfl (fun ls hl => ?_)
          refine lv_aloadN B.1 B.2.1 dX11_timesWritten_29 (lv_at hl 0 rfl) ?_
          refine lv_ifnullN (tgt := 64) B.1 B.2.1 dX11_timesWritten_31 (by decide) ?_
          refine lv_iinc (v := iI (k + 1)) (lv' := [(5, .int (iI (k + 1))), (6, .null), (4, .int (iI t)), (0, .ref (ad 0)), (1, .int (iI o)), (2, .int (iI low)), (3, .int (iI high))]) B.1 B.2.1 dX11_timesWritten_64 hl (k := 1) rfl (iI_add _ _) (by decide) rfl (fun ls hl => ?_)
          refine lv_goto (tgt := 6) B.1 B.2.1 dX11_timesWritten_67 (by decide) ?_
          exact ih6 t ((k + 1)) (by omega) (by omega) (cntp_next (by omega) h2 (Or.inr ⟨by unfold TWW; omega, by omega⟩)) (by omega) _ _ _ h (lv_sub hl [0, 2, 3, 4, 5, 6] rfl)
        · have fo3 := CW.rd hC k (by omega)
          show W p l e r_c_X11_timesWritten_e s m args below meth c _ _ 0 0 Qf (F0 m 27 ls [.ref (G 4 k)])
          refine lv_astore (lv' := [(6, .ref (G 4 k)), (5, .int (iI k)), (4, .int (iI t)), (0, .ref (ad 0)), (1, .int (iI o)), (2, .int (iI low)), (3, .int (iI high))]) B.1 B.2.1 dX11_timesWritten_27 hl (by decide) rfl (fun ls hl => ?_)
          refine lv_aload B.1 B.2.1 dX11_timesWritten_29 (lv_at hl 0 rfl) ?_
          refine lv_ifnull B.1 B.2.1 dX11_timesWritten_31 ?_
          refine lv_aload B.1 B.2.1 dX11_timesWritten_34 (lv_at hl 0 rfl) ?_
          refine y_cV B h kX4 (1000 + 16 * k.toNat + 4) fo3 k_X4_writer rfl (c_X4_writer l D Zk ca T G u ad _ hC k  (by omega)) m_834 rfl (by decide) hl.1 [] (Nat.le_of_ble_eq_true rfl) rfl dX11_timesWritten_36 (fun r w1 hq H locs h => ?_)
          obtain ⟨rfl, _, rfl, rfl⟩ := hq
          have tb4 := pi_3 (CW.pi hC) (1000 * T 4 k + T 5 k)
          show W p l e r_c_X11_timesWritten_e s m args below meth c _ _ 0 0 Qf (F0 m 39 ls [.int (iI (T 3 (1000 * T 4 k + T 5 k)))])
          refine lv_iload_n B.1 B.2.1 dX11_timesWritten_39 rfl (lv_at hl 4 rfl) ?_
          refine x_icmp_ne B (by omega) (tgt := 64) dX11_timesWritten_40 (by decide) (fun c5 => ?_) (fun c5 => ?_)
          · refine lv_iinc (v := iI (k + 1)) (lv' := [(5, .int (iI (k + 1))), (6, .ref (G 4 k)), (4, .int (iI t)), (0, .ref (ad 0)), (1, .int (iI o)), (2, .int (iI low)), (3, .int (iI high))]) B.1 B.2.1 dX11_timesWritten_64 hl (k := 1) rfl (iI_add _ _) (by decide) rfl (fun ls hl => ?_)
            refine lv_goto (tgt := 6) B.1 B.2.1 dX11_timesWritten_67 (by decide) ?_
            exact ih6 t ((k + 1)) (by omega) (by omega) (cntp_next (by omega) h2 (Or.inr ⟨by unfold TWW; omega, by omega⟩)) (by omega) _ _ _ h (lv_sub hl [0, 2, 3, 4, 5, 6] rfl)
          · refine lv_aload B.1 B.2.1 dX11_timesWritten_43 (lv_at hl 0 rfl) ?_
            refine y_getX B h kX4 (1000 + 16 * k.toNat + 4) fo3 4 (z := (T 8 k)) rfl m_532 (by decide) dX11_timesWritten_45 ?_
            have tb6 := pi_8 (CW.pi hC) k
            have tb7 := pi_n (CW.pi hC) k
            refine lv_iload_n B.1 B.2.1 dX11_timesWritten_48 rfl (lv_at hl 5 rfl) ?_
            refine x_icmp_lt B (by omega) (tgt := 64) dX11_timesWritten_49 (by decide) (fun c8 => ?_) (fun c8 => ?_)
            · refine lv_iinc (v := iI (k + 1)) (lv' := [(5, .int (iI (k + 1))), (6, .ref (G 4 k)), (4, .int (iI t)), (0, .ref (ad 0)), (1, .int (iI o)), (2, .int (iI low)), (3, .int (iI high))]) B.1 B.2.1 dX11_timesWritten_64 hl (k := 1) rfl (iI_add _ _) (by decide) rfl (fun ls hl => ?_)
              refine lv_goto (tgt := 6) B.1 B.2.1 dX11_timesWritten_67 (by decide) ?_
              exact ih6 t ((k + 1)) (by omega) (by omega) (cntp_next (by omega) h2 (Or.inr ⟨by unfold TWW; omega, by omega⟩)) (by omega) _ _ _ h (lv_sub hl [0, 2, 3, 4, 5, 6] rfl)
            · refine lv_aload B.1 B.2.1 dX11_timesWritten_52 (lv_at hl 0 rfl) ?_
              refine y_getX B h kX4 (1000 + 16 * k.toNat + 4) fo3 4 (z := (T 8 k)) rfl m_532 (by decide) dX11_timesWritten_54 ?_
              refine lv_iload_n B.1 B.2.1 dX11_timesWritten_57 rfl (lv_at hl 6 rfl) ?_
              refine x_icmp_gt B (by omega) (tgt := 64) dX11_timesWritten_58 (by decide) (fun c9 => ?_) (fun c9 => ?_)
              · refine lv_iinc (v := iI (k + 1)) (lv' := [(5, .int (iI (k + 1))), (6, .ref (G 4 k)), (4, .int (iI t)), (0, .ref (ad 0)), (1, .int (iI o)), (2, .int (iI low)), (3, .int (iI high))]) B.1 B.2.1 dX11_timesWritten_64 hl (k := 1) rfl (iI_add _ _) (by decide) rfl (fun ls hl => ?_)
                refine lv_goto (tgt := 6) B.1 B.2.1 dX11_timesWritten_67 (by decide) ?_
                exact ih6 t ((k + 1)) (by omega) (by omega) (cntp_next (by omega) h2 (Or.inr ⟨by unfold TWW; omega, by omega⟩)) (by omega) _ _ _ h (lv_sub hl [0, 2, 3, 4, 5, 6] rfl)
              · refine lv_iinc (v := iI (t + 1)) (lv' := [(4, .int (iI (t + 1))), (6, .ref (G 4 k)), (5, .int (iI k)), (0, .ref (ad 0)), (1, .int (iI o)), (2, .int (iI low)), (3, .int (iI high))]) B.1 B.2.1 dX11_timesWritten_61 hl (k := 2) rfl (iI_add _ _) (by decide) rfl (fun ls hl => ?_)
                refine lv_iinc (v := iI (k + 1)) (lv' := [(5, .int (iI (k + 1))), (4, .int (iI (t + 1))), (6, .ref (G 4 k)), (0, .ref (ad 0)), (1, .int (iI o)), (2, .int (iI low)), (3, .int (iI high))]) B.1 B.2.1 dX11_timesWritten_64 hl (k := 2) rfl (iI_add _ _) (by decide) rfl (fun ls hl => ?_)
                refine lv_goto (tgt := 6) B.1 B.2.1 dX11_timesWritten_67 (by decide) ?_
                exact ih6 ((t + 1)) ((k + 1)) (by omega) (by omega) (cntp_next (by omega) h2 (Or.inl ⟨by unfold TWW; omega, by omega⟩)) (by omega) _ _ _ h (lv_sub hl [0, 1, 3, 4, 5, 6] rfl)
  exact loop6 (((300 - 0 : Int)).toNat + 1) 0 0 (by omega) (by omega) rfl (Nat.lt_succ_self _) _ _ _ h (lv_sub hl [0, 1, 2, 3, 4, 5] rfl)
abbrev r_c_X11_odds_e : Room := { frames := 0, cells := 0, slots := 0, locals := 0 }
set_option maxHeartbeats 4000000 in
set_option maxRecDepth 100000 in
theorem c_X11_odds_e (l : Launch) (D : va_G) (Zk : yK) (ca : Nat → ClassId) (w : yW) (all : Int) (tw : Int)  (hall : 0 ≤ all ∧ all ≤ 300) (htw : -600 ≤ tw ∧ tw ≤ 600) : yC l D Zk ca yX11_odds cX11_odds 5 (some .int) r_c_X11_odds_e [.int (iI all), .int (iI tw)] w (vI w (fun z => xr z ∧ ((all = 0 ∧ z = -1) ∨ (0 < all ∧ iI z = (odf (2 * all - tw) (2 * all) all.toNat).toInt32)))) := by
  refine yC.of2 "WindWords" (by decide) rfl (Nat.le_of_ble_eq_true rfl) ?_
  intro p e s m args below meth c A ls Qf B hnm h hl hQ
  have hl : lv_has ls 5 [(0, .int (iI all)), (1, .int (iI tw))] := hl
  refine lv_iload_n B.1 B.2.1 dX11_odds_0 rfl (lv_at hl 0 rfl) ?_
  refine x_if_gt B (by omega) (tgt := 6) dX11_odds_1 (by decide) (fun c1 => ?_) (fun c1 => ?_)
  · refine x_ldc2 B m_1054 dX11_odds_6 ?_
    refine lv_lstore_n (lv' := [(2, .long ((1000000000 : Int64))), (0, .int (iI all)), (1, .int (iI tw))]) B.1 B.2.1 dX11_odds_9 rfl hl (by decide) rfl (fun ls hl => ?_)
    refine x_iconst B dX11_odds_10 ?_
    refine lv_istore (lv' := [(4, .int (iI 0)), (2, .long ((1000000000 : Int64))), (0, .int (iI all)), (1, .int (iI tw))]) B.1 B.2.1 dX11_odds_11 hl (by decide) rfl (fun ls hl => ?_)
    have loop13 : ∀ (n13 : Nat) (ch : Int64) (k : Int), (0 ≤ k ∧ k ≤ all) → (ch = odf (2 * all - tw) (2 * all) k.toNat) → ((300 - k : Int)).toNat < n13 → ∀ (H : Heap) (locs : List Loc) (ls : Array Slot), yH D Zk A s w H locs → lv_has ls 5 [(4, .int (iI k)), (2, .long (ch)), (0, .int (iI all)), (1, .int (iI tw))] → W p l e r_c_X11_odds_e s m args below meth c H locs 0 0 Qf (F0 m 13 ls []) := by
      intro n13
      induction n13 with
      | zero =>
        intro ch k h1 h2 hm13 H locs ls h hl
        exact absurd hm13 (Nat.not_lt_zero _)
      | succ n13 ih13 =>
        intro ch k h1 h2 hm13 H locs ls h hl
        refine lv_iload B.1 B.2.1 dX11_odds_13 (lv_at hl 0 rfl) ?_
        refine lv_iload_n B.1 B.2.1 dX11_odds_15 rfl (lv_at hl 2 rfl) ?_
        refine x_icmp_ge B (by omega) (tgt := 39) dX11_odds_16 (by decide) (fun c2 => ?_) (fun c2 => ?_)
        · refine lv_lload_n B.1 B.2.1 dX11_odds_39 rfl (lv_at hl 1 rfl) ?_
          refine lv_l2i B.1 B.2.1 dX11_odds_40 rfl ?_
          refine x_name (fun z3 hz3 ez3 => ?_)
          refine y_ri B hQ h (by decide) dX11_odds_41 ?_
          have e9 : k = all := by omega
          rw [e9] at h2
          exact ⟨rfl, _, rfl, by omega, Or.inr ⟨by omega, by rw [← h2]; exact ez3.symm⟩⟩
        · refine lv_lload_n B.1 B.2.1 dX11_odds_19 rfl (lv_at hl 1 rfl) ?_
          refine x_iconst B dX11_odds_20 ?_
          refine lv_iload_n B.1 B.2.1 dX11_odds_21 rfl (lv_at hl 2 rfl) ?_
          refine x_imul B dX11_odds_22 ?_
          refine lv_iload_n B.1 B.2.1 dX11_odds_23 rfl (lv_at hl 3 rfl) ?_
          refine x_isub B dX11_odds_24 ?_
          refine lv_i2l B.1 B.2.1 dX11_odds_25 rfl ?_
          refine lv_lmul B.1 B.2.1 dX11_odds_26 ?_
          refine x_iconst B dX11_odds_27 ?_
          refine lv_iload_n B.1 B.2.1 dX11_odds_28 rfl (lv_at hl 2 rfl) ?_
          refine x_imul B dX11_odds_29 ?_
          refine lv_i2l B.1 B.2.1 dX11_odds_30 rfl ?_
          refine lv_ldiv B.1 B.2.1 dX11_odds_31 (i2l_ne (by omega)) ?_
          refine lv_lstore_n (lv' := [(2, .long (((ch * (iI ((2 * all) - tw)).toInt64) / (iI (2 * all)).toInt64))), (4, .int (iI k)), (0, .int (iI all)), (1, .int (iI tw))]) B.1 B.2.1 dX11_odds_32 rfl hl (by decide) rfl (fun ls hl => ?_)
          refine lv_iinc (v := iI (k + 1)) (lv' := [(4, .int (iI (k + 1))), (2, .long (((ch * (iI ((2 * all) - tw)).toInt64) / (iI (2 * all)).toInt64))), (0, .int (iI all)), (1, .int (iI tw))]) B.1 B.2.1 dX11_odds_33 hl (k := 1) rfl (iI_add _ _) (by decide) rfl (fun ls hl => ?_)
          refine lv_goto (tgt := 13) B.1 B.2.1 dX11_odds_36 (by decide) ?_
          exact ih13 (((ch * (iI ((2 * all) - tw)).toInt64) / (iI (2 * all)).toInt64)) ((k + 1)) (by omega) (by rw [odf_next (by omega), ← h2]) (by omega) _ _ _ h (lv_sub hl [0, 1, 2, 3] rfl)
    exact loop13 (((300 - 0 : Int)).toNat + 1) ((1000000000 : Int64)) 0 (by omega) rfl (Nat.lt_succ_self _) _ _ _ h (lv_sub hl [0, 1, 2, 3] rfl)
  · refine x_iconst B dX11_odds_4 ?_
    refine y_ri B hQ h (by decide) dX11_odds_5 ?_
    exact ⟨rfl, _, rfl, by omega, Or.inl ⟨by omega, rfl⟩⟩
abbrev r_c_X11_liked_e : Room := { frames := 4, cells := 0, slots := 0, locals := 90 }
set_option maxHeartbeats 4000000 in
set_option maxRecDepth 100000 in
theorem c_X11_liked_e (l : Launch) (D : va_G) (Zk : yK) (ca : Nat → ClassId) (T : Nat → Int → Int) (G : Nat → Int → Nat) (u : Int) (ad : Nat → Nat) (w : yW) (hC : CW ca T G u ad w) (o : Int) (number : Int) (what : Int)  (ho : xr o) (hnumber : xr number) (hwhat : xr what) : yC l D Zk ca yX11_liked cX11_liked 6 (some .int) r_c_X11_liked_e [.ref (ad 0), .int (iI o), .int (iI number), .int (iI what)] w (vI w (fun z => xr z ∧ LKD T o number what z)) := by
  refine yC.of2 "WindWords" (by decide) rfl (Nat.le_of_ble_eq_true rfl) ?_
  intro p e s m args below meth c A ls Qf B hnm h hl hQ
  have hl : lv_has ls 6 [(0, .ref (ad 0)), (1, .int (iI o)), (2, .int (iI number)), (3, .int (iI what))] := hl
  have hs := pi_s (CW.pi hC)
  refine lv_aload_n B.1 B.2.1 dX11_liked_0 rfl (lv_at hl 0 rfl) ?_
  refine y_getR B h kX11 0 (CW.f hC 0 _ rfl) 0 (b := ad 1) rfl m_361 (by decide) dX11_liked_1 ?_
  refine lv_iload_n B.1 B.2.1 dX11_liked_4 rfl (lv_at hl 1 rfl) ?_
  refine y_cV B h kX0 1 (CW.f hC 1 _ rfl) k_X0_hasOfficer rfl (c_X0_hasOfficer l D Zk ca T G u ad _ hC o  (by omega)) m_434 rfl (by decide) hl.1 [] (Nat.le_of_ble_eq_true rfl) rfl dX11_liked_5 (fun r w1 hq H locs h => ?_)
  obtain ⟨rfl, _, rfl, ⟨rfl, b1⟩ | ⟨rfl, b1⟩⟩ := hq
  · show W p l e r_c_X11_liked_e s m args below meth c _ _ 0 0 Qf (F0 m 8 ls [.int (iI 1)])
    refine x_if_eq B (by omega) (tgt := 30) dX11_liked_8 (by decide) (fun c2 => ?_) (fun c2 => ?_)
    · exact absurd c2 (by omega)
    · refine lv_iload_n B.1 B.2.1 dX11_liked_11 rfl (lv_at hl 2 rfl) ?_
      refine x_iconst B dX11_liked_12 ?_
      refine x_icmp_lt B (by omega) (tgt := 30) dX11_liked_13 (by decide) (fun c3 => ?_) (fun c3 => ?_)
      · refine x_sipush B (by decide) dX11_liked_30 ?_
        refine y_ri B hQ h (by decide) dX11_liked_33 ?_
        exact ⟨rfl, _, rfl, by omega, Or.inl ⟨fun ⟨x, y, q⟩ => by omega, rfl⟩⟩
      · refine lv_iload_n B.1 B.2.1 dX11_liked_16 rfl (lv_at hl 2 rfl) ?_
        refine x_bipush B (by decide) dX11_liked_17 ?_
        refine x_icmp_gt B (by omega) (tgt := 30) dX11_liked_19 (by decide) (fun c4 => ?_) (fun c4 => ?_)
        · refine x_sipush B (by decide) dX11_liked_30 ?_
          refine y_ri B hQ h (by decide) dX11_liked_33 ?_
          exact ⟨rfl, _, rfl, by omega, Or.inl ⟨fun ⟨x, y, q⟩ => by omega, rfl⟩⟩
        · refine lv_iload_n B.1 B.2.1 dX11_liked_22 rfl (lv_at hl 3 rfl) ?_
          refine x_iconst B dX11_liked_23 ?_
          refine y_cS B h k_X11_within (c_X11_within l D Zk ca _ what 3  (by omega) (by omega)) m_431 rfl (by decide) hl.1 [] (Nat.le_of_ble_eq_true rfl) rfl dX11_liked_24 (fun r w1 hq H locs h => ?_)
          obtain ⟨rfl, _, rfl, ⟨rfl, b5⟩ | ⟨rfl, b5⟩⟩ := hq
          · show W p l e r_c_X11_liked_e s m args below meth c _ _ 0 0 Qf (F0 m 27 ls [.int (iI 1)])
            refine x_if_ne B (by omega) (tgt := 34) dX11_liked_27 (by decide) (fun c6 => ?_) (fun c6 => ?_)
            · refine lv_aload_n B.1 B.2.1 dX11_liked_34 rfl (lv_at hl 0 rfl) ?_
              refine lv_iload_n B.1 B.2.1 dX11_liked_35 rfl (lv_at hl 1 rfl) ?_
              refine lv_iload_n B.1 B.2.1 dX11_liked_36 rfl (lv_at hl 2 rfl) ?_
              refine lv_iload_n B.1 B.2.1 dX11_liked_37 rfl (lv_at hl 2 rfl) ?_
              refine y_cV B h kX11 0 (CW.f hC 0 _ rfl) k_X11_timesWritten rfl (c_X11_timesWritten_e l D Zk ca T G u ad _ hC o number number  (by omega) (by omega) (by omega)) m_1046 rfl (by decide) hl.1 [] (Nat.le_of_ble_eq_true rfl) rfl dX11_liked_38 (fun r w1 hq H locs h => ?_)
              obtain ⟨rfl, za, rfl, hza⟩ := hq
              show W p l e r_c_X11_liked_e s m args below meth c _ _ 0 0 Qf (F0 m 41 ls [.int (iI za)])
              refine lv_istore (lv' := [(4, .int (iI za)), (0, .ref (ad 0)), (1, .int (iI o)), (2, .int (iI number)), (3, .int (iI what))]) B.1 B.2.1 dX11_liked_41 hl (by decide) rfl (fun ls hl => ?_)
              refine lv_aload_n B.1 B.2.1 dX11_liked_43 rfl (lv_at hl 1 rfl) ?_
              refine lv_iload_n B.1 B.2.1 dX11_liked_44 rfl (lv_at hl 2 rfl) ?_
              refine lv_iload_n B.1 B.2.1 dX11_liked_45 rfl (lv_at hl 3 rfl) ?_
              refine x_iconst B dX11_liked_46 ?_
              refine x_isub B dX11_liked_47 ?_
              refine lv_iload_n B.1 B.2.1 dX11_liked_48 rfl (lv_at hl 3 rfl) ?_
              refine x_iconst B dX11_liked_49 ?_
              refine x_iadd B dX11_liked_50 ?_
              refine y_cV B h kX11 0 (CW.f hC 0 _ rfl) k_X11_timesWritten rfl (c_X11_timesWritten_e l D Zk ca T G u ad _ hC o ((number - 1)) ((number + 1))  (by omega) (by omega) (by omega)) m_1046 rfl (by decide) hl.1 [] (Nat.le_of_ble_eq_true rfl) rfl dX11_liked_51 (fun r w1 hq H locs h => ?_)
              obtain ⟨rfl, zb, rfl, hzb⟩ := hq
              show W p l e r_c_X11_liked_e s m args below meth c _ _ 0 0 Qf (F0 m 54 ls [.int (iI zb)])
              refine lv_iload B.1 B.2.1 dX11_liked_54 (lv_at hl 0 rfl) ?_
              refine x_isub B dX11_liked_56 ?_
              refine lv_istore (lv' := [(5, .int (iI (zb - za))), (4, .int (iI za)), (0, .ref (ad 0)), (1, .int (iI o)), (2, .int (iI number)), (3, .int (iI what))]) B.1 B.2.1 dX11_liked_57 hl (by decide) rfl (fun ls hl => ?_)
              refine lv_iload_n B.1 B.2.1 dX11_liked_59 rfl (lv_at hl 5 rfl) ?_
              by_cases t9 : what = 0
              · refine x_tin B (tgt := 88) 0 (by omega) dX11_liked_60 rfl (by decide) ?_
                refine lv_iload B.1 B.2.1 dX11_liked_88 (lv_at hl 1 rfl) ?_
                refine y_ri B hQ h (by decide) dX11_liked_90 ?_
                have hK : LKC T o number what := ⟨by omega, by omega, by omega⟩
                have t1 := TW_1 (T := T) (o := o) (n := number) (by omega)
                have t2 := TW_3 (T := T) (o := o) (n := number) (by omega)
                have t3 := TW_a (CW.pi hC) (o := o)
                exact ⟨rfl, _, rfl, by omega, Or.inr ⟨hK, by first | exact Or.inl ⟨by omega, by omega⟩ | exact Or.inr (Or.inl ⟨by omega, by omega⟩) | exact Or.inr (Or.inr (Or.inl ⟨by omega, by unfold LK2; omega⟩)) | exact Or.inr (Or.inr (Or.inr ⟨by omega, Or.inl ⟨by omega, by omega⟩⟩))⟩⟩
              by_cases t10 : what = 1
              · refine x_tin B (tgt := 91) 1 (by omega) dX11_liked_60 rfl (by decide) ?_
                refine lv_iload B.1 B.2.1 dX11_liked_91 (lv_at hl 0 rfl) ?_
                refine y_ri B hQ h (by decide) dX11_liked_93 ?_
                have hK : LKC T o number what := ⟨by omega, by omega, by omega⟩
                have t1 := TW_1 (T := T) (o := o) (n := number) (by omega)
                have t2 := TW_3 (T := T) (o := o) (n := number) (by omega)
                have t3 := TW_a (CW.pi hC) (o := o)
                exact ⟨rfl, _, rfl, by omega, Or.inr ⟨hK, by first | exact Or.inl ⟨by omega, by omega⟩ | exact Or.inr (Or.inl ⟨by omega, by omega⟩) | exact Or.inr (Or.inr (Or.inl ⟨by omega, by unfold LK2; omega⟩)) | exact Or.inr (Or.inr (Or.inr ⟨by omega, Or.inl ⟨by omega, by omega⟩⟩))⟩⟩
              by_cases t11 : what = 2
              · refine x_tin B (tgt := 94) 2 (by omega) dX11_liked_60 rfl (by decide) ?_
                refine x_iconst B dX11_liked_94 ?_
                refine lv_iload B.1 B.2.1 dX11_liked_95 (lv_at hl 1 rfl) ?_
                refine x_imul B dX11_liked_97 ?_
                refine lv_iload B.1 B.2.1 dX11_liked_98 (lv_at hl 0 rfl) ?_
                refine x_icmp_ge B (by omega) (tgt := 107) dX11_liked_100 (by decide) (fun c12 => ?_) (fun c12 => ?_)
                · refine lv_iload B.1 B.2.1 dX11_liked_107 (lv_at hl 1 rfl) ?_
                  refine lv_iload B.1 B.2.1 dX11_liked_109 (lv_at hl 0 rfl) ?_
                  refine x_icmp_le B (by omega) (tgt := 118) dX11_liked_111 (by decide) (fun c13 => ?_) (fun c13 => ?_)
                  · refine x_iconst B dX11_liked_118 ?_
                    refine y_ri B hQ h (by decide) dX11_liked_119 ?_
                    have hK : LKC T o number what := ⟨by omega, by omega, by omega⟩
                    have t1 := TW_1 (T := T) (o := o) (n := number) (by omega)
                    have t2 := TW_3 (T := T) (o := o) (n := number) (by omega)
                    have t3 := TW_a (CW.pi hC) (o := o)
                    exact ⟨rfl, _, rfl, by omega, Or.inr ⟨hK, by first | exact Or.inl ⟨by omega, by omega⟩ | exact Or.inr (Or.inl ⟨by omega, by omega⟩) | exact Or.inr (Or.inr (Or.inl ⟨by omega, by unfold LK2; omega⟩)) | exact Or.inr (Or.inr (Or.inr ⟨by omega, Or.inl ⟨by omega, by omega⟩⟩))⟩⟩
                  · refine x_iconst B dX11_liked_114 ?_
                    refine lv_goto (tgt := 119) B.1 B.2.1 dX11_liked_115 (by decide) ?_
                    refine y_ri B hQ h (by decide) dX11_liked_119 ?_
                    have hK : LKC T o number what := ⟨by omega, by omega, by omega⟩
                    have t1 := TW_1 (T := T) (o := o) (n := number) (by omega)
                    have t2 := TW_3 (T := T) (o := o) (n := number) (by omega)
                    have t3 := TW_a (CW.pi hC) (o := o)
                    exact ⟨rfl, _, rfl, by omega, Or.inr ⟨hK, by first | exact Or.inl ⟨by omega, by omega⟩ | exact Or.inr (Or.inl ⟨by omega, by omega⟩) | exact Or.inr (Or.inr (Or.inl ⟨by omega, by unfold LK2; omega⟩)) | exact Or.inr (Or.inr (Or.inr ⟨by omega, Or.inl ⟨by omega, by omega⟩⟩))⟩⟩
                · refine x_iconst B dX11_liked_103 ?_
                  refine lv_goto (tgt := 119) B.1 B.2.1 dX11_liked_104 (by decide) ?_
                  refine y_ri B hQ h (by decide) dX11_liked_119 ?_
                  have hK : LKC T o number what := ⟨by omega, by omega, by omega⟩
                  have t1 := TW_1 (T := T) (o := o) (n := number) (by omega)
                  have t2 := TW_3 (T := T) (o := o) (n := number) (by omega)
                  have t3 := TW_a (CW.pi hC) (o := o)
                  exact ⟨rfl, _, rfl, by omega, Or.inr ⟨hK, by first | exact Or.inl ⟨by omega, by omega⟩ | exact Or.inr (Or.inl ⟨by omega, by omega⟩) | exact Or.inr (Or.inr (Or.inl ⟨by omega, by unfold LK2; omega⟩)) | exact Or.inr (Or.inr (Or.inr ⟨by omega, Or.inl ⟨by omega, by omega⟩⟩))⟩⟩
              refine x_tout B (tgt := 120) (by omega) dX11_liked_60 (by decide) ?_
              refine lv_iload B.1 B.2.1 dX11_liked_120 (lv_at hl 1 rfl) ?_
              refine x_if_le B (by omega) (tgt := 129) dX11_liked_122 (by decide) (fun c14 => ?_) (fun c14 => ?_)
              · refine lv_aload_n B.1 B.2.1 dX11_liked_129 rfl (lv_at hl 2 rfl) ?_
                refine lv_iload_n B.1 B.2.1 dX11_liked_130 rfl (lv_at hl 3 rfl) ?_
                refine x_iconst B dX11_liked_131 ?_
                refine x_bipush B (by decide) dX11_liked_132 ?_
                refine y_cV B h kX11 0 (CW.f hC 0 _ rfl) k_X11_timesWritten rfl (c_X11_timesWritten_e l D Zk ca T G u ad _ hC o 0 12  (by omega) (by omega) (by omega)) m_1046 rfl (by decide) hl.1 [] (Nat.le_of_ble_eq_true rfl) rfl dX11_liked_134 (fun r w1 hq H locs h => ?_)
                obtain ⟨rfl, zd, rfl, hzd⟩ := hq
                show W p l e r_c_X11_liked_e s m args below meth c _ _ 0 0 Qf (F0 m 137 ls [.int (iI zd)])
                refine lv_iload B.1 B.2.1 dX11_liked_137 (lv_at hl 0 rfl) ?_
                refine y_cS B h k_X11_odds (c_X11_odds_e l D Zk ca _ zd ((zb - za))  (by omega) (by omega)) m_1051 rfl (by decide) hl.1 [] (Nat.le_of_ble_eq_true rfl) rfl dX11_liked_139 (fun r w1 hq H locs h => ?_)
                obtain ⟨rfl, ze, rfl, hze⟩ := hq
                show W p l e r_c_X11_liked_e s m args below meth c _ _ 0 0 Qf (F0 m 142 ls [.int (iI ze)])
                refine y_ri B hQ h (by decide) dX11_liked_142 ?_
                have hK : LKC T o number what := ⟨by omega, by omega, by omega⟩
                have t1 := TW_1 (T := T) (o := o) (n := number) (by omega)
                have t2 := TW_3 (T := T) (o := o) (n := number) (by omega)
                have t3 := TW_a (CW.pi hC) (o := o)
                have u2 : zb - za = NNO T o (number - 1) + NNO T o (number + 1) := by omega
                have u3 : zd = NNO T o (-1) := by omega
                refine ⟨rfl, _, rfl, hze.1, Or.inr ⟨hK, Or.inr (Or.inr (Or.inr ⟨by omega, ?_⟩))⟩⟩
                rw [← u2, ← u3]
                rcases hze.2 with ⟨a, b⟩ | ⟨a, b⟩
                · exact Or.inl ⟨by omega, b⟩
                · exact Or.inr ⟨by omega, by omega, b⟩
              · refine x_iconst B dX11_liked_125 ?_
                refine lv_goto (tgt := 142) B.1 B.2.1 dX11_liked_126 (by decide) ?_
                refine y_ri B hQ h (by decide) dX11_liked_142 ?_
                have hK : LKC T o number what := ⟨by omega, by omega, by omega⟩
                have t1 := TW_1 (T := T) (o := o) (n := number) (by omega)
                have t2 := TW_3 (T := T) (o := o) (n := number) (by omega)
                have t3 := TW_a (CW.pi hC) (o := o)
                exact ⟨rfl, _, rfl, by omega, Or.inr ⟨hK, by first | exact Or.inl ⟨by omega, by omega⟩ | exact Or.inr (Or.inl ⟨by omega, by omega⟩) | exact Or.inr (Or.inr (Or.inl ⟨by omega, by unfold LK2; omega⟩)) | exact Or.inr (Or.inr (Or.inr ⟨by omega, Or.inl ⟨by omega, by omega⟩⟩))⟩⟩
            · exact absurd c6 (by omega)
          · show W p l e r_c_X11_liked_e s m args below meth c _ _ 0 0 Qf (F0 m 27 ls [.int (iI 0)])
            refine x_if_ne B (by omega) (tgt := 34) dX11_liked_27 (by decide) (fun c17 => ?_) (fun c17 => ?_)
            · exact absurd c17 (by omega)
            · refine x_sipush B (by decide) dX11_liked_30 ?_
              refine y_ri B hQ h (by decide) dX11_liked_33 ?_
              exact ⟨rfl, _, rfl, by omega, Or.inl ⟨fun ⟨x, y, q⟩ => by omega, rfl⟩⟩
  · show W p l e r_c_X11_liked_e s m args below meth c _ _ 0 0 Qf (F0 m 8 ls [.int (iI 0)])
    refine x_if_eq B (by omega) (tgt := 30) dX11_liked_8 (by decide) (fun c18 => ?_) (fun c18 => ?_)
    · refine x_sipush B (by decide) dX11_liked_30 ?_
      refine y_ri B hQ h (by decide) dX11_liked_33 ?_
      exact ⟨rfl, _, rfl, by omega, Or.inl ⟨fun ⟨x, y, q⟩ => by omega, rfl⟩⟩
    · exact absurd c18 (by omega)
abbrev r_c_X12_withNumber_e : Room := { frames := 2, cells := 0, slots := 0, locals := 45 }
set_option maxHeartbeats 4000000 in
set_option maxRecDepth 100000 in
theorem c_X12_withNumber_e (l : Launch) (D : va_G) (Zk : yK) (ca : Nat → ClassId) (T : Nat → Int → Int) (E : Nat → Int → Int) (am : Nat → Nat) (w : yW) (hM : MW ca T E am w) (o : Int) (number : Int)  (ho : xr o) (hnumber : xr number) : yC l D Zk ca yX12_withNumber cX12_withNumber 5 (some .int) r_c_X12_withNumber_e [.ref (am 0), .int (iI o), .int (iI number)] w (vI w (fun z => z = NNO T o number ∧ 0 ≤ z ∧ z ≤ 300)) := by
  refine yC.of2 "WindWordsModel" (by decide) rfl (Nat.le_of_ble_eq_true rfl) ?_
  intro p e s m args below meth c A ls Qf B hnm h hl hQ
  have hl : lv_has ls 5 [(0, .ref (am 0)), (1, .int (iI o)), (2, .int (iI number))] := hl
  have hs := pi_s (MW.pi hM)
  have hpe := pe_0 (MW.pe hM)
  refine x_iconst B dX12_withNumber_0 ?_
  refine lv_istore_n (lv' := [(3, .int (iI 0)), (0, .ref (am 0)), (1, .int (iI o)), (2, .int (iI number))]) B.1 B.2.1 dX12_withNumber_1 rfl hl (by decide) rfl (fun ls hl => ?_)
  refine x_iconst B dX12_withNumber_2 ?_
  refine lv_istore (lv' := [(4, .int (iI 0)), (3, .int (iI 0)), (0, .ref (am 0)), (1, .int (iI o)), (2, .int (iI number))]) B.1 B.2.1 dX12_withNumber_3 hl (by decide) rfl (fun ls hl => ?_)
  have loop5 : ∀ (n5 : Nat) (n : Int) (k : Int), (0 ≤ n ∧ n ≤ k) → (0 ≤ k ∧ k ≤ T 0 2) → (n = cntp (TNN T o number) k.toNat) → ((300 - k : Int)).toNat < n5 → ∀ (H : Heap) (locs : List Loc) (ls : Array Slot), yH D Zk A s w H locs → lv_has ls 5 [(4, .int (iI k)), (3, .int (iI n)), (0, .ref (am 0)), (1, .int (iI o)), (2, .int (iI number))] → W p l e r_c_X12_withNumber_e s m args below meth c H locs 0 0 Qf (F0 m 5 ls []) := by
    intro n5
    induction n5 with
    | zero =>
      intro n k h0 h1 h2 hm5 H locs ls h hl
      exact absurd hm5 (Nat.not_lt_zero _)
    | succ n5 ih5 =>
      intro n k h0 h1 h2 hm5 H locs ls h hl
      refine lv_iload B.1 B.2.1 dX12_withNumber_5 (lv_at hl 0 rfl) ?_
      refine lv_aload_n B.1 B.2.1 dX12_withNumber_7 rfl (lv_at hl 2 rfl) ?_
      refine y_getX B h kX12 50 (MW.f hM 0 _ rfl) 4 (z := (T 0 2)) rfl m_1265 (by decide) dX12_withNumber_8 ?_
      refine x_icmp_ge B (by omega) (tgt := 62) dX12_withNumber_11 (by decide) (fun c1 => ?_) (fun c1 => ?_)
      · refine lv_iload_n B.1 B.2.1 dX12_withNumber_62 rfl (lv_at hl 1 rfl) ?_
        refine y_ri B hQ h (by decide) dX12_withNumber_63 ?_
        have e9 : k = T 0 2 := by omega
        rw [e9] at h2
        exact ⟨rfl, _, rfl, h2, by omega⟩
      · refine lv_iload_n B.1 B.2.1 dX12_withNumber_14 rfl (lv_at hl 1 rfl) ?_
        refine lv_aload_n B.1 B.2.1 dX12_withNumber_15 rfl (lv_at hl 2 rfl) ?_
        refine lv_iload B.1 B.2.1 dX12_withNumber_16 (lv_at hl 0 rfl) ?_
        refine y_cV B h kX12 50 (MW.f hM 0 _ rfl) k_X12_isMan rfl (c_X12_isMan l D Zk ca T E am _ hM k  (by omega)) m_1728 rfl (by decide) hl.1 [.int (iI n)] (Nat.le_of_ble_eq_true rfl) rfl dX12_withNumber_18 (fun r w1 hq H locs h => ?_)
        obtain ⟨rfl, _, rfl, ⟨rfl, b2⟩ | ⟨rfl, b2⟩⟩ := hq
        · show W p l e r_c_X12_withNumber_e s m args below meth c _ _ 0 0 Qf (F0 m 21 ls [.int (iI 1), .int (iI n)])
          refine x_if_eq B (by omega) (tgt := 53) dX12_withNumber_21 (by decide) (fun c3 => ?_) (fun c3 => ?_)
          · exact absurd c3 (by omega)
          · refine lv_aload_n B.1 B.2.1 dX12_withNumber_24 rfl (lv_at hl 2 rfl) ?_
            refine lv_iload B.1 B.2.1 dX12_withNumber_25 (lv_at hl 0 rfl) ?_
            refine y_cV B h kX12 50 (MW.f hM 0 _ rfl) k_X12_writer rfl (c_X12_writer l D Zk ca T E am _ hM k  (by omega)) m_1736 rfl (by decide) hl.1 [.int (iI n)] (Nat.le_of_ble_eq_true rfl) rfl dX12_withNumber_27 (fun r w1 hq H locs h => ?_)
            obtain ⟨rfl, _, rfl, rfl⟩ := hq
            have tb4 := pi_3 (MW.pi hM) (1000 * T 4 k + T 5 k)
            show W p l e r_c_X12_withNumber_e s m args below meth c _ _ 0 0 Qf (F0 m 30 ls [.int (iI (T 3 (1000 * T 4 k + T 5 k))), .int (iI n)])
            refine lv_iload_n B.1 B.2.1 dX12_withNumber_30 rfl (lv_at hl 3 rfl) ?_
            refine x_icmp_ne B (by omega) (tgt := 53) dX12_withNumber_31 (by decide) (fun c5 => ?_) (fun c5 => ?_)
            · refine x_iconst B dX12_withNumber_53 ?_
              refine x_iadd B dX12_withNumber_54 ?_
              refine lv_istore_n (lv' := [(3, .int (iI (n + 0))), (4, .int (iI k)), (0, .ref (am 0)), (1, .int (iI o)), (2, .int (iI number))]) B.1 B.2.1 dX12_withNumber_55 rfl hl (by decide) rfl (fun ls hl => ?_)
              refine lv_iinc (v := iI (k + 1)) (lv' := [(4, .int (iI (k + 1))), (3, .int (iI (n + 0))), (0, .ref (am 0)), (1, .int (iI o)), (2, .int (iI number))]) B.1 B.2.1 dX12_withNumber_56 hl (k := 1) rfl (iI_add _ _) (by decide) rfl (fun ls hl => ?_)
              refine lv_goto (tgt := 5) B.1 B.2.1 dX12_withNumber_59 (by decide) ?_
              exact ih5 ((n + 0)) ((k + 1)) (by omega) (by omega) (cntp_next (by omega) h2 (Or.inr ⟨by unfold TNN; omega, by omega⟩)) (by omega) _ _ _ h (lv_sub hl [0, 1, 2, 3, 4] rfl)
            · refine lv_iload_n B.1 B.2.1 dX12_withNumber_34 rfl (lv_at hl 4 rfl) ?_
              refine x_if_lt B (by omega) (tgt := 49) dX12_withNumber_35 (by decide) (fun c6 => ?_) (fun c6 => ?_)
              · refine x_iconst B dX12_withNumber_49 ?_
                refine lv_goto (tgt := 54) B.1 B.2.1 dX12_withNumber_50 (by decide) ?_
                refine x_iadd B dX12_withNumber_54 ?_
                refine lv_istore_n (lv' := [(3, .int (iI (n + 1))), (4, .int (iI k)), (0, .ref (am 0)), (1, .int (iI o)), (2, .int (iI number))]) B.1 B.2.1 dX12_withNumber_55 rfl hl (by decide) rfl (fun ls hl => ?_)
                refine lv_iinc (v := iI (k + 1)) (lv' := [(4, .int (iI (k + 1))), (3, .int (iI (n + 1))), (0, .ref (am 0)), (1, .int (iI o)), (2, .int (iI number))]) B.1 B.2.1 dX12_withNumber_56 hl (k := 1) rfl (iI_add _ _) (by decide) rfl (fun ls hl => ?_)
                refine lv_goto (tgt := 5) B.1 B.2.1 dX12_withNumber_59 (by decide) ?_
                exact ih5 ((n + 1)) ((k + 1)) (by omega) (by omega) (cntp_next (by omega) h2 (Or.inl ⟨by unfold TNN; omega, by omega⟩)) (by omega) _ _ _ h (lv_sub hl [0, 1, 2, 3, 4] rfl)
              · refine lv_aload_n B.1 B.2.1 dX12_withNumber_38 rfl (lv_at hl 2 rfl) ?_
                refine y_getR B h kX12 50 (MW.f hM 0 _ rfl) 18 (b := am 13) rfl m_1279 (by decide) dX12_withNumber_39 ?_
                refine lv_iload B.1 B.2.1 dX12_withNumber_42 (lv_at hl 0 rfl) ?_
                refine y_ialdX B h 63 (MW.f hM 13 _ rfl) (by omega) dX12_withNumber_44 ?_
                refine x_iset (z := (T 8 k)) (by show iI (T 8 (((k : Int).toNat : Nat) : Int)) = _; rw [show ((((k : Int).toNat : Nat) : Int)) = k by omega]) ?_
                have tb7 := pi_8 (MW.pi hM) k
                have tb8 := pi_n (MW.pi hM) k
                refine lv_iload_n B.1 B.2.1 dX12_withNumber_45 rfl (lv_at hl 4 rfl) ?_
                refine x_icmp_ne B (by omega) (tgt := 53) dX12_withNumber_46 (by decide) (fun c9 => ?_) (fun c9 => ?_)
                · refine x_iconst B dX12_withNumber_53 ?_
                  refine x_iadd B dX12_withNumber_54 ?_
                  refine lv_istore_n (lv' := [(3, .int (iI (n + 0))), (4, .int (iI k)), (0, .ref (am 0)), (1, .int (iI o)), (2, .int (iI number))]) B.1 B.2.1 dX12_withNumber_55 rfl hl (by decide) rfl (fun ls hl => ?_)
                  refine lv_iinc (v := iI (k + 1)) (lv' := [(4, .int (iI (k + 1))), (3, .int (iI (n + 0))), (0, .ref (am 0)), (1, .int (iI o)), (2, .int (iI number))]) B.1 B.2.1 dX12_withNumber_56 hl (k := 1) rfl (iI_add _ _) (by decide) rfl (fun ls hl => ?_)
                  refine lv_goto (tgt := 5) B.1 B.2.1 dX12_withNumber_59 (by decide) ?_
                  exact ih5 ((n + 0)) ((k + 1)) (by omega) (by omega) (cntp_next (by omega) h2 (Or.inr ⟨by unfold TNN; omega, by omega⟩)) (by omega) _ _ _ h (lv_sub hl [0, 1, 2, 3, 4] rfl)
                · refine x_iconst B dX12_withNumber_49 ?_
                  refine lv_goto (tgt := 54) B.1 B.2.1 dX12_withNumber_50 (by decide) ?_
                  refine x_iadd B dX12_withNumber_54 ?_
                  refine lv_istore_n (lv' := [(3, .int (iI (n + 1))), (4, .int (iI k)), (0, .ref (am 0)), (1, .int (iI o)), (2, .int (iI number))]) B.1 B.2.1 dX12_withNumber_55 rfl hl (by decide) rfl (fun ls hl => ?_)
                  refine lv_iinc (v := iI (k + 1)) (lv' := [(4, .int (iI (k + 1))), (3, .int (iI (n + 1))), (0, .ref (am 0)), (1, .int (iI o)), (2, .int (iI number))]) B.1 B.2.1 dX12_withNumber_56 hl (k := 1) rfl (iI_add _ _) (by decide) rfl (fun ls hl => ?_)
                  refine lv_goto (tgt := 5) B.1 B.2.1 dX12_withNumber_59 (by decide) ?_
                  exact ih5 ((n + 1)) ((k + 1)) (by omega) (by omega) (cntp_next (by omega) h2 (Or.inl ⟨by unfold TNN; omega, by omega⟩)) (by omega) _ _ _ h (lv_sub hl [0, 1, 2, 3, 4] rfl)
        · show W p l e r_c_X12_withNumber_e s m args below meth c _ _ 0 0 Qf (F0 m 21 ls [.int (iI 0), .int (iI n)])
          refine x_if_eq B (by omega) (tgt := 53) dX12_withNumber_21 (by decide) (fun c10 => ?_) (fun c10 => ?_)
          · refine x_iconst B dX12_withNumber_53 ?_
            refine x_iadd B dX12_withNumber_54 ?_
            refine lv_istore_n (lv' := [(3, .int (iI (n + 0))), (4, .int (iI k)), (0, .ref (am 0)), (1, .int (iI o)), (2, .int (iI number))]) B.1 B.2.1 dX12_withNumber_55 rfl hl (by decide) rfl (fun ls hl => ?_)
            refine lv_iinc (v := iI (k + 1)) (lv' := [(4, .int (iI (k + 1))), (3, .int (iI (n + 0))), (0, .ref (am 0)), (1, .int (iI o)), (2, .int (iI number))]) B.1 B.2.1 dX12_withNumber_56 hl (k := 1) rfl (iI_add _ _) (by decide) rfl (fun ls hl => ?_)
            refine lv_goto (tgt := 5) B.1 B.2.1 dX12_withNumber_59 (by decide) ?_
            exact ih5 ((n + 0)) ((k + 1)) (by omega) (by omega) (cntp_next (by omega) h2 (Or.inr ⟨by unfold TNN; omega, by omega⟩)) (by omega) _ _ _ h (lv_sub hl [0, 1, 2, 3, 4] rfl)
          · exact absurd c10 (by omega)
  exact loop5 (((300 - 0 : Int)).toNat + 1) 0 0 (by omega) (by omega) rfl (Nat.lt_succ_self _) _ _ _ h (lv_sub hl [0, 1, 2, 3, 4] rfl)
abbrev r_c_X12_liked_e : Room := { frames := 3, cells := 0, slots := 0, locals := 69 }
set_option maxHeartbeats 4000000 in
set_option maxRecDepth 100000 in
theorem c_X12_liked_e (l : Launch) (D : va_G) (Zk : yK) (ca : Nat → ClassId) (T : Nat → Int → Int) (E : Nat → Int → Int) (am : Nat → Nat) (w : yW) (hM : MW ca T E am w) (o : Int) (number : Int) (what : Int)  (ho : xr o) (hnumber : xr number) (hwhat : xr what) : yC l D Zk ca yX12_liked cX12_liked 10 (some .int) r_c_X12_liked_e [.ref (am 0), .int (iI o), .int (iI number), .int (iI what)] w (vI w (fun z => xr z ∧ LKD T o number what z)) := by
  refine yC.of2 "WindWordsModel" (by decide) rfl (Nat.le_of_ble_eq_true rfl) ?_
  intro p e s m args below meth c A ls Qf B hnm h hl hQ
  have hl : lv_has ls 10 [(0, .ref (am 0)), (1, .int (iI o)), (2, .int (iI number)), (3, .int (iI what))] := hl
  have hs := pi_s (MW.pi hM)
  have hpe := pe_0 (MW.pe hM)
  refine lv_aload_n B.1 B.2.1 dX12_liked_0 rfl (lv_at hl 0 rfl) ?_
  refine lv_iload_n B.1 B.2.1 dX12_liked_1 rfl (lv_at hl 1 rfl) ?_
  refine y_cV B h kX12 50 (MW.f hM 0 _ rfl) k_X12_isOfficer rfl (c_X12_isOfficer l D Zk ca T E am _ hM o  (by omega)) m_1518 rfl (by decide) hl.1 [] (Nat.le_of_ble_eq_true rfl) rfl dX12_liked_2 (fun r w1 hq H locs h => ?_)
  obtain ⟨rfl, _, rfl, ⟨rfl, b1⟩ | ⟨rfl, b1⟩⟩ := hq
  · show W p l e r_c_X12_liked_e s m args below meth c _ _ 0 0 Qf (F0 m 5 ls [.int (iI 1)])
    refine x_if_eq B (by omega) (tgt := 27) dX12_liked_5 (by decide) (fun c2 => ?_) (fun c2 => ?_)
    · exact absurd c2 (by omega)
    · refine lv_iload_n B.1 B.2.1 dX12_liked_8 rfl (lv_at hl 2 rfl) ?_
      refine x_iconst B dX12_liked_9 ?_
      refine x_bipush B (by decide) dX12_liked_10 ?_
      refine y_cS B h k_X12_within (c_X12_within l D Zk ca _ number 1 11  (by omega) (by omega) (by omega)) m_1515 rfl (by decide) hl.1 [] (Nat.le_of_ble_eq_true rfl) rfl dX12_liked_12 (fun r w1 hq H locs h => ?_)
      obtain ⟨rfl, _, rfl, ⟨rfl, b3⟩ | ⟨rfl, b3⟩⟩ := hq
      · show W p l e r_c_X12_liked_e s m args below meth c _ _ 0 0 Qf (F0 m 15 ls [.int (iI 1)])
        refine x_if_eq B (by omega) (tgt := 27) dX12_liked_15 (by decide) (fun c4 => ?_) (fun c4 => ?_)
        · exact absurd c4 (by omega)
        · refine lv_iload_n B.1 B.2.1 dX12_liked_18 rfl (lv_at hl 3 rfl) ?_
          refine x_iconst B dX12_liked_19 ?_
          refine x_iconst B dX12_liked_20 ?_
          refine y_cS B h k_X12_within (c_X12_within l D Zk ca _ what 0 3  (by omega) (by omega) (by omega)) m_1515 rfl (by decide) hl.1 [] (Nat.le_of_ble_eq_true rfl) rfl dX12_liked_21 (fun r w1 hq H locs h => ?_)
          obtain ⟨rfl, _, rfl, ⟨rfl, b5⟩ | ⟨rfl, b5⟩⟩ := hq
          · show W p l e r_c_X12_liked_e s m args below meth c _ _ 0 0 Qf (F0 m 24 ls [.int (iI 1)])
            refine x_if_ne B (by omega) (tgt := 31) dX12_liked_24 (by decide) (fun c6 => ?_) (fun c6 => ?_)
            · refine lv_aload_n B.1 B.2.1 dX12_liked_31 rfl (lv_at hl 0 rfl) ?_
              refine lv_iload_n B.1 B.2.1 dX12_liked_32 rfl (lv_at hl 1 rfl) ?_
              refine lv_iload_n B.1 B.2.1 dX12_liked_33 rfl (lv_at hl 2 rfl) ?_
              refine y_cV B h kX12 50 (MW.f hM 0 _ rfl) k_X12_withNumber rfl (c_X12_withNumber_e l D Zk ca T E am _ hM o number  (by omega) (by omega)) m_1779 rfl (by decide) hl.1 [] (Nat.le_of_ble_eq_true rfl) rfl dX12_liked_34 (fun r w1 hq H locs h => ?_)
              obtain ⟨rfl, za, rfl, hza⟩ := hq
              show W p l e r_c_X12_liked_e s m args below meth c _ _ 0 0 Qf (F0 m 37 ls [.int (iI za)])
              refine lv_istore (lv' := [(4, .int (iI za)), (0, .ref (am 0)), (1, .int (iI o)), (2, .int (iI number)), (3, .int (iI what))]) B.1 B.2.1 dX12_liked_37 hl (by decide) rfl (fun ls hl => ?_)
              refine lv_aload_n B.1 B.2.1 dX12_liked_39 rfl (lv_at hl 1 rfl) ?_
              refine lv_iload_n B.1 B.2.1 dX12_liked_40 rfl (lv_at hl 2 rfl) ?_
              refine lv_iload_n B.1 B.2.1 dX12_liked_41 rfl (lv_at hl 3 rfl) ?_
              refine x_iconst B dX12_liked_42 ?_
              refine x_isub B dX12_liked_43 ?_
              refine y_cV B h kX12 50 (MW.f hM 0 _ rfl) k_X12_withNumber rfl (c_X12_withNumber_e l D Zk ca T E am _ hM o ((number - 1))  (by omega) (by omega)) m_1779 rfl (by decide) hl.1 [] (Nat.le_of_ble_eq_true rfl) rfl dX12_liked_44 (fun r w1 hq H locs h => ?_)
              obtain ⟨rfl, zb, rfl, hzb⟩ := hq
              show W p l e r_c_X12_liked_e s m args below meth c _ _ 0 0 Qf (F0 m 47 ls [.int (iI zb)])
              refine lv_aload_n B.1 B.2.1 dX12_liked_47 rfl (lv_at hl 1 rfl) ?_
              refine lv_iload_n B.1 B.2.1 dX12_liked_48 rfl (lv_at hl 2 rfl) ?_
              refine lv_iload_n B.1 B.2.1 dX12_liked_49 rfl (lv_at hl 3 rfl) ?_
              refine x_iconst B dX12_liked_50 ?_
              refine x_iadd B dX12_liked_51 ?_
              refine y_cV B h kX12 50 (MW.f hM 0 _ rfl) k_X12_withNumber rfl (c_X12_withNumber_e l D Zk ca T E am _ hM o ((number + 1))  (by omega) (by omega)) m_1779 rfl (by decide) hl.1 [.int (iI zb)] (Nat.le_of_ble_eq_true rfl) rfl dX12_liked_52 (fun r w1 hq H locs h => ?_)
              obtain ⟨rfl, zc, rfl, hzc⟩ := hq
              show W p l e r_c_X12_liked_e s m args below meth c _ _ 0 0 Qf (F0 m 55 ls [.int (iI zc), .int (iI zb)])
              refine x_iadd B dX12_liked_55 ?_
              refine lv_istore (lv' := [(5, .int (iI (zb + zc))), (4, .int (iI za)), (0, .ref (am 0)), (1, .int (iI o)), (2, .int (iI number)), (3, .int (iI what))]) B.1 B.2.1 dX12_liked_56 hl (by decide) rfl (fun ls hl => ?_)
              refine lv_iload_n B.1 B.2.1 dX12_liked_58 rfl (lv_at hl 5 rfl) ?_
              refine x_iconst B dX12_liked_59 ?_
              refine x_icmp_ge B (by omega) (tgt := 75) dX12_liked_60 (by decide) (fun c10 => ?_) (fun c10 => ?_)
              · refine lv_iload_n B.1 B.2.1 dX12_liked_75 rfl (lv_at hl 5 rfl) ?_
                refine x_iconst B dX12_liked_76 ?_
                refine x_icmp_ne B (by omega) (tgt := 106) dX12_liked_77 (by decide) (fun c11 => ?_) (fun c11 => ?_)
                · refine lv_aload_n B.1 B.2.1 dX12_liked_106 rfl (lv_at hl 2 rfl) ?_
                  refine lv_iload_n B.1 B.2.1 dX12_liked_107 rfl (lv_at hl 3 rfl) ?_
                  refine x_iconst B dX12_liked_108 ?_
                  refine y_cV B h kX12 50 (MW.f hM 0 _ rfl) k_X12_withNumber rfl (c_X12_withNumber_e l D Zk ca T E am _ hM o ((-1))  (by omega) (by omega)) m_1779 rfl (by decide) hl.1 [] (Nat.le_of_ble_eq_true rfl) rfl dX12_liked_109 (fun r w1 hq H locs h => ?_)
                  obtain ⟨rfl, zd, rfl, hzd⟩ := hq
                  show W p l e r_c_X12_liked_e s m args below meth c _ _ 0 0 Qf (F0 m 112 ls [.int (iI zd)])
                  refine lv_istore (lv' := [(6, .int (iI zd)), (5, .int (iI (zb + zc))), (4, .int (iI za)), (0, .ref (am 0)), (1, .int (iI o)), (2, .int (iI number)), (3, .int (iI what))]) B.1 B.2.1 dX12_liked_112 hl (by decide) rfl (fun ls hl => ?_)
                  refine lv_iload B.1 B.2.1 dX12_liked_114 (lv_at hl 2 rfl) ?_
                  refine x_if_gt B (by omega) (tgt := 124) dX12_liked_116 (by decide) (fun c13 => ?_) (fun c13 => ?_)
                  · refine x_iconst B dX12_liked_124 ?_
                    refine y_ri B hQ h (by decide) dX12_liked_125 ?_
                    have hK : LKC T o number what := ⟨by omega, by omega, by omega⟩
                    exact ⟨rfl, _, rfl, by omega, Or.inr ⟨hK, by first | exact Or.inl ⟨by omega, by omega⟩ | exact Or.inr (Or.inl ⟨by omega, by omega⟩) | exact Or.inr (Or.inr (Or.inl ⟨by omega, by unfold LK2; omega⟩)) | exact Or.inr (Or.inr (Or.inr ⟨by omega, Or.inl ⟨by omega, by omega⟩⟩))⟩⟩
                  · refine lv_iload B.1 B.2.1 dX12_liked_119 (lv_at hl 0 rfl) ?_
                    refine x_if_ne B (by omega) (tgt := 126) dX12_liked_121 (by decide) (fun c14 => ?_) (fun c14 => ?_)
                    · refine x_ldc2 B m_1783 dX12_liked_126 ?_
                      refine lv_lstore (lv' := [(7, .long ((1000000000 : Int64))), (6, .int (iI zd)), (5, .int (iI (zb + zc))), (4, .int (iI za)), (0, .ref (am 0)), (1, .int (iI o)), (2, .int (iI number)), (3, .int (iI what))]) B.1 B.2.1 dX12_liked_129 hl (by decide) rfl (fun ls hl => ?_)
                      refine x_iconst B dX12_liked_131 ?_
                      refine lv_istore (lv' := [(9, .int (iI 0)), (7, .long ((1000000000 : Int64))), (6, .int (iI zd)), (5, .int (iI (zb + zc))), (4, .int (iI za)), (0, .ref (am 0)), (1, .int (iI o)), (2, .int (iI number)), (3, .int (iI what))]) B.1 B.2.1 dX12_liked_132 hl (by decide) rfl (fun ls hl => ?_)
                      have loop134 : ∀ (n134 : Nat) (v_ : Int64) (k : Int), (0 ≤ k ∧ k ≤ zd) → (v_ = odf (2 * zd - (zb + zc)) (2 * zd) k.toNat) → ((300 - k : Int)).toNat < n134 → ∀ (H : Heap) (locs : List Loc) (ls : Array Slot), yH D Zk A s w H locs → lv_has ls 10 [(9, .int (iI k)), (7, .long (v_)), (6, .int (iI zd)), (5, .int (iI (zb + zc)))] → W p l e r_c_X12_liked_e s m args below meth c H locs 0 0 Qf (F0 m 134 ls []) := by
                        intro n134
                        induction n134 with
                        | zero =>
                          intro v_ k h1 h2 hm134 H locs ls h hl
                          exact absurd hm134 (Nat.not_lt_zero _)
                        | succ n134 ih134 =>
                          intro v_ k h1 h2 hm134 H locs ls h hl
                          refine lv_iload B.1 B.2.1 dX12_liked_134 (lv_at hl 0 rfl) ?_
                          refine lv_iload B.1 B.2.1 dX12_liked_136 (lv_at hl 2 rfl) ?_
                          refine x_icmp_ge B (by omega) (tgt := 166) dX12_liked_138 (by decide) (fun c15 => ?_) (fun c15 => ?_)
                          · refine lv_lload B.1 B.2.1 dX12_liked_166 (lv_at hl 1 rfl) ?_
                            refine lv_l2i B.1 B.2.1 dX12_liked_168 rfl ?_
                            refine x_name (fun z16 hz16 ez16 => ?_)
                            refine y_ri B hQ h (by decide) dX12_liked_169 ?_
                            have hK : LKC T o number what := ⟨by omega, by omega, by omega⟩
                            have e9 : k = zd := by omega
                            rw [e9] at h2
                            have u2 : zb + zc = NNO T o (number - 1) + NNO T o (number + 1) := by omega
                            have u3 : zd = NNO T o (-1) := by omega
                            refine ⟨rfl, _, rfl, by omega, Or.inr ⟨hK, Or.inr (Or.inr (Or.inr ⟨by omega, Or.inr ⟨by omega, by omega, ?_⟩⟩))⟩⟩
                            rw [← u2, ← u3, ← h2]
                            exact ez16.symm
                          · refine lv_lload B.1 B.2.1 dX12_liked_141 (lv_at hl 1 rfl) ?_
                            refine x_iconst B dX12_liked_143 ?_
                            refine lv_iload B.1 B.2.1 dX12_liked_144 (lv_at hl 2 rfl) ?_
                            refine x_imul B dX12_liked_146 ?_
                            refine lv_iload B.1 B.2.1 dX12_liked_147 (lv_at hl 3 rfl) ?_
                            refine x_isub B dX12_liked_149 ?_
                            refine lv_i2l B.1 B.2.1 dX12_liked_150 rfl ?_
                            refine lv_lmul B.1 B.2.1 dX12_liked_151 ?_
                            refine x_iconst B dX12_liked_152 ?_
                            refine lv_iload B.1 B.2.1 dX12_liked_153 (lv_at hl 2 rfl) ?_
                            refine x_imul B dX12_liked_155 ?_
                            refine lv_i2l B.1 B.2.1 dX12_liked_156 rfl ?_
                            refine lv_ldiv B.1 B.2.1 dX12_liked_157 (i2l_ne (by omega)) ?_
                            refine lv_lstore (lv' := [(7, .long (((v_ * (iI ((2 * zd) - (zb + zc))).toInt64) / (iI (2 * zd)).toInt64))), (9, .int (iI k)), (6, .int (iI zd)), (5, .int (iI (zb + zc)))]) B.1 B.2.1 dX12_liked_158 hl (by decide) rfl (fun ls hl => ?_)
                            refine lv_iinc (v := iI (k + 1)) (lv' := [(9, .int (iI (k + 1))), (7, .long (((v_ * (iI ((2 * zd) - (zb + zc))).toInt64) / (iI (2 * zd)).toInt64))), (6, .int (iI zd)), (5, .int (iI (zb + zc)))]) B.1 B.2.1 dX12_liked_160 hl (k := 1) rfl (iI_add _ _) (by decide) rfl (fun ls hl => ?_)
                            refine lv_goto (tgt := 134) B.1 B.2.1 dX12_liked_163 (by decide) ?_
                            exact ih134 (((v_ * (iI ((2 * zd) - (zb + zc))).toInt64) / (iI (2 * zd)).toInt64)) ((k + 1)) (by omega) (by rw [odf_next (by omega), ← h2]) (by omega) _ _ _ h (lv_sub hl [0, 1, 2, 3] rfl)
                      exact loop134 (((300 - 0 : Int)).toNat + 1) ((1000000000 : Int64)) 0 (by omega) rfl (Nat.lt_succ_self _) _ _ _ h (lv_sub hl [0, 1, 2, 3] rfl)
                    · refine x_iconst B dX12_liked_124 ?_
                      refine y_ri B hQ h (by decide) dX12_liked_125 ?_
                      have hK : LKC T o number what := ⟨by omega, by omega, by omega⟩
                      exact ⟨rfl, _, rfl, by omega, Or.inr ⟨hK, by first | exact Or.inl ⟨by omega, by omega⟩ | exact Or.inr (Or.inl ⟨by omega, by omega⟩) | exact Or.inr (Or.inr (Or.inl ⟨by omega, by unfold LK2; omega⟩)) | exact Or.inr (Or.inr (Or.inr ⟨by omega, Or.inl ⟨by omega, by omega⟩⟩))⟩⟩
                · refine x_iconst B dX12_liked_80 ?_
                  refine lv_iload B.1 B.2.1 dX12_liked_81 (lv_at hl 1 rfl) ?_
                  refine x_imul B dX12_liked_83 ?_
                  refine lv_iload B.1 B.2.1 dX12_liked_84 (lv_at hl 0 rfl) ?_
                  refine x_icmp_ge B (by omega) (tgt := 93) dX12_liked_86 (by decide) (fun c17 => ?_) (fun c17 => ?_)
                  · refine lv_iload B.1 B.2.1 dX12_liked_93 (lv_at hl 1 rfl) ?_
                    refine lv_iload B.1 B.2.1 dX12_liked_95 (lv_at hl 0 rfl) ?_
                    refine x_icmp_le B (by omega) (tgt := 104) dX12_liked_97 (by decide) (fun c18 => ?_) (fun c18 => ?_)
                    · refine x_iconst B dX12_liked_104 ?_
                      refine y_ri B hQ h (by decide) dX12_liked_105 ?_
                      have hK : LKC T o number what := ⟨by omega, by omega, by omega⟩
                      exact ⟨rfl, _, rfl, by omega, Or.inr ⟨hK, by first | exact Or.inl ⟨by omega, by omega⟩ | exact Or.inr (Or.inl ⟨by omega, by omega⟩) | exact Or.inr (Or.inr (Or.inl ⟨by omega, by unfold LK2; omega⟩)) | exact Or.inr (Or.inr (Or.inr ⟨by omega, Or.inl ⟨by omega, by omega⟩⟩))⟩⟩
                    · refine x_iconst B dX12_liked_100 ?_
                      refine lv_goto (tgt := 105) B.1 B.2.1 dX12_liked_101 (by decide) ?_
                      refine y_ri B hQ h (by decide) dX12_liked_105 ?_
                      have hK : LKC T o number what := ⟨by omega, by omega, by omega⟩
                      exact ⟨rfl, _, rfl, by omega, Or.inr ⟨hK, by first | exact Or.inl ⟨by omega, by omega⟩ | exact Or.inr (Or.inl ⟨by omega, by omega⟩) | exact Or.inr (Or.inr (Or.inl ⟨by omega, by unfold LK2; omega⟩)) | exact Or.inr (Or.inr (Or.inr ⟨by omega, Or.inl ⟨by omega, by omega⟩⟩))⟩⟩
                  · refine x_iconst B dX12_liked_89 ?_
                    refine lv_goto (tgt := 105) B.1 B.2.1 dX12_liked_90 (by decide) ?_
                    refine y_ri B hQ h (by decide) dX12_liked_105 ?_
                    have hK : LKC T o number what := ⟨by omega, by omega, by omega⟩
                    exact ⟨rfl, _, rfl, by omega, Or.inr ⟨hK, by first | exact Or.inl ⟨by omega, by omega⟩ | exact Or.inr (Or.inl ⟨by omega, by omega⟩) | exact Or.inr (Or.inr (Or.inl ⟨by omega, by unfold LK2; omega⟩)) | exact Or.inr (Or.inr (Or.inr ⟨by omega, Or.inl ⟨by omega, by omega⟩⟩))⟩⟩
              · refine lv_iload_n B.1 B.2.1 dX12_liked_63 rfl (lv_at hl 5 rfl) ?_
                refine x_if_ne B (by omega) (tgt := 72) dX12_liked_64 (by decide) (fun c19 => ?_) (fun c19 => ?_)
                · refine lv_iload B.1 B.2.1 dX12_liked_72 (lv_at hl 0 rfl) ?_
                  refine y_ri B hQ h (by decide) dX12_liked_74 ?_
                  have hK : LKC T o number what := ⟨by omega, by omega, by omega⟩
                  exact ⟨rfl, _, rfl, by omega, Or.inr ⟨hK, by first | exact Or.inl ⟨by omega, by omega⟩ | exact Or.inr (Or.inl ⟨by omega, by omega⟩) | exact Or.inr (Or.inr (Or.inl ⟨by omega, by unfold LK2; omega⟩)) | exact Or.inr (Or.inr (Or.inr ⟨by omega, Or.inl ⟨by omega, by omega⟩⟩))⟩⟩
                · refine lv_iload B.1 B.2.1 dX12_liked_67 (lv_at hl 1 rfl) ?_
                  refine lv_goto (tgt := 74) B.1 B.2.1 dX12_liked_69 (by decide) ?_
                  refine y_ri B hQ h (by decide) dX12_liked_74 ?_
                  have hK : LKC T o number what := ⟨by omega, by omega, by omega⟩
                  exact ⟨rfl, _, rfl, by omega, Or.inr ⟨hK, by first | exact Or.inl ⟨by omega, by omega⟩ | exact Or.inr (Or.inl ⟨by omega, by omega⟩) | exact Or.inr (Or.inr (Or.inl ⟨by omega, by unfold LK2; omega⟩)) | exact Or.inr (Or.inr (Or.inr ⟨by omega, Or.inl ⟨by omega, by omega⟩⟩))⟩⟩
            · exact absurd c6 (by omega)
          · show W p l e r_c_X12_liked_e s m args below meth c _ _ 0 0 Qf (F0 m 24 ls [.int (iI 0)])
            refine x_if_ne B (by omega) (tgt := 31) dX12_liked_24 (by decide) (fun c20 => ?_) (fun c20 => ?_)
            · exact absurd c20 (by omega)
            · refine x_sipush B (by decide) dX12_liked_27 ?_
              refine y_ri B hQ h (by decide) dX12_liked_30 ?_
              exact ⟨rfl, _, rfl, by omega, Or.inl ⟨fun ⟨x, y, q⟩ => by omega, rfl⟩⟩
      · show W p l e r_c_X12_liked_e s m args below meth c _ _ 0 0 Qf (F0 m 15 ls [.int (iI 0)])
        refine x_if_eq B (by omega) (tgt := 27) dX12_liked_15 (by decide) (fun c21 => ?_) (fun c21 => ?_)
        · refine x_sipush B (by decide) dX12_liked_27 ?_
          refine y_ri B hQ h (by decide) dX12_liked_30 ?_
          exact ⟨rfl, _, rfl, by omega, Or.inl ⟨fun ⟨x, y, q⟩ => by omega, rfl⟩⟩
        · exact absurd c21 (by omega)
  · show W p l e r_c_X12_liked_e s m args below meth c _ _ 0 0 Qf (F0 m 5 ls [.int (iI 0)])
    refine x_if_eq B (by omega) (tgt := 27) dX12_liked_5 (by decide) (fun c22 => ?_) (fun c22 => ?_)
    · refine x_sipush B (by decide) dX12_liked_27 ?_
      refine y_ri B hQ h (by decide) dX12_liked_30 ?_
      exact ⟨rfl, _, rfl, by omega, Or.inl ⟨fun ⟨x, y, q⟩ => by omega, rfl⟩⟩
    · exact absurd c22 (by omega)
