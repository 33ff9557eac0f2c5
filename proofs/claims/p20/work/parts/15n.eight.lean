/-! ===== couples of a man's reading and a cup ===== -/
noncomputable def dsum (f : Int → Int) : Nat → Int
  | 0 => 0
  | n + 1 => dsum f n + f (n : Int)
theorem dsum_next {f : Int → Int} {k n : Int} (hk : 0 ≤ k) (h : n = dsum f k.toNat + f k) : n = dsum f (k + 1).toNat := by
  rw [show (k + 1).toNat = k.toNat + 1 by omega]
  show n = dsum f k.toNat + f ((k.toNat : Nat) : Int)
  rw [Int.toNat_of_nonneg hk]; exact h
theorem dsum_congr {f g : Int → Int} : ∀ n : Nat, (∀ k : Int, 0 ≤ k ∧ k < n → f k = g k) → dsum f n = dsum g n
  | 0, _ => rfl
  | n + 1, h => by
    have a := dsum_congr n (fun k hk => h k (by omega))
    show dsum f n + f (n : Int) = dsum g n + g (n : Int)
    rw [a, h (n : Int) (by omega)]
theorem cntp_congr {P Q : Int → Prop} : ∀ n : Nat, (∀ k : Int, 0 ≤ k ∧ k < n → (P k ↔ Q k)) → cntp P n = cntp Q n
  | 0, _ => rfl
  | n + 1, h => by
    have a := cntp_congr n (fun k hk => h k (by omega))
    have b := h (n : Int) (by omega)
    show cntp P n + @ite Int (P (n : Int)) (Classical.propDecidable _) 1 0 = cntp Q n + @ite Int (Q (n : Int)) (Classical.propDecidable _) 1 0
    rw [a]
    by_cases q : P (n : Int)
    · rw [if_pos q, if_pos (b.mp q)]
    · rw [if_neg q, if_neg (fun x => q (b.mpr x))]
theorem cntp_none {P : Int → Prop} : ∀ n : Nat, (∀ k : Int, ¬ P k) → cntp P n = 0
  | 0, _ => rfl
  | n + 1, h => by
    show cntp P n + @ite Int (P (n : Int)) (Classical.propDecidable _) 1 0 = 0
    rw [cntp_none n h, if_neg (h _)]; rfl
theorem cntp_ins {P : Int → Prop} {s0 : Int} (h0 : 0 ≤ s0) (hn : ¬ P s0) : ∀ n : Nat, cntp (fun s => P s ∨ s = s0) n = cntp P n + (if s0 < (n : Int) then 1 else 0)
  | 0 => by rw [if_neg (by omega)]; rfl
  | n + 1 => by
    have a := cntp_ins h0 hn n
    show cntp (fun s => P s ∨ s = s0) n + @ite Int (P (n : Int) ∨ (n : Int) = s0) (Classical.propDecidable _) 1 0 = cntp P n + @ite Int (P (n : Int)) (Classical.propDecidable _) 1 0 + (if s0 < ((n + 1 : Nat) : Int) then 1 else 0)
    rw [a]
    by_cases e : (n : Int) = s0
    · rw [if_neg (show ¬ s0 < (n : Int) by omega), if_pos (Or.inr e), if_neg (by rw [e]; exact hn), if_pos (by omega)]; (try omega)
    · by_cases q : P (n : Int)
      · rw [if_pos (Or.inl q), if_pos q]
        by_cases r : s0 < (n : Int)
        · rw [if_pos r, if_pos (by omega)]; (try omega)
        · rw [if_neg r, if_neg (by omega)]; (try omega)
      · rw [if_neg (show ¬ (P (n : Int) ∨ (n : Int) = s0) from fun x => x.elim q e), if_neg q]
        by_cases r : s0 < (n : Int)
        · rw [if_pos r, if_pos (by omega)]; (try omega)
        · rw [if_neg r, if_neg (by omega)]; (try omega)
theorem cnt_bij {f : Int → Int} {Q : Int → Prop} {S : Nat} : ∀ n : Nat, (∀ j : Int, 0 ≤ j ∧ j < n → Q j → 0 ≤ f j ∧ f j < S) → (∀ i j : Int, 0 ≤ i ∧ i < n → 0 ≤ j ∧ j < n → Q i → Q j → f i = f j → i = j) → cntp (fun s => ∃ j : Int, (0 ≤ j ∧ j < n) ∧ f j = s ∧ Q j) S = cntp Q n
  | 0, _, _ => cntp_none S (fun k ⟨j, hj, _⟩ => absurd hj (by omega))
  | n + 1, h1, h2 => by
    have a := cnt_bij (f := f) (Q := Q) (S := S) n (fun j hj => h1 j (by omega)) (fun i j hi hj => h2 i j (by omega) (by omega))
    show _ = cntp Q n + @ite Int (Q (n : Int)) (Classical.propDecidable _) 1 0
    rw [← a]
    by_cases q : Q (n : Int)
    · rw [if_pos q]
      have b := h1 (n : Int) (by omega) q
      have c := cntp_ins (P := fun s => ∃ j : Int, (0 ≤ j ∧ j < n) ∧ f j = s ∧ Q j) (s0 := f n) b.1 (fun ⟨j, hj, e, r⟩ => by have := h2 j n (by omega) (by omega) r q e; omega) S
      rw [if_pos b.2] at c
      rw [← c]
      refine cntp_congr S (fun s _ => ⟨fun ⟨j, hj, e, r⟩ => ?_, fun x => ?_⟩)
      · by_cases w : j = n
        · subst w; exact Or.inr e.symm
        · exact Or.inl ⟨j, by omega, e, r⟩
      · rcases x with ⟨j, hj, e, r⟩ | e
        · exact ⟨j, by omega, e, r⟩
        · exact ⟨n, by omega, e.symm, q⟩
    · rw [if_neg q, Int.add_zero]
      refine cntp_congr S (fun s _ => ⟨fun ⟨j, hj, e, r⟩ => ?_, fun ⟨j, hj, e, r⟩ => ⟨j, by omega, e, r⟩⟩)
      by_cases w : j = n
      · subst w; exact absurd r q
      · exact ⟨j, by omega, e, r⟩
theorem cadd_next {P : Int → Prop} {d k n n' : Int} (hk : 0 ≤ k) (h : n = d + cntp P k.toNat) (hn : (P k ∧ n' = n + 1) ∨ (¬ P k ∧ n' = n)) : n' = d + cntp P (k + 1).toNat := by
  have a := cntp_next (P := P) (n := cntp P k.toNat) (n' := n' - d) hk rfl (by rcases hn with ⟨a, b⟩ | ⟨a, b⟩; exact Or.inl ⟨a, by omega⟩; exact Or.inr ⟨a, by omega⟩)
  omega
abbrev ETT (_ _ : Int) : Prop := True
abbrev ELL (T : Nat → Int → Int) (line k _ : Int) : Prop := line ≤ T 8 k
abbrev EWW (T : Nat → Int → Int) (wind _ j : Int) : Prop := wind ≤ T 8 j
def CUPE (T : Nat → Int → Int) (R : Int → Int → Prop) (k j : Int) : Prop := T 7 k ≠ 3 ∧ T 7 j = 3 ∧ SEE T k j ∧ R k j
def SHE (T : Nat → Int → Int) (R : Int → Int → Prop) (k s : Int) : Prop := ∃ j : Int, (0 ≤ j ∧ j < T 0 2) ∧ T 4 j = s ∧ CUPE T R k j
noncomputable def DSM (T : Nat → Int → Int) (R : Int → Int → Prop) : Int := dsum (fun k => cntp (CUPE T R k) (T 0 2).toNat) (T 0 2).toNat
theorem DSM_c {T : Nat → Int → Int} {R : Int → Int → Prop} (hp : PI T) : dsum (fun k => cntp (SHE T R k) (T 0 1).toNat) (T 0 2).toNat = DSM T R := by
  have hs := pi_s hp
  refine dsum_congr _ (fun k hk => ?_)
  have a := cnt_bij (f := T 4) (Q := CUPE T R k) (S := (T 0 1).toNat) (T 0 2).toNat (fun j hj _ => by have := pi_4 hp j; have := pi_in hp j (by omega); omega) (fun i j hi hj qi qj e => pi_un hp (by omega) (by omega) e (qi.2.2.1.1.trans qj.2.2.1.1.symm))
  rw [← a]
  refine cntp_congr _ (fun s _ => ⟨fun ⟨j, hj, e, r⟩ => ⟨j, by omega, e, r⟩, fun ⟨j, hj, e, r⟩ => ⟨j, by omega, e, r⟩⟩)
theorem mul_xr {c d : Int} (hc : 0 ≤ c ∧ c ≤ 9999) (hd : -90000 ≤ d ∧ d ≤ 90000) : xr (c * d) := by
  have h1 : c * d ≤ c * 90000 := Int.mul_le_mul_of_nonneg_left hd.2 hc.1
  have h2 : c * (-90000) ≤ c * d := Int.mul_le_mul_of_nonneg_left hd.1 hc.1
  omega
def EGC (line wind coin what : Int) : Prop := (0 ≤ line ∧ line ≤ 12) ∧ (0 ≤ wind ∧ wind ≤ 99) ∧ (0 ≤ coin ∧ coin ≤ 9999) ∧ 0 ≤ what ∧ what ≤ 3
def EGT (T : Nat → Int → Int) (line wind coin what z : Int) : Prop := (¬ EGC line wind coin what ∧ z = -1000000000) ∨ (EGC line wind coin what ∧ ((what = 0 ∧ z = DSM T ETT) ∨ (what = 1 ∧ z = DSM T (ELL T line)) ∨ (what = 2 ∧ z = DSM T (EWW T wind)) ∨ (what = 3 ∧ z = coin * (DSM T (ELL T line) - DSM T (EWW T wind)))))
theorem EGT_eq {T : Nat → Int → Int} {line wind coin what z z' : Int} (h : xr z ∧ EGT T line wind coin what z) (h2 : xr z' ∧ EGT T line wind coin what z') : z = z' := by
  obtain ⟨-, h⟩ := h
  obtain ⟨-, h2⟩ := h2
  rcases h with ⟨a, e⟩ | ⟨a, ⟨w, e⟩ | ⟨w, e⟩ | ⟨w, e⟩ | ⟨w, e⟩⟩ <;> rcases h2 with ⟨a', e'⟩ | ⟨a', ⟨w', e'⟩ | ⟨w', e'⟩ | ⟨w', e'⟩ | ⟨w', e'⟩⟩ <;> first | exact e.trans e'.symm | exact absurd a' a | exact absurd a a' | (exfalso; omega)


abbrev r_c_X11_eight_e : Room := { frames := 4, cells := 0, slots := 0, locals := 89 }
set_option maxHeartbeats 4000000 in
set_option maxRecDepth 100000 in
theorem c_X11_eight_e (l : Launch) (D : va_G) (Zk : yK) (ca : Nat → ClassId) (T : Nat → Int → Int) (G : Nat → Int → Nat) (u : Int) (ad : Nat → Nat) (w : yW) (hC : CW ca T G u ad w) (line : Int) (wind : Int) (coin : Int) (what : Int)  (hline : xr line) (hwind : xr wind) (hcoin : xr coin) (hwhat : xr what) : yC l D Zk ca yX11_eight cX11_eight 12 (some .int) r_c_X11_eight_e [.ref (ad 0), .int (iI line), .int (iI wind), .int (iI coin), .int (iI what)] w (vI w (fun z => xr z ∧ EGT T line wind coin what z)) := by
  refine yC.of2 "WindWords" (by decide) rfl (Nat.le_of_ble_eq_true rfl) ?_
  intro p e s m args below meth c A ls Qf B hnm h hl hQ
  have hl : lv_has ls 12 [(0, .ref (ad 0)), (1, .int (iI line)), (2, .int (iI wind)), (3, .int (iI coin)), (4, .int (iI what))] := hl
  have hs := pi_s (CW.pi hC)
  refine lv_iload_n B.1 B.2.1 dX11_eight_0 rfl (lv_at hl 1 rfl) ?_
  refine x_bipush B (by decide) dX11_eight_1 ?_
  refine y_cS B h k_X11_within (c_X11_within l D Zk ca _ line 12  (by omega) (by omega)) m_431 rfl (by decide) hl.1 [] (Nat.le_of_ble_eq_true rfl) rfl dX11_eight_3 (fun r w1 hq H locs h => ?_)
  obtain ⟨rfl, _, rfl, ⟨rfl, b1⟩ | ⟨rfl, b1⟩⟩ := hq
  · show W p l e r_c_X11_eight_e s m args below meth c _ _ 0 0 Qf (F0 m 6 ls [.int (iI 1)])
    refine x_if_eq B (by omega) (tgt := 37) dX11_eight_6 (by decide) (fun c2 => ?_) (fun c2 => ?_)
    · exact absurd c2 (by omega)
    · refine lv_iload_n B.1 B.2.1 dX11_eight_9 rfl (lv_at hl 2 rfl) ?_
      refine x_bipush B (by decide) dX11_eight_10 ?_
      refine y_cS B h k_X11_within (c_X11_within l D Zk ca _ wind 99  (by omega) (by omega)) m_431 rfl (by decide) hl.1 [] (Nat.le_of_ble_eq_true rfl) rfl dX11_eight_12 (fun r w1 hq H locs h => ?_)
      obtain ⟨rfl, _, rfl, ⟨rfl, b3⟩ | ⟨rfl, b3⟩⟩ := hq
      · show W p l e r_c_X11_eight_e s m args below meth c _ _ 0 0 Qf (F0 m 15 ls [.int (iI 1)])
        refine x_if_eq B (by omega) (tgt := 37) dX11_eight_15 (by decide) (fun c4 => ?_) (fun c4 => ?_)
        · exact absurd c4 (by omega)
        · refine lv_iload_n B.1 B.2.1 dX11_eight_18 rfl (lv_at hl 3 rfl) ?_
          refine x_sipush B (by decide) dX11_eight_19 ?_
          refine y_cS B h k_X11_within (c_X11_within l D Zk ca _ coin 9999  (by omega) (by omega)) m_431 rfl (by decide) hl.1 [] (Nat.le_of_ble_eq_true rfl) rfl dX11_eight_22 (fun r w1 hq H locs h => ?_)
          obtain ⟨rfl, _, rfl, ⟨rfl, b5⟩ | ⟨rfl, b5⟩⟩ := hq
          · show W p l e r_c_X11_eight_e s m args below meth c _ _ 0 0 Qf (F0 m 25 ls [.int (iI 1)])
            refine x_if_eq B (by omega) (tgt := 37) dX11_eight_25 (by decide) (fun c6 => ?_) (fun c6 => ?_)
            · exact absurd c6 (by omega)
            · refine lv_iload B.1 B.2.1 dX11_eight_28 (lv_at hl 4 rfl) ?_
              refine x_iconst B dX11_eight_30 ?_
              refine y_cS B h k_X11_within (c_X11_within l D Zk ca _ what 3  (by omega) (by omega)) m_431 rfl (by decide) hl.1 [] (Nat.le_of_ble_eq_true rfl) rfl dX11_eight_31 (fun r w1 hq H locs h => ?_)
              obtain ⟨rfl, _, rfl, ⟨rfl, b7⟩ | ⟨rfl, b7⟩⟩ := hq
              · show W p l e r_c_X11_eight_e s m args below meth c _ _ 0 0 Qf (F0 m 34 ls [.int (iI 1)])
                refine x_if_ne B (by omega) (tgt := 41) dX11_eight_34 (by decide) (fun c8 => ?_) (fun c8 => ?_)
                · refine x_iconst B dX11_eight_41 ?_
                  refine lv_istore (lv' := [(5, .int (iI 0)), (0, .ref (ad 0)), (1, .int (iI line)), (2, .int (iI wind)), (3, .int (iI coin)), (4, .int (iI what))]) B.1 B.2.1 dX11_eight_42 hl (by decide) rfl (fun ls hl => ?_)
                  refine x_iconst B dX11_eight_44 ?_
                  refine lv_istore (lv' := [(6, .int (iI 0)), (5, .int (iI 0)), (0, .ref (ad 0)), (1, .int (iI line)), (2, .int (iI wind)), (3, .int (iI coin)), (4, .int (iI what))]) B.1 B.2.1 dX11_eight_45 hl (by decide) rfl (fun ls hl => ?_)
                  refine x_iconst B dX11_eight_47 ?_
                  refine lv_istore (lv' := [(7, .int (iI 0)), (6, .int (iI 0)), (5, .int (iI 0)), (0, .ref (ad 0)), (1, .int (iI line)), (2, .int (iI wind)), (3, .int (iI coin)), (4, .int (iI what))]) B.1 B.2.1 dX11_eight_48 hl (by decide) rfl (fun ls hl => ?_)
                  refine x_iconst B dX11_eight_50 ?_
                  refine lv_istore (lv' := [(8, .int (iI 0)), (7, .int (iI 0)), (6, .int (iI 0)), (5, .int (iI 0)), (0, .ref (ad 0)), (1, .int (iI line)), (2, .int (iI wind)), (3, .int (iI coin)), (4, .int (iI what))]) B.1 B.2.1 dX11_eight_51 hl (by decide) rfl (fun ls hl => ?_)
                  have loop53 : ∀ (n53 : Nat) (cp : Int) (a : Int) (b : Int) (k : Int), (0 ≤ cp ∧ cp ≤ 12 * k) → (0 ≤ a ∧ a ≤ 12 * k) → (0 ≤ b ∧ b ≤ 12 * k) → (0 ≤ k ∧ k ≤ T 0 2) → (cp = dsum (fun k9 => cntp (SHE T ETT k9) (T 0 1).toNat) k.toNat) → (a = dsum (fun k9 => cntp (SHE T (ELL T line) k9) (T 0 1).toNat) k.toNat) → (b = dsum (fun k9 => cntp (SHE T (EWW T wind) k9) (T 0 1).toNat) k.toNat) → ((300 - k : Int)).toNat < n53 → ∀ (H : Heap) (locs : List Loc) (ls : Array Slot), yH D Zk A s w H locs → lv_has ls 12 [(8, .int (iI k)), (7, .int (iI b)), (6, .int (iI a)), (5, .int (iI cp)), (0, .ref (ad 0)), (1, .int (iI line)), (2, .int (iI wind)), (3, .int (iI coin)), (4, .int (iI what))] → W p l e r_c_X11_eight_e s m args below meth c H locs 0 0 Qf (F0 m 53 ls []) := by
                    intro n53
                    induction n53 with
                    | zero =>
                      intro cp a b k h0 h1 h2 h3 g0 g1 g2 hm53 H locs ls h hl
                      exact absurd hm53 (Nat.not_lt_zero _)
                    | succ n53 ih53 =>
                      intro cp a b k h0 h1 h2 h3 g0 g1 g2 hm53 H locs ls h hl
                      refine lv_iload B.1 B.2.1 dX11_eight_53 (lv_at hl 0 rfl) ?_
                      refine lv_aload_n B.1 B.2.1 dX11_eight_55 rfl (lv_at hl 4 rfl) ?_
                      refine y_getR B h kX11 0 (CW.f hC 0 _ rfl) 0 (b := ad 1) rfl m_361 (by decide) dX11_eight_56 ?_
                      refine y_getX B h kX0 1 (CW.f hC 1 _ rfl) 5 (z := (T 0 2)) rfl m_149 (by decide) dX11_eight_59 ?_
                      refine x_icmp_ge B (by omega) (tgt := 167) dX11_eight_62 (by decide) (fun c9 => ?_) (fun c9 => ?_)
                      · refine lv_iload B.1 B.2.1 dX11_eight_167 (lv_at hl 8 rfl) ?_
                        by_cases t10 : what = 0
                        · refine x_tin B (tgt := 196) 0 (by omega) dX11_eight_169 rfl (by decide) ?_
                          refine lv_iload B.1 B.2.1 dX11_eight_196 (lv_at hl 3 rfl) ?_
                          refine y_ri B hQ h (by decide) dX11_eight_198 ?_
                          have e9 : k = T 0 2 := by omega
                          rw [e9] at g0 g1 g2
                          have d0 : cp = DSM T ETT := g0.trans (DSM_c (CW.pi hC))
                          have d1 : a = DSM T (ELL T line) := g1.trans (DSM_c (CW.pi hC))
                          have d2 : b = DSM T (EWW T wind) := g2.trans (DSM_c (CW.pi hC))
                          have hE : EGC line wind coin what := ⟨by omega, by omega, by omega, by omega⟩
                          exact ⟨rfl, _, rfl, by omega, Or.inr ⟨hE, Or.inl ⟨by omega, d0⟩⟩⟩
                        by_cases t11 : what = 1
                        · refine x_tin B (tgt := 199) 1 (by omega) dX11_eight_169 rfl (by decide) ?_
                          refine lv_iload B.1 B.2.1 dX11_eight_199 (lv_at hl 2 rfl) ?_
                          refine y_ri B hQ h (by decide) dX11_eight_201 ?_
                          have e9 : k = T 0 2 := by omega
                          rw [e9] at g0 g1 g2
                          have d0 : cp = DSM T ETT := g0.trans (DSM_c (CW.pi hC))
                          have d1 : a = DSM T (ELL T line) := g1.trans (DSM_c (CW.pi hC))
                          have d2 : b = DSM T (EWW T wind) := g2.trans (DSM_c (CW.pi hC))
                          have hE : EGC line wind coin what := ⟨by omega, by omega, by omega, by omega⟩
                          exact ⟨rfl, _, rfl, by omega, Or.inr ⟨hE, Or.inr (Or.inl ⟨by omega, d1⟩)⟩⟩
                        by_cases t12 : what = 2
                        · refine x_tin B (tgt := 202) 2 (by omega) dX11_eight_169 rfl (by decide) ?_
                          refine lv_iload B.1 B.2.1 dX11_eight_202 (lv_at hl 1 rfl) ?_
                          refine y_ri B hQ h (by decide) dX11_eight_204 ?_
                          have e9 : k = T 0 2 := by omega
                          rw [e9] at g0 g1 g2
                          have d0 : cp = DSM T ETT := g0.trans (DSM_c (CW.pi hC))
                          have d1 : a = DSM T (ELL T line) := g1.trans (DSM_c (CW.pi hC))
                          have d2 : b = DSM T (EWW T wind) := g2.trans (DSM_c (CW.pi hC))
                          have hE : EGC line wind coin what := ⟨by omega, by omega, by omega, by omega⟩
                          exact ⟨rfl, _, rfl, by omega, Or.inr ⟨hE, Or.inr (Or.inr (Or.inl ⟨by omega, d2⟩))⟩⟩
                        refine x_tout B (tgt := 205) (by omega) dX11_eight_169 (by decide) ?_
                        refine lv_iload_n B.1 B.2.1 dX11_eight_205 rfl (lv_at hl 7 rfl) ?_
                        refine lv_iload B.1 B.2.1 dX11_eight_206 (lv_at hl 2 rfl) ?_
                        refine lv_iload B.1 B.2.1 dX11_eight_208 (lv_at hl 1 rfl) ?_
                        refine x_isub B dX11_eight_210 ?_
                        refine x_imul B dX11_eight_211 ?_
                        refine y_ri B hQ h (by decide) dX11_eight_212 ?_
                        have e9 : k = T 0 2 := by omega
                        rw [e9] at g0 g1 g2
                        have d0 : cp = DSM T ETT := g0.trans (DSM_c (CW.pi hC))
                        have d1 : a = DSM T (ELL T line) := g1.trans (DSM_c (CW.pi hC))
                        have d2 : b = DSM T (EWW T wind) := g2.trans (DSM_c (CW.pi hC))
                        have hE : EGC line wind coin what := ⟨by omega, by omega, by omega, by omega⟩
                        exact ⟨rfl, _, rfl, mul_xr (by omega) (by omega), Or.inr ⟨hE, Or.inr (Or.inr (Or.inr ⟨by omega, by rw [d1, d2]⟩))⟩⟩
                      · refine lv_aload_n B.1 B.2.1 dX11_eight_65 rfl (lv_at hl 4 rfl) ?_
                        refine y_getR B h kX11 0 (CW.f hC 0 _ rfl) 0 (b := ad 1) rfl m_361 (by decide) dX11_eight_66 ?_
                        refine lv_iload B.1 B.2.1 dX11_eight_69 (lv_at hl 0 rfl) ?_
                        refine y_cV B h kX0 1 (CW.f hC 1 _ rfl) k_X0_mansAt rfl (c_X0_mansAt l D Zk ca T G u ad _ hC k  (by omega)) m_1050 rfl (by decide) hl.1 [] (Nat.le_of_ble_eq_true rfl) rfl dX11_eight_71 (fun r w1 hq H locs h => ?_)
                        obtain ⟨rfl, _, rfl, ⟨rfl, cmz9⟩ | ⟨rfl, cmz9⟩⟩ := hq
                        · show W p l e r_c_X11_eight_e s m args below meth c _ _ 0 0 Qf (F0 m 74 ls [.null])
                          refine lv_astoreN (lv' := [(9, .null), (8, .int (iI k)), (7, .int (iI b)), (6, .int (iI a)), (5, .int (iI cp)), (0, .ref (ad 0)), (1, .int (iI line)), (2, .int (iI wind)), (3, .int (iI coin)), (4, .int (iI what))]) B.1 B.2.1 dX11_eight_74 hl (by decide) rfl (fun ls hl => ?_)
                          refine x_iconst B dX11_eight_76 ?_
                          refine lv_istore (lv' := [(10, .int (iI 0)), (9, .null), (8, .int (iI k)), (7, .int (iI b)), (6, .int (iI a)), (5, .int (iI cp)), (0, .ref (ad 0)), (1, .int (iI line)), (2, .int (iI wind)), (3, .int (iI coin)), (4, .int (iI what))]) B.1 B.2.1 dX11_eight_77 hl (by decide) rfl (fun ls hl => ?_)
                          have loop79 : ∀ (n79 : Nat) (cp : Int) (a : Int) (b : Int) (v : Int), (0 ≤ cp ∧ cp ≤ 12 * k + v) → (0 ≤ a ∧ a ≤ 12 * k + v) → (0 ≤ b ∧ b ≤ 12 * k + v) → (0 ≤ v ∧ v ≤ T 0 1) → (cp = dsum (fun k9 => cntp (SHE T ETT k9) (T 0 1).toNat) k.toNat + cntp (SHE T ETT k) v.toNat) → (a = dsum (fun k9 => cntp (SHE T (ELL T line) k9) (T 0 1).toNat) k.toNat + cntp (SHE T (ELL T line) k) v.toNat) → (b = dsum (fun k9 => cntp (SHE T (EWW T wind) k9) (T 0 1).toNat) k.toNat + cntp (SHE T (EWW T wind) k) v.toNat) → ((12 - v : Int)).toNat < n79 → ∀ (H : Heap) (locs : List Loc) (ls : Array Slot), yH D Zk A s w H locs → lv_has ls 12 [(10, .int (iI v)), (9, .null), (8, .int (iI k)), (7, .int (iI b)), (6, .int (iI a)), (5, .int (iI cp)), (0, .ref (ad 0)), (1, .int (iI line)), (2, .int (iI wind)), (3, .int (iI coin)), (4, .int (iI what))] → W p l e r_c_X11_eight_e s m args below meth c H locs 0 0 Qf (F0 m 79 ls []) := by
                            intro n79
                            induction n79 with
                            | zero =>
                              intro cp a b v k0 k1 k2 k3 f0 f1 f2 hm79 H locs ls h hl
                              exact absurd hm79 (Nat.not_lt_zero _)
                            | succ n79 ih79 =>
                              intro cp a b v k0 k1 k2 k3 f0 f1 f2 hm79 H locs ls h hl
                              refine lv_iload B.1 B.2.1 dX11_eight_79 (lv_at hl 0 rfl) ?_
                              refine lv_aload_n B.1 B.2.1 dX11_eight_81 rfl (lv_at hl 6 rfl) ?_
                              refine y_getR B h kX11 0 (CW.f hC 0 _ rfl) 0 (b := ad 1) rfl m_361 (by decide) dX11_eight_82 ?_
                              refine y_getX B h kX0 1 (CW.f hC 1 _ rfl) 4 (z := (T 0 1)) rfl m_143 (by decide) dX11_eight_85 ?_
                              refine x_icmp_ge B (by omega) (tgt := 161) dX11_eight_88 (by decide) (fun c14 => ?_) (fun c14 => ?_)
                              · refine lv_iinc (v := iI (k + 1)) (lv' := [(8, .int (iI (k + 1))), (10, .int (iI v)), (9, .null), (7, .int (iI b)), (6, .int (iI a)), (5, .int (iI cp)), (0, .ref (ad 0)), (1, .int (iI line)), (2, .int (iI wind)), (3, .int (iI coin)), (4, .int (iI what))]) B.1 B.2.1 dX11_eight_161 hl (k := 2) rfl (iI_add _ _) (by decide) rfl (fun ls hl => ?_)
                                refine lv_goto (tgt := 53) B.1 B.2.1 dX11_eight_164 (by decide) ?_
                                exact ih53 cp a b ((k + 1)) (by omega) (by omega) (by omega) (by omega) (dsum_next (by omega) (by rw [show v = T 0 1 by omega] at f0; exact f0)) (dsum_next (by omega) (by rw [show v = T 0 1 by omega] at f1; exact f1)) (dsum_next (by omega) (by rw [show v = T 0 1 by omega] at f2; exact f2)) (by omega) _ _ _ h (lv_sub hl [0, 3, 4, 5, 6, 7, 8, 9, 10] rfl)
                              · refine lv_aload_n B.1 B.2.1 dX11_eight_91 rfl (lv_at hl 6 rfl) ?_
                                refine y_getR B h kX11 0 (CW.f hC 0 _ rfl) 0 (b := ad 1) rfl m_361 (by decide) dX11_eight_92 ?_
                                refine lv_aloadN B.1 B.2.1 dX11_eight_95 (lv_at hl 1 rfl) ?_
                                refine lv_iload B.1 B.2.1 dX11_eight_97 (lv_at hl 0 rfl) ?_
                                refine y_cV B h kX0 1 (CW.f hC 1 _ rfl) k_X0_cupBeside rfl (c_X0_cupBeside_N l D Zk ca T G u ad _ hC v  (by omega)) m_1155 rfl (by decide) hl.1 [] (Nat.le_of_ble_eq_true rfl) rfl dX11_eight_99 (fun r w1 hq H locs h => ?_)
                                obtain ⟨rfl, _, rfl, rfl⟩ := hq
                                show W p l e r_c_X11_eight_e s m args below meth c _ _ 0 0 Qf (F0 m 102 ls [.null])
                                refine lv_astoreN (lv' := [(11, .null), (10, .int (iI v)), (9, .null), (8, .int (iI k)), (7, .int (iI b)), (6, .int (iI a)), (5, .int (iI cp)), (0, .ref (ad 0)), (1, .int (iI line)), (2, .int (iI wind)), (3, .int (iI coin)), (4, .int (iI what))]) B.1 B.2.1 dX11_eight_102 hl (by decide) rfl (fun ls hl => ?_)
                                refine lv_aloadN B.1 B.2.1 dX11_eight_104 (lv_at hl 2 rfl) ?_
                                refine lv_ifnullN (tgt := 155) B.1 B.2.1 dX11_eight_106 (by decide) ?_
                                refine lv_iinc (v := iI (v + 1)) (lv' := [(10, .int (iI (v + 1))), (11, .null), (9, .null), (8, .int (iI k)), (7, .int (iI b)), (6, .int (iI a)), (5, .int (iI cp)), (0, .ref (ad 0)), (1, .int (iI line)), (2, .int (iI wind)), (3, .int (iI coin)), (4, .int (iI what))]) B.1 B.2.1 dX11_eight_155 hl (k := 1) rfl (iI_add _ _) (by decide) rfl (fun ls hl => ?_)
                                refine lv_goto (tgt := 79) B.1 B.2.1 dX11_eight_158 (by decide) ?_
                                exact ih79 cp a b ((v + 1)) (by omega) (by omega) (by omega) (by omega) (cadd_next (by omega) f0 (Or.inr ⟨fun ⟨x, hx, h4, q7, q3, cs, cr⟩ => by first | omega | exact cqz9 x hx ⟨h4, cs, q3⟩ | (have e9 : x = jqz9 := pi_un (CW.pi hC) hx cqz9.1 (by omega) (by omega); subst e9; omega), by omega⟩)) (cadd_next (by omega) f1 (Or.inr ⟨fun ⟨x, hx, h4, q7, q3, cs, cr⟩ => by first | omega | exact cqz9 x hx ⟨h4, cs, q3⟩ | (have e9 : x = jqz9 := pi_un (CW.pi hC) hx cqz9.1 (by omega) (by omega); subst e9; omega), by omega⟩)) (cadd_next (by omega) f2 (Or.inr ⟨fun ⟨x, hx, h4, q7, q3, cs, cr⟩ => by first | omega | exact cqz9 x hx ⟨h4, cs, q3⟩ | (have e9 : x = jqz9 := pi_un (CW.pi hC) hx cqz9.1 (by omega) (by omega); subst e9; omega), by omega⟩)) (by omega) _ _ _ h (lv_sub hl [0, 2, 3, 4, 5, 6, 7, 8, 9, 10, 11] rfl)
                          exact loop79 (((12 - 0 : Int)).toNat + 1) cp a b 0 (by omega) (by omega) (by omega) (by omega) (by rw [← g0]; exact (Int.add_zero _).symm) (by rw [← g1]; exact (Int.add_zero _).symm) (by rw [← g2]; exact (Int.add_zero _).symm) (Nat.lt_succ_self _) _ _ _ h (lv_sub hl [0, 1, 2, 3, 4, 5, 6, 7, 8, 9, 10] rfl)
                        · have fo15 := CW.rd hC k (by omega)
                          show W p l e r_c_X11_eight_e s m args below meth c _ _ 0 0 Qf (F0 m 74 ls [.ref (G 4 k)])
                          refine lv_astore (lv' := [(9, .ref (G 4 k)), (8, .int (iI k)), (7, .int (iI b)), (6, .int (iI a)), (5, .int (iI cp)), (0, .ref (ad 0)), (1, .int (iI line)), (2, .int (iI wind)), (3, .int (iI coin)), (4, .int (iI what))]) B.1 B.2.1 dX11_eight_74 hl (by decide) rfl (fun ls hl => ?_)
                          refine x_iconst B dX11_eight_76 ?_
                          refine lv_istore (lv' := [(10, .int (iI 0)), (9, .ref (G 4 k)), (8, .int (iI k)), (7, .int (iI b)), (6, .int (iI a)), (5, .int (iI cp)), (0, .ref (ad 0)), (1, .int (iI line)), (2, .int (iI wind)), (3, .int (iI coin)), (4, .int (iI what))]) B.1 B.2.1 dX11_eight_77 hl (by decide) rfl (fun ls hl => ?_)
                          have loop79 : ∀ (n79 : Nat) (cp : Int) (a : Int) (b : Int) (v : Int), (0 ≤ cp ∧ cp ≤ 12 * k + v) → (0 ≤ a ∧ a ≤ 12 * k + v) → (0 ≤ b ∧ b ≤ 12 * k + v) → (0 ≤ v ∧ v ≤ T 0 1) → (cp = dsum (fun k9 => cntp (SHE T ETT k9) (T 0 1).toNat) k.toNat + cntp (SHE T ETT k) v.toNat) → (a = dsum (fun k9 => cntp (SHE T (ELL T line) k9) (T 0 1).toNat) k.toNat + cntp (SHE T (ELL T line) k) v.toNat) → (b = dsum (fun k9 => cntp (SHE T (EWW T wind) k9) (T 0 1).toNat) k.toNat + cntp (SHE T (EWW T wind) k) v.toNat) → ((12 - v : Int)).toNat < n79 → ∀ (H : Heap) (locs : List Loc) (ls : Array Slot), yH D Zk A s w H locs → lv_has ls 12 [(10, .int (iI v)), (9, .ref (G 4 k)), (8, .int (iI k)), (7, .int (iI b)), (6, .int (iI a)), (5, .int (iI cp)), (0, .ref (ad 0)), (1, .int (iI line)), (2, .int (iI wind)), (3, .int (iI coin)), (4, .int (iI what))] → W p l e r_c_X11_eight_e s m args below meth c H locs 0 0 Qf (F0 m 79 ls []) := by
                            intro n79
                            induction n79 with
                            | zero =>
                              intro cp a b v k0 k1 k2 k3 f0 f1 f2 hm79 H locs ls h hl
                              exact absurd hm79 (Nat.not_lt_zero _)
                            | succ n79 ih79 =>
                              intro cp a b v k0 k1 k2 k3 f0 f1 f2 hm79 H locs ls h hl
                              refine lv_iload B.1 B.2.1 dX11_eight_79 (lv_at hl 0 rfl) ?_
                              refine lv_aload_n B.1 B.2.1 dX11_eight_81 rfl (lv_at hl 6 rfl) ?_
                              refine y_getR B h kX11 0 (CW.f hC 0 _ rfl) 0 (b := ad 1) rfl m_361 (by decide) dX11_eight_82 ?_
                              refine y_getX B h kX0 1 (CW.f hC 1 _ rfl) 4 (z := (T 0 1)) rfl m_143 (by decide) dX11_eight_85 ?_
                              refine x_icmp_ge B (by omega) (tgt := 161) dX11_eight_88 (by decide) (fun c16 => ?_) (fun c16 => ?_)
                              · refine lv_iinc (v := iI (k + 1)) (lv' := [(8, .int (iI (k + 1))), (10, .int (iI v)), (9, .ref (G 4 k)), (7, .int (iI b)), (6, .int (iI a)), (5, .int (iI cp)), (0, .ref (ad 0)), (1, .int (iI line)), (2, .int (iI wind)), (3, .int (iI coin)), (4, .int (iI what))]) B.1 B.2.1 dX11_eight_161 hl (k := 2) rfl (iI_add _ _) (by decide) rfl (fun ls hl => ?_)
                                refine lv_goto (tgt := 53) B.1 B.2.1 dX11_eight_164 (by decide) ?_
                                exact ih53 cp a b ((k + 1)) (by omega) (by omega) (by omega) (by omega) (dsum_next (by omega) (by rw [show v = T 0 1 by omega] at f0; exact f0)) (dsum_next (by omega) (by rw [show v = T 0 1 by omega] at f1; exact f1)) (dsum_next (by omega) (by rw [show v = T 0 1 by omega] at f2; exact f2)) (by omega) _ _ _ h (lv_sub hl [0, 3, 4, 5, 6, 7, 8, 9, 10] rfl)
                              · refine lv_aload_n B.1 B.2.1 dX11_eight_91 rfl (lv_at hl 6 rfl) ?_
                                refine y_getR B h kX11 0 (CW.f hC 0 _ rfl) 0 (b := ad 1) rfl m_361 (by decide) dX11_eight_92 ?_
                                refine lv_aload B.1 B.2.1 dX11_eight_95 (lv_at hl 1 rfl) ?_
                                refine lv_iload B.1 B.2.1 dX11_eight_97 (lv_at hl 0 rfl) ?_
                                refine y_cV B h kX0 1 (CW.f hC 1 _ rfl) k_X0_cupBeside rfl (c_X0_cupBeside l D Zk ca T G u ad _ hC k v  (by omega) (by omega)) m_1155 rfl (by decide) hl.1 [] (Nat.le_of_ble_eq_true rfl) rfl dX11_eight_99 (fun r w1 hq H locs h => ?_)
                                obtain ⟨rfl, _, rfl, ⟨rfl, cqz9⟩ | ⟨jqz9, rfl, cqz9⟩⟩ := hq
                                · show W p l e r_c_X11_eight_e s m args below meth c _ _ 0 0 Qf (F0 m 102 ls [.null])
                                  refine lv_astoreN (lv' := [(11, .null), (10, .int (iI v)), (9, .ref (G 4 k)), (8, .int (iI k)), (7, .int (iI b)), (6, .int (iI a)), (5, .int (iI cp)), (0, .ref (ad 0)), (1, .int (iI line)), (2, .int (iI wind)), (3, .int (iI coin)), (4, .int (iI what))]) B.1 B.2.1 dX11_eight_102 hl (by decide) rfl (fun ls hl => ?_)
                                  refine lv_aload B.1 B.2.1 dX11_eight_104 (lv_at hl 2 rfl) ?_
                                  refine lv_ifnull B.1 B.2.1 dX11_eight_106 ?_
                                  refine lv_aloadN B.1 B.2.1 dX11_eight_109 (lv_at hl 0 rfl) ?_
                                  refine lv_ifnullN (tgt := 155) B.1 B.2.1 dX11_eight_111 (by decide) ?_
                                  refine lv_iinc (v := iI (v + 1)) (lv' := [(10, .int (iI (v + 1))), (11, .null), (9, .ref (G 4 k)), (8, .int (iI k)), (7, .int (iI b)), (6, .int (iI a)), (5, .int (iI cp)), (0, .ref (ad 0)), (1, .int (iI line)), (2, .int (iI wind)), (3, .int (iI coin)), (4, .int (iI what))]) B.1 B.2.1 dX11_eight_155 hl (k := 1) rfl (iI_add _ _) (by decide) rfl (fun ls hl => ?_)
                                  refine lv_goto (tgt := 79) B.1 B.2.1 dX11_eight_158 (by decide) ?_
                                  exact ih79 cp a b ((v + 1)) (by omega) (by omega) (by omega) (by omega) (cadd_next (by omega) f0 (Or.inr ⟨fun ⟨x, hx, h4, q7, q3, cs, cr⟩ => by first | omega | exact cqz9 x hx ⟨h4, cs, q3⟩ | (have e9 : x = jqz9 := pi_un (CW.pi hC) hx cqz9.1 (by omega) (by omega); subst e9; omega), by omega⟩)) (cadd_next (by omega) f1 (Or.inr ⟨fun ⟨x, hx, h4, q7, q3, cs, cr⟩ => by first | omega | exact cqz9 x hx ⟨h4, cs, q3⟩ | (have e9 : x = jqz9 := pi_un (CW.pi hC) hx cqz9.1 (by omega) (by omega); subst e9; omega), by omega⟩)) (cadd_next (by omega) f2 (Or.inr ⟨fun ⟨x, hx, h4, q7, q3, cs, cr⟩ => by first | omega | exact cqz9 x hx ⟨h4, cs, q3⟩ | (have e9 : x = jqz9 := pi_un (CW.pi hC) hx cqz9.1 (by omega) (by omega); subst e9; omega), by omega⟩)) (by omega) _ _ _ h (lv_sub hl [0, 2, 3, 4, 5, 6, 7, 8, 9, 10, 11] rfl)
                                · have fo19 := CW.rd hC jqz9 (by omega)
                                  show W p l e r_c_X11_eight_e s m args below meth c _ _ 0 0 Qf (F0 m 102 ls [.ref (G 4 jqz9)])
                                  refine lv_astore (lv' := [(11, .ref (G 4 jqz9)), (10, .int (iI v)), (9, .ref (G 4 k)), (8, .int (iI k)), (7, .int (iI b)), (6, .int (iI a)), (5, .int (iI cp)), (0, .ref (ad 0)), (1, .int (iI line)), (2, .int (iI wind)), (3, .int (iI coin)), (4, .int (iI what))]) B.1 B.2.1 dX11_eight_102 hl (by decide) rfl (fun ls hl => ?_)
                                  refine lv_aload B.1 B.2.1 dX11_eight_104 (lv_at hl 2 rfl) ?_
                                  refine lv_ifnull B.1 B.2.1 dX11_eight_106 ?_
                                  refine lv_aload B.1 B.2.1 dX11_eight_109 (lv_at hl 0 rfl) ?_
                                  refine lv_ifnull B.1 B.2.1 dX11_eight_111 ?_
                                  refine lv_iinc (v := iI (cp + 1)) (lv' := [(5, .int (iI (cp + 1))), (11, .ref (G 4 jqz9)), (10, .int (iI v)), (9, .ref (G 4 k)), (8, .int (iI k)), (7, .int (iI b)), (6, .int (iI a)), (0, .ref (ad 0)), (1, .int (iI line)), (2, .int (iI wind)), (3, .int (iI coin)), (4, .int (iI what))]) B.1 B.2.1 dX11_eight_114 hl (k := 6) rfl (iI_add _ _) (by decide) rfl (fun ls hl => ?_)
                                  refine lv_iload B.1 B.2.1 dX11_eight_117 (lv_at hl 6 rfl) ?_
                                  refine lv_aload B.1 B.2.1 dX11_eight_119 (lv_at hl 3 rfl) ?_
                                  refine y_getX B h kX4 (1000 + 16 * k.toNat + 4) fo15 4 (z := (T 8 k)) rfl m_532 (by decide) dX11_eight_121 ?_
                                  have tb20 := pi_8 (CW.pi hC) k
                                  have tb21 := pi_n (CW.pi hC) k
                                  refine lv_iload_n B.1 B.2.1 dX11_eight_124 rfl (lv_at hl 8 rfl) ?_
                                  refine x_icmp_lt B (by omega) (tgt := 132) dX11_eight_125 (by decide) (fun c22 => ?_) (fun c22 => ?_)
                                  · refine x_iconst B dX11_eight_132 ?_
                                    refine x_iadd B dX11_eight_133 ?_
                                    refine lv_istore (lv' := [(6, .int (iI (a + 0))), (5, .int (iI (cp + 1))), (11, .ref (G 4 jqz9)), (10, .int (iI v)), (9, .ref (G 4 k)), (8, .int (iI k)), (7, .int (iI b)), (0, .ref (ad 0)), (1, .int (iI line)), (2, .int (iI wind)), (3, .int (iI coin)), (4, .int (iI what))]) B.1 B.2.1 dX11_eight_134 hl (by decide) rfl (fun ls hl => ?_)
                                    refine lv_iload B.1 B.2.1 dX11_eight_136 (lv_at hl 6 rfl) ?_
                                    refine lv_aload B.1 B.2.1 dX11_eight_138 (lv_at hl 2 rfl) ?_
                                    refine y_getX B h kX4 (1000 + 16 * jqz9.toNat + 4) fo19 4 (z := (T 8 jqz9)) rfl m_532 (by decide) dX11_eight_140 ?_
                                    have tb23 := pi_8 (CW.pi hC) jqz9
                                    have tb24 := pi_n (CW.pi hC) jqz9
                                    refine lv_iload_n B.1 B.2.1 dX11_eight_143 rfl (lv_at hl 9 rfl) ?_
                                    refine x_icmp_lt B (by omega) (tgt := 151) dX11_eight_144 (by decide) (fun c25 => ?_) (fun c25 => ?_)
                                    · refine x_iconst B dX11_eight_151 ?_
                                      refine x_iadd B dX11_eight_152 ?_
                                      refine lv_istore (lv' := [(7, .int (iI (b + 0))), (6, .int (iI (a + 0))), (5, .int (iI (cp + 1))), (11, .ref (G 4 jqz9)), (10, .int (iI v)), (9, .ref (G 4 k)), (8, .int (iI k)), (0, .ref (ad 0)), (1, .int (iI line)), (2, .int (iI wind)), (3, .int (iI coin)), (4, .int (iI what))]) B.1 B.2.1 dX11_eight_153 hl (by decide) rfl (fun ls hl => ?_)
                                      refine lv_iinc (v := iI (v + 1)) (lv' := [(10, .int (iI (v + 1))), (7, .int (iI (b + 0))), (6, .int (iI (a + 0))), (5, .int (iI (cp + 1))), (11, .ref (G 4 jqz9)), (9, .ref (G 4 k)), (8, .int (iI k)), (0, .ref (ad 0)), (1, .int (iI line)), (2, .int (iI wind)), (3, .int (iI coin)), (4, .int (iI what))]) B.1 B.2.1 dX11_eight_155 hl (k := 4) rfl (iI_add _ _) (by decide) rfl (fun ls hl => ?_)
                                      refine lv_goto (tgt := 79) B.1 B.2.1 dX11_eight_158 (by decide) ?_
                                      exact ih79 ((cp + 1)) ((a + 0)) ((b + 0)) ((v + 1)) (by omega) (by omega) (by omega) (by omega) (cadd_next (by omega) f0 (Or.inl ⟨⟨jqz9, cqz9.1, cqz9.2.1, by omega, cqz9.2.2.2, cqz9.2.2.1, by first | trivial | omega⟩, by omega⟩)) (cadd_next (by omega) f1 (Or.inr ⟨fun ⟨x, hx, h4, q7, q3, cs, cr⟩ => by first | omega | exact cqz9 x hx ⟨h4, cs, q3⟩ | (have e9 : x = jqz9 := pi_un (CW.pi hC) hx cqz9.1 (by omega) (by omega); subst e9; omega), by omega⟩)) (cadd_next (by omega) f2 (Or.inr ⟨fun ⟨x, hx, h4, q7, q3, cs, cr⟩ => by first | omega | exact cqz9 x hx ⟨h4, cs, q3⟩ | (have e9 : x = jqz9 := pi_un (CW.pi hC) hx cqz9.1 (by omega) (by omega); subst e9; omega), by omega⟩)) (by omega) _ _ _ h (lv_sub hl [0, 5, 6, 1, 2, 3, 7, 8, 9, 10, 11] rfl)
                                    · refine x_iconst B dX11_eight_147 ?_
                                      refine lv_goto (tgt := 152) B.1 B.2.1 dX11_eight_148 (by decide) ?_
                                      refine x_iadd B dX11_eight_152 ?_
                                      refine lv_istore (lv' := [(7, .int (iI (b + 1))), (6, .int (iI (a + 0))), (5, .int (iI (cp + 1))), (11, .ref (G 4 jqz9)), (10, .int (iI v)), (9, .ref (G 4 k)), (8, .int (iI k)), (0, .ref (ad 0)), (1, .int (iI line)), (2, .int (iI wind)), (3, .int (iI coin)), (4, .int (iI what))]) B.1 B.2.1 dX11_eight_153 hl (by decide) rfl (fun ls hl => ?_)
                                      refine lv_iinc (v := iI (v + 1)) (lv' := [(10, .int (iI (v + 1))), (7, .int (iI (b + 1))), (6, .int (iI (a + 0))), (5, .int (iI (cp + 1))), (11, .ref (G 4 jqz9)), (9, .ref (G 4 k)), (8, .int (iI k)), (0, .ref (ad 0)), (1, .int (iI line)), (2, .int (iI wind)), (3, .int (iI coin)), (4, .int (iI what))]) B.1 B.2.1 dX11_eight_155 hl (k := 4) rfl (iI_add _ _) (by decide) rfl (fun ls hl => ?_)
                                      refine lv_goto (tgt := 79) B.1 B.2.1 dX11_eight_158 (by decide) ?_
                                      exact ih79 ((cp + 1)) ((a + 0)) ((b + 1)) ((v + 1)) (by omega) (by omega) (by omega) (by omega) (cadd_next (by omega) f0 (Or.inl ⟨⟨jqz9, cqz9.1, cqz9.2.1, by omega, cqz9.2.2.2, cqz9.2.2.1, by first | trivial | omega⟩, by omega⟩)) (cadd_next (by omega) f1 (Or.inr ⟨fun ⟨x, hx, h4, q7, q3, cs, cr⟩ => by first | omega | exact cqz9 x hx ⟨h4, cs, q3⟩ | (have e9 : x = jqz9 := pi_un (CW.pi hC) hx cqz9.1 (by omega) (by omega); subst e9; omega), by omega⟩)) (cadd_next (by omega) f2 (Or.inl ⟨⟨jqz9, cqz9.1, cqz9.2.1, by omega, cqz9.2.2.2, cqz9.2.2.1, by first | trivial | omega⟩, by omega⟩)) (by omega) _ _ _ h (lv_sub hl [0, 5, 6, 1, 2, 3, 7, 8, 9, 10, 11] rfl)
                                  · refine x_iconst B dX11_eight_128 ?_
                                    refine lv_goto (tgt := 133) B.1 B.2.1 dX11_eight_129 (by decide) ?_
                                    refine x_iadd B dX11_eight_133 ?_
                                    refine lv_istore (lv' := [(6, .int (iI (a + 1))), (5, .int (iI (cp + 1))), (11, .ref (G 4 jqz9)), (10, .int (iI v)), (9, .ref (G 4 k)), (8, .int (iI k)), (7, .int (iI b)), (0, .ref (ad 0)), (1, .int (iI line)), (2, .int (iI wind)), (3, .int (iI coin)), (4, .int (iI what))]) B.1 B.2.1 dX11_eight_134 hl (by decide) rfl (fun ls hl => ?_)
                                    refine lv_iload B.1 B.2.1 dX11_eight_136 (lv_at hl 6 rfl) ?_
                                    refine lv_aload B.1 B.2.1 dX11_eight_138 (lv_at hl 2 rfl) ?_
                                    refine y_getX B h kX4 (1000 + 16 * jqz9.toNat + 4) fo19 4 (z := (T 8 jqz9)) rfl m_532 (by decide) dX11_eight_140 ?_
                                    have tb26 := pi_8 (CW.pi hC) jqz9
                                    have tb27 := pi_n (CW.pi hC) jqz9
                                    refine lv_iload_n B.1 B.2.1 dX11_eight_143 rfl (lv_at hl 9 rfl) ?_
                                    refine x_icmp_lt B (by omega) (tgt := 151) dX11_eight_144 (by decide) (fun c28 => ?_) (fun c28 => ?_)
                                    · refine x_iconst B dX11_eight_151 ?_
                                      refine x_iadd B dX11_eight_152 ?_
                                      refine lv_istore (lv' := [(7, .int (iI (b + 0))), (6, .int (iI (a + 1))), (5, .int (iI (cp + 1))), (11, .ref (G 4 jqz9)), (10, .int (iI v)), (9, .ref (G 4 k)), (8, .int (iI k)), (0, .ref (ad 0)), (1, .int (iI line)), (2, .int (iI wind)), (3, .int (iI coin)), (4, .int (iI what))]) B.1 B.2.1 dX11_eight_153 hl (by decide) rfl (fun ls hl => ?_)
                                      refine lv_iinc (v := iI (v + 1)) (lv' := [(10, .int (iI (v + 1))), (7, .int (iI (b + 0))), (6, .int (iI (a + 1))), (5, .int (iI (cp + 1))), (11, .ref (G 4 jqz9)), (9, .ref (G 4 k)), (8, .int (iI k)), (0, .ref (ad 0)), (1, .int (iI line)), (2, .int (iI wind)), (3, .int (iI coin)), (4, .int (iI what))]) B.1 B.2.1 dX11_eight_155 hl (k := 4) rfl (iI_add _ _) (by decide) rfl (fun ls hl => ?_)
                                      refine lv_goto (tgt := 79) B.1 B.2.1 dX11_eight_158 (by decide) ?_
                                      exact ih79 ((cp + 1)) ((a + 1)) ((b + 0)) ((v + 1)) (by omega) (by omega) (by omega) (by omega) (cadd_next (by omega) f0 (Or.inl ⟨⟨jqz9, cqz9.1, cqz9.2.1, by omega, cqz9.2.2.2, cqz9.2.2.1, by first | trivial | omega⟩, by omega⟩)) (cadd_next (by omega) f1 (Or.inl ⟨⟨jqz9, cqz9.1, cqz9.2.1, by omega, cqz9.2.2.2, cqz9.2.2.1, by first | trivial | omega⟩, by omega⟩)) (cadd_next (by omega) f2 (Or.inr ⟨fun ⟨x, hx, h4, q7, q3, cs, cr⟩ => by first | omega | exact cqz9 x hx ⟨h4, cs, q3⟩ | (have e9 : x = jqz9 := pi_un (CW.pi hC) hx cqz9.1 (by omega) (by omega); subst e9; omega), by omega⟩)) (by omega) _ _ _ h (lv_sub hl [0, 5, 6, 1, 2, 3, 7, 8, 9, 10, 11] rfl)
                                    · refine x_iconst B dX11_eight_147 ?_
                                      refine lv_goto (tgt := 152) B.1 B.2.1 dX11_eight_148 (by decide) ?_
                                      refine x_iadd B dX11_eight_152 ?_
                                      refine lv_istore (lv' := [(7, .int (iI (b + 1))), (6, .int (iI (a + 1))), (5, .int (iI (cp + 1))), (11, .ref (G 4 jqz9)), (10, .int (iI v)), (9, .ref (G 4 k)), (8, .int (iI k)), (0, .ref (ad 0)), (1, .int (iI line)), (2, .int (iI wind)), (3, .int (iI coin)), (4, .int (iI what))]) B.1 B.2.1 dX11_eight_153 hl (by decide) rfl (fun ls hl => ?_)
                                      refine lv_iinc (v := iI (v + 1)) (lv' := [(10, .int (iI (v + 1))), (7, .int (iI (b + 1))), (6, .int (iI (a + 1))), (5, .int (iI (cp + 1))), (11, .ref (G 4 jqz9)), (9, .ref (G 4 k)), (8, .int (iI k)), (0, .ref (ad 0)), (1, .int (iI line)), (2, .int (iI wind)), (3, .int (iI coin)), (4, .int (iI what))]) B.1 B.2.1 dX11_eight_155 hl (k := 4) rfl (iI_add _ _) (by decide) rfl (fun ls hl => ?_)
                                      refine lv_goto (tgt := 79) B.1 B.2.1 dX11_eight_158 (by decide) ?_
                                      exact ih79 ((cp + 1)) ((a + 1)) ((b + 1)) ((v + 1)) (by omega) (by omega) (by omega) (by omega) (cadd_next (by omega) f0 (Or.inl ⟨⟨jqz9, cqz9.1, cqz9.2.1, by omega, cqz9.2.2.2, cqz9.2.2.1, by first | trivial | omega⟩, by omega⟩)) (cadd_next (by omega) f1 (Or.inl ⟨⟨jqz9, cqz9.1, cqz9.2.1, by omega, cqz9.2.2.2, cqz9.2.2.1, by first | trivial | omega⟩, by omega⟩)) (cadd_next (by omega) f2 (Or.inl ⟨⟨jqz9, cqz9.1, cqz9.2.1, by omega, cqz9.2.2.2, cqz9.2.2.1, by first | trivial | omega⟩, by omega⟩)) (by omega) _ _ _ h (lv_sub hl [0, 5, 6, 1, 2, 3, 7, 8, 9, 10, 11] rfl)
                          exact loop79 (((12 - 0 : Int)).toNat + 1) cp a b 0 (by omega) (by omega) (by omega) (by omega) (by rw [← g0]; exact (Int.add_zero _).symm) (by rw [← g1]; exact (Int.add_zero _).symm) (by rw [← g2]; exact (Int.add_zero _).symm) (Nat.lt_succ_self _) _ _ _ h (lv_sub hl [0, 1, 2, 3, 4, 5, 6, 7, 8, 9, 10] rfl)
                  exact loop53 (((300 - 0 : Int)).toNat + 1) 0 0 0 0 (by omega) (by omega) (by omega) (by omega) rfl rfl rfl (Nat.lt_succ_self _) _ _ _ h (lv_sub hl [0, 1, 2, 3, 4, 5, 6, 7, 8] rfl)
                · exact absurd c8 (by omega)
              · show W p l e r_c_X11_eight_e s m args below meth c _ _ 0 0 Qf (F0 m 34 ls [.int (iI 0)])
                refine x_if_ne B (by omega) (tgt := 41) dX11_eight_34 (by decide) (fun c29 => ?_) (fun c29 => ?_)
                · exact absurd c29 (by omega)
                · refine x_ldcw B (z := (-1000000000)) m_1154 (by decide) dX11_eight_37 ?_
                  refine y_ri B hQ h (by decide) dX11_eight_40 ?_
                  exact ⟨rfl, _, rfl, by omega, Or.inl ⟨fun ⟨x, y, q, r⟩ => by omega, rfl⟩⟩
          · show W p l e r_c_X11_eight_e s m args below meth c _ _ 0 0 Qf (F0 m 25 ls [.int (iI 0)])
            refine x_if_eq B (by omega) (tgt := 37) dX11_eight_25 (by decide) (fun c30 => ?_) (fun c30 => ?_)
            · refine x_ldcw B (z := (-1000000000)) m_1154 (by decide) dX11_eight_37 ?_
              refine y_ri B hQ h (by decide) dX11_eight_40 ?_
              exact ⟨rfl, _, rfl, by omega, Or.inl ⟨fun ⟨x, y, q, r⟩ => by omega, rfl⟩⟩
            · exact absurd c30 (by omega)
      · show W p l e r_c_X11_eight_e s m args below meth c _ _ 0 0 Qf (F0 m 15 ls [.int (iI 0)])
        refine x_if_eq B (by omega) (tgt := 37) dX11_eight_15 (by decide) (fun c31 => ?_) (fun c31 => ?_)
        · refine x_ldcw B (z := (-1000000000)) m_1154 (by decide) dX11_eight_37 ?_
          refine y_ri B hQ h (by decide) dX11_eight_40 ?_
          exact ⟨rfl, _, rfl, by omega, Or.inl ⟨fun ⟨x, y, q, r⟩ => by omega, rfl⟩⟩
        · exact absurd c31 (by omega)
  · show W p l e r_c_X11_eight_e s m args below meth c _ _ 0 0 Qf (F0 m 6 ls [.int (iI 0)])
    refine x_if_eq B (by omega) (tgt := 37) dX11_eight_6 (by decide) (fun c32 => ?_) (fun c32 => ?_)
    · refine x_ldcw B (z := (-1000000000)) m_1154 (by decide) dX11_eight_37 ?_
      refine y_ri B hQ h (by decide) dX11_eight_40 ?_
      exact ⟨rfl, _, rfl, by omega, Or.inl ⟨fun ⟨x, y, q, r⟩ => by omega, rfl⟩⟩
    · exact absurd c32 (by omega)
abbrev r_c_X12_eight_e : Room := { frames := 3, cells := 0, slots := 0, locals := 65 }
set_option maxHeartbeats 4000000 in
set_option maxRecDepth 100000 in
theorem c_X12_eight_e (l : Launch) (D : va_G) (Zk : yK) (ca : Nat → ClassId) (T : Nat → Int → Int) (E : Nat → Int → Int) (am : Nat → Nat) (w : yW) (hM : MW ca T E am w) (line : Int) (wind : Int) (coin : Int) (what : Int)  (hline : xr line) (hwind : xr wind) (hcoin : xr coin) (hwhat : xr what) : yC l D Zk ca yX12_eight cX12_eight 10 (some .int) r_c_X12_eight_e [.ref (am 0), .int (iI line), .int (iI wind), .int (iI coin), .int (iI what)] w (vI w (fun z => xr z ∧ EGT T line wind coin what z)) := by
  refine yC.of2 "WindWordsModel" (by decide) rfl (Nat.le_of_ble_eq_true rfl) ?_
  intro p e s m args below meth c A ls Qf B hnm h hl hQ
  have hl : lv_has ls 10 [(0, .ref (am 0)), (1, .int (iI line)), (2, .int (iI wind)), (3, .int (iI coin)), (4, .int (iI what))] := hl
  have hs := pi_s (MW.pi hM)
  have hpe := pe_0 (MW.pe hM)
  refine lv_iload_n B.1 B.2.1 dX12_eight_0 rfl (lv_at hl 1 rfl) ?_
  refine x_iconst B dX12_eight_1 ?_
  refine x_bipush B (by decide) dX12_eight_2 ?_
  refine y_cS B h k_X12_within (c_X12_within l D Zk ca _ line 0 12  (by omega) (by omega) (by omega)) m_1515 rfl (by decide) hl.1 [] (Nat.le_of_ble_eq_true rfl) rfl dX12_eight_4 (fun r w1 hq H locs h => ?_)
  obtain ⟨rfl, _, rfl, ⟨rfl, b1⟩ | ⟨rfl, b1⟩⟩ := hq
  · show W p l e r_c_X12_eight_e s m args below meth c _ _ 0 0 Qf (F0 m 7 ls [.int (iI 1)])
    refine x_if_eq B (by omega) (tgt := 41) dX12_eight_7 (by decide) (fun c2 => ?_) (fun c2 => ?_)
    · exact absurd c2 (by omega)
    · refine lv_iload_n B.1 B.2.1 dX12_eight_10 rfl (lv_at hl 2 rfl) ?_
      refine x_iconst B dX12_eight_11 ?_
      refine x_bipush B (by decide) dX12_eight_12 ?_
      refine y_cS B h k_X12_within (c_X12_within l D Zk ca _ wind 0 99  (by omega) (by omega) (by omega)) m_1515 rfl (by decide) hl.1 [] (Nat.le_of_ble_eq_true rfl) rfl dX12_eight_14 (fun r w1 hq H locs h => ?_)
      obtain ⟨rfl, _, rfl, ⟨rfl, b3⟩ | ⟨rfl, b3⟩⟩ := hq
      · show W p l e r_c_X12_eight_e s m args below meth c _ _ 0 0 Qf (F0 m 17 ls [.int (iI 1)])
        refine x_if_eq B (by omega) (tgt := 41) dX12_eight_17 (by decide) (fun c4 => ?_) (fun c4 => ?_)
        · exact absurd c4 (by omega)
        · refine lv_iload_n B.1 B.2.1 dX12_eight_20 rfl (lv_at hl 3 rfl) ?_
          refine x_iconst B dX12_eight_21 ?_
          refine x_sipush B (by decide) dX12_eight_22 ?_
          refine y_cS B h k_X12_within (c_X12_within l D Zk ca _ coin 0 9999  (by omega) (by omega) (by omega)) m_1515 rfl (by decide) hl.1 [] (Nat.le_of_ble_eq_true rfl) rfl dX12_eight_25 (fun r w1 hq H locs h => ?_)
          obtain ⟨rfl, _, rfl, ⟨rfl, b5⟩ | ⟨rfl, b5⟩⟩ := hq
          · show W p l e r_c_X12_eight_e s m args below meth c _ _ 0 0 Qf (F0 m 28 ls [.int (iI 1)])
            refine x_if_eq B (by omega) (tgt := 41) dX12_eight_28 (by decide) (fun c6 => ?_) (fun c6 => ?_)
            · exact absurd c6 (by omega)
            · refine lv_iload B.1 B.2.1 dX12_eight_31 (lv_at hl 4 rfl) ?_
              refine x_iconst B dX12_eight_33 ?_
              refine x_iconst B dX12_eight_34 ?_
              refine y_cS B h k_X12_within (c_X12_within l D Zk ca _ what 0 3  (by omega) (by omega) (by omega)) m_1515 rfl (by decide) hl.1 [] (Nat.le_of_ble_eq_true rfl) rfl dX12_eight_35 (fun r w1 hq H locs h => ?_)
              obtain ⟨rfl, _, rfl, ⟨rfl, b7⟩ | ⟨rfl, b7⟩⟩ := hq
              · show W p l e r_c_X12_eight_e s m args below meth c _ _ 0 0 Qf (F0 m 38 ls [.int (iI 1)])
                refine x_if_ne B (by omega) (tgt := 45) dX12_eight_38 (by decide) (fun c8 => ?_) (fun c8 => ?_)
                · refine x_iconst B dX12_eight_45 ?_
                  refine lv_istore (lv' := [(5, .int (iI 0)), (0, .ref (am 0)), (1, .int (iI line)), (2, .int (iI wind)), (3, .int (iI coin)), (4, .int (iI what))]) B.1 B.2.1 dX12_eight_46 hl (by decide) rfl (fun ls hl => ?_)
                  refine x_iconst B dX12_eight_48 ?_
                  refine lv_istore (lv' := [(6, .int (iI 0)), (5, .int (iI 0)), (0, .ref (am 0)), (1, .int (iI line)), (2, .int (iI wind)), (3, .int (iI coin)), (4, .int (iI what))]) B.1 B.2.1 dX12_eight_49 hl (by decide) rfl (fun ls hl => ?_)
                  refine x_iconst B dX12_eight_51 ?_
                  refine lv_istore (lv' := [(7, .int (iI 0)), (6, .int (iI 0)), (5, .int (iI 0)), (0, .ref (am 0)), (1, .int (iI line)), (2, .int (iI wind)), (3, .int (iI coin)), (4, .int (iI what))]) B.1 B.2.1 dX12_eight_52 hl (by decide) rfl (fun ls hl => ?_)
                  refine x_iconst B dX12_eight_54 ?_
                  refine lv_istore (lv' := [(8, .int (iI 0)), (7, .int (iI 0)), (6, .int (iI 0)), (5, .int (iI 0)), (0, .ref (am 0)), (1, .int (iI line)), (2, .int (iI wind)), (3, .int (iI coin)), (4, .int (iI what))]) B.1 B.2.1 dX12_eight_55 hl (by decide) rfl (fun ls hl => ?_)
                  have loop57 : ∀ (n57 : Nat) (cp : Int) (p_ : Int) (q_ : Int) (a : Int), (0 ≤ cp ∧ cp ≤ 300 * a) → (0 ≤ p_ ∧ p_ ≤ 300 * a) → (0 ≤ q_ ∧ q_ ≤ 300 * a) → (0 ≤ a ∧ a ≤ T 0 2) → (cp = dsum (fun k9 => cntp (CUPE T ETT k9) (T 0 2).toNat) a.toNat) → (p_ = dsum (fun k9 => cntp (CUPE T (ELL T line) k9) (T 0 2).toNat) a.toNat) → (q_ = dsum (fun k9 => cntp (CUPE T (EWW T wind) k9) (T 0 2).toNat) a.toNat) → ((300 - a : Int)).toNat < n57 → ∀ (H : Heap) (locs : List Loc) (ls : Array Slot), yH D Zk A s w H locs → lv_has ls 10 [(8, .int (iI a)), (7, .int (iI q_)), (6, .int (iI p_)), (5, .int (iI cp)), (0, .ref (am 0)), (1, .int (iI line)), (2, .int (iI wind)), (3, .int (iI coin)), (4, .int (iI what))] → W p l e r_c_X12_eight_e s m args below meth c H locs 0 0 Qf (F0 m 57 ls []) := by
                    intro n57
                    induction n57 with
                    | zero =>
                      intro cp p_ q_ a h0 h1 h2 h3 g0 g1 g2 hm57 H locs ls h hl
                      exact absurd hm57 (Nat.not_lt_zero _)
                    | succ n57 ih57 =>
                      intro cp p_ q_ a h0 h1 h2 h3 g0 g1 g2 hm57 H locs ls h hl
                      refine lv_iload B.1 B.2.1 dX12_eight_57 (lv_at hl 0 rfl) ?_
                      refine lv_aload_n B.1 B.2.1 dX12_eight_59 rfl (lv_at hl 4 rfl) ?_
                      refine y_getX B h kX12 50 (MW.f hM 0 _ rfl) 4 (z := (T 0 2)) rfl m_1265 (by decide) dX12_eight_60 ?_
                      refine x_icmp_ge B (by omega) (tgt := 167) dX12_eight_63 (by decide) (fun c9 => ?_) (fun c9 => ?_)
                      · refine lv_iload B.1 B.2.1 dX12_eight_167 (lv_at hl 8 rfl) ?_
                        refine x_if_ne B (by omega) (tgt := 177) dX12_eight_169 (by decide) (fun c10 => ?_) (fun c10 => ?_)
                        · refine lv_iload B.1 B.2.1 dX12_eight_177 (lv_at hl 8 rfl) ?_
                          refine x_iconst B dX12_eight_179 ?_
                          refine x_icmp_ne B (by omega) (tgt := 188) dX12_eight_180 (by decide) (fun c11 => ?_) (fun c11 => ?_)
                          · refine lv_iload B.1 B.2.1 dX12_eight_188 (lv_at hl 8 rfl) ?_
                            refine x_iconst B dX12_eight_190 ?_
                            refine x_icmp_ne B (by omega) (tgt := 199) dX12_eight_191 (by decide) (fun c12 => ?_) (fun c12 => ?_)
                            · refine lv_iload_n B.1 B.2.1 dX12_eight_199 rfl (lv_at hl 7 rfl) ?_
                              refine lv_iload B.1 B.2.1 dX12_eight_200 (lv_at hl 2 rfl) ?_
                              refine lv_iload B.1 B.2.1 dX12_eight_202 (lv_at hl 1 rfl) ?_
                              refine x_isub B dX12_eight_204 ?_
                              refine x_imul B dX12_eight_205 ?_
                              refine y_ri B hQ h (by decide) dX12_eight_206 ?_
                              have e9 : a = T 0 2 := by omega
                              rw [e9] at g0 g1 g2
                              have d0 : cp = DSM T ETT := g0
                              have d1 : p_ = DSM T (ELL T line) := g1
                              have d2 : q_ = DSM T (EWW T wind) := g2
                              have hE : EGC line wind coin what := ⟨by omega, by omega, by omega, by omega⟩
                              exact ⟨rfl, _, rfl, mul_xr (by omega) (by omega), Or.inr ⟨hE, Or.inr (Or.inr (Or.inr ⟨by omega, by rw [d1, d2]⟩))⟩⟩
                            · refine lv_iload B.1 B.2.1 dX12_eight_194 (lv_at hl 1 rfl) ?_
                              refine lv_goto (tgt := 206) B.1 B.2.1 dX12_eight_196 (by decide) ?_
                              refine y_ri B hQ h (by decide) dX12_eight_206 ?_
                              have e9 : a = T 0 2 := by omega
                              rw [e9] at g0 g1 g2
                              have d0 : cp = DSM T ETT := g0
                              have d1 : p_ = DSM T (ELL T line) := g1
                              have d2 : q_ = DSM T (EWW T wind) := g2
                              have hE : EGC line wind coin what := ⟨by omega, by omega, by omega, by omega⟩
                              exact ⟨rfl, _, rfl, by omega, Or.inr ⟨hE, Or.inr (Or.inr (Or.inl ⟨by omega, d2⟩))⟩⟩
                          · refine lv_iload B.1 B.2.1 dX12_eight_183 (lv_at hl 2 rfl) ?_
                            refine lv_goto (tgt := 206) B.1 B.2.1 dX12_eight_185 (by decide) ?_
                            refine y_ri B hQ h (by decide) dX12_eight_206 ?_
                            have e9 : a = T 0 2 := by omega
                            rw [e9] at g0 g1 g2
                            have d0 : cp = DSM T ETT := g0
                            have d1 : p_ = DSM T (ELL T line) := g1
                            have d2 : q_ = DSM T (EWW T wind) := g2
                            have hE : EGC line wind coin what := ⟨by omega, by omega, by omega, by omega⟩
                            exact ⟨rfl, _, rfl, by omega, Or.inr ⟨hE, Or.inr (Or.inl ⟨by omega, d1⟩)⟩⟩
                        · refine lv_iload B.1 B.2.1 dX12_eight_172 (lv_at hl 3 rfl) ?_
                          refine lv_goto (tgt := 206) B.1 B.2.1 dX12_eight_174 (by decide) ?_
                          refine y_ri B hQ h (by decide) dX12_eight_206 ?_
                          have e9 : a = T 0 2 := by omega
                          rw [e9] at g0 g1 g2
                          have d0 : cp = DSM T ETT := g0
                          have d1 : p_ = DSM T (ELL T line) := g1
                          have d2 : q_ = DSM T (EWW T wind) := g2
                          have hE : EGC line wind coin what := ⟨by omega, by omega, by omega, by omega⟩
                          exact ⟨rfl, _, rfl, by omega, Or.inr ⟨hE, Or.inl ⟨by omega, d0⟩⟩⟩
                      · refine x_iconst B dX12_eight_66 ?_
                        refine lv_istore (lv' := [(9, .int (iI 0)), (8, .int (iI a)), (7, .int (iI q_)), (6, .int (iI p_)), (5, .int (iI cp)), (0, .ref (am 0)), (1, .int (iI line)), (2, .int (iI wind)), (3, .int (iI coin)), (4, .int (iI what))]) B.1 B.2.1 dX12_eight_67 hl (by decide) rfl (fun ls hl => ?_)
                        have loop69 : ∀ (n69 : Nat) (cp : Int) (p_ : Int) (q_ : Int) (b : Int), (0 ≤ cp ∧ cp ≤ 300 * a + b) → (0 ≤ p_ ∧ p_ ≤ 300 * a + b) → (0 ≤ q_ ∧ q_ ≤ 300 * a + b) → (0 ≤ b ∧ b ≤ T 0 2) → (cp = dsum (fun k9 => cntp (CUPE T ETT k9) (T 0 2).toNat) a.toNat + cntp (CUPE T ETT a) b.toNat) → (p_ = dsum (fun k9 => cntp (CUPE T (ELL T line) k9) (T 0 2).toNat) a.toNat + cntp (CUPE T (ELL T line) a) b.toNat) → (q_ = dsum (fun k9 => cntp (CUPE T (EWW T wind) k9) (T 0 2).toNat) a.toNat + cntp (CUPE T (EWW T wind) a) b.toNat) → ((300 - b : Int)).toNat < n69 → ∀ (H : Heap) (locs : List Loc) (ls : Array Slot), yH D Zk A s w H locs → lv_has ls 10 [(9, .int (iI b)), (8, .int (iI a)), (7, .int (iI q_)), (6, .int (iI p_)), (5, .int (iI cp)), (0, .ref (am 0)), (1, .int (iI line)), (2, .int (iI wind)), (3, .int (iI coin)), (4, .int (iI what))] → W p l e r_c_X12_eight_e s m args below meth c H locs 0 0 Qf (F0 m 69 ls []) := by
                          intro n69
                          induction n69 with
                          | zero =>
                            intro cp p_ q_ b k0 k1 k2 k3 f0 f1 f2 hm69 H locs ls h hl
                            exact absurd hm69 (Nat.not_lt_zero _)
                          | succ n69 ih69 =>
                            intro cp p_ q_ b k0 k1 k2 k3 f0 f1 f2 hm69 H locs ls h hl
                            refine lv_iload B.1 B.2.1 dX12_eight_69 (lv_at hl 0 rfl) ?_
                            refine lv_aload_n B.1 B.2.1 dX12_eight_71 rfl (lv_at hl 5 rfl) ?_
                            refine y_getX B h kX12 50 (MW.f hM 0 _ rfl) 4 (z := (T 0 2)) rfl m_1265 (by decide) dX12_eight_72 ?_
                            refine x_icmp_ge B (by omega) (tgt := 161) dX12_eight_75 (by decide) (fun c13 => ?_) (fun c13 => ?_)
                            · refine lv_iinc (v := iI (a + 1)) (lv' := [(8, .int (iI (a + 1))), (9, .int (iI b)), (7, .int (iI q_)), (6, .int (iI p_)), (5, .int (iI cp)), (0, .ref (am 0)), (1, .int (iI line)), (2, .int (iI wind)), (3, .int (iI coin)), (4, .int (iI what))]) B.1 B.2.1 dX12_eight_161 hl (k := 1) rfl (iI_add _ _) (by decide) rfl (fun ls hl => ?_)
                              refine lv_goto (tgt := 57) B.1 B.2.1 dX12_eight_164 (by decide) ?_
                              exact ih57 cp p_ q_ ((a + 1)) (by omega) (by omega) (by omega) (by omega) (dsum_next (by omega) (by rw [show b = T 0 2 by omega] at f0; exact f0)) (dsum_next (by omega) (by rw [show b = T 0 2 by omega] at f1; exact f1)) (dsum_next (by omega) (by rw [show b = T 0 2 by omega] at f2; exact f2)) (by omega) _ _ _ h (lv_sub hl [0, 2, 3, 4, 5, 6, 7, 8, 9] rfl)
                            · refine lv_aload_n B.1 B.2.1 dX12_eight_78 rfl (lv_at hl 5 rfl) ?_
                              refine lv_iload B.1 B.2.1 dX12_eight_79 (lv_at hl 1 rfl) ?_
                              refine y_cV B h kX12 50 (MW.f hM 0 _ rfl) k_X12_isMan rfl (c_X12_isMan l D Zk ca T E am _ hM a  (by omega)) m_1728 rfl (by decide) hl.1 [] (Nat.le_of_ble_eq_true rfl) rfl dX12_eight_81 (fun r w1 hq H locs h => ?_)
                              obtain ⟨rfl, _, rfl, ⟨rfl, b14⟩ | ⟨rfl, b14⟩⟩ := hq
                              · show W p l e r_c_X12_eight_e s m args below meth c _ _ 0 0 Qf (F0 m 84 ls [.int (iI 1)])
                                refine x_if_eq B (by omega) (tgt := 155) dX12_eight_84 (by decide) (fun c15 => ?_) (fun c15 => ?_)
                                · exact absurd c15 (by omega)
                                · refine lv_aload_n B.1 B.2.1 dX12_eight_87 rfl (lv_at hl 5 rfl) ?_
                                  refine lv_iload B.1 B.2.1 dX12_eight_88 (lv_at hl 0 rfl) ?_
                                  refine y_cV B h kX12 50 (MW.f hM 0 _ rfl) k_X12_isMan rfl (c_X12_isMan l D Zk ca T E am _ hM b  (by omega)) m_1728 rfl (by decide) hl.1 [] (Nat.le_of_ble_eq_true rfl) rfl dX12_eight_90 (fun r w1 hq H locs h => ?_)
                                  obtain ⟨rfl, _, rfl, ⟨rfl, b16⟩ | ⟨rfl, b16⟩⟩ := hq
                                  · show W p l e r_c_X12_eight_e s m args below meth c _ _ 0 0 Qf (F0 m 93 ls [.int (iI 1)])
                                    refine x_if_ne B (by omega) (tgt := 155) dX12_eight_93 (by decide) (fun c17 => ?_) (fun c17 => ?_)
                                    · refine lv_iinc (v := iI (b + 1)) (lv' := [(9, .int (iI (b + 1))), (8, .int (iI a)), (7, .int (iI q_)), (6, .int (iI p_)), (5, .int (iI cp)), (0, .ref (am 0)), (1, .int (iI line)), (2, .int (iI wind)), (3, .int (iI coin)), (4, .int (iI what))]) B.1 B.2.1 dX12_eight_155 hl (k := 0) rfl (iI_add _ _) (by decide) rfl (fun ls hl => ?_)
                                      refine lv_goto (tgt := 69) B.1 B.2.1 dX12_eight_158 (by decide) ?_
                                      exact ih69 cp p_ q_ ((b + 1)) (by omega) (by omega) (by omega) (by omega) (cadd_next (by omega) f0 (Or.inr ⟨fun ⟨q7, q3, cs, cr⟩ => by first | omega | contradiction, by omega⟩)) (cadd_next (by omega) f1 (Or.inr ⟨fun ⟨q7, q3, cs, cr⟩ => by first | omega | contradiction, by omega⟩)) (cadd_next (by omega) f2 (Or.inr ⟨fun ⟨q7, q3, cs, cr⟩ => by first | omega | contradiction, by omega⟩)) (by omega) _ _ _ h (lv_sub hl [0, 1, 2, 3, 4, 5, 6, 7, 8, 9] rfl)
                                    · exact absurd c17 (by omega)
                                  · show W p l e r_c_X12_eight_e s m args below meth c _ _ 0 0 Qf (F0 m 93 ls [.int (iI 0)])
                                    refine x_if_ne B (by omega) (tgt := 155) dX12_eight_93 (by decide) (fun c18 => ?_) (fun c18 => ?_)
                                    · exact absurd c18 (by omega)
                                    · refine lv_aload_n B.1 B.2.1 dX12_eight_96 rfl (lv_at hl 5 rfl) ?_
                                      refine lv_iload B.1 B.2.1 dX12_eight_97 (lv_at hl 1 rfl) ?_
                                      refine lv_iload B.1 B.2.1 dX12_eight_99 (lv_at hl 0 rfl) ?_
                                      refine y_cV B h kX12 50 (MW.f hM 0 _ rfl) k_X12_areInSight rfl (c_X12_areInSight l D Zk ca T E am _ hM a b  (by omega) (by omega)) m_1740 rfl (by decide) hl.1 [] (Nat.le_of_ble_eq_true rfl) rfl dX12_eight_101 (fun r w1 hq H locs h => ?_)
                                      obtain ⟨rfl, _, rfl, ⟨rfl, b19⟩ | ⟨rfl, b19⟩⟩ := hq
                                      · show W p l e r_c_X12_eight_e s m args below meth c _ _ 0 0 Qf (F0 m 104 ls [.int (iI 1)])
                                        refine x_if_ne B (by omega) (tgt := 110) dX12_eight_104 (by decide) (fun c20 => ?_) (fun c20 => ?_)
                                        · refine lv_iinc (v := iI (cp + 1)) (lv' := [(5, .int (iI (cp + 1))), (9, .int (iI b)), (8, .int (iI a)), (7, .int (iI q_)), (6, .int (iI p_)), (0, .ref (am 0)), (1, .int (iI line)), (2, .int (iI wind)), (3, .int (iI coin)), (4, .int (iI what))]) B.1 B.2.1 dX12_eight_110 hl (k := 4) rfl (iI_add _ _) (by decide) rfl (fun ls hl => ?_)
                                          refine lv_iload B.1 B.2.1 dX12_eight_113 (lv_at hl 4 rfl) ?_
                                          refine lv_aload_n B.1 B.2.1 dX12_eight_115 rfl (lv_at hl 5 rfl) ?_
                                          refine y_getR B h kX12 50 (MW.f hM 0 _ rfl) 18 (b := am 13) rfl m_1279 (by decide) dX12_eight_116 ?_
                                          refine lv_iload B.1 B.2.1 dX12_eight_119 (lv_at hl 2 rfl) ?_
                                          refine y_ialdX B h 63 (MW.f hM 13 _ rfl) (by omega) dX12_eight_121 ?_
                                          refine x_iset (z := (T 8 a)) (by show iI (T 8 (((a : Int).toNat : Nat) : Int)) = _; rw [show ((((a : Int).toNat : Nat) : Int)) = a by omega]) ?_
                                          have tb21 := pi_8 (MW.pi hM) a
                                          have tb22 := pi_n (MW.pi hM) a
                                          refine lv_iload_n B.1 B.2.1 dX12_eight_122 rfl (lv_at hl 6 rfl) ?_
                                          refine x_icmp_lt B (by omega) (tgt := 130) dX12_eight_123 (by decide) (fun c23 => ?_) (fun c23 => ?_)
                                          · refine x_iconst B dX12_eight_130 ?_
                                            refine x_iadd B dX12_eight_131 ?_
                                            refine lv_istore (lv' := [(6, .int (iI (p_ + 0))), (5, .int (iI (cp + 1))), (9, .int (iI b)), (8, .int (iI a)), (7, .int (iI q_)), (0, .ref (am 0)), (1, .int (iI line)), (2, .int (iI wind)), (3, .int (iI coin)), (4, .int (iI what))]) B.1 B.2.1 dX12_eight_132 hl (by decide) rfl (fun ls hl => ?_)
                                            refine lv_iload B.1 B.2.1 dX12_eight_134 (lv_at hl 4 rfl) ?_
                                            refine lv_aload_n B.1 B.2.1 dX12_eight_136 rfl (lv_at hl 5 rfl) ?_
                                            refine y_getR B h kX12 50 (MW.f hM 0 _ rfl) 18 (b := am 13) rfl m_1279 (by decide) dX12_eight_137 ?_
                                            refine lv_iload B.1 B.2.1 dX12_eight_140 (lv_at hl 2 rfl) ?_
                                            refine y_ialdX B h 63 (MW.f hM 13 _ rfl) (by omega) dX12_eight_142 ?_
                                            refine x_iset (z := (T 8 b)) (by show iI (T 8 (((b : Int).toNat : Nat) : Int)) = _; rw [show ((((b : Int).toNat : Nat) : Int)) = b by omega]) ?_
                                            have tb24 := pi_8 (MW.pi hM) b
                                            have tb25 := pi_n (MW.pi hM) b
                                            refine lv_iload_n B.1 B.2.1 dX12_eight_143 rfl (lv_at hl 7 rfl) ?_
                                            refine x_icmp_lt B (by omega) (tgt := 151) dX12_eight_144 (by decide) (fun c26 => ?_) (fun c26 => ?_)
                                            · refine x_iconst B dX12_eight_151 ?_
                                              refine x_iadd B dX12_eight_152 ?_
                                              refine lv_istore (lv' := [(7, .int (iI (q_ + 0))), (6, .int (iI (p_ + 0))), (5, .int (iI (cp + 1))), (9, .int (iI b)), (8, .int (iI a)), (0, .ref (am 0)), (1, .int (iI line)), (2, .int (iI wind)), (3, .int (iI coin)), (4, .int (iI what))]) B.1 B.2.1 dX12_eight_153 hl (by decide) rfl (fun ls hl => ?_)
                                              refine lv_iinc (v := iI (b + 1)) (lv' := [(9, .int (iI (b + 1))), (7, .int (iI (q_ + 0))), (6, .int (iI (p_ + 0))), (5, .int (iI (cp + 1))), (8, .int (iI a)), (0, .ref (am 0)), (1, .int (iI line)), (2, .int (iI wind)), (3, .int (iI coin)), (4, .int (iI what))]) B.1 B.2.1 dX12_eight_155 hl (k := 3) rfl (iI_add _ _) (by decide) rfl (fun ls hl => ?_)
                                              refine lv_goto (tgt := 69) B.1 B.2.1 dX12_eight_158 (by decide) ?_
                                              exact ih69 ((cp + 1)) ((p_ + 0)) ((q_ + 0)) ((b + 1)) (by omega) (by omega) (by omega) (by omega) (cadd_next (by omega) f0 (Or.inl ⟨⟨by omega, by omega, by assumption, by first | trivial | omega⟩, by omega⟩)) (cadd_next (by omega) f1 (Or.inr ⟨fun ⟨q7, q3, cs, cr⟩ => by first | omega | contradiction, by omega⟩)) (cadd_next (by omega) f2 (Or.inr ⟨fun ⟨q7, q3, cs, cr⟩ => by first | omega | contradiction, by omega⟩)) (by omega) _ _ _ h (lv_sub hl [0, 4, 1, 2, 3, 5, 6, 7, 8, 9] rfl)
                                            · refine x_iconst B dX12_eight_147 ?_
                                              refine lv_goto (tgt := 152) B.1 B.2.1 dX12_eight_148 (by decide) ?_
                                              refine x_iadd B dX12_eight_152 ?_
                                              refine lv_istore (lv' := [(7, .int (iI (q_ + 1))), (6, .int (iI (p_ + 0))), (5, .int (iI (cp + 1))), (9, .int (iI b)), (8, .int (iI a)), (0, .ref (am 0)), (1, .int (iI line)), (2, .int (iI wind)), (3, .int (iI coin)), (4, .int (iI what))]) B.1 B.2.1 dX12_eight_153 hl (by decide) rfl (fun ls hl => ?_)
                                              refine lv_iinc (v := iI (b + 1)) (lv' := [(9, .int (iI (b + 1))), (7, .int (iI (q_ + 1))), (6, .int (iI (p_ + 0))), (5, .int (iI (cp + 1))), (8, .int (iI a)), (0, .ref (am 0)), (1, .int (iI line)), (2, .int (iI wind)), (3, .int (iI coin)), (4, .int (iI what))]) B.1 B.2.1 dX12_eight_155 hl (k := 3) rfl (iI_add _ _) (by decide) rfl (fun ls hl => ?_)
                                              refine lv_goto (tgt := 69) B.1 B.2.1 dX12_eight_158 (by decide) ?_
                                              exact ih69 ((cp + 1)) ((p_ + 0)) ((q_ + 1)) ((b + 1)) (by omega) (by omega) (by omega) (by omega) (cadd_next (by omega) f0 (Or.inl ⟨⟨by omega, by omega, by assumption, by first | trivial | omega⟩, by omega⟩)) (cadd_next (by omega) f1 (Or.inr ⟨fun ⟨q7, q3, cs, cr⟩ => by first | omega | contradiction, by omega⟩)) (cadd_next (by omega) f2 (Or.inl ⟨⟨by omega, by omega, by assumption, by first | trivial | omega⟩, by omega⟩)) (by omega) _ _ _ h (lv_sub hl [0, 4, 1, 2, 3, 5, 6, 7, 8, 9] rfl)
                                          · refine x_iconst B dX12_eight_126 ?_
                                            refine lv_goto (tgt := 131) B.1 B.2.1 dX12_eight_127 (by decide) ?_
                                            refine x_iadd B dX12_eight_131 ?_
                                            refine lv_istore (lv' := [(6, .int (iI (p_ + 1))), (5, .int (iI (cp + 1))), (9, .int (iI b)), (8, .int (iI a)), (7, .int (iI q_)), (0, .ref (am 0)), (1, .int (iI line)), (2, .int (iI wind)), (3, .int (iI coin)), (4, .int (iI what))]) B.1 B.2.1 dX12_eight_132 hl (by decide) rfl (fun ls hl => ?_)
                                            refine lv_iload B.1 B.2.1 dX12_eight_134 (lv_at hl 4 rfl) ?_
                                            refine lv_aload_n B.1 B.2.1 dX12_eight_136 rfl (lv_at hl 5 rfl) ?_
                                            refine y_getR B h kX12 50 (MW.f hM 0 _ rfl) 18 (b := am 13) rfl m_1279 (by decide) dX12_eight_137 ?_
                                            refine lv_iload B.1 B.2.1 dX12_eight_140 (lv_at hl 2 rfl) ?_
                                            refine y_ialdX B h 63 (MW.f hM 13 _ rfl) (by omega) dX12_eight_142 ?_
                                            refine x_iset (z := (T 8 b)) (by show iI (T 8 (((b : Int).toNat : Nat) : Int)) = _; rw [show ((((b : Int).toNat : Nat) : Int)) = b by omega]) ?_
                                            have tb27 := pi_8 (MW.pi hM) b
                                            have tb28 := pi_n (MW.pi hM) b
                                            refine lv_iload_n B.1 B.2.1 dX12_eight_143 rfl (lv_at hl 7 rfl) ?_
                                            refine x_icmp_lt B (by omega) (tgt := 151) dX12_eight_144 (by decide) (fun c29 => ?_) (fun c29 => ?_)
                                            · refine x_iconst B dX12_eight_151 ?_
                                              refine x_iadd B dX12_eight_152 ?_
                                              refine lv_istore (lv' := [(7, .int (iI (q_ + 0))), (6, .int (iI (p_ + 1))), (5, .int (iI (cp + 1))), (9, .int (iI b)), (8, .int (iI a)), (0, .ref (am 0)), (1, .int (iI line)), (2, .int (iI wind)), (3, .int (iI coin)), (4, .int (iI what))]) B.1 B.2.1 dX12_eight_153 hl (by decide) rfl (fun ls hl => ?_)
                                              refine lv_iinc (v := iI (b + 1)) (lv' := [(9, .int (iI (b + 1))), (7, .int (iI (q_ + 0))), (6, .int (iI (p_ + 1))), (5, .int (iI (cp + 1))), (8, .int (iI a)), (0, .ref (am 0)), (1, .int (iI line)), (2, .int (iI wind)), (3, .int (iI coin)), (4, .int (iI what))]) B.1 B.2.1 dX12_eight_155 hl (k := 3) rfl (iI_add _ _) (by decide) rfl (fun ls hl => ?_)
                                              refine lv_goto (tgt := 69) B.1 B.2.1 dX12_eight_158 (by decide) ?_
                                              exact ih69 ((cp + 1)) ((p_ + 1)) ((q_ + 0)) ((b + 1)) (by omega) (by omega) (by omega) (by omega) (cadd_next (by omega) f0 (Or.inl ⟨⟨by omega, by omega, by assumption, by first | trivial | omega⟩, by omega⟩)) (cadd_next (by omega) f1 (Or.inl ⟨⟨by omega, by omega, by assumption, by first | trivial | omega⟩, by omega⟩)) (cadd_next (by omega) f2 (Or.inr ⟨fun ⟨q7, q3, cs, cr⟩ => by first | omega | contradiction, by omega⟩)) (by omega) _ _ _ h (lv_sub hl [0, 4, 1, 2, 3, 5, 6, 7, 8, 9] rfl)
                                            · refine x_iconst B dX12_eight_147 ?_
                                              refine lv_goto (tgt := 152) B.1 B.2.1 dX12_eight_148 (by decide) ?_
                                              refine x_iadd B dX12_eight_152 ?_
                                              refine lv_istore (lv' := [(7, .int (iI (q_ + 1))), (6, .int (iI (p_ + 1))), (5, .int (iI (cp + 1))), (9, .int (iI b)), (8, .int (iI a)), (0, .ref (am 0)), (1, .int (iI line)), (2, .int (iI wind)), (3, .int (iI coin)), (4, .int (iI what))]) B.1 B.2.1 dX12_eight_153 hl (by decide) rfl (fun ls hl => ?_)
                                              refine lv_iinc (v := iI (b + 1)) (lv' := [(9, .int (iI (b + 1))), (7, .int (iI (q_ + 1))), (6, .int (iI (p_ + 1))), (5, .int (iI (cp + 1))), (8, .int (iI a)), (0, .ref (am 0)), (1, .int (iI line)), (2, .int (iI wind)), (3, .int (iI coin)), (4, .int (iI what))]) B.1 B.2.1 dX12_eight_155 hl (k := 3) rfl (iI_add _ _) (by decide) rfl (fun ls hl => ?_)
                                              refine lv_goto (tgt := 69) B.1 B.2.1 dX12_eight_158 (by decide) ?_
                                              exact ih69 ((cp + 1)) ((p_ + 1)) ((q_ + 1)) ((b + 1)) (by omega) (by omega) (by omega) (by omega) (cadd_next (by omega) f0 (Or.inl ⟨⟨by omega, by omega, by assumption, by first | trivial | omega⟩, by omega⟩)) (cadd_next (by omega) f1 (Or.inl ⟨⟨by omega, by omega, by assumption, by first | trivial | omega⟩, by omega⟩)) (cadd_next (by omega) f2 (Or.inl ⟨⟨by omega, by omega, by assumption, by first | trivial | omega⟩, by omega⟩)) (by omega) _ _ _ h (lv_sub hl [0, 4, 1, 2, 3, 5, 6, 7, 8, 9] rfl)
                                        · exact absurd c20 (by omega)
                                      · show W p l e r_c_X12_eight_e s m args below meth c _ _ 0 0 Qf (F0 m 104 ls [.int (iI 0)])
                                        refine x_if_ne B (by omega) (tgt := 110) dX12_eight_104 (by decide) (fun c30 => ?_) (fun c30 => ?_)
                                        · exact absurd c30 (by omega)
                                        · refine lv_goto (tgt := 155) B.1 B.2.1 dX12_eight_107 (by decide) ?_
                                          refine lv_iinc (v := iI (b + 1)) (lv' := [(9, .int (iI (b + 1))), (8, .int (iI a)), (7, .int (iI q_)), (6, .int (iI p_)), (5, .int (iI cp)), (0, .ref (am 0)), (1, .int (iI line)), (2, .int (iI wind)), (3, .int (iI coin)), (4, .int (iI what))]) B.1 B.2.1 dX12_eight_155 hl (k := 0) rfl (iI_add _ _) (by decide) rfl (fun ls hl => ?_)
                                          refine lv_goto (tgt := 69) B.1 B.2.1 dX12_eight_158 (by decide) ?_
                                          exact ih69 cp p_ q_ ((b + 1)) (by omega) (by omega) (by omega) (by omega) (cadd_next (by omega) f0 (Or.inr ⟨fun ⟨q7, q3, cs, cr⟩ => by first | omega | contradiction, by omega⟩)) (cadd_next (by omega) f1 (Or.inr ⟨fun ⟨q7, q3, cs, cr⟩ => by first | omega | contradiction, by omega⟩)) (cadd_next (by omega) f2 (Or.inr ⟨fun ⟨q7, q3, cs, cr⟩ => by first | omega | contradiction, by omega⟩)) (by omega) _ _ _ h (lv_sub hl [0, 1, 2, 3, 4, 5, 6, 7, 8, 9] rfl)
                              · show W p l e r_c_X12_eight_e s m args below meth c _ _ 0 0 Qf (F0 m 84 ls [.int (iI 0)])
                                refine x_if_eq B (by omega) (tgt := 155) dX12_eight_84 (by decide) (fun c31 => ?_) (fun c31 => ?_)
                                · refine lv_iinc (v := iI (b + 1)) (lv' := [(9, .int (iI (b + 1))), (8, .int (iI a)), (7, .int (iI q_)), (6, .int (iI p_)), (5, .int (iI cp)), (0, .ref (am 0)), (1, .int (iI line)), (2, .int (iI wind)), (3, .int (iI coin)), (4, .int (iI what))]) B.1 B.2.1 dX12_eight_155 hl (k := 0) rfl (iI_add _ _) (by decide) rfl (fun ls hl => ?_)
                                  refine lv_goto (tgt := 69) B.1 B.2.1 dX12_eight_158 (by decide) ?_
                                  exact ih69 cp p_ q_ ((b + 1)) (by omega) (by omega) (by omega) (by omega) (cadd_next (by omega) f0 (Or.inr ⟨fun ⟨q7, q3, cs, cr⟩ => by first | omega | contradiction, by omega⟩)) (cadd_next (by omega) f1 (Or.inr ⟨fun ⟨q7, q3, cs, cr⟩ => by first | omega | contradiction, by omega⟩)) (cadd_next (by omega) f2 (Or.inr ⟨fun ⟨q7, q3, cs, cr⟩ => by first | omega | contradiction, by omega⟩)) (by omega) _ _ _ h (lv_sub hl [0, 1, 2, 3, 4, 5, 6, 7, 8, 9] rfl)
                                · exact absurd c31 (by omega)
                        exact loop69 (((300 - 0 : Int)).toNat + 1) cp p_ q_ 0 (by omega) (by omega) (by omega) (by omega) (by rw [← g0]; exact (Int.add_zero _).symm) (by rw [← g1]; exact (Int.add_zero _).symm) (by rw [← g2]; exact (Int.add_zero _).symm) (Nat.lt_succ_self _) _ _ _ h (lv_sub hl [0, 1, 2, 3, 4, 5, 6, 7, 8, 9] rfl)
                  exact loop57 (((300 - 0 : Int)).toNat + 1) 0 0 0 0 (by omega) (by omega) (by omega) (by omega) rfl rfl rfl (Nat.lt_succ_self _) _ _ _ h (lv_sub hl [0, 1, 2, 3, 4, 5, 6, 7, 8] rfl)
                · exact absurd c8 (by omega)
              · show W p l e r_c_X12_eight_e s m args below meth c _ _ 0 0 Qf (F0 m 38 ls [.int (iI 0)])
                refine x_if_ne B (by omega) (tgt := 45) dX12_eight_38 (by decide) (fun c32 => ?_) (fun c32 => ?_)
                · exact absurd c32 (by omega)
                · refine x_ldcw B (z := (-1000000000)) m_1851 (by decide) dX12_eight_41 ?_
                  refine y_ri B hQ h (by decide) dX12_eight_44 ?_
                  exact ⟨rfl, _, rfl, by omega, Or.inl ⟨fun ⟨x, y, q, r⟩ => by omega, rfl⟩⟩
          · show W p l e r_c_X12_eight_e s m args below meth c _ _ 0 0 Qf (F0 m 28 ls [.int (iI 0)])
            refine x_if_eq B (by omega) (tgt := 41) dX12_eight_28 (by decide) (fun c33 => ?_) (fun c33 => ?_)
            · refine x_ldcw B (z := (-1000000000)) m_1851 (by decide) dX12_eight_41 ?_
              refine y_ri B hQ h (by decide) dX12_eight_44 ?_
              exact ⟨rfl, _, rfl, by omega, Or.inl ⟨fun ⟨x, y, q, r⟩ => by omega, rfl⟩⟩
            · exact absurd c33 (by omega)
      · show W p l e r_c_X12_eight_e s m args below meth c _ _ 0 0 Qf (F0 m 17 ls [.int (iI 0)])
        refine x_if_eq B (by omega) (tgt := 41) dX12_eight_17 (by decide) (fun c34 => ?_) (fun c34 => ?_)
        · refine x_ldcw B (z := (-1000000000)) m_1851 (by decide) dX12_eight_41 ?_
          refine y_ri B hQ h (by decide) dX12_eight_44 ?_
          exact ⟨rfl, _, rfl, by omega, Or.inl ⟨fun ⟨x, y, q, r⟩ => by omega, rfl⟩⟩
        · exact absurd c34 (by omega)
  · show W p l e r_c_X12_eight_e s m args below meth c _ _ 0 0 Qf (F0 m 7 ls [.int (iI 0)])
    refine x_if_eq B (by omega) (tgt := 41) dX12_eight_7 (by decide) (fun c35 => ?_) (fun c35 => ?_)
    · refine x_ldcw B (z := (-1000000000)) m_1851 (by decide) dX12_eight_41 ?_
      refine y_ri B hQ h (by decide) dX12_eight_44 ?_
      exact ⟨rfl, _, rfl, by omega, Or.inl ⟨fun ⟨x, y, q, r⟩ => by omega, rfl⟩⟩
    · exact absurd c35 (by omega)
