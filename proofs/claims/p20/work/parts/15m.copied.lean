/-! ===== watches copied from the last ===== -/
def NR (T : Nat → Int → Int) (k s j : Int) : Prop := (0 ≤ j ∧ j < T 0 2) ∧ T 4 j = s ∧ SEE T k j ∧ T 7 j ≠ 3
def PRV (T : Nat → Int → Int) (k j : Int) : Prop := (0 ≤ j ∧ j < T 0 2) ∧ T 4 j = T 4 k ∧ T 5 j = T 5 k - 1
def FLW (T : Nat → Int → Int) (k j : Int) : Prop := T 7 k ≠ 3 ∧ T 7 j ≠ 3 ∧ T 3 (1000 * T 4 k + T 5 k) = T 3 (1000 * T 4 j + T 5 j)
def FOL (T : Nat → Int → Int) (k : Int) : Prop := ∃ j : Int, PRV T k j ∧ FLW T k j
def REP (T : Nat → Int → Int) (k : Int) : Prop := ∃ j : Int, PRV T k j ∧ FLW T k j ∧ T 8 j = T 8 k
def DIF (T : Nat → Int → Int) (j k s : Int) : Prop := ∃ x y : Int, NR T j s x ∧ NR T k s y ∧ (2 ≤ T 8 x - T 8 y ∨ 2 ≤ T 8 y - T 8 x)
def COP (T : Nat → Int → Int) (k : Int) : Prop := ∃ j : Int, PRV T k j ∧ FLW T k j ∧ T 8 j = T 8 k ∧ ∃ s : Int, (0 ≤ s ∧ s < T 0 1) ∧ DIF T j k s
theorem NR_un {T : Nat → Int → Int} {k s x y : Int} (hp : PI T) (h : NR T k s x) (h2 : NR T k s y) : x = y := pi_un hp h.1 h2.1 (h.2.1.trans h2.2.1.symm) (h.2.2.1.1.trans h2.2.2.1.1.symm)
theorem PRV_un {T : Nat → Int → Int} {k x y : Int} (hp : PI T) (h : PRV T k x) (h2 : PRV T k y) : x = y := pi_un hp h.1 h2.1 (h.2.1.trans h2.2.1.symm) (h.2.2.trans h2.2.2.symm)
theorem PRV_no {T : Nat → Int → Int} {k j : Int} (hn : ∀ j : Int, 0 ≤ j ∧ j < T 0 2 → ¬ (T 4 j = T 4 k ∧ T 5 j = T 5 k - 1)) (h : PRV T k j) : False := hn j h.1 h.2
theorem FOL_of {T : Nat → Int → Int} {k j : Int} (hp : PI T) (h : FOL T k) (h2 : PRV T k j) : FLW T k j := by
  obtain ⟨x, a, b⟩ := h
  rw [PRV_un hp h2 a]; exact b
theorem REP_of {T : Nat → Int → Int} {k j : Int} (hp : PI T) (h : REP T k) (h2 : PRV T k j) : FLW T k j ∧ T 8 j = T 8 k := by
  obtain ⟨x, a, b⟩ := h
  rw [PRV_un hp h2 a]; exact b
theorem REP_F {T : Nat → Int → Int} {k : Int} (h : REP T k) : FOL T k := by
  obtain ⟨x, a, b, -⟩ := h
  exact ⟨x, a, b⟩
theorem COP_R {T : Nat → Int → Int} {k : Int} (h : COP T k) : REP T k := by
  obtain ⟨x, a, b, d, -⟩ := h
  exact ⟨x, a, b, d⟩
theorem COP_of {T : Nat → Int → Int} {k j : Int} (hp : PI T) (h : COP T k) (h2 : PRV T k j) : ∃ s : Int, (0 ≤ s ∧ s < T 0 1) ∧ DIF T j k s := by
  obtain ⟨x, a, -, -, b⟩ := h
  rw [PRV_un hp h2 a]; exact b
theorem all_next {P : Int → Prop} {n : Int} (h : ∀ s : Int, 0 ≤ s ∧ s < n → ¬ P s) (hn : ¬ P n) : ∀ s : Int, 0 ≤ s ∧ s < n + 1 → ¬ P s := fun s hs hd => by
  by_cases e : s = n
  · subst e; exact hn hd
  · exact h s (by omega) hd
theorem SEE_sy {T : Nat → Int → Int} {x y : Int} (h : SEE T x y) : SEE T y x := by
  obtain ⟨a, b, c⟩ := h
  refine ⟨a.symm, fun e => b e.symm, ?_⟩
  unfold FAR at c ⊢
  omega
/-- what the reference's search for a reading answers -/
def RO (T : Nat → Int → Int) (s v z : Int) : Prop := (z = -1 ∧ ∀ k : Int, 0 ≤ k ∧ k < T 0 2 → ¬ (T 4 k = s ∧ T 5 k = v)) ∨ ((0 ≤ z ∧ z < T 0 2) ∧ T 4 z = s ∧ T 5 z = v)
theorem DIF_no {T : Nat → Int → Int} {j k s x y : Int} (hp : PI T) (hx : RO T s (T 5 j) x) (hy : RO T s (T 5 k) y) (hb : x < 0 ∨ y < 0 ∨ T 7 x = 3 ∨ T 7 y = 3 ∨ ¬ SEE T x j ∨ ¬ SEE T y k ∨ (T 8 x - T 8 y < 2 ∧ T 8 y - T 8 x < 2)) : ¬ DIF T j k s := fun ⟨a, b, ha, hb9, hd⟩ => by
  rcases hx with ⟨-, n⟩ | ⟨x1, x2, x3⟩
  · exact n a ha.1 ⟨ha.2.1, ha.2.2.1.1⟩
  · rcases hy with ⟨-, n⟩ | ⟨y1, y2, y3⟩
    · exact n b hb9.1 ⟨hb9.2.1, hb9.2.2.1.1⟩
    · have e1 : a = x := pi_un hp ha.1 x1 (ha.2.1.trans x2.symm) (ha.2.2.1.1.trans x3.symm)
      have e2 : b = y := pi_un hp hb9.1 y1 (hb9.2.1.trans y2.symm) (hb9.2.2.1.1.trans y3.symm)
      subst e1; subst e2
      rcases hb with q | q | q | q | q | q | q
      · omega
      · omega
      · exact ha.2.2.2 q
      · exact hb9.2.2.2 q
      · exact q (SEE_sy ha.2.2.1)
      · exact q (SEE_sy hb9.2.2.1)
      · omega
theorem DIF_yes {T : Nat → Int → Int} {j k s x y : Int} (hx : RO T s (T 5 j) x) (hy : RO T s (T 5 k) y) (h0 : 0 ≤ x ∧ 0 ≤ y) (h1 : T 7 x ≠ 3) (h2 : T 7 y ≠ 3) (h3 : SEE T x j) (h4 : SEE T y k) (h5 : 2 ≤ T 8 x - T 8 y ∨ 2 ≤ T 8 y - T 8 x) : DIF T j k s := by
  rcases hx with ⟨n, -⟩ | ⟨x1, x2, x3⟩
  · omega
  · rcases hy with ⟨n, -⟩ | ⟨y1, y2, y3⟩
    · omega
    · exact ⟨x, y, ⟨x1, x2, SEE_sy h3, h1⟩, ⟨y1, y2, SEE_sy h4, h2⟩, h5⟩
def DEX (T : Nat → Int → Int) (j k n : Int) : Prop := ∃ s : Int, (0 ≤ s ∧ s < n) ∧ DIF T j k s
def DNO (T : Nat → Int → Int) (j k n : Int) : Prop := ∀ s : Int, 0 ≤ s ∧ s < n → ¬ DIF T j k s
/-- how many of the first n -/
noncomputable def cntp (P : Int → Prop) : Nat → Int
  | 0 => 0
  | n + 1 => cntp P n + @ite Int (P (n : Int)) (Classical.propDecidable _) 1 0
theorem cntp_next {P : Int → Prop} {k n n' : Int} (hk : 0 ≤ k) (h : n = cntp P k.toNat) (hn : (P k ∧ n' = n + 1) ∨ (¬ P k ∧ n' = n)) : n' = cntp P (k + 1).toNat := by
  rw [show (k + 1).toNat = k.toNat + 1 by omega]
  show n' = cntp P k.toNat + @ite Int (P ((k.toNat : Nat) : Int)) (Classical.propDecidable _) 1 0
  rw [Int.toNat_of_nonneg hk, ← h]
  rcases hn with ⟨a, b⟩ | ⟨a, b⟩
  · rw [if_pos a]; exact b
  · rw [if_neg a, b, Int.add_zero]
theorem cntp_mono {P : Int → Prop} : ∀ (d n : Nat), cntp P n ≤ cntp P (n + d)
  | 0, _ => Int.le_refl _
  | d + 1, n => by
    have a := cntp_mono (P := P) d n
    show cntp P n ≤ cntp P (n + d) + @ite Int (P ((n + d : Nat) : Int)) (Classical.propDecidable _) 1 0
    by_cases q : P ((n + d : Nat) : Int)
    · rw [if_pos q]; omega
    · rw [if_neg q]; omega
theorem cntp_lt {P : Int → Prop} {i j : Int} (hi : 0 ≤ i) (hij : i < j) (h : P i) : cntp P i.toNat < cntp P j.toNat := by
  have a := cntp_next (P := P) hi rfl (Or.inl ⟨h, rfl⟩)
  have b := cntp_mono (P := P) (j.toNat - (i + 1).toNat) (i + 1).toNat
  rw [show (i + 1).toNat + (j.toNat - (i + 1).toNat) = j.toNat by omega] at b
  omega
/-- the answers -/
def RDG (T : Nat → Int → Int) (k what z : Int) : Prop := (¬ ((0 ≤ k ∧ k < T 0 2) ∧ 0 ≤ what ∧ what ≤ 8) ∧ z = -1) ∨ ((0 ≤ k ∧ k < T 0 2) ∧ ((what = 0 ∧ z = T 4 k) ∨ (what = 1 ∧ z = T 5 k) ∨ (what = 2 ∧ z = T 6 k) ∨ (what = 3 ∧ z = T 7 k) ∨ (what = 4 ∧ z = T 8 k) ∨ (what = 5 ∧ z = T 9 k) ∨ (what = 6 ∧ z = T 10 k) ∨ (what = 7 ∧ z = T 3 (1000 * T 4 k + T 5 k)) ∨ (what = 8 ∧ z = @ite Int (COP T k) (Classical.propDecidable _) 1 0)))
theorem RDG_eq {T : Nat → Int → Int} {k what z z' : Int} (h : xr z ∧ RDG T k what z) (h2 : xr z' ∧ RDG T k what z') : z = z' := by
  obtain ⟨-, h⟩ := h
  obtain ⟨-, h2⟩ := h2
  rcases h with ⟨a, e⟩ | ⟨a, ⟨w, e⟩ | ⟨w, e⟩ | ⟨w, e⟩ | ⟨w, e⟩ | ⟨w, e⟩ | ⟨w, e⟩ | ⟨w, e⟩ | ⟨w, e⟩ | ⟨w, e⟩⟩ <;> rcases h2 with ⟨a', e'⟩ | ⟨a', ⟨w', e'⟩ | ⟨w', e'⟩ | ⟨w', e'⟩ | ⟨w', e'⟩ | ⟨w', e'⟩ | ⟨w', e'⟩ | ⟨w', e'⟩ | ⟨w', e'⟩ | ⟨w', e'⟩⟩ <;> first | exact e.trans e'.symm | (exfalso; omega)
theorem ite1 {P : Prop} (h : P) : (1 : Int) = @ite Int P (Classical.propDecidable _) 1 0 := by rw [if_pos h]
theorem ite0 {P : Prop} (h : ¬ P) : (0 : Int) = @ite Int P (Classical.propDecidable _) 1 0 := by rw [if_neg h]
def CPD (T : Nat → Int → Int) (ship what k : Int) : Prop := T 4 k = ship ∧ ((what = 0 ∧ FOL T k) ∨ (what = 1 ∧ REP T k) ∨ (what = 2 ∧ COP T k))
def CPZ (T : Nat → Int → Int) (ship what z : Int) : Prop := (¬ ((0 ≤ ship ∧ ship < T 0 1) ∧ 0 ≤ what ∧ what ≤ 2) ∧ z = -1) ∨ (((0 ≤ ship ∧ ship < T 0 1) ∧ 0 ≤ what ∧ what ≤ 2) ∧ z = cntp (CPD T ship what) (T 0 2).toNat)
theorem CPZ_eq {T : Nat → Int → Int} {ship what z z' : Int} (h : xr z ∧ CPZ T ship what z) (h2 : xr z' ∧ CPZ T ship what z') : z = z' := by
  obtain ⟨-, h⟩ := h
  obtain ⟨-, h2⟩ := h2
  rcases h with ⟨a, e⟩ | ⟨a, e⟩ <;> rcases h2 with ⟨a', e'⟩ | ⟨a', e'⟩ <;> first | exact e.trans e'.symm | exact absurd a' a | exact absurd a a'
def FND (T : Nat → Int → Int) (k z : Int) : Prop := (z = -1 ∧ ∀ i : Int, 0 ≤ i ∧ i < T 0 2 → ¬ (COP T i ∧ cntp (COP T) i.toNat = k)) ∨ ((0 ≤ z ∧ z < T 0 2) ∧ COP T z ∧ cntp (COP T) z.toNat = k)
theorem FND_eq {T : Nat → Int → Int} {k z z' : Int} (h : xr z ∧ FND T k z) (h2 : xr z' ∧ FND T k z') : z = z' := by
  obtain ⟨-, h⟩ := h
  obtain ⟨-, h2⟩ := h2
  rcases h with ⟨a, b⟩ | ⟨a, b, c⟩ <;> rcases h2 with ⟨a', b'⟩ | ⟨a', b', c'⟩
  · omega
  · exact absurd ⟨b', c'⟩ (b z' a')
  · exact absurd ⟨b, c⟩ (b' z a)
  · rcases Int.lt_trichotomy z z' with q | q | q
    · have := cntp_lt (P := COP T) a.1 q b; omega
    · exact q
    · have := cntp_lt (P := COP T) a'.1 q b'; omega


abbrev r_c_X11_follows_e : Room := { frames := 3, cells := 0, slots := 0, locals := 62 }
set_option maxHeartbeats 4000000 in
set_option maxRecDepth 100000 in
theorem c_X11_follows_e (l : Launch) (D : va_G) (Zk : yK) (ca : Nat → ClassId) (T : Nat → Int → Int) (G : Nat → Int → Nat) (u : Int) (ad : Nat → Nat) (w : yW) (hC : CW ca T G u ad w) (k : Int)  (hk : 0 ≤ k ∧ k < T 0 2) : yC l D Zk ca yX11_follows cX11_follows 2 (some .boolean) r_c_X11_follows_e [.ref (G 4 k)] w (vI w (fun z => (z = 1 ∧ (FOL T k)) ∨ (z = 0 ∧ (¬ FOL T k)))) := by
  refine yC.of2 "WindWords" (by decide) rfl (Nat.le_of_ble_eq_true rfl) ?_
  intro p e s m args below meth c A ls Qf B hnm h hl hQ
  have hl : lv_has ls 2 [(0, .ref (G 4 k))] := hl
  have hs := pi_s (CW.pi hC)
  have fo1 := CW.rd hC k (by omega)
  refine lv_aload_n B.1 B.2.1 dX11_follows_0 rfl (lv_at hl 0 rfl) ?_
  refine y_getR B h kX4 (1000 + 16 * k.toNat + 4) fo1 0 (b := G 1 (T 4 k)) rfl m_515 (by decide) dX11_follows_1 ?_
  have tb2 := pi_4 (CW.pi hC) k
  have pn3 := pi_in (CW.pi hC) k (by omega)
  have fo4 := CW.sh hC (T 4 k) (by omega)
  refine lv_aload_n B.1 B.2.1 dX11_follows_4 rfl (lv_at hl 0 rfl) ?_
  refine y_getX B h kX4 (1000 + 16 * k.toNat + 4) fo1 1 (z := (T 5 k)) rfl m_519 (by decide) dX11_follows_5 ?_
  have tb5 := pi_5 (CW.pi hC) k
  refine x_iconst B dX11_follows_8 ?_
  refine x_isub B dX11_follows_9 ?_
  refine y_cV B h kX7 (1000 + 16 * ((T 4 k)).toNat + 1) fo4.1 k_X7_readingOn rfl (c_X7_readingOn l D Zk ca T G u ad _ hC (T 4 k) (((T 5 k) - 1))  (by omega) (by omega)) m_502 rfl (by decide) hl.1 [] (Nat.le_of_ble_eq_true rfl) rfl dX11_follows_10 (fun r w1 hq H locs h => ?_)
  obtain ⟨rfl, _, rfl, ⟨rfl, cp⟩ | ⟨pq, rfl, cp⟩⟩ := hq
  · show W p l e r_c_X11_follows_e s m args below meth c _ _ 0 0 Qf (F0 m 13 ls [.null])
    refine lv_astore_nN (lv' := [(1, .null), (0, .ref (G 4 k))]) B.1 B.2.1 dX11_follows_13 rfl hl (by decide) rfl (fun ls hl => ?_)
    refine lv_aload_nN B.1 B.2.1 dX11_follows_14 rfl (lv_at hl 0 rfl) ?_
    refine lv_ifnullN (tgt := 47) B.1 B.2.1 dX11_follows_15 (by decide) ?_
    refine x_iconst B dX11_follows_47 ?_
    refine y_rz B hQ h (by decide) (by decide) dX11_follows_48 ?_
    exact ⟨rfl, _, rfl, Or.inr ⟨rfl, fun ⟨x, hx, f1, f2, f3⟩ => by first | exact PRV_no cp hx | (have e9 := PRV_un (CW.pi hC) hx cp; subst e9; omega)⟩⟩
  · have fo8 := CW.rd hC pq (by omega)
    show W p l e r_c_X11_follows_e s m args below meth c _ _ 0 0 Qf (F0 m 13 ls [.ref (G 4 pq)])
    refine lv_astore_n (lv' := [(1, .ref (G 4 pq)), (0, .ref (G 4 k))]) B.1 B.2.1 dX11_follows_13 rfl hl (by decide) rfl (fun ls hl => ?_)
    refine lv_aload_n B.1 B.2.1 dX11_follows_14 rfl (lv_at hl 0 rfl) ?_
    refine lv_ifnull B.1 B.2.1 dX11_follows_15 ?_
    refine lv_aload_n B.1 B.2.1 dX11_follows_18 rfl (lv_at hl 1 rfl) ?_
    refine y_cV B h kX4 (1000 + 16 * k.toNat + 4) fo1 k_X4_isMans rfl (c_X4_isMans l D Zk ca T G u ad _ hC k  (by omega)) m_852 rfl (by decide) hl.1 [] (Nat.le_of_ble_eq_true rfl) rfl dX11_follows_19 (fun r w1 hq H locs h => ?_)
    obtain ⟨rfl, _, rfl, ⟨rfl, b9⟩ | ⟨rfl, b9⟩⟩ := hq
    · show W p l e r_c_X11_follows_e s m args below meth c _ _ 0 0 Qf (F0 m 22 ls [.int (iI 1)])
      refine x_if_eq B (by omega) (tgt := 47) dX11_follows_22 (by decide) (fun c10 => ?_) (fun c10 => ?_)
      · exact absurd c10 (by omega)
      · refine lv_aload_n B.1 B.2.1 dX11_follows_25 rfl (lv_at hl 0 rfl) ?_
        refine y_cV B h kX4 (1000 + 16 * pq.toNat + 4) fo8 k_X4_isMans rfl (c_X4_isMans l D Zk ca T G u ad _ hC pq  (by omega)) m_852 rfl (by decide) hl.1 [] (Nat.le_of_ble_eq_true rfl) rfl dX11_follows_26 (fun r w1 hq H locs h => ?_)
        obtain ⟨rfl, _, rfl, ⟨rfl, b11⟩ | ⟨rfl, b11⟩⟩ := hq
        · show W p l e r_c_X11_follows_e s m args below meth c _ _ 0 0 Qf (F0 m 29 ls [.int (iI 1)])
          refine x_if_eq B (by omega) (tgt := 47) dX11_follows_29 (by decide) (fun c12 => ?_) (fun c12 => ?_)
          · exact absurd c12 (by omega)
          · refine lv_aload_n B.1 B.2.1 dX11_follows_32 rfl (lv_at hl 1 rfl) ?_
            refine y_cV B h kX4 (1000 + 16 * k.toNat + 4) fo1 k_X4_writer rfl (c_X4_writer l D Zk ca T G u ad _ hC k  (by omega)) m_834 rfl (by decide) hl.1 [] (Nat.le_of_ble_eq_true rfl) rfl dX11_follows_33 (fun r w1 hq H locs h => ?_)
            obtain ⟨rfl, _, rfl, rfl⟩ := hq
            have tb13 := pi_3 (CW.pi hC) (1000 * T 4 k + T 5 k)
            show W p l e r_c_X11_follows_e s m args below meth c _ _ 0 0 Qf (F0 m 36 ls [.int (iI (T 3 (1000 * T 4 k + T 5 k)))])
            refine lv_aload_n B.1 B.2.1 dX11_follows_36 rfl (lv_at hl 0 rfl) ?_
            refine y_cV B h kX4 (1000 + 16 * pq.toNat + 4) fo8 k_X4_writer rfl (c_X4_writer l D Zk ca T G u ad _ hC pq  (by omega)) m_834 rfl (by decide) hl.1 [.int (iI (T 3 (1000 * T 4 k + T 5 k)))] (Nat.le_of_ble_eq_true rfl) rfl dX11_follows_37 (fun r w1 hq H locs h => ?_)
            obtain ⟨rfl, _, rfl, rfl⟩ := hq
            have tb14 := pi_3 (CW.pi hC) (1000 * T 4 pq + T 5 pq)
            show W p l e r_c_X11_follows_e s m args below meth c _ _ 0 0 Qf (F0 m 40 ls [.int (iI (T 3 (1000 * T 4 pq + T 5 pq))), .int (iI (T 3 (1000 * T 4 k + T 5 k)))])
            refine x_icmp_ne B (by omega) (tgt := 47) dX11_follows_40 (by decide) (fun c15 => ?_) (fun c15 => ?_)
            · refine x_iconst B dX11_follows_47 ?_
              refine y_rz B hQ h (by decide) (by decide) dX11_follows_48 ?_
              exact ⟨rfl, _, rfl, Or.inr ⟨rfl, fun ⟨x, hx, f1, f2, f3⟩ => by first | exact PRV_no cp hx | (have e9 := PRV_un (CW.pi hC) hx cp; subst e9; omega)⟩⟩
            · refine x_iconst B dX11_follows_43 ?_
              refine lv_goto (tgt := 48) B.1 B.2.1 dX11_follows_44 (by decide) ?_
              refine y_rz B hQ h (by decide) (by decide) dX11_follows_48 ?_
              exact ⟨rfl, _, rfl, Or.inl ⟨rfl, pq, cp, by omega, by omega, by omega⟩⟩
        · show W p l e r_c_X11_follows_e s m args below meth c _ _ 0 0 Qf (F0 m 29 ls [.int (iI 0)])
          refine x_if_eq B (by omega) (tgt := 47) dX11_follows_29 (by decide) (fun c16 => ?_) (fun c16 => ?_)
          · refine x_iconst B dX11_follows_47 ?_
            refine y_rz B hQ h (by decide) (by decide) dX11_follows_48 ?_
            exact ⟨rfl, _, rfl, Or.inr ⟨rfl, fun ⟨x, hx, f1, f2, f3⟩ => by first | exact PRV_no cp hx | (have e9 := PRV_un (CW.pi hC) hx cp; subst e9; omega)⟩⟩
          · exact absurd c16 (by omega)
    · show W p l e r_c_X11_follows_e s m args below meth c _ _ 0 0 Qf (F0 m 22 ls [.int (iI 0)])
      refine x_if_eq B (by omega) (tgt := 47) dX11_follows_22 (by decide) (fun c17 => ?_) (fun c17 => ?_)
      · refine x_iconst B dX11_follows_47 ?_
        refine y_rz B hQ h (by decide) (by decide) dX11_follows_48 ?_
        exact ⟨rfl, _, rfl, Or.inr ⟨rfl, fun ⟨x, hx, f1, f2, f3⟩ => by first | exact PRV_no cp hx | (have e9 := PRV_un (CW.pi hC) hx cp; subst e9; omega)⟩⟩
      · exact absurd c17 (by omega)
abbrev r_c_X11_repeats_e : Room := { frames := 4, cells := 0, slots := 0, locals := 83 }
set_option maxHeartbeats 4000000 in
set_option maxRecDepth 100000 in
theorem c_X11_repeats_e (l : Launch) (D : va_G) (Zk : yK) (ca : Nat → ClassId) (T : Nat → Int → Int) (G : Nat → Int → Nat) (u : Int) (ad : Nat → Nat) (w : yW) (hC : CW ca T G u ad w) (k : Int)  (hk : 0 ≤ k ∧ k < T 0 2) : yC l D Zk ca yX11_repeats cX11_repeats 2 (some .boolean) r_c_X11_repeats_e [.ref (G 4 k)] w (vI w (fun z => (z = 1 ∧ (REP T k)) ∨ (z = 0 ∧ (¬ REP T k)))) := by
  refine yC.of2 "WindWords" (by decide) rfl (Nat.le_of_ble_eq_true rfl) ?_
  intro p e s m args below meth c A ls Qf B hnm h hl hQ
  have hl : lv_has ls 2 [(0, .ref (G 4 k))] := hl
  have hs := pi_s (CW.pi hC)
  have fo1 := CW.rd hC k (by omega)
  refine lv_aload_n B.1 B.2.1 dX11_repeats_0 rfl (lv_at hl 0 rfl) ?_
  refine y_getR B h kX4 (1000 + 16 * k.toNat + 4) fo1 0 (b := G 1 (T 4 k)) rfl m_515 (by decide) dX11_repeats_1 ?_
  have tb2 := pi_4 (CW.pi hC) k
  have pn3 := pi_in (CW.pi hC) k (by omega)
  have fo4 := CW.sh hC (T 4 k) (by omega)
  refine lv_aload_n B.1 B.2.1 dX11_repeats_4 rfl (lv_at hl 0 rfl) ?_
  refine y_getX B h kX4 (1000 + 16 * k.toNat + 4) fo1 1 (z := (T 5 k)) rfl m_519 (by decide) dX11_repeats_5 ?_
  have tb5 := pi_5 (CW.pi hC) k
  refine x_iconst B dX11_repeats_8 ?_
  refine x_isub B dX11_repeats_9 ?_
  refine y_cV B h kX7 (1000 + 16 * ((T 4 k)).toNat + 1) fo4.1 k_X7_readingOn rfl (c_X7_readingOn l D Zk ca T G u ad _ hC (T 4 k) (((T 5 k) - 1))  (by omega) (by omega)) m_502 rfl (by decide) hl.1 [] (Nat.le_of_ble_eq_true rfl) rfl dX11_repeats_10 (fun r w1 hq H locs h => ?_)
  obtain ⟨rfl, _, rfl, ⟨rfl, cp⟩ | ⟨pq, rfl, cp⟩⟩ := hq
  · show W p l e r_c_X11_repeats_e s m args below meth c _ _ 0 0 Qf (F0 m 13 ls [.null])
    refine lv_astore_nN (lv' := [(1, .null), (0, .ref (G 4 k))]) B.1 B.2.1 dX11_repeats_13 rfl hl (by decide) rfl (fun ls hl => ?_)
    refine lv_aload_nN B.1 B.2.1 dX11_repeats_14 rfl (lv_at hl 0 rfl) ?_
    refine lv_ifnullN (tgt := 40) B.1 B.2.1 dX11_repeats_15 (by decide) ?_
    refine x_iconst B dX11_repeats_40 ?_
    refine y_rz B hQ h (by decide) (by decide) dX11_repeats_41 ?_
    exact ⟨rfl, _, rfl, Or.inr ⟨rfl, fun hr => by first | exact bf (REP_F hr) | (obtain ⟨x, hx, -⟩ := hr; exact PRV_no cp hx) | (have e9 := (REP_of (CW.pi hC) hr cp).2; omega)⟩⟩
  · have fo8 := CW.rd hC pq (by omega)
    show W p l e r_c_X11_repeats_e s m args below meth c _ _ 0 0 Qf (F0 m 13 ls [.ref (G 4 pq)])
    refine lv_astore_n (lv' := [(1, .ref (G 4 pq)), (0, .ref (G 4 k))]) B.1 B.2.1 dX11_repeats_13 rfl hl (by decide) rfl (fun ls hl => ?_)
    refine lv_aload_n B.1 B.2.1 dX11_repeats_14 rfl (lv_at hl 0 rfl) ?_
    refine lv_ifnull B.1 B.2.1 dX11_repeats_15 ?_
    refine lv_aload_n B.1 B.2.1 dX11_repeats_18 rfl (lv_at hl 1 rfl) ?_
    refine y_cS B h k_X11_follows (c_X11_follows_e l D Zk ca T G u ad _ hC k  (by omega)) m_849 rfl (by decide) hl.1 [] (Nat.le_of_ble_eq_true rfl) rfl dX11_repeats_19 (fun r w1 hq H locs h => ?_)
    obtain ⟨rfl, _, rfl, ⟨rfl, bf⟩ | ⟨rfl, bf⟩⟩ := hq
    · show W p l e r_c_X11_repeats_e s m args below meth c _ _ 0 0 Qf (F0 m 22 ls [.int (iI 1)])
      refine x_if_eq B (by omega) (tgt := 40) dX11_repeats_22 (by decide) (fun c10 => ?_) (fun c10 => ?_)
      · exact absurd c10 (by omega)
      · refine lv_aload_n B.1 B.2.1 dX11_repeats_25 rfl (lv_at hl 1 rfl) ?_
        refine y_getX B h kX4 (1000 + 16 * k.toNat + 4) fo1 4 (z := (T 8 k)) rfl m_532 (by decide) dX11_repeats_26 ?_
        have tb11 := pi_8 (CW.pi hC) k
        have tb12 := pi_n (CW.pi hC) k
        refine lv_aload_n B.1 B.2.1 dX11_repeats_29 rfl (lv_at hl 0 rfl) ?_
        refine y_getX B h kX4 (1000 + 16 * pq.toNat + 4) fo8 4 (z := (T 8 pq)) rfl m_532 (by decide) dX11_repeats_30 ?_
        have tb13 := pi_8 (CW.pi hC) pq
        have tb14 := pi_n (CW.pi hC) pq
        refine x_icmp_ne B (by omega) (tgt := 40) dX11_repeats_33 (by decide) (fun c15 => ?_) (fun c15 => ?_)
        · refine x_iconst B dX11_repeats_40 ?_
          refine y_rz B hQ h (by decide) (by decide) dX11_repeats_41 ?_
          exact ⟨rfl, _, rfl, Or.inr ⟨rfl, fun hr => by first | exact bf (REP_F hr) | (obtain ⟨x, hx, -⟩ := hr; exact PRV_no cp hx) | (have e9 := (REP_of (CW.pi hC) hr cp).2; omega)⟩⟩
        · refine x_iconst B dX11_repeats_36 ?_
          refine lv_goto (tgt := 41) B.1 B.2.1 dX11_repeats_37 (by decide) ?_
          refine y_rz B hQ h (by decide) (by decide) dX11_repeats_41 ?_
          exact ⟨rfl, _, rfl, Or.inl ⟨rfl, pq, cp, FOL_of (CW.pi hC) bf cp, by omega⟩⟩
    · show W p l e r_c_X11_repeats_e s m args below meth c _ _ 0 0 Qf (F0 m 22 ls [.int (iI 0)])
      refine x_if_eq B (by omega) (tgt := 40) dX11_repeats_22 (by decide) (fun c16 => ?_) (fun c16 => ?_)
      · refine x_iconst B dX11_repeats_40 ?_
        refine y_rz B hQ h (by decide) (by decide) dX11_repeats_41 ?_
        exact ⟨rfl, _, rfl, Or.inr ⟨rfl, fun hr => by first | exact bf (REP_F hr) | (obtain ⟨x, hx, -⟩ := hr; exact PRV_no cp hx) | (have e9 := (REP_of (CW.pi hC) hr cp).2; omega)⟩⟩
      · exact absurd c16 (by omega)
abbrev r_c_X11_isCopied_e : Room := { frames := 5, cells := 0, slots := 0, locals := 104 }
set_option maxHeartbeats 4000000 in
set_option maxRecDepth 100000 in
theorem c_X11_isCopied_e (l : Launch) (D : va_G) (Zk : yK) (ca : Nat → ClassId) (T : Nat → Int → Int) (G : Nat → Int → Nat) (u : Int) (ad : Nat → Nat) (w : yW) (hC : CW ca T G u ad w) (k : Int)  (hk : 0 ≤ k ∧ k < T 0 2) : yC l D Zk ca yX11_isCopied cX11_isCopied 6 (some .boolean) r_c_X11_isCopied_e [.ref (ad 0), .ref (G 4 k)] w (vI w (fun z => (z = 1 ∧ (COP T k)) ∨ (z = 0 ∧ (¬ COP T k)))) := by
  refine yC.of2 "WindWords" (by decide) rfl (Nat.le_of_ble_eq_true rfl) ?_
  intro p e s m args below meth c A ls Qf B hnm h hl hQ
  have hl : lv_has ls 6 [(0, .ref (ad 0)), (1, .ref (G 4 k))] := hl
  have hs := pi_s (CW.pi hC)
  have fo1 := CW.rd hC k (by omega)
  refine lv_aload_n B.1 B.2.1 dX11_isCopied_0 rfl (lv_at hl 1 rfl) ?_
  refine y_getR B h kX4 (1000 + 16 * k.toNat + 4) fo1 0 (b := G 1 (T 4 k)) rfl m_515 (by decide) dX11_isCopied_1 ?_
  have tb2 := pi_4 (CW.pi hC) k
  have pn3 := pi_in (CW.pi hC) k (by omega)
  have fo4 := CW.sh hC (T 4 k) (by omega)
  refine lv_aload_n B.1 B.2.1 dX11_isCopied_4 rfl (lv_at hl 1 rfl) ?_
  refine y_getX B h kX4 (1000 + 16 * k.toNat + 4) fo1 1 (z := (T 5 k)) rfl m_519 (by decide) dX11_isCopied_5 ?_
  have tb5 := pi_5 (CW.pi hC) k
  refine x_iconst B dX11_isCopied_8 ?_
  refine x_isub B dX11_isCopied_9 ?_
  refine y_cV B h kX7 (1000 + 16 * ((T 4 k)).toNat + 1) fo4.1 k_X7_readingOn rfl (c_X7_readingOn l D Zk ca T G u ad _ hC (T 4 k) (((T 5 k) - 1))  (by omega) (by omega)) m_502 rfl (by decide) hl.1 [] (Nat.le_of_ble_eq_true rfl) rfl dX11_isCopied_10 (fun r w1 hq H locs h => ?_)
  obtain ⟨rfl, _, rfl, ⟨rfl, cp⟩ | ⟨pq, rfl, cp⟩⟩ := hq
  · show W p l e r_c_X11_isCopied_e s m args below meth c _ _ 0 0 Qf (F0 m 13 ls [.null])
    refine lv_astore_nN (lv' := [(2, .null), (0, .ref (ad 0)), (1, .ref (G 4 k))]) B.1 B.2.1 dX11_isCopied_13 rfl hl (by decide) rfl (fun ls hl => ?_)
    refine lv_aload_nN B.1 B.2.1 dX11_isCopied_14 rfl (lv_at hl 0 rfl) ?_
    refine lv_ifnullN (tgt := 25) B.1 B.2.1 dX11_isCopied_15 (by decide) ?_
    refine x_iconst B dX11_isCopied_25 ?_
    refine y_rz B hQ h (by decide) (by decide) dX11_isCopied_26 ?_
    exact ⟨rfl, _, rfl, Or.inr ⟨rfl, fun hr => by first | exact br (COP_R hr) | (obtain ⟨x, hx, -⟩ := hr; exact PRV_no cp hx) | (obtain ⟨s9, hs9, hd⟩ := COP_of (CW.pi hC) hr cp; exact h2 s9 (by omega) hd)⟩⟩
  · have fo8 := CW.rd hC pq (by omega)
    show W p l e r_c_X11_isCopied_e s m args below meth c _ _ 0 0 Qf (F0 m 13 ls [.ref (G 4 pq)])
    refine lv_astore_n (lv' := [(2, .ref (G 4 pq)), (0, .ref (ad 0)), (1, .ref (G 4 k))]) B.1 B.2.1 dX11_isCopied_13 rfl hl (by decide) rfl (fun ls hl => ?_)
    refine lv_aload_n B.1 B.2.1 dX11_isCopied_14 rfl (lv_at hl 0 rfl) ?_
    refine lv_ifnull B.1 B.2.1 dX11_isCopied_15 ?_
    refine lv_aload_n B.1 B.2.1 dX11_isCopied_18 rfl (lv_at hl 2 rfl) ?_
    refine y_cS B h k_X11_repeats (c_X11_repeats_e l D Zk ca T G u ad _ hC k  (by omega)) m_846 rfl (by decide) hl.1 [] (Nat.le_of_ble_eq_true rfl) rfl dX11_isCopied_19 (fun r w1 hq H locs h => ?_)
    obtain ⟨rfl, _, rfl, ⟨rfl, br⟩ | ⟨rfl, br⟩⟩ := hq
    · show W p l e r_c_X11_isCopied_e s m args below meth c _ _ 0 0 Qf (F0 m 22 ls [.int (iI 1)])
      refine x_if_ne B (by omega) (tgt := 27) dX11_isCopied_22 (by decide) (fun c10 => ?_) (fun c10 => ?_)
      · refine x_iconst B dX11_isCopied_27 ?_
        refine lv_istore_n (lv' := [(3, .int (iI 0)), (2, .ref (G 4 pq)), (0, .ref (ad 0)), (1, .ref (G 4 k))]) B.1 B.2.1 dX11_isCopied_28 rfl hl (by decide) rfl (fun ls hl => ?_)
        have loop29 : ∀ (n29 : Nat) (i : Int), (0 ≤ i ∧ i ≤ 12) → (∀ s9 : Int, 0 ≤ s9 ∧ s9 < i → ¬ DIF T pq k s9) → ((12 - i : Int)).toNat < n29 → ∀ (H : Heap) (locs : List Loc) (ls : Array Slot), yH D Zk A s w H locs → lv_has ls 6 [(3, .int (iI i)), (2, .ref (G 4 pq)), (0, .ref (ad 0)), (1, .ref (G 4 k))] → W p l e r_c_X11_isCopied_e s m args below meth c H locs 0 0 Qf (F0 m 29 ls []) := by
          intro n29
          induction n29 with
          | zero =>
            intro i h0 h2 hm29 H locs ls h hl
            exact absurd hm29 (Nat.not_lt_zero _)
          | succ n29 ih29 =>
            intro i h0 h2 hm29 H locs ls h hl
            refine lv_iload_n B.1 B.2.1 dX11_isCopied_29 rfl (lv_at hl 0 rfl) ?_
            refine lv_aload_n B.1 B.2.1 dX11_isCopied_30 rfl (lv_at hl 2 rfl) ?_
            refine y_getR B h kX11 0 (CW.f hC 0 _ rfl) 0 (b := ad 1) rfl m_361 (by decide) dX11_isCopied_31 ?_
            refine y_getX B h kX0 1 (CW.f hC 1 _ rfl) 4 (z := (T 0 1)) rfl m_143 (by decide) dX11_isCopied_34 ?_
            refine x_icmp_ge B (by omega) (tgt := 98) dX11_isCopied_37 (by decide) (fun c11 => ?_) (fun c11 => ?_)
            · refine x_iconst B dX11_isCopied_98 ?_
              refine y_rz B hQ h (by decide) (by decide) dX11_isCopied_99 ?_
              exact ⟨rfl, _, rfl, Or.inr ⟨rfl, fun hr => by first | exact br (COP_R hr) | (obtain ⟨x, hx, -⟩ := hr; exact PRV_no cp hx) | (obtain ⟨s9, hs9, hd⟩ := COP_of (CW.pi hC) hr cp; exact h2 s9 (by omega) hd)⟩⟩
            · refine lv_aload_n B.1 B.2.1 dX11_isCopied_40 rfl (lv_at hl 2 rfl) ?_
              refine y_getR B h kX11 0 (CW.f hC 0 _ rfl) 0 (b := ad 1) rfl m_361 (by decide) dX11_isCopied_41 ?_
              refine lv_aload_n B.1 B.2.1 dX11_isCopied_44 rfl (lv_at hl 1 rfl) ?_
              refine lv_iload_n B.1 B.2.1 dX11_isCopied_45 rfl (lv_at hl 0 rfl) ?_
              refine y_cV B h kX0 1 (CW.f hC 1 _ rfl) k_X0_mansBeside rfl (c_X0_mansBeside l D Zk ca T G u ad _ hC pq i  (by omega) (by omega)) m_856 rfl (by decide) hl.1 [] (Nat.le_of_ble_eq_true rfl) rfl dX11_isCopied_46 (fun r w1 hq H locs h => ?_)
              obtain ⟨rfl, _, rfl, ⟨rfl, cpa⟩ | ⟨aq, rfl, cpa⟩⟩ := hq
              · show W p l e r_c_X11_isCopied_e s m args below meth c _ _ 0 0 Qf (F0 m 49 ls [.null])
                refine lv_astoreN (lv' := [(4, .null), (3, .int (iI i)), (2, .ref (G 4 pq)), (0, .ref (ad 0)), (1, .ref (G 4 k))]) B.1 B.2.1 dX11_isCopied_49 hl (by decide) rfl (fun ls hl => ?_)
                refine lv_aload_n B.1 B.2.1 dX11_isCopied_51 rfl (lv_at hl 3 rfl) ?_
                refine y_getR B h kX11 0 (CW.f hC 0 _ rfl) 0 (b := ad 1) rfl m_361 (by decide) dX11_isCopied_52 ?_
                refine lv_aload_n B.1 B.2.1 dX11_isCopied_55 rfl (lv_at hl 4 rfl) ?_
                refine lv_iload_n B.1 B.2.1 dX11_isCopied_56 rfl (lv_at hl 1 rfl) ?_
                refine y_cV B h kX0 1 (CW.f hC 1 _ rfl) k_X0_mansBeside rfl (c_X0_mansBeside l D Zk ca T G u ad _ hC k i  (by omega) (by omega)) m_856 rfl (by decide) hl.1 [] (Nat.le_of_ble_eq_true rfl) rfl dX11_isCopied_57 (fun r w1 hq H locs h => ?_)
                obtain ⟨rfl, _, rfl, ⟨rfl, cpb⟩ | ⟨bq, rfl, cpb⟩⟩ := hq
                · show W p l e r_c_X11_isCopied_e s m args below meth c _ _ 0 0 Qf (F0 m 60 ls [.null])
                  refine lv_astoreN (lv' := [(5, .null), (4, .null), (3, .int (iI i)), (2, .ref (G 4 pq)), (0, .ref (ad 0)), (1, .ref (G 4 k))]) B.1 B.2.1 dX11_isCopied_60 hl (by decide) rfl (fun ls hl => ?_)
                  refine lv_aloadN B.1 B.2.1 dX11_isCopied_62 (lv_at hl 1 rfl) ?_
                  refine lv_ifnullN (tgt := 92) B.1 B.2.1 dX11_isCopied_64 (by decide) ?_
                  refine lv_iinc (v := iI (i + 1)) (lv' := [(3, .int (iI (i + 1))), (5, .null), (4, .null), (2, .ref (G 4 pq)), (0, .ref (ad 0)), (1, .ref (G 4 k))]) B.1 B.2.1 dX11_isCopied_92 hl (k := 2) rfl (iI_add _ _) (by decide) rfl (fun ls hl => ?_)
                  refine lv_goto (tgt := 29) B.1 B.2.1 dX11_isCopied_95 (by decide) ?_
                  exact ih29 ((i + 1)) (by omega) (all_next h2 (fun ⟨x, y, hx, hy, hz⟩ => by first | exact cpa x hx.1 hx.2 | exact cpb y hy.1 hy.2 | (have e1 := NR_un (CW.pi hC) hx cpa; have e2 := NR_un (CW.pi hC) hy cpb; subst e1; subst e2; omega))) (by omega) _ _ _ h (lv_sub hl [0, 3, 4, 5] rfl)
                · have fo16 := CW.rd hC bq (by omega)
                  show W p l e r_c_X11_isCopied_e s m args below meth c _ _ 0 0 Qf (F0 m 60 ls [.ref (G 4 bq)])
                  refine lv_astore (lv' := [(5, .ref (G 4 bq)), (4, .null), (3, .int (iI i)), (2, .ref (G 4 pq)), (0, .ref (ad 0)), (1, .ref (G 4 k))]) B.1 B.2.1 dX11_isCopied_60 hl (by decide) rfl (fun ls hl => ?_)
                  refine lv_aloadN B.1 B.2.1 dX11_isCopied_62 (lv_at hl 1 rfl) ?_
                  refine lv_ifnullN (tgt := 92) B.1 B.2.1 dX11_isCopied_64 (by decide) ?_
                  refine lv_iinc (v := iI (i + 1)) (lv' := [(3, .int (iI (i + 1))), (5, .ref (G 4 bq)), (4, .null), (2, .ref (G 4 pq)), (0, .ref (ad 0)), (1, .ref (G 4 k))]) B.1 B.2.1 dX11_isCopied_92 hl (k := 2) rfl (iI_add _ _) (by decide) rfl (fun ls hl => ?_)
                  refine lv_goto (tgt := 29) B.1 B.2.1 dX11_isCopied_95 (by decide) ?_
                  exact ih29 ((i + 1)) (by omega) (all_next h2 (fun ⟨x, y, hx, hy, hz⟩ => by first | exact cpa x hx.1 hx.2 | exact cpb y hy.1 hy.2 | (have e1 := NR_un (CW.pi hC) hx cpa; have e2 := NR_un (CW.pi hC) hy cpb; subst e1; subst e2; omega))) (by omega) _ _ _ h (lv_sub hl [0, 3, 4, 5] rfl)
              · have fo17 := CW.rd hC aq (by omega)
                show W p l e r_c_X11_isCopied_e s m args below meth c _ _ 0 0 Qf (F0 m 49 ls [.ref (G 4 aq)])
                refine lv_astore (lv' := [(4, .ref (G 4 aq)), (3, .int (iI i)), (2, .ref (G 4 pq)), (0, .ref (ad 0)), (1, .ref (G 4 k))]) B.1 B.2.1 dX11_isCopied_49 hl (by decide) rfl (fun ls hl => ?_)
                refine lv_aload_n B.1 B.2.1 dX11_isCopied_51 rfl (lv_at hl 3 rfl) ?_
                refine y_getR B h kX11 0 (CW.f hC 0 _ rfl) 0 (b := ad 1) rfl m_361 (by decide) dX11_isCopied_52 ?_
                refine lv_aload_n B.1 B.2.1 dX11_isCopied_55 rfl (lv_at hl 4 rfl) ?_
                refine lv_iload_n B.1 B.2.1 dX11_isCopied_56 rfl (lv_at hl 1 rfl) ?_
                refine y_cV B h kX0 1 (CW.f hC 1 _ rfl) k_X0_mansBeside rfl (c_X0_mansBeside l D Zk ca T G u ad _ hC k i  (by omega) (by omega)) m_856 rfl (by decide) hl.1 [] (Nat.le_of_ble_eq_true rfl) rfl dX11_isCopied_57 (fun r w1 hq H locs h => ?_)
                obtain ⟨rfl, _, rfl, ⟨rfl, cpb⟩ | ⟨bq, rfl, cpb⟩⟩ := hq
                · show W p l e r_c_X11_isCopied_e s m args below meth c _ _ 0 0 Qf (F0 m 60 ls [.null])
                  refine lv_astoreN (lv' := [(5, .null), (4, .ref (G 4 aq)), (3, .int (iI i)), (2, .ref (G 4 pq)), (0, .ref (ad 0)), (1, .ref (G 4 k))]) B.1 B.2.1 dX11_isCopied_60 hl (by decide) rfl (fun ls hl => ?_)
                  refine lv_aload B.1 B.2.1 dX11_isCopied_62 (lv_at hl 1 rfl) ?_
                  refine lv_ifnull B.1 B.2.1 dX11_isCopied_64 ?_
                  refine lv_aloadN B.1 B.2.1 dX11_isCopied_67 (lv_at hl 0 rfl) ?_
                  refine lv_ifnullN (tgt := 92) B.1 B.2.1 dX11_isCopied_69 (by decide) ?_
                  refine lv_iinc (v := iI (i + 1)) (lv' := [(3, .int (iI (i + 1))), (5, .null), (4, .ref (G 4 aq)), (2, .ref (G 4 pq)), (0, .ref (ad 0)), (1, .ref (G 4 k))]) B.1 B.2.1 dX11_isCopied_92 hl (k := 2) rfl (iI_add _ _) (by decide) rfl (fun ls hl => ?_)
                  refine lv_goto (tgt := 29) B.1 B.2.1 dX11_isCopied_95 (by decide) ?_
                  exact ih29 ((i + 1)) (by omega) (all_next h2 (fun ⟨x, y, hx, hy, hz⟩ => by first | exact cpa x hx.1 hx.2 | exact cpb y hy.1 hy.2 | (have e1 := NR_un (CW.pi hC) hx cpa; have e2 := NR_un (CW.pi hC) hy cpb; subst e1; subst e2; omega))) (by omega) _ _ _ h (lv_sub hl [0, 3, 4, 5] rfl)
                · have fo20 := CW.rd hC bq (by omega)
                  show W p l e r_c_X11_isCopied_e s m args below meth c _ _ 0 0 Qf (F0 m 60 ls [.ref (G 4 bq)])
                  refine lv_astore (lv' := [(5, .ref (G 4 bq)), (4, .ref (G 4 aq)), (3, .int (iI i)), (2, .ref (G 4 pq)), (0, .ref (ad 0)), (1, .ref (G 4 k))]) B.1 B.2.1 dX11_isCopied_60 hl (by decide) rfl (fun ls hl => ?_)
                  refine lv_aload B.1 B.2.1 dX11_isCopied_62 (lv_at hl 1 rfl) ?_
                  refine lv_ifnull B.1 B.2.1 dX11_isCopied_64 ?_
                  refine lv_aload B.1 B.2.1 dX11_isCopied_67 (lv_at hl 0 rfl) ?_
                  refine lv_ifnull B.1 B.2.1 dX11_isCopied_69 ?_
                  refine lv_aload B.1 B.2.1 dX11_isCopied_72 (lv_at hl 0 rfl) ?_
                  refine y_getX B h kX4 (1000 + 16 * bq.toNat + 4) fo20 4 (z := (T 8 bq)) rfl m_532 (by decide) dX11_isCopied_74 ?_
                  have tb21 := pi_8 (CW.pi hC) bq
                  have tb22 := pi_n (CW.pi hC) bq
                  refine lv_aload B.1 B.2.1 dX11_isCopied_77 (lv_at hl 1 rfl) ?_
                  refine y_getX B h kX4 (1000 + 16 * aq.toNat + 4) fo17 4 (z := (T 8 aq)) rfl m_532 (by decide) dX11_isCopied_79 ?_
                  have tb23 := pi_8 (CW.pi hC) aq
                  have tb24 := pi_n (CW.pi hC) aq
                  refine x_isub B dX11_isCopied_82 ?_
                  refine x_abs B (by omega) m_869 m_870 m_106 m_871 hl.1 (Nat.le_of_ble_eq_true rfl) (by decide) dX11_isCopied_83 ?_
                  refine x_iconst B dX11_isCopied_86 ?_
                  refine x_icmp_lt B (by omega) (tgt := 92) dX11_isCopied_87 (by decide) (fun c25 => ?_) (fun c25 => ?_)
                  · refine lv_iinc (v := iI (i + 1)) (lv' := [(3, .int (iI (i + 1))), (5, .ref (G 4 bq)), (4, .ref (G 4 aq)), (2, .ref (G 4 pq)), (0, .ref (ad 0)), (1, .ref (G 4 k))]) B.1 B.2.1 dX11_isCopied_92 hl (k := 2) rfl (iI_add _ _) (by decide) rfl (fun ls hl => ?_)
                    refine lv_goto (tgt := 29) B.1 B.2.1 dX11_isCopied_95 (by decide) ?_
                    exact ih29 ((i + 1)) (by omega) (all_next h2 (fun ⟨x, y, hx, hy, hz⟩ => by first | exact cpa x hx.1 hx.2 | exact cpb y hy.1 hy.2 | (have e1 := NR_un (CW.pi hC) hx cpa; have e2 := NR_un (CW.pi hC) hy cpb; subst e1; subst e2; omega))) (by omega) _ _ _ h (lv_sub hl [0, 3, 4, 5] rfl)
                  · refine x_iconst B dX11_isCopied_90 ?_
                    refine y_rz B hQ h (by decide) (by decide) dX11_isCopied_91 ?_
                    exact ⟨rfl, _, rfl, Or.inl ⟨rfl, pq, cp, (REP_of (CW.pi hC) br cp).1, (REP_of (CW.pi hC) br cp).2, i, by omega, aq, bq, cpa, cpb, by omega⟩⟩
        exact loop29 (((12 - 0 : Int)).toNat + 1) 0 (by omega) (fun s9 hs9 => absurd hs9 (by omega)) (Nat.lt_succ_self _) _ _ _ h (lv_sub hl [0, 1, 2, 3] rfl)
      · exact absurd c10 (by omega)
    · show W p l e r_c_X11_isCopied_e s m args below meth c _ _ 0 0 Qf (F0 m 22 ls [.int (iI 0)])
      refine x_if_ne B (by omega) (tgt := 27) dX11_isCopied_22 (by decide) (fun c26 => ?_) (fun c26 => ?_)
      · exact absurd c26 (by omega)
      · refine x_iconst B dX11_isCopied_25 ?_
        refine y_rz B hQ h (by decide) (by decide) dX11_isCopied_26 ?_
        exact ⟨rfl, _, rfl, Or.inr ⟨rfl, fun hr => by first | exact br (COP_R hr) | (obtain ⟨x, hx, -⟩ := hr; exact PRV_no cp hx) | (obtain ⟨s9, hs9, hd⟩ := COP_of (CW.pi hC) hr cp; exact h2 s9 (by omega) hd)⟩⟩
abbrev r_c_X11_reading_e : Room := { frames := 6, cells := 0, slots := 0, locals := 129 }
set_option maxHeartbeats 4000000 in
set_option maxRecDepth 100000 in
theorem c_X11_reading_e (l : Launch) (D : va_G) (Zk : yK) (ca : Nat → ClassId) (T : Nat → Int → Int) (G : Nat → Int → Nat) (u : Int) (ad : Nat → Nat) (w : yW) (hC : CW ca T G u ad w) (k : Int) (what : Int)  (hk : xr k) (hwhat : xr what) : yC l D Zk ca yX11_reading cX11_reading 4 (some .int) r_c_X11_reading_e [.ref (ad 0), .int (iI k), .int (iI what)] w (vI w (fun z => xr z ∧ RDG T k what z)) := by
  refine yC.of2 "WindWords" (by decide) rfl (Nat.le_of_ble_eq_true rfl) ?_
  intro p e s m args below meth c A ls Qf B hnm h hl hQ
  have hl : lv_has ls 4 [(0, .ref (ad 0)), (1, .int (iI k)), (2, .int (iI what))] := hl
  have hs := pi_s (CW.pi hC)
  refine lv_aload_n B.1 B.2.1 dX11_reading_0 rfl (lv_at hl 0 rfl) ?_
  refine y_getR B h kX11 0 (CW.f hC 0 _ rfl) 0 (b := ad 1) rfl m_361 (by decide) dX11_reading_1 ?_
  refine lv_iload_n B.1 B.2.1 dX11_reading_4 rfl (lv_at hl 1 rfl) ?_
  refine y_cV B h kX0 1 (CW.f hC 1 _ rfl) k_X0_readingAt rfl (c_X0_readingAt l D Zk ca T G u ad _ hC k  (by omega)) m_830 rfl (by decide) hl.1 [] (Nat.le_of_ble_eq_true rfl) rfl dX11_reading_5 (fun r w1 hq H locs h => ?_)
  obtain ⟨rfl, _, rfl, ⟨rfl, q1⟩ | ⟨rfl, q1⟩⟩ := hq
  · show W p l e r_c_X11_reading_e s m args below meth c _ _ 0 0 Qf (F0 m 8 ls [.null])
    refine lv_astore_nN (lv' := [(3, .null), (0, .ref (ad 0)), (1, .int (iI k)), (2, .int (iI what))]) B.1 B.2.1 dX11_reading_8 rfl hl (by decide) rfl (fun ls hl => ?_)
    refine lv_aload_nN B.1 B.2.1 dX11_reading_9 rfl (lv_at hl 0 rfl) ?_
    refine lv_ifnonnullN B.1 B.2.1 dX11_reading_10 ?_
    refine x_iconst B dX11_reading_13 ?_
    refine y_ri B hQ h (by decide) dX11_reading_14 ?_
    exact ⟨rfl, _, rfl, by omega, Or.inl ⟨by omega, rfl⟩⟩
  · have fo2 := CW.rd hC k (by omega)
    show W p l e r_c_X11_reading_e s m args below meth c _ _ 0 0 Qf (F0 m 8 ls [.ref (G 4 k)])
    refine lv_astore_n (lv' := [(3, .ref (G 4 k)), (0, .ref (ad 0)), (1, .int (iI k)), (2, .int (iI what))]) B.1 B.2.1 dX11_reading_8 rfl hl (by decide) rfl (fun ls hl => ?_)
    refine lv_aload_n B.1 B.2.1 dX11_reading_9 rfl (lv_at hl 0 rfl) ?_
    refine lv_ifnonnull (tgt := 15) B.1 B.2.1 dX11_reading_10 (by decide) ?_
    refine lv_iload_n B.1 B.2.1 dX11_reading_15 rfl (lv_at hl 3 rfl) ?_
    by_cases t3 : what = 0
    · refine x_tin B (tgt := 68) 0 (by omega) dX11_reading_16 rfl (by decide) ?_
      refine lv_aload_n B.1 B.2.1 dX11_reading_68 rfl (lv_at hl 0 rfl) ?_
      refine y_getR B h kX4 (1000 + 16 * k.toNat + 4) fo2 0 (b := G 1 (T 4 k)) rfl m_515 (by decide) dX11_reading_69 ?_
      have tb4 := pi_4 (CW.pi hC) k
      have pn5 := pi_in (CW.pi hC) k (by omega)
      have fo6 := CW.sh hC (T 4 k) (by omega)
      refine y_getX B h kX7 (1000 + 16 * ((T 4 k)).toNat + 1) fo6.1 0 (z := (T 4 k)) rfl m_458 (by decide) dX11_reading_72 ?_
      refine y_ri B hQ h (by decide) dX11_reading_75 ?_
      exact ⟨rfl, _, rfl, by omega, Or.inr ⟨by omega, by first | exact Or.inl ⟨by omega, rfl⟩ | exact Or.inr (Or.inl ⟨by omega, rfl⟩) | exact Or.inr (Or.inr (Or.inl ⟨by omega, rfl⟩)) | exact Or.inr (Or.inr (Or.inr (Or.inl ⟨by omega, rfl⟩))) | exact Or.inr (Or.inr (Or.inr (Or.inr (Or.inl ⟨by omega, rfl⟩)))) | exact Or.inr (Or.inr (Or.inr (Or.inr (Or.inr (Or.inl ⟨by omega, rfl⟩))))) | exact Or.inr (Or.inr (Or.inr (Or.inr (Or.inr (Or.inr (Or.inl ⟨by omega, rfl⟩)))))) | exact Or.inr (Or.inr (Or.inr (Or.inr (Or.inr (Or.inr (Or.inr (Or.inl ⟨by omega, rfl⟩)))))))⟩⟩
    by_cases t7 : what = 1
    · refine x_tin B (tgt := 76) 1 (by omega) dX11_reading_16 rfl (by decide) ?_
      refine lv_aload_n B.1 B.2.1 dX11_reading_76 rfl (lv_at hl 0 rfl) ?_
      refine y_getX B h kX4 (1000 + 16 * k.toNat + 4) fo2 1 (z := (T 5 k)) rfl m_519 (by decide) dX11_reading_77 ?_
      have tb8 := pi_5 (CW.pi hC) k
      refine y_ri B hQ h (by decide) dX11_reading_80 ?_
      exact ⟨rfl, _, rfl, by omega, Or.inr ⟨by omega, by first | exact Or.inl ⟨by omega, rfl⟩ | exact Or.inr (Or.inl ⟨by omega, rfl⟩) | exact Or.inr (Or.inr (Or.inl ⟨by omega, rfl⟩)) | exact Or.inr (Or.inr (Or.inr (Or.inl ⟨by omega, rfl⟩))) | exact Or.inr (Or.inr (Or.inr (Or.inr (Or.inl ⟨by omega, rfl⟩)))) | exact Or.inr (Or.inr (Or.inr (Or.inr (Or.inr (Or.inl ⟨by omega, rfl⟩))))) | exact Or.inr (Or.inr (Or.inr (Or.inr (Or.inr (Or.inr (Or.inl ⟨by omega, rfl⟩)))))) | exact Or.inr (Or.inr (Or.inr (Or.inr (Or.inr (Or.inr (Or.inr (Or.inl ⟨by omega, rfl⟩)))))))⟩⟩
    by_cases t9 : what = 2
    · refine x_tin B (tgt := 81) 2 (by omega) dX11_reading_16 rfl (by decide) ?_
      refine lv_aload_n B.1 B.2.1 dX11_reading_81 rfl (lv_at hl 0 rfl) ?_
      refine y_getX B h kX4 (1000 + 16 * k.toNat + 4) fo2 2 (z := (T 6 k)) rfl m_523 (by decide) dX11_reading_82 ?_
      have tb10 := pi_6 (CW.pi hC) k
      refine y_ri B hQ h (by decide) dX11_reading_85 ?_
      exact ⟨rfl, _, rfl, by omega, Or.inr ⟨by omega, by first | exact Or.inl ⟨by omega, rfl⟩ | exact Or.inr (Or.inl ⟨by omega, rfl⟩) | exact Or.inr (Or.inr (Or.inl ⟨by omega, rfl⟩)) | exact Or.inr (Or.inr (Or.inr (Or.inl ⟨by omega, rfl⟩))) | exact Or.inr (Or.inr (Or.inr (Or.inr (Or.inl ⟨by omega, rfl⟩)))) | exact Or.inr (Or.inr (Or.inr (Or.inr (Or.inr (Or.inl ⟨by omega, rfl⟩))))) | exact Or.inr (Or.inr (Or.inr (Or.inr (Or.inr (Or.inr (Or.inl ⟨by omega, rfl⟩)))))) | exact Or.inr (Or.inr (Or.inr (Or.inr (Or.inr (Or.inr (Or.inr (Or.inl ⟨by omega, rfl⟩)))))))⟩⟩
    by_cases t11 : what = 3
    · refine x_tin B (tgt := 86) 3 (by omega) dX11_reading_16 rfl (by decide) ?_
      refine lv_aload_n B.1 B.2.1 dX11_reading_86 rfl (lv_at hl 0 rfl) ?_
      refine y_getX B h kX4 (1000 + 16 * k.toNat + 4) fo2 3 (z := (T 7 k)) rfl m_527 (by decide) dX11_reading_87 ?_
      have tb12 := pi_7 (CW.pi hC) k
      refine y_ri B hQ h (by decide) dX11_reading_90 ?_
      exact ⟨rfl, _, rfl, by omega, Or.inr ⟨by omega, by first | exact Or.inl ⟨by omega, rfl⟩ | exact Or.inr (Or.inl ⟨by omega, rfl⟩) | exact Or.inr (Or.inr (Or.inl ⟨by omega, rfl⟩)) | exact Or.inr (Or.inr (Or.inr (Or.inl ⟨by omega, rfl⟩))) | exact Or.inr (Or.inr (Or.inr (Or.inr (Or.inl ⟨by omega, rfl⟩)))) | exact Or.inr (Or.inr (Or.inr (Or.inr (Or.inr (Or.inl ⟨by omega, rfl⟩))))) | exact Or.inr (Or.inr (Or.inr (Or.inr (Or.inr (Or.inr (Or.inl ⟨by omega, rfl⟩)))))) | exact Or.inr (Or.inr (Or.inr (Or.inr (Or.inr (Or.inr (Or.inr (Or.inl ⟨by omega, rfl⟩)))))))⟩⟩
    by_cases t13 : what = 4
    · refine x_tin B (tgt := 91) 4 (by omega) dX11_reading_16 rfl (by decide) ?_
      refine lv_aload_n B.1 B.2.1 dX11_reading_91 rfl (lv_at hl 0 rfl) ?_
      refine y_getX B h kX4 (1000 + 16 * k.toNat + 4) fo2 4 (z := (T 8 k)) rfl m_532 (by decide) dX11_reading_92 ?_
      have tb14 := pi_8 (CW.pi hC) k
      have tb15 := pi_n (CW.pi hC) k
      refine y_ri B hQ h (by decide) dX11_reading_95 ?_
      exact ⟨rfl, _, rfl, by omega, Or.inr ⟨by omega, by first | exact Or.inl ⟨by omega, rfl⟩ | exact Or.inr (Or.inl ⟨by omega, rfl⟩) | exact Or.inr (Or.inr (Or.inl ⟨by omega, rfl⟩)) | exact Or.inr (Or.inr (Or.inr (Or.inl ⟨by omega, rfl⟩))) | exact Or.inr (Or.inr (Or.inr (Or.inr (Or.inl ⟨by omega, rfl⟩)))) | exact Or.inr (Or.inr (Or.inr (Or.inr (Or.inr (Or.inl ⟨by omega, rfl⟩))))) | exact Or.inr (Or.inr (Or.inr (Or.inr (Or.inr (Or.inr (Or.inl ⟨by omega, rfl⟩)))))) | exact Or.inr (Or.inr (Or.inr (Or.inr (Or.inr (Or.inr (Or.inr (Or.inl ⟨by omega, rfl⟩)))))))⟩⟩
    by_cases t16 : what = 5
    · refine x_tin B (tgt := 96) 5 (by omega) dX11_reading_16 rfl (by decide) ?_
      refine lv_aload_n B.1 B.2.1 dX11_reading_96 rfl (lv_at hl 0 rfl) ?_
      refine y_getX B h kX4 (1000 + 16 * k.toNat + 4) fo2 5 (z := (T 9 k)) rfl m_534 (by decide) dX11_reading_97 ?_
      have tb17 := pi_9 (CW.pi hC) k
      refine y_ri B hQ h (by decide) dX11_reading_100 ?_
      exact ⟨rfl, _, rfl, by omega, Or.inr ⟨by omega, by first | exact Or.inl ⟨by omega, rfl⟩ | exact Or.inr (Or.inl ⟨by omega, rfl⟩) | exact Or.inr (Or.inr (Or.inl ⟨by omega, rfl⟩)) | exact Or.inr (Or.inr (Or.inr (Or.inl ⟨by omega, rfl⟩))) | exact Or.inr (Or.inr (Or.inr (Or.inr (Or.inl ⟨by omega, rfl⟩)))) | exact Or.inr (Or.inr (Or.inr (Or.inr (Or.inr (Or.inl ⟨by omega, rfl⟩))))) | exact Or.inr (Or.inr (Or.inr (Or.inr (Or.inr (Or.inr (Or.inl ⟨by omega, rfl⟩)))))) | exact Or.inr (Or.inr (Or.inr (Or.inr (Or.inr (Or.inr (Or.inr (Or.inl ⟨by omega, rfl⟩)))))))⟩⟩
    by_cases t18 : what = 6
    · refine x_tin B (tgt := 101) 6 (by omega) dX11_reading_16 rfl (by decide) ?_
      refine lv_aload_n B.1 B.2.1 dX11_reading_101 rfl (lv_at hl 0 rfl) ?_
      refine y_getX B h kX4 (1000 + 16 * k.toNat + 4) fo2 6 (z := (T 10 k)) rfl m_536 (by decide) dX11_reading_102 ?_
      have tb19 := pi_10 (CW.pi hC) k
      refine y_ri B hQ h (by decide) dX11_reading_105 ?_
      exact ⟨rfl, _, rfl, by omega, Or.inr ⟨by omega, by first | exact Or.inl ⟨by omega, rfl⟩ | exact Or.inr (Or.inl ⟨by omega, rfl⟩) | exact Or.inr (Or.inr (Or.inl ⟨by omega, rfl⟩)) | exact Or.inr (Or.inr (Or.inr (Or.inl ⟨by omega, rfl⟩))) | exact Or.inr (Or.inr (Or.inr (Or.inr (Or.inl ⟨by omega, rfl⟩)))) | exact Or.inr (Or.inr (Or.inr (Or.inr (Or.inr (Or.inl ⟨by omega, rfl⟩))))) | exact Or.inr (Or.inr (Or.inr (Or.inr (Or.inr (Or.inr (Or.inl ⟨by omega, rfl⟩)))))) | exact Or.inr (Or.inr (Or.inr (Or.inr (Or.inr (Or.inr (Or.inr (Or.inl ⟨by omega, rfl⟩)))))))⟩⟩
    by_cases t20 : what = 7
    · refine x_tin B (tgt := 106) 7 (by omega) dX11_reading_16 rfl (by decide) ?_
      refine lv_aload_n B.1 B.2.1 dX11_reading_106 rfl (lv_at hl 0 rfl) ?_
      refine y_cV B h kX4 (1000 + 16 * k.toNat + 4) fo2 k_X4_writer rfl (c_X4_writer l D Zk ca T G u ad _ hC k  (by omega)) m_834 rfl (by decide) hl.1 [] (Nat.le_of_ble_eq_true rfl) rfl dX11_reading_107 (fun r w1 hq H locs h => ?_)
      obtain ⟨rfl, _, rfl, rfl⟩ := hq
      have tb21 := pi_3 (CW.pi hC) (1000 * T 4 k + T 5 k)
      show W p l e r_c_X11_reading_e s m args below meth c _ _ 0 0 Qf (F0 m 110 ls [.int (iI (T 3 (1000 * T 4 k + T 5 k)))])
      refine y_ri B hQ h (by decide) dX11_reading_110 ?_
      exact ⟨rfl, _, rfl, by omega, Or.inr ⟨by omega, by first | exact Or.inl ⟨by omega, rfl⟩ | exact Or.inr (Or.inl ⟨by omega, rfl⟩) | exact Or.inr (Or.inr (Or.inl ⟨by omega, rfl⟩)) | exact Or.inr (Or.inr (Or.inr (Or.inl ⟨by omega, rfl⟩))) | exact Or.inr (Or.inr (Or.inr (Or.inr (Or.inl ⟨by omega, rfl⟩)))) | exact Or.inr (Or.inr (Or.inr (Or.inr (Or.inr (Or.inl ⟨by omega, rfl⟩))))) | exact Or.inr (Or.inr (Or.inr (Or.inr (Or.inr (Or.inr (Or.inl ⟨by omega, rfl⟩)))))) | exact Or.inr (Or.inr (Or.inr (Or.inr (Or.inr (Or.inr (Or.inr (Or.inl ⟨by omega, rfl⟩)))))))⟩⟩
    by_cases t22 : what = 8
    · refine x_tin B (tgt := 111) 8 (by omega) dX11_reading_16 rfl (by decide) ?_
      refine lv_aload_n B.1 B.2.1 dX11_reading_111 rfl (lv_at hl 1 rfl) ?_
      refine lv_aload_n B.1 B.2.1 dX11_reading_112 rfl (lv_at hl 0 rfl) ?_
      refine y_cV B h kX11 0 (CW.f hC 0 _ rfl) k_X11_isCopied rfl (c_X11_isCopied_e l D Zk ca T G u ad _ hC k  (by omega)) m_842 rfl (by decide) hl.1 [] (Nat.le_of_ble_eq_true rfl) rfl dX11_reading_113 (fun r w1 hq H locs h => ?_)
      obtain ⟨rfl, _, rfl, ⟨rfl, bc⟩ | ⟨rfl, bc⟩⟩ := hq
      · show W p l e r_c_X11_reading_e s m args below meth c _ _ 0 0 Qf (F0 m 116 ls [.int (iI 1)])
        refine x_if_eq B (by omega) (tgt := 123) dX11_reading_116 (by decide) (fun c24 => ?_) (fun c24 => ?_)
        · exact absurd c24 (by omega)
        · refine x_iconst B dX11_reading_119 ?_
          refine lv_goto (tgt := 124) B.1 B.2.1 dX11_reading_120 (by decide) ?_
          refine y_ri B hQ h (by decide) dX11_reading_124 ?_
          exact ⟨rfl, _, rfl, by omega, Or.inr ⟨by omega, Or.inr (Or.inr (Or.inr (Or.inr (Or.inr (Or.inr (Or.inr (Or.inr ⟨by omega, ite1 bc⟩)))))))⟩⟩
      · show W p l e r_c_X11_reading_e s m args below meth c _ _ 0 0 Qf (F0 m 116 ls [.int (iI 0)])
        refine x_if_eq B (by omega) (tgt := 123) dX11_reading_116 (by decide) (fun c25 => ?_) (fun c25 => ?_)
        · refine x_iconst B dX11_reading_123 ?_
          refine y_ri B hQ h (by decide) dX11_reading_124 ?_
          exact ⟨rfl, _, rfl, by omega, Or.inr ⟨by omega, Or.inr (Or.inr (Or.inr (Or.inr (Or.inr (Or.inr (Or.inr (Or.inr ⟨by omega, ite0 bc⟩)))))))⟩⟩
        · exact absurd c25 (by omega)
    refine x_tout B (tgt := 125) (by omega) dX11_reading_16 (by decide) ?_
    refine x_iconst B dX11_reading_125 ?_
    refine y_ri B hQ h (by decide) dX11_reading_126 ?_
    exact ⟨rfl, _, rfl, by omega, Or.inl ⟨by omega, rfl⟩⟩
abbrev r_c_X11_copied_e : Room := { frames := 6, cells := 0, slots := 0, locals := 129 }
set_option maxHeartbeats 4000000 in
set_option maxRecDepth 100000 in
theorem c_X11_copied_e (l : Launch) (D : va_G) (Zk : yK) (ca : Nat → ClassId) (T : Nat → Int → Int) (G : Nat → Int → Nat) (u : Int) (ad : Nat → Nat) (w : yW) (hC : CW ca T G u ad w) (ship : Int) (what : Int)  (hship : xr ship) (hwhat : xr what) : yC l D Zk ca yX11_copied cX11_copied 6 (some .int) r_c_X11_copied_e [.ref (ad 0), .int (iI ship), .int (iI what)] w (vI w (fun z => xr z ∧ CPZ T ship what z)) := by
  refine yC.of2 "WindWords" (by decide) rfl (Nat.le_of_ble_eq_true rfl) ?_
  intro p e s m args below meth c A ls Qf B hnm h hl hQ
  have hl : lv_has ls 6 [(0, .ref (ad 0)), (1, .int (iI ship)), (2, .int (iI what))] := hl
  have hs := pi_s (CW.pi hC)
  refine lv_aload_n B.1 B.2.1 dX11_copied_0 rfl (lv_at hl 0 rfl) ?_
  refine y_getR B h kX11 0 (CW.f hC 0 _ rfl) 0 (b := ad 1) rfl m_361 (by decide) dX11_copied_1 ?_
  refine lv_iload_n B.1 B.2.1 dX11_copied_4 rfl (lv_at hl 1 rfl) ?_
  refine y_cV B h kX0 1 (CW.f hC 1 _ rfl) k_X0_shipAt rfl (c_X0_shipAt l D Zk ca T G u ad _ hC ship  (by omega)) m_481 rfl (by decide) hl.1 [] (Nat.le_of_ble_eq_true rfl) rfl dX11_copied_5 (fun r w1 hq H locs h => ?_)
  obtain ⟨rfl, _, rfl, ⟨rfl, q1⟩ | ⟨rfl, q1⟩⟩ := hq
  · show W p l e r_c_X11_copied_e s m args below meth c _ _ 0 0 Qf (F0 m 8 ls [.null])
    refine lv_ifnullN (tgt := 19) B.1 B.2.1 dX11_copied_8 (by decide) ?_
    refine x_iconst B dX11_copied_19 ?_
    refine y_ri B hQ h (by decide) dX11_copied_20 ?_
    exact ⟨rfl, _, rfl, by omega, Or.inl ⟨by omega, rfl⟩⟩
  · have fo2 := CW.sh hC ship (by omega)
    show W p l e r_c_X11_copied_e s m args below meth c _ _ 0 0 Qf (F0 m 8 ls [.ref (G 1 ship)])
    refine lv_ifnull B.1 B.2.1 dX11_copied_8 ?_
    refine lv_iload_n B.1 B.2.1 dX11_copied_11 rfl (lv_at hl 2 rfl) ?_
    refine x_iconst B dX11_copied_12 ?_
    refine y_cS B h k_X11_within (c_X11_within l D Zk ca _ what 2  (by omega) (by omega)) m_431 rfl (by decide) hl.1 [] (Nat.le_of_ble_eq_true rfl) rfl dX11_copied_13 (fun r w1 hq H locs h => ?_)
    obtain ⟨rfl, _, rfl, ⟨rfl, b3⟩ | ⟨rfl, b3⟩⟩ := hq
    · show W p l e r_c_X11_copied_e s m args below meth c _ _ 0 0 Qf (F0 m 16 ls [.int (iI 1)])
      refine x_if_ne B (by omega) (tgt := 21) dX11_copied_16 (by decide) (fun c4 => ?_) (fun c4 => ?_)
      · refine x_iconst B dX11_copied_21 ?_
        refine lv_istore_n (lv' := [(3, .int (iI 0)), (0, .ref (ad 0)), (1, .int (iI ship)), (2, .int (iI what))]) B.1 B.2.1 dX11_copied_22 rfl hl (by decide) rfl (fun ls hl => ?_)
        refine x_iconst B dX11_copied_23 ?_
        refine lv_istore (lv' := [(4, .int (iI 0)), (3, .int (iI 0)), (0, .ref (ad 0)), (1, .int (iI ship)), (2, .int (iI what))]) B.1 B.2.1 dX11_copied_24 hl (by decide) rfl (fun ls hl => ?_)
        have loop26 : ∀ (n26 : Nat) (m_ : Int) (k : Int), (0 ≤ m_ ∧ m_ ≤ k) → (0 ≤ k ∧ k ≤ T 0 2) → (m_ = cntp (CPD T ship what) k.toNat) → ((300 - k : Int)).toNat < n26 → ∀ (H : Heap) (locs : List Loc) (ls : Array Slot), yH D Zk A s w H locs → lv_has ls 6 [(4, .int (iI k)), (3, .int (iI m_)), (0, .ref (ad 0)), (1, .int (iI ship)), (2, .int (iI what))] → W p l e r_c_X11_copied_e s m args below meth c H locs 0 0 Qf (F0 m 26 ls []) := by
          intro n26
          induction n26 with
          | zero =>
            intro m_ k h0 h1 h2 hm26 H locs ls h hl
            exact absurd hm26 (Nat.not_lt_zero _)
          | succ n26 ih26 =>
            intro m_ k h0 h1 h2 hm26 H locs ls h hl
            refine lv_iload B.1 B.2.1 dX11_copied_26 (lv_at hl 0 rfl) ?_
            refine lv_aload_n B.1 B.2.1 dX11_copied_28 rfl (lv_at hl 2 rfl) ?_
            refine y_getR B h kX11 0 (CW.f hC 0 _ rfl) 0 (b := ad 1) rfl m_361 (by decide) dX11_copied_29 ?_
            refine y_getX B h kX0 1 (CW.f hC 1 _ rfl) 5 (z := (T 0 2)) rfl m_149 (by decide) dX11_copied_32 ?_
            refine x_icmp_ge B (by omega) (tgt := 115) dX11_copied_35 (by decide) (fun c5 => ?_) (fun c5 => ?_)
            · refine lv_iload_n B.1 B.2.1 dX11_copied_115 rfl (lv_at hl 1 rfl) ?_
              refine y_ri B hQ h (by decide) dX11_copied_116 ?_
              have e9 : k = T 0 2 := by omega
              rw [e9] at h2
              exact ⟨rfl, _, rfl, by omega, Or.inr ⟨by omega, h2⟩⟩
            · refine lv_aload_n B.1 B.2.1 dX11_copied_38 rfl (lv_at hl 2 rfl) ?_
              refine y_getR B h kX11 0 (CW.f hC 0 _ rfl) 0 (b := ad 1) rfl m_361 (by decide) dX11_copied_39 ?_
              refine lv_iload B.1 B.2.1 dX11_copied_42 (lv_at hl 0 rfl) ?_
              refine y_cV B h kX0 1 (CW.f hC 1 _ rfl) k_X0_readingAt rfl (c_X0_readingAt l D Zk ca T G u ad _ hC k  (by omega)) m_830 rfl (by decide) hl.1 [] (Nat.le_of_ble_eq_true rfl) rfl dX11_copied_44 (fun r w1 hq H locs h => ?_)
              obtain ⟨rfl, _, rfl, ⟨rfl, q6⟩ | ⟨rfl, q6⟩⟩ := hq
              · show W p l e r_c_X11_copied_e s m args below meth c _ _ 0 0 Qf (F0 m 47 ls [.null])
                refine lv_astoreN (lv' := [(5, .null), (4, .int (iI k)), (3, .int (iI m_)), (0, .ref (ad 0)), (1, .int (iI ship)), (2, .int (iI what))]) B.1 B.2.1 dX11_copied_47 hl (by decide) rfl (fun ls hl => ?_)
                refine lv_aloadN B.1 B.2.1 dX11_copied_49 (lv_at hl 0 rfl) ?_
                refine lv_ifnullN (tgt := 109) B.1 B.2.1 dX11_copied_51 (by decide) ?_
                refine lv_iinc (v := iI (k + 1)) (lv' := [(4, .int (iI (k + 1))), (5, .null), (3, .int (iI m_)), (0, .ref (ad 0)), (1, .int (iI ship)), (2, .int (iI what))]) B.1 B.2.1 dX11_copied_109 hl (k := 1) rfl (iI_add _ _) (by decide) rfl (fun ls hl => ?_)
                refine lv_goto (tgt := 26) B.1 B.2.1 dX11_copied_112 (by decide) ?_
                exact ih26 m_ ((k + 1)) (by omega) (by omega) (cntp_next (by omega) h2 (Or.inr ⟨fun ⟨e, hh⟩ => by first | omega | (rcases hh with ⟨q, f⟩ | ⟨q, f⟩ | ⟨q, f⟩ <;> first | omega | contradiction), rfl⟩)) (by omega) _ _ _ h (lv_sub hl [0, 2, 3, 4, 5] rfl)
              · have fo7 := CW.rd hC k (by omega)
                show W p l e r_c_X11_copied_e s m args below meth c _ _ 0 0 Qf (F0 m 47 ls [.ref (G 4 k)])
                refine lv_astore (lv' := [(5, .ref (G 4 k)), (4, .int (iI k)), (3, .int (iI m_)), (0, .ref (ad 0)), (1, .int (iI ship)), (2, .int (iI what))]) B.1 B.2.1 dX11_copied_47 hl (by decide) rfl (fun ls hl => ?_)
                refine lv_aload B.1 B.2.1 dX11_copied_49 (lv_at hl 0 rfl) ?_
                refine lv_ifnull B.1 B.2.1 dX11_copied_51 ?_
                refine lv_aload B.1 B.2.1 dX11_copied_54 (lv_at hl 0 rfl) ?_
                refine y_getR B h kX4 (1000 + 16 * k.toNat + 4) fo7 0 (b := G 1 (T 4 k)) rfl m_515 (by decide) dX11_copied_56 ?_
                have tb8 := pi_4 (CW.pi hC) k
                have pn9 := pi_in (CW.pi hC) k (by omega)
                have fo10 := CW.sh hC (T 4 k) (by omega)
                refine y_getX B h kX7 (1000 + 16 * ((T 4 k)).toNat + 1) fo10.1 0 (z := (T 4 k)) rfl m_458 (by decide) dX11_copied_59 ?_
                refine lv_iload_n B.1 B.2.1 dX11_copied_62 rfl (lv_at hl 4 rfl) ?_
                refine x_icmp_ne B (by omega) (tgt := 109) dX11_copied_63 (by decide) (fun c11 => ?_) (fun c11 => ?_)
                · refine lv_iinc (v := iI (k + 1)) (lv' := [(4, .int (iI (k + 1))), (5, .ref (G 4 k)), (3, .int (iI m_)), (0, .ref (ad 0)), (1, .int (iI ship)), (2, .int (iI what))]) B.1 B.2.1 dX11_copied_109 hl (k := 1) rfl (iI_add _ _) (by decide) rfl (fun ls hl => ?_)
                  refine lv_goto (tgt := 26) B.1 B.2.1 dX11_copied_112 (by decide) ?_
                  exact ih26 m_ ((k + 1)) (by omega) (by omega) (cntp_next (by omega) h2 (Or.inr ⟨fun ⟨e, hh⟩ => by first | omega | (rcases hh with ⟨q, f⟩ | ⟨q, f⟩ | ⟨q, f⟩ <;> first | omega | contradiction), rfl⟩)) (by omega) _ _ _ h (lv_sub hl [0, 2, 3, 4, 5] rfl)
                · refine lv_iload_n B.1 B.2.1 dX11_copied_66 rfl (lv_at hl 5 rfl) ?_
                  refine x_if_ne B (by omega) (tgt := 81) dX11_copied_67 (by decide) (fun c12 => ?_) (fun c12 => ?_)
                  · refine lv_iload_n B.1 B.2.1 dX11_copied_81 rfl (lv_at hl 5 rfl) ?_
                    refine x_iconst B dX11_copied_82 ?_
                    refine x_icmp_ne B (by omega) (tgt := 97) dX11_copied_83 (by decide) (fun c13 => ?_) (fun c13 => ?_)
                    · refine lv_aload_n B.1 B.2.1 dX11_copied_97 rfl (lv_at hl 3 rfl) ?_
                      refine lv_aload B.1 B.2.1 dX11_copied_98 (lv_at hl 0 rfl) ?_
                      refine y_cV B h kX11 0 (CW.f hC 0 _ rfl) k_X11_isCopied rfl (c_X11_isCopied_e l D Zk ca T G u ad _ hC k  (by omega)) m_842 rfl (by decide) hl.1 [] (Nat.le_of_ble_eq_true rfl) rfl dX11_copied_100 (fun r w1 hq H locs h => ?_)
                      obtain ⟨rfl, _, rfl, ⟨rfl, b14⟩ | ⟨rfl, b14⟩⟩ := hq
                      · show W p l e r_c_X11_copied_e s m args below meth c _ _ 0 0 Qf (F0 m 103 ls [.int (iI 1)])
                        refine x_if_eq B (by omega) (tgt := 109) dX11_copied_103 (by decide) (fun c15 => ?_) (fun c15 => ?_)
                        · exact absurd c15 (by omega)
                        · refine lv_iinc (v := iI (m_ + 1)) (lv' := [(3, .int (iI (m_ + 1))), (5, .ref (G 4 k)), (4, .int (iI k)), (0, .ref (ad 0)), (1, .int (iI ship)), (2, .int (iI what))]) B.1 B.2.1 dX11_copied_106 hl (k := 2) rfl (iI_add _ _) (by decide) rfl (fun ls hl => ?_)
                          refine lv_iinc (v := iI (k + 1)) (lv' := [(4, .int (iI (k + 1))), (3, .int (iI (m_ + 1))), (5, .ref (G 4 k)), (0, .ref (ad 0)), (1, .int (iI ship)), (2, .int (iI what))]) B.1 B.2.1 dX11_copied_109 hl (k := 2) rfl (iI_add _ _) (by decide) rfl (fun ls hl => ?_)
                          refine lv_goto (tgt := 26) B.1 B.2.1 dX11_copied_112 (by decide) ?_
                          exact ih26 ((m_ + 1)) ((k + 1)) (by omega) (by omega) (cntp_next (by omega) h2 (Or.inl ⟨⟨by omega, by first | exact Or.inl ⟨by omega, by assumption⟩ | exact Or.inr (Or.inl ⟨by omega, by assumption⟩) | exact Or.inr (Or.inr ⟨by omega, by assumption⟩)⟩, rfl⟩)) (by omega) _ _ _ h (lv_sub hl [0, 1, 3, 4, 5] rfl)
                      · show W p l e r_c_X11_copied_e s m args below meth c _ _ 0 0 Qf (F0 m 103 ls [.int (iI 0)])
                        refine x_if_eq B (by omega) (tgt := 109) dX11_copied_103 (by decide) (fun c16 => ?_) (fun c16 => ?_)
                        · refine lv_iinc (v := iI (k + 1)) (lv' := [(4, .int (iI (k + 1))), (5, .ref (G 4 k)), (3, .int (iI m_)), (0, .ref (ad 0)), (1, .int (iI ship)), (2, .int (iI what))]) B.1 B.2.1 dX11_copied_109 hl (k := 1) rfl (iI_add _ _) (by decide) rfl (fun ls hl => ?_)
                          refine lv_goto (tgt := 26) B.1 B.2.1 dX11_copied_112 (by decide) ?_
                          exact ih26 m_ ((k + 1)) (by omega) (by omega) (cntp_next (by omega) h2 (Or.inr ⟨fun ⟨e, hh⟩ => by first | omega | (rcases hh with ⟨q, f⟩ | ⟨q, f⟩ | ⟨q, f⟩ <;> first | omega | contradiction), rfl⟩)) (by omega) _ _ _ h (lv_sub hl [0, 2, 3, 4, 5] rfl)
                        · exact absurd c16 (by omega)
                    · refine lv_aload B.1 B.2.1 dX11_copied_86 (lv_at hl 0 rfl) ?_
                      refine y_cS B h k_X11_repeats (c_X11_repeats_e l D Zk ca T G u ad _ hC k  (by omega)) m_846 rfl (by decide) hl.1 [] (Nat.le_of_ble_eq_true rfl) rfl dX11_copied_88 (fun r w1 hq H locs h => ?_)
                      obtain ⟨rfl, _, rfl, ⟨rfl, b17⟩ | ⟨rfl, b17⟩⟩ := hq
                      · show W p l e r_c_X11_copied_e s m args below meth c _ _ 0 0 Qf (F0 m 91 ls [.int (iI 1)])
                        refine x_if_eq B (by omega) (tgt := 109) dX11_copied_91 (by decide) (fun c18 => ?_) (fun c18 => ?_)
                        · exact absurd c18 (by omega)
                        · refine lv_goto (tgt := 106) B.1 B.2.1 dX11_copied_94 (by decide) ?_
                          refine lv_iinc (v := iI (m_ + 1)) (lv' := [(3, .int (iI (m_ + 1))), (5, .ref (G 4 k)), (4, .int (iI k)), (0, .ref (ad 0)), (1, .int (iI ship)), (2, .int (iI what))]) B.1 B.2.1 dX11_copied_106 hl (k := 2) rfl (iI_add _ _) (by decide) rfl (fun ls hl => ?_)
                          refine lv_iinc (v := iI (k + 1)) (lv' := [(4, .int (iI (k + 1))), (3, .int (iI (m_ + 1))), (5, .ref (G 4 k)), (0, .ref (ad 0)), (1, .int (iI ship)), (2, .int (iI what))]) B.1 B.2.1 dX11_copied_109 hl (k := 2) rfl (iI_add _ _) (by decide) rfl (fun ls hl => ?_)
                          refine lv_goto (tgt := 26) B.1 B.2.1 dX11_copied_112 (by decide) ?_
                          exact ih26 ((m_ + 1)) ((k + 1)) (by omega) (by omega) (cntp_next (by omega) h2 (Or.inl ⟨⟨by omega, by first | exact Or.inl ⟨by omega, by assumption⟩ | exact Or.inr (Or.inl ⟨by omega, by assumption⟩) | exact Or.inr (Or.inr ⟨by omega, by assumption⟩)⟩, rfl⟩)) (by omega) _ _ _ h (lv_sub hl [0, 1, 3, 4, 5] rfl)
                      · show W p l e r_c_X11_copied_e s m args below meth c _ _ 0 0 Qf (F0 m 91 ls [.int (iI 0)])
                        refine x_if_eq B (by omega) (tgt := 109) dX11_copied_91 (by decide) (fun c19 => ?_) (fun c19 => ?_)
                        · refine lv_iinc (v := iI (k + 1)) (lv' := [(4, .int (iI (k + 1))), (5, .ref (G 4 k)), (3, .int (iI m_)), (0, .ref (ad 0)), (1, .int (iI ship)), (2, .int (iI what))]) B.1 B.2.1 dX11_copied_109 hl (k := 1) rfl (iI_add _ _) (by decide) rfl (fun ls hl => ?_)
                          refine lv_goto (tgt := 26) B.1 B.2.1 dX11_copied_112 (by decide) ?_
                          exact ih26 m_ ((k + 1)) (by omega) (by omega) (cntp_next (by omega) h2 (Or.inr ⟨fun ⟨e, hh⟩ => by first | omega | (rcases hh with ⟨q, f⟩ | ⟨q, f⟩ | ⟨q, f⟩ <;> first | omega | contradiction), rfl⟩)) (by omega) _ _ _ h (lv_sub hl [0, 2, 3, 4, 5] rfl)
                        · exact absurd c19 (by omega)
                  · refine lv_aload B.1 B.2.1 dX11_copied_70 (lv_at hl 0 rfl) ?_
                    refine y_cS B h k_X11_follows (c_X11_follows_e l D Zk ca T G u ad _ hC k  (by omega)) m_849 rfl (by decide) hl.1 [] (Nat.le_of_ble_eq_true rfl) rfl dX11_copied_72 (fun r w1 hq H locs h => ?_)
                    obtain ⟨rfl, _, rfl, ⟨rfl, b20⟩ | ⟨rfl, b20⟩⟩ := hq
                    · show W p l e r_c_X11_copied_e s m args below meth c _ _ 0 0 Qf (F0 m 75 ls [.int (iI 1)])
                      refine x_if_eq B (by omega) (tgt := 109) dX11_copied_75 (by decide) (fun c21 => ?_) (fun c21 => ?_)
                      · exact absurd c21 (by omega)
                      · refine lv_goto (tgt := 106) B.1 B.2.1 dX11_copied_78 (by decide) ?_
                        refine lv_iinc (v := iI (m_ + 1)) (lv' := [(3, .int (iI (m_ + 1))), (5, .ref (G 4 k)), (4, .int (iI k)), (0, .ref (ad 0)), (1, .int (iI ship)), (2, .int (iI what))]) B.1 B.2.1 dX11_copied_106 hl (k := 2) rfl (iI_add _ _) (by decide) rfl (fun ls hl => ?_)
                        refine lv_iinc (v := iI (k + 1)) (lv' := [(4, .int (iI (k + 1))), (3, .int (iI (m_ + 1))), (5, .ref (G 4 k)), (0, .ref (ad 0)), (1, .int (iI ship)), (2, .int (iI what))]) B.1 B.2.1 dX11_copied_109 hl (k := 2) rfl (iI_add _ _) (by decide) rfl (fun ls hl => ?_)
                        refine lv_goto (tgt := 26) B.1 B.2.1 dX11_copied_112 (by decide) ?_
                        exact ih26 ((m_ + 1)) ((k + 1)) (by omega) (by omega) (cntp_next (by omega) h2 (Or.inl ⟨⟨by omega, by first | exact Or.inl ⟨by omega, by assumption⟩ | exact Or.inr (Or.inl ⟨by omega, by assumption⟩) | exact Or.inr (Or.inr ⟨by omega, by assumption⟩)⟩, rfl⟩)) (by omega) _ _ _ h (lv_sub hl [0, 1, 3, 4, 5] rfl)
                    · show W p l e r_c_X11_copied_e s m args below meth c _ _ 0 0 Qf (F0 m 75 ls [.int (iI 0)])
                      refine x_if_eq B (by omega) (tgt := 109) dX11_copied_75 (by decide) (fun c22 => ?_) (fun c22 => ?_)
                      · refine lv_iinc (v := iI (k + 1)) (lv' := [(4, .int (iI (k + 1))), (5, .ref (G 4 k)), (3, .int (iI m_)), (0, .ref (ad 0)), (1, .int (iI ship)), (2, .int (iI what))]) B.1 B.2.1 dX11_copied_109 hl (k := 1) rfl (iI_add _ _) (by decide) rfl (fun ls hl => ?_)
                        refine lv_goto (tgt := 26) B.1 B.2.1 dX11_copied_112 (by decide) ?_
                        exact ih26 m_ ((k + 1)) (by omega) (by omega) (cntp_next (by omega) h2 (Or.inr ⟨fun ⟨e, hh⟩ => by first | omega | (rcases hh with ⟨q, f⟩ | ⟨q, f⟩ | ⟨q, f⟩ <;> first | omega | contradiction), rfl⟩)) (by omega) _ _ _ h (lv_sub hl [0, 2, 3, 4, 5] rfl)
                      · exact absurd c22 (by omega)
        exact loop26 (((300 - 0 : Int)).toNat + 1) 0 0 (by omega) (by omega) rfl (Nat.lt_succ_self _) _ _ _ h (lv_sub hl [0, 1, 2, 3, 4] rfl)
      · exact absurd c4 (by omega)
    · show W p l e r_c_X11_copied_e s m args below meth c _ _ 0 0 Qf (F0 m 16 ls [.int (iI 0)])
      refine x_if_ne B (by omega) (tgt := 21) dX11_copied_16 (by decide) (fun c23 => ?_) (fun c23 => ?_)
      · exact absurd c23 (by omega)
      · refine x_iconst B dX11_copied_19 ?_
        refine y_ri B hQ h (by decide) dX11_copied_20 ?_
        exact ⟨rfl, _, rfl, by omega, Or.inl ⟨by omega, rfl⟩⟩
abbrev r_c_X11_find_e : Room := { frames := 6, cells := 0, slots := 0, locals := 129 }
set_option maxHeartbeats 4000000 in
set_option maxRecDepth 100000 in
theorem c_X11_find_e (l : Launch) (D : va_G) (Zk : yK) (ca : Nat → ClassId) (T : Nat → Int → Int) (G : Nat → Int → Nat) (u : Int) (ad : Nat → Nat) (w : yW) (hC : CW ca T G u ad w) (k : Int)  (hk : xr k) : yC l D Zk ca yX11_find cX11_find 5 (some .int) r_c_X11_find_e [.ref (ad 0), .int (iI k)] w (vI w (fun z => xr z ∧ FND T k z)) := by
  refine yC.of2 "WindWords" (by decide) rfl (Nat.le_of_ble_eq_true rfl) ?_
  intro p e s m args below meth c A ls Qf B hnm h hl hQ
  have hl : lv_has ls 5 [(0, .ref (ad 0)), (1, .int (iI k))] := hl
  have hs := pi_s (CW.pi hC)
  refine x_iconst B dX11_find_0 ?_
  refine lv_istore_n (lv' := [(2, .int (iI 0)), (0, .ref (ad 0)), (1, .int (iI k))]) B.1 B.2.1 dX11_find_1 rfl hl (by decide) rfl (fun ls hl => ?_)
  refine x_iconst B dX11_find_2 ?_
  refine lv_istore_n (lv' := [(3, .int (iI 0)), (2, .int (iI 0)), (0, .ref (ad 0)), (1, .int (iI k))]) B.1 B.2.1 dX11_find_3 rfl hl (by decide) rfl (fun ls hl => ?_)
  have loop4 : ∀ (n4 : Nat) (b : Int) (i : Int), (0 ≤ b ∧ b ≤ i) → (0 ≤ i ∧ i ≤ T 0 2) → (b = cntp (COP T) i.toNat) → (∀ s9 : Int, 0 ≤ s9 ∧ s9 < i → ¬ (COP T s9 ∧ cntp (COP T) s9.toNat = k)) → ((300 - i : Int)).toNat < n4 → ∀ (H : Heap) (locs : List Loc) (ls : Array Slot), yH D Zk A s w H locs → lv_has ls 5 [(3, .int (iI i)), (2, .int (iI b)), (0, .ref (ad 0)), (1, .int (iI k))] → W p l e r_c_X11_find_e s m args below meth c H locs 0 0 Qf (F0 m 4 ls []) := by
    intro n4
    induction n4 with
    | zero =>
      intro b i h0 h1 h2 h3 hm4 H locs ls h hl
      exact absurd hm4 (Nat.not_lt_zero _)
    | succ n4 ih4 =>
      intro b i h0 h1 h2 h3 hm4 H locs ls h hl
      refine lv_iload_n B.1 B.2.1 dX11_find_4 rfl (lv_at hl 0 rfl) ?_
      refine lv_aload_n B.1 B.2.1 dX11_find_5 rfl (lv_at hl 2 rfl) ?_
      refine y_getR B h kX11 0 (CW.f hC 0 _ rfl) 0 (b := ad 1) rfl m_361 (by decide) dX11_find_6 ?_
      refine y_getX B h kX0 1 (CW.f hC 1 _ rfl) 5 (z := (T 0 2)) rfl m_149 (by decide) dX11_find_9 ?_
      refine x_icmp_ge B (by omega) (tgt := 55) dX11_find_12 (by decide) (fun c1 => ?_) (fun c1 => ?_)
      · refine x_iconst B dX11_find_55 ?_
        refine y_ri B hQ h (by decide) dX11_find_56 ?_
        exact ⟨rfl, _, rfl, by omega, Or.inl ⟨rfl, fun j hj => h3 j (by omega)⟩⟩
      · refine lv_aload_n B.1 B.2.1 dX11_find_15 rfl (lv_at hl 2 rfl) ?_
        refine y_getR B h kX11 0 (CW.f hC 0 _ rfl) 0 (b := ad 1) rfl m_361 (by decide) dX11_find_16 ?_
        refine lv_iload_n B.1 B.2.1 dX11_find_19 rfl (lv_at hl 0 rfl) ?_
        refine y_cV B h kX0 1 (CW.f hC 1 _ rfl) k_X0_readingAt rfl (c_X0_readingAt l D Zk ca T G u ad _ hC i  (by omega)) m_830 rfl (by decide) hl.1 [] (Nat.le_of_ble_eq_true rfl) rfl dX11_find_20 (fun r w1 hq H locs h => ?_)
        obtain ⟨rfl, _, rfl, ⟨rfl, q2⟩ | ⟨rfl, q2⟩⟩ := hq
        · show W p l e r_c_X11_find_e s m args below meth c _ _ 0 0 Qf (F0 m 23 ls [.null])
          refine lv_astoreN (lv' := [(4, .null), (3, .int (iI i)), (2, .int (iI b)), (0, .ref (ad 0)), (1, .int (iI k))]) B.1 B.2.1 dX11_find_23 hl (by decide) rfl (fun ls hl => ?_)
          refine lv_aloadN B.1 B.2.1 dX11_find_25 (lv_at hl 0 rfl) ?_
          refine lv_ifnullN (tgt := 49) B.1 B.2.1 dX11_find_27 (by decide) ?_
          refine lv_iinc (v := iI (i + 1)) (lv' := [(3, .int (iI (i + 1))), (4, .null), (2, .int (iI b)), (0, .ref (ad 0)), (1, .int (iI k))]) B.1 B.2.1 dX11_find_49 hl (k := 1) rfl (iI_add _ _) (by decide) rfl (fun ls hl => ?_)
          refine lv_goto (tgt := 4) B.1 B.2.1 dX11_find_52 (by decide) ?_
          exact ih4 b ((i + 1)) (by omega) (by omega) (cntp_next (by omega) h2 (Or.inr ⟨by first | assumption | (exfalso; omega), rfl⟩)) (all_next h3 (fun ⟨x, y⟩ => by first | contradiction | omega)) (by omega) _ _ _ h (lv_sub hl [0, 2, 3, 4] rfl)
        · have fo3 := CW.rd hC i (by omega)
          show W p l e r_c_X11_find_e s m args below meth c _ _ 0 0 Qf (F0 m 23 ls [.ref (G 4 i)])
          refine lv_astore (lv' := [(4, .ref (G 4 i)), (3, .int (iI i)), (2, .int (iI b)), (0, .ref (ad 0)), (1, .int (iI k))]) B.1 B.2.1 dX11_find_23 hl (by decide) rfl (fun ls hl => ?_)
          refine lv_aload B.1 B.2.1 dX11_find_25 (lv_at hl 0 rfl) ?_
          refine lv_ifnull B.1 B.2.1 dX11_find_27 ?_
          refine lv_aload_n B.1 B.2.1 dX11_find_30 rfl (lv_at hl 3 rfl) ?_
          refine lv_aload B.1 B.2.1 dX11_find_31 (lv_at hl 0 rfl) ?_
          refine y_cV B h kX11 0 (CW.f hC 0 _ rfl) k_X11_isCopied rfl (c_X11_isCopied_e l D Zk ca T G u ad _ hC i  (by omega)) m_842 rfl (by decide) hl.1 [] (Nat.le_of_ble_eq_true rfl) rfl dX11_find_33 (fun r w1 hq H locs h => ?_)
          obtain ⟨rfl, _, rfl, ⟨rfl, b4⟩ | ⟨rfl, b4⟩⟩ := hq
          · show W p l e r_c_X11_find_e s m args below meth c _ _ 0 0 Qf (F0 m 36 ls [.int (iI 1)])
            refine x_if_eq B (by omega) (tgt := 49) dX11_find_36 (by decide) (fun c5 => ?_) (fun c5 => ?_)
            · exact absurd c5 (by omega)
            · refine lv_iload_n B.1 B.2.1 dX11_find_39 rfl (lv_at hl 2 rfl) ?_
              refine lv_iload_n B.1 B.2.1 dX11_find_40 rfl (lv_at hl 4 rfl) ?_
              refine x_icmp_ne B (by omega) (tgt := 46) dX11_find_41 (by decide) (fun c6 => ?_) (fun c6 => ?_)
              · refine lv_iinc (v := iI (b + 1)) (lv' := [(2, .int (iI (b + 1))), (4, .ref (G 4 i)), (3, .int (iI i)), (0, .ref (ad 0)), (1, .int (iI k))]) B.1 B.2.1 dX11_find_46 hl (k := 2) rfl (iI_add _ _) (by decide) rfl (fun ls hl => ?_)
                refine lv_iinc (v := iI (i + 1)) (lv' := [(3, .int (iI (i + 1))), (2, .int (iI (b + 1))), (4, .ref (G 4 i)), (0, .ref (ad 0)), (1, .int (iI k))]) B.1 B.2.1 dX11_find_49 hl (k := 2) rfl (iI_add _ _) (by decide) rfl (fun ls hl => ?_)
                refine lv_goto (tgt := 4) B.1 B.2.1 dX11_find_52 (by decide) ?_
                exact ih4 ((b + 1)) ((i + 1)) (by omega) (by omega) (cntp_next (by omega) h2 (Or.inl ⟨by assumption, rfl⟩)) (all_next h3 (fun ⟨x, y⟩ => by first | contradiction | omega)) (by omega) _ _ _ h (lv_sub hl [0, 1, 3, 4] rfl)
              · refine lv_iload_n B.1 B.2.1 dX11_find_44 rfl (lv_at hl 1 rfl) ?_
                refine y_ri B hQ h (by decide) dX11_find_45 ?_
                exact ⟨rfl, _, rfl, by omega, Or.inr ⟨by omega, by assumption, by omega⟩⟩
          · show W p l e r_c_X11_find_e s m args below meth c _ _ 0 0 Qf (F0 m 36 ls [.int (iI 0)])
            refine x_if_eq B (by omega) (tgt := 49) dX11_find_36 (by decide) (fun c7 => ?_) (fun c7 => ?_)
            · refine lv_iinc (v := iI (i + 1)) (lv' := [(3, .int (iI (i + 1))), (4, .ref (G 4 i)), (2, .int (iI b)), (0, .ref (ad 0)), (1, .int (iI k))]) B.1 B.2.1 dX11_find_49 hl (k := 1) rfl (iI_add _ _) (by decide) rfl (fun ls hl => ?_)
              refine lv_goto (tgt := 4) B.1 B.2.1 dX11_find_52 (by decide) ?_
              exact ih4 b ((i + 1)) (by omega) (by omega) (cntp_next (by omega) h2 (Or.inr ⟨by first | assumption | (exfalso; omega), rfl⟩)) (all_next h3 (fun ⟨x, y⟩ => by first | contradiction | omega)) (by omega) _ _ _ h (lv_sub hl [0, 2, 3, 4] rfl)
            · exact absurd c7 (by omega)
  exact loop4 (((300 - 0 : Int)).toNat + 1) 0 0 (by omega) (by omega) rfl (fun s9 hs9 => absurd hs9 (by omega)) (Nat.lt_succ_self _) _ _ _ h (lv_sub hl [0, 1, 2, 3] rfl)
abbrev r_c_X12_followed_e : Room := { frames := 2, cells := 0, slots := 0, locals := 45 }
set_option maxHeartbeats 4000000 in
set_option maxRecDepth 100000 in
theorem c_X12_followed_e (l : Launch) (D : va_G) (Zk : yK) (ca : Nat → ClassId) (T : Nat → Int → Int) (E : Nat → Int → Int) (am : Nat → Nat) (w : yW) (hM : MW ca T E am w) (k : Int)  (hk : 0 ≤ k ∧ k < T 0 2) : yC l D Zk ca yX12_followed cX12_followed 3 (some .int) r_c_X12_followed_e [.ref (am 0), .int (iI k)] w (vI w (fun z => (z = -1 ∧ ¬ FOL T k) ∨ (PRV T k z ∧ FLW T k z))) := by
  refine yC.of2 "WindWordsModel" (by decide) rfl (Nat.le_of_ble_eq_true rfl) ?_
  intro p e s m args below meth c A ls Qf B hnm h hl hQ
  have hl : lv_has ls 3 [(0, .ref (am 0)), (1, .int (iI k))] := hl
  have hs := pi_s (MW.pi hM)
  have hpe := pe_0 (MW.pe hM)
  refine lv_aload_n B.1 B.2.1 dX12_followed_0 rfl (lv_at hl 0 rfl) ?_
  refine lv_iload_n B.1 B.2.1 dX12_followed_1 rfl (lv_at hl 1 rfl) ?_
  refine y_cV B h kX12 50 (MW.f hM 0 _ rfl) k_X12_isMan rfl (c_X12_isMan l D Zk ca T E am _ hM k  (by omega)) m_1728 rfl (by decide) hl.1 [] (Nat.le_of_ble_eq_true rfl) rfl dX12_followed_2 (fun r w1 hq H locs h => ?_)
  obtain ⟨rfl, _, rfl, ⟨rfl, b1⟩ | ⟨rfl, b1⟩⟩ := hq
  · show W p l e r_c_X12_followed_e s m args below meth c _ _ 0 0 Qf (F0 m 5 ls [.int (iI 1)])
    refine x_if_eq B (by omega) (tgt := 29) dX12_followed_5 (by decide) (fun c2 => ?_) (fun c2 => ?_)
    · exact absurd c2 (by omega)
    · refine lv_aload_n B.1 B.2.1 dX12_followed_8 rfl (lv_at hl 0 rfl) ?_
      refine lv_aload_n B.1 B.2.1 dX12_followed_9 rfl (lv_at hl 0 rfl) ?_
      refine y_getR B h kX12 50 (MW.f hM 0 _ rfl) 14 (b := am 9) rfl m_1275 (by decide) dX12_followed_10 ?_
      refine lv_iload_n B.1 B.2.1 dX12_followed_13 rfl (lv_at hl 1 rfl) ?_
      refine y_ialdX B h 59 (MW.f hM 9 _ rfl) (by omega) dX12_followed_14 ?_
      refine x_iset (z := (T 4 k)) (by show iI (T 4 (((k : Int).toNat : Nat) : Int)) = _; rw [show ((((k : Int).toNat : Nat) : Int)) = k by omega]) ?_
      have tb3 := pi_4 (MW.pi hM) k
      refine lv_aload_n B.1 B.2.1 dX12_followed_15 rfl (lv_at hl 0 rfl) ?_
      refine y_getR B h kX12 50 (MW.f hM 0 _ rfl) 15 (b := am 10) rfl m_1276 (by decide) dX12_followed_16 ?_
      refine lv_iload_n B.1 B.2.1 dX12_followed_19 rfl (lv_at hl 1 rfl) ?_
      refine y_ialdX B h 60 (MW.f hM 10 _ rfl) (by omega) dX12_followed_20 ?_
      refine x_iset (z := (T 5 k)) (by show iI (T 5 (((k : Int).toNat : Nat) : Int)) = _; rw [show ((((k : Int).toNat : Nat) : Int)) = k by omega]) ?_
      have tb4 := pi_5 (MW.pi hM) k
      refine x_iconst B dX12_followed_21 ?_
      refine x_isub B dX12_followed_22 ?_
      refine y_cV B h kX12 50 (MW.f hM 0 _ rfl) k_X12_readingOf rfl (c_X12_readingOf l D Zk ca T E am _ hM ((T 4 k)) (((T 5 k) - 1))  (by omega) (by omega)) m_1542 rfl (by decide) hl.1 [] (Nat.le_of_ble_eq_true rfl) rfl dX12_followed_23 (fun r w1 hq H locs h => ?_)
      obtain ⟨rfl, pz, rfl, hpz⟩ := hq
      show W p l e r_c_X12_followed_e s m args below meth c _ _ 0 0 Qf (F0 m 26 ls [.int (iI pz)])
      refine lv_goto (tgt := 30) B.1 B.2.1 dX12_followed_26 (by decide) ?_
      refine lv_istore_n (lv' := [(2, .int (iI pz)), (0, .ref (am 0)), (1, .int (iI k))]) B.1 B.2.1 dX12_followed_30 rfl hl (by decide) rfl (fun ls hl => ?_)
      refine lv_iload_n B.1 B.2.1 dX12_followed_31 rfl (lv_at hl 0 rfl) ?_
      refine x_if_lt B (by omega) (tgt := 60) dX12_followed_32 (by decide) (fun c6 => ?_) (fun c6 => ?_)
      · refine x_iconst B dX12_followed_60 ?_
        refine y_ri B hQ h (by decide) dX12_followed_61 ?_
        exact ⟨rfl, _, rfl, Or.inl ⟨rfl, fun ⟨x, hx, f1, f2, f3⟩ => by first | exact f1 (by omega) | (rcases hpz with ⟨a, n⟩ | a; exact PRV_no n hx; have e9 := PRV_un (MW.pi hM) hx a; subst e9; omega)⟩⟩
      · refine lv_aload_n B.1 B.2.1 dX12_followed_35 rfl (lv_at hl 1 rfl) ?_
        refine lv_iload_n B.1 B.2.1 dX12_followed_36 rfl (lv_at hl 0 rfl) ?_
        refine y_cV B h kX12 50 (MW.f hM 0 _ rfl) k_X12_isMan rfl (c_X12_isMan l D Zk ca T E am _ hM pz  (by omega)) m_1728 rfl (by decide) hl.1 [] (Nat.le_of_ble_eq_true rfl) rfl dX12_followed_37 (fun r w1 hq H locs h => ?_)
        obtain ⟨rfl, _, rfl, ⟨rfl, b7⟩ | ⟨rfl, b7⟩⟩ := hq
        · show W p l e r_c_X12_followed_e s m args below meth c _ _ 0 0 Qf (F0 m 40 ls [.int (iI 1)])
          refine x_if_eq B (by omega) (tgt := 60) dX12_followed_40 (by decide) (fun c8 => ?_) (fun c8 => ?_)
          · exact absurd c8 (by omega)
          · refine lv_aload_n B.1 B.2.1 dX12_followed_43 rfl (lv_at hl 1 rfl) ?_
            refine lv_iload_n B.1 B.2.1 dX12_followed_44 rfl (lv_at hl 0 rfl) ?_
            refine y_cV B h kX12 50 (MW.f hM 0 _ rfl) k_X12_writer rfl (c_X12_writer l D Zk ca T E am _ hM pz  (by omega)) m_1736 rfl (by decide) hl.1 [] (Nat.le_of_ble_eq_true rfl) rfl dX12_followed_45 (fun r w1 hq H locs h => ?_)
            obtain ⟨rfl, _, rfl, rfl⟩ := hq
            have tb9 := pi_3 (MW.pi hM) (1000 * T 4 pz + T 5 pz)
            show W p l e r_c_X12_followed_e s m args below meth c _ _ 0 0 Qf (F0 m 48 ls [.int (iI (T 3 (1000 * T 4 pz + T 5 pz)))])
            refine lv_aload_n B.1 B.2.1 dX12_followed_48 rfl (lv_at hl 1 rfl) ?_
            refine lv_iload_n B.1 B.2.1 dX12_followed_49 rfl (lv_at hl 2 rfl) ?_
            refine y_cV B h kX12 50 (MW.f hM 0 _ rfl) k_X12_writer rfl (c_X12_writer l D Zk ca T E am _ hM k  (by omega)) m_1736 rfl (by decide) hl.1 [.int (iI (T 3 (1000 * T 4 pz + T 5 pz)))] (Nat.le_of_ble_eq_true rfl) rfl dX12_followed_50 (fun r w1 hq H locs h => ?_)
            obtain ⟨rfl, _, rfl, rfl⟩ := hq
            have tb10 := pi_3 (MW.pi hM) (1000 * T 4 k + T 5 k)
            show W p l e r_c_X12_followed_e s m args below meth c _ _ 0 0 Qf (F0 m 53 ls [.int (iI (T 3 (1000 * T 4 k + T 5 k))), .int (iI (T 3 (1000 * T 4 pz + T 5 pz)))])
            refine x_icmp_ne B (by omega) (tgt := 60) dX12_followed_53 (by decide) (fun c11 => ?_) (fun c11 => ?_)
            · refine x_iconst B dX12_followed_60 ?_
              refine y_ri B hQ h (by decide) dX12_followed_61 ?_
              exact ⟨rfl, _, rfl, Or.inl ⟨rfl, fun ⟨x, hx, f1, f2, f3⟩ => by first | exact f1 (by omega) | (rcases hpz with ⟨a, n⟩ | a; exact PRV_no n hx; have e9 := PRV_un (MW.pi hM) hx a; subst e9; omega)⟩⟩
            · refine lv_iload_n B.1 B.2.1 dX12_followed_56 rfl (lv_at hl 0 rfl) ?_
              refine lv_goto (tgt := 61) B.1 B.2.1 dX12_followed_57 (by decide) ?_
              refine y_ri B hQ h (by decide) dX12_followed_61 ?_
              have q9 : PRV T k pz := by rcases hpz with ⟨a, n⟩ | a; omega; exact a
              exact ⟨rfl, _, rfl, Or.inr ⟨q9, by omega, by omega, by omega⟩⟩
        · show W p l e r_c_X12_followed_e s m args below meth c _ _ 0 0 Qf (F0 m 40 ls [.int (iI 0)])
          refine x_if_eq B (by omega) (tgt := 60) dX12_followed_40 (by decide) (fun c12 => ?_) (fun c12 => ?_)
          · refine x_iconst B dX12_followed_60 ?_
            refine y_ri B hQ h (by decide) dX12_followed_61 ?_
            exact ⟨rfl, _, rfl, Or.inl ⟨rfl, fun ⟨x, hx, f1, f2, f3⟩ => by first | exact f1 (by omega) | (rcases hpz with ⟨a, n⟩ | a; exact PRV_no n hx; have e9 := PRV_un (MW.pi hM) hx a; subst e9; omega)⟩⟩
          · exact absurd c12 (by omega)
  · show W p l e r_c_X12_followed_e s m args below meth c _ _ 0 0 Qf (F0 m 5 ls [.int (iI 0)])
    refine x_if_eq B (by omega) (tgt := 29) dX12_followed_5 (by decide) (fun c13 => ?_) (fun c13 => ?_)
    · refine x_iconst B dX12_followed_29 ?_
      refine lv_istore_n (lv' := [(2, .int (iI (-1))), (0, .ref (am 0)), (1, .int (iI k))]) B.1 B.2.1 dX12_followed_30 rfl hl (by decide) rfl (fun ls hl => ?_)
      refine lv_iload_n B.1 B.2.1 dX12_followed_31 rfl (lv_at hl 0 rfl) ?_
      refine x_if_lt B (by omega) (tgt := 60) dX12_followed_32 (by decide) (fun c14 => ?_) (fun c14 => ?_)
      · refine x_iconst B dX12_followed_60 ?_
        refine y_ri B hQ h (by decide) dX12_followed_61 ?_
        exact ⟨rfl, _, rfl, Or.inl ⟨rfl, fun ⟨x, hx, f1, f2, f3⟩ => by first | exact f1 (by omega) | (rcases hpz with ⟨a, n⟩ | a; exact PRV_no n hx; have e9 := PRV_un (MW.pi hM) hx a; subst e9; omega)⟩⟩
      · exact absurd c14 (by omega)
    · exact absurd c13 (by omega)
abbrev r_c_X12_isCopied_e : Room := { frames := 3, cells := 0, slots := 0, locals := 67 }
set_option maxHeartbeats 4000000 in
set_option maxRecDepth 100000 in
theorem c_X12_isCopied_e (l : Launch) (D : va_G) (Zk : yK) (ca : Nat → ClassId) (T : Nat → Int → Int) (E : Nat → Int → Int) (am : Nat → Nat) (w : yW) (hM : MW ca T E am w) (k : Int)  (hk : 0 ≤ k ∧ k < T 0 2) : yC l D Zk ca yX12_isCopied cX12_isCopied 7 (some .boolean) r_c_X12_isCopied_e [.ref (am 0), .int (iI k)] w (vI w (fun z => (z = 1 ∧ (COP T k)) ∨ (z = 0 ∧ (¬ COP T k)))) := by
  refine yC.of2 "WindWordsModel" (by decide) rfl (Nat.le_of_ble_eq_true rfl) ?_
  intro p e s m args below meth c A ls Qf B hnm h hl hQ
  have hl : lv_has ls 7 [(0, .ref (am 0)), (1, .int (iI k))] := hl
  have hs := pi_s (MW.pi hM)
  have hpe := pe_0 (MW.pe hM)
  refine lv_aload_n B.1 B.2.1 dX12_isCopied_0 rfl (lv_at hl 0 rfl) ?_
  refine lv_iload_n B.1 B.2.1 dX12_isCopied_1 rfl (lv_at hl 1 rfl) ?_
  refine y_cV B h kX12 50 (MW.f hM 0 _ rfl) k_X12_followed rfl (c_X12_followed_e l D Zk ca T E am _ hM k  (by omega)) m_1820 rfl (by decide) hl.1 [] (Nat.le_of_ble_eq_true rfl) rfl dX12_isCopied_2 (fun r w1 hq H locs h => ?_)
  obtain ⟨rfl, pz, rfl, hpz⟩ := hq
  show W p l e r_c_X12_isCopied_e s m args below meth c _ _ 0 0 Qf (F0 m 5 ls [.int (iI pz)])
  refine lv_istore_n (lv' := [(2, .int (iI pz)), (0, .ref (am 0)), (1, .int (iI k))]) B.1 B.2.1 dX12_isCopied_5 rfl hl (by decide) rfl (fun ls hl => ?_)
  refine lv_iload_n B.1 B.2.1 dX12_isCopied_6 rfl (lv_at hl 0 rfl) ?_
  have hpr : pz = -1 ∨ (0 ≤ pz ∧ pz < T 0 2) := by rcases hpz with ⟨a, -⟩ | ⟨a, -⟩; exact Or.inl a; exact Or.inr a.1
  refine x_if_lt B (by omega) (tgt := 25) dX12_isCopied_7 (by decide) (fun c2 => ?_) (fun c2 => ?_)
  · refine x_iconst B dX12_isCopied_25 ?_
    refine y_rz B hQ h (by decide) (by decide) dX12_isCopied_26 ?_
    exact ⟨rfl, _, rfl, Or.inr ⟨rfl, fun hr => by rcases hpz with ⟨a, n⟩ | ⟨a, b⟩; exact n (REP_F (COP_R hr)); have a1 := a.1.1; have e9 := (REP_of (MW.pi hM) (COP_R hr) a).2; omega⟩⟩
  · refine lv_aload_n B.1 B.2.1 dX12_isCopied_10 rfl (lv_at hl 1 rfl) ?_
    refine y_getR B h kX12 50 (MW.f hM 0 _ rfl) 18 (b := am 13) rfl m_1279 (by decide) dX12_isCopied_11 ?_
    refine lv_iload_n B.1 B.2.1 dX12_isCopied_14 rfl (lv_at hl 0 rfl) ?_
    refine y_ialdX B h 63 (MW.f hM 13 _ rfl) (by omega) dX12_isCopied_15 ?_
    refine x_iset (z := (T 8 pz)) (by show iI (T 8 (((pz : Int).toNat : Nat) : Int)) = _; rw [show ((((pz : Int).toNat : Nat) : Int)) = pz by omega]) ?_
    have tb3 := pi_8 (MW.pi hM) pz
    have tb4 := pi_n (MW.pi hM) pz
    refine lv_aload_n B.1 B.2.1 dX12_isCopied_16 rfl (lv_at hl 1 rfl) ?_
    refine y_getR B h kX12 50 (MW.f hM 0 _ rfl) 18 (b := am 13) rfl m_1279 (by decide) dX12_isCopied_17 ?_
    refine lv_iload_n B.1 B.2.1 dX12_isCopied_20 rfl (lv_at hl 2 rfl) ?_
    refine y_ialdX B h 63 (MW.f hM 13 _ rfl) (by omega) dX12_isCopied_21 ?_
    refine x_iset (z := (T 8 k)) (by show iI (T 8 (((k : Int).toNat : Nat) : Int)) = _; rw [show ((((k : Int).toNat : Nat) : Int)) = k by omega]) ?_
    have tb5 := pi_8 (MW.pi hM) k
    have tb6 := pi_n (MW.pi hM) k
    refine x_icmp_eq B (by omega) (tgt := 27) dX12_isCopied_22 (by decide) (fun c7 => ?_) (fun c7 => ?_)
    · refine x_iconst B dX12_isCopied_27 ?_
      refine lv_istore_n (lv' := [(3, .int (iI 0)), (2, .int (iI pz)), (0, .ref (am 0)), (1, .int (iI k))]) B.1 B.2.1 dX12_isCopied_28 rfl hl (by decide) rfl (fun ls hl => ?_)
      refine x_iconst B dX12_isCopied_29 ?_
      refine lv_istore (lv' := [(4, .int (iI 0)), (3, .int (iI 0)), (2, .int (iI pz)), (0, .ref (am 0)), (1, .int (iI k))]) B.1 B.2.1 dX12_isCopied_30 hl (by decide) rfl (fun ls hl => ?_)
      have loop32 : ∀ (n32 : Nat) (is : Int) (s_ : Int), (is = 0 ∨ is = 1) → (0 ≤ s_ ∧ s_ ≤ T 0 1) → ((is = 1 ∧ DEX T pz k s_) ∨ (is = 0 ∧ DNO T pz k s_)) → ((12 - s_ : Int)).toNat < n32 → ∀ (H : Heap) (locs : List Loc) (ls : Array Slot), yH D Zk A s w H locs → lv_has ls 7 [(4, .int (iI s_)), (3, .int (iI is)), (2, .int (iI pz)), (0, .ref (am 0)), (1, .int (iI k))] → W p l e r_c_X12_isCopied_e s m args below meth c H locs 0 0 Qf (F0 m 32 ls []) := by
        intro n32
        induction n32 with
        | zero =>
          intro is s_ h0 h1 h2 hm32 H locs ls h hl
          exact absurd hm32 (Nat.not_lt_zero _)
        | succ n32 ih32 =>
          intro is s_ h0 h1 h2 hm32 H locs ls h hl
          refine lv_iload B.1 B.2.1 dX12_isCopied_32 (lv_at hl 0 rfl) ?_
          refine lv_aload_n B.1 B.2.1 dX12_isCopied_34 rfl (lv_at hl 3 rfl) ?_
          refine y_getX B h kX12 50 (MW.f hM 0 _ rfl) 2 (z := (T 0 1)) rfl m_1263 (by decide) dX12_isCopied_35 ?_
          refine x_icmp_ge B (by omega) (tgt := 158) dX12_isCopied_38 (by decide) (fun c8 => ?_) (fun c8 => ?_)
          · refine lv_iload_n B.1 B.2.1 dX12_isCopied_158 rfl (lv_at hl 1 rfl) ?_
            refine y_rz B hQ h (by decide) (nz01 (by omega)) dX12_isCopied_159 ?_
            have q8 : PRV T k pz ∧ FLW T k pz := by rcases hpz with ⟨a, n⟩ | a; omega; exact a
            rcases h2 with ⟨e9, s9, hs9, hd⟩ | ⟨e9, n⟩
            · exact ⟨rfl, _, rfl, Or.inl ⟨e9, pz, q8.1, q8.2, by omega, s9, by omega, hd⟩⟩
            · exact ⟨rfl, _, rfl, Or.inr ⟨e9, fun hr => by obtain ⟨s9, hs9, hd⟩ := COP_of (MW.pi hM) hr q8.1; exact n s9 (by omega) hd⟩⟩
          · refine lv_aload_n B.1 B.2.1 dX12_isCopied_41 rfl (lv_at hl 3 rfl) ?_
            refine lv_iload B.1 B.2.1 dX12_isCopied_42 (lv_at hl 0 rfl) ?_
            refine lv_aload_n B.1 B.2.1 dX12_isCopied_44 rfl (lv_at hl 3 rfl) ?_
            refine y_getR B h kX12 50 (MW.f hM 0 _ rfl) 15 (b := am 10) rfl m_1276 (by decide) dX12_isCopied_45 ?_
            refine lv_iload_n B.1 B.2.1 dX12_isCopied_48 rfl (lv_at hl 2 rfl) ?_
            refine y_ialdX B h 60 (MW.f hM 10 _ rfl) (by omega) dX12_isCopied_49 ?_
            refine x_iset (z := (T 5 pz)) (by show iI (T 5 (((pz : Int).toNat : Nat) : Int)) = _; rw [show ((((pz : Int).toNat : Nat) : Int)) = pz by omega]) ?_
            have tb9 := pi_5 (MW.pi hM) pz
            refine y_cV B h kX12 50 (MW.f hM 0 _ rfl) k_X12_readingOf rfl (c_X12_readingOf l D Zk ca T E am _ hM s_ ((T 5 pz))  (by omega) (by omega)) m_1542 rfl (by decide) hl.1 [] (Nat.le_of_ble_eq_true rfl) rfl dX12_isCopied_50 (fun r w1 hq H locs h => ?_)
            obtain ⟨rfl, za, rfl, hza⟩ := hq
            show W p l e r_c_X12_isCopied_e s m args below meth c _ _ 0 0 Qf (F0 m 53 ls [.int (iI za)])
            refine lv_istore (lv' := [(5, .int (iI za)), (4, .int (iI s_)), (3, .int (iI is)), (2, .int (iI pz)), (0, .ref (am 0)), (1, .int (iI k))]) B.1 B.2.1 dX12_isCopied_53 hl (by decide) rfl (fun ls hl => ?_)
            refine lv_aload_n B.1 B.2.1 dX12_isCopied_55 rfl (lv_at hl 4 rfl) ?_
            refine lv_iload B.1 B.2.1 dX12_isCopied_56 (lv_at hl 1 rfl) ?_
            refine lv_aload_n B.1 B.2.1 dX12_isCopied_58 rfl (lv_at hl 4 rfl) ?_
            refine y_getR B h kX12 50 (MW.f hM 0 _ rfl) 15 (b := am 10) rfl m_1276 (by decide) dX12_isCopied_59 ?_
            refine lv_iload_n B.1 B.2.1 dX12_isCopied_62 rfl (lv_at hl 5 rfl) ?_
            refine y_ialdX B h 60 (MW.f hM 10 _ rfl) (by omega) dX12_isCopied_63 ?_
            refine x_iset (z := (T 5 k)) (by show iI (T 5 (((k : Int).toNat : Nat) : Int)) = _; rw [show ((((k : Int).toNat : Nat) : Int)) = k by omega]) ?_
            have tb11 := pi_5 (MW.pi hM) k
            refine y_cV B h kX12 50 (MW.f hM 0 _ rfl) k_X12_readingOf rfl (c_X12_readingOf l D Zk ca T E am _ hM s_ ((T 5 k))  (by omega) (by omega)) m_1542 rfl (by decide) hl.1 [] (Nat.le_of_ble_eq_true rfl) rfl dX12_isCopied_64 (fun r w1 hq H locs h => ?_)
            obtain ⟨rfl, zb, rfl, hzb⟩ := hq
            show W p l e r_c_X12_isCopied_e s m args below meth c _ _ 0 0 Qf (F0 m 67 ls [.int (iI zb)])
            refine lv_istore (lv' := [(6, .int (iI zb)), (5, .int (iI za)), (4, .int (iI s_)), (3, .int (iI is)), (2, .int (iI pz)), (0, .ref (am 0)), (1, .int (iI k))]) B.1 B.2.1 dX12_isCopied_67 hl (by decide) rfl (fun ls hl => ?_)
            refine lv_iload B.1 B.2.1 dX12_isCopied_69 (lv_at hl 1 rfl) ?_
            refine x_if_lt B (by omega) (tgt := 152) dX12_isCopied_71 (by decide) (fun c13 => ?_) (fun c13 => ?_)
            · refine lv_iinc (v := iI (s_ + 1)) (lv' := [(4, .int (iI (s_ + 1))), (6, .int (iI zb)), (5, .int (iI za)), (3, .int (iI is)), (2, .int (iI pz)), (0, .ref (am 0)), (1, .int (iI k))]) B.1 B.2.1 dX12_isCopied_152 hl (k := 2) rfl (iI_add _ _) (by decide) rfl (fun ls hl => ?_)
              refine lv_goto (tgt := 32) B.1 B.2.1 dX12_isCopied_155 (by decide) ?_
              exact ih32 is ((s_ + 1)) (by omega) (by omega) (by rcases h2 with ⟨q9, s9, hs9, hd⟩ | ⟨q9, n⟩; exact Or.inl ⟨q9, s9, by omega, hd⟩; exact Or.inr ⟨q9, all_next n (DIF_no (MW.pi hM) hza hzb (by first | exact Or.inl (by omega) | exact Or.inr (Or.inl (by omega)) | exact Or.inr (Or.inr (Or.inl (by omega))) | exact Or.inr (Or.inr (Or.inr (Or.inl (by omega)))) | exact Or.inr (Or.inr (Or.inr (Or.inr (Or.inl (by assumption))))) | exact Or.inr (Or.inr (Or.inr (Or.inr (Or.inr (Or.inl (by assumption)))))) | exact Or.inr (Or.inr (Or.inr (Or.inr (Or.inr (Or.inr (by omega))))))))⟩) (by omega) _ _ _ h (lv_sub hl [0, 3, 4, 5, 6] rfl)
            · refine lv_iload B.1 B.2.1 dX12_isCopied_74 (lv_at hl 0 rfl) ?_
              refine x_if_lt B (by omega) (tgt := 152) dX12_isCopied_76 (by decide) (fun c14 => ?_) (fun c14 => ?_)
              · refine lv_iinc (v := iI (s_ + 1)) (lv' := [(4, .int (iI (s_ + 1))), (6, .int (iI zb)), (5, .int (iI za)), (3, .int (iI is)), (2, .int (iI pz)), (0, .ref (am 0)), (1, .int (iI k))]) B.1 B.2.1 dX12_isCopied_152 hl (k := 2) rfl (iI_add _ _) (by decide) rfl (fun ls hl => ?_)
                refine lv_goto (tgt := 32) B.1 B.2.1 dX12_isCopied_155 (by decide) ?_
                exact ih32 is ((s_ + 1)) (by omega) (by omega) (by rcases h2 with ⟨q9, s9, hs9, hd⟩ | ⟨q9, n⟩; exact Or.inl ⟨q9, s9, by omega, hd⟩; exact Or.inr ⟨q9, all_next n (DIF_no (MW.pi hM) hza hzb (by first | exact Or.inl (by omega) | exact Or.inr (Or.inl (by omega)) | exact Or.inr (Or.inr (Or.inl (by omega))) | exact Or.inr (Or.inr (Or.inr (Or.inl (by omega)))) | exact Or.inr (Or.inr (Or.inr (Or.inr (Or.inl (by assumption))))) | exact Or.inr (Or.inr (Or.inr (Or.inr (Or.inr (Or.inl (by assumption)))))) | exact Or.inr (Or.inr (Or.inr (Or.inr (Or.inr (Or.inr (by omega))))))))⟩) (by omega) _ _ _ h (lv_sub hl [0, 3, 4, 5, 6] rfl)
              · refine lv_aload_n B.1 B.2.1 dX12_isCopied_79 rfl (lv_at hl 5 rfl) ?_
                refine lv_iload B.1 B.2.1 dX12_isCopied_80 (lv_at hl 1 rfl) ?_
                refine y_cV B h kX12 50 (MW.f hM 0 _ rfl) k_X12_isMan rfl (c_X12_isMan l D Zk ca T E am _ hM za  (by omega)) m_1728 rfl (by decide) hl.1 [] (Nat.le_of_ble_eq_true rfl) rfl dX12_isCopied_82 (fun r w1 hq H locs h => ?_)
                obtain ⟨rfl, _, rfl, ⟨rfl, b15⟩ | ⟨rfl, b15⟩⟩ := hq
                · show W p l e r_c_X12_isCopied_e s m args below meth c _ _ 0 0 Qf (F0 m 85 ls [.int (iI 1)])
                  refine x_if_eq B (by omega) (tgt := 152) dX12_isCopied_85 (by decide) (fun c16 => ?_) (fun c16 => ?_)
                  · exact absurd c16 (by omega)
                  · refine lv_aload_n B.1 B.2.1 dX12_isCopied_88 rfl (lv_at hl 5 rfl) ?_
                    refine lv_iload B.1 B.2.1 dX12_isCopied_89 (lv_at hl 0 rfl) ?_
                    refine y_cV B h kX12 50 (MW.f hM 0 _ rfl) k_X12_isMan rfl (c_X12_isMan l D Zk ca T E am _ hM zb  (by omega)) m_1728 rfl (by decide) hl.1 [] (Nat.le_of_ble_eq_true rfl) rfl dX12_isCopied_91 (fun r w1 hq H locs h => ?_)
                    obtain ⟨rfl, _, rfl, ⟨rfl, b17⟩ | ⟨rfl, b17⟩⟩ := hq
                    · show W p l e r_c_X12_isCopied_e s m args below meth c _ _ 0 0 Qf (F0 m 94 ls [.int (iI 1)])
                      refine x_if_eq B (by omega) (tgt := 152) dX12_isCopied_94 (by decide) (fun c18 => ?_) (fun c18 => ?_)
                      · exact absurd c18 (by omega)
                      · refine lv_aload_n B.1 B.2.1 dX12_isCopied_97 rfl (lv_at hl 5 rfl) ?_
                        refine lv_iload B.1 B.2.1 dX12_isCopied_98 (lv_at hl 1 rfl) ?_
                        refine lv_iload_n B.1 B.2.1 dX12_isCopied_100 rfl (lv_at hl 4 rfl) ?_
                        refine y_cV B h kX12 50 (MW.f hM 0 _ rfl) k_X12_areInSight rfl (c_X12_areInSight l D Zk ca T E am _ hM za pz  (by omega) (by omega)) m_1740 rfl (by decide) hl.1 [] (Nat.le_of_ble_eq_true rfl) rfl dX12_isCopied_101 (fun r w1 hq H locs h => ?_)
                        obtain ⟨rfl, _, rfl, ⟨rfl, b19⟩ | ⟨rfl, b19⟩⟩ := hq
                        · show W p l e r_c_X12_isCopied_e s m args below meth c _ _ 0 0 Qf (F0 m 104 ls [.int (iI 1)])
                          refine x_if_eq B (by omega) (tgt := 152) dX12_isCopied_104 (by decide) (fun c20 => ?_) (fun c20 => ?_)
                          · exact absurd c20 (by omega)
                          · refine lv_aload_n B.1 B.2.1 dX12_isCopied_107 rfl (lv_at hl 5 rfl) ?_
                            refine lv_iload B.1 B.2.1 dX12_isCopied_108 (lv_at hl 0 rfl) ?_
                            refine lv_iload_n B.1 B.2.1 dX12_isCopied_110 rfl (lv_at hl 6 rfl) ?_
                            refine y_cV B h kX12 50 (MW.f hM 0 _ rfl) k_X12_areInSight rfl (c_X12_areInSight l D Zk ca T E am _ hM zb k  (by omega) (by omega)) m_1740 rfl (by decide) hl.1 [] (Nat.le_of_ble_eq_true rfl) rfl dX12_isCopied_111 (fun r w1 hq H locs h => ?_)
                            obtain ⟨rfl, _, rfl, ⟨rfl, b21⟩ | ⟨rfl, b21⟩⟩ := hq
                            · show W p l e r_c_X12_isCopied_e s m args below meth c _ _ 0 0 Qf (F0 m 114 ls [.int (iI 1)])
                              refine x_if_ne B (by omega) (tgt := 120) dX12_isCopied_114 (by decide) (fun c22 => ?_) (fun c22 => ?_)
                              · refine lv_iload_n B.1 B.2.1 dX12_isCopied_120 rfl (lv_at hl 3 rfl) ?_
                                refine x_if_ne B (by omega) (tgt := 146) dX12_isCopied_121 (by decide) (fun c23 => ?_) (fun c23 => ?_)
                                · refine x_iconst B dX12_isCopied_146 ?_
                                  refine lv_goto (tgt := 151) B.1 B.2.1 dX12_isCopied_147 (by decide) ?_
                                  refine lv_istore_n (lv' := [(3, .int (iI 1)), (6, .int (iI zb)), (5, .int (iI za)), (4, .int (iI s_)), (2, .int (iI pz)), (0, .ref (am 0)), (1, .int (iI k))]) B.1 B.2.1 dX12_isCopied_151 rfl hl (by decide) rfl (fun ls hl => ?_)
                                  refine lv_iinc (v := iI (s_ + 1)) (lv' := [(4, .int (iI (s_ + 1))), (3, .int (iI 1)), (6, .int (iI zb)), (5, .int (iI za)), (2, .int (iI pz)), (0, .ref (am 0)), (1, .int (iI k))]) B.1 B.2.1 dX12_isCopied_152 hl (k := 3) rfl (iI_add _ _) (by decide) rfl (fun ls hl => ?_)
                                  refine lv_goto (tgt := 32) B.1 B.2.1 dX12_isCopied_155 (by decide) ?_
                                  exact ih32 1 ((s_ + 1)) (by omega) (by omega) (Or.inl ⟨rfl, by first | (rcases h2 with ⟨q9, s9, hs9, hd⟩ | ⟨q9, -⟩; exact ⟨s9, by omega, hd⟩; omega) | exact ⟨s_, by omega, DIF_yes hza hzb (by omega) (by omega) (by omega) (by assumption) (by assumption) (by omega)⟩⟩) (by omega) _ _ _ h (lv_sub hl [0, 1, 4, 5, 6] rfl)
                                · refine lv_aload_n B.1 B.2.1 dX12_isCopied_124 rfl (lv_at hl 5 rfl) ?_
                                  refine y_getR B h kX12 50 (MW.f hM 0 _ rfl) 18 (b := am 13) rfl m_1279 (by decide) dX12_isCopied_125 ?_
                                  refine lv_iload B.1 B.2.1 dX12_isCopied_128 (lv_at hl 1 rfl) ?_
                                  refine y_ialdX B h 63 (MW.f hM 13 _ rfl) (by omega) dX12_isCopied_130 ?_
                                  refine x_iset (z := (T 8 za)) (by show iI (T 8 (((za : Int).toNat : Nat) : Int)) = _; rw [show ((((za : Int).toNat : Nat) : Int)) = za by omega]) ?_
                                  have tb24 := pi_8 (MW.pi hM) za
                                  have tb25 := pi_n (MW.pi hM) za
                                  refine lv_aload_n B.1 B.2.1 dX12_isCopied_131 rfl (lv_at hl 5 rfl) ?_
                                  refine y_getR B h kX12 50 (MW.f hM 0 _ rfl) 18 (b := am 13) rfl m_1279 (by decide) dX12_isCopied_132 ?_
                                  refine lv_iload B.1 B.2.1 dX12_isCopied_135 (lv_at hl 0 rfl) ?_
                                  refine y_ialdX B h 63 (MW.f hM 13 _ rfl) (by omega) dX12_isCopied_137 ?_
                                  refine x_iset (z := (T 8 zb)) (by show iI (T 8 (((zb : Int).toNat : Nat) : Int)) = _; rw [show ((((zb : Int).toNat : Nat) : Int)) = zb by omega]) ?_
                                  have tb26 := pi_8 (MW.pi hM) zb
                                  have tb27 := pi_n (MW.pi hM) zb
                                  refine x_isub B dX12_isCopied_138 ?_
                                  refine y_cS B h k_X12_abs (c_X12_abs l D Zk ca _ (((T 8 za) - (T 8 zb)))  (by omega)) m_1747 rfl (by decide) hl.1 [] (Nat.le_of_ble_eq_true rfl) rfl dX12_isCopied_139 (fun r w1 hq H locs h => ?_)
                                  obtain ⟨rfl, z28, rfl, hz28⟩ := hq
                                  show W p l e r_c_X12_isCopied_e s m args below meth c _ _ 0 0 Qf (F0 m 142 ls [.int (iI z28)])
                                  refine x_iconst B dX12_isCopied_142 ?_
                                  refine x_icmp_lt B (by omega) (tgt := 150) dX12_isCopied_143 (by decide) (fun c29 => ?_) (fun c29 => ?_)
                                  · refine x_iconst B dX12_isCopied_150 ?_
                                    refine lv_istore_n (lv' := [(3, .int (iI 0)), (6, .int (iI zb)), (5, .int (iI za)), (4, .int (iI s_)), (2, .int (iI pz)), (0, .ref (am 0)), (1, .int (iI k))]) B.1 B.2.1 dX12_isCopied_151 rfl hl (by decide) rfl (fun ls hl => ?_)
                                    refine lv_iinc (v := iI (s_ + 1)) (lv' := [(4, .int (iI (s_ + 1))), (3, .int (iI 0)), (6, .int (iI zb)), (5, .int (iI za)), (2, .int (iI pz)), (0, .ref (am 0)), (1, .int (iI k))]) B.1 B.2.1 dX12_isCopied_152 hl (k := 3) rfl (iI_add _ _) (by decide) rfl (fun ls hl => ?_)
                                    refine lv_goto (tgt := 32) B.1 B.2.1 dX12_isCopied_155 (by decide) ?_
                                    exact ih32 0 ((s_ + 1)) (by omega) (by omega) (Or.inr ⟨rfl, by rcases h2 with ⟨q9, -⟩ | ⟨-, n⟩; omega; exact all_next n (DIF_no (MW.pi hM) hza hzb (by first | exact Or.inl (by omega) | exact Or.inr (Or.inl (by omega)) | exact Or.inr (Or.inr (Or.inl (by omega))) | exact Or.inr (Or.inr (Or.inr (Or.inl (by omega)))) | exact Or.inr (Or.inr (Or.inr (Or.inr (Or.inl (by assumption))))) | exact Or.inr (Or.inr (Or.inr (Or.inr (Or.inr (Or.inl (by assumption)))))) | exact Or.inr (Or.inr (Or.inr (Or.inr (Or.inr (Or.inr (by omega))))))))⟩) (by omega) _ _ _ h (lv_sub hl [0, 1, 4, 5, 6] rfl)
                                  · refine x_iconst B dX12_isCopied_146 ?_
                                    refine lv_goto (tgt := 151) B.1 B.2.1 dX12_isCopied_147 (by decide) ?_
                                    refine lv_istore_n (lv' := [(3, .int (iI 1)), (6, .int (iI zb)), (5, .int (iI za)), (4, .int (iI s_)), (2, .int (iI pz)), (0, .ref (am 0)), (1, .int (iI k))]) B.1 B.2.1 dX12_isCopied_151 rfl hl (by decide) rfl (fun ls hl => ?_)
                                    refine lv_iinc (v := iI (s_ + 1)) (lv' := [(4, .int (iI (s_ + 1))), (3, .int (iI 1)), (6, .int (iI zb)), (5, .int (iI za)), (2, .int (iI pz)), (0, .ref (am 0)), (1, .int (iI k))]) B.1 B.2.1 dX12_isCopied_152 hl (k := 3) rfl (iI_add _ _) (by decide) rfl (fun ls hl => ?_)
                                    refine lv_goto (tgt := 32) B.1 B.2.1 dX12_isCopied_155 (by decide) ?_
                                    exact ih32 1 ((s_ + 1)) (by omega) (by omega) (Or.inl ⟨rfl, by first | (rcases h2 with ⟨q9, s9, hs9, hd⟩ | ⟨q9, -⟩; exact ⟨s9, by omega, hd⟩; omega) | exact ⟨s_, by omega, DIF_yes hza hzb (by omega) (by omega) (by omega) (by assumption) (by assumption) (by omega)⟩⟩) (by omega) _ _ _ h (lv_sub hl [0, 1, 4, 5, 6] rfl)
                              · exact absurd c22 (by omega)
                            · show W p l e r_c_X12_isCopied_e s m args below meth c _ _ 0 0 Qf (F0 m 114 ls [.int (iI 0)])
                              refine x_if_ne B (by omega) (tgt := 120) dX12_isCopied_114 (by decide) (fun c30 => ?_) (fun c30 => ?_)
                              · exact absurd c30 (by omega)
                              · refine lv_goto (tgt := 152) B.1 B.2.1 dX12_isCopied_117 (by decide) ?_
                                refine lv_iinc (v := iI (s_ + 1)) (lv' := [(4, .int (iI (s_ + 1))), (6, .int (iI zb)), (5, .int (iI za)), (3, .int (iI is)), (2, .int (iI pz)), (0, .ref (am 0)), (1, .int (iI k))]) B.1 B.2.1 dX12_isCopied_152 hl (k := 2) rfl (iI_add _ _) (by decide) rfl (fun ls hl => ?_)
                                refine lv_goto (tgt := 32) B.1 B.2.1 dX12_isCopied_155 (by decide) ?_
                                exact ih32 is ((s_ + 1)) (by omega) (by omega) (by rcases h2 with ⟨q9, s9, hs9, hd⟩ | ⟨q9, n⟩; exact Or.inl ⟨q9, s9, by omega, hd⟩; exact Or.inr ⟨q9, all_next n (DIF_no (MW.pi hM) hza hzb (by first | exact Or.inl (by omega) | exact Or.inr (Or.inl (by omega)) | exact Or.inr (Or.inr (Or.inl (by omega))) | exact Or.inr (Or.inr (Or.inr (Or.inl (by omega)))) | exact Or.inr (Or.inr (Or.inr (Or.inr (Or.inl (by assumption))))) | exact Or.inr (Or.inr (Or.inr (Or.inr (Or.inr (Or.inl (by assumption)))))) | exact Or.inr (Or.inr (Or.inr (Or.inr (Or.inr (Or.inr (by omega))))))))⟩) (by omega) _ _ _ h (lv_sub hl [0, 3, 4, 5, 6] rfl)
                        · show W p l e r_c_X12_isCopied_e s m args below meth c _ _ 0 0 Qf (F0 m 104 ls [.int (iI 0)])
                          refine x_if_eq B (by omega) (tgt := 152) dX12_isCopied_104 (by decide) (fun c31 => ?_) (fun c31 => ?_)
                          · refine lv_iinc (v := iI (s_ + 1)) (lv' := [(4, .int (iI (s_ + 1))), (6, .int (iI zb)), (5, .int (iI za)), (3, .int (iI is)), (2, .int (iI pz)), (0, .ref (am 0)), (1, .int (iI k))]) B.1 B.2.1 dX12_isCopied_152 hl (k := 2) rfl (iI_add _ _) (by decide) rfl (fun ls hl => ?_)
                            refine lv_goto (tgt := 32) B.1 B.2.1 dX12_isCopied_155 (by decide) ?_
                            exact ih32 is ((s_ + 1)) (by omega) (by omega) (by rcases h2 with ⟨q9, s9, hs9, hd⟩ | ⟨q9, n⟩; exact Or.inl ⟨q9, s9, by omega, hd⟩; exact Or.inr ⟨q9, all_next n (DIF_no (MW.pi hM) hza hzb (by first | exact Or.inl (by omega) | exact Or.inr (Or.inl (by omega)) | exact Or.inr (Or.inr (Or.inl (by omega))) | exact Or.inr (Or.inr (Or.inr (Or.inl (by omega)))) | exact Or.inr (Or.inr (Or.inr (Or.inr (Or.inl (by assumption))))) | exact Or.inr (Or.inr (Or.inr (Or.inr (Or.inr (Or.inl (by assumption)))))) | exact Or.inr (Or.inr (Or.inr (Or.inr (Or.inr (Or.inr (by omega))))))))⟩) (by omega) _ _ _ h (lv_sub hl [0, 3, 4, 5, 6] rfl)
                          · exact absurd c31 (by omega)
                    · show W p l e r_c_X12_isCopied_e s m args below meth c _ _ 0 0 Qf (F0 m 94 ls [.int (iI 0)])
                      refine x_if_eq B (by omega) (tgt := 152) dX12_isCopied_94 (by decide) (fun c32 => ?_) (fun c32 => ?_)
                      · refine lv_iinc (v := iI (s_ + 1)) (lv' := [(4, .int (iI (s_ + 1))), (6, .int (iI zb)), (5, .int (iI za)), (3, .int (iI is)), (2, .int (iI pz)), (0, .ref (am 0)), (1, .int (iI k))]) B.1 B.2.1 dX12_isCopied_152 hl (k := 2) rfl (iI_add _ _) (by decide) rfl (fun ls hl => ?_)
                        refine lv_goto (tgt := 32) B.1 B.2.1 dX12_isCopied_155 (by decide) ?_
                        exact ih32 is ((s_ + 1)) (by omega) (by omega) (by rcases h2 with ⟨q9, s9, hs9, hd⟩ | ⟨q9, n⟩; exact Or.inl ⟨q9, s9, by omega, hd⟩; exact Or.inr ⟨q9, all_next n (DIF_no (MW.pi hM) hza hzb (by first | exact Or.inl (by omega) | exact Or.inr (Or.inl (by omega)) | exact Or.inr (Or.inr (Or.inl (by omega))) | exact Or.inr (Or.inr (Or.inr (Or.inl (by omega)))) | exact Or.inr (Or.inr (Or.inr (Or.inr (Or.inl (by assumption))))) | exact Or.inr (Or.inr (Or.inr (Or.inr (Or.inr (Or.inl (by assumption)))))) | exact Or.inr (Or.inr (Or.inr (Or.inr (Or.inr (Or.inr (by omega))))))))⟩) (by omega) _ _ _ h (lv_sub hl [0, 3, 4, 5, 6] rfl)
                      · exact absurd c32 (by omega)
                · show W p l e r_c_X12_isCopied_e s m args below meth c _ _ 0 0 Qf (F0 m 85 ls [.int (iI 0)])
                  refine x_if_eq B (by omega) (tgt := 152) dX12_isCopied_85 (by decide) (fun c33 => ?_) (fun c33 => ?_)
                  · refine lv_iinc (v := iI (s_ + 1)) (lv' := [(4, .int (iI (s_ + 1))), (6, .int (iI zb)), (5, .int (iI za)), (3, .int (iI is)), (2, .int (iI pz)), (0, .ref (am 0)), (1, .int (iI k))]) B.1 B.2.1 dX12_isCopied_152 hl (k := 2) rfl (iI_add _ _) (by decide) rfl (fun ls hl => ?_)
                    refine lv_goto (tgt := 32) B.1 B.2.1 dX12_isCopied_155 (by decide) ?_
                    exact ih32 is ((s_ + 1)) (by omega) (by omega) (by rcases h2 with ⟨q9, s9, hs9, hd⟩ | ⟨q9, n⟩; exact Or.inl ⟨q9, s9, by omega, hd⟩; exact Or.inr ⟨q9, all_next n (DIF_no (MW.pi hM) hza hzb (by first | exact Or.inl (by omega) | exact Or.inr (Or.inl (by omega)) | exact Or.inr (Or.inr (Or.inl (by omega))) | exact Or.inr (Or.inr (Or.inr (Or.inl (by omega)))) | exact Or.inr (Or.inr (Or.inr (Or.inr (Or.inl (by assumption))))) | exact Or.inr (Or.inr (Or.inr (Or.inr (Or.inr (Or.inl (by assumption)))))) | exact Or.inr (Or.inr (Or.inr (Or.inr (Or.inr (Or.inr (by omega))))))))⟩) (by omega) _ _ _ h (lv_sub hl [0, 3, 4, 5, 6] rfl)
                  · exact absurd c33 (by omega)
      exact loop32 (((12 - 0 : Int)).toNat + 1) 0 0 (by omega) (by omega) (Or.inr ⟨rfl, fun s9 hs9 => absurd hs9 (by omega)⟩) (Nat.lt_succ_self _) _ _ _ h (lv_sub hl [0, 1, 2, 3, 4] rfl)
    · refine x_iconst B dX12_isCopied_25 ?_
      refine y_rz B hQ h (by decide) (by decide) dX12_isCopied_26 ?_
      exact ⟨rfl, _, rfl, Or.inr ⟨rfl, fun hr => by rcases hpz with ⟨a, n⟩ | ⟨a, b⟩; exact n (REP_F (COP_R hr)); have a1 := a.1.1; have e9 := (REP_of (MW.pi hM) (COP_R hr) a).2; omega⟩⟩
abbrev r_c_X12_reading_e : Room := { frames := 4, cells := 0, slots := 0, locals := 93 }
set_option maxHeartbeats 4000000 in
set_option maxRecDepth 100000 in
theorem c_X12_reading_e (l : Launch) (D : va_G) (Zk : yK) (ca : Nat → ClassId) (T : Nat → Int → Int) (E : Nat → Int → Int) (am : Nat → Nat) (w : yW) (hM : MW ca T E am w) (k : Int) (what : Int)  (hk : xr k) (hwhat : xr what) : yC l D Zk ca yX12_reading cX12_reading 3 (some .int) r_c_X12_reading_e [.ref (am 0), .int (iI k), .int (iI what)] w (vI w (fun z => xr z ∧ RDG T k what z)) := by
  refine yC.of2 "WindWordsModel" (by decide) rfl (Nat.le_of_ble_eq_true rfl) ?_
  intro p e s m args below meth c A ls Qf B hnm h hl hQ
  have hl : lv_has ls 3 [(0, .ref (am 0)), (1, .int (iI k)), (2, .int (iI what))] := hl
  have hs := pi_s (MW.pi hM)
  have hpe := pe_0 (MW.pe hM)
  refine lv_iload_n B.1 B.2.1 dX12_reading_0 rfl (lv_at hl 1 rfl) ?_
  refine x_iconst B dX12_reading_1 ?_
  refine lv_aload_n B.1 B.2.1 dX12_reading_2 rfl (lv_at hl 0 rfl) ?_
  refine y_getX B h kX12 50 (MW.f hM 0 _ rfl) 4 (z := (T 0 2)) rfl m_1265 (by decide) dX12_reading_3 ?_
  refine x_iconst B dX12_reading_6 ?_
  refine x_isub B dX12_reading_7 ?_
  refine y_cS B h k_X12_within (c_X12_within l D Zk ca _ k 0 (((T 0 2) - 1))  (by omega) (by omega) (by omega)) m_1515 rfl (by decide) hl.1 [] (Nat.le_of_ble_eq_true rfl) rfl dX12_reading_8 (fun r w1 hq H locs h => ?_)
  obtain ⟨rfl, _, rfl, ⟨rfl, b1⟩ | ⟨rfl, b1⟩⟩ := hq
  · show W p l e r_c_X12_reading_e s m args below meth c _ _ 0 0 Qf (F0 m 11 ls [.int (iI 1)])
    refine x_if_eq B (by omega) (tgt := 24) dX12_reading_11 (by decide) (fun c2 => ?_) (fun c2 => ?_)
    · exact absurd c2 (by omega)
    · refine lv_iload_n B.1 B.2.1 dX12_reading_14 rfl (lv_at hl 2 rfl) ?_
      refine x_iconst B dX12_reading_15 ?_
      refine x_bipush B (by decide) dX12_reading_16 ?_
      refine y_cS B h k_X12_within (c_X12_within l D Zk ca _ what 0 8  (by omega) (by omega) (by omega)) m_1515 rfl (by decide) hl.1 [] (Nat.le_of_ble_eq_true rfl) rfl dX12_reading_18 (fun r w1 hq H locs h => ?_)
      obtain ⟨rfl, _, rfl, ⟨rfl, b3⟩ | ⟨rfl, b3⟩⟩ := hq
      · show W p l e r_c_X12_reading_e s m args below meth c _ _ 0 0 Qf (F0 m 21 ls [.int (iI 1)])
        refine x_if_ne B (by omega) (tgt := 26) dX12_reading_21 (by decide) (fun c4 => ?_) (fun c4 => ?_)
        · refine lv_iload_n B.1 B.2.1 dX12_reading_26 rfl (lv_at hl 2 rfl) ?_
          by_cases t5 : what = 0
          · refine x_tin B (tgt := 72) 0 (by omega) dX12_reading_27 rfl (by decide) ?_
            refine lv_aload_n B.1 B.2.1 dX12_reading_72 rfl (lv_at hl 0 rfl) ?_
            refine y_getR B h kX12 50 (MW.f hM 0 _ rfl) 14 (b := am 9) rfl m_1275 (by decide) dX12_reading_73 ?_
            refine lv_iload_n B.1 B.2.1 dX12_reading_76 rfl (lv_at hl 1 rfl) ?_
            refine y_ialdX B h 59 (MW.f hM 9 _ rfl) (by omega) dX12_reading_77 ?_
            refine x_iset (z := (T 4 k)) (by show iI (T 4 (((k : Int).toNat : Nat) : Int)) = _; rw [show ((((k : Int).toNat : Nat) : Int)) = k by omega]) ?_
            have tb6 := pi_4 (MW.pi hM) k
            refine y_ri B hQ h (by decide) dX12_reading_78 ?_
            exact ⟨rfl, _, rfl, by omega, Or.inr ⟨by omega, by first | exact Or.inl ⟨by omega, rfl⟩ | exact Or.inr (Or.inl ⟨by omega, rfl⟩) | exact Or.inr (Or.inr (Or.inl ⟨by omega, rfl⟩)) | exact Or.inr (Or.inr (Or.inr (Or.inl ⟨by omega, rfl⟩))) | exact Or.inr (Or.inr (Or.inr (Or.inr (Or.inl ⟨by omega, rfl⟩)))) | exact Or.inr (Or.inr (Or.inr (Or.inr (Or.inr (Or.inl ⟨by omega, rfl⟩))))) | exact Or.inr (Or.inr (Or.inr (Or.inr (Or.inr (Or.inr (Or.inl ⟨by omega, rfl⟩)))))) | exact Or.inr (Or.inr (Or.inr (Or.inr (Or.inr (Or.inr (Or.inr (Or.inl ⟨by omega, rfl⟩)))))))⟩⟩
          by_cases t7 : what = 1
          · refine x_tin B (tgt := 79) 1 (by omega) dX12_reading_27 rfl (by decide) ?_
            refine lv_aload_n B.1 B.2.1 dX12_reading_79 rfl (lv_at hl 0 rfl) ?_
            refine y_getR B h kX12 50 (MW.f hM 0 _ rfl) 15 (b := am 10) rfl m_1276 (by decide) dX12_reading_80 ?_
            refine lv_iload_n B.1 B.2.1 dX12_reading_83 rfl (lv_at hl 1 rfl) ?_
            refine y_ialdX B h 60 (MW.f hM 10 _ rfl) (by omega) dX12_reading_84 ?_
            refine x_iset (z := (T 5 k)) (by show iI (T 5 (((k : Int).toNat : Nat) : Int)) = _; rw [show ((((k : Int).toNat : Nat) : Int)) = k by omega]) ?_
            have tb8 := pi_5 (MW.pi hM) k
            refine y_ri B hQ h (by decide) dX12_reading_85 ?_
            exact ⟨rfl, _, rfl, by omega, Or.inr ⟨by omega, by first | exact Or.inl ⟨by omega, rfl⟩ | exact Or.inr (Or.inl ⟨by omega, rfl⟩) | exact Or.inr (Or.inr (Or.inl ⟨by omega, rfl⟩)) | exact Or.inr (Or.inr (Or.inr (Or.inl ⟨by omega, rfl⟩))) | exact Or.inr (Or.inr (Or.inr (Or.inr (Or.inl ⟨by omega, rfl⟩)))) | exact Or.inr (Or.inr (Or.inr (Or.inr (Or.inr (Or.inl ⟨by omega, rfl⟩))))) | exact Or.inr (Or.inr (Or.inr (Or.inr (Or.inr (Or.inr (Or.inl ⟨by omega, rfl⟩)))))) | exact Or.inr (Or.inr (Or.inr (Or.inr (Or.inr (Or.inr (Or.inr (Or.inl ⟨by omega, rfl⟩)))))))⟩⟩
          by_cases t9 : what = 2
          · refine x_tin B (tgt := 86) 2 (by omega) dX12_reading_27 rfl (by decide) ?_
            refine lv_aload_n B.1 B.2.1 dX12_reading_86 rfl (lv_at hl 0 rfl) ?_
            refine y_getR B h kX12 50 (MW.f hM 0 _ rfl) 16 (b := am 11) rfl m_1277 (by decide) dX12_reading_87 ?_
            refine lv_iload_n B.1 B.2.1 dX12_reading_90 rfl (lv_at hl 1 rfl) ?_
            refine y_ialdX B h 61 (MW.f hM 11 _ rfl) (by omega) dX12_reading_91 ?_
            refine x_iset (z := (T 6 k)) (by show iI (T 6 (((k : Int).toNat : Nat) : Int)) = _; rw [show ((((k : Int).toNat : Nat) : Int)) = k by omega]) ?_
            have tb10 := pi_6 (MW.pi hM) k
            refine y_ri B hQ h (by decide) dX12_reading_92 ?_
            exact ⟨rfl, _, rfl, by omega, Or.inr ⟨by omega, by first | exact Or.inl ⟨by omega, rfl⟩ | exact Or.inr (Or.inl ⟨by omega, rfl⟩) | exact Or.inr (Or.inr (Or.inl ⟨by omega, rfl⟩)) | exact Or.inr (Or.inr (Or.inr (Or.inl ⟨by omega, rfl⟩))) | exact Or.inr (Or.inr (Or.inr (Or.inr (Or.inl ⟨by omega, rfl⟩)))) | exact Or.inr (Or.inr (Or.inr (Or.inr (Or.inr (Or.inl ⟨by omega, rfl⟩))))) | exact Or.inr (Or.inr (Or.inr (Or.inr (Or.inr (Or.inr (Or.inl ⟨by omega, rfl⟩)))))) | exact Or.inr (Or.inr (Or.inr (Or.inr (Or.inr (Or.inr (Or.inr (Or.inl ⟨by omega, rfl⟩)))))))⟩⟩
          by_cases t11 : what = 3
          · refine x_tin B (tgt := 93) 3 (by omega) dX12_reading_27 rfl (by decide) ?_
            refine lv_aload_n B.1 B.2.1 dX12_reading_93 rfl (lv_at hl 0 rfl) ?_
            refine y_getR B h kX12 50 (MW.f hM 0 _ rfl) 17 (b := am 12) rfl m_1278 (by decide) dX12_reading_94 ?_
            refine lv_iload_n B.1 B.2.1 dX12_reading_97 rfl (lv_at hl 1 rfl) ?_
            refine y_ialdX B h 62 (MW.f hM 12 _ rfl) (by omega) dX12_reading_98 ?_
            refine x_iset (z := (T 7 k)) (by show iI (T 7 (((k : Int).toNat : Nat) : Int)) = _; rw [show ((((k : Int).toNat : Nat) : Int)) = k by omega]) ?_
            have tb12 := pi_7 (MW.pi hM) k
            refine y_ri B hQ h (by decide) dX12_reading_99 ?_
            exact ⟨rfl, _, rfl, by omega, Or.inr ⟨by omega, by first | exact Or.inl ⟨by omega, rfl⟩ | exact Or.inr (Or.inl ⟨by omega, rfl⟩) | exact Or.inr (Or.inr (Or.inl ⟨by omega, rfl⟩)) | exact Or.inr (Or.inr (Or.inr (Or.inl ⟨by omega, rfl⟩))) | exact Or.inr (Or.inr (Or.inr (Or.inr (Or.inl ⟨by omega, rfl⟩)))) | exact Or.inr (Or.inr (Or.inr (Or.inr (Or.inr (Or.inl ⟨by omega, rfl⟩))))) | exact Or.inr (Or.inr (Or.inr (Or.inr (Or.inr (Or.inr (Or.inl ⟨by omega, rfl⟩)))))) | exact Or.inr (Or.inr (Or.inr (Or.inr (Or.inr (Or.inr (Or.inr (Or.inl ⟨by omega, rfl⟩)))))))⟩⟩
          by_cases t13 : what = 4
          · refine x_tin B (tgt := 100) 4 (by omega) dX12_reading_27 rfl (by decide) ?_
            refine lv_aload_n B.1 B.2.1 dX12_reading_100 rfl (lv_at hl 0 rfl) ?_
            refine y_getR B h kX12 50 (MW.f hM 0 _ rfl) 18 (b := am 13) rfl m_1279 (by decide) dX12_reading_101 ?_
            refine lv_iload_n B.1 B.2.1 dX12_reading_104 rfl (lv_at hl 1 rfl) ?_
            refine y_ialdX B h 63 (MW.f hM 13 _ rfl) (by omega) dX12_reading_105 ?_
            refine x_iset (z := (T 8 k)) (by show iI (T 8 (((k : Int).toNat : Nat) : Int)) = _; rw [show ((((k : Int).toNat : Nat) : Int)) = k by omega]) ?_
            have tb14 := pi_8 (MW.pi hM) k
            have tb15 := pi_n (MW.pi hM) k
            refine y_ri B hQ h (by decide) dX12_reading_106 ?_
            exact ⟨rfl, _, rfl, by omega, Or.inr ⟨by omega, by first | exact Or.inl ⟨by omega, rfl⟩ | exact Or.inr (Or.inl ⟨by omega, rfl⟩) | exact Or.inr (Or.inr (Or.inl ⟨by omega, rfl⟩)) | exact Or.inr (Or.inr (Or.inr (Or.inl ⟨by omega, rfl⟩))) | exact Or.inr (Or.inr (Or.inr (Or.inr (Or.inl ⟨by omega, rfl⟩)))) | exact Or.inr (Or.inr (Or.inr (Or.inr (Or.inr (Or.inl ⟨by omega, rfl⟩))))) | exact Or.inr (Or.inr (Or.inr (Or.inr (Or.inr (Or.inr (Or.inl ⟨by omega, rfl⟩)))))) | exact Or.inr (Or.inr (Or.inr (Or.inr (Or.inr (Or.inr (Or.inr (Or.inl ⟨by omega, rfl⟩)))))))⟩⟩
          by_cases t16 : what = 5
          · refine x_tin B (tgt := 107) 5 (by omega) dX12_reading_27 rfl (by decide) ?_
            refine lv_aload_n B.1 B.2.1 dX12_reading_107 rfl (lv_at hl 0 rfl) ?_
            refine y_getR B h kX12 50 (MW.f hM 0 _ rfl) 19 (b := am 14) rfl m_1280 (by decide) dX12_reading_108 ?_
            refine lv_iload_n B.1 B.2.1 dX12_reading_111 rfl (lv_at hl 1 rfl) ?_
            refine y_ialdX B h 64 (MW.f hM 14 _ rfl) (by omega) dX12_reading_112 ?_
            refine x_iset (z := (T 9 k)) (by show iI (T 9 (((k : Int).toNat : Nat) : Int)) = _; rw [show ((((k : Int).toNat : Nat) : Int)) = k by omega]) ?_
            have tb17 := pi_9 (MW.pi hM) k
            refine y_ri B hQ h (by decide) dX12_reading_113 ?_
            exact ⟨rfl, _, rfl, by omega, Or.inr ⟨by omega, by first | exact Or.inl ⟨by omega, rfl⟩ | exact Or.inr (Or.inl ⟨by omega, rfl⟩) | exact Or.inr (Or.inr (Or.inl ⟨by omega, rfl⟩)) | exact Or.inr (Or.inr (Or.inr (Or.inl ⟨by omega, rfl⟩))) | exact Or.inr (Or.inr (Or.inr (Or.inr (Or.inl ⟨by omega, rfl⟩)))) | exact Or.inr (Or.inr (Or.inr (Or.inr (Or.inr (Or.inl ⟨by omega, rfl⟩))))) | exact Or.inr (Or.inr (Or.inr (Or.inr (Or.inr (Or.inr (Or.inl ⟨by omega, rfl⟩)))))) | exact Or.inr (Or.inr (Or.inr (Or.inr (Or.inr (Or.inr (Or.inr (Or.inl ⟨by omega, rfl⟩)))))))⟩⟩
          by_cases t18 : what = 6
          · refine x_tin B (tgt := 114) 6 (by omega) dX12_reading_27 rfl (by decide) ?_
            refine lv_aload_n B.1 B.2.1 dX12_reading_114 rfl (lv_at hl 0 rfl) ?_
            refine y_getR B h kX12 50 (MW.f hM 0 _ rfl) 20 (b := am 15) rfl m_1281 (by decide) dX12_reading_115 ?_
            refine lv_iload_n B.1 B.2.1 dX12_reading_118 rfl (lv_at hl 1 rfl) ?_
            refine y_ialdX B h 65 (MW.f hM 15 _ rfl) (by omega) dX12_reading_119 ?_
            refine x_iset (z := (T 10 k)) (by show iI (T 10 (((k : Int).toNat : Nat) : Int)) = _; rw [show ((((k : Int).toNat : Nat) : Int)) = k by omega]) ?_
            have tb19 := pi_10 (MW.pi hM) k
            refine y_ri B hQ h (by decide) dX12_reading_120 ?_
            exact ⟨rfl, _, rfl, by omega, Or.inr ⟨by omega, by first | exact Or.inl ⟨by omega, rfl⟩ | exact Or.inr (Or.inl ⟨by omega, rfl⟩) | exact Or.inr (Or.inr (Or.inl ⟨by omega, rfl⟩)) | exact Or.inr (Or.inr (Or.inr (Or.inl ⟨by omega, rfl⟩))) | exact Or.inr (Or.inr (Or.inr (Or.inr (Or.inl ⟨by omega, rfl⟩)))) | exact Or.inr (Or.inr (Or.inr (Or.inr (Or.inr (Or.inl ⟨by omega, rfl⟩))))) | exact Or.inr (Or.inr (Or.inr (Or.inr (Or.inr (Or.inr (Or.inl ⟨by omega, rfl⟩)))))) | exact Or.inr (Or.inr (Or.inr (Or.inr (Or.inr (Or.inr (Or.inr (Or.inl ⟨by omega, rfl⟩)))))))⟩⟩
          by_cases t20 : what = 7
          · refine x_tin B (tgt := 121) 7 (by omega) dX12_reading_27 rfl (by decide) ?_
            refine lv_aload_n B.1 B.2.1 dX12_reading_121 rfl (lv_at hl 0 rfl) ?_
            refine lv_iload_n B.1 B.2.1 dX12_reading_122 rfl (lv_at hl 1 rfl) ?_
            refine y_cV B h kX12 50 (MW.f hM 0 _ rfl) k_X12_writer rfl (c_X12_writer l D Zk ca T E am _ hM k  (by omega)) m_1736 rfl (by decide) hl.1 [] (Nat.le_of_ble_eq_true rfl) rfl dX12_reading_123 (fun r w1 hq H locs h => ?_)
            obtain ⟨rfl, _, rfl, rfl⟩ := hq
            have tb21 := pi_3 (MW.pi hM) (1000 * T 4 k + T 5 k)
            show W p l e r_c_X12_reading_e s m args below meth c _ _ 0 0 Qf (F0 m 126 ls [.int (iI (T 3 (1000 * T 4 k + T 5 k)))])
            refine y_ri B hQ h (by decide) dX12_reading_126 ?_
            exact ⟨rfl, _, rfl, by omega, Or.inr ⟨by omega, by first | exact Or.inl ⟨by omega, rfl⟩ | exact Or.inr (Or.inl ⟨by omega, rfl⟩) | exact Or.inr (Or.inr (Or.inl ⟨by omega, rfl⟩)) | exact Or.inr (Or.inr (Or.inr (Or.inl ⟨by omega, rfl⟩))) | exact Or.inr (Or.inr (Or.inr (Or.inr (Or.inl ⟨by omega, rfl⟩)))) | exact Or.inr (Or.inr (Or.inr (Or.inr (Or.inr (Or.inl ⟨by omega, rfl⟩))))) | exact Or.inr (Or.inr (Or.inr (Or.inr (Or.inr (Or.inr (Or.inl ⟨by omega, rfl⟩)))))) | exact Or.inr (Or.inr (Or.inr (Or.inr (Or.inr (Or.inr (Or.inr (Or.inl ⟨by omega, rfl⟩)))))))⟩⟩
          refine x_tout B (tgt := 127) (by omega) dX12_reading_27 (by decide) ?_
          refine lv_aload_n B.1 B.2.1 dX12_reading_127 rfl (lv_at hl 0 rfl) ?_
          refine lv_iload_n B.1 B.2.1 dX12_reading_128 rfl (lv_at hl 1 rfl) ?_
          refine y_cV B h kX12 50 (MW.f hM 0 _ rfl) k_X12_isCopied rfl (c_X12_isCopied_e l D Zk ca T E am _ hM k  (by omega)) m_1816 rfl (by decide) hl.1 [] (Nat.le_of_ble_eq_true rfl) rfl dX12_reading_129 (fun r w1 hq H locs h => ?_)
          obtain ⟨rfl, _, rfl, ⟨rfl, bc⟩ | ⟨rfl, bc⟩⟩ := hq
          · show W p l e r_c_X12_reading_e s m args below meth c _ _ 0 0 Qf (F0 m 132 ls [.int (iI 1)])
            refine x_if_eq B (by omega) (tgt := 139) dX12_reading_132 (by decide) (fun c23 => ?_) (fun c23 => ?_)
            · exact absurd c23 (by omega)
            · refine x_iconst B dX12_reading_135 ?_
              refine lv_goto (tgt := 140) B.1 B.2.1 dX12_reading_136 (by decide) ?_
              refine y_ri B hQ h (by decide) dX12_reading_140 ?_
              exact ⟨rfl, _, rfl, by omega, Or.inr ⟨by omega, Or.inr (Or.inr (Or.inr (Or.inr (Or.inr (Or.inr (Or.inr (Or.inr ⟨by omega, ite1 bc⟩)))))))⟩⟩
          · show W p l e r_c_X12_reading_e s m args below meth c _ _ 0 0 Qf (F0 m 132 ls [.int (iI 0)])
            refine x_if_eq B (by omega) (tgt := 139) dX12_reading_132 (by decide) (fun c24 => ?_) (fun c24 => ?_)
            · refine x_iconst B dX12_reading_139 ?_
              refine y_ri B hQ h (by decide) dX12_reading_140 ?_
              exact ⟨rfl, _, rfl, by omega, Or.inr ⟨by omega, Or.inr (Or.inr (Or.inr (Or.inr (Or.inr (Or.inr (Or.inr (Or.inr ⟨by omega, ite0 bc⟩)))))))⟩⟩
            · exact absurd c24 (by omega)
        · exact absurd c4 (by omega)
      · show W p l e r_c_X12_reading_e s m args below meth c _ _ 0 0 Qf (F0 m 21 ls [.int (iI 0)])
        refine x_if_ne B (by omega) (tgt := 26) dX12_reading_21 (by decide) (fun c25 => ?_) (fun c25 => ?_)
        · exact absurd c25 (by omega)
        · refine x_iconst B dX12_reading_24 ?_
          refine y_ri B hQ h (by decide) dX12_reading_25 ?_
          exact ⟨rfl, _, rfl, by omega, Or.inl ⟨by omega, rfl⟩⟩
  · show W p l e r_c_X12_reading_e s m args below meth c _ _ 0 0 Qf (F0 m 11 ls [.int (iI 0)])
    refine x_if_eq B (by omega) (tgt := 24) dX12_reading_11 (by decide) (fun c26 => ?_) (fun c26 => ?_)
    · refine x_iconst B dX12_reading_24 ?_
      refine y_ri B hQ h (by decide) dX12_reading_25 ?_
      exact ⟨rfl, _, rfl, by omega, Or.inl ⟨by omega, rfl⟩⟩
    · exact absurd c26 (by omega)
abbrev r_c_X12_copied_e : Room := { frames := 4, cells := 0, slots := 0, locals := 93 }
set_option maxHeartbeats 4000000 in
set_option maxRecDepth 100000 in
theorem c_X12_copied_e (l : Launch) (D : va_G) (Zk : yK) (ca : Nat → ClassId) (T : Nat → Int → Int) (E : Nat → Int → Int) (am : Nat → Nat) (w : yW) (hM : MW ca T E am w) (ship : Int) (what : Int)  (hship : xr ship) (hwhat : xr what) : yC l D Zk ca yX12_copied cX12_copied 6 (some .int) r_c_X12_copied_e [.ref (am 0), .int (iI ship), .int (iI what)] w (vI w (fun z => xr z ∧ CPZ T ship what z)) := by
  refine yC.of2 "WindWordsModel" (by decide) rfl (Nat.le_of_ble_eq_true rfl) ?_
  intro p e s m args below meth c A ls Qf B hnm h hl hQ
  have hl : lv_has ls 6 [(0, .ref (am 0)), (1, .int (iI ship)), (2, .int (iI what))] := hl
  have hs := pi_s (MW.pi hM)
  have hpe := pe_0 (MW.pe hM)
  refine lv_aload_n B.1 B.2.1 dX12_copied_0 rfl (lv_at hl 0 rfl) ?_
  refine lv_iload_n B.1 B.2.1 dX12_copied_1 rfl (lv_at hl 1 rfl) ?_
  refine y_cV B h kX12 50 (MW.f hM 0 _ rfl) k_X12_isShip rfl (c_X12_isShip l D Zk ca T E am _ hM ship  (by omega)) m_1526 rfl (by decide) hl.1 [] (Nat.le_of_ble_eq_true rfl) rfl dX12_copied_2 (fun r w1 hq H locs h => ?_)
  obtain ⟨rfl, _, rfl, ⟨rfl, b1⟩ | ⟨rfl, b1⟩⟩ := hq
  · show W p l e r_c_X12_copied_e s m args below meth c _ _ 0 0 Qf (F0 m 5 ls [.int (iI 1)])
    refine x_if_eq B (by omega) (tgt := 17) dX12_copied_5 (by decide) (fun c2 => ?_) (fun c2 => ?_)
    · exact absurd c2 (by omega)
    · refine lv_iload_n B.1 B.2.1 dX12_copied_8 rfl (lv_at hl 2 rfl) ?_
      refine x_iconst B dX12_copied_9 ?_
      refine x_iconst B dX12_copied_10 ?_
      refine y_cS B h k_X12_within (c_X12_within l D Zk ca _ what 0 2  (by omega) (by omega) (by omega)) m_1515 rfl (by decide) hl.1 [] (Nat.le_of_ble_eq_true rfl) rfl dX12_copied_11 (fun r w1 hq H locs h => ?_)
      obtain ⟨rfl, _, rfl, ⟨rfl, b3⟩ | ⟨rfl, b3⟩⟩ := hq
      · show W p l e r_c_X12_copied_e s m args below meth c _ _ 0 0 Qf (F0 m 14 ls [.int (iI 1)])
        refine x_if_ne B (by omega) (tgt := 19) dX12_copied_14 (by decide) (fun c4 => ?_) (fun c4 => ?_)
        · refine x_iconst B dX12_copied_19 ?_
          refine lv_istore_n (lv' := [(3, .int (iI 0)), (0, .ref (am 0)), (1, .int (iI ship)), (2, .int (iI what))]) B.1 B.2.1 dX12_copied_20 rfl hl (by decide) rfl (fun ls hl => ?_)
          refine x_iconst B dX12_copied_21 ?_
          refine lv_istore (lv' := [(4, .int (iI 0)), (3, .int (iI 0)), (0, .ref (am 0)), (1, .int (iI ship)), (2, .int (iI what))]) B.1 B.2.1 dX12_copied_22 hl (by decide) rfl (fun ls hl => ?_)
          have loop24 : ∀ (n24 : Nat) (n : Int) (k : Int), (0 ≤ n ∧ n ≤ k) → (0 ≤ k ∧ k ≤ T 0 2) → (n = cntp (CPD T ship what) k.toNat) → ((300 - k : Int)).toNat < n24 → ∀ (H : Heap) (locs : List Loc) (ls : Array Slot), yH D Zk A s w H locs → lv_has ls 6 [(4, .int (iI k)), (3, .int (iI n)), (0, .ref (am 0)), (1, .int (iI ship)), (2, .int (iI what))] → W p l e r_c_X12_copied_e s m args below meth c H locs 0 0 Qf (F0 m 24 ls []) := by
            intro n24
            induction n24 with
            | zero =>
              intro n k h0 h1 h2 hm24 H locs ls h hl
              exact absurd hm24 (Nat.not_lt_zero _)
            | succ n24 ih24 =>
              intro n k h0 h1 h2 hm24 H locs ls h hl
              refine lv_iload B.1 B.2.1 dX12_copied_24 (lv_at hl 0 rfl) ?_
              refine lv_aload_n B.1 B.2.1 dX12_copied_26 rfl (lv_at hl 2 rfl) ?_
              refine y_getX B h kX12 50 (MW.f hM 0 _ rfl) 4 (z := (T 0 2)) rfl m_1265 (by decide) dX12_copied_27 ?_
              refine x_icmp_ge B (by omega) (tgt := 118) dX12_copied_30 (by decide) (fun c5 => ?_) (fun c5 => ?_)
              · refine lv_iload_n B.1 B.2.1 dX12_copied_118 rfl (lv_at hl 1 rfl) ?_
                refine y_ri B hQ h (by decide) dX12_copied_119 ?_
                have e9 : k = T 0 2 := by omega
                rw [e9] at h2
                exact ⟨rfl, _, rfl, by omega, Or.inr ⟨by omega, h2⟩⟩
              · refine lv_aload_n B.1 B.2.1 dX12_copied_33 rfl (lv_at hl 2 rfl) ?_
                refine y_getR B h kX12 50 (MW.f hM 0 _ rfl) 14 (b := am 9) rfl m_1275 (by decide) dX12_copied_34 ?_
                refine lv_iload B.1 B.2.1 dX12_copied_37 (lv_at hl 0 rfl) ?_
                refine y_ialdX B h 59 (MW.f hM 9 _ rfl) (by omega) dX12_copied_39 ?_
                refine x_iset (z := (T 4 k)) (by show iI (T 4 (((k : Int).toNat : Nat) : Int)) = _; rw [show ((((k : Int).toNat : Nat) : Int)) = k by omega]) ?_
                have tb6 := pi_4 (MW.pi hM) k
                refine lv_iload_n B.1 B.2.1 dX12_copied_40 rfl (lv_at hl 3 rfl) ?_
                refine x_icmp_ne B (by omega) (tgt := 53) dX12_copied_41 (by decide) (fun c7 => ?_) (fun c7 => ?_)
                · refine x_iconst B dX12_copied_53 ?_
                  refine lv_istore (lv' := [(5, .int (iI (-1))), (4, .int (iI k)), (3, .int (iI n)), (0, .ref (am 0)), (1, .int (iI ship)), (2, .int (iI what))]) B.1 B.2.1 dX12_copied_54 hl (by decide) rfl (fun ls hl => ?_)
                  refine lv_iload B.1 B.2.1 dX12_copied_56 (lv_at hl 0 rfl) ?_
                  refine x_if_ge B (by omega) (tgt := 64) dX12_copied_58 (by decide) (fun c8 => ?_) (fun c8 => ?_)
                  · exact absurd c8 (by omega)
                  · refine lv_goto (tgt := 112) B.1 B.2.1 dX12_copied_61 (by decide) ?_
                    refine lv_iinc (v := iI (k + 1)) (lv' := [(4, .int (iI (k + 1))), (5, .int (iI (-1))), (3, .int (iI n)), (0, .ref (am 0)), (1, .int (iI ship)), (2, .int (iI what))]) B.1 B.2.1 dX12_copied_112 hl (k := 1) rfl (iI_add _ _) (by decide) rfl (fun ls hl => ?_)
                    refine lv_goto (tgt := 24) B.1 B.2.1 dX12_copied_115 (by decide) ?_
                    exact ih24 n ((k + 1)) (by omega) (by omega) (cntp_next (by omega) h2 (Or.inr ⟨fun ⟨e, hh⟩ => by first | omega | (rcases hpz with ⟨a, nf⟩ | ⟨a, b⟩; (rcases hh with ⟨q, f⟩ | ⟨q, f⟩ | ⟨q, f⟩; exact nf f; exact nf (REP_F f); exact nf (REP_F (COP_R f))); (have a1 := a.1.1; rcases hh with ⟨q, f⟩ | ⟨q, f⟩ | ⟨q, f⟩; omega; (have e9 := (REP_of (MW.pi hM) f a).2; omega); first | omega | contradiction)), by omega⟩)) (by omega) _ _ _ h (lv_sub hl [0, 2, 3, 4, 5] rfl)
                · refine lv_aload_n B.1 B.2.1 dX12_copied_44 rfl (lv_at hl 2 rfl) ?_
                  refine lv_iload B.1 B.2.1 dX12_copied_45 (lv_at hl 0 rfl) ?_
                  refine y_cV B h kX12 50 (MW.f hM 0 _ rfl) k_X12_followed rfl (c_X12_followed_e l D Zk ca T E am _ hM k  (by omega)) m_1820 rfl (by decide) hl.1 [] (Nat.le_of_ble_eq_true rfl) rfl dX12_copied_47 (fun r w1 hq H locs h => ?_)
                  obtain ⟨rfl, pz, rfl, hpz⟩ := hq
                  show W p l e r_c_X12_copied_e s m args below meth c _ _ 0 0 Qf (F0 m 50 ls [.int (iI pz)])
                  have hpr : pz = -1 ∨ (0 ≤ pz ∧ pz < T 0 2) := by rcases hpz with ⟨a, -⟩ | ⟨a, -⟩; exact Or.inl a; exact Or.inr a.1
                  refine lv_goto (tgt := 54) B.1 B.2.1 dX12_copied_50 (by decide) ?_
                  refine lv_istore (lv' := [(5, .int (iI pz)), (4, .int (iI k)), (3, .int (iI n)), (0, .ref (am 0)), (1, .int (iI ship)), (2, .int (iI what))]) B.1 B.2.1 dX12_copied_54 hl (by decide) rfl (fun ls hl => ?_)
                  refine lv_iload B.1 B.2.1 dX12_copied_56 (lv_at hl 0 rfl) ?_
                  refine x_if_ge B (by omega) (tgt := 64) dX12_copied_58 (by decide) (fun c10 => ?_) (fun c10 => ?_)
                  · have q9 : PRV T k pz ∧ FLW T k pz := by rcases hpz with ⟨a, n⟩ | a; omega; exact a
                    have q7 := q9.1.1
                    refine lv_iload_n B.1 B.2.1 dX12_copied_64 rfl (lv_at hl 2 rfl) ?_
                    refine lv_iload_n B.1 B.2.1 dX12_copied_65 rfl (lv_at hl 5 rfl) ?_
                    refine x_if_eq B (by omega) (tgt := 105) dX12_copied_66 (by decide) (fun c11 => ?_) (fun c11 => ?_)
                    · refine x_iconst B dX12_copied_105 ?_
                      refine lv_goto (tgt := 110) B.1 B.2.1 dX12_copied_106 (by decide) ?_
                      refine x_iadd B dX12_copied_110 ?_
                      refine lv_istore_n (lv' := [(3, .int (iI (n + 1))), (5, .int (iI pz)), (4, .int (iI k)), (0, .ref (am 0)), (1, .int (iI ship)), (2, .int (iI what))]) B.1 B.2.1 dX12_copied_111 rfl hl (by decide) rfl (fun ls hl => ?_)
                      refine lv_iinc (v := iI (k + 1)) (lv' := [(4, .int (iI (k + 1))), (3, .int (iI (n + 1))), (5, .int (iI pz)), (0, .ref (am 0)), (1, .int (iI ship)), (2, .int (iI what))]) B.1 B.2.1 dX12_copied_112 hl (k := 2) rfl (iI_add _ _) (by decide) rfl (fun ls hl => ?_)
                      refine lv_goto (tgt := 24) B.1 B.2.1 dX12_copied_115 (by decide) ?_
                      exact ih24 ((n + 1)) ((k + 1)) (by omega) (by omega) (cntp_next (by omega) h2 (Or.inl ⟨⟨by omega, by first | exact Or.inl ⟨by omega, pz, q9.1, q9.2⟩ | exact Or.inr (Or.inl ⟨by omega, pz, q9.1, q9.2, by omega⟩) | exact Or.inr (Or.inr ⟨by omega, by assumption⟩)⟩, by omega⟩)) (by omega) _ _ _ h (lv_sub hl [0, 1, 3, 4, 5] rfl)
                    · refine lv_iload_n B.1 B.2.1 dX12_copied_69 rfl (lv_at hl 5 rfl) ?_
                      refine x_iconst B dX12_copied_70 ?_
                      refine x_icmp_ne B (by omega) (tgt := 91) dX12_copied_71 (by decide) (fun c12 => ?_) (fun c12 => ?_)
                      · refine lv_iload_n B.1 B.2.1 dX12_copied_91 rfl (lv_at hl 5 rfl) ?_
                        refine x_iconst B dX12_copied_92 ?_
                        refine x_icmp_ne B (by omega) (tgt := 109) dX12_copied_93 (by decide) (fun c13 => ?_) (fun c13 => ?_)
                        · refine x_iconst B dX12_copied_109 ?_
                          refine x_iadd B dX12_copied_110 ?_
                          refine lv_istore_n (lv' := [(3, .int (iI (n + 0))), (5, .int (iI pz)), (4, .int (iI k)), (0, .ref (am 0)), (1, .int (iI ship)), (2, .int (iI what))]) B.1 B.2.1 dX12_copied_111 rfl hl (by decide) rfl (fun ls hl => ?_)
                          refine lv_iinc (v := iI (k + 1)) (lv' := [(4, .int (iI (k + 1))), (3, .int (iI (n + 0))), (5, .int (iI pz)), (0, .ref (am 0)), (1, .int (iI ship)), (2, .int (iI what))]) B.1 B.2.1 dX12_copied_112 hl (k := 2) rfl (iI_add _ _) (by decide) rfl (fun ls hl => ?_)
                          refine lv_goto (tgt := 24) B.1 B.2.1 dX12_copied_115 (by decide) ?_
                          exact ih24 ((n + 0)) ((k + 1)) (by omega) (by omega) (cntp_next (by omega) h2 (Or.inr ⟨fun ⟨e, hh⟩ => by first | omega | (rcases hpz with ⟨a, nf⟩ | ⟨a, b⟩; (rcases hh with ⟨q, f⟩ | ⟨q, f⟩ | ⟨q, f⟩; exact nf f; exact nf (REP_F f); exact nf (REP_F (COP_R f))); (have a1 := a.1.1; rcases hh with ⟨q, f⟩ | ⟨q, f⟩ | ⟨q, f⟩; omega; (have e9 := (REP_of (MW.pi hM) f a).2; omega); first | omega | contradiction)), by omega⟩)) (by omega) _ _ _ h (lv_sub hl [0, 1, 3, 4, 5] rfl)
                        · refine lv_aload_n B.1 B.2.1 dX12_copied_96 rfl (lv_at hl 3 rfl) ?_
                          refine lv_iload B.1 B.2.1 dX12_copied_97 (lv_at hl 1 rfl) ?_
                          refine y_cV B h kX12 50 (MW.f hM 0 _ rfl) k_X12_isCopied rfl (c_X12_isCopied_e l D Zk ca T E am _ hM k  (by omega)) m_1816 rfl (by decide) hl.1 [.int (iI n)] (Nat.le_of_ble_eq_true rfl) rfl dX12_copied_99 (fun r w1 hq H locs h => ?_)
                          obtain ⟨rfl, _, rfl, ⟨rfl, b14⟩ | ⟨rfl, b14⟩⟩ := hq
                          · show W p l e r_c_X12_copied_e s m args below meth c _ _ 0 0 Qf (F0 m 102 ls [.int (iI 1), .int (iI n)])
                            refine x_if_eq B (by omega) (tgt := 109) dX12_copied_102 (by decide) (fun c15 => ?_) (fun c15 => ?_)
                            · exact absurd c15 (by omega)
                            · refine x_iconst B dX12_copied_105 ?_
                              refine lv_goto (tgt := 110) B.1 B.2.1 dX12_copied_106 (by decide) ?_
                              refine x_iadd B dX12_copied_110 ?_
                              refine lv_istore_n (lv' := [(3, .int (iI (n + 1))), (5, .int (iI pz)), (4, .int (iI k)), (0, .ref (am 0)), (1, .int (iI ship)), (2, .int (iI what))]) B.1 B.2.1 dX12_copied_111 rfl hl (by decide) rfl (fun ls hl => ?_)
                              refine lv_iinc (v := iI (k + 1)) (lv' := [(4, .int (iI (k + 1))), (3, .int (iI (n + 1))), (5, .int (iI pz)), (0, .ref (am 0)), (1, .int (iI ship)), (2, .int (iI what))]) B.1 B.2.1 dX12_copied_112 hl (k := 2) rfl (iI_add _ _) (by decide) rfl (fun ls hl => ?_)
                              refine lv_goto (tgt := 24) B.1 B.2.1 dX12_copied_115 (by decide) ?_
                              exact ih24 ((n + 1)) ((k + 1)) (by omega) (by omega) (cntp_next (by omega) h2 (Or.inl ⟨⟨by omega, by first | exact Or.inl ⟨by omega, pz, q9.1, q9.2⟩ | exact Or.inr (Or.inl ⟨by omega, pz, q9.1, q9.2, by omega⟩) | exact Or.inr (Or.inr ⟨by omega, by assumption⟩)⟩, by omega⟩)) (by omega) _ _ _ h (lv_sub hl [0, 1, 3, 4, 5] rfl)
                          · show W p l e r_c_X12_copied_e s m args below meth c _ _ 0 0 Qf (F0 m 102 ls [.int (iI 0), .int (iI n)])
                            refine x_if_eq B (by omega) (tgt := 109) dX12_copied_102 (by decide) (fun c16 => ?_) (fun c16 => ?_)
                            · refine x_iconst B dX12_copied_109 ?_
                              refine x_iadd B dX12_copied_110 ?_
                              refine lv_istore_n (lv' := [(3, .int (iI (n + 0))), (5, .int (iI pz)), (4, .int (iI k)), (0, .ref (am 0)), (1, .int (iI ship)), (2, .int (iI what))]) B.1 B.2.1 dX12_copied_111 rfl hl (by decide) rfl (fun ls hl => ?_)
                              refine lv_iinc (v := iI (k + 1)) (lv' := [(4, .int (iI (k + 1))), (3, .int (iI (n + 0))), (5, .int (iI pz)), (0, .ref (am 0)), (1, .int (iI ship)), (2, .int (iI what))]) B.1 B.2.1 dX12_copied_112 hl (k := 2) rfl (iI_add _ _) (by decide) rfl (fun ls hl => ?_)
                              refine lv_goto (tgt := 24) B.1 B.2.1 dX12_copied_115 (by decide) ?_
                              exact ih24 ((n + 0)) ((k + 1)) (by omega) (by omega) (cntp_next (by omega) h2 (Or.inr ⟨fun ⟨e, hh⟩ => by first | omega | (rcases hpz with ⟨a, nf⟩ | ⟨a, b⟩; (rcases hh with ⟨q, f⟩ | ⟨q, f⟩ | ⟨q, f⟩; exact nf f; exact nf (REP_F f); exact nf (REP_F (COP_R f))); (have a1 := a.1.1; rcases hh with ⟨q, f⟩ | ⟨q, f⟩ | ⟨q, f⟩; omega; (have e9 := (REP_of (MW.pi hM) f a).2; omega); first | omega | contradiction)), by omega⟩)) (by omega) _ _ _ h (lv_sub hl [0, 1, 3, 4, 5] rfl)
                            · exact absurd c16 (by omega)
                      · refine lv_aload_n B.1 B.2.1 dX12_copied_74 rfl (lv_at hl 3 rfl) ?_
                        refine y_getR B h kX12 50 (MW.f hM 0 _ rfl) 18 (b := am 13) rfl m_1279 (by decide) dX12_copied_75 ?_
                        refine lv_iload B.1 B.2.1 dX12_copied_78 (lv_at hl 0 rfl) ?_
                        refine y_ialdX B h 63 (MW.f hM 13 _ rfl) (by omega) dX12_copied_80 ?_
                        refine x_iset (z := (T 8 pz)) (by show iI (T 8 (((pz : Int).toNat : Nat) : Int)) = _; rw [show ((((pz : Int).toNat : Nat) : Int)) = pz by omega]) ?_
                        have tb17 := pi_8 (MW.pi hM) pz
                        have tb18 := pi_n (MW.pi hM) pz
                        refine lv_aload_n B.1 B.2.1 dX12_copied_81 rfl (lv_at hl 3 rfl) ?_
                        refine y_getR B h kX12 50 (MW.f hM 0 _ rfl) 18 (b := am 13) rfl m_1279 (by decide) dX12_copied_82 ?_
                        refine lv_iload B.1 B.2.1 dX12_copied_85 (lv_at hl 1 rfl) ?_
                        refine y_ialdX B h 63 (MW.f hM 13 _ rfl) (by omega) dX12_copied_87 ?_
                        refine x_iset (z := (T 8 k)) (by show iI (T 8 (((k : Int).toNat : Nat) : Int)) = _; rw [show ((((k : Int).toNat : Nat) : Int)) = k by omega]) ?_
                        have tb19 := pi_8 (MW.pi hM) k
                        have tb20 := pi_n (MW.pi hM) k
                        refine x_icmp_eq B (by omega) (tgt := 105) dX12_copied_88 (by decide) (fun c21 => ?_) (fun c21 => ?_)
                        · refine x_iconst B dX12_copied_105 ?_
                          refine lv_goto (tgt := 110) B.1 B.2.1 dX12_copied_106 (by decide) ?_
                          refine x_iadd B dX12_copied_110 ?_
                          refine lv_istore_n (lv' := [(3, .int (iI (n + 1))), (5, .int (iI pz)), (4, .int (iI k)), (0, .ref (am 0)), (1, .int (iI ship)), (2, .int (iI what))]) B.1 B.2.1 dX12_copied_111 rfl hl (by decide) rfl (fun ls hl => ?_)
                          refine lv_iinc (v := iI (k + 1)) (lv' := [(4, .int (iI (k + 1))), (3, .int (iI (n + 1))), (5, .int (iI pz)), (0, .ref (am 0)), (1, .int (iI ship)), (2, .int (iI what))]) B.1 B.2.1 dX12_copied_112 hl (k := 2) rfl (iI_add _ _) (by decide) rfl (fun ls hl => ?_)
                          refine lv_goto (tgt := 24) B.1 B.2.1 dX12_copied_115 (by decide) ?_
                          exact ih24 ((n + 1)) ((k + 1)) (by omega) (by omega) (cntp_next (by omega) h2 (Or.inl ⟨⟨by omega, by first | exact Or.inl ⟨by omega, pz, q9.1, q9.2⟩ | exact Or.inr (Or.inl ⟨by omega, pz, q9.1, q9.2, by omega⟩) | exact Or.inr (Or.inr ⟨by omega, by assumption⟩)⟩, by omega⟩)) (by omega) _ _ _ h (lv_sub hl [0, 1, 3, 4, 5] rfl)
                        · refine lv_iload_n B.1 B.2.1 dX12_copied_91 rfl (lv_at hl 5 rfl) ?_
                          refine x_iconst B dX12_copied_92 ?_
                          refine x_icmp_ne B (by omega) (tgt := 109) dX12_copied_93 (by decide) (fun c22 => ?_) (fun c22 => ?_)
                          · refine x_iconst B dX12_copied_109 ?_
                            refine x_iadd B dX12_copied_110 ?_
                            refine lv_istore_n (lv' := [(3, .int (iI (n + 0))), (5, .int (iI pz)), (4, .int (iI k)), (0, .ref (am 0)), (1, .int (iI ship)), (2, .int (iI what))]) B.1 B.2.1 dX12_copied_111 rfl hl (by decide) rfl (fun ls hl => ?_)
                            refine lv_iinc (v := iI (k + 1)) (lv' := [(4, .int (iI (k + 1))), (3, .int (iI (n + 0))), (5, .int (iI pz)), (0, .ref (am 0)), (1, .int (iI ship)), (2, .int (iI what))]) B.1 B.2.1 dX12_copied_112 hl (k := 2) rfl (iI_add _ _) (by decide) rfl (fun ls hl => ?_)
                            refine lv_goto (tgt := 24) B.1 B.2.1 dX12_copied_115 (by decide) ?_
                            exact ih24 ((n + 0)) ((k + 1)) (by omega) (by omega) (cntp_next (by omega) h2 (Or.inr ⟨fun ⟨e, hh⟩ => by first | omega | (rcases hpz with ⟨a, nf⟩ | ⟨a, b⟩; (rcases hh with ⟨q, f⟩ | ⟨q, f⟩ | ⟨q, f⟩; exact nf f; exact nf (REP_F f); exact nf (REP_F (COP_R f))); (have a1 := a.1.1; rcases hh with ⟨q, f⟩ | ⟨q, f⟩ | ⟨q, f⟩; omega; (have e9 := (REP_of (MW.pi hM) f a).2; omega); first | omega | contradiction)), by omega⟩)) (by omega) _ _ _ h (lv_sub hl [0, 1, 3, 4, 5] rfl)
                          · refine lv_aload_n B.1 B.2.1 dX12_copied_96 rfl (lv_at hl 3 rfl) ?_
                            refine lv_iload B.1 B.2.1 dX12_copied_97 (lv_at hl 1 rfl) ?_
                            refine y_cV B h kX12 50 (MW.f hM 0 _ rfl) k_X12_isCopied rfl (c_X12_isCopied_e l D Zk ca T E am _ hM k  (by omega)) m_1816 rfl (by decide) hl.1 [.int (iI n)] (Nat.le_of_ble_eq_true rfl) rfl dX12_copied_99 (fun r w1 hq H locs h => ?_)
                            obtain ⟨rfl, _, rfl, ⟨rfl, b23⟩ | ⟨rfl, b23⟩⟩ := hq
                            · show W p l e r_c_X12_copied_e s m args below meth c _ _ 0 0 Qf (F0 m 102 ls [.int (iI 1), .int (iI n)])
                              refine x_if_eq B (by omega) (tgt := 109) dX12_copied_102 (by decide) (fun c24 => ?_) (fun c24 => ?_)
                              · exact absurd c24 (by omega)
                              · refine x_iconst B dX12_copied_105 ?_
                                refine lv_goto (tgt := 110) B.1 B.2.1 dX12_copied_106 (by decide) ?_
                                refine x_iadd B dX12_copied_110 ?_
                                refine lv_istore_n (lv' := [(3, .int (iI (n + 1))), (5, .int (iI pz)), (4, .int (iI k)), (0, .ref (am 0)), (1, .int (iI ship)), (2, .int (iI what))]) B.1 B.2.1 dX12_copied_111 rfl hl (by decide) rfl (fun ls hl => ?_)
                                refine lv_iinc (v := iI (k + 1)) (lv' := [(4, .int (iI (k + 1))), (3, .int (iI (n + 1))), (5, .int (iI pz)), (0, .ref (am 0)), (1, .int (iI ship)), (2, .int (iI what))]) B.1 B.2.1 dX12_copied_112 hl (k := 2) rfl (iI_add _ _) (by decide) rfl (fun ls hl => ?_)
                                refine lv_goto (tgt := 24) B.1 B.2.1 dX12_copied_115 (by decide) ?_
                                exact ih24 ((n + 1)) ((k + 1)) (by omega) (by omega) (cntp_next (by omega) h2 (Or.inl ⟨⟨by omega, by first | exact Or.inl ⟨by omega, pz, q9.1, q9.2⟩ | exact Or.inr (Or.inl ⟨by omega, pz, q9.1, q9.2, by omega⟩) | exact Or.inr (Or.inr ⟨by omega, by assumption⟩)⟩, by omega⟩)) (by omega) _ _ _ h (lv_sub hl [0, 1, 3, 4, 5] rfl)
                            · show W p l e r_c_X12_copied_e s m args below meth c _ _ 0 0 Qf (F0 m 102 ls [.int (iI 0), .int (iI n)])
                              refine x_if_eq B (by omega) (tgt := 109) dX12_copied_102 (by decide) (fun c25 => ?_) (fun c25 => ?_)
                              · refine x_iconst B dX12_copied_109 ?_
                                refine x_iadd B dX12_copied_110 ?_
                                refine lv_istore_n (lv' := [(3, .int (iI (n + 0))), (5, .int (iI pz)), (4, .int (iI k)), (0, .ref (am 0)), (1, .int (iI ship)), (2, .int (iI what))]) B.1 B.2.1 dX12_copied_111 rfl hl (by decide) rfl (fun ls hl => ?_)
                                refine lv_iinc (v := iI (k + 1)) (lv' := [(4, .int (iI (k + 1))), (3, .int (iI (n + 0))), (5, .int (iI pz)), (0, .ref (am 0)), (1, .int (iI ship)), (2, .int (iI what))]) B.1 B.2.1 dX12_copied_112 hl (k := 2) rfl (iI_add _ _) (by decide) rfl (fun ls hl => ?_)
                                refine lv_goto (tgt := 24) B.1 B.2.1 dX12_copied_115 (by decide) ?_
                                exact ih24 ((n + 0)) ((k + 1)) (by omega) (by omega) (cntp_next (by omega) h2 (Or.inr ⟨fun ⟨e, hh⟩ => by first | omega | (rcases hpz with ⟨a, nf⟩ | ⟨a, b⟩; (rcases hh with ⟨q, f⟩ | ⟨q, f⟩ | ⟨q, f⟩; exact nf f; exact nf (REP_F f); exact nf (REP_F (COP_R f))); (have a1 := a.1.1; rcases hh with ⟨q, f⟩ | ⟨q, f⟩ | ⟨q, f⟩; omega; (have e9 := (REP_of (MW.pi hM) f a).2; omega); first | omega | contradiction)), by omega⟩)) (by omega) _ _ _ h (lv_sub hl [0, 1, 3, 4, 5] rfl)
                              · exact absurd c25 (by omega)
                  · refine lv_goto (tgt := 112) B.1 B.2.1 dX12_copied_61 (by decide) ?_
                    refine lv_iinc (v := iI (k + 1)) (lv' := [(4, .int (iI (k + 1))), (5, .int (iI pz)), (3, .int (iI n)), (0, .ref (am 0)), (1, .int (iI ship)), (2, .int (iI what))]) B.1 B.2.1 dX12_copied_112 hl (k := 1) rfl (iI_add _ _) (by decide) rfl (fun ls hl => ?_)
                    refine lv_goto (tgt := 24) B.1 B.2.1 dX12_copied_115 (by decide) ?_
                    exact ih24 n ((k + 1)) (by omega) (by omega) (cntp_next (by omega) h2 (Or.inr ⟨fun ⟨e, hh⟩ => by first | omega | (rcases hpz with ⟨a, nf⟩ | ⟨a, b⟩; (rcases hh with ⟨q, f⟩ | ⟨q, f⟩ | ⟨q, f⟩; exact nf f; exact nf (REP_F f); exact nf (REP_F (COP_R f))); (have a1 := a.1.1; rcases hh with ⟨q, f⟩ | ⟨q, f⟩ | ⟨q, f⟩; omega; (have e9 := (REP_of (MW.pi hM) f a).2; omega); first | omega | contradiction)), by omega⟩)) (by omega) _ _ _ h (lv_sub hl [0, 2, 3, 4, 5] rfl)
          exact loop24 (((300 - 0 : Int)).toNat + 1) 0 0 (by omega) (by omega) rfl (Nat.lt_succ_self _) _ _ _ h (lv_sub hl [0, 1, 2, 3, 4] rfl)
        · exact absurd c4 (by omega)
      · show W p l e r_c_X12_copied_e s m args below meth c _ _ 0 0 Qf (F0 m 14 ls [.int (iI 0)])
        refine x_if_ne B (by omega) (tgt := 19) dX12_copied_14 (by decide) (fun c26 => ?_) (fun c26 => ?_)
        · exact absurd c26 (by omega)
        · refine x_iconst B dX12_copied_17 ?_
          refine y_ri B hQ h (by decide) dX12_copied_18 ?_
          exact ⟨rfl, _, rfl, by omega, Or.inl ⟨by omega, rfl⟩⟩
  · show W p l e r_c_X12_copied_e s m args below meth c _ _ 0 0 Qf (F0 m 5 ls [.int (iI 0)])
    refine x_if_eq B (by omega) (tgt := 17) dX12_copied_5 (by decide) (fun c27 => ?_) (fun c27 => ?_)
    · refine x_iconst B dX12_copied_17 ?_
      refine y_ri B hQ h (by decide) dX12_copied_18 ?_
      exact ⟨rfl, _, rfl, by omega, Or.inl ⟨by omega, rfl⟩⟩
    · exact absurd c27 (by omega)
abbrev r_c_X12_find_e : Room := { frames := 4, cells := 0, slots := 0, locals := 93 }
set_option maxHeartbeats 4000000 in
set_option maxRecDepth 100000 in
theorem c_X12_find_e (l : Launch) (D : va_G) (Zk : yK) (ca : Nat → ClassId) (T : Nat → Int → Int) (E : Nat → Int → Int) (am : Nat → Nat) (w : yW) (hM : MW ca T E am w) (k : Int)  (hk : xr k) : yC l D Zk ca yX12_find cX12_find 4 (some .int) r_c_X12_find_e [.ref (am 0), .int (iI k)] w (vI w (fun z => xr z ∧ FND T k z)) := by
  refine yC.of2 "WindWordsModel" (by decide) rfl (Nat.le_of_ble_eq_true rfl) ?_
  intro p e s m args below meth c A ls Qf B hnm h hl hQ
  have hl : lv_has ls 4 [(0, .ref (am 0)), (1, .int (iI k))] := hl
  have hs := pi_s (MW.pi hM)
  have hpe := pe_0 (MW.pe hM)
  refine lv_iload_n B.1 B.2.1 dX12_find_0 rfl (lv_at hl 1 rfl) ?_
  refine x_if_ge B (by omega) (tgt := 6) dX12_find_1 (by decide) (fun c1 => ?_) (fun c1 => ?_)
  · refine lv_iload_n B.1 B.2.1 dX12_find_6 rfl (lv_at hl 1 rfl) ?_
    refine lv_istore_n (lv' := [(2, .int (iI k)), (0, .ref (am 0)), (1, .int (iI k))]) B.1 B.2.1 dX12_find_7 rfl hl (by decide) rfl (fun ls hl => ?_)
    refine x_iconst B dX12_find_8 ?_
    refine lv_istore_n (lv' := [(3, .int (iI 0)), (2, .int (iI k)), (0, .ref (am 0)), (1, .int (iI k))]) B.1 B.2.1 dX12_find_9 rfl hl (by decide) rfl (fun ls hl => ?_)
    have loop10 : ∀ (n10 : Nat) (le : Int) (i : Int), (0 ≤ le) → (xr le) → (0 ≤ i ∧ i ≤ T 0 2) → (k - le = cntp (COP T) i.toNat) → (∀ s9 : Int, 0 ≤ s9 ∧ s9 < i → ¬ (COP T s9 ∧ cntp (COP T) s9.toNat = k)) → ((300 - i : Int)).toNat < n10 → ∀ (H : Heap) (locs : List Loc) (ls : Array Slot), yH D Zk A s w H locs → lv_has ls 4 [(3, .int (iI i)), (2, .int (iI le)), (0, .ref (am 0))] → W p l e r_c_X12_find_e s m args below meth c H locs 0 0 Qf (F0 m 10 ls []) := by
      intro n10
      induction n10 with
      | zero =>
        intro le i h0 h9 h1 h2 h3 hm10 H locs ls h hl
        exact absurd hm10 (Nat.not_lt_zero _)
      | succ n10 ih10 =>
        intro le i h0 h9 h1 h2 h3 hm10 H locs ls h hl
        refine lv_iload_n B.1 B.2.1 dX12_find_10 rfl (lv_at hl 0 rfl) ?_
        refine lv_aload_n B.1 B.2.1 dX12_find_11 rfl (lv_at hl 2 rfl) ?_
        refine y_getX B h kX12 50 (MW.f hM 0 _ rfl) 4 (z := (T 0 2)) rfl m_1265 (by decide) dX12_find_12 ?_
        refine x_icmp_ge B (by omega) (tgt := 44) dX12_find_15 (by decide) (fun c2 => ?_) (fun c2 => ?_)
        · refine x_iconst B dX12_find_44 ?_
          refine y_ri B hQ h (by decide) dX12_find_45 ?_
          exact ⟨rfl, _, rfl, by omega, Or.inl ⟨rfl, fun j hj => by first | (exact h3 j (by omega)) | (intro hh; have q9 := cntp_mono (P := COP T) j.toNat 0; have q8 : cntp (COP T) 0 = 0 := rfl; rw [Nat.zero_add] at q9; omega)⟩⟩
        · refine lv_aload_n B.1 B.2.1 dX12_find_18 rfl (lv_at hl 2 rfl) ?_
          refine lv_iload_n B.1 B.2.1 dX12_find_19 rfl (lv_at hl 0 rfl) ?_
          refine y_cV B h kX12 50 (MW.f hM 0 _ rfl) k_X12_isCopied rfl (c_X12_isCopied_e l D Zk ca T E am _ hM i  (by omega)) m_1816 rfl (by decide) hl.1 [] (Nat.le_of_ble_eq_true rfl) rfl dX12_find_20 (fun r w1 hq H locs h => ?_)
          obtain ⟨rfl, _, rfl, ⟨rfl, b3⟩ | ⟨rfl, b3⟩⟩ := hq
          · show W p l e r_c_X12_find_e s m args below meth c _ _ 0 0 Qf (F0 m 23 ls [.int (iI 1)])
            refine x_if_ne B (by omega) (tgt := 29) dX12_find_23 (by decide) (fun c4 => ?_) (fun c4 => ?_)
            · refine lv_iload_n B.1 B.2.1 dX12_find_29 rfl (lv_at hl 1 rfl) ?_
              refine x_if_ne B (by omega) (tgt := 35) dX12_find_30 (by decide) (fun c5 => ?_) (fun c5 => ?_)
              · refine lv_iinc (v := iI (le + (-1))) (lv' := [(2, .int (iI (le + (-1)))), (3, .int (iI i)), (0, .ref (am 0))]) B.1 B.2.1 dX12_find_35 hl (k := 1) rfl (iI_add _ _) (by decide) rfl (fun ls hl => ?_)
                refine lv_iinc (v := iI (i + 1)) (lv' := [(3, .int (iI (i + 1))), (2, .int (iI (le + (-1)))), (0, .ref (am 0))]) B.1 B.2.1 dX12_find_38 hl (k := 1) rfl (iI_add _ _) (by decide) rfl (fun ls hl => ?_)
                refine lv_goto (tgt := 10) B.1 B.2.1 dX12_find_41 (by decide) ?_
                exact ih10 ((le + (-1))) ((i + 1)) (by omega) (by omega) (by omega) (by have q9 := cntp_next (P := COP T) (n := k - le) (n' := k - le + 1) (by omega) h2 (Or.inl ⟨by assumption, rfl⟩); omega) (all_next h3 (fun ⟨x, y⟩ => by first | contradiction | omega)) (by omega) _ _ _ h (lv_sub hl [0, 1, 2] rfl)
              · refine lv_iload_n B.1 B.2.1 dX12_find_33 rfl (lv_at hl 0 rfl) ?_
                refine y_ri B hQ h (by decide) dX12_find_34 ?_
                exact ⟨rfl, _, rfl, by omega, Or.inr ⟨by omega, by assumption, by omega⟩⟩
            · exact absurd c4 (by omega)
          · show W p l e r_c_X12_find_e s m args below meth c _ _ 0 0 Qf (F0 m 23 ls [.int (iI 0)])
            refine x_if_ne B (by omega) (tgt := 29) dX12_find_23 (by decide) (fun c6 => ?_) (fun c6 => ?_)
            · exact absurd c6 (by omega)
            · refine lv_goto (tgt := 38) B.1 B.2.1 dX12_find_26 (by decide) ?_
              refine lv_iinc (v := iI (i + 1)) (lv' := [(3, .int (iI (i + 1))), (2, .int (iI le)), (0, .ref (am 0))]) B.1 B.2.1 dX12_find_38 hl (k := 0) rfl (iI_add _ _) (by decide) rfl (fun ls hl => ?_)
              refine lv_goto (tgt := 10) B.1 B.2.1 dX12_find_41 (by decide) ?_
              exact ih10 le ((i + 1)) (by omega) (by omega) (by omega) (cntp_next (by omega) h2 (Or.inr ⟨by first | assumption | (exfalso; omega), rfl⟩)) (all_next h3 (fun ⟨x, y⟩ => by first | contradiction | omega)) (by omega) _ _ _ h (lv_sub hl [0, 1, 2] rfl)
    exact loop10 (((300 - 0 : Int)).toNat + 1) k 0 (by omega) (by omega) (by omega) (show k - k = cntp (COP T) (0 : Int).toNat from Int.sub_self k) (fun s9 hs9 => absurd hs9 (by omega)) (Nat.lt_succ_self _) _ _ _ h (lv_sub hl [0, 1, 2] rfl)
  · refine x_iconst B dX12_find_4 ?_
    refine y_ri B hQ h (by decide) dX12_find_5 ?_
    exact ⟨rfl, _, rfl, by omega, Or.inl ⟨rfl, fun j hj => by first | (exact h3 j (by omega)) | (intro hh; have q9 := cntp_mono (P := COP T) j.toNat 0; have q8 : cntp (COP T) 0 = 0 := rfl; rw [Nat.zero_add] at q9; omega)⟩⟩
