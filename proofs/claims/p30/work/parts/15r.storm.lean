/-! ===== the storm: the cells of a watch as the bits of a long ===== -/
def LB (x : Int64) (c : Int) : Prop := x.toBitVec.getLsbD c.toNat = true
def lsh (x : Int64) (y : Int) : Int64 := x <<< ((iI y).toInt64 &&& 63)
def lrh (x : Int64) (y : Int) : Int64 := (x.toUInt64 >>> ((iI y).toInt64.toUInt64 &&& Int64.toUInt64 63)).toInt64
theorem lsh_all : ∀ y : Nat, y < 64 → ((iI (y : Int)).toInt64 &&& 63).toBitVec.smod 64 = BitVec.ofNat 64 y := by decide +kernel
theorem lrh_all : ∀ y : Nat, y < 64 → (((iI (y : Int)).toInt64.toUInt64 &&& Int64.toUInt64 63).toBitVec % 64) = BitVec.ofNat 64 y := by decide +kernel
theorem lb_shl {x : Int64} {y c : Int} (hy : 0 ≤ y ∧ y ≤ 63) (hc : 0 ≤ c ∧ c ≤ 63) : LB (lsh x y) c ↔ y ≤ c ∧ LB x (c - y) := by
  have a := lsh_all y.toNat (by omega)
  rw [Int.toNat_of_nonneg hy.1] at a
  have q : (x <<< ((iI y).toInt64 &&& 63)).toBitVec = x.toBitVec <<< (BitVec.ofNat 64 y.toNat) := by rw [Int64.toBitVec_shiftLeft]; exact congrArg (fun t => x.toBitVec <<< t) a
  unfold LB lsh
  rw [q, BitVec.shiftLeft_eq', BitVec.toNat_ofNat, Nat.mod_eq_of_lt (by omega), BitVec.getLsbD_shiftLeft, decide_eq_true (show c.toNat < 64 by omega)]
  by_cases h : y ≤ c
  · rw [decide_eq_false (show ¬ c.toNat < y.toNat by omega), show (c - y).toNat = c.toNat - y.toNat by omega]
    simp [h]
  · rw [decide_eq_true (show c.toNat < y.toNat by omega)]
    simp [h]
theorem lb_shr {x : Int64} {y c : Int} (hy : 0 ≤ y ∧ y ≤ 63) (hc : 0 ≤ c ∧ c ≤ 63) : LB (lrh x y) c ↔ c + y ≤ 63 ∧ LB x (c + y) := by
  have a := lrh_all y.toNat (by omega)
  rw [Int.toNat_of_nonneg hy.1] at a
  have q : (x.toUInt64 >>> ((iI y).toInt64.toUInt64 &&& Int64.toUInt64 63)).toInt64.toBitVec = x.toBitVec >>> (BitVec.ofNat 64 y.toNat) := by rw [UInt64.toBitVec_toInt64, UInt64.toBitVec_shiftRight]; exact congrArg (fun t => x.toBitVec >>> t) a
  unfold LB lrh
  rw [q, BitVec.ushiftRight_eq', BitVec.toNat_ofNat, Nat.mod_eq_of_lt (by omega), BitVec.getLsbD_ushiftRight, show (c + y).toNat = y.toNat + c.toNat by omega]
  by_cases h : c + y ≤ 63
  · simp [h]
  · rw [BitVec.getLsbD_of_ge _ _ (by omega)]
    simp [h]
theorem lb_or {x y : Int64} {c : Int} : LB (x ||| y) c ↔ LB x c ∨ LB y c := by
  unfold LB
  rw [Int64.toBitVec_or, BitVec.getLsbD_or, Bool.or_eq_true]
theorem lb_and {x y : Int64} {c : Int} : LB (x &&& y) c ↔ LB x c ∧ LB y c := by
  unfold LB
  rw [Int64.toBitVec_and, BitVec.getLsbD_and, Bool.and_eq_true]
theorem lb_full {c : Int} (hc : 0 ≤ c ∧ c ≤ 63) : LB (-1) c := by
  have m : ∀ j : Nat, j < 64 → (-1 : Int64).toBitVec.getLsbD j = true := by decide +kernel
  exact m c.toNat (by omega)
theorem lb_zero {c : Int} : ¬ LB 0 c := by
  unfold LB
  rw [show (0 : Int64).toBitVec = 0#64 from rfl, BitVec.getLsbD_zero]
  exact Bool.false_ne_true
theorem lb_not {x : Int64} {c : Int} (hc : 0 ≤ c ∧ c ≤ 63) : LB (x ^^^ -1) c ↔ ¬ LB x c := by
  have m := lb_full hc
  unfold LB at m ⊢
  rw [Int64.toBitVec_xor, BitVec.getLsbD_xor, m]
  simp
theorem lb_one {c : Int} (hc : 0 ≤ c ∧ c ≤ 63) : LB 1 c ↔ c = 0 := by
  have m : ∀ j : Nat, j < 64 → (1 : Int64).toBitVec.getLsbD j = decide (j = 0) := by decide +kernel
  unfold LB
  rw [m c.toNat (by omega), decide_eq_true_eq]
  omega
theorem lb_ne {x : Int64} (h : x ≠ 0) : ∃ c : Int, (0 ≤ c ∧ c ≤ 63) ∧ LB x c := by
  by_cases q : ∃ c : Int, (0 ≤ c ∧ c ≤ 63) ∧ LB x c
  · exact q
  · refine absurd (Int64.toBitVec_inj.mp (BitVec.eq_of_getLsbD_eq (fun i hi => ?_))) h
    rw [show (0 : Int64).toBitVec = 0#64 from rfl, BitVec.getLsbD_zero]
    cases e : x.toBitVec.getLsbD i with
    | false => rfl
    | true => exact absurd ⟨(i : Int), by omega, by unfold LB; rw [Int.toNat_natCast]; exact e⟩ q
theorem lb_west {c : Int} (hc : 0 ≤ c ∧ c ≤ 63) : LB (-72340172838076674) c ↔ c % 8 ≠ 0 := by
  have m : ∀ j : Nat, j < 64 → (-72340172838076674 : Int64).toBitVec.getLsbD j = decide (j % 8 ≠ 0) := by decide +kernel
  unfold LB
  rw [m c.toNat (by omega), decide_eq_true_eq]
  omega
theorem lb_east {c : Int} (hc : 0 ≤ c ∧ c ≤ 63) : LB 9187201950435737471 c ↔ c % 8 ≠ 7 := by
  have m : ∀ j : Nat, j < 64 → (9187201950435737471 : Int64).toBitVec.getLsbD j = decide (j % 8 ≠ 7) := by decide +kernel
  unfold LB
  rw [m c.toNat (by omega), decide_eq_true_eq]
  omega
theorem FAR_le {a b r : Int} : FAR a b ≤ r ↔ (-r ≤ a % 8 - b % 8 ∧ a % 8 - b % 8 ≤ r) ∧ -r ≤ a / 8 - b / 8 ∧ a / 8 - b / 8 ≤ r := by
  unfold FAR
  omega
/-- one cell farther -/
def SPD (x y : Int64) : Prop := ∀ c : Int, 0 ≤ c ∧ c ≤ 63 → (LB y c ↔ ∃ d : Int, (0 ≤ d ∧ d ≤ 63) ∧ FAR d c ≤ 1 ∧ LB x d)
def rowS (x : Int64) : Int64 := (x ||| (lsh x 1 &&& -72340172838076674)) ||| (lrh x 1 &&& 9187201950435737471)
theorem rowS_b {x : Int64} {c : Int} (hc : 0 ≤ c ∧ c ≤ 63) : LB (rowS x) c ↔ LB x c ∨ (c % 8 ≠ 0 ∧ LB x (c - 1)) ∨ (c % 8 ≠ 7 ∧ LB x (c + 1)) := by
  unfold rowS
  rw [lb_or, lb_or, lb_and, lb_and, lb_shl (by omega) hc, lb_shr (by omega) hc, lb_west hc, lb_east hc]
  constructor
  · rintro ((h | ⟨⟨a, b⟩, d⟩) | ⟨⟨a, b⟩, d⟩)
    · exact Or.inl h
    · exact Or.inr (Or.inl ⟨d, b⟩)
    · exact Or.inr (Or.inr ⟨d, b⟩)
  · rintro (h | ⟨d, b⟩ | ⟨d, b⟩)
    · exact Or.inl (Or.inl h)
    · exact Or.inl (Or.inr ⟨⟨by omega, b⟩, d⟩)
    · exact Or.inr ⟨⟨by omega, b⟩, d⟩
theorem spd_of {x : Int64} : SPD x ((rowS x ||| lsh (rowS x) 8) ||| lrh (rowS x) 8) := fun c hc => by
  rw [lb_or, lb_or, lb_shl (by omega) hc, lb_shr (by omega) hc, rowS_b hc]
  constructor
  · rintro ((h | ⟨a, h⟩) | ⟨a, h⟩)
    · rcases h with h | ⟨d, h⟩ | ⟨d, h⟩
      · exact ⟨c, hc, FAR_le.mpr (by omega), h⟩
      · exact ⟨c - 1, by omega, FAR_le.mpr (by omega), h⟩
      · exact ⟨c + 1, by omega, FAR_le.mpr (by omega), h⟩
    · rw [rowS_b (by omega)] at h
      rcases h with h | ⟨d, h⟩ | ⟨d, h⟩
      · exact ⟨c - 8, by omega, FAR_le.mpr (by omega), h⟩
      · exact ⟨c - 8 - 1, by omega, FAR_le.mpr (by omega), h⟩
      · exact ⟨c - 8 + 1, by omega, FAR_le.mpr (by omega), h⟩
    · rw [rowS_b (by omega)] at h
      rcases h with h | ⟨d, h⟩ | ⟨d, h⟩
      · exact ⟨c + 8, by omega, FAR_le.mpr (by omega), h⟩
      · exact ⟨c + 8 - 1, by omega, FAR_le.mpr (by omega), h⟩
      · exact ⟨c + 8 + 1, by omega, FAR_le.mpr (by omega), h⟩
  · rintro ⟨d, hd, hf, h⟩
    have hf := FAR_le.mp hf
    have key : d = c ∨ (d = c - 1 ∧ c % 8 ≠ 0) ∨ (d = c + 1 ∧ c % 8 ≠ 7) ∨ (d = c - 8) ∨ (d = c - 8 - 1 ∧ (c - 8) % 8 ≠ 0) ∨ (d = c - 8 + 1 ∧ (c - 8) % 8 ≠ 7) ∨ (d = c + 8) ∨ (d = c + 8 - 1 ∧ (c + 8) % 8 ≠ 0) ∨ (d = c + 8 + 1 ∧ (c + 8) % 8 ≠ 7) := by omega
    rcases key with rfl | ⟨rfl, k⟩ | ⟨rfl, k⟩ | rfl | ⟨rfl, k⟩ | ⟨rfl, k⟩ | rfl | ⟨rfl, k⟩ | ⟨rfl, k⟩
    · exact Or.inl (Or.inl (Or.inl h))
    · exact Or.inl (Or.inl (Or.inr (Or.inl ⟨k, h⟩)))
    · exact Or.inl (Or.inl (Or.inr (Or.inr ⟨k, h⟩)))
    · exact Or.inl (Or.inr ⟨by omega, (rowS_b (by omega)).mpr (Or.inl h)⟩)
    · exact Or.inl (Or.inr ⟨by omega, (rowS_b (by omega)).mpr (Or.inr (Or.inl ⟨k, h⟩))⟩)
    · exact Or.inl (Or.inr ⟨by omega, (rowS_b (by omega)).mpr (Or.inr (Or.inr ⟨k, h⟩))⟩)
    · exact Or.inr ⟨by omega, (rowS_b (by omega)).mpr (Or.inl h)⟩
    · exact Or.inr ⟨by omega, (rowS_b (by omega)).mpr (Or.inr (Or.inl ⟨k, h⟩))⟩
    · exact Or.inr ⟨by omega, (rowS_b (by omega)).mpr (Or.inr (Or.inr ⟨k, h⟩))⟩
/-- around a cell -/
def ARD (ce i : Int) (x : Int64) : Prop := ∀ c : Int, 0 ≤ c ∧ c ≤ 63 → (LB x c ↔ FAR ce c ≤ i)
theorem ard_0 {ce : Int} (h : 0 ≤ ce ∧ ce ≤ 63) : ARD ce 0 (lsh 1 ce) := fun c hc => by
  rw [lb_shl h hc, FAR_le]
  constructor
  · rintro ⟨a, b⟩
    have := (lb_one (by omega)).mp b
    omega
  · intro q
    have e : c = ce := by omega
    subst e
    exact ⟨by omega, (lb_one (by omega)).mpr (by omega)⟩
theorem far_step {ce c i : Int} (h : 0 ≤ ce ∧ ce ≤ 63) (hc : 0 ≤ c ∧ c ≤ 63) (hi : 0 ≤ i) : (∃ d : Int, (0 ≤ d ∧ d ≤ 63) ∧ FAR d c ≤ 1 ∧ FAR ce d ≤ i) ↔ FAR ce c ≤ i + 1 := by
  constructor
  · rintro ⟨d, hd, a, b⟩
    have a := FAR_le.mp a
    have b := FAR_le.mp b
    exact FAR_le.mpr (by omega)
  · intro q
    have q := FAR_le.mp q
    have hx : ∃ x : Int, (0 ≤ x ∧ x ≤ 7) ∧ (-1 ≤ x - c % 8 ∧ x - c % 8 ≤ 1) ∧ -i ≤ ce % 8 - x ∧ ce % 8 - x ≤ i := by
      by_cases a : ce % 8 < c % 8
      · exact ⟨c % 8 - 1, by omega, by omega, by omega⟩
      · by_cases b : c % 8 < ce % 8
        · exact ⟨c % 8 + 1, by omega, by omega, by omega⟩
        · exact ⟨c % 8, by omega, by omega, by omega⟩
    have hy : ∃ y : Int, (0 ≤ y ∧ y ≤ 7) ∧ (-1 ≤ y - c / 8 ∧ y - c / 8 ≤ 1) ∧ -i ≤ ce / 8 - y ∧ ce / 8 - y ≤ i := by
      by_cases a : ce / 8 < c / 8
      · exact ⟨c / 8 - 1, by omega, by omega, by omega⟩
      · by_cases b : c / 8 < ce / 8
        · exact ⟨c / 8 + 1, by omega, by omega, by omega⟩
        · exact ⟨c / 8, by omega, by omega, by omega⟩
    obtain ⟨x, x1, x2, x3⟩ := hx
    obtain ⟨y, y1, y2, y3⟩ := hy
    refine ⟨8 * y + x, by omega, FAR_le.mpr ?_, FAR_le.mpr ?_⟩
    · rw [show (8 * y + x) % 8 = x by omega, show (8 * y + x) / 8 = y by omega]; omega
    · rw [show (8 * y + x) % 8 = x by omega, show (8 * y + x) / 8 = y by omega]; omega
theorem ard_n {ce i : Int} {x y : Int64} (h : 0 ≤ ce ∧ ce ≤ 63) (hi : 0 ≤ i) (ha : ARD ce i x) (hs : SPD x y) : ARD ce (i + 1) y := fun c hc => by
  rw [hs c hc, ← far_step h hc hi]
  constructor
  · rintro ⟨d, hd, a, b⟩
    exact ⟨d, hd, a, (ha d hd).mp b⟩
  · rintro ⟨d, hd, a, b⟩
    exact ⟨d, hd, a, (ha d hd).mpr b⟩
/-! what a watch's readings allow -/
def TRM (T : Nat → Int → Int) (k : Int) : Prop := T 7 k ≠ 3 ∧ T 24 (T 3 (1000 * T 4 k + T 5 k)) = 1
def ALN (T : Nat → Int → Int) (v c n : Int) : Prop := ∀ k : Int, 0 ≤ k ∧ k < n → T 5 k = v → TRM T k → (FAR (T 6 k) c ≤ T 0 12 ↔ T 0 13 ≤ T 8 k)
def ALW (T : Nat → Int → Int) (v c : Int) : Prop := ALN T v c (T 0 2)
theorem aln_skip {T : Nat → Int → Int} {v c n : Int} (h : ¬ (T 5 n = v ∧ TRM T n)) : ALN T v c (n + 1) ↔ ALN T v c n := by
  constructor
  · exact fun q k hk => q k (by omega)
  · intro q k hk e t
    by_cases r : k = n
    · subst r; exact absurd ⟨e, t⟩ h
    · exact q k (by omega) e t
theorem aln_take {T : Nat → Int → Int} {v c n : Int} (hn : 0 ≤ n) (h : T 5 n = v ∧ TRM T n) : ALN T v c (n + 1) ↔ ALN T v c n ∧ (FAR (T 6 n) c ≤ T 0 12 ↔ T 0 13 ≤ T 8 n) := by
  constructor
  · exact fun q => ⟨fun k hk => q k (by omega), q n (by omega) h.1 h.2⟩
  · rintro ⟨q, f⟩ k hk e t
    by_cases r : k = n
    · subst r; exact f
    · exact q k (by omega) e t
def AMD (T : Nat → Int → Int) (v n : Int) (x : Int64) : Prop := ∀ c : Int, 0 ≤ c ∧ c ≤ 63 → (LB x c ↔ ALN T v c n)
theorem amd_0 {T : Nat → Int → Int} {v : Int} : AMD T v 0 (-1) := fun c hc => ⟨fun _ k hk => absurd hk (by omega), fun _ => lb_full hc⟩
theorem amd_skip {T : Nat → Int → Int} {v n : Int} {x : Int64} (h : ¬ (T 5 n = v ∧ TRM T n)) (ha : AMD T v n x) : AMD T v (n + 1) x := fun c hc => (ha c hc).trans (aln_skip h).symm
theorem amd_in {T : Nat → Int → Int} {v n : Int} {x y : Int64} (hn : 0 ≤ n) (h : T 5 n = v ∧ TRM T n) (ha : AMD T v n x) (hy : ARD (T 6 n) (T 0 12) y) (hl : T 0 13 ≤ T 8 n) : AMD T v (n + 1) (x &&& y) := fun c hc => by
  rw [lb_and, aln_take hn h, ha c hc, hy c hc]
  exact and_congr_right fun _ => ⟨fun q => ⟨fun _ => hl, fun _ => q⟩, fun q => q.mpr hl⟩
theorem amd_out {T : Nat → Int → Int} {v n : Int} {x y : Int64} (hn : 0 ≤ n) (h : T 5 n = v ∧ TRM T n) (ha : AMD T v n x) (hy : ARD (T 6 n) (T 0 12) y) (hl : ¬ T 0 13 ≤ T 8 n) : AMD T v (n + 1) (x &&& (y ^^^ -1)) := fun c hc => by
  rw [lb_and, aln_take hn h, ha c hc, lb_not hc, hy c hc]
  exact and_congr_right fun _ => ⟨fun q => ⟨fun f => absurd f q, fun f => absurd f hl⟩, fun q f => hl (q.mp f)⟩
/-! where the storm can be, watch after watch -/
def FWD (T : Nat → Int → Int) : Nat → Int → Prop
  | 0, c => ALW T (T 0 10) c
  | j + 1, c => ALW T (T 0 10 + ((j + 1 : Nat) : Int)) c ∧ ∃ d : Int, (0 ≤ d ∧ d ≤ 63) ∧ FAR d c ≤ 1 ∧ FWD T j d
def BWD (T : Nat → Int → Int) (N : Int) : Nat → Int → Prop
  | 0, c => FWD T N.toNat c
  | m + 1, c => FWD T (N - ((m + 1 : Nat) : Int)).toNat c ∧ ∃ d : Int, (0 ≤ d ∧ d ≤ 63) ∧ FAR d c ≤ 1 ∧ BWD T N m d
def HLD (T : Nat → Int → Int) (j : Int) (c : Int) : Prop := BWD T (T 0 11 - T 0 10) (T 0 11 - T 0 10 - j).toNat c
theorem fwd_n {T : Nat → Int → Int} {j c : Int} (hj : 0 < j) : FWD T j.toNat c ↔ ALW T (T 0 10 + j) c ∧ ∃ d : Int, (0 ≤ d ∧ d ≤ 63) ∧ FAR d c ≤ 1 ∧ FWD T (j - 1).toNat d := by
  obtain ⟨n, rfl⟩ : ∃ n : Nat, j = ((n + 1 : Nat) : Int) := ⟨(j - 1).toNat, by omega⟩
  rw [show (((n + 1 : Nat) : Int) - 1).toNat = n by omega, Int.toNat_natCast]
  exact Iff.rfl
theorem hld_end {T : Nat → Int → Int} {c : Int} : HLD T (T 0 11 - T 0 10) c ↔ FWD T (T 0 11 - T 0 10).toNat c := by
  unfold HLD
  rw [show T 0 11 - T 0 10 - (T 0 11 - T 0 10) = 0 by omega]
  exact Iff.rfl
theorem hld_n {T : Nat → Int → Int} {j c : Int} (hj : j < T 0 11 - T 0 10) : HLD T j c ↔ FWD T j.toNat c ∧ ∃ d : Int, (0 ≤ d ∧ d ≤ 63) ∧ FAR d c ≤ 1 ∧ HLD T (j + 1) d := by
  unfold HLD
  obtain ⟨n, hn⟩ : ∃ n : Nat, T 0 11 - T 0 10 - j = ((n + 1 : Nat) : Int) := ⟨(T 0 11 - T 0 10 - j - 1).toNat, by omega⟩
  rw [hn, show T 0 11 - T 0 10 - (j + 1) = (n : Int) by omega, Int.toNat_natCast, Int.toNat_natCast]
  show (FWD T (T 0 11 - T 0 10 - ((n + 1 : Nat) : Int)).toNat c ∧ _) ↔ _
  rw [show T 0 11 - T 0 10 - ((n + 1 : Nat) : Int) = j by omega]
/-- how many of the first n -/
noncomputable def cntp (P : Int → Prop) : Nat → Int
  | 0 => 0
  | n + 1 => cntp P n + @ite Int (P (n : Int)) (Classical.propDecidable _) 1 0
theorem cntp_next {P : Int → Prop} {k n n' : Int} (hk : 0 ≤ k) (h : n = cntp P k.toNat) (hn : (P k ∧ n' = n + 1) ∨ (¬ P k ∧ n' = n)) : n' = cntp P (k + 1).toNat := by
  rw [show (k + 1).toNat = k.toNat + 1 by omega]
  show n' = cntp P k.toNat + @ite Int (P ((k.toNat : Nat) : Int)) (Classical.propDecidable _) 1 0
  rw [Int.toNat_of_nonneg hk, ← h]
  rcases hn with ⟨a, b⟩ | ⟨a, b⟩
  · rw [if_pos a]; exact b
  · rw [if_neg a, b, Int.add_zero]
theorem cntp_mono {P : Int → Prop} : ∀ (d n : Nat), cntp P n ≤ cntp P (n + d)
  | 0, _ => Int.le_refl _
  | d + 1, n => by
    have a := cntp_mono (P := P) d n
    show cntp P n ≤ cntp P (n + d) + @ite Int (P ((n + d : Nat) : Int)) (Classical.propDecidable _) 1 0
    by_cases q : P ((n + d : Nat) : Int)
    · rw [if_pos q]; omega
    · rw [if_neg q]; omega
theorem cntp_r {P : Int → Prop} : ∀ n : Nat, 0 ≤ cntp P n ∧ cntp P n ≤ (n : Int)
  | 0 => ⟨Int.le_refl _, Int.le_refl _⟩
  | n + 1 => by
    have a := cntp_r (P := P) n
    show 0 ≤ cntp P n + @ite Int (P (n : Int)) (Classical.propDecidable _) 1 0 ∧ cntp P n + @ite Int (P (n : Int)) (Classical.propDecidable _) 1 0 ≤ ((n + 1 : Nat) : Int)
    by_cases q : P (n : Int)
    · rw [if_pos q]; omega
    · rw [if_neg q]; omega
theorem cntp_pos {P : Int → Prop} : ∀ n : Nat, 0 < cntp P n → ∃ c : Int, (0 ≤ c ∧ c < (n : Int)) ∧ P c
  | 0, h => absurd h (by show ¬ (0 : Int) < 0; omega)
  | n + 1, h => by
    by_cases q : P (n : Int)
    · exact ⟨(n : Int), by omega, q⟩
    · have h : 0 < cntp P n + @ite Int (P (n : Int)) (Classical.propDecidable _) 1 0 := h
      rw [if_neg q, Int.add_zero] at h
      obtain ⟨c, hc, hp⟩ := cntp_pos n h
      exact ⟨c, by omega, hp⟩
theorem cntp_zero {P : Int → Prop} : ∀ n : Nat, cntp P n ≤ 0 → ∀ c : Int, 0 ≤ c ∧ c < (n : Int) → ¬ P c
  | 0, _ => fun c hc => absurd hc (by omega)
  | n + 1, h => fun c hc hp => by
    have h : cntp P n + @ite Int (P (n : Int)) (Classical.propDecidable _) 1 0 ≤ 0 := h
    have r := cntp_r (P := P) n
    by_cases q : P (n : Int)
    · rw [if_pos q] at h; omega
    · rw [if_neg q, Int.add_zero] at h
      by_cases e : c = (n : Int)
      · subst e; exact q hp
      · exact cntp_zero n h c (by omega) hp
theorem cntp_congr {P Q : Int → Prop} : ∀ n : Nat, (∀ c : Int, 0 ≤ c ∧ c < (n : Int) → (P c ↔ Q c)) → cntp P n = cntp Q n
  | 0, _ => rfl
  | n + 1, h => by
    have e := cntp_congr n (fun c hc => h c (by omega))
    show cntp P n + @ite Int (P (n : Int)) (Classical.propDecidable _) 1 0 = cntp Q n + @ite Int (Q (n : Int)) (Classical.propDecidable _) 1 0
    rw [e]
    by_cases q : P (n : Int)
    · rw [if_pos q, if_pos ((h _ (by omega)).mp q)]
    · rw [if_neg q, if_neg (fun r => q ((h _ (by omega)).mpr r))]
/-- the answers -/
def STA (T : Nat → Int → Int) (z : Int) : Prop := (z = 1 ∧ ∃ c : Int, (0 ≤ c ∧ c ≤ 63) ∧ HLD T 0 c) ∨ (z = 0 ∧ ∀ c : Int, 0 ≤ c ∧ c ≤ 63 → ¬ HLD T 0 c)
theorem STA_eq {T : Nat → Int → Int} {z z' : Int} (h : STA T z) (h2 : STA T z') : z = z' := by
  rcases h with ⟨a, c, hc, b⟩ | ⟨a, b⟩ <;> rcases h2 with ⟨a', c', hc', b'⟩ | ⟨a', b'⟩
  · omega
  · exact absurd b (b' c hc)
  · exact absurd b' (b c' hc')
  · omega
theorem STA_r {T : Nat → Int → Int} {z : Int} (h : STA T z) : z = 0 ∨ z = 1 := by
  rcases h with ⟨a, -⟩ | ⟨a, -⟩ <;> omega
def WYC (T : Nat → Int → Int) (v c : Int) : Prop := (T 0 14 = 1 ∧ T 0 10 ≤ v ∧ v ≤ T 0 11) ∧ -1 ≤ c ∧ c ≤ 63
def WYD (T : Nat → Int → Int) (v c z : Int) : Prop := (¬ WYC T v c ∧ z = -1) ∨ (WYC T v c ∧ ((c = -1 ∧ z = cntp (HLD T (v - T 0 10)) 64) ∨ (0 ≤ c ∧ z = 1 ∧ HLD T (v - T 0 10) c) ∨ (0 ≤ c ∧ z = 0 ∧ ¬ HLD T (v - T 0 10) c)))
theorem WYD_eq {T : Nat → Int → Int} {v c z z' : Int} (h : xr z ∧ WYD T v c z) (h2 : xr z' ∧ WYD T v c z') : z = z' := by
  obtain ⟨-, h⟩ := h
  obtain ⟨-, h2⟩ := h2
  rcases h with ⟨a, b⟩ | ⟨a, ⟨x, y⟩ | ⟨x, y, f⟩ | ⟨x, y, f⟩⟩ <;> rcases h2 with ⟨a', b'⟩ | ⟨a', ⟨x', y'⟩ | ⟨x', y', f'⟩ | ⟨x', y', f'⟩⟩ <;> first | omega | exact absurd a' a | exact absurd a a' | exact absurd f' f | exact absurd f f' | (rw [y, y'])
/-! the class's cells, watch after watch -/
def VU (P : (Nat → Int64) → Prop) (i : Nat) (v : Int64) : (Nat → Int64) → Prop := fun f => ∃ f0 : Nat → Int64, P f0 ∧ f = vp_updL f0 i v
theorem vu_at {P : (Nat → Int64) → Prop} {i : Nat} {v : Int64} {f : Nat → Int64} (h : VU P i v f) : f i = v := by
  obtain ⟨f0, -, rfl⟩ := h
  exact if_pos rfl
theorem vu_ne {P : (Nat → Int64) → Prop} {i j : Nat} {v : Int64} {f : Nat → Int64} (h : VU P i v f) (hj : j ≠ i) : ∃ f0 : Nat → Int64, P f0 ∧ f j = f0 j := by
  obtain ⟨f0, h0, rfl⟩ := h
  exact ⟨f0, h0, if_neg hj⟩
def CFW (T : Nat → Int → Int) (i : Int) (f : Nat → Int64) : Prop := ∀ j : Int, 0 ≤ j ∧ j < i → ∀ c : Int, 0 ≤ c ∧ c ≤ 63 → (LB (f j.toNat) c ↔ FWD T j.toNat c)
theorem cfw_0 {T : Nat → Int → Int} {f : Nat → Int64} : CFW T 0 f := fun j hj => absurd hj (by omega)
theorem cfw_1 {T : Nat → Int → Int} {P : (Nat → Int64) → Prop} {i : Int} {x : Int64} {f : Nat → Int64} (hi : i = 0) {v : Int} (hv : v = T 0 10) (hx : AMD T v (T 0 2) x) (h : VU P i.toNat x f) : CFW T (i + 1) f := fun j hj c hc => by
  have e : j = i := by omega
  subst e
  rw [vu_at h, hx c hc, hi, hv]
  exact Iff.rfl
theorem cfw_n {T : Nat → Int → Int} {P : (Nat → Int64) → Prop} {i v : Int} {x y : Int64} {f f1 f2 : Nat → Int64} (hi : 0 < i) (hv : v = T 0 10 + i) (hP : ∀ f : Nat → Int64, P f → CFW T i f) (hx : AMD T v (T 0 2) x) (h1 : VU P i.toNat x f1) (h2 : VU P i.toNat x f2) (hs : SPD (f2 (i - 1).toNat) y) (h : VU (VU P i.toNat x) i.toNat (f1 i.toNat &&& y) f) : CFW T (i + 1) f := fun j hj c hc => by
  by_cases e : j = i
  · subst e
    obtain ⟨f0, h0, e0⟩ := vu_ne (j := (j - 1).toNat) h2 (by omega)
    have p0 := hP f0 h0 (j - 1) (by omega)
    rw [vu_at h, lb_and, vu_at h1, hx c hc, hv, hs c hc, fwd_n hi, e0]
    exact and_congr_right fun _ => ⟨fun ⟨d, hd, a, b⟩ => ⟨d, hd, a, (p0 d hd).mp b⟩, fun ⟨d, hd, a, b⟩ => ⟨d, hd, a, (p0 d hd).mpr b⟩⟩
  · obtain ⟨g, hg, eg⟩ := vu_ne (j := j.toNat) h (by omega)
    obtain ⟨f0, h0, e0⟩ := vu_ne (j := j.toNat) hg (by omega)
    rw [eg, e0]
    exact hP f0 h0 j (by omega) c hc
def CBW (T : Nat → Int → Int) (i : Int) (f : Nat → Int64) : Prop := ∀ j : Int, 0 ≤ j ∧ j ≤ T 0 11 - T 0 10 → ∀ c : Int, 0 ≤ c ∧ c ≤ 63 → (j ≤ i → (LB (f j.toNat) c ↔ FWD T j.toNat c)) ∧ (i < j → (LB (f j.toNat) c ↔ HLD T j c))
theorem cbw_0 {T : Nat → Int → Int} {f : Nat → Int64} {n i : Int} (h : CFW T n f) (hn : n = T 0 11 - T 0 10 + 1) (hi : i = T 0 11 - T 0 10 - 1) : CBW T i f := fun j hj c hc => by
  have a := h j (by omega) c hc
  refine ⟨fun _ => a, fun q => ?_⟩
  have e : j = T 0 11 - T 0 10 := by omega
  rw [e] at a ⊢
  exact a.trans hld_end.symm
theorem cbw_n {T : Nat → Int → Int} {P : (Nat → Int64) → Prop} {i : Int} {y : Int64} {f f1 f2 : Nat → Int64} (hi : 0 ≤ i ∧ i < T 0 11 - T 0 10) (hP : ∀ f : Nat → Int64, P f → CBW T i f) (h1 : P f1) (h2 : P f2) (hs : SPD (f2 (i + 1).toNat) y) (h : VU P i.toNat (f1 i.toNat &&& y) f) : CBW T (i - 1) f := fun j hj c hc => by
  by_cases e : j = i
  · subst e
    refine ⟨fun q => by omega, fun _ => ?_⟩
    have p1 := (hP f1 h1 j (by omega) c hc).1 (by omega)
    rw [vu_at h, lb_and, p1, hs c hc, hld_n hi.2]
    exact and_congr_right fun _ => ⟨fun ⟨d, hd, a, b⟩ => ⟨d, hd, a, ((hP f2 h2 (j + 1) (by omega) d hd).2 (by omega)).mp b⟩, fun ⟨d, hd, a, b⟩ => ⟨d, hd, a, ((hP f2 h2 (j + 1) (by omega) d hd).2 (by omega)).mpr b⟩⟩
  · obtain ⟨f0, h0, e0⟩ := vu_ne (j := j.toNat) h (by omega)
    rw [e0]
    have p := hP f0 h0 j hj c hc
    exact ⟨fun q => p.1 (by omega), fun q => p.2 (by omega)⟩
def CE (T : Nat → Int → Int) (f : Nat → Int64) : Prop := ∀ j : Int, 0 ≤ j ∧ j ≤ T 0 11 - T 0 10 → ∀ c : Int, 0 ≤ c ∧ c ≤ 63 → (LB (f j.toNat) c ↔ HLD T j c)
theorem ce_of {T : Nat → Int → Int} {f : Nat → Int64} {i : Int} (h : CBW T i f) (hi : i < 0) : CE T f := fun j hj c hc => (h j hj c hc).2 (by omega)
theorem lc_z {x y : Int64} {z : Int} (hz : xr z) (h : lg_cmp x y = iI z) (e : x = y) : z = 0 := by
  subst e
  unfold lg_cmp at h
  rw [if_neg (Int64.lt_irrefl), if_pos rfl] at h
  exact ((iI_eq ⟨(by omega : xr 0), hz⟩).mp h).symm
theorem sta_1 {T : Nat → Int → Int} {P : (Nat → Int64) → Prop} {x : Int64} {i : Int} (hP : ∀ f : Nat → Int64, P f → CE T f) (hN : T 0 10 ≤ T 0 11) (h : ∃ f : Nat → Int64, P f ∧ x = f i.toNat) (hi : i = 0) (hx : x ≠ 0) : ∃ c : Int, (0 ≤ c ∧ c ≤ 63) ∧ HLD T 0 c := by
  obtain ⟨f, hf, rfl⟩ := h
  subst hi
  obtain ⟨c, hc, hb⟩ := lb_ne hx
  exact ⟨c, hc, (hP f hf 0 (by omega) c hc).mp hb⟩
theorem sta_0 {T : Nat → Int → Int} {P : (Nat → Int64) → Prop} {x : Int64} {i : Int} (hP : ∀ f : Nat → Int64, P f → CE T f) (hN : T 0 10 ≤ T 0 11) (h : ∃ f : Nat → Int64, P f ∧ x = f i.toNat) (hi : i = 0) (hx : x = 0) : ∀ c : Int, 0 ≤ c ∧ c ≤ 63 → ¬ HLD T 0 c := fun c hc hh => by
  obtain ⟨f, hf, rfl⟩ := h
  subst hi
  have b := (hP f hf 0 (by omega) c hc).mpr hh
  rw [hx] at b
  exact lb_zero b
theorem l2i_bit {x : Int64} {c : Int} (hc : 0 ≤ c ∧ c ≤ 63) : ∃ z : Int, ((z = 1 ∧ LB x c) ∨ (z = 0 ∧ ¬ LB x c)) ∧ (lrh x c &&& 1).toInt32 = iI z := by
  have m : ∀ j : Nat, j < 64 → (1 : Int64).toBitVec.getLsbD j = decide (j = 0) := by decide +kernel
  have key : ∀ (b : Bool), x.toBitVec.getLsbD c.toNat = b → (lrh x c &&& 1) = if b then (1 : Int64) else 0 := fun b hb => by
    apply Int64.toBitVec_inj.mp
    apply BitVec.eq_of_getLsbD_eq
    intro i hi
    rw [Int64.toBitVec_and, BitVec.getLsbD_and, m i hi]
    by_cases q : i = 0
    · subst q
      have e := lb_shr (x := x) (y := c) (c := 0) hc (by omega)
      unfold LB at e
      rw [show (0 : Int) + c = c by omega] at e
      rw [hb] at e
      have e9 : (lrh x c).toBitVec.getLsbD 0 = b := by
        cases b with
        | true => exact e.mpr ⟨by omega, rfl⟩
        | false =>
          cases r : (lrh x c).toBitVec.getLsbD 0 with
          | false => rfl
          | true => exact absurd (e.mp r).2 Bool.false_ne_true
      rw [e9]
      cases b <;> rfl
    · rw [decide_eq_false q, Bool.and_false]
      cases b
      · exact (BitVec.getLsbD_zero (i := i) (w := 64)).symm
      · exact ((m i hi).trans (decide_eq_false q)).symm
  cases r : x.toBitVec.getLsbD c.toNat with
  | true => exact ⟨1, Or.inl ⟨rfl, r⟩, by rw [key true r]; rfl⟩
  | false => exact ⟨0, Or.inr ⟨rfl, by unfold LB; rw [r]; exact Bool.false_ne_true⟩, by rw [key false r]; rfl⟩
theorem wyd_b {T : Nat → Int → Int} {P : (Nat → Int64) → Prop} {x : Int64} {i c z : Int} (hP : ∀ f : Nat → Int64, P f → CE T f) (hi : 0 ≤ i ∧ i ≤ T 0 11 - T 0 10) (h : ∃ f : Nat → Int64, P f ∧ x = f i.toNat) (hc : 0 ≤ c ∧ c ≤ 63) (hz : (z = 1 ∧ LB x c) ∨ (z = 0 ∧ ¬ LB x c)) : (z = 1 ∧ HLD T i c) ∨ (z = 0 ∧ ¬ HLD T i c) := by
  obtain ⟨f, hf, rfl⟩ := h
  rw [hP f hf i hi c hc] at hz
  exact hz
theorem wyd_n {T : Nat → Int → Int} {P : (Nat → Int64) → Prop} {x : Int64} {i : Int} (hP : ∀ f : Nat → Int64, P f → CE T f) (hi : 0 ≤ i ∧ i ≤ T 0 11 - T 0 10) (h : ∃ f : Nat → Int64, P f ∧ x = f i.toNat) : cntp (LB x) 64 = cntp (HLD T i) 64 := by
  obtain ⟨f, hf, rfl⟩ := h
  exact cntp_congr 64 (fun c hc => hP f hf i hi c (by omega))


abbrev r_c_X0_hasOfficer_y : Room := { frames := 1, cells := 0, slots := 0, locals := 21 }
set_option maxHeartbeats 4000000 in
set_option maxRecDepth 100000 in
theorem c_X0_hasOfficer_y (l : Launch) (D : va_G) (Zk : yK) (ca : Nat → ClassId) (T : Nat → Int → Int) (G : Nat → Int → Nat) (u : Int) (ad : Nat → Nat) (v0 w : yW) (hC : CW ca T G u ad v0) (hv0 : ∀ k : Nat, k ≠ 19 → w k = v0 k) (o : Int)  (ho : xr o) : yC l D Zk ca yX0_hasOfficer cX0_hasOfficer 2 (some .boolean) r_c_X0_hasOfficer_y [.ref (ad 1), .int (iI o)] w (vI w (fun z => (z = 1 ∧ (0 ≤ o ∧ o < T 0 0)) ∨ (z = 0 ∧ (¬ (0 ≤ o ∧ o < T 0 0))))) := by
  refine yC.of2 "WindWords$Fleet" (by decide) rfl (Nat.le_of_ble_eq_true rfl) ?_
  intro p e s m args below meth c A ls Qf B hnm h hl hQ
  have hl : lv_has ls 2 [(0, .ref (ad 1)), (1, .int (iI o))] := hl
  have hs := pi_s (CW.pi hC)
  refine lv_iload_n B.1 B.2.1 dX0_hasOfficer_0 rfl (lv_at hl 1 rfl) ?_
  refine lv_aload_n B.1 B.2.1 dX0_hasOfficer_1 rfl (lv_at hl 0 rfl) ?_
  refine y_getX B h kX0 1 ((hv0 (1) (by omega)).trans ((CW.f hC 1 _ rfl))) 2 (z := (T 0 0)) rfl m_136 (by decide) dX0_hasOfficer_2 ?_
  refine x_iconst B dX0_hasOfficer_5 ?_
  refine x_isub B dX0_hasOfficer_6 ?_
  refine y_cSN (host := "WindWords") B h k_X11_within (c_X11_within l D Zk ca _ o (((T 0 0) - 1))  (by omega) (by omega)) (by decide) rfl (by decide) hl.1 [] (Nat.le_of_ble_eq_true rfl) rfl dX0_hasOfficer_7 (fun r w1 hq H locs h => ?_)
  obtain ⟨rfl, _, rfl, ⟨rfl, b1⟩ | ⟨rfl, b1⟩⟩ := hq
  · show W p l e r_c_X0_hasOfficer_y s m args below meth c _ _ 0 0 Qf (F0 m 10 ls [.int (iI 1)])
    refine y_rz B hQ h (by decide) (by decide) dX0_hasOfficer_10 ?_
    exact ⟨rfl, _, rfl, Or.inl ⟨rfl, (by first | omega | trivial | assumption)⟩⟩
  · show W p l e r_c_X0_hasOfficer_y s m args below meth c _ _ 0 0 Qf (F0 m 10 ls [.int (iI 0)])
    refine y_rz B hQ h (by decide) (by decide) dX0_hasOfficer_10 ?_
    exact ⟨rfl, _, rfl, Or.inr ⟨rfl, (by first | omega | trivial | assumption)⟩⟩
abbrev r_c_X0_isTrusted_y : Room := { frames := 2, cells := 0, slots := 0, locals := 42 }
set_option maxHeartbeats 4000000 in
set_option maxRecDepth 100000 in
theorem c_X0_isTrusted_y (l : Launch) (D : va_G) (Zk : yK) (ca : Nat → ClassId) (T : Nat → Int → Int) (G : Nat → Int → Nat) (u : Int) (ad : Nat → Nat) (v0 w : yW) (hC : CW ca T G u ad v0) (hv0 : ∀ k : Nat, k ≠ 19 → w k = v0 k) (o : Int)  (ho : xr o) : yC l D Zk ca yX0_isTrusted cX0_isTrusted 2 (some .boolean) r_c_X0_isTrusted_y [.ref (ad 1), .int (iI o)] w (vI w (fun z => (z = 1 ∧ ((0 ≤ o ∧ o < T 0 0) ∧ T 24 o = 1)) ∨ (z = 0 ∧ (¬ ((0 ≤ o ∧ o < T 0 0) ∧ T 24 o = 1))))) := by
  refine yC.of2 "WindWords$Fleet" (by decide) rfl (Nat.le_of_ble_eq_true rfl) ?_
  intro p e s m args below meth c A ls Qf B hnm h hl hQ
  have hl : lv_has ls 2 [(0, .ref (ad 1)), (1, .int (iI o))] := hl
  have hs := pi_s (CW.pi hC)
  have hq24 := (CW.pq hC).1 o
  have hs9 := pi_s (CW.pi hC)
  refine lv_aload_n B.1 B.2.1 dX0_isTrusted_0 rfl (lv_at hl 0 rfl) ?_
  refine lv_iload_n B.1 B.2.1 dX0_isTrusted_1 rfl (lv_at hl 1 rfl) ?_
  refine y_cV B h kX0 1 ((hv0 (1) (by omega)).trans ((CW.f hC 1 _ rfl))) k_X0_hasOfficer rfl (c_X0_hasOfficer_y l D Zk ca T G u ad _ _ hC hv0 o  (by omega)) m_990 rfl (by decide) hl.1 [] (Nat.le_of_ble_eq_true rfl) rfl dX0_isTrusted_2 (fun r w1 hq H locs h => ?_)
  obtain ⟨rfl, _, rfl, ⟨rfl, b1⟩ | ⟨rfl, b1⟩⟩ := hq
  · show W p l e r_c_X0_isTrusted_y s m args below meth c _ _ 0 0 Qf (F0 m 5 ls [.int (iI 1)])
    refine x_if_eq B (by omega) (tgt := 23) dX0_isTrusted_5 (by decide) (fun c2 => ?_) (fun c2 => ?_)
    · exact absurd c2 (by omega)
    · refine lv_aload_n B.1 B.2.1 dX0_isTrusted_8 rfl (lv_at hl 0 rfl) ?_
      refine y_get B h kX0 1 ((hv0 (1) (by omega)).trans ((CW.f hC 1 _ rfl))) 3 (P := fD (T 24)) rfl m_139 (by decide) dX0_isTrusted_9 (fun v3 hv3 => ?_)
      obtain ⟨x4, rfl, hx4⟩ := hv3
      refine lv_iload_n B.1 B.2.1 dX0_isTrusted_12 rfl (lv_at hl 1 rfl) ?_
      refine lv_ishr B.1 B.2.1 dX0_isTrusted_13 ?_
      refine x_iset (z := (dsh x4 o)) (iI_of _) ?_
      refine x_iconst B dX0_isTrusted_14 ?_
      refine lv_iand B.1 B.2.1 dX0_isTrusted_15 ?_
      refine x_iset (z := (1 - T 24 o)) (fD_bit hx4 (by omega) ((CW.pq hC).1 o)) ?_
      refine x_if_ne B (by omega) (tgt := 23) dX0_isTrusted_16 (by decide) (fun c5 => ?_) (fun c5 => ?_)
      · refine x_iconst B dX0_isTrusted_23 ?_
        refine y_rz B hQ h (by decide) (by decide) dX0_isTrusted_24 ?_
        exact ⟨rfl, _, rfl, Or.inr ⟨rfl, (by first | omega | trivial | assumption)⟩⟩
      · refine x_iconst B dX0_isTrusted_19 ?_
        refine lv_goto (tgt := 24) B.1 B.2.1 dX0_isTrusted_20 (by decide) ?_
        refine y_rz B hQ h (by decide) (by decide) dX0_isTrusted_24 ?_
        exact ⟨rfl, _, rfl, Or.inl ⟨rfl, (by first | omega | trivial | assumption)⟩⟩
  · show W p l e r_c_X0_isTrusted_y s m args below meth c _ _ 0 0 Qf (F0 m 5 ls [.int (iI 0)])
    refine x_if_eq B (by omega) (tgt := 23) dX0_isTrusted_5 (by decide) (fun c6 => ?_) (fun c6 => ?_)
    · refine x_iconst B dX0_isTrusted_23 ?_
      refine y_rz B hQ h (by decide) (by decide) dX0_isTrusted_24 ?_
      exact ⟨rfl, _, rfl, Or.inr ⟨rfl, (by first | omega | trivial | assumption)⟩⟩
    · exact absurd c6 (by omega)
abbrev r_c_X0_readingAt_y : Room := { frames := 1, cells := 0, slots := 0, locals := 21 }
set_option maxHeartbeats 4000000 in
set_option maxRecDepth 100000 in
theorem c_X0_readingAt_y (l : Launch) (D : va_G) (Zk : yK) (ca : Nat → ClassId) (T : Nat → Int → Int) (G : Nat → Int → Nat) (u : Int) (ad : Nat → Nat) (v0 w : yW) (hC : CW ca T G u ad v0) (hv0 : ∀ k : Nat, k ≠ 19 → w k = v0 k) (k : Int)  (hk : xr k) : yC l D Zk ca yX0_readingAt cX0_readingAt 2 (some (.object "WindWords$Reading")) r_c_X0_readingAt_y [.ref (ad 1), .int (iI k)] w (vQ w (fun q => (q = none ∧ ¬ (0 ≤ k ∧ k < T 0 2)) ∨ (q = some (G 4 k) ∧ 0 ≤ k ∧ k < T 0 2))) := by
  refine yC.of2 "WindWords$Fleet" (by decide) rfl (Nat.le_of_ble_eq_true rfl) ?_
  intro p e s m args below meth c A ls Qf B hnm h hl hQ
  have hl : lv_has ls 2 [(0, .ref (ad 1)), (1, .int (iI k))] := hl
  have hs := pi_s (CW.pi hC)
  refine lv_iload_n B.1 B.2.1 dX0_readingAt_0 rfl (lv_at hl 1 rfl) ?_
  refine lv_aload_n B.1 B.2.1 dX0_readingAt_1 rfl (lv_at hl 0 rfl) ?_
  refine y_getX B h kX0 1 ((hv0 (1) (by omega)).trans ((CW.f hC 1 _ rfl))) 5 (z := (T 0 2)) rfl m_145 (by decide) dX0_readingAt_2 ?_
  refine x_iconst B dX0_readingAt_5 ?_
  refine x_isub B dX0_readingAt_6 ?_
  refine y_cSN (host := "WindWords") B h k_X11_within (c_X11_within l D Zk ca _ k (((T 0 2) - 1))  (by omega) (by omega)) (by decide) rfl (by decide) hl.1 [] (Nat.le_of_ble_eq_true rfl) rfl dX0_readingAt_7 (fun r w1 hq H locs h => ?_)
  obtain ⟨rfl, _, rfl, ⟨rfl, b1⟩ | ⟨rfl, b1⟩⟩ := hq
  · show W p l e r_c_X0_readingAt_y s m args below meth c _ _ 0 0 Qf (F0 m 10 ls [.int (iI 1)])
    refine x_if_eq B (by omega) (tgt := 22) dX0_readingAt_10 (by decide) (fun c2 => ?_) (fun c2 => ?_)
    · exact absurd c2 (by omega)
    · refine lv_aload_n B.1 B.2.1 dX0_readingAt_13 rfl (lv_at hl 0 rfl) ?_
      refine y_getR B h kX0 1 ((hv0 (1) (by omega)).trans ((CW.f hC 1 _ rfl))) 1 (b := ad 3) rfl m_135 (by decide) dX0_readingAt_14 ?_
      refine lv_iload_n B.1 B.2.1 dX0_readingAt_17 rfl (lv_at hl 1 rfl) ?_
      refine y_qald B h 3 5 rfl ((hv0 (3) (by omega)).trans ((CW.f hC 3 _ rfl))) (by omega) dX0_readingAt_18 (fun f4 hf3 => ?_)
      rw [hf3 (k) (by omega)]
      have fo5 := CW.rd hC k (by omega)
      show W p l e r_c_X0_readingAt_y s m args below meth c _ _ 0 0 Qf (F0 m 19 ls [.ref (G 4 k)])
      refine lv_goto (tgt := 23) B.1 B.2.1 dX0_readingAt_19 (by decide) ?_
      refine y_ra (r := (some (G 4 k))) B hQ h (by decide) dX0_readingAt_23 ?_
      exact ⟨rfl, _, rfl, Or.inr ⟨rfl, (by first | omega | trivial | assumption)⟩⟩
  · show W p l e r_c_X0_readingAt_y s m args below meth c _ _ 0 0 Qf (F0 m 10 ls [.int (iI 0)])
    refine x_if_eq B (by omega) (tgt := 22) dX0_readingAt_10 (by decide) (fun c6 => ?_) (fun c6 => ?_)
    · refine lv_null B.1 B.2.1 dX0_readingAt_22 ?_
      refine y_ra (r := none) B hQ h (by decide) dX0_readingAt_23 ?_
      exact ⟨rfl, _, rfl, Or.inl ⟨rfl, (by first | omega | trivial | assumption)⟩⟩
    · exact absurd c6 (by omega)
abbrev r_c_X7_officerOn_y : Room := { frames := 1, cells := 0, slots := 0, locals := 21 }
set_option maxHeartbeats 4000000 in
set_option maxRecDepth 100000 in
theorem c_X7_officerOn_y (l : Launch) (D : va_G) (Zk : yK) (ca : Nat → ClassId) (T : Nat → Int → Int) (G : Nat → Int → Nat) (u : Int) (ad : Nat → Nat) (v0 w : yW) (hC : CW ca T G u ad v0) (hv0 : ∀ k : Nat, k ≠ 19 → w k = v0 k) (sh : Int) (v : Int)  (hsh : 0 ≤ sh ∧ sh < T 0 1) (hv : xr v) : yC l D Zk ca yX7_officerOn cX7_officerOn 2 (some .int) r_c_X7_officerOn_y [.ref (G 1 sh), .int (iI v)] w (vI w (fun z => (0 ≤ v ∧ v ≤ 999 ∧ z = T 3 (1000 * sh + v)) ∨ (¬ (0 ≤ v ∧ v ≤ 999) ∧ z = -1))) := by
  refine yC.of2 "WindWords$Ship" (by decide) rfl (Nat.le_of_ble_eq_true rfl) ?_
  intro p e s m args below meth c A ls Qf B hnm h hl hQ
  have hl : lv_has ls 2 [(0, .ref (G 1 sh)), (1, .int (iI v))] := hl
  have hs := pi_s (CW.pi hC)
  have fo1 := CW.sh hC sh (by omega)
  refine lv_iload_n B.1 B.2.1 dX7_officerOn_0 rfl (lv_at hl 1 rfl) ?_
  refine x_sipush B (by decide) dX7_officerOn_1 ?_
  refine y_cSN (host := "WindWords") B h k_X11_within (c_X11_within l D Zk ca _ v 999  (by omega) (by omega)) (by decide) rfl (by decide) hl.1 [] (Nat.le_of_ble_eq_true rfl) rfl dX7_officerOn_4 (fun r w1 hq H locs h => ?_)
  obtain ⟨rfl, _, rfl, ⟨rfl, b2⟩ | ⟨rfl, b2⟩⟩ := hq
  · show W p l e r_c_X7_officerOn_y s m args below meth c _ _ 0 0 Qf (F0 m 7 ls [.int (iI 1)])
    refine x_if_eq B (by omega) (tgt := 19) dX7_officerOn_7 (by decide) (fun c3 => ?_) (fun c3 => ?_)
    · exact absurd c3 (by omega)
    · refine lv_aload_n B.1 B.2.1 dX7_officerOn_10 rfl (lv_at hl 0 rfl) ?_
      refine y_getR B h kX7 (1000 + 16 * sh.toNat + 1) ((hv0 (1000 + 16 * sh.toNat + 1) (by omega)).trans fo1.1) 2 (b := G 2 sh) rfl m_462 (by decide) dX7_officerOn_11 ?_
      refine lv_iload_n B.1 B.2.1 dX7_officerOn_14 rfl (lv_at hl 1 rfl) ?_
      refine y_ialdX B h (1000 + 16 * sh.toNat + 2) ((hv0 (1000 + 16 * sh.toNat + 2) (by omega)).trans fo1.2.1) (by omega) dX7_officerOn_15 ?_
      refine x_iset (z := (T 3 (1000 * sh + v))) (by show iI (T 3 (1000 * sh + (((v : Int).toNat : Nat) : Int))) = _; rw [show ((((v : Int).toNat : Nat) : Int)) = v by omega]) ?_
      have tb4 := pi_3 (CW.pi hC) (1000 * sh + v)
      refine lv_goto (tgt := 20) B.1 B.2.1 dX7_officerOn_16 (by decide) ?_
      refine y_ri B hQ h (by decide) dX7_officerOn_20 ?_
      exact ⟨rfl, _, rfl, (by first | omega | trivial | assumption)⟩
  · show W p l e r_c_X7_officerOn_y s m args below meth c _ _ 0 0 Qf (F0 m 7 ls [.int (iI 0)])
    refine x_if_eq B (by omega) (tgt := 19) dX7_officerOn_7 (by decide) (fun c5 => ?_) (fun c5 => ?_)
    · refine x_iconst B dX7_officerOn_19 ?_
      refine y_ri B hQ h (by decide) dX7_officerOn_20 ?_
      exact ⟨rfl, _, rfl, (by first | omega | trivial | assumption)⟩
    · exact absurd c5 (by omega)
abbrev r_c_X4_isMans_y : Room := { frames := 0, cells := 0, slots := 0, locals := 0 }
set_option maxHeartbeats 4000000 in
set_option maxRecDepth 100000 in
theorem c_X4_isMans_y (l : Launch) (D : va_G) (Zk : yK) (ca : Nat → ClassId) (T : Nat → Int → Int) (G : Nat → Int → Nat) (u : Int) (ad : Nat → Nat) (v0 w : yW) (hC : CW ca T G u ad v0) (hv0 : ∀ k : Nat, k ≠ 19 → w k = v0 k) (k : Int)  (hk : 0 ≤ k ∧ k < T 0 2) : yC l D Zk ca yX4_isMans cX4_isMans 1 (some .boolean) r_c_X4_isMans_y [.ref (G 4 k)] w (vI w (fun z => (z = 1 ∧ (T 7 k ≠ 3)) ∨ (z = 0 ∧ (¬ (T 7 k ≠ 3))))) := by
  refine yC.of2 "WindWords$Reading" (by decide) rfl (Nat.le_of_ble_eq_true rfl) ?_
  intro p e s m args below meth c A ls Qf B hnm h hl hQ
  have hl : lv_has ls 1 [(0, .ref (G 4 k))] := hl
  have hs := pi_s (CW.pi hC)
  have fo1 := CW.rd hC k (by omega)
  refine lv_aload_n B.1 B.2.1 dX4_isMans_0 rfl (lv_at hl 0 rfl) ?_
  refine y_getX B h kX4 (1000 + 16 * k.toNat + 4) ((hv0 (1000 + 16 * k.toNat + 4) (by omega)).trans fo1) 3 (z := (T 7 k)) rfl m_524 (by decide) dX4_isMans_1 ?_
  have tb2 := pi_7 (CW.pi hC) k
  refine x_iconst B dX4_isMans_4 ?_
  refine x_icmp_eq B (by omega) (tgt := 12) dX4_isMans_5 (by decide) (fun c3 => ?_) (fun c3 => ?_)
  · refine x_iconst B dX4_isMans_12 ?_
    refine y_rz B hQ h (by decide) (by decide) dX4_isMans_13 ?_
    exact ⟨rfl, _, rfl, Or.inr ⟨rfl, (by first | omega | trivial | assumption)⟩⟩
  · refine x_iconst B dX4_isMans_8 ?_
    refine lv_goto (tgt := 13) B.1 B.2.1 dX4_isMans_9 (by decide) ?_
    refine y_rz B hQ h (by decide) (by decide) dX4_isMans_13 ?_
    exact ⟨rfl, _, rfl, Or.inl ⟨rfl, (by first | omega | trivial | assumption)⟩⟩
abbrev r_c_X4_writer_y : Room := { frames := 2, cells := 0, slots := 0, locals := 42 }
set_option maxHeartbeats 4000000 in
set_option maxRecDepth 100000 in
theorem c_X4_writer_y (l : Launch) (D : va_G) (Zk : yK) (ca : Nat → ClassId) (T : Nat → Int → Int) (G : Nat → Int → Nat) (u : Int) (ad : Nat → Nat) (v0 w : yW) (hC : CW ca T G u ad v0) (hv0 : ∀ k : Nat, k ≠ 19 → w k = v0 k) (k : Int)  (hk : 0 ≤ k ∧ k < T 0 2) : yC l D Zk ca yX4_writer cX4_writer 1 (some .int) r_c_X4_writer_y [.ref (G 4 k)] w (vI w (fun z => z = T 3 (1000 * T 4 k + T 5 k))) := by
  refine yC.of2 "WindWords$Reading" (by decide) rfl (Nat.le_of_ble_eq_true rfl) ?_
  intro p e s m args below meth c A ls Qf B hnm h hl hQ
  have hl : lv_has ls 1 [(0, .ref (G 4 k))] := hl
  have hs := pi_s (CW.pi hC)
  have fo1 := CW.rd hC k (by omega)
  refine lv_aload_n B.1 B.2.1 dX4_writer_0 rfl (lv_at hl 0 rfl) ?_
  refine y_getR B h kX4 (1000 + 16 * k.toNat + 4) ((hv0 (1000 + 16 * k.toNat + 4) (by omega)).trans fo1) 0 (b := G 1 (T 4 k)) rfl m_513 (by decide) dX4_writer_1 ?_
  have tb2 := pi_4 (CW.pi hC) k
  have pn3 := pi_in (CW.pi hC) k (by omega)
  have fo4 := CW.sh hC (T 4 k) (by omega)
  refine lv_aload_n B.1 B.2.1 dX4_writer_4 rfl (lv_at hl 0 rfl) ?_
  refine y_getX B h kX4 (1000 + 16 * k.toNat + 4) ((hv0 (1000 + 16 * k.toNat + 4) (by omega)).trans fo1) 1 (z := (T 5 k)) rfl m_516 (by decide) dX4_writer_5 ?_
  have tb5 := pi_5 (CW.pi hC) k
  refine y_cV B h kX7 (1000 + 16 * ((T 4 k)).toNat + 1) ((hv0 (1000 + 16 * ((T 4 k)).toNat + 1) (by omega)).trans fo4.1) k_X7_officerOn rfl (c_X7_officerOn_y l D Zk ca T G u ad _ _ hC hv0 (T 4 k) ((T 5 k))  (by omega) (by omega)) m_838 rfl (by decide) hl.1 [] (Nat.le_of_ble_eq_true rfl) rfl dX4_writer_8 (fun r w1 hq H locs h => ?_)
  obtain ⟨rfl, z6, rfl, hz6⟩ := hq
  show W p l e r_c_X4_writer_y s m args below meth c _ _ 0 0 Qf (F0 m 11 ls [.int (iI z6)])
  refine y_ri B hQ h (by decide) dX4_writer_11 ?_
  exact ⟨rfl, _, rfl, (by first | omega | trivial | assumption)⟩
abbrev r_c_X0_mansAt_y : Room := { frames := 2, cells := 0, slots := 0, locals := 42 }
set_option maxHeartbeats 4000000 in
set_option maxRecDepth 100000 in
theorem c_X0_mansAt_y (l : Launch) (D : va_G) (Zk : yK) (ca : Nat → ClassId) (T : Nat → Int → Int) (G : Nat → Int → Nat) (u : Int) (ad : Nat → Nat) (v0 w : yW) (hC : CW ca T G u ad v0) (hv0 : ∀ k : Nat, k ≠ 19 → w k = v0 k) (k : Int)  (hk : xr k) : yC l D Zk ca yX0_mansAt cX0_mansAt 3 (some (.object "WindWords$Reading")) r_c_X0_mansAt_y [.ref (ad 1), .int (iI k)] w (vQ w (fun q => (q = none ∧ ¬ ((0 ≤ k ∧ k < T 0 2) ∧ T 7 k ≠ 3)) ∨ (q = some (G 4 k) ∧ (0 ≤ k ∧ k < T 0 2) ∧ T 7 k ≠ 3))) := by
  refine yC.of2 "WindWords$Fleet" (by decide) rfl (Nat.le_of_ble_eq_true rfl) ?_
  intro p e s m args below meth c A ls Qf B hnm h hl hQ
  have hl : lv_has ls 3 [(0, .ref (ad 1)), (1, .int (iI k))] := hl
  have hs := pi_s (CW.pi hC)
  refine lv_aload_n B.1 B.2.1 dX0_mansAt_0 rfl (lv_at hl 0 rfl) ?_
  refine lv_iload_n B.1 B.2.1 dX0_mansAt_1 rfl (lv_at hl 1 rfl) ?_
  refine y_cV B h kX0 1 ((hv0 (1) (by omega)).trans ((CW.f hC 1 _ rfl))) k_X0_readingAt rfl (c_X0_readingAt_y l D Zk ca T G u ad _ _ hC hv0 k  (by omega)) m_984 rfl (by decide) hl.1 [] (Nat.le_of_ble_eq_true rfl) rfl dX0_mansAt_2 (fun r w1 hq H locs h => ?_)
  obtain ⟨rfl, _, rfl, ⟨rfl, q1⟩ | ⟨rfl, q1⟩⟩ := hq
  · show W p l e r_c_X0_mansAt_y s m args below meth c _ _ 0 0 Qf (F0 m 5 ls [.null])
    refine lv_astore_nN (lv' := [(2, .null), (0, .ref (ad 1)), (1, .int (iI k))]) B.1 B.2.1 dX0_mansAt_5 rfl hl (by decide) rfl (fun ls hl => ?_)
    refine lv_aload_nN B.1 B.2.1 dX0_mansAt_6 rfl (lv_at hl 0 rfl) ?_
    refine lv_ifnullN (tgt := 21) B.1 B.2.1 dX0_mansAt_7 (by decide) ?_
    refine lv_null B.1 B.2.1 dX0_mansAt_21 ?_
    refine y_ra (r := none) B hQ h (by decide) dX0_mansAt_22 ?_
    exact ⟨rfl, _, rfl, Or.inl ⟨rfl, (by first | omega | trivial | assumption)⟩⟩
  · have fo2 := CW.rd hC k (by omega)
    show W p l e r_c_X0_mansAt_y s m args below meth c _ _ 0 0 Qf (F0 m 5 ls [.ref (G 4 k)])
    refine lv_astore_n (lv' := [(2, .ref (G 4 k)), (0, .ref (ad 1)), (1, .int (iI k))]) B.1 B.2.1 dX0_mansAt_5 rfl hl (by decide) rfl (fun ls hl => ?_)
    refine lv_aload_n B.1 B.2.1 dX0_mansAt_6 rfl (lv_at hl 0 rfl) ?_
    refine lv_ifnull B.1 B.2.1 dX0_mansAt_7 ?_
    refine lv_aload_n B.1 B.2.1 dX0_mansAt_10 rfl (lv_at hl 0 rfl) ?_
    refine y_cV B h kX4 (1000 + 16 * k.toNat + 4) ((hv0 (1000 + 16 * k.toNat + 4) (by omega)).trans fo2) k_X4_isMans rfl (c_X4_isMans_y l D Zk ca T G u ad _ _ hC hv0 k  (by omega)) m_873 rfl (by decide) hl.1 [] (Nat.le_of_ble_eq_true rfl) rfl dX0_mansAt_11 (fun r w1 hq H locs h => ?_)
    obtain ⟨rfl, _, rfl, ⟨rfl, b3⟩ | ⟨rfl, b3⟩⟩ := hq
    · show W p l e r_c_X0_mansAt_y s m args below meth c _ _ 0 0 Qf (F0 m 14 ls [.int (iI 1)])
      refine x_if_eq B (by omega) (tgt := 21) dX0_mansAt_14 (by decide) (fun c4 => ?_) (fun c4 => ?_)
      · exact absurd c4 (by omega)
      · refine lv_aload_n B.1 B.2.1 dX0_mansAt_17 rfl (lv_at hl 0 rfl) ?_
        refine lv_goto (tgt := 22) B.1 B.2.1 dX0_mansAt_18 (by decide) ?_
        refine y_ra (r := (some (G 4 k))) B hQ h (by decide) dX0_mansAt_22 ?_
        exact ⟨rfl, _, rfl, Or.inr ⟨rfl, (by first | omega | trivial | assumption)⟩⟩
    · show W p l e r_c_X0_mansAt_y s m args below meth c _ _ 0 0 Qf (F0 m 14 ls [.int (iI 0)])
      refine x_if_eq B (by omega) (tgt := 21) dX0_mansAt_14 (by decide) (fun c5 => ?_) (fun c5 => ?_)
      · refine lv_null B.1 B.2.1 dX0_mansAt_21 ?_
        refine y_ra (r := none) B hQ h (by decide) dX0_mansAt_22 ?_
        exact ⟨rfl, _, rfl, Or.inl ⟨rfl, (by first | omega | trivial | assumption)⟩⟩
      · exact absurd c5 (by omega)
abbrev r_c_X0_trustedMansAt_y : Room := { frames := 3, cells := 0, slots := 0, locals := 64 }
set_option maxHeartbeats 4000000 in
set_option maxRecDepth 100000 in
theorem c_X0_trustedMansAt_y (l : Launch) (D : va_G) (Zk : yK) (ca : Nat → ClassId) (T : Nat → Int → Int) (G : Nat → Int → Nat) (u : Int) (ad : Nat → Nat) (v0 w : yW) (hC : CW ca T G u ad v0) (hv0 : ∀ k : Nat, k ≠ 19 → w k = v0 k) (k : Int)  (hk : xr k) : yC l D Zk ca yX0_trustedMansAt cX0_trustedMansAt 3 (some (.object "WindWords$Reading")) r_c_X0_trustedMansAt_y [.ref (ad 1), .int (iI k)] w (vQ w (fun q => (q = none ∧ ¬ ((0 ≤ k ∧ k < T 0 2) ∧ T 7 k ≠ 3 ∧ T 24 (T 3 (1000 * T 4 k + T 5 k)) = 1)) ∨ (q = some (G 4 k) ∧ (0 ≤ k ∧ k < T 0 2) ∧ T 7 k ≠ 3 ∧ T 24 (T 3 (1000 * T 4 k + T 5 k)) = 1))) := by
  refine yC.of2 "WindWords$Fleet" (by decide) rfl (Nat.le_of_ble_eq_true rfl) ?_
  intro p e s m args below meth c A ls Qf B hnm h hl hQ
  have hl : lv_has ls 3 [(0, .ref (ad 1)), (1, .int (iI k))] := hl
  have hs := pi_s (CW.pi hC)
  refine lv_aload_n B.1 B.2.1 dX0_trustedMansAt_0 rfl (lv_at hl 0 rfl) ?_
  refine lv_iload_n B.1 B.2.1 dX0_trustedMansAt_1 rfl (lv_at hl 1 rfl) ?_
  refine y_cV B h kX0 1 ((hv0 (1) (by omega)).trans ((CW.f hC 1 _ rfl))) k_X0_mansAt rfl (c_X0_mansAt_y l D Zk ca T G u ad _ _ hC hv0 k  (by omega)) m_980 rfl (by decide) hl.1 [] (Nat.le_of_ble_eq_true rfl) rfl dX0_trustedMansAt_2 (fun r w1 hq H locs h => ?_)
  obtain ⟨rfl, _, rfl, ⟨rfl, q1⟩ | ⟨rfl, q1⟩⟩ := hq
  · show W p l e r_c_X0_trustedMansAt_y s m args below meth c _ _ 0 0 Qf (F0 m 5 ls [.null])
    refine lv_astore_nN (lv' := [(2, .null), (0, .ref (ad 1)), (1, .int (iI k))]) B.1 B.2.1 dX0_trustedMansAt_5 rfl hl (by decide) rfl (fun ls hl => ?_)
    refine lv_aload_nN B.1 B.2.1 dX0_trustedMansAt_6 rfl (lv_at hl 0 rfl) ?_
    refine lv_ifnullN (tgt := 25) B.1 B.2.1 dX0_trustedMansAt_7 (by decide) ?_
    refine lv_null B.1 B.2.1 dX0_trustedMansAt_25 ?_
    refine y_ra (r := none) B hQ h (by decide) dX0_trustedMansAt_26 ?_
    exact ⟨rfl, _, rfl, Or.inl ⟨rfl, (by by_cases q9 : 0 ≤ k ∧ k < T 0 2; (have w9 := pq_wr (CW.pi hC) (CW.pq hC) q9; omega); omega)⟩⟩
  · have fo2 := CW.rd hC k (by omega)
    show W p l e r_c_X0_trustedMansAt_y s m args below meth c _ _ 0 0 Qf (F0 m 5 ls [.ref (G 4 k)])
    refine lv_astore_n (lv' := [(2, .ref (G 4 k)), (0, .ref (ad 1)), (1, .int (iI k))]) B.1 B.2.1 dX0_trustedMansAt_5 rfl hl (by decide) rfl (fun ls hl => ?_)
    refine lv_aload_n B.1 B.2.1 dX0_trustedMansAt_6 rfl (lv_at hl 0 rfl) ?_
    refine lv_ifnull B.1 B.2.1 dX0_trustedMansAt_7 ?_
    refine lv_aload_n B.1 B.2.1 dX0_trustedMansAt_10 rfl (lv_at hl 1 rfl) ?_
    refine lv_aload_n B.1 B.2.1 dX0_trustedMansAt_11 rfl (lv_at hl 0 rfl) ?_
    refine y_cV B h kX4 (1000 + 16 * k.toNat + 4) ((hv0 (1000 + 16 * k.toNat + 4) (by omega)).trans fo2) k_X4_writer rfl (c_X4_writer_y l D Zk ca T G u ad _ _ hC hv0 k  (by omega)) m_985 rfl (by decide) hl.1 [.ref (ad 1)] (Nat.le_of_ble_eq_true rfl) rfl dX0_trustedMansAt_12 (fun r w1 hq H locs h => ?_)
    obtain ⟨rfl, _, rfl, rfl⟩ := hq
    have tb3 := pi_3 (CW.pi hC) (1000 * T 4 k + T 5 k)
    show W p l e r_c_X0_trustedMansAt_y s m args below meth c _ _ 0 0 Qf (F0 m 15 ls [.int (iI (T 3 (1000 * T 4 k + T 5 k))), .ref (ad 1)])
    refine y_cV B h kX0 1 ((hv0 (1) (by omega)).trans ((CW.f hC 1 _ rfl))) k_X0_isTrusted rfl (c_X0_isTrusted_y l D Zk ca T G u ad _ _ hC hv0 ((T 3 (1000 * T 4 k + T 5 k)))  (by omega)) m_986 rfl (by decide) hl.1 [] (Nat.le_of_ble_eq_true rfl) rfl dX0_trustedMansAt_15 (fun r w1 hq H locs h => ?_)
    obtain ⟨rfl, _, rfl, ⟨rfl, b4⟩ | ⟨rfl, b4⟩⟩ := hq
    · show W p l e r_c_X0_trustedMansAt_y s m args below meth c _ _ 0 0 Qf (F0 m 18 ls [.int (iI 1)])
      refine x_if_eq B (by omega) (tgt := 25) dX0_trustedMansAt_18 (by decide) (fun c5 => ?_) (fun c5 => ?_)
      · exact absurd c5 (by omega)
      · refine lv_aload_n B.1 B.2.1 dX0_trustedMansAt_21 rfl (lv_at hl 0 rfl) ?_
        refine lv_goto (tgt := 26) B.1 B.2.1 dX0_trustedMansAt_22 (by decide) ?_
        refine y_ra (r := (some (G 4 k))) B hQ h (by decide) dX0_trustedMansAt_26 ?_
        exact ⟨rfl, _, rfl, Or.inr ⟨rfl, (by first | omega | trivial | assumption)⟩⟩
    · show W p l e r_c_X0_trustedMansAt_y s m args below meth c _ _ 0 0 Qf (F0 m 18 ls [.int (iI 0)])
      refine x_if_eq B (by omega) (tgt := 25) dX0_trustedMansAt_18 (by decide) (fun c6 => ?_) (fun c6 => ?_)
      · refine lv_null B.1 B.2.1 dX0_trustedMansAt_25 ?_
        refine y_ra (r := none) B hQ h (by decide) dX0_trustedMansAt_26 ?_
        exact ⟨rfl, _, rfl, Or.inl ⟨rfl, (by by_cases q9 : 0 ≤ k ∧ k < T 0 2; (have w9 := pq_wr (CW.pi hC) (CW.pq hC) q9; omega); omega)⟩⟩
      · exact absurd c6 (by omega)
abbrev r_c_X8_lasts_y : Room := { frames := 0, cells := 0, slots := 0, locals := 0 }
set_option maxHeartbeats 4000000 in
set_option maxRecDepth 100000 in
theorem c_X8_lasts_y (l : Launch) (D : va_G) (Zk : yK) (ca : Nat → ClassId) (T : Nat → Int → Int) (G : Nat → Int → Nat) (u : Int) (ad : Nat → Nat) (v0 w : yW) (hC : CW ca T G u ad v0) (hv0 : ∀ k : Nat, k ≠ 19 → w k = v0 k) (v : Int)  (hv : xr v) : yC l D Zk ca yX8_lasts cX8_lasts 2 (some .boolean) r_c_X8_lasts_y [.ref (ad 18), .int (iI v)] w (vI w (fun z => (z = 1 ∧ (T 0 14 = 1 ∧ T 0 15 ≤ v ∧ v ≤ T 0 11)) ∨ (z = 0 ∧ (¬ (T 0 14 = 1 ∧ T 0 15 ≤ v ∧ v ≤ T 0 11))))) := by
  refine yC.of2 "WindWords$Storm" (by decide) rfl (Nat.le_of_ble_eq_true rfl) ?_
  intro p e s m args below meth c A ls Qf B hnm h hl hQ
  have hl : lv_has ls 2 [(0, .ref (ad 18)), (1, .int (iI v))] := hl
  have hs := pi_s (CW.pi hC)
  refine lv_aload_n B.1 B.2.1 dX8_lasts_0 rfl (lv_at hl 0 rfl) ?_
  refine y_getX B h kX8 18 ((hv0 (18) (by omega)).trans ((CW.f hC 18 _ rfl))) 1 (z := (T 0 14)) rfl m_263 (by decide) dX8_lasts_1 ?_
  refine x_if_eq B (by omega) (tgt := 27) dX8_lasts_4 (by decide) (fun c1 => ?_) (fun c1 => ?_)
  · refine x_iconst B dX8_lasts_27 ?_
    refine y_rz B hQ h (by decide) (by decide) dX8_lasts_28 ?_
    exact ⟨rfl, _, rfl, Or.inr ⟨rfl, (by first | omega | trivial | assumption)⟩⟩
  · refine lv_iload_n B.1 B.2.1 dX8_lasts_7 rfl (lv_at hl 1 rfl) ?_
    refine lv_aload_n B.1 B.2.1 dX8_lasts_8 rfl (lv_at hl 0 rfl) ?_
    refine y_getX B h kX8 18 ((hv0 (18) (by omega)).trans ((CW.f hC 18 _ rfl))) 2 (z := (T 0 15)) rfl m_264 (by decide) dX8_lasts_9 ?_
    refine x_icmp_lt B (by omega) (tgt := 27) dX8_lasts_12 (by decide) (fun c2 => ?_) (fun c2 => ?_)
    · refine x_iconst B dX8_lasts_27 ?_
      refine y_rz B hQ h (by decide) (by decide) dX8_lasts_28 ?_
      exact ⟨rfl, _, rfl, Or.inr ⟨rfl, (by first | omega | trivial | assumption)⟩⟩
    · refine lv_iload_n B.1 B.2.1 dX8_lasts_15 rfl (lv_at hl 1 rfl) ?_
      refine lv_aload_n B.1 B.2.1 dX8_lasts_16 rfl (lv_at hl 0 rfl) ?_
      refine y_getX B h kX8 18 ((hv0 (18) (by omega)).trans ((CW.f hC 18 _ rfl))) 3 (z := (T 0 11)) rfl m_265 (by decide) dX8_lasts_17 ?_
      refine x_icmp_gt B (by omega) (tgt := 27) dX8_lasts_20 (by decide) (fun c3 => ?_) (fun c3 => ?_)
      · refine x_iconst B dX8_lasts_27 ?_
        refine y_rz B hQ h (by decide) (by decide) dX8_lasts_28 ?_
        exact ⟨rfl, _, rfl, Or.inr ⟨rfl, (by first | omega | trivial | assumption)⟩⟩
      · refine x_iconst B dX8_lasts_23 ?_
        refine lv_goto (tgt := 28) B.1 B.2.1 dX8_lasts_24 (by decide) ?_
        refine y_rz B hQ h (by decide) (by decide) dX8_lasts_28 ?_
        exact ⟨rfl, _, rfl, Or.inl ⟨rfl, (by first | omega | trivial | assumption)⟩⟩
abbrev r_c_X8_spread_e : Room := { frames := 0, cells := 0, slots := 0, locals := 0 }
set_option maxHeartbeats 4000000 in
set_option maxRecDepth 100000 in
theorem c_X8_spread_e (l : Launch) (D : va_G) (Zk : yK) (ca : Nat → ClassId) (w : yW) (x : Int64)   : yC l D Zk ca yX8_spread cX8_spread 4 (some .long) r_c_X8_spread_e [.long (x)] w (vL w (fun z => SPD x z)) := by
  refine yC.of2 "WindWords$Storm" (by decide) rfl (Nat.le_of_ble_eq_true rfl) ?_
  intro p e s m args below meth c A ls Qf B hnm h hl hQ
  have hl : lv_has ls 4 [(0, .long (x))] := hl
  refine lv_lload_n B.1 B.2.1 dX8_spread_0 rfl (lv_at hl 0 rfl) ?_
  refine lv_lload_n B.1 B.2.1 dX8_spread_1 rfl (lv_at hl 0 rfl) ?_
  refine x_iconst B dX8_spread_2 ?_
  refine lv_lshl (v := (lsh x 1)) B.1 B.2.1 dX8_spread_3 rfl ?_
  refine x_ldc2 B m_1190 dX8_spread_4 ?_
  refine lv_land B.1 B.2.1 dX8_spread_7 ?_
  refine lv_lor B.1 B.2.1 dX8_spread_8 ?_
  refine lv_lload_n B.1 B.2.1 dX8_spread_9 rfl (lv_at hl 0 rfl) ?_
  refine x_iconst B dX8_spread_10 ?_
  refine lv_lushr (v := (lrh x 1)) B.1 B.2.1 dX8_spread_11 rfl ?_
  refine x_ldc2 B m_1191 dX8_spread_12 ?_
  refine lv_land B.1 B.2.1 dX8_spread_15 ?_
  refine lv_lor B.1 B.2.1 dX8_spread_16 ?_
  refine lv_lstore_n (lv' := [(2, .long (((x ||| ((lsh x 1) &&& (-72340172838076674 : Int64))) ||| ((lrh x 1) &&& (9187201950435737471 : Int64))))), (0, .long (x))]) B.1 B.2.1 dX8_spread_17 rfl hl (by decide) rfl (fun ls hl => ?_)
  refine lv_lload_n B.1 B.2.1 dX8_spread_18 rfl (lv_at hl 0 rfl) ?_
  refine lv_lload_n B.1 B.2.1 dX8_spread_19 rfl (lv_at hl 0 rfl) ?_
  refine x_bipush B (by decide) dX8_spread_20 ?_
  refine lv_lshl (v := (lsh (((x ||| ((lsh x 1) &&& (-72340172838076674 : Int64))) ||| ((lrh x 1) &&& (9187201950435737471 : Int64)))) 8)) B.1 B.2.1 dX8_spread_22 rfl ?_
  refine lv_lor B.1 B.2.1 dX8_spread_23 ?_
  refine lv_lload_n B.1 B.2.1 dX8_spread_24 rfl (lv_at hl 0 rfl) ?_
  refine x_bipush B (by decide) dX8_spread_25 ?_
  refine lv_lushr (v := (lrh (((x ||| ((lsh x 1) &&& (-72340172838076674 : Int64))) ||| ((lrh x 1) &&& (9187201950435737471 : Int64)))) 8)) B.1 B.2.1 dX8_spread_27 rfl ?_
  refine lv_lor B.1 B.2.1 dX8_spread_28 ?_
  refine y_rl B hQ h (by decide) dX8_spread_29 ?_
  exact ⟨rfl, _, rfl, spd_of⟩
abbrev r_c_X8_around_e_y : Room := { frames := 1, cells := 0, slots := 0, locals := 23 }
set_option maxHeartbeats 4000000 in
set_option maxRecDepth 100000 in
theorem c_X8_around_e_y (l : Launch) (D : va_G) (Zk : yK) (ca : Nat → ClassId) (T : Nat → Int → Int) (G : Nat → Int → Nat) (u : Int) (ad : Nat → Nat) (v0 w : yW) (hC : CW ca T G u ad v0) (hv0 : ∀ k : Nat, k ≠ 19 → w k = v0 k) (ce : Int)  (hce : 0 ≤ ce ∧ ce ≤ 63) : yC l D Zk ca yX8_around cX8_around 5 (some .long) r_c_X8_around_e_y [.ref (ad 18), .int (iI ce)] w (vL w (fun z => ARD ce (T 0 12) z)) := by
  refine yC.of2 "WindWords$Storm" (by decide) rfl (Nat.le_of_ble_eq_true rfl) ?_
  intro p e s m args below meth c A ls Qf B hnm h hl hQ
  have hl : lv_has ls 5 [(0, .ref (ad 18)), (1, .int (iI ce))] := hl
  have hs := pi_s (CW.pi hC)
  refine lv_lconst (v := 1) B.1 B.2.1 dX8_around_0 (by decide) ?_
  refine lv_iload_n B.1 B.2.1 dX8_around_1 rfl (lv_at hl 1 rfl) ?_
  refine lv_lshl (v := (lsh ((1 : Int64)) ce)) B.1 B.2.1 dX8_around_2 rfl ?_
  refine lv_lstore_n (lv' := [(2, .long ((lsh ((1 : Int64)) ce))), (0, .ref (ad 18)), (1, .int (iI ce))]) B.1 B.2.1 dX8_around_3 rfl hl (by decide) rfl (fun ls hl => ?_)
  refine x_iconst B dX8_around_4 ?_
  refine lv_istore (lv' := [(4, .int (iI 0)), (2, .long ((lsh ((1 : Int64)) ce))), (0, .ref (ad 18)), (1, .int (iI ce))]) B.1 B.2.1 dX8_around_5 hl (by decide) rfl (fun ls hl => ?_)
  have loop7 : ∀ (n7 : Nat) (nr : Int64) (i : Int), (0 ≤ i ∧ i ≤ T 0 12) → (ARD ce i nr) → ((7 - i : Int)).toNat < n7 → ∀ (H : Heap) (locs : List Loc) (ls : Array Slot), yH D Zk A s w H locs → lv_has ls 5 [(4, .int (iI i)), (2, .long (nr)), (0, .ref (ad 18))] → W p l e r_c_X8_around_e_y s m args below meth c H locs 0 0 Qf (F0 m 7 ls []) := by
    intro n7
    induction n7 with
    | zero =>
      intro nr i h0 h1 hm7 H locs ls h hl
      exact absurd hm7 (Nat.not_lt_zero _)
    | succ n7 ih7 =>
      intro nr i h0 h1 hm7 H locs ls h hl
      refine lv_iload B.1 B.2.1 dX8_around_7 (lv_at hl 0 rfl) ?_
      refine lv_aload_n B.1 B.2.1 dX8_around_9 rfl (lv_at hl 2 rfl) ?_
      refine y_getX B h kX8 18 ((hv0 (18) (by omega)).trans ((CW.f hC 18 _ rfl))) 4 (z := (T 0 12)) rfl m_266 (by decide) dX8_around_10 ?_
      refine x_icmp_ge B (by omega) (tgt := 27) dX8_around_13 (by decide) (fun c1 => ?_) (fun c1 => ?_)
      · refine lv_lload_n B.1 B.2.1 dX8_around_27 rfl (lv_at hl 1 rfl) ?_
        refine y_rl B hQ h (by decide) dX8_around_28 ?_
        have e9 : i = T 0 12 := by omega
        rw [e9] at h1
        exact ⟨rfl, _, rfl, h1⟩
      · refine lv_lload_n B.1 B.2.1 dX8_around_16 rfl (lv_at hl 1 rfl) ?_
        refine y_cS B h k_X8_spread (c_X8_spread_e l D Zk ca _ nr  ) m_1187 rfl (by decide) hl.1 [] (Nat.le_of_ble_eq_true rfl) rfl dX8_around_17 (fun r w1 hq H locs h => ?_)
        obtain ⟨rfl, ys, rfl, hys⟩ := hq
        show W p l e r_c_X8_around_e_y s m args below meth c _ _ 0 0 Qf (F0 m 20 ls [.long (ys)])
        refine lv_lstore_n (lv' := [(2, .long (ys)), (4, .int (iI i)), (0, .ref (ad 18))]) B.1 B.2.1 dX8_around_20 rfl hl (by decide) rfl (fun ls hl => ?_)
        refine lv_iinc (v := iI (i + 1)) (lv' := [(4, .int (iI (i + 1))), (2, .long (ys)), (0, .ref (ad 18))]) B.1 B.2.1 dX8_around_21 hl (k := 1) rfl (iI_add _ _) (by decide) rfl (fun ls hl => ?_)
        refine lv_goto (tgt := 7) B.1 B.2.1 dX8_around_24 (by decide) ?_
        exact ih7 ys ((i + 1)) (by omega) (ard_n (by omega) (by omega) h1 hys) (by omega) _ _ _ h (lv_sub hl [0, 1, 2] rfl)
  exact loop7 (((7 - 0 : Int)).toNat + 1) ((lsh ((1 : Int64)) ce)) 0 (by omega) (ard_0 (by omega)) (Nat.lt_succ_self _) _ _ _ h (lv_sub hl [0, 1, 2] rfl)
abbrev r_c_X8_allowed_e_y : Room := { frames := 4, cells := 0, slots := 0, locals := 86 }
set_option maxHeartbeats 4000000 in
set_option maxRecDepth 100000 in
theorem c_X8_allowed_e_y (l : Launch) (D : va_G) (Zk : yK) (ca : Nat → ClassId) (T : Nat → Int → Int) (G : Nat → Int → Nat) (u : Int) (ad : Nat → Nat) (v0 w : yW) (hC : CW ca T G u ad v0) (hv0 : ∀ k : Nat, k ≠ 19 → w k = v0 k) (v : Int)  (hv : xr v) : yC l D Zk ca yX8_allowed cX8_allowed 9 (some .long) r_c_X8_allowed_e_y [.ref (ad 18), .int (iI v), .ref (ad 1)] w (vL w (fun z => AMD T v (T 0 2) z)) := by
  refine yC.of2 "WindWords$Storm" (by decide) rfl (Nat.le_of_ble_eq_true rfl) ?_
  intro p e s m args below meth c A ls Qf B hnm h hl hQ
  have hl : lv_has ls 9 [(0, .ref (ad 18)), (1, .int (iI v)), (2, .ref (ad 1))] := hl
  have hs := pi_s (CW.pi hC)
  refine x_ldc2 B m_1181 dX8_allowed_0 ?_
  refine lv_lstore_n (lv' := [(3, .long ((-1 : Int64))), (0, .ref (ad 18)), (1, .int (iI v)), (2, .ref (ad 1))]) B.1 B.2.1 dX8_allowed_3 rfl hl (by decide) rfl (fun ls hl => ?_)
  refine x_iconst B dX8_allowed_4 ?_
  refine lv_istore (lv' := [(5, .int (iI 0)), (3, .long ((-1 : Int64))), (0, .ref (ad 18)), (1, .int (iI v)), (2, .ref (ad 1))]) B.1 B.2.1 dX8_allowed_5 hl (by decide) rfl (fun ls hl => ?_)
  have loop7 : ∀ (n7 : Nat) (md : Int64) (i : Int), (0 ≤ i ∧ i ≤ T 0 2) → (AMD T v i md) → ((300 - i : Int)).toNat < n7 → ∀ (H : Heap) (locs : List Loc) (ls : Array Slot), yH D Zk A s w H locs → lv_has ls 9 [(5, .int (iI i)), (3, .long (md)), (0, .ref (ad 18)), (1, .int (iI v)), (2, .ref (ad 1))] → W p l e r_c_X8_allowed_e_y s m args below meth c H locs 0 0 Qf (F0 m 7 ls []) := by
    intro n7
    induction n7 with
    | zero =>
      intro md i h0 h1 hm7 H locs ls h hl
      exact absurd hm7 (Nat.not_lt_zero _)
    | succ n7 ih7 =>
      intro md i h0 h1 hm7 H locs ls h hl
      refine lv_iload B.1 B.2.1 dX8_allowed_7 (lv_at hl 0 rfl) ?_
      refine lv_aload_n B.1 B.2.1 dX8_allowed_9 rfl (lv_at hl 4 rfl) ?_
      refine y_getX B h kX0 1 ((hv0 (1) (by omega)).trans ((CW.f hC 1 _ rfl))) 5 (z := (T 0 2)) rfl m_148 (by decide) dX8_allowed_10 ?_
      refine x_icmp_ge B (by omega) (tgt := 81) dX8_allowed_13 (by decide) (fun c1 => ?_) (fun c1 => ?_)
      · refine lv_lload_n B.1 B.2.1 dX8_allowed_81 rfl (lv_at hl 1 rfl) ?_
        refine y_rl B hQ h (by decide) dX8_allowed_82 ?_
        have e9 : i = T 0 2 := by omega
        rw [e9] at h1
        exact ⟨rfl, _, rfl, h1⟩
      · refine lv_aload_n B.1 B.2.1 dX8_allowed_16 rfl (lv_at hl 4 rfl) ?_
        refine lv_iload B.1 B.2.1 dX8_allowed_17 (lv_at hl 0 rfl) ?_
        refine y_cV B h kX0 1 ((hv0 (1) (by omega)).trans ((CW.f hC 1 _ rfl))) k_X0_trustedMansAt rfl (c_X0_trustedMansAt_y l D Zk ca T G u ad _ _ hC hv0 i  (by omega)) m_1182 rfl (by decide) hl.1 [] (Nat.le_of_ble_eq_true rfl) rfl dX8_allowed_19 (fun r w1 hq H locs h => ?_)
        obtain ⟨rfl, _, rfl, ⟨rfl, ct⟩ | ⟨rfl, ct⟩⟩ := hq
        · show W p l e r_c_X8_allowed_e_y s m args below meth c _ _ 0 0 Qf (F0 m 22 ls [.null])
          refine lv_astoreN (lv' := [(6, .null), (5, .int (iI i)), (3, .long (md)), (0, .ref (ad 18)), (1, .int (iI v)), (2, .ref (ad 1))]) B.1 B.2.1 dX8_allowed_22 hl (by decide) rfl (fun ls hl => ?_)
          refine lv_aloadN B.1 B.2.1 dX8_allowed_24 (lv_at hl 0 rfl) ?_
          refine lv_ifnullN (tgt := 75) B.1 B.2.1 dX8_allowed_26 (by decide) ?_
          refine lv_iinc (v := iI (i + 1)) (lv' := [(5, .int (iI (i + 1))), (6, .null), (3, .long (md)), (0, .ref (ad 18)), (1, .int (iI v)), (2, .ref (ad 1))]) B.1 B.2.1 dX8_allowed_75 hl (k := 1) rfl (iI_add _ _) (by decide) rfl (fun ls hl => ?_)
          refine lv_goto (tgt := 7) B.1 B.2.1 dX8_allowed_78 (by decide) ?_
          exact ih7 md ((i + 1)) (by omega) (amd_skip (fun q9 => by first | exact ct ⟨by omega, q9.2.1, q9.2.2⟩ | exact absurd q9.1 (by omega)) h1) (by omega) _ _ _ h (lv_sub hl [0, 2, 3, 4, 5] rfl)
        · have fo3 := CW.rd hC i (by omega)
          show W p l e r_c_X8_allowed_e_y s m args below meth c _ _ 0 0 Qf (F0 m 22 ls [.ref (G 4 i)])
          refine lv_astore (lv' := [(6, .ref (G 4 i)), (5, .int (iI i)), (3, .long (md)), (0, .ref (ad 18)), (1, .int (iI v)), (2, .ref (ad 1))]) B.1 B.2.1 dX8_allowed_22 hl (by decide) rfl (fun ls hl => ?_)
          refine lv_aload B.1 B.2.1 dX8_allowed_24 (lv_at hl 0 rfl) ?_
          refine lv_ifnull B.1 B.2.1 dX8_allowed_26 ?_
          refine lv_aload B.1 B.2.1 dX8_allowed_29 (lv_at hl 0 rfl) ?_
          refine y_getX B h kX4 (1000 + 16 * i.toNat + 4) ((hv0 (1000 + 16 * i.toNat + 4) (by omega)).trans fo3) 1 (z := (T 5 i)) rfl m_517 (by decide) dX8_allowed_31 ?_
          have tb4 := pi_5 (CW.pi hC) i
          refine lv_iload_n B.1 B.2.1 dX8_allowed_34 rfl (lv_at hl 4 rfl) ?_
          refine x_icmp_ne B (by omega) (tgt := 75) dX8_allowed_35 (by decide) (fun c5 => ?_) (fun c5 => ?_)
          · refine lv_iinc (v := iI (i + 1)) (lv' := [(5, .int (iI (i + 1))), (6, .ref (G 4 i)), (3, .long (md)), (0, .ref (ad 18)), (1, .int (iI v)), (2, .ref (ad 1))]) B.1 B.2.1 dX8_allowed_75 hl (k := 1) rfl (iI_add _ _) (by decide) rfl (fun ls hl => ?_)
            refine lv_goto (tgt := 7) B.1 B.2.1 dX8_allowed_78 (by decide) ?_
            exact ih7 md ((i + 1)) (by omega) (amd_skip (fun q9 => by first | exact ct ⟨by omega, q9.2.1, q9.2.2⟩ | exact absurd q9.1 (by omega)) h1) (by omega) _ _ _ h (lv_sub hl [0, 2, 3, 4, 5] rfl)
          · refine lv_aload_n B.1 B.2.1 dX8_allowed_38 rfl (lv_at hl 3 rfl) ?_
            refine lv_aload B.1 B.2.1 dX8_allowed_39 (lv_at hl 0 rfl) ?_
            refine y_getX B h kX4 (1000 + 16 * i.toNat + 4) ((hv0 (1000 + 16 * i.toNat + 4) (by omega)).trans fo3) 2 (z := (T 6 i)) rfl m_521 (by decide) dX8_allowed_41 ?_
            have tb6 := pi_6 (CW.pi hC) i
            refine y_cV B h kX8 18 ((hv0 (18) (by omega)).trans ((CW.f hC 18 _ rfl))) k_X8_around rfl (c_X8_around_e_y l D Zk ca T G u ad _ _ hC hv0 ((T 6 i))  (by omega)) m_1183 rfl (by decide) hl.1 [] (Nat.le_of_ble_eq_true rfl) rfl dX8_allowed_44 (fun r w1 hq H locs h => ?_)
            obtain ⟨rfl, ya, rfl, hya⟩ := hq
            show W p l e r_c_X8_allowed_e_y s m args below meth c _ _ 0 0 Qf (F0 m 47 ls [.long (ya)])
            refine lv_lstore (lv' := [(7, .long (ya)), (6, .ref (G 4 i)), (5, .int (iI i)), (3, .long (md)), (0, .ref (ad 18)), (1, .int (iI v)), (2, .ref (ad 1))]) B.1 B.2.1 dX8_allowed_47 hl (by decide) rfl (fun ls hl => ?_)
            refine lv_lload_n B.1 B.2.1 dX8_allowed_49 rfl (lv_at hl 3 rfl) ?_
            refine lv_aload B.1 B.2.1 dX8_allowed_50 (lv_at hl 1 rfl) ?_
            refine y_getX B h kX4 (1000 + 16 * i.toNat + 4) ((hv0 (1000 + 16 * i.toNat + 4) (by omega)).trans fo3) 4 (z := (T 8 i)) rfl m_531 (by decide) dX8_allowed_52 ?_
            have tb8 := pi_8 (CW.pi hC) i
            have tb9 := pi_n (CW.pi hC) i
            refine lv_aload_n B.1 B.2.1 dX8_allowed_55 rfl (lv_at hl 4 rfl) ?_
            refine y_getX B h kX8 18 ((hv0 (18) (by omega)).trans ((CW.f hC 18 _ rfl))) 5 (z := (T 0 13)) rfl m_267 (by decide) dX8_allowed_56 ?_
            refine x_icmp_lt B (by omega) (tgt := 67) dX8_allowed_59 (by decide) (fun c10 => ?_) (fun c10 => ?_)
            · refine lv_lload B.1 B.2.1 dX8_allowed_67 (lv_at hl 0 rfl) ?_
              refine x_ldc2 B m_1181 dX8_allowed_69 ?_
              refine lv_lxor B.1 B.2.1 dX8_allowed_72 ?_
              refine lv_land B.1 B.2.1 dX8_allowed_73 ?_
              refine lv_lstore_n (lv' := [(3, .long ((md &&& (ya ^^^ (-1 : Int64))))), (7, .long (ya)), (6, .ref (G 4 i)), (5, .int (iI i)), (0, .ref (ad 18)), (1, .int (iI v)), (2, .ref (ad 1))]) B.1 B.2.1 dX8_allowed_74 rfl hl (by decide) rfl (fun ls hl => ?_)
              refine lv_iinc (v := iI (i + 1)) (lv' := [(5, .int (iI (i + 1))), (3, .long ((md &&& (ya ^^^ (-1 : Int64))))), (7, .long (ya)), (6, .ref (G 4 i)), (0, .ref (ad 18)), (1, .int (iI v)), (2, .ref (ad 1))]) B.1 B.2.1 dX8_allowed_75 hl (k := 3) rfl (iI_add _ _) (by decide) rfl (fun ls hl => ?_)
              refine lv_goto (tgt := 7) B.1 B.2.1 dX8_allowed_78 (by decide) ?_
              exact ih7 ((md &&& (ya ^^^ (-1 : Int64)))) ((i + 1)) (by omega) (amd_out (by omega) ⟨by omega, ct.2.1, ct.2.2⟩ h1 hya (by omega)) (by omega) _ _ _ h (lv_sub hl [0, 1, 4, 5, 6] rfl)
            · refine lv_lload B.1 B.2.1 dX8_allowed_62 (lv_at hl 0 rfl) ?_
              refine lv_goto (tgt := 73) B.1 B.2.1 dX8_allowed_64 (by decide) ?_
              refine lv_land B.1 B.2.1 dX8_allowed_73 ?_
              refine lv_lstore_n (lv' := [(3, .long ((md &&& ya))), (7, .long (ya)), (6, .ref (G 4 i)), (5, .int (iI i)), (0, .ref (ad 18)), (1, .int (iI v)), (2, .ref (ad 1))]) B.1 B.2.1 dX8_allowed_74 rfl hl (by decide) rfl (fun ls hl => ?_)
              refine lv_iinc (v := iI (i + 1)) (lv' := [(5, .int (iI (i + 1))), (3, .long ((md &&& ya))), (7, .long (ya)), (6, .ref (G 4 i)), (0, .ref (ad 18)), (1, .int (iI v)), (2, .ref (ad 1))]) B.1 B.2.1 dX8_allowed_75 hl (k := 3) rfl (iI_add _ _) (by decide) rfl (fun ls hl => ?_)
              refine lv_goto (tgt := 7) B.1 B.2.1 dX8_allowed_78 (by decide) ?_
              exact ih7 ((md &&& ya)) ((i + 1)) (by omega) (amd_in (by omega) ⟨by omega, ct.2.1, ct.2.2⟩ h1 hya (by omega)) (by omega) _ _ _ h (lv_sub hl [0, 1, 4, 5, 6] rfl)
  exact loop7 (((300 - 0 : Int)).toNat + 1) ((-1 : Int64)) 0 (by omega) amd_0 (Nat.lt_succ_self _) _ _ _ h (lv_sub hl [0, 1, 2, 3, 4] rfl)
abbrev r_c_X8_follow_e : Room := { frames := 5, cells := 0, slots := 0, locals := 114 }
set_option maxHeartbeats 4000000 in
set_option maxRecDepth 100000 in
theorem c_X8_follow_e (l : Launch) (D : va_G) (Zk : yK) (ca : Nat → ClassId) (T : Nat → Int → Int) (G : Nat → Int → Nat) (u : Int) (ad : Nat → Nat) (w : yW) (hC : CW ca T G u ad w)   (hto : T 0 14 = 1) : yC l D Zk ca yX8_follow cX8_follow 4 none r_c_X8_follow_e [.ref (ad 18), .ref (ad 1)] w (fun r w1 => r = none ∧ ∃ pl2 : (Nat → Int64) → Prop, w1 = (wu w 19 (ad 19, xAL (ca 1) 60 pl2)) ∧ (∀ f : Nat → Int64, pl2 f → CE T f)) := by
  refine yC.of2 "WindWords$Storm" (by decide) rfl (Nat.le_of_ble_eq_true rfl) ?_
  intro p e s m args below meth c A ls Qf B hnm h hl hQ
  have hl : lv_has ls 4 [(0, .ref (ad 18)), (1, .ref (ad 1))] := hl
  have hs := pi_s (CW.pi hC)
  have h : yH D Zk A s ((wu w 19 (ad 19, xAL (ca 1) 60 (fun _ => True)))) s.heap [] := by rw [wu_same (show w 19 = _ from (CW.f hC 19 _ rfl))]; exact h
  refine x_bipush B (by decide) dX8_follow_0 ?_
  refine lv_aload_n B.1 B.2.1 dX8_follow_2 rfl (lv_at hl 0 rfl) ?_
  refine y_getX B h kX8 18 (wu_at (CW.f hC 18 _ rfl) (by decide)) 3 (z := (T 0 11)) rfl m_265 (by decide) dX8_follow_3 ?_
  refine lv_aload_n B.1 B.2.1 dX8_follow_6 rfl (lv_at hl 0 rfl) ?_
  refine y_getX B h kX8 18 (wu_at (CW.f hC 18 _ rfl) (by decide)) 2 (z := (T 0 15)) rfl m_264 (by decide) dX8_follow_7 ?_
  refine x_isub B dX8_follow_10 ?_
  refine x_iconst B dX8_follow_11 ?_
  refine x_iadd B dX8_follow_12 ?_
  refine x_min B (by omega) m_1176 m_586 m_106 m_587 hl.1 (Nat.le_of_ble_eq_true rfl) (by decide) dX8_follow_13 ?_
  refine lv_istore_n (lv' := [(2, .int (iI (min 60 (((T 0 11) - (T 0 15)) + 1)))), (0, .ref (ad 18)), (1, .ref (ad 1))]) B.1 B.2.1 dX8_follow_16 rfl hl (by decide) rfl (fun ls hl => ?_)
  refine x_iconst B dX8_follow_17 ?_
  refine lv_istore_n (lv' := [(3, .int (iI 0)), (2, .int (iI (min 60 (((T 0 11) - (T 0 15)) + 1)))), (0, .ref (ad 18)), (1, .ref (ad 1))]) B.1 B.2.1 dX8_follow_18 rfl hl (by decide) rfl (fun ls hl => ?_)
  have loop19 : ∀ (n19 : Nat) (i : Int) (cp9 : (Nat → Int64) → Prop), (0 ≤ i ∧ i ≤ T 0 11 - T 0 10 + 1) → (∀ f : Nat → Int64, cp9 f → CFW T i f) → ((60 - i : Int)).toNat < n19 → ∀ (H : Heap) (locs : List Loc) (ls : Array Slot), yH D Zk A s ((wu w 19 (ad 19, xAL (ca 1) 60 cp9))) H locs → lv_has ls 4 [(3, .int (iI i)), (2, .int (iI (min 60 (((T 0 11) - (T 0 15)) + 1)))), (0, .ref (ad 18)), (1, .ref (ad 1))] → W p l e r_c_X8_follow_e s m args below meth c H locs 0 0 Qf (F0 m 19 ls []) := by
    intro n19
    induction n19 with
    | zero =>
      intro i cp9 h0 hcf hm19 H locs ls h hl
      exact absurd hm19 (Nat.not_lt_zero _)
    | succ n19 ih19 =>
      intro i cp9 h0 hcf hm19 H locs ls h hl
      refine lv_iload_n B.1 B.2.1 dX8_follow_19 rfl (lv_at hl 0 rfl) ?_
      refine lv_iload_n B.1 B.2.1 dX8_follow_20 rfl (lv_at hl 1 rfl) ?_
      refine x_icmp_ge B (by omega) (tgt := 71) dX8_follow_21 (by decide) (fun c1 => ?_) (fun c1 => ?_)
      · refine lv_iload_n B.1 B.2.1 dX8_follow_71 rfl (lv_at hl 1 rfl) ?_
        refine x_iconst B dX8_follow_72 ?_
        refine x_isub B dX8_follow_73 ?_
        refine lv_istore_n (lv' := [(3, .int (iI ((min 60 (((T 0 11) - (T 0 15)) + 1)) - 2))), (2, .int (iI (min 60 (((T 0 11) - (T 0 15)) + 1)))), (0, .ref (ad 18)), (1, .ref (ad 1))]) B.1 B.2.1 dX8_follow_74 rfl hl (by decide) rfl (fun ls hl => ?_)
        have loop75 : ∀ (n75 : Nat) (k2 : Int) (cp8 : (Nat → Int64) → Prop), (-1 ≤ k2 ∧ k2 < T 0 11 - T 0 10) → (∀ f : Nat → Int64, cp8 f → CBW T k2 f) → ((k2 + 1 : Int)).toNat < n75 → ∀ (H : Heap) (locs : List Loc) (ls : Array Slot), yH D Zk A s ((wu w 19 (ad 19, xAL (ca 1) 60 cp8))) H locs → lv_has ls 4 [(3, .int (iI k2)), (0, .ref (ad 18))] → W p l e r_c_X8_follow_e s m args below meth c H locs 0 0 Qf (F0 m 75 ls []) := by
          intro n75
          induction n75 with
          | zero =>
            intro k2 cp8 h2 hcb hm75 H locs ls h hl
            exact absurd hm75 (Nat.not_lt_zero _)
          | succ n75 ih75 =>
            intro k2 cp8 h2 hcb hm75 H locs ls h hl
            refine lv_iload_n B.1 B.2.1 dX8_follow_75 rfl (lv_at hl 0 rfl) ?_
            refine x_if_lt B (by omega) (tgt := 105) dX8_follow_76 (by decide) (fun c2 => ?_) (fun c2 => ?_)
            · refine y_rv B hQ h (by decide) dX8_follow_105 ?_
              exact ⟨rfl, _, rfl, fun f hf => ce_of (hcb f hf) (by omega)⟩
            · refine lv_aload_n B.1 B.2.1 dX8_follow_79 rfl (lv_at hl 1 rfl) ?_
              refine y_getR B h kX8 18 (wu_at (CW.f hC 18 _ rfl) (by decide)) 0 (b := ad 19) rfl m_262 (by decide) dX8_follow_80 ?_
              refine lv_iload_n B.1 B.2.1 dX8_follow_83 rfl (lv_at hl 0 rfl) ?_
              refine lv_dup2_11 B.1 B.2.1 dX8_follow_84 rfl rfl ?_
              refine y_lald B h 19 wu_eq (by omega) dX8_follow_85 (fun fy3 hfy3 => ?_)
              refine lv_aload_n B.1 B.2.1 dX8_follow_86 rfl (lv_at hl 1 rfl) ?_
              refine y_getR B h kX8 18 (wu_at (CW.f hC 18 _ rfl) (by decide)) 0 (b := ad 19) rfl m_262 (by decide) dX8_follow_87 ?_
              refine lv_iload_n B.1 B.2.1 dX8_follow_90 rfl (lv_at hl 0 rfl) ?_
              refine x_iconst B dX8_follow_91 ?_
              refine x_iadd B dX8_follow_92 ?_
              refine y_lald B h 19 wu_eq (by omega) dX8_follow_93 (fun fy4 hfy4 => ?_)
              refine y_cS B h k_X8_spread (c_X8_spread_e l D Zk ca _ ((fy4 ((k2 + 1)).toNat))  ) m_1187 rfl (by decide) hl.1 [.long ((fy3 (k2).toNat)), .int (iI k2), .ref (ad 19)] (Nat.le_of_ble_eq_true rfl) rfl dX8_follow_94 (fun r w1 hq H locs h => ?_)
              obtain ⟨rfl, yd, rfl, hyd⟩ := hq
              show W p l e r_c_X8_follow_e s m args below meth c _ _ 0 0 Qf (F0 m 97 ls [.long (yd), .long ((fy3 (k2).toNat)), .int (iI k2), .ref (ad 19)])
              refine lv_land B.1 B.2.1 dX8_follow_97 ?_
              refine y_last B h 19 wu_eq (by omega) (P' := VU cp8 (k2).toNat (((fy3 (k2).toNat) &&& yd))) (fun f hf => ⟨f, hf, rfl⟩) dX8_follow_98 (fun H locs h => ?_)
              rw [wu_wu] at h
              have h : yH D Zk A s ((wu w 19 (ad 19, xAL (ca 1) 60 (VU cp8 (k2).toNat (((fy3 (k2).toNat) &&& yd)))))) _ _ := h
              refine lv_iinc (v := iI (k2 + (-1))) (lv' := [(3, .int (iI (k2 + (-1)))), (0, .ref (ad 18))]) B.1 B.2.1 dX8_follow_99 hl (k := 0) rfl (iI_add _ _) (by decide) rfl (fun ls hl => ?_)
              refine lv_goto (tgt := 75) B.1 B.2.1 dX8_follow_102 (by decide) ?_
              exact ih75 ((k2 + (-1))) (VU cp8 (k2).toNat (((fy3 (k2).toNat) &&& yd))) (by omega) (fun f hf => cbw_n (by omega) hcb hfy3 hfy4 hyd hf) (by omega) _ _ _ h (lv_sub hl [0, 1] rfl)
        exact loop75 ((((((min 60 (((T 0 11) - (T 0 15)) + 1)) - 2)) + 1 : Int)).toNat + 1) (((min 60 (((T 0 11) - (T 0 15)) + 1)) - 2)) cp9 (by omega) (fun f hf => cbw_0 (hcf f hf) (by omega) (by omega)) (Nat.lt_succ_self _) _ _ _ h (lv_sub hl [0, 2] rfl)
      · refine lv_aload_n B.1 B.2.1 dX8_follow_24 rfl (lv_at hl 2 rfl) ?_
        refine y_getR B h kX8 18 (wu_at (CW.f hC 18 _ rfl) (by decide)) 0 (b := ad 19) rfl m_262 (by decide) dX8_follow_25 ?_
        refine lv_iload_n B.1 B.2.1 dX8_follow_28 rfl (lv_at hl 0 rfl) ?_
        refine lv_aload_n B.1 B.2.1 dX8_follow_29 rfl (lv_at hl 2 rfl) ?_
        refine lv_aload_n B.1 B.2.1 dX8_follow_30 rfl (lv_at hl 2 rfl) ?_
        refine y_getX B h kX8 18 (wu_at (CW.f hC 18 _ rfl) (by decide)) 2 (z := (T 0 15)) rfl m_264 (by decide) dX8_follow_31 ?_
        refine lv_iload_n B.1 B.2.1 dX8_follow_34 rfl (lv_at hl 0 rfl) ?_
        refine x_iadd B dX8_follow_35 ?_
        refine lv_aload_n B.1 B.2.1 dX8_follow_36 rfl (lv_at hl 3 rfl) ?_
        refine y_cV B h kX8 18 (wu_at (CW.f hC 18 _ rfl) (by decide)) k_X8_allowed rfl (c_X8_allowed_e_y l D Zk ca T G u ad _ _ hC (fun k hk => by rw [wu_ne (by omega)]) (((T 0 15) + i))  (by omega)) m_1177 rfl (by decide) hl.1 [.int (iI i), .ref (ad 19)] (Nat.le_of_ble_eq_true rfl) rfl dX8_follow_37 (fun r w1 hq H locs h => ?_)
        obtain ⟨rfl, ya, rfl, hya⟩ := hq
        show W p l e r_c_X8_follow_e s m args below meth c _ _ 0 0 Qf (F0 m 40 ls [.long (ya), .int (iI i), .ref (ad 19)])
        refine y_last B h 19 wu_eq (by omega) (P' := VU cp9 (i).toNat ya) (fun f hf => ⟨f, hf, rfl⟩) dX8_follow_40 (fun H locs h => ?_)
        rw [wu_wu] at h
        have h : yH D Zk A s ((wu w 19 (ad 19, xAL (ca 1) 60 (VU cp9 (i).toNat ya)))) _ _ := h
        refine lv_iload_n B.1 B.2.1 dX8_follow_41 rfl (lv_at hl 0 rfl) ?_
        refine x_if_le B (by omega) (tgt := 65) dX8_follow_42 (by decide) (fun c7 => ?_) (fun c7 => ?_)
        · refine lv_iinc (v := iI (i + 1)) (lv' := [(3, .int (iI (i + 1))), (2, .int (iI (min 60 (((T 0 11) - (T 0 15)) + 1)))), (0, .ref (ad 18)), (1, .ref (ad 1))]) B.1 B.2.1 dX8_follow_65 hl (k := 0) rfl (iI_add _ _) (by decide) rfl (fun ls hl => ?_)
          refine lv_goto (tgt := 19) B.1 B.2.1 dX8_follow_68 (by decide) ?_
          exact ih19 ((i + 1)) (VU cp9 (i).toNat ya) (by omega) (fun f hf => cfw_1 (by omega) (by omega) hya hf) (by omega) _ _ _ h (lv_sub hl [0, 1, 2, 3] rfl)
        · refine lv_aload_n B.1 B.2.1 dX8_follow_45 rfl (lv_at hl 2 rfl) ?_
          refine y_getR B h kX8 18 (wu_at (CW.f hC 18 _ rfl) (by decide)) 0 (b := ad 19) rfl m_262 (by decide) dX8_follow_46 ?_
          refine lv_iload_n B.1 B.2.1 dX8_follow_49 rfl (lv_at hl 0 rfl) ?_
          refine lv_dup2_11 B.1 B.2.1 dX8_follow_50 rfl rfl ?_
          refine y_lald B h 19 wu_eq (by omega) dX8_follow_51 (fun fy8 hfy8 => ?_)
          refine lv_aload_n B.1 B.2.1 dX8_follow_52 rfl (lv_at hl 2 rfl) ?_
          refine y_getR B h kX8 18 (wu_at (CW.f hC 18 _ rfl) (by decide)) 0 (b := ad 19) rfl m_262 (by decide) dX8_follow_53 ?_
          refine lv_iload_n B.1 B.2.1 dX8_follow_56 rfl (lv_at hl 0 rfl) ?_
          refine x_iconst B dX8_follow_57 ?_
          refine x_isub B dX8_follow_58 ?_
          refine y_lald B h 19 wu_eq (by omega) dX8_follow_59 (fun fy9 hfy9 => ?_)
          refine y_cS B h k_X8_spread (c_X8_spread_e l D Zk ca _ ((fy9 ((i - 1)).toNat))  ) m_1187 rfl (by decide) hl.1 [.long ((fy8 (i).toNat)), .int (iI i), .ref (ad 19)] (Nat.le_of_ble_eq_true rfl) rfl dX8_follow_60 (fun r w1 hq H locs h => ?_)
          obtain ⟨rfl, yb, rfl, hyb⟩ := hq
          show W p l e r_c_X8_follow_e s m args below meth c _ _ 0 0 Qf (F0 m 63 ls [.long (yb), .long ((fy8 (i).toNat)), .int (iI i), .ref (ad 19)])
          refine lv_land B.1 B.2.1 dX8_follow_63 ?_
          refine y_last B h 19 wu_eq (by omega) (P' := VU (VU cp9 (i).toNat ya) (i).toNat (((fy8 (i).toNat) &&& yb))) (fun f hf => ⟨f, hf, rfl⟩) dX8_follow_64 (fun H locs h => ?_)
          rw [wu_wu] at h
          have h : yH D Zk A s ((wu w 19 (ad 19, xAL (ca 1) 60 (VU (VU cp9 (i).toNat ya) (i).toNat (((fy8 (i).toNat) &&& yb)))))) _ _ := h
          refine lv_iinc (v := iI (i + 1)) (lv' := [(3, .int (iI (i + 1))), (2, .int (iI (min 60 (((T 0 11) - (T 0 15)) + 1)))), (0, .ref (ad 18)), (1, .ref (ad 1))]) B.1 B.2.1 dX8_follow_65 hl (k := 0) rfl (iI_add _ _) (by decide) rfl (fun ls hl => ?_)
          refine lv_goto (tgt := 19) B.1 B.2.1 dX8_follow_68 (by decide) ?_
          exact ih19 ((i + 1)) (VU (VU cp9 (i).toNat ya) (i).toNat (((fy8 (i).toNat) &&& yb))) (by omega) (fun f hf => cfw_n (by omega) (by omega) hcf hya hfy8 hfy9 hyb hf) (by omega) _ _ _ h (lv_sub hl [0, 1, 2, 3] rfl)
  exact loop19 (((60 - 0 : Int)).toNat + 1) 0 (fun _ => True) (by omega) (fun f _ => cfw_0) (Nat.lt_succ_self _) _ _ _ h (lv_sub hl [0, 1, 2, 3] rfl)
abbrev r_c_X8_cellsOn_e_y : Room := { frames := 1, cells := 0, slots := 0, locals := 21 }
set_option maxHeartbeats 4000000 in
set_option maxRecDepth 100000 in
theorem c_X8_cellsOn_e_y (l : Launch) (D : va_G) (Zk : yK) (ca : Nat → ClassId) (T : Nat → Int → Int) (G : Nat → Int → Nat) (u : Int) (ad : Nat → Nat) (v0 w : yW) (hC : CW ca T G u ad v0) (hv0 : ∀ k : Nat, k ≠ 19 → w k = v0 k) (pc9 : (Nat → Int64) → Prop) (icl : Nat) (v : Int) (fc9 : w icl = some (ad 19, xAL (ca 1) 60 pc9)) (hin : T 0 14 = 1 ∧ T 0 15 ≤ v ∧ v ≤ T 0 11) (hv : xr v) : yC l D Zk ca yX8_cellsOn cX8_cellsOn 2 (some .long) r_c_X8_cellsOn_e_y [.ref (ad 18), .int (iI v)] w (vL w (fun z => ∃ f : Nat → Int64, pc9 f ∧ z = f (v - T 0 15).toNat)) := by
  refine yC.of2 "WindWords$Storm" (by decide) rfl (Nat.le_of_ble_eq_true rfl) ?_
  intro p e s m args below meth c A ls Qf B hnm h hl hQ
  have hl : lv_has ls 2 [(0, .ref (ad 18)), (1, .int (iI v))] := hl
  have hs := pi_s (CW.pi hC)
  refine lv_aload_n B.1 B.2.1 dX8_cellsOn_0 rfl (lv_at hl 0 rfl) ?_
  refine lv_iload_n B.1 B.2.1 dX8_cellsOn_1 rfl (lv_at hl 1 rfl) ?_
  refine y_cV B h kX8 18 ((hv0 (18) (by omega)).trans ((CW.f hC 18 _ rfl))) k_X8_lasts rfl (c_X8_lasts_y l D Zk ca T G u ad _ _ hC hv0 v  (by omega)) m_1196 rfl (by decide) hl.1 [] (Nat.le_of_ble_eq_true rfl) rfl dX8_cellsOn_2 (fun r w1 hq H locs h => ?_)
  obtain ⟨rfl, _, rfl, ⟨rfl, b1⟩ | ⟨rfl, b1⟩⟩ := hq
  · show W p l e r_c_X8_cellsOn_e_y s m args below meth c _ _ 0 0 Qf (F0 m 5 ls [.int (iI 1)])
    refine x_if_eq B (by omega) (tgt := 33) dX8_cellsOn_5 (by decide) (fun c2 => ?_) (fun c2 => ?_)
    · exact absurd c2 (by omega)
    · refine lv_iload_n B.1 B.2.1 dX8_cellsOn_8 rfl (lv_at hl 1 rfl) ?_
      refine lv_aload_n B.1 B.2.1 dX8_cellsOn_9 rfl (lv_at hl 0 rfl) ?_
      refine y_getX B h kX8 18 ((hv0 (18) (by omega)).trans ((CW.f hC 18 _ rfl))) 2 (z := (T 0 15)) rfl m_264 (by decide) dX8_cellsOn_10 ?_
      refine x_isub B dX8_cellsOn_13 ?_
      refine x_bipush B (by decide) dX8_cellsOn_14 ?_
      refine x_icmp_ge B (by omega) (tgt := 33) dX8_cellsOn_16 (by decide) (fun c3 => ?_) (fun c3 => ?_)
      · refine lv_lconst (v := 0) B.1 B.2.1 dX8_cellsOn_33 (by decide) ?_
        refine y_rl B hQ h (by decide) dX8_cellsOn_34 ?_
        exfalso
        omega
      · refine lv_aload_n B.1 B.2.1 dX8_cellsOn_19 rfl (lv_at hl 0 rfl) ?_
        refine y_getR B h kX8 18 ((hv0 (18) (by omega)).trans ((CW.f hC 18 _ rfl))) 0 (b := ad 19) rfl m_262 (by decide) dX8_cellsOn_20 ?_
        refine lv_iload_n B.1 B.2.1 dX8_cellsOn_23 rfl (lv_at hl 1 rfl) ?_
        refine lv_aload_n B.1 B.2.1 dX8_cellsOn_24 rfl (lv_at hl 0 rfl) ?_
        refine y_getX B h kX8 18 ((hv0 (18) (by omega)).trans ((CW.f hC 18 _ rfl))) 2 (z := (T 0 15)) rfl m_264 (by decide) dX8_cellsOn_25 ?_
        refine x_isub B dX8_cellsOn_28 ?_
        refine y_lald B h icl fc9 (by omega) dX8_cellsOn_29 (fun fy4 hfy4 => ?_)
        refine lv_goto (tgt := 34) B.1 B.2.1 dX8_cellsOn_30 (by decide) ?_
        refine y_rl B hQ h (by decide) dX8_cellsOn_34 ?_
        exact ⟨rfl, _, rfl, _, hfy4, rfl⟩
  · show W p l e r_c_X8_cellsOn_e_y s m args below meth c _ _ 0 0 Qf (F0 m 5 ls [.int (iI 0)])
    refine x_if_eq B (by omega) (tgt := 33) dX8_cellsOn_5 (by decide) (fun c5 => ?_) (fun c5 => ?_)
    · refine lv_lconst (v := 0) B.1 B.2.1 dX8_cellsOn_33 (by decide) ?_
      refine y_rl B hQ h (by decide) dX8_cellsOn_34 ?_
      exfalso
      omega
    · exact absurd c5 (by omega)
abbrev r_c_X11_storm_e : Room := { frames := 6, cells := 0, slots := 0, locals := 137 }
set_option maxHeartbeats 4000000 in
set_option maxRecDepth 100000 in
theorem c_X11_storm_e (l : Launch) (D : va_G) (Zk : yK) (ca : Nat → ClassId) (T : Nat → Int → Int) (G : Nat → Int → Nat) (u : Int) (ad : Nat → Nat) (w : yW) (hC : CW ca T G u ad w) (fr : Int) (to : Int) (rd : Int) (li : Int)  (hfr : xr fr) (hto : xr to) (hrd : xr rd) (hli : xr li) : yC l D Zk ca yX11_storm cX11_storm 5 (some .int) r_c_X11_storm_e [.ref (ad 0), .int (iI fr), .int (iI to), .int (iI rd), .int (iI li)] w (fun r w1 => ∃ z : Int, r = some (.int (iI z)) ∧ ((((0 ≤ fr ∧ fr ≤ 999) ∧ (0 ≤ to ∧ to ≤ 999) ∧ fr ≤ to ∧ to - fr ≤ 59 ∧ (0 ≤ rd ∧ rd ≤ 7) ∧ 0 ≤ li ∧ li ≤ 12) ∧ STA (tStorm T fr to rd li) z ∧ CW ca (tStorm T fr to rd li) G u ad w1 ∧ AGX w w1) ∨ (¬ ((0 ≤ fr ∧ fr ≤ 999) ∧ (0 ≤ to ∧ to ≤ 999) ∧ fr ≤ to ∧ to - fr ≤ 59 ∧ (0 ≤ rd ∧ rd ≤ 7) ∧ 0 ≤ li ∧ li ≤ 12) ∧ z = -1 ∧ w1 = w))) := by
  refine yC.of2 "WindWords" (by decide) rfl (Nat.le_of_ble_eq_true rfl) ?_
  intro p e s m args below meth c A ls Qf B hnm h hl hQ
  have hl : lv_has ls 5 [(0, .ref (ad 0)), (1, .int (iI fr)), (2, .int (iI to)), (3, .int (iI rd)), (4, .int (iI li))] := hl
  have hs := pi_s (CW.pi hC)
  refine lv_iload_n B.1 B.2.1 dX11_storm_0 rfl (lv_at hl 1 rfl) ?_
  refine x_sipush B (by decide) dX11_storm_1 ?_
  refine y_cS B h k_X11_within (c_X11_within l D Zk ca _ fr 999  (by omega) (by omega)) m_431 rfl (by decide) hl.1 [] (Nat.le_of_ble_eq_true rfl) rfl dX11_storm_4 (fun r w1 hq H locs h => ?_)
  obtain ⟨rfl, _, rfl, ⟨rfl, b1⟩ | ⟨rfl, b1⟩⟩ := hq
  · show W p l e r_c_X11_storm_e s m args below meth c _ _ 0 0 Qf (F0 m 7 ls [.int (iI 1)])
    refine x_if_eq B (by omega) (tgt := 52) dX11_storm_7 (by decide) (fun c2 => ?_) (fun c2 => ?_)
    · exact absurd c2 (by omega)
    · refine lv_iload_n B.1 B.2.1 dX11_storm_10 rfl (lv_at hl 2 rfl) ?_
      refine x_sipush B (by decide) dX11_storm_11 ?_
      refine y_cS B h k_X11_within (c_X11_within l D Zk ca _ to 999  (by omega) (by omega)) m_431 rfl (by decide) hl.1 [] (Nat.le_of_ble_eq_true rfl) rfl dX11_storm_14 (fun r w1 hq H locs h => ?_)
      obtain ⟨rfl, _, rfl, ⟨rfl, b3⟩ | ⟨rfl, b3⟩⟩ := hq
      · show W p l e r_c_X11_storm_e s m args below meth c _ _ 0 0 Qf (F0 m 17 ls [.int (iI 1)])
        refine x_if_eq B (by omega) (tgt := 52) dX11_storm_17 (by decide) (fun c4 => ?_) (fun c4 => ?_)
        · exact absurd c4 (by omega)
        · refine lv_iload_n B.1 B.2.1 dX11_storm_20 rfl (lv_at hl 2 rfl) ?_
          refine lv_iload_n B.1 B.2.1 dX11_storm_21 rfl (lv_at hl 1 rfl) ?_
          refine x_icmp_lt B (by omega) (tgt := 52) dX11_storm_22 (by decide) (fun c5 => ?_) (fun c5 => ?_)
          · refine x_iconst B dX11_storm_52 ?_
            refine y_ri B hQ h (by decide) dX11_storm_53 ?_
            exact ⟨_, rfl, Or.inr ⟨by omega, by omega, rfl⟩⟩
          · refine lv_iload_n B.1 B.2.1 dX11_storm_25 rfl (lv_at hl 2 rfl) ?_
            refine lv_iload_n B.1 B.2.1 dX11_storm_26 rfl (lv_at hl 1 rfl) ?_
            refine x_isub B dX11_storm_27 ?_
            refine x_bipush B (by decide) dX11_storm_28 ?_
            refine x_icmp_ge B (by omega) (tgt := 52) dX11_storm_30 (by decide) (fun c6 => ?_) (fun c6 => ?_)
            · refine x_iconst B dX11_storm_52 ?_
              refine y_ri B hQ h (by decide) dX11_storm_53 ?_
              exact ⟨_, rfl, Or.inr ⟨by omega, by omega, rfl⟩⟩
            · refine lv_iload_n B.1 B.2.1 dX11_storm_33 rfl (lv_at hl 3 rfl) ?_
              refine x_bipush B (by decide) dX11_storm_34 ?_
              refine y_cS B h k_X11_within (c_X11_within l D Zk ca _ rd 7  (by omega) (by omega)) m_431 rfl (by decide) hl.1 [] (Nat.le_of_ble_eq_true rfl) rfl dX11_storm_36 (fun r w1 hq H locs h => ?_)
              obtain ⟨rfl, _, rfl, ⟨rfl, b7⟩ | ⟨rfl, b7⟩⟩ := hq
              · show W p l e r_c_X11_storm_e s m args below meth c _ _ 0 0 Qf (F0 m 39 ls [.int (iI 1)])
                refine x_if_eq B (by omega) (tgt := 52) dX11_storm_39 (by decide) (fun c8 => ?_) (fun c8 => ?_)
                · exact absurd c8 (by omega)
                · refine lv_iload B.1 B.2.1 dX11_storm_42 (lv_at hl 4 rfl) ?_
                  refine x_bipush B (by decide) dX11_storm_44 ?_
                  refine y_cS B h k_X11_within (c_X11_within l D Zk ca _ li 12  (by omega) (by omega)) m_431 rfl (by decide) hl.1 [] (Nat.le_of_ble_eq_true rfl) rfl dX11_storm_46 (fun r w1 hq H locs h => ?_)
                  obtain ⟨rfl, _, rfl, ⟨rfl, b9⟩ | ⟨rfl, b9⟩⟩ := hq
                  · show W p l e r_c_X11_storm_e s m args below meth c _ _ 0 0 Qf (F0 m 49 ls [.int (iI 1)])
                    refine x_if_ne B (by omega) (tgt := 54) dX11_storm_49 (by decide) (fun c10 => ?_) (fun c10 => ?_)
                    · refine lv_aload_n B.1 B.2.1 dX11_storm_54 rfl (lv_at hl 0 rfl) ?_
                      refine y_getR B h kX11 0 (CW.f hC 0 _ rfl) 4 (b := ad 18) rfl m_365 (by decide) dX11_storm_55 ?_
                      refine lv_iload_n B.1 B.2.1 dX11_storm_58 rfl (lv_at hl 1 rfl) ?_
                      refine lv_iload_n B.1 B.2.1 dX11_storm_59 rfl (lv_at hl 2 rfl) ?_
                      refine lv_iload_n B.1 B.2.1 dX11_storm_60 rfl (lv_at hl 3 rfl) ?_
                      refine lv_iload B.1 B.2.1 dX11_storm_61 (lv_at hl 4 rfl) ?_
                      refine y_cV B h kX8 18 (CW.f hC 18 _ rfl) k_X8_tell rfl (c_X8_tell l D Zk ca T G u ad _ hC fr to rd li  (by omega) (by omega) (by omega) (by omega)) m_1168 rfl (by decide) hl.1 [] (Nat.le_of_ble_eq_true rfl) rfl dX11_storm_63 (fun r w1 hq H locs h => ?_)
                      obtain ⟨rfl, rfl, hr11⟩ := hq
                      have h : yH D Zk A s ((wu w 18 (ad 18, xO 8 [fR (ad 19), fX 1, fX fr, fX to, fX rd, fX li]))) _ _ := h
                      obtain ⟨w2, T2, eT2, hC2, hag2, h⟩ : ∃ (w2 : yW) (T2 : Nat → Int → Int), T2 = tStorm T fr to rd li ∧ CW ca T2 G u ad w2 ∧ AGX w w2 ∧ yH D Zk A s w2 H locs := ⟨_, _, rfl, cw_storm hC (by omega), fun k h1 h2 => by rw [wu_ne (by omega)], h⟩
                      have hs2 := pi_s (CW.pi hC2)
                      have t14 : T2 0 14 = 1 := by rw [eT2]; rfl
                      have t15 : T2 0 15 = fr := by rw [eT2]; rfl
                      have t11 : T2 0 11 = to := by rw [eT2]; rfl
                      have t10 : T2 0 10 = fr := by rw [eT2]; rfl
                      show W p l e r_c_X11_storm_e s m args below meth c _ _ 0 0 Qf (F0 m 66 ls [])
                      refine lv_aload_n B.1 B.2.1 dX11_storm_66 rfl (lv_at hl 0 rfl) ?_
                      refine y_getR B h kX11 0 (CW.f hC2 0 _ rfl) 4 (b := ad 18) rfl m_365 (by decide) dX11_storm_67 ?_
                      refine lv_aload_n B.1 B.2.1 dX11_storm_70 rfl (lv_at hl 0 rfl) ?_
                      refine y_getR B h kX11 0 (CW.f hC2 0 _ rfl) 0 (b := ad 1) rfl m_361 (by decide) dX11_storm_71 ?_
                      refine y_cV B h kX8 18 (CW.f hC2 18 _ rfl) k_X8_follow rfl (c_X8_follow_e l D Zk ca T2 G u ad _ hC2   (by omega)) m_1172 rfl (by decide) hl.1 [] (Nat.le_of_ble_eq_true rfl) rfl dX11_storm_74 (fun r w1 hq H locs h => ?_)
                      obtain ⟨rfl, pl2_12, rfl, hr13⟩ := hq
                      have h : yH D Zk A s ((wu w2 19 (ad 19, xAL (ca 1) 60 pl2_12))) _ _ := h
                      show W p l e r_c_X11_storm_e s m args below meth c _ _ 0 0 Qf (F0 m 77 ls [])
                      refine lv_aload_n B.1 B.2.1 dX11_storm_77 rfl (lv_at hl 0 rfl) ?_
                      refine y_getR B h kX11 0 (wu_at (CW.f hC2 0 _ rfl) (by decide)) 4 (b := ad 18) rfl m_365 (by decide) dX11_storm_78 ?_
                      refine lv_iload_n B.1 B.2.1 dX11_storm_81 rfl (lv_at hl 1 rfl) ?_
                      refine y_cV B h kX8 18 (wu_at (CW.f hC2 18 _ rfl) (by decide)) k_X8_cellsOn rfl (c_X8_cellsOn_e_y l D Zk ca T2 G u ad _ _ hC2 (fun k hk => by rw [wu_ne (by omega)]) pl2_12 19 fr wu_eq (by omega) (by omega)) m_1192 rfl (by decide) hl.1 [] (Nat.le_of_ble_eq_true rfl) rfl dX11_storm_82 (fun r w1 hq H locs h => ?_)
                      obtain ⟨rfl, yc, rfl, hyc⟩ := hq
                      show W p l e r_c_X11_storm_e s m args below meth c _ _ 0 0 Qf (F0 m 85 ls [.long (yc)])
                      have h : yH D Zk A s w2 _ _ := yH.unpin h (CW.f hC2 19 _ rfl) (xAL_any)
                      refine lv_lconst (v := 0) B.1 B.2.1 dX11_storm_85 (by decide) ?_
                      refine W.lcmp B.1 B.2.1 dX11_storm_86 ?_
                      refine x_name (fun z15 hz15 ez15 => ?_)
                      refine x_if_ne B (by omega) (tgt := 94) dX11_storm_87 (by decide) (fun c16 => ?_) (fun c16 => ?_)
                      · refine x_iconst B dX11_storm_94 ?_
                        refine y_ri B hQ h (by decide) dX11_storm_95 ?_
                        exact ⟨_, rfl, Or.inl ⟨by omega, by rw [← eT2]; exact Or.inl ⟨rfl, sta_1 hr13 (by omega) hyc (by omega) (fun q9 => absurd (lc_z hz15 ez15 q9) (by omega))⟩, by rw [← eT2]; exact hC2, hag2⟩⟩
                      · refine x_iconst B dX11_storm_90 ?_
                        refine lv_goto (tgt := 95) B.1 B.2.1 dX11_storm_91 (by decide) ?_
                        refine y_ri B hQ h (by decide) dX11_storm_95 ?_
                        exact ⟨_, rfl, Or.inl ⟨by omega, by rw [← eT2]; exact Or.inr ⟨rfl, sta_0 hr13 (by omega) hyc (by omega) (lc_eq ez15 (by omega))⟩, by rw [← eT2]; exact hC2, hag2⟩⟩
                    · exact absurd c10 (by omega)
                  · show W p l e r_c_X11_storm_e s m args below meth c _ _ 0 0 Qf (F0 m 49 ls [.int (iI 0)])
                    refine x_if_ne B (by omega) (tgt := 54) dX11_storm_49 (by decide) (fun c17 => ?_) (fun c17 => ?_)
                    · exact absurd c17 (by omega)
                    · refine x_iconst B dX11_storm_52 ?_
                      refine y_ri B hQ h (by decide) dX11_storm_53 ?_
                      exact ⟨_, rfl, Or.inr ⟨by omega, by omega, rfl⟩⟩
              · show W p l e r_c_X11_storm_e s m args below meth c _ _ 0 0 Qf (F0 m 39 ls [.int (iI 0)])
                refine x_if_eq B (by omega) (tgt := 52) dX11_storm_39 (by decide) (fun c18 => ?_) (fun c18 => ?_)
                · refine x_iconst B dX11_storm_52 ?_
                  refine y_ri B hQ h (by decide) dX11_storm_53 ?_
                  exact ⟨_, rfl, Or.inr ⟨by omega, by omega, rfl⟩⟩
                · exact absurd c18 (by omega)
      · show W p l e r_c_X11_storm_e s m args below meth c _ _ 0 0 Qf (F0 m 17 ls [.int (iI 0)])
        refine x_if_eq B (by omega) (tgt := 52) dX11_storm_17 (by decide) (fun c19 => ?_) (fun c19 => ?_)
        · refine x_iconst B dX11_storm_52 ?_
          refine y_ri B hQ h (by decide) dX11_storm_53 ?_
          exact ⟨_, rfl, Or.inr ⟨by omega, by omega, rfl⟩⟩
        · exact absurd c19 (by omega)
  · show W p l e r_c_X11_storm_e s m args below meth c _ _ 0 0 Qf (F0 m 7 ls [.int (iI 0)])
    refine x_if_eq B (by omega) (tgt := 52) dX11_storm_7 (by decide) (fun c20 => ?_) (fun c20 => ?_)
    · refine x_iconst B dX11_storm_52 ?_
      refine y_ri B hQ h (by decide) dX11_storm_53 ?_
      exact ⟨_, rfl, Or.inr ⟨by omega, by omega, rfl⟩⟩
    · exact absurd c20 (by omega)
