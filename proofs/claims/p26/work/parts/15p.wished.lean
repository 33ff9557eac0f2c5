/-! ===== readings that paid: bits ===== -/
def usr (x k : Int) : Int := ((iI x).toUInt32 >>> ((iI k).toUInt32 &&& Int32.toUInt32 31)).toInt32.toInt
def andi (x k : Int) : Int := (iI x &&& iI k).toInt
def shri (x k : Int) : Int := (iI x >>> (iI k &&& 31)).toInt
def bn (t : Int) (k : Nat) : Int := ((t.toNat / 2 ^ k % 2 : Nat) : Int)
def pcn (t : Int) : Nat → Int
  | 0 => 0
  | n + 1 => pcn t n + bn t n
def jb1 (v : Int) : Int := v - andi (usr v 1) 1431655765
def jb2 (v : Int) : Int := andi (jb1 v) 858993459 + andi (usr (jb1 v) 2) 858993459
def jb3 (v : Int) : Int := andi (jb2 v + usr (jb2 v) 4) 252645135
def jb4 (v : Int) : Int := jb3 v + usr (jb3 v) 8
def jb5 (v : Int) : Int := jb4 v + usr (jb4 v) 16
def jbc (v : Int) : Int := andi (jb5 v) 63
set_option maxRecDepth 1000000 in
set_option maxHeartbeats 16000000 in
theorem jbc_all : ∀ v : Nat, v < 4096 → jbc (v : Int) = pcn (v : Int) 12 := by decide +kernel
theorem jbc_ok {v : Int} (h : 0 ≤ v ∧ v < 4096) : jbc v = pcn v 12 := by
  have a := jbc_all v.toNat (by omega)
  rw [Int.toNat_of_nonneg h.1] at a; exact a
theorem sm12 : ∀ k : Nat, k < 16 → (iI (k : Int) &&& 31).toBitVec.smod 32 = BitVec.ofNat 32 k := by decide
theorem bit1 (x : BitVec 32) (n : Nat) (hn : n < 16) : (x.sshiftRight' (BitVec.ofNat 32 n)) &&& (BitVec.ofNat 32 1) = if x.getLsbD n = true then BitVec.ofNat 32 1 else BitVec.ofNat 32 0 := by
  have e : (BitVec.ofNat 32 n).toNat = n := by rw [BitVec.toNat_ofNat]; omega
  have o : ∀ i : Nat, i < 32 → (BitVec.ofNat 32 1).getLsbD i = decide (i = 0) := by decide
  have z : ∀ i : Nat, i < 32 → (BitVec.ofNat 32 0).getLsbD i = false := by decide
  show (x.sshiftRight (BitVec.ofNat 32 n).toNat) &&& _ = _
  rw [e]
  apply BitVec.eq_of_getLsbD_eq
  intro i hi
  rw [BitVec.getLsbD_and, BitVec.getLsbD_sshiftRight, o i hi]
  by_cases q : i = 0
  · subst q
    rw [if_pos (show n + 0 < 32 by omega), Nat.add_zero]
    by_cases r : x.getLsbD n = true
    · rw [if_pos r, r, o 0 (by omega)]; rfl
    · rw [if_neg r, z 0 (by omega), Bool.eq_false_iff.mpr r]; rfl
  · rw [decide_eq_false q, Bool.and_false]
    split
    · rw [o i hi, decide_eq_false q]
    · rw [z i hi]
theorem bit_e {t k : Int} (h : (0 ≤ t ∧ t < 4096) ∧ 0 ≤ k ∧ k < 12) : iI (shri t k) &&& iI 1 = iI (bn t k.toNat) := by
  obtain ⟨n, rfl⟩ : ∃ n : Nat, t = (n : Int) := ⟨t.toNat, by omega⟩
  obtain ⟨j, rfl⟩ : ∃ j : Nat, k = (j : Int) := ⟨k.toNat, by omega⟩
  have e : iI (shri (n : Int) (j : Int)) = iI (n : Int) >>> (iI (j : Int) &&& 31) := (iI_of _).symm
  have f : (iI (n : Int)).toBitVec = BitVec.ofNat 32 n := by
    show (Int32.ofInt _).toBitVec = _
    rw [Int32.toBitVec_ofInt, BitVec.ofInt_natCast]
  have g := bit1 (BitVec.ofNat 32 n) j (by omega)
  have g1 : (iI 1).toBitVec = BitVec.ofNat 32 1 := by decide
  rw [e]
  apply Int32.toBitVec_inj.mp
  rw [Int32.toBitVec_and, Int32.toBitVec_shiftRight, sm12 j (by omega), f, g1, g, BitVec.getLsbD_ofNat, Nat.testBit_eq_decide_div_mod_eq]
  have m : bn (n : Int) ((j : Int)).toNat = ((n / 2 ^ j % 2 : Nat) : Int) := rfl
  rw [m]
  have r : n / 2 ^ j % 2 = 0 ∨ n / 2 ^ j % 2 = 1 := by omega
  rcases r with r | r
  · rw [r, if_neg (by simp)]; decide
  · rw [r, if_pos (by simp; omega)]; decide
theorem bn_r (t : Int) (k : Nat) : bn t k = 0 ∨ bn t k = 1 := by
  unfold bn
  omega
theorem pcn_r (t : Int) : ∀ n : Nat, 0 ≤ pcn t n ∧ pcn t n ≤ n
  | 0 => by show (0 : Int) ≤ 0 ∧ (0 : Int) ≤ 0; omega
  | n + 1 => by
    have a := pcn_r t n
    have b := bn_r t n
    show 0 ≤ pcn t n + bn t n ∧ pcn t n + bn t n ≤ ((n + 1 : Nat) : Int)
    omega
def P2 (n : Int) : Int := ((2 ^ n.toNat : Nat) : Int)
theorem P2_s {n : Int} (h : 0 ≤ n) : P2 (n + 1) = 2 * P2 n := by
  unfold P2
  rw [show (n + 1).toNat = n.toNat + 1 by omega, Nat.pow_succ]
  omega
theorem P2_all : ∀ n : Nat, n < 13 → (1 ≤ P2 (n : Int) ∧ P2 (n : Int) ≤ 4096) ∧ iI 1 <<< (iI (n : Int) &&& 31) = iI (P2 (n : Int)) := by decide +kernel
theorem P2_r {n : Int} (h : 0 ≤ n ∧ n ≤ 12) : 1 ≤ P2 n ∧ P2 n ≤ 4096 := by
  have a := P2_all n.toNat (by omega)
  rw [Int.toNat_of_nonneg h.1] at a; exact a.1
theorem shl_e {n : Int} (h : 0 ≤ n ∧ n ≤ 12) : iI 1 <<< (iI n &&& 31) = iI (P2 n) := by
  have a := P2_all n.toNat (by omega)
  rw [Int.toNat_of_nonneg h.1] at a; exact a.2
theorem P2_h {n : Int} (h : 0 ≤ n ∧ n < 12) : P2 n ≤ 2048 := by
  have a := P2_r (n := n + 1) (by omega)
  have b := P2_s (n := n) (by omega)
  omega
set_option maxRecDepth 1000000 in
set_option maxHeartbeats 16000000 in
theorem or_all : ∀ n : Nat, n < 12 → ∀ t : Nat, t < 2 ^ n → iI (t : Int) ||| iI (P2 (n : Int)) = iI ((t : Int) + P2 (n : Int)) := by decide +kernel
theorem or_e {t n : Int} (hn : 0 ≤ n ∧ n < 12) (ht : 0 ≤ t ∧ t < P2 n) : iI t ||| iI (P2 n) = iI (t + P2 n) := by
  have a := or_all n.toNat (by omega) t.toNat (by unfold P2 at ht; omega)
  rw [Int.toNat_of_nonneg hn.1, Int.toNat_of_nonneg ht.1] at a; exact a
theorem or_0 {t : Int} : iI t ||| iI 0 = iI t := by
  show iI t ||| (0 : Int32) = iI t
  simp
set_option maxRecDepth 1000000 in
set_option maxHeartbeats 16000000 in
theorem bna_all : ∀ n : Nat, n < 12 → ∀ t : Nat, t < 2 ^ n → ∀ j : Nat, j < 12 → bn ((t : Int) + P2 (n : Int)) j = (if j = n then 1 else bn (t : Int) j) ∧ (n ≤ j → bn (t : Int) j = 0) := by decide +kernel
theorem bna {t n : Int} (hn : 0 ≤ n ∧ n < 12) (ht : 0 ≤ t ∧ t < P2 n) (j : Nat) (hj : j < 12) : bn (t + P2 n) j = (if j = n.toNat then 1 else bn t j) ∧ (n ≤ (j : Int) → bn t j = 0) := by
  have a := bna_all n.toNat (by omega) t.toNat (by unfold P2 at ht; omega) j hj
  rw [Int.toNat_of_nonneg hn.1, Int.toNat_of_nonneg ht.1] at a; exact ⟨a.1, fun q => a.2 (by omega)⟩
/-! sums over what was gathered -/
def S0 (g : Nat → Int) : Nat → Int
  | 0 => 0
  | n + 1 => S0 g n + g n
def S1 (g : Nat → Int) (t : Int) : Nat → Int
  | 0 => 0
  | n + 1 => S1 g t n + (if bn t n = 1 then g n else 0)
theorem S0_congr {g h : Nat → Int} : ∀ n : Nat, (∀ j : Nat, j < n → g j = h j) → S0 g n = S0 h n
  | 0, _ => rfl
  | n + 1, q => by
    show S0 g n + g n = S0 h n + h n
    rw [S0_congr n (fun j hj => q j (by omega)), q n (by omega)]
theorem S1_congr {g h : Nat → Int} {t u : Int} : ∀ n : Nat, (∀ j : Nat, j < n → g j = h j) → (∀ j : Nat, j < n → bn t j = bn u j) → S1 g t n = S1 h u n
  | 0, _, _ => rfl
  | n + 1, q, r => by
    show S1 g t n + (if bn t n = 1 then g n else 0) = S1 h u n + (if bn u n = 1 then h n else 0)
    rw [S1_congr n (fun j hj => q j (by omega)) (fun j hj => r j (by omega)), q n (by omega), r n (by omega)]
theorem S_r {g : Nat → Int} {t : Int} : ∀ n : Nat, (∀ j : Nat, j < n → -12 ≤ g j ∧ g j ≤ 12) → (-12 * (n : Int) ≤ S0 g n ∧ S0 g n ≤ 12 * (n : Int)) ∧ (-12 * (n : Int) ≤ S1 g t n ∧ S1 g t n ≤ 12 * (n : Int)) ∧ (-12 * (n : Int) ≤ S0 g n - S1 g t n ∧ S0 g n - S1 g t n ≤ 12 * (n : Int))
  | 0, _ => by show (-12 * 0 ≤ (0 : Int) ∧ (0 : Int) ≤ 12 * 0) ∧ (-12 * 0 ≤ (0 : Int) ∧ (0 : Int) ≤ 12 * 0) ∧ (-12 * 0 ≤ (0 : Int) - 0 ∧ (0 : Int) - 0 ≤ 12 * 0); omega
  | n + 1, q => by
    have a := S_r (g := g) (t := t) n (fun j hj => q j (by omega))
    have b := q n (by omega)
    have c : S0 g (n + 1) = S0 g n + g n := rfl
    have d : S1 g t (n + 1) = S1 g t n + (if bn t n = 1 then g n else 0) := rfl
    rw [c, d]
    split <;> omega
theorem S_next {g : Nat → Int} {k : Int} (hk : 0 ≤ k) : S0 g (k + 1).toNat = S0 g k.toNat + g k.toNat := by
  rw [show (k + 1).toNat = k.toNat + 1 by omega]; rfl
theorem S1_next {g : Nat → Int} {t k : Int} (hk : 0 ≤ k) : S1 g t (k + 1).toNat = S1 g t k.toNat + (if bn t k.toNat = 1 then g k.toNat else 0) := by
  rw [show (k + 1).toNat = k.toNat + 1 by omega]; rfl
theorem pcn_next {t k : Int} (hk : 0 ≤ k) : pcn t (k + 1).toNat = pcn t k.toNat + bn t k.toNat := by
  rw [show (k + 1).toNat = k.toNat + 1 by omega]; rfl
theorem mul12 {a b : Int} (ha : -144 ≤ a ∧ a ≤ 144) (hb : -12 ≤ b ∧ b ≤ 12) : -1728 ≤ a * b ∧ a * b ≤ 1728 := by
  have h : b = -12 ∨ b = -11 ∨ b = -10 ∨ b = -9 ∨ b = -8 ∨ b = -7 ∨ b = -6 ∨ b = -5 ∨ b = -4 ∨ b = -3 ∨ b = -2 ∨ b = -1 ∨ b = 0 ∨ b = 1 ∨ b = 2 ∨ b = 3 ∨ b = 4 ∨ b = 5 ∨ b = 6 ∨ b = 7 ∨ b = 8 ∨ b = 9 ∨ b = 10 ∨ b = 11 ∨ b = 12 := by omega
  rcases h with rfl | rfl | rfl | rfl | rfl | rfl | rfl | rfl | rfl | rfl | rfl | rfl | rfl | rfl | rfl | rfl | rfl | rfl | rfl | rfl | rfl | rfl | rfl | rfl | rfl <;> omega
def LEAD (g : Nat → Int) (t n : Int) : Int := S1 g t n.toNat * (n - pcn t 12) - (S0 g n.toNat - S1 g t n.toNat) * pcn t 12
theorem LEAD_congr {g h : Nat → Int} {t n : Int} (q : ∀ j : Nat, (j : Int) < n → g j = h j) (hn : 0 ≤ n) : LEAD g t n = LEAD h t n := by
  unfold LEAD
  rw [S0_congr (g := g) (h := h) n.toNat (fun j hj => q j (by omega)), S1_congr (g := g) (h := h) (t := t) (u := t) n.toNat (fun j hj => q j (by omega)) (fun _ _ => rfl)]
/-! what is gathered -/
def BES (T : Nat → Int → Int) (k j : Int) : Prop := (0 ≤ j ∧ j < T 0 2) ∧ SEE T k j ∧ T 7 j ≠ 3 ∧ ∀ i : Int, 0 ≤ i ∧ i < T 0 2 → SEE T k i → T 7 i ≠ 3 → j ≤ i
theorem BES_un {T : Nat → Int → Int} {k i j : Int} (h : BES T k i) (h2 : BES T k j) : i = j := by
  have a := h.2.2.2 j h2.1 h2.2.1 h2.2.2.1
  have b := h2.2.2.2 i h.1 h.2.1 h.2.2.1
  omega
noncomputable def bes (T : Nat → Int → Int) (k : Int) : Int := @dite Int (∃ j : Int, BES T k j) (Classical.propDecidable _) (fun h => Classical.choose h) (fun _ => -1)
theorem bes_y {T : Nat → Int → Int} {k j : Int} (h : BES T k j) : bes T k = j := by
  unfold bes
  rw [dif_pos ⟨j, h⟩]
  exact BES_un (Classical.choose_spec (⟨j, h⟩ : ∃ j : Int, BES T k j)) h
theorem bes_n {T : Nat → Int → Int} {k : Int} (h : ∀ j : Int, 0 ≤ j ∧ j < T 0 2 → ¬ (SEE T k j ∧ T 7 j ≠ 3)) : bes T k = -1 := by
  unfold bes
  rw [dif_neg (fun ⟨j, hj⟩ => h j hj.1 ⟨hj.2.1, hj.2.2.1⟩)]
theorem bes_b {T : Nat → Int → Int} {k : Int} (h : 0 ≤ bes T k) : BES T k (bes T k) := by
  by_cases q : ∃ j : Int, BES T k j
  · obtain ⟨j, hj⟩ := q
    rw [bes_y hj]; exact hj
  · unfold bes at h
    rw [dif_neg q] at h
    omega
def QWS (T : Nat → Int → Int) (o k : Int) : Prop := T 7 k ≠ 3 ∧ T 3 (1000 * T 4 k + T 5 k) = o ∧ 0 ≤ bes T k
noncomputable def wsn (T : Nat → Int → Int) (o : Int) : Nat → Int
  | 0 => 0
  | k + 1 => @ite Int (QWS T o (k : Int) ∧ wsn T o k < 12) (Classical.propDecidable _) (wsn T o k + 1) (wsn T o k)
noncomputable def wsa (T : Nat → Int → Int) (o : Int) : Nat → Nat → Int
  | 0 => fun _ => 0
  | k + 1 => @ite (Nat → Int) (QWS T o (k : Int) ∧ wsn T o k < 12) (Classical.propDecidable _) (iu (wsa T o k) (wsn T o k) (T 8 (k : Int) - T 8 (bes T (k : Int)))) (wsa T o k)
noncomputable def wsl (T : Nat → Int → Int) (o : Int) : Nat → Int
  | 0 => 0
  | k + 1 => @ite Int (QWS T o (k : Int) ∧ wsn T o k < 12) (Classical.propDecidable _) (wsl T o k + (if 0 < T 10 (k : Int) then P2 (wsn T o k) else 0)) (wsl T o k)
theorem ws_y {T : Nat → Int → Int} {o k : Int} (hk : 0 ≤ k) (hq : QWS T o k) (h12 : wsn T o k.toNat < 12) : wsn T o (k + 1).toNat = wsn T o k.toNat + 1 ∧ wsa T o (k + 1).toNat = iu (wsa T o k.toNat) (wsn T o k.toNat) (T 8 k - T 8 (bes T k)) ∧ wsl T o (k + 1).toNat = wsl T o k.toNat + (if 0 < T 10 k then P2 (wsn T o k.toNat) else 0) := by
  have e : ((k.toNat : Nat) : Int) = k := Int.toNat_of_nonneg hk
  rw [show (k + 1).toNat = k.toNat + 1 by omega]
  have c : QWS T o ((k.toNat : Nat) : Int) ∧ wsn T o k.toNat < 12 := by rw [e]; exact ⟨hq, h12⟩
  refine ⟨?_, ?_, ?_⟩
  · show @ite Int _ (Classical.propDecidable _) _ _ = _
    rw [if_pos c]
  · show @ite (Nat → Int) _ (Classical.propDecidable _) _ _ = _
    rw [if_pos c, e]
  · show @ite Int _ (Classical.propDecidable _) _ _ = _
    rw [if_pos c, e]
theorem ws_n {T : Nat → Int → Int} {o k : Int} (hk : 0 ≤ k) (hq : ¬ (QWS T o k ∧ wsn T o k.toNat < 12)) : wsn T o (k + 1).toNat = wsn T o k.toNat ∧ wsa T o (k + 1).toNat = wsa T o k.toNat ∧ wsl T o (k + 1).toNat = wsl T o k.toNat := by
  have e : ((k.toNat : Nat) : Int) = k := Int.toNat_of_nonneg hk
  rw [show (k + 1).toNat = k.toNat + 1 by omega]
  have c : ¬ (QWS T o ((k.toNat : Nat) : Int) ∧ wsn T o k.toNat < 12) := by rw [e]; exact hq
  refine ⟨?_, ?_, ?_⟩
  · show @ite Int _ (Classical.propDecidable _) _ _ = _
    rw [if_neg c]
  · show @ite (Nat → Int) _ (Classical.propDecidable _) _ _ = _
    rw [if_neg c]
  · show @ite Int _ (Classical.propDecidable _) _ _ = _
    rw [if_neg c]
theorem ws_full {T : Nat → Int → Int} {o k : Int} (hk : 0 ≤ k) (h : 12 ≤ wsn T o k.toNat) : ∀ d : Nat, wsn T o (k + (d : Int)).toNat = wsn T o k.toNat ∧ wsa T o (k + (d : Int)).toNat = wsa T o k.toNat ∧ wsl T o (k + (d : Int)).toNat = wsl T o k.toNat
  | 0 => by rw [show k + ((0 : Nat) : Int) = k by omega]; exact ⟨rfl, rfl, rfl⟩
  | d + 1 => by
    obtain ⟨a, b, c⟩ := ws_full hk h d
    obtain ⟨x, y, z⟩ := ws_n (T := T) (o := o) (k := k + (d : Int)) (by omega) (fun q => by omega)
    rw [show k + ((d + 1 : Nat) : Int) = k + (d : Int) + 1 by omega]
    exact ⟨x.trans a, y.trans b, z.trans c⟩
theorem ws_end {T : Nat → Int → Int} {o k N : Int} (hk : 0 ≤ k ∧ k ≤ N) (h : k = N ∨ 12 ≤ wsn T o k.toNat) : wsn T o N.toNat = wsn T o k.toNat ∧ wsa T o N.toNat = wsa T o k.toNat ∧ wsl T o N.toNat = wsl T o k.toNat := by
  rcases h with rfl | h
  · exact ⟨rfl, rfl, rfl⟩
  · have a := ws_full hk.1 h (N - k).toNat
    rw [show k + (((N - k).toNat : Nat) : Int) = N by omega] at a; exact a
/-- ranges -/
theorem ws_r {T : Nat → Int → Int} {o : Int} (hp : PI T) : ∀ k : Nat, (0 ≤ wsn T o k ∧ wsn T o k ≤ 12) ∧ (0 ≤ wsl T o k ∧ wsl T o k < P2 (wsn T o k)) ∧ ∀ j : Nat, -12 ≤ wsa T o k j ∧ wsa T o k j ≤ 12
  | 0 => by
    refine ⟨by show 0 ≤ (0 : Int) ∧ (0 : Int) ≤ 12; omega, by show 0 ≤ (0 : Int) ∧ (0 : Int) < P2 0; decide, fun j => by show -12 ≤ (0 : Int) ∧ (0 : Int) ≤ 12; omega⟩
  | k + 1 => by
    obtain ⟨a, b, c⟩ := ws_r (o := o) hp k
    by_cases q : QWS T o (k : Int) ∧ wsn T o k < 12
    · obtain ⟨x, y, z⟩ := ws_y (T := T) (o := o) (k := (k : Int)) (by omega) q.1 q.2
      rw [Int.toNat_natCast, show ((k : Int) + 1).toNat = k + 1 by omega] at x y z
      rw [x, y, z]
      have p := P2_s (n := wsn T o k) a.1
      have d := bes_b q.1.2.2
      have n1 := pi_n hp (k : Int)
      have n2 := pi_n hp (bes T (k : Int))
      have e1 := pi_8 hp (k : Int)
      have e2 := pi_8 hp (bes T (k : Int))
      have q1 := q.1.1
      have q2 := d.2.2.1
      refine ⟨by omega, by split <;> omega, fun j => ?_⟩
      unfold iu
      split
      · omega
      · exact c j
    · obtain ⟨x, y, z⟩ := ws_n (T := T) (o := o) (k := (k : Int)) (by omega) q
      rw [Int.toNat_natCast, show ((k : Int) + 1).toNat = k + 1 by omega] at x y z
      rw [x, y, z]
      exact ⟨a, b, c⟩
/-- one more gathered: its bit, the sums -/
theorem ws_sum {g : Nat → Int} {t n d b : Int} (hn : 0 ≤ n ∧ n < 12) (ht : 0 ≤ t ∧ t < P2 n) (hb : (b = 1 ∧ True) ∨ b = 0) : S0 (iu g n d) (n + 1).toNat = S0 g n.toNat + d ∧ S1 (iu g n d) (t + (if b = 1 then P2 n else 0)) (n + 1).toNat = S1 g t n.toNat + (if b = 1 then d else 0) := by
  have e0 : ∀ j : Nat, j < n.toNat → iu g n d j = g j := fun j hj => iu_ne (by omega)
  have e1 : iu g n d n.toNat = d := iu_eq hn.1
  refine ⟨?_, ?_⟩
  · rw [S_next hn.1, S0_congr n.toNat e0, e1]
  · rw [S1_next hn.1, e1]
    by_cases q : b = 1
    · rw [if_pos q, if_pos q]
      have f := bna hn ht n.toNat (by omega)
      rw [f.1, if_pos rfl, if_pos rfl, S1_congr (u := t) n.toNat e0 (fun j hj => by
        have r := (bna hn ht j (by omega)).1
        rw [r, if_neg (by omega)])]
    · rw [if_neg q, if_neg q, Int.add_zero]
      have f := (bna hn ht n.toNat (by omega)).2 (by omega)
      rw [f, if_neg (by omega), S1_congr (u := t) n.toNat e0 (fun j hj => rfl)]
theorem pc_sum {t n b : Int} (hn : 0 ≤ n ∧ n < 12) (ht : 0 ≤ t ∧ t < P2 n) : pcn (t + (if b = 1 then P2 n else 0)) 12 = pcn t 12 + (if b = 1 then 1 else 0) := by
  by_cases q : b = 1
  · rw [if_pos q, if_pos q]
    have f : ∀ j : Nat, j < 12 → bn (t + P2 n) j = (if j = n.toNat then 1 else bn t j) ∧ (n ≤ (j : Int) → bn t j = 0) := fun j hj => bna hn ht j hj
    have key : ∀ m : Nat, m ≤ 12 → pcn (t + P2 n) m = pcn t m + (if n.toNat < m then 1 else 0) := fun m => by
      induction m with
      | zero => intro _; rw [if_neg (by omega)]; rfl
      | succ m ih =>
        intro hm
        show pcn (t + P2 n) m + bn (t + P2 n) m = pcn t m + bn t m + _
        rw [ih (by omega), (f m (by omega)).1]
        by_cases r : m = n.toNat
        · have z := (f m (by omega)).2 (by omega)
          rw [if_pos r, if_neg (by omega), if_pos (by omega), z]; (try omega)
        · rw [if_neg r]
          by_cases w : n.toNat < m
          · rw [if_pos w, if_pos (by omega)]; (try omega)
          · rw [if_neg w, if_neg (by omega)]; (try omega)
    rw [key 12 (by omega), if_pos (by omega)]
  · rw [if_neg q, if_neg q, Int.add_zero, Int.add_zero]
def WSC (T : Nat → Int → Int) (o what : Int) : Prop := (0 ≤ o ∧ o < T 0 0) ∧ 0 ≤ what ∧ what ≤ 3
/-- the choices of as many that lead by as much -/
noncomputable def WAYS (g : Nat → Int) (t n ld : Int) : Int := cntp (fun x => pcn x 12 = pcn t 12 ∧ ld ≤ LEAD g x n) (P2 n).toNat
def WSD (T : Nat → Int → Int) (o what z : Int) : Prop := (¬ WSC T o what ∧ z = -1000000) ∨ (WSC T o what ∧ ∃ (g : Nat → Int) (t n : Int), g = wsa T o (T 0 2).toNat ∧ t = wsl T o (T 0 2).toNat ∧ n = wsn T o (T 0 2).toNat ∧ ((what = 0 ∧ z = WAYS g t n (LEAD g t n)) ∨ (what = 1 ∧ z = WAYS g t n (-1000000)) ∨ (what = 2 ∧ z = LEAD g t n) ∨ (what = 3 ∧ z = n)))
theorem WSD_eq {T : Nat → Int → Int} {o what z z' : Int} (h : xr z ∧ WSD T o what z) (h2 : xr z' ∧ WSD T o what z') : z = z' := by
  obtain ⟨-, h⟩ := h
  obtain ⟨-, h2⟩ := h2
  rcases h with ⟨a, b⟩ | ⟨a, g, t, n, rfl, rfl, rfl, b⟩ <;> rcases h2 with ⟨a', b'⟩ | ⟨a', g', t', n', rfl, rfl, rfl, b'⟩ <;> first | omega | exact absurd a' a | exact absurd a a'
/-- the least man's reading beside, ship by ship -/
def FB (T : Nat → Int → Int) (k i f : Int) : Prop := (f < 0 ∧ ∀ j : Int, 0 ≤ j ∧ j < T 0 2 → T 4 j < i → ¬ (SEE T k j ∧ T 7 j ≠ 3)) ∨ ((0 ≤ f ∧ f < T 0 2) ∧ SEE T k f ∧ T 7 f ≠ 3 ∧ ∀ j : Int, 0 ≤ j ∧ j < T 0 2 → T 4 j < i → SEE T k j → T 7 j ≠ 3 → f ≤ j)
theorem FB_0 {T : Nat → Int → Int} (hp : PI T) {k : Int} : FB T k 0 (-1) := Or.inl ⟨by omega, fun j hj h => by have := pi_4 hp j; omega⟩
theorem FB_neg {T : Nat → Int → Int} {k i f : Int} (h : FB T k i f) (hf : f < 0) : FB T k i (-1) := by
  rcases h with ⟨a, b⟩ | ⟨a, b⟩
  · exact Or.inl ⟨by omega, b⟩
  · omega
theorem FB_none {T : Nat → Int → Int} {k i f : Int} (h : FB T k i f) (hn : ∀ j : Int, 0 ≤ j ∧ j < T 0 2 → ¬ (T 4 j = i ∧ SEE T k j ∧ T 7 j ≠ 3)) : FB T k (i + 1) f := by
  rcases h with ⟨a, b⟩ | ⟨a, b, c, d⟩
  · refine Or.inl ⟨a, fun j hj hlt hs => ?_⟩
    by_cases e : T 4 j = i
    · exact hn j hj ⟨e, hs⟩
    · exact b j hj (by omega) hs
  · refine Or.inr ⟨a, b, c, fun j hj hlt hs hm => ?_⟩
    by_cases e : T 4 j = i
    · exact absurd ⟨e, hs, hm⟩ (hn j hj)
    · exact d j hj (by omega) hs hm
theorem FB_new {T : Nat → Int → Int} (hp : PI T) {k i f x : Int} (h : FB T k i f) (hx : (0 ≤ x ∧ x < T 0 2) ∧ T 4 x = i ∧ SEE T k x ∧ T 7 x ≠ 3) (hl : f < 0 ∨ x < f) : FB T k (i + 1) x := by
  refine Or.inr ⟨hx.1, hx.2.2.1, hx.2.2.2, fun j hj hlt hs hm => ?_⟩
  by_cases e : T 4 j = i
  · have := pi_un hp hx.1 hj (hx.2.1.trans e.symm) (hx.2.2.1.1.trans hs.1.symm)
    omega
  · rcases h with ⟨a, b⟩ | ⟨a, b, c, d⟩
    · exact absurd ⟨hs, hm⟩ (b j hj (by omega))
    · have := d j hj (by omega) hs hm
      omega
theorem FB_keep {T : Nat → Int → Int} (hp : PI T) {k i f x : Int} (h : FB T k i f) (hx : (0 ≤ x ∧ x < T 0 2) ∧ T 4 x = i ∧ SEE T k x ∧ T 7 x ≠ 3) (hl : 0 ≤ f ∧ f ≤ x) : FB T k (i + 1) f := by
  rcases h with ⟨a, b⟩ | ⟨a, b, c, d⟩
  · omega
  · refine Or.inr ⟨a, b, c, fun j hj hlt hs hm => ?_⟩
    by_cases e : T 4 j = i
    · have := pi_un hp hx.1 hj (hx.2.1.trans e.symm) (hx.2.2.1.1.trans hs.1.symm)
      omega
    · exact d j hj (by omega) hs hm
theorem FB_no {T : Nat → Int → Int} (hp : PI T) {k i f : Int} (h : FB T k i f) (hf : f < 0) (hi : T 0 1 ≤ i) : ∀ j : Int, 0 ≤ j ∧ j < T 0 2 → ¬ (SEE T k j ∧ T 7 j ≠ 3) := fun j hj => by
  rcases h with ⟨a, b⟩ | ⟨a, b⟩
  · exact b j hj (by have := pi_in hp j hj; omega)
  · omega
theorem FB_yes {T : Nat → Int → Int} (hp : PI T) {k i f : Int} (h : FB T k i f) (hf : 0 ≤ f) (hi : T 0 1 ≤ i) : BES T k f := by
  rcases h with ⟨a, b⟩ | ⟨a, b, c, d⟩
  · omega
  · exact ⟨a, b, c, fun j hj hs hm => d j hj (by have := pi_in hp j hj; omega) hs hm⟩
theorem iu_cong {g h : Nat → Int} {n d : Int} (q : ∀ j : Nat, (j : Int) < n → g j = h j) : ∀ j : Nat, (j : Int) < n + 1 → iu g n d j = iu h n d j := fun j hj => by
  unfold iu
  by_cases e : (j : Int) = n
  · rw [if_pos e, if_pos e]
  · rw [if_neg e, if_neg e]; exact q j (by omega)
theorem WSY {T : Nat → Int → Int} {o k n : Int} (hp : PI T) (hk : 0 ≤ k) (hq : QWS T o k) (hn : n = wsn T o k.toNat) (h12 : n < 12) : wsn T o (k + 1).toNat = n + 1 ∧ S0 (wsa T o (k + 1).toNat) (n + 1).toNat = S0 (wsa T o k.toNat) n.toNat + (T 8 k - T 8 (bes T k)) ∧
    S1 (wsa T o (k + 1).toNat) (wsl T o (k + 1).toNat) (n + 1).toNat = S1 (wsa T o k.toNat) (wsl T o k.toNat) n.toNat + (if 0 < T 10 k then T 8 k - T 8 (bes T k) else 0) ∧ pcn (wsl T o (k + 1).toNat) 12 = pcn (wsl T o k.toNat) 12 + (if 0 < T 10 k then 1 else 0) := by
  obtain ⟨x, y, z⟩ := ws_y hk hq (by omega)
  obtain ⟨a, b, -⟩ := ws_r (o := o) hp k.toNat
  rw [← hn] at x y z a b
  have e : (if 0 < T 10 k then P2 n else 0) = if (if 0 < T 10 k then (1 : Int) else 0) = 1 then P2 n else 0 := by
    by_cases q : 0 < T 10 k
    · rw [if_pos q, if_pos q, if_pos rfl]
    · rw [if_neg q, if_neg q, if_neg (by omega)]
  have s := ws_sum (g := wsa T o k.toNat) (t := wsl T o k.toNat) (n := n) (d := T 8 k - T 8 (bes T k)) (b := if 0 < T 10 k then 1 else 0) ⟨a.1, h12⟩ b (by by_cases q : 0 < T 10 k; exact Or.inl ⟨if_pos q, trivial⟩; exact Or.inr (if_neg q))
  have p := pc_sum (t := wsl T o k.toNat) (n := n) (b := if 0 < T 10 k then 1 else 0) ⟨a.1, h12⟩ b
  rw [x, y, z, e]
  refine ⟨rfl, s.1, ?_, ?_⟩
  · rw [s.2]
    by_cases q : 0 < T 10 k
    · rw [if_pos q, if_pos rfl, if_pos q]
    · rw [if_neg q, if_neg (by omega), if_neg q]
  · rw [p]
    by_cases q : 0 < T 10 k
    · rw [if_pos q, if_pos rfl]
    · rw [if_neg q, if_neg (by omega)]
theorem LEAD_r {g : Nat → Int} {t n : Int} (hn : 0 ≤ n ∧ n ≤ 12) (hg : ∀ j : Nat, (j : Int) < n → -12 ≤ g j ∧ g j ≤ 12) : -3456 ≤ LEAD g t n ∧ LEAD g t n ≤ 3456 := by
  have r9 := S_r (g := g) (t := t) n.toNat (fun j hj => hg j (by omega))
  have p9 := pcn_r t 12
  have m1 := mul12 (a := S1 g t n.toNat) (b := n - pcn t 12) (by omega) (by omega)
  have m2 := mul12 (a := S0 g n.toNat - S1 g t n.toNat) (b := pcn t 12) (by omega) (by omega)
  unfold LEAD
  omega
theorem WAYS_congr {g h : Nat → Int} {t n a b : Int} (q : ∀ j : Nat, (j : Int) < n → g j = h j) (hn : 0 ≤ n) (e : a = b) : WAYS g t n a = WAYS h t n b := by
  subst e
  exact cntp_congr _ (fun x _ => by rw [LEAD_congr q hn])


abbrev r_c_X0_shipAt_y : Room := { frames := 1, cells := 0, slots := 0, locals := 21 }
set_option maxHeartbeats 4000000 in
set_option maxRecDepth 100000 in
theorem c_X0_shipAt_y (l : Launch) (D : va_G) (Zk : yK) (ca : Nat → ClassId) (T : Nat → Int → Int) (G : Nat → Int → Nat) (u : Int) (ad : Nat → Nat) (v0 w : yW) (hC : CW ca T G u ad v0) (hv0 : ∀ k : Nat, k ≠ 35 → w k = v0 k) (k : Int)  (hk : xr k) : yC l D Zk ca yX0_shipAt cX0_shipAt 2 (some (.object "WindWords$Ship")) r_c_X0_shipAt_y [.ref (ad 1), .int (iI k)] w (vQ w (fun q => (q = none ∧ ¬ (0 ≤ k ∧ k < T 0 1)) ∨ (q = some (G 1 k) ∧ 0 ≤ k ∧ k < T 0 1))) := by
  refine yC.of2 "WindWords$Fleet" (by decide) rfl (Nat.le_of_ble_eq_true rfl) ?_
  intro p e s m args below meth c A ls Qf B hnm h hl hQ
  have hl : lv_has ls 2 [(0, .ref (ad 1)), (1, .int (iI k))] := hl
  have hs := pi_s (CW.pi hC)
  refine lv_iload_n B.1 B.2.1 dX0_shipAt_0 rfl (lv_at hl 1 rfl) ?_
  refine lv_aload_n B.1 B.2.1 dX0_shipAt_1 rfl (lv_at hl 0 rfl) ?_
  refine y_getX B h kX0 1 ((hv0 (1) (by omega)).trans ((CW.f hC 1 _ rfl))) 4 (z := (T 0 1)) rfl m_141 (by decide) dX0_shipAt_2 ?_
  refine x_iconst B dX0_shipAt_5 ?_
  refine x_isub B dX0_shipAt_6 ?_
  refine y_cSN (host := "WindWords") B h k_X11_within (c_X11_within l D Zk ca _ k (((T 0 1) - 1))  (by omega) (by omega)) (by decide) rfl (by decide) hl.1 [] (Nat.le_of_ble_eq_true rfl) rfl dX0_shipAt_7 (fun r w1 hq H locs h => ?_)
  obtain ⟨rfl, _, rfl, ⟨rfl, b1⟩ | ⟨rfl, b1⟩⟩ := hq
  · show W p l e r_c_X0_shipAt_y s m args below meth c _ _ 0 0 Qf (F0 m 10 ls [.int (iI 1)])
    refine x_if_eq B (by omega) (tgt := 22) dX0_shipAt_10 (by decide) (fun c2 => ?_) (fun c2 => ?_)
    · exact absurd c2 (by omega)
    · refine lv_aload_n B.1 B.2.1 dX0_shipAt_13 rfl (lv_at hl 0 rfl) ?_
      refine y_getR B h kX0 1 ((hv0 (1) (by omega)).trans ((CW.f hC 1 _ rfl))) 0 (b := ad 2) rfl m_134 (by decide) dX0_shipAt_14 ?_
      refine lv_iload_n B.1 B.2.1 dX0_shipAt_17 rfl (lv_at hl 1 rfl) ?_
      refine y_qald B h 2 4 rfl ((hv0 (2) (by omega)).trans ((CW.f hC 2 _ rfl))) (by omega) dX0_shipAt_18 (fun f4 hf3 => ?_)
      rw [hf3 (k) (by omega)]
      have fo5 := CW.sh hC k (by omega)
      show W p l e r_c_X0_shipAt_y s m args below meth c _ _ 0 0 Qf (F0 m 19 ls [.ref (G 1 k)])
      refine lv_goto (tgt := 23) B.1 B.2.1 dX0_shipAt_19 (by decide) ?_
      refine y_ra (r := (some (G 1 k))) B hQ h (by decide) dX0_shipAt_23 ?_
      exact ⟨rfl, _, rfl, Or.inr ⟨rfl, (by first | omega | trivial | assumption)⟩⟩
  · show W p l e r_c_X0_shipAt_y s m args below meth c _ _ 0 0 Qf (F0 m 10 ls [.int (iI 0)])
    refine x_if_eq B (by omega) (tgt := 22) dX0_shipAt_10 (by decide) (fun c6 => ?_) (fun c6 => ?_)
    · refine lv_null B.1 B.2.1 dX0_shipAt_22 ?_
      refine y_ra (r := none) B hQ h (by decide) dX0_shipAt_23 ?_
      exact ⟨rfl, _, rfl, Or.inl ⟨rfl, (by first | omega | trivial | assumption)⟩⟩
    · exact absurd c6 (by omega)
abbrev r_c_X0_readingAt_y : Room := { frames := 1, cells := 0, slots := 0, locals := 21 }
set_option maxHeartbeats 4000000 in
set_option maxRecDepth 100000 in
theorem c_X0_readingAt_y (l : Launch) (D : va_G) (Zk : yK) (ca : Nat → ClassId) (T : Nat → Int → Int) (G : Nat → Int → Nat) (u : Int) (ad : Nat → Nat) (v0 w : yW) (hC : CW ca T G u ad v0) (hv0 : ∀ k : Nat, k ≠ 35 → w k = v0 k) (k : Int)  (hk : xr k) : yC l D Zk ca yX0_readingAt cX0_readingAt 2 (some (.object "WindWords$Reading")) r_c_X0_readingAt_y [.ref (ad 1), .int (iI k)] w (vQ w (fun q => (q = none ∧ ¬ (0 ≤ k ∧ k < T 0 2)) ∨ (q = some (G 4 k) ∧ 0 ≤ k ∧ k < T 0 2))) := by
  refine yC.of2 "WindWords$Fleet" (by decide) rfl (Nat.le_of_ble_eq_true rfl) ?_
  intro p e s m args below meth c A ls Qf B hnm h hl hQ
  have hl : lv_has ls 2 [(0, .ref (ad 1)), (1, .int (iI k))] := hl
  have hs := pi_s (CW.pi hC)
  refine lv_iload_n B.1 B.2.1 dX0_readingAt_0 rfl (lv_at hl 1 rfl) ?_
  refine lv_aload_n B.1 B.2.1 dX0_readingAt_1 rfl (lv_at hl 0 rfl) ?_
  refine y_getX B h kX0 1 ((hv0 (1) (by omega)).trans ((CW.f hC 1 _ rfl))) 5 (z := (T 0 2)) rfl m_145 (by decide) dX0_readingAt_2 ?_
  refine x_iconst B dX0_readingAt_5 ?_
  refine x_isub B dX0_readingAt_6 ?_
  refine y_cSN (host := "WindWords") B h k_X11_within (c_X11_within l D Zk ca _ k (((T 0 2) - 1))  (by omega) (by omega)) (by decide) rfl (by decide) hl.1 [] (Nat.le_of_ble_eq_true rfl) rfl dX0_readingAt_7 (fun r w1 hq H locs h => ?_)
  obtain ⟨rfl, _, rfl, ⟨rfl, b1⟩ | ⟨rfl, b1⟩⟩ := hq
  · show W p l e r_c_X0_readingAt_y s m args below meth c _ _ 0 0 Qf (F0 m 10 ls [.int (iI 1)])
    refine x_if_eq B (by omega) (tgt := 22) dX0_readingAt_10 (by decide) (fun c2 => ?_) (fun c2 => ?_)
    · exact absurd c2 (by omega)
    · refine lv_aload_n B.1 B.2.1 dX0_readingAt_13 rfl (lv_at hl 0 rfl) ?_
      refine y_getR B h kX0 1 ((hv0 (1) (by omega)).trans ((CW.f hC 1 _ rfl))) 1 (b := ad 3) rfl m_135 (by decide) dX0_readingAt_14 ?_
      refine lv_iload_n B.1 B.2.1 dX0_readingAt_17 rfl (lv_at hl 1 rfl) ?_
      refine y_qald B h 3 5 rfl ((hv0 (3) (by omega)).trans ((CW.f hC 3 _ rfl))) (by omega) dX0_readingAt_18 (fun f4 hf3 => ?_)
      rw [hf3 (k) (by omega)]
      have fo5 := CW.rd hC k (by omega)
      show W p l e r_c_X0_readingAt_y s m args below meth c _ _ 0 0 Qf (F0 m 19 ls [.ref (G 4 k)])
      refine lv_goto (tgt := 23) B.1 B.2.1 dX0_readingAt_19 (by decide) ?_
      refine y_ra (r := (some (G 4 k))) B hQ h (by decide) dX0_readingAt_23 ?_
      exact ⟨rfl, _, rfl, Or.inr ⟨rfl, (by first | omega | trivial | assumption)⟩⟩
  · show W p l e r_c_X0_readingAt_y s m args below meth c _ _ 0 0 Qf (F0 m 10 ls [.int (iI 0)])
    refine x_if_eq B (by omega) (tgt := 22) dX0_readingAt_10 (by decide) (fun c6 => ?_) (fun c6 => ?_)
    · refine lv_null B.1 B.2.1 dX0_readingAt_22 ?_
      refine y_ra (r := none) B hQ h (by decide) dX0_readingAt_23 ?_
      exact ⟨rfl, _, rfl, Or.inl ⟨rfl, (by first | omega | trivial | assumption)⟩⟩
    · exact absurd c6 (by omega)
abbrev r_c_X7_officerOn_y : Room := { frames := 1, cells := 0, slots := 0, locals := 21 }
set_option maxHeartbeats 4000000 in
set_option maxRecDepth 100000 in
theorem c_X7_officerOn_y (l : Launch) (D : va_G) (Zk : yK) (ca : Nat → ClassId) (T : Nat → Int → Int) (G : Nat → Int → Nat) (u : Int) (ad : Nat → Nat) (v0 w : yW) (hC : CW ca T G u ad v0) (hv0 : ∀ k : Nat, k ≠ 35 → w k = v0 k) (sh : Int) (v : Int)  (hsh : 0 ≤ sh ∧ sh < T 0 1) (hv : xr v) : yC l D Zk ca yX7_officerOn cX7_officerOn 2 (some .int) r_c_X7_officerOn_y [.ref (G 1 sh), .int (iI v)] w (vI w (fun z => (0 ≤ v ∧ v ≤ 999 ∧ z = T 3 (1000 * sh + v)) ∨ (¬ (0 ≤ v ∧ v ≤ 999) ∧ z = -1))) := by
  refine yC.of2 "WindWords$Ship" (by decide) rfl (Nat.le_of_ble_eq_true rfl) ?_
  intro p e s m args below meth c A ls Qf B hnm h hl hQ
  have hl : lv_has ls 2 [(0, .ref (G 1 sh)), (1, .int (iI v))] := hl
  have hs := pi_s (CW.pi hC)
  have fo1 := CW.sh hC sh (by omega)
  refine lv_iload_n B.1 B.2.1 dX7_officerOn_0 rfl (lv_at hl 1 rfl) ?_
  refine x_sipush B (by decide) dX7_officerOn_1 ?_
  refine y_cSN (host := "WindWords") B h k_X11_within (c_X11_within l D Zk ca _ v 999  (by omega) (by omega)) (by decide) rfl (by decide) hl.1 [] (Nat.le_of_ble_eq_true rfl) rfl dX7_officerOn_4 (fun r w1 hq H locs h => ?_)
  obtain ⟨rfl, _, rfl, ⟨rfl, b2⟩ | ⟨rfl, b2⟩⟩ := hq
  · show W p l e r_c_X7_officerOn_y s m args below meth c _ _ 0 0 Qf (F0 m 7 ls [.int (iI 1)])
    refine x_if_eq B (by omega) (tgt := 19) dX7_officerOn_7 (by decide) (fun c3 => ?_) (fun c3 => ?_)
    · exact absurd c3 (by omega)
    · refine lv_aload_n B.1 B.2.1 dX7_officerOn_10 rfl (lv_at hl 0 rfl) ?_
      refine y_getR B h kX7 (1000 + 16 * sh.toNat + 1) ((hv0 (1000 + 16 * sh.toNat + 1) (by omega)).trans fo1.1) 2 (b := G 2 sh) rfl m_462 (by decide) dX7_officerOn_11 ?_
      refine lv_iload_n B.1 B.2.1 dX7_officerOn_14 rfl (lv_at hl 1 rfl) ?_
      refine y_ialdX B h (1000 + 16 * sh.toNat + 2) ((hv0 (1000 + 16 * sh.toNat + 2) (by omega)).trans fo1.2.1) (by omega) dX7_officerOn_15 ?_
      refine x_iset (z := (T 3 (1000 * sh + v))) (by show iI (T 3 (1000 * sh + (((v : Int).toNat : Nat) : Int))) = _; rw [show ((((v : Int).toNat : Nat) : Int)) = v by omega]) ?_
      have tb4 := pi_3 (CW.pi hC) (1000 * sh + v)
      refine lv_goto (tgt := 20) B.1 B.2.1 dX7_officerOn_16 (by decide) ?_
      refine y_ri B hQ h (by decide) dX7_officerOn_20 ?_
      exact ⟨rfl, _, rfl, (by first | omega | trivial | assumption)⟩
  · show W p l e r_c_X7_officerOn_y s m args below meth c _ _ 0 0 Qf (F0 m 7 ls [.int (iI 0)])
    refine x_if_eq B (by omega) (tgt := 19) dX7_officerOn_7 (by decide) (fun c5 => ?_) (fun c5 => ?_)
    · refine x_iconst B dX7_officerOn_19 ?_
      refine y_ri B hQ h (by decide) dX7_officerOn_20 ?_
      exact ⟨rfl, _, rfl, (by first | omega | trivial | assumption)⟩
    · exact absurd c5 (by omega)
abbrev r_c_X4_isMans_y : Room := { frames := 0, cells := 0, slots := 0, locals := 0 }
set_option maxHeartbeats 4000000 in
set_option maxRecDepth 100000 in
theorem c_X4_isMans_y (l : Launch) (D : va_G) (Zk : yK) (ca : Nat → ClassId) (T : Nat → Int → Int) (G : Nat → Int → Nat) (u : Int) (ad : Nat → Nat) (v0 w : yW) (hC : CW ca T G u ad v0) (hv0 : ∀ k : Nat, k ≠ 35 → w k = v0 k) (k : Int)  (hk : 0 ≤ k ∧ k < T 0 2) : yC l D Zk ca yX4_isMans cX4_isMans 1 (some .boolean) r_c_X4_isMans_y [.ref (G 4 k)] w (vI w (fun z => (z = 1 ∧ (T 7 k ≠ 3)) ∨ (z = 0 ∧ (¬ (T 7 k ≠ 3))))) := by
  refine yC.of2 "WindWords$Reading" (by decide) rfl (Nat.le_of_ble_eq_true rfl) ?_
  intro p e s m args below meth c A ls Qf B hnm h hl hQ
  have hl : lv_has ls 1 [(0, .ref (G 4 k))] := hl
  have hs := pi_s (CW.pi hC)
  have fo1 := CW.rd hC k (by omega)
  refine lv_aload_n B.1 B.2.1 dX4_isMans_0 rfl (lv_at hl 0 rfl) ?_
  refine y_getX B h kX4 (1000 + 16 * k.toNat + 4) ((hv0 (1000 + 16 * k.toNat + 4) (by omega)).trans fo1) 3 (z := (T 7 k)) rfl m_524 (by decide) dX4_isMans_1 ?_
  have tb2 := pi_7 (CW.pi hC) k
  refine x_iconst B dX4_isMans_4 ?_
  refine x_icmp_eq B (by omega) (tgt := 12) dX4_isMans_5 (by decide) (fun c3 => ?_) (fun c3 => ?_)
  · refine x_iconst B dX4_isMans_12 ?_
    refine y_rz B hQ h (by decide) (by decide) dX4_isMans_13 ?_
    exact ⟨rfl, _, rfl, Or.inr ⟨rfl, (by first | omega | trivial | assumption)⟩⟩
  · refine x_iconst B dX4_isMans_8 ?_
    refine lv_goto (tgt := 13) B.1 B.2.1 dX4_isMans_9 (by decide) ?_
    refine y_rz B hQ h (by decide) (by decide) dX4_isMans_13 ?_
    exact ⟨rfl, _, rfl, Or.inl ⟨rfl, (by first | omega | trivial | assumption)⟩⟩
abbrev r_c_X4_writer_y : Room := { frames := 2, cells := 0, slots := 0, locals := 42 }
set_option maxHeartbeats 4000000 in
set_option maxRecDepth 100000 in
theorem c_X4_writer_y (l : Launch) (D : va_G) (Zk : yK) (ca : Nat → ClassId) (T : Nat → Int → Int) (G : Nat → Int → Nat) (u : Int) (ad : Nat → Nat) (v0 w : yW) (hC : CW ca T G u ad v0) (hv0 : ∀ k : Nat, k ≠ 35 → w k = v0 k) (k : Int)  (hk : 0 ≤ k ∧ k < T 0 2) : yC l D Zk ca yX4_writer cX4_writer 1 (some .int) r_c_X4_writer_y [.ref (G 4 k)] w (vI w (fun z => z = T 3 (1000 * T 4 k + T 5 k))) := by
  refine yC.of2 "WindWords$Reading" (by decide) rfl (Nat.le_of_ble_eq_true rfl) ?_
  intro p e s m args below meth c A ls Qf B hnm h hl hQ
  have hl : lv_has ls 1 [(0, .ref (G 4 k))] := hl
  have hs := pi_s (CW.pi hC)
  have fo1 := CW.rd hC k (by omega)
  refine lv_aload_n B.1 B.2.1 dX4_writer_0 rfl (lv_at hl 0 rfl) ?_
  refine y_getR B h kX4 (1000 + 16 * k.toNat + 4) ((hv0 (1000 + 16 * k.toNat + 4) (by omega)).trans fo1) 0 (b := G 1 (T 4 k)) rfl m_513 (by decide) dX4_writer_1 ?_
  have tb2 := pi_4 (CW.pi hC) k
  have pn3 := pi_in (CW.pi hC) k (by omega)
  have fo4 := CW.sh hC (T 4 k) (by omega)
  refine lv_aload_n B.1 B.2.1 dX4_writer_4 rfl (lv_at hl 0 rfl) ?_
  refine y_getX B h kX4 (1000 + 16 * k.toNat + 4) ((hv0 (1000 + 16 * k.toNat + 4) (by omega)).trans fo1) 1 (z := (T 5 k)) rfl m_516 (by decide) dX4_writer_5 ?_
  have tb5 := pi_5 (CW.pi hC) k
  refine y_cV B h kX7 (1000 + 16 * ((T 4 k)).toNat + 1) ((hv0 (1000 + 16 * ((T 4 k)).toNat + 1) (by omega)).trans fo4.1) k_X7_officerOn rfl (c_X7_officerOn_y l D Zk ca T G u ad _ _ hC hv0 (T 4 k) ((T 5 k))  (by omega) (by omega)) m_838 rfl (by decide) hl.1 [] (Nat.le_of_ble_eq_true rfl) rfl dX4_writer_8 (fun r w1 hq H locs h => ?_)
  obtain ⟨rfl, z6, rfl, hz6⟩ := hq
  show W p l e r_c_X4_writer_y s m args below meth c _ _ 0 0 Qf (F0 m 11 ls [.int (iI z6)])
  refine y_ri B hQ h (by decide) dX4_writer_11 ?_
  exact ⟨rfl, _, rfl, (by first | omega | trivial | assumption)⟩
abbrev r_c_X0_mansAt_y : Room := { frames := 2, cells := 0, slots := 0, locals := 42 }
set_option maxHeartbeats 4000000 in
set_option maxRecDepth 100000 in
theorem c_X0_mansAt_y (l : Launch) (D : va_G) (Zk : yK) (ca : Nat → ClassId) (T : Nat → Int → Int) (G : Nat → Int → Nat) (u : Int) (ad : Nat → Nat) (v0 w : yW) (hC : CW ca T G u ad v0) (hv0 : ∀ k : Nat, k ≠ 35 → w k = v0 k) (k : Int)  (hk : xr k) : yC l D Zk ca yX0_mansAt cX0_mansAt 3 (some (.object "WindWords$Reading")) r_c_X0_mansAt_y [.ref (ad 1), .int (iI k)] w (vQ w (fun q => (q = none ∧ ¬ ((0 ≤ k ∧ k < T 0 2) ∧ T 7 k ≠ 3)) ∨ (q = some (G 4 k) ∧ (0 ≤ k ∧ k < T 0 2) ∧ T 7 k ≠ 3))) := by
  refine yC.of2 "WindWords$Fleet" (by decide) rfl (Nat.le_of_ble_eq_true rfl) ?_
  intro p e s m args below meth c A ls Qf B hnm h hl hQ
  have hl : lv_has ls 3 [(0, .ref (ad 1)), (1, .int (iI k))] := hl
  have hs := pi_s (CW.pi hC)
  refine lv_aload_n B.1 B.2.1 dX0_mansAt_0 rfl (lv_at hl 0 rfl) ?_
  refine lv_iload_n B.1 B.2.1 dX0_mansAt_1 rfl (lv_at hl 1 rfl) ?_
  refine y_cV B h kX0 1 ((hv0 (1) (by omega)).trans ((CW.f hC 1 _ rfl))) k_X0_readingAt rfl (c_X0_readingAt_y l D Zk ca T G u ad _ _ hC hv0 k  (by omega)) m_984 rfl (by decide) hl.1 [] (Nat.le_of_ble_eq_true rfl) rfl dX0_mansAt_2 (fun r w1 hq H locs h => ?_)
  obtain ⟨rfl, _, rfl, ⟨rfl, q1⟩ | ⟨rfl, q1⟩⟩ := hq
  · show W p l e r_c_X0_mansAt_y s m args below meth c _ _ 0 0 Qf (F0 m 5 ls [.null])
    refine lv_astore_nN (lv' := [(2, .null), (0, .ref (ad 1)), (1, .int (iI k))]) B.1 B.2.1 dX0_mansAt_5 rfl hl (by decide) rfl (fun ls hl => ?_)
    refine lv_aload_nN B.1 B.2.1 dX0_mansAt_6 rfl (lv_at hl 0 rfl) ?_
    refine lv_ifnullN (tgt := 21) B.1 B.2.1 dX0_mansAt_7 (by decide) ?_
    refine lv_null B.1 B.2.1 dX0_mansAt_21 ?_
    refine y_ra (r := none) B hQ h (by decide) dX0_mansAt_22 ?_
    exact ⟨rfl, _, rfl, Or.inl ⟨rfl, (by first | omega | trivial | assumption)⟩⟩
  · have fo2 := CW.rd hC k (by omega)
    show W p l e r_c_X0_mansAt_y s m args below meth c _ _ 0 0 Qf (F0 m 5 ls [.ref (G 4 k)])
    refine lv_astore_n (lv' := [(2, .ref (G 4 k)), (0, .ref (ad 1)), (1, .int (iI k))]) B.1 B.2.1 dX0_mansAt_5 rfl hl (by decide) rfl (fun ls hl => ?_)
    refine lv_aload_n B.1 B.2.1 dX0_mansAt_6 rfl (lv_at hl 0 rfl) ?_
    refine lv_ifnull B.1 B.2.1 dX0_mansAt_7 ?_
    refine lv_aload_n B.1 B.2.1 dX0_mansAt_10 rfl (lv_at hl 0 rfl) ?_
    refine y_cV B h kX4 (1000 + 16 * k.toNat + 4) ((hv0 (1000 + 16 * k.toNat + 4) (by omega)).trans fo2) k_X4_isMans rfl (c_X4_isMans_y l D Zk ca T G u ad _ _ hC hv0 k  (by omega)) m_873 rfl (by decide) hl.1 [] (Nat.le_of_ble_eq_true rfl) rfl dX0_mansAt_11 (fun r w1 hq H locs h => ?_)
    obtain ⟨rfl, _, rfl, ⟨rfl, b3⟩ | ⟨rfl, b3⟩⟩ := hq
    · show W p l e r_c_X0_mansAt_y s m args below meth c _ _ 0 0 Qf (F0 m 14 ls [.int (iI 1)])
      refine x_if_eq B (by omega) (tgt := 21) dX0_mansAt_14 (by decide) (fun c4 => ?_) (fun c4 => ?_)
      · exact absurd c4 (by omega)
      · refine lv_aload_n B.1 B.2.1 dX0_mansAt_17 rfl (lv_at hl 0 rfl) ?_
        refine lv_goto (tgt := 22) B.1 B.2.1 dX0_mansAt_18 (by decide) ?_
        refine y_ra (r := (some (G 4 k))) B hQ h (by decide) dX0_mansAt_22 ?_
        exact ⟨rfl, _, rfl, Or.inr ⟨rfl, (by first | omega | trivial | assumption)⟩⟩
    · show W p l e r_c_X0_mansAt_y s m args below meth c _ _ 0 0 Qf (F0 m 14 ls [.int (iI 0)])
      refine x_if_eq B (by omega) (tgt := 21) dX0_mansAt_14 (by decide) (fun c5 => ?_) (fun c5 => ?_)
      · refine lv_null B.1 B.2.1 dX0_mansAt_21 ?_
        refine y_ra (r := none) B hQ h (by decide) dX0_mansAt_22 ?_
        exact ⟨rfl, _, rfl, Or.inl ⟨rfl, (by first | omega | trivial | assumption)⟩⟩
      · exact absurd c5 (by omega)
abbrev r_c_X7_readingOn_y : Room := { frames := 1, cells := 0, slots := 0, locals := 21 }
set_option maxHeartbeats 4000000 in
set_option maxRecDepth 100000 in
theorem c_X7_readingOn_y (l : Launch) (D : va_G) (Zk : yK) (ca : Nat → ClassId) (T : Nat → Int → Int) (G : Nat → Int → Nat) (u : Int) (ad : Nat → Nat) (v0 w : yW) (hC : CW ca T G u ad v0) (hv0 : ∀ k : Nat, k ≠ 35 → w k = v0 k) (sh : Int) (v : Int)  (hsh : 0 ≤ sh ∧ sh < T 0 1) (hv : xr v) : yC l D Zk ca yX7_readingOn cX7_readingOn 2 (some (.object "WindWords$Reading")) r_c_X7_readingOn_y [.ref (G 1 sh), .int (iI v)] w (vQ w (fun q => (q = none ∧ ∀ j : Int, 0 ≤ j ∧ j < T 0 2 → ¬ (T 4 j = sh ∧ T 5 j = v)) ∨ ∃ k : Int, q = some (G 4 k) ∧ (0 ≤ k ∧ k < T 0 2) ∧ T 4 k = sh ∧ T 5 k = v)) := by
  refine yC.of2 "WindWords$Ship" (by decide) rfl (Nat.le_of_ble_eq_true rfl) ?_
  intro p e s m args below meth c A ls Qf B hnm h hl hQ
  have hl : lv_has ls 2 [(0, .ref (G 1 sh)), (1, .int (iI v))] := hl
  have hs := pi_s (CW.pi hC)
  have fo1 := CW.sh hC sh (by omega)
  refine lv_iload_n B.1 B.2.1 dX7_readingOn_0 rfl (lv_at hl 1 rfl) ?_
  refine x_sipush B (by decide) dX7_readingOn_1 ?_
  refine y_cSN (host := "WindWords") B h k_X11_within (c_X11_within l D Zk ca _ v 999  (by omega) (by omega)) (by decide) rfl (by decide) hl.1 [] (Nat.le_of_ble_eq_true rfl) rfl dX7_readingOn_4 (fun r w1 hq H locs h => ?_)
  obtain ⟨rfl, _, rfl, ⟨rfl, b2⟩ | ⟨rfl, b2⟩⟩ := hq
  · show W p l e r_c_X7_readingOn_y s m args below meth c _ _ 0 0 Qf (F0 m 7 ls [.int (iI 1)])
    refine x_if_eq B (by omega) (tgt := 19) dX7_readingOn_7 (by decide) (fun c3 => ?_) (fun c3 => ?_)
    · exact absurd c3 (by omega)
    · refine lv_aload_n B.1 B.2.1 dX7_readingOn_10 rfl (lv_at hl 0 rfl) ?_
      refine y_getR B h kX7 (1000 + 16 * sh.toNat + 1) ((hv0 (1000 + 16 * sh.toNat + 1) (by omega)).trans fo1.1) 3 (b := G 3 sh) rfl m_463 (by decide) dX7_readingOn_11 ?_
      refine lv_iload_n B.1 B.2.1 dX7_readingOn_14 rfl (lv_at hl 1 rfl) ?_
      refine y_qald B h (1000 + 16 * sh.toNat + 3) 5 rfl ((hv0 (1000 + 16 * sh.toNat + 3) (by omega)).trans fo1.2.2) (by omega) dX7_readingOn_15 (fun f5 hf4 => ?_)
      rcases hf4 (v) (by omega) with ⟨e6, ne6⟩ | ⟨k7, rk7, pk7, qk7, e6⟩
      · rw [e6]
        show W p l e r_c_X7_readingOn_y s m args below meth c _ _ 0 0 Qf (F0 m 16 ls [.null])
        refine lv_goto (tgt := 20) B.1 B.2.1 dX7_readingOn_16 (by decide) ?_
        refine y_ra (r := none) B hQ h (by decide) dX7_readingOn_20 ?_
        exact ⟨rfl, _, rfl, Or.inl ⟨rfl, by first | assumption | (intro j hj hh; have := pi_5 (CW.pi hC) j; omega)⟩⟩
      · rw [e6]
        have fo8 := CW.rd hC k7 (by omega)
        show W p l e r_c_X7_readingOn_y s m args below meth c _ _ 0 0 Qf (F0 m 16 ls [.ref (G 4 k7)])
        refine lv_goto (tgt := 20) B.1 B.2.1 dX7_readingOn_16 (by decide) ?_
        refine y_ra (r := (some (G 4 k7))) B hQ h (by decide) dX7_readingOn_20 ?_
        exact ⟨rfl, _, rfl, Or.inr ⟨k7, rfl, ⟨by assumption, by assumption, by assumption⟩⟩⟩
  · show W p l e r_c_X7_readingOn_y s m args below meth c _ _ 0 0 Qf (F0 m 7 ls [.int (iI 0)])
    refine x_if_eq B (by omega) (tgt := 19) dX7_readingOn_7 (by decide) (fun c9 => ?_) (fun c9 => ?_)
    · refine lv_null B.1 B.2.1 dX7_readingOn_19 ?_
      refine y_ra (r := none) B hQ h (by decide) dX7_readingOn_20 ?_
      exact ⟨rfl, _, rfl, Or.inl ⟨rfl, by first | assumption | (intro j hj hh; have := pi_5 (CW.pi hC) j; omega)⟩⟩
    · exact absurd c9 (by omega)
abbrev r_c_X0_beside_y : Room := { frames := 2, cells := 0, slots := 0, locals := 42 }
set_option maxHeartbeats 4000000 in
set_option maxRecDepth 100000 in
theorem c_X0_beside_y (l : Launch) (D : va_G) (Zk : yK) (ca : Nat → ClassId) (T : Nat → Int → Int) (G : Nat → Int → Nat) (u : Int) (ad : Nat → Nat) (v0 w : yW) (hC : CW ca T G u ad v0) (hv0 : ∀ k : Nat, k ≠ 35 → w k = v0 k) (k : Int) (sh : Int)  (hk : 0 ≤ k ∧ k < T 0 2) (hsh : xr sh) : yC l D Zk ca yX0_beside cX0_beside 5 (some (.object "WindWords$Reading")) r_c_X0_beside_y [.ref (ad 1), .ref (G 4 k), .int (iI sh)] w (vQ w (fun q => (q = none ∧ ∀ j : Int, 0 ≤ j ∧ j < T 0 2 → ¬ (T 4 j = sh ∧ SEE T k j)) ∨ ∃ j : Int, q = some (G 4 j) ∧ (0 ≤ j ∧ j < T 0 2) ∧ T 4 j = sh ∧ SEE T k j)) := by
  refine yC.of2 "WindWords$Fleet" (by decide) rfl (Nat.le_of_ble_eq_true rfl) ?_
  intro p e s m args below meth c A ls Qf B hnm h hl hQ
  have hl : lv_has ls 5 [(0, .ref (ad 1)), (1, .ref (G 4 k)), (2, .int (iI sh))] := hl
  have hs := pi_s (CW.pi hC)
  have fo1 := CW.rd hC k (by omega)
  refine lv_aload_n B.1 B.2.1 dX0_beside_0 rfl (lv_at hl 0 rfl) ?_
  refine lv_iload_n B.1 B.2.1 dX0_beside_1 rfl (lv_at hl 2 rfl) ?_
  refine y_cV B h kX0 1 ((hv0 (1) (by omega)).trans ((CW.f hC 1 _ rfl))) k_X0_shipAt rfl (c_X0_shipAt_y l D Zk ca T G u ad _ _ hC hv0 sh  (by omega)) m_864 rfl (by decide) hl.1 [] (Nat.le_of_ble_eq_true rfl) rfl dX0_beside_2 (fun r w1 hq H locs h => ?_)
  obtain ⟨rfl, _, rfl, ⟨rfl, q2⟩ | ⟨rfl, q2⟩⟩ := hq
  · show W p l e r_c_X0_beside_y s m args below meth c _ _ 0 0 Qf (F0 m 5 ls [.null])
    refine lv_astore_nN (lv' := [(3, .null), (0, .ref (ad 1)), (1, .ref (G 4 k)), (2, .int (iI sh))]) B.1 B.2.1 dX0_beside_5 rfl hl (by decide) rfl (fun ls hl => ?_)
    refine lv_aload_n B.1 B.2.1 dX0_beside_6 rfl (lv_at hl 2 rfl) ?_
    refine lv_ifnull B.1 B.2.1 dX0_beside_7 ?_
    refine lv_aload_nN B.1 B.2.1 dX0_beside_10 rfl (lv_at hl 0 rfl) ?_
    refine lv_ifnullN (tgt := 25) B.1 B.2.1 dX0_beside_11 (by decide) ?_
    refine lv_null B.1 B.2.1 dX0_beside_25 ?_
    refine y_ra (r := none) B hQ h (by decide) dX0_beside_26 ?_
    refine ⟨rfl, _, rfl, Or.inl ⟨rfl, ?_⟩⟩
    intro j hj hh
    first
      | (have a1 := pi_4 (CW.pi hC) j; have a2 := pi_in (CW.pi hC) j hj; omega)
      | (exact absurd ⟨hh.1, hh.2.1⟩ (‹∀ j : Int, 0 ≤ j ∧ j < T 0 2 → ¬ (T 4 j = sh ∧ T 5 j = T 5 k)› j hj))
      | (exact absurd ⟨hh.1, hh.2.1⟩ (‹∀ j : Int, 0 ≤ j ∧ j < T 0 2 → ¬ (T 4 j = sh ∧ SEE T k j)› j hj))
  · have fo3 := CW.sh hC sh (by omega)
    show W p l e r_c_X0_beside_y s m args below meth c _ _ 0 0 Qf (F0 m 5 ls [.ref (G 1 sh)])
    refine lv_astore_n (lv' := [(3, .ref (G 1 sh)), (0, .ref (ad 1)), (1, .ref (G 4 k)), (2, .int (iI sh))]) B.1 B.2.1 dX0_beside_5 rfl hl (by decide) rfl (fun ls hl => ?_)
    refine lv_aload_n B.1 B.2.1 dX0_beside_6 rfl (lv_at hl 2 rfl) ?_
    refine lv_ifnull B.1 B.2.1 dX0_beside_7 ?_
    refine lv_aload_n B.1 B.2.1 dX0_beside_10 rfl (lv_at hl 0 rfl) ?_
    refine lv_ifnull B.1 B.2.1 dX0_beside_11 ?_
    refine lv_aload_n B.1 B.2.1 dX0_beside_14 rfl (lv_at hl 2 rfl) ?_
    refine y_getR B h kX4 (1000 + 16 * k.toNat + 4) ((hv0 (1000 + 16 * k.toNat + 4) (by omega)).trans fo1) 0 (b := G 1 (T 4 k)) rfl m_514 (by decide) dX0_beside_15 ?_
    have tb4 := pi_4 (CW.pi hC) k
    have pn5 := pi_in (CW.pi hC) k (by omega)
    have fo6 := CW.sh hC (T 4 k) (by omega)
    refine y_getX B h kX7 (1000 + 16 * ((T 4 k)).toNat + 1) ((hv0 (1000 + 16 * ((T 4 k)).toNat + 1) (by omega)).trans fo6.1) 0 (z := (T 4 k)) rfl m_457 (by decide) dX0_beside_18 ?_
    refine lv_iload_n B.1 B.2.1 dX0_beside_21 rfl (lv_at hl 3 rfl) ?_
    refine x_icmp_ne B (by omega) (tgt := 27) dX0_beside_22 (by decide) (fun c7 => ?_) (fun c7 => ?_)
    · refine lv_aload_n B.1 B.2.1 dX0_beside_27 rfl (lv_at hl 0 rfl) ?_
      refine lv_aload_n B.1 B.2.1 dX0_beside_28 rfl (lv_at hl 2 rfl) ?_
      refine y_getX B h kX4 (1000 + 16 * k.toNat + 4) ((hv0 (1000 + 16 * k.toNat + 4) (by omega)).trans fo1) 1 (z := (T 5 k)) rfl m_518 (by decide) dX0_beside_29 ?_
      have tb8 := pi_5 (CW.pi hC) k
      refine y_cV B h kX7 (1000 + 16 * sh.toNat + 1) ((hv0 (1000 + 16 * sh.toNat + 1) (by omega)).trans fo3.1) k_X7_readingOn rfl (c_X7_readingOn_y l D Zk ca T G u ad _ _ hC hv0 sh ((T 5 k))  (by omega) (by omega)) m_865 rfl (by decide) hl.1 [] (Nat.le_of_ble_eq_true rfl) rfl dX0_beside_32 (fun r w1 hq H locs h => ?_)
      obtain ⟨rfl, _, rfl, ⟨rfl, q9⟩ | ⟨k10, rfl, q9⟩⟩ := hq
      · show W p l e r_c_X0_beside_y s m args below meth c _ _ 0 0 Qf (F0 m 35 ls [.null])
        refine lv_astoreN (lv' := [(4, .null), (3, .ref (G 1 sh)), (0, .ref (ad 1)), (1, .ref (G 4 k)), (2, .int (iI sh))]) B.1 B.2.1 dX0_beside_35 hl (by decide) rfl (fun ls hl => ?_)
        refine lv_aloadN B.1 B.2.1 dX0_beside_37 (lv_at hl 0 rfl) ?_
        refine lv_ifnullN (tgt := 66) B.1 B.2.1 dX0_beside_39 (by decide) ?_
        refine lv_null B.1 B.2.1 dX0_beside_66 ?_
        refine y_ra (r := none) B hQ h (by decide) dX0_beside_67 ?_
        refine ⟨rfl, _, rfl, Or.inl ⟨rfl, ?_⟩⟩
        intro j hj hh
        first
          | (have a1 := pi_4 (CW.pi hC) j; have a2 := pi_in (CW.pi hC) j hj; omega)
          | (exact absurd ⟨hh.1, hh.2.1⟩ (‹∀ j : Int, 0 ≤ j ∧ j < T 0 2 → ¬ (T 4 j = sh ∧ T 5 j = T 5 k)› j hj))
          | (exact absurd ⟨hh.1, hh.2.1⟩ (‹∀ j : Int, 0 ≤ j ∧ j < T 0 2 → ¬ (T 4 j = sh ∧ SEE T k j)› j hj))
      · have fo11 := CW.rd hC k10 (by omega)
        show W p l e r_c_X0_beside_y s m args below meth c _ _ 0 0 Qf (F0 m 35 ls [.ref (G 4 k10)])
        refine lv_astore (lv' := [(4, .ref (G 4 k10)), (3, .ref (G 1 sh)), (0, .ref (ad 1)), (1, .ref (G 4 k)), (2, .int (iI sh))]) B.1 B.2.1 dX0_beside_35 hl (by decide) rfl (fun ls hl => ?_)
        refine lv_aload B.1 B.2.1 dX0_beside_37 (lv_at hl 0 rfl) ?_
        refine lv_ifnull B.1 B.2.1 dX0_beside_39 ?_
        refine lv_aload_n B.1 B.2.1 dX0_beside_42 rfl (lv_at hl 3 rfl) ?_
        refine y_getX B h kX4 (1000 + 16 * k.toNat + 4) ((hv0 (1000 + 16 * k.toNat + 4) (by omega)).trans fo1) 2 (z := (T 6 k)) rfl m_522 (by decide) dX0_beside_43 ?_
        have tb12 := pi_6 (CW.pi hC) k
        refine lv_aload B.1 B.2.1 dX0_beside_46 (lv_at hl 0 rfl) ?_
        refine y_getX B h kX4 (1000 + 16 * k10.toNat + 4) ((hv0 (1000 + 16 * k10.toNat + 4) (by omega)).trans fo11) 2 (z := (T 6 k10)) rfl m_522 (by decide) dX0_beside_48 ?_
        have tb13 := pi_6 (CW.pi hC) k10
        refine y_cSN (host := "WindWords") B h k_X11_far (c_X11_far l D Zk ca _ ((T 6 k)) ((T 6 k10))  (by omega) (by omega)) (by decide) rfl (by decide) hl.1 [] (Nat.le_of_ble_eq_true rfl) rfl dX0_beside_51 (fun r w1 hq H locs h => ?_)
        obtain ⟨rfl, z14, rfl, hz14⟩ := hq
        show W p l e r_c_X0_beside_y s m args below meth c _ _ 0 0 Qf (F0 m 54 ls [.int (iI z14)])
        refine lv_aload_n B.1 B.2.1 dX0_beside_54 rfl (lv_at hl 2 rfl) ?_
        refine y_getX B h kX0 1 ((hv0 (1) (by omega)).trans ((CW.f hC 1 _ rfl))) 7 (z := (T 0 4)) rfl m_153 (by decide) dX0_beside_55 ?_
        refine x_icmp_gt B (by omega) (tgt := 66) dX0_beside_58 (by decide) (fun c15 => ?_) (fun c15 => ?_)
        · refine lv_null B.1 B.2.1 dX0_beside_66 ?_
          refine y_ra (r := none) B hQ h (by decide) dX0_beside_67 ?_
          refine ⟨rfl, _, rfl, Or.inl ⟨rfl, ?_⟩⟩
          intro j hj hh
          first
            | (have a1 := pi_4 (CW.pi hC) j; have a2 := pi_in (CW.pi hC) j hj; omega)
            | (exact absurd ⟨hh.1, hh.2.1⟩ (‹∀ j : Int, 0 ≤ j ∧ j < T 0 2 → ¬ (T 4 j = sh ∧ T 5 j = T 5 k)› j hj))
            | (exact absurd ⟨hh.1, hh.2.1⟩ (‹∀ j : Int, 0 ≤ j ∧ j < T 0 2 → ¬ (T 4 j = sh ∧ SEE T k j)› j hj))
            | (have e9 := pi_un (CW.pi hC) (j := j) (k := k10) hj (by omega) (by omega) (by omega); rw [e9] at hh; omega)
        · refine lv_aload B.1 B.2.1 dX0_beside_61 (lv_at hl 0 rfl) ?_
          refine lv_goto (tgt := 67) B.1 B.2.1 dX0_beside_63 (by decide) ?_
          refine y_ra (r := (some (G 4 k10))) B hQ h (by decide) dX0_beside_67 ?_
          exact ⟨rfl, _, rfl, Or.inr ⟨k10, rfl, by omega, by omega, ⟨by omega, by omega, by omega⟩⟩⟩
    · refine lv_null B.1 B.2.1 dX0_beside_25 ?_
      refine y_ra (r := none) B hQ h (by decide) dX0_beside_26 ?_
      refine ⟨rfl, _, rfl, Or.inl ⟨rfl, ?_⟩⟩
      intro j hj hh
      first
        | (have a1 := pi_4 (CW.pi hC) j; have a2 := pi_in (CW.pi hC) j hj; omega)
        | (exact absurd ⟨hh.1, hh.2.1⟩ (‹∀ j : Int, 0 ≤ j ∧ j < T 0 2 → ¬ (T 4 j = sh ∧ T 5 j = T 5 k)› j hj))
        | (exact absurd ⟨hh.1, hh.2.1⟩ (‹∀ j : Int, 0 ≤ j ∧ j < T 0 2 → ¬ (T 4 j = sh ∧ SEE T k j)› j hj))
abbrev r_c_X0_beside_N_y : Room := { frames := 2, cells := 0, slots := 0, locals := 42 }
set_option maxHeartbeats 4000000 in
set_option maxRecDepth 100000 in
theorem c_X0_beside_N_y (l : Launch) (D : va_G) (Zk : yK) (ca : Nat → ClassId) (T : Nat → Int → Int) (G : Nat → Int → Nat) (u : Int) (ad : Nat → Nat) (v0 w : yW) (hC : CW ca T G u ad v0) (hv0 : ∀ k : Nat, k ≠ 35 → w k = v0 k) (sh : Int)  (hsh : xr sh) : yC l D Zk ca yX0_beside cX0_beside 5 (some (.object "WindWords$Reading")) r_c_X0_beside_N_y [.ref (ad 1), .null, .int (iI sh)] w (vQ w (fun q => q = none)) := by
  refine yC.of2 "WindWords$Fleet" (by decide) rfl (Nat.le_of_ble_eq_true rfl) ?_
  intro p e s m args below meth c A ls Qf B hnm h hl hQ
  have hl : lv_has ls 5 [(0, .ref (ad 1)), (1, .null), (2, .int (iI sh))] := hl
  have hs := pi_s (CW.pi hC)
  refine lv_aload_n B.1 B.2.1 dX0_beside_0 rfl (lv_at hl 0 rfl) ?_
  refine lv_iload_n B.1 B.2.1 dX0_beside_1 rfl (lv_at hl 2 rfl) ?_
  refine y_cV B h kX0 1 ((hv0 (1) (by omega)).trans ((CW.f hC 1 _ rfl))) k_X0_shipAt rfl (c_X0_shipAt_y l D Zk ca T G u ad _ _ hC hv0 sh  (by omega)) m_864 rfl (by decide) hl.1 [] (Nat.le_of_ble_eq_true rfl) rfl dX0_beside_2 (fun r w1 hq H locs h => ?_)
  obtain ⟨rfl, _, rfl, ⟨rfl, q1⟩ | ⟨rfl, q1⟩⟩ := hq
  · show W p l e r_c_X0_beside_N_y s m args below meth c _ _ 0 0 Qf (F0 m 5 ls [.null])
    refine lv_astore_nN (lv' := [(3, .null), (0, .ref (ad 1)), (1, .null), (2, .int (iI sh))]) B.1 B.2.1 dX0_beside_5 rfl hl (by decide) rfl (fun ls hl => ?_)
    refine lv_aload_nN B.1 B.2.1 dX0_beside_6 rfl (lv_at hl 2 rfl) ?_
    refine lv_ifnullN (tgt := 25) B.1 B.2.1 dX0_beside_7 (by decide) ?_
    refine lv_null B.1 B.2.1 dX0_beside_25 ?_
    refine y_ra (r := none) B hQ h (by decide) dX0_beside_26 ?_
    exact ⟨rfl, _, rfl, rfl⟩
  · have fo2 := CW.sh hC sh (by omega)
    show W p l e r_c_X0_beside_N_y s m args below meth c _ _ 0 0 Qf (F0 m 5 ls [.ref (G 1 sh)])
    refine lv_astore_n (lv' := [(3, .ref (G 1 sh)), (0, .ref (ad 1)), (1, .null), (2, .int (iI sh))]) B.1 B.2.1 dX0_beside_5 rfl hl (by decide) rfl (fun ls hl => ?_)
    refine lv_aload_nN B.1 B.2.1 dX0_beside_6 rfl (lv_at hl 2 rfl) ?_
    refine lv_ifnullN (tgt := 25) B.1 B.2.1 dX0_beside_7 (by decide) ?_
    refine lv_null B.1 B.2.1 dX0_beside_25 ?_
    refine y_ra (r := none) B hQ h (by decide) dX0_beside_26 ?_
    exact ⟨rfl, _, rfl, rfl⟩
abbrev r_c_X0_mansBeside_y : Room := { frames := 3, cells := 0, slots := 0, locals := 66 }
set_option maxHeartbeats 4000000 in
set_option maxRecDepth 100000 in
theorem c_X0_mansBeside_y (l : Launch) (D : va_G) (Zk : yK) (ca : Nat → ClassId) (T : Nat → Int → Int) (G : Nat → Int → Nat) (u : Int) (ad : Nat → Nat) (v0 w : yW) (hC : CW ca T G u ad v0) (hv0 : ∀ k : Nat, k ≠ 35 → w k = v0 k) (k : Int) (sh : Int)  (hk : 0 ≤ k ∧ k < T 0 2) (hsh : xr sh) : yC l D Zk ca yX0_mansBeside cX0_mansBeside 4 (some (.object "WindWords$Reading")) r_c_X0_mansBeside_y [.ref (ad 1), .ref (G 4 k), .int (iI sh)] w (vQ w (fun q => (q = none ∧ ∀ j : Int, 0 ≤ j ∧ j < T 0 2 → ¬ (T 4 j = sh ∧ SEE T k j ∧ T 7 j ≠ 3)) ∨ ∃ j : Int, q = some (G 4 j) ∧ (0 ≤ j ∧ j < T 0 2) ∧ T 4 j = sh ∧ SEE T k j ∧ T 7 j ≠ 3)) := by
  refine yC.of2 "WindWords$Fleet" (by decide) rfl (Nat.le_of_ble_eq_true rfl) ?_
  intro p e s m args below meth c A ls Qf B hnm h hl hQ
  have hl : lv_has ls 4 [(0, .ref (ad 1)), (1, .ref (G 4 k)), (2, .int (iI sh))] := hl
  have hs := pi_s (CW.pi hC)
  have fo1 := CW.rd hC k (by omega)
  refine lv_aload_n B.1 B.2.1 dX0_mansBeside_0 rfl (lv_at hl 0 rfl) ?_
  refine lv_aload_n B.1 B.2.1 dX0_mansBeside_1 rfl (lv_at hl 1 rfl) ?_
  refine lv_iload_n B.1 B.2.1 dX0_mansBeside_2 rfl (lv_at hl 2 rfl) ?_
  refine y_cV B h kX0 1 ((hv0 (1) (by omega)).trans ((CW.f hC 1 _ rfl))) k_X0_beside rfl (c_X0_beside_y l D Zk ca T G u ad _ _ hC hv0 k sh  (by omega) (by omega)) m_860 rfl (by decide) hl.1 [] (Nat.le_of_ble_eq_true rfl) rfl dX0_mansBeside_3 (fun r w1 hq H locs h => ?_)
  obtain ⟨rfl, _, rfl, ⟨rfl, q2⟩ | ⟨k3, rfl, q2⟩⟩ := hq
  · show W p l e r_c_X0_mansBeside_y s m args below meth c _ _ 0 0 Qf (F0 m 6 ls [.null])
    refine lv_astore_nN (lv' := [(3, .null), (0, .ref (ad 1)), (1, .ref (G 4 k)), (2, .int (iI sh))]) B.1 B.2.1 dX0_mansBeside_6 rfl hl (by decide) rfl (fun ls hl => ?_)
    refine lv_aload_nN B.1 B.2.1 dX0_mansBeside_7 rfl (lv_at hl 0 rfl) ?_
    refine lv_ifnullN (tgt := 22) B.1 B.2.1 dX0_mansBeside_8 (by decide) ?_
    refine lv_null B.1 B.2.1 dX0_mansBeside_22 ?_
    refine y_ra (r := none) B hQ h (by decide) dX0_mansBeside_23 ?_
    refine ⟨rfl, _, rfl, Or.inl ⟨rfl, ?_⟩⟩
    intro j hj hh
    first
      | (have a1 := pi_4 (CW.pi hC) j; have a2 := pi_in (CW.pi hC) j hj; omega)
      | (exact absurd ⟨hh.1, hh.2.1⟩ (‹∀ j : Int, 0 ≤ j ∧ j < T 0 2 → ¬ (T 4 j = sh ∧ T 5 j = T 5 k)› j hj))
      | (exact absurd ⟨hh.1, hh.2.1⟩ (‹∀ j : Int, 0 ≤ j ∧ j < T 0 2 → ¬ (T 4 j = sh ∧ SEE T k j)› j hj))
  · have fo4 := CW.rd hC k3 (by omega)
    show W p l e r_c_X0_mansBeside_y s m args below meth c _ _ 0 0 Qf (F0 m 6 ls [.ref (G 4 k3)])
    refine lv_astore_n (lv' := [(3, .ref (G 4 k3)), (0, .ref (ad 1)), (1, .ref (G 4 k)), (2, .int (iI sh))]) B.1 B.2.1 dX0_mansBeside_6 rfl hl (by decide) rfl (fun ls hl => ?_)
    refine lv_aload_n B.1 B.2.1 dX0_mansBeside_7 rfl (lv_at hl 0 rfl) ?_
    refine lv_ifnull B.1 B.2.1 dX0_mansBeside_8 ?_
    refine lv_aload_n B.1 B.2.1 dX0_mansBeside_11 rfl (lv_at hl 0 rfl) ?_
    refine y_cV B h kX4 (1000 + 16 * k3.toNat + 4) ((hv0 (1000 + 16 * k3.toNat + 4) (by omega)).trans fo4) k_X4_isMans rfl (c_X4_isMans_y l D Zk ca T G u ad _ _ hC hv0 k3  (by omega)) m_873 rfl (by decide) hl.1 [] (Nat.le_of_ble_eq_true rfl) rfl dX0_mansBeside_12 (fun r w1 hq H locs h => ?_)
    obtain ⟨rfl, _, rfl, ⟨rfl, b5⟩ | ⟨rfl, b5⟩⟩ := hq
    · show W p l e r_c_X0_mansBeside_y s m args below meth c _ _ 0 0 Qf (F0 m 15 ls [.int (iI 1)])
      refine x_if_eq B (by omega) (tgt := 22) dX0_mansBeside_15 (by decide) (fun c6 => ?_) (fun c6 => ?_)
      · exact absurd c6 (by omega)
      · refine lv_aload_n B.1 B.2.1 dX0_mansBeside_18 rfl (lv_at hl 0 rfl) ?_
        refine lv_goto (tgt := 23) B.1 B.2.1 dX0_mansBeside_19 (by decide) ?_
        refine y_ra (r := (some (G 4 k3))) B hQ h (by decide) dX0_mansBeside_23 ?_
        exact ⟨rfl, _, rfl, Or.inr ⟨k3, rfl, by omega, by omega, ⟨by omega, by omega, by omega⟩, by omega⟩⟩
    · show W p l e r_c_X0_mansBeside_y s m args below meth c _ _ 0 0 Qf (F0 m 15 ls [.int (iI 0)])
      refine x_if_eq B (by omega) (tgt := 22) dX0_mansBeside_15 (by decide) (fun c7 => ?_) (fun c7 => ?_)
      · refine lv_null B.1 B.2.1 dX0_mansBeside_22 ?_
        refine y_ra (r := none) B hQ h (by decide) dX0_mansBeside_23 ?_
        refine ⟨rfl, _, rfl, Or.inl ⟨rfl, ?_⟩⟩
        intro j hj hh
        first
          | (have a1 := pi_4 (CW.pi hC) j; have a2 := pi_in (CW.pi hC) j hj; omega)
          | (exact absurd ⟨hh.1, hh.2.1⟩ (‹∀ j : Int, 0 ≤ j ∧ j < T 0 2 → ¬ (T 4 j = sh ∧ T 5 j = T 5 k)› j hj))
          | (exact absurd ⟨hh.1, hh.2.1⟩ (‹∀ j : Int, 0 ≤ j ∧ j < T 0 2 → ¬ (T 4 j = sh ∧ SEE T k j)› j hj))
          | (have e9 := pi_un (CW.pi hC) (j := j) (k := k3) hj (by omega) (by omega) (by omega); rw [e9] at hh; omega)
      · exact absurd c7 (by omega)
abbrev r_c_X0_mansBeside_N_y : Room := { frames := 3, cells := 0, slots := 0, locals := 66 }
set_option maxHeartbeats 4000000 in
set_option maxRecDepth 100000 in
theorem c_X0_mansBeside_N_y (l : Launch) (D : va_G) (Zk : yK) (ca : Nat → ClassId) (T : Nat → Int → Int) (G : Nat → Int → Nat) (u : Int) (ad : Nat → Nat) (v0 w : yW) (hC : CW ca T G u ad v0) (hv0 : ∀ k : Nat, k ≠ 35 → w k = v0 k) (sh : Int)  (hsh : xr sh) : yC l D Zk ca yX0_mansBeside cX0_mansBeside 4 (some (.object "WindWords$Reading")) r_c_X0_mansBeside_N_y [.ref (ad 1), .null, .int (iI sh)] w (vQ w (fun q => q = none)) := by
  refine yC.of2 "WindWords$Fleet" (by decide) rfl (Nat.le_of_ble_eq_true rfl) ?_
  intro p e s m args below meth c A ls Qf B hnm h hl hQ
  have hl : lv_has ls 4 [(0, .ref (ad 1)), (1, .null), (2, .int (iI sh))] := hl
  have hs := pi_s (CW.pi hC)
  refine lv_aload_n B.1 B.2.1 dX0_mansBeside_0 rfl (lv_at hl 0 rfl) ?_
  refine lv_aload_nN B.1 B.2.1 dX0_mansBeside_1 rfl (lv_at hl 1 rfl) ?_
  refine lv_iload_n B.1 B.2.1 dX0_mansBeside_2 rfl (lv_at hl 2 rfl) ?_
  refine y_cV B h kX0 1 ((hv0 (1) (by omega)).trans ((CW.f hC 1 _ rfl))) k_X0_beside rfl (c_X0_beside_N_y l D Zk ca T G u ad _ _ hC hv0 sh  (by omega)) m_860 rfl (by decide) hl.1 [] (Nat.le_of_ble_eq_true rfl) rfl dX0_mansBeside_3 (fun r w1 hq H locs h => ?_)
  obtain ⟨rfl, _, rfl, rfl⟩ := hq
  show W p l e r_c_X0_mansBeside_N_y s m args below meth c _ _ 0 0 Qf (F0 m 6 ls [.null])
  refine lv_astore_nN (lv' := [(3, .null), (0, .ref (ad 1)), (1, .null), (2, .int (iI sh))]) B.1 B.2.1 dX0_mansBeside_6 rfl hl (by decide) rfl (fun ls hl => ?_)
  refine lv_aload_nN B.1 B.2.1 dX0_mansBeside_7 rfl (lv_at hl 0 rfl) ?_
  refine lv_ifnullN (tgt := 22) B.1 B.2.1 dX0_mansBeside_8 (by decide) ?_
  refine lv_null B.1 B.2.1 dX0_mansBeside_22 ?_
  refine y_ra (r := none) B hQ h (by decide) dX0_mansBeside_23 ?_
  exact ⟨rfl, _, rfl, rfl⟩
abbrev r_c_X11_firstBeside_e_y : Room := { frames := 4, cells := 0, slots := 0, locals := 89 }
set_option maxHeartbeats 4000000 in
set_option maxRecDepth 100000 in
theorem c_X11_firstBeside_e_y (l : Launch) (D : va_G) (Zk : yK) (ca : Nat → ClassId) (T : Nat → Int → Int) (G : Nat → Int → Nat) (u : Int) (ad : Nat → Nat) (v0 w : yW) (hC : CW ca T G u ad v0) (hv0 : ∀ k : Nat, k ≠ 35 → w k = v0 k) (k : Int)  (hk : 0 ≤ k ∧ k < T 0 2) : yC l D Zk ca yX11_firstBeside cX11_firstBeside 5 (some (.object "WindWords$Reading")) r_c_X11_firstBeside_e_y [.ref (ad 0), .ref (G 4 k)] w (vQ w (fun q => (q = none ∧ ∀ j : Int, 0 ≤ j ∧ j < T 0 2 → ¬ (SEE T k j ∧ T 7 j ≠ 3)) ∨ ∃ j : Int, q = some (G 4 j) ∧ (0 ≤ j ∧ j < T 0 2) ∧ BES T k j)) := by
  refine yC.of2 "WindWords" (by decide) rfl (Nat.le_of_ble_eq_true rfl) ?_
  intro p e s m args below meth c A ls Qf B hnm h hl hQ
  have hl : lv_has ls 5 [(0, .ref (ad 0)), (1, .ref (G 4 k))] := hl
  have hs := pi_s (CW.pi hC)
  have fo1 := CW.rd hC k (by omega)
  refine lv_null B.1 B.2.1 dX11_firstBeside_0 ?_
  refine lv_astore_nN (lv' := [(2, .null), (0, .ref (ad 0)), (1, .ref (G 4 k))]) B.1 B.2.1 dX11_firstBeside_1 rfl hl (by decide) rfl (fun ls hl => ?_)
  refine x_iconst B dX11_firstBeside_2 ?_
  refine lv_istore_n (lv' := [(3, .int (iI 0)), (2, .null), (0, .ref (ad 0)), (1, .ref (G 4 k))]) B.1 B.2.1 dX11_firstBeside_3 rfl hl (by decide) rfl (fun ls hl => ?_)
  have hl : lv_has ls 5 [(3, .int (iI 0)), (2, va_rf (if ((-1)) < 0 then none else some (G 4 ((-1))))), (0, .ref (ad 0)), (1, .ref (G 4 k))] := hl
  have loop4 : ∀ (n4 : Nat) (i : Int) (f : Int), (0 ≤ i ∧ i ≤ T 0 1) → (f < 0 ∨ (0 ≤ f ∧ f < T 0 2)) → (FB T k i f) → ((12 - i : Int)).toNat < n4 → ∀ (H : Heap) (locs : List Loc) (ls : Array Slot), yH D Zk A s w H locs → lv_has ls 5 [(3, .int (iI i)), (2, va_rf (if f < 0 then none else some (G 4 f))), (0, .ref (ad 0)), (1, .ref (G 4 k))] → W p l e r_c_X11_firstBeside_e_y s m args below meth c H locs 0 0 Qf (F0 m 4 ls []) := by
    intro n4
    induction n4 with
    | zero =>
      intro i f h0 h9 h1 hm4 H locs ls h hl
      exact absurd hm4 (Nat.not_lt_zero _)
    | succ n4 ih4 =>
      intro i f h0 h9 h1 hm4 H locs ls h hl
      by_cases hqf : f < 0
      · have hl : lv_has ls 5 [(3, .int (iI i)), (2, .null), (0, .ref (ad 0)), (1, .ref (G 4 k))] := by rw [if_pos hqf] at hl; exact hl
        refine lv_iload_n B.1 B.2.1 dX11_firstBeside_4 rfl (lv_at hl 0 rfl) ?_
        refine lv_aload_n B.1 B.2.1 dX11_firstBeside_5 rfl (lv_at hl 2 rfl) ?_
        refine y_getR B h kX11 0 ((hv0 (0) (by omega)).trans ((CW.f hC 0 _ rfl))) 0 (b := ad 1) rfl m_361 (by decide) dX11_firstBeside_6 ?_
        refine y_getX B h kX0 1 ((hv0 (1) (by omega)).trans ((CW.f hC 1 _ rfl))) 4 (z := (T 0 1)) rfl m_143 (by decide) dX11_firstBeside_9 ?_
        refine x_icmp_ge B (by omega) (tgt := 56) dX11_firstBeside_12 (by decide) (fun c2 => ?_) (fun c2 => ?_)
        · refine lv_aload_nN B.1 B.2.1 dX11_firstBeside_56 rfl (lv_at hl 1 rfl) ?_
          refine y_ra (r := none) B hQ h (by decide) dX11_firstBeside_57 ?_
          exact ⟨rfl, _, rfl, Or.inl ⟨rfl, FB_no (CW.pi hC) h1 (by omega) (by omega)⟩⟩
        · refine lv_aload_n B.1 B.2.1 dX11_firstBeside_15 rfl (lv_at hl 2 rfl) ?_
          refine y_getR B h kX11 0 ((hv0 (0) (by omega)).trans ((CW.f hC 0 _ rfl))) 0 (b := ad 1) rfl m_361 (by decide) dX11_firstBeside_16 ?_
          refine lv_aload_n B.1 B.2.1 dX11_firstBeside_19 rfl (lv_at hl 3 rfl) ?_
          refine lv_iload_n B.1 B.2.1 dX11_firstBeside_20 rfl (lv_at hl 0 rfl) ?_
          refine y_cV B h kX0 1 ((hv0 (1) (by omega)).trans ((CW.f hC 1 _ rfl))) k_X0_mansBeside rfl (c_X0_mansBeside_y l D Zk ca T G u ad _ _ hC hv0 k i  (by omega) (by omega)) m_856 rfl (by decide) hl.1 [] (Nat.le_of_ble_eq_true rfl) rfl dX11_firstBeside_21 (fun r w1 hq H locs h => ?_)
          obtain ⟨rfl, _, rfl, ⟨rfl, cbz9⟩ | ⟨bqz9, rfl, cbz9⟩⟩ := hq
          · show W p l e r_c_X11_firstBeside_e_y s m args below meth c _ _ 0 0 Qf (F0 m 24 ls [.null])
            refine lv_astoreN (lv' := [(4, .null), (3, .int (iI i)), (2, .null), (0, .ref (ad 0)), (1, .ref (G 4 k))]) B.1 B.2.1 dX11_firstBeside_24 hl (by decide) rfl (fun ls hl => ?_)
            refine lv_aloadN B.1 B.2.1 dX11_firstBeside_26 (lv_at hl 0 rfl) ?_
            refine lv_ifnullN (tgt := 50) B.1 B.2.1 dX11_firstBeside_28 (by decide) ?_
            refine lv_iinc (v := iI (i + 1)) (lv' := [(3, .int (iI (i + 1))), (4, .null), (2, .null), (0, .ref (ad 0)), (1, .ref (G 4 k))]) B.1 B.2.1 dX11_firstBeside_50 hl (k := 1) rfl (iI_add _ _) (by decide) rfl (fun ls hl => ?_)
            refine lv_goto (tgt := 4) B.1 B.2.1 dX11_firstBeside_53 (by decide) ?_
            have hl : lv_has ls 5 [(3, .int (iI (i + 1))), (4, .null), (2, va_rf (if ((-1)) < 0 then none else some (G 4 ((-1))))), (0, .ref (ad 0)), (1, .ref (G 4 k))] := hl
            exact ih4 ((i + 1)) ((-1)) (by omega) (by omega) (FB_none (FB_neg h1 (by omega)) cbz9) (by omega) _ _ _ h (lv_sub hl [0, 2, 3, 4] rfl)
          · have fo5 := CW.rd hC bqz9 (by omega)
            show W p l e r_c_X11_firstBeside_e_y s m args below meth c _ _ 0 0 Qf (F0 m 24 ls [.ref (G 4 bqz9)])
            refine lv_astore (lv' := [(4, .ref (G 4 bqz9)), (3, .int (iI i)), (2, .null), (0, .ref (ad 0)), (1, .ref (G 4 k))]) B.1 B.2.1 dX11_firstBeside_24 hl (by decide) rfl (fun ls hl => ?_)
            refine lv_aload B.1 B.2.1 dX11_firstBeside_26 (lv_at hl 0 rfl) ?_
            refine lv_ifnull B.1 B.2.1 dX11_firstBeside_28 ?_
            refine lv_aload_nN B.1 B.2.1 dX11_firstBeside_31 rfl (lv_at hl 2 rfl) ?_
            refine lv_ifnullN (tgt := 47) B.1 B.2.1 dX11_firstBeside_32 (by decide) ?_
            refine lv_aload B.1 B.2.1 dX11_firstBeside_47 (lv_at hl 0 rfl) ?_
            refine lv_astore_n (lv' := [(2, .ref (G 4 bqz9)), (4, .ref (G 4 bqz9)), (3, .int (iI i)), (0, .ref (ad 0)), (1, .ref (G 4 k))]) B.1 B.2.1 dX11_firstBeside_49 rfl hl (by decide) rfl (fun ls hl => ?_)
            refine lv_iinc (v := iI (i + 1)) (lv' := [(3, .int (iI (i + 1))), (2, .ref (G 4 bqz9)), (4, .ref (G 4 bqz9)), (0, .ref (ad 0)), (1, .ref (G 4 k))]) B.1 B.2.1 dX11_firstBeside_50 hl (k := 2) rfl (iI_add _ _) (by decide) rfl (fun ls hl => ?_)
            refine lv_goto (tgt := 4) B.1 B.2.1 dX11_firstBeside_53 (by decide) ?_
            have hl : lv_has ls 5 [(3, .int (iI (i + 1))), (2, va_rf (if bqz9 < 0 then none else some (G 4 bqz9))), (4, .ref (G 4 bqz9)), (0, .ref (ad 0)), (1, .ref (G 4 k))] := by rw [if_neg (show ¬ bqz9 < 0 by omega)]; exact hl
            exact ih4 ((i + 1)) bqz9 (by omega) (by omega) (FB_new (CW.pi hC) h1 cbz9 (by omega)) (by omega) _ _ _ h (lv_sub hl [0, 1, 3, 4] rfl)
      · have hl : lv_has ls 5 [(3, .int (iI i)), (2, .ref (G 4 f)), (0, .ref (ad 0)), (1, .ref (G 4 k))] := by rw [if_neg hqf] at hl; exact hl
        have fo6 := CW.rd hC f (by omega)
        refine lv_iload_n B.1 B.2.1 dX11_firstBeside_4 rfl (lv_at hl 0 rfl) ?_
        refine lv_aload_n B.1 B.2.1 dX11_firstBeside_5 rfl (lv_at hl 2 rfl) ?_
        refine y_getR B h kX11 0 ((hv0 (0) (by omega)).trans ((CW.f hC 0 _ rfl))) 0 (b := ad 1) rfl m_361 (by decide) dX11_firstBeside_6 ?_
        refine y_getX B h kX0 1 ((hv0 (1) (by omega)).trans ((CW.f hC 1 _ rfl))) 4 (z := (T 0 1)) rfl m_143 (by decide) dX11_firstBeside_9 ?_
        refine x_icmp_ge B (by omega) (tgt := 56) dX11_firstBeside_12 (by decide) (fun c7 => ?_) (fun c7 => ?_)
        · refine lv_aload_n B.1 B.2.1 dX11_firstBeside_56 rfl (lv_at hl 1 rfl) ?_
          refine y_ra (r := (some (G 4 f))) B hQ h (by decide) dX11_firstBeside_57 ?_
          exact ⟨rfl, _, rfl, Or.inr ⟨f, rfl, (FB_yes (CW.pi hC) h1 (by omega) (by omega)).1, FB_yes (CW.pi hC) h1 (by omega) (by omega)⟩⟩
        · refine lv_aload_n B.1 B.2.1 dX11_firstBeside_15 rfl (lv_at hl 2 rfl) ?_
          refine y_getR B h kX11 0 ((hv0 (0) (by omega)).trans ((CW.f hC 0 _ rfl))) 0 (b := ad 1) rfl m_361 (by decide) dX11_firstBeside_16 ?_
          refine lv_aload_n B.1 B.2.1 dX11_firstBeside_19 rfl (lv_at hl 3 rfl) ?_
          refine lv_iload_n B.1 B.2.1 dX11_firstBeside_20 rfl (lv_at hl 0 rfl) ?_
          refine y_cV B h kX0 1 ((hv0 (1) (by omega)).trans ((CW.f hC 1 _ rfl))) k_X0_mansBeside rfl (c_X0_mansBeside_y l D Zk ca T G u ad _ _ hC hv0 k i  (by omega) (by omega)) m_856 rfl (by decide) hl.1 [] (Nat.le_of_ble_eq_true rfl) rfl dX11_firstBeside_21 (fun r w1 hq H locs h => ?_)
          obtain ⟨rfl, _, rfl, ⟨rfl, cbz9⟩ | ⟨bqz9, rfl, cbz9⟩⟩ := hq
          · show W p l e r_c_X11_firstBeside_e_y s m args below meth c _ _ 0 0 Qf (F0 m 24 ls [.null])
            refine lv_astoreN (lv' := [(4, .null), (3, .int (iI i)), (2, .ref (G 4 f)), (0, .ref (ad 0)), (1, .ref (G 4 k))]) B.1 B.2.1 dX11_firstBeside_24 hl (by decide) rfl (fun ls hl => ?_)
            refine lv_aloadN B.1 B.2.1 dX11_firstBeside_26 (lv_at hl 0 rfl) ?_
            refine lv_ifnullN (tgt := 50) B.1 B.2.1 dX11_firstBeside_28 (by decide) ?_
            refine lv_iinc (v := iI (i + 1)) (lv' := [(3, .int (iI (i + 1))), (4, .null), (2, .ref (G 4 f)), (0, .ref (ad 0)), (1, .ref (G 4 k))]) B.1 B.2.1 dX11_firstBeside_50 hl (k := 1) rfl (iI_add _ _) (by decide) rfl (fun ls hl => ?_)
            refine lv_goto (tgt := 4) B.1 B.2.1 dX11_firstBeside_53 (by decide) ?_
            have hl : lv_has ls 5 [(3, .int (iI (i + 1))), (4, .null), (2, va_rf (if f < 0 then none else some (G 4 f))), (0, .ref (ad 0)), (1, .ref (G 4 k))] := by rw [if_neg (show ¬ f < 0 by omega)]; exact hl
            exact ih4 ((i + 1)) f (by omega) (by omega) (by first | exact FB_none h1 cbz9 | exact FB_keep (CW.pi hC) h1 cbz9 (by omega)) (by omega) _ _ _ h (lv_sub hl [0, 2, 3, 4] rfl)
          · have fo10 := CW.rd hC bqz9 (by omega)
            show W p l e r_c_X11_firstBeside_e_y s m args below meth c _ _ 0 0 Qf (F0 m 24 ls [.ref (G 4 bqz9)])
            refine lv_astore (lv' := [(4, .ref (G 4 bqz9)), (3, .int (iI i)), (2, .ref (G 4 f)), (0, .ref (ad 0)), (1, .ref (G 4 k))]) B.1 B.2.1 dX11_firstBeside_24 hl (by decide) rfl (fun ls hl => ?_)
            refine lv_aload B.1 B.2.1 dX11_firstBeside_26 (lv_at hl 0 rfl) ?_
            refine lv_ifnull B.1 B.2.1 dX11_firstBeside_28 ?_
            refine lv_aload_n B.1 B.2.1 dX11_firstBeside_31 rfl (lv_at hl 2 rfl) ?_
            refine lv_ifnull B.1 B.2.1 dX11_firstBeside_32 ?_
            refine lv_aload B.1 B.2.1 dX11_firstBeside_35 (lv_at hl 0 rfl) ?_
            refine y_getX B h kX4 (1000 + 16 * bqz9.toNat + 4) ((hv0 (1000 + 16 * bqz9.toNat + 4) (by omega)).trans fo10) 7 (z := bqz9) rfl m_539 (by decide) dX11_firstBeside_37 ?_
            refine lv_aload_n B.1 B.2.1 dX11_firstBeside_40 rfl (lv_at hl 2 rfl) ?_
            refine y_getX B h kX4 (1000 + 16 * f.toNat + 4) ((hv0 (1000 + 16 * f.toNat + 4) (by omega)).trans fo6) 7 (z := f) rfl m_539 (by decide) dX11_firstBeside_41 ?_
            refine x_icmp_ge B (by omega) (tgt := 50) dX11_firstBeside_44 (by decide) (fun c11 => ?_) (fun c11 => ?_)
            · refine lv_iinc (v := iI (i + 1)) (lv' := [(3, .int (iI (i + 1))), (4, .ref (G 4 bqz9)), (2, .ref (G 4 f)), (0, .ref (ad 0)), (1, .ref (G 4 k))]) B.1 B.2.1 dX11_firstBeside_50 hl (k := 1) rfl (iI_add _ _) (by decide) rfl (fun ls hl => ?_)
              refine lv_goto (tgt := 4) B.1 B.2.1 dX11_firstBeside_53 (by decide) ?_
              have hl : lv_has ls 5 [(3, .int (iI (i + 1))), (4, .ref (G 4 bqz9)), (2, va_rf (if f < 0 then none else some (G 4 f))), (0, .ref (ad 0)), (1, .ref (G 4 k))] := by rw [if_neg (show ¬ f < 0 by omega)]; exact hl
              exact ih4 ((i + 1)) f (by omega) (by omega) (by first | exact FB_none h1 cbz9 | exact FB_keep (CW.pi hC) h1 cbz9 (by omega)) (by omega) _ _ _ h (lv_sub hl [0, 2, 3, 4] rfl)
            · refine lv_aload B.1 B.2.1 dX11_firstBeside_47 (lv_at hl 0 rfl) ?_
              refine lv_astore_n (lv' := [(2, .ref (G 4 bqz9)), (4, .ref (G 4 bqz9)), (3, .int (iI i)), (0, .ref (ad 0)), (1, .ref (G 4 k))]) B.1 B.2.1 dX11_firstBeside_49 rfl hl (by decide) rfl (fun ls hl => ?_)
              refine lv_iinc (v := iI (i + 1)) (lv' := [(3, .int (iI (i + 1))), (2, .ref (G 4 bqz9)), (4, .ref (G 4 bqz9)), (0, .ref (ad 0)), (1, .ref (G 4 k))]) B.1 B.2.1 dX11_firstBeside_50 hl (k := 2) rfl (iI_add _ _) (by decide) rfl (fun ls hl => ?_)
              refine lv_goto (tgt := 4) B.1 B.2.1 dX11_firstBeside_53 (by decide) ?_
              have hl : lv_has ls 5 [(3, .int (iI (i + 1))), (2, va_rf (if bqz9 < 0 then none else some (G 4 bqz9))), (4, .ref (G 4 bqz9)), (0, .ref (ad 0)), (1, .ref (G 4 k))] := by rw [if_neg (show ¬ bqz9 < 0 by omega)]; exact hl
              exact ih4 ((i + 1)) bqz9 (by omega) (by omega) (FB_new (CW.pi hC) h1 cbz9 (by omega)) (by omega) _ _ _ h (lv_sub hl [0, 1, 3, 4] rfl)
  exact loop4 (((12 - 0 : Int)).toNat + 1) 0 ((-1)) (by omega) (by omega) (FB_0 (CW.pi hC)) (Nat.lt_succ_self _) _ _ _ h (lv_sub hl [0, 1, 2, 3] rfl)
abbrev r_c_J6_bitCount_0f7a4_e : Room := { frames := 0, cells := 0, slots := 0, locals := 0 }
set_option maxHeartbeats 4000000 in
set_option maxRecDepth 100000 in
theorem c_J6_bitCount_0f7a4_e (l : Launch) (D : va_G) (Zk : yK) (ca : Nat → ClassId) (w : yW) (v : Int)  (hv : 0 ≤ v ∧ v ≤ 4095) : yC l D Zk ca yJ6_bitCount_0f7a4 cJ6_bitCount_0f7a4 1 (some .int) r_c_J6_bitCount_0f7a4_e [.int (iI v)] w (vI w (fun z => z = pcn v 12 ∧ 0 ≤ z ∧ z ≤ 12)) := by
  refine yC.of2 "java/lang/Integer" (by decide) rfl (Nat.le_of_ble_eq_true rfl) ?_
  intro p e s m args below meth c A ls Qf B hnm h hl hQ
  have hl : lv_has ls 1 [(0, .int (iI v))] := hl
  refine lv_iload_n B.1 B.2.1 dJ6_bitCount_0f7a4_0 rfl (lv_at hl 0 rfl) ?_
  refine lv_iload_n B.1 B.2.1 dJ6_bitCount_0f7a4_1 rfl (lv_at hl 0 rfl) ?_
  refine x_iconst B dJ6_bitCount_0f7a4_2 ?_
  refine lv_iushr B.1 B.2.1 dJ6_bitCount_0f7a4_3 rfl ?_
  refine x_iset (z := (usr v 1)) (iI_of _) ?_
  refine x_ldcw B (z := 1431655765) m_1143 (by decide) dJ6_bitCount_0f7a4_4 ?_
  refine lv_iand B.1 B.2.1 dJ6_bitCount_0f7a4_7 ?_
  refine x_iset (z := (andi ((usr v 1)) 1431655765)) (iI_of _) ?_
  refine x_isub B dJ6_bitCount_0f7a4_8 ?_
  refine lv_istore_n (lv' := [(0, .int (iI (v - (andi ((usr v 1)) 1431655765))))]) B.1 B.2.1 dJ6_bitCount_0f7a4_9 rfl hl (by decide) rfl (fun ls hl => ?_)
  refine lv_iload_n B.1 B.2.1 dJ6_bitCount_0f7a4_10 rfl (lv_at hl 0 rfl) ?_
  refine x_ldcw B (z := 858993459) m_1144 (by decide) dJ6_bitCount_0f7a4_11 ?_
  refine lv_iand B.1 B.2.1 dJ6_bitCount_0f7a4_14 ?_
  refine x_iset (z := (andi ((v - (andi ((usr v 1)) 1431655765))) 858993459)) (iI_of _) ?_
  refine lv_iload_n B.1 B.2.1 dJ6_bitCount_0f7a4_15 rfl (lv_at hl 0 rfl) ?_
  refine x_iconst B dJ6_bitCount_0f7a4_16 ?_
  refine lv_iushr B.1 B.2.1 dJ6_bitCount_0f7a4_17 rfl ?_
  refine x_iset (z := (usr ((v - (andi ((usr v 1)) 1431655765))) 2)) (iI_of _) ?_
  refine x_ldcw B (z := 858993459) m_1144 (by decide) dJ6_bitCount_0f7a4_18 ?_
  refine lv_iand B.1 B.2.1 dJ6_bitCount_0f7a4_21 ?_
  refine x_iset (z := (andi ((usr ((v - (andi ((usr v 1)) 1431655765))) 2)) 858993459)) (iI_of _) ?_
  refine x_iadd B dJ6_bitCount_0f7a4_22 ?_
  refine lv_istore_n (lv' := [(0, .int (iI ((andi ((v - (andi ((usr v 1)) 1431655765))) 858993459) + (andi ((usr ((v - (andi ((usr v 1)) 1431655765))) 2)) 858993459))))]) B.1 B.2.1 dJ6_bitCount_0f7a4_23 rfl hl (by decide) rfl (fun ls hl => ?_)
  refine lv_iload_n B.1 B.2.1 dJ6_bitCount_0f7a4_24 rfl (lv_at hl 0 rfl) ?_
  refine lv_iload_n B.1 B.2.1 dJ6_bitCount_0f7a4_25 rfl (lv_at hl 0 rfl) ?_
  refine x_iconst B dJ6_bitCount_0f7a4_26 ?_
  refine lv_iushr B.1 B.2.1 dJ6_bitCount_0f7a4_27 rfl ?_
  refine x_iset (z := (usr (((andi ((v - (andi ((usr v 1)) 1431655765))) 858993459) + (andi ((usr ((v - (andi ((usr v 1)) 1431655765))) 2)) 858993459))) 4)) (iI_of _) ?_
  refine x_iadd B dJ6_bitCount_0f7a4_28 ?_
  refine x_ldcw B (z := 252645135) m_1145 (by decide) dJ6_bitCount_0f7a4_29 ?_
  refine lv_iand B.1 B.2.1 dJ6_bitCount_0f7a4_32 ?_
  refine x_iset (z := (andi ((((andi ((v - (andi ((usr v 1)) 1431655765))) 858993459) + (andi ((usr ((v - (andi ((usr v 1)) 1431655765))) 2)) 858993459)) + (usr (((andi ((v - (andi ((usr v 1)) 1431655765))) 858993459) + (andi ((usr ((v - (andi ((usr v 1)) 1431655765))) 2)) 858993459))) 4))) 252645135)) (iI_of _) ?_
  refine lv_istore_n (lv' := [(0, .int (iI (andi ((((andi ((v - (andi ((usr v 1)) 1431655765))) 858993459) + (andi ((usr ((v - (andi ((usr v 1)) 1431655765))) 2)) 858993459)) + (usr (((andi ((v - (andi ((usr v 1)) 1431655765))) 858993459) + (andi ((usr ((v - (andi ((usr v 1)) 1431655765))) 2)) 858993459))) 4))) 252645135)))]) B.1 B.2.1 dJ6_bitCount_0f7a4_33 rfl hl (by decide) rfl (fun ls hl => ?_)
  refine lv_iload_n B.1 B.2.1 dJ6_bitCount_0f7a4_34 rfl (lv_at hl 0 rfl) ?_
  refine lv_iload_n B.1 B.2.1 dJ6_bitCount_0f7a4_35 rfl (lv_at hl 0 rfl) ?_
  refine x_bipush B (by decide) dJ6_bitCount_0f7a4_36 ?_
  refine lv_iushr B.1 B.2.1 dJ6_bitCount_0f7a4_38 rfl ?_
  refine x_iset (z := (usr ((andi ((((andi ((v - (andi ((usr v 1)) 1431655765))) 858993459) + (andi ((usr ((v - (andi ((usr v 1)) 1431655765))) 2)) 858993459)) + (usr (((andi ((v - (andi ((usr v 1)) 1431655765))) 858993459) + (andi ((usr ((v - (andi ((usr v 1)) 1431655765))) 2)) 858993459))) 4))) 252645135)) 8)) (iI_of _) ?_
  refine x_iadd B dJ6_bitCount_0f7a4_39 ?_
  refine lv_istore_n (lv' := [(0, .int (iI ((andi ((((andi ((v - (andi ((usr v 1)) 1431655765))) 858993459) + (andi ((usr ((v - (andi ((usr v 1)) 1431655765))) 2)) 858993459)) + (usr (((andi ((v - (andi ((usr v 1)) 1431655765))) 858993459) + (andi ((usr ((v - (andi ((usr v 1)) 1431655765))) 2)) 858993459))) 4))) 252645135) + (usr ((andi ((((andi ((v - (andi ((usr v 1)) 1431655765))) 858993459) + (andi ((usr ((v - (andi ((usr v 1)) 1431655765))) 2)) 858993459)) + (usr (((andi ((v - (andi ((usr v 1)) 1431655765))) 858993459) + (andi ((usr ((v - (andi ((usr v 1)) 1431655765))) 2)) 858993459))) 4))) 252645135)) 8))))]) B.1 B.2.1 dJ6_bitCount_0f7a4_40 rfl hl (by decide) rfl (fun ls hl => ?_)
  refine lv_iload_n B.1 B.2.1 dJ6_bitCount_0f7a4_41 rfl (lv_at hl 0 rfl) ?_
  refine lv_iload_n B.1 B.2.1 dJ6_bitCount_0f7a4_42 rfl (lv_at hl 0 rfl) ?_
  refine x_bipush B (by decide) dJ6_bitCount_0f7a4_43 ?_
  refine lv_iushr B.1 B.2.1 dJ6_bitCount_0f7a4_45 rfl ?_
  refine x_iset (z := (usr (((andi ((((andi ((v - (andi ((usr v 1)) 1431655765))) 858993459) + (andi ((usr ((v - (andi ((usr v 1)) 1431655765))) 2)) 858993459)) + (usr (((andi ((v - (andi ((usr v 1)) 1431655765))) 858993459) + (andi ((usr ((v - (andi ((usr v 1)) 1431655765))) 2)) 858993459))) 4))) 252645135) + (usr ((andi ((((andi ((v - (andi ((usr v 1)) 1431655765))) 858993459) + (andi ((usr ((v - (andi ((usr v 1)) 1431655765))) 2)) 858993459)) + (usr (((andi ((v - (andi ((usr v 1)) 1431655765))) 858993459) + (andi ((usr ((v - (andi ((usr v 1)) 1431655765))) 2)) 858993459))) 4))) 252645135)) 8))) 16)) (iI_of _) ?_
  refine x_iadd B dJ6_bitCount_0f7a4_46 ?_
  refine lv_istore_n (lv' := [(0, .int (iI (((andi ((((andi ((v - (andi ((usr v 1)) 1431655765))) 858993459) + (andi ((usr ((v - (andi ((usr v 1)) 1431655765))) 2)) 858993459)) + (usr (((andi ((v - (andi ((usr v 1)) 1431655765))) 858993459) + (andi ((usr ((v - (andi ((usr v 1)) 1431655765))) 2)) 858993459))) 4))) 252645135) + (usr ((andi ((((andi ((v - (andi ((usr v 1)) 1431655765))) 858993459) + (andi ((usr ((v - (andi ((usr v 1)) 1431655765))) 2)) 858993459)) + (usr (((andi ((v - (andi ((usr v 1)) 1431655765))) 858993459) + (andi ((usr ((v - (andi ((usr v 1)) 1431655765))) 2)) 858993459))) 4))) 252645135)) 8)) + (usr (((andi ((((andi ((v - (andi ((usr v 1)) 1431655765))) 858993459) + (andi ((usr ((v - (andi ((usr v 1)) 1431655765))) 2)) 858993459)) + (usr (((andi ((v - (andi ((usr v 1)) 1431655765))) 858993459) + (andi ((usr ((v - (andi ((usr v 1)) 1431655765))) 2)) 858993459))) 4))) 252645135) + (usr ((andi ((((andi ((v - (andi ((usr v 1)) 1431655765))) 858993459) + (andi ((usr ((v - (andi ((usr v 1)) 1431655765))) 2)) 858993459)) + (usr (((andi ((v - (andi ((usr v 1)) 1431655765))) 858993459) + (andi ((usr ((v - (andi ((usr v 1)) 1431655765))) 2)) 858993459))) 4))) 252645135)) 8))) 16))))]) B.1 B.2.1 dJ6_bitCount_0f7a4_47 rfl hl (by decide) rfl (fun ls hl => ?_)
  refine lv_iload_n B.1 B.2.1 dJ6_bitCount_0f7a4_48 rfl (lv_at hl 0 rfl) ?_
  refine x_bipush B (by decide) dJ6_bitCount_0f7a4_49 ?_
  refine lv_iand B.1 B.2.1 dJ6_bitCount_0f7a4_51 ?_
  refine x_iset (z := (andi ((((andi ((((andi ((v - (andi ((usr v 1)) 1431655765))) 858993459) + (andi ((usr ((v - (andi ((usr v 1)) 1431655765))) 2)) 858993459)) + (usr (((andi ((v - (andi ((usr v 1)) 1431655765))) 858993459) + (andi ((usr ((v - (andi ((usr v 1)) 1431655765))) 2)) 858993459))) 4))) 252645135) + (usr ((andi ((((andi ((v - (andi ((usr v 1)) 1431655765))) 858993459) + (andi ((usr ((v - (andi ((usr v 1)) 1431655765))) 2)) 858993459)) + (usr (((andi ((v - (andi ((usr v 1)) 1431655765))) 858993459) + (andi ((usr ((v - (andi ((usr v 1)) 1431655765))) 2)) 858993459))) 4))) 252645135)) 8)) + (usr (((andi ((((andi ((v - (andi ((usr v 1)) 1431655765))) 858993459) + (andi ((usr ((v - (andi ((usr v 1)) 1431655765))) 2)) 858993459)) + (usr (((andi ((v - (andi ((usr v 1)) 1431655765))) 858993459) + (andi ((usr ((v - (andi ((usr v 1)) 1431655765))) 2)) 858993459))) 4))) 252645135) + (usr ((andi ((((andi ((v - (andi ((usr v 1)) 1431655765))) 858993459) + (andi ((usr ((v - (andi ((usr v 1)) 1431655765))) 2)) 858993459)) + (usr (((andi ((v - (andi ((usr v 1)) 1431655765))) 858993459) + (andi ((usr ((v - (andi ((usr v 1)) 1431655765))) 2)) 858993459))) 4))) 252645135)) 8))) 16))) 63)) (iI_of _) ?_
  refine y_ri B hQ h (by decide) dJ6_bitCount_0f7a4_52 ?_
  have e9 : jbc v = pcn v 12 := jbc_ok (by omega)
  have r9 := pcn_r v 12
  exact ⟨rfl, _, rfl, e9, by rw [show (andi ((((andi ((((andi ((v - (andi ((usr v 1)) 1431655765))) 858993459) + (andi ((usr ((v - (andi ((usr v 1)) 1431655765))) 2)) 858993459)) + (usr (((andi ((v - (andi ((usr v 1)) 1431655765))) 858993459) + (andi ((usr ((v - (andi ((usr v 1)) 1431655765))) 2)) 858993459))) 4))) 252645135) + (usr ((andi ((((andi ((v - (andi ((usr v 1)) 1431655765))) 858993459) + (andi ((usr ((v - (andi ((usr v 1)) 1431655765))) 2)) 858993459)) + (usr (((andi ((v - (andi ((usr v 1)) 1431655765))) 858993459) + (andi ((usr ((v - (andi ((usr v 1)) 1431655765))) 2)) 858993459))) 4))) 252645135)) 8)) + (usr (((andi ((((andi ((v - (andi ((usr v 1)) 1431655765))) 858993459) + (andi ((usr ((v - (andi ((usr v 1)) 1431655765))) 2)) 858993459)) + (usr (((andi ((v - (andi ((usr v 1)) 1431655765))) 858993459) + (andi ((usr ((v - (andi ((usr v 1)) 1431655765))) 2)) 858993459))) 4))) 252645135) + (usr ((andi ((((andi ((v - (andi ((usr v 1)) 1431655765))) 858993459) + (andi ((usr ((v - (andi ((usr v 1)) 1431655765))) 2)) 858993459)) + (usr (((andi ((v - (andi ((usr v 1)) 1431655765))) 858993459) + (andi ((usr ((v - (andi ((usr v 1)) 1431655765))) 2)) 858993459))) 4))) 252645135)) 8))) 16))) 63) = pcn v 12 from e9]; omega, by rw [show (andi ((((andi ((((andi ((v - (andi ((usr v 1)) 1431655765))) 858993459) + (andi ((usr ((v - (andi ((usr v 1)) 1431655765))) 2)) 858993459)) + (usr (((andi ((v - (andi ((usr v 1)) 1431655765))) 858993459) + (andi ((usr ((v - (andi ((usr v 1)) 1431655765))) 2)) 858993459))) 4))) 252645135) + (usr ((andi ((((andi ((v - (andi ((usr v 1)) 1431655765))) 858993459) + (andi ((usr ((v - (andi ((usr v 1)) 1431655765))) 2)) 858993459)) + (usr (((andi ((v - (andi ((usr v 1)) 1431655765))) 858993459) + (andi ((usr ((v - (andi ((usr v 1)) 1431655765))) 2)) 858993459))) 4))) 252645135)) 8)) + (usr (((andi ((((andi ((v - (andi ((usr v 1)) 1431655765))) 858993459) + (andi ((usr ((v - (andi ((usr v 1)) 1431655765))) 2)) 858993459)) + (usr (((andi ((v - (andi ((usr v 1)) 1431655765))) 858993459) + (andi ((usr ((v - (andi ((usr v 1)) 1431655765))) 2)) 858993459))) 4))) 252645135) + (usr ((andi ((((andi ((v - (andi ((usr v 1)) 1431655765))) 858993459) + (andi ((usr ((v - (andi ((usr v 1)) 1431655765))) 2)) 858993459)) + (usr (((andi ((v - (andi ((usr v 1)) 1431655765))) 858993459) + (andi ((usr ((v - (andi ((usr v 1)) 1431655765))) 2)) 858993459))) 4))) 252645135)) 8))) 16))) 63) = pcn v 12 from e9]; omega⟩
abbrev r_c_X11_leadOf_e : Room := { frames := 1, cells := 0, slots := 0, locals := 20 }
set_option maxHeartbeats 4000000 in
set_option maxRecDepth 100000 in
theorem c_X11_leadOf_e (l : Launch) (D : va_G) (Zk : yK) (ca : Nat → ClassId) (w : yW) (W0 : fP) (W1 : fP) (W2 : fP) (W3 : fP) (W4 : fP) (W5 : fP) (W6 : fP) (W7 : fP) (W8 : fP) (W9 : fP) (W10 : fP) (W11 : fP) (W12 : fP) (W13 : fP) (W14 : fP) (W16 : fP) (W17 : fP) (W18 : fP) (at9 : Nat) (it9 : Nat) (awi : Nat) (iwi : Nat) (gw9 : Nat → Int) (ones : Int) (many : Int) (ft9 : w it9 = some (at9, xO 11 [W0, W1, W2, W3, W4, W5, W6, W7, W8, W9, W10, W11, W12, W13, W14, fR awi, W16, W17, W18])) (fwi : w iwi = some (awi, xAI (ca 0) 12 (gX 12 gw9))) (hg : ∀ j : Nat, (j : Int) < many → -12 ≤ gw9 j ∧ gw9 j ≤ 12) (hones : 0 ≤ ones ∧ ones ≤ 4095) (hmany : 0 ≤ many ∧ many ≤ 12) : yC l D Zk ca yX11_leadOf cX11_leadOf 6 (some .int) r_c_X11_leadOf_e [.ref at9, .int (iI ones), .int (iI many)] w (vI w (fun z => z = LEAD gw9 ones many ∧ -3456 ≤ z ∧ z ≤ 3456)) := by
  refine yC.of2 "WindWords" (by decide) rfl (Nat.le_of_ble_eq_true rfl) ?_
  intro p e s m args below meth c A ls Qf B hnm h hl hQ
  have hl : lv_has ls 6 [(0, .ref at9), (1, .int (iI ones)), (2, .int (iI many))] := hl
  refine x_iconst B dX11_leadOf_0 ?_
  refine lv_istore_n (lv' := [(3, .int (iI 0)), (0, .ref at9), (1, .int (iI ones)), (2, .int (iI many))]) B.1 B.2.1 dX11_leadOf_1 rfl hl (by decide) rfl (fun ls hl => ?_)
  refine x_iconst B dX11_leadOf_2 ?_
  refine lv_istore (lv' := [(4, .int (iI 0)), (3, .int (iI 0)), (0, .ref at9), (1, .int (iI ones)), (2, .int (iI many))]) B.1 B.2.1 dX11_leadOf_3 hl (by decide) rfl (fun ls hl => ?_)
  refine x_iconst B dX11_leadOf_5 ?_
  refine lv_istore (lv' := [(5, .int (iI 0)), (4, .int (iI 0)), (3, .int (iI 0)), (0, .ref at9), (1, .int (iI ones)), (2, .int (iI many))]) B.1 B.2.1 dX11_leadOf_6 hl (by decide) rfl (fun ls hl => ?_)
  have loop8 : ∀ (n8 : Nat) (p9 : Int) (q9 : Int) (k : Int), (0 ≤ k ∧ k ≤ many) → (p9 = S1 gw9 ones k.toNat) → (q9 = S0 gw9 k.toNat - S1 gw9 ones k.toNat) → ((12 - k : Int)).toNat < n8 → ∀ (H : Heap) (locs : List Loc) (ls : Array Slot), yH D Zk A s w H locs → lv_has ls 6 [(5, .int (iI k)), (4, .int (iI q9)), (3, .int (iI p9)), (0, .ref at9), (1, .int (iI ones)), (2, .int (iI many))] → W p l e r_c_X11_leadOf_e s m args below meth c H locs 0 0 Qf (F0 m 8 ls []) := by
    intro n8
    induction n8 with
    | zero =>
      intro p9 q9 k h0 h1 h2 hm8 H locs ls h hl
      exact absurd hm8 (Nat.not_lt_zero _)
    | succ n8 ih8 =>
      intro p9 q9 k h0 h1 h2 hm8 H locs ls h hl
      refine lv_iload B.1 B.2.1 dX11_leadOf_8 (lv_at hl 0 rfl) ?_
      refine lv_iload_n B.1 B.2.1 dX11_leadOf_10 rfl (lv_at hl 5 rfl) ?_
      refine x_icmp_ge B (by omega) (tgt := 55) dX11_leadOf_11 (by decide) (fun c1 => ?_) (fun c1 => ?_)
      · refine lv_iload_n B.1 B.2.1 dX11_leadOf_55 rfl (lv_at hl 4 rfl) ?_
        refine y_cS B h k_J6_bitCount_0f7a4 (c_J6_bitCount_0f7a4_e l D Zk ca _ ones  (by omega)) m_1140 rfl (by decide) hl.1 [] (Nat.le_of_ble_eq_true rfl) rfl dX11_leadOf_56 (fun r w1 hq H locs h => ?_)
        obtain ⟨rfl, pz, rfl, hpz⟩ := hq
        show W p l e r_c_X11_leadOf_e s m args below meth c _ _ 0 0 Qf (F0 m 59 ls [.int (iI pz)])
        refine lv_istore (lv' := [(5, .int (iI pz)), (4, .int (iI q9)), (3, .int (iI p9)), (0, .ref at9), (1, .int (iI ones)), (2, .int (iI many))]) B.1 B.2.1 dX11_leadOf_59 hl (by decide) rfl (fun ls hl => ?_)
        refine lv_iload_n B.1 B.2.1 dX11_leadOf_61 rfl (lv_at hl 2 rfl) ?_
        refine lv_iload_n B.1 B.2.1 dX11_leadOf_62 rfl (lv_at hl 5 rfl) ?_
        refine lv_iload B.1 B.2.1 dX11_leadOf_63 (lv_at hl 0 rfl) ?_
        refine x_isub B dX11_leadOf_65 ?_
        refine x_imul B dX11_leadOf_66 ?_
        refine lv_iload B.1 B.2.1 dX11_leadOf_67 (lv_at hl 1 rfl) ?_
        refine lv_iload B.1 B.2.1 dX11_leadOf_69 (lv_at hl 0 rfl) ?_
        refine x_imul B dX11_leadOf_71 ?_
        refine x_isub B dX11_leadOf_72 ?_
        refine y_ri B hQ h (by decide) dX11_leadOf_73 ?_
        have e9 : k = many := by omega
        rw [e9] at h1 h2
        have l9 := LEAD_r (g := gw9) (t := ones) (n := many) (by omega) hg
        have e8 : (p9 * (many - pz)) - (q9 * pz) = LEAD gw9 ones many := by unfold LEAD; rw [← hpz.1, ← h2, ← h1]
        exact ⟨rfl, _, rfl, e8, by omega, by omega⟩
      · refine lv_iload_n B.1 B.2.1 dX11_leadOf_14 rfl (lv_at hl 4 rfl) ?_
        refine lv_iload B.1 B.2.1 dX11_leadOf_15 (lv_at hl 0 rfl) ?_
        refine lv_ishr B.1 B.2.1 dX11_leadOf_17 ?_
        refine x_iset (z := (shri ones k)) (iI_of _) ?_
        refine x_iconst B dX11_leadOf_18 ?_
        refine lv_iand B.1 B.2.1 dX11_leadOf_19 ?_
        have hb3 := bn_r ones (k).toNat
        refine x_iset (z := (bn ones (k).toNat)) (bit_e (by omega)) ?_
        refine x_iconst B dX11_leadOf_20 ?_
        refine x_icmp_ne B (by omega) (tgt := 37) dX11_leadOf_21 (by decide) (fun c4 => ?_) (fun c4 => ?_)
        · refine lv_iload B.1 B.2.1 dX11_leadOf_37 (lv_at hl 1 rfl) ?_
          refine lv_aload_n B.1 B.2.1 dX11_leadOf_39 rfl (lv_at hl 3 rfl) ?_
          refine y_getR B h kX11 it9 ft9 15 (b := awi) rfl m_376 (by decide) dX11_leadOf_40 ?_
          refine lv_iload B.1 B.2.1 dX11_leadOf_43 (lv_at hl 0 rfl) ?_
          refine y_ialdX B h iwi fwi (by omega) dX11_leadOf_45 ?_
          refine x_iset (z := (gw9 (k).toNat)) rfl ?_
          refine x_iadd B dX11_leadOf_46 ?_
          refine lv_istore (lv' := [(4, .int (iI (q9 + (gw9 (k).toNat)))), (5, .int (iI k)), (3, .int (iI p9)), (0, .ref at9), (1, .int (iI ones)), (2, .int (iI many))]) B.1 B.2.1 dX11_leadOf_47 hl (by decide) rfl (fun ls hl => ?_)
          refine lv_iinc (v := iI (k + 1)) (lv' := [(5, .int (iI (k + 1))), (4, .int (iI (q9 + (gw9 (k).toNat)))), (3, .int (iI p9)), (0, .ref at9), (1, .int (iI ones)), (2, .int (iI many))]) B.1 B.2.1 dX11_leadOf_49 hl (k := 1) rfl (iI_add _ _) (by decide) rfl (fun ls hl => ?_)
          refine lv_goto (tgt := 8) B.1 B.2.1 dX11_leadOf_52 (by decide) ?_
          exact ih8 p9 ((q9 + (gw9 (k).toNat))) ((k + 1)) (by omega) (by have e8 := S1_next (g := gw9) (t := ones) (k := k) (by omega); (first | rw [if_pos (by omega)] at e8 | rw [if_neg (by omega)] at e8); omega) (by have e8 := S1_next (g := gw9) (t := ones) (k := k) (by omega); have e7 := S_next (g := gw9) (k := k) (by omega); (first | rw [if_pos (by omega)] at e8 | rw [if_neg (by omega)] at e8); omega) (by omega) _ _ _ h (lv_sub hl [0, 1, 2, 3, 4, 5] rfl)
        · refine lv_iload_n B.1 B.2.1 dX11_leadOf_24 rfl (lv_at hl 2 rfl) ?_
          refine lv_aload_n B.1 B.2.1 dX11_leadOf_25 rfl (lv_at hl 3 rfl) ?_
          refine y_getR B h kX11 it9 ft9 15 (b := awi) rfl m_376 (by decide) dX11_leadOf_26 ?_
          refine lv_iload B.1 B.2.1 dX11_leadOf_29 (lv_at hl 0 rfl) ?_
          refine y_ialdX B h iwi fwi (by omega) dX11_leadOf_31 ?_
          refine x_iset (z := (gw9 (k).toNat)) rfl ?_
          refine x_iadd B dX11_leadOf_32 ?_
          refine lv_istore_n (lv' := [(3, .int (iI (p9 + (gw9 (k).toNat)))), (5, .int (iI k)), (4, .int (iI q9)), (0, .ref at9), (1, .int (iI ones)), (2, .int (iI many))]) B.1 B.2.1 dX11_leadOf_33 rfl hl (by decide) rfl (fun ls hl => ?_)
          refine lv_goto (tgt := 49) B.1 B.2.1 dX11_leadOf_34 (by decide) ?_
          refine lv_iinc (v := iI (k + 1)) (lv' := [(5, .int (iI (k + 1))), (3, .int (iI (p9 + (gw9 (k).toNat)))), (4, .int (iI q9)), (0, .ref at9), (1, .int (iI ones)), (2, .int (iI many))]) B.1 B.2.1 dX11_leadOf_49 hl (k := 1) rfl (iI_add _ _) (by decide) rfl (fun ls hl => ?_)
          refine lv_goto (tgt := 8) B.1 B.2.1 dX11_leadOf_52 (by decide) ?_
          exact ih8 ((p9 + (gw9 (k).toNat))) q9 ((k + 1)) (by omega) (by have e8 := S1_next (g := gw9) (t := ones) (k := k) (by omega); (first | rw [if_pos (by omega)] at e8 | rw [if_neg (by omega)] at e8); omega) (by have e8 := S1_next (g := gw9) (t := ones) (k := k) (by omega); have e7 := S_next (g := gw9) (k := k) (by omega); (first | rw [if_pos (by omega)] at e8 | rw [if_neg (by omega)] at e8); omega) (by omega) _ _ _ h (lv_sub hl [0, 2, 1, 3, 4, 5] rfl)
  exact loop8 (((12 - 0 : Int)).toNat + 1) 0 0 0 (by omega) rfl rfl (Nat.lt_succ_self _) _ _ _ h (lv_sub hl [0, 1, 2, 3, 4, 5] rfl)
abbrev r_c_X11_waysLeading_e : Room := { frames := 2, cells := 0, slots := 0, locals := 45 }
set_option maxHeartbeats 4000000 in
set_option maxRecDepth 100000 in
theorem c_X11_waysLeading_e (l : Launch) (D : va_G) (Zk : yK) (ca : Nat → ClassId) (w : yW) (W0 : fP) (W1 : fP) (W2 : fP) (W3 : fP) (W4 : fP) (W5 : fP) (W6 : fP) (W7 : fP) (W8 : fP) (W9 : fP) (W10 : fP) (W11 : fP) (W12 : fP) (W13 : fP) (W14 : fP) (W16 : fP) (W17 : fP) (W18 : fP) (at9 : Nat) (it9 : Nat) (awi : Nat) (iwi : Nat) (gw9 : Nat → Int) (ones : Int) (many : Int) (lead : Int) (ft9 : w it9 = some (at9, xO 11 [W0, W1, W2, W3, W4, W5, W6, W7, W8, W9, W10, W11, W12, W13, W14, fR awi, W16, W17, W18])) (fwi : w iwi = some (awi, xAI (ca 0) 12 (gX 12 gw9))) (hg : ∀ j : Nat, (j : Int) < many → -12 ≤ gw9 j ∧ gw9 j ≤ 12) (hones : 0 ≤ ones ∧ ones ≤ 4095) (hmany : 0 ≤ many ∧ many ≤ 12) (hlead : xr lead) : yC l D Zk ca yX11_waysLeading cX11_waysLeading 6 (some .int) r_c_X11_waysLeading_e [.ref at9, .int (iI ones), .int (iI many), .int (iI lead)] w (vI w (fun z => z = WAYS gw9 ones many lead ∧ 0 ≤ z ∧ z ≤ 4096)) := by
  refine yC.of2 "WindWords" (by decide) rfl (Nat.le_of_ble_eq_true rfl) ?_
  intro p e s m args below meth c A ls Qf B hnm h hl hQ
  have hl : lv_has ls 6 [(0, .ref at9), (1, .int (iI ones)), (2, .int (iI many)), (3, .int (iI lead))] := hl
  refine x_iconst B dX11_waysLeading_0 ?_
  refine lv_istore (lv' := [(4, .int (iI 0)), (0, .ref at9), (1, .int (iI ones)), (2, .int (iI many)), (3, .int (iI lead))]) B.1 B.2.1 dX11_waysLeading_1 hl (by decide) rfl (fun ls hl => ?_)
  refine x_iconst B dX11_waysLeading_3 ?_
  refine lv_istore (lv' := [(5, .int (iI 0)), (4, .int (iI 0)), (0, .ref at9), (1, .int (iI ones)), (2, .int (iI many)), (3, .int (iI lead))]) B.1 B.2.1 dX11_waysLeading_4 hl (by decide) rfl (fun ls hl => ?_)
  have loop6 : ∀ (n6 : Nat) (n : Int) (t : Int), (0 ≤ n ∧ n ≤ t) → (0 ≤ t ∧ t ≤ P2 many) → (n = cntp (fun x => pcn x 12 = pcn ones 12 ∧ lead ≤ LEAD gw9 x many) t.toNat) → ((4096 - t : Int)).toNat < n6 → ∀ (H : Heap) (locs : List Loc) (ls : Array Slot), yH D Zk A s w H locs → lv_has ls 6 [(5, .int (iI t)), (4, .int (iI n)), (0, .ref at9), (1, .int (iI ones)), (2, .int (iI many)), (3, .int (iI lead))] → W p l e r_c_X11_waysLeading_e s m args below meth c H locs 0 0 Qf (F0 m 6 ls []) := by
    intro n6
    induction n6 with
    | zero =>
      intro n t h0 h1 h2 hm6 H locs ls h hl
      exact absurd hm6 (Nat.not_lt_zero _)
    | succ n6 ih6 =>
      intro n t h0 h1 h2 hm6 H locs ls h hl
      have hpm := P2_r (n := many) (by omega)
      refine lv_iload B.1 B.2.1 dX11_waysLeading_6 (lv_at hl 0 rfl) ?_
      refine x_iconst B dX11_waysLeading_8 ?_
      refine lv_iload_n B.1 B.2.1 dX11_waysLeading_9 rfl (lv_at hl 4 rfl) ?_
      refine lv_ishl B.1 B.2.1 dX11_waysLeading_10 ?_
      have hp1 := P2_r (n := many) (by omega)
      refine x_iset (z := (P2 many)) (shl_e (by omega)) ?_
      refine x_icmp_ge B (by omega) (tgt := 46) dX11_waysLeading_11 (by decide) (fun c2 => ?_) (fun c2 => ?_)
      · refine lv_iload B.1 B.2.1 dX11_waysLeading_46 (lv_at hl 1 rfl) ?_
        refine y_ri B hQ h (by decide) dX11_waysLeading_48 ?_
        have e9 : t = P2 many := by omega
        rw [e9] at h2
        exact ⟨rfl, _, rfl, h2, by omega, by omega⟩
      · refine lv_iload B.1 B.2.1 dX11_waysLeading_14 (lv_at hl 0 rfl) ?_
        refine y_cS B h k_J6_bitCount_0f7a4 (c_J6_bitCount_0f7a4_e l D Zk ca _ t  (by omega)) m_1140 rfl (by decide) hl.1 [] (Nat.le_of_ble_eq_true rfl) rfl dX11_waysLeading_16 (fun r w1 hq H locs h => ?_)
        obtain ⟨rfl, ta, rfl, hta⟩ := hq
        show W p l e r_c_X11_waysLeading_e s m args below meth c _ _ 0 0 Qf (F0 m 19 ls [.int (iI ta)])
        refine lv_iload_n B.1 B.2.1 dX11_waysLeading_19 rfl (lv_at hl 3 rfl) ?_
        refine y_cS B h k_J6_bitCount_0f7a4 (c_J6_bitCount_0f7a4_e l D Zk ca _ ones  (by omega)) m_1140 rfl (by decide) hl.1 [.int (iI ta)] (Nat.le_of_ble_eq_true rfl) rfl dX11_waysLeading_20 (fun r w1 hq H locs h => ?_)
        obtain ⟨rfl, tb, rfl, htb⟩ := hq
        show W p l e r_c_X11_waysLeading_e s m args below meth c _ _ 0 0 Qf (F0 m 23 ls [.int (iI tb), .int (iI ta)])
        refine x_icmp_ne B (by omega) (tgt := 40) dX11_waysLeading_23 (by decide) (fun c5 => ?_) (fun c5 => ?_)
        · refine lv_iinc (v := iI (t + 1)) (lv' := [(5, .int (iI (t + 1))), (4, .int (iI n)), (0, .ref at9), (1, .int (iI ones)), (2, .int (iI many)), (3, .int (iI lead))]) B.1 B.2.1 dX11_waysLeading_40 hl (k := 0) rfl (iI_add _ _) (by decide) rfl (fun ls hl => ?_)
          refine lv_goto (tgt := 6) B.1 B.2.1 dX11_waysLeading_43 (by decide) ?_
          exact ih6 n ((t + 1)) (by omega) (by omega) (cntp_next (by omega) h2 (Or.inr ⟨fun ⟨x, y⟩ => by omega, rfl⟩)) (by omega) _ _ _ h (lv_sub hl [0, 1, 2, 3, 4, 5] rfl)
        · refine lv_aload_n B.1 B.2.1 dX11_waysLeading_26 rfl (lv_at hl 2 rfl) ?_
          refine lv_iload B.1 B.2.1 dX11_waysLeading_27 (lv_at hl 0 rfl) ?_
          refine lv_iload_n B.1 B.2.1 dX11_waysLeading_29 rfl (lv_at hl 4 rfl) ?_
          refine y_cV B h kX11 it9 ft9 k_X11_leadOf rfl (c_X11_leadOf_e l D Zk ca _ W0 W1 W2 W3 W4 W5 W6 W7 W8 W9 W10 W11 W12 W13 W14 W16 W17 W18 at9 it9 awi iwi gw9 t many ft9 fwi hg (by omega) (by omega)) m_1136 rfl (by decide) hl.1 [] (Nat.le_of_ble_eq_true rfl) rfl dX11_waysLeading_30 (fun r w1 hq H locs h => ?_)
          obtain ⟨rfl, tc, rfl, htc⟩ := hq
          show W p l e r_c_X11_waysLeading_e s m args below meth c _ _ 0 0 Qf (F0 m 33 ls [.int (iI tc)])
          refine lv_iload_n B.1 B.2.1 dX11_waysLeading_33 rfl (lv_at hl 5 rfl) ?_
          refine x_icmp_lt B (by omega) (tgt := 40) dX11_waysLeading_34 (by decide) (fun c7 => ?_) (fun c7 => ?_)
          · refine lv_iinc (v := iI (t + 1)) (lv' := [(5, .int (iI (t + 1))), (4, .int (iI n)), (0, .ref at9), (1, .int (iI ones)), (2, .int (iI many)), (3, .int (iI lead))]) B.1 B.2.1 dX11_waysLeading_40 hl (k := 0) rfl (iI_add _ _) (by decide) rfl (fun ls hl => ?_)
            refine lv_goto (tgt := 6) B.1 B.2.1 dX11_waysLeading_43 (by decide) ?_
            exact ih6 n ((t + 1)) (by omega) (by omega) (cntp_next (by omega) h2 (Or.inr ⟨fun ⟨x, y⟩ => by omega, rfl⟩)) (by omega) _ _ _ h (lv_sub hl [0, 1, 2, 3, 4, 5] rfl)
          · refine lv_iinc (v := iI (n + 1)) (lv' := [(4, .int (iI (n + 1))), (5, .int (iI t)), (0, .ref at9), (1, .int (iI ones)), (2, .int (iI many)), (3, .int (iI lead))]) B.1 B.2.1 dX11_waysLeading_37 hl (k := 1) rfl (iI_add _ _) (by decide) rfl (fun ls hl => ?_)
            refine lv_iinc (v := iI (t + 1)) (lv' := [(5, .int (iI (t + 1))), (4, .int (iI (n + 1))), (0, .ref at9), (1, .int (iI ones)), (2, .int (iI many)), (3, .int (iI lead))]) B.1 B.2.1 dX11_waysLeading_40 hl (k := 1) rfl (iI_add _ _) (by decide) rfl (fun ls hl => ?_)
            refine lv_goto (tgt := 6) B.1 B.2.1 dX11_waysLeading_43 (by decide) ?_
            exact ih6 ((n + 1)) ((t + 1)) (by omega) (by omega) (cntp_next (by omega) h2 (Or.inl ⟨⟨by omega, by omega⟩, rfl⟩)) (by omega) _ _ _ h (lv_sub hl [0, 1, 2, 3, 4, 5] rfl)
  exact loop6 (((4096 - 0 : Int)).toNat + 1) 0 0 (by omega) (by have hpm := P2_r (n := many) (by omega); omega) rfl (Nat.lt_succ_self _) _ _ _ h (lv_sub hl [0, 1, 2, 3, 4, 5] rfl)
abbrev r_c_X11_wished_e : Room := { frames := 5, cells := 0, slots := 0, locals := 113 }
set_option maxHeartbeats 4000000 in
set_option maxRecDepth 100000 in
theorem c_X11_wished_e (l : Launch) (D : va_G) (Zk : yK) (ca : Nat → ClassId) (T : Nat → Int → Int) (G : Nat → Int → Nat) (u : Int) (ad : Nat → Nat) (w : yW) (hC : CW ca T G u ad w) (o : Int) (what : Int)  (ho : xr o) (hwhat : xr what) : yC l D Zk ca yX11_wished cX11_wished 8 (some .int) r_c_X11_wished_e [.ref (ad 0), .int (iI o), .int (iI what)] w (vI w (fun z => xr z ∧ WSD T o what z)) := by
  refine yC.of2 "WindWords" (by decide) rfl (Nat.le_of_ble_eq_true rfl) ?_
  intro p e s m args below meth c A ls Qf B hnm h hl hQ
  have hl : lv_has ls 8 [(0, .ref (ad 0)), (1, .int (iI o)), (2, .int (iI what))] := hl
  have hs := pi_s (CW.pi hC)
  refine lv_aload_n B.1 B.2.1 dX11_wished_0 rfl (lv_at hl 0 rfl) ?_
  refine y_getR B h kX11 0 (CW.f hC 0 _ rfl) 0 (b := ad 1) rfl m_361 (by decide) dX11_wished_1 ?_
  refine lv_iload_n B.1 B.2.1 dX11_wished_4 rfl (lv_at hl 1 rfl) ?_
  refine y_cV B h kX0 1 (CW.f hC 1 _ rfl) k_X0_hasOfficer rfl (c_X0_hasOfficer l D Zk ca T G u ad _ hC o  (by omega)) m_434 rfl (by decide) hl.1 [] (Nat.le_of_ble_eq_true rfl) rfl dX11_wished_5 (fun r w1 hq H locs h => ?_)
  obtain ⟨rfl, _, rfl, ⟨rfl, b1⟩ | ⟨rfl, b1⟩⟩ := hq
  · show W p l e r_c_X11_wished_e s m args below meth c _ _ 0 0 Qf (F0 m 8 ls [.int (iI 1)])
    refine x_if_eq B (by omega) (tgt := 19) dX11_wished_8 (by decide) (fun c2 => ?_) (fun c2 => ?_)
    · exact absurd c2 (by omega)
    · refine lv_iload_n B.1 B.2.1 dX11_wished_11 rfl (lv_at hl 2 rfl) ?_
      refine x_iconst B dX11_wished_12 ?_
      refine y_cS B h k_X11_within (c_X11_within l D Zk ca _ what 3  (by omega) (by omega)) m_431 rfl (by decide) hl.1 [] (Nat.le_of_ble_eq_true rfl) rfl dX11_wished_13 (fun r w1 hq H locs h => ?_)
      obtain ⟨rfl, _, rfl, ⟨rfl, b3⟩ | ⟨rfl, b3⟩⟩ := hq
      · show W p l e r_c_X11_wished_e s m args below meth c _ _ 0 0 Qf (F0 m 16 ls [.int (iI 1)])
        refine x_if_ne B (by omega) (tgt := 23) dX11_wished_16 (by decide) (fun c4 => ?_) (fun c4 => ?_)
        · obtain ⟨g5, hg5, h⟩ := yH.pinA h (CW.f hC 35 _ rfl)
          have h : yH D Zk A s ((wu w 35 (ad 35, xAI (ca 0) 12 (gX 12 g5)))) _ _ := h
          refine x_iconst B dX11_wished_23 ?_
          refine lv_istore_n (lv' := [(3, .int (iI 0)), (0, .ref (ad 0)), (1, .int (iI o)), (2, .int (iI what))]) B.1 B.2.1 dX11_wished_24 rfl hl (by decide) rfl (fun ls hl => ?_)
          refine x_iconst B dX11_wished_25 ?_
          refine lv_istore (lv' := [(4, .int (iI 0)), (3, .int (iI 0)), (0, .ref (ad 0)), (1, .int (iI o)), (2, .int (iI what))]) B.1 B.2.1 dX11_wished_26 hl (by decide) rfl (fun ls hl => ?_)
          refine x_iconst B dX11_wished_28 ?_
          refine lv_istore (lv' := [(5, .int (iI 0)), (4, .int (iI 0)), (3, .int (iI 0)), (0, .ref (ad 0)), (1, .int (iI o)), (2, .int (iI what))]) B.1 B.2.1 dX11_wished_29 hl (by decide) rfl (fun ls hl => ?_)
          have loop31 : ∀ (n31 : Nat) (m_ : Int) (lo : Int) (k : Int) (g9 : Nat → Int), (0 ≤ m_ ∧ m_ ≤ 12) → (0 ≤ k ∧ k ≤ T 0 2) → (m_ = wsn T o k.toNat) → (lo = wsl T o k.toNat) → (∀ j : Nat, (j : Int) < m_ → g9 j = wsa T o k.toNat j) → ((300 - k : Int)).toNat < n31 → ∀ (H : Heap) (locs : List Loc) (ls : Array Slot), yH D Zk A s ((wu w 35 (ad 35, xAI (ca 0) 12 (gX 12 g9)))) H locs → lv_has ls 8 [(5, .int (iI k)), (4, .int (iI lo)), (3, .int (iI m_)), (0, .ref (ad 0)), (1, .int (iI o)), (2, .int (iI what))] → W p l e r_c_X11_wished_e s m args below meth c H locs 0 0 Qf (F0 m 31 ls []) := by
            intro n31
            induction n31 with
            | zero =>
              intro m_ lo k g9 h0 h1 hm hl9 hg9 hm31 H locs ls h hl
              exact absurd hm31 (Nat.not_lt_zero _)
            | succ n31 ih31 =>
              intro m_ lo k g9 h0 h1 hm hl9 hg9 hm31 H locs ls h hl
              have hr9 := ws_r (o := o) (CW.pi hC) k.toNat
              rw [← hm, ← hl9] at hr9
              refine lv_iload B.1 B.2.1 dX11_wished_31 (lv_at hl 0 rfl) ?_
              refine lv_aload_n B.1 B.2.1 dX11_wished_33 rfl (lv_at hl 3 rfl) ?_
              refine y_getR B h kX11 0 (wu_at (CW.f hC 0 _ rfl) (by decide)) 0 (b := ad 1) rfl m_361 (by decide) dX11_wished_34 ?_
              refine y_getX B h kX0 1 (wu_at (CW.f hC 1 _ rfl) (by decide)) 5 (z := (T 0 2)) rfl m_149 (by decide) dX11_wished_37 ?_
              refine x_icmp_ge B (by omega) (tgt := 142) dX11_wished_40 (by decide) (fun c6 => ?_) (fun c6 => ?_)
              · have hE := ws_end (T := T) (o := o) (k := k) (N := T 0 2) (by omega) (by omega)
                have hgE : ∀ j : Nat, (j : Int) < m_ → -12 ≤ g9 j ∧ g9 j ≤ 12 := fun j hj => by rw [hg9 j hj]; exact hr9.2.2 j
                have hlo : 0 ≤ lo ∧ lo < 4096 := by have := P2_r (n := m_) (by omega); omega
                refine lv_aload_n B.1 B.2.1 dX11_wished_142 rfl (lv_at hl 3 rfl) ?_
                refine lv_iload B.1 B.2.1 dX11_wished_143 (lv_at hl 1 rfl) ?_
                refine lv_iload_n B.1 B.2.1 dX11_wished_145 rfl (lv_at hl 2 rfl) ?_
                refine y_cV B h kX11 0 (wu_at (CW.f hC 0 _ rfl) (by decide)) k_X11_leadOf rfl (c_X11_leadOf_e l D Zk ca _ (fR (ad 1)) (fR (ad 4)) (fR (ad 12)) (fR (ad 14)) (fR (ad 18)) (fR (ad 20)) (fR (ad 26)) (fR (ad 27)) (fR (ad 28)) (fR (ad 29)) (fR (ad 30)) (fR (ad 31)) (fR (ad 32)) (fR (ad 33)) (fR (ad 34)) (fU G u) (fX (T 0 6)) (fG (-2147483648) 2147483647) (ad 0) 0 (ad 35) 35 g9 lo m_ (wu_at (CW.f hC 0 _ rfl) (by decide)) wu_eq hgE (by omega) (by omega)) m_1136 rfl (by decide) hl.1 [] (Nat.le_of_ble_eq_true rfl) rfl dX11_wished_146 (fun r w1 hq H locs h => ?_)
                obtain ⟨rfl, ld9, rfl, hld9⟩ := hq
                show W p l e r_c_X11_wished_e s m args below meth c _ _ 0 0 Qf (F0 m 149 ls [.int (iI ld9)])
                refine lv_istore (lv' := [(5, .int (iI ld9)), (4, .int (iI lo)), (3, .int (iI m_)), (0, .ref (ad 0)), (1, .int (iI o)), (2, .int (iI what))]) B.1 B.2.1 dX11_wished_149 hl (by decide) rfl (fun ls hl => ?_)
                refine lv_iload_n B.1 B.2.1 dX11_wished_151 rfl (lv_at hl 5 rfl) ?_
                by_cases t8 : what = 0
                · refine x_tin B (tgt := 180) 0 (by omega) dX11_wished_152 rfl (by decide) ?_
                  refine lv_aload_n B.1 B.2.1 dX11_wished_180 rfl (lv_at hl 3 rfl) ?_
                  refine lv_iload B.1 B.2.1 dX11_wished_181 (lv_at hl 1 rfl) ?_
                  refine lv_iload_n B.1 B.2.1 dX11_wished_183 rfl (lv_at hl 2 rfl) ?_
                  refine lv_iload B.1 B.2.1 dX11_wished_184 (lv_at hl 0 rfl) ?_
                  refine y_cV B h kX11 0 (wu_at (CW.f hC 0 _ rfl) (by decide)) k_X11_waysLeading rfl (c_X11_waysLeading_e l D Zk ca _ (fR (ad 1)) (fR (ad 4)) (fR (ad 12)) (fR (ad 14)) (fR (ad 18)) (fR (ad 20)) (fR (ad 26)) (fR (ad 27)) (fR (ad 28)) (fR (ad 29)) (fR (ad 30)) (fR (ad 31)) (fR (ad 32)) (fR (ad 33)) (fR (ad 34)) (fU G u) (fX (T 0 6)) (fG (-2147483648) 2147483647) (ad 0) 0 (ad 35) 35 g9 lo m_ ld9 (wu_at (CW.f hC 0 _ rfl) (by decide)) wu_eq hgE (by omega) (by omega) (by omega)) m_1146 rfl (by decide) hl.1 [] (Nat.le_of_ble_eq_true rfl) rfl dX11_wished_186 (fun r w1 hq H locs h => ?_)
                  obtain ⟨rfl, wa9, rfl, hwa9⟩ := hq
                  show W p l e r_c_X11_wished_e s m args below meth c _ _ 0 0 Qf (F0 m 189 ls [.int (iI wa9)])
                  have h : yH D Zk A s w _ _ := yH.unpin h (CW.f hC 35 _ rfl) (xAI_any)
                  refine y_ri B hQ h (by decide) dX11_wished_189 ?_
                  have hW : WSC T o what := ⟨by omega, by omega⟩
                  refine ⟨rfl, _, rfl, by omega, Or.inr ⟨hW, wsa T o (T 0 2).toNat, wsl T o (T 0 2).toNat, wsn T o (T 0 2).toNat, rfl, rfl, rfl, ?_⟩⟩
                  rw [hE.1, hE.2.1, hE.2.2, ← hm, ← hl9]
                  exact Or.inl ⟨by omega, hwa9.1.trans (WAYS_congr hg9 (by omega) (hld9.1.trans (LEAD_congr hg9 (by omega))))⟩
                by_cases t10 : what = 1
                · refine x_tin B (tgt := 190) 1 (by omega) dX11_wished_152 rfl (by decide) ?_
                  refine lv_aload_n B.1 B.2.1 dX11_wished_190 rfl (lv_at hl 3 rfl) ?_
                  refine lv_iload B.1 B.2.1 dX11_wished_191 (lv_at hl 1 rfl) ?_
                  refine lv_iload_n B.1 B.2.1 dX11_wished_193 rfl (lv_at hl 2 rfl) ?_
                  refine x_ldcw B (z := (-1000000)) m_1131 (by decide) dX11_wished_194 ?_
                  refine y_cV B h kX11 0 (wu_at (CW.f hC 0 _ rfl) (by decide)) k_X11_waysLeading rfl (c_X11_waysLeading_e l D Zk ca _ (fR (ad 1)) (fR (ad 4)) (fR (ad 12)) (fR (ad 14)) (fR (ad 18)) (fR (ad 20)) (fR (ad 26)) (fR (ad 27)) (fR (ad 28)) (fR (ad 29)) (fR (ad 30)) (fR (ad 31)) (fR (ad 32)) (fR (ad 33)) (fR (ad 34)) (fU G u) (fX (T 0 6)) (fG (-2147483648) 2147483647) (ad 0) 0 (ad 35) 35 g9 lo m_ ((-1000000)) (wu_at (CW.f hC 0 _ rfl) (by decide)) wu_eq hgE (by omega) (by omega) (by omega)) m_1146 rfl (by decide) hl.1 [] (Nat.le_of_ble_eq_true rfl) rfl dX11_wished_197 (fun r w1 hq H locs h => ?_)
                  obtain ⟨rfl, wb9, rfl, hwb9⟩ := hq
                  show W p l e r_c_X11_wished_e s m args below meth c _ _ 0 0 Qf (F0 m 200 ls [.int (iI wb9)])
                  have h : yH D Zk A s w _ _ := yH.unpin h (CW.f hC 35 _ rfl) (xAI_any)
                  refine y_ri B hQ h (by decide) dX11_wished_200 ?_
                  have hW : WSC T o what := ⟨by omega, by omega⟩
                  refine ⟨rfl, _, rfl, by omega, Or.inr ⟨hW, wsa T o (T 0 2).toNat, wsl T o (T 0 2).toNat, wsn T o (T 0 2).toNat, rfl, rfl, rfl, ?_⟩⟩
                  rw [hE.1, hE.2.1, hE.2.2, ← hm, ← hl9]
                  exact Or.inr (Or.inl ⟨by omega, hwb9.1.trans (WAYS_congr hg9 (by omega) rfl)⟩)
                by_cases t12 : what = 2
                · refine x_tin B (tgt := 201) 2 (by omega) dX11_wished_152 rfl (by decide) ?_
                  refine lv_iload B.1 B.2.1 dX11_wished_201 (lv_at hl 0 rfl) ?_
                  have h : yH D Zk A s w _ _ := yH.unpin h (CW.f hC 35 _ rfl) (xAI_any)
                  refine y_ri B hQ h (by decide) dX11_wished_203 ?_
                  have hW : WSC T o what := ⟨by omega, by omega⟩
                  refine ⟨rfl, _, rfl, by omega, Or.inr ⟨hW, wsa T o (T 0 2).toNat, wsl T o (T 0 2).toNat, wsn T o (T 0 2).toNat, rfl, rfl, rfl, ?_⟩⟩
                  rw [hE.1, hE.2.1, hE.2.2, ← hm, ← hl9]
                  exact Or.inr (Or.inr (Or.inl ⟨by omega, hld9.1.trans (LEAD_congr hg9 (by omega))⟩))
                refine x_tout B (tgt := 204) (by omega) dX11_wished_152 (by decide) ?_
                refine lv_iload_n B.1 B.2.1 dX11_wished_204 rfl (lv_at hl 2 rfl) ?_
                have h : yH D Zk A s w _ _ := yH.unpin h (CW.f hC 35 _ rfl) (xAI_any)
                refine y_ri B hQ h (by decide) dX11_wished_205 ?_
                have hW : WSC T o what := ⟨by omega, by omega⟩
                refine ⟨rfl, _, rfl, by omega, Or.inr ⟨hW, wsa T o (T 0 2).toNat, wsl T o (T 0 2).toNat, wsn T o (T 0 2).toNat, rfl, rfl, rfl, ?_⟩⟩
                rw [hE.1, hE.2.1, hE.2.2, ← hm, ← hl9]
                exact Or.inr (Or.inr (Or.inr ⟨by omega, rfl⟩))
              · refine lv_iload_n B.1 B.2.1 dX11_wished_43 rfl (lv_at hl 2 rfl) ?_
                refine x_bipush B (by decide) dX11_wished_44 ?_
                refine x_icmp_ge B (by omega) (tgt := 142) dX11_wished_46 (by decide) (fun c13 => ?_) (fun c13 => ?_)
                · have hE := ws_end (T := T) (o := o) (k := k) (N := T 0 2) (by omega) (by omega)
                  have hgE : ∀ j : Nat, (j : Int) < m_ → -12 ≤ g9 j ∧ g9 j ≤ 12 := fun j hj => by rw [hg9 j hj]; exact hr9.2.2 j
                  have hlo : 0 ≤ lo ∧ lo < 4096 := by have := P2_r (n := m_) (by omega); omega
                  refine lv_aload_n B.1 B.2.1 dX11_wished_142 rfl (lv_at hl 3 rfl) ?_
                  refine lv_iload B.1 B.2.1 dX11_wished_143 (lv_at hl 1 rfl) ?_
                  refine lv_iload_n B.1 B.2.1 dX11_wished_145 rfl (lv_at hl 2 rfl) ?_
                  refine y_cV B h kX11 0 (wu_at (CW.f hC 0 _ rfl) (by decide)) k_X11_leadOf rfl (c_X11_leadOf_e l D Zk ca _ (fR (ad 1)) (fR (ad 4)) (fR (ad 12)) (fR (ad 14)) (fR (ad 18)) (fR (ad 20)) (fR (ad 26)) (fR (ad 27)) (fR (ad 28)) (fR (ad 29)) (fR (ad 30)) (fR (ad 31)) (fR (ad 32)) (fR (ad 33)) (fR (ad 34)) (fU G u) (fX (T 0 6)) (fG (-2147483648) 2147483647) (ad 0) 0 (ad 35) 35 g9 lo m_ (wu_at (CW.f hC 0 _ rfl) (by decide)) wu_eq hgE (by omega) (by omega)) m_1136 rfl (by decide) hl.1 [] (Nat.le_of_ble_eq_true rfl) rfl dX11_wished_146 (fun r w1 hq H locs h => ?_)
                  obtain ⟨rfl, ld9, rfl, hld9⟩ := hq
                  show W p l e r_c_X11_wished_e s m args below meth c _ _ 0 0 Qf (F0 m 149 ls [.int (iI ld9)])
                  refine lv_istore (lv' := [(5, .int (iI ld9)), (4, .int (iI lo)), (3, .int (iI m_)), (0, .ref (ad 0)), (1, .int (iI o)), (2, .int (iI what))]) B.1 B.2.1 dX11_wished_149 hl (by decide) rfl (fun ls hl => ?_)
                  refine lv_iload_n B.1 B.2.1 dX11_wished_151 rfl (lv_at hl 5 rfl) ?_
                  by_cases t15 : what = 0
                  · refine x_tin B (tgt := 180) 0 (by omega) dX11_wished_152 rfl (by decide) ?_
                    refine lv_aload_n B.1 B.2.1 dX11_wished_180 rfl (lv_at hl 3 rfl) ?_
                    refine lv_iload B.1 B.2.1 dX11_wished_181 (lv_at hl 1 rfl) ?_
                    refine lv_iload_n B.1 B.2.1 dX11_wished_183 rfl (lv_at hl 2 rfl) ?_
                    refine lv_iload B.1 B.2.1 dX11_wished_184 (lv_at hl 0 rfl) ?_
                    refine y_cV B h kX11 0 (wu_at (CW.f hC 0 _ rfl) (by decide)) k_X11_waysLeading rfl (c_X11_waysLeading_e l D Zk ca _ (fR (ad 1)) (fR (ad 4)) (fR (ad 12)) (fR (ad 14)) (fR (ad 18)) (fR (ad 20)) (fR (ad 26)) (fR (ad 27)) (fR (ad 28)) (fR (ad 29)) (fR (ad 30)) (fR (ad 31)) (fR (ad 32)) (fR (ad 33)) (fR (ad 34)) (fU G u) (fX (T 0 6)) (fG (-2147483648) 2147483647) (ad 0) 0 (ad 35) 35 g9 lo m_ ld9 (wu_at (CW.f hC 0 _ rfl) (by decide)) wu_eq hgE (by omega) (by omega) (by omega)) m_1146 rfl (by decide) hl.1 [] (Nat.le_of_ble_eq_true rfl) rfl dX11_wished_186 (fun r w1 hq H locs h => ?_)
                    obtain ⟨rfl, wa9, rfl, hwa9⟩ := hq
                    show W p l e r_c_X11_wished_e s m args below meth c _ _ 0 0 Qf (F0 m 189 ls [.int (iI wa9)])
                    have h : yH D Zk A s w _ _ := yH.unpin h (CW.f hC 35 _ rfl) (xAI_any)
                    refine y_ri B hQ h (by decide) dX11_wished_189 ?_
                    have hW : WSC T o what := ⟨by omega, by omega⟩
                    refine ⟨rfl, _, rfl, by omega, Or.inr ⟨hW, wsa T o (T 0 2).toNat, wsl T o (T 0 2).toNat, wsn T o (T 0 2).toNat, rfl, rfl, rfl, ?_⟩⟩
                    rw [hE.1, hE.2.1, hE.2.2, ← hm, ← hl9]
                    exact Or.inl ⟨by omega, hwa9.1.trans (WAYS_congr hg9 (by omega) (hld9.1.trans (LEAD_congr hg9 (by omega))))⟩
                  by_cases t17 : what = 1
                  · refine x_tin B (tgt := 190) 1 (by omega) dX11_wished_152 rfl (by decide) ?_
                    refine lv_aload_n B.1 B.2.1 dX11_wished_190 rfl (lv_at hl 3 rfl) ?_
                    refine lv_iload B.1 B.2.1 dX11_wished_191 (lv_at hl 1 rfl) ?_
                    refine lv_iload_n B.1 B.2.1 dX11_wished_193 rfl (lv_at hl 2 rfl) ?_
                    refine x_ldcw B (z := (-1000000)) m_1131 (by decide) dX11_wished_194 ?_
                    refine y_cV B h kX11 0 (wu_at (CW.f hC 0 _ rfl) (by decide)) k_X11_waysLeading rfl (c_X11_waysLeading_e l D Zk ca _ (fR (ad 1)) (fR (ad 4)) (fR (ad 12)) (fR (ad 14)) (fR (ad 18)) (fR (ad 20)) (fR (ad 26)) (fR (ad 27)) (fR (ad 28)) (fR (ad 29)) (fR (ad 30)) (fR (ad 31)) (fR (ad 32)) (fR (ad 33)) (fR (ad 34)) (fU G u) (fX (T 0 6)) (fG (-2147483648) 2147483647) (ad 0) 0 (ad 35) 35 g9 lo m_ ((-1000000)) (wu_at (CW.f hC 0 _ rfl) (by decide)) wu_eq hgE (by omega) (by omega) (by omega)) m_1146 rfl (by decide) hl.1 [] (Nat.le_of_ble_eq_true rfl) rfl dX11_wished_197 (fun r w1 hq H locs h => ?_)
                    obtain ⟨rfl, wb9, rfl, hwb9⟩ := hq
                    show W p l e r_c_X11_wished_e s m args below meth c _ _ 0 0 Qf (F0 m 200 ls [.int (iI wb9)])
                    have h : yH D Zk A s w _ _ := yH.unpin h (CW.f hC 35 _ rfl) (xAI_any)
                    refine y_ri B hQ h (by decide) dX11_wished_200 ?_
                    have hW : WSC T o what := ⟨by omega, by omega⟩
                    refine ⟨rfl, _, rfl, by omega, Or.inr ⟨hW, wsa T o (T 0 2).toNat, wsl T o (T 0 2).toNat, wsn T o (T 0 2).toNat, rfl, rfl, rfl, ?_⟩⟩
                    rw [hE.1, hE.2.1, hE.2.2, ← hm, ← hl9]
                    exact Or.inr (Or.inl ⟨by omega, hwb9.1.trans (WAYS_congr hg9 (by omega) rfl)⟩)
                  by_cases t19 : what = 2
                  · refine x_tin B (tgt := 201) 2 (by omega) dX11_wished_152 rfl (by decide) ?_
                    refine lv_iload B.1 B.2.1 dX11_wished_201 (lv_at hl 0 rfl) ?_
                    have h : yH D Zk A s w _ _ := yH.unpin h (CW.f hC 35 _ rfl) (xAI_any)
                    refine y_ri B hQ h (by decide) dX11_wished_203 ?_
                    have hW : WSC T o what := ⟨by omega, by omega⟩
                    refine ⟨rfl, _, rfl, by omega, Or.inr ⟨hW, wsa T o (T 0 2).toNat, wsl T o (T 0 2).toNat, wsn T o (T 0 2).toNat, rfl, rfl, rfl, ?_⟩⟩
                    rw [hE.1, hE.2.1, hE.2.2, ← hm, ← hl9]
                    exact Or.inr (Or.inr (Or.inl ⟨by omega, hld9.1.trans (LEAD_congr hg9 (by omega))⟩))
                  refine x_tout B (tgt := 204) (by omega) dX11_wished_152 (by decide) ?_
                  refine lv_iload_n B.1 B.2.1 dX11_wished_204 rfl (lv_at hl 2 rfl) ?_
                  have h : yH D Zk A s w _ _ := yH.unpin h (CW.f hC 35 _ rfl) (xAI_any)
                  refine y_ri B hQ h (by decide) dX11_wished_205 ?_
                  have hW : WSC T o what := ⟨by omega, by omega⟩
                  refine ⟨rfl, _, rfl, by omega, Or.inr ⟨hW, wsa T o (T 0 2).toNat, wsl T o (T 0 2).toNat, wsn T o (T 0 2).toNat, rfl, rfl, rfl, ?_⟩⟩
                  rw [hE.1, hE.2.1, hE.2.2, ← hm, ← hl9]
                  exact Or.inr (Or.inr (Or.inr ⟨by omega, rfl⟩))
                · refine lv_aload_n B.1 B.2.1 dX11_wished_49 rfl (lv_at hl 3 rfl) ?_
                  refine y_getR B h kX11 0 (wu_at (CW.f hC 0 _ rfl) (by decide)) 0 (b := ad 1) rfl m_361 (by decide) dX11_wished_50 ?_
                  refine lv_iload B.1 B.2.1 dX11_wished_53 (lv_at hl 0 rfl) ?_
                  refine y_cV B h kX0 1 (wu_at (CW.f hC 1 _ rfl) (by decide)) k_X0_mansAt rfl (c_X0_mansAt_y l D Zk ca T G u ad _ _ hC (fun k hk => by rw [wu_ne (by omega)]) k  (by omega)) m_1050 rfl (by decide) hl.1 [] (Nat.le_of_ble_eq_true rfl) rfl dX11_wished_55 (fun r w1 hq H locs h => ?_)
                  obtain ⟨rfl, _, rfl, ⟨rfl, cmz9⟩ | ⟨rfl, cmz9⟩⟩ := hq
                  · show W p l e r_c_X11_wished_e s m args below meth c _ _ 0 0 Qf (F0 m 58 ls [.null])
                    refine lv_astoreN (lv' := [(6, .null), (5, .int (iI k)), (4, .int (iI lo)), (3, .int (iI m_)), (0, .ref (ad 0)), (1, .int (iI o)), (2, .int (iI what))]) B.1 B.2.1 dX11_wished_58 hl (by decide) rfl (fun ls hl => ?_)
                    refine lv_aloadN B.1 B.2.1 dX11_wished_60 (lv_at hl 0 rfl) ?_
                    refine lv_ifnullN (tgt := 74) B.1 B.2.1 dX11_wished_62 (by decide) ?_
                    refine lv_null B.1 B.2.1 dX11_wished_74 ?_
                    refine lv_goto (tgt := 84) B.1 B.2.1 dX11_wished_75 (by decide) ?_
                    refine lv_astoreN (lv' := [(7, .null), (6, .null), (5, .int (iI k)), (4, .int (iI lo)), (3, .int (iI m_)), (0, .ref (ad 0)), (1, .int (iI o)), (2, .int (iI what))]) B.1 B.2.1 dX11_wished_84 hl (by decide) rfl (fun ls hl => ?_)
                    refine lv_aloadN B.1 B.2.1 dX11_wished_86 (lv_at hl 1 rfl) ?_
                    refine lv_ifnullN (tgt := 136) B.1 B.2.1 dX11_wished_88 (by decide) ?_
                    refine lv_iinc (v := iI (k + 1)) (lv' := [(5, .int (iI (k + 1))), (7, .null), (6, .null), (4, .int (iI lo)), (3, .int (iI m_)), (0, .ref (ad 0)), (1, .int (iI o)), (2, .int (iI what))]) B.1 B.2.1 dX11_wished_136 hl (k := 2) rfl (iI_add _ _) (by decide) rfl (fun ls hl => ?_)
                    refine lv_goto (tgt := 31) B.1 B.2.1 dX11_wished_139 (by decide) ?_
                    exact ih31 m_ lo ((k + 1)) g9 (by omega) (by omega) (hm.trans (ws_n (T := T) (o := o) (k := k) (by omega) (fun q9 => by obtain ⟨⟨x, y, z⟩, -⟩ := q9; first | omega | (rw [bes_n cbqz9] at z; omega))).1.symm) (hl9.trans (ws_n (T := T) (o := o) (k := k) (by omega) (fun q9 => by obtain ⟨⟨x, y, z⟩, -⟩ := q9; first | omega | (rw [bes_n cbqz9] at z; omega))).2.2.symm) (fun j hj => by rw [(ws_n (T := T) (o := o) (k := k) (by omega) (fun q9 => by obtain ⟨⟨x, y, z⟩, -⟩ := q9; first | omega | (rw [bes_n cbqz9] at z; omega))).2.1]; exact hg9 j hj) (by omega) _ _ _ h (lv_sub hl [0, 3, 4, 5, 6, 7] rfl)
                  · have fo21 := CW.rd hC k (by omega)
                    show W p l e r_c_X11_wished_e s m args below meth c _ _ 0 0 Qf (F0 m 58 ls [.ref (G 4 k)])
                    refine lv_astore (lv' := [(6, .ref (G 4 k)), (5, .int (iI k)), (4, .int (iI lo)), (3, .int (iI m_)), (0, .ref (ad 0)), (1, .int (iI o)), (2, .int (iI what))]) B.1 B.2.1 dX11_wished_58 hl (by decide) rfl (fun ls hl => ?_)
                    refine lv_aload B.1 B.2.1 dX11_wished_60 (lv_at hl 0 rfl) ?_
                    refine lv_ifnull B.1 B.2.1 dX11_wished_62 ?_
                    refine lv_aload B.1 B.2.1 dX11_wished_65 (lv_at hl 0 rfl) ?_
                    refine y_cV B h kX4 (1000 + 16 * k.toNat + 4) (wu_at fo21 (by omega)) k_X4_writer rfl (c_X4_writer_y l D Zk ca T G u ad _ _ hC (fun k hk => by rw [wu_ne (by omega)]) k  (by omega)) m_834 rfl (by decide) hl.1 [] (Nat.le_of_ble_eq_true rfl) rfl dX11_wished_67 (fun r w1 hq H locs h => ?_)
                    obtain ⟨rfl, _, rfl, rfl⟩ := hq
                    have tb22 := pi_3 (CW.pi hC) (1000 * T 4 k + T 5 k)
                    show W p l e r_c_X11_wished_e s m args below meth c _ _ 0 0 Qf (F0 m 70 ls [.int (iI (T 3 (1000 * T 4 k + T 5 k)))])
                    refine lv_iload_n B.1 B.2.1 dX11_wished_70 rfl (lv_at hl 5 rfl) ?_
                    refine x_icmp_eq B (by omega) (tgt := 78) dX11_wished_71 (by decide) (fun c23 => ?_) (fun c23 => ?_)
                    · refine lv_aload_n B.1 B.2.1 dX11_wished_78 rfl (lv_at hl 4 rfl) ?_
                      refine lv_aload B.1 B.2.1 dX11_wished_79 (lv_at hl 0 rfl) ?_
                      refine y_cV B h kX11 0 (wu_at (CW.f hC 0 _ rfl) (by decide)) k_X11_firstBeside rfl (c_X11_firstBeside_e_y l D Zk ca T G u ad _ _ hC (fun k hk => by rw [wu_ne (by omega)]) k  (by omega)) m_1132 rfl (by decide) hl.1 [] (Nat.le_of_ble_eq_true rfl) rfl dX11_wished_81 (fun r w1 hq H locs h => ?_)
                      obtain ⟨rfl, _, rfl, ⟨rfl, cbqz9⟩ | ⟨bqz9, rfl, cbqz9⟩⟩ := hq
                      · show W p l e r_c_X11_wished_e s m args below meth c _ _ 0 0 Qf (F0 m 84 ls [.null])
                        refine lv_astoreN (lv' := [(7, .null), (6, .ref (G 4 k)), (5, .int (iI k)), (4, .int (iI lo)), (3, .int (iI m_)), (0, .ref (ad 0)), (1, .int (iI o)), (2, .int (iI what))]) B.1 B.2.1 dX11_wished_84 hl (by decide) rfl (fun ls hl => ?_)
                        refine lv_aload B.1 B.2.1 dX11_wished_86 (lv_at hl 1 rfl) ?_
                        refine lv_ifnull B.1 B.2.1 dX11_wished_88 ?_
                        refine lv_aloadN B.1 B.2.1 dX11_wished_91 (lv_at hl 0 rfl) ?_
                        refine lv_ifnullN (tgt := 136) B.1 B.2.1 dX11_wished_93 (by decide) ?_
                        refine lv_iinc (v := iI (k + 1)) (lv' := [(5, .int (iI (k + 1))), (7, .null), (6, .ref (G 4 k)), (4, .int (iI lo)), (3, .int (iI m_)), (0, .ref (ad 0)), (1, .int (iI o)), (2, .int (iI what))]) B.1 B.2.1 dX11_wished_136 hl (k := 2) rfl (iI_add _ _) (by decide) rfl (fun ls hl => ?_)
                        refine lv_goto (tgt := 31) B.1 B.2.1 dX11_wished_139 (by decide) ?_
                        exact ih31 m_ lo ((k + 1)) g9 (by omega) (by omega) (hm.trans (ws_n (T := T) (o := o) (k := k) (by omega) (fun q9 => by obtain ⟨⟨x, y, z⟩, -⟩ := q9; first | omega | (rw [bes_n cbqz9] at z; omega))).1.symm) (hl9.trans (ws_n (T := T) (o := o) (k := k) (by omega) (fun q9 => by obtain ⟨⟨x, y, z⟩, -⟩ := q9; first | omega | (rw [bes_n cbqz9] at z; omega))).2.2.symm) (fun j hj => by rw [(ws_n (T := T) (o := o) (k := k) (by omega) (fun q9 => by obtain ⟨⟨x, y, z⟩, -⟩ := q9; first | omega | (rw [bes_n cbqz9] at z; omega))).2.1]; exact hg9 j hj) (by omega) _ _ _ h (lv_sub hl [0, 3, 4, 5, 6, 7] rfl)
                      · have fo26 := CW.rd hC bqz9 (by omega)
                        show W p l e r_c_X11_wished_e s m args below meth c _ _ 0 0 Qf (F0 m 84 ls [.ref (G 4 bqz9)])
                        refine lv_astore (lv' := [(7, .ref (G 4 bqz9)), (6, .ref (G 4 k)), (5, .int (iI k)), (4, .int (iI lo)), (3, .int (iI m_)), (0, .ref (ad 0)), (1, .int (iI o)), (2, .int (iI what))]) B.1 B.2.1 dX11_wished_84 hl (by decide) rfl (fun ls hl => ?_)
                        refine lv_aload B.1 B.2.1 dX11_wished_86 (lv_at hl 1 rfl) ?_
                        refine lv_ifnull B.1 B.2.1 dX11_wished_88 ?_
                        refine lv_aload B.1 B.2.1 dX11_wished_91 (lv_at hl 0 rfl) ?_
                        refine lv_ifnull B.1 B.2.1 dX11_wished_93 ?_
                        refine lv_aload_n B.1 B.2.1 dX11_wished_96 rfl (lv_at hl 5 rfl) ?_
                        refine y_getR B h kX11 0 (wu_at (CW.f hC 0 _ rfl) (by decide)) 15 (b := ad 35) rfl m_376 (by decide) dX11_wished_97 ?_
                        refine lv_iload_n B.1 B.2.1 dX11_wished_100 rfl (lv_at hl 4 rfl) ?_
                        refine lv_aload B.1 B.2.1 dX11_wished_101 (lv_at hl 1 rfl) ?_
                        refine y_getX B h kX4 (1000 + 16 * k.toNat + 4) (wu_at fo21 (by omega)) 4 (z := (T 8 k)) rfl m_532 (by decide) dX11_wished_103 ?_
                        have tb27 := pi_8 (CW.pi hC) k
                        have tb28 := pi_n (CW.pi hC) k
                        refine lv_aload B.1 B.2.1 dX11_wished_106 (lv_at hl 0 rfl) ?_
                        refine y_getX B h kX4 (1000 + 16 * bqz9.toNat + 4) (wu_at fo26 (by omega)) 4 (z := (T 8 bqz9)) rfl m_532 (by decide) dX11_wished_108 ?_
                        have tb29 := pi_8 (CW.pi hC) bqz9
                        have tb30 := pi_n (CW.pi hC) bqz9
                        refine x_isub B dX11_wished_111 ?_
                        refine y_iast B h 35 wu_eq (by omega) (P' := gX 12 (iu g9 m_ ((T 8 k) - (T 8 bqz9)))) (gX_upd (by omega)) dX11_wished_112 (fun H locs h => ?_)
                        rw [wu_wu] at h
                        have h : yH D Zk A s ((wu w 35 (ad 35, xAI (ca 0) 12 (gX 12 (iu g9 m_ ((T 8 k) - (T 8 bqz9))))))) _ _ := h
                        refine lv_iload B.1 B.2.1 dX11_wished_113 (lv_at hl 3 rfl) ?_
                        refine lv_aload B.1 B.2.1 dX11_wished_115 (lv_at hl 1 rfl) ?_
                        refine y_getX B h kX4 (1000 + 16 * k.toNat + 4) (wu_at fo21 (by omega)) 6 (z := (T 10 k)) rfl m_536 (by decide) dX11_wished_117 ?_
                        have tb31 := pi_10 (CW.pi hC) k
                        refine x_if_le B (by omega) (tgt := 129) dX11_wished_120 (by decide) (fun c32 => ?_) (fun c32 => ?_)
                        · refine x_iconst B dX11_wished_129 ?_
                          refine lv_ior B.1 B.2.1 dX11_wished_130 ?_
                          refine x_iset (z := lo) (or_0) ?_
                          refine lv_istore (lv' := [(4, .int (iI lo)), (7, .ref (G 4 bqz9)), (6, .ref (G 4 k)), (5, .int (iI k)), (3, .int (iI m_)), (0, .ref (ad 0)), (1, .int (iI o)), (2, .int (iI what))]) B.1 B.2.1 dX11_wished_131 hl (by decide) rfl (fun ls hl => ?_)
                          refine lv_iinc (v := iI (m_ + 1)) (lv' := [(3, .int (iI (m_ + 1))), (4, .int (iI lo)), (7, .ref (G 4 bqz9)), (6, .ref (G 4 k)), (5, .int (iI k)), (0, .ref (ad 0)), (1, .int (iI o)), (2, .int (iI what))]) B.1 B.2.1 dX11_wished_133 hl (k := 4) rfl (iI_add _ _) (by decide) rfl (fun ls hl => ?_)
                          refine lv_iinc (v := iI (k + 1)) (lv' := [(5, .int (iI (k + 1))), (3, .int (iI (m_ + 1))), (4, .int (iI lo)), (7, .ref (G 4 bqz9)), (6, .ref (G 4 k)), (0, .ref (ad 0)), (1, .int (iI o)), (2, .int (iI what))]) B.1 B.2.1 dX11_wished_136 hl (k := 4) rfl (iI_add _ _) (by decide) rfl (fun ls hl => ?_)
                          refine lv_goto (tgt := 31) B.1 B.2.1 dX11_wished_139 (by decide) ?_
                          exact ih31 ((m_ + 1)) lo ((k + 1)) (iu g9 m_ ((T 8 k) - (T 8 bqz9))) (by omega) (by omega) (by have q9 := (ws_y (T := T) (o := o) (k := k) (by omega) ⟨by omega, by omega, by rw [bes_y cbqz9.2]; exact cbqz9.1.1⟩ (by omega)).1; omega) (by have e8 := (ws_y (T := T) (o := o) (k := k) (by omega) ⟨by omega, by omega, by rw [bes_y cbqz9.2]; exact cbqz9.1.1⟩ (by omega)).2.2; rw [← hm] at e8; (first | rw [if_pos (by omega)] at e8 | rw [if_neg (by omega)] at e8); omega) (fun j hj => by rw [(ws_y (T := T) (o := o) (k := k) (by omega) ⟨by omega, by omega, by rw [bes_y cbqz9.2]; exact cbqz9.1.1⟩ (by omega)).2.1, ← hm, bes_y cbqz9.2]; exact iu_cong hg9 j hj) (by omega) _ _ _ h (lv_sub hl [0, 2, 1, 5, 6, 7] rfl)
                        · refine x_iconst B dX11_wished_123 ?_
                          refine lv_iload_n B.1 B.2.1 dX11_wished_124 rfl (lv_at hl 4 rfl) ?_
                          refine lv_ishl B.1 B.2.1 dX11_wished_125 ?_
                          have hp33 := P2_r (n := m_) (by omega)
                          refine x_iset (z := (P2 m_)) (shl_e (by omega)) ?_
                          refine lv_goto (tgt := 130) B.1 B.2.1 dX11_wished_126 (by decide) ?_
                          refine lv_ior B.1 B.2.1 dX11_wished_130 ?_
                          refine x_iset (z := (lo + (P2 m_))) (or_e (by omega) (by omega)) ?_
                          refine lv_istore (lv' := [(4, .int (iI (lo + (P2 m_)))), (7, .ref (G 4 bqz9)), (6, .ref (G 4 k)), (5, .int (iI k)), (3, .int (iI m_)), (0, .ref (ad 0)), (1, .int (iI o)), (2, .int (iI what))]) B.1 B.2.1 dX11_wished_131 hl (by decide) rfl (fun ls hl => ?_)
                          refine lv_iinc (v := iI (m_ + 1)) (lv' := [(3, .int (iI (m_ + 1))), (4, .int (iI (lo + (P2 m_)))), (7, .ref (G 4 bqz9)), (6, .ref (G 4 k)), (5, .int (iI k)), (0, .ref (ad 0)), (1, .int (iI o)), (2, .int (iI what))]) B.1 B.2.1 dX11_wished_133 hl (k := 4) rfl (iI_add _ _) (by decide) rfl (fun ls hl => ?_)
                          refine lv_iinc (v := iI (k + 1)) (lv' := [(5, .int (iI (k + 1))), (3, .int (iI (m_ + 1))), (4, .int (iI (lo + (P2 m_)))), (7, .ref (G 4 bqz9)), (6, .ref (G 4 k)), (0, .ref (ad 0)), (1, .int (iI o)), (2, .int (iI what))]) B.1 B.2.1 dX11_wished_136 hl (k := 4) rfl (iI_add _ _) (by decide) rfl (fun ls hl => ?_)
                          refine lv_goto (tgt := 31) B.1 B.2.1 dX11_wished_139 (by decide) ?_
                          exact ih31 ((m_ + 1)) ((lo + (P2 m_))) ((k + 1)) (iu g9 m_ ((T 8 k) - (T 8 bqz9))) (by omega) (by omega) (by have q9 := (ws_y (T := T) (o := o) (k := k) (by omega) ⟨by omega, by omega, by rw [bes_y cbqz9.2]; exact cbqz9.1.1⟩ (by omega)).1; omega) (by have e8 := (ws_y (T := T) (o := o) (k := k) (by omega) ⟨by omega, by omega, by rw [bes_y cbqz9.2]; exact cbqz9.1.1⟩ (by omega)).2.2; rw [← hm] at e8; (first | rw [if_pos (by omega)] at e8 | rw [if_neg (by omega)] at e8); omega) (fun j hj => by rw [(ws_y (T := T) (o := o) (k := k) (by omega) ⟨by omega, by omega, by rw [bes_y cbqz9.2]; exact cbqz9.1.1⟩ (by omega)).2.1, ← hm, bes_y cbqz9.2]; exact iu_cong hg9 j hj) (by omega) _ _ _ h (lv_sub hl [0, 2, 1, 5, 6, 7] rfl)
                    · refine lv_null B.1 B.2.1 dX11_wished_74 ?_
                      refine lv_goto (tgt := 84) B.1 B.2.1 dX11_wished_75 (by decide) ?_
                      refine lv_astoreN (lv' := [(7, .null), (6, .ref (G 4 k)), (5, .int (iI k)), (4, .int (iI lo)), (3, .int (iI m_)), (0, .ref (ad 0)), (1, .int (iI o)), (2, .int (iI what))]) B.1 B.2.1 dX11_wished_84 hl (by decide) rfl (fun ls hl => ?_)
                      refine lv_aload B.1 B.2.1 dX11_wished_86 (lv_at hl 1 rfl) ?_
                      refine lv_ifnull B.1 B.2.1 dX11_wished_88 ?_
                      refine lv_aloadN B.1 B.2.1 dX11_wished_91 (lv_at hl 0 rfl) ?_
                      refine lv_ifnullN (tgt := 136) B.1 B.2.1 dX11_wished_93 (by decide) ?_
                      refine lv_iinc (v := iI (k + 1)) (lv' := [(5, .int (iI (k + 1))), (7, .null), (6, .ref (G 4 k)), (4, .int (iI lo)), (3, .int (iI m_)), (0, .ref (ad 0)), (1, .int (iI o)), (2, .int (iI what))]) B.1 B.2.1 dX11_wished_136 hl (k := 2) rfl (iI_add _ _) (by decide) rfl (fun ls hl => ?_)
                      refine lv_goto (tgt := 31) B.1 B.2.1 dX11_wished_139 (by decide) ?_
                      exact ih31 m_ lo ((k + 1)) g9 (by omega) (by omega) (hm.trans (ws_n (T := T) (o := o) (k := k) (by omega) (fun q9 => by obtain ⟨⟨x, y, z⟩, -⟩ := q9; first | omega | (rw [bes_n cbqz9] at z; omega))).1.symm) (hl9.trans (ws_n (T := T) (o := o) (k := k) (by omega) (fun q9 => by obtain ⟨⟨x, y, z⟩, -⟩ := q9; first | omega | (rw [bes_n cbqz9] at z; omega))).2.2.symm) (fun j hj => by rw [(ws_n (T := T) (o := o) (k := k) (by omega) (fun q9 => by obtain ⟨⟨x, y, z⟩, -⟩ := q9; first | omega | (rw [bes_n cbqz9] at z; omega))).2.1]; exact hg9 j hj) (by omega) _ _ _ h (lv_sub hl [0, 3, 4, 5, 6, 7] rfl)
          exact loop31 (((300 - 0 : Int)).toNat + 1) 0 0 0 g5 (by omega) (by omega) rfl rfl (fun j hj => absurd hj (by omega)) (Nat.lt_succ_self _) _ _ _ h (lv_sub hl [0, 1, 2, 3, 4, 5] rfl)
        · exact absurd c4 (by omega)
      · show W p l e r_c_X11_wished_e s m args below meth c _ _ 0 0 Qf (F0 m 16 ls [.int (iI 0)])
        refine x_if_ne B (by omega) (tgt := 23) dX11_wished_16 (by decide) (fun c34 => ?_) (fun c34 => ?_)
        · exact absurd c34 (by omega)
        · refine x_ldcw B (z := (-1000000)) m_1131 (by decide) dX11_wished_19 ?_
          refine y_ri B hQ h (by decide) dX11_wished_22 ?_
          exact ⟨rfl, _, rfl, by omega, Or.inl ⟨fun ⟨x, y⟩ => by omega, rfl⟩⟩
  · show W p l e r_c_X11_wished_e s m args below meth c _ _ 0 0 Qf (F0 m 8 ls [.int (iI 0)])
    refine x_if_eq B (by omega) (tgt := 19) dX11_wished_8 (by decide) (fun c35 => ?_) (fun c35 => ?_)
    · refine x_ldcw B (z := (-1000000)) m_1131 (by decide) dX11_wished_19 ?_
      refine y_ri B hQ h (by decide) dX11_wished_22 ?_
      exact ⟨rfl, _, rfl, by omega, Or.inl ⟨fun ⟨x, y⟩ => by omega, rfl⟩⟩
    · exact absurd c35 (by omega)
