/-! ===== the JDK's count of a long's bits ===== -/
theorem chop (a b c d : Nat) (ha : a < 256) (hc : c < 256) : (a + 256 * b) &&& (c + 256 * d) = (a &&& c) + 256 * (b &&& d) := by
  have hac : a &&& c < 2 ^ 8 := Nat.and_lt_two_pow _ (by omega)
  apply Nat.eq_of_testBit_eq
  intro i
  rw [Nat.testBit_and, show a + 256 * b = 2 ^ 8 * b + a by omega, show c + 256 * d = 2 ^ 8 * d + c by omega, show (a &&& c) + 256 * (b &&& d) = 2 ^ 8 * (b &&& d) + (a &&& c) by omega,
    Nat.testBit_two_pow_mul_add _ (by omega), Nat.testBit_two_pow_mul_add _ (by omega), Nat.testBit_two_pow_mul_add _ hac]
  by_cases q : i < 8
  · rw [if_pos q, if_pos q, if_pos q, Nat.testBit_and]
  · rw [if_neg q, if_neg q, if_neg q, Nat.testBit_and]
def mRep (k : Nat) : Nat → Nat
  | 0 => 0
  | n + 1 => k + 256 * mRep k n
def F1 (n x : Nat) : Nat := x - ((x / 2) &&& mRep 0x55 n)
def F2 (n x : Nat) : Nat := (x &&& mRep 0x33 n) + ((x / 4) &&& mRep 0x33 n)
def F3 (n x : Nat) : Nat := (x + x / 16) &&& mRep 0x0f n
def B1 (b : Nat) : Nat := b - ((b / 2) &&& 0x55)
def B2 (b : Nat) : Nat := (b &&& 0x33) + ((b / 4) &&& 0x33)
def B3 (b : Nat) : Nat := (b + b / 16) &&& 0x0f
theorem D1 : ∀ b : Nat, b < 256 → ∀ t : Nat, t < 2 → (b / 2 + 128 * t) &&& 0x55 = (b / 2) &&& 0x55 := by decide +kernel
theorem D2 : ∀ b : Nat, b < 256 → ∀ t : Nat, t < 4 → (b / 4 + 64 * t) &&& 0x33 = (b / 4) &&& 0x33 := by decide +kernel
theorem D3 : ∀ b : Nat, b < 80 → ∀ t : Nat, t < 5 → (b + 16 * t) &&& 0x0f = b &&& 0x0f := by decide +kernel
theorem F1_c {b r n : Nat} (hb : b < 256) : F1 (n + 1) (b + 256 * r) = B1 b + 256 * F1 n r := by
  unfold F1 B1
  show b + 256 * r - (((b + 256 * r) / 2) &&& (0x55 + 256 * mRep 0x55 n)) = _
  rw [show (b + 256 * r) / 2 = (b / 2 + 128 * (r % 2)) + 256 * (r / 2) by omega, chop _ _ _ _ (by omega) (by omega), D1 b hb (r % 2) (by omega)]
  have e1 : (b / 2) &&& 0x55 ≤ b / 2 := Nat.and_le_left
  have e2 : (r / 2) &&& mRep 0x55 n ≤ r / 2 := Nat.and_le_left
  omega
theorem F2_c {b r n : Nat} (hb : b < 256) : F2 (n + 1) (b + 256 * r) = B2 b + 256 * F2 n r := by
  unfold F2 B2
  show ((b + 256 * r) &&& (0x33 + 256 * mRep 0x33 n)) + (((b + 256 * r) / 4) &&& (0x33 + 256 * mRep 0x33 n)) = _
  rw [show (b + 256 * r) / 4 = (b / 4 + 64 * (r % 4)) + 256 * (r / 4) by omega, chop _ _ _ _ hb (by omega), chop _ _ _ _ (by omega) (by omega), D2 b hb (r % 4) (by omega)]
  omega
theorem F3_c {b r n : Nat} (hb : b / 16 ≤ 4 ∧ b % 16 ≤ 4) (hr : r % 16 ≤ 4) : F3 (n + 1) (b + 256 * r) = B3 b + 256 * F3 n r := by
  unfold F3 B3
  show ((b + 256 * r) + (b + 256 * r) / 16) &&& (0x0f + 256 * mRep 0x0f n) = _
  rw [show (b + 256 * r) + (b + 256 * r) / 16 = (b + b / 16 + 16 * (r % 16)) + 256 * (r + r / 16) by omega, chop _ _ _ _ (by omega) (by omega), D3 (b + b / 16) (by omega) (r % 16) (by omega)]
def P8 (b : Nat) : Nat := B3 (B2 (B1 b))
theorem B_all : ∀ b : Nat, b < 256 → B1 b < 256 ∧ B2 (B1 b) / 16 ≤ 4 ∧ B2 (B1 b) % 16 ≤ 4 ∧ P8 b ≤ 8 ∧ P8 b = b % 2 + b / 2 % 2 + b / 4 % 2 + b / 8 % 2 + b / 16 % 2 + b / 32 % 2 + b / 64 % 2 + b / 128 % 2 := by decide +kernel
def GD : Nat → Nat → Nat
  | 0, _ => 0
  | n + 1, x => P8 (x % 256) + 256 * GD n (x / 256)
def SD : Nat → Nat → Nat
  | 0, _ => 0
  | n + 1, x => P8 (x % 256) + SD n (x / 256)
theorem F12_n : ∀ (n r : Nat), r < 256 ^ n → (F2 n (F1 n r)) % 16 ≤ 4
  | 0, r, h => by
    obtain rfl : r = 0 := by omega
    decide
  | n + 1, r, h => by
    have e : r = r % 256 + 256 * (r / 256) := by omega
    have b := B_all (r % 256) (by omega)
    rw [e, F1_c (by omega), F2_c b.1]
    omega
theorem F_G : ∀ (n x : Nat), x < 256 ^ n → F3 n (F2 n (F1 n x)) = GD n x
  | 0, x, h => by
    obtain rfl : x = 0 := by omega
    rfl
  | n + 1, x, h => by
    have hx : x / 256 < 256 ^ n := by rw [Nat.pow_succ] at h; omega
    have e : x = x % 256 + 256 * (x / 256) := by omega
    have b := B_all (x % 256) (by omega)
    show _ = P8 (x % 256) + 256 * GD n (x / 256)
    rw [← F_G n (x / 256) hx]
    have k : F3 (n + 1) (F2 (n + 1) (F1 (n + 1) (x % 256 + 256 * (x / 256)))) = B3 (B2 (B1 (x % 256))) + 256 * F3 n (F2 n (F1 n (x / 256))) := by
      rw [F1_c (by omega), F2_c b.1, F3_c ⟨b.2.1, b.2.2.1⟩ (F12_n n _ hx)]
    rw [← e] at k
    exact k
/-- the bits one after the other -/
def tbc (x : Nat) : Nat → Nat
  | 0 => 0
  | n + 1 => tbc x n + x / 2 ^ n % 2
theorem tbc_s (x : Nat) : ∀ n : Nat, tbc x (n + 1) = x % 2 + tbc (x / 2) n
  | 0 => by show 0 + x / 2 ^ 0 % 2 = x % 2 + 0; rw [Nat.pow_zero, Nat.div_one]; omega
  | n + 1 => by
    show tbc x (n + 1) + x / 2 ^ (n + 1) % 2 = x % 2 + (tbc (x / 2) n + x / 2 / 2 ^ n % 2)
    rw [tbc_s x n, Nat.div_div_eq_div_mul, Nat.pow_succ, Nat.mul_comm (2 ^ n) 2]
    omega
theorem tbc_8 (x n : Nat) : tbc x (n + 8) = P8 (x % 256) + tbc (x / 256) n := by
  rw [show n + 8 = n + 7 + 1 from rfl, tbc_s, show n + 7 = n + 6 + 1 from rfl, tbc_s, show n + 6 = n + 5 + 1 from rfl, tbc_s, show n + 5 = n + 4 + 1 from rfl, tbc_s, show n + 4 = n + 3 + 1 from rfl, tbc_s, show n + 3 = n + 2 + 1 from rfl, tbc_s, show n + 2 = n + 1 + 1 from rfl, tbc_s, tbc_s, (B_all (x % 256) (by omega)).2.2.2.2,
    show x / 2 / 2 / 2 / 2 / 2 / 2 / 2 / 2 = x / 256 by omega]
  omega
theorem tbc_64 (x : Nat) : tbc x 64 = SD 8 x := by
  show tbc x (56 + 8) = _
  rw [tbc_8]
  show _ + tbc _ (48 + 8) = _
  rw [tbc_8]
  show _ + (_ + tbc _ (40 + 8)) = _
  rw [tbc_8]
  show _ + (_ + (_ + tbc _ (32 + 8))) = _
  rw [tbc_8]
  show _ + (_ + (_ + (_ + tbc _ (24 + 8)))) = _
  rw [tbc_8]
  show _ + (_ + (_ + (_ + (_ + tbc _ (16 + 8))))) = _
  rw [tbc_8]
  show _ + (_ + (_ + (_ + (_ + (_ + tbc _ (8 + 8)))))) = _
  rw [tbc_8]
  show _ + (_ + (_ + (_ + (_ + (_ + (_ + tbc _ (0 + 8))))))) = _
  rw [tbc_8]
  rfl
theorem cnt_tb (x : Int64) : ∀ n : Nat, n ≤ 64 → cntp (LB x) n = ((tbc x.toBitVec.toNat n : Nat) : Int)
  | 0, _ => rfl
  | n + 1, h => by
    show cntp (LB x) n + @ite Int (LB x (n : Int)) (Classical.propDecidable _) 1 0 = ((tbc x.toBitVec.toNat n + x.toBitVec.toNat / 2 ^ n % 2 : Nat) : Int)
    rw [cnt_tb x n (by omega)]
    have e : LB x (n : Int) ↔ x.toBitVec.toNat / 2 ^ n % 2 = 1 := by
      unfold LB
      rw [Int.toNat_natCast, ← BitVec.testBit_toNat, Nat.testBit_eq_decide_div_mod_eq, decide_eq_true_eq]
    by_cases q : LB x (n : Int)
    · rw [if_pos q, Int.natCast_add, e.mp q]; rfl
    · rw [if_neg q, Int.natCast_add]
      have r : ¬ x.toBitVec.toNat / 2 ^ n % 2 = 1 := fun z => q (e.mpr z)
      have s : x.toBitVec.toNat / 2 ^ n % 2 = 0 := by omega
      rw [s]; rfl
theorem gatK {z r1 r2 x2 x3 p0 p1 p2 p3 p4 p5 p6 p7 : Nat} (hz : z = p0 + 256 * r1) (h1 : r1 = p1 + 256 * r2) (e1 : z / 256 = r1) (e2 : (z + z / 256) / 65536 = (p2 + p3) + 256 * x2) (e3 : (z + z / 256 + (z + z / 256) / 65536) / 4294967296 = (p4 + p5 + p6 + p7) + 256 * x3)
    (h : p0 ≤ 8 ∧ p1 ≤ 8 ∧ p2 ≤ 8 ∧ p3 ≤ 8 ∧ p4 ≤ 8 ∧ p5 ≤ 8 ∧ p6 ≤ 8 ∧ p7 ≤ 8) : (z + z / 256 + (z + z / 256) / 65536 + (z + z / 256 + (z + z / 256) / 65536) / 4294967296) % 128 = p0 + (p1 + (p2 + (p3 + (p4 + (p5 + (p6 + (p7 + 0))))))) := by
  rw [e3, e2, e1]
  clear e1 e2 e3
  have q : z + r1 + (p2 + p3 + 256 * x2) + (p4 + p5 + p6 + p7 + 256 * x3) = (p0 + (p1 + (p2 + (p3 + (p4 + (p5 + (p6 + (p7 + 0)))))))) + 128 * (2 * (r1 + r2 + x2 + x3)) := by omega
  rw [q, Nat.add_mul_mod_self_left]
  clear q hz h1
  exact Nat.mod_eq_of_lt (by omega)
/-- the digits gathered -/
theorem gat (z p0 p1 p2 p3 p4 p5 p6 p7 : Nat) (h : p0 ≤ 8 ∧ p1 ≤ 8 ∧ p2 ≤ 8 ∧ p3 ≤ 8 ∧ p4 ≤ 8 ∧ p5 ≤ 8 ∧ p6 ≤ 8 ∧ p7 ≤ 8) (hz : z = p0 + 256 * (p1 + 256 * (p2 + 256 * (p3 + 256 * (p4 + 256 * (p5 + 256 * (p6 + 256 * (p7 + 256 * 0)))))))) :
    ∃ a b c : Nat, a = z + z / 256 ∧ b = a + a / 65536 ∧ c = b + b / 4294967296 ∧ a < 2 ^ 64 ∧ b < 2 ^ 64 ∧ c < 2 ^ 64 ∧ c % 128 = p0 + (p1 + (p2 + (p3 + (p4 + (p5 + (p6 + (p7 + 0))))))) := by
  rw [Nat.mul_zero, Nat.add_zero] at hz
  have e1 : z / 256 = p1 + 256 * (p2 + 256 * (p3 + 256 * (p4 + 256 * (p5 + 256 * (p6 + 256 * p7))))) := by omega
  have e2 : (z + z / 256) / 65536 = (p2 + p3) + 256 * ((p3 + p4) + 256 * ((p4 + p5) + 256 * ((p5 + p6) + 256 * ((p6 + p7) + 256 * p7)))) := by omega
  have e3 : (z + z / 256 + (z + z / 256) / 65536) / 4294967296 = (p4 + p5 + p6 + p7) + 256 * ((p5 + p6 + p7) + 256 * ((p6 + p7) + 256 * p7)) := by omega
  exact ⟨_, _, _, rfl, rfl, rfl, by omega, by omega, by omega, gatK hz rfl e1 e2 e3 h⟩
theorem gatG (x : Nat) : ∃ a b c : Nat, a = GD 8 x + GD 8 x / 256 ∧ b = a + a / 65536 ∧ c = b + b / 4294967296 ∧ a < 2 ^ 64 ∧ b < 2 ^ 64 ∧ c < 2 ^ 64 ∧ c % 128 = SD 8 x := by
  have h : ∀ y : Nat, P8 (y % 256) ≤ 8 := fun y => (B_all (y % 256) (by omega)).2.2.2.1
  exact gat _ _ _ _ _ _ _ _ _ ⟨h _, h _, h _, h _, h _, h _, h _, h _⟩ rfl
theorem ln_and (x y : Int64) : (x &&& y).toBitVec.toNat = x.toBitVec.toNat &&& y.toBitVec.toNat := by rw [Int64.toBitVec_and, BitVec.toNat_and]
theorem ln_sub {x y : Int64} (h : y.toBitVec.toNat ≤ x.toBitVec.toNat) : (x - y).toBitVec.toNat = x.toBitVec.toNat - y.toBitVec.toNat := by
  rw [Int64.toBitVec_sub]
  exact BitVec.toNat_sub_of_le h
theorem ln_add {x y : Int64} (h : x.toBitVec.toNat + y.toBitVec.toNat < 2 ^ 64) : (x + y).toBitVec.toNat = x.toBitVec.toNat + y.toBitVec.toNat := by
  rw [Int64.toBitVec_add]
  exact BitVec.toNat_add_of_lt h
theorem ln_shr {x : Int64} {y : Int} {k : Nat} (hy : 0 ≤ y ∧ y ≤ 63) (hk : 2 ^ y.toNat = k) : (lrh x y).toBitVec.toNat = x.toBitVec.toNat / k := by
  have a := lrh_all y.toNat (by omega)
  rw [Int.toNat_of_nonneg hy.1] at a
  have q : (x.toUInt64 >>> ((iI y).toInt64.toUInt64 &&& Int64.toUInt64 63)).toInt64.toBitVec = x.toBitVec >>> (BitVec.ofNat 64 y.toNat) := by rw [UInt64.toBitVec_toInt64, UInt64.toBitVec_shiftRight]; exact congrArg (fun t => x.toBitVec >>> t) a
  unfold lrh
  rw [q, BitVec.ushiftRight_eq', BitVec.toNat_ofNat, Nat.mod_eq_of_lt (by omega), BitVec.toNat_ushiftRight, Nat.shiftRight_eq_div_pow, hk]
theorem ln_127 {x : Int64} {z8 : Int} (hz : xr z8) (e : x.toInt32 &&& iI 127 = iI z8) : z8 = ((x.toBitVec.toNat % 128 : Nat) : Int) := by
  have m : ∀ n : Nat, n < 128 → (iI (n : Int)).toBitVec.toNat = n := by decide +kernel
  have k : x.toInt32 &&& iI 127 = iI ((x.toBitVec.toNat % 128 : Nat) : Int) := by
    apply Int32.toBitVec_inj.mp
    apply BitVec.eq_of_toNat_eq
    rw [Int32.toBitVec_and, BitVec.toNat_and, Int64.toBitVec_toInt32, BitVec.signExtend_eq_setWidth_of_le _ (by decide), BitVec.toNat_setWidth, m (x.toBitVec.toNat % 128) (by omega)]
    have f : (iI 127).toBitVec.toNat = 2 ^ 7 - 1 := m 127 (by omega)
    rw [f, Nat.and_two_pow_sub_one_eq_mod]
    omega
  exact ((iI_eq ⟨hz, (by omega : xr ((x.toBitVec.toNat % 128 : Nat) : Int))⟩).mp (e.symm.trans k))
theorem bc_fin {x y1 y2 y3 y4 y5 y6 : Int64} {z7 z8 : Int} (h1 : y1 = x - (lrh x 1 &&& 6148914691236517205)) (h2 : y2 = (y1 &&& 3689348814741910323) + (lrh y1 2 &&& 3689348814741910323)) (h3 : y3 = y2 + lrh y2 4)
    (h4 : y4 = (y3 &&& 1085102592571150095) + lrh (y3 &&& 1085102592571150095) 8) (h5 : y5 = y4 + lrh y4 16) (h6 : y6 = y5 + lrh y5 32) (e7 : y6.toInt32 = iI z7) (hz : xr z8) (e8 : iI z7 &&& iI 127 = iI z8) : z8 = cntp (LB x) 64 ∧ 0 ≤ z8 ∧ z8 ≤ 64 := by
  have c1 : (6148914691236517205 : Int64).toBitVec.toNat = mRep 0x55 8 := by decide +kernel
  have c2 : (3689348814741910323 : Int64).toBitVec.toNat = mRep 0x33 8 := by decide +kernel
  have c3 : (1085102592571150095 : Int64).toBitVec.toNat = mRep 0x0f 8 := by decide +kernel
  have n2 : mRep 0x33 8 = 3689348814741910323 := by decide +kernel
  have hX : x.toBitVec.toNat < 256 ^ 8 := x.toBitVec.isLt
  have a1 : y1.toBitVec.toNat = F1 8 x.toBitVec.toNat := by
    have b : (lrh x 1 &&& 6148914691236517205).toBitVec.toNat = (x.toBitVec.toNat / 2) &&& mRep 0x55 8 := by rw [ln_and, ln_shr (k := 2) (by omega) (by rfl), c1]
    have le : (x.toBitVec.toNat / 2) &&& mRep 0x55 8 ≤ x.toBitVec.toNat / 2 := Nat.and_le_left
    rw [h1, ln_sub (by rw [b]; omega), b]
    rfl
  have a2 : y2.toBitVec.toNat = F2 8 y1.toBitVec.toNat ∧ y2.toBitVec.toNat ≤ 7378697629483820646 := by
    have b1 : (y1 &&& 3689348814741910323).toBitVec.toNat = y1.toBitVec.toNat &&& mRep 0x33 8 := by rw [ln_and, c2]
    have b2 : (lrh y1 2 &&& 3689348814741910323).toBitVec.toNat = (y1.toBitVec.toNat / 4) &&& mRep 0x33 8 := by rw [ln_and, ln_shr (k := 4) (by omega) (by rfl), c2]
    have l1 : y1.toBitVec.toNat &&& mRep 0x33 8 ≤ mRep 0x33 8 := Nat.and_le_right
    have l2 : (y1.toBitVec.toNat / 4) &&& mRep 0x33 8 ≤ mRep 0x33 8 := Nat.and_le_right
    rw [n2] at l1 l2
    rw [h2, ln_add (by rw [b1, b2]; rw [n2]; omega), b1, b2]
    refine ⟨rfl, ?_⟩
    rw [n2]
    omega
  have a3 : (y3 &&& 1085102592571150095).toBitVec.toNat = GD 8 x.toBitVec.toNat := by
    have b : (lrh y2 4).toBitVec.toNat = y2.toBitVec.toNat / 16 := ln_shr (k := 16) (by omega) (by rfl)
    have e3 : y3.toBitVec.toNat = y2.toBitVec.toNat + y2.toBitVec.toNat / 16 := by
      have le := a2.2
      rw [h3, ln_add (by rw [b]; omega), b]
    rw [ln_and, c3, e3, ← F_G 8 _ hX, ← a1, ← a2.1]
    rfl
  obtain ⟨a, b, c, ea, eb, ec, la, lb, lc, e9⟩ := gatG x.toBitVec.toNat
  have a4 : y4.toBitVec.toNat = a := by
    have q : (lrh (y3 &&& 1085102592571150095) 8).toBitVec.toNat = GD 8 x.toBitVec.toNat / 256 := by rw [ln_shr (k := 256) (by omega) (by rfl), a3]
    rw [h4, ln_add (by rw [q, a3, ← ea]; exact la), q, a3, ← ea]
  have a5 : y5.toBitVec.toNat = b := by
    have q : (lrh y4 16).toBitVec.toNat = a / 65536 := by rw [ln_shr (k := 65536) (by omega) (by rfl), a4]
    rw [h5, ln_add (by rw [q, a4, ← eb]; exact lb), q, a4, ← eb]
  have a6 : y6.toBitVec.toNat = c := by
    have q : (lrh y5 32).toBitVec.toNat = b / 4294967296 := by rw [ln_shr (k := 4294967296) (by omega) (by rfl), a5]
    rw [h6, ln_add (by rw [q, a5, ← ec]; exact lc), q, a5, ← ec]
  rw [← e7] at e8
  have r := ln_127 hz e8
  rw [a6, e9, ← tbc_64, ← cnt_tb x 64 (by omega)] at r
  have s := cntp_r (P := LB x) 64
  exact ⟨r, by rw [r]; exact s.1, by rw [r]; exact s.2⟩


abbrev r_c_J13_bitCount_95d88_e : Room := { frames := 0, cells := 0, slots := 0, locals := 0 }
set_option maxHeartbeats 4000000 in
set_option maxRecDepth 100000 in
theorem c_J13_bitCount_95d88_e (l : Launch) (D : va_G) (Zk : yK) (ca : Nat → ClassId) (w : yW) (x : Int64)   : yC l D Zk ca yJ13_bitCount_95d88 cJ13_bitCount_95d88 2 (some .int) r_c_J13_bitCount_95d88_e [.long (x)] w (vI w (fun z => z = cntp (LB x) 64 ∧ 0 ≤ z ∧ z ≤ 64)) := by
  refine yC.of2 "java/lang/Long" (by decide) rfl (Nat.le_of_ble_eq_true rfl) ?_
  intro p e s m args below meth c A ls Qf B hnm h hl hQ
  have hl : lv_has ls 2 [(0, .long (x))] := hl
  refine lv_lload_n B.1 B.2.1 dJ13_bitCount_95d88_0 rfl (lv_at hl 0 rfl) ?_
  refine lv_lload_n B.1 B.2.1 dJ13_bitCount_95d88_1 rfl (lv_at hl 0 rfl) ?_
  refine x_iconst B dJ13_bitCount_95d88_2 ?_
  refine lv_lushr (v := (lrh x 1)) B.1 B.2.1 dJ13_bitCount_95d88_3 rfl ?_
  refine x_ldc2 B m_1208 dJ13_bitCount_95d88_4 ?_
  refine lv_land B.1 B.2.1 dJ13_bitCount_95d88_7 ?_
  refine lv_lsub B.1 B.2.1 dJ13_bitCount_95d88_8 ?_
  refine x_rawLe (fun y1 hy1 => ?_)
  refine lv_lstore_n (lv' := [(0, .long (y1))]) B.1 B.2.1 dJ13_bitCount_95d88_9 rfl hl (by decide) rfl (fun ls hl => ?_)
  refine lv_lload_n B.1 B.2.1 dJ13_bitCount_95d88_10 rfl (lv_at hl 0 rfl) ?_
  refine x_ldc2 B m_1209 dJ13_bitCount_95d88_11 ?_
  refine lv_land B.1 B.2.1 dJ13_bitCount_95d88_14 ?_
  refine lv_lload_n B.1 B.2.1 dJ13_bitCount_95d88_15 rfl (lv_at hl 0 rfl) ?_
  refine x_iconst B dJ13_bitCount_95d88_16 ?_
  refine lv_lushr (v := (lrh y1 2)) B.1 B.2.1 dJ13_bitCount_95d88_17 rfl ?_
  refine x_ldc2 B m_1209 dJ13_bitCount_95d88_18 ?_
  refine lv_land B.1 B.2.1 dJ13_bitCount_95d88_21 ?_
  refine lv_ladd B.1 B.2.1 dJ13_bitCount_95d88_22 ?_
  refine x_rawLe (fun y2 hy2 => ?_)
  refine lv_lstore_n (lv' := [(0, .long (y2))]) B.1 B.2.1 dJ13_bitCount_95d88_23 rfl hl (by decide) rfl (fun ls hl => ?_)
  refine lv_lload_n B.1 B.2.1 dJ13_bitCount_95d88_24 rfl (lv_at hl 0 rfl) ?_
  refine lv_lload_n B.1 B.2.1 dJ13_bitCount_95d88_25 rfl (lv_at hl 0 rfl) ?_
  refine x_iconst B dJ13_bitCount_95d88_26 ?_
  refine lv_lushr (v := (lrh y2 4)) B.1 B.2.1 dJ13_bitCount_95d88_27 rfl ?_
  refine lv_ladd B.1 B.2.1 dJ13_bitCount_95d88_28 ?_
  refine x_rawLe (fun y3 hy3 => ?_)
  refine x_ldc2 B m_1210 dJ13_bitCount_95d88_29 ?_
  refine lv_land B.1 B.2.1 dJ13_bitCount_95d88_32 ?_
  refine lv_lstore_n (lv' := [(0, .long ((y3 &&& (1085102592571150095 : Int64))))]) B.1 B.2.1 dJ13_bitCount_95d88_33 rfl hl (by decide) rfl (fun ls hl => ?_)
  refine lv_lload_n B.1 B.2.1 dJ13_bitCount_95d88_34 rfl (lv_at hl 0 rfl) ?_
  refine lv_lload_n B.1 B.2.1 dJ13_bitCount_95d88_35 rfl (lv_at hl 0 rfl) ?_
  refine x_bipush B (by decide) dJ13_bitCount_95d88_36 ?_
  refine lv_lushr (v := (lrh ((y3 &&& (1085102592571150095 : Int64))) 8)) B.1 B.2.1 dJ13_bitCount_95d88_38 rfl ?_
  refine lv_ladd B.1 B.2.1 dJ13_bitCount_95d88_39 ?_
  refine x_rawLe (fun y4 hy4 => ?_)
  refine lv_lstore_n (lv' := [(0, .long (y4))]) B.1 B.2.1 dJ13_bitCount_95d88_40 rfl hl (by decide) rfl (fun ls hl => ?_)
  refine lv_lload_n B.1 B.2.1 dJ13_bitCount_95d88_41 rfl (lv_at hl 0 rfl) ?_
  refine lv_lload_n B.1 B.2.1 dJ13_bitCount_95d88_42 rfl (lv_at hl 0 rfl) ?_
  refine x_bipush B (by decide) dJ13_bitCount_95d88_43 ?_
  refine lv_lushr (v := (lrh y4 16)) B.1 B.2.1 dJ13_bitCount_95d88_45 rfl ?_
  refine lv_ladd B.1 B.2.1 dJ13_bitCount_95d88_46 ?_
  refine x_rawLe (fun y5 hy5 => ?_)
  refine lv_lstore_n (lv' := [(0, .long (y5))]) B.1 B.2.1 dJ13_bitCount_95d88_47 rfl hl (by decide) rfl (fun ls hl => ?_)
  refine lv_lload_n B.1 B.2.1 dJ13_bitCount_95d88_48 rfl (lv_at hl 0 rfl) ?_
  refine lv_lload_n B.1 B.2.1 dJ13_bitCount_95d88_49 rfl (lv_at hl 0 rfl) ?_
  refine x_bipush B (by decide) dJ13_bitCount_95d88_50 ?_
  refine lv_lushr (v := (lrh y5 32)) B.1 B.2.1 dJ13_bitCount_95d88_52 rfl ?_
  refine lv_ladd B.1 B.2.1 dJ13_bitCount_95d88_53 ?_
  refine x_rawLe (fun y6 hy6 => ?_)
  refine lv_lstore_n (lv' := [(0, .long (y6))]) B.1 B.2.1 dJ13_bitCount_95d88_54 rfl hl (by decide) rfl (fun ls hl => ?_)
  refine lv_lload_n B.1 B.2.1 dJ13_bitCount_95d88_55 rfl (lv_at hl 0 rfl) ?_
  refine lv_l2i B.1 B.2.1 dJ13_bitCount_95d88_56 rfl ?_
  refine x_name (fun z7 hz7 ez7 => ?_)
  refine x_bipush B (by decide) dJ13_bitCount_95d88_57 ?_
  refine lv_iand B.1 B.2.1 dJ13_bitCount_95d88_59 ?_
  refine x_name (fun z8 hz8 ez8 => ?_)
  refine y_ri B hQ h (by decide) dJ13_bitCount_95d88_60 ?_
  exact ⟨rfl, _, rfl, bc_fin hy1 hy2 hy3 hy4 hy5 hy6 ez7 hz8 ez8⟩
abbrev r_c_X11_way_e : Room := { frames := 6, cells := 0, slots := 0, locals := 137 }
set_option maxHeartbeats 4000000 in
set_option maxRecDepth 100000 in
theorem c_X11_way_e (l : Launch) (D : va_G) (Zk : yK) (ca : Nat → ClassId) (T : Nat → Int → Int) (G : Nat → Int → Nat) (u : Int) (ad : Nat → Nat) (w : yW) (hC : CW ca T G u ad w) (watch : Int) (cell : Int)  (hwatch : xr watch) (hcell : xr cell) : yC l D Zk ca yX11_way cX11_way 5 (some .int) r_c_X11_way_e [.ref (ad 0), .int (iI watch), .int (iI cell)] w (vI w (fun z => xr z ∧ WYD T watch cell z)) := by
  refine yC.of2 "WindWords" (by decide) rfl (Nat.le_of_ble_eq_true rfl) ?_
  intro p e s m args below meth c A ls Qf B hnm h hl hQ
  have hl : lv_has ls 5 [(0, .ref (ad 0)), (1, .int (iI watch)), (2, .int (iI cell))] := hl
  have hs := pi_s (CW.pi hC)
  refine lv_aload_n B.1 B.2.1 dX11_way_0 rfl (lv_at hl 0 rfl) ?_
  refine y_getR B h kX11 0 (CW.f hC 0 _ rfl) 4 (b := ad 18) rfl m_365 (by decide) dX11_way_1 ?_
  refine lv_iload_n B.1 B.2.1 dX11_way_4 rfl (lv_at hl 1 rfl) ?_
  refine y_cV B h kX8 18 (CW.f hC 18 _ rfl) k_X8_lasts rfl (c_X8_lasts l D Zk ca T G u ad _ hC watch  (by omega)) m_1204 rfl (by decide) hl.1 [] (Nat.le_of_ble_eq_true rfl) rfl dX11_way_5 (fun r w1 hq H locs h => ?_)
  obtain ⟨rfl, _, rfl, ⟨rfl, b1⟩ | ⟨rfl, b1⟩⟩ := hq
  · show W p l e r_c_X11_way_e s m args below meth c _ _ 0 0 Qf (F0 m 8 ls [.int (iI 1)])
    refine x_if_eq B (by omega) (tgt := 22) dX11_way_8 (by decide) (fun c2 => ?_) (fun c2 => ?_)
    · exact absurd c2 (by omega)
    · refine lv_iload_n B.1 B.2.1 dX11_way_11 rfl (lv_at hl 2 rfl) ?_
      refine x_iconst B dX11_way_12 ?_
      refine x_icmp_lt B (by omega) (tgt := 22) dX11_way_13 (by decide) (fun c3 => ?_) (fun c3 => ?_)
      · refine x_iconst B dX11_way_22 ?_
        refine y_ri B hQ h (by decide) dX11_way_23 ?_
        exact ⟨rfl, _, rfl, by omega, Or.inl ⟨fun ⟨⟨x1, x2, x3⟩, x4, x5⟩ => by omega, rfl⟩⟩
      · refine lv_iload_n B.1 B.2.1 dX11_way_16 rfl (lv_at hl 2 rfl) ?_
        refine x_bipush B (by decide) dX11_way_17 ?_
        refine x_icmp_le B (by omega) (tgt := 24) dX11_way_19 (by decide) (fun c4 => ?_) (fun c4 => ?_)
        · refine lv_aload_n B.1 B.2.1 dX11_way_24 rfl (lv_at hl 0 rfl) ?_
          refine y_getR B h kX11 0 (CW.f hC 0 _ rfl) 4 (b := ad 18) rfl m_365 (by decide) dX11_way_25 ?_
          refine lv_aload_n B.1 B.2.1 dX11_way_28 rfl (lv_at hl 0 rfl) ?_
          refine y_getR B h kX11 0 (CW.f hC 0 _ rfl) 0 (b := ad 1) rfl m_361 (by decide) dX11_way_29 ?_
          refine y_cV B h kX8 18 (CW.f hC 18 _ rfl) k_X8_follow rfl (c_X8_follow_e l D Zk ca T G u ad _ hC   (by omega)) m_1172 rfl (by decide) hl.1 [] (Nat.le_of_ble_eq_true rfl) rfl dX11_way_32 (fun r w1 hq H locs h => ?_)
          obtain ⟨rfl, pl2_5, rfl, hr6⟩ := hq
          have h : yH D Zk A s ((wu w 19 (ad 19, xAL (ca 1) 60 pl2_5))) _ _ := h
          show W p l e r_c_X11_way_e s m args below meth c _ _ 0 0 Qf (F0 m 35 ls [])
          refine lv_aload_n B.1 B.2.1 dX11_way_35 rfl (lv_at hl 0 rfl) ?_
          refine y_getR B h kX11 0 (wu_at (CW.f hC 0 _ rfl) (by decide)) 4 (b := ad 18) rfl m_365 (by decide) dX11_way_36 ?_
          refine lv_iload_n B.1 B.2.1 dX11_way_39 rfl (lv_at hl 1 rfl) ?_
          refine y_cV B h kX8 18 (wu_at (CW.f hC 18 _ rfl) (by decide)) k_X8_cellsOn rfl (c_X8_cellsOn_e_y l D Zk ca T G u ad _ _ hC (fun k hk => by rw [wu_ne (by omega)]) pl2_5 19 watch wu_eq (by omega) (by omega)) m_1192 rfl (by decide) hl.1 [] (Nat.le_of_ble_eq_true rfl) rfl dX11_way_40 (fun r w1 hq H locs h => ?_)
          obtain ⟨rfl, yc, rfl, hyc⟩ := hq
          show W p l e r_c_X11_way_e s m args below meth c _ _ 0 0 Qf (F0 m 43 ls [.long (yc)])
          refine lv_lstore_n (lv' := [(3, .long (yc)), (0, .ref (ad 0)), (1, .int (iI watch)), (2, .int (iI cell))]) B.1 B.2.1 dX11_way_43 rfl hl (by decide) rfl (fun ls hl => ?_)
          refine lv_iload_n B.1 B.2.1 dX11_way_44 rfl (lv_at hl 3 rfl) ?_
          refine x_iconst B dX11_way_45 ?_
          refine x_icmp_ne B (by omega) (tgt := 56) dX11_way_46 (by decide) (fun c8 => ?_) (fun c8 => ?_)
          · refine lv_lload_n B.1 B.2.1 dX11_way_56 rfl (lv_at hl 0 rfl) ?_
            refine lv_iload_n B.1 B.2.1 dX11_way_57 rfl (lv_at hl 3 rfl) ?_
            refine lv_lushr (v := (lrh yc cell)) B.1 B.2.1 dX11_way_58 rfl ?_
            refine lv_lconst (v := 1) B.1 B.2.1 dX11_way_59 (by decide) ?_
            refine lv_land B.1 B.2.1 dX11_way_60 ?_
            obtain ⟨zb, hzb, ezb⟩ := l2i_bit (x := yc) (c := cell) (by omega)
            refine lv_l2i B.1 B.2.1 dX11_way_61 ezb ?_
            have h : yH D Zk A s w _ _ := yH.unpin h (CW.f hC 19 _ rfl) (xAL_any)
            refine y_ri B hQ h (by decide) dX11_way_62 ?_
            have q8 := wyd_b hr6 (by omega) hyc (by omega) hzb
            rw [show watch - T 0 15 = watch - T 0 10 by omega] at q8
            exact ⟨rfl, _, rfl, by omega, Or.inr ⟨⟨⟨by omega, by omega, by omega⟩, by omega, by omega⟩, Or.inr (by rcases q8 with ⟨x1, x2⟩ | ⟨x1, x2⟩; exact Or.inl ⟨by omega, x1, x2⟩; exact Or.inr ⟨by omega, x1, x2⟩)⟩⟩
          · refine lv_lload_n B.1 B.2.1 dX11_way_49 rfl (lv_at hl 0 rfl) ?_
            refine y_cS B h k_J13_bitCount_95d88 (c_J13_bitCount_95d88_e l D Zk ca _ yc  ) m_1205 rfl (by decide) hl.1 [] (Nat.le_of_ble_eq_true rfl) rfl dX11_way_50 (fun r w1 hq H locs h => ?_)
            obtain ⟨rfl, zn, rfl, hzn⟩ := hq
            show W p l e r_c_X11_way_e s m args below meth c _ _ 0 0 Qf (F0 m 53 ls [.int (iI zn)])
            refine lv_goto (tgt := 62) B.1 B.2.1 dX11_way_53 (by decide) ?_
            have h : yH D Zk A s w _ _ := yH.unpin h (CW.f hC 19 _ rfl) (xAL_any)
            refine y_ri B hQ h (by decide) dX11_way_62 ?_
            have q8 := wyd_n hr6 (by omega) hyc
            rw [show watch - T 0 15 = watch - T 0 10 by omega] at q8
            exact ⟨rfl, _, rfl, by omega, Or.inr ⟨⟨⟨by omega, by omega, by omega⟩, by omega, by omega⟩, Or.inl ⟨by omega, hzn.1.trans q8⟩⟩⟩
        · refine x_iconst B dX11_way_22 ?_
          refine y_ri B hQ h (by decide) dX11_way_23 ?_
          exact ⟨rfl, _, rfl, by omega, Or.inl ⟨fun ⟨⟨x1, x2, x3⟩, x4, x5⟩ => by omega, rfl⟩⟩
  · show W p l e r_c_X11_way_e s m args below meth c _ _ 0 0 Qf (F0 m 8 ls [.int (iI 0)])
    refine x_if_eq B (by omega) (tgt := 22) dX11_way_8 (by decide) (fun c10 => ?_) (fun c10 => ?_)
    · refine x_iconst B dX11_way_22 ?_
      refine y_ri B hQ h (by decide) dX11_way_23 ?_
      exact ⟨rfl, _, rfl, by omega, Or.inl ⟨fun ⟨⟨x1, x2, x3⟩, x4, x5⟩ => by omega, rfl⟩⟩
    · exact absurd c10 (by omega)
abbrev r_c_X12_way_e : Room := { frames := 5, cells := 0, slots := 0, locals := 112 }
set_option maxHeartbeats 4000000 in
set_option maxRecDepth 100000 in
theorem c_X12_way_e (l : Launch) (D : va_G) (Zk : yK) (ca : Nat → ClassId) (T : Nat → Int → Int) (E : Nat → Int → Int) (am : Nat → Nat) (w : yW) (hM : MW ca T E am w) (watch : Int) (cell : Int)  (hwatch : xr watch) (hcell : xr cell) : yC l D Zk ca yX12_way cX12_way 3 (some .int) r_c_X12_way_e [.ref (am 0), .int (iI watch), .int (iI cell)] w (vI w (fun z => xr z ∧ WYD T watch cell z)) := by
  refine yC.of2 "WindWordsModel" (by decide) rfl (Nat.le_of_ble_eq_true rfl) ?_
  intro p e s m args below meth c A ls Qf B hnm h hl hQ
  have hl : lv_has ls 3 [(0, .ref (am 0)), (1, .int (iI watch)), (2, .int (iI cell))] := hl
  have hs := pi_s (MW.pi hM)
  have hpe := pe_0 (MW.pe hM)
  refine lv_aload_n B.1 B.2.1 dX12_way_0 rfl (lv_at hl 0 rfl) ?_
  refine y_getX B h kX12 50 (MW.f hM 0 _ rfl) 69 (z := (T 0 10)) rfl m_1330 (by decide) dX12_way_1 ?_
  refine x_if_lt B (by omega) (tgt := 32) dX12_way_4 (by decide) (fun c1 => ?_) (fun c1 => ?_)
  · refine x_iconst B dX12_way_32 ?_
    refine y_ri B hQ h (by decide) dX12_way_33 ?_
    exact ⟨rfl, _, rfl, by omega, Or.inl ⟨fun ⟨⟨x1, x2, x3⟩, x4, x5⟩ => by omega, rfl⟩⟩
  · refine lv_iload_n B.1 B.2.1 dX12_way_7 rfl (lv_at hl 1 rfl) ?_
    refine lv_aload_n B.1 B.2.1 dX12_way_8 rfl (lv_at hl 0 rfl) ?_
    refine y_getX B h kX12 50 (MW.f hM 0 _ rfl) 69 (z := (T 0 10)) rfl m_1330 (by decide) dX12_way_9 ?_
    refine lv_aload_n B.1 B.2.1 dX12_way_12 rfl (lv_at hl 0 rfl) ?_
    refine y_getX B h kX12 50 (MW.f hM 0 _ rfl) 70 (z := (T 0 11)) rfl m_1331 (by decide) dX12_way_13 ?_
    refine y_cS B h k_X12_within (c_X12_within l D Zk ca _ watch ((T 0 10)) ((T 0 11))  (by omega) (by omega) (by omega)) m_1515 rfl (by decide) hl.1 [] (Nat.le_of_ble_eq_true rfl) rfl dX12_way_16 (fun r w1 hq H locs h => ?_)
    obtain ⟨rfl, _, rfl, ⟨rfl, b2⟩ | ⟨rfl, b2⟩⟩ := hq
    · show W p l e r_c_X12_way_e s m args below meth c _ _ 0 0 Qf (F0 m 19 ls [.int (iI 1)])
      refine x_if_eq B (by omega) (tgt := 32) dX12_way_19 (by decide) (fun c3 => ?_) (fun c3 => ?_)
      · exact absurd c3 (by omega)
      · refine lv_iload_n B.1 B.2.1 dX12_way_22 rfl (lv_at hl 2 rfl) ?_
        refine x_iconst B dX12_way_23 ?_
        refine x_bipush B (by decide) dX12_way_24 ?_
        refine y_cS B h k_X12_within (c_X12_within l D Zk ca _ cell ((-1)) 63  (by omega) (by omega) (by omega)) m_1515 rfl (by decide) hl.1 [] (Nat.le_of_ble_eq_true rfl) rfl dX12_way_26 (fun r w1 hq H locs h => ?_)
        obtain ⟨rfl, _, rfl, ⟨rfl, b4⟩ | ⟨rfl, b4⟩⟩ := hq
        · show W p l e r_c_X12_way_e s m args below meth c _ _ 0 0 Qf (F0 m 29 ls [.int (iI 1)])
          refine x_if_ne B (by omega) (tgt := 34) dX12_way_29 (by decide) (fun c5 => ?_) (fun c5 => ?_)
          · refine lv_aload_n B.1 B.2.1 dX12_way_34 rfl (lv_at hl 0 rfl) ?_
            refine y_cV B h kX12 50 (MW.f hM 0 _ rfl) k_X12_findWays rfl (c_X12_findWays_e l D Zk ca T E am _ hM   (by omega)) m_1864 rfl (by decide) hl.1 [] (Nat.le_of_ble_eq_true rfl) rfl dX12_way_35 (fun r w1 hq H locs h => ?_)
            obtain ⟨rfl, cb2_6, rfl, hr7⟩ := hq
            have h : yH D Zk A s ((wu w 89 (am 39, xAI (ca 2) 3840 (gX 3840 cb2_6)))) _ _ := h
            have hcb2_6 := hr7.1
            show W p l e r_c_X12_way_e s m args below meth c _ _ 0 0 Qf (F0 m 38 ls [])
            refine lv_iload_n B.1 B.2.1 dX12_way_38 rfl (lv_at hl 2 rfl) ?_
            refine x_iconst B dX12_way_39 ?_
            refine x_icmp_ne B (by omega) (tgt := 51) dX12_way_40 (by decide) (fun c8 => ?_) (fun c8 => ?_)
            · refine lv_aload_n B.1 B.2.1 dX12_way_51 rfl (lv_at hl 0 rfl) ?_
              refine y_getR B h kX12 50 (wu_at (MW.f hM 0 _ rfl) (by decide)) 73 (b := am 39) rfl m_1334 (by decide) dX12_way_52 ?_
              refine x_bipush B (by decide) dX12_way_55 ?_
              refine lv_iload_n B.1 B.2.1 dX12_way_57 rfl (lv_at hl 1 rfl) ?_
              refine lv_aload_n B.1 B.2.1 dX12_way_58 rfl (lv_at hl 0 rfl) ?_
              refine y_getX B h kX12 50 (wu_at (MW.f hM 0 _ rfl) (by decide)) 69 (z := (T 0 10)) rfl m_1330 (by decide) dX12_way_59 ?_
              refine x_isub B dX12_way_62 ?_
              refine x_imul B dX12_way_63 ?_
              refine lv_iload_n B.1 B.2.1 dX12_way_64 rfl (lv_at hl 2 rfl) ?_
              refine x_iadd B dX12_way_65 ?_
              have gb9 := hcb2_6 (((64 * (watch - (T 0 10))) + cell)).toNat (by omega)
              refine y_zaldX B h 89 wu_eq (by omega) dX12_way_66 ?_
              refine x_if_eq B (by omega) (tgt := 74) dX12_way_67 (by decide) (fun c10 => ?_) (fun c10 => ?_)
              · refine x_iconst B dX12_way_74 ?_
                have h : yH D Zk A s w _ _ := yH.unpin h (MW.f hM 39 _ rfl) (xAI_XG hcb2_6)
                refine y_ri B hQ h (by decide) dX12_way_75 ?_
                exact ⟨rfl, _, rfl, by omega, Or.inr ⟨⟨⟨by omega, by omega, by omega⟩, by omega, by omega⟩, Or.inr (Or.inr ⟨by omega, rfl, fun q9 => by have q8 := (hr7.2 (watch - T 0 10) cell (by omega) (by omega)).mpr q9; omega⟩)⟩⟩
              · refine x_iconst B dX12_way_70 ?_
                refine lv_goto (tgt := 75) B.1 B.2.1 dX12_way_71 (by decide) ?_
                have h : yH D Zk A s w _ _ := yH.unpin h (MW.f hM 39 _ rfl) (xAI_XG hcb2_6)
                refine y_ri B hQ h (by decide) dX12_way_75 ?_
                exact ⟨rfl, _, rfl, by omega, Or.inr ⟨⟨⟨by omega, by omega, by omega⟩, by omega, by omega⟩, Or.inr (Or.inl ⟨by omega, rfl, (hr7.2 (watch - T 0 10) cell (by omega) (by omega)).mp (by omega)⟩)⟩⟩
            · refine lv_aload_n B.1 B.2.1 dX12_way_43 rfl (lv_at hl 0 rfl) ?_
              refine lv_iload_n B.1 B.2.1 dX12_way_44 rfl (lv_at hl 1 rfl) ?_
              refine y_cV B h kX12 50 (wu_at (MW.f hM 0 _ rfl) (by decide)) k_X12_cellsOn rfl (c_X12_cellsOn_e_y l D Zk ca T E am _ _ hM (fun k hk hk2 => by rw [wu_ne (by omega)]) cb2_6 89 watch wu_eq (by omega) hr7 (by omega)) m_1876 rfl (by decide) hl.1 [] (Nat.le_of_ble_eq_true rfl) rfl dX12_way_45 (fun r w1 hq H locs h => ?_)
              obtain ⟨rfl, zc, rfl, hzc⟩ := hq
              show W p l e r_c_X12_way_e s m args below meth c _ _ 0 0 Qf (F0 m 48 ls [.int (iI zc)])
              refine lv_goto (tgt := 75) B.1 B.2.1 dX12_way_48 (by decide) ?_
              have h : yH D Zk A s w _ _ := yH.unpin h (MW.f hM 39 _ rfl) (xAI_XG hcb2_6)
              refine y_ri B hQ h (by decide) dX12_way_75 ?_
              exact ⟨rfl, _, rfl, by omega, Or.inr ⟨⟨⟨by omega, by omega, by omega⟩, by omega, by omega⟩, Or.inl ⟨by omega, hzc.1⟩⟩⟩
          · exact absurd c5 (by omega)
        · show W p l e r_c_X12_way_e s m args below meth c _ _ 0 0 Qf (F0 m 29 ls [.int (iI 0)])
          refine x_if_ne B (by omega) (tgt := 34) dX12_way_29 (by decide) (fun c12 => ?_) (fun c12 => ?_)
          · exact absurd c12 (by omega)
          · refine x_iconst B dX12_way_32 ?_
            refine y_ri B hQ h (by decide) dX12_way_33 ?_
            exact ⟨rfl, _, rfl, by omega, Or.inl ⟨fun ⟨⟨x1, x2, x3⟩, x4, x5⟩ => by omega, rfl⟩⟩
    · show W p l e r_c_X12_way_e s m args below meth c _ _ 0 0 Qf (F0 m 19 ls [.int (iI 0)])
      refine x_if_eq B (by omega) (tgt := 32) dX12_way_19 (by decide) (fun c13 => ?_) (fun c13 => ?_)
      · refine x_iconst B dX12_way_32 ?_
        refine y_ri B hQ h (by decide) dX12_way_33 ?_
        exact ⟨rfl, _, rfl, by omega, Or.inl ⟨fun ⟨⟨x1, x2, x3⟩, x4, x5⟩ => by omega, rfl⟩⟩
      · exact absurd c13 (by omega)
