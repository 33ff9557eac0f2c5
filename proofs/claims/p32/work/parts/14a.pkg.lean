/-! ===== the state of both: T 0 its single numbers, T f its rows; what always holds of it ===== -/
/-- the officer who signs for ship s on watch v, by the first n signings -/
def sgo (T : Nat → Int → Int) (s v : Int) : Nat → Int
  | 0 => T 20 s
  | n + 1 => if T 21 (n : Int) = s ∧ T 23 (n : Int) ≤ v then T 22 (n : Int) else sgo T s v n
abbrev PS (T : Nat → Int → Int) : Prop :=
  (0 ≤ T 0 0 ∧ T 0 0 ≤ 16) ∧ (0 ≤ T 0 1 ∧ T 0 1 ≤ 12) ∧ (0 ≤ T 0 2 ∧ T 0 2 ≤ 300) ∧ (0 ≤ T 0 3 ∧ T 0 3 ≤ 60) ∧ (0 ≤ T 0 4 ∧ T 0 4 ≤ 7) ∧ (0 ≤ T 0 5 ∧ T 0 5 ≤ 5) ∧ (0 ≤ T 0 6 ∧ T 0 6 ≤ 4) ∧ (0 ≤ T 0 11 ∧ T 0 11 ≤ 999) ∧ (0 ≤ T 0 12 ∧ T 0 12 ≤ 7) ∧ (0 ≤ T 0 13 ∧ T 0 13 ≤ 12) ∧ (0 ≤ T 0 15 ∧ T 0 15 ≤ 999) ∧ ((T 0 14 = 0 ∧ T 0 10 = -1) ∨ (T 0 14 = 1 ∧ T 0 15 = T 0 10 ∧ 0 ≤ T 0 10 ∧ T 0 10 ≤ T 0 11 ∧ T 0 11 - T 0 10 ≤ 59))
def PI (T : Nat → Int → Int) : Prop :=
  PS T ∧ (∀ i : Int, 0 ≤ T 1 i ∧ T 1 i ≤ 3) ∧ (∀ i : Int, 0 ≤ T 2 i ∧ T 2 i ≤ 999) ∧ (∀ i : Int, 0 ≤ T 3 i ∧ T 3 i ≤ 15) ∧ (∀ i : Int, 0 ≤ T 4 i ∧ T 4 i ≤ 11) ∧ (∀ i : Int, 0 ≤ T 5 i ∧ T 5 i ≤ 999) ∧ (∀ i : Int, 0 ≤ T 6 i ∧ T 6 i ≤ 63) ∧ (∀ i : Int, 0 ≤ T 7 i ∧ T 7 i ≤ 3) ∧ (∀ i : Int, 0 ≤ T 8 i ∧ T 8 i ≤ 99) ∧ (∀ i : Int, 0 ≤ T 9 i ∧ T 9 i ≤ 9) ∧ (∀ i : Int, 0 ≤ T 10 i ∧ T 10 i ≤ 9) ∧ (∀ i : Int, 0 ≤ T 11 i ∧ T 11 i ≤ 300) ∧ (∀ i : Int, 0 ≤ T 12 i ∧ T 12 i ≤ 16) ∧ (∀ i : Int, 0 ≤ T 13 i ∧ T 13 i ≤ 7) ∧ (∀ i : Int, 0 ≤ T 14 i ∧ T 14 i ≤ 5) ∧ (∀ i : Int, 0 ≤ T 20 i ∧ T 20 i ≤ 15) ∧ (∀ i : Int, 0 ≤ T 21 i ∧ T 21 i ≤ 11) ∧ (∀ i : Int, 0 ≤ T 22 i ∧ T 22 i ≤ 15) ∧ (∀ i : Int, 0 ≤ T 23 i ∧ T 23 i ≤ 999) ∧ (∀ k : Int, T 7 k = 3 ∨ T 8 k ≤ 12) ∧ (∀ k : Int, 0 ≤ k ∧ k < T 0 2 → T 4 k < T 0 1) ∧ (∀ j k : Int, (0 ≤ j ∧ j < T 0 2) → (0 ≤ k ∧ k < T 0 2) → T 4 j = T 4 k → T 5 j = T 5 k → j = k) ∧ (∀ k : Int, 0 ≤ k ∧ k < T 0 3 → T 21 k < T 0 1) ∧ (∀ s v : Int, (0 ≤ s ∧ s < T 0 1) → (0 ≤ v ∧ v ≤ 999) → T 3 (1000 * s + v) = sgo T s v (T 0 3).toNat)
theorem pi_s {T : Nat → Int → Int} (h : PI T) : PS T := h.1
theorem pi_1 {T : Nat → Int → Int} (h : PI T) (i : Int) : 0 ≤ T 1 i ∧ T 1 i ≤ 3 := h.2.1 i
theorem pi_2 {T : Nat → Int → Int} (h : PI T) (i : Int) : 0 ≤ T 2 i ∧ T 2 i ≤ 999 := h.2.2.1 i
theorem pi_3 {T : Nat → Int → Int} (h : PI T) (i : Int) : 0 ≤ T 3 i ∧ T 3 i ≤ 15 := h.2.2.2.1 i
theorem pi_4 {T : Nat → Int → Int} (h : PI T) (i : Int) : 0 ≤ T 4 i ∧ T 4 i ≤ 11 := h.2.2.2.2.1 i
theorem pi_5 {T : Nat → Int → Int} (h : PI T) (i : Int) : 0 ≤ T 5 i ∧ T 5 i ≤ 999 := h.2.2.2.2.2.1 i
theorem pi_6 {T : Nat → Int → Int} (h : PI T) (i : Int) : 0 ≤ T 6 i ∧ T 6 i ≤ 63 := h.2.2.2.2.2.2.1 i
theorem pi_7 {T : Nat → Int → Int} (h : PI T) (i : Int) : 0 ≤ T 7 i ∧ T 7 i ≤ 3 := h.2.2.2.2.2.2.2.1 i
theorem pi_8 {T : Nat → Int → Int} (h : PI T) (i : Int) : 0 ≤ T 8 i ∧ T 8 i ≤ 99 := h.2.2.2.2.2.2.2.2.1 i
theorem pi_9 {T : Nat → Int → Int} (h : PI T) (i : Int) : 0 ≤ T 9 i ∧ T 9 i ≤ 9 := h.2.2.2.2.2.2.2.2.2.1 i
theorem pi_10 {T : Nat → Int → Int} (h : PI T) (i : Int) : 0 ≤ T 10 i ∧ T 10 i ≤ 9 := h.2.2.2.2.2.2.2.2.2.2.1 i
theorem pi_11 {T : Nat → Int → Int} (h : PI T) (i : Int) : 0 ≤ T 11 i ∧ T 11 i ≤ 300 := h.2.2.2.2.2.2.2.2.2.2.2.1 i
theorem pi_12 {T : Nat → Int → Int} (h : PI T) (i : Int) : 0 ≤ T 12 i ∧ T 12 i ≤ 16 := h.2.2.2.2.2.2.2.2.2.2.2.2.1 i
theorem pi_13 {T : Nat → Int → Int} (h : PI T) (i : Int) : 0 ≤ T 13 i ∧ T 13 i ≤ 7 := h.2.2.2.2.2.2.2.2.2.2.2.2.2.1 i
theorem pi_14 {T : Nat → Int → Int} (h : PI T) (i : Int) : 0 ≤ T 14 i ∧ T 14 i ≤ 5 := h.2.2.2.2.2.2.2.2.2.2.2.2.2.2.1 i
theorem pi_20 {T : Nat → Int → Int} (h : PI T) (i : Int) : 0 ≤ T 20 i ∧ T 20 i ≤ 15 := h.2.2.2.2.2.2.2.2.2.2.2.2.2.2.2.1 i
theorem pi_21 {T : Nat → Int → Int} (h : PI T) (i : Int) : 0 ≤ T 21 i ∧ T 21 i ≤ 11 := h.2.2.2.2.2.2.2.2.2.2.2.2.2.2.2.2.1 i
theorem pi_22 {T : Nat → Int → Int} (h : PI T) (i : Int) : 0 ≤ T 22 i ∧ T 22 i ≤ 15 := h.2.2.2.2.2.2.2.2.2.2.2.2.2.2.2.2.2.1 i
theorem pi_23 {T : Nat → Int → Int} (h : PI T) (i : Int) : 0 ≤ T 23 i ∧ T 23 i ≤ 999 := h.2.2.2.2.2.2.2.2.2.2.2.2.2.2.2.2.2.2.1 i
theorem pi_n {T : Nat → Int → Int} (h : PI T) (k : Int) : T 7 k = 3 ∨ T 8 k ≤ 12 := h.2.2.2.2.2.2.2.2.2.2.2.2.2.2.2.2.2.2.2.1 k
theorem pi_in {T : Nat → Int → Int} (h : PI T) (k : Int) (hk : 0 ≤ k ∧ k < T 0 2) : T 4 k < T 0 1 := h.2.2.2.2.2.2.2.2.2.2.2.2.2.2.2.2.2.2.2.2.1 k hk
theorem pi_un {T : Nat → Int → Int} (h : PI T) {j k : Int} (hj : 0 ≤ j ∧ j < T 0 2) (hk : 0 ≤ k ∧ k < T 0 2) (a : T 4 j = T 4 k) (b : T 5 j = T 5 k) : j = k := h.2.2.2.2.2.2.2.2.2.2.2.2.2.2.2.2.2.2.2.2.2.1 j k hj hk a b
theorem pi_sn {T : Nat → Int → Int} (h : PI T) (k : Int) (hk : 0 ≤ k ∧ k < T 0 3) : T 21 k < T 0 1 := h.2.2.2.2.2.2.2.2.2.2.2.2.2.2.2.2.2.2.2.2.2.2.1 k hk
theorem pi_sg {T : Nat → Int → Int} (h : PI T) {s v : Int} (hs : 0 ≤ s ∧ s < T 0 1) (hv : 0 ≤ v ∧ v ≤ 999) : T 3 (1000 * s + v) = sgo T s v (T 0 3).toNat := h.2.2.2.2.2.2.2.2.2.2.2.2.2.2.2.2.2.2.2.2.2.2.2 s v hs hv
/-! ===== the class's cells ===== -/
def fU (G : Nat → Int → Nat) (u : Int) : fP := fun v => ∃ j : Int, (0 ≤ j ∧ j < u) ∧ v = .ref (G 6 j)
/-- a row of references filled up to n; a row of rules or none; a ship's readings by watches -/
def gRow (G : Nat → Int → Nat) (b : Nat) (n : Int) : (Nat → Option Nat) → Prop := fun f => ∀ i : Int, 0 ≤ i ∧ i < n → f i.toNat = some (G b i)
def gU (N : Int) (G : Nat → Int → Nat) (u : Int) : (Nat → Option Nat) → Prop := fun f => ∀ i : Int, 0 ≤ i ∧ i < N → f i.toNat = none ∨ ∃ j : Int, (0 ≤ j ∧ j < u) ∧ f i.toNat = some (G 6 j)
def gRd (T : Nat → Int → Int) (G : Nat → Int → Nat) (n s : Int) : (Nat → Option Nat) → Prop := fun f => ∀ i : Int, 0 ≤ i ∧ i < 1000 → (f i.toNat = none ∧ ∀ k : Int, 0 ≤ k ∧ k < n → ¬ (T 4 k = s ∧ T 5 k = i)) ∨ ∃ k : Int, (0 ≤ k ∧ k < n) ∧ T 4 k = s ∧ T 5 k = i ∧ f i.toNat = some (G 4 k)
def cF (ca : Nat → ClassId) (T : Nat → Int → Int) (G : Nat → Int → Nat) (u : Int) (ad : Nat → Nat) : List (Nat × xPd) := [(ad 0, xO 11 [fR (ad 1), fR (ad 4), fR (ad 12), fR (ad 14), fR (ad 18), fR (ad 20), fR (ad 26), fR (ad 27), fR (ad 28), fR (ad 29), fR (ad 30), fR (ad 31), fR (ad 32), fR (ad 33), fR (ad 34), fR (ad 35), fU G u, fX (T 0 6), fG (-2147483648) 2147483647]),
  (ad 1, xO 0 [fR (ad 2), fR (ad 3), fX (T 0 0), fG (-2147483648) 2147483647, fX (T 0 1), fX (T 0 2), fX (T 0 3), fX (T 0 4), fX (T 0 5)]),
  (ad 2, xAQ (ca 4) 12 (gRow G 1 (T 0 1))),
  (ad 3, xAQ (ca 5) 300 (gRow G 4 (T 0 2))),
  (ad 4, xO 6 [fR (ad 5), fR (ad 6), fR (ad 7), fR (ad 8), fR (ad 9), fR (ad 10), fR (ad 11), fG 0 8]),
  (ad 5, xAQ (ca 6) 8 (gU 8 G u)),
  (ad 6, xAI (ca 0) 8 gA),
  (ad 7, xAI (ca 0) 5 gA),
  (ad 8, xAI (ca 0) 100 (gG 100 0 12)),
  (ad 9, xAI (ca 0) 100 (gG 100 0 12)),
  (ad 10, xAI (ca 0) 13 gA),
  (ad 11, xAI (ca 0) 4 gA),
  (ad 12, xO 3 [fR (ad 13)]),
  (ad 13, xAI (ca 0) 289 gA),
  (ad 14, xO 10 [fR (ad 15), fR (ad 16), fR (ad 17), fG (-2147483648) 2147483647, fG (-2147483648) 2147483647, fG (-2147483648) 2147483647, fG 0 10]),
  (ad 15, xAI (ca 0) 100 (gG 100 0 12)),
  (ad 16, xAI (ca 0) 10 gA),
  (ad 17, xAI (ca 0) 46 gA),
  (ad 18, xO 8 [fR (ad 19), fX (T 0 14), fX (T 0 15), fX (T 0 11), fX (T 0 12), fX (T 0 13)]),
  (ad 19, xAL (ca 1) 60 (fun _ => True)),
  (ad 20, xO 9 [fG 0 900, fG 0 900, fR (ad 21), fR (ad 22), fR (ad 23), fR (ad 24), fR (ad 25), fG 0 900]),
  (ad 21, xAI (ca 0) 900 (gG 900 0 255)),
  (ad 22, xAI (ca 0) 900 (gG 900 0 255)),
  (ad 23, xAI (ca 0) 900 gA),
  (ad 24, xAI (ca 0) 900 gA),
  (ad 25, xAI (ca 0) 900 (gG 900 0 100000)),
  (ad 26, xO 1 [fG 0 1, fG 0 900]),
  (ad 27, xAQ (ca 6) 16 (gU 16 G u)),
  (ad 28, xAQ (ca 7) 4 (gRow G 5 (T 0 6))),
  (ad 29, xAI (ca 0) 3 gA),
  (ad 30, xAI (ca 0) 5 gA),
  (ad 31, xAI (ca 0) 100 (gG 100 0 12)),
  (ad 32, xAI (ca 0) 300 gA),
  (ad 33, xAI (ca 0) 10 gA),
  (ad 34, xAI (ca 0) 10 gA),
  (ad 35, xAI (ca 0) 12 gA)]
def CSh (ca : Nat → ClassId) (T : Nat → Int → Int) (G : Nat → Int → Nat) (w : yW) (s : Int) : Prop := w (1000 + 16 * s.toNat + 1) = some (G 1 s, xO 7 [fX s, fX (T 1 s), fR (G 2 s), fR (G 3 s), fX (T 2 s)]) ∧ w (1000 + 16 * s.toNat + 2) = some (G 2 s, xAI (ca 0) 1000 (gX 1000 (fun j => T 3 (1000 * s + (j : Int))))) ∧ w (1000 + 16 * s.toNat + 3) = some (G 3 s, xAQ (ca 5) 1000 (gRd T G (T 0 2) s))
def CRd (ca : Nat → ClassId) (T : Nat → Int → Int) (G : Nat → Int → Nat) (w : yW) (k : Int) : Prop := w (1000 + 16 * k.toNat + 4) = some (G 4 k, xO 4 [fR (G 1 (T 4 k)), fX (T 5 k), fX (T 6 k), fX (T 7 k), fX (T 8 k), fX (T 9 k), fX (T 10 k), fX k])
def CIm (ca : Nat → ClassId) (T : Nat → Int → Int) (G : Nat → Int → Nat) (w : yW) (i : Int) : Prop := w (1000 + 16 * i.toNat + 5) = some (G 5 i, xO 2 [fX (T 11 i), fG (-2147483648) 2147483647, fX (T 13 i), fX (T 14 i)])
def CRu (ca : Nat → ClassId) (T : Nat → Int → Int) (G : Nat → Int → Nat) (w : yW) (j : Int) : Prop := w (1000 + 16 * j.toNat + 6) = some (G 6 j, xO 5 [fR (G 7 j), fR (G 8 j), fR (G 9 j), fR (G 10 j), fR (G 11 j), fG 0 40, fG 0 450]) ∧ w (1000 + 16 * j.toNat + 7) = some (G 7 j, xAI (ca 0) 40 gA) ∧ w (1000 + 16 * j.toNat + 8) = some (G 8 j, xAI (ca 0) 40 (gG 40 0 12)) ∧ w (1000 + 16 * j.toNat + 9) = some (G 9 j, xAI (ca 0) 40 (gG 40 0 99)) ∧ w (1000 + 16 * j.toNat + 10) = some (G 10 j, xAI (ca 0) 41 (gG 41 0 450)) ∧ w (1000 + 16 * j.toNat + 11) = some (G 11 j, xAI (ca 0) 450 gA)
def CW (ca : Nat → ClassId) (T : Nat → Int → Int) (G : Nat → Int → Nat) (u : Int) (ad : Nat → Nat) (w : yW) : Prop := PI T ∧ (∀ (k : Nat) (x : Nat × xPd), (cF ca T G u ad)[k]? = some x → w k = some x) ∧ (∀ s : Int, 0 ≤ s ∧ s < T 0 1 → CSh ca T G w s) ∧ (∀ k : Int, 0 ≤ k ∧ k < T 0 2 → CRd ca T G w k) ∧ (∀ i : Int, 0 ≤ i ∧ i < T 0 6 → CIm ca T G w i) ∧ (∀ j : Int, 0 ≤ j ∧ j < u → CRu ca T G w j)
theorem CW.pi {ca : Nat → ClassId} {T : Nat → Int → Int} {G : Nat → Int → Nat} {u : Int} {ad : Nat → Nat} {w : yW} (h : CW ca T G u ad w) : PI T := h.1
theorem CW.f {ca : Nat → ClassId} {T : Nat → Int → Int} {G : Nat → Int → Nat} {u : Int} {ad : Nat → Nat} {w : yW} (h : CW ca T G u ad w) : ∀ (k : Nat) (x : Nat × xPd), (cF ca T G u ad)[k]? = some x → w k = some x := h.2.1
theorem CW.sh {ca : Nat → ClassId} {T : Nat → Int → Int} {G : Nat → Int → Nat} {u : Int} {ad : Nat → Nat} {w : yW} (h : CW ca T G u ad w) (s : Int) (hb : 0 ≤ s ∧ s < T 0 1) : w (1000 + 16 * s.toNat + 1) = some (G 1 s, xO 7 [fX s, fX (T 1 s), fR (G 2 s), fR (G 3 s), fX (T 2 s)]) ∧ w (1000 + 16 * s.toNat + 2) = some (G 2 s, xAI (ca 0) 1000 (gX 1000 (fun j => T 3 (1000 * s + (j : Int))))) ∧ w (1000 + 16 * s.toNat + 3) = some (G 3 s, xAQ (ca 5) 1000 (gRd T G (T 0 2) s)) := h.2.2.1 s hb
theorem CW.rd {ca : Nat → ClassId} {T : Nat → Int → Int} {G : Nat → Int → Nat} {u : Int} {ad : Nat → Nat} {w : yW} (h : CW ca T G u ad w) (k : Int) (hb : 0 ≤ k ∧ k < T 0 2) : w (1000 + 16 * k.toNat + 4) = some (G 4 k, xO 4 [fR (G 1 (T 4 k)), fX (T 5 k), fX (T 6 k), fX (T 7 k), fX (T 8 k), fX (T 9 k), fX (T 10 k), fX k]) := h.2.2.2.1 k hb
theorem CW.im {ca : Nat → ClassId} {T : Nat → Int → Int} {G : Nat → Int → Nat} {u : Int} {ad : Nat → Nat} {w : yW} (h : CW ca T G u ad w) (i : Int) (hb : 0 ≤ i ∧ i < T 0 6) : w (1000 + 16 * i.toNat + 5) = some (G 5 i, xO 2 [fX (T 11 i), fG (-2147483648) 2147483647, fX (T 13 i), fX (T 14 i)]) := h.2.2.2.2.1 i hb
theorem CW.ru {ca : Nat → ClassId} {T : Nat → Int → Int} {G : Nat → Int → Nat} {u : Int} {ad : Nat → Nat} {w : yW} (h : CW ca T G u ad w) (j : Int) (hb : 0 ≤ j ∧ j < u) : w (1000 + 16 * j.toNat + 6) = some (G 6 j, xO 5 [fR (G 7 j), fR (G 8 j), fR (G 9 j), fR (G 10 j), fR (G 11 j), fG 0 40, fG 0 450]) ∧ w (1000 + 16 * j.toNat + 7) = some (G 7 j, xAI (ca 0) 40 gA) ∧ w (1000 + 16 * j.toNat + 8) = some (G 8 j, xAI (ca 0) 40 (gG 40 0 12)) ∧ w (1000 + 16 * j.toNat + 9) = some (G 9 j, xAI (ca 0) 40 (gG 40 0 99)) ∧ w (1000 + 16 * j.toNat + 10) = some (G 10 j, xAI (ca 0) 41 (gG 41 0 450)) ∧ w (1000 + 16 * j.toNat + 11) = some (G 11 j, xAI (ca 0) 450 gA) := h.2.2.2.2.2 j hb
/-! small things for the rows -/
theorem nz01 {z : Int} (h : z = 0 ∨ z = 1) : narrow .boolean (.int (iI z)) = .int (iI z) := by rcases h with rfl | rfl <;> decide
theorem fX_X {a b : Int} (h : a = b) : ∀ v : Value, fX a v → fX b v := fun v hv => by subst h; exact hv
theorem xAQ_any {cA : ClassId} {n : Nat} {P : (Nat → Option Nat) → Prop} : ∀ e : va_E, xAQ cA n P e → xAQ cA n (fun _ => True) e := fun e he => by
  obtain ⟨f, rfl, -⟩ := he; exact ⟨f, rfl, trivial⟩
/-- a row of ints has numbers -/
theorem yH.pinG {D : va_G} {Zk : yK} {A : Nat → Prop} {s : State} {H : Heap} {w : yW} {locs : List Loc} {k a n : Nat} {cA : ClassId} {lo hi : Int} (h : yH D Zk A s w H locs) (hk : w k = some (a, xAI cA n (gG n lo hi))) : ∃ g : Nat → Int, (∀ j : Nat, j < n → lo ≤ g j ∧ g j ≤ hi) ∧ yH D Zk A s (wu w k (a, xAI cA n (gX n g))) H locs := by
  obtain ⟨h1, h2, h3, h4, h5⟩ := h
  obtain ⟨e, f1, f, rfl, hf⟩ := h1 k _ hk
  have hg : ∀ j : Nat, ∃ z : Int, j < n → f j = iI z ∧ lo ≤ z ∧ z ≤ hi := fun j => by
    by_cases q : j < n
    · obtain ⟨z, hz⟩ := hf j q; exact ⟨z, fun _ => hz⟩
    · exact ⟨0, fun x => absurd x q⟩
  obtain ⟨g, hg⟩ := Classical.axiomOfChoice hg
  refine ⟨g, fun j hj => (hg j hj).2, ?_, h2.set hk, h3, ?_, h5⟩
  · intro j q hq
    by_cases hj : j = k
    · subst hj; rw [wu_eq] at hq; cases hq; exact ⟨_, f1, f, rfl, fun j hj => (hg j hj).1⟩
    · rw [wu_ne hj] at hq; exact h1 j q hq
  · intro j q hq
    by_cases hj : j = k
    · subst hj; rw [wu_eq] at hq; cases hq; exact (h4 _ _ hk : A a)
    · rw [wu_ne hj] at hq; exact h4 j q hq
theorem yH.pinA {D : va_G} {Zk : yK} {A : Nat → Prop} {s : State} {H : Heap} {w : yW} {locs : List Loc} {k a n : Nat} {cA : ClassId} (h : yH D Zk A s w H locs) (hk : w k = some (a, xAI cA n gA)) : ∃ g : Nat → Int, (∀ j : Nat, j < n → -2147483648 ≤ g j ∧ g j ≤ 2147483647) ∧ yH D Zk A s (wu w k (a, xAI cA n (gX n g))) H locs := by
  obtain ⟨g, h1, h2⟩ := yH.pinG (lo := -2147483648) (hi := 2147483647) (h.weak hk (P' := xAI cA n (gG n (-2147483648) 2147483647)) (fun e he => by
    obtain ⟨f, rfl, -⟩ := he
    exact ⟨f, rfl, fun j _ => ⟨(f j).toInt, iI_of _, (iI_r (f j)).1, by have := (iI_r (f j)).2; omega⟩⟩)) wu_eq
  rw [wu_wu] at h2
  exact ⟨g, h1, h2⟩
theorem xAI_XG {cA : ClassId} {n : Nat} {g : Nat → Int} {lo hi : Int} (h : ∀ j : Nat, j < n → lo ≤ g j ∧ g j ≤ hi) : ∀ e : va_E, xAI cA n (gX n g) e → xAI cA n (gG n lo hi) e := fun e he => by
  obtain ⟨f, rfl, hf⟩ := he
  exact ⟨f, rfl, fun j hj => ⟨g j, hf j hj, h j hj⟩⟩
theorem and_ex (x : Int32) (n : Nat) (hn : n < 31) : ∃ j : Nat, j < 2 ^ n ∧ x &&& iI ((2 ^ n - 1 : Nat) : Int) = iI (j : Int) := by
  refine ⟨(x.toBitVec &&& BitVec.ofNat 32 (2 ^ n - 1)).toNat, ?_, ?_⟩
  · rw [BitVec.toNat_and, BitVec.toNat_ofNat, Nat.mod_eq_of_lt (Nat.lt_of_lt_of_le (Nat.sub_lt (Nat.two_pow_pos n) (by decide)) (Nat.pow_le_pow_right (by decide) (by omega)))]
    exact Nat.lt_of_le_of_lt Nat.and_le_right (Nat.sub_lt (Nat.two_pow_pos n) (by decide))
  · apply Int32.toBitVec_inj.mp
    rw [Int32.toBitVec_and]
    show x.toBitVec &&& (Int32.ofInt _).toBitVec = (Int32.ofInt _).toBitVec
    rw [Int32.toBitVec_ofInt, Int32.toBitVec_ofInt, BitVec.ofInt_natCast, BitVec.ofInt_natCast, BitVec.ofNat_toNat, BitVec.setWidth_eq]
theorem and255_ex (x : Int32) : ∃ z : Int, 0 ≤ z ∧ z ≤ 255 ∧ x &&& iI 255 = iI z := by
  obtain ⟨j, hj, e⟩ := and_ex x 8 (by decide)
  exact ⟨j, by omega, by omega, e⟩
theorem and1_ex (x : Int32) : ∃ z : Int, 0 ≤ z ∧ z ≤ 1 ∧ x &&& iI 1 = iI z := by
  obtain ⟨j, hj, e⟩ := and_ex x 1 (by decide)
  exact ⟨j, by omega, by omega, e⟩
theorem gU_up {N : Int} {G : Nat → Int → Nat} {u i j : Int} (h : (0 ≤ i ∧ i < N) ∧ 0 ≤ j ∧ j < u) : ∀ f : Nat → Option Nat, gU N G u f → gU N G u (va_up f i.toNat (some (G 6 j))) := fun f hf k hk => by
  unfold va_up
  by_cases q : k.toNat = i.toNat
  · rw [if_pos q]; exact Or.inr ⟨j, h.2, rfl⟩
  · rw [if_neg q]; exact hf k hk
