/-! ===== the reference's texts: rows of steps; E 0 0 how many scales, E 1 statements, E 2 and E 3 where a statement's steps begin and end, E 4 the steps ===== -/
/-- how many truths stand after n steps from place b on -/
def dpt (E : Nat → Int → Int) (b : Int) : Nat → Int
  | 0 => 0
  | n + 1 => dpt E b n + (if E 4 (b + (n : Int)) < 20 then 1 else if E 4 (b + (n : Int)) = 20 then 0 else -1)
/-- the steps from place b on, n of them, can be gone through -/
def OKS (E : Nat → Int → Int) (b n : Int) : Prop := ∀ k : Nat, (k : Int) < n →
  (E 4 (b + (k : Int)) < 20 ∧ 0 ≤ E 4 (b + (k : Int)) ∧ E 4 (b + (k : Int)) < 16 ∧ 0 ≤ dpt E b k ∧ dpt E b k ≤ 47) ∨ (E 4 (b + (k : Int)) = 20 ∧ 1 ≤ dpt E b k ∧ dpt E b k ≤ 48) ∨ (20 < E 4 (b + (k : Int)) ∧ E 4 (b + (k : Int)) < 100 ∧ 2 ≤ dpt E b k ∧ dpt E b k ≤ 48)
def PE (E : Nat → Int → Int) : Prop := (0 ≤ E 0 0 ∧ E 0 0 ≤ 8) ∧ (∀ i : Int, 0 ≤ E 1 i ∧ E 1 i ≤ 40) ∧ (∀ i : Int, -12 ≤ E 5 i ∧ E 5 i ≤ 12) ∧
  ∀ q : Int, (0 ≤ q ∧ q < E 0 0) ∨ (8 ≤ q ∧ q < 24) → ∀ i : Int, 0 ≤ i ∧ i < E 1 q → 0 ≤ E 2 (40 * q + i) ∧ E 2 (40 * q + i) ≤ E 3 (40 * q + i) ∧ E 3 (40 * q + i) ≤ 320 ∧ OKS E (320 * q + E 2 (40 * q + i)) (E 3 (40 * q + i) - E 2 (40 * q + i))
theorem pe_0 {E : Nat → Int → Int} (h : PE E) : 0 ≤ E 0 0 ∧ E 0 0 ≤ 8 := h.1
theorem pe_1 {E : Nat → Int → Int} (h : PE E) (i : Int) : 0 ≤ E 1 i ∧ E 1 i ≤ 40 := h.2.1 i
theorem pe_5 {E : Nat → Int → Int} (h : PE E) (i : Int) : -12 ≤ E 5 i ∧ E 5 i ≤ 12 := h.2.2.1 i
theorem pe_h {E : Nat → Int → Int} (h : PE E) {q i : Int} (hq : (0 ≤ q ∧ q < E 0 0) ∨ (8 ≤ q ∧ q < 24)) (hi : 40 * q ≤ i ∧ i < 40 * q + E 1 q) : (0 ≤ E 2 i ∧ E 2 i ≤ E 3 i ∧ E 3 i ≤ 320) ∧ OKS E (320 * q + E 2 i) (E 3 i - E 2 i) := by
  have h9 := h.2.2.2 q hq (i - 40 * q) (by omega)
  rw [show 40 * q + (i - 40 * q) = i by omega] at h9
  exact ⟨⟨h9.1, h9.2.1, h9.2.2.1⟩, h9.2.2.2⟩
theorem dpt_step {E : Nat → Int → Int} {b k n n' : Int} (hk : b ≤ k) (h : n = dpt E b (k - b).toNat) (hn : (E 4 k < 20 ∧ n' = n + 1) ∨ (E 4 k = 20 ∧ n' = n) ∨ (20 < E 4 k ∧ n' = n - 1)) : n' = dpt E b (k + 1 - b).toNat := by
  have e : (k + 1 - b).toNat = (k - b).toNat + 1 := by omega
  have ek : b + (((k - b).toNat : Nat) : Int) = k := by omega
  rw [e]
  show n' = dpt E b (k - b).toNat + (if E 4 (b + (((k - b).toNat : Nat) : Int)) < 20 then 1 else if E 4 (b + (((k - b).toNat : Nat) : Int)) = 20 then 0 else -1)
  rw [ek, ← h]
  rcases hn with ⟨a, c⟩ | ⟨a, c⟩ | ⟨a, c⟩
  · rw [if_pos a]; omega
  · rw [if_neg (by omega), if_pos a]; omega
  · rw [if_neg (by omega), if_neg (by omega)]; omega
theorem oks_at {E : Nat → Int → Int} {b n k : Int} (h : OKS E b n) (hk : b ≤ k) : k < b + n → (E 4 k < 20 ∧ 0 ≤ E 4 k ∧ E 4 k < 16 ∧ 0 ≤ dpt E b (k - b).toNat ∧ dpt E b (k - b).toNat ≤ 47) ∨ (E 4 k = 20 ∧ 1 ≤ dpt E b (k - b).toNat ∧ dpt E b (k - b).toNat ≤ 48) ∨ (20 < E 4 k ∧ E 4 k < 100 ∧ 2 ≤ dpt E b (k - b).toNat ∧ dpt E b (k - b).toNat ≤ 48) := fun hn => by
  have h9 := h (k - b).toNat (by omega)
  rw [show b + (((k - b).toNat : Nat) : Int) = k by omega] at h9
  exact h9
theorem dpt_congr {E E' : Nat → Int → Int} {b : Int} : ∀ n : Nat, (∀ k : Nat, k < n → E' 4 (b + (k : Int)) = E 4 (b + (k : Int))) → dpt E' b n = dpt E b n
  | 0, _ => rfl
  | n + 1, h => by
    have a := dpt_congr n (fun k hk => h k (by omega))
    show dpt E' b n + (if E' 4 (b + (n : Int)) < 20 then 1 else if E' 4 (b + (n : Int)) = 20 then 0 else -1) = dpt E b n + (if E 4 (b + (n : Int)) < 20 then 1 else if E 4 (b + (n : Int)) = 20 then 0 else -1)
    rw [a, h n (by omega)]
theorem OKS_congr {E E' : Nat → Int → Int} {b n : Int} (h : OKS E b n) (he : ∀ k : Nat, (k : Int) < n → E' 4 (b + (k : Int)) = E 4 (b + (k : Int))) : OKS E' b n := fun k hk => by
  rw [dpt_congr k (fun j hj => he j (by omega)), he k hk]
  exact h k hk
abbrev mO (am : Nat → Nat) (T : Nat → Int → Int) (P23 P32 P33 P34 P35 P36 P37 P38 P39 P40 P41 P42 P43 P45 P46 P58 : fP) : xPd := xO 12 [fR (am 1), fX (T 0 0), fX (T 0 1), fX (T 0 3), fX (T 0 2), fX (T 0 4), fX (T 0 5), fR (am 2), fR (am 3), fR (am 4), fR (am 5), fR (am 6), fR (am 7), fR (am 8), fR (am 9), fR (am 10), fR (am 11), fR (am 12), fR (am 13), fR (am 14), fR (am 15), fR (am 16), fR (am 17), P23, fR (am 18), fR (am 19), fR (am 20), fR (am 21), fR (am 22), fR (am 23), fR (am 24), fR (am 25), P32, P33, P34, P35, P36, P37, P38, P39, P40, P41, P42, P43, fR (am 26), P45, P46, fR (am 27), fR (am 28), fR (am 29), fR (am 30), fR (am 31), fG (-2147483648) 2147483647, fG (-2147483648) 2147483647, fG 0 12, fG (-2147483648) 2147483647, fR (am 32), fG 0 1, P58, fG (-2147483648) 2147483647, fG (-2147483648) 2147483647, fR (am 33), fR (am 34), fR (am 35), fG (-2147483648) 2147483647, fG (-2147483648) 2147483647, fR (am 36), fR (am 37), fR (am 38), fX (T 0 10), fX (T 0 11), fX (T 0 12), fX (T 0 13), fR (am 39), fX (T 0 6), fR (am 40), fR (am 41), fR (am 42), fR (am 43), fR (am 44)]
def mF (ca : Nat → ClassId) (T E : Nat → Int → Int) (am : Nat → Nat) : List (Nat × xPd) := [(am 0, mO am T (fX (E 0 0)) (fG 0 900) (fG (-2147483648) 2147483647) (fG 0 900) (fG 0 900) (fG 0 900) (fG (-2147483648) 2147483647) (fG (-2147483648) 2147483647) (fG 0 24) (fG 0 41) (fG 0 319) fL (fG 0 1) (fG 0 48) (fG 0 9) (fX (E 0 5))),
  (am 1, xAI (ca 0) 3 gA),
  (am 2, xAI (ca 2) 16 (gG 16 0 1)),
  (am 3, xAI (ca 0) 12 (gX 12 (fun j => T 1 (j : Int)))),
  (am 4, xAI (ca 0) 12 (gX 12 (fun j => T 20 (j : Int)))),
  (am 5, xAI (ca 0) 12 (gX 12 (fun j => T 2 (j : Int)))),
  (am 6, xAI (ca 0) 60 (gX 60 (fun j => T 21 (j : Int)))),
  (am 7, xAI (ca 0) 60 (gX 60 (fun j => T 22 (j : Int)))),
  (am 8, xAI (ca 0) 60 (gX 60 (fun j => T 23 (j : Int)))),
  (am 9, xAI (ca 0) 300 (gX 300 (fun j => T 4 (j : Int)))),
  (am 10, xAI (ca 0) 300 (gX 300 (fun j => T 5 (j : Int)))),
  (am 11, xAI (ca 0) 300 (gX 300 (fun j => T 6 (j : Int)))),
  (am 12, xAI (ca 0) 300 (gX 300 (fun j => T 7 (j : Int)))),
  (am 13, xAI (ca 0) 300 (gX 300 (fun j => T 8 (j : Int)))),
  (am 14, xAI (ca 0) 300 (gX 300 (fun j => T 9 (j : Int)))),
  (am 15, xAI (ca 0) 300 (gX 300 (fun j => T 10 (j : Int)))),
  (am 16, xAI (ca 0) 25 (gX 25 (fun j => E 1 (j : Int)))),
  (am 17, xAI (ca 0) 8 gA),
  (am 18, xAI (ca 0) 1000 gA),
  (am 19, xAI (ca 0) 1000 (gX 1000 (fun j => E 5 (j : Int)))),
  (am 20, xAI (ca 0) 1000 gA),
  (am 21, xAI (ca 0) 1000 (gX 1000 (fun j => E 2 (j : Int)))),
  (am 22, xAI (ca 0) 1000 (gX 1000 (fun j => E 3 (j : Int)))),
  (am 23, xAI (ca 0) 8000 (gX 8000 (fun j => E 4 (j : Int)))),
  (am 24, xAI (ca 0) 8000 gA),
  (am 25, xAI (ca 3) 900 gA),
  (am 26, xAI (ca 0) 48 gA),
  (am 27, xAI (ca 0) 4 gA),
  (am 28, xAI (ca 2) 48 (gG 48 0 1)),
  (am 29, xAI (ca 0) 13 gA),
  (am 30, xAI (ca 0) 13 gA),
  (am 31, xAI (ca 0) 13 gA),
  (am 32, xAI (ca 0) 289 gA),
  (am 33, xAL (ca 1) 50 (fun _ => True)),
  (am 34, xAL (ca 1) 50 (fun _ => True)),
  (am 35, xAI (ca 0) 10 gA),
  (am 36, xAI (ca 0) 12 gA),
  (am 37, xAI (ca 2) 12 (gG 12 0 1)),
  (am 38, xAI (ca 0) 300 (gG 300 (-1) 12)),
  (am 39, xAI (ca 2) 3840 (gG 3840 0 1)),
  (am 40, xAI (ca 0) 4 (gX 4 (fun j => T 11 (j : Int)))),
  (am 41, xAI (ca 0) 4 (gX 4 (fun j => T 12 (j : Int)))),
  (am 42, xAI (ca 0) 4 (gX 4 (fun j => T 13 (j : Int)))),
  (am 43, xAI (ca 0) 4 (gX 4 (fun j => T 14 (j : Int)))),
  (am 44, xAI (ca 2) 64 (gG 64 0 1))]
def MW (ca : Nat → ClassId) (T E : Nat → Int → Int) (am : Nat → Nat) (w : yW) : Prop := PI T ∧ PE E ∧ ∀ (k : Nat) (x : Nat × xPd), (mF ca T E am)[k]? = some x → w (50 + k) = some x
theorem MW.pi {ca : Nat → ClassId} {T E : Nat → Int → Int} {am : Nat → Nat} {w : yW} (h : MW ca T E am w) : PI T := h.1
theorem MW.pe {ca : Nat → ClassId} {T E : Nat → Int → Int} {am : Nat → Nat} {w : yW} (h : MW ca T E am w) : PE E := h.2.1
theorem MW.f {ca : Nat → ClassId} {T E : Nat → Int → Int} {am : Nat → Nat} {w : yW} (h : MW ca T E am w) : ∀ (k : Nat) (x : Nat × xPd), (mF ca T E am)[k]? = some x → w (50 + k) = some x := h.2.2
def eu (E : Nat → Int → Int) (i v : Int) : Nat → Int → Int := fun f j => if f = 0 ∧ j = i then v else E f j
theorem pe_eu {E : Nat → Int → Int} {c : Int} (h : PE E) : PE (eu E 5 c) := by
  have e9 : ∀ f : Nat, 1 ≤ f → eu E 5 c f = E f := fun f hf => funext fun j => if_neg (by omega)
  have e0 : eu E 5 c 0 0 = E 0 0 := if_neg (by omega)
  obtain ⟨h1, h2, h3, h4⟩ := h
  unfold PE
  rw [e0, e9 1 (by omega), e9 5 (by omega), e9 2 (by omega), e9 3 (by omega)]
  refine ⟨h1, h2, h3, fun q hq i hi => ?_⟩
  obtain ⟨a, b, d, f⟩ := h4 q hq i hi
  exact ⟨a, b, d, OKS_congr f (fun k hk => by rw [e9 4 (by omega)])⟩
theorem MW.wc {ca : Nat → ClassId} {T E : Nat → Int → Int} {am : Nat → Nat} {w : yW} {c : Int} (h : MW ca T E am w) : MW ca T (eu E 5 c) am (wu w 50 (am 0, mO am T (fX (E 0 0)) (fG 0 900) (fG (-2147483648) 2147483647) (fG 0 900) (fG 0 900) (fG 0 900) (fG (-2147483648) 2147483647) (fG (-2147483648) 2147483647) (fG 0 24) (fG 0 41) (fG 0 319) fL (fG 0 1) (fG 0 48) (fG 0 9) (fX c))) := by
  have e9 : ∀ f : Nat, 1 ≤ f → eu E 5 c f = E f := fun f hf => funext fun j => if_neg (by omega)
  have e0 : eu E 5 c 0 0 = E 0 0 := if_neg (by omega)
  refine ⟨h.1, pe_eu h.2.1, fun k x hk => ?_⟩
  by_cases q : k = 0
  · subst q
    unfold mF at hk
    cases hk
    rw [e0, show eu E 5 c 0 5 = c from if_pos ⟨rfl, rfl⟩]
    exact wu_eq
  · obtain ⟨k, rfl⟩ : ∃ n : Nat, k = n + 1 := ⟨k - 1, by omega⟩
    rw [wu_ne (by omega)]
    refine h.2.2 (k + 1) x ?_
    unfold mF at hk ⊢
    rw [e9 1 (by omega), e9 2 (by omega), e9 3 (by omega), e9 4 (by omega), e9 5 (by omega), List.getElem?_cons_succ] at hk
    rw [List.getElem?_cons_succ]
    exact hk
