/-! ===== what the calls that tell something make of the state ===== -/
def tOff (T : Nat → Int → Int) : Nat → Int → Int := fun f j => if f = 0 ∧ j = 0 then T 0 0 + 1 else T f j
def tSet (T : Nat → Int → Int) (si er : Int) : Nat → Int → Int := fun f j => if f = 0 ∧ j = 4 then si else if f = 0 ∧ j = 5 then er else T f j
def tShip (T : Nat → Int → Int) (rg o : Int) : Nat → Int → Int := fun f j =>
  if f = 0 ∧ j = 1 then T 0 1 + 1 else if f = 1 ∧ j = T 0 1 then rg else if f = 2 ∧ j = T 0 1 then 0 else if f = 20 ∧ j = T 0 1 then o else if f = 3 ∧ 1000 * T 0 1 ≤ j ∧ j < 1000 * T 0 1 + 1000 then o else T f j
def tSigns (T : Nat → Int → Int) (s o v : Int) : Nat → Int → Int := fun f j =>
  if f = 0 ∧ j = 3 then T 0 3 + 1 else if f = 2 ∧ j = s then v else if f = 21 ∧ j = T 0 3 then s else if f = 22 ∧ j = T 0 3 then o else if f = 23 ∧ j = T 0 3 then v else if f = 3 ∧ 1000 * s + v ≤ j ∧ j < 1000 * s + 1000 then o else T f j
def tRead (T : Nat → Int → Int) (s v sp kd nb : Int) : Nat → Int → Int := fun f j =>
  if f = 0 ∧ j = 2 then T 0 2 + 1 else if f = 4 ∧ j = T 0 2 then s else if f = 5 ∧ j = T 0 2 then v else if f = 6 ∧ j = T 0 2 then sp / 100 else if f = 7 ∧ j = T 0 2 then kd else if f = 8 ∧ j = T 0 2 then nb else if f = 9 ∧ j = T 0 2 then sp / 10 % 10 else if f = 10 ∧ j = T 0 2 then sp % 10 else T f j
def tStorm (T : Nat → Int → Int) (a b r l : Int) : Nat → Int → Int := fun f j =>
  if f = 0 ∧ j = 10 then a else if f = 0 ∧ j = 11 then b else if f = 0 ∧ j = 12 then r else if f = 0 ∧ j = 13 then l else if f = 0 ∧ j = 14 then 1 else if f = 0 ∧ j = 15 then a else T f j
def tImage (T : Nat → Int → Int) : Nat → Int → Int := fun f j =>
  if f = 0 ∧ j = 6 then T 0 6 + 1 else if f = 11 ∧ j = T 0 6 then T 0 2 else if f = 12 ∧ j = T 0 6 then T 0 0 else if f = 13 ∧ j = T 0 6 then T 0 4 else if f = 14 ∧ j = T 0 6 then T 0 5 else T f j
def tBack (T : Nat → Int → Int) (i : Int) : Nat → Int → Int := fun f j =>
  if f = 0 ∧ j = 2 then T 11 i else if f = 0 ∧ j = 4 then T 13 i else if f = 0 ∧ j = 5 then T 14 i else T f j
def gUp (G : Nat → Int → Nat) (f : Nat) (i : Int) (a : Nat) : Nat → Int → Nat := fun g j => if g = f ∧ j = i then a else G g j
/-- nothing of the reference's was touched; nothing of the class's -/
def AGX (w w1 : yW) : Prop := ∀ k : Nat, 50 ≤ k → k < 200 → w1 k = w k
def AGM (w w1 : yW) : Prop := ∀ k : Nat, (k < 50 ∨ 200 ≤ k) → w1 k = w k
theorem CW.agree {ca : Nat → ClassId} {T : Nat → Int → Int} {G : Nat → Int → Nat} {u : Int} {ad : Nat → Nat} {w w1 : yW} (h : CW ca T G u ad w) (ha : AGM w w1) : CW ca T G u ad w1 := by
  obtain ⟨h1, h2, h3, h4, h5, h6⟩ := h
  refine ⟨h1, fun k x hk => ?_, fun s hs => ?_, fun k hk => ?_, fun i hi => ?_, fun j hj => ?_⟩
  · rw [ha k (Or.inl (Nat.lt_of_lt_of_le (List.getElem?_eq_some_iff.mp hk).1 (Nat.le_of_ble_eq_true rfl)))]; exact h2 k x hk
  · obtain ⟨a, b, c⟩ := h3 s hs
    exact ⟨(ha _ (Or.inr (by omega))).trans a, (ha _ (Or.inr (by omega))).trans b, (ha _ (Or.inr (by omega))).trans c⟩
  · exact (ha _ (Or.inr (by omega))).trans (h4 k hk)
  · exact (ha _ (Or.inr (by omega))).trans (h5 i hi)
  · obtain ⟨a, b, c, d, e, f⟩ := h6 j hj
    exact ⟨(ha _ (Or.inr (by omega))).trans a, (ha _ (Or.inr (by omega))).trans b, (ha _ (Or.inr (by omega))).trans c, (ha _ (Or.inr (by omega))).trans d, (ha _ (Or.inr (by omega))).trans e, (ha _ (Or.inr (by omega))).trans f⟩
/-- a package whose cells are known one by one: the plain cells that changed stand in the list's copy -/
theorem CW.plain {ca : Nat → ClassId} {T T' : Nat → Int → Int} {G : Nat → Int → Nat} {u : Int} {ad : Nat → Nat} {w w1 : yW} (h : CW ca T G u ad w) (hp : PI T')
    (hf : ∀ (k : Nat) (x : Nat × xPd), (cF ca T' G u ad)[k]? = some x → w1 k = some x)
    (hw : ∀ k : Nat, 1000 ≤ k → w1 k = w k) (e1 : T' 0 1 = T 0 1) (e2 : T' 0 2 = T 0 2) (e6 : T' 0 6 = T 0 6) (eT : ∀ (f : Nat) (j : Int), 1 ≤ f → f ≤ 14 → T' f j = T f j) : CW ca T' G u ad w1 := by
  obtain ⟨h1, h2, h3, h4, h5, h6⟩ := h
  have a1 : T' 1 = T 1 := funext fun j => eT 1 j (by omega) (by omega)
  have a2 : T' 2 = T 2 := funext fun j => eT 2 j (by omega) (by omega)
  have a3 : T' 3 = T 3 := funext fun j => eT 3 j (by omega) (by omega)
  have a4 : T' 4 = T 4 := funext fun j => eT 4 j (by omega) (by omega)
  have a5 : T' 5 = T 5 := funext fun j => eT 5 j (by omega) (by omega)
  have a7 : T' 6 = T 6 := funext fun j => eT 6 j (by omega) (by omega)
  have a8 : T' 7 = T 7 := funext fun j => eT 7 j (by omega) (by omega)
  have a9 : T' 8 = T 8 := funext fun j => eT 8 j (by omega) (by omega)
  have b1 : T' 9 = T 9 := funext fun j => eT 9 j (by omega) (by omega)
  have b2 : T' 10 = T 10 := funext fun j => eT 10 j (by omega) (by omega)
  have b3 : T' 11 = T 11 := funext fun j => eT 11 j (by omega) (by omega)
  have b4 : T' 13 = T 13 := funext fun j => eT 13 j (by omega) (by omega)
  have b5 : T' 14 = T 14 := funext fun j => eT 14 j (by omega) (by omega)
  refine ⟨hp, hf, fun s hs => ?_, fun k hk => ?_, fun i hi => ?_, fun j hj => ?_⟩
  · rw [e1] at hs
    obtain ⟨a, b, c⟩ := h3 s hs
    refine ⟨?_, ?_, ?_⟩
    · rw [hw _ (by omega), a1, a2]; exact a
    · rw [hw _ (by omega), a3]; exact b
    · rw [hw _ (by omega), e2]
      unfold gRd
      rw [a4, a5]; exact c
  · rw [e2] at hk
    show w1 _ = _
    rw [hw _ (by omega), a4, a5, a7, a8, a9, b1, b2]; exact h4 k hk
  · rw [e6] at hi
    show w1 _ = _
    rw [hw _ (by omega), b3, b4, b5]; exact h5 i hi
  · obtain ⟨a, b, c, d, e, f⟩ := h6 j hj
    exact ⟨(hw _ (by omega)).trans a, (hw _ (by omega)).trans b, (hw _ (by omega)).trans c, (hw _ (by omega)).trans d, (hw _ (by omega)).trans e, (hw _ (by omega)).trans f⟩
theorem cset {L : List (Nat × xPd)} {w : yW} {i : Nat} {x : Nat × xPd} (h : ∀ (k : Nat) (y : Nat × xPd), L[k]? = some y → w k = some y) : ∀ (k : Nat) (y : Nat × xPd), (L.set i x)[k]? = some y → wu w i x k = some y := by
  intro k y hk
  by_cases q : k = i
  · subst q
    have hl : k < L.length := by
      have := (List.getElem?_eq_some_iff.mp hk).1
      rwa [List.length_set] at this
    rw [List.getElem?_set_self hl] at hk
    cases hk
    exact wu_eq
  · rw [List.getElem?_set_ne (Ne.symm q)] at hk
    rw [wu_ne q]
    exact h k y hk
theorem sgo_congr {T T' : Nat → Int → Int} (e0 : T' 20 = T 20) (e1 : T' 21 = T 21) (e2 : T' 22 = T 22) (e3 : T' 23 = T 23) (s v : Int) : ∀ n : Nat, sgo T' s v n = sgo T s v n
  | 0 => by show T' 20 s = T 20 s; rw [e0]
  | n + 1 => by
    show (if T' 21 (n : Int) = s ∧ T' 23 (n : Int) ≤ v then T' 22 (n : Int) else sgo T' s v n) = (if T 21 (n : Int) = s ∧ T 23 (n : Int) ≤ v then T 22 (n : Int) else sgo T s v n)
    rw [e1, e2, e3, sgo_congr e0 e1 e2 e3 s v n]
theorem PI.scal {T T' : Nat → Int → Int} (h : PI T) (hs : PS T') (e : ∀ (f : Nat) (j : Int), 1 ≤ f → T' f j = T f j) (e1 : T' 0 1 = T 0 1) (e2 : T' 0 2 ≤ T 0 2) (e3 : T' 0 3 = T 0 3) : PI T' := by
  have e9 : ∀ f : Nat, 1 ≤ f → T' f = T f := fun f hf => funext fun j => e f j hf
  have a1 := e9 1 (by omega); have a2 := e9 2 (by omega); have a3 := e9 3 (by omega); have a4 := e9 4 (by omega); have a5 := e9 5 (by omega); have a6 := e9 6 (by omega); have a7 := e9 7 (by omega); have a8 := e9 8 (by omega); have a9 := e9 9 (by omega); have b0 := e9 10 (by omega); have b1 := e9 11 (by omega); have b2 := e9 12 (by omega); have b3 := e9 13 (by omega); have b4 := e9 14 (by omega); have c0 := e9 20 (by omega); have c1 := e9 21 (by omega); have c2 := e9 22 (by omega); have c3 := e9 23 (by omega)
  have hsg : ∀ s v : Int, (0 ≤ s ∧ s < T' 0 1) → (0 ≤ v ∧ v ≤ 999) → T' 3 (1000 * s + v) = sgo T' s v (T' 0 3).toNat := fun s v hs9 hv => by
    rw [sgo_congr c0 c1 c2 c3, a3, e3]
    exact pi_sg h (by rw [← e1]; exact hs9) hv
  have hun : ∀ j k : Int, (0 ≤ j ∧ j < T' 0 2) → (0 ≤ k ∧ k < T' 0 2) → T' 4 j = T' 4 k → T' 5 j = T' 5 k → j = k := fun j k hj hk a b => by
    rw [a4] at a; rw [a5] at b
    exact pi_un h (by omega) (by omega) a b
  have hin : ∀ k : Int, 0 ≤ k ∧ k < T' 0 2 → T' 4 k < T' 0 1 := fun k hk => by
    rw [a4, e1]; exact pi_in h k (by omega)
  have hsn : ∀ k : Int, 0 ≤ k ∧ k < T' 0 3 → T' 21 k < T' 0 1 := fun k hk => by
    rw [c1, e1]; exact pi_sn h k (by rw [← e3]; exact hk)
  unfold PI
  rw [a1, a2, a3, a4, a5, a6, a7, a8, a9, b0, b1, b2, b3, b4, c0, c1, c2, c3]
  rw [a3] at hsg; rw [a4, a5] at hun; rw [a4] at hin; rw [c1] at hsn
  exact ⟨hs, pi_1 h, pi_2 h, pi_3 h, pi_4 h, pi_5 h, pi_6 h, pi_7 h, pi_8 h, pi_9 h, pi_10 h, pi_11 h, pi_12 h, pi_13 h, pi_14 h, pi_20 h, pi_21 h, pi_22 h, pi_23 h, pi_n h, hin, hun, hsn, hsg⟩
theorem pi_off {T : Nat → Int → Int} (h : PI T) (hn : T 0 0 < 16) : PI (tOff T) := by
  have hs := pi_s h
  refine h.scal ⟨?_, hs.2⟩ (fun f j hf => if_neg (by omega)) rfl (Int.le_refl _) rfl
  have e : tOff T 0 0 = T 0 0 + 1 := rfl
  have h0 := hs.1
  rw [e]; omega
theorem pi_set {T : Nat → Int → Int} {si er : Int} (h : PI T) (h1 : 0 ≤ si ∧ si ≤ 7) (h2 : 0 ≤ er ∧ er ≤ 5) : PI (tSet T si er) := by
  have hs := pi_s h
  refine h.scal ⟨hs.1, hs.2.1, hs.2.2.1, hs.2.2.2.1, h1, h2, hs.2.2.2.2.2.2⟩ (fun f j hf => ?_) rfl (Int.le_refl _) rfl
  unfold tSet
  rw [if_neg (by omega), if_neg (by omega)]
theorem pi_storm {T : Nat → Int → Int} {a b r l : Int} (h : PI T) (h1 : (0 ≤ a ∧ a ≤ 999) ∧ (0 ≤ b ∧ b ≤ 999) ∧ a ≤ b ∧ b - a ≤ 59 ∧ (0 ≤ r ∧ r ≤ 7) ∧ 0 ≤ l ∧ l ≤ 12) : PI (tStorm T a b r l) := by
  have hs := pi_s h
  refine h.scal ⟨hs.1, hs.2.1, hs.2.2.1, hs.2.2.2.1, hs.2.2.2.2.1, hs.2.2.2.2.2.1, hs.2.2.2.2.2.2.1, h1.2.1, h1.2.2.2.2.1, h1.2.2.2.2.2, h1.1, Or.inr ⟨rfl, rfl, h1.1.1, h1.2.2.1, h1.2.2.2.1⟩⟩ (fun f j hf => ?_) rfl (Int.le_refl _) rfl
  unfold tStorm
  rw [if_neg (by omega), if_neg (by omega), if_neg (by omega), if_neg (by omega), if_neg (by omega), if_neg (by omega)]
/-- the signing's own row, and the new ship's -/
theorem sgo_far {T T' : Nat → Int → Int} (s v : Int) (n : Nat) (h0 : T' 20 s = T 20 s) (h : ∀ k : Int, 0 ≤ k → k < (n : Int) → T' 21 k = T 21 k ∧ T' 22 k = T 22 k ∧ T' 23 k = T 23 k) : sgo T' s v n = sgo T s v n := by
  induction n with
  | zero => exact h0
  | succ n ih =>
    obtain ⟨a, b, c⟩ := h (n : Int) (by omega) (by omega)
    show (if T' 21 (n : Int) = s ∧ T' 23 (n : Int) ≤ v then T' 22 (n : Int) else sgo T' s v n) = (if T 21 (n : Int) = s ∧ T 23 (n : Int) ≤ v then T 22 (n : Int) else sgo T s v n)
    rw [a, b, c, ih (fun k k0 k1 => h k k0 (by omega))]
theorem sgo_none {T : Nat → Int → Int} (s v : Int) (n : Nat) (h : ∀ k : Int, 0 ≤ k → k < (n : Int) → T 21 k ≠ s) : sgo T s v n = T 20 s := by
  induction n with
  | zero => rfl
  | succ n ih =>
    show (if T 21 (n : Int) = s ∧ T 23 (n : Int) ≤ v then T 22 (n : Int) else sgo T s v n) = _
    rw [if_neg (fun q => h (n : Int) (by omega) (by omega) q.1), ih (fun k k0 k1 => h k k0 (by omega))]
theorem sgo_r {T : Nat → Int → Int} (h : PI T) (s v : Int) : ∀ n : Nat, 0 ≤ sgo T s v n ∧ sgo T s v n ≤ 15
  | 0 => pi_20 h s
  | n + 1 => by
    show 0 ≤ (if T 21 (n : Int) = s ∧ T 23 (n : Int) ≤ v then T 22 (n : Int) else sgo T s v n) ∧ (if T 21 (n : Int) = s ∧ T 23 (n : Int) ≤ v then T 22 (n : Int) else sgo T s v n) ≤ 15
    by_cases q : T 21 (n : Int) = s ∧ T 23 (n : Int) ≤ v
    · rw [if_pos q]; exact pi_22 h _
    · rw [if_neg q]; exact sgo_r h s v n
theorem tb_if {c : Prop} [Decidable c] {a b lo hi : Int} (h1 : lo ≤ a ∧ a ≤ hi) (h2 : lo ≤ b ∧ b ≤ hi) : lo ≤ (if c then a else b) ∧ (if c then a else b) ≤ hi := by
  by_cases q : c
  · rw [if_pos q]; exact h1
  · rw [if_neg q]; exact h2
