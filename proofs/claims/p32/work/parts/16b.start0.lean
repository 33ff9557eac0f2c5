/-! ===== the start: nothing told yet ===== -/
def T0 : Nat → Int → Int := fun f j => if f = 0 ∧ (j = 4 ∨ j = 5) then 1 else if f = 0 ∧ j = 10 then -1 else 0
def E0 : Nat → Int → Int := fun _ _ => 0
def G0 (ad : Nat → Nat) : Nat → Int → Nat := fun f _ => ad (30 + f)
theorem t0_f {f : Nat} {j : Int} (h : 1 ≤ f) : T0 f j = 0 := by
  unfold T0
  rw [if_neg (by omega), if_neg (by omega)]
theorem pi_0 : PI T0 := by
  have e : ∀ (f : Nat) (j : Int), 1 ≤ f → T0 f j = 0 := fun f j h => t0_f h
  refine ⟨?_, fun i => by rw [e 1 i (by omega)]; omega, fun i => by rw [e 2 i (by omega)]; omega, fun i => by rw [e 3 i (by omega)]; omega, fun i => by rw [e 4 i (by omega)]; omega, fun i => by rw [e 5 i (by omega)]; omega, fun i => by rw [e 6 i (by omega)]; omega, fun i => by rw [e 7 i (by omega)]; omega, fun i => by rw [e 8 i (by omega)]; omega, fun i => by rw [e 9 i (by omega)]; omega, fun i => by rw [e 10 i (by omega)]; omega, fun i => by rw [e 11 i (by omega)]; omega, fun i => by rw [e 12 i (by omega)]; omega, fun i => by rw [e 13 i (by omega)]; omega, fun i => by rw [e 14 i (by omega)]; omega, fun i => by rw [e 20 i (by omega)]; omega, fun i => by rw [e 21 i (by omega)]; omega, fun i => by rw [e 22 i (by omega)]; omega, fun i => by rw [e 23 i (by omega)]; omega, fun k => Or.inr (by rw [e 8 k (by omega)]; omega), fun k hk => absurd (show 0 ≤ k ∧ k < (0 : Int) from hk) (by omega), fun j k hj => absurd (show 0 ≤ j ∧ j < (0 : Int) from hj) (by omega), fun k hk => absurd (show 0 ≤ k ∧ k < (0 : Int) from hk) (by omega), fun s v hs => absurd (show 0 ≤ s ∧ s < (0 : Int) from hs) (by omega)⟩
  have a : T0 0 0 = 0 ∧ T0 0 1 = 0 ∧ T0 0 2 = 0 ∧ T0 0 3 = 0 ∧ T0 0 4 = 1 ∧ T0 0 5 = 1 ∧ T0 0 6 = 0 ∧ T0 0 11 = 0 ∧ T0 0 12 = 0 ∧ T0 0 13 = 0 ∧ T0 0 15 = 0 ∧ T0 0 10 = -1 ∧ T0 0 14 = 0 := ⟨rfl, rfl, rfl, rfl, rfl, rfl, rfl, rfl, rfl, rfl, rfl, rfl, rfl⟩
  show PS T0
  unfold PS
  omega
theorem pe_00 : PE E0 := ⟨by show 0 ≤ (0 : Int) ∧ (0 : Int) ≤ 8; omega, fun i => by show 0 ≤ (0 : Int) ∧ (0 : Int) ≤ 40; omega, fun i => by show -12 ≤ (0 : Int) ∧ (0 : Int) ≤ 12; omega, fun q hq i hi => absurd (show 0 ≤ i ∧ i < (0 : Int) from hi) (by omega)⟩
def rL (ca : Nat → ClassId) (ad : Nat → Nat) : List (Nat × xPd) := [(ad 36, xO 5 [fR (ad 37), fR (ad 38), fR (ad 39), fR (ad 40), fR (ad 41), fG 0 40, fG 0 450]), (ad 37, xAI (ca 0) 40 gA), (ad 38, xAI (ca 0) 40 (gG 40 0 12)), (ad 39, xAI (ca 0) 40 (gG 40 0 99)), (ad 40, xAI (ca 0) 41 (gG 41 0 450)), (ad 41, xAI (ca 0) 450 gA)]
def wL (ca : Nat → ClassId) (ad am : Nat → Nat) : xW := (cF ca T0 (G0 ad) 1 ad ++ rL ca ad) ++ mF ca T0 E0 am
def w0 (ca : Nat → ClassId) (ad am : Nat → Nat) : yW := fun k => if k < 36 then (cF ca T0 (G0 ad) 1 ad)[k]? else if k < 50 then none else if k < 95 then (mF ca T0 E0 am)[k - 50]? else if k < 1006 then none else (rL ca ad)[k - 1006]?
theorem cw_0 {ca : Nat → ClassId} {ad am : Nat → Nat} : CW ca T0 (G0 ad) 1 ad (w0 ca ad am) := by
  refine ⟨pi_0, fun k x hk => ?_, fun s hs => absurd (show 0 ≤ s ∧ s < (0 : Int) from hs) (by omega), fun k hk => absurd (show 0 ≤ k ∧ k < (0 : Int) from hk) (by omega), fun i hi => absurd (show 0 ≤ i ∧ i < (0 : Int) from hi) (by omega), fun j hj => ?_⟩
  · show (if k < 36 then (cF ca T0 (G0 ad) 1 ad)[k]? else _) = _
    rw [if_pos (cF_lt hk)]; exact hk
  · obtain rfl : j = 0 := by omega
    exact ⟨rfl, rfl, rfl, rfl, rfl, rfl⟩
theorem mw_0 {ca : Nat → ClassId} {ad am : Nat → Nat} : MW ca T0 E0 am (w0 ca ad am) := by
  refine ⟨pi_0, pe_00, fun k x hk => ?_⟩
  have hlt : k < 45 := (List.getElem?_eq_some_iff.mp hk).1
  unfold w0
  rw [if_neg (by omega), if_neg (by omega), if_pos (by omega), show 50 + k - 50 = k by omega]; exact hk
theorem yH.ofx {D : va_G} {Zk : yK} {A : Nat → Prop} {s : State} {H : Heap} {wl : xW} {w : yW} {locs : List Loc} (h : xH D A s.heap wl H locs) (hS : yS Zk A s s.heap) (φ : Nat → Nat) (hφ : ∀ (k : Nat) (q : Nat × xPd), w k = some q → wl[φ k]? = some q)
    (hi : ∀ (i j : Nat) (p q : Nat × xPd), w i = some p → w j = some q → φ i = φ j → i = j) : yH D Zk A s w H locs := by
  obtain ⟨h1, h2, h3, h4, h5⟩ := h
  exact ⟨fun k q hq => h1 (φ k) q (hφ k q hq), fun i j p q hp hq e => hi i j p q hp hq (h2 (φ i) (φ j) p q (hφ i p hp) (hφ j q hq) e), h3, fun k q hq => h4 (φ k) q (hφ k q hq), h5, hS⟩
theorem yH_0 {ca : Nat → ClassId} {ad am : Nat → Nat} {D : va_G} {Zk : yK} {A : Nat → Prop} {s : State} {H : Heap} {locs : List Loc} (h : xH D A s.heap (wL ca ad am) H locs) (hS : yS Zk A s s.heap) : yH D Zk A s (w0 ca ad am) H locs := by
  have dom : ∀ (k : Nat) (q : Nat × xPd), w0 ca ad am k = some q → (k < 36 ∧ (cF ca T0 (G0 ad) 1 ad)[k]? = some q) ∨ ((50 ≤ k ∧ k < 95) ∧ (mF ca T0 E0 am)[k - 50]? = some q) ∨ ((1006 ≤ k ∧ k < 1012) ∧ (rL ca ad)[k - 1006]? = some q) := fun k q hq => by
    unfold w0 at hq
    by_cases a : k < 36
    · rw [if_pos a] at hq; exact Or.inl ⟨a, hq⟩
    · rw [if_neg a] at hq
      by_cases b : k < 50
      · rw [if_pos b] at hq; exact absurd hq (by simp)
      · rw [if_neg b] at hq
        by_cases c : k < 95
        · rw [if_pos c] at hq; exact Or.inr (Or.inl ⟨⟨by omega, c⟩, hq⟩)
        · rw [if_neg c] at hq
          by_cases d : k < 1006
          · rw [if_pos d] at hq; exact absurd hq (by simp)
          · rw [if_neg d] at hq
            have hlt : k - 1006 < 6 := (List.getElem?_eq_some_iff.mp hq).1
            exact Or.inr (Or.inr ⟨⟨by omega, by omega⟩, hq⟩)
  have lc : (cF ca T0 (G0 ad) 1 ad).length = 36 := rfl
  have lr : (rL ca ad).length = 6 := rfl
  refine yH.ofx h hS (fun k => if k < 36 then k else if k < 95 then k - 8 else k - 970) (fun k q hq => ?_) (fun i j p q hp hq e => ?_)
  · rcases dom k q hq with ⟨a, b⟩ | ⟨a, b⟩ | ⟨a, b⟩
    · show (wL ca ad am)[if k < 36 then k else if k < 95 then k - 8 else k - 970]? = _
      rw [if_pos a]
      unfold wL
      rw [List.getElem?_append_left (by rw [List.length_append, lc, lr]; omega), List.getElem?_append_left (by rw [lc]; omega)]
      exact b
    · show (wL ca ad am)[if k < 36 then k else if k < 95 then k - 8 else k - 970]? = _
      rw [if_neg (by omega), if_pos a.2]
      unfold wL
      rw [List.getElem?_append_right (by rw [List.length_append, lc, lr]; omega), List.length_append, lc, lr, show k - 8 - (36 + 6) = k - 50 by omega]
      exact b
    · show (wL ca ad am)[if k < 36 then k else if k < 95 then k - 8 else k - 970]? = _
      rw [if_neg (by omega), if_neg (by omega)]
      unfold wL
      rw [List.getElem?_append_left (by rw [List.length_append, lc, lr]; omega), List.getElem?_append_right (by rw [lc]; omega), lc, show k - 970 - 36 = k - 1006 by omega]
      exact b
  · have e : (if i < 36 then i else if i < 95 then i - 8 else i - 970) = (if j < 36 then j else if j < 95 then j - 8 else j - 970) := e
    rcases dom i p hp with ⟨a, -⟩ | ⟨a, -⟩ | ⟨a, -⟩ <;> rcases dom j q hq with ⟨b, -⟩ | ⟨b, -⟩ | ⟨b, -⟩ <;> (repeat' split at e) <;> omega
theorem MW.agree {ca : Nat → ClassId} {T E : Nat → Int → Int} {am : Nat → Nat} {w w1 : yW} (h : MW ca T E am w) (ha : AGX w w1) : MW ca T E am w1 := by
  refine ⟨h.1, h.2.1, fun k x hk => ?_⟩
  have hlt : k < 45 := (List.getElem?_eq_some_iff.mp hk).1
  rw [ha (50 + k) (by omega) (by omega)]; exact h.2.2 k x hk
theorem gRow_z {cA : ClassId} {n : Nat} {G : Nat → Int → Nat} {b : Nat} {m : Int} {P : (Nat → Option Nat) → Prop} (hm : m = 0) : ∀ e : va_E, xAQ cA n P e → xAQ cA n (gRow G b m) e := fun e he => by
  obtain ⟨f, rfl, -⟩ := he
  exact ⟨f, rfl, fun i hi => absurd hi (by omega)⟩
theorem gU_z {cA : ClassId} {n : Nat} {N u : Int} {G : Nat → Int → Nat} : ∀ e : va_E, xAQ cA n (fun f => f = fun _ => none) e → xAQ cA n (gU N G u) e := fun e he => by
  obtain ⟨f, rfl, hf⟩ := he
  exact ⟨f, rfl, fun i hi => Or.inl (by rw [hf])⟩
theorem fU_z {ad : Nat → Nat} : ∀ v : Value, fR (ad 36) v → fU (G0 ad) 1 v := fun v hv => ⟨0, by omega, hv⟩
