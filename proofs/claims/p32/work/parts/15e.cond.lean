/-! ===== the reference's conditions: what waits, and what the steps told so far are worth ===== -/
def es (E : Nat → Int → Int) (f : Nat) (i v : Int) : Nat → Int → Int := fun g j => if g = f ∧ j = i then v else E g j
theorem es_eq {E : Nat → Int → Int} {f : Nat} {i v : Int} : es E f i v f i = v := if_pos ⟨rfl, rfl⟩
theorem es_ne {E : Nat → Int → Int} {f g : Nat} {i j v : Int} (h : ¬ (g = f ∧ j = i)) : es E f i v g j = E g j := if_neg h
theorem es_up {n f : Nat} {E : Nat → Int → Int} {i v : Int} (h : 0 ≤ i) : ∀ q : Nat → Int32, gX n (fun j => E f (j : Int)) q → gX n (fun j => es E f i v f (j : Int)) (upd q i.toNat (iI v)) := fun q hq j hj => by
  unfold upd
  by_cases e : j = i.toNat
  · rw [if_pos e]
    show iI v = iI (es E f i v f (j : Int))
    rw [show ((j : Nat) : Int) = i by omega, es_eq]
  · rw [if_neg e, hq j hj]
    show iI (E f (j : Int)) = iI (es E f i v f (j : Int))
    rw [es_ne (by omega)]
/-- of the first n that wait: those that join two, those that are open, those that tell a step -/
def wb (gw : Nat → Int) : Nat → Int
  | 0 => 0
  | n + 1 => wb gw n + (if gw n = 21 ∨ gw n = 22 then 1 else 0)
def wo (gw : Nat → Int) : Nat → Int
  | 0 => 0
  | n + 1 => wo gw n + (if gw n = 20 ∨ gw n = 23 then 1 else 0)
def wn (gw : Nat → Int) : Nat → Int
  | 0 => 0
  | n + 1 => wn gw n + (if gw n = 20 ∨ gw n = 21 ∨ gw n = 22 then 1 else 0)
def wtop (gw : Nat → Int) : Nat → Int
  | 0 => 0
  | n + 1 => if gw n = 21 then 2 else if gw n = 22 then 1 else 0
def WOK (gw : Nat → Int) (n : Nat) : Prop := ∀ m : Nat, m ≤ n → (∀ k : Nat, k < m → 20 ≤ gw k ∧ gw k ≤ 23) ∧ wb gw m ≤ 2 * wo gw m + wtop gw m
theorem wtop_r (gw : Nat → Int) : ∀ n : Nat, 0 ≤ wtop gw n ∧ wtop gw n ≤ 2
  | 0 => by show (0 : Int) ≤ 0 ∧ (0 : Int) ≤ 2; omega
  | n + 1 => by
    show 0 ≤ (if gw n = 21 then (2 : Int) else if gw n = 22 then 1 else 0) ∧ (if gw n = 21 then (2 : Int) else if gw n = 22 then 1 else 0) ≤ 2
    (repeat' split) <;> omega
theorem wb_0 (gw : Nat → Int) : ∀ n : Nat, 0 ≤ wb gw n
  | 0 => by show (0 : Int) ≤ 0; omega
  | n + 1 => by
    have := wb_0 gw n
    show 0 ≤ wb gw n + (if gw n = 21 ∨ gw n = 22 then 1 else 0)
    split <;> omega
theorem wn_0 (gw : Nat → Int) : ∀ n : Nat, 0 ≤ wn gw n
  | 0 => by show (0 : Int) ≤ 0; omega
  | n + 1 => by
    have := wn_0 gw n
    show 0 ≤ wn gw n + (if gw n = 20 ∨ gw n = 21 ∨ gw n = 22 then 1 else 0)
    split <;> omega
theorem w_sum {gw : Nat → Int} : ∀ n : Nat, (∀ k : Nat, k < n → 20 ≤ gw k ∧ gw k ≤ 23) → wb gw n + wo gw n = (n : Int)
  | 0, _ => rfl
  | n + 1, h => by
    have := w_sum n (fun k hk => h k (by omega))
    have := h n (by omega)
    show (wb gw n + (if gw n = 21 ∨ gw n = 22 then 1 else 0)) + (wo gw n + (if gw n = 20 ∨ gw n = 23 then 1 else 0)) = ((n + 1 : Nat) : Int)
    (repeat' split) <;> omega
theorem w_congr {gw gw' : Nat → Int} : ∀ n : Nat, (∀ k : Nat, k < n → gw' k = gw k) → wb gw' n = wb gw n ∧ wo gw' n = wo gw n ∧ wn gw' n = wn gw n ∧ wtop gw' n = wtop gw n
  | 0, _ => ⟨rfl, rfl, rfl, rfl⟩
  | n + 1, h => by
    obtain ⟨a, b, c, -⟩ := w_congr n (fun k hk => h k (by omega))
    have e := h n (by omega)
    refine ⟨?_, ?_, ?_, ?_⟩
    · show wb gw' n + (if gw' n = 21 ∨ gw' n = 22 then 1 else 0) = wb gw n + (if gw n = 21 ∨ gw n = 22 then 1 else 0)
      rw [a, e]
    · show wo gw' n + (if gw' n = 20 ∨ gw' n = 23 then 1 else 0) = wo gw n + (if gw n = 20 ∨ gw n = 23 then 1 else 0)
      rw [b, e]
    · show wn gw' n + (if gw' n = 20 ∨ gw' n = 21 ∨ gw' n = 22 then 1 else 0) = wn gw n + (if gw n = 20 ∨ gw n = 21 ∨ gw n = 22 then 1 else 0)
      rw [c, e]
    · show (if gw' n = 21 then (2 : Int) else if gw' n = 22 then 1 else 0) = (if gw n = 21 then (2 : Int) else if gw n = 22 then 1 else 0)
      rw [e]
/-- the state between two words of a condition: dd = 1 behind a test -/
def CI (E : Nat → Int → Int) (sl s0 st : Int) (gw : Nat → Int) (wt op dd : Int) : Prop :=
  (0 ≤ s0 ∧ s0 ≤ st) ∧ 0 ≤ wt ∧ op = wo gw wt.toNat ∧ op ≤ 9 ∧ WOK gw wt.toNat ∧ OKS E (320 * sl + s0) (st - s0) ∧ dpt E (320 * sl + s0) (st - s0).toNat = wb gw wt.toNat + dd
/-- one step more -/
theorem OKS_more {E : Nat → Int → Int} {b n x : Int} (hn : 0 ≤ n) (h : OKS E b n) (hx : (x < 20 ∧ 0 ≤ x ∧ x < 16 ∧ 0 ≤ dpt E b n.toNat ∧ dpt E b n.toNat ≤ 47) ∨ (x = 20 ∧ 1 ≤ dpt E b n.toNat ∧ dpt E b n.toNat ≤ 48) ∨ (20 < x ∧ x < 100 ∧ 2 ≤ dpt E b n.toNat ∧ dpt E b n.toNat ≤ 48)) :
    OKS (es E 4 (b + n) x) b (n + 1) ∧ dpt (es E 4 (b + n) x) b (n + 1).toNat = dpt E b n.toNat + (if x < 20 then 1 else if x = 20 then 0 else -1) := by
  have old : ∀ k : Nat, (k : Int) < n → es E 4 (b + n) x 4 (b + (k : Int)) = E 4 (b + (k : Int)) := fun k hk => es_ne (by omega)
  have dn : ∀ k : Nat, (k : Int) ≤ n → dpt (es E 4 (b + n) x) b k = dpt E b k := fun k hk => dpt_congr k (fun j hj => old j (by omega))
  have en : b + ((n.toNat : Nat) : Int) = b + n := by omega
  refine ⟨fun k hk => ?_, ?_⟩
  · rw [dn k (by omega)]
    by_cases q : (k : Int) < n
    · rw [old k q]; exact h k q
    · have e : k = n.toNat := by omega
      rw [e, en, es_eq]
      exact hx
  · rw [show (n + 1).toNat = n.toNat + 1 by omega]
    show dpt (es E 4 (b + n) x) b n.toNat + (if es E 4 (b + n) x 4 (b + ((n.toNat : Nat) : Int)) < 20 then 1 else if es E 4 (b + n) x 4 (b + ((n.toNat : Nat) : Int)) = 20 then 0 else -1) = _
    rw [en, es_eq, dn n.toNat (by omega)]
theorem CI.wt {E : Nat → Int → Int} {sl s0 st : Int} {gw : Nat → Int} {wt op dd : Int} (h : CI E sl s0 st gw wt op dd) : 0 ≤ op ∧ wb gw wt.toNat ≤ 2 * op + 2 ∧ wt ≤ 3 * op + 2 ∧ 0 ≤ wb gw wt.toNat ∧ 0 ≤ wt := by
  obtain ⟨h1, h2, h3, h4, h5, h6, h7⟩ := h
  obtain ⟨a, b⟩ := h5 wt.toNat (Nat.le_refl _)
  have c := w_sum wt.toNat a
  have d := wtop_r gw wt.toNat
  have e := wb_0 gw wt.toNat
  omega
theorem wpre {gw : Nat → Int} {n : Nat} (h : WOK gw (n + 1)) : WOK gw n := fun m hm => h m (by omega)
/-- the top of what waits is told as a step -/
theorem CI.pop {E : Nat → Int → Int} {sl s0 st : Int} {gw : Nat → Int} {wt op x wt' op' st' : Int} (h : CI E sl s0 st gw wt op 1) (hw : 0 < wt) (hx : x = gw (wt - 1).toNat) (hx2 : 20 ≤ x ∧ x ≤ 22) (h1 : wt' = wt - 1) (h2 : (x = 20 ∧ op' = op - 1) ∨ (x ≠ 20 ∧ op' = op)) (h3 : st' = st + 1) :
    CI (es E 4 (320 * sl + st) x) sl s0 st' gw wt' op' 1 ∧ st' + wn gw wt'.toNat = st + wn gw wt.toNat := by
  obtain ⟨b0, b1, b2, b3, b4⟩ := h.wt
  obtain ⟨c1, c2, c3, c4, c5, c6, c7⟩ := h
  obtain ⟨n, hn⟩ : ∃ n : Nat, wt.toNat = n + 1 := ⟨wt.toNat - 1, by omega⟩
  have hn' : (wt - 1).toNat = n := by omega
  rw [hn] at c3 c5 c7 b1 b3 ⊢
  rw [h1, hn', h3]
  rw [hn'] at hx
  have ew : wb gw (n + 1) = wb gw n + (if gw n = 21 ∨ gw n = 22 then 1 else 0) := rfl
  have eo : wo gw (n + 1) = wo gw n + (if gw n = 20 ∨ gw n = 23 then 1 else 0) := rfl
  have en : wn gw (n + 1) = wn gw n + (if gw n = 20 ∨ gw n = 21 ∨ gw n = 22 then 1 else 0) := rfl
  rw [← hx] at ew eo en
  have w0 := wb_0 gw n
  have hb : 320 * sl + st = 320 * sl + s0 + (st - s0) := by omega
  have key := OKS_more (x := x) (n := st - s0) (by omega) c6 (by
    rcases h2 with ⟨q, -⟩ | ⟨q, -⟩
    · exact Or.inr (Or.inl ⟨q, by omega, by omega⟩)
    · rw [if_pos (by omega)] at ew
      exact Or.inr (Or.inr ⟨by omega, by omega, by omega, by omega⟩))
  rw [← hb, show st - s0 + 1 = st + 1 - s0 by omega] at key
  refine ⟨⟨by omega, by omega, ?_, ?_, by rw [hn']; exact wpre c5, key.1, ?_⟩, ?_⟩
  · rw [show (wt - 1).toNat = n from hn']
    rcases h2 with ⟨q, r⟩ | ⟨q, r⟩
    · rw [if_pos (Or.inl q)] at eo; omega
    · rw [if_neg (by omega)] at eo; omega
  · rcases h2 with ⟨q, r⟩ | ⟨q, r⟩ <;> omega
  · rw [key.2, c7, show (wt - 1).toNat = n from hn']
    rcases h2 with ⟨q, r⟩ | ⟨q, r⟩
    · rw [if_neg (by omega)] at ew
      rw [if_neg (by omega), if_pos q]; omega
    · rw [if_pos (by omega)] at ew
      rw [if_neg (by omega), if_neg q]; omega
  · rw [if_pos (by omega)] at en; omega
/-- a test is told as a step -/
theorem CI.num {E : Nat → Int → Int} {sl s0 st : Int} {gw : Nat → Int} {wt op x st' : Int} (h : CI E sl s0 st gw wt op 0) (hx : 0 ≤ x ∧ x < 16) (h3 : st' = st + 1) : CI (es E 4 (320 * sl + st) x) sl s0 st' gw wt op 1 := by
  obtain ⟨b0, b1, b2, b3, b4⟩ := h.wt
  obtain ⟨c1, c2, c3, c4, c5, c6, c7⟩ := h
  have hb : 320 * sl + st = 320 * sl + s0 + (st - s0) := by omega
  have key := OKS_more (x := x) (n := st - s0) (by omega) c6 (Or.inl ⟨by omega, by omega, by omega, by omega, by omega⟩)
  rw [← hb, show st - s0 + 1 = st + 1 - s0 by omega] at key
  rw [h3]
  refine ⟨by omega, c2, c3, c4, c5, key.1, ?_⟩
  rw [key.2, c7, if_pos (by omega)]; omega
/-- one more waits -/
theorem CI.push {E : Nat → Int → Int} {sl s0 st : Int} {gw gw' : Nat → Int} {wt op x dd wt' op' dd' : Int} (h : CI E sl s0 st gw wt op dd) (hg : ∀ k : Nat, (k : Int) < wt → gw' k = gw k) (hx : gw' wt.toNat = x)
    (hk : (x = 20 ∨ x = 23) ∧ op' = op + 1 ∧ op < 9 ∧ dd' = dd ∨ (x = 21 ∧ (wt = 0 ∨ gw (wt - 1).toNat ≠ 21) ∧ op' = op ∧ dd = 1 ∧ dd' = 0) ∨ (x = 22 ∧ (wt = 0 ∨ (gw (wt - 1).toNat ≠ 21 ∧ gw (wt - 1).toNat ≠ 22)) ∧ op' = op ∧ dd = 1 ∧ dd' = 0)) (h1 : wt' = wt + 1) :
    CI E sl s0 st gw' wt' op' dd' ∧ ((x = 23 ∧ wn gw' wt'.toNat = wn gw wt.toNat) ∨ (x ≠ 23 ∧ wn gw' wt'.toNat = wn gw wt.toNat + 1)) := by
  obtain ⟨c1, c2, c3, c4, c5, c6, c7⟩ := h
  have e1 : wt'.toNat = wt.toNat + 1 := by omega
  obtain ⟨a1, a2, a3, a4⟩ := w_congr (gw := gw) (gw' := gw') wt.toNat (fun k hk => hg k (by omega))
  have ew : wb gw' (wt.toNat + 1) = wb gw' wt.toNat + (if gw' wt.toNat = 21 ∨ gw' wt.toNat = 22 then 1 else 0) := rfl
  have eo : wo gw' (wt.toNat + 1) = wo gw' wt.toNat + (if gw' wt.toNat = 20 ∨ gw' wt.toNat = 23 then 1 else 0) := rfl
  have en : wn gw' (wt.toNat + 1) = wn gw' wt.toNat + (if gw' wt.toNat = 20 ∨ gw' wt.toNat = 21 ∨ gw' wt.toNat = 22 then 1 else 0) := rfl
  have et : wtop gw' (wt.toNat + 1) = (if gw' wt.toNat = 21 then (2 : Int) else if gw' wt.toNat = 22 then 1 else 0) := rfl
  rw [hx] at ew eo en et
  rw [a1] at ew; rw [a2] at eo; rw [a3] at en
  obtain ⟨p1, p2⟩ := c5 wt.toNat (Nat.le_refl _)
  have tp : wtop gw wt.toNat = if wt = 0 then 0 else if gw (wt - 1).toNat = 21 then 2 else if gw (wt - 1).toNat = 22 then 1 else 0 := by
    by_cases q : wt = 0
    · rw [if_pos q, show wt.toNat = 0 by omega]; rfl
    · rw [if_neg q]
      obtain ⟨n, hn⟩ : ∃ n : Nat, wt.toNat = n + 1 := ⟨wt.toNat - 1, by omega⟩
      rw [hn, show (wt - 1).toNat = n by omega]; rfl
  rw [e1]
  refine ⟨⟨c1, by omega, ?_, ?_, fun k hk9 => ?_, c6, ?_⟩, ?_⟩
  · rw [e1, eo, ← c3]
    rcases hk with ⟨q, r, -, -⟩ | ⟨q, -, r, -, -⟩ | ⟨q, -, r, -, -⟩
    · rw [if_pos q]; omega
    · rw [if_neg (by omega)]; omega
    · rw [if_neg (by omega)]; omega
  · rcases hk with ⟨q, r, r2, -⟩ | ⟨q, -, r, -, -⟩ | ⟨q, -, r, -, -⟩ <;> omega
  · rw [e1] at hk9
    by_cases q : k = wt.toNat + 1
    · subst q
      refine ⟨fun j hj => ?_, ?_⟩
      · by_cases q2 : j = wt.toNat
        · subst q2
          rw [hx]
          rcases hk with ⟨q, -⟩ | ⟨q, -⟩ | ⟨q, -⟩ <;> omega
        · rw [hg j (by omega)]; exact p1 j (by omega)
      · rw [ew, eo, et]
        have := wtop_r gw wt.toNat
        rcases hk with ⟨q, -⟩ | ⟨q, q2, -⟩ | ⟨q, q2, -⟩
        · rw [if_neg (by omega), if_pos q, if_neg (by omega), if_neg (by omega)]; omega
        · rw [if_pos (by omega), if_neg (by omega), if_pos q]
          have t1 : wtop gw wt.toNat ≤ 1 := by
            rw [tp]
            rcases q2 with q2 | q2
            · rw [if_pos q2]; omega
            · by_cases q3 : wt = 0
              · rw [if_pos q3]; omega
              · rw [if_neg q3, if_neg q2]; split <;> omega
          omega
        · rw [if_pos (by omega), if_neg (by omega), if_neg (by omega), if_pos q]
          have t1 : wtop gw wt.toNat = 0 := by
            rw [tp]
            rcases q2 with q2 | ⟨q2, q4⟩
            · rw [if_pos q2]
            · by_cases q3 : wt = 0
              · rw [if_pos q3]
              · rw [if_neg q3, if_neg q2, if_neg q4]
          omega
    · have hj : ∀ j : Nat, j < k → gw' j = gw j := fun j hj => hg j (by omega)
      obtain ⟨z1, z2, z3, z4⟩ := w_congr (gw := gw) (gw' := gw') k hj
      obtain ⟨y1, y2⟩ := c5 k (by omega)
      refine ⟨fun j hj9 => by rw [hj j hj9]; exact y1 j hj9, ?_⟩
      rw [z1, z2, z4]; exact y2
  · rw [e1, ew, c7]
    rcases hk with ⟨q, -, -, r⟩ | ⟨q, -, -, r, r2⟩ | ⟨q, -, -, r, r2⟩
    · rw [if_neg (by omega)]; omega
    · rw [if_pos (by omega)]; omega
    · rw [if_pos (by omega)]; omega
  · rw [en]
    rcases hk with ⟨q, -⟩ | ⟨q, -⟩ | ⟨q, -⟩
    · rcases q with q | q
      · rw [if_pos (by omega)]; omega
      · rw [if_neg (by omega)]; omega
    · rw [if_pos (by omega)]; omega
    · rw [if_pos (by omega)]; omega
/-- only the parsed text's own steps changed, from the place b of its slot on -/
def FR (E E2 : Nat → Int → Int) (sl b : Int) : Prop := ∀ (f : Nat) (j : Int), ¬ (f = 4 ∧ 320 * sl + b ≤ j ∧ j < 320 * sl + 320) → E2 f j = E f j
theorem FR_0 {E : Nat → Int → Int} {sl b : Int} : FR E E sl b := fun _ _ _ => rfl
theorem FR_es {E E1 : Nat → Int → Int} {sl b i x : Int} (h : FR E E1 sl b) (hi : 320 * sl + b ≤ i ∧ i < 320 * sl + 320) : FR E (es E1 4 i x) sl b := fun f j hf => (es_ne (by omega)).trans (h f j hf)
theorem FR_tr {E E1 E2 : Nat → Int → Int} {sl b : Int} (h : FR E E1 sl b) (h2 : FR E1 E2 sl b) : FR E E2 sl b := fun f j hf => (h2 f j hf).trans (h f j hf)
theorem FR_w {E E2 : Nat → Int → Int} {sl b b' : Int} (h : FR E E2 sl b) (hb : b' ≤ b) : FR E E2 sl b' := fun f j hf => h f j (by omega)
theorem CI.dd {E : Nat → Int → Int} {sl s0 st : Int} {gw : Nat → Int} {wt op dd dd' : Int} (h : CI E sl s0 st gw wt op dd) (e : dd = dd') : CI E sl s0 st gw wt op dd' := e ▸ h
theorem OKS_0 {E : Nat → Int → Int} {b n : Int} (h : n ≤ 0) : OKS E b n := fun k hk => absurd hk (by omega)
theorem CI.first {E : Nat → Int → Int} {sl st : Int} {gw : Nat → Int} (h : 0 ≤ st) : CI E sl st st gw 0 0 0 := by
  refine ⟨⟨h, Int.le_refl _⟩, Int.le_refl _, rfl, by omega, fun m hm => ?_, OKS_0 (by omega), ?_⟩
  · have e : m = 0 := Nat.le_zero.mp hm
    subst e
    exact ⟨fun k hk => absurd hk (Nat.not_lt_zero _), by show (0 : Int) ≤ 2 * 0 + 0; omega⟩
  · rw [show (st - st).toNat = 0 by omega]; rfl
theorem iu_eq {g : Nat → Int} {i z : Int} (h : 0 ≤ i) : iu g i z i.toNat = z := if_pos (by omega)
theorem iu_ne {g : Nat → Int} {i z : Int} {k : Nat} (h : (k : Int) < i) : iu g i z k = g k := if_neg (by omega)
/-- an opener that waits is closed -/
theorem CI.drop {E : Nat → Int → Int} {sl s0 st : Int} {gw : Nat → Int} {wt op wt' op' : Int} (h : CI E sl s0 st gw wt op 1) (hw : 0 < wt) (hx : ¬ (21 ≤ gw (wt - 1).toNat ∧ gw (wt - 1).toNat ≤ 22)) (h1 : wt' = wt - 1) (h2 : op' = op - 1) :
    CI E sl s0 st gw wt' op' 1 ∧ wn gw wt'.toNat ≤ wn gw wt.toNat := by
  obtain ⟨c1, c2, c3, c4, c5, c6, c7⟩ := h
  obtain ⟨n, hn⟩ : ∃ n : Nat, wt.toNat = n + 1 := ⟨wt.toNat - 1, by omega⟩
  have hn' : (wt - 1).toNat = n := by omega
  have hr := (c5 wt.toNat (Nat.le_refl _)).1 n (by omega)
  rw [hn'] at hx
  rw [hn] at c3 c5 c7 ⊢
  rw [h1, hn']
  have ew : wb gw (n + 1) = wb gw n + (if gw n = 21 ∨ gw n = 22 then 1 else 0) := rfl
  have eo : wo gw (n + 1) = wo gw n + (if gw n = 20 ∨ gw n = 23 then 1 else 0) := rfl
  have en : wn gw (n + 1) = wn gw n + (if gw n = 20 ∨ gw n = 21 ∨ gw n = 22 then 1 else 0) := rfl
  rw [if_neg (by omega)] at ew
  rw [if_pos (by omega)] at eo
  refine ⟨⟨c1, by omega, ?_, by omega, ?_, c6, ?_⟩, ?_⟩
  · rw [hn']; omega
  · rw [hn']; exact wpre c5
  · rw [hn', c7]; omega
  · rw [en]; split <;> omega

theorem k_X12_adds : xMV yX12_adds cX12_adds 3 none 2 := ⟨m_1627, m_1626, m_56, m_104, ⟨by decide +kernel, by decide +kernel, by decide +kernel⟩⟩
theorem k_X12_comes : xMV yX12_comes cX12_comes 3 none 2 := ⟨m_1631, m_1630, m_57, m_104, ⟨by decide +kernel, by decide +kernel, by decide +kernel⟩⟩
abbrev r_c_X12_adds : Room := { frames := 0, cells := 0, slots := 0, locals := 0 }
set_option maxHeartbeats 4000000 in
set_option maxRecDepth 100000 in
theorem c_X12_adds (l : Launch) (D : va_G) (Zk : yK) (ca : Nat → ClassId) (w : yW) (T : Nat → Int → Int) (am : Nat → Nat) (P23 : fP) (P32 : fP) (P33 : fP) (P34 : fP) (P35 : fP) (P36 : fP) (P37 : fP) (P38 : fP) (P40 : fP) (P42 : fP) (P43 : fP) (P45 : fP) (P46 : fP) (P58 : fP) (sl : Int) (st : Int) (E : Nat → Int → Int) (k : Int) (v : Int) (fo : w 50 = some (am 0, mO am T P23 P32 P33 P34 P35 P36 P37 P38 (fX sl) P40 (fX st) P42 P43 P45 P46 P58)) (f_step : w 73 = some (am 23, xAI (ca 0) 8000 (gX 8000 (fun j => E 4 (j : Int))))) (f_stepNumber : w 74 = some (am 24, xAI (ca 0) 8000 gA)) (hs1 : 0 ≤ sl ∧ sl ≤ 24 ∧ 0 ≤ st ∧ st < 320) (hk : xr k) (hv : xr v) : yC l D Zk ca yX12_adds cX12_adds 3 none r_c_X12_adds [.ref (am 0), .int (iI k), .int (iI v)] w (fun r w1 => r = none ∧ w1 = (wu (wu w 50 (am 0, mO am T P23 P32 P33 P34 P35 P36 P37 P38 (fX sl) P40 (fX (st + 1)) P42 P43 P45 P46 P58)) 73 (am 23, xAI (ca 0) 8000 (gX 8000 (fun j => es E 4 (320 * sl + st) k 4 (j : Int))))) ∧ (True)) := by
  refine yC.of2 "WindWordsModel" (by decide) rfl (Nat.le_of_ble_eq_true rfl) ?_
  intro p e s m args below meth c A ls Qf B hnm h hl hQ
  have hl : lv_has ls 3 [(0, .ref (am 0)), (1, .int (iI k)), (2, .int (iI v))] := hl
  have h : yH D Zk A s ((wu (wu w 50 (am 0, mO am T P23 P32 P33 P34 P35 P36 P37 P38 (fX sl) P40 (fX st) P42 P43 P45 P46 P58)) 73 (am 23, xAI (ca 0) 8000 (gX 8000 (fun j => E 4 (j : Int)))))) s.heap [] := by rw [wu_same (show w 50 = _ from fo), wu_same (show w 73 = _ from f_step)]; exact h
  refine lv_aload_n B.1 B.2.1 dX12_adds_0 rfl (lv_at hl 0 rfl) ?_
  refine y_getR B h kX12 50 (wu_at wu_eq (by decide)) 29 (b := am 23) rfl m_1290 (by decide) dX12_adds_1 ?_
  refine x_sipush B (by decide) dX12_adds_4 ?_
  refine lv_aload_n B.1 B.2.1 dX12_adds_7 rfl (lv_at hl 0 rfl) ?_
  refine y_getX B h kX12 50 (wu_at wu_eq (by decide)) 39 (z := sl) rfl m_1300 (by decide) dX12_adds_8 ?_
  refine x_imul B dX12_adds_11 ?_
  refine lv_aload_n B.1 B.2.1 dX12_adds_12 rfl (lv_at hl 0 rfl) ?_
  refine y_getX B h kX12 50 (wu_at wu_eq (by decide)) 41 (z := st) rfl m_1302 (by decide) dX12_adds_13 ?_
  refine x_iadd B dX12_adds_16 ?_
  refine lv_iload_n B.1 B.2.1 dX12_adds_17 rfl (lv_at hl 1 rfl) ?_
  refine y_iast B h 73 wu_eq (by omega) (P' := gX 8000 (fun j => es E 4 (320 * sl + st) k 4 (j : Int))) (es_up (by omega)) dX12_adds_18 (fun H locs h => ?_)
  rw [wu_wu] at h
  have h : yH D Zk A s ((wu (wu w 50 (am 0, mO am T P23 P32 P33 P34 P35 P36 P37 P38 (fX sl) P40 (fX st) P42 P43 P45 P46 P58)) 73 (am 23, xAI (ca 0) 8000 (gX 8000 (fun j => es E 4 (320 * sl + st) k 4 (j : Int)))))) _ _ := h
  refine lv_aload_n B.1 B.2.1 dX12_adds_19 rfl (lv_at hl 0 rfl) ?_
  refine y_getR B h kX12 50 (wu_at wu_eq (by decide)) 30 (b := am 24) rfl m_1291 (by decide) dX12_adds_20 ?_
  refine x_sipush B (by decide) dX12_adds_23 ?_
  refine lv_aload_n B.1 B.2.1 dX12_adds_26 rfl (lv_at hl 0 rfl) ?_
  refine y_getX B h kX12 50 (wu_at wu_eq (by decide)) 39 (z := sl) rfl m_1300 (by decide) dX12_adds_27 ?_
  refine x_imul B dX12_adds_30 ?_
  refine lv_aload_n B.1 B.2.1 dX12_adds_31 rfl (lv_at hl 0 rfl) ?_
  refine y_getX B h kX12 50 (wu_at wu_eq (by decide)) 41 (z := st) rfl m_1302 (by decide) dX12_adds_32 ?_
  refine x_iadd B dX12_adds_35 ?_
  refine lv_iload_n B.1 B.2.1 dX12_adds_36 rfl (lv_at hl 2 rfl) ?_
  refine y_iastS B h 74 (wu_at (wu_at f_stepNumber (by decide)) (by decide)) (by omega) (fun _ _ => trivial) dX12_adds_37 (fun H locs h => ?_)
  refine lv_aload_n B.1 B.2.1 dX12_adds_38 rfl (lv_at hl 0 rfl) ?_
  refine lv_dup B.1 B.2.1 dX12_adds_39 rfl ?_
  refine y_getX B h kX12 50 (wu_at wu_eq (by decide)) 41 (z := st) rfl m_1302 (by decide) dX12_adds_40 ?_
  refine x_iconst B dX12_adds_43 ?_
  refine x_iadd B dX12_adds_44 ?_
  rw [wu_comm (show (50 : Nat) ≠ 73 by decide)] at h
  have h : yH D Zk A s ((wu (wu w 73 (am 23, xAI (ca 0) 8000 (gX 8000 (fun j => es E 4 (320 * sl + st) k 4 (j : Int))))) 50 (am 0, mO am T P23 P32 P33 P34 P35 P36 P37 P38 (fX sl) P40 (fX st) P42 P43 P45 P46 P58))) _ _ := h
  refine y_put B h kX12 50 wu_eq 41 (Nat.le_of_ble_eq_true rfl) (P' := fX (st + 1)) m_1302 (by decide) rfl rfl rfl rfl dX12_adds_45 (fun H locs h => ?_)
  rw [wu_wu] at h
  have h : yH D Zk A s ((wu (wu w 73 (am 23, xAI (ca 0) 8000 (gX 8000 (fun j => es E 4 (320 * sl + st) k 4 (j : Int))))) 50 (am 0, mO am T P23 P32 P33 P34 P35 P36 P37 P38 (fX sl) P40 (fX (st + 1)) P42 P43 P45 P46 P58))) _ _ := h
  rw [wu_comm (show (73 : Nat) ≠ 50 by decide)] at h
  have h : yH D Zk A s ((wu (wu w 50 (am 0, mO am T P23 P32 P33 P34 P35 P36 P37 P38 (fX sl) P40 (fX (st + 1)) P42 P43 P45 P46 P58)) 73 (am 23, xAI (ca 0) 8000 (gX 8000 (fun j => es E 4 (320 * sl + st) k 4 (j : Int)))))) _ _ := h
  refine y_rv B hQ h (by decide) dX12_adds_48 ?_
  exact ⟨rfl, rfl, trivial⟩
abbrev r_c_X12_comes : Room := { frames := 1, cells := 0, slots := 0, locals := 22 }
set_option maxHeartbeats 4000000 in
set_option maxRecDepth 100000 in
theorem c_X12_comes (l : Launch) (D : va_G) (Zk : yK) (ca : Nat → ClassId) (w : yW) (T : Nat → Int → Int) (am : Nat → Nat) (P23 : fP) (P32 : fP) (P33 : fP) (P34 : fP) (P35 : fP) (P36 : fP) (P37 : fP) (P38 : fP) (P40 : fP) (P42 : fP) (P43 : fP) (P58 : fP) (sl : Int) (st : Int) (wt : Int) (op : Int) (gw : Nat → Int) (E : Nat → Int → Int) (s0 : Int) (lo : Int) (hi : Int) (fo : w 50 = some (am 0, mO am T P23 P32 P33 P34 P35 P36 P37 P38 (fX sl) P40 (fX st) P42 P43 (fX wt) (fX op) P58)) (f_step : w 73 = some (am 23, xAI (ca 0) 8000 (gX 8000 (fun j => E 4 (j : Int))))) (f_stepNumber : w 74 = some (am 24, xAI (ca 0) 8000 gA)) (f_waits : w 76 = some (am 26, xAI (ca 0) 48 (gX 48 gw))) (hs1 : 0 ≤ sl ∧ sl ≤ 24) (hci : CI E sl s0 st gw wt op 1) (hro : st + wn gw wt.toNat ≤ 318) (hlo : 20 ≤ lo ∧ lo ≤ 22) (hhi : 20 ≤ hi ∧ hi ≤ 22) : yC l D Zk ca yX12_comes cX12_comes 3 none r_c_X12_comes [.ref (am 0), .int (iI lo), .int (iI hi)] w (fun r w1 => r = none ∧ ∃ E2 : Nat → Int → Int, ∃ st2 : Int, ∃ wt2 : Int, ∃ op2 : Int, w1 = (wu (wu w 50 (am 0, mO am T P23 P32 P33 P34 P35 P36 P37 P38 (fX sl) P40 (fX st2) P42 P43 (fX wt2) (fX op2) P58)) 73 (am 23, xAI (ca 0) 8000 (gX 8000 (fun j => E2 4 (j : Int))))) ∧ (CI E2 sl s0 st2 gw wt2 op2 1 ∧ st2 + wn gw wt2.toNat = st + wn gw wt.toNat ∧ (wt2 = 0 ∨ ¬ (lo ≤ gw (wt2 - 1).toNat ∧ gw (wt2 - 1).toNat ≤ hi)) ∧ (0 ≤ wt2 ∧ wt2 ≤ wt) ∧ FR E E2 sl s0)) := by
  refine yC.of2 "WindWordsModel" (by decide) rfl (Nat.le_of_ble_eq_true rfl) ?_
  intro p e s m args below meth c A ls Qf B hnm h hl hQ
  have hl : lv_has ls 3 [(0, .ref (am 0)), (1, .int (iI lo)), (2, .int (iI hi))] := hl
  have hcw0 := hci.wt
  have h : yH D Zk A s ((wu (wu w 50 (am 0, mO am T P23 P32 P33 P34 P35 P36 P37 P38 (fX sl) P40 (fX st) P42 P43 (fX wt) (fX op) P58)) 73 (am 23, xAI (ca 0) 8000 (gX 8000 (fun j => E 4 (j : Int)))))) s.heap [] := by rw [wu_same (show w 50 = _ from fo), wu_same (show w 73 = _ from f_step)]; exact h
  have loop0 : ∀ (n0 : Nat) (wt9 : Int) (op9 : Int) (st9 : Int) (E9 : Nat → Int → Int), (0 ≤ wt9 ∧ wt9 ≤ wt) → (CI E9 sl s0 st9 gw wt9 op9 1) → (st9 + wn gw wt9.toNat = st + wn gw wt.toNat) → (FR E E9 sl s0) → ((wt9 : Int)).toNat < n0 → ∀ (H : Heap) (locs : List Loc) (ls : Array Slot), yH D Zk A s ((wu (wu w 50 (am 0, mO am T P23 P32 P33 P34 P35 P36 P37 P38 (fX sl) P40 (fX st9) P42 P43 (fX wt9) (fX op9) P58)) 73 (am 23, xAI (ca 0) 8000 (gX 8000 (fun j => E9 4 (j : Int)))))) H locs → lv_has ls 3 [(0, .ref (am 0)), (1, .int (iI lo)), (2, .int (iI hi))] → W p l e r_c_X12_comes s m args below meth c H locs 0 0 Qf (F0 m 0 ls []) := by
    intro n0
    induction n0 with
    | zero =>
      intro wt9 op9 st9 E9 h1 h2 h3 h4 hm0 H locs ls h hl
      exact absurd hm0 (Nat.not_lt_zero _)
    | succ n0 ih0 =>
      intro wt9 op9 st9 E9 h1 h2 h3 h4 hm0 H locs ls h hl
      have hcw := h2.wt
      have hcq := h2.2.2.2.1
      have hcs := h2.1
      have hcn := wn_0 gw wt9.toNat
      have hcr : 0 < wt9 → 20 ≤ gw (wt9 - 1).toNat ∧ gw (wt9 - 1).toNat ≤ 23 := fun q9 => (h2.2.2.2.2.1 wt9.toNat (Nat.le_refl _)).1 (wt9 - 1).toNat (by omega)
      refine lv_aload_n B.1 B.2.1 dX12_comes_0 rfl (lv_at hl 0 rfl) ?_
      refine y_getX B h kX12 50 (wu_at wu_eq (by decide)) 45 (z := wt9) rfl m_1306 (by decide) dX12_comes_1 ?_
      refine x_if_le B (by omega) (tgt := 77) dX12_comes_4 (by decide) (fun c1 => ?_) (fun c1 => ?_)
      · rw [wu_comm (show (50 : Nat) ≠ 73 by decide)] at h
        have h : yH D Zk A s ((wu (wu w 73 (am 23, xAI (ca 0) 8000 (gX 8000 (fun j => E9 4 (j : Int))))) 50 (am 0, mO am T P23 P32 P33 P34 P35 P36 P37 P38 (fX sl) P40 (fX st9) P42 P43 (fX wt9) (fX op9) P58))) _ _ := h
        rw [wu_comm (show (73 : Nat) ≠ 50 by decide)] at h
        have h : yH D Zk A s ((wu (wu w 50 (am 0, mO am T P23 P32 P33 P34 P35 P36 P37 P38 (fX sl) P40 (fX st9) P42 P43 (fX wt9) (fX op9) P58)) 73 (am 23, xAI (ca 0) 8000 (gX 8000 (fun j => E9 4 (j : Int)))))) _ _ := h
        refine y_rv B hQ h (by decide) dX12_comes_77 ?_
        exact ⟨rfl, _, _, _, _, rfl, ⟨h2, by omega, by omega, by omega, h4⟩⟩
      · refine lv_aload_n B.1 B.2.1 dX12_comes_7 rfl (lv_at hl 0 rfl) ?_
        refine y_getR B h kX12 50 (wu_at wu_eq (by decide)) 44 (b := am 26) rfl m_1305 (by decide) dX12_comes_8 ?_
        refine lv_aload_n B.1 B.2.1 dX12_comes_11 rfl (lv_at hl 0 rfl) ?_
        refine y_getX B h kX12 50 (wu_at wu_eq (by decide)) 45 (z := wt9) rfl m_1306 (by decide) dX12_comes_12 ?_
        refine x_iconst B dX12_comes_15 ?_
        refine x_isub B dX12_comes_16 ?_
        refine y_ialdX B h 76 (wu_at (wu_at f_waits (by decide)) (by decide)) (by omega) dX12_comes_17 ?_
        refine x_iset (z := (gw ((wt9 - 1)).toNat)) rfl ?_
        refine lv_iload_n B.1 B.2.1 dX12_comes_18 rfl (lv_at hl 1 rfl) ?_
        refine lv_iload_n B.1 B.2.1 dX12_comes_19 rfl (lv_at hl 2 rfl) ?_
        refine y_cS B h k_X12_within (c_X12_within l D Zk ca _ ((gw ((wt9 - 1)).toNat)) lo hi  (by omega) (by omega) (by omega)) m_1515 rfl (by decide) hl.1 [] (Nat.le_of_ble_eq_true rfl) rfl dX12_comes_20 (fun r w1 hq H locs h => ?_)
        obtain ⟨rfl, _, rfl, ⟨rfl, b2⟩ | ⟨rfl, b2⟩⟩ := hq
        · show W p l e r_c_X12_comes s m args below meth c _ _ 0 0 Qf (F0 m 23 ls [.int (iI 1)])
          refine x_if_eq B (by omega) (tgt := 77) dX12_comes_23 (by decide) (fun c3 => ?_) (fun c3 => ?_)
          · exact absurd c3 (by omega)
          · refine lv_aload_n B.1 B.2.1 dX12_comes_26 rfl (lv_at hl 0 rfl) ?_
            refine lv_dup B.1 B.2.1 dX12_comes_27 rfl ?_
            refine y_getX B h kX12 50 (wu_at wu_eq (by decide)) 45 (z := wt9) rfl m_1306 (by decide) dX12_comes_28 ?_
            refine x_iconst B dX12_comes_31 ?_
            refine x_isub B dX12_comes_32 ?_
            rw [wu_comm (show (50 : Nat) ≠ 73 by decide)] at h
            have h : yH D Zk A s ((wu (wu w 73 (am 23, xAI (ca 0) 8000 (gX 8000 (fun j => E9 4 (j : Int))))) 50 (am 0, mO am T P23 P32 P33 P34 P35 P36 P37 P38 (fX sl) P40 (fX st9) P42 P43 (fX wt9) (fX op9) P58))) _ _ := h
            refine y_put B h kX12 50 wu_eq 45 (Nat.le_of_ble_eq_true rfl) (P' := fX (wt9 - 1)) m_1306 (by decide) rfl rfl rfl rfl dX12_comes_33 (fun H locs h => ?_)
            rw [wu_wu] at h
            have h : yH D Zk A s ((wu (wu w 73 (am 23, xAI (ca 0) 8000 (gX 8000 (fun j => E9 4 (j : Int))))) 50 (am 0, mO am T P23 P32 P33 P34 P35 P36 P37 P38 (fX sl) P40 (fX st9) P42 P43 (fX (wt9 - 1)) (fX op9) P58))) _ _ := h
            refine lv_aload_n B.1 B.2.1 dX12_comes_36 rfl (lv_at hl 0 rfl) ?_
            refine y_getR B h kX12 50 wu_eq 44 (b := am 26) rfl m_1305 (by decide) dX12_comes_37 ?_
            refine lv_aload_n B.1 B.2.1 dX12_comes_40 rfl (lv_at hl 0 rfl) ?_
            refine y_getX B h kX12 50 wu_eq 45 (z := (wt9 - 1)) rfl m_1306 (by decide) dX12_comes_41 ?_
            refine y_ialdX B h 76 (wu_at (wu_at f_waits (by decide)) (by decide)) (by omega) dX12_comes_44 ?_
            refine x_iset (z := (gw ((wt9 - 1)).toNat)) rfl ?_
            refine x_bipush B (by decide) dX12_comes_45 ?_
            refine x_icmp_ne B (by omega) (tgt := 60) dX12_comes_47 (by decide) (fun c4 => ?_) (fun c4 => ?_)
            · refine lv_aload_n B.1 B.2.1 dX12_comes_60 rfl (lv_at hl 0 rfl) ?_
              refine lv_aload_n B.1 B.2.1 dX12_comes_61 rfl (lv_at hl 0 rfl) ?_
              refine y_getR B h kX12 50 wu_eq 44 (b := am 26) rfl m_1305 (by decide) dX12_comes_62 ?_
              refine lv_aload_n B.1 B.2.1 dX12_comes_65 rfl (lv_at hl 0 rfl) ?_
              refine y_getX B h kX12 50 wu_eq 45 (z := (wt9 - 1)) rfl m_1306 (by decide) dX12_comes_66 ?_
              refine y_ialdX B h 76 (wu_at (wu_at f_waits (by decide)) (by decide)) (by omega) dX12_comes_69 ?_
              refine x_iset (z := (gw ((wt9 - 1)).toNat)) rfl ?_
              refine x_iconst B dX12_comes_70 ?_
              refine y_cV B h kX12 50 wu_eq k_X12_adds rfl (c_X12_adds l D Zk ca _ _ _ P23 P32 P33 P34 P35 P36 P37 P38 P40 P42 P43 (fX (wt9 - 1)) (fX op9) P58 sl st9 E9 ((gw ((wt9 - 1)).toNat)) 0 wu_eq (wu_at wu_eq (by decide)) (wu_at (wu_at f_stepNumber (by decide)) (by decide)) (by omega) (by omega) (by omega)) m_1624 rfl (by decide) hl.1 [] (Nat.le_of_ble_eq_true rfl) rfl dX12_comes_71 (fun r w1 hq H locs h => ?_)
              obtain ⟨rfl, rfl, hr5⟩ := hq
              rw [wu_wu, wu_comm (show (73 : Nat) ≠ 50 by decide), wu_wu] at h
              have h : yH D Zk A s ((wu (wu w 50 (am 0, mO am T P23 P32 P33 P34 P35 P36 P37 P38 (fX sl) P40 (fX (st9 + 1)) P42 P43 (fX (wt9 - 1)) (fX op9) P58)) 73 (am 23, xAI (ca 0) 8000 (gX 8000 (fun j => es E9 4 (320 * sl + st9) ((gw ((wt9 - 1)).toNat)) 4 (j : Int)))))) _ _ := h
              show W p l e r_c_X12_comes s m args below meth c _ _ 0 0 Qf (F0 m 74 ls [])
              refine lv_goto (tgt := 0) B.1 B.2.1 dX12_comes_74 (by decide) ?_
              exact ih0 ((wt9 - 1)) op9 ((st9 + 1)) (es E9 4 (320 * sl + st9) ((gw ((wt9 - 1)).toNat))) (by omega) (CI.pop (wt' := (wt9 - 1)) (op' := op9) (st' := (st9 + 1)) h2 (by omega) rfl (by omega) (by omega) (by omega) (by omega)).1 (by have q9 := (CI.pop (wt' := (wt9 - 1)) (op' := op9) (st' := (st9 + 1)) h2 (by omega) rfl (by omega) (by omega) (by omega) (by omega)).2; omega) (FR_es h4 (by omega)) (by omega) _ _ _ h (lv_sub hl [0, 1, 2] rfl)
            · refine lv_aload_n B.1 B.2.1 dX12_comes_50 rfl (lv_at hl 0 rfl) ?_
              refine lv_dup B.1 B.2.1 dX12_comes_51 rfl ?_
              refine y_getX B h kX12 50 wu_eq 46 (z := op9) rfl m_1307 (by decide) dX12_comes_52 ?_
              refine x_iconst B dX12_comes_55 ?_
              refine x_isub B dX12_comes_56 ?_
              refine y_put B h kX12 50 wu_eq 46 (Nat.le_of_ble_eq_true rfl) (P' := fX (op9 - 1)) m_1307 (by decide) rfl rfl rfl rfl dX12_comes_57 (fun H locs h => ?_)
              rw [wu_wu] at h
              have h : yH D Zk A s ((wu (wu w 73 (am 23, xAI (ca 0) 8000 (gX 8000 (fun j => E9 4 (j : Int))))) 50 (am 0, mO am T P23 P32 P33 P34 P35 P36 P37 P38 (fX sl) P40 (fX st9) P42 P43 (fX (wt9 - 1)) (fX (op9 - 1)) P58))) _ _ := h
              refine lv_aload_n B.1 B.2.1 dX12_comes_60 rfl (lv_at hl 0 rfl) ?_
              refine lv_aload_n B.1 B.2.1 dX12_comes_61 rfl (lv_at hl 0 rfl) ?_
              refine y_getR B h kX12 50 wu_eq 44 (b := am 26) rfl m_1305 (by decide) dX12_comes_62 ?_
              refine lv_aload_n B.1 B.2.1 dX12_comes_65 rfl (lv_at hl 0 rfl) ?_
              refine y_getX B h kX12 50 wu_eq 45 (z := (wt9 - 1)) rfl m_1306 (by decide) dX12_comes_66 ?_
              refine y_ialdX B h 76 (wu_at (wu_at f_waits (by decide)) (by decide)) (by omega) dX12_comes_69 ?_
              refine x_iset (z := (gw ((wt9 - 1)).toNat)) rfl ?_
              refine x_iconst B dX12_comes_70 ?_
              refine y_cV B h kX12 50 wu_eq k_X12_adds rfl (c_X12_adds l D Zk ca _ _ _ P23 P32 P33 P34 P35 P36 P37 P38 P40 P42 P43 (fX (wt9 - 1)) (fX (op9 - 1)) P58 sl st9 E9 ((gw ((wt9 - 1)).toNat)) 0 wu_eq (wu_at wu_eq (by decide)) (wu_at (wu_at f_stepNumber (by decide)) (by decide)) (by omega) (by omega) (by omega)) m_1624 rfl (by decide) hl.1 [] (Nat.le_of_ble_eq_true rfl) rfl dX12_comes_71 (fun r w1 hq H locs h => ?_)
              obtain ⟨rfl, rfl, hr6⟩ := hq
              rw [wu_wu, wu_comm (show (73 : Nat) ≠ 50 by decide), wu_wu] at h
              have h : yH D Zk A s ((wu (wu w 50 (am 0, mO am T P23 P32 P33 P34 P35 P36 P37 P38 (fX sl) P40 (fX (st9 + 1)) P42 P43 (fX (wt9 - 1)) (fX (op9 - 1)) P58)) 73 (am 23, xAI (ca 0) 8000 (gX 8000 (fun j => es E9 4 (320 * sl + st9) ((gw ((wt9 - 1)).toNat)) 4 (j : Int)))))) _ _ := h
              show W p l e r_c_X12_comes s m args below meth c _ _ 0 0 Qf (F0 m 74 ls [])
              refine lv_goto (tgt := 0) B.1 B.2.1 dX12_comes_74 (by decide) ?_
              exact ih0 ((wt9 - 1)) ((op9 - 1)) ((st9 + 1)) (es E9 4 (320 * sl + st9) ((gw ((wt9 - 1)).toNat))) (by omega) (CI.pop (wt' := (wt9 - 1)) (op' := (op9 - 1)) (st' := (st9 + 1)) h2 (by omega) rfl (by omega) (by omega) (by omega) (by omega)).1 (by have q9 := (CI.pop (wt' := (wt9 - 1)) (op' := (op9 - 1)) (st' := (st9 + 1)) h2 (by omega) rfl (by omega) (by omega) (by omega) (by omega)).2; omega) (FR_es h4 (by omega)) (by omega) _ _ _ h (lv_sub hl [0, 1, 2] rfl)
        · show W p l e r_c_X12_comes s m args below meth c _ _ 0 0 Qf (F0 m 23 ls [.int (iI 0)])
          refine x_if_eq B (by omega) (tgt := 77) dX12_comes_23 (by decide) (fun c7 => ?_) (fun c7 => ?_)
          · rw [wu_comm (show (50 : Nat) ≠ 73 by decide)] at h
            have h : yH D Zk A s ((wu (wu w 73 (am 23, xAI (ca 0) 8000 (gX 8000 (fun j => E9 4 (j : Int))))) 50 (am 0, mO am T P23 P32 P33 P34 P35 P36 P37 P38 (fX sl) P40 (fX st9) P42 P43 (fX wt9) (fX op9) P58))) _ _ := h
            rw [wu_comm (show (73 : Nat) ≠ 50 by decide)] at h
            have h : yH D Zk A s ((wu (wu w 50 (am 0, mO am T P23 P32 P33 P34 P35 P36 P37 P38 (fX sl) P40 (fX st9) P42 P43 (fX wt9) (fX op9) P58)) 73 (am 23, xAI (ca 0) 8000 (gX 8000 (fun j => E9 4 (j : Int)))))) _ _ := h
            refine y_rv B hQ h (by decide) dX12_comes_77 ?_
            exact ⟨rfl, _, _, _, _, rfl, ⟨h2, by omega, by omega, by omega, h4⟩⟩
          · exact absurd c7 (by omega)
  exact loop0 (((wt : Int)).toNat + 1) wt op st E (by omega) hci rfl FR_0 (Nat.lt_succ_self _) _ _ _ h (lv_sub hl [0, 1, 2] rfl)
abbrev r_c_X12_opens : Room := { frames := 2, cells := 0, slots := 0, locals := 43 }
set_option maxHeartbeats 4000000 in
set_option maxRecDepth 100000 in
theorem c_X12_opens (l : Launch) (D : va_G) (Zk : yK) (ca : Nat → ClassId) (w : yW) (T : Nat → Int → Int) (am : Nat → Nat) (P23 : fP) (P32 : fP) (P40 : fP) (P58 : fP) (lm : Int) (pt : Int) (fr : Int) (tk : Int) (vl : Int) (sl : Int) (st : Int) (tx : Int) (iw : Int) (wt : Int) (op : Int) (gt : Nat → Int) (gw : Nat → Int) (E : Nat → Int → Int) (s0 : Int) (k : Int) (fo : w 50 = some (am 0, mO am T P23 P32 (fG (-2147483648) 2147483647) (fX lm) (fX pt) (fX fr) (fX tk) (fX vl) (fX sl) P40 (fX st) (fY tx) (fX iw) (fX wt) (fX op) P58)) (f_tape : w 75 = some (am 25, xAI (ca 3) 900 (gX 900 gt))) (f_step : w 73 = some (am 23, xAI (ca 0) 8000 (gX 8000 (fun j => E 4 (j : Int))))) (f_stepNumber : w 74 = some (am 24, xAI (ca 0) 8000 gA)) (f_waits : w 76 = some (am 26, xAI (ca 0) 48 (gX 48 gw))) (hp : 0 ≤ pt ∧ pt ≤ lm ∧ lm ≤ 900) (hq : 0 ≤ fr ∧ fr ≤ pt ∧ 0 ≤ vl ∧ vl ≤ 10000000) (htok : TOK tk tx fr pt) (hiw : iw = 0 ∨ iw = 1) (hs1 : 0 ≤ sl ∧ sl ≤ 24) (hci : CI E sl s0 st gw wt op 0) (hk : (k = 20 ∧ tk = 1 ∧ 729 ≤ tx) ∨ (k = 23 ∧ 2 ≤ tk)) (hro : iw = 1 ∨ 3 * (st + wn gw wt.toNat) + 2 ≤ fr) (hro2 : 3 * (st + wn gw wt.toNat) ≤ fr) (hk : 20 ≤ k ∧ k ≤ 23) : yC l D Zk ca yX12_opens cX12_opens 2 none r_c_X12_opens [.ref (am 0), .int (iI k)] w (fun r w1 => r = none ∧ ∃ pt2 : Int, ∃ fr2 : Int, ∃ tk2 : Int, ∃ vl2 : Int, ∃ tx2 : Int, ∃ iw2 : Int, ∃ gw2 : Nat → Int, ∃ wt2 : Int, ∃ op2 : Int, w1 = (wu (wu w 50 (am 0, mO am T P23 P32 (fG (-2147483648) 2147483647) (fX lm) (fX pt2) (fX fr2) (fX tk2) (fX vl2) (fX sl) P40 (fX st) (fY tx2) (fX iw2) (fX wt2) (fX op2) P58)) 76 (am 26, xAI (ca 0) 48 (gX 48 gw2))) ∧ ((fr ≤ fr2 ∧ fr2 ≤ pt2 ∧ pt2 ≤ lm ∧ (0 ≤ vl2 ∧ vl2 ≤ 10000000) ∧ TOK tk2 tx2 fr2 pt2 ∧ (iw2 = 0 ∨ iw2 = 1) ∧ iw ≤ iw2) ∧ CI E sl s0 st gw2 wt2 op2 0 ∧ (iw2 = 1 ∨ (3 * (st + wn gw2 wt2.toNat) + 2 ≤ fr2 ∧ fr + 1 ≤ fr2)) ∧ 3 * (st + wn gw2 wt2.toNat) ≤ fr2)) := by
  refine yC.of2 "WindWordsModel" (by decide) rfl (Nat.le_of_ble_eq_true rfl) ?_
  intro p e s m args below meth c A ls Qf B hnm h hl hQ
  have hl : lv_has ls 2 [(0, .ref (am 0)), (1, .int (iI k))] := hl
  have hcw := hci.wt
  have hcq := hci.2.2.2.1
  have hcs := hci.1
  have hcn := wn_0 gw wt.toNat
  have h : yH D Zk A s ((wu (wu w 50 (am 0, mO am T P23 P32 (fG (-2147483648) 2147483647) (fX lm) (fX pt) (fX fr) (fX tk) (fX vl) (fX sl) P40 (fX st) (fY tx) (fX iw) (fX wt) (fX op) P58)) 76 (am 26, xAI (ca 0) 48 (gX 48 gw)))) s.heap [] := by rw [wu_same (show w 50 = _ from fo), wu_same (show w 76 = _ from f_waits)]; exact h
  refine lv_aload_n B.1 B.2.1 dX12_opens_0 rfl (lv_at hl 0 rfl) ?_
  refine y_getX B h kX12 50 (wu_at wu_eq (by decide)) 43 (z := iw) rfl m_1304 (by decide) dX12_opens_1 ?_
  refine x_if_eq B (by omega) (tgt := 8) dX12_opens_4 (by decide) (fun c1 => ?_) (fun c1 => ?_)
  · refine lv_aload_n B.1 B.2.1 dX12_opens_8 rfl (lv_at hl 0 rfl) ?_
    refine y_getX B h kX12 50 (wu_at wu_eq (by decide)) 46 (z := op) rfl m_1307 (by decide) dX12_opens_9 ?_
    refine x_bipush B (by decide) dX12_opens_12 ?_
    refine x_icmp_ne B (by omega) (tgt := 22) dX12_opens_14 (by decide) (fun c2 => ?_) (fun c2 => ?_)
    · refine lv_aload_n B.1 B.2.1 dX12_opens_22 rfl (lv_at hl 0 rfl) ?_
      refine lv_dup B.1 B.2.1 dX12_opens_23 rfl ?_
      refine y_getX B h kX12 50 (wu_at wu_eq (by decide)) 46 (z := op) rfl m_1307 (by decide) dX12_opens_24 ?_
      refine x_iconst B dX12_opens_27 ?_
      refine x_iadd B dX12_opens_28 ?_
      rw [wu_comm (show (50 : Nat) ≠ 76 by decide)] at h
      have h : yH D Zk A s ((wu (wu w 76 (am 26, xAI (ca 0) 48 (gX 48 gw))) 50 (am 0, mO am T P23 P32 (fG (-2147483648) 2147483647) (fX lm) (fX pt) (fX fr) (fX tk) (fX vl) (fX sl) P40 (fX st) (fY tx) (fX iw) (fX wt) (fX op) P58))) _ _ := h
      refine y_put B h kX12 50 wu_eq 46 (Nat.le_of_ble_eq_true rfl) (P' := fX (op + 1)) m_1307 (by decide) rfl rfl rfl rfl dX12_opens_29 (fun H locs h => ?_)
      rw [wu_wu] at h
      have h : yH D Zk A s ((wu (wu w 76 (am 26, xAI (ca 0) 48 (gX 48 gw))) 50 (am 0, mO am T P23 P32 (fG (-2147483648) 2147483647) (fX lm) (fX pt) (fX fr) (fX tk) (fX vl) (fX sl) P40 (fX st) (fY tx) (fX iw) (fX wt) (fX (op + 1)) P58))) _ _ := h
      refine lv_aload_n B.1 B.2.1 dX12_opens_32 rfl (lv_at hl 0 rfl) ?_
      refine y_getR B h kX12 50 wu_eq 44 (b := am 26) rfl m_1305 (by decide) dX12_opens_33 ?_
      refine lv_aload_n B.1 B.2.1 dX12_opens_36 rfl (lv_at hl 0 rfl) ?_
      refine y_getX B h kX12 50 wu_eq 45 (z := wt) rfl m_1306 (by decide) dX12_opens_37 ?_
      refine lv_iload_n B.1 B.2.1 dX12_opens_40 rfl (lv_at hl 1 rfl) ?_
      rw [wu_comm (show (76 : Nat) ≠ 50 by decide)] at h
      have h : yH D Zk A s ((wu (wu w 50 (am 0, mO am T P23 P32 (fG (-2147483648) 2147483647) (fX lm) (fX pt) (fX fr) (fX tk) (fX vl) (fX sl) P40 (fX st) (fY tx) (fX iw) (fX wt) (fX (op + 1)) P58)) 76 (am 26, xAI (ca 0) 48 (gX 48 gw)))) _ _ := h
      refine y_iast B h 76 wu_eq (by omega) (P' := gX 48 (iu gw wt k)) (gX_upd (by omega)) dX12_opens_41 (fun H locs h => ?_)
      rw [wu_wu] at h
      have h : yH D Zk A s ((wu (wu w 50 (am 0, mO am T P23 P32 (fG (-2147483648) 2147483647) (fX lm) (fX pt) (fX fr) (fX tk) (fX vl) (fX sl) P40 (fX st) (fY tx) (fX iw) (fX wt) (fX (op + 1)) P58)) 76 (am 26, xAI (ca 0) 48 (gX 48 (iu gw wt k))))) _ _ := h
      refine lv_aload_n B.1 B.2.1 dX12_opens_42 rfl (lv_at hl 0 rfl) ?_
      refine lv_dup B.1 B.2.1 dX12_opens_43 rfl ?_
      refine y_getX B h kX12 50 (wu_at wu_eq (by decide)) 45 (z := wt) rfl m_1306 (by decide) dX12_opens_44 ?_
      refine x_iconst B dX12_opens_47 ?_
      refine x_iadd B dX12_opens_48 ?_
      rw [wu_comm (show (50 : Nat) ≠ 76 by decide)] at h
      have h : yH D Zk A s ((wu (wu w 76 (am 26, xAI (ca 0) 48 (gX 48 (iu gw wt k)))) 50 (am 0, mO am T P23 P32 (fG (-2147483648) 2147483647) (fX lm) (fX pt) (fX fr) (fX tk) (fX vl) (fX sl) P40 (fX st) (fY tx) (fX iw) (fX wt) (fX (op + 1)) P58))) _ _ := h
      refine y_put B h kX12 50 wu_eq 45 (Nat.le_of_ble_eq_true rfl) (P' := fX (wt + 1)) m_1306 (by decide) rfl rfl rfl rfl dX12_opens_49 (fun H locs h => ?_)
      rw [wu_wu] at h
      have h : yH D Zk A s ((wu (wu w 76 (am 26, xAI (ca 0) 48 (gX 48 (iu gw wt k)))) 50 (am 0, mO am T P23 P32 (fG (-2147483648) 2147483647) (fX lm) (fX pt) (fX fr) (fX tk) (fX vl) (fX sl) P40 (fX st) (fY tx) (fX iw) (fX (wt + 1)) (fX (op + 1)) P58))) _ _ := h
      refine lv_aload_n B.1 B.2.1 dX12_opens_52 rfl (lv_at hl 0 rfl) ?_
      refine y_cV B h kX12 50 wu_eq k_X12_next rfl (c_X12_next l D Zk ca _ _ _ P23 P32 (fG (-2147483648) 2147483647) (fX fr) (fX tk) (fX vl) (fX sl) P40 (fX st) (fY tx) (fX iw) (fX (wt + 1)) (fX (op + 1)) P58 lm pt gt wu_eq (wu_at (wu_at f_tape (by decide)) (by decide)) (by omega)) m_1558 rfl (by decide) hl.1 [] (Nat.le_of_ble_eq_true rfl) rfl dX12_opens_53 (fun r w1 hq H locs h => ?_)
      obtain ⟨rfl, pt2_3, fr2_4, tk2_5, vl2_6, tx2_7, rfl, hr8⟩ := hq
      rw [wu_wu] at h
      have h : yH D Zk A s ((wu (wu w 76 (am 26, xAI (ca 0) 48 (gX 48 (iu gw wt k)))) 50 (am 0, mO am T P23 P32 (fG (-2147483648) 2147483647) (fX lm) (fX pt2_3) (fX fr2_4) (fX tk2_5) (fX vl2_6) (fX sl) P40 (fX st) (fY tx2_7) (fX iw) (fX (wt + 1)) (fX (op + 1)) P58))) _ _ := h
      show W p l e r_c_X12_opens s m args below meth c _ _ 0 0 Qf (F0 m 56 ls [])
      rw [wu_comm (show (76 : Nat) ≠ 50 by decide)] at h
      have h : yH D Zk A s ((wu (wu w 50 (am 0, mO am T P23 P32 (fG (-2147483648) 2147483647) (fX lm) (fX pt2_3) (fX fr2_4) (fX tk2_5) (fX vl2_6) (fX sl) P40 (fX st) (fY tx2_7) (fX iw) (fX (wt + 1)) (fX (op + 1)) P58)) 76 (am 26, xAI (ca 0) 48 (gX 48 (iu gw wt k))))) _ _ := h
      refine y_rv B hQ h (by decide) dX12_opens_56 ?_
      have q9 := CI.push (x := k) (gw' := iu gw wt k) (wt' := wt + 1) (op' := op + 1) (dd' := 0) hci (fun i hi => iu_ne hi) (iu_eq (by omega)) (Or.inl ⟨by omega, rfl, by omega, rfl⟩) rfl
      exact ⟨rfl, _, _, _, _, _, _, _, _, _, rfl, ⟨by omega, q9.1, by omega, by omega⟩⟩
    · refine lv_aload_n B.1 B.2.1 dX12_opens_17 rfl (lv_at hl 0 rfl) ?_
      refine y_cV B h kX12 50 (wu_at wu_eq (by decide)) k_X12_errs rfl (c_X12_errs l D Zk ca _ _ _ P23 P32 (fX lm) (fX pt) (fX tk) (fX vl) (fX sl) P40 (fX st) (fY tx) (fX wt) (fX op) P58 fr iw (wu_at wu_eq (by decide)) (by omega) (by omega)) m_1569 rfl (by decide) hl.1 [] (Nat.le_of_ble_eq_true rfl) rfl dX12_opens_18 (fun r w1 hq H locs h => ?_)
      obtain ⟨rfl, rfl, hr9⟩ := hq
      rw [wu_comm (show (50 : Nat) ≠ 76 by decide), wu_wu] at h
      have h : yH D Zk A s ((wu (wu w 76 (am 26, xAI (ca 0) 48 (gX 48 gw))) 50 (am 0, mO am T P23 P32 (fG (-2147483648) 2147483647) (fX lm) (fX pt) (fX fr) (fX tk) (fX vl) (fX sl) P40 (fX st) (fY tx) (fX 1) (fX wt) (fX op) P58))) _ _ := h
      show W p l e r_c_X12_opens s m args below meth c _ _ 0 0 Qf (F0 m 21 ls [])
      rw [wu_comm (show (76 : Nat) ≠ 50 by decide)] at h
      have h : yH D Zk A s ((wu (wu w 50 (am 0, mO am T P23 P32 (fG (-2147483648) 2147483647) (fX lm) (fX pt) (fX fr) (fX tk) (fX vl) (fX sl) P40 (fX st) (fY tx) (fX 1) (fX wt) (fX op) P58)) 76 (am 26, xAI (ca 0) 48 (gX 48 gw)))) _ _ := h
      refine y_rv B hQ h (by decide) dX12_opens_21 ?_
      exact ⟨rfl, _, _, _, _, _, _, _, _, _, rfl, ⟨by omega, hci, by omega, by omega⟩⟩
  · rw [wu_comm (show (50 : Nat) ≠ 76 by decide)] at h
    have h : yH D Zk A s ((wu (wu w 76 (am 26, xAI (ca 0) 48 (gX 48 gw))) 50 (am 0, mO am T P23 P32 (fG (-2147483648) 2147483647) (fX lm) (fX pt) (fX fr) (fX tk) (fX vl) (fX sl) P40 (fX st) (fY tx) (fX iw) (fX wt) (fX op) P58))) _ _ := h
    rw [wu_comm (show (76 : Nat) ≠ 50 by decide)] at h
    have h : yH D Zk A s ((wu (wu w 50 (am 0, mO am T P23 P32 (fG (-2147483648) 2147483647) (fX lm) (fX pt) (fX fr) (fX tk) (fX vl) (fX sl) P40 (fX st) (fY tx) (fX iw) (fX wt) (fX op) P58)) 76 (am 26, xAI (ca 0) 48 (gX 48 gw)))) _ _ := h
    refine y_rv B hQ h (by decide) dX12_opens_7 ?_
    exact ⟨rfl, _, _, _, _, _, _, _, _, _, rfl, ⟨by omega, hci, by omega, by omega⟩⟩
abbrev r_c_X12_joins : Room := { frames := 2, cells := 0, slots := 0, locals := 44 }
set_option maxHeartbeats 4000000 in
set_option maxRecDepth 100000 in
theorem c_X12_joins (l : Launch) (D : va_G) (Zk : yK) (ca : Nat → ClassId) (w : yW) (T : Nat → Int → Int) (am : Nat → Nat) (P23 : fP) (P32 : fP) (P40 : fP) (P58 : fP) (lm : Int) (pt : Int) (fr : Int) (tk : Int) (vl : Int) (sl : Int) (st : Int) (tx : Int) (iw : Int) (wt : Int) (op : Int) (gt : Nat → Int) (gw : Nat → Int) (E : Nat → Int → Int) (s0 : Int) (k : Int) (fo : w 50 = some (am 0, mO am T P23 P32 (fG (-2147483648) 2147483647) (fX lm) (fX pt) (fX fr) (fX tk) (fX vl) (fX sl) P40 (fX st) (fY tx) (fX iw) (fX wt) (fX op) P58)) (f_tape : w 75 = some (am 25, xAI (ca 3) 900 (gX 900 gt))) (f_step : w 73 = some (am 23, xAI (ca 0) 8000 (gX 8000 (fun j => E 4 (j : Int))))) (f_stepNumber : w 74 = some (am 24, xAI (ca 0) 8000 gA)) (f_waits : w 76 = some (am 26, xAI (ca 0) 48 (gX 48 gw))) (hp : 0 ≤ pt ∧ pt ≤ lm ∧ lm ≤ 900) (hq : 0 ≤ fr ∧ fr ≤ pt ∧ 0 ≤ vl ∧ vl ≤ 10000000) (htok : TOK tk tx fr pt) (hiw : iw = 0 ∨ iw = 1) (hs1 : 0 ≤ sl ∧ sl ≤ 24) (hci : CI E sl s0 st gw wt op 1) (hk : tk = 1 ∧ (k = 21 → 729 ≤ tx) ∧ (k = 22 → 27 ≤ tx)) (hro : 3 * (st + wn gw wt.toNat) + 4 ≤ fr) (hk : 21 ≤ k ∧ k ≤ 22) : yC l D Zk ca yX12_joins cX12_joins 2 none r_c_X12_joins [.ref (am 0), .int (iI k)] w (fun r w1 => r = none ∧ ∃ pt2 : Int, ∃ fr2 : Int, ∃ tk2 : Int, ∃ vl2 : Int, ∃ tx2 : Int, ∃ iw2 : Int, ∃ gw2 : Nat → Int, ∃ wt2 : Int, ∃ op2 : Int, ∃ E2 : Nat → Int → Int, ∃ st2 : Int, w1 = (wu (wu (wu w 50 (am 0, mO am T P23 P32 (fG (-2147483648) 2147483647) (fX lm) (fX pt2) (fX fr2) (fX tk2) (fX vl2) (fX sl) P40 (fX st2) (fY tx2) (fX iw2) (fX wt2) (fX op2) P58)) 76 (am 26, xAI (ca 0) 48 (gX 48 gw2))) 73 (am 23, xAI (ca 0) 8000 (gX 8000 (fun j => E2 4 (j : Int))))) ∧ ((fr ≤ fr2 ∧ fr2 ≤ pt2 ∧ pt2 ≤ lm ∧ (0 ≤ vl2 ∧ vl2 ≤ 10000000) ∧ TOK tk2 tx2 fr2 pt2 ∧ (iw2 = 0 ∨ iw2 = 1) ∧ iw ≤ iw2) ∧ CI E2 sl s0 st2 gw2 wt2 op2 0 ∧ 3 * (st2 + wn gw2 wt2.toNat) + 2 ≤ fr2 ∧ fr + 1 ≤ fr2 ∧ iw2 = iw ∧ FR E E2 sl s0)) := by
  refine yC.of2 "WindWordsModel" (by decide) rfl (Nat.le_of_ble_eq_true rfl) ?_
  intro p e s m args below meth c A ls Qf B hnm h hl hQ
  have hl : lv_has ls 2 [(0, .ref (am 0)), (1, .int (iI k))] := hl
  have hcw := hci.wt
  have hcq := hci.2.2.2.1
  have hcs := hci.1
  have hcn := wn_0 gw wt.toNat
  have h : yH D Zk A s ((wu (wu (wu w 50 (am 0, mO am T P23 P32 (fG (-2147483648) 2147483647) (fX lm) (fX pt) (fX fr) (fX tk) (fX vl) (fX sl) P40 (fX st) (fY tx) (fX iw) (fX wt) (fX op) P58)) 76 (am 26, xAI (ca 0) 48 (gX 48 gw))) 73 (am 23, xAI (ca 0) 8000 (gX 8000 (fun j => E 4 (j : Int)))))) s.heap [] := by rw [wu_same (show w 50 = _ from fo), wu_same (show w 76 = _ from f_waits), wu_same (show w 73 = _ from f_step)]; exact h
  refine lv_aload_n B.1 B.2.1 dX12_joins_0 rfl (lv_at hl 0 rfl) ?_
  refine x_bipush B (by decide) dX12_joins_1 ?_
  refine lv_iload_n B.1 B.2.1 dX12_joins_3 rfl (lv_at hl 1 rfl) ?_
  refine y_cV B h kX12 50 (wu_at (wu_at wu_eq (by decide)) (by decide)) k_X12_comes rfl (c_X12_comes l D Zk ca _ _ _ P23 P32 (fG (-2147483648) 2147483647) (fX lm) (fX pt) (fX fr) (fX tk) (fX vl) P40 (fY tx) (fX iw) P58 sl st wt op gw E _ 21 k (wu_at (wu_at wu_eq (by decide)) (by decide)) wu_eq (wu_at (wu_at (wu_at f_stepNumber (by decide)) (by decide)) (by decide)) (wu_at wu_eq (by decide)) (by omega) hci (by omega) (by omega) (by omega)) m_1628 rfl (by decide) hl.1 [] (Nat.le_of_ble_eq_true rfl) rfl dX12_joins_4 (fun r w1 hq H locs h => ?_)
  obtain ⟨rfl, E2_1, st2_2, wt2_3, op2_4, rfl, hr5⟩ := hq
  rw [wu_comm (show (50 : Nat) ≠ 76 by decide), wu_comm (show (50 : Nat) ≠ 73 by decide), wu_wu, wu_comm (show (73 : Nat) ≠ 50 by decide), wu_wu] at h
  have h : yH D Zk A s ((wu (wu (wu w 76 (am 26, xAI (ca 0) 48 (gX 48 gw))) 50 (am 0, mO am T P23 P32 (fG (-2147483648) 2147483647) (fX lm) (fX pt) (fX fr) (fX tk) (fX vl) (fX sl) P40 (fX st2_2) (fY tx) (fX iw) (fX wt2_3) (fX op2_4) P58)) 73 (am 23, xAI (ca 0) 8000 (gX 8000 (fun j => E2_1 4 (j : Int)))))) _ _ := h
  show W p l e r_c_X12_joins s m args below meth c _ _ 0 0 Qf (F0 m 7 ls [])
  refine lv_aload_n B.1 B.2.1 dX12_joins_7 rfl (lv_at hl 0 rfl) ?_
  refine y_getR B h kX12 50 (wu_at wu_eq (by decide)) 44 (b := am 26) rfl m_1305 (by decide) dX12_joins_8 ?_
  refine lv_aload_n B.1 B.2.1 dX12_joins_11 rfl (lv_at hl 0 rfl) ?_
  refine y_getX B h kX12 50 (wu_at wu_eq (by decide)) 45 (z := wt2_3) rfl m_1306 (by decide) dX12_joins_12 ?_
  refine lv_iload_n B.1 B.2.1 dX12_joins_15 rfl (lv_at hl 1 rfl) ?_
  rw [wu_comm (show (76 : Nat) ≠ 50 by decide), wu_comm (show (76 : Nat) ≠ 73 by decide)] at h
  have h : yH D Zk A s ((wu (wu (wu w 50 (am 0, mO am T P23 P32 (fG (-2147483648) 2147483647) (fX lm) (fX pt) (fX fr) (fX tk) (fX vl) (fX sl) P40 (fX st2_2) (fY tx) (fX iw) (fX wt2_3) (fX op2_4) P58)) 73 (am 23, xAI (ca 0) 8000 (gX 8000 (fun j => E2_1 4 (j : Int))))) 76 (am 26, xAI (ca 0) 48 (gX 48 gw)))) _ _ := h
  refine y_iast B h 76 wu_eq (by omega) (P' := gX 48 (iu gw wt2_3 k)) (gX_upd (by omega)) dX12_joins_16 (fun H locs h => ?_)
  rw [wu_wu] at h
  have h : yH D Zk A s ((wu (wu (wu w 50 (am 0, mO am T P23 P32 (fG (-2147483648) 2147483647) (fX lm) (fX pt) (fX fr) (fX tk) (fX vl) (fX sl) P40 (fX st2_2) (fY tx) (fX iw) (fX wt2_3) (fX op2_4) P58)) 73 (am 23, xAI (ca 0) 8000 (gX 8000 (fun j => E2_1 4 (j : Int))))) 76 (am 26, xAI (ca 0) 48 (gX 48 (iu gw wt2_3 k))))) _ _ := h
  refine lv_aload_n B.1 B.2.1 dX12_joins_17 rfl (lv_at hl 0 rfl) ?_
  refine lv_dup B.1 B.2.1 dX12_joins_18 rfl ?_
  refine y_getX B h kX12 50 (wu_at (wu_at wu_eq (by decide)) (by decide)) 45 (z := wt2_3) rfl m_1306 (by decide) dX12_joins_19 ?_
  refine x_iconst B dX12_joins_22 ?_
  refine x_iadd B dX12_joins_23 ?_
  rw [wu_comm (show (50 : Nat) ≠ 73 by decide), wu_comm (show (50 : Nat) ≠ 76 by decide)] at h
  have h : yH D Zk A s ((wu (wu (wu w 73 (am 23, xAI (ca 0) 8000 (gX 8000 (fun j => E2_1 4 (j : Int))))) 76 (am 26, xAI (ca 0) 48 (gX 48 (iu gw wt2_3 k)))) 50 (am 0, mO am T P23 P32 (fG (-2147483648) 2147483647) (fX lm) (fX pt) (fX fr) (fX tk) (fX vl) (fX sl) P40 (fX st2_2) (fY tx) (fX iw) (fX wt2_3) (fX op2_4) P58))) _ _ := h
  refine y_put B h kX12 50 wu_eq 45 (Nat.le_of_ble_eq_true rfl) (P' := fX (wt2_3 + 1)) m_1306 (by decide) rfl rfl rfl rfl dX12_joins_24 (fun H locs h => ?_)
  rw [wu_wu] at h
  have h : yH D Zk A s ((wu (wu (wu w 73 (am 23, xAI (ca 0) 8000 (gX 8000 (fun j => E2_1 4 (j : Int))))) 76 (am 26, xAI (ca 0) 48 (gX 48 (iu gw wt2_3 k)))) 50 (am 0, mO am T P23 P32 (fG (-2147483648) 2147483647) (fX lm) (fX pt) (fX fr) (fX tk) (fX vl) (fX sl) P40 (fX st2_2) (fY tx) (fX iw) (fX (wt2_3 + 1)) (fX op2_4) P58))) _ _ := h
  refine lv_aload_n B.1 B.2.1 dX12_joins_27 rfl (lv_at hl 0 rfl) ?_
  refine y_cV B h kX12 50 wu_eq k_X12_next rfl (c_X12_next l D Zk ca _ _ _ P23 P32 (fG (-2147483648) 2147483647) (fX fr) (fX tk) (fX vl) (fX sl) P40 (fX st2_2) (fY tx) (fX iw) (fX (wt2_3 + 1)) (fX op2_4) P58 lm pt gt wu_eq (wu_at (wu_at (wu_at f_tape (by decide)) (by decide)) (by decide)) (by omega)) m_1558 rfl (by decide) hl.1 [] (Nat.le_of_ble_eq_true rfl) rfl dX12_joins_28 (fun r w1 hq H locs h => ?_)
  obtain ⟨rfl, pt2_6, fr2_7, tk2_8, vl2_9, tx2_10, rfl, hr11⟩ := hq
  rw [wu_wu] at h
  have h : yH D Zk A s ((wu (wu (wu w 73 (am 23, xAI (ca 0) 8000 (gX 8000 (fun j => E2_1 4 (j : Int))))) 76 (am 26, xAI (ca 0) 48 (gX 48 (iu gw wt2_3 k)))) 50 (am 0, mO am T P23 P32 (fG (-2147483648) 2147483647) (fX lm) (fX pt2_6) (fX fr2_7) (fX tk2_8) (fX vl2_9) (fX sl) P40 (fX st2_2) (fY tx2_10) (fX iw) (fX (wt2_3 + 1)) (fX op2_4) P58))) _ _ := h
  show W p l e r_c_X12_joins s m args below meth c _ _ 0 0 Qf (F0 m 31 ls [])
  rw [wu_comm (show (76 : Nat) ≠ 50 by decide)] at h
  have h : yH D Zk A s ((wu (wu (wu w 73 (am 23, xAI (ca 0) 8000 (gX 8000 (fun j => E2_1 4 (j : Int))))) 50 (am 0, mO am T P23 P32 (fG (-2147483648) 2147483647) (fX lm) (fX pt2_6) (fX fr2_7) (fX tk2_8) (fX vl2_9) (fX sl) P40 (fX st2_2) (fY tx2_10) (fX iw) (fX (wt2_3 + 1)) (fX op2_4) P58)) 76 (am 26, xAI (ca 0) 48 (gX 48 (iu gw wt2_3 k))))) _ _ := h
  rw [wu_comm (show (73 : Nat) ≠ 50 by decide), wu_comm (show (73 : Nat) ≠ 76 by decide)] at h
  have h : yH D Zk A s ((wu (wu (wu w 50 (am 0, mO am T P23 P32 (fG (-2147483648) 2147483647) (fX lm) (fX pt2_6) (fX fr2_7) (fX tk2_8) (fX vl2_9) (fX sl) P40 (fX st2_2) (fY tx2_10) (fX iw) (fX (wt2_3 + 1)) (fX op2_4) P58)) 76 (am 26, xAI (ca 0) 48 (gX 48 (iu gw wt2_3 k)))) 73 (am 23, xAI (ca 0) 8000 (gX 8000 (fun j => E2_1 4 (j : Int)))))) _ _ := h
  refine y_rv B hQ h (by decide) dX12_joins_31 ?_
  have q9 := CI.push (x := k) (gw' := iu gw wt2_3 k) (wt' := wt2_3 + 1) (op' := op2_4) (dd' := 0) hr5.1 (fun i hi => iu_ne hi) (iu_eq (by omega)) (by have q8 := hr5.2.2.1; omega) rfl
  exact ⟨rfl, _, _, _, _, _, _, _, _, _, _, _, rfl, ⟨by omega, q9.1, by omega, by omega, by omega, hr5.2.2.2.2⟩⟩
abbrev r_c_X12_closes : Room := { frames := 2, cells := 0, slots := 0, locals := 44 }
set_option maxHeartbeats 4000000 in
set_option maxRecDepth 100000 in
theorem c_X12_closes (l : Launch) (D : va_G) (Zk : yK) (ca : Nat → ClassId) (w : yW) (T : Nat → Int → Int) (am : Nat → Nat) (P23 : fP) (P32 : fP) (P40 : fP) (P58 : fP) (lm : Int) (pt : Int) (fr : Int) (tk : Int) (vl : Int) (sl : Int) (st : Int) (tx : Int) (iw : Int) (wt : Int) (op : Int) (gt : Nat → Int) (gw : Nat → Int) (E : Nat → Int → Int) (s0 : Int) (fo : w 50 = some (am 0, mO am T P23 P32 (fG (-2147483648) 2147483647) (fX lm) (fX pt) (fX fr) (fX tk) (fX vl) (fX sl) P40 (fX st) (fY tx) (fX iw) (fX wt) (fX op) P58)) (f_tape : w 75 = some (am 25, xAI (ca 3) 900 (gX 900 gt))) (f_step : w 73 = some (am 23, xAI (ca 0) 8000 (gX 8000 (fun j => E 4 (j : Int))))) (f_stepNumber : w 74 = some (am 24, xAI (ca 0) 8000 gA)) (f_waits : w 76 = some (am 26, xAI (ca 0) 48 (gX 48 gw))) (hp : 0 ≤ pt ∧ pt ≤ lm ∧ lm ≤ 900) (hq : 0 ≤ fr ∧ fr ≤ pt ∧ 0 ≤ vl ∧ vl ≤ 10000000) (htok : TOK tk tx fr pt) (hiw : iw = 0 ∨ iw = 1) (hs1 : 0 ≤ sl ∧ sl ≤ 24) (hci : CI E sl s0 st gw wt op 1) (hw : 0 < wt ∧ iw = 0) (htop : ¬ (21 ≤ gw (wt - 1).toNat ∧ gw (wt - 1).toNat ≤ 22)) (hro : 3 * (st + wn gw wt.toNat) + 4 ≤ fr) : yC l D Zk ca yX12_closes cX12_closes 1 none r_c_X12_closes [.ref (am 0)] w (fun r w1 => r = none ∧ ∃ pt2 : Int, ∃ fr2 : Int, ∃ tk2 : Int, ∃ vl2 : Int, ∃ tx2 : Int, ∃ iw2 : Int, ∃ wt2 : Int, ∃ op2 : Int, ∃ st2 : Int, ∃ E2 : Nat → Int → Int, w1 = (wu (wu w 50 (am 0, mO am T P23 P32 (fG (-2147483648) 2147483647) (fX lm) (fX pt2) (fX fr2) (fX tk2) (fX vl2) (fX sl) P40 (fX st2) (fY tx2) (fX iw2) (fX wt2) (fX op2) P58)) 73 (am 23, xAI (ca 0) 8000 (gX 8000 (fun j => E2 4 (j : Int))))) ∧ ((fr ≤ fr2 ∧ fr2 ≤ pt2 ∧ pt2 ≤ lm ∧ (0 ≤ vl2 ∧ vl2 ≤ 10000000) ∧ TOK tk2 tx2 fr2 pt2 ∧ (iw2 = 0 ∨ iw2 = 1) ∧ iw ≤ iw2) ∧ CI E2 sl s0 st2 gw wt2 op2 1 ∧ (iw2 = 1 ∨ (3 * (st2 + wn gw wt2.toNat) + 4 ≤ fr2 ∧ fr + 1 ≤ fr2)) ∧ 3 * (st2 + wn gw wt2.toNat) ≤ fr2 ∧ FR E E2 sl s0)) := by
  refine yC.of2 "WindWordsModel" (by decide) rfl (Nat.le_of_ble_eq_true rfl) ?_
  intro p e s m args below meth c A ls Qf B hnm h hl hQ
  have hl : lv_has ls 1 [(0, .ref (am 0))] := hl
  have hcw := hci.wt
  have hcq := hci.2.2.2.1
  have hcs := hci.1
  have hcn := wn_0 gw wt.toNat
  have h : yH D Zk A s ((wu (wu w 50 (am 0, mO am T P23 P32 (fG (-2147483648) 2147483647) (fX lm) (fX pt) (fX fr) (fX tk) (fX vl) (fX sl) P40 (fX st) (fY tx) (fX iw) (fX wt) (fX op) P58)) 73 (am 23, xAI (ca 0) 8000 (gX 8000 (fun j => E 4 (j : Int)))))) s.heap [] := by rw [wu_same (show w 50 = _ from fo), wu_same (show w 73 = _ from f_step)]; exact h
  refine lv_aload_n B.1 B.2.1 dX12_closes_0 rfl (lv_at hl 0 rfl) ?_
  refine y_getX B h kX12 50 (wu_at wu_eq (by decide)) 37 (z := tk) rfl m_1298 (by decide) dX12_closes_1 ?_
  refine x_bipush B (by decide) dX12_closes_4 ?_
  refine x_icmp_eq B (by omega) (tgt := 14) dX12_closes_6 (by decide) (fun c1 => ?_) (fun c1 => ?_)
  · refine lv_aload_n B.1 B.2.1 dX12_closes_14 rfl (lv_at hl 0 rfl) ?_
    refine lv_dup B.1 B.2.1 dX12_closes_15 rfl ?_
    refine y_getX B h kX12 50 (wu_at wu_eq (by decide)) 45 (z := wt) rfl m_1306 (by decide) dX12_closes_16 ?_
    refine x_iconst B dX12_closes_19 ?_
    refine x_isub B dX12_closes_20 ?_
    rw [wu_comm (show (50 : Nat) ≠ 73 by decide)] at h
    have h : yH D Zk A s ((wu (wu w 73 (am 23, xAI (ca 0) 8000 (gX 8000 (fun j => E 4 (j : Int))))) 50 (am 0, mO am T P23 P32 (fG (-2147483648) 2147483647) (fX lm) (fX pt) (fX fr) (fX tk) (fX vl) (fX sl) P40 (fX st) (fY tx) (fX iw) (fX wt) (fX op) P58))) _ _ := h
    refine y_put B h kX12 50 wu_eq 45 (Nat.le_of_ble_eq_true rfl) (P' := fX (wt - 1)) m_1306 (by decide) rfl rfl rfl rfl dX12_closes_21 (fun H locs h => ?_)
    rw [wu_wu] at h
    have h : yH D Zk A s ((wu (wu w 73 (am 23, xAI (ca 0) 8000 (gX 8000 (fun j => E 4 (j : Int))))) 50 (am 0, mO am T P23 P32 (fG (-2147483648) 2147483647) (fX lm) (fX pt) (fX fr) (fX tk) (fX vl) (fX sl) P40 (fX st) (fY tx) (fX iw) (fX (wt - 1)) (fX op) P58))) _ _ := h
    refine lv_aload_n B.1 B.2.1 dX12_closes_24 rfl (lv_at hl 0 rfl) ?_
    refine lv_dup B.1 B.2.1 dX12_closes_25 rfl ?_
    refine y_getX B h kX12 50 wu_eq 46 (z := op) rfl m_1307 (by decide) dX12_closes_26 ?_
    refine x_iconst B dX12_closes_29 ?_
    refine x_isub B dX12_closes_30 ?_
    refine y_put B h kX12 50 wu_eq 46 (Nat.le_of_ble_eq_true rfl) (P' := fX (op - 1)) m_1307 (by decide) rfl rfl rfl rfl dX12_closes_31 (fun H locs h => ?_)
    rw [wu_wu] at h
    have h : yH D Zk A s ((wu (wu w 73 (am 23, xAI (ca 0) 8000 (gX 8000 (fun j => E 4 (j : Int))))) 50 (am 0, mO am T P23 P32 (fG (-2147483648) 2147483647) (fX lm) (fX pt) (fX fr) (fX tk) (fX vl) (fX sl) P40 (fX st) (fY tx) (fX iw) (fX (wt - 1)) (fX (op - 1)) P58))) _ _ := h
    have hd := CI.drop (wt' := wt - 1) (op' := op - 1) hci (by omega) htop rfl rfl
    refine lv_aload_n B.1 B.2.1 dX12_closes_34 rfl (lv_at hl 0 rfl) ?_
    refine y_cV B h kX12 50 wu_eq k_X12_next rfl (c_X12_next l D Zk ca _ _ _ P23 P32 (fG (-2147483648) 2147483647) (fX fr) (fX tk) (fX vl) (fX sl) P40 (fX st) (fY tx) (fX iw) (fX (wt - 1)) (fX (op - 1)) P58 lm pt gt wu_eq (wu_at (wu_at f_tape (by decide)) (by decide)) (by omega)) m_1558 rfl (by decide) hl.1 [] (Nat.le_of_ble_eq_true rfl) rfl dX12_closes_35 (fun r w1 hq H locs h => ?_)
    obtain ⟨rfl, pt2_2, fr2_3, tk2_4, vl2_5, tx2_6, rfl, hr7⟩ := hq
    rw [wu_wu] at h
    have h : yH D Zk A s ((wu (wu w 73 (am 23, xAI (ca 0) 8000 (gX 8000 (fun j => E 4 (j : Int))))) 50 (am 0, mO am T P23 P32 (fG (-2147483648) 2147483647) (fX lm) (fX pt2_2) (fX fr2_3) (fX tk2_4) (fX vl2_5) (fX sl) P40 (fX st) (fY tx2_6) (fX iw) (fX (wt - 1)) (fX (op - 1)) P58))) _ _ := h
    show W p l e r_c_X12_closes s m args below meth c _ _ 0 0 Qf (F0 m 38 ls [])
    refine lv_aload_n B.1 B.2.1 dX12_closes_38 rfl (lv_at hl 0 rfl) ?_
    refine x_bipush B (by decide) dX12_closes_39 ?_
    refine x_bipush B (by decide) dX12_closes_41 ?_
    refine y_cV B h kX12 50 wu_eq k_X12_comes rfl (c_X12_comes l D Zk ca _ _ _ P23 P32 (fG (-2147483648) 2147483647) (fX lm) (fX pt2_2) (fX fr2_3) (fX tk2_4) (fX vl2_5) P40 (fY tx2_6) (fX iw) P58 sl st ((wt - 1)) ((op - 1)) gw E _ 20 20 wu_eq (wu_at wu_eq (by decide)) (wu_at (wu_at f_stepNumber (by decide)) (by decide)) (wu_at (wu_at f_waits (by decide)) (by decide)) (by omega) hd.1 (by omega) (by omega) (by omega)) m_1628 rfl (by decide) hl.1 [] (Nat.le_of_ble_eq_true rfl) rfl dX12_closes_43 (fun r w1 hq H locs h => ?_)
    obtain ⟨rfl, E2_8, st2_9, wt2_10, op2_11, rfl, hr12⟩ := hq
    rw [wu_wu, wu_comm (show (73 : Nat) ≠ 50 by decide), wu_wu] at h
    have h : yH D Zk A s ((wu (wu w 50 (am 0, mO am T P23 P32 (fG (-2147483648) 2147483647) (fX lm) (fX pt2_2) (fX fr2_3) (fX tk2_4) (fX vl2_5) (fX sl) P40 (fX st2_9) (fY tx2_6) (fX iw) (fX wt2_10) (fX op2_11) P58)) 73 (am 23, xAI (ca 0) 8000 (gX 8000 (fun j => E2_8 4 (j : Int)))))) _ _ := h
    show W p l e r_c_X12_closes s m args below meth c _ _ 0 0 Qf (F0 m 46 ls [])
    rw [wu_comm (show (50 : Nat) ≠ 73 by decide)] at h
    have h : yH D Zk A s ((wu (wu w 73 (am 23, xAI (ca 0) 8000 (gX 8000 (fun j => E2_8 4 (j : Int))))) 50 (am 0, mO am T P23 P32 (fG (-2147483648) 2147483647) (fX lm) (fX pt2_2) (fX fr2_3) (fX tk2_4) (fX vl2_5) (fX sl) P40 (fX st2_9) (fY tx2_6) (fX iw) (fX wt2_10) (fX op2_11) P58))) _ _ := h
    rw [wu_comm (show (73 : Nat) ≠ 50 by decide)] at h
    have h : yH D Zk A s ((wu (wu w 50 (am 0, mO am T P23 P32 (fG (-2147483648) 2147483647) (fX lm) (fX pt2_2) (fX fr2_3) (fX tk2_4) (fX vl2_5) (fX sl) P40 (fX st2_9) (fY tx2_6) (fX iw) (fX wt2_10) (fX op2_11) P58)) 73 (am 23, xAI (ca 0) 8000 (gX 8000 (fun j => E2_8 4 (j : Int)))))) _ _ := h
    refine y_rv B hQ h (by decide) dX12_closes_46 ?_
    exact ⟨rfl, _, _, _, _, _, _, _, _, _, _, rfl, ⟨by omega, hr12.1, by omega, by omega, hr12.2.2.2.2⟩⟩
  · refine lv_aload_n B.1 B.2.1 dX12_closes_9 rfl (lv_at hl 0 rfl) ?_
    refine y_cV B h kX12 50 (wu_at wu_eq (by decide)) k_X12_errs rfl (c_X12_errs l D Zk ca _ _ _ P23 P32 (fX lm) (fX pt) (fX tk) (fX vl) (fX sl) P40 (fX st) (fY tx) (fX wt) (fX op) P58 fr iw (wu_at wu_eq (by decide)) (by omega) (by omega)) m_1569 rfl (by decide) hl.1 [] (Nat.le_of_ble_eq_true rfl) rfl dX12_closes_10 (fun r w1 hq H locs h => ?_)
    obtain ⟨rfl, rfl, hr13⟩ := hq
    rw [wu_comm (show (50 : Nat) ≠ 73 by decide), wu_wu] at h
    have h : yH D Zk A s ((wu (wu w 73 (am 23, xAI (ca 0) 8000 (gX 8000 (fun j => E 4 (j : Int))))) 50 (am 0, mO am T P23 P32 (fG (-2147483648) 2147483647) (fX lm) (fX pt) (fX fr) (fX tk) (fX vl) (fX sl) P40 (fX st) (fY tx) (fX 1) (fX wt) (fX op) P58))) _ _ := h
    show W p l e r_c_X12_closes s m args below meth c _ _ 0 0 Qf (F0 m 13 ls [])
    rw [wu_comm (show (73 : Nat) ≠ 50 by decide)] at h
    have h : yH D Zk A s ((wu (wu w 50 (am 0, mO am T P23 P32 (fG (-2147483648) 2147483647) (fX lm) (fX pt) (fX fr) (fX tk) (fX vl) (fX sl) P40 (fX st) (fY tx) (fX 1) (fX wt) (fX op) P58)) 73 (am 23, xAI (ca 0) 8000 (gX 8000 (fun j => E 4 (j : Int)))))) _ _ := h
    refine y_rv B hQ h (by decide) dX12_closes_13 ?_
    exact ⟨rfl, _, _, _, _, _, _, _, _, _, _, rfl, ⟨by omega, hci, by omega, by omega, FR_0⟩⟩
