/-! ===== the class's package after a call that tells something ===== -/
theorem gX_eq {n : Nat} {g g' : Nat → Int} (h : ∀ j : Nat, j < n → g j = g' j) : gX n g = gX n g' := by
  funext f
  apply propext
  exact ⟨fun hf j hj => by rw [← h j hj]; exact hf j hj, fun hf j hj => by rw [h j hj]; exact hf j hj⟩
/-- filled with o from place v to place i -/
def sfi (g : Nat → Int) (v o i : Int) : Nat → Int := fun j => if v ≤ (j : Int) ∧ (j : Int) < i then o else g j
theorem sfi_0 {n : Nat} {g : Nat → Int} {v o : Int} : gX n g = gX n (sfi g v o v) := gX_eq (fun j _ => by unfold sfi; rw [if_neg (by omega)])
theorem sfi_next {n : Nat} {g : Nat → Int} {v o i : Int} (h : 0 ≤ v ∧ v ≤ i) : ∀ f : Nat → Int32, gX n (sfi g v o i) f → gX n (sfi g v o (i + 1)) (upd f i.toNat (iI o)) := fun f hf j hj => by
  unfold upd sfi
  by_cases q : j = i.toNat
  · rw [if_pos q, if_pos (by omega)]
  · rw [if_neg q, hf j hj]
    unfold sfi
    by_cases q2 : v ≤ (j : Int) ∧ (j : Int) < i
    · rw [if_pos q2, if_pos (by omega)]
    · rw [if_neg q2, if_neg (by omega)]
theorem gRow_up {G G' : Nat → Int → Nat} {b : Nat} {n : Int} {q : Nat} (hn : 0 ≤ n) (h1 : G' b n = q) (h2 : ∀ i : Int, 0 ≤ i ∧ i < n → G' b i = G b i) : ∀ f : Nat → Option Nat, gRow G b n f → gRow G' b (n + 1) (va_up f n.toNat (some q)) := fun f hf i hi => by
  unfold va_up
  by_cases e : i.toNat = n.toNat
  · rw [if_pos e, show i = n by omega, h1]
  · rw [if_neg e, hf i (by omega), h2 i (by omega)]
theorem cF_lt {ca : Nat → ClassId} {T : Nat → Int → Int} {G : Nat → Int → Nat} {u : Int} {ad : Nat → Nat} {k : Nat} {x : Nat × xPd} (h : (cF ca T G u ad)[k]? = some x) : k < 36 :=
  Nat.lt_of_lt_of_le (List.getElem?_eq_some_iff.mp h).1 (Nat.le_of_ble_eq_true rfl)
def gShip (T : Nat → Int → Int) (G : Nat → Int → Nat) (q1 q2 q3 : Nat) : Nat → Int → Nat := gUp (gUp (gUp G 1 (T 0 1) q1) 2 (T 0 1) q2) 3 (T 0 1) q3
theorem gShip_n {T : Nat → Int → Int} {G : Nat → Int → Nat} {q1 q2 q3 : Nat} : gShip T G q1 q2 q3 1 (T 0 1) = q1 ∧ gShip T G q1 q2 q3 2 (T 0 1) = q2 ∧ gShip T G q1 q2 q3 3 (T 0 1) = q3 := by
  unfold gShip gUp
  refine ⟨?_, ?_, ?_⟩
  · rw [if_neg (by omega), if_neg (by omega), if_pos ⟨rfl, rfl⟩]
  · rw [if_neg (by omega), if_pos ⟨rfl, rfl⟩]
  · rw [if_pos ⟨rfl, rfl⟩]
theorem gShip_o {T : Nat → Int → Int} {G : Nat → Int → Nat} {q1 q2 q3 f : Nat} {i : Int} (h : i ≠ T 0 1) : gShip T G q1 q2 q3 f i = G f i := by
  unfold gShip gUp
  rw [if_neg (by omega), if_neg (by omega), if_neg (by omega)]
set_option maxHeartbeats 4000000 in
theorem cw_ship {ca : Nat → ClassId} {T : Nat → Int → Int} {G : Nat → Int → Nat} {u : Int} {ad : Nat → Nat} {w w1 : yW} {rg o : Int} {q1 q2 q3 : Nat} (h : CW ca T G u ad w) (hn : T 0 1 < 12) (h1 : 0 ≤ rg ∧ rg ≤ 3) (h2 : 0 ≤ o ∧ o ≤ 15)
    (hk : ∀ k : Nat, k ≠ 1 → k ≠ 2 → k ≠ 1000 + 16 * (T 0 1).toNat + 1 → k ≠ 1000 + 16 * (T 0 1).toNat + 2 → k ≠ 1000 + 16 * (T 0 1).toNat + 3 → w1 k = w k)
    (c1 : w1 1 = some (ad 1, xO 0 [fR (ad 2), fR (ad 3), fX (T 0 0), fG (-2147483648) 2147483647, fX (T 0 1 + 1), fX (T 0 2), fX (T 0 3), fX (T 0 4), fX (T 0 5)]))
    (c2 : w1 2 = some (ad 2, xAQ (ca 4) 12 (gRow (gShip T G q1 q2 q3) 1 (T 0 1 + 1))))
    (c3 : w1 (1000 + 16 * (T 0 1).toNat + 1) = some (q1, xO 7 [fX (T 0 1), fX rg, fR q2, fR q3, fX 0]))
    (c4 : w1 (1000 + 16 * (T 0 1).toNat + 2) = some (q2, xAI (ca 0) 1000 (gX 1000 (sfi (fun _ => 0) 0 o 1000))))
    (c5 : w1 (1000 + 16 * (T 0 1).toNat + 3) = some (q3, xAQ (ca 5) 1000 (gRd T (gShip T G q1 q2 q3) (T 0 2) (T 0 1)))) :
    CW ca (tShip T rg o) (gShip T G q1 q2 q3) u ad w1 := by
  have hp := h.pi
  have hs := pi_s hp
  have hs1 := hs.2.1
  have hs2 := hs.2.2.1
  have hs6 := hs.2.2.2.2.2.2.1
  have hN := gShip_n (T := T) (G := G) (q1 := q1) (q2 := q2) (q3 := q3)
  refine ⟨pi_ship hp hn h1 h2, fun k x hx => ?_, fun s hs9 => ?_, fun k hk9 => ?_, fun i hi => ?_, fun j hj => ?_⟩
  · have hl := cF_lt hx
    by_cases e1 : k = 1
    · subst e1; cases hx; exact c1
    · by_cases e2 : k = 2
      · subst e2; cases hx; exact c2
      · rw [hk k e1 e2 (by omega) (by omega) (by omega)]
        refine h.f k x ?_
        rw [show cF ca (tShip T rg o) (gShip T G q1 q2 q3) u ad = ((cF ca T G u ad).set 1 (ad 1, xO 0 [fR (ad 2), fR (ad 3), fX (T 0 0), fG (-2147483648) 2147483647, fX (T 0 1 + 1), fX (T 0 2), fX (T 0 3), fX (T 0 4), fX (T 0 5)])).set 2 (ad 2, xAQ (ca 4) 12 (gRow (gShip T G q1 q2 q3) 1 (T 0 1 + 1))) from rfl, List.getElem?_set_ne (Ne.symm e2), List.getElem?_set_ne (Ne.symm e1)] at hx
        exact hx
  · have hs9 : 0 ≤ s ∧ s < T 0 1 + 1 := hs9
    have t1 : tShip T rg o 1 s = if s = T 0 1 then rg else T 1 s := by unfold tShip; (repeat' split) <;> first | rfl | omega
    have t2 : tShip T rg o 2 s = if s = T 0 1 then 0 else T 2 s := by unfold tShip; (repeat' split) <;> first | rfl | omega
    by_cases e : s = T 0 1
    · subst e
      rw [if_pos rfl] at t1 t2
      refine ⟨?_, ?_, ?_⟩
      · rw [c3, t1, t2, hN.1, hN.2.1, hN.2.2]
      · rw [c4, hN.2.1]
        rw [gX_eq (g := sfi (fun _ => 0) 0 o 1000) (g' := fun j => tShip T rg o 3 (1000 * T 0 1 + (j : Int))) (fun j hj => by
          unfold sfi; rw [if_pos (by omega)]
          unfold tShip; (repeat' split) <;> first | rfl | omega)]
      · rw [c5, hN.2.2]; rfl
    · obtain ⟨a, b, c⟩ := h.2.2.1 s (by omega)
      rw [if_neg e] at t1 t2
      refine ⟨?_, ?_, ?_⟩
      · rw [hk _ (by omega) (by omega) (by omega) (by omega) (by omega), t1, t2, gShip_o e, gShip_o e, gShip_o e]; exact a
      · rw [hk _ (by omega) (by omega) (by omega) (by omega) (by omega), gShip_o e]
        rw [gX_eq (g := fun j => tShip T rg o 3 (1000 * s + (j : Int))) (g' := fun j => T 3 (1000 * s + (j : Int))) (fun j hj => by
          unfold tShip; (repeat' split) <;> first | rfl | omega)]
        exact b
      · rw [hk _ (by omega) (by omega) (by omega) (by omega) (by omega), gShip_o e]; exact c
  · have hk9 : 0 ≤ k ∧ k < T 0 2 := hk9
    have hin := pi_in hp k hk9
    show w1 _ = some (G 4 k, xO 4 [fR (gShip T G q1 q2 q3 1 (T 4 k)), fX (T 5 k), fX (T 6 k), fX (T 7 k), fX (T 8 k), fX (T 9 k), fX (T 10 k), fX k])
    rw [hk _ (by omega) (by omega) (by omega) (by omega) (by omega), gShip_o (i := T 4 k) (by omega)]
    exact h.2.2.2.1 k hk9
  · have hi : 0 ≤ i ∧ i < T 0 6 := hi
    show w1 _ = _
    rw [hk _ (by omega) (by omega) (by omega) (by omega) (by omega)]
    exact h.2.2.2.2.1 i hi
  · obtain ⟨a, b, c, d, e, f⟩ := h.2.2.2.2.2 j hj
    exact ⟨(hk _ (by omega) (by omega) (by omega) (by omega) (by omega)).trans a, (hk _ (by omega) (by omega) (by omega) (by omega) (by omega)).trans b, (hk _ (by omega) (by omega) (by omega) (by omega) (by omega)).trans c, (hk _ (by omega) (by omega) (by omega) (by omega) (by omega)).trans d, (hk _ (by omega) (by omega) (by omega) (by omega) (by omega)).trans e, (hk _ (by omega) (by omega) (by omega) (by omega) (by omega)).trans f⟩
theorem gRd_none {cA : ClassId} {n : Nat} {T : Nat → Int → Int} {G : Nat → Int → Nat} {m sh : Int} (h : ∀ k : Int, 0 ≤ k ∧ k < m → T 4 k ≠ sh) : ∀ e : va_E, xAQ cA n (fun f => f = fun _ => none) e → xAQ cA n (gRd T G m sh) e := fun e he => by
  obtain ⟨f, rfl, rfl⟩ := he
  exact ⟨_, rfl, fun i hi => Or.inl ⟨rfl, fun k hk q => h k hk q.1⟩⟩
set_option maxHeartbeats 4000000 in
theorem cw_signs {ca : Nat → ClassId} {T : Nat → Int → Int} {G : Nat → Int → Nat} {u : Int} {ad : Nat → Nat} {w w1 : yW} {sh o v : Int} (h : CW ca T G u ad w) (hn : T 0 3 < 60) (h1 : 0 ≤ sh ∧ sh < T 0 1) (h2 : 0 ≤ o ∧ o ≤ 15) (h3 : 0 ≤ v ∧ v ≤ 999)
    (hk : ∀ k : Nat, k ≠ 1 → k ≠ 1000 + 16 * sh.toNat + 1 → k ≠ 1000 + 16 * sh.toNat + 2 → w1 k = w k)
    (c1 : w1 1 = some (ad 1, xO 0 [fR (ad 2), fR (ad 3), fX (T 0 0), fG (-2147483648) 2147483647, fX (T 0 1), fX (T 0 2), fX (T 0 3 + 1), fX (T 0 4), fX (T 0 5)]))
    (c2 : w1 (1000 + 16 * sh.toNat + 1) = some (G 1 sh, xO 7 [fX sh, fX (T 1 sh), fR (G 2 sh), fR (G 3 sh), fX v]))
    (c3 : w1 (1000 + 16 * sh.toNat + 2) = some (G 2 sh, xAI (ca 0) 1000 (gX 1000 (sfi (fun j => T 3 (1000 * sh + (j : Int))) v o 1000)))) :
    CW ca (tSigns T sh o v) G u ad w1 := by
  have hp := h.pi
  have hs := pi_s hp
  have hs1 := hs.2.1
  refine ⟨pi_signs hp hn h1 h2 h3, fun k x hx => ?_, fun s hs9 => ?_, fun k hk9 => ?_, fun i hi => ?_, fun j hj => ?_⟩
  · have hl := cF_lt hx
    by_cases e1 : k = 1
    · subst e1; cases hx; exact c1
    · rw [hk k e1 (by omega) (by omega)]
      refine h.f k x ?_
      rw [show cF ca (tSigns T sh o v) G u ad = (cF ca T G u ad).set 1 (ad 1, xO 0 [fR (ad 2), fR (ad 3), fX (T 0 0), fG (-2147483648) 2147483647, fX (T 0 1), fX (T 0 2), fX (T 0 3 + 1), fX (T 0 4), fX (T 0 5)]) from rfl, List.getElem?_set_ne (Ne.symm e1)] at hx
      exact hx
  · have hs9 : 0 ≤ s ∧ s < T 0 1 := hs9
    have t2 : tSigns T sh o v 2 s = if s = sh then v else T 2 s := by unfold tSigns; (repeat' split) <;> first | rfl | omega
    obtain ⟨a, b, c⟩ := h.2.2.1 s hs9
    by_cases e : s = sh
    · subst e
      rw [if_pos rfl] at t2
      refine ⟨?_, ?_, ?_⟩
      · rw [c2, t2]; rfl
      · rw [c3]
        rw [gX_eq (g := sfi (fun j => T 3 (1000 * s + (j : Int))) v o 1000) (g' := fun j => tSigns T s o v 3 (1000 * s + (j : Int))) (fun j hj => by
          unfold sfi tSigns; (repeat' split) <;> first | rfl | omega)]
      · rw [hk _ (by omega) (by omega) (by omega)]; exact c
    · rw [if_neg e] at t2
      refine ⟨?_, ?_, ?_⟩
      · rw [hk _ (by omega) (by omega) (by omega), t2]; exact a
      · rw [hk _ (by omega) (by omega) (by omega)]
        rw [gX_eq (g := fun j => tSigns T sh o v 3 (1000 * s + (j : Int))) (g' := fun j => T 3 (1000 * s + (j : Int))) (fun j hj => by
          unfold tSigns; (repeat' split) <;> first | rfl | omega)]
        exact b
      · rw [hk _ (by omega) (by omega) (by omega)]; exact c
  · have hk9 : 0 ≤ k ∧ k < T 0 2 := hk9
    show w1 _ = _
    rw [hk _ (by omega) (by omega) (by omega)]
    exact h.2.2.2.1 k hk9
  · have hi : 0 ≤ i ∧ i < T 0 6 := hi
    show w1 _ = _
    rw [hk _ (by omega) (by omega) (by omega)]
    exact h.2.2.2.2.1 i hi
  · obtain ⟨a, b, c, d, e, f⟩ := h.2.2.2.2.2 j hj
    exact ⟨(hk _ (by omega) (by omega) (by omega)).trans a, (hk _ (by omega) (by omega) (by omega)).trans b, (hk _ (by omega) (by omega) (by omega)).trans c, (hk _ (by omega) (by omega) (by omega)).trans d, (hk _ (by omega) (by omega) (by omega)).trans e, (hk _ (by omega) (by omega) (by omega)).trans f⟩
set_option maxHeartbeats 4000000 in
theorem cw_image {ca : Nat → ClassId} {T : Nat → Int → Int} {G : Nat → Int → Nat} {u : Int} {ad : Nat → Nat} {w w1 : yW} {q : Nat} (h : CW ca T G u ad w) (hn : T 0 6 < 4)
    (hk : ∀ k : Nat, k ≠ 0 → k ≠ 28 → k ≠ 1000 + 16 * (T 0 6).toNat + 5 → w1 k = w k)
    (c1 : w1 0 = some (ad 0, xO 11 [fR (ad 1), fR (ad 4), fR (ad 12), fR (ad 14), fR (ad 18), fR (ad 20), fR (ad 26), fR (ad 27), fR (ad 28), fR (ad 29), fR (ad 30), fR (ad 31), fR (ad 32), fR (ad 33), fR (ad 34), fR (ad 35), fU G u, fX (T 0 6 + 1), fG (-2147483648) 2147483647]))
    (c2 : w1 28 = some (ad 28, xAQ (ca 7) 4 (gRow (gUp G 5 (T 0 6) q) 5 (T 0 6 + 1))))
    (c3 : w1 (1000 + 16 * (T 0 6).toNat + 5) = some (q, xO 2 [fX (T 0 2), fG (-2147483648) 2147483647, fX (T 0 4), fX (T 0 5)])) :
    CW ca (tImage T) (gUp G 5 (T 0 6) q) u ad w1 := by
  have hp := h.pi
  have hs := pi_s hp
  have hs1 := hs.2.1
  have hs6 := hs.2.2.2.2.2.2.1
  have gn : gUp G 5 (T 0 6) q 5 (T 0 6) = q := if_pos ⟨rfl, rfl⟩
  refine ⟨pi_image hp hn, fun k x hx => ?_, fun s hs9 => ?_, fun k hk9 => ?_, fun i hi => ?_, fun j hj => ?_⟩
  · have hl := cF_lt hx
    by_cases e1 : k = 0
    · subst e1; cases hx; exact c1
    · by_cases e2 : k = 28
      · subst e2; cases hx; exact c2
      · rw [hk k e1 e2 (by omega)]
        refine h.f k x ?_
        rw [show cF ca (tImage T) (gUp G 5 (T 0 6) q) u ad = ((cF ca T G u ad).set 0 (ad 0, xO 11 [fR (ad 1), fR (ad 4), fR (ad 12), fR (ad 14), fR (ad 18), fR (ad 20), fR (ad 26), fR (ad 27), fR (ad 28), fR (ad 29), fR (ad 30), fR (ad 31), fR (ad 32), fR (ad 33), fR (ad 34), fR (ad 35), fU G u, fX (T 0 6 + 1), fG (-2147483648) 2147483647])).set 28 (ad 28, xAQ (ca 7) 4 (gRow (gUp G 5 (T 0 6) q) 5 (T 0 6 + 1))) from rfl, List.getElem?_set_ne (Ne.symm e2), List.getElem?_set_ne (Ne.symm e1)] at hx
        exact hx
  · have hs9 : 0 ≤ s ∧ s < T 0 1 := hs9
    obtain ⟨a, b, c⟩ := h.2.2.1 s hs9
    exact ⟨(hk _ (by omega) (by omega) (by omega)).trans a, (hk _ (by omega) (by omega) (by omega)).trans b, (hk _ (by omega) (by omega) (by omega)).trans c⟩
  · have hk9 : 0 ≤ k ∧ k < T 0 2 := hk9
    exact (hk _ (by omega) (by omega) (by omega)).trans (h.2.2.2.1 k hk9)
  · have hi : 0 ≤ i ∧ i < T 0 6 + 1 := hi
    have t1 : tImage T 11 i = if i = T 0 6 then T 0 2 else T 11 i := by unfold tImage; (repeat' split) <;> first | rfl | omega
    have t2 : tImage T 13 i = if i = T 0 6 then T 0 4 else T 13 i := by unfold tImage; (repeat' split) <;> first | rfl | omega
    have t3 : tImage T 14 i = if i = T 0 6 then T 0 5 else T 14 i := by unfold tImage; (repeat' split) <;> first | rfl | omega
    by_cases e : i = T 0 6
    · subst e
      rw [if_pos rfl] at t1 t2 t3
      show w1 _ = _
      rw [c3, t1, t2, t3, gn]
    · rw [if_neg e] at t1 t2 t3
      show w1 _ = some (gUp G 5 (T 0 6) q 5 i, _)
      rw [hk _ (by omega) (by omega) (by omega), t1, t2, t3, show gUp G 5 (T 0 6) q 5 i = G 5 i from if_neg (by omega)]
      exact h.2.2.2.2.1 i (by omega)
  · obtain ⟨a, b, c, d, e, f⟩ := h.2.2.2.2.2 j hj
    exact ⟨(hk _ (by omega) (by omega) (by omega)).trans a, (hk _ (by omega) (by omega) (by omega)).trans b, (hk _ (by omega) (by omega) (by omega)).trans c, (hk _ (by omega) (by omega) (by omega)).trans d, (hk _ (by omega) (by omega) (by omega)).trans e, (hk _ (by omega) (by omega) (by omega)).trans f⟩
