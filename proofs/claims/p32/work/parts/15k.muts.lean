/-! ===== what the calls that tell something make of the reference ===== -/
set_option maxHeartbeats 4000000 in
theorem mw_off {ca : Nat → ClassId} {T E : Nat → Int → Int} {am : Nat → Nat} {w w1 : yW}  (h : MW ca T E am w) (hn : T 0 0 < 16)
    (hk : ∀ k : Nat, k ≠ 50 → w1 k = w k)
    (c0 : w1 50 = some (am 0, xO 12 [fR (am 1), fX ((T 0 0) + 1), fX (T 0 1), fX (T 0 3), fX (T 0 2), fX (T 0 4), fX (T 0 5), fR (am 2), fR (am 3), fR (am 4), fR (am 5), fR (am 6), fR (am 7), fR (am 8), fR (am 9), fR (am 10), fR (am 11), fR (am 12), fR (am 13), fR (am 14), fR (am 15), fR (am 16), fR (am 17), fX (E 0 0), fR (am 18), fR (am 19), fR (am 20), fR (am 21), fR (am 22), fR (am 23), fR (am 24), fR (am 25), fG 0 900, fG (-2147483648) 2147483647, fG 0 900, fG 0 900, fG 0 900, fG (-2147483648) 2147483647, fG (-2147483648) 2147483647, fG 0 24, fG 0 41, fG 0 319, fL, fG 0 1, fR (am 26), fG 0 48, fG 0 9, fR (am 27), fR (am 28), fR (am 29), fR (am 30), fR (am 31), fG (-2147483648) 2147483647, fG (-2147483648) 2147483647, fG 0 12, fG (-2147483648) 2147483647, fR (am 32), fG 0 1, fX (E 0 5), fG (-2147483648) 2147483647, fG (-2147483648) 2147483647, fR (am 33), fR (am 34), fR (am 35), fG (-2147483648) 2147483647, fG (-2147483648) 2147483647, fR (am 36), fR (am 37), fR (am 38), fX (T 0 10), fX (T 0 11), fX (T 0 12), fX (T 0 13), fR (am 39), fX (T 0 6), fR (am 40), fR (am 41), fR (am 42), fR (am 43), fR (am 44)])) : MW ca (tOff T) E am w1 := by
  refine ⟨pi_off h.1 hn, h.2.1, fun k x hx => ?_⟩
  by_cases e0 : k = 0
  · subst e0; cases hx; exact c0
  · skip
    rw [hk (50 + k) (by omega)]
    refine h.f k x ?_
    rw [show mF ca (tOff T) E am = (mF ca T E am).set 0 (am 0, mO am (tOff T) (fX (E 0 0)) (fG 0 900) (fG (-2147483648) 2147483647) (fG 0 900) (fG 0 900) (fG 0 900) (fG (-2147483648) 2147483647) (fG (-2147483648) 2147483647) (fG 0 24) (fG 0 41) (fG 0 319) fL (fG 0 1) (fG 0 48) (fG 0 9) (fX (E 0 5))) from rfl, List.getElem?_set_ne (Ne.symm e0)] at hx
    exact hx
set_option maxHeartbeats 4000000 in
theorem mw_set {ca : Nat → ClassId} {T E : Nat → Int → Int} {am : Nat → Nat} {w w1 : yW} {si : Int} {er : Int} (h : MW ca T E am w) (h1 : 0 ≤ si ∧ si ≤ 7) (h2 : 0 ≤ er ∧ er ≤ 5)
    (hk : ∀ k : Nat, k ≠ 50 → w1 k = w k)
    (c0 : w1 50 = some (am 0, xO 12 [fR (am 1), fX (T 0 0), fX (T 0 1), fX (T 0 3), fX (T 0 2), fX si, fX er, fR (am 2), fR (am 3), fR (am 4), fR (am 5), fR (am 6), fR (am 7), fR (am 8), fR (am 9), fR (am 10), fR (am 11), fR (am 12), fR (am 13), fR (am 14), fR (am 15), fR (am 16), fR (am 17), fX (E 0 0), fR (am 18), fR (am 19), fR (am 20), fR (am 21), fR (am 22), fR (am 23), fR (am 24), fR (am 25), fG 0 900, fG (-2147483648) 2147483647, fG 0 900, fG 0 900, fG 0 900, fG (-2147483648) 2147483647, fG (-2147483648) 2147483647, fG 0 24, fG 0 41, fG 0 319, fL, fG 0 1, fR (am 26), fG 0 48, fG 0 9, fR (am 27), fR (am 28), fR (am 29), fR (am 30), fR (am 31), fG (-2147483648) 2147483647, fG (-2147483648) 2147483647, fG 0 12, fG (-2147483648) 2147483647, fR (am 32), fG 0 1, fX (E 0 5), fG (-2147483648) 2147483647, fG (-2147483648) 2147483647, fR (am 33), fR (am 34), fR (am 35), fG (-2147483648) 2147483647, fG (-2147483648) 2147483647, fR (am 36), fR (am 37), fR (am 38), fX (T 0 10), fX (T 0 11), fX (T 0 12), fX (T 0 13), fR (am 39), fX (T 0 6), fR (am 40), fR (am 41), fR (am 42), fR (am 43), fR (am 44)])) : MW ca (tSet T si er) E am w1 := by
  refine ⟨pi_set h.1 h1 h2, h.2.1, fun k x hx => ?_⟩
  by_cases e0 : k = 0
  · subst e0; cases hx; exact c0
  · skip
    rw [hk (50 + k) (by omega)]
    refine h.f k x ?_
    rw [show mF ca (tSet T si er) E am = (mF ca T E am).set 0 (am 0, mO am (tSet T si er) (fX (E 0 0)) (fG 0 900) (fG (-2147483648) 2147483647) (fG 0 900) (fG 0 900) (fG 0 900) (fG (-2147483648) 2147483647) (fG (-2147483648) 2147483647) (fG 0 24) (fG 0 41) (fG 0 319) fL (fG 0 1) (fG 0 48) (fG 0 9) (fX (E 0 5))) from rfl, List.getElem?_set_ne (Ne.symm e0)] at hx
    exact hx
set_option maxHeartbeats 4000000 in
theorem mw_storm {ca : Nat → ClassId} {T E : Nat → Int → Int} {am : Nat → Nat} {w w1 : yW} {a : Int} {b : Int} {r : Int} {li : Int} (h : MW ca T E am w) (h1 : (0 ≤ a ∧ a ≤ 999) ∧ (0 ≤ b ∧ b ≤ 999) ∧ a ≤ b ∧ b - a ≤ 59 ∧ (0 ≤ r ∧ r ≤ 7) ∧ 0 ≤ li ∧ li ≤ 12)
    (hk : ∀ k : Nat, k ≠ 50 → w1 k = w k)
    (c0 : w1 50 = some (am 0, xO 12 [fR (am 1), fX (T 0 0), fX (T 0 1), fX (T 0 3), fX (T 0 2), fX (T 0 4), fX (T 0 5), fR (am 2), fR (am 3), fR (am 4), fR (am 5), fR (am 6), fR (am 7), fR (am 8), fR (am 9), fR (am 10), fR (am 11), fR (am 12), fR (am 13), fR (am 14), fR (am 15), fR (am 16), fR (am 17), fX (E 0 0), fR (am 18), fR (am 19), fR (am 20), fR (am 21), fR (am 22), fR (am 23), fR (am 24), fR (am 25), fG 0 900, fG (-2147483648) 2147483647, fG 0 900, fG 0 900, fG 0 900, fG (-2147483648) 2147483647, fG (-2147483648) 2147483647, fG 0 24, fG 0 41, fG 0 319, fL, fG 0 1, fR (am 26), fG 0 48, fG 0 9, fR (am 27), fR (am 28), fR (am 29), fR (am 30), fR (am 31), fG (-2147483648) 2147483647, fG (-2147483648) 2147483647, fG 0 12, fG (-2147483648) 2147483647, fR (am 32), fG 0 1, fX (E 0 5), fG (-2147483648) 2147483647, fG (-2147483648) 2147483647, fR (am 33), fR (am 34), fR (am 35), fG (-2147483648) 2147483647, fG (-2147483648) 2147483647, fR (am 36), fR (am 37), fR (am 38), fX a, fX b, fX r, fX li, fR (am 39), fX (T 0 6), fR (am 40), fR (am 41), fR (am 42), fR (am 43), fR (am 44)])) : MW ca (tStorm T a b r li) E am w1 := by
  refine ⟨pi_storm h.1 h1, h.2.1, fun k x hx => ?_⟩
  by_cases e0 : k = 0
  · subst e0; cases hx; exact c0
  · skip
    rw [hk (50 + k) (by omega)]
    refine h.f k x ?_
    rw [show mF ca (tStorm T a b r li) E am = (mF ca T E am).set 0 (am 0, mO am (tStorm T a b r li) (fX (E 0 0)) (fG 0 900) (fG (-2147483648) 2147483647) (fG 0 900) (fG 0 900) (fG 0 900) (fG (-2147483648) 2147483647) (fG (-2147483648) 2147483647) (fG 0 24) (fG 0 41) (fG 0 319) fL (fG 0 1) (fG 0 48) (fG 0 9) (fX (E 0 5))) from rfl, List.getElem?_set_ne (Ne.symm e0)] at hx
    exact hx
set_option maxHeartbeats 4000000 in
theorem mw_ship {ca : Nat → ClassId} {T E : Nat → Int → Int} {am : Nat → Nat} {w w1 : yW} {rg : Int} {o : Int} (h : MW ca T E am w) (hn : T 0 1 < 12) (h1 : 0 ≤ rg ∧ rg ≤ 3) (h2 : 0 ≤ o ∧ o ≤ 15)
    (hk : ∀ k : Nat, k ≠ 50 → k ≠ 53 → k ≠ 54 → k ≠ 55 → w1 k = w k)
    (c0 : w1 50 = some (am 0, xO 12 [fR (am 1), fX (T 0 0), fX ((T 0 1) + 1), fX (T 0 3), fX (T 0 2), fX (T 0 4), fX (T 0 5), fR (am 2), fR (am 3), fR (am 4), fR (am 5), fR (am 6), fR (am 7), fR (am 8), fR (am 9), fR (am 10), fR (am 11), fR (am 12), fR (am 13), fR (am 14), fR (am 15), fR (am 16), fR (am 17), fX (E 0 0), fR (am 18), fR (am 19), fR (am 20), fR (am 21), fR (am 22), fR (am 23), fR (am 24), fR (am 25), fG 0 900, fG (-2147483648) 2147483647, fG 0 900, fG 0 900, fG 0 900, fG (-2147483648) 2147483647, fG (-2147483648) 2147483647, fG 0 24, fG 0 41, fG 0 319, fL, fG 0 1, fR (am 26), fG 0 48, fG 0 9, fR (am 27), fR (am 28), fR (am 29), fR (am 30), fR (am 31), fG (-2147483648) 2147483647, fG (-2147483648) 2147483647, fG 0 12, fG (-2147483648) 2147483647, fR (am 32), fG 0 1, fX (E 0 5), fG (-2147483648) 2147483647, fG (-2147483648) 2147483647, fR (am 33), fR (am 34), fR (am 35), fG (-2147483648) 2147483647, fG (-2147483648) 2147483647, fR (am 36), fR (am 37), fR (am 38), fX (T 0 10), fX (T 0 11), fX (T 0 12), fX (T 0 13), fR (am 39), fX (T 0 6), fR (am 40), fR (am 41), fR (am 42), fR (am 43), fR (am 44)]))
    (c3 : w1 53 = some (am 3, xAI (ca 0) 12 (gX 12 (iu (fun j => T 1 (j : Int)) (T 0 1) rg))))
    (c4 : w1 54 = some (am 4, xAI (ca 0) 12 (gX 12 (iu (fun j => T 20 (j : Int)) (T 0 1) o))))
    (c5 : w1 55 = some (am 5, xAI (ca 0) 12 (gX 12 (iu (fun j => T 2 (j : Int)) (T 0 1) 0)))) : MW ca (tShip T rg o) E am w1 := by
  rw [show iu (fun j => T 1 (j : Int)) (T 0 1) rg = (fun j : Nat => tShip T rg o 1 (j : Int)) from funext fun j => by unfold tShip iu; (repeat' split) <;> first | rfl | omega] at c3
  rw [show iu (fun j => T 20 (j : Int)) (T 0 1) o = (fun j : Nat => tShip T rg o 20 (j : Int)) from funext fun j => by unfold tShip iu; (repeat' split) <;> first | rfl | omega] at c4
  rw [show iu (fun j => T 2 (j : Int)) (T 0 1) 0 = (fun j : Nat => tShip T rg o 2 (j : Int)) from funext fun j => by unfold tShip iu; (repeat' split) <;> first | rfl | omega] at c5
  refine ⟨pi_ship h.1 hn h1 h2, h.2.1, fun k x hx => ?_⟩
  by_cases e0 : k = 0
  · subst e0; cases hx; exact c0
  · skip
    by_cases e3 : k = 3
    · subst e3; cases hx; exact c3
    · skip
      by_cases e4 : k = 4
      · subst e4; cases hx; exact c4
      · skip
        by_cases e5 : k = 5
        · subst e5; cases hx; exact c5
        · skip
          rw [hk (50 + k) (by omega) (by omega) (by omega) (by omega)]
          refine h.f k x ?_
          rw [show mF ca (tShip T rg o) E am = ((((mF ca T E am).set 0 (am 0, mO am (tShip T rg o) (fX (E 0 0)) (fG 0 900) (fG (-2147483648) 2147483647) (fG 0 900) (fG 0 900) (fG 0 900) (fG (-2147483648) 2147483647) (fG (-2147483648) 2147483647) (fG 0 24) (fG 0 41) (fG 0 319) fL (fG 0 1) (fG 0 48) (fG 0 9) (fX (E 0 5)))).set 3 (am 3, xAI (ca 0) 12 (gX 12 (fun j => tShip T rg o 1 (j : Int))))).set 4 (am 4, xAI (ca 0) 12 (gX 12 (fun j => tShip T rg o 20 (j : Int))))).set 5 (am 5, xAI (ca 0) 12 (gX 12 (fun j => tShip T rg o 2 (j : Int)))) from rfl, List.getElem?_set_ne (Ne.symm e5), List.getElem?_set_ne (Ne.symm e4), List.getElem?_set_ne (Ne.symm e3), List.getElem?_set_ne (Ne.symm e0)] at hx
          exact hx
set_option maxHeartbeats 4000000 in
theorem mw_signs {ca : Nat → ClassId} {T E : Nat → Int → Int} {am : Nat → Nat} {w w1 : yW} {sh : Int} {o : Int} {v : Int} (h : MW ca T E am w) (hn : T 0 3 < 60) (h1 : 0 ≤ sh ∧ sh < T 0 1) (h2 : 0 ≤ o ∧ o ≤ 15) (h3 : 0 ≤ v ∧ v ≤ 999)
    (hk : ∀ k : Nat, k ≠ 50 → k ≠ 55 → k ≠ 56 → k ≠ 57 → k ≠ 58 → w1 k = w k)
    (c0 : w1 50 = some (am 0, xO 12 [fR (am 1), fX (T 0 0), fX (T 0 1), fX ((T 0 3) + 1), fX (T 0 2), fX (T 0 4), fX (T 0 5), fR (am 2), fR (am 3), fR (am 4), fR (am 5), fR (am 6), fR (am 7), fR (am 8), fR (am 9), fR (am 10), fR (am 11), fR (am 12), fR (am 13), fR (am 14), fR (am 15), fR (am 16), fR (am 17), fX (E 0 0), fR (am 18), fR (am 19), fR (am 20), fR (am 21), fR (am 22), fR (am 23), fR (am 24), fR (am 25), fG 0 900, fG (-2147483648) 2147483647, fG 0 900, fG 0 900, fG 0 900, fG (-2147483648) 2147483647, fG (-2147483648) 2147483647, fG 0 24, fG 0 41, fG 0 319, fL, fG 0 1, fR (am 26), fG 0 48, fG 0 9, fR (am 27), fR (am 28), fR (am 29), fR (am 30), fR (am 31), fG (-2147483648) 2147483647, fG (-2147483648) 2147483647, fG 0 12, fG (-2147483648) 2147483647, fR (am 32), fG 0 1, fX (E 0 5), fG (-2147483648) 2147483647, fG (-2147483648) 2147483647, fR (am 33), fR (am 34), fR (am 35), fG (-2147483648) 2147483647, fG (-2147483648) 2147483647, fR (am 36), fR (am 37), fR (am 38), fX (T 0 10), fX (T 0 11), fX (T 0 12), fX (T 0 13), fR (am 39), fX (T 0 6), fR (am 40), fR (am 41), fR (am 42), fR (am 43), fR (am 44)]))
    (c5 : w1 55 = some (am 5, xAI (ca 0) 12 (gX 12 (iu (fun j => T 2 (j : Int)) sh v))))
    (c6 : w1 56 = some (am 6, xAI (ca 0) 60 (gX 60 (iu (fun j => T 21 (j : Int)) (T 0 3) sh))))
    (c7 : w1 57 = some (am 7, xAI (ca 0) 60 (gX 60 (iu (fun j => T 22 (j : Int)) (T 0 3) o))))
    (c8 : w1 58 = some (am 8, xAI (ca 0) 60 (gX 60 (iu (fun j => T 23 (j : Int)) (T 0 3) v)))) : MW ca (tSigns T sh o v) E am w1 := by
  rw [show iu (fun j => T 2 (j : Int)) sh v = (fun j : Nat => tSigns T sh o v 2 (j : Int)) from funext fun j => by unfold tSigns iu; (repeat' split) <;> first | rfl | omega] at c5
  rw [show iu (fun j => T 21 (j : Int)) (T 0 3) sh = (fun j : Nat => tSigns T sh o v 21 (j : Int)) from funext fun j => by unfold tSigns iu; (repeat' split) <;> first | rfl | omega] at c6
  rw [show iu (fun j => T 22 (j : Int)) (T 0 3) o = (fun j : Nat => tSigns T sh o v 22 (j : Int)) from funext fun j => by unfold tSigns iu; (repeat' split) <;> first | rfl | omega] at c7
  rw [show iu (fun j => T 23 (j : Int)) (T 0 3) v = (fun j : Nat => tSigns T sh o v 23 (j : Int)) from funext fun j => by unfold tSigns iu; (repeat' split) <;> first | rfl | omega] at c8
  refine ⟨pi_signs h.1 hn h1 h2 h3, h.2.1, fun k x hx => ?_⟩
  by_cases e0 : k = 0
  · subst e0; cases hx; exact c0
  · skip
    by_cases e5 : k = 5
    · subst e5; cases hx; exact c5
    · skip
      by_cases e6 : k = 6
      · subst e6; cases hx; exact c6
      · skip
        by_cases e7 : k = 7
        · subst e7; cases hx; exact c7
        · skip
          by_cases e8 : k = 8
          · subst e8; cases hx; exact c8
          · skip
            rw [hk (50 + k) (by omega) (by omega) (by omega) (by omega) (by omega)]
            refine h.f k x ?_
            rw [show mF ca (tSigns T sh o v) E am = (((((mF ca T E am).set 0 (am 0, mO am (tSigns T sh o v) (fX (E 0 0)) (fG 0 900) (fG (-2147483648) 2147483647) (fG 0 900) (fG 0 900) (fG 0 900) (fG (-2147483648) 2147483647) (fG (-2147483648) 2147483647) (fG 0 24) (fG 0 41) (fG 0 319) fL (fG 0 1) (fG 0 48) (fG 0 9) (fX (E 0 5)))).set 5 (am 5, xAI (ca 0) 12 (gX 12 (fun j => tSigns T sh o v 2 (j : Int))))).set 6 (am 6, xAI (ca 0) 60 (gX 60 (fun j => tSigns T sh o v 21 (j : Int))))).set 7 (am 7, xAI (ca 0) 60 (gX 60 (fun j => tSigns T sh o v 22 (j : Int))))).set 8 (am 8, xAI (ca 0) 60 (gX 60 (fun j => tSigns T sh o v 23 (j : Int)))) from rfl, List.getElem?_set_ne (Ne.symm e8), List.getElem?_set_ne (Ne.symm e7), List.getElem?_set_ne (Ne.symm e6), List.getElem?_set_ne (Ne.symm e5), List.getElem?_set_ne (Ne.symm e0)] at hx
            exact hx
set_option maxHeartbeats 4000000 in
theorem mw_read {ca : Nat → ClassId} {T E : Nat → Int → Int} {am : Nat → Nat} {w w1 : yW} {sh : Int} {v : Int} {sp : Int} {kd : Int} {nb : Int} (h : MW ca T E am w) (hn : T 0 2 < 300) (h1 : 0 ≤ sh ∧ sh < T 0 1) (h2 : 0 ≤ v ∧ v ≤ 999) (h3 : 0 ≤ sp ∧ sp ≤ 6399) (h4 : 0 ≤ kd ∧ kd ≤ 3) (h5 : 0 ≤ nb ∧ nb ≤ 99 ∧ (kd = 3 ∨ nb ≤ 12)) (h6 : ∀ k : Int, 0 ≤ k ∧ k < T 0 2 → ¬ (T 4 k = sh ∧ T 5 k = v))
    (hk : ∀ k : Nat, k ≠ 50 → k ≠ 59 → k ≠ 60 → k ≠ 61 → k ≠ 62 → k ≠ 63 → k ≠ 64 → k ≠ 65 → w1 k = w k)
    (c0 : w1 50 = some (am 0, xO 12 [fR (am 1), fX (T 0 0), fX (T 0 1), fX (T 0 3), fX ((T 0 2) + 1), fX (T 0 4), fX (T 0 5), fR (am 2), fR (am 3), fR (am 4), fR (am 5), fR (am 6), fR (am 7), fR (am 8), fR (am 9), fR (am 10), fR (am 11), fR (am 12), fR (am 13), fR (am 14), fR (am 15), fR (am 16), fR (am 17), fX (E 0 0), fR (am 18), fR (am 19), fR (am 20), fR (am 21), fR (am 22), fR (am 23), fR (am 24), fR (am 25), fG 0 900, fG (-2147483648) 2147483647, fG 0 900, fG 0 900, fG 0 900, fG (-2147483648) 2147483647, fG (-2147483648) 2147483647, fG 0 24, fG 0 41, fG 0 319, fL, fG 0 1, fR (am 26), fG 0 48, fG 0 9, fR (am 27), fR (am 28), fR (am 29), fR (am 30), fR (am 31), fG (-2147483648) 2147483647, fG (-2147483648) 2147483647, fG 0 12, fG (-2147483648) 2147483647, fR (am 32), fG 0 1, fX (E 0 5), fG (-2147483648) 2147483647, fG (-2147483648) 2147483647, fR (am 33), fR (am 34), fR (am 35), fG (-2147483648) 2147483647, fG (-2147483648) 2147483647, fR (am 36), fR (am 37), fR (am 38), fX (T 0 10), fX (T 0 11), fX (T 0 12), fX (T 0 13), fR (am 39), fX (T 0 6), fR (am 40), fR (am 41), fR (am 42), fR (am 43), fR (am 44)]))
    (c9 : w1 59 = some (am 9, xAI (ca 0) 300 (gX 300 (iu (fun j => T 4 (j : Int)) (T 0 2) sh))))
    (c10 : w1 60 = some (am 10, xAI (ca 0) 300 (gX 300 (iu (fun j => T 5 (j : Int)) (T 0 2) v))))
    (c11 : w1 61 = some (am 11, xAI (ca 0) 300 (gX 300 (iu (fun j => T 6 (j : Int)) (T 0 2) (sp / 100)))))
    (c12 : w1 62 = some (am 12, xAI (ca 0) 300 (gX 300 (iu (fun j => T 7 (j : Int)) (T 0 2) kd))))
    (c13 : w1 63 = some (am 13, xAI (ca 0) 300 (gX 300 (iu (fun j => T 8 (j : Int)) (T 0 2) nb))))
    (c14 : w1 64 = some (am 14, xAI (ca 0) 300 (gX 300 (iu (fun j => T 9 (j : Int)) (T 0 2) (sp / 10 % 10)))))
    (c15 : w1 65 = some (am 15, xAI (ca 0) 300 (gX 300 (iu (fun j => T 10 (j : Int)) (T 0 2) (sp % 10))))) : MW ca (tRead T sh v sp kd nb) E am w1 := by
  rw [show iu (fun j => T 4 (j : Int)) (T 0 2) sh = (fun j : Nat => tRead T sh v sp kd nb 4 (j : Int)) from funext fun j => by unfold tRead iu; (repeat' split) <;> first | rfl | omega] at c9
  rw [show iu (fun j => T 5 (j : Int)) (T 0 2) v = (fun j : Nat => tRead T sh v sp kd nb 5 (j : Int)) from funext fun j => by unfold tRead iu; (repeat' split) <;> first | rfl | omega] at c10
  rw [show iu (fun j => T 6 (j : Int)) (T 0 2) (sp / 100) = (fun j : Nat => tRead T sh v sp kd nb 6 (j : Int)) from funext fun j => by unfold tRead iu; (repeat' split) <;> first | rfl | omega] at c11
  rw [show iu (fun j => T 7 (j : Int)) (T 0 2) kd = (fun j : Nat => tRead T sh v sp kd nb 7 (j : Int)) from funext fun j => by unfold tRead iu; (repeat' split) <;> first | rfl | omega] at c12
  rw [show iu (fun j => T 8 (j : Int)) (T 0 2) nb = (fun j : Nat => tRead T sh v sp kd nb 8 (j : Int)) from funext fun j => by unfold tRead iu; (repeat' split) <;> first | rfl | omega] at c13
  rw [show iu (fun j => T 9 (j : Int)) (T 0 2) (sp / 10 % 10) = (fun j : Nat => tRead T sh v sp kd nb 9 (j : Int)) from funext fun j => by unfold tRead iu; (repeat' split) <;> first | rfl | omega] at c14
  rw [show iu (fun j => T 10 (j : Int)) (T 0 2) (sp % 10) = (fun j : Nat => tRead T sh v sp kd nb 10 (j : Int)) from funext fun j => by unfold tRead iu; (repeat' split) <;> first | rfl | omega] at c15
  refine ⟨pi_read h.1 hn h1 h2 h3 h4 h5 h6, h.2.1, fun k x hx => ?_⟩
  by_cases e0 : k = 0
  · subst e0; cases hx; exact c0
  · skip
    by_cases e9 : k = 9
    · subst e9; cases hx; exact c9
    · skip
      by_cases e10 : k = 10
      · subst e10; cases hx; exact c10
      · skip
        by_cases e11 : k = 11
        · subst e11; cases hx; exact c11
        · skip
          by_cases e12 : k = 12
          · subst e12; cases hx; exact c12
          · skip
            by_cases e13 : k = 13
            · subst e13; cases hx; exact c13
            · skip
              by_cases e14 : k = 14
              · subst e14; cases hx; exact c14
              · skip
                by_cases e15 : k = 15
                · subst e15; cases hx; exact c15
                · skip
                  rw [hk (50 + k) (by omega) (by omega) (by omega) (by omega) (by omega) (by omega) (by omega) (by omega)]
                  refine h.f k x ?_
                  rw [show mF ca (tRead T sh v sp kd nb) E am = ((((((((mF ca T E am).set 0 (am 0, mO am (tRead T sh v sp kd nb) (fX (E 0 0)) (fG 0 900) (fG (-2147483648) 2147483647) (fG 0 900) (fG 0 900) (fG 0 900) (fG (-2147483648) 2147483647) (fG (-2147483648) 2147483647) (fG 0 24) (fG 0 41) (fG 0 319) fL (fG 0 1) (fG 0 48) (fG 0 9) (fX (E 0 5)))).set 9 (am 9, xAI (ca 0) 300 (gX 300 (fun j => tRead T sh v sp kd nb 4 (j : Int))))).set 10 (am 10, xAI (ca 0) 300 (gX 300 (fun j => tRead T sh v sp kd nb 5 (j : Int))))).set 11 (am 11, xAI (ca 0) 300 (gX 300 (fun j => tRead T sh v sp kd nb 6 (j : Int))))).set 12 (am 12, xAI (ca 0) 300 (gX 300 (fun j => tRead T sh v sp kd nb 7 (j : Int))))).set 13 (am 13, xAI (ca 0) 300 (gX 300 (fun j => tRead T sh v sp kd nb 8 (j : Int))))).set 14 (am 14, xAI (ca 0) 300 (gX 300 (fun j => tRead T sh v sp kd nb 9 (j : Int))))).set 15 (am 15, xAI (ca 0) 300 (gX 300 (fun j => tRead T sh v sp kd nb 10 (j : Int)))) from rfl, List.getElem?_set_ne (Ne.symm e15), List.getElem?_set_ne (Ne.symm e14), List.getElem?_set_ne (Ne.symm e13), List.getElem?_set_ne (Ne.symm e12), List.getElem?_set_ne (Ne.symm e11), List.getElem?_set_ne (Ne.symm e10), List.getElem?_set_ne (Ne.symm e9), List.getElem?_set_ne (Ne.symm e0)] at hx
                  exact hx
set_option maxHeartbeats 4000000 in
theorem mw_image {ca : Nat → ClassId} {T E : Nat → Int → Int} {am : Nat → Nat} {w w1 : yW}  (h : MW ca T E am w) (hn : T 0 6 < 4)
    (hk : ∀ k : Nat, k ≠ 50 → k ≠ 90 → k ≠ 91 → k ≠ 92 → k ≠ 93 → w1 k = w k)
    (c0 : w1 50 = some (am 0, xO 12 [fR (am 1), fX (T 0 0), fX (T 0 1), fX (T 0 3), fX (T 0 2), fX (T 0 4), fX (T 0 5), fR (am 2), fR (am 3), fR (am 4), fR (am 5), fR (am 6), fR (am 7), fR (am 8), fR (am 9), fR (am 10), fR (am 11), fR (am 12), fR (am 13), fR (am 14), fR (am 15), fR (am 16), fR (am 17), fX (E 0 0), fR (am 18), fR (am 19), fR (am 20), fR (am 21), fR (am 22), fR (am 23), fR (am 24), fR (am 25), fG 0 900, fG (-2147483648) 2147483647, fG 0 900, fG 0 900, fG 0 900, fG (-2147483648) 2147483647, fG (-2147483648) 2147483647, fG 0 24, fG 0 41, fG 0 319, fL, fG 0 1, fR (am 26), fG 0 48, fG 0 9, fR (am 27), fR (am 28), fR (am 29), fR (am 30), fR (am 31), fG (-2147483648) 2147483647, fG (-2147483648) 2147483647, fG 0 12, fG (-2147483648) 2147483647, fR (am 32), fG 0 1, fX (E 0 5), fG (-2147483648) 2147483647, fG (-2147483648) 2147483647, fR (am 33), fR (am 34), fR (am 35), fG (-2147483648) 2147483647, fG (-2147483648) 2147483647, fR (am 36), fR (am 37), fR (am 38), fX (T 0 10), fX (T 0 11), fX (T 0 12), fX (T 0 13), fR (am 39), fX ((T 0 6) + 1), fR (am 40), fR (am 41), fR (am 42), fR (am 43), fR (am 44)]))
    (c40 : w1 90 = some (am 40, xAI (ca 0) 4 (gX 4 (iu (fun j => T 11 (j : Int)) (T 0 6) (T 0 2)))))
    (c41 : w1 91 = some (am 41, xAI (ca 0) 4 (gX 4 (iu (fun j => T 12 (j : Int)) (T 0 6) (T 0 0)))))
    (c42 : w1 92 = some (am 42, xAI (ca 0) 4 (gX 4 (iu (fun j => T 13 (j : Int)) (T 0 6) (T 0 4)))))
    (c43 : w1 93 = some (am 43, xAI (ca 0) 4 (gX 4 (iu (fun j => T 14 (j : Int)) (T 0 6) (T 0 5))))) : MW ca (tImage T) E am w1 := by
  rw [show iu (fun j => T 11 (j : Int)) (T 0 6) (T 0 2) = (fun j : Nat => tImage T 11 (j : Int)) from funext fun j => by unfold tImage iu; (repeat' split) <;> first | rfl | omega] at c40
  rw [show iu (fun j => T 12 (j : Int)) (T 0 6) (T 0 0) = (fun j : Nat => tImage T 12 (j : Int)) from funext fun j => by unfold tImage iu; (repeat' split) <;> first | rfl | omega] at c41
  rw [show iu (fun j => T 13 (j : Int)) (T 0 6) (T 0 4) = (fun j : Nat => tImage T 13 (j : Int)) from funext fun j => by unfold tImage iu; (repeat' split) <;> first | rfl | omega] at c42
  rw [show iu (fun j => T 14 (j : Int)) (T 0 6) (T 0 5) = (fun j : Nat => tImage T 14 (j : Int)) from funext fun j => by unfold tImage iu; (repeat' split) <;> first | rfl | omega] at c43
  refine ⟨pi_image h.1 hn, h.2.1, fun k x hx => ?_⟩
  by_cases e0 : k = 0
  · subst e0; cases hx; exact c0
  · skip
    by_cases e40 : k = 40
    · subst e40; cases hx; exact c40
    · skip
      by_cases e41 : k = 41
      · subst e41; cases hx; exact c41
      · skip
        by_cases e42 : k = 42
        · subst e42; cases hx; exact c42
        · skip
          by_cases e43 : k = 43
          · subst e43; cases hx; exact c43
          · skip
            rw [hk (50 + k) (by omega) (by omega) (by omega) (by omega) (by omega)]
            refine h.f k x ?_
            rw [show mF ca (tImage T) E am = (((((mF ca T E am).set 0 (am 0, mO am (tImage T) (fX (E 0 0)) (fG 0 900) (fG (-2147483648) 2147483647) (fG 0 900) (fG 0 900) (fG 0 900) (fG (-2147483648) 2147483647) (fG (-2147483648) 2147483647) (fG 0 24) (fG 0 41) (fG 0 319) fL (fG 0 1) (fG 0 48) (fG 0 9) (fX (E 0 5)))).set 40 (am 40, xAI (ca 0) 4 (gX 4 (fun j => tImage T 11 (j : Int))))).set 41 (am 41, xAI (ca 0) 4 (gX 4 (fun j => tImage T 12 (j : Int))))).set 42 (am 42, xAI (ca 0) 4 (gX 4 (fun j => tImage T 13 (j : Int))))).set 43 (am 43, xAI (ca 0) 4 (gX 4 (fun j => tImage T 14 (j : Int)))) from rfl, List.getElem?_set_ne (Ne.symm e43), List.getElem?_set_ne (Ne.symm e42), List.getElem?_set_ne (Ne.symm e41), List.getElem?_set_ne (Ne.symm e40), List.getElem?_set_ne (Ne.symm e0)] at hx
            exact hx
set_option maxHeartbeats 4000000 in
theorem mw_back {ca : Nat → ClassId} {T E : Nat → Int → Int} {am : Nat → Nat} {w w1 : yW} {im : Int} (h : MW ca T E am w) (h1 : T 11 im ≤ T 0 2)
    (hk : ∀ k : Nat, k ≠ 50 → w1 k = w k)
    (c0 : w1 50 = some (am 0, xO 12 [fR (am 1), fX (T 0 0), fX (T 0 1), fX (T 0 3), fX (T 11 im), fX (T 13 im), fX (T 14 im), fR (am 2), fR (am 3), fR (am 4), fR (am 5), fR (am 6), fR (am 7), fR (am 8), fR (am 9), fR (am 10), fR (am 11), fR (am 12), fR (am 13), fR (am 14), fR (am 15), fR (am 16), fR (am 17), fX (E 0 0), fR (am 18), fR (am 19), fR (am 20), fR (am 21), fR (am 22), fR (am 23), fR (am 24), fR (am 25), fG 0 900, fG (-2147483648) 2147483647, fG 0 900, fG 0 900, fG 0 900, fG (-2147483648) 2147483647, fG (-2147483648) 2147483647, fG 0 24, fG 0 41, fG 0 319, fL, fG 0 1, fR (am 26), fG 0 48, fG 0 9, fR (am 27), fR (am 28), fR (am 29), fR (am 30), fR (am 31), fG (-2147483648) 2147483647, fG (-2147483648) 2147483647, fG 0 12, fG (-2147483648) 2147483647, fR (am 32), fG 0 1, fX (E 0 5), fG (-2147483648) 2147483647, fG (-2147483648) 2147483647, fR (am 33), fR (am 34), fR (am 35), fG (-2147483648) 2147483647, fG (-2147483648) 2147483647, fR (am 36), fR (am 37), fR (am 38), fX (T 0 10), fX (T 0 11), fX (T 0 12), fX (T 0 13), fR (am 39), fX (T 0 6), fR (am 40), fR (am 41), fR (am 42), fR (am 43), fR (am 44)])) : MW ca (tBack T im) E am w1 := by
  refine ⟨pi_back h.1 h1, h.2.1, fun k x hx => ?_⟩
  by_cases e0 : k = 0
  · subst e0; cases hx; exact c0
  · skip
    rw [hk (50 + k) (by omega)]
    refine h.f k x ?_
    rw [show mF ca (tBack T im) E am = (mF ca T E am).set 0 (am 0, mO am (tBack T im) (fX (E 0 0)) (fG 0 900) (fG (-2147483648) 2147483647) (fG 0 900) (fG 0 900) (fG 0 900) (fG (-2147483648) 2147483647) (fG (-2147483648) 2147483647) (fG 0 24) (fG 0 41) (fG 0 319) fL (fG 0 1) (fG 0 48) (fG 0 9) (fX (E 0 5))) from rfl, List.getElem?_set_ne (Ne.symm e0)] at hx
    exact hx

abbrev r_c_X12_officer : Room := { frames := 1, cells := 0, slots := 0, locals := 21 }
set_option maxHeartbeats 4000000 in
set_option maxRecDepth 100000 in
theorem c_X12_officer (l : Launch) (D : va_G) (Zk : yK) (ca : Nat → ClassId) (T : Nat → Int → Int) (E : Nat → Int → Int) (am : Nat → Nat) (w : yW) (hM : MW ca T E am w)    : yC l D Zk ca yX12_officer cX12_officer 1 (some .int) r_c_X12_officer [.ref (am 0)] w (fun r w1 => ∃ z : Int, r = some (.int (iI z)) ∧ ((T 0 0 < 16 ∧ z = T 0 0 ∧ MW ca (tOff T) E am w1 ∧ AGM w w1) ∨ (T 0 0 = 16 ∧ z = -1 ∧ w1 = w))) := by
  refine yC.of2 "WindWordsModel" (by decide) rfl (Nat.le_of_ble_eq_true rfl) ?_
  intro p e s m args below meth c A ls Qf B hnm h hl hQ
  have hl : lv_has ls 1 [(0, .ref (am 0))] := hl
  have hs := pi_s (MW.pi hM)
  have hpe := pe_0 (MW.pe hM)
  refine lv_aload_n B.1 B.2.1 dX12_officer_0 rfl (lv_at hl 0 rfl) ?_
  refine y_getX B h kX12 50 (MW.f hM 0 _ rfl) 1 (z := (T 0 0)) rfl m_1262 (by decide) dX12_officer_1 ?_
  refine x_bipush B (by decide) dX12_officer_4 ?_
  refine x_icmp_ne B (by omega) (tgt := 15) dX12_officer_6 (by decide) (fun c1 => ?_) (fun c1 => ?_)
  · refine lv_aload_n B.1 B.2.1 dX12_officer_15 rfl (lv_at hl 0 rfl) ?_
    refine y_getR B h kX12 50 (MW.f hM 0 _ rfl) 7 (b := am 2) rfl m_1268 (by decide) dX12_officer_16 ?_
    refine lv_aload_n B.1 B.2.1 dX12_officer_19 rfl (lv_at hl 0 rfl) ?_
    refine y_getX B h kX12 50 (MW.f hM 0 _ rfl) 1 (z := (T 0 0)) rfl m_1262 (by decide) dX12_officer_20 ?_
    refine x_iconst B dX12_officer_23 ?_
    refine y_zastS B h 52 (MW.f hM 2 _ rfl) (by omega) (gG_updZ (by omega)) dX12_officer_24 (fun H locs h => ?_)
    refine lv_aload_n B.1 B.2.1 dX12_officer_25 rfl (lv_at hl 0 rfl) ?_
    refine lv_dup B.1 B.2.1 dX12_officer_26 rfl ?_
    refine y_getX B h kX12 50 (MW.f hM 0 _ rfl) 1 (z := (T 0 0)) rfl m_1262 (by decide) dX12_officer_27 ?_
    refine x_iconst B dX12_officer_30 ?_
    refine x_iadd B dX12_officer_31 ?_
    refine y_put B h kX12 50 (MW.f hM 0 _ rfl) 1 (Nat.le_of_ble_eq_true rfl) (P' := fX ((T 0 0) + 1)) m_1262 (by decide) rfl rfl rfl rfl dX12_officer_32 (fun H locs h => ?_)
    have h : yH D Zk A s ((wu w 50 (am 0, xO 12 [fR (am 1), fX ((T 0 0) + 1), fX (T 0 1), fX (T 0 3), fX (T 0 2), fX (T 0 4), fX (T 0 5), fR (am 2), fR (am 3), fR (am 4), fR (am 5), fR (am 6), fR (am 7), fR (am 8), fR (am 9), fR (am 10), fR (am 11), fR (am 12), fR (am 13), fR (am 14), fR (am 15), fR (am 16), fR (am 17), fX (E 0 0), fR (am 18), fR (am 19), fR (am 20), fR (am 21), fR (am 22), fR (am 23), fR (am 24), fR (am 25), fG 0 900, fG (-2147483648) 2147483647, fG 0 900, fG 0 900, fG 0 900, fG (-2147483648) 2147483647, fG (-2147483648) 2147483647, fG 0 24, fG 0 41, fG 0 319, fL, fG 0 1, fR (am 26), fG 0 48, fG 0 9, fR (am 27), fR (am 28), fR (am 29), fR (am 30), fR (am 31), fG (-2147483648) 2147483647, fG (-2147483648) 2147483647, fG 0 12, fG (-2147483648) 2147483647, fR (am 32), fG 0 1, fX (E 0 5), fG (-2147483648) 2147483647, fG (-2147483648) 2147483647, fR (am 33), fR (am 34), fR (am 35), fG (-2147483648) 2147483647, fG (-2147483648) 2147483647, fR (am 36), fR (am 37), fR (am 38), fX (T 0 10), fX (T 0 11), fX (T 0 12), fX (T 0 13), fR (am 39), fX (T 0 6), fR (am 40), fR (am 41), fR (am 42), fR (am 43), fR (am 44)]))) _ _ := h
    refine lv_aload_n B.1 B.2.1 dX12_officer_35 rfl (lv_at hl 0 rfl) ?_
    refine y_getX B h kX12 50 wu_eq 1 (z := ((T 0 0) + 1)) rfl m_1262 (by decide) dX12_officer_36 ?_
    refine x_iconst B dX12_officer_39 ?_
    refine x_isub B dX12_officer_40 ?_
    refine y_ri B hQ h (by decide) dX12_officer_41 ?_
    exact ⟨_, rfl, Or.inl ⟨by omega, by omega, mw_off hM (by omega) (fun k k0 => by rw [wu_ne (by omega)]) wu_eq, fun k h1 => by rw [wu_ne (by omega)]⟩⟩
  · refine lv_aload_n B.1 B.2.1 dX12_officer_9 rfl (lv_at hl 0 rfl) ?_
    refine x_iconst B dX12_officer_10 ?_
    refine y_cV B h kX12 50 (MW.f hM 0 _ rfl) k_X12_refuse rfl (c_X12_refuse l D Zk ca T E am _ hM 1  (by omega)) m_1507 rfl (by decide) hl.1 [] (Nat.le_of_ble_eq_true rfl) rfl dX12_officer_11 (fun r w1 hq H locs h => ?_)
    obtain ⟨rfl, z2, rfl, hz2⟩ := hq
    show W p l e r_c_X12_officer s m args below meth c _ _ 0 0 Qf (F0 m 14 ls [.int (iI z2)])
    refine y_ri B hQ h (by decide) dX12_officer_14 ?_
    exact ⟨_, rfl, Or.inr ⟨by omega, by omega, rfl⟩⟩
abbrev r_c_X12_ship : Room := { frames := 1, cells := 0, slots := 0, locals := 22 }
set_option maxHeartbeats 4000000 in
set_option maxRecDepth 100000 in
theorem c_X12_ship (l : Launch) (D : va_G) (Zk : yK) (ca : Nat → ClassId) (T : Nat → Int → Int) (E : Nat → Int → Int) (am : Nat → Nat) (w : yW) (hM : MW ca T E am w) (rg : Int) (ofc : Int)  (hrg : xr rg) (hofc : xr ofc) : yC l D Zk ca yX12_ship cX12_ship 3 (some .int) r_c_X12_ship [.ref (am 0), .int (iI rg), .int (iI ofc)] w (fun r w1 => ∃ z : Int, r = some (.int (iI z)) ∧ ((((0 ≤ rg ∧ rg ≤ 3) ∧ 0 ≤ ofc ∧ ofc < T 0 0) ∧ T 0 1 < 12 ∧ z = T 0 1 ∧ MW ca (tShip T rg ofc) E am w1 ∧ AGM w w1) ∨ (¬ (((0 ≤ rg ∧ rg ≤ 3) ∧ 0 ≤ ofc ∧ ofc < T 0 0) ∧ T 0 1 < 12) ∧ z = -1 ∧ w1 = w))) := by
  refine yC.of2 "WindWordsModel" (by decide) rfl (Nat.le_of_ble_eq_true rfl) ?_
  intro p e s m args below meth c A ls Qf B hnm h hl hQ
  have hl : lv_has ls 3 [(0, .ref (am 0)), (1, .int (iI rg)), (2, .int (iI ofc))] := hl
  have hs := pi_s (MW.pi hM)
  have hpe := pe_0 (MW.pe hM)
  refine lv_iload_n B.1 B.2.1 dX12_ship_0 rfl (lv_at hl 1 rfl) ?_
  refine x_iconst B dX12_ship_1 ?_
  refine x_iconst B dX12_ship_2 ?_
  refine y_cS B h k_X12_within (c_X12_within l D Zk ca _ rg 0 3  (by omega) (by omega) (by omega)) m_1515 rfl (by decide) hl.1 [] (Nat.le_of_ble_eq_true rfl) rfl dX12_ship_3 (fun r w1 hq H locs h => ?_)
  obtain ⟨rfl, _, rfl, ⟨rfl, b1⟩ | ⟨rfl, b1⟩⟩ := hq
  · show W p l e r_c_X12_ship s m args below meth c _ _ 0 0 Qf (F0 m 6 ls [.int (iI 1)])
    refine x_if_eq B (by omega) (tgt := 17) dX12_ship_6 (by decide) (fun c2 => ?_) (fun c2 => ?_)
    · exact absurd c2 (by omega)
    · refine lv_aload_n B.1 B.2.1 dX12_ship_9 rfl (lv_at hl 0 rfl) ?_
      refine lv_iload_n B.1 B.2.1 dX12_ship_10 rfl (lv_at hl 2 rfl) ?_
      refine y_cV B h kX12 50 (MW.f hM 0 _ rfl) k_X12_isOfficer rfl (c_X12_isOfficer l D Zk ca T E am _ hM ofc  (by omega)) m_1518 rfl (by decide) hl.1 [] (Nat.le_of_ble_eq_true rfl) rfl dX12_ship_11 (fun r w1 hq H locs h => ?_)
      obtain ⟨rfl, _, rfl, ⟨rfl, b3⟩ | ⟨rfl, b3⟩⟩ := hq
      · show W p l e r_c_X12_ship s m args below meth c _ _ 0 0 Qf (F0 m 14 ls [.int (iI 1)])
        refine x_if_ne B (by omega) (tgt := 23) dX12_ship_14 (by decide) (fun c4 => ?_) (fun c4 => ?_)
        · refine lv_aload_n B.1 B.2.1 dX12_ship_23 rfl (lv_at hl 0 rfl) ?_
          refine y_getX B h kX12 50 (MW.f hM 0 _ rfl) 2 (z := (T 0 1)) rfl m_1263 (by decide) dX12_ship_24 ?_
          refine x_bipush B (by decide) dX12_ship_27 ?_
          refine x_icmp_ne B (by omega) (tgt := 38) dX12_ship_29 (by decide) (fun c5 => ?_) (fun c5 => ?_)
          · refine lv_aload_n B.1 B.2.1 dX12_ship_38 rfl (lv_at hl 0 rfl) ?_
            refine y_getR B h kX12 50 (MW.f hM 0 _ rfl) 8 (b := am 3) rfl m_1269 (by decide) dX12_ship_39 ?_
            refine lv_aload_n B.1 B.2.1 dX12_ship_42 rfl (lv_at hl 0 rfl) ?_
            refine y_getX B h kX12 50 (MW.f hM 0 _ rfl) 2 (z := (T 0 1)) rfl m_1263 (by decide) dX12_ship_43 ?_
            refine lv_iload_n B.1 B.2.1 dX12_ship_46 rfl (lv_at hl 1 rfl) ?_
            refine y_iast B h 53 (MW.f hM 3 _ rfl) (by omega) (P' := gX 12 (iu (fun j => T 1 (j : Int)) (T 0 1) rg)) (gX_upd (by omega)) dX12_ship_47 (fun H locs h => ?_)
            have h : yH D Zk A s ((wu w 53 (am 3, xAI (ca 0) 12 (gX 12 (iu (fun j => T 1 (j : Int)) (T 0 1) rg))))) _ _ := h
            refine lv_aload_n B.1 B.2.1 dX12_ship_48 rfl (lv_at hl 0 rfl) ?_
            refine y_getR B h kX12 50 (wu_at (MW.f hM 0 _ rfl) (by decide)) 9 (b := am 4) rfl m_1270 (by decide) dX12_ship_49 ?_
            refine lv_aload_n B.1 B.2.1 dX12_ship_52 rfl (lv_at hl 0 rfl) ?_
            refine y_getX B h kX12 50 (wu_at (MW.f hM 0 _ rfl) (by decide)) 2 (z := (T 0 1)) rfl m_1263 (by decide) dX12_ship_53 ?_
            refine lv_iload_n B.1 B.2.1 dX12_ship_56 rfl (lv_at hl 2 rfl) ?_
            refine y_iast B h 54 (wu_at (MW.f hM 4 _ rfl) (by decide)) (by omega) (P' := gX 12 (iu (fun j => T 20 (j : Int)) (T 0 1) ofc)) (gX_upd (by omega)) dX12_ship_57 (fun H locs h => ?_)
            have h : yH D Zk A s ((wu (wu w 53 (am 3, xAI (ca 0) 12 (gX 12 (iu (fun j => T 1 (j : Int)) (T 0 1) rg)))) 54 (am 4, xAI (ca 0) 12 (gX 12 (iu (fun j => T 20 (j : Int)) (T 0 1) ofc))))) _ _ := h
            refine lv_aload_n B.1 B.2.1 dX12_ship_58 rfl (lv_at hl 0 rfl) ?_
            refine y_getR B h kX12 50 (wu_at (wu_at (MW.f hM 0 _ rfl) (by decide)) (by decide)) 10 (b := am 5) rfl m_1271 (by decide) dX12_ship_59 ?_
            refine lv_aload_n B.1 B.2.1 dX12_ship_62 rfl (lv_at hl 0 rfl) ?_
            refine y_getX B h kX12 50 (wu_at (wu_at (MW.f hM 0 _ rfl) (by decide)) (by decide)) 2 (z := (T 0 1)) rfl m_1263 (by decide) dX12_ship_63 ?_
            refine x_iconst B dX12_ship_66 ?_
            refine y_iast B h 55 (wu_at (wu_at (MW.f hM 5 _ rfl) (by decide)) (by decide)) (by omega) (P' := gX 12 (iu (fun j => T 2 (j : Int)) (T 0 1) 0)) (gX_upd (by omega)) dX12_ship_67 (fun H locs h => ?_)
            have h : yH D Zk A s ((wu (wu (wu w 53 (am 3, xAI (ca 0) 12 (gX 12 (iu (fun j => T 1 (j : Int)) (T 0 1) rg)))) 54 (am 4, xAI (ca 0) 12 (gX 12 (iu (fun j => T 20 (j : Int)) (T 0 1) ofc)))) 55 (am 5, xAI (ca 0) 12 (gX 12 (iu (fun j => T 2 (j : Int)) (T 0 1) 0))))) _ _ := h
            refine lv_aload_n B.1 B.2.1 dX12_ship_68 rfl (lv_at hl 0 rfl) ?_
            refine lv_dup B.1 B.2.1 dX12_ship_69 rfl ?_
            refine y_getX B h kX12 50 (wu_at (wu_at (wu_at (MW.f hM 0 _ rfl) (by decide)) (by decide)) (by decide)) 2 (z := (T 0 1)) rfl m_1263 (by decide) dX12_ship_70 ?_
            refine x_iconst B dX12_ship_73 ?_
            refine x_iadd B dX12_ship_74 ?_
            refine y_put B h kX12 50 (wu_at (wu_at (wu_at (MW.f hM 0 _ rfl) (by decide)) (by decide)) (by decide)) 2 (Nat.le_of_ble_eq_true rfl) (P' := fX ((T 0 1) + 1)) m_1263 (by decide) rfl rfl rfl rfl dX12_ship_75 (fun H locs h => ?_)
            have h : yH D Zk A s ((wu (wu (wu (wu w 53 (am 3, xAI (ca 0) 12 (gX 12 (iu (fun j => T 1 (j : Int)) (T 0 1) rg)))) 54 (am 4, xAI (ca 0) 12 (gX 12 (iu (fun j => T 20 (j : Int)) (T 0 1) ofc)))) 55 (am 5, xAI (ca 0) 12 (gX 12 (iu (fun j => T 2 (j : Int)) (T 0 1) 0)))) 50 (am 0, xO 12 [fR (am 1), fX (T 0 0), fX ((T 0 1) + 1), fX (T 0 3), fX (T 0 2), fX (T 0 4), fX (T 0 5), fR (am 2), fR (am 3), fR (am 4), fR (am 5), fR (am 6), fR (am 7), fR (am 8), fR (am 9), fR (am 10), fR (am 11), fR (am 12), fR (am 13), fR (am 14), fR (am 15), fR (am 16), fR (am 17), fX (E 0 0), fR (am 18), fR (am 19), fR (am 20), fR (am 21), fR (am 22), fR (am 23), fR (am 24), fR (am 25), fG 0 900, fG (-2147483648) 2147483647, fG 0 900, fG 0 900, fG 0 900, fG (-2147483648) 2147483647, fG (-2147483648) 2147483647, fG 0 24, fG 0 41, fG 0 319, fL, fG 0 1, fR (am 26), fG 0 48, fG 0 9, fR (am 27), fR (am 28), fR (am 29), fR (am 30), fR (am 31), fG (-2147483648) 2147483647, fG (-2147483648) 2147483647, fG 0 12, fG (-2147483648) 2147483647, fR (am 32), fG 0 1, fX (E 0 5), fG (-2147483648) 2147483647, fG (-2147483648) 2147483647, fR (am 33), fR (am 34), fR (am 35), fG (-2147483648) 2147483647, fG (-2147483648) 2147483647, fR (am 36), fR (am 37), fR (am 38), fX (T 0 10), fX (T 0 11), fX (T 0 12), fX (T 0 13), fR (am 39), fX (T 0 6), fR (am 40), fR (am 41), fR (am 42), fR (am 43), fR (am 44)]))) _ _ := h
            refine lv_aload_n B.1 B.2.1 dX12_ship_78 rfl (lv_at hl 0 rfl) ?_
            refine y_getX B h kX12 50 wu_eq 2 (z := ((T 0 1) + 1)) rfl m_1263 (by decide) dX12_ship_79 ?_
            refine x_iconst B dX12_ship_82 ?_
            refine x_isub B dX12_ship_83 ?_
            refine y_ri B hQ h (by decide) dX12_ship_84 ?_
            exact ⟨_, rfl, Or.inl ⟨by omega, by omega, by omega, mw_ship hM (by omega) (by omega) (by omega) (fun k k0 k1 k2 k3 => by rw [wu_ne (by omega), wu_ne (by omega), wu_ne (by omega), wu_ne (by omega)]) wu_eq (wu_at (wu_at (wu_at wu_eq (by decide)) (by decide)) (by decide)) (wu_at (wu_at wu_eq (by decide)) (by decide)) (wu_at wu_eq (by decide)), fun k h1 => by rw [wu_ne (by omega), wu_ne (by omega), wu_ne (by omega), wu_ne (by omega)]⟩⟩
          · refine lv_aload_n B.1 B.2.1 dX12_ship_32 rfl (lv_at hl 0 rfl) ?_
            refine x_iconst B dX12_ship_33 ?_
            refine y_cV B h kX12 50 (MW.f hM 0 _ rfl) k_X12_refuse rfl (c_X12_refuse l D Zk ca T E am _ hM 1  (by omega)) m_1507 rfl (by decide) hl.1 [] (Nat.le_of_ble_eq_true rfl) rfl dX12_ship_34 (fun r w1 hq H locs h => ?_)
            obtain ⟨rfl, z6, rfl, hz6⟩ := hq
            show W p l e r_c_X12_ship s m args below meth c _ _ 0 0 Qf (F0 m 37 ls [.int (iI z6)])
            refine y_ri B hQ h (by decide) dX12_ship_37 ?_
            exact ⟨_, rfl, Or.inr ⟨by omega, by omega, rfl⟩⟩
        · exact absurd c4 (by omega)
      · show W p l e r_c_X12_ship s m args below meth c _ _ 0 0 Qf (F0 m 14 ls [.int (iI 0)])
        refine x_if_ne B (by omega) (tgt := 23) dX12_ship_14 (by decide) (fun c7 => ?_) (fun c7 => ?_)
        · exact absurd c7 (by omega)
        · refine lv_aload_n B.1 B.2.1 dX12_ship_17 rfl (lv_at hl 0 rfl) ?_
          refine x_iconst B dX12_ship_18 ?_
          refine y_cV B h kX12 50 (MW.f hM 0 _ rfl) k_X12_refuse rfl (c_X12_refuse l D Zk ca T E am _ hM 0  (by omega)) m_1507 rfl (by decide) hl.1 [] (Nat.le_of_ble_eq_true rfl) rfl dX12_ship_19 (fun r w1 hq H locs h => ?_)
          obtain ⟨rfl, z8, rfl, hz8⟩ := hq
          show W p l e r_c_X12_ship s m args below meth c _ _ 0 0 Qf (F0 m 22 ls [.int (iI z8)])
          refine y_ri B hQ h (by decide) dX12_ship_22 ?_
          exact ⟨_, rfl, Or.inr ⟨by omega, by omega, rfl⟩⟩
  · show W p l e r_c_X12_ship s m args below meth c _ _ 0 0 Qf (F0 m 6 ls [.int (iI 0)])
    refine x_if_eq B (by omega) (tgt := 17) dX12_ship_6 (by decide) (fun c9 => ?_) (fun c9 => ?_)
    · refine lv_aload_n B.1 B.2.1 dX12_ship_17 rfl (lv_at hl 0 rfl) ?_
      refine x_iconst B dX12_ship_18 ?_
      refine y_cV B h kX12 50 (MW.f hM 0 _ rfl) k_X12_refuse rfl (c_X12_refuse l D Zk ca T E am _ hM 0  (by omega)) m_1507 rfl (by decide) hl.1 [] (Nat.le_of_ble_eq_true rfl) rfl dX12_ship_19 (fun r w1 hq H locs h => ?_)
      obtain ⟨rfl, z10, rfl, hz10⟩ := hq
      show W p l e r_c_X12_ship s m args below meth c _ _ 0 0 Qf (F0 m 22 ls [.int (iI z10)])
      refine y_ri B hQ h (by decide) dX12_ship_22 ?_
      exact ⟨_, rfl, Or.inr ⟨by omega, by omega, rfl⟩⟩
    · exact absurd c9 (by omega)
abbrev r_c_X12_signs : Room := { frames := 1, cells := 0, slots := 0, locals := 21 }
set_option maxHeartbeats 4000000 in
set_option maxRecDepth 100000 in
theorem c_X12_signs (l : Launch) (D : va_G) (Zk : yK) (ca : Nat → ClassId) (T : Nat → Int → Int) (E : Nat → Int → Int) (am : Nat → Nat) (w : yW) (hM : MW ca T E am w) (sh : Int) (o : Int) (v : Int)  (hsh : xr sh) (ho : xr o) (hv : xr v) : yC l D Zk ca yX12_signs cX12_signs 4 (some .int) r_c_X12_signs [.ref (am 0), .int (iI sh), .int (iI o), .int (iI v)] w (fun r w1 => ∃ z : Int, r = some (.int (iI z)) ∧ ((((0 ≤ sh ∧ sh < T 0 1) ∧ (0 ≤ o ∧ o < T 0 0) ∧ T 2 sh < v ∧ v ≤ 999) ∧ T 0 3 < 60 ∧ z = T 0 3 + 1 ∧ MW ca (tSigns T sh o v) E am w1 ∧ AGM w w1) ∨ (¬ (((0 ≤ sh ∧ sh < T 0 1) ∧ (0 ≤ o ∧ o < T 0 0) ∧ T 2 sh < v ∧ v ≤ 999) ∧ T 0 3 < 60) ∧ z = -1 ∧ w1 = w))) := by
  refine yC.of2 "WindWordsModel" (by decide) rfl (Nat.le_of_ble_eq_true rfl) ?_
  intro p e s m args below meth c A ls Qf B hnm h hl hQ
  have hl : lv_has ls 4 [(0, .ref (am 0)), (1, .int (iI sh)), (2, .int (iI o)), (3, .int (iI v))] := hl
  have hs := pi_s (MW.pi hM)
  have hpe := pe_0 (MW.pe hM)
  refine lv_aload_n B.1 B.2.1 dX12_signs_0 rfl (lv_at hl 0 rfl) ?_
  refine lv_iload_n B.1 B.2.1 dX12_signs_1 rfl (lv_at hl 1 rfl) ?_
  refine y_cV B h kX12 50 (MW.f hM 0 _ rfl) k_X12_isShip rfl (c_X12_isShip l D Zk ca T E am _ hM sh  (by omega)) m_1526 rfl (by decide) hl.1 [] (Nat.le_of_ble_eq_true rfl) rfl dX12_signs_2 (fun r w1 hq H locs h => ?_)
  obtain ⟨rfl, _, rfl, ⟨rfl, b1⟩ | ⟨rfl, b1⟩⟩ := hq
  · show W p l e r_c_X12_signs s m args below meth c _ _ 0 0 Qf (F0 m 5 ls [.int (iI 1)])
    refine x_if_eq B (by omega) (tgt := 33) dX12_signs_5 (by decide) (fun c2 => ?_) (fun c2 => ?_)
    · exact absurd c2 (by omega)
    · refine lv_aload_n B.1 B.2.1 dX12_signs_8 rfl (lv_at hl 0 rfl) ?_
      refine lv_iload_n B.1 B.2.1 dX12_signs_9 rfl (lv_at hl 2 rfl) ?_
      refine y_cV B h kX12 50 (MW.f hM 0 _ rfl) k_X12_isOfficer rfl (c_X12_isOfficer l D Zk ca T E am _ hM o  (by omega)) m_1518 rfl (by decide) hl.1 [] (Nat.le_of_ble_eq_true rfl) rfl dX12_signs_10 (fun r w1 hq H locs h => ?_)
      obtain ⟨rfl, _, rfl, ⟨rfl, b3⟩ | ⟨rfl, b3⟩⟩ := hq
      · show W p l e r_c_X12_signs s m args below meth c _ _ 0 0 Qf (F0 m 13 ls [.int (iI 1)])
        refine x_if_eq B (by omega) (tgt := 33) dX12_signs_13 (by decide) (fun c4 => ?_) (fun c4 => ?_)
        · exact absurd c4 (by omega)
        · refine lv_iload_n B.1 B.2.1 dX12_signs_16 rfl (lv_at hl 3 rfl) ?_
          refine x_sipush B (by decide) dX12_signs_17 ?_
          refine x_icmp_gt B (by omega) (tgt := 33) dX12_signs_20 (by decide) (fun c5 => ?_) (fun c5 => ?_)
          · refine lv_aload_n B.1 B.2.1 dX12_signs_33 rfl (lv_at hl 0 rfl) ?_
            refine x_iconst B dX12_signs_34 ?_
            refine y_cV B h kX12 50 (MW.f hM 0 _ rfl) k_X12_refuse rfl (c_X12_refuse l D Zk ca T E am _ hM 0  (by omega)) m_1507 rfl (by decide) hl.1 [] (Nat.le_of_ble_eq_true rfl) rfl dX12_signs_35 (fun r w1 hq H locs h => ?_)
            obtain ⟨rfl, z6, rfl, hz6⟩ := hq
            show W p l e r_c_X12_signs s m args below meth c _ _ 0 0 Qf (F0 m 38 ls [.int (iI z6)])
            refine y_ri B hQ h (by decide) dX12_signs_38 ?_
            exact ⟨_, rfl, Or.inr ⟨by omega, by omega, rfl⟩⟩
          · refine lv_iload_n B.1 B.2.1 dX12_signs_23 rfl (lv_at hl 3 rfl) ?_
            refine lv_aload_n B.1 B.2.1 dX12_signs_24 rfl (lv_at hl 0 rfl) ?_
            refine y_getR B h kX12 50 (MW.f hM 0 _ rfl) 10 (b := am 5) rfl m_1271 (by decide) dX12_signs_25 ?_
            refine lv_iload_n B.1 B.2.1 dX12_signs_28 rfl (lv_at hl 1 rfl) ?_
            refine y_ialdX B h 55 (MW.f hM 5 _ rfl) (by omega) dX12_signs_29 ?_
            refine x_iset (z := (T 2 sh)) (by show iI (T 2 (((sh : Int).toNat : Nat) : Int)) = _; rw [show ((((sh : Int).toNat : Nat) : Int)) = sh by omega]) ?_
            have tb7 := pi_2 (MW.pi hM) sh
            refine x_icmp_gt B (by omega) (tgt := 39) dX12_signs_30 (by decide) (fun c8 => ?_) (fun c8 => ?_)
            · refine lv_aload_n B.1 B.2.1 dX12_signs_39 rfl (lv_at hl 0 rfl) ?_
              refine y_getX B h kX12 50 (MW.f hM 0 _ rfl) 3 (z := (T 0 3)) rfl m_1264 (by decide) dX12_signs_40 ?_
              refine x_bipush B (by decide) dX12_signs_43 ?_
              refine x_icmp_ne B (by omega) (tgt := 54) dX12_signs_45 (by decide) (fun c9 => ?_) (fun c9 => ?_)
              · refine lv_aload_n B.1 B.2.1 dX12_signs_54 rfl (lv_at hl 0 rfl) ?_
                refine y_getR B h kX12 50 (MW.f hM 0 _ rfl) 11 (b := am 6) rfl m_1272 (by decide) dX12_signs_55 ?_
                refine lv_aload_n B.1 B.2.1 dX12_signs_58 rfl (lv_at hl 0 rfl) ?_
                refine y_getX B h kX12 50 (MW.f hM 0 _ rfl) 3 (z := (T 0 3)) rfl m_1264 (by decide) dX12_signs_59 ?_
                refine lv_iload_n B.1 B.2.1 dX12_signs_62 rfl (lv_at hl 1 rfl) ?_
                refine y_iast B h 56 (MW.f hM 6 _ rfl) (by omega) (P' := gX 60 (iu (fun j => T 21 (j : Int)) (T 0 3) sh)) (gX_upd (by omega)) dX12_signs_63 (fun H locs h => ?_)
                have h : yH D Zk A s ((wu w 56 (am 6, xAI (ca 0) 60 (gX 60 (iu (fun j => T 21 (j : Int)) (T 0 3) sh))))) _ _ := h
                refine lv_aload_n B.1 B.2.1 dX12_signs_64 rfl (lv_at hl 0 rfl) ?_
                refine y_getR B h kX12 50 (wu_at (MW.f hM 0 _ rfl) (by decide)) 12 (b := am 7) rfl m_1273 (by decide) dX12_signs_65 ?_
                refine lv_aload_n B.1 B.2.1 dX12_signs_68 rfl (lv_at hl 0 rfl) ?_
                refine y_getX B h kX12 50 (wu_at (MW.f hM 0 _ rfl) (by decide)) 3 (z := (T 0 3)) rfl m_1264 (by decide) dX12_signs_69 ?_
                refine lv_iload_n B.1 B.2.1 dX12_signs_72 rfl (lv_at hl 2 rfl) ?_
                refine y_iast B h 57 (wu_at (MW.f hM 7 _ rfl) (by decide)) (by omega) (P' := gX 60 (iu (fun j => T 22 (j : Int)) (T 0 3) o)) (gX_upd (by omega)) dX12_signs_73 (fun H locs h => ?_)
                have h : yH D Zk A s ((wu (wu w 56 (am 6, xAI (ca 0) 60 (gX 60 (iu (fun j => T 21 (j : Int)) (T 0 3) sh)))) 57 (am 7, xAI (ca 0) 60 (gX 60 (iu (fun j => T 22 (j : Int)) (T 0 3) o))))) _ _ := h
                refine lv_aload_n B.1 B.2.1 dX12_signs_74 rfl (lv_at hl 0 rfl) ?_
                refine y_getR B h kX12 50 (wu_at (wu_at (MW.f hM 0 _ rfl) (by decide)) (by decide)) 13 (b := am 8) rfl m_1274 (by decide) dX12_signs_75 ?_
                refine lv_aload_n B.1 B.2.1 dX12_signs_78 rfl (lv_at hl 0 rfl) ?_
                refine y_getX B h kX12 50 (wu_at (wu_at (MW.f hM 0 _ rfl) (by decide)) (by decide)) 3 (z := (T 0 3)) rfl m_1264 (by decide) dX12_signs_79 ?_
                refine lv_iload_n B.1 B.2.1 dX12_signs_82 rfl (lv_at hl 3 rfl) ?_
                refine y_iast B h 58 (wu_at (wu_at (MW.f hM 8 _ rfl) (by decide)) (by decide)) (by omega) (P' := gX 60 (iu (fun j => T 23 (j : Int)) (T 0 3) v)) (gX_upd (by omega)) dX12_signs_83 (fun H locs h => ?_)
                have h : yH D Zk A s ((wu (wu (wu w 56 (am 6, xAI (ca 0) 60 (gX 60 (iu (fun j => T 21 (j : Int)) (T 0 3) sh)))) 57 (am 7, xAI (ca 0) 60 (gX 60 (iu (fun j => T 22 (j : Int)) (T 0 3) o)))) 58 (am 8, xAI (ca 0) 60 (gX 60 (iu (fun j => T 23 (j : Int)) (T 0 3) v))))) _ _ := h
                refine lv_aload_n B.1 B.2.1 dX12_signs_84 rfl (lv_at hl 0 rfl) ?_
                refine y_getR B h kX12 50 (wu_at (wu_at (wu_at (MW.f hM 0 _ rfl) (by decide)) (by decide)) (by decide)) 10 (b := am 5) rfl m_1271 (by decide) dX12_signs_85 ?_
                refine lv_iload_n B.1 B.2.1 dX12_signs_88 rfl (lv_at hl 1 rfl) ?_
                refine lv_iload_n B.1 B.2.1 dX12_signs_89 rfl (lv_at hl 3 rfl) ?_
                refine y_iast B h 55 (wu_at (wu_at (wu_at (MW.f hM 5 _ rfl) (by decide)) (by decide)) (by decide)) (by omega) (P' := gX 12 (iu (fun j => T 2 (j : Int)) sh v)) (gX_upd (by omega)) dX12_signs_90 (fun H locs h => ?_)
                have h : yH D Zk A s ((wu (wu (wu (wu w 56 (am 6, xAI (ca 0) 60 (gX 60 (iu (fun j => T 21 (j : Int)) (T 0 3) sh)))) 57 (am 7, xAI (ca 0) 60 (gX 60 (iu (fun j => T 22 (j : Int)) (T 0 3) o)))) 58 (am 8, xAI (ca 0) 60 (gX 60 (iu (fun j => T 23 (j : Int)) (T 0 3) v)))) 55 (am 5, xAI (ca 0) 12 (gX 12 (iu (fun j => T 2 (j : Int)) sh v))))) _ _ := h
                refine lv_aload_n B.1 B.2.1 dX12_signs_91 rfl (lv_at hl 0 rfl) ?_
                refine lv_dup B.1 B.2.1 dX12_signs_92 rfl ?_
                refine y_getX B h kX12 50 (wu_at (wu_at (wu_at (wu_at (MW.f hM 0 _ rfl) (by decide)) (by decide)) (by decide)) (by decide)) 3 (z := (T 0 3)) rfl m_1264 (by decide) dX12_signs_93 ?_
                refine x_iconst B dX12_signs_96 ?_
                refine x_iadd B dX12_signs_97 ?_
                refine y_put B h kX12 50 (wu_at (wu_at (wu_at (wu_at (MW.f hM 0 _ rfl) (by decide)) (by decide)) (by decide)) (by decide)) 3 (Nat.le_of_ble_eq_true rfl) (P' := fX ((T 0 3) + 1)) m_1264 (by decide) rfl rfl rfl rfl dX12_signs_98 (fun H locs h => ?_)
                have h : yH D Zk A s ((wu (wu (wu (wu (wu w 56 (am 6, xAI (ca 0) 60 (gX 60 (iu (fun j => T 21 (j : Int)) (T 0 3) sh)))) 57 (am 7, xAI (ca 0) 60 (gX 60 (iu (fun j => T 22 (j : Int)) (T 0 3) o)))) 58 (am 8, xAI (ca 0) 60 (gX 60 (iu (fun j => T 23 (j : Int)) (T 0 3) v)))) 55 (am 5, xAI (ca 0) 12 (gX 12 (iu (fun j => T 2 (j : Int)) sh v)))) 50 (am 0, xO 12 [fR (am 1), fX (T 0 0), fX (T 0 1), fX ((T 0 3) + 1), fX (T 0 2), fX (T 0 4), fX (T 0 5), fR (am 2), fR (am 3), fR (am 4), fR (am 5), fR (am 6), fR (am 7), fR (am 8), fR (am 9), fR (am 10), fR (am 11), fR (am 12), fR (am 13), fR (am 14), fR (am 15), fR (am 16), fR (am 17), fX (E 0 0), fR (am 18), fR (am 19), fR (am 20), fR (am 21), fR (am 22), fR (am 23), fR (am 24), fR (am 25), fG 0 900, fG (-2147483648) 2147483647, fG 0 900, fG 0 900, fG 0 900, fG (-2147483648) 2147483647, fG (-2147483648) 2147483647, fG 0 24, fG 0 41, fG 0 319, fL, fG 0 1, fR (am 26), fG 0 48, fG 0 9, fR (am 27), fR (am 28), fR (am 29), fR (am 30), fR (am 31), fG (-2147483648) 2147483647, fG (-2147483648) 2147483647, fG 0 12, fG (-2147483648) 2147483647, fR (am 32), fG 0 1, fX (E 0 5), fG (-2147483648) 2147483647, fG (-2147483648) 2147483647, fR (am 33), fR (am 34), fR (am 35), fG (-2147483648) 2147483647, fG (-2147483648) 2147483647, fR (am 36), fR (am 37), fR (am 38), fX (T 0 10), fX (T 0 11), fX (T 0 12), fX (T 0 13), fR (am 39), fX (T 0 6), fR (am 40), fR (am 41), fR (am 42), fR (am 43), fR (am 44)]))) _ _ := h
                refine lv_aload_n B.1 B.2.1 dX12_signs_101 rfl (lv_at hl 0 rfl) ?_
                refine y_getX B h kX12 50 wu_eq 3 (z := ((T 0 3) + 1)) rfl m_1264 (by decide) dX12_signs_102 ?_
                refine y_ri B hQ h (by decide) dX12_signs_105 ?_
                exact ⟨_, rfl, Or.inl ⟨by omega, by omega, by omega, mw_signs hM (by omega) (by omega) (by omega) (by omega) (fun k k0 k1 k2 k3 k4 => by rw [wu_ne (by omega), wu_ne (by omega), wu_ne (by omega), wu_ne (by omega), wu_ne (by omega)]) wu_eq (wu_at wu_eq (by decide)) (wu_at (wu_at (wu_at (wu_at wu_eq (by decide)) (by decide)) (by decide)) (by decide)) (wu_at (wu_at (wu_at wu_eq (by decide)) (by decide)) (by decide)) (wu_at (wu_at wu_eq (by decide)) (by decide)), fun k h1 => by rw [wu_ne (by omega), wu_ne (by omega), wu_ne (by omega), wu_ne (by omega), wu_ne (by omega)]⟩⟩
              · refine lv_aload_n B.1 B.2.1 dX12_signs_48 rfl (lv_at hl 0 rfl) ?_
                refine x_iconst B dX12_signs_49 ?_
                refine y_cV B h kX12 50 (MW.f hM 0 _ rfl) k_X12_refuse rfl (c_X12_refuse l D Zk ca T E am _ hM 1  (by omega)) m_1507 rfl (by decide) hl.1 [] (Nat.le_of_ble_eq_true rfl) rfl dX12_signs_50 (fun r w1 hq H locs h => ?_)
                obtain ⟨rfl, z10, rfl, hz10⟩ := hq
                show W p l e r_c_X12_signs s m args below meth c _ _ 0 0 Qf (F0 m 53 ls [.int (iI z10)])
                refine y_ri B hQ h (by decide) dX12_signs_53 ?_
                exact ⟨_, rfl, Or.inr ⟨by omega, by omega, rfl⟩⟩
            · refine lv_aload_n B.1 B.2.1 dX12_signs_33 rfl (lv_at hl 0 rfl) ?_
              refine x_iconst B dX12_signs_34 ?_
              refine y_cV B h kX12 50 (MW.f hM 0 _ rfl) k_X12_refuse rfl (c_X12_refuse l D Zk ca T E am _ hM 0  (by omega)) m_1507 rfl (by decide) hl.1 [] (Nat.le_of_ble_eq_true rfl) rfl dX12_signs_35 (fun r w1 hq H locs h => ?_)
              obtain ⟨rfl, z11, rfl, hz11⟩ := hq
              show W p l e r_c_X12_signs s m args below meth c _ _ 0 0 Qf (F0 m 38 ls [.int (iI z11)])
              refine y_ri B hQ h (by decide) dX12_signs_38 ?_
              exact ⟨_, rfl, Or.inr ⟨by omega, by omega, rfl⟩⟩
      · show W p l e r_c_X12_signs s m args below meth c _ _ 0 0 Qf (F0 m 13 ls [.int (iI 0)])
        refine x_if_eq B (by omega) (tgt := 33) dX12_signs_13 (by decide) (fun c12 => ?_) (fun c12 => ?_)
        · refine lv_aload_n B.1 B.2.1 dX12_signs_33 rfl (lv_at hl 0 rfl) ?_
          refine x_iconst B dX12_signs_34 ?_
          refine y_cV B h kX12 50 (MW.f hM 0 _ rfl) k_X12_refuse rfl (c_X12_refuse l D Zk ca T E am _ hM 0  (by omega)) m_1507 rfl (by decide) hl.1 [] (Nat.le_of_ble_eq_true rfl) rfl dX12_signs_35 (fun r w1 hq H locs h => ?_)
          obtain ⟨rfl, z13, rfl, hz13⟩ := hq
          show W p l e r_c_X12_signs s m args below meth c _ _ 0 0 Qf (F0 m 38 ls [.int (iI z13)])
          refine y_ri B hQ h (by decide) dX12_signs_38 ?_
          exact ⟨_, rfl, Or.inr ⟨by omega, by omega, rfl⟩⟩
        · exact absurd c12 (by omega)
  · show W p l e r_c_X12_signs s m args below meth c _ _ 0 0 Qf (F0 m 5 ls [.int (iI 0)])
    refine x_if_eq B (by omega) (tgt := 33) dX12_signs_5 (by decide) (fun c14 => ?_) (fun c14 => ?_)
    · refine lv_aload_n B.1 B.2.1 dX12_signs_33 rfl (lv_at hl 0 rfl) ?_
      refine x_iconst B dX12_signs_34 ?_
      refine y_cV B h kX12 50 (MW.f hM 0 _ rfl) k_X12_refuse rfl (c_X12_refuse l D Zk ca T E am _ hM 0  (by omega)) m_1507 rfl (by decide) hl.1 [] (Nat.le_of_ble_eq_true rfl) rfl dX12_signs_35 (fun r w1 hq H locs h => ?_)
      obtain ⟨rfl, z15, rfl, hz15⟩ := hq
      show W p l e r_c_X12_signs s m args below meth c _ _ 0 0 Qf (F0 m 38 ls [.int (iI z15)])
      refine y_ri B hQ h (by decide) dX12_signs_38 ?_
      exact ⟨_, rfl, Or.inr ⟨by omega, by omega, rfl⟩⟩
    · exact absurd c14 (by omega)
abbrev r_c_X12_trust : Room := { frames := 1, cells := 0, slots := 0, locals := 21 }
set_option maxHeartbeats 4000000 in
set_option maxRecDepth 100000 in
theorem c_X12_trust (l : Launch) (D : va_G) (Zk : yK) (ca : Nat → ClassId) (T : Nat → Int → Int) (E : Nat → Int → Int) (am : Nat → Nat) (w : yW) (hM : MW ca T E am w) (o : Int) (b : Int)  (ho : xr o) (hb : 0 ≤ b ∧ b ≤ 1) : yC l D Zk ca yX12_trust cX12_trust 3 (some .boolean) r_c_X12_trust [.ref (am 0), .int (iI o), .int (iI b)] w (vI w (fun z => (z = 1 ∧ (0 ≤ o ∧ o < T 0 0)) ∨ (z = 0 ∧ (¬ (0 ≤ o ∧ o < T 0 0))))) := by
  refine yC.of2 "WindWordsModel" (by decide) rfl (Nat.le_of_ble_eq_true rfl) ?_
  intro p e s m args below meth c A ls Qf B hnm h hl hQ
  have hl : lv_has ls 3 [(0, .ref (am 0)), (1, .int (iI o)), (2, .int (iI b))] := hl
  have hs := pi_s (MW.pi hM)
  have hpe := pe_0 (MW.pe hM)
  refine lv_aload_n B.1 B.2.1 dX12_trust_0 rfl (lv_at hl 0 rfl) ?_
  refine lv_iload_n B.1 B.2.1 dX12_trust_1 rfl (lv_at hl 1 rfl) ?_
  refine y_cV B h kX12 50 (MW.f hM 0 _ rfl) k_X12_isOfficer rfl (c_X12_isOfficer l D Zk ca T E am _ hM o  (by omega)) m_1518 rfl (by decide) hl.1 [] (Nat.le_of_ble_eq_true rfl) rfl dX12_trust_2 (fun r w1 hq H locs h => ?_)
  obtain ⟨rfl, _, rfl, ⟨rfl, b1⟩ | ⟨rfl, b1⟩⟩ := hq
  · show W p l e r_c_X12_trust s m args below meth c _ _ 0 0 Qf (F0 m 5 ls [.int (iI 1)])
    refine x_if_ne B (by omega) (tgt := 22) dX12_trust_5 (by decide) (fun c2 => ?_) (fun c2 => ?_)
    · refine lv_aload_n B.1 B.2.1 dX12_trust_22 rfl (lv_at hl 0 rfl) ?_
      refine y_getR B h kX12 50 (MW.f hM 0 _ rfl) 7 (b := am 2) rfl m_1268 (by decide) dX12_trust_23 ?_
      refine lv_iload_n B.1 B.2.1 dX12_trust_26 rfl (lv_at hl 1 rfl) ?_
      refine lv_iload_n B.1 B.2.1 dX12_trust_27 rfl (lv_at hl 2 rfl) ?_
      refine y_zastS B h 52 (MW.f hM 2 _ rfl) (by omega) (gG_updZ (by omega)) dX12_trust_28 (fun H locs h => ?_)
      refine x_iconst B dX12_trust_29 ?_
      refine y_rz B hQ h (by decide) (by decide) dX12_trust_30 ?_
      exact ⟨rfl, _, rfl, Or.inl ⟨rfl, (by first | omega | trivial | assumption)⟩⟩
    · exact absurd c2 (by omega)
  · show W p l e r_c_X12_trust s m args below meth c _ _ 0 0 Qf (F0 m 5 ls [.int (iI 0)])
    refine x_if_ne B (by omega) (tgt := 22) dX12_trust_5 (by decide) (fun c3 => ?_) (fun c3 => ?_)
    · exact absurd c3 (by omega)
    · refine lv_aload_n B.1 B.2.1 dX12_trust_8 rfl (lv_at hl 0 rfl) ?_
      refine x_iconst B dX12_trust_9 ?_
      refine y_cV B h kX12 50 (MW.f hM 0 _ rfl) k_X12_refuse rfl (c_X12_refuse l D Zk ca T E am _ hM 0  (by omega)) m_1507 rfl (by decide) hl.1 [] (Nat.le_of_ble_eq_true rfl) rfl dX12_trust_10 (fun r w1 hq H locs h => ?_)
      obtain ⟨rfl, z4, rfl, hz4⟩ := hq
      show W p l e r_c_X12_trust s m args below meth c _ _ 0 0 Qf (F0 m 13 ls [.int (iI z4)])
      refine x_if_lt B (by omega) (tgt := 20) dX12_trust_13 (by decide) (fun c5 => ?_) (fun c5 => ?_)
      · refine x_iconst B dX12_trust_20 ?_
        refine y_rz B hQ h (by decide) (by decide) dX12_trust_21 ?_
        exact ⟨rfl, _, rfl, Or.inr ⟨rfl, (by first | omega | trivial | assumption)⟩⟩
      · refine x_iconst B dX12_trust_16 ?_
        refine lv_goto (tgt := 21) B.1 B.2.1 dX12_trust_17 (by decide) ?_
        refine y_rz B hQ h (by decide) (by decide) dX12_trust_21 ?_
        exact ⟨rfl, _, rfl, Or.inl ⟨rfl, (by first | omega | trivial | assumption)⟩⟩
abbrev r_c_X12_set : Room := { frames := 1, cells := 0, slots := 0, locals := 22 }
set_option maxHeartbeats 4000000 in
set_option maxRecDepth 100000 in
theorem c_X12_set (l : Launch) (D : va_G) (Zk : yK) (ca : Nat → ClassId) (T : Nat → Int → Int) (E : Nat → Int → Int) (am : Nat → Nat) (w : yW) (hM : MW ca T E am w) (si : Int) (er : Int)  (hsi : xr si) (her : xr er) : yC l D Zk ca yX12_set cX12_set 3 (some .boolean) r_c_X12_set [.ref (am 0), .int (iI si), .int (iI er)] w (fun r w1 => ∃ z : Int, r = some (.int (iI z)) ∧ ((((0 ≤ si ∧ si ≤ 7) ∧ 0 ≤ er ∧ er ≤ 5) ∧ z = 1 ∧ MW ca (tSet T si er) E am w1 ∧ AGM w w1) ∨ (¬ ((0 ≤ si ∧ si ≤ 7) ∧ 0 ≤ er ∧ er ≤ 5) ∧ z = 0 ∧ w1 = w))) := by
  refine yC.of2 "WindWordsModel" (by decide) rfl (Nat.le_of_ble_eq_true rfl) ?_
  intro p e s m args below meth c A ls Qf B hnm h hl hQ
  have hl : lv_has ls 3 [(0, .ref (am 0)), (1, .int (iI si)), (2, .int (iI er))] := hl
  have hs := pi_s (MW.pi hM)
  have hpe := pe_0 (MW.pe hM)
  refine lv_iload_n B.1 B.2.1 dX12_set_0 rfl (lv_at hl 1 rfl) ?_
  refine x_iconst B dX12_set_1 ?_
  refine x_bipush B (by decide) dX12_set_2 ?_
  refine y_cS B h k_X12_within (c_X12_within l D Zk ca _ si 0 7  (by omega) (by omega) (by omega)) m_1515 rfl (by decide) hl.1 [] (Nat.le_of_ble_eq_true rfl) rfl dX12_set_4 (fun r w1 hq H locs h => ?_)
  obtain ⟨rfl, _, rfl, ⟨rfl, b1⟩ | ⟨rfl, b1⟩⟩ := hq
  · show W p l e r_c_X12_set s m args below meth c _ _ 0 0 Qf (F0 m 7 ls [.int (iI 1)])
    refine x_if_eq B (by omega) (tgt := 19) dX12_set_7 (by decide) (fun c2 => ?_) (fun c2 => ?_)
    · exact absurd c2 (by omega)
    · refine lv_iload_n B.1 B.2.1 dX12_set_10 rfl (lv_at hl 2 rfl) ?_
      refine x_iconst B dX12_set_11 ?_
      refine x_iconst B dX12_set_12 ?_
      refine y_cS B h k_X12_within (c_X12_within l D Zk ca _ er 0 5  (by omega) (by omega) (by omega)) m_1515 rfl (by decide) hl.1 [] (Nat.le_of_ble_eq_true rfl) rfl dX12_set_13 (fun r w1 hq H locs h => ?_)
      obtain ⟨rfl, _, rfl, ⟨rfl, b3⟩ | ⟨rfl, b3⟩⟩ := hq
      · show W p l e r_c_X12_set s m args below meth c _ _ 0 0 Qf (F0 m 16 ls [.int (iI 1)])
        refine x_if_ne B (by omega) (tgt := 33) dX12_set_16 (by decide) (fun c4 => ?_) (fun c4 => ?_)
        · refine lv_aload_n B.1 B.2.1 dX12_set_33 rfl (lv_at hl 0 rfl) ?_
          refine lv_iload_n B.1 B.2.1 dX12_set_34 rfl (lv_at hl 1 rfl) ?_
          refine y_put B h kX12 50 (MW.f hM 0 _ rfl) 5 (Nat.le_of_ble_eq_true rfl) (P' := fX si) m_1266 (by decide) rfl rfl rfl rfl dX12_set_35 (fun H locs h => ?_)
          have h : yH D Zk A s ((wu w 50 (am 0, xO 12 [fR (am 1), fX (T 0 0), fX (T 0 1), fX (T 0 3), fX (T 0 2), fX si, fX (T 0 5), fR (am 2), fR (am 3), fR (am 4), fR (am 5), fR (am 6), fR (am 7), fR (am 8), fR (am 9), fR (am 10), fR (am 11), fR (am 12), fR (am 13), fR (am 14), fR (am 15), fR (am 16), fR (am 17), fX (E 0 0), fR (am 18), fR (am 19), fR (am 20), fR (am 21), fR (am 22), fR (am 23), fR (am 24), fR (am 25), fG 0 900, fG (-2147483648) 2147483647, fG 0 900, fG 0 900, fG 0 900, fG (-2147483648) 2147483647, fG (-2147483648) 2147483647, fG 0 24, fG 0 41, fG 0 319, fL, fG 0 1, fR (am 26), fG 0 48, fG 0 9, fR (am 27), fR (am 28), fR (am 29), fR (am 30), fR (am 31), fG (-2147483648) 2147483647, fG (-2147483648) 2147483647, fG 0 12, fG (-2147483648) 2147483647, fR (am 32), fG 0 1, fX (E 0 5), fG (-2147483648) 2147483647, fG (-2147483648) 2147483647, fR (am 33), fR (am 34), fR (am 35), fG (-2147483648) 2147483647, fG (-2147483648) 2147483647, fR (am 36), fR (am 37), fR (am 38), fX (T 0 10), fX (T 0 11), fX (T 0 12), fX (T 0 13), fR (am 39), fX (T 0 6), fR (am 40), fR (am 41), fR (am 42), fR (am 43), fR (am 44)]))) _ _ := h
          refine lv_aload_n B.1 B.2.1 dX12_set_38 rfl (lv_at hl 0 rfl) ?_
          refine lv_iload_n B.1 B.2.1 dX12_set_39 rfl (lv_at hl 2 rfl) ?_
          refine y_put B h kX12 50 wu_eq 6 (Nat.le_of_ble_eq_true rfl) (P' := fX er) m_1267 (by decide) rfl rfl rfl rfl dX12_set_40 (fun H locs h => ?_)
          rw [wu_wu] at h
          have h : yH D Zk A s ((wu w 50 (am 0, xO 12 [fR (am 1), fX (T 0 0), fX (T 0 1), fX (T 0 3), fX (T 0 2), fX si, fX er, fR (am 2), fR (am 3), fR (am 4), fR (am 5), fR (am 6), fR (am 7), fR (am 8), fR (am 9), fR (am 10), fR (am 11), fR (am 12), fR (am 13), fR (am 14), fR (am 15), fR (am 16), fR (am 17), fX (E 0 0), fR (am 18), fR (am 19), fR (am 20), fR (am 21), fR (am 22), fR (am 23), fR (am 24), fR (am 25), fG 0 900, fG (-2147483648) 2147483647, fG 0 900, fG 0 900, fG 0 900, fG (-2147483648) 2147483647, fG (-2147483648) 2147483647, fG 0 24, fG 0 41, fG 0 319, fL, fG 0 1, fR (am 26), fG 0 48, fG 0 9, fR (am 27), fR (am 28), fR (am 29), fR (am 30), fR (am 31), fG (-2147483648) 2147483647, fG (-2147483648) 2147483647, fG 0 12, fG (-2147483648) 2147483647, fR (am 32), fG 0 1, fX (E 0 5), fG (-2147483648) 2147483647, fG (-2147483648) 2147483647, fR (am 33), fR (am 34), fR (am 35), fG (-2147483648) 2147483647, fG (-2147483648) 2147483647, fR (am 36), fR (am 37), fR (am 38), fX (T 0 10), fX (T 0 11), fX (T 0 12), fX (T 0 13), fR (am 39), fX (T 0 6), fR (am 40), fR (am 41), fR (am 42), fR (am 43), fR (am 44)]))) _ _ := h
          refine x_iconst B dX12_set_43 ?_
          refine y_rz B hQ h (by decide) (by decide) dX12_set_44 ?_
          exact ⟨_, rfl, Or.inl ⟨by omega, by omega, mw_set hM (by omega) (by omega) (fun k k0 => by rw [wu_ne (by omega)]) wu_eq, fun k h1 => by rw [wu_ne (by omega)]⟩⟩
        · exact absurd c4 (by omega)
      · show W p l e r_c_X12_set s m args below meth c _ _ 0 0 Qf (F0 m 16 ls [.int (iI 0)])
        refine x_if_ne B (by omega) (tgt := 33) dX12_set_16 (by decide) (fun c5 => ?_) (fun c5 => ?_)
        · exact absurd c5 (by omega)
        · refine lv_aload_n B.1 B.2.1 dX12_set_19 rfl (lv_at hl 0 rfl) ?_
          refine x_iconst B dX12_set_20 ?_
          refine y_cV B h kX12 50 (MW.f hM 0 _ rfl) k_X12_refuse rfl (c_X12_refuse l D Zk ca T E am _ hM 0  (by omega)) m_1507 rfl (by decide) hl.1 [] (Nat.le_of_ble_eq_true rfl) rfl dX12_set_21 (fun r w1 hq H locs h => ?_)
          obtain ⟨rfl, z6, rfl, hz6⟩ := hq
          show W p l e r_c_X12_set s m args below meth c _ _ 0 0 Qf (F0 m 24 ls [.int (iI z6)])
          refine x_if_lt B (by omega) (tgt := 31) dX12_set_24 (by decide) (fun c7 => ?_) (fun c7 => ?_)
          · refine x_iconst B dX12_set_31 ?_
            refine y_rz B hQ h (by decide) (by decide) dX12_set_32 ?_
            exact ⟨_, rfl, Or.inr ⟨by omega, by omega, rfl⟩⟩
          · refine x_iconst B dX12_set_27 ?_
            refine lv_goto (tgt := 32) B.1 B.2.1 dX12_set_28 (by decide) ?_
            refine y_rz B hQ h (by decide) (by decide) dX12_set_32 ?_
            exfalso; omega
  · show W p l e r_c_X12_set s m args below meth c _ _ 0 0 Qf (F0 m 7 ls [.int (iI 0)])
    refine x_if_eq B (by omega) (tgt := 19) dX12_set_7 (by decide) (fun c8 => ?_) (fun c8 => ?_)
    · refine lv_aload_n B.1 B.2.1 dX12_set_19 rfl (lv_at hl 0 rfl) ?_
      refine x_iconst B dX12_set_20 ?_
      refine y_cV B h kX12 50 (MW.f hM 0 _ rfl) k_X12_refuse rfl (c_X12_refuse l D Zk ca T E am _ hM 0  (by omega)) m_1507 rfl (by decide) hl.1 [] (Nat.le_of_ble_eq_true rfl) rfl dX12_set_21 (fun r w1 hq H locs h => ?_)
      obtain ⟨rfl, z9, rfl, hz9⟩ := hq
      show W p l e r_c_X12_set s m args below meth c _ _ 0 0 Qf (F0 m 24 ls [.int (iI z9)])
      refine x_if_lt B (by omega) (tgt := 31) dX12_set_24 (by decide) (fun c10 => ?_) (fun c10 => ?_)
      · refine x_iconst B dX12_set_31 ?_
        refine y_rz B hQ h (by decide) (by decide) dX12_set_32 ?_
        exact ⟨_, rfl, Or.inr ⟨by omega, by omega, rfl⟩⟩
      · refine x_iconst B dX12_set_27 ?_
        refine lv_goto (tgt := 32) B.1 B.2.1 dX12_set_28 (by decide) ?_
        refine y_rz B hQ h (by decide) (by decide) dX12_set_32 ?_
        exfalso; omega
    · exact absurd c8 (by omega)
abbrev r_c_X12_read : Room := { frames := 1, cells := 0, slots := 0, locals := 23 }
set_option maxHeartbeats 4000000 in
set_option maxRecDepth 100000 in
theorem c_X12_read (l : Launch) (D : va_G) (Zk : yK) (ca : Nat → ClassId) (T : Nat → Int → Int) (E : Nat → Int → Int) (am : Nat → Nat) (w : yW) (hM : MW ca T E am w) (sh : Int) (v : Int) (sp : Int) (kd : Int) (nb : Int)  (hsh : xr sh) (hv : xr v) (hsp : xr sp) (hkd : xr kd) (hnb : xr nb) : yC l D Zk ca yX12_read cX12_read 6 (some .int) r_c_X12_read [.ref (am 0), .int (iI sh), .int (iI v), .int (iI sp), .int (iI kd), .int (iI nb)] w (fun r w1 => ∃ z : Int, r = some (.int (iI z)) ∧ (((((0 ≤ sh ∧ sh < T 0 1) ∧ (0 ≤ v ∧ v ≤ 999) ∧ (0 ≤ sp ∧ sp ≤ 6399) ∧ (0 ≤ kd ∧ kd ≤ 3) ∧ (0 ≤ nb ∧ nb ≤ 99 ∧ (kd = 3 ∨ nb ≤ 12)) ∧ ∀ k : Int, 0 ≤ k ∧ k < T 0 2 → ¬ (T 4 k = sh ∧ T 5 k = v)) ∧ T 0 2 < 300) ∧ z = T 0 2 ∧ MW ca (tRead T sh v sp kd nb) E am w1 ∧ AGM w w1) ∨ (¬ (((0 ≤ sh ∧ sh < T 0 1) ∧ (0 ≤ v ∧ v ≤ 999) ∧ (0 ≤ sp ∧ sp ≤ 6399) ∧ (0 ≤ kd ∧ kd ≤ 3) ∧ (0 ≤ nb ∧ nb ≤ 99 ∧ (kd = 3 ∨ nb ≤ 12)) ∧ ∀ k : Int, 0 ≤ k ∧ k < T 0 2 → ¬ (T 4 k = sh ∧ T 5 k = v)) ∧ T 0 2 < 300) ∧ z = -1 ∧ w1 = w))) := by
  refine yC.of2 "WindWordsModel" (by decide) rfl (Nat.le_of_ble_eq_true rfl) ?_
  intro p e s m args below meth c A ls Qf B hnm h hl hQ
  have hl : lv_has ls 6 [(0, .ref (am 0)), (1, .int (iI sh)), (2, .int (iI v)), (3, .int (iI sp)), (4, .int (iI kd)), (5, .int (iI nb))] := hl
  have hs := pi_s (MW.pi hM)
  have hpe := pe_0 (MW.pe hM)
  refine lv_aload_n B.1 B.2.1 dX12_read_0 rfl (lv_at hl 0 rfl) ?_
  refine lv_iload_n B.1 B.2.1 dX12_read_1 rfl (lv_at hl 1 rfl) ?_
  refine y_cV B h kX12 50 (MW.f hM 0 _ rfl) k_X12_isShip rfl (c_X12_isShip l D Zk ca T E am _ hM sh  (by omega)) m_1526 rfl (by decide) hl.1 [] (Nat.le_of_ble_eq_true rfl) rfl dX12_read_2 (fun r w1 hq H locs h => ?_)
  obtain ⟨rfl, _, rfl, ⟨rfl, b1⟩ | ⟨rfl, b1⟩⟩ := hq
  · show W p l e r_c_X12_read s m args below meth c _ _ 0 0 Qf (F0 m 5 ls [.int (iI 1)])
    refine x_if_eq B (by omega) (tgt := 71) dX12_read_5 (by decide) (fun c2 => ?_) (fun c2 => ?_)
    · exact absurd c2 (by omega)
    · refine lv_iload_n B.1 B.2.1 dX12_read_8 rfl (lv_at hl 2 rfl) ?_
      refine x_iconst B dX12_read_9 ?_
      refine x_sipush B (by decide) dX12_read_10 ?_
      refine y_cS B h k_X12_within (c_X12_within l D Zk ca _ v 0 999  (by omega) (by omega) (by omega)) m_1515 rfl (by decide) hl.1 [] (Nat.le_of_ble_eq_true rfl) rfl dX12_read_13 (fun r w1 hq H locs h => ?_)
      obtain ⟨rfl, _, rfl, ⟨rfl, b3⟩ | ⟨rfl, b3⟩⟩ := hq
      · show W p l e r_c_X12_read s m args below meth c _ _ 0 0 Qf (F0 m 16 ls [.int (iI 1)])
        refine x_if_eq B (by omega) (tgt := 71) dX12_read_16 (by decide) (fun c4 => ?_) (fun c4 => ?_)
        · exact absurd c4 (by omega)
        · refine lv_iload_n B.1 B.2.1 dX12_read_19 rfl (lv_at hl 3 rfl) ?_
          refine x_iconst B dX12_read_20 ?_
          refine x_sipush B (by decide) dX12_read_21 ?_
          refine y_cS B h k_X12_within (c_X12_within l D Zk ca _ sp 0 6399  (by omega) (by omega) (by omega)) m_1515 rfl (by decide) hl.1 [] (Nat.le_of_ble_eq_true rfl) rfl dX12_read_24 (fun r w1 hq H locs h => ?_)
          obtain ⟨rfl, _, rfl, ⟨rfl, b5⟩ | ⟨rfl, b5⟩⟩ := hq
          · show W p l e r_c_X12_read s m args below meth c _ _ 0 0 Qf (F0 m 27 ls [.int (iI 1)])
            refine x_if_eq B (by omega) (tgt := 71) dX12_read_27 (by decide) (fun c6 => ?_) (fun c6 => ?_)
            · exact absurd c6 (by omega)
            · refine lv_iload B.1 B.2.1 dX12_read_30 (lv_at hl 4 rfl) ?_
              refine x_iconst B dX12_read_32 ?_
              refine x_iconst B dX12_read_33 ?_
              refine y_cS B h k_X12_within (c_X12_within l D Zk ca _ kd 0 3  (by omega) (by omega) (by omega)) m_1515 rfl (by decide) hl.1 [] (Nat.le_of_ble_eq_true rfl) rfl dX12_read_34 (fun r w1 hq H locs h => ?_)
              obtain ⟨rfl, _, rfl, ⟨rfl, b7⟩ | ⟨rfl, b7⟩⟩ := hq
              · show W p l e r_c_X12_read s m args below meth c _ _ 0 0 Qf (F0 m 37 ls [.int (iI 1)])
                refine x_if_eq B (by omega) (tgt := 71) dX12_read_37 (by decide) (fun c8 => ?_) (fun c8 => ?_)
                · exact absurd c8 (by omega)
                · refine lv_iload B.1 B.2.1 dX12_read_40 (lv_at hl 5 rfl) ?_
                  refine x_iconst B dX12_read_42 ?_
                  refine lv_iload B.1 B.2.1 dX12_read_43 (lv_at hl 4 rfl) ?_
                  refine x_iconst B dX12_read_45 ?_
                  refine x_icmp_ne B (by omega) (tgt := 54) dX12_read_46 (by decide) (fun c9 => ?_) (fun c9 => ?_)
                  · refine x_bipush B (by decide) dX12_read_54 ?_
                    refine y_cS B h k_X12_within (c_X12_within l D Zk ca _ nb 0 12  (by omega) (by omega) (by omega)) m_1515 rfl (by decide) hl.1 [] (Nat.le_of_ble_eq_true rfl) rfl dX12_read_56 (fun r w1 hq H locs h => ?_)
                    obtain ⟨rfl, _, rfl, ⟨rfl, b10⟩ | ⟨rfl, b10⟩⟩ := hq
                    · show W p l e r_c_X12_read s m args below meth c _ _ 0 0 Qf (F0 m 59 ls [.int (iI 1)])
                      refine x_if_eq B (by omega) (tgt := 71) dX12_read_59 (by decide) (fun c11 => ?_) (fun c11 => ?_)
                      · exact absurd c11 (by omega)
                      · refine lv_aload_n B.1 B.2.1 dX12_read_62 rfl (lv_at hl 0 rfl) ?_
                        refine lv_iload_n B.1 B.2.1 dX12_read_63 rfl (lv_at hl 1 rfl) ?_
                        refine lv_iload_n B.1 B.2.1 dX12_read_64 rfl (lv_at hl 2 rfl) ?_
                        refine y_cV B h kX12 50 (MW.f hM 0 _ rfl) k_X12_readingOf rfl (c_X12_readingOf l D Zk ca T E am _ hM sh v  (by omega) (by omega)) m_1542 rfl (by decide) hl.1 [] (Nat.le_of_ble_eq_true rfl) rfl dX12_read_65 (fun r w1 hq H locs h => ?_)
                        obtain ⟨rfl, z12, rfl, hz12⟩ := hq
                        show W p l e r_c_X12_read s m args below meth c _ _ 0 0 Qf (F0 m 68 ls [.int (iI z12)])
                        refine x_if_lt B (by omega) (tgt := 77) dX12_read_68 (by decide) (fun c13 => ?_) (fun c13 => ?_)
                        · refine lv_aload_n B.1 B.2.1 dX12_read_77 rfl (lv_at hl 0 rfl) ?_
                          refine y_getX B h kX12 50 (MW.f hM 0 _ rfl) 4 (z := (T 0 2)) rfl m_1265 (by decide) dX12_read_78 ?_
                          refine x_sipush B (by decide) dX12_read_81 ?_
                          refine x_icmp_ne B (by omega) (tgt := 93) dX12_read_84 (by decide) (fun c14 => ?_) (fun c14 => ?_)
                          · refine lv_aload_n B.1 B.2.1 dX12_read_93 rfl (lv_at hl 0 rfl) ?_
                            refine y_getR B h kX12 50 (MW.f hM 0 _ rfl) 14 (b := am 9) rfl m_1275 (by decide) dX12_read_94 ?_
                            refine lv_aload_n B.1 B.2.1 dX12_read_97 rfl (lv_at hl 0 rfl) ?_
                            refine y_getX B h kX12 50 (MW.f hM 0 _ rfl) 4 (z := (T 0 2)) rfl m_1265 (by decide) dX12_read_98 ?_
                            refine lv_iload_n B.1 B.2.1 dX12_read_101 rfl (lv_at hl 1 rfl) ?_
                            refine y_iast B h 59 (MW.f hM 9 _ rfl) (by omega) (P' := gX 300 (iu (fun j => T 4 (j : Int)) (T 0 2) sh)) (gX_upd (by omega)) dX12_read_102 (fun H locs h => ?_)
                            have h : yH D Zk A s ((wu w 59 (am 9, xAI (ca 0) 300 (gX 300 (iu (fun j => T 4 (j : Int)) (T 0 2) sh))))) _ _ := h
                            refine lv_aload_n B.1 B.2.1 dX12_read_103 rfl (lv_at hl 0 rfl) ?_
                            refine y_getR B h kX12 50 (wu_at (MW.f hM 0 _ rfl) (by decide)) 15 (b := am 10) rfl m_1276 (by decide) dX12_read_104 ?_
                            refine lv_aload_n B.1 B.2.1 dX12_read_107 rfl (lv_at hl 0 rfl) ?_
                            refine y_getX B h kX12 50 (wu_at (MW.f hM 0 _ rfl) (by decide)) 4 (z := (T 0 2)) rfl m_1265 (by decide) dX12_read_108 ?_
                            refine lv_iload_n B.1 B.2.1 dX12_read_111 rfl (lv_at hl 2 rfl) ?_
                            refine y_iast B h 60 (wu_at (MW.f hM 10 _ rfl) (by decide)) (by omega) (P' := gX 300 (iu (fun j => T 5 (j : Int)) (T 0 2) v)) (gX_upd (by omega)) dX12_read_112 (fun H locs h => ?_)
                            have h : yH D Zk A s ((wu (wu w 59 (am 9, xAI (ca 0) 300 (gX 300 (iu (fun j => T 4 (j : Int)) (T 0 2) sh)))) 60 (am 10, xAI (ca 0) 300 (gX 300 (iu (fun j => T 5 (j : Int)) (T 0 2) v))))) _ _ := h
                            refine lv_aload_n B.1 B.2.1 dX12_read_113 rfl (lv_at hl 0 rfl) ?_
                            refine y_getR B h kX12 50 (wu_at (wu_at (MW.f hM 0 _ rfl) (by decide)) (by decide)) 16 (b := am 11) rfl m_1277 (by decide) dX12_read_114 ?_
                            refine lv_aload_n B.1 B.2.1 dX12_read_117 rfl (lv_at hl 0 rfl) ?_
                            refine y_getX B h kX12 50 (wu_at (wu_at (MW.f hM 0 _ rfl) (by decide)) (by decide)) 4 (z := (T 0 2)) rfl m_1265 (by decide) dX12_read_118 ?_
                            refine lv_iload_n B.1 B.2.1 dX12_read_121 rfl (lv_at hl 3 rfl) ?_
                            refine x_bipush B (by decide) dX12_read_122 ?_
                            refine x_idiv B (by omega) dX12_read_124 ?_
                            refine y_iast B h 61 (wu_at (wu_at (MW.f hM 11 _ rfl) (by decide)) (by decide)) (by omega) (P' := gX 300 (iu (fun j => T 6 (j : Int)) (T 0 2) (sp / 100))) (gX_upd (by omega)) dX12_read_125 (fun H locs h => ?_)
                            have h : yH D Zk A s ((wu (wu (wu w 59 (am 9, xAI (ca 0) 300 (gX 300 (iu (fun j => T 4 (j : Int)) (T 0 2) sh)))) 60 (am 10, xAI (ca 0) 300 (gX 300 (iu (fun j => T 5 (j : Int)) (T 0 2) v)))) 61 (am 11, xAI (ca 0) 300 (gX 300 (iu (fun j => T 6 (j : Int)) (T 0 2) (sp / 100)))))) _ _ := h
                            refine lv_aload_n B.1 B.2.1 dX12_read_126 rfl (lv_at hl 0 rfl) ?_
                            refine y_getR B h kX12 50 (wu_at (wu_at (wu_at (MW.f hM 0 _ rfl) (by decide)) (by decide)) (by decide)) 19 (b := am 14) rfl m_1280 (by decide) dX12_read_127 ?_
                            refine lv_aload_n B.1 B.2.1 dX12_read_130 rfl (lv_at hl 0 rfl) ?_
                            refine y_getX B h kX12 50 (wu_at (wu_at (wu_at (MW.f hM 0 _ rfl) (by decide)) (by decide)) (by decide)) 4 (z := (T 0 2)) rfl m_1265 (by decide) dX12_read_131 ?_
                            refine lv_iload_n B.1 B.2.1 dX12_read_134 rfl (lv_at hl 3 rfl) ?_
                            refine x_bipush B (by decide) dX12_read_135 ?_
                            refine x_idiv B (by omega) dX12_read_137 ?_
                            refine x_bipush B (by decide) dX12_read_138 ?_
                            refine x_irem B (by omega) dX12_read_140 ?_
                            refine y_iast B h 64 (wu_at (wu_at (wu_at (MW.f hM 14 _ rfl) (by decide)) (by decide)) (by decide)) (by omega) (P' := gX 300 (iu (fun j => T 9 (j : Int)) (T 0 2) ((sp / 10) % 10))) (gX_upd (by omega)) dX12_read_141 (fun H locs h => ?_)
                            have h : yH D Zk A s ((wu (wu (wu (wu w 59 (am 9, xAI (ca 0) 300 (gX 300 (iu (fun j => T 4 (j : Int)) (T 0 2) sh)))) 60 (am 10, xAI (ca 0) 300 (gX 300 (iu (fun j => T 5 (j : Int)) (T 0 2) v)))) 61 (am 11, xAI (ca 0) 300 (gX 300 (iu (fun j => T 6 (j : Int)) (T 0 2) (sp / 100))))) 64 (am 14, xAI (ca 0) 300 (gX 300 (iu (fun j => T 9 (j : Int)) (T 0 2) ((sp / 10) % 10)))))) _ _ := h
                            refine lv_aload_n B.1 B.2.1 dX12_read_142 rfl (lv_at hl 0 rfl) ?_
                            refine y_getR B h kX12 50 (wu_at (wu_at (wu_at (wu_at (MW.f hM 0 _ rfl) (by decide)) (by decide)) (by decide)) (by decide)) 20 (b := am 15) rfl m_1281 (by decide) dX12_read_143 ?_
                            refine lv_aload_n B.1 B.2.1 dX12_read_146 rfl (lv_at hl 0 rfl) ?_
                            refine y_getX B h kX12 50 (wu_at (wu_at (wu_at (wu_at (MW.f hM 0 _ rfl) (by decide)) (by decide)) (by decide)) (by decide)) 4 (z := (T 0 2)) rfl m_1265 (by decide) dX12_read_147 ?_
                            refine lv_iload_n B.1 B.2.1 dX12_read_150 rfl (lv_at hl 3 rfl) ?_
                            refine x_bipush B (by decide) dX12_read_151 ?_
                            refine x_irem B (by omega) dX12_read_153 ?_
                            refine y_iast B h 65 (wu_at (wu_at (wu_at (wu_at (MW.f hM 15 _ rfl) (by decide)) (by decide)) (by decide)) (by decide)) (by omega) (P' := gX 300 (iu (fun j => T 10 (j : Int)) (T 0 2) (sp % 10))) (gX_upd (by omega)) dX12_read_154 (fun H locs h => ?_)
                            have h : yH D Zk A s ((wu (wu (wu (wu (wu w 59 (am 9, xAI (ca 0) 300 (gX 300 (iu (fun j => T 4 (j : Int)) (T 0 2) sh)))) 60 (am 10, xAI (ca 0) 300 (gX 300 (iu (fun j => T 5 (j : Int)) (T 0 2) v)))) 61 (am 11, xAI (ca 0) 300 (gX 300 (iu (fun j => T 6 (j : Int)) (T 0 2) (sp / 100))))) 64 (am 14, xAI (ca 0) 300 (gX 300 (iu (fun j => T 9 (j : Int)) (T 0 2) ((sp / 10) % 10))))) 65 (am 15, xAI (ca 0) 300 (gX 300 (iu (fun j => T 10 (j : Int)) (T 0 2) (sp % 10)))))) _ _ := h
                            refine lv_aload_n B.1 B.2.1 dX12_read_155 rfl (lv_at hl 0 rfl) ?_
                            refine y_getR B h kX12 50 (wu_at (wu_at (wu_at (wu_at (wu_at (MW.f hM 0 _ rfl) (by decide)) (by decide)) (by decide)) (by decide)) (by decide)) 17 (b := am 12) rfl m_1278 (by decide) dX12_read_156 ?_
                            refine lv_aload_n B.1 B.2.1 dX12_read_159 rfl (lv_at hl 0 rfl) ?_
                            refine y_getX B h kX12 50 (wu_at (wu_at (wu_at (wu_at (wu_at (MW.f hM 0 _ rfl) (by decide)) (by decide)) (by decide)) (by decide)) (by decide)) 4 (z := (T 0 2)) rfl m_1265 (by decide) dX12_read_160 ?_
                            refine lv_iload B.1 B.2.1 dX12_read_163 (lv_at hl 4 rfl) ?_
                            refine y_iast B h 62 (wu_at (wu_at (wu_at (wu_at (wu_at (MW.f hM 12 _ rfl) (by decide)) (by decide)) (by decide)) (by decide)) (by decide)) (by omega) (P' := gX 300 (iu (fun j => T 7 (j : Int)) (T 0 2) kd)) (gX_upd (by omega)) dX12_read_165 (fun H locs h => ?_)
                            have h : yH D Zk A s ((wu (wu (wu (wu (wu (wu w 59 (am 9, xAI (ca 0) 300 (gX 300 (iu (fun j => T 4 (j : Int)) (T 0 2) sh)))) 60 (am 10, xAI (ca 0) 300 (gX 300 (iu (fun j => T 5 (j : Int)) (T 0 2) v)))) 61 (am 11, xAI (ca 0) 300 (gX 300 (iu (fun j => T 6 (j : Int)) (T 0 2) (sp / 100))))) 64 (am 14, xAI (ca 0) 300 (gX 300 (iu (fun j => T 9 (j : Int)) (T 0 2) ((sp / 10) % 10))))) 65 (am 15, xAI (ca 0) 300 (gX 300 (iu (fun j => T 10 (j : Int)) (T 0 2) (sp % 10))))) 62 (am 12, xAI (ca 0) 300 (gX 300 (iu (fun j => T 7 (j : Int)) (T 0 2) kd))))) _ _ := h
                            refine lv_aload_n B.1 B.2.1 dX12_read_166 rfl (lv_at hl 0 rfl) ?_
                            refine y_getR B h kX12 50 (wu_at (wu_at (wu_at (wu_at (wu_at (wu_at (MW.f hM 0 _ rfl) (by decide)) (by decide)) (by decide)) (by decide)) (by decide)) (by decide)) 18 (b := am 13) rfl m_1279 (by decide) dX12_read_167 ?_
                            refine lv_aload_n B.1 B.2.1 dX12_read_170 rfl (lv_at hl 0 rfl) ?_
                            refine y_getX B h kX12 50 (wu_at (wu_at (wu_at (wu_at (wu_at (wu_at (MW.f hM 0 _ rfl) (by decide)) (by decide)) (by decide)) (by decide)) (by decide)) (by decide)) 4 (z := (T 0 2)) rfl m_1265 (by decide) dX12_read_171 ?_
                            refine lv_iload B.1 B.2.1 dX12_read_174 (lv_at hl 5 rfl) ?_
                            refine y_iast B h 63 (wu_at (wu_at (wu_at (wu_at (wu_at (wu_at (MW.f hM 13 _ rfl) (by decide)) (by decide)) (by decide)) (by decide)) (by decide)) (by decide)) (by omega) (P' := gX 300 (iu (fun j => T 8 (j : Int)) (T 0 2) nb)) (gX_upd (by omega)) dX12_read_176 (fun H locs h => ?_)
                            have h : yH D Zk A s ((wu (wu (wu (wu (wu (wu (wu w 59 (am 9, xAI (ca 0) 300 (gX 300 (iu (fun j => T 4 (j : Int)) (T 0 2) sh)))) 60 (am 10, xAI (ca 0) 300 (gX 300 (iu (fun j => T 5 (j : Int)) (T 0 2) v)))) 61 (am 11, xAI (ca 0) 300 (gX 300 (iu (fun j => T 6 (j : Int)) (T 0 2) (sp / 100))))) 64 (am 14, xAI (ca 0) 300 (gX 300 (iu (fun j => T 9 (j : Int)) (T 0 2) ((sp / 10) % 10))))) 65 (am 15, xAI (ca 0) 300 (gX 300 (iu (fun j => T 10 (j : Int)) (T 0 2) (sp % 10))))) 62 (am 12, xAI (ca 0) 300 (gX 300 (iu (fun j => T 7 (j : Int)) (T 0 2) kd)))) 63 (am 13, xAI (ca 0) 300 (gX 300 (iu (fun j => T 8 (j : Int)) (T 0 2) nb))))) _ _ := h
                            refine lv_aload_n B.1 B.2.1 dX12_read_177 rfl (lv_at hl 0 rfl) ?_
                            refine lv_dup B.1 B.2.1 dX12_read_178 rfl ?_
                            refine y_getX B h kX12 50 (wu_at (wu_at (wu_at (wu_at (wu_at (wu_at (wu_at (MW.f hM 0 _ rfl) (by decide)) (by decide)) (by decide)) (by decide)) (by decide)) (by decide)) (by decide)) 4 (z := (T 0 2)) rfl m_1265 (by decide) dX12_read_179 ?_
                            refine x_iconst B dX12_read_182 ?_
                            refine x_iadd B dX12_read_183 ?_
                            refine y_put B h kX12 50 (wu_at (wu_at (wu_at (wu_at (wu_at (wu_at (wu_at (MW.f hM 0 _ rfl) (by decide)) (by decide)) (by decide)) (by decide)) (by decide)) (by decide)) (by decide)) 4 (Nat.le_of_ble_eq_true rfl) (P' := fX ((T 0 2) + 1)) m_1265 (by decide) rfl rfl rfl rfl dX12_read_184 (fun H locs h => ?_)
                            have h : yH D Zk A s ((wu (wu (wu (wu (wu (wu (wu (wu w 59 (am 9, xAI (ca 0) 300 (gX 300 (iu (fun j => T 4 (j : Int)) (T 0 2) sh)))) 60 (am 10, xAI (ca 0) 300 (gX 300 (iu (fun j => T 5 (j : Int)) (T 0 2) v)))) 61 (am 11, xAI (ca 0) 300 (gX 300 (iu (fun j => T 6 (j : Int)) (T 0 2) (sp / 100))))) 64 (am 14, xAI (ca 0) 300 (gX 300 (iu (fun j => T 9 (j : Int)) (T 0 2) ((sp / 10) % 10))))) 65 (am 15, xAI (ca 0) 300 (gX 300 (iu (fun j => T 10 (j : Int)) (T 0 2) (sp % 10))))) 62 (am 12, xAI (ca 0) 300 (gX 300 (iu (fun j => T 7 (j : Int)) (T 0 2) kd)))) 63 (am 13, xAI (ca 0) 300 (gX 300 (iu (fun j => T 8 (j : Int)) (T 0 2) nb)))) 50 (am 0, xO 12 [fR (am 1), fX (T 0 0), fX (T 0 1), fX (T 0 3), fX ((T 0 2) + 1), fX (T 0 4), fX (T 0 5), fR (am 2), fR (am 3), fR (am 4), fR (am 5), fR (am 6), fR (am 7), fR (am 8), fR (am 9), fR (am 10), fR (am 11), fR (am 12), fR (am 13), fR (am 14), fR (am 15), fR (am 16), fR (am 17), fX (E 0 0), fR (am 18), fR (am 19), fR (am 20), fR (am 21), fR (am 22), fR (am 23), fR (am 24), fR (am 25), fG 0 900, fG (-2147483648) 2147483647, fG 0 900, fG 0 900, fG 0 900, fG (-2147483648) 2147483647, fG (-2147483648) 2147483647, fG 0 24, fG 0 41, fG 0 319, fL, fG 0 1, fR (am 26), fG 0 48, fG 0 9, fR (am 27), fR (am 28), fR (am 29), fR (am 30), fR (am 31), fG (-2147483648) 2147483647, fG (-2147483648) 2147483647, fG 0 12, fG (-2147483648) 2147483647, fR (am 32), fG 0 1, fX (E 0 5), fG (-2147483648) 2147483647, fG (-2147483648) 2147483647, fR (am 33), fR (am 34), fR (am 35), fG (-2147483648) 2147483647, fG (-2147483648) 2147483647, fR (am 36), fR (am 37), fR (am 38), fX (T 0 10), fX (T 0 11), fX (T 0 12), fX (T 0 13), fR (am 39), fX (T 0 6), fR (am 40), fR (am 41), fR (am 42), fR (am 43), fR (am 44)]))) _ _ := h
                            refine lv_aload_n B.1 B.2.1 dX12_read_187 rfl (lv_at hl 0 rfl) ?_
                            refine y_getX B h kX12 50 wu_eq 4 (z := ((T 0 2) + 1)) rfl m_1265 (by decide) dX12_read_188 ?_
                            refine x_iconst B dX12_read_191 ?_
                            refine x_isub B dX12_read_192 ?_
                            refine y_ri B hQ h (by decide) dX12_read_193 ?_
                            have q8 : ∀ k : Int, 0 ≤ k ∧ k < T 0 2 → ¬ (T 4 k = sh ∧ T 5 k = v) := (by rcases hz12 with ⟨-, a⟩ | ⟨a, -, -⟩; exact a; omega)
                            exact ⟨_, rfl, Or.inl ⟨⟨⟨by omega, by omega, by omega, by omega, by omega, q8⟩, by omega⟩, by omega, mw_read hM (by omega) (by omega) (by omega) (by omega) (by omega) (by omega) q8 (fun k k0 k1 k2 k3 k4 k5 k6 k7 => by rw [wu_ne (by omega), wu_ne (by omega), wu_ne (by omega), wu_ne (by omega), wu_ne (by omega), wu_ne (by omega), wu_ne (by omega), wu_ne (by omega)]) wu_eq (wu_at (wu_at (wu_at (wu_at (wu_at (wu_at (wu_at wu_eq (by decide)) (by decide)) (by decide)) (by decide)) (by decide)) (by decide)) (by decide)) (wu_at (wu_at (wu_at (wu_at (wu_at (wu_at wu_eq (by decide)) (by decide)) (by decide)) (by decide)) (by decide)) (by decide)) (wu_at (wu_at (wu_at (wu_at (wu_at wu_eq (by decide)) (by decide)) (by decide)) (by decide)) (by decide)) (wu_at (wu_at wu_eq (by decide)) (by decide)) (wu_at wu_eq (by decide)) (wu_at (wu_at (wu_at (wu_at wu_eq (by decide)) (by decide)) (by decide)) (by decide)) (wu_at (wu_at (wu_at wu_eq (by decide)) (by decide)) (by decide)), fun k h1 => by rw [wu_ne (by omega), wu_ne (by omega), wu_ne (by omega), wu_ne (by omega), wu_ne (by omega), wu_ne (by omega), wu_ne (by omega), wu_ne (by omega)]⟩⟩
                          · refine lv_aload_n B.1 B.2.1 dX12_read_87 rfl (lv_at hl 0 rfl) ?_
                            refine x_iconst B dX12_read_88 ?_
                            refine y_cV B h kX12 50 (MW.f hM 0 _ rfl) k_X12_refuse rfl (c_X12_refuse l D Zk ca T E am _ hM 1  (by omega)) m_1507 rfl (by decide) hl.1 [] (Nat.le_of_ble_eq_true rfl) rfl dX12_read_89 (fun r w1 hq H locs h => ?_)
                            obtain ⟨rfl, z15, rfl, hz15⟩ := hq
                            show W p l e r_c_X12_read s m args below meth c _ _ 0 0 Qf (F0 m 92 ls [.int (iI z15)])
                            refine y_ri B hQ h (by decide) dX12_read_92 ?_
                            exact ⟨_, rfl, Or.inr ⟨fun q9 => by first | (have q7 := q9.2; omega) | (obtain ⟨⟨q1, q2, q3, q4, q5, -⟩, q7⟩ := q9; omega) | (rcases hz12 with ⟨a, -⟩ | ⟨a, b, d⟩; omega; exact q9.1.2.2.2.2.2 z12 a ⟨b, d⟩), by omega, rfl⟩⟩
                        · refine lv_aload_n B.1 B.2.1 dX12_read_71 rfl (lv_at hl 0 rfl) ?_
                          refine x_iconst B dX12_read_72 ?_
                          refine y_cV B h kX12 50 (MW.f hM 0 _ rfl) k_X12_refuse rfl (c_X12_refuse l D Zk ca T E am _ hM 0  (by omega)) m_1507 rfl (by decide) hl.1 [] (Nat.le_of_ble_eq_true rfl) rfl dX12_read_73 (fun r w1 hq H locs h => ?_)
                          obtain ⟨rfl, z16, rfl, hz16⟩ := hq
                          show W p l e r_c_X12_read s m args below meth c _ _ 0 0 Qf (F0 m 76 ls [.int (iI z16)])
                          refine y_ri B hQ h (by decide) dX12_read_76 ?_
                          exact ⟨_, rfl, Or.inr ⟨fun q9 => by first | (have q7 := q9.2; omega) | (obtain ⟨⟨q1, q2, q3, q4, q5, -⟩, q7⟩ := q9; omega) | (rcases hz12 with ⟨a, -⟩ | ⟨a, b, d⟩; omega; exact q9.1.2.2.2.2.2 z12 a ⟨b, d⟩), by omega, rfl⟩⟩
                    · show W p l e r_c_X12_read s m args below meth c _ _ 0 0 Qf (F0 m 59 ls [.int (iI 0)])
                      refine x_if_eq B (by omega) (tgt := 71) dX12_read_59 (by decide) (fun c17 => ?_) (fun c17 => ?_)
                      · refine lv_aload_n B.1 B.2.1 dX12_read_71 rfl (lv_at hl 0 rfl) ?_
                        refine x_iconst B dX12_read_72 ?_
                        refine y_cV B h kX12 50 (MW.f hM 0 _ rfl) k_X12_refuse rfl (c_X12_refuse l D Zk ca T E am _ hM 0  (by omega)) m_1507 rfl (by decide) hl.1 [] (Nat.le_of_ble_eq_true rfl) rfl dX12_read_73 (fun r w1 hq H locs h => ?_)
                        obtain ⟨rfl, z18, rfl, hz18⟩ := hq
                        show W p l e r_c_X12_read s m args below meth c _ _ 0 0 Qf (F0 m 76 ls [.int (iI z18)])
                        refine y_ri B hQ h (by decide) dX12_read_76 ?_
                        exact ⟨_, rfl, Or.inr ⟨fun q9 => by first | (have q7 := q9.2; omega) | (obtain ⟨⟨q1, q2, q3, q4, q5, -⟩, q7⟩ := q9; omega), by omega, rfl⟩⟩
                      · exact absurd c17 (by omega)
                  · refine x_bipush B (by decide) dX12_read_49 ?_
                    refine lv_goto (tgt := 56) B.1 B.2.1 dX12_read_51 (by decide) ?_
                    refine y_cS B h k_X12_within (c_X12_within l D Zk ca _ nb 0 99  (by omega) (by omega) (by omega)) m_1515 rfl (by decide) hl.1 [] (Nat.le_of_ble_eq_true rfl) rfl dX12_read_56 (fun r w1 hq H locs h => ?_)
                    obtain ⟨rfl, _, rfl, ⟨rfl, b19⟩ | ⟨rfl, b19⟩⟩ := hq
                    · show W p l e r_c_X12_read s m args below meth c _ _ 0 0 Qf (F0 m 59 ls [.int (iI 1)])
                      refine x_if_eq B (by omega) (tgt := 71) dX12_read_59 (by decide) (fun c20 => ?_) (fun c20 => ?_)
                      · exact absurd c20 (by omega)
                      · refine lv_aload_n B.1 B.2.1 dX12_read_62 rfl (lv_at hl 0 rfl) ?_
                        refine lv_iload_n B.1 B.2.1 dX12_read_63 rfl (lv_at hl 1 rfl) ?_
                        refine lv_iload_n B.1 B.2.1 dX12_read_64 rfl (lv_at hl 2 rfl) ?_
                        refine y_cV B h kX12 50 (MW.f hM 0 _ rfl) k_X12_readingOf rfl (c_X12_readingOf l D Zk ca T E am _ hM sh v  (by omega) (by omega)) m_1542 rfl (by decide) hl.1 [] (Nat.le_of_ble_eq_true rfl) rfl dX12_read_65 (fun r w1 hq H locs h => ?_)
                        obtain ⟨rfl, z21, rfl, hz21⟩ := hq
                        show W p l e r_c_X12_read s m args below meth c _ _ 0 0 Qf (F0 m 68 ls [.int (iI z21)])
                        refine x_if_lt B (by omega) (tgt := 77) dX12_read_68 (by decide) (fun c22 => ?_) (fun c22 => ?_)
                        · refine lv_aload_n B.1 B.2.1 dX12_read_77 rfl (lv_at hl 0 rfl) ?_
                          refine y_getX B h kX12 50 (MW.f hM 0 _ rfl) 4 (z := (T 0 2)) rfl m_1265 (by decide) dX12_read_78 ?_
                          refine x_sipush B (by decide) dX12_read_81 ?_
                          refine x_icmp_ne B (by omega) (tgt := 93) dX12_read_84 (by decide) (fun c23 => ?_) (fun c23 => ?_)
                          · refine lv_aload_n B.1 B.2.1 dX12_read_93 rfl (lv_at hl 0 rfl) ?_
                            refine y_getR B h kX12 50 (MW.f hM 0 _ rfl) 14 (b := am 9) rfl m_1275 (by decide) dX12_read_94 ?_
                            refine lv_aload_n B.1 B.2.1 dX12_read_97 rfl (lv_at hl 0 rfl) ?_
                            refine y_getX B h kX12 50 (MW.f hM 0 _ rfl) 4 (z := (T 0 2)) rfl m_1265 (by decide) dX12_read_98 ?_
                            refine lv_iload_n B.1 B.2.1 dX12_read_101 rfl (lv_at hl 1 rfl) ?_
                            refine y_iast B h 59 (MW.f hM 9 _ rfl) (by omega) (P' := gX 300 (iu (fun j => T 4 (j : Int)) (T 0 2) sh)) (gX_upd (by omega)) dX12_read_102 (fun H locs h => ?_)
                            have h : yH D Zk A s ((wu w 59 (am 9, xAI (ca 0) 300 (gX 300 (iu (fun j => T 4 (j : Int)) (T 0 2) sh))))) _ _ := h
                            refine lv_aload_n B.1 B.2.1 dX12_read_103 rfl (lv_at hl 0 rfl) ?_
                            refine y_getR B h kX12 50 (wu_at (MW.f hM 0 _ rfl) (by decide)) 15 (b := am 10) rfl m_1276 (by decide) dX12_read_104 ?_
                            refine lv_aload_n B.1 B.2.1 dX12_read_107 rfl (lv_at hl 0 rfl) ?_
                            refine y_getX B h kX12 50 (wu_at (MW.f hM 0 _ rfl) (by decide)) 4 (z := (T 0 2)) rfl m_1265 (by decide) dX12_read_108 ?_
                            refine lv_iload_n B.1 B.2.1 dX12_read_111 rfl (lv_at hl 2 rfl) ?_
                            refine y_iast B h 60 (wu_at (MW.f hM 10 _ rfl) (by decide)) (by omega) (P' := gX 300 (iu (fun j => T 5 (j : Int)) (T 0 2) v)) (gX_upd (by omega)) dX12_read_112 (fun H locs h => ?_)
                            have h : yH D Zk A s ((wu (wu w 59 (am 9, xAI (ca 0) 300 (gX 300 (iu (fun j => T 4 (j : Int)) (T 0 2) sh)))) 60 (am 10, xAI (ca 0) 300 (gX 300 (iu (fun j => T 5 (j : Int)) (T 0 2) v))))) _ _ := h
                            refine lv_aload_n B.1 B.2.1 dX12_read_113 rfl (lv_at hl 0 rfl) ?_
                            refine y_getR B h kX12 50 (wu_at (wu_at (MW.f hM 0 _ rfl) (by decide)) (by decide)) 16 (b := am 11) rfl m_1277 (by decide) dX12_read_114 ?_
                            refine lv_aload_n B.1 B.2.1 dX12_read_117 rfl (lv_at hl 0 rfl) ?_
                            refine y_getX B h kX12 50 (wu_at (wu_at (MW.f hM 0 _ rfl) (by decide)) (by decide)) 4 (z := (T 0 2)) rfl m_1265 (by decide) dX12_read_118 ?_
                            refine lv_iload_n B.1 B.2.1 dX12_read_121 rfl (lv_at hl 3 rfl) ?_
                            refine x_bipush B (by decide) dX12_read_122 ?_
                            refine x_idiv B (by omega) dX12_read_124 ?_
                            refine y_iast B h 61 (wu_at (wu_at (MW.f hM 11 _ rfl) (by decide)) (by decide)) (by omega) (P' := gX 300 (iu (fun j => T 6 (j : Int)) (T 0 2) (sp / 100))) (gX_upd (by omega)) dX12_read_125 (fun H locs h => ?_)
                            have h : yH D Zk A s ((wu (wu (wu w 59 (am 9, xAI (ca 0) 300 (gX 300 (iu (fun j => T 4 (j : Int)) (T 0 2) sh)))) 60 (am 10, xAI (ca 0) 300 (gX 300 (iu (fun j => T 5 (j : Int)) (T 0 2) v)))) 61 (am 11, xAI (ca 0) 300 (gX 300 (iu (fun j => T 6 (j : Int)) (T 0 2) (sp / 100)))))) _ _ := h
                            refine lv_aload_n B.1 B.2.1 dX12_read_126 rfl (lv_at hl 0 rfl) ?_
                            refine y_getR B h kX12 50 (wu_at (wu_at (wu_at (MW.f hM 0 _ rfl) (by decide)) (by decide)) (by decide)) 19 (b := am 14) rfl m_1280 (by decide) dX12_read_127 ?_
                            refine lv_aload_n B.1 B.2.1 dX12_read_130 rfl (lv_at hl 0 rfl) ?_
                            refine y_getX B h kX12 50 (wu_at (wu_at (wu_at (MW.f hM 0 _ rfl) (by decide)) (by decide)) (by decide)) 4 (z := (T 0 2)) rfl m_1265 (by decide) dX12_read_131 ?_
                            refine lv_iload_n B.1 B.2.1 dX12_read_134 rfl (lv_at hl 3 rfl) ?_
                            refine x_bipush B (by decide) dX12_read_135 ?_
                            refine x_idiv B (by omega) dX12_read_137 ?_
                            refine x_bipush B (by decide) dX12_read_138 ?_
                            refine x_irem B (by omega) dX12_read_140 ?_
                            refine y_iast B h 64 (wu_at (wu_at (wu_at (MW.f hM 14 _ rfl) (by decide)) (by decide)) (by decide)) (by omega) (P' := gX 300 (iu (fun j => T 9 (j : Int)) (T 0 2) ((sp / 10) % 10))) (gX_upd (by omega)) dX12_read_141 (fun H locs h => ?_)
                            have h : yH D Zk A s ((wu (wu (wu (wu w 59 (am 9, xAI (ca 0) 300 (gX 300 (iu (fun j => T 4 (j : Int)) (T 0 2) sh)))) 60 (am 10, xAI (ca 0) 300 (gX 300 (iu (fun j => T 5 (j : Int)) (T 0 2) v)))) 61 (am 11, xAI (ca 0) 300 (gX 300 (iu (fun j => T 6 (j : Int)) (T 0 2) (sp / 100))))) 64 (am 14, xAI (ca 0) 300 (gX 300 (iu (fun j => T 9 (j : Int)) (T 0 2) ((sp / 10) % 10)))))) _ _ := h
                            refine lv_aload_n B.1 B.2.1 dX12_read_142 rfl (lv_at hl 0 rfl) ?_
                            refine y_getR B h kX12 50 (wu_at (wu_at (wu_at (wu_at (MW.f hM 0 _ rfl) (by decide)) (by decide)) (by decide)) (by decide)) 20 (b := am 15) rfl m_1281 (by decide) dX12_read_143 ?_
                            refine lv_aload_n B.1 B.2.1 dX12_read_146 rfl (lv_at hl 0 rfl) ?_
                            refine y_getX B h kX12 50 (wu_at (wu_at (wu_at (wu_at (MW.f hM 0 _ rfl) (by decide)) (by decide)) (by decide)) (by decide)) 4 (z := (T 0 2)) rfl m_1265 (by decide) dX12_read_147 ?_
                            refine lv_iload_n B.1 B.2.1 dX12_read_150 rfl (lv_at hl 3 rfl) ?_
                            refine x_bipush B (by decide) dX12_read_151 ?_
                            refine x_irem B (by omega) dX12_read_153 ?_
                            refine y_iast B h 65 (wu_at (wu_at (wu_at (wu_at (MW.f hM 15 _ rfl) (by decide)) (by decide)) (by decide)) (by decide)) (by omega) (P' := gX 300 (iu (fun j => T 10 (j : Int)) (T 0 2) (sp % 10))) (gX_upd (by omega)) dX12_read_154 (fun H locs h => ?_)
                            have h : yH D Zk A s ((wu (wu (wu (wu (wu w 59 (am 9, xAI (ca 0) 300 (gX 300 (iu (fun j => T 4 (j : Int)) (T 0 2) sh)))) 60 (am 10, xAI (ca 0) 300 (gX 300 (iu (fun j => T 5 (j : Int)) (T 0 2) v)))) 61 (am 11, xAI (ca 0) 300 (gX 300 (iu (fun j => T 6 (j : Int)) (T 0 2) (sp / 100))))) 64 (am 14, xAI (ca 0) 300 (gX 300 (iu (fun j => T 9 (j : Int)) (T 0 2) ((sp / 10) % 10))))) 65 (am 15, xAI (ca 0) 300 (gX 300 (iu (fun j => T 10 (j : Int)) (T 0 2) (sp % 10)))))) _ _ := h
                            refine lv_aload_n B.1 B.2.1 dX12_read_155 rfl (lv_at hl 0 rfl) ?_
                            refine y_getR B h kX12 50 (wu_at (wu_at (wu_at (wu_at (wu_at (MW.f hM 0 _ rfl) (by decide)) (by decide)) (by decide)) (by decide)) (by decide)) 17 (b := am 12) rfl m_1278 (by decide) dX12_read_156 ?_
                            refine lv_aload_n B.1 B.2.1 dX12_read_159 rfl (lv_at hl 0 rfl) ?_
                            refine y_getX B h kX12 50 (wu_at (wu_at (wu_at (wu_at (wu_at (MW.f hM 0 _ rfl) (by decide)) (by decide)) (by decide)) (by decide)) (by decide)) 4 (z := (T 0 2)) rfl m_1265 (by decide) dX12_read_160 ?_
                            refine lv_iload B.1 B.2.1 dX12_read_163 (lv_at hl 4 rfl) ?_
                            refine y_iast B h 62 (wu_at (wu_at (wu_at (wu_at (wu_at (MW.f hM 12 _ rfl) (by decide)) (by decide)) (by decide)) (by decide)) (by decide)) (by omega) (P' := gX 300 (iu (fun j => T 7 (j : Int)) (T 0 2) kd)) (gX_upd (by omega)) dX12_read_165 (fun H locs h => ?_)
                            have h : yH D Zk A s ((wu (wu (wu (wu (wu (wu w 59 (am 9, xAI (ca 0) 300 (gX 300 (iu (fun j => T 4 (j : Int)) (T 0 2) sh)))) 60 (am 10, xAI (ca 0) 300 (gX 300 (iu (fun j => T 5 (j : Int)) (T 0 2) v)))) 61 (am 11, xAI (ca 0) 300 (gX 300 (iu (fun j => T 6 (j : Int)) (T 0 2) (sp / 100))))) 64 (am 14, xAI (ca 0) 300 (gX 300 (iu (fun j => T 9 (j : Int)) (T 0 2) ((sp / 10) % 10))))) 65 (am 15, xAI (ca 0) 300 (gX 300 (iu (fun j => T 10 (j : Int)) (T 0 2) (sp % 10))))) 62 (am 12, xAI (ca 0) 300 (gX 300 (iu (fun j => T 7 (j : Int)) (T 0 2) kd))))) _ _ := h
                            refine lv_aload_n B.1 B.2.1 dX12_read_166 rfl (lv_at hl 0 rfl) ?_
                            refine y_getR B h kX12 50 (wu_at (wu_at (wu_at (wu_at (wu_at (wu_at (MW.f hM 0 _ rfl) (by decide)) (by decide)) (by decide)) (by decide)) (by decide)) (by decide)) 18 (b := am 13) rfl m_1279 (by decide) dX12_read_167 ?_
                            refine lv_aload_n B.1 B.2.1 dX12_read_170 rfl (lv_at hl 0 rfl) ?_
                            refine y_getX B h kX12 50 (wu_at (wu_at (wu_at (wu_at (wu_at (wu_at (MW.f hM 0 _ rfl) (by decide)) (by decide)) (by decide)) (by decide)) (by decide)) (by decide)) 4 (z := (T 0 2)) rfl m_1265 (by decide) dX12_read_171 ?_
                            refine lv_iload B.1 B.2.1 dX12_read_174 (lv_at hl 5 rfl) ?_
                            refine y_iast B h 63 (wu_at (wu_at (wu_at (wu_at (wu_at (wu_at (MW.f hM 13 _ rfl) (by decide)) (by decide)) (by decide)) (by decide)) (by decide)) (by decide)) (by omega) (P' := gX 300 (iu (fun j => T 8 (j : Int)) (T 0 2) nb)) (gX_upd (by omega)) dX12_read_176 (fun H locs h => ?_)
                            have h : yH D Zk A s ((wu (wu (wu (wu (wu (wu (wu w 59 (am 9, xAI (ca 0) 300 (gX 300 (iu (fun j => T 4 (j : Int)) (T 0 2) sh)))) 60 (am 10, xAI (ca 0) 300 (gX 300 (iu (fun j => T 5 (j : Int)) (T 0 2) v)))) 61 (am 11, xAI (ca 0) 300 (gX 300 (iu (fun j => T 6 (j : Int)) (T 0 2) (sp / 100))))) 64 (am 14, xAI (ca 0) 300 (gX 300 (iu (fun j => T 9 (j : Int)) (T 0 2) ((sp / 10) % 10))))) 65 (am 15, xAI (ca 0) 300 (gX 300 (iu (fun j => T 10 (j : Int)) (T 0 2) (sp % 10))))) 62 (am 12, xAI (ca 0) 300 (gX 300 (iu (fun j => T 7 (j : Int)) (T 0 2) kd)))) 63 (am 13, xAI (ca 0) 300 (gX 300 (iu (fun j => T 8 (j : Int)) (T 0 2) nb))))) _ _ := h
                            refine lv_aload_n B.1 B.2.1 dX12_read_177 rfl (lv_at hl 0 rfl) ?_
                            refine lv_dup B.1 B.2.1 dX12_read_178 rfl ?_
                            refine y_getX B h kX12 50 (wu_at (wu_at (wu_at (wu_at (wu_at (wu_at (wu_at (MW.f hM 0 _ rfl) (by decide)) (by decide)) (by decide)) (by decide)) (by decide)) (by decide)) (by decide)) 4 (z := (T 0 2)) rfl m_1265 (by decide) dX12_read_179 ?_
                            refine x_iconst B dX12_read_182 ?_
                            refine x_iadd B dX12_read_183 ?_
                            refine y_put B h kX12 50 (wu_at (wu_at (wu_at (wu_at (wu_at (wu_at (wu_at (MW.f hM 0 _ rfl) (by decide)) (by decide)) (by decide)) (by decide)) (by decide)) (by decide)) (by decide)) 4 (Nat.le_of_ble_eq_true rfl) (P' := fX ((T 0 2) + 1)) m_1265 (by decide) rfl rfl rfl rfl dX12_read_184 (fun H locs h => ?_)
                            have h : yH D Zk A s ((wu (wu (wu (wu (wu (wu (wu (wu w 59 (am 9, xAI (ca 0) 300 (gX 300 (iu (fun j => T 4 (j : Int)) (T 0 2) sh)))) 60 (am 10, xAI (ca 0) 300 (gX 300 (iu (fun j => T 5 (j : Int)) (T 0 2) v)))) 61 (am 11, xAI (ca 0) 300 (gX 300 (iu (fun j => T 6 (j : Int)) (T 0 2) (sp / 100))))) 64 (am 14, xAI (ca 0) 300 (gX 300 (iu (fun j => T 9 (j : Int)) (T 0 2) ((sp / 10) % 10))))) 65 (am 15, xAI (ca 0) 300 (gX 300 (iu (fun j => T 10 (j : Int)) (T 0 2) (sp % 10))))) 62 (am 12, xAI (ca 0) 300 (gX 300 (iu (fun j => T 7 (j : Int)) (T 0 2) kd)))) 63 (am 13, xAI (ca 0) 300 (gX 300 (iu (fun j => T 8 (j : Int)) (T 0 2) nb)))) 50 (am 0, xO 12 [fR (am 1), fX (T 0 0), fX (T 0 1), fX (T 0 3), fX ((T 0 2) + 1), fX (T 0 4), fX (T 0 5), fR (am 2), fR (am 3), fR (am 4), fR (am 5), fR (am 6), fR (am 7), fR (am 8), fR (am 9), fR (am 10), fR (am 11), fR (am 12), fR (am 13), fR (am 14), fR (am 15), fR (am 16), fR (am 17), fX (E 0 0), fR (am 18), fR (am 19), fR (am 20), fR (am 21), fR (am 22), fR (am 23), fR (am 24), fR (am 25), fG 0 900, fG (-2147483648) 2147483647, fG 0 900, fG 0 900, fG 0 900, fG (-2147483648) 2147483647, fG (-2147483648) 2147483647, fG 0 24, fG 0 41, fG 0 319, fL, fG 0 1, fR (am 26), fG 0 48, fG 0 9, fR (am 27), fR (am 28), fR (am 29), fR (am 30), fR (am 31), fG (-2147483648) 2147483647, fG (-2147483648) 2147483647, fG 0 12, fG (-2147483648) 2147483647, fR (am 32), fG 0 1, fX (E 0 5), fG (-2147483648) 2147483647, fG (-2147483648) 2147483647, fR (am 33), fR (am 34), fR (am 35), fG (-2147483648) 2147483647, fG (-2147483648) 2147483647, fR (am 36), fR (am 37), fR (am 38), fX (T 0 10), fX (T 0 11), fX (T 0 12), fX (T 0 13), fR (am 39), fX (T 0 6), fR (am 40), fR (am 41), fR (am 42), fR (am 43), fR (am 44)]))) _ _ := h
                            refine lv_aload_n B.1 B.2.1 dX12_read_187 rfl (lv_at hl 0 rfl) ?_
                            refine y_getX B h kX12 50 wu_eq 4 (z := ((T 0 2) + 1)) rfl m_1265 (by decide) dX12_read_188 ?_
                            refine x_iconst B dX12_read_191 ?_
                            refine x_isub B dX12_read_192 ?_
                            refine y_ri B hQ h (by decide) dX12_read_193 ?_
                            have q8 : ∀ k : Int, 0 ≤ k ∧ k < T 0 2 → ¬ (T 4 k = sh ∧ T 5 k = v) := (by rcases hz21 with ⟨-, a⟩ | ⟨a, -, -⟩; exact a; omega)
                            exact ⟨_, rfl, Or.inl ⟨⟨⟨by omega, by omega, by omega, by omega, by omega, q8⟩, by omega⟩, by omega, mw_read hM (by omega) (by omega) (by omega) (by omega) (by omega) (by omega) q8 (fun k k0 k1 k2 k3 k4 k5 k6 k7 => by rw [wu_ne (by omega), wu_ne (by omega), wu_ne (by omega), wu_ne (by omega), wu_ne (by omega), wu_ne (by omega), wu_ne (by omega), wu_ne (by omega)]) wu_eq (wu_at (wu_at (wu_at (wu_at (wu_at (wu_at (wu_at wu_eq (by decide)) (by decide)) (by decide)) (by decide)) (by decide)) (by decide)) (by decide)) (wu_at (wu_at (wu_at (wu_at (wu_at (wu_at wu_eq (by decide)) (by decide)) (by decide)) (by decide)) (by decide)) (by decide)) (wu_at (wu_at (wu_at (wu_at (wu_at wu_eq (by decide)) (by decide)) (by decide)) (by decide)) (by decide)) (wu_at (wu_at wu_eq (by decide)) (by decide)) (wu_at wu_eq (by decide)) (wu_at (wu_at (wu_at (wu_at wu_eq (by decide)) (by decide)) (by decide)) (by decide)) (wu_at (wu_at (wu_at wu_eq (by decide)) (by decide)) (by decide)), fun k h1 => by rw [wu_ne (by omega), wu_ne (by omega), wu_ne (by omega), wu_ne (by omega), wu_ne (by omega), wu_ne (by omega), wu_ne (by omega), wu_ne (by omega)]⟩⟩
                          · refine lv_aload_n B.1 B.2.1 dX12_read_87 rfl (lv_at hl 0 rfl) ?_
                            refine x_iconst B dX12_read_88 ?_
                            refine y_cV B h kX12 50 (MW.f hM 0 _ rfl) k_X12_refuse rfl (c_X12_refuse l D Zk ca T E am _ hM 1  (by omega)) m_1507 rfl (by decide) hl.1 [] (Nat.le_of_ble_eq_true rfl) rfl dX12_read_89 (fun r w1 hq H locs h => ?_)
                            obtain ⟨rfl, z24, rfl, hz24⟩ := hq
                            show W p l e r_c_X12_read s m args below meth c _ _ 0 0 Qf (F0 m 92 ls [.int (iI z24)])
                            refine y_ri B hQ h (by decide) dX12_read_92 ?_
                            exact ⟨_, rfl, Or.inr ⟨fun q9 => by first | (have q7 := q9.2; omega) | (obtain ⟨⟨q1, q2, q3, q4, q5, -⟩, q7⟩ := q9; omega) | (rcases hz21 with ⟨a, -⟩ | ⟨a, b, d⟩; omega; exact q9.1.2.2.2.2.2 z21 a ⟨b, d⟩), by omega, rfl⟩⟩
                        · refine lv_aload_n B.1 B.2.1 dX12_read_71 rfl (lv_at hl 0 rfl) ?_
                          refine x_iconst B dX12_read_72 ?_
                          refine y_cV B h kX12 50 (MW.f hM 0 _ rfl) k_X12_refuse rfl (c_X12_refuse l D Zk ca T E am _ hM 0  (by omega)) m_1507 rfl (by decide) hl.1 [] (Nat.le_of_ble_eq_true rfl) rfl dX12_read_73 (fun r w1 hq H locs h => ?_)
                          obtain ⟨rfl, z25, rfl, hz25⟩ := hq
                          show W p l e r_c_X12_read s m args below meth c _ _ 0 0 Qf (F0 m 76 ls [.int (iI z25)])
                          refine y_ri B hQ h (by decide) dX12_read_76 ?_
                          exact ⟨_, rfl, Or.inr ⟨fun q9 => by first | (have q7 := q9.2; omega) | (obtain ⟨⟨q1, q2, q3, q4, q5, -⟩, q7⟩ := q9; omega) | (rcases hz21 with ⟨a, -⟩ | ⟨a, b, d⟩; omega; exact q9.1.2.2.2.2.2 z21 a ⟨b, d⟩), by omega, rfl⟩⟩
                    · show W p l e r_c_X12_read s m args below meth c _ _ 0 0 Qf (F0 m 59 ls [.int (iI 0)])
                      refine x_if_eq B (by omega) (tgt := 71) dX12_read_59 (by decide) (fun c26 => ?_) (fun c26 => ?_)
                      · refine lv_aload_n B.1 B.2.1 dX12_read_71 rfl (lv_at hl 0 rfl) ?_
                        refine x_iconst B dX12_read_72 ?_
                        refine y_cV B h kX12 50 (MW.f hM 0 _ rfl) k_X12_refuse rfl (c_X12_refuse l D Zk ca T E am _ hM 0  (by omega)) m_1507 rfl (by decide) hl.1 [] (Nat.le_of_ble_eq_true rfl) rfl dX12_read_73 (fun r w1 hq H locs h => ?_)
                        obtain ⟨rfl, z27, rfl, hz27⟩ := hq
                        show W p l e r_c_X12_read s m args below meth c _ _ 0 0 Qf (F0 m 76 ls [.int (iI z27)])
                        refine y_ri B hQ h (by decide) dX12_read_76 ?_
                        exact ⟨_, rfl, Or.inr ⟨fun q9 => by first | (have q7 := q9.2; omega) | (obtain ⟨⟨q1, q2, q3, q4, q5, -⟩, q7⟩ := q9; omega), by omega, rfl⟩⟩
                      · exact absurd c26 (by omega)
              · show W p l e r_c_X12_read s m args below meth c _ _ 0 0 Qf (F0 m 37 ls [.int (iI 0)])
                refine x_if_eq B (by omega) (tgt := 71) dX12_read_37 (by decide) (fun c28 => ?_) (fun c28 => ?_)
                · refine lv_aload_n B.1 B.2.1 dX12_read_71 rfl (lv_at hl 0 rfl) ?_
                  refine x_iconst B dX12_read_72 ?_
                  refine y_cV B h kX12 50 (MW.f hM 0 _ rfl) k_X12_refuse rfl (c_X12_refuse l D Zk ca T E am _ hM 0  (by omega)) m_1507 rfl (by decide) hl.1 [] (Nat.le_of_ble_eq_true rfl) rfl dX12_read_73 (fun r w1 hq H locs h => ?_)
                  obtain ⟨rfl, z29, rfl, hz29⟩ := hq
                  show W p l e r_c_X12_read s m args below meth c _ _ 0 0 Qf (F0 m 76 ls [.int (iI z29)])
                  refine y_ri B hQ h (by decide) dX12_read_76 ?_
                  exact ⟨_, rfl, Or.inr ⟨fun q9 => by first | (have q7 := q9.2; omega) | (obtain ⟨⟨q1, q2, q3, q4, q5, -⟩, q7⟩ := q9; omega), by omega, rfl⟩⟩
                · exact absurd c28 (by omega)
          · show W p l e r_c_X12_read s m args below meth c _ _ 0 0 Qf (F0 m 27 ls [.int (iI 0)])
            refine x_if_eq B (by omega) (tgt := 71) dX12_read_27 (by decide) (fun c30 => ?_) (fun c30 => ?_)
            · refine lv_aload_n B.1 B.2.1 dX12_read_71 rfl (lv_at hl 0 rfl) ?_
              refine x_iconst B dX12_read_72 ?_
              refine y_cV B h kX12 50 (MW.f hM 0 _ rfl) k_X12_refuse rfl (c_X12_refuse l D Zk ca T E am _ hM 0  (by omega)) m_1507 rfl (by decide) hl.1 [] (Nat.le_of_ble_eq_true rfl) rfl dX12_read_73 (fun r w1 hq H locs h => ?_)
              obtain ⟨rfl, z31, rfl, hz31⟩ := hq
              show W p l e r_c_X12_read s m args below meth c _ _ 0 0 Qf (F0 m 76 ls [.int (iI z31)])
              refine y_ri B hQ h (by decide) dX12_read_76 ?_
              exact ⟨_, rfl, Or.inr ⟨fun q9 => by first | (have q7 := q9.2; omega) | (obtain ⟨⟨q1, q2, q3, q4, q5, -⟩, q7⟩ := q9; omega), by omega, rfl⟩⟩
            · exact absurd c30 (by omega)
      · show W p l e r_c_X12_read s m args below meth c _ _ 0 0 Qf (F0 m 16 ls [.int (iI 0)])
        refine x_if_eq B (by omega) (tgt := 71) dX12_read_16 (by decide) (fun c32 => ?_) (fun c32 => ?_)
        · refine lv_aload_n B.1 B.2.1 dX12_read_71 rfl (lv_at hl 0 rfl) ?_
          refine x_iconst B dX12_read_72 ?_
          refine y_cV B h kX12 50 (MW.f hM 0 _ rfl) k_X12_refuse rfl (c_X12_refuse l D Zk ca T E am _ hM 0  (by omega)) m_1507 rfl (by decide) hl.1 [] (Nat.le_of_ble_eq_true rfl) rfl dX12_read_73 (fun r w1 hq H locs h => ?_)
          obtain ⟨rfl, z33, rfl, hz33⟩ := hq
          show W p l e r_c_X12_read s m args below meth c _ _ 0 0 Qf (F0 m 76 ls [.int (iI z33)])
          refine y_ri B hQ h (by decide) dX12_read_76 ?_
          exact ⟨_, rfl, Or.inr ⟨fun q9 => by first | (have q7 := q9.2; omega) | (obtain ⟨⟨q1, q2, q3, q4, q5, -⟩, q7⟩ := q9; omega), by omega, rfl⟩⟩
        · exact absurd c32 (by omega)
  · show W p l e r_c_X12_read s m args below meth c _ _ 0 0 Qf (F0 m 5 ls [.int (iI 0)])
    refine x_if_eq B (by omega) (tgt := 71) dX12_read_5 (by decide) (fun c34 => ?_) (fun c34 => ?_)
    · refine lv_aload_n B.1 B.2.1 dX12_read_71 rfl (lv_at hl 0 rfl) ?_
      refine x_iconst B dX12_read_72 ?_
      refine y_cV B h kX12 50 (MW.f hM 0 _ rfl) k_X12_refuse rfl (c_X12_refuse l D Zk ca T E am _ hM 0  (by omega)) m_1507 rfl (by decide) hl.1 [] (Nat.le_of_ble_eq_true rfl) rfl dX12_read_73 (fun r w1 hq H locs h => ?_)
      obtain ⟨rfl, z35, rfl, hz35⟩ := hq
      show W p l e r_c_X12_read s m args below meth c _ _ 0 0 Qf (F0 m 76 ls [.int (iI z35)])
      refine y_ri B hQ h (by decide) dX12_read_76 ?_
      exact ⟨_, rfl, Or.inr ⟨fun q9 => by first | (have q7 := q9.2; omega) | (obtain ⟨⟨q1, q2, q3, q4, q5, -⟩, q7⟩ := q9; omega), by omega, rfl⟩⟩
    · exact absurd c34 (by omega)
abbrev r_c_X12_feed : Room := { frames := 0, cells := 0, slots := 0, locals := 0 }
set_option maxHeartbeats 4000000 in
set_option maxRecDepth 100000 in
theorem c_X12_feed (l : Launch) (D : va_G) (Zk : yK) (ca : Nat → ClassId) (T : Nat → Int → Int) (E : Nat → Int → Int) (am : Nat → Nat) (w : yW) (hM : MW ca T E am w) (x1 : Int32) (x2 : Int32) (x3 : Int32) (x4 : Int32) (x5 : Int32)   : yC l D Zk ca yX12_feed cX12_feed 8 (some .int) r_c_X12_feed [.ref (am 0), .int (x1), .int (x2), .int (x3), .int (x4), .int (x5)] w (vI w (fun z => xr z)) := by
  refine yC.of2 "WindWordsModel" (by decide) rfl (Nat.le_of_ble_eq_true rfl) ?_
  intro p e s m args below meth c A ls Qf B hnm h hl hQ
  have hl : lv_has ls 8 [(0, .ref (am 0)), (1, .int (x1)), (2, .int (x2)), (3, .int (x3)), (4, .int (x4)), (5, .int (x5))] := hl
  have hs := pi_s (MW.pi hM)
  have hpe := pe_0 (MW.pe hM)
  refine lv_aload_n B.1 B.2.1 dX12_feed_0 rfl (lv_at hl 0 rfl) ?_
  obtain ⟨z1, z1a, z1b, h⟩ := yH.pin h (MW.f hM 0 _ rfl) 32 (lo := 0) (hi := 900) rfl
  have h : yH D Zk A s ((wu w 50 (am 0, mO am T (fX (E 0 0)) (fX z1) (fG (-2147483648) 2147483647) (fG 0 900) (fG 0 900) (fG 0 900) (fG (-2147483648) 2147483647) (fG (-2147483648) 2147483647) (fG 0 24) (fG 0 41) (fG 0 319) fL (fG 0 1) (fG 0 48) (fG 0 9) (fX (E 0 5))))) _ _ := h
  refine y_getX B h kX12 50 wu_eq 32 (z := z1) rfl m_1293 (by decide) dX12_feed_1 ?_
  refine x_bipush B (by decide) dX12_feed_4 ?_
  refine x_iadd B dX12_feed_6 ?_
  refine x_sipush B (by decide) dX12_feed_7 ?_
  refine x_icmp_le B (by omega) (tgt := 15) dX12_feed_10 (by decide) (fun c2 => ?_) (fun c2 => ?_)
  · refine x_iconst B dX12_feed_15 ?_
    refine lv_istore (lv' := [(6, .int (iI 0)), (0, .ref (am 0)), (1, .int (x1)), (2, .int (x2)), (3, .int (x3)), (4, .int (x4)), (5, .int (x5))]) B.1 B.2.1 dX12_feed_16 hl (by decide) rfl (fun ls hl => ?_)
    have loop18 : ∀ (n18 : Nat) (k : Int) (tp9 : Int), (0 ≤ k ∧ k ≤ 20) → (0 ≤ tp9 ∧ tp9 + (20 - k) ≤ 900) → ((20 - k : Int)).toNat < n18 → ∀ (H : Heap) (locs : List Loc) (ls : Array Slot), yH D Zk A s ((wu w 50 (am 0, mO am T (fX (E 0 0)) (fX tp9) (fG (-2147483648) 2147483647) (fG 0 900) (fG 0 900) (fG 0 900) (fG (-2147483648) 2147483647) (fG (-2147483648) 2147483647) (fG 0 24) (fG 0 41) (fG 0 319) fL (fG 0 1) (fG 0 48) (fG 0 9) (fX (E 0 5))))) H locs → lv_has ls 8 [(6, .int (iI k)), (0, .ref (am 0)), (1, .int (x1)), (2, .int (x2)), (3, .int (x3)), (4, .int (x4)), (5, .int (x5))] → W p l e r_c_X12_feed s m args below meth c H locs 0 0 Qf (F0 m 18 ls []) := by
      intro n18
      induction n18 with
      | zero =>
        intro k tp9 h0 h1 hm18 H locs ls h hl
        exact absurd hm18 (Nat.not_lt_zero _)
      | succ n18 ih18 =>
        intro k tp9 h0 h1 hm18 H locs ls h hl
        refine lv_iload B.1 B.2.1 dX12_feed_18 (lv_at hl 0 rfl) ?_
        refine x_bipush B (by decide) dX12_feed_20 ?_
        refine x_icmp_ge B (by omega) (tgt := 112) dX12_feed_22 (by decide) (fun c3 => ?_) (fun c3 => ?_)
        · refine lv_aload_n B.1 B.2.1 dX12_feed_112 rfl (lv_at hl 1 rfl) ?_
          refine y_getX B h kX12 50 wu_eq 32 (z := tp9) rfl m_1293 (by decide) dX12_feed_113 ?_
          have h : yH D Zk A s w _ _ := yH.unpin h (MW.f hM 0 _ rfl) (xO_le (fLe_cons (fun _ x => x) (fLe_cons (fun _ x => x) (fLe_cons (fun _ x => x) (fLe_cons (fun _ x => x) (fLe_cons (fun _ x => x) (fLe_cons (fun _ x => x) (fLe_cons (fun _ x => x) (fLe_cons (fun _ x => x) (fLe_cons (fun _ x => x) (fLe_cons (fun _ x => x) (fLe_cons (fun _ x => x) (fLe_cons (fun _ x => x) (fLe_cons (fun _ x => x) (fLe_cons (fun _ x => x) (fLe_cons (fun _ x => x) (fLe_cons (fun _ x => x) (fLe_cons (fun _ x => x) (fLe_cons (fun _ x => x) (fLe_cons (fun _ x => x) (fLe_cons (fun _ x => x) (fLe_cons (fun _ x => x) (fLe_cons (fun _ x => x) (fLe_cons (fun _ x => x) (fLe_cons (fun _ x => x) (fLe_cons (fun _ x => x) (fLe_cons (fun _ x => x) (fLe_cons (fun _ x => x) (fLe_cons (fun _ x => x) (fLe_cons (fun _ x => x) (fLe_cons (fun _ x => x) (fLe_cons (fun _ x => x) (fLe_cons (fun _ x => x) (fLe_cons (fX_G (by omega)) (fLe_cons (fun _ x => x) (fLe_cons (fun _ x => x) (fLe_cons (fun _ x => x) (fLe_cons (fun _ x => x) (fLe_cons (fun _ x => x) (fLe_cons (fun _ x => x) (fLe_cons (fun _ x => x) (fLe_cons (fun _ x => x) (fLe_cons (fun _ x => x) (fLe_cons (fun _ x => x) (fLe_cons (fun _ x => x) (fLe_cons (fun _ x => x) (fLe_cons (fun _ x => x) (fLe_cons (fun _ x => x) (fLe_cons (fun _ x => x) (fLe_cons (fun _ x => x) (fLe_cons (fun _ x => x) (fLe_cons (fun _ x => x) (fLe_cons (fun _ x => x) (fLe_cons (fun _ x => x) (fLe_cons (fun _ x => x) (fLe_cons (fun _ x => x) (fLe_cons (fun _ x => x) (fLe_cons (fun _ x => x) (fLe_cons (fun _ x => x) (fLe_cons (fun _ x => x) (fLe_cons (fun _ x => x) (fLe_cons (fun _ x => x) (fLe_cons (fun _ x => x) (fLe_cons (fun _ x => x) (fLe_cons (fun _ x => x) (fLe_cons (fun _ x => x) (fLe_cons (fun _ x => x) (fLe_cons (fun _ x => x) (fLe_cons (fun _ x => x) (fLe_cons (fun _ x => x) (fLe_cons (fun _ x => x) (fLe_cons (fun _ x => x) (fLe_cons (fun _ x => x) (fLe_cons (fun _ x => x) (fLe_cons (fun _ x => x) (fLe_cons (fun _ x => x) (fLe_cons (fun _ x => x) (fLe_cons (fun _ x => x) (fLe_cons (fun _ x => x) (fLe_cons (fun _ x => x) (fLe_cons (fun _ x => x) fLe_nil)))))))))))))))))))))))))))))))))))))))))))))))))))))))))))))))))))))))))))))))))
          refine y_ri B hQ h (by decide) dX12_feed_116 ?_
          exact ⟨rfl, _, rfl, (by first | omega | trivial | assumption)⟩
        · refine lv_iload B.1 B.2.1 dX12_feed_25 (lv_at hl 0 rfl) ?_
          refine x_iconst B dX12_feed_27 ?_
          refine x_icmp_ge B (by omega) (tgt := 35) dX12_feed_28 (by decide) (fun c4 => ?_) (fun c4 => ?_)
          · refine lv_iload B.1 B.2.1 dX12_feed_35 (lv_at hl 0 rfl) ?_
            refine x_bipush B (by decide) dX12_feed_37 ?_
            refine x_icmp_ge B (by omega) (tgt := 46) dX12_feed_39 (by decide) (fun c5 => ?_) (fun c5 => ?_)
            · refine lv_iload B.1 B.2.1 dX12_feed_46 (lv_at hl 0 rfl) ?_
              refine x_bipush B (by decide) dX12_feed_48 ?_
              refine x_icmp_ge B (by omega) (tgt := 57) dX12_feed_50 (by decide) (fun c6 => ?_) (fun c6 => ?_)
              · refine lv_iload B.1 B.2.1 dX12_feed_57 (lv_at hl 0 rfl) ?_
                refine x_bipush B (by decide) dX12_feed_59 ?_
                refine x_icmp_ge B (by omega) (tgt := 69) dX12_feed_61 (by decide) (fun c7 => ?_) (fun c7 => ?_)
                · refine lv_iload B.1 B.2.1 dX12_feed_69 (lv_at hl 6 rfl) ?_
                  refine lv_istore (lv' := [(7, .int (x5)), (6, .int (iI k)), (0, .ref (am 0)), (1, .int (x1)), (2, .int (x2)), (3, .int (x3)), (4, .int (x4)), (5, .int (x5))]) B.1 B.2.1 dX12_feed_71 hl (by decide) rfl (fun ls hl => ?_)
                  refine lv_aload_n B.1 B.2.1 dX12_feed_73 rfl (lv_at hl 2 rfl) ?_
                  refine y_getR B h kX12 50 wu_eq 31 (b := am 25) rfl m_1292 (by decide) dX12_feed_74 ?_
                  refine lv_aload_n B.1 B.2.1 dX12_feed_77 rfl (lv_at hl 2 rfl) ?_
                  refine y_getX B h kX12 50 wu_eq 32 (z := tp9) rfl m_1293 (by decide) dX12_feed_78 ?_
                  refine lv_iload B.1 B.2.1 dX12_feed_81 (lv_at hl 0 rfl) ?_
                  refine x_bipush B (by decide) dX12_feed_83 ?_
                  refine x_bipush B (by decide) dX12_feed_85 ?_
                  refine lv_iload B.1 B.2.1 dX12_feed_87 (lv_at hl 1 rfl) ?_
                  refine x_iconst B dX12_feed_89 ?_
                  refine x_irem B (by omega) dX12_feed_90 ?_
                  refine x_imul B dX12_feed_91 ?_
                  refine x_isub B dX12_feed_92 ?_
                  refine lv_ishr B.1 B.2.1 dX12_feed_93 ?_
                  refine x_name (fun z8 hz8 ez8 => ?_)
                  refine lv_i2b B.1 B.2.1 dX12_feed_94 rfl ?_
                  refine x_name (fun z9 hz9 ez9 => ?_)
                  refine y_bastS B h 75 (wu_at (MW.f hM 25 _ rfl) (by decide)) (by omega) (fun _ _ => trivial) dX12_feed_95 (fun H locs h => ?_)
                  refine lv_aload_n B.1 B.2.1 dX12_feed_96 rfl (lv_at hl 2 rfl) ?_
                  refine lv_dup B.1 B.2.1 dX12_feed_97 rfl ?_
                  refine y_getX B h kX12 50 wu_eq 32 (z := tp9) rfl m_1293 (by decide) dX12_feed_98 ?_
                  refine x_iconst B dX12_feed_101 ?_
                  refine x_iadd B dX12_feed_102 ?_
                  refine y_put B h kX12 50 wu_eq 32 (Nat.le_of_ble_eq_true rfl) (P' := fX (tp9 + 1)) m_1293 (by decide) rfl rfl rfl rfl dX12_feed_103 (fun H locs h => ?_)
                  rw [wu_wu] at h
                  have h : yH D Zk A s ((wu w 50 (am 0, mO am T (fX (E 0 0)) (fX (tp9 + 1)) (fG (-2147483648) 2147483647) (fG 0 900) (fG 0 900) (fG 0 900) (fG (-2147483648) 2147483647) (fG (-2147483648) 2147483647) (fG 0 24) (fG 0 41) (fG 0 319) fL (fG 0 1) (fG 0 48) (fG 0 9) (fX (E 0 5))))) _ _ := h
                  refine lv_iinc (v := iI (k + 1)) (lv' := [(6, .int (iI (k + 1))), (7, .int (x5)), (0, .ref (am 0)), (1, .int (x1)), (2, .int (x2)), (3, .int (x3)), (4, .int (x4)), (5, .int (x5))]) B.1 B.2.1 dX12_feed_106 hl (k := 1) rfl (iI_add _ _) (by decide) rfl (fun ls hl => ?_)
                  refine lv_goto (tgt := 18) B.1 B.2.1 dX12_feed_109 (by decide) ?_
                  exact ih18 ((k + 1)) ((tp9 + 1)) (by omega) (by omega) (by omega) _ _ _ h (lv_sub hl [0, 2, 3, 4, 5, 6, 7] rfl)
                · refine lv_iload B.1 B.2.1 dX12_feed_64 (lv_at hl 5 rfl) ?_
                  refine lv_goto (tgt := 71) B.1 B.2.1 dX12_feed_66 (by decide) ?_
                  refine lv_istore (lv' := [(7, .int (x4)), (6, .int (iI k)), (0, .ref (am 0)), (1, .int (x1)), (2, .int (x2)), (3, .int (x3)), (4, .int (x4)), (5, .int (x5))]) B.1 B.2.1 dX12_feed_71 hl (by decide) rfl (fun ls hl => ?_)
                  refine lv_aload_n B.1 B.2.1 dX12_feed_73 rfl (lv_at hl 2 rfl) ?_
                  refine y_getR B h kX12 50 wu_eq 31 (b := am 25) rfl m_1292 (by decide) dX12_feed_74 ?_
                  refine lv_aload_n B.1 B.2.1 dX12_feed_77 rfl (lv_at hl 2 rfl) ?_
                  refine y_getX B h kX12 50 wu_eq 32 (z := tp9) rfl m_1293 (by decide) dX12_feed_78 ?_
                  refine lv_iload B.1 B.2.1 dX12_feed_81 (lv_at hl 0 rfl) ?_
                  refine x_bipush B (by decide) dX12_feed_83 ?_
                  refine x_bipush B (by decide) dX12_feed_85 ?_
                  refine lv_iload B.1 B.2.1 dX12_feed_87 (lv_at hl 1 rfl) ?_
                  refine x_iconst B dX12_feed_89 ?_
                  refine x_irem B (by omega) dX12_feed_90 ?_
                  refine x_imul B dX12_feed_91 ?_
                  refine x_isub B dX12_feed_92 ?_
                  refine lv_ishr B.1 B.2.1 dX12_feed_93 ?_
                  refine x_name (fun z10 hz10 ez10 => ?_)
                  refine lv_i2b B.1 B.2.1 dX12_feed_94 rfl ?_
                  refine x_name (fun z11 hz11 ez11 => ?_)
                  refine y_bastS B h 75 (wu_at (MW.f hM 25 _ rfl) (by decide)) (by omega) (fun _ _ => trivial) dX12_feed_95 (fun H locs h => ?_)
                  refine lv_aload_n B.1 B.2.1 dX12_feed_96 rfl (lv_at hl 2 rfl) ?_
                  refine lv_dup B.1 B.2.1 dX12_feed_97 rfl ?_
                  refine y_getX B h kX12 50 wu_eq 32 (z := tp9) rfl m_1293 (by decide) dX12_feed_98 ?_
                  refine x_iconst B dX12_feed_101 ?_
                  refine x_iadd B dX12_feed_102 ?_
                  refine y_put B h kX12 50 wu_eq 32 (Nat.le_of_ble_eq_true rfl) (P' := fX (tp9 + 1)) m_1293 (by decide) rfl rfl rfl rfl dX12_feed_103 (fun H locs h => ?_)
                  rw [wu_wu] at h
                  have h : yH D Zk A s ((wu w 50 (am 0, mO am T (fX (E 0 0)) (fX (tp9 + 1)) (fG (-2147483648) 2147483647) (fG 0 900) (fG 0 900) (fG 0 900) (fG (-2147483648) 2147483647) (fG (-2147483648) 2147483647) (fG 0 24) (fG 0 41) (fG 0 319) fL (fG 0 1) (fG 0 48) (fG 0 9) (fX (E 0 5))))) _ _ := h
                  refine lv_iinc (v := iI (k + 1)) (lv' := [(6, .int (iI (k + 1))), (7, .int (x4)), (0, .ref (am 0)), (1, .int (x1)), (2, .int (x2)), (3, .int (x3)), (4, .int (x4)), (5, .int (x5))]) B.1 B.2.1 dX12_feed_106 hl (k := 1) rfl (iI_add _ _) (by decide) rfl (fun ls hl => ?_)
                  refine lv_goto (tgt := 18) B.1 B.2.1 dX12_feed_109 (by decide) ?_
                  exact ih18 ((k + 1)) ((tp9 + 1)) (by omega) (by omega) (by omega) _ _ _ h (lv_sub hl [0, 2, 3, 4, 5, 6, 7] rfl)
              · refine lv_iload_n B.1 B.2.1 dX12_feed_53 rfl (lv_at hl 4 rfl) ?_
                refine lv_goto (tgt := 71) B.1 B.2.1 dX12_feed_54 (by decide) ?_
                refine lv_istore (lv' := [(7, .int (x3)), (6, .int (iI k)), (0, .ref (am 0)), (1, .int (x1)), (2, .int (x2)), (3, .int (x3)), (4, .int (x4)), (5, .int (x5))]) B.1 B.2.1 dX12_feed_71 hl (by decide) rfl (fun ls hl => ?_)
                refine lv_aload_n B.1 B.2.1 dX12_feed_73 rfl (lv_at hl 2 rfl) ?_
                refine y_getR B h kX12 50 wu_eq 31 (b := am 25) rfl m_1292 (by decide) dX12_feed_74 ?_
                refine lv_aload_n B.1 B.2.1 dX12_feed_77 rfl (lv_at hl 2 rfl) ?_
                refine y_getX B h kX12 50 wu_eq 32 (z := tp9) rfl m_1293 (by decide) dX12_feed_78 ?_
                refine lv_iload B.1 B.2.1 dX12_feed_81 (lv_at hl 0 rfl) ?_
                refine x_bipush B (by decide) dX12_feed_83 ?_
                refine x_bipush B (by decide) dX12_feed_85 ?_
                refine lv_iload B.1 B.2.1 dX12_feed_87 (lv_at hl 1 rfl) ?_
                refine x_iconst B dX12_feed_89 ?_
                refine x_irem B (by omega) dX12_feed_90 ?_
                refine x_imul B dX12_feed_91 ?_
                refine x_isub B dX12_feed_92 ?_
                refine lv_ishr B.1 B.2.1 dX12_feed_93 ?_
                refine x_name (fun z12 hz12 ez12 => ?_)
                refine lv_i2b B.1 B.2.1 dX12_feed_94 rfl ?_
                refine x_name (fun z13 hz13 ez13 => ?_)
                refine y_bastS B h 75 (wu_at (MW.f hM 25 _ rfl) (by decide)) (by omega) (fun _ _ => trivial) dX12_feed_95 (fun H locs h => ?_)
                refine lv_aload_n B.1 B.2.1 dX12_feed_96 rfl (lv_at hl 2 rfl) ?_
                refine lv_dup B.1 B.2.1 dX12_feed_97 rfl ?_
                refine y_getX B h kX12 50 wu_eq 32 (z := tp9) rfl m_1293 (by decide) dX12_feed_98 ?_
                refine x_iconst B dX12_feed_101 ?_
                refine x_iadd B dX12_feed_102 ?_
                refine y_put B h kX12 50 wu_eq 32 (Nat.le_of_ble_eq_true rfl) (P' := fX (tp9 + 1)) m_1293 (by decide) rfl rfl rfl rfl dX12_feed_103 (fun H locs h => ?_)
                rw [wu_wu] at h
                have h : yH D Zk A s ((wu w 50 (am 0, mO am T (fX (E 0 0)) (fX (tp9 + 1)) (fG (-2147483648) 2147483647) (fG 0 900) (fG 0 900) (fG 0 900) (fG (-2147483648) 2147483647) (fG (-2147483648) 2147483647) (fG 0 24) (fG 0 41) (fG 0 319) fL (fG 0 1) (fG 0 48) (fG 0 9) (fX (E 0 5))))) _ _ := h
                refine lv_iinc (v := iI (k + 1)) (lv' := [(6, .int (iI (k + 1))), (7, .int (x3)), (0, .ref (am 0)), (1, .int (x1)), (2, .int (x2)), (3, .int (x3)), (4, .int (x4)), (5, .int (x5))]) B.1 B.2.1 dX12_feed_106 hl (k := 1) rfl (iI_add _ _) (by decide) rfl (fun ls hl => ?_)
                refine lv_goto (tgt := 18) B.1 B.2.1 dX12_feed_109 (by decide) ?_
                exact ih18 ((k + 1)) ((tp9 + 1)) (by omega) (by omega) (by omega) _ _ _ h (lv_sub hl [0, 2, 3, 4, 5, 6, 7] rfl)
            · refine lv_iload_n B.1 B.2.1 dX12_feed_42 rfl (lv_at hl 3 rfl) ?_
              refine lv_goto (tgt := 71) B.1 B.2.1 dX12_feed_43 (by decide) ?_
              refine lv_istore (lv' := [(7, .int (x2)), (6, .int (iI k)), (0, .ref (am 0)), (1, .int (x1)), (2, .int (x2)), (3, .int (x3)), (4, .int (x4)), (5, .int (x5))]) B.1 B.2.1 dX12_feed_71 hl (by decide) rfl (fun ls hl => ?_)
              refine lv_aload_n B.1 B.2.1 dX12_feed_73 rfl (lv_at hl 2 rfl) ?_
              refine y_getR B h kX12 50 wu_eq 31 (b := am 25) rfl m_1292 (by decide) dX12_feed_74 ?_
              refine lv_aload_n B.1 B.2.1 dX12_feed_77 rfl (lv_at hl 2 rfl) ?_
              refine y_getX B h kX12 50 wu_eq 32 (z := tp9) rfl m_1293 (by decide) dX12_feed_78 ?_
              refine lv_iload B.1 B.2.1 dX12_feed_81 (lv_at hl 0 rfl) ?_
              refine x_bipush B (by decide) dX12_feed_83 ?_
              refine x_bipush B (by decide) dX12_feed_85 ?_
              refine lv_iload B.1 B.2.1 dX12_feed_87 (lv_at hl 1 rfl) ?_
              refine x_iconst B dX12_feed_89 ?_
              refine x_irem B (by omega) dX12_feed_90 ?_
              refine x_imul B dX12_feed_91 ?_
              refine x_isub B dX12_feed_92 ?_
              refine lv_ishr B.1 B.2.1 dX12_feed_93 ?_
              refine x_name (fun z14 hz14 ez14 => ?_)
              refine lv_i2b B.1 B.2.1 dX12_feed_94 rfl ?_
              refine x_name (fun z15 hz15 ez15 => ?_)
              refine y_bastS B h 75 (wu_at (MW.f hM 25 _ rfl) (by decide)) (by omega) (fun _ _ => trivial) dX12_feed_95 (fun H locs h => ?_)
              refine lv_aload_n B.1 B.2.1 dX12_feed_96 rfl (lv_at hl 2 rfl) ?_
              refine lv_dup B.1 B.2.1 dX12_feed_97 rfl ?_
              refine y_getX B h kX12 50 wu_eq 32 (z := tp9) rfl m_1293 (by decide) dX12_feed_98 ?_
              refine x_iconst B dX12_feed_101 ?_
              refine x_iadd B dX12_feed_102 ?_
              refine y_put B h kX12 50 wu_eq 32 (Nat.le_of_ble_eq_true rfl) (P' := fX (tp9 + 1)) m_1293 (by decide) rfl rfl rfl rfl dX12_feed_103 (fun H locs h => ?_)
              rw [wu_wu] at h
              have h : yH D Zk A s ((wu w 50 (am 0, mO am T (fX (E 0 0)) (fX (tp9 + 1)) (fG (-2147483648) 2147483647) (fG 0 900) (fG 0 900) (fG 0 900) (fG (-2147483648) 2147483647) (fG (-2147483648) 2147483647) (fG 0 24) (fG 0 41) (fG 0 319) fL (fG 0 1) (fG 0 48) (fG 0 9) (fX (E 0 5))))) _ _ := h
              refine lv_iinc (v := iI (k + 1)) (lv' := [(6, .int (iI (k + 1))), (7, .int (x2)), (0, .ref (am 0)), (1, .int (x1)), (2, .int (x2)), (3, .int (x3)), (4, .int (x4)), (5, .int (x5))]) B.1 B.2.1 dX12_feed_106 hl (k := 1) rfl (iI_add _ _) (by decide) rfl (fun ls hl => ?_)
              refine lv_goto (tgt := 18) B.1 B.2.1 dX12_feed_109 (by decide) ?_
              exact ih18 ((k + 1)) ((tp9 + 1)) (by omega) (by omega) (by omega) _ _ _ h (lv_sub hl [0, 2, 3, 4, 5, 6, 7] rfl)
          · refine lv_iload_n B.1 B.2.1 dX12_feed_31 rfl (lv_at hl 2 rfl) ?_
            refine lv_goto (tgt := 71) B.1 B.2.1 dX12_feed_32 (by decide) ?_
            refine lv_istore (lv' := [(7, .int (x1)), (6, .int (iI k)), (0, .ref (am 0)), (1, .int (x1)), (2, .int (x2)), (3, .int (x3)), (4, .int (x4)), (5, .int (x5))]) B.1 B.2.1 dX12_feed_71 hl (by decide) rfl (fun ls hl => ?_)
            refine lv_aload_n B.1 B.2.1 dX12_feed_73 rfl (lv_at hl 2 rfl) ?_
            refine y_getR B h kX12 50 wu_eq 31 (b := am 25) rfl m_1292 (by decide) dX12_feed_74 ?_
            refine lv_aload_n B.1 B.2.1 dX12_feed_77 rfl (lv_at hl 2 rfl) ?_
            refine y_getX B h kX12 50 wu_eq 32 (z := tp9) rfl m_1293 (by decide) dX12_feed_78 ?_
            refine lv_iload B.1 B.2.1 dX12_feed_81 (lv_at hl 0 rfl) ?_
            refine x_bipush B (by decide) dX12_feed_83 ?_
            refine x_bipush B (by decide) dX12_feed_85 ?_
            refine lv_iload B.1 B.2.1 dX12_feed_87 (lv_at hl 1 rfl) ?_
            refine x_iconst B dX12_feed_89 ?_
            refine x_irem B (by omega) dX12_feed_90 ?_
            refine x_imul B dX12_feed_91 ?_
            refine x_isub B dX12_feed_92 ?_
            refine lv_ishr B.1 B.2.1 dX12_feed_93 ?_
            refine x_name (fun z16 hz16 ez16 => ?_)
            refine lv_i2b B.1 B.2.1 dX12_feed_94 rfl ?_
            refine x_name (fun z17 hz17 ez17 => ?_)
            refine y_bastS B h 75 (wu_at (MW.f hM 25 _ rfl) (by decide)) (by omega) (fun _ _ => trivial) dX12_feed_95 (fun H locs h => ?_)
            refine lv_aload_n B.1 B.2.1 dX12_feed_96 rfl (lv_at hl 2 rfl) ?_
            refine lv_dup B.1 B.2.1 dX12_feed_97 rfl ?_
            refine y_getX B h kX12 50 wu_eq 32 (z := tp9) rfl m_1293 (by decide) dX12_feed_98 ?_
            refine x_iconst B dX12_feed_101 ?_
            refine x_iadd B dX12_feed_102 ?_
            refine y_put B h kX12 50 wu_eq 32 (Nat.le_of_ble_eq_true rfl) (P' := fX (tp9 + 1)) m_1293 (by decide) rfl rfl rfl rfl dX12_feed_103 (fun H locs h => ?_)
            rw [wu_wu] at h
            have h : yH D Zk A s ((wu w 50 (am 0, mO am T (fX (E 0 0)) (fX (tp9 + 1)) (fG (-2147483648) 2147483647) (fG 0 900) (fG 0 900) (fG 0 900) (fG (-2147483648) 2147483647) (fG (-2147483648) 2147483647) (fG 0 24) (fG 0 41) (fG 0 319) fL (fG 0 1) (fG 0 48) (fG 0 9) (fX (E 0 5))))) _ _ := h
            refine lv_iinc (v := iI (k + 1)) (lv' := [(6, .int (iI (k + 1))), (7, .int (x1)), (0, .ref (am 0)), (1, .int (x1)), (2, .int (x2)), (3, .int (x3)), (4, .int (x4)), (5, .int (x5))]) B.1 B.2.1 dX12_feed_106 hl (k := 1) rfl (iI_add _ _) (by decide) rfl (fun ls hl => ?_)
            refine lv_goto (tgt := 18) B.1 B.2.1 dX12_feed_109 (by decide) ?_
            exact ih18 ((k + 1)) ((tp9 + 1)) (by omega) (by omega) (by omega) _ _ _ h (lv_sub hl [0, 2, 3, 4, 5, 6, 7] rfl)
    exact loop18 (((20 - 0 : Int)).toNat + 1) 0 z1 (by omega) (by omega) (Nat.lt_succ_self _) _ _ _ h (lv_sub hl [0, 1, 2, 3, 4, 5, 6] rfl)
  · refine x_iconst B dX12_feed_13 ?_
    have h : yH D Zk A s w _ _ := yH.unpin h (MW.f hM 0 _ rfl) (xO_le (fLe_cons (fun _ x => x) (fLe_cons (fun _ x => x) (fLe_cons (fun _ x => x) (fLe_cons (fun _ x => x) (fLe_cons (fun _ x => x) (fLe_cons (fun _ x => x) (fLe_cons (fun _ x => x) (fLe_cons (fun _ x => x) (fLe_cons (fun _ x => x) (fLe_cons (fun _ x => x) (fLe_cons (fun _ x => x) (fLe_cons (fun _ x => x) (fLe_cons (fun _ x => x) (fLe_cons (fun _ x => x) (fLe_cons (fun _ x => x) (fLe_cons (fun _ x => x) (fLe_cons (fun _ x => x) (fLe_cons (fun _ x => x) (fLe_cons (fun _ x => x) (fLe_cons (fun _ x => x) (fLe_cons (fun _ x => x) (fLe_cons (fun _ x => x) (fLe_cons (fun _ x => x) (fLe_cons (fun _ x => x) (fLe_cons (fun _ x => x) (fLe_cons (fun _ x => x) (fLe_cons (fun _ x => x) (fLe_cons (fun _ x => x) (fLe_cons (fun _ x => x) (fLe_cons (fun _ x => x) (fLe_cons (fun _ x => x) (fLe_cons (fun _ x => x) (fLe_cons (fX_G (by omega)) (fLe_cons (fun _ x => x) (fLe_cons (fun _ x => x) (fLe_cons (fun _ x => x) (fLe_cons (fun _ x => x) (fLe_cons (fun _ x => x) (fLe_cons (fun _ x => x) (fLe_cons (fun _ x => x) (fLe_cons (fun _ x => x) (fLe_cons (fun _ x => x) (fLe_cons (fun _ x => x) (fLe_cons (fun _ x => x) (fLe_cons (fun _ x => x) (fLe_cons (fun _ x => x) (fLe_cons (fun _ x => x) (fLe_cons (fun _ x => x) (fLe_cons (fun _ x => x) (fLe_cons (fun _ x => x) (fLe_cons (fun _ x => x) (fLe_cons (fun _ x => x) (fLe_cons (fun _ x => x) (fLe_cons (fun _ x => x) (fLe_cons (fun _ x => x) (fLe_cons (fun _ x => x) (fLe_cons (fun _ x => x) (fLe_cons (fun _ x => x) (fLe_cons (fun _ x => x) (fLe_cons (fun _ x => x) (fLe_cons (fun _ x => x) (fLe_cons (fun _ x => x) (fLe_cons (fun _ x => x) (fLe_cons (fun _ x => x) (fLe_cons (fun _ x => x) (fLe_cons (fun _ x => x) (fLe_cons (fun _ x => x) (fLe_cons (fun _ x => x) (fLe_cons (fun _ x => x) (fLe_cons (fun _ x => x) (fLe_cons (fun _ x => x) (fLe_cons (fun _ x => x) (fLe_cons (fun _ x => x) (fLe_cons (fun _ x => x) (fLe_cons (fun _ x => x) (fLe_cons (fun _ x => x) (fLe_cons (fun _ x => x) (fLe_cons (fun _ x => x) (fLe_cons (fun _ x => x) (fLe_cons (fun _ x => x) fLe_nil)))))))))))))))))))))))))))))))))))))))))))))))))))))))))))))))))))))))))))))))))
    refine y_ri B hQ h (by decide) dX12_feed_14 ?_
    exact ⟨rfl, _, rfl, (by first | omega | trivial | assumption)⟩
abbrev r_c_X12_storm : Room := { frames := 5, cells := 0, slots := 0, locals := 112 }
set_option maxHeartbeats 4000000 in
set_option maxRecDepth 100000 in
theorem c_X12_storm (l : Launch) (D : va_G) (Zk : yK) (ca : Nat → ClassId) (T : Nat → Int → Int) (E : Nat → Int → Int) (am : Nat → Nat) (w : yW) (hM : MW ca T E am w) (fr : Int) (to : Int) (rd : Int) (li : Int)  (hfr : xr fr) (hto : xr to) (hrd : xr rd) (hli : xr li) : yC l D Zk ca yX12_storm cX12_storm 5 (some .int) r_c_X12_storm [.ref (am 0), .int (iI fr), .int (iI to), .int (iI rd), .int (iI li)] w (fun r w1 => ∃ z : Int, r = some (.int (iI z)) ∧ ((((0 ≤ fr ∧ fr ≤ 999) ∧ (0 ≤ to ∧ to ≤ 999) ∧ fr ≤ to ∧ to - fr ≤ 59 ∧ (0 ≤ rd ∧ rd ≤ 7) ∧ 0 ≤ li ∧ li ≤ 12) ∧ (z = 0 ∨ z = 1) ∧ MW ca (tStorm T fr to rd li) E am w1 ∧ AGM w w1) ∨ (¬ ((0 ≤ fr ∧ fr ≤ 999) ∧ (0 ≤ to ∧ to ≤ 999) ∧ fr ≤ to ∧ to - fr ≤ 59 ∧ (0 ≤ rd ∧ rd ≤ 7) ∧ 0 ≤ li ∧ li ≤ 12) ∧ z = -1 ∧ w1 = w))) := by
  refine yC.of2 "WindWordsModel" (by decide) rfl (Nat.le_of_ble_eq_true rfl) ?_
  intro p e s m args below meth c A ls Qf B hnm h hl hQ
  have hl : lv_has ls 5 [(0, .ref (am 0)), (1, .int (iI fr)), (2, .int (iI to)), (3, .int (iI rd)), (4, .int (iI li))] := hl
  have hs := pi_s (MW.pi hM)
  have hpe := pe_0 (MW.pe hM)
  refine lv_iload_n B.1 B.2.1 dX12_storm_0 rfl (lv_at hl 1 rfl) ?_
  refine x_iconst B dX12_storm_1 ?_
  refine x_sipush B (by decide) dX12_storm_2 ?_
  refine y_cS B h k_X12_within (c_X12_within l D Zk ca _ fr 0 999  (by omega) (by omega) (by omega)) m_1515 rfl (by decide) hl.1 [] (Nat.le_of_ble_eq_true rfl) rfl dX12_storm_5 (fun r w1 hq H locs h => ?_)
  obtain ⟨rfl, _, rfl, ⟨rfl, b1⟩ | ⟨rfl, b1⟩⟩ := hq
  · show W p l e r_c_X12_storm s m args below meth c _ _ 0 0 Qf (F0 m 8 ls [.int (iI 1)])
    refine x_if_eq B (by omega) (tgt := 56) dX12_storm_8 (by decide) (fun c2 => ?_) (fun c2 => ?_)
    · exact absurd c2 (by omega)
    · refine lv_iload_n B.1 B.2.1 dX12_storm_11 rfl (lv_at hl 2 rfl) ?_
      refine x_iconst B dX12_storm_12 ?_
      refine x_sipush B (by decide) dX12_storm_13 ?_
      refine y_cS B h k_X12_within (c_X12_within l D Zk ca _ to 0 999  (by omega) (by omega) (by omega)) m_1515 rfl (by decide) hl.1 [] (Nat.le_of_ble_eq_true rfl) rfl dX12_storm_16 (fun r w1 hq H locs h => ?_)
      obtain ⟨rfl, _, rfl, ⟨rfl, b3⟩ | ⟨rfl, b3⟩⟩ := hq
      · show W p l e r_c_X12_storm s m args below meth c _ _ 0 0 Qf (F0 m 19 ls [.int (iI 1)])
        refine x_if_eq B (by omega) (tgt := 56) dX12_storm_19 (by decide) (fun c4 => ?_) (fun c4 => ?_)
        · exact absurd c4 (by omega)
        · refine lv_iload_n B.1 B.2.1 dX12_storm_22 rfl (lv_at hl 2 rfl) ?_
          refine lv_iload_n B.1 B.2.1 dX12_storm_23 rfl (lv_at hl 1 rfl) ?_
          refine x_icmp_lt B (by omega) (tgt := 56) dX12_storm_24 (by decide) (fun c5 => ?_) (fun c5 => ?_)
          · refine x_iconst B dX12_storm_56 ?_
            refine y_ri B hQ h (by decide) dX12_storm_57 ?_
            exact ⟨_, rfl, Or.inr ⟨by omega, by omega, rfl⟩⟩
          · refine lv_iload_n B.1 B.2.1 dX12_storm_27 rfl (lv_at hl 2 rfl) ?_
            refine lv_iload_n B.1 B.2.1 dX12_storm_28 rfl (lv_at hl 1 rfl) ?_
            refine x_isub B dX12_storm_29 ?_
            refine x_bipush B (by decide) dX12_storm_30 ?_
            refine x_icmp_gt B (by omega) (tgt := 56) dX12_storm_32 (by decide) (fun c6 => ?_) (fun c6 => ?_)
            · refine x_iconst B dX12_storm_56 ?_
              refine y_ri B hQ h (by decide) dX12_storm_57 ?_
              exact ⟨_, rfl, Or.inr ⟨by omega, by omega, rfl⟩⟩
            · refine lv_iload_n B.1 B.2.1 dX12_storm_35 rfl (lv_at hl 3 rfl) ?_
              refine x_iconst B dX12_storm_36 ?_
              refine x_bipush B (by decide) dX12_storm_37 ?_
              refine y_cS B h k_X12_within (c_X12_within l D Zk ca _ rd 0 7  (by omega) (by omega) (by omega)) m_1515 rfl (by decide) hl.1 [] (Nat.le_of_ble_eq_true rfl) rfl dX12_storm_39 (fun r w1 hq H locs h => ?_)
              obtain ⟨rfl, _, rfl, ⟨rfl, b7⟩ | ⟨rfl, b7⟩⟩ := hq
              · show W p l e r_c_X12_storm s m args below meth c _ _ 0 0 Qf (F0 m 42 ls [.int (iI 1)])
                refine x_if_eq B (by omega) (tgt := 56) dX12_storm_42 (by decide) (fun c8 => ?_) (fun c8 => ?_)
                · exact absurd c8 (by omega)
                · refine lv_iload B.1 B.2.1 dX12_storm_45 (lv_at hl 4 rfl) ?_
                  refine x_iconst B dX12_storm_47 ?_
                  refine x_bipush B (by decide) dX12_storm_48 ?_
                  refine y_cS B h k_X12_within (c_X12_within l D Zk ca _ li 0 12  (by omega) (by omega) (by omega)) m_1515 rfl (by decide) hl.1 [] (Nat.le_of_ble_eq_true rfl) rfl dX12_storm_50 (fun r w1 hq H locs h => ?_)
                  obtain ⟨rfl, _, rfl, ⟨rfl, b9⟩ | ⟨rfl, b9⟩⟩ := hq
                  · show W p l e r_c_X12_storm s m args below meth c _ _ 0 0 Qf (F0 m 53 ls [.int (iI 1)])
                    refine x_if_ne B (by omega) (tgt := 58) dX12_storm_53 (by decide) (fun c10 => ?_) (fun c10 => ?_)
                    · refine lv_aload_n B.1 B.2.1 dX12_storm_58 rfl (lv_at hl 0 rfl) ?_
                      refine lv_iload_n B.1 B.2.1 dX12_storm_59 rfl (lv_at hl 1 rfl) ?_
                      refine y_put B h kX12 50 (MW.f hM 0 _ rfl) 69 (Nat.le_of_ble_eq_true rfl) (P' := fX fr) m_1330 (by decide) rfl rfl rfl rfl dX12_storm_60 (fun H locs h => ?_)
                      have h : yH D Zk A s ((wu w 50 (am 0, xO 12 [fR (am 1), fX (T 0 0), fX (T 0 1), fX (T 0 3), fX (T 0 2), fX (T 0 4), fX (T 0 5), fR (am 2), fR (am 3), fR (am 4), fR (am 5), fR (am 6), fR (am 7), fR (am 8), fR (am 9), fR (am 10), fR (am 11), fR (am 12), fR (am 13), fR (am 14), fR (am 15), fR (am 16), fR (am 17), fX (E 0 0), fR (am 18), fR (am 19), fR (am 20), fR (am 21), fR (am 22), fR (am 23), fR (am 24), fR (am 25), fG 0 900, fG (-2147483648) 2147483647, fG 0 900, fG 0 900, fG 0 900, fG (-2147483648) 2147483647, fG (-2147483648) 2147483647, fG 0 24, fG 0 41, fG 0 319, fL, fG 0 1, fR (am 26), fG 0 48, fG 0 9, fR (am 27), fR (am 28), fR (am 29), fR (am 30), fR (am 31), fG (-2147483648) 2147483647, fG (-2147483648) 2147483647, fG 0 12, fG (-2147483648) 2147483647, fR (am 32), fG 0 1, fX (E 0 5), fG (-2147483648) 2147483647, fG (-2147483648) 2147483647, fR (am 33), fR (am 34), fR (am 35), fG (-2147483648) 2147483647, fG (-2147483648) 2147483647, fR (am 36), fR (am 37), fR (am 38), fX fr, fX (T 0 11), fX (T 0 12), fX (T 0 13), fR (am 39), fX (T 0 6), fR (am 40), fR (am 41), fR (am 42), fR (am 43), fR (am 44)]))) _ _ := h
                      refine lv_aload_n B.1 B.2.1 dX12_storm_63 rfl (lv_at hl 0 rfl) ?_
                      refine lv_iload_n B.1 B.2.1 dX12_storm_64 rfl (lv_at hl 2 rfl) ?_
                      refine y_put B h kX12 50 wu_eq 70 (Nat.le_of_ble_eq_true rfl) (P' := fX to) m_1331 (by decide) rfl rfl rfl rfl dX12_storm_65 (fun H locs h => ?_)
                      rw [wu_wu] at h
                      have h : yH D Zk A s ((wu w 50 (am 0, xO 12 [fR (am 1), fX (T 0 0), fX (T 0 1), fX (T 0 3), fX (T 0 2), fX (T 0 4), fX (T 0 5), fR (am 2), fR (am 3), fR (am 4), fR (am 5), fR (am 6), fR (am 7), fR (am 8), fR (am 9), fR (am 10), fR (am 11), fR (am 12), fR (am 13), fR (am 14), fR (am 15), fR (am 16), fR (am 17), fX (E 0 0), fR (am 18), fR (am 19), fR (am 20), fR (am 21), fR (am 22), fR (am 23), fR (am 24), fR (am 25), fG 0 900, fG (-2147483648) 2147483647, fG 0 900, fG 0 900, fG 0 900, fG (-2147483648) 2147483647, fG (-2147483648) 2147483647, fG 0 24, fG 0 41, fG 0 319, fL, fG 0 1, fR (am 26), fG 0 48, fG 0 9, fR (am 27), fR (am 28), fR (am 29), fR (am 30), fR (am 31), fG (-2147483648) 2147483647, fG (-2147483648) 2147483647, fG 0 12, fG (-2147483648) 2147483647, fR (am 32), fG 0 1, fX (E 0 5), fG (-2147483648) 2147483647, fG (-2147483648) 2147483647, fR (am 33), fR (am 34), fR (am 35), fG (-2147483648) 2147483647, fG (-2147483648) 2147483647, fR (am 36), fR (am 37), fR (am 38), fX fr, fX to, fX (T 0 12), fX (T 0 13), fR (am 39), fX (T 0 6), fR (am 40), fR (am 41), fR (am 42), fR (am 43), fR (am 44)]))) _ _ := h
                      refine lv_aload_n B.1 B.2.1 dX12_storm_68 rfl (lv_at hl 0 rfl) ?_
                      refine lv_iload_n B.1 B.2.1 dX12_storm_69 rfl (lv_at hl 3 rfl) ?_
                      refine y_put B h kX12 50 wu_eq 71 (Nat.le_of_ble_eq_true rfl) (P' := fX rd) m_1332 (by decide) rfl rfl rfl rfl dX12_storm_70 (fun H locs h => ?_)
                      rw [wu_wu] at h
                      have h : yH D Zk A s ((wu w 50 (am 0, xO 12 [fR (am 1), fX (T 0 0), fX (T 0 1), fX (T 0 3), fX (T 0 2), fX (T 0 4), fX (T 0 5), fR (am 2), fR (am 3), fR (am 4), fR (am 5), fR (am 6), fR (am 7), fR (am 8), fR (am 9), fR (am 10), fR (am 11), fR (am 12), fR (am 13), fR (am 14), fR (am 15), fR (am 16), fR (am 17), fX (E 0 0), fR (am 18), fR (am 19), fR (am 20), fR (am 21), fR (am 22), fR (am 23), fR (am 24), fR (am 25), fG 0 900, fG (-2147483648) 2147483647, fG 0 900, fG 0 900, fG 0 900, fG (-2147483648) 2147483647, fG (-2147483648) 2147483647, fG 0 24, fG 0 41, fG 0 319, fL, fG 0 1, fR (am 26), fG 0 48, fG 0 9, fR (am 27), fR (am 28), fR (am 29), fR (am 30), fR (am 31), fG (-2147483648) 2147483647, fG (-2147483648) 2147483647, fG 0 12, fG (-2147483648) 2147483647, fR (am 32), fG 0 1, fX (E 0 5), fG (-2147483648) 2147483647, fG (-2147483648) 2147483647, fR (am 33), fR (am 34), fR (am 35), fG (-2147483648) 2147483647, fG (-2147483648) 2147483647, fR (am 36), fR (am 37), fR (am 38), fX fr, fX to, fX rd, fX (T 0 13), fR (am 39), fX (T 0 6), fR (am 40), fR (am 41), fR (am 42), fR (am 43), fR (am 44)]))) _ _ := h
                      refine lv_aload_n B.1 B.2.1 dX12_storm_73 rfl (lv_at hl 0 rfl) ?_
                      refine lv_iload B.1 B.2.1 dX12_storm_74 (lv_at hl 4 rfl) ?_
                      refine y_put B h kX12 50 wu_eq 72 (Nat.le_of_ble_eq_true rfl) (P' := fX li) m_1333 (by decide) rfl rfl rfl rfl dX12_storm_76 (fun H locs h => ?_)
                      rw [wu_wu] at h
                      have h : yH D Zk A s ((wu w 50 (am 0, xO 12 [fR (am 1), fX (T 0 0), fX (T 0 1), fX (T 0 3), fX (T 0 2), fX (T 0 4), fX (T 0 5), fR (am 2), fR (am 3), fR (am 4), fR (am 5), fR (am 6), fR (am 7), fR (am 8), fR (am 9), fR (am 10), fR (am 11), fR (am 12), fR (am 13), fR (am 14), fR (am 15), fR (am 16), fR (am 17), fX (E 0 0), fR (am 18), fR (am 19), fR (am 20), fR (am 21), fR (am 22), fR (am 23), fR (am 24), fR (am 25), fG 0 900, fG (-2147483648) 2147483647, fG 0 900, fG 0 900, fG 0 900, fG (-2147483648) 2147483647, fG (-2147483648) 2147483647, fG 0 24, fG 0 41, fG 0 319, fL, fG 0 1, fR (am 26), fG 0 48, fG 0 9, fR (am 27), fR (am 28), fR (am 29), fR (am 30), fR (am 31), fG (-2147483648) 2147483647, fG (-2147483648) 2147483647, fG 0 12, fG (-2147483648) 2147483647, fR (am 32), fG 0 1, fX (E 0 5), fG (-2147483648) 2147483647, fG (-2147483648) 2147483647, fR (am 33), fR (am 34), fR (am 35), fG (-2147483648) 2147483647, fG (-2147483648) 2147483647, fR (am 36), fR (am 37), fR (am 38), fX fr, fX to, fX rd, fX li, fR (am 39), fX (T 0 6), fR (am 40), fR (am 41), fR (am 42), fR (am 43), fR (am 44)]))) _ _ := h
                      obtain ⟨w2, T2, eT2, hM2, hag2, h⟩ : ∃ (w2 : yW) (T2 : Nat → Int → Int), T2 = tStorm T fr to rd li ∧ MW ca T2 E am w2 ∧ AGM w w2 ∧ yH D Zk A s w2 H locs := ⟨_, _, rfl, mw_storm hM (by omega) (fun k k0 => by rw [wu_ne (by omega)]) wu_eq, fun k h1 => by rw [wu_ne (by omega)], h⟩
                      have hs2 := pi_s (MW.pi hM2)
                      have eA : T2 0 10 = fr := by rw [eT2]; rfl
                      have eB : T2 0 11 = to := by rw [eT2]; rfl
                      refine lv_aload_n B.1 B.2.1 dX12_storm_79 rfl (lv_at hl 0 rfl) ?_
                      refine y_cV B h kX12 50 (MW.f hM2 0 _ rfl) k_X12_findWays rfl (c_X12_findWays l D Zk ca T2 E am _ hM2   (by omega)) m_1864 rfl (by decide) hl.1 [] (Nat.le_of_ble_eq_true rfl) rfl dX12_storm_80 (fun r w1 hq H locs h => ?_)
                      obtain ⟨rfl, rfl⟩ := hq
                      show W p l e r_c_X12_storm s m args below meth c _ _ 0 0 Qf (F0 m 83 ls [])
                      refine lv_aload_n B.1 B.2.1 dX12_storm_83 rfl (lv_at hl 0 rfl) ?_
                      refine lv_aload_n B.1 B.2.1 dX12_storm_84 rfl (lv_at hl 0 rfl) ?_
                      refine y_getX B h kX12 50 (MW.f hM2 0 _ rfl) 69 (z := (T2 0 10)) rfl m_1330 (by decide) dX12_storm_85 ?_
                      refine y_cV B h kX12 50 (MW.f hM2 0 _ rfl) k_X12_cellsOn rfl (c_X12_cellsOn l D Zk ca T2 E am _ hM2 ((T2 0 10))  (by omega) (by omega)) m_1876 rfl (by decide) hl.1 [] (Nat.le_of_ble_eq_true rfl) rfl dX12_storm_88 (fun r w1 hq H locs h => ?_)
                      obtain ⟨rfl, z11, rfl, hz11⟩ := hq
                      show W p l e r_c_X12_storm s m args below meth c _ _ 0 0 Qf (F0 m 91 ls [.int (iI z11)])
                      refine x_if_le B (by omega) (tgt := 98) dX12_storm_91 (by decide) (fun c12 => ?_) (fun c12 => ?_)
                      · refine x_iconst B dX12_storm_98 ?_
                        refine y_ri B hQ h (by decide) dX12_storm_99 ?_
                        exact ⟨_, rfl, Or.inl ⟨by omega, by omega, by rw [← eT2]; exact hM2, hag2⟩⟩
                      · refine x_iconst B dX12_storm_94 ?_
                        refine lv_goto (tgt := 99) B.1 B.2.1 dX12_storm_95 (by decide) ?_
                        refine y_ri B hQ h (by decide) dX12_storm_99 ?_
                        exact ⟨_, rfl, Or.inl ⟨by omega, by omega, by rw [← eT2]; exact hM2, hag2⟩⟩
                    · exact absurd c10 (by omega)
                  · show W p l e r_c_X12_storm s m args below meth c _ _ 0 0 Qf (F0 m 53 ls [.int (iI 0)])
                    refine x_if_ne B (by omega) (tgt := 58) dX12_storm_53 (by decide) (fun c13 => ?_) (fun c13 => ?_)
                    · exact absurd c13 (by omega)
                    · refine x_iconst B dX12_storm_56 ?_
                      refine y_ri B hQ h (by decide) dX12_storm_57 ?_
                      exact ⟨_, rfl, Or.inr ⟨by omega, by omega, rfl⟩⟩
              · show W p l e r_c_X12_storm s m args below meth c _ _ 0 0 Qf (F0 m 42 ls [.int (iI 0)])
                refine x_if_eq B (by omega) (tgt := 56) dX12_storm_42 (by decide) (fun c14 => ?_) (fun c14 => ?_)
                · refine x_iconst B dX12_storm_56 ?_
                  refine y_ri B hQ h (by decide) dX12_storm_57 ?_
                  exact ⟨_, rfl, Or.inr ⟨by omega, by omega, rfl⟩⟩
                · exact absurd c14 (by omega)
      · show W p l e r_c_X12_storm s m args below meth c _ _ 0 0 Qf (F0 m 19 ls [.int (iI 0)])
        refine x_if_eq B (by omega) (tgt := 56) dX12_storm_19 (by decide) (fun c15 => ?_) (fun c15 => ?_)
        · refine x_iconst B dX12_storm_56 ?_
          refine y_ri B hQ h (by decide) dX12_storm_57 ?_
          exact ⟨_, rfl, Or.inr ⟨by omega, by omega, rfl⟩⟩
        · exact absurd c15 (by omega)
  · show W p l e r_c_X12_storm s m args below meth c _ _ 0 0 Qf (F0 m 8 ls [.int (iI 0)])
    refine x_if_eq B (by omega) (tgt := 56) dX12_storm_8 (by decide) (fun c16 => ?_) (fun c16 => ?_)
    · refine x_iconst B dX12_storm_56 ?_
      refine y_ri B hQ h (by decide) dX12_storm_57 ?_
      exact ⟨_, rfl, Or.inr ⟨by omega, by omega, rfl⟩⟩
    · exact absurd c16 (by omega)
abbrev r_c_X12_image : Room := { frames := 1, cells := 0, slots := 0, locals := 21 }
set_option maxHeartbeats 4000000 in
set_option maxRecDepth 100000 in
theorem c_X12_image (l : Launch) (D : va_G) (Zk : yK) (ca : Nat → ClassId) (T : Nat → Int → Int) (E : Nat → Int → Int) (am : Nat → Nat) (w : yW) (hM : MW ca T E am w)    : yC l D Zk ca yX12_image cX12_image 2 (some .int) r_c_X12_image [.ref (am 0)] w (fun r w1 => ∃ z : Int, r = some (.int (iI z)) ∧ ((T 0 6 < 4 ∧ z = T 0 6 ∧ MW ca (tImage T) E am w1 ∧ AGM w w1) ∨ (T 0 6 = 4 ∧ z = -1 ∧ w1 = w))) := by
  refine yC.of2 "WindWordsModel" (by decide) rfl (Nat.le_of_ble_eq_true rfl) ?_
  intro p e s m args below meth c A ls Qf B hnm h hl hQ
  have hl : lv_has ls 2 [(0, .ref (am 0))] := hl
  have hs := pi_s (MW.pi hM)
  have hpe := pe_0 (MW.pe hM)
  refine lv_aload_n B.1 B.2.1 dX12_image_0 rfl (lv_at hl 0 rfl) ?_
  refine y_getX B h kX12 50 (MW.f hM 0 _ rfl) 74 (z := (T 0 6)) rfl m_1335 (by decide) dX12_image_1 ?_
  refine x_iconst B dX12_image_4 ?_
  refine x_icmp_ne B (by omega) (tgt := 14) dX12_image_5 (by decide) (fun c1 => ?_) (fun c1 => ?_)
  · refine lv_aload_n B.1 B.2.1 dX12_image_14 rfl (lv_at hl 0 rfl) ?_
    refine y_getR B h kX12 50 (MW.f hM 0 _ rfl) 75 (b := am 40) rfl m_1336 (by decide) dX12_image_15 ?_
    refine lv_aload_n B.1 B.2.1 dX12_image_18 rfl (lv_at hl 0 rfl) ?_
    refine y_getX B h kX12 50 (MW.f hM 0 _ rfl) 74 (z := (T 0 6)) rfl m_1335 (by decide) dX12_image_19 ?_
    refine lv_aload_n B.1 B.2.1 dX12_image_22 rfl (lv_at hl 0 rfl) ?_
    refine y_getX B h kX12 50 (MW.f hM 0 _ rfl) 4 (z := (T 0 2)) rfl m_1265 (by decide) dX12_image_23 ?_
    refine y_iast B h 90 (MW.f hM 40 _ rfl) (by omega) (P' := gX 4 (iu (fun j => T 11 (j : Int)) (T 0 6) (T 0 2))) (gX_upd (by omega)) dX12_image_26 (fun H locs h => ?_)
    have h : yH D Zk A s ((wu w 90 (am 40, xAI (ca 0) 4 (gX 4 (iu (fun j => T 11 (j : Int)) (T 0 6) (T 0 2)))))) _ _ := h
    refine lv_aload_n B.1 B.2.1 dX12_image_27 rfl (lv_at hl 0 rfl) ?_
    refine y_getR B h kX12 50 (wu_at (MW.f hM 0 _ rfl) (by decide)) 76 (b := am 41) rfl m_1337 (by decide) dX12_image_28 ?_
    refine lv_aload_n B.1 B.2.1 dX12_image_31 rfl (lv_at hl 0 rfl) ?_
    refine y_getX B h kX12 50 (wu_at (MW.f hM 0 _ rfl) (by decide)) 74 (z := (T 0 6)) rfl m_1335 (by decide) dX12_image_32 ?_
    refine lv_aload_n B.1 B.2.1 dX12_image_35 rfl (lv_at hl 0 rfl) ?_
    refine y_getX B h kX12 50 (wu_at (MW.f hM 0 _ rfl) (by decide)) 1 (z := (T 0 0)) rfl m_1262 (by decide) dX12_image_36 ?_
    refine y_iast B h 91 (wu_at (MW.f hM 41 _ rfl) (by decide)) (by omega) (P' := gX 4 (iu (fun j => T 12 (j : Int)) (T 0 6) (T 0 0))) (gX_upd (by omega)) dX12_image_39 (fun H locs h => ?_)
    have h : yH D Zk A s ((wu (wu w 90 (am 40, xAI (ca 0) 4 (gX 4 (iu (fun j => T 11 (j : Int)) (T 0 6) (T 0 2))))) 91 (am 41, xAI (ca 0) 4 (gX 4 (iu (fun j => T 12 (j : Int)) (T 0 6) (T 0 0)))))) _ _ := h
    refine lv_aload_n B.1 B.2.1 dX12_image_40 rfl (lv_at hl 0 rfl) ?_
    refine y_getR B h kX12 50 (wu_at (wu_at (MW.f hM 0 _ rfl) (by decide)) (by decide)) 77 (b := am 42) rfl m_1338 (by decide) dX12_image_41 ?_
    refine lv_aload_n B.1 B.2.1 dX12_image_44 rfl (lv_at hl 0 rfl) ?_
    refine y_getX B h kX12 50 (wu_at (wu_at (MW.f hM 0 _ rfl) (by decide)) (by decide)) 74 (z := (T 0 6)) rfl m_1335 (by decide) dX12_image_45 ?_
    refine lv_aload_n B.1 B.2.1 dX12_image_48 rfl (lv_at hl 0 rfl) ?_
    refine y_getX B h kX12 50 (wu_at (wu_at (MW.f hM 0 _ rfl) (by decide)) (by decide)) 5 (z := (T 0 4)) rfl m_1266 (by decide) dX12_image_49 ?_
    refine y_iast B h 92 (wu_at (wu_at (MW.f hM 42 _ rfl) (by decide)) (by decide)) (by omega) (P' := gX 4 (iu (fun j => T 13 (j : Int)) (T 0 6) (T 0 4))) (gX_upd (by omega)) dX12_image_52 (fun H locs h => ?_)
    have h : yH D Zk A s ((wu (wu (wu w 90 (am 40, xAI (ca 0) 4 (gX 4 (iu (fun j => T 11 (j : Int)) (T 0 6) (T 0 2))))) 91 (am 41, xAI (ca 0) 4 (gX 4 (iu (fun j => T 12 (j : Int)) (T 0 6) (T 0 0))))) 92 (am 42, xAI (ca 0) 4 (gX 4 (iu (fun j => T 13 (j : Int)) (T 0 6) (T 0 4)))))) _ _ := h
    refine lv_aload_n B.1 B.2.1 dX12_image_53 rfl (lv_at hl 0 rfl) ?_
    refine y_getR B h kX12 50 (wu_at (wu_at (wu_at (MW.f hM 0 _ rfl) (by decide)) (by decide)) (by decide)) 78 (b := am 43) rfl m_1339 (by decide) dX12_image_54 ?_
    refine lv_aload_n B.1 B.2.1 dX12_image_57 rfl (lv_at hl 0 rfl) ?_
    refine y_getX B h kX12 50 (wu_at (wu_at (wu_at (MW.f hM 0 _ rfl) (by decide)) (by decide)) (by decide)) 74 (z := (T 0 6)) rfl m_1335 (by decide) dX12_image_58 ?_
    refine lv_aload_n B.1 B.2.1 dX12_image_61 rfl (lv_at hl 0 rfl) ?_
    refine y_getX B h kX12 50 (wu_at (wu_at (wu_at (MW.f hM 0 _ rfl) (by decide)) (by decide)) (by decide)) 6 (z := (T 0 5)) rfl m_1267 (by decide) dX12_image_62 ?_
    refine y_iast B h 93 (wu_at (wu_at (wu_at (MW.f hM 43 _ rfl) (by decide)) (by decide)) (by decide)) (by omega) (P' := gX 4 (iu (fun j => T 14 (j : Int)) (T 0 6) (T 0 5))) (gX_upd (by omega)) dX12_image_65 (fun H locs h => ?_)
    have h : yH D Zk A s ((wu (wu (wu (wu w 90 (am 40, xAI (ca 0) 4 (gX 4 (iu (fun j => T 11 (j : Int)) (T 0 6) (T 0 2))))) 91 (am 41, xAI (ca 0) 4 (gX 4 (iu (fun j => T 12 (j : Int)) (T 0 6) (T 0 0))))) 92 (am 42, xAI (ca 0) 4 (gX 4 (iu (fun j => T 13 (j : Int)) (T 0 6) (T 0 4))))) 93 (am 43, xAI (ca 0) 4 (gX 4 (iu (fun j => T 14 (j : Int)) (T 0 6) (T 0 5)))))) _ _ := h
    refine x_iconst B dX12_image_66 ?_
    refine lv_istore_n (lv' := [(1, .int (iI 0)), (0, .ref (am 0))]) B.1 B.2.1 dX12_image_67 rfl hl (by decide) rfl (fun ls hl => ?_)
    have loop68 : ∀ (n68 : Nat) (k : Int), (0 ≤ k ∧ k ≤ T 0 0) → ((T 0 0 - k : Int)).toNat < n68 → ∀ (H : Heap) (locs : List Loc) (ls : Array Slot), yH D Zk A s ((wu (wu (wu (wu w 90 (am 40, xAI (ca 0) 4 (gX 4 (iu (fun j => T 11 (j : Int)) (T 0 6) (T 0 2))))) 91 (am 41, xAI (ca 0) 4 (gX 4 (iu (fun j => T 12 (j : Int)) (T 0 6) (T 0 0))))) 92 (am 42, xAI (ca 0) 4 (gX 4 (iu (fun j => T 13 (j : Int)) (T 0 6) (T 0 4))))) 93 (am 43, xAI (ca 0) 4 (gX 4 (iu (fun j => T 14 (j : Int)) (T 0 6) (T 0 5)))))) H locs → lv_has ls 2 [(1, .int (iI k)), (0, .ref (am 0))] → W p l e r_c_X12_image s m args below meth c H locs 0 0 Qf (F0 m 68 ls []) := by
      intro n68
      induction n68 with
      | zero =>
        intro k h0 hm68 H locs ls h hl
        exact absurd hm68 (Nat.not_lt_zero _)
      | succ n68 ih68 =>
        intro k h0 hm68 H locs ls h hl
        refine lv_iload_n B.1 B.2.1 dX12_image_68 rfl (lv_at hl 0 rfl) ?_
        refine lv_aload_n B.1 B.2.1 dX12_image_69 rfl (lv_at hl 1 rfl) ?_
        refine y_getX B h kX12 50 (wu_at (wu_at (wu_at (wu_at (MW.f hM 0 _ rfl) (by decide)) (by decide)) (by decide)) (by decide)) 1 (z := (T 0 0)) rfl m_1262 (by decide) dX12_image_70 ?_
        refine x_icmp_ge B (by omega) (tgt := 102) dX12_image_73 (by decide) (fun c2 => ?_) (fun c2 => ?_)
        · refine lv_aload_n B.1 B.2.1 dX12_image_102 rfl (lv_at hl 1 rfl) ?_
          refine lv_dup B.1 B.2.1 dX12_image_103 rfl ?_
          refine y_getX B h kX12 50 (wu_at (wu_at (wu_at (wu_at (MW.f hM 0 _ rfl) (by decide)) (by decide)) (by decide)) (by decide)) 74 (z := (T 0 6)) rfl m_1335 (by decide) dX12_image_104 ?_
          refine x_iconst B dX12_image_107 ?_
          refine x_iadd B dX12_image_108 ?_
          refine y_put B h kX12 50 (wu_at (wu_at (wu_at (wu_at (MW.f hM 0 _ rfl) (by decide)) (by decide)) (by decide)) (by decide)) 74 (Nat.le_of_ble_eq_true rfl) (P' := fX ((T 0 6) + 1)) m_1335 (by decide) rfl rfl rfl rfl dX12_image_109 (fun H locs h => ?_)
          have h : yH D Zk A s ((wu (wu (wu (wu (wu w 90 (am 40, xAI (ca 0) 4 (gX 4 (iu (fun j => T 11 (j : Int)) (T 0 6) (T 0 2))))) 91 (am 41, xAI (ca 0) 4 (gX 4 (iu (fun j => T 12 (j : Int)) (T 0 6) (T 0 0))))) 92 (am 42, xAI (ca 0) 4 (gX 4 (iu (fun j => T 13 (j : Int)) (T 0 6) (T 0 4))))) 93 (am 43, xAI (ca 0) 4 (gX 4 (iu (fun j => T 14 (j : Int)) (T 0 6) (T 0 5))))) 50 (am 0, xO 12 [fR (am 1), fX (T 0 0), fX (T 0 1), fX (T 0 3), fX (T 0 2), fX (T 0 4), fX (T 0 5), fR (am 2), fR (am 3), fR (am 4), fR (am 5), fR (am 6), fR (am 7), fR (am 8), fR (am 9), fR (am 10), fR (am 11), fR (am 12), fR (am 13), fR (am 14), fR (am 15), fR (am 16), fR (am 17), fX (E 0 0), fR (am 18), fR (am 19), fR (am 20), fR (am 21), fR (am 22), fR (am 23), fR (am 24), fR (am 25), fG 0 900, fG (-2147483648) 2147483647, fG 0 900, fG 0 900, fG 0 900, fG (-2147483648) 2147483647, fG (-2147483648) 2147483647, fG 0 24, fG 0 41, fG 0 319, fL, fG 0 1, fR (am 26), fG 0 48, fG 0 9, fR (am 27), fR (am 28), fR (am 29), fR (am 30), fR (am 31), fG (-2147483648) 2147483647, fG (-2147483648) 2147483647, fG 0 12, fG (-2147483648) 2147483647, fR (am 32), fG 0 1, fX (E 0 5), fG (-2147483648) 2147483647, fG (-2147483648) 2147483647, fR (am 33), fR (am 34), fR (am 35), fG (-2147483648) 2147483647, fG (-2147483648) 2147483647, fR (am 36), fR (am 37), fR (am 38), fX (T 0 10), fX (T 0 11), fX (T 0 12), fX (T 0 13), fR (am 39), fX ((T 0 6) + 1), fR (am 40), fR (am 41), fR (am 42), fR (am 43), fR (am 44)]))) _ _ := h
          refine lv_aload_n B.1 B.2.1 dX12_image_112 rfl (lv_at hl 1 rfl) ?_
          refine y_getX B h kX12 50 wu_eq 74 (z := ((T 0 6) + 1)) rfl m_1335 (by decide) dX12_image_113 ?_
          refine x_iconst B dX12_image_116 ?_
          refine x_isub B dX12_image_117 ?_
          refine y_ri B hQ h (by decide) dX12_image_118 ?_
          exact ⟨_, rfl, Or.inl ⟨by omega, by omega, mw_image hM (by omega) (fun k k0 k1 k2 k3 k4 => by rw [wu_ne (by omega), wu_ne (by omega), wu_ne (by omega), wu_ne (by omega), wu_ne (by omega)]) wu_eq (wu_at (wu_at (wu_at (wu_at wu_eq (by decide)) (by decide)) (by decide)) (by decide)) (wu_at (wu_at (wu_at wu_eq (by decide)) (by decide)) (by decide)) (wu_at (wu_at wu_eq (by decide)) (by decide)) (wu_at wu_eq (by decide)), fun k h1 => by rw [wu_ne (by omega), wu_ne (by omega), wu_ne (by omega), wu_ne (by omega), wu_ne (by omega)]⟩⟩
        · refine lv_aload_n B.1 B.2.1 dX12_image_76 rfl (lv_at hl 1 rfl) ?_
          refine y_getR B h kX12 50 (wu_at (wu_at (wu_at (wu_at (MW.f hM 0 _ rfl) (by decide)) (by decide)) (by decide)) (by decide)) 79 (b := am 44) rfl m_1340 (by decide) dX12_image_77 ?_
          refine x_bipush B (by decide) dX12_image_80 ?_
          refine lv_aload_n B.1 B.2.1 dX12_image_82 rfl (lv_at hl 1 rfl) ?_
          refine y_getX B h kX12 50 (wu_at (wu_at (wu_at (wu_at (MW.f hM 0 _ rfl) (by decide)) (by decide)) (by decide)) (by decide)) 74 (z := (T 0 6)) rfl m_1335 (by decide) dX12_image_83 ?_
          refine x_imul B dX12_image_86 ?_
          refine lv_iload_n B.1 B.2.1 dX12_image_87 rfl (lv_at hl 0 rfl) ?_
          refine x_iadd B dX12_image_88 ?_
          refine lv_aload_n B.1 B.2.1 dX12_image_89 rfl (lv_at hl 1 rfl) ?_
          refine y_getR B h kX12 50 (wu_at (wu_at (wu_at (wu_at (MW.f hM 0 _ rfl) (by decide)) (by decide)) (by decide)) (by decide)) 7 (b := am 2) rfl m_1268 (by decide) dX12_image_90 ?_
          refine lv_iload_n B.1 B.2.1 dX12_image_93 rfl (lv_at hl 0 rfl) ?_
          refine y_zaldG B h 52 (wu_at (wu_at (wu_at (wu_at (MW.f hM 2 _ rfl) (by decide)) (by decide)) (by decide)) (by decide)) (by omega) dX12_image_94 (fun z3 z3a z3b => ?_)
          refine y_zastS B h 94 (wu_at (wu_at (wu_at (wu_at (MW.f hM 44 _ rfl) (by decide)) (by decide)) (by decide)) (by decide)) (by omega) (gG_updZ (by omega)) dX12_image_95 (fun H locs h => ?_)
          refine lv_iinc (v := iI (k + 1)) (lv' := [(1, .int (iI (k + 1))), (0, .ref (am 0))]) B.1 B.2.1 dX12_image_96 hl (k := 0) rfl (iI_add _ _) (by decide) rfl (fun ls hl => ?_)
          refine lv_goto (tgt := 68) B.1 B.2.1 dX12_image_99 (by decide) ?_
          exact ih68 ((k + 1)) (by omega) (by omega) _ _ _ h (lv_sub hl [0, 1] rfl)
    exact loop68 (((T 0 0 - 0 : Int)).toNat + 1) 0 (by omega) (Nat.lt_succ_self _) _ _ _ h (lv_sub hl [0, 1] rfl)
  · refine lv_aload_n B.1 B.2.1 dX12_image_8 rfl (lv_at hl 0 rfl) ?_
    refine x_iconst B dX12_image_9 ?_
    refine y_cV B h kX12 50 (MW.f hM 0 _ rfl) k_X12_refuse rfl (c_X12_refuse l D Zk ca T E am _ hM 1  (by omega)) m_1507 rfl (by decide) hl.1 [] (Nat.le_of_ble_eq_true rfl) rfl dX12_image_10 (fun r w1 hq H locs h => ?_)
    obtain ⟨rfl, z4, rfl, hz4⟩ := hq
    show W p l e r_c_X12_image s m args below meth c _ _ 0 0 Qf (F0 m 13 ls [.int (iI z4)])
    refine y_ri B hQ h (by decide) dX12_image_13 ?_
    exact ⟨_, rfl, Or.inr ⟨by omega, by omega, rfl⟩⟩
abbrev r_c_X12_back : Room := { frames := 1, cells := 0, slots := 0, locals := 22 }
set_option maxHeartbeats 4000000 in
set_option maxRecDepth 100000 in
theorem c_X12_back (l : Launch) (D : va_G) (Zk : yK) (ca : Nat → ClassId) (T : Nat → Int → Int) (E : Nat → Int → Int) (am : Nat → Nat) (w : yW) (hM : MW ca T E am w) (im : Int)  (him : xr im) : yC l D Zk ca yX12_back cX12_back 4 (some .int) r_c_X12_back [.ref (am 0), .int (iI im)] w (fun r w1 => ∃ z : Int, r = some (.int (iI z)) ∧ ((((0 ≤ im ∧ im < T 0 6) ∧ T 11 im ≤ T 0 2) ∧ z = T 0 2 - T 11 im ∧ MW ca (tBack T im) E am w1 ∧ AGM w w1) ∨ (¬ ((0 ≤ im ∧ im < T 0 6) ∧ T 11 im ≤ T 0 2) ∧ z = -1 ∧ w1 = w))) := by
  refine yC.of2 "WindWordsModel" (by decide) rfl (Nat.le_of_ble_eq_true rfl) ?_
  intro p e s m args below meth c A ls Qf B hnm h hl hQ
  have hl : lv_has ls 4 [(0, .ref (am 0)), (1, .int (iI im))] := hl
  have hs := pi_s (MW.pi hM)
  have hpe := pe_0 (MW.pe hM)
  refine lv_iload_n B.1 B.2.1 dX12_back_0 rfl (lv_at hl 1 rfl) ?_
  refine x_iconst B dX12_back_1 ?_
  refine lv_aload_n B.1 B.2.1 dX12_back_2 rfl (lv_at hl 0 rfl) ?_
  refine y_getX B h kX12 50 (MW.f hM 0 _ rfl) 74 (z := (T 0 6)) rfl m_1335 (by decide) dX12_back_3 ?_
  refine x_iconst B dX12_back_6 ?_
  refine x_isub B dX12_back_7 ?_
  refine y_cS B h k_X12_within (c_X12_within l D Zk ca _ im 0 (((T 0 6) - 1))  (by omega) (by omega) (by omega)) m_1515 rfl (by decide) hl.1 [] (Nat.le_of_ble_eq_true rfl) rfl dX12_back_8 (fun r w1 hq H locs h => ?_)
  obtain ⟨rfl, _, rfl, ⟨rfl, b1⟩ | ⟨rfl, b1⟩⟩ := hq
  · show W p l e r_c_X12_back s m args below meth c _ _ 0 0 Qf (F0 m 11 ls [.int (iI 1)])
    refine x_if_eq B (by omega) (tgt := 27) dX12_back_11 (by decide) (fun c2 => ?_) (fun c2 => ?_)
    · exact absurd c2 (by omega)
    · refine lv_aload_n B.1 B.2.1 dX12_back_14 rfl (lv_at hl 0 rfl) ?_
      refine y_getX B h kX12 50 (MW.f hM 0 _ rfl) 4 (z := (T 0 2)) rfl m_1265 (by decide) dX12_back_15 ?_
      refine lv_aload_n B.1 B.2.1 dX12_back_18 rfl (lv_at hl 0 rfl) ?_
      refine y_getR B h kX12 50 (MW.f hM 0 _ rfl) 75 (b := am 40) rfl m_1336 (by decide) dX12_back_19 ?_
      refine lv_iload_n B.1 B.2.1 dX12_back_22 rfl (lv_at hl 1 rfl) ?_
      refine y_ialdX B h 90 (MW.f hM 40 _ rfl) (by omega) dX12_back_23 ?_
      refine x_iset (z := (T 11 im)) (by show iI (T 11 (((im : Int).toNat : Nat) : Int)) = _; rw [show ((((im : Int).toNat : Nat) : Int)) = im by omega]) ?_
      have tb3 := pi_11 (MW.pi hM) im
      refine x_icmp_ge B (by omega) (tgt := 33) dX12_back_24 (by decide) (fun c4 => ?_) (fun c4 => ?_)
      · refine lv_aload_n B.1 B.2.1 dX12_back_33 rfl (lv_at hl 0 rfl) ?_
        refine y_getX B h kX12 50 (MW.f hM 0 _ rfl) 4 (z := (T 0 2)) rfl m_1265 (by decide) dX12_back_34 ?_
        refine lv_aload_n B.1 B.2.1 dX12_back_37 rfl (lv_at hl 0 rfl) ?_
        refine y_getR B h kX12 50 (MW.f hM 0 _ rfl) 75 (b := am 40) rfl m_1336 (by decide) dX12_back_38 ?_
        refine lv_iload_n B.1 B.2.1 dX12_back_41 rfl (lv_at hl 1 rfl) ?_
        refine y_ialdX B h 90 (MW.f hM 40 _ rfl) (by omega) dX12_back_42 ?_
        refine x_iset (z := (T 11 im)) (by show iI (T 11 (((im : Int).toNat : Nat) : Int)) = _; rw [show ((((im : Int).toNat : Nat) : Int)) = im by omega]) ?_
        refine x_isub B dX12_back_43 ?_
        refine lv_istore_n (lv' := [(2, .int (iI ((T 0 2) - (T 11 im)))), (0, .ref (am 0)), (1, .int (iI im))]) B.1 B.2.1 dX12_back_44 rfl hl (by decide) rfl (fun ls hl => ?_)
        refine lv_aload_n B.1 B.2.1 dX12_back_45 rfl (lv_at hl 1 rfl) ?_
        refine lv_aload_n B.1 B.2.1 dX12_back_46 rfl (lv_at hl 1 rfl) ?_
        refine y_getR B h kX12 50 (MW.f hM 0 _ rfl) 75 (b := am 40) rfl m_1336 (by decide) dX12_back_47 ?_
        refine lv_iload_n B.1 B.2.1 dX12_back_50 rfl (lv_at hl 2 rfl) ?_
        refine y_ialdX B h 90 (MW.f hM 40 _ rfl) (by omega) dX12_back_51 ?_
        refine x_iset (z := (T 11 im)) (by show iI (T 11 (((im : Int).toNat : Nat) : Int)) = _; rw [show ((((im : Int).toNat : Nat) : Int)) = im by omega]) ?_
        refine y_put B h kX12 50 (MW.f hM 0 _ rfl) 4 (Nat.le_of_ble_eq_true rfl) (P' := fX (T 11 im)) m_1265 (by decide) rfl rfl rfl rfl dX12_back_52 (fun H locs h => ?_)
        have h : yH D Zk A s ((wu w 50 (am 0, xO 12 [fR (am 1), fX (T 0 0), fX (T 0 1), fX (T 0 3), fX (T 11 im), fX (T 0 4), fX (T 0 5), fR (am 2), fR (am 3), fR (am 4), fR (am 5), fR (am 6), fR (am 7), fR (am 8), fR (am 9), fR (am 10), fR (am 11), fR (am 12), fR (am 13), fR (am 14), fR (am 15), fR (am 16), fR (am 17), fX (E 0 0), fR (am 18), fR (am 19), fR (am 20), fR (am 21), fR (am 22), fR (am 23), fR (am 24), fR (am 25), fG 0 900, fG (-2147483648) 2147483647, fG 0 900, fG 0 900, fG 0 900, fG (-2147483648) 2147483647, fG (-2147483648) 2147483647, fG 0 24, fG 0 41, fG 0 319, fL, fG 0 1, fR (am 26), fG 0 48, fG 0 9, fR (am 27), fR (am 28), fR (am 29), fR (am 30), fR (am 31), fG (-2147483648) 2147483647, fG (-2147483648) 2147483647, fG 0 12, fG (-2147483648) 2147483647, fR (am 32), fG 0 1, fX (E 0 5), fG (-2147483648) 2147483647, fG (-2147483648) 2147483647, fR (am 33), fR (am 34), fR (am 35), fG (-2147483648) 2147483647, fG (-2147483648) 2147483647, fR (am 36), fR (am 37), fR (am 38), fX (T 0 10), fX (T 0 11), fX (T 0 12), fX (T 0 13), fR (am 39), fX (T 0 6), fR (am 40), fR (am 41), fR (am 42), fR (am 43), fR (am 44)]))) _ _ := h
        refine x_iconst B dX12_back_55 ?_
        refine lv_istore_n (lv' := [(3, .int (iI 0)), (2, .int (iI ((T 0 2) - (T 11 im)))), (0, .ref (am 0)), (1, .int (iI im))]) B.1 B.2.1 dX12_back_56 rfl hl (by decide) rfl (fun ls hl => ?_)
        have loop57 : ∀ (n57 : Nat) (k : Int), (0 ≤ k ∧ k ≤ T 0 0) → ((T 0 0 - k : Int)).toNat < n57 → ∀ (H : Heap) (locs : List Loc) (ls : Array Slot), yH D Zk A s ((wu w 50 (am 0, xO 12 [fR (am 1), fX (T 0 0), fX (T 0 1), fX (T 0 3), fX (T 11 im), fX (T 0 4), fX (T 0 5), fR (am 2), fR (am 3), fR (am 4), fR (am 5), fR (am 6), fR (am 7), fR (am 8), fR (am 9), fR (am 10), fR (am 11), fR (am 12), fR (am 13), fR (am 14), fR (am 15), fR (am 16), fR (am 17), fX (E 0 0), fR (am 18), fR (am 19), fR (am 20), fR (am 21), fR (am 22), fR (am 23), fR (am 24), fR (am 25), fG 0 900, fG (-2147483648) 2147483647, fG 0 900, fG 0 900, fG 0 900, fG (-2147483648) 2147483647, fG (-2147483648) 2147483647, fG 0 24, fG 0 41, fG 0 319, fL, fG 0 1, fR (am 26), fG 0 48, fG 0 9, fR (am 27), fR (am 28), fR (am 29), fR (am 30), fR (am 31), fG (-2147483648) 2147483647, fG (-2147483648) 2147483647, fG 0 12, fG (-2147483648) 2147483647, fR (am 32), fG 0 1, fX (E 0 5), fG (-2147483648) 2147483647, fG (-2147483648) 2147483647, fR (am 33), fR (am 34), fR (am 35), fG (-2147483648) 2147483647, fG (-2147483648) 2147483647, fR (am 36), fR (am 37), fR (am 38), fX (T 0 10), fX (T 0 11), fX (T 0 12), fX (T 0 13), fR (am 39), fX (T 0 6), fR (am 40), fR (am 41), fR (am 42), fR (am 43), fR (am 44)]))) H locs → lv_has ls 4 [(3, .int (iI k)), (2, .int (iI ((T 0 2) - (T 11 im)))), (0, .ref (am 0)), (1, .int (iI im))] → W p l e r_c_X12_back s m args below meth c H locs 0 0 Qf (F0 m 57 ls []) := by
          intro n57
          induction n57 with
          | zero =>
            intro k h0 hm57 H locs ls h hl
            exact absurd hm57 (Nat.not_lt_zero _)
          | succ n57 ih57 =>
            intro k h0 hm57 H locs ls h hl
            refine lv_iload_n B.1 B.2.1 dX12_back_57 rfl (lv_at hl 0 rfl) ?_
            refine lv_aload_n B.1 B.2.1 dX12_back_58 rfl (lv_at hl 2 rfl) ?_
            refine y_getX B h kX12 50 wu_eq 1 (z := (T 0 0)) rfl m_1262 (by decide) dX12_back_59 ?_
            refine x_icmp_ge B (by omega) (tgt := 106) dX12_back_62 (by decide) (fun c5 => ?_) (fun c5 => ?_)
            · refine lv_aload_n B.1 B.2.1 dX12_back_106 rfl (lv_at hl 2 rfl) ?_
              refine lv_aload_n B.1 B.2.1 dX12_back_107 rfl (lv_at hl 2 rfl) ?_
              refine y_getR B h kX12 50 wu_eq 77 (b := am 42) rfl m_1338 (by decide) dX12_back_108 ?_
              refine lv_iload_n B.1 B.2.1 dX12_back_111 rfl (lv_at hl 3 rfl) ?_
              refine y_ialdX B h 92 (wu_at (MW.f hM 42 _ rfl) (by decide)) (by omega) dX12_back_112 ?_
              refine x_iset (z := (T 13 im)) (by show iI (T 13 (((im : Int).toNat : Nat) : Int)) = _; rw [show ((((im : Int).toNat : Nat) : Int)) = im by omega]) ?_
              have tb6 := pi_13 (MW.pi hM) im
              refine y_put B h kX12 50 wu_eq 5 (Nat.le_of_ble_eq_true rfl) (P' := fX (T 13 im)) m_1266 (by decide) rfl rfl rfl rfl dX12_back_113 (fun H locs h => ?_)
              rw [wu_wu] at h
              have h : yH D Zk A s ((wu w 50 (am 0, xO 12 [fR (am 1), fX (T 0 0), fX (T 0 1), fX (T 0 3), fX (T 11 im), fX (T 13 im), fX (T 0 5), fR (am 2), fR (am 3), fR (am 4), fR (am 5), fR (am 6), fR (am 7), fR (am 8), fR (am 9), fR (am 10), fR (am 11), fR (am 12), fR (am 13), fR (am 14), fR (am 15), fR (am 16), fR (am 17), fX (E 0 0), fR (am 18), fR (am 19), fR (am 20), fR (am 21), fR (am 22), fR (am 23), fR (am 24), fR (am 25), fG 0 900, fG (-2147483648) 2147483647, fG 0 900, fG 0 900, fG 0 900, fG (-2147483648) 2147483647, fG (-2147483648) 2147483647, fG 0 24, fG 0 41, fG 0 319, fL, fG 0 1, fR (am 26), fG 0 48, fG 0 9, fR (am 27), fR (am 28), fR (am 29), fR (am 30), fR (am 31), fG (-2147483648) 2147483647, fG (-2147483648) 2147483647, fG 0 12, fG (-2147483648) 2147483647, fR (am 32), fG 0 1, fX (E 0 5), fG (-2147483648) 2147483647, fG (-2147483648) 2147483647, fR (am 33), fR (am 34), fR (am 35), fG (-2147483648) 2147483647, fG (-2147483648) 2147483647, fR (am 36), fR (am 37), fR (am 38), fX (T 0 10), fX (T 0 11), fX (T 0 12), fX (T 0 13), fR (am 39), fX (T 0 6), fR (am 40), fR (am 41), fR (am 42), fR (am 43), fR (am 44)]))) _ _ := h
              refine lv_aload_n B.1 B.2.1 dX12_back_116 rfl (lv_at hl 2 rfl) ?_
              refine lv_aload_n B.1 B.2.1 dX12_back_117 rfl (lv_at hl 2 rfl) ?_
              refine y_getR B h kX12 50 wu_eq 78 (b := am 43) rfl m_1339 (by decide) dX12_back_118 ?_
              refine lv_iload_n B.1 B.2.1 dX12_back_121 rfl (lv_at hl 3 rfl) ?_
              refine y_ialdX B h 93 (wu_at (MW.f hM 43 _ rfl) (by decide)) (by omega) dX12_back_122 ?_
              refine x_iset (z := (T 14 im)) (by show iI (T 14 (((im : Int).toNat : Nat) : Int)) = _; rw [show ((((im : Int).toNat : Nat) : Int)) = im by omega]) ?_
              have tb7 := pi_14 (MW.pi hM) im
              refine y_put B h kX12 50 wu_eq 6 (Nat.le_of_ble_eq_true rfl) (P' := fX (T 14 im)) m_1267 (by decide) rfl rfl rfl rfl dX12_back_123 (fun H locs h => ?_)
              rw [wu_wu] at h
              have h : yH D Zk A s ((wu w 50 (am 0, xO 12 [fR (am 1), fX (T 0 0), fX (T 0 1), fX (T 0 3), fX (T 11 im), fX (T 13 im), fX (T 14 im), fR (am 2), fR (am 3), fR (am 4), fR (am 5), fR (am 6), fR (am 7), fR (am 8), fR (am 9), fR (am 10), fR (am 11), fR (am 12), fR (am 13), fR (am 14), fR (am 15), fR (am 16), fR (am 17), fX (E 0 0), fR (am 18), fR (am 19), fR (am 20), fR (am 21), fR (am 22), fR (am 23), fR (am 24), fR (am 25), fG 0 900, fG (-2147483648) 2147483647, fG 0 900, fG 0 900, fG 0 900, fG (-2147483648) 2147483647, fG (-2147483648) 2147483647, fG 0 24, fG 0 41, fG 0 319, fL, fG 0 1, fR (am 26), fG 0 48, fG 0 9, fR (am 27), fR (am 28), fR (am 29), fR (am 30), fR (am 31), fG (-2147483648) 2147483647, fG (-2147483648) 2147483647, fG 0 12, fG (-2147483648) 2147483647, fR (am 32), fG 0 1, fX (E 0 5), fG (-2147483648) 2147483647, fG (-2147483648) 2147483647, fR (am 33), fR (am 34), fR (am 35), fG (-2147483648) 2147483647, fG (-2147483648) 2147483647, fR (am 36), fR (am 37), fR (am 38), fX (T 0 10), fX (T 0 11), fX (T 0 12), fX (T 0 13), fR (am 39), fX (T 0 6), fR (am 40), fR (am 41), fR (am 42), fR (am 43), fR (am 44)]))) _ _ := h
              refine lv_iload_n B.1 B.2.1 dX12_back_126 rfl (lv_at hl 1 rfl) ?_
              refine y_ri B hQ h (by decide) dX12_back_127 ?_
              exact ⟨_, rfl, Or.inl ⟨by omega, by omega, mw_back hM (by omega) (fun k k0 => by rw [wu_ne (by omega)]) wu_eq, fun k h1 => by rw [wu_ne (by omega)]⟩⟩
            · refine lv_aload_n B.1 B.2.1 dX12_back_65 rfl (lv_at hl 2 rfl) ?_
              refine y_getR B h kX12 50 wu_eq 7 (b := am 2) rfl m_1268 (by decide) dX12_back_66 ?_
              refine lv_iload_n B.1 B.2.1 dX12_back_69 rfl (lv_at hl 0 rfl) ?_
              refine lv_iload_n B.1 B.2.1 dX12_back_70 rfl (lv_at hl 0 rfl) ?_
              refine lv_aload_n B.1 B.2.1 dX12_back_71 rfl (lv_at hl 2 rfl) ?_
              refine y_getR B h kX12 50 wu_eq 76 (b := am 41) rfl m_1337 (by decide) dX12_back_72 ?_
              refine lv_iload_n B.1 B.2.1 dX12_back_75 rfl (lv_at hl 3 rfl) ?_
              refine y_ialdX B h 91 (wu_at (MW.f hM 41 _ rfl) (by decide)) (by omega) dX12_back_76 ?_
              refine x_iset (z := (T 12 im)) (by show iI (T 12 (((im : Int).toNat : Nat) : Int)) = _; rw [show ((((im : Int).toNat : Nat) : Int)) = im by omega]) ?_
              have tb8 := pi_12 (MW.pi hM) im
              refine x_icmp_ge B (by omega) (tgt := 94) dX12_back_77 (by decide) (fun c9 => ?_) (fun c9 => ?_)
              · refine x_iconst B dX12_back_94 ?_
                refine lv_goto (tgt := 99) B.1 B.2.1 dX12_back_95 (by decide) ?_
                refine y_zastS B h 52 (wu_at (MW.f hM 2 _ rfl) (by decide)) (by omega) (gG_updZ (by omega)) dX12_back_99 (fun H locs h => ?_)
                refine lv_iinc (v := iI (k + 1)) (lv' := [(3, .int (iI (k + 1))), (2, .int (iI ((T 0 2) - (T 11 im)))), (0, .ref (am 0)), (1, .int (iI im))]) B.1 B.2.1 dX12_back_100 hl (k := 0) rfl (iI_add _ _) (by decide) rfl (fun ls hl => ?_)
                refine lv_goto (tgt := 57) B.1 B.2.1 dX12_back_103 (by decide) ?_
                exact ih57 ((k + 1)) (by omega) (by omega) _ _ _ h (lv_sub hl [0, 1, 2, 3] rfl)
              · refine lv_aload_n B.1 B.2.1 dX12_back_80 rfl (lv_at hl 2 rfl) ?_
                refine y_getR B h kX12 50 wu_eq 79 (b := am 44) rfl m_1340 (by decide) dX12_back_81 ?_
                refine x_bipush B (by decide) dX12_back_84 ?_
                refine lv_iload_n B.1 B.2.1 dX12_back_86 rfl (lv_at hl 3 rfl) ?_
                refine x_imul B dX12_back_87 ?_
                refine lv_iload_n B.1 B.2.1 dX12_back_88 rfl (lv_at hl 0 rfl) ?_
                refine x_iadd B dX12_back_89 ?_
                refine y_zaldG B h 94 (wu_at (MW.f hM 44 _ rfl) (by decide)) (by omega) dX12_back_90 (fun z10 z10a z10b => ?_)
                refine x_if_eq B (by omega) (tgt := 98) dX12_back_91 (by decide) (fun c11 => ?_) (fun c11 => ?_)
                · refine x_iconst B dX12_back_98 ?_
                  refine y_zastS B h 52 (wu_at (MW.f hM 2 _ rfl) (by decide)) (by omega) (gG_updZ (by omega)) dX12_back_99 (fun H locs h => ?_)
                  refine lv_iinc (v := iI (k + 1)) (lv' := [(3, .int (iI (k + 1))), (2, .int (iI ((T 0 2) - (T 11 im)))), (0, .ref (am 0)), (1, .int (iI im))]) B.1 B.2.1 dX12_back_100 hl (k := 0) rfl (iI_add _ _) (by decide) rfl (fun ls hl => ?_)
                  refine lv_goto (tgt := 57) B.1 B.2.1 dX12_back_103 (by decide) ?_
                  exact ih57 ((k + 1)) (by omega) (by omega) _ _ _ h (lv_sub hl [0, 1, 2, 3] rfl)
                · refine x_iconst B dX12_back_94 ?_
                  refine lv_goto (tgt := 99) B.1 B.2.1 dX12_back_95 (by decide) ?_
                  refine y_zastS B h 52 (wu_at (MW.f hM 2 _ rfl) (by decide)) (by omega) (gG_updZ (by omega)) dX12_back_99 (fun H locs h => ?_)
                  refine lv_iinc (v := iI (k + 1)) (lv' := [(3, .int (iI (k + 1))), (2, .int (iI ((T 0 2) - (T 11 im)))), (0, .ref (am 0)), (1, .int (iI im))]) B.1 B.2.1 dX12_back_100 hl (k := 0) rfl (iI_add _ _) (by decide) rfl (fun ls hl => ?_)
                  refine lv_goto (tgt := 57) B.1 B.2.1 dX12_back_103 (by decide) ?_
                  exact ih57 ((k + 1)) (by omega) (by omega) _ _ _ h (lv_sub hl [0, 1, 2, 3] rfl)
        exact loop57 (((T 0 0 - 0 : Int)).toNat + 1) 0 (by omega) (Nat.lt_succ_self _) _ _ _ h (lv_sub hl [0, 1, 2, 3] rfl)
      · refine lv_aload_n B.1 B.2.1 dX12_back_27 rfl (lv_at hl 0 rfl) ?_
        refine x_iconst B dX12_back_28 ?_
        refine y_cV B h kX12 50 (MW.f hM 0 _ rfl) k_X12_refuse rfl (c_X12_refuse l D Zk ca T E am _ hM 0  (by omega)) m_1507 rfl (by decide) hl.1 [] (Nat.le_of_ble_eq_true rfl) rfl dX12_back_29 (fun r w1 hq H locs h => ?_)
        obtain ⟨rfl, z12, rfl, hz12⟩ := hq
        show W p l e r_c_X12_back s m args below meth c _ _ 0 0 Qf (F0 m 32 ls [.int (iI z12)])
        refine y_ri B hQ h (by decide) dX12_back_32 ?_
        exact ⟨_, rfl, Or.inr ⟨by omega, by omega, rfl⟩⟩
  · show W p l e r_c_X12_back s m args below meth c _ _ 0 0 Qf (F0 m 11 ls [.int (iI 0)])
    refine x_if_eq B (by omega) (tgt := 27) dX12_back_11 (by decide) (fun c13 => ?_) (fun c13 => ?_)
    · refine lv_aload_n B.1 B.2.1 dX12_back_27 rfl (lv_at hl 0 rfl) ?_
      refine x_iconst B dX12_back_28 ?_
      refine y_cV B h kX12 50 (MW.f hM 0 _ rfl) k_X12_refuse rfl (c_X12_refuse l D Zk ca T E am _ hM 0  (by omega)) m_1507 rfl (by decide) hl.1 [] (Nat.le_of_ble_eq_true rfl) rfl dX12_back_29 (fun r w1 hq H locs h => ?_)
      obtain ⟨rfl, z14, rfl, hz14⟩ := hq
      show W p l e r_c_X12_back s m args below meth c _ _ 0 0 Qf (F0 m 32 ls [.int (iI z14)])
      refine y_ri B hQ h (by decide) dX12_back_32 ?_
      exact ⟨_, rfl, Or.inr ⟨by omega, by omega, rfl⟩⟩
    · exact absurd c13 (by omega)
