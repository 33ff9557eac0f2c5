theorem gRd_up {T : Nat → Int → Int} {G : Nat → Int → Nat} {sh v sp kd nb : Int} {q : Nat} (h : 0 ≤ T 0 2 ∧ 0 ≤ v) : ∀ f : Nat → Option Nat, gRd T G (T 0 2) sh f → gRd (tRead T sh v sp kd nb) (gUp G 4 (T 0 2) q) (T 0 2 + 1) sh (va_up f v.toNat (some q)) := fun f hf i hi => by
  have e4 : ∀ j : Int, tRead T sh v sp kd nb 4 j = if j = T 0 2 then sh else T 4 j := fun j => by unfold tRead; (repeat' split) <;> first | rfl | omega
  have e5 : ∀ j : Int, tRead T sh v sp kd nb 5 j = if j = T 0 2 then v else T 5 j := fun j => by unfold tRead; (repeat' split) <;> first | rfl | omega
  unfold va_up
  by_cases e : i = v
  · subst e
    rw [if_pos rfl]
    exact Or.inr ⟨T 0 2, by omega, by rw [e4, if_pos rfl], by rw [e5, if_pos rfl], congrArg some (if_pos ⟨rfl, rfl⟩).symm⟩
  · rw [if_neg (show ¬ i.toNat = v.toNat by omega)]
    rcases hf i hi with ⟨a, b⟩ | ⟨k, hk, a, b, c⟩
    · refine Or.inl ⟨a, fun k hk hh => ?_⟩
      rw [e4, e5] at hh
      by_cases q2 : k = T 0 2
      · rw [if_pos q2, if_pos q2] at hh; exact e hh.2.symm
      · rw [if_neg q2, if_neg q2] at hh; exact b k (by omega) hh
    · exact Or.inr ⟨k, by omega, by rw [e4, if_neg (by omega)]; exact a, by rw [e5, if_neg (by omega)]; exact b, c.trans (congrArg some (if_neg (by omega)).symm)⟩
theorem gRd_oth {T : Nat → Int → Int} {G : Nat → Int → Nat} {sh v sp kd nb s9 : Int} {q : Nat} (h : 0 ≤ T 0 2 ∧ s9 ≠ sh) : gRd (tRead T sh v sp kd nb) (gUp G 4 (T 0 2) q) (T 0 2 + 1) s9 = gRd T G (T 0 2) s9 := by
  have e4 : ∀ j : Int, tRead T sh v sp kd nb 4 j = if j = T 0 2 then sh else T 4 j := fun j => by unfold tRead; (repeat' split) <;> first | rfl | omega
  have e5 : ∀ j : Int, tRead T sh v sp kd nb 5 j = if j = T 0 2 then v else T 5 j := fun j => by unfold tRead; (repeat' split) <;> first | rfl | omega
  funext f
  apply propext
  constructor
  · intro hf i hi
    rcases hf i hi with ⟨a, b⟩ | ⟨k, hk, a, b, c⟩
    · refine Or.inl ⟨a, fun k hk hh => b k (by omega) ?_⟩
      rw [e4, e5, if_neg (by omega), if_neg (by omega)]; exact hh
    · rw [e4] at a; rw [e5] at b
      by_cases q2 : k = T 0 2
      · rw [if_pos q2] at a; exact absurd a.symm h.2
      · rw [if_neg q2] at a b
        exact Or.inr ⟨k, by omega, a, b, c.trans (congrArg some (if_neg (by omega)))⟩
  · intro hf i hi
    rcases hf i hi with ⟨a, b⟩ | ⟨k, hk, a, b, c⟩
    · refine Or.inl ⟨a, fun k hk hh => ?_⟩
      rw [e4, e5] at hh
      by_cases q2 : k = T 0 2
      · rw [if_pos q2] at hh; exact h.2 hh.1.symm
      · rw [if_neg q2, if_neg q2] at hh; exact b k (by omega) hh
    · exact Or.inr ⟨k, by omega, by rw [e4, if_neg (by omega)]; exact a, by rw [e5, if_neg (by omega)]; exact b, c.trans (congrArg some (if_neg (by omega)).symm)⟩
set_option maxHeartbeats 4000000 in
theorem cw_read {ca : Nat → ClassId} {T : Nat → Int → Int} {G : Nat → Int → Nat} {u : Int} {ad : Nat → Nat} {w w1 : yW} {sh v sp kd nb : Int} {q : Nat} (h : CW ca T G u ad w) (hn : T 0 2 < 300) (h1 : 0 ≤ sh ∧ sh < T 0 1) (h2 : 0 ≤ v ∧ v ≤ 999) (h3 : 0 ≤ sp ∧ sp ≤ 6399) (h4 : 0 ≤ kd ∧ kd ≤ 3) (h5 : 0 ≤ nb ∧ nb ≤ 99 ∧ (kd = 3 ∨ nb ≤ 12)) (h6 : ∀ k : Int, 0 ≤ k ∧ k < T 0 2 → ¬ (T 4 k = sh ∧ T 5 k = v))
    (hk : ∀ k : Nat, k ≠ 1 → k ≠ 3 → k ≠ 1000 + 16 * sh.toNat + 3 → k ≠ 1000 + 16 * (T 0 2).toNat + 4 → w1 k = w k)
    (c1 : w1 1 = some (ad 1, xO 0 [fR (ad 2), fR (ad 3), fX (T 0 0), fG (-2147483648) 2147483647, fX (T 0 1), fX (T 0 2 + 1), fX (T 0 3), fX (T 0 4), fX (T 0 5)]))
    (c2 : w1 3 = some (ad 3, xAQ (ca 5) 300 (gRow (gUp G 4 (T 0 2) q) 4 (T 0 2 + 1))))
    (c3 : w1 (1000 + 16 * sh.toNat + 3) = some (G 3 sh, xAQ (ca 5) 1000 (gRd (tRead T sh v sp kd nb) (gUp G 4 (T 0 2) q) (T 0 2 + 1) sh)))
    (c4 : w1 (1000 + 16 * (T 0 2).toNat + 4) = some (q, xO 4 [fR (G 1 sh), fX v, fX (sp / 100), fX kd, fX nb, fX (sp / 10 % 10), fX (sp % 10), fX (T 0 2)])) :
    CW ca (tRead T sh v sp kd nb) (gUp G 4 (T 0 2) q) u ad w1 := by
  have hp := h.pi
  have hs := pi_s hp
  have hs1 := hs.2.1
  have hs2 := hs.2.2.1
  have hs6 := hs.2.2.2.2.2.2.1
  refine ⟨pi_read hp hn h1 h2 h3 h4 h5 h6, fun k x hx => ?_, fun s hs9 => ?_, fun k hk9 => ?_, fun i hi => ?_, fun j hj => ?_⟩
  · have hl := cF_lt hx
    by_cases e1 : k = 1
    · subst e1; cases hx; exact c1
    · by_cases e2 : k = 3
      · subst e2; cases hx; exact c2
      · rw [hk k e1 e2 (by omega) (by omega)]
        refine h.f k x ?_
        rw [show cF ca (tRead T sh v sp kd nb) (gUp G 4 (T 0 2) q) u ad = ((cF ca T G u ad).set 1 (ad 1, xO 0 [fR (ad 2), fR (ad 3), fX (T 0 0), fG (-2147483648) 2147483647, fX (T 0 1), fX (T 0 2 + 1), fX (T 0 3), fX (T 0 4), fX (T 0 5)])).set 3 (ad 3, xAQ (ca 5) 300 (gRow (gUp G 4 (T 0 2) q) 4 (T 0 2 + 1))) from rfl, List.getElem?_set_ne (Ne.symm e2), List.getElem?_set_ne (Ne.symm e1)] at hx
        exact hx
  · have hs9 : 0 ≤ s ∧ s < T 0 1 := hs9
    obtain ⟨a, b, c⟩ := h.2.2.1 s hs9
    refine ⟨(hk _ (by omega) (by omega) (by omega) (by omega)).trans a, (hk _ (by omega) (by omega) (by omega) (by omega)).trans b, ?_⟩
    show w1 _ = some (_, xAQ (ca 5) 1000 (gRd (tRead T sh v sp kd nb) (gUp G 4 (T 0 2) q) (T 0 2 + 1) s))
    by_cases e : s = sh
    · subst e; exact c3
    · rw [gRd_oth ⟨hs2.1, e⟩]
      exact (hk _ (by omega) (by omega) (by omega) (by omega)).trans c
  · have hk9 : 0 ≤ k ∧ k < T 0 2 + 1 := hk9
    have e4 : tRead T sh v sp kd nb 4 k = if k = T 0 2 then sh else T 4 k := by unfold tRead; (repeat' split) <;> first | rfl | omega
    have e5 : tRead T sh v sp kd nb 5 k = if k = T 0 2 then v else T 5 k := by unfold tRead; (repeat' split) <;> first | rfl | omega
    have e6 : tRead T sh v sp kd nb 6 k = if k = T 0 2 then sp / 100 else T 6 k := by unfold tRead; (repeat' split) <;> first | rfl | omega
    have e7 : tRead T sh v sp kd nb 7 k = if k = T 0 2 then kd else T 7 k := by unfold tRead; (repeat' split) <;> first | rfl | omega
    have e8 : tRead T sh v sp kd nb 8 k = if k = T 0 2 then nb else T 8 k := by unfold tRead; (repeat' split) <;> first | rfl | omega
    have e9 : tRead T sh v sp kd nb 9 k = if k = T 0 2 then sp / 10 % 10 else T 9 k := by unfold tRead; (repeat' split) <;> first | rfl | omega
    have ea : tRead T sh v sp kd nb 10 k = if k = T 0 2 then sp % 10 else T 10 k := by unfold tRead; (repeat' split) <;> first | rfl | omega
    show w1 _ = some (gUp G 4 (T 0 2) q 4 k, xO 4 [fR (G 1 (tRead T sh v sp kd nb 4 k)), fX (tRead T sh v sp kd nb 5 k), fX (tRead T sh v sp kd nb 6 k), fX (tRead T sh v sp kd nb 7 k), fX (tRead T sh v sp kd nb 8 k), fX (tRead T sh v sp kd nb 9 k), fX (tRead T sh v sp kd nb 10 k), fX k])
    rw [e4, e5, e6, e7, e8, e9, ea]
    by_cases q2 : k = T 0 2
    · rw [if_pos q2, if_pos q2, if_pos q2, if_pos q2, if_pos q2, if_pos q2, if_pos q2, q2, show gUp G 4 (T 0 2) q 4 (T 0 2) = q from if_pos ⟨rfl, rfl⟩]
      exact c4
    · rw [if_neg q2, if_neg q2, if_neg q2, if_neg q2, if_neg q2, if_neg q2, if_neg q2, show gUp G 4 (T 0 2) q 4 k = G 4 k from if_neg (by omega)]
      exact (hk _ (by omega) (by omega) (by omega) (by omega)).trans (h.2.2.2.1 k (by omega))
  · have hi : 0 ≤ i ∧ i < T 0 6 := hi
    exact (hk _ (by omega) (by omega) (by omega) (by omega)).trans (h.2.2.2.2.1 i hi)
  · obtain ⟨a, b, c, d, e, f⟩ := h.2.2.2.2.2 j hj
    exact ⟨(hk _ (by omega) (by omega) (by omega) (by omega)).trans a, (hk _ (by omega) (by omega) (by omega) (by omega)).trans b, (hk _ (by omega) (by omega) (by omega) (by omega)).trans c, (hk _ (by omega) (by omega) (by omega) (by omega)).trans d, (hk _ (by omega) (by omega) (by omega) (by omega)).trans e, (hk _ (by omega) (by omega) (by omega) (by omega)).trans f⟩
def gRul (G : Nat → Int → Nat) (u : Int) (q6 q7 q8 q9 qa qb : Nat) : Nat → Int → Nat := gUp (gUp (gUp (gUp (gUp (gUp G 6 u q6) 7 u q7) 8 u q8) 9 u q9) 10 u qa) 11 u qb
theorem gRul_n {G : Nat → Int → Nat} {u : Int} {q6 q7 q8 q9 qa qb : Nat} : gRul G u q6 q7 q8 q9 qa qb 6 u = q6 ∧ gRul G u q6 q7 q8 q9 qa qb 7 u = q7 ∧ gRul G u q6 q7 q8 q9 qa qb 8 u = q8 ∧ gRul G u q6 q7 q8 q9 qa qb 9 u = q9 ∧ gRul G u q6 q7 q8 q9 qa qb 10 u = qa ∧ gRul G u q6 q7 q8 q9 qa qb 11 u = qb := by
  unfold gRul gUp
  refine ⟨?_, ?_, ?_, ?_, ?_, ?_⟩
  · rw [if_neg (by omega), if_neg (by omega), if_neg (by omega), if_neg (by omega), if_neg (by omega), if_pos ⟨rfl, rfl⟩]
  · rw [if_neg (by omega), if_neg (by omega), if_neg (by omega), if_neg (by omega), if_pos ⟨rfl, rfl⟩]
  · rw [if_neg (by omega), if_neg (by omega), if_neg (by omega), if_pos ⟨rfl, rfl⟩]
  · rw [if_neg (by omega), if_neg (by omega), if_pos ⟨rfl, rfl⟩]
  · rw [if_neg (by omega), if_pos ⟨rfl, rfl⟩]
  · rw [if_pos ⟨rfl, rfl⟩]
theorem gRul_o {G : Nat → Int → Nat} {u j : Int} {q6 q7 q8 q9 qa qb f : Nat} (h : j ≠ u) : gRul G u q6 q7 q8 q9 qa qb f j = G f j := by
  unfold gRul gUp
  rw [if_neg (by omega), if_neg (by omega), if_neg (by omega), if_neg (by omega), if_neg (by omega), if_neg (by omega)]
theorem fU_new {G : Nat → Int → Nat} {u : Int} {q6 q7 q8 q9 qa qb : Nat} : ∀ v : Value, fU G u v → fU (gRul G u q6 q7 q8 q9 qa qb) (u + 1) v := fun v hv => by
  obtain ⟨j, hj, rfl⟩ := hv
  exact ⟨j, by omega, congrArg Value.ref (gRul_o (by omega)).symm⟩
theorem gU_new {cA : ClassId} {n : Nat} {N : Int} {G : Nat → Int → Nat} {u : Int} {q6 q7 q8 q9 qa qb : Nat} : ∀ e : va_E, xAQ cA n (gU N G u) e → xAQ cA n (gU N (gRul G u q6 q7 q8 q9 qa qb) (u + 1)) e := fun e he => by
  obtain ⟨f, rfl, hf⟩ := he
  refine ⟨f, rfl, fun i hi => ?_⟩
  rcases hf i hi with a | ⟨j, hj, a⟩
  · exact Or.inl a
  · exact Or.inr ⟨j, by omega, a.trans (congrArg some (gRul_o (by omega)).symm)⟩
set_option maxHeartbeats 4000000 in
theorem cw_rule {ca : Nat → ClassId} {T : Nat → Int → Int} {G : Nat → Int → Nat} {u : Int} {ad : Nat → Nat} {w w1 : yW} {q6 q7 q8 q9 qa qb : Nat} (h : CW ca T G u ad w) (hu : 0 ≤ u)
    (hk : ∀ k : Nat, k ≠ 0 → k ≠ 5 → k ≠ 27 → k ≠ 1000 + 16 * u.toNat + 6 → k ≠ 1000 + 16 * u.toNat + 7 → k ≠ 1000 + 16 * u.toNat + 8 → k ≠ 1000 + 16 * u.toNat + 9 → k ≠ 1000 + 16 * u.toNat + 10 → k ≠ 1000 + 16 * u.toNat + 11 → w1 k = w k)
    (c1 : w1 0 = some (ad 0, xO 11 [fR (ad 1), fR (ad 4), fR (ad 12), fR (ad 14), fR (ad 18), fR (ad 20), fR (ad 26), fR (ad 27), fR (ad 28), fR (ad 29), fR (ad 30), fR (ad 31), fR (ad 32), fR (ad 33), fR (ad 34), fR (ad 35), fU (gRul G u q6 q7 q8 q9 qa qb) (u + 1), fX (T 0 6), fG (-2147483648) 2147483647]))
    (c2 : w1 5 = some (ad 5, xAQ (ca 6) 8 (gU 8 (gRul G u q6 q7 q8 q9 qa qb) (u + 1))))
    (c3 : w1 27 = some (ad 27, xAQ (ca 6) 16 (gU 16 (gRul G u q6 q7 q8 q9 qa qb) (u + 1))))
    (d6 : w1 (1000 + 16 * u.toNat + 6) = some (q6, xO 5 [fR q7, fR q8, fR q9, fR qa, fR qb, fG 0 40, fG 0 450]))
    (d7 : w1 (1000 + 16 * u.toNat + 7) = some (q7, xAI (ca 0) 40 gA)) (d8 : w1 (1000 + 16 * u.toNat + 8) = some (q8, xAI (ca 0) 40 (gG 40 0 12))) (d9 : w1 (1000 + 16 * u.toNat + 9) = some (q9, xAI (ca 0) 40 (gG 40 0 99)))
    (da : w1 (1000 + 16 * u.toNat + 10) = some (qa, xAI (ca 0) 41 (gG 41 0 450))) (db : w1 (1000 + 16 * u.toNat + 11) = some (qb, xAI (ca 0) 450 gA)) :
    CW ca T (gRul G u q6 q7 q8 q9 qa qb) (u + 1) ad w1 := by
  have hp := h.pi
  have hs := pi_s hp
  have hs1 := hs.2.1
  have hs2 := hs.2.2.1
  have hs6 := hs.2.2.2.2.2.2.1
  have hN := gRul_n (G := G) (u := u) (q6 := q6) (q7 := q7) (q8 := q8) (q9 := q9) (qa := qa) (qb := qb)
  have b : ∀ (f : Nat) (j : Int), f < 6 → gRul G u q6 q7 q8 q9 qa qb f j = G f j := fun f j hf => by
    unfold gRul gUp
    rw [if_neg (by omega), if_neg (by omega), if_neg (by omega), if_neg (by omega), if_neg (by omega), if_neg (by omega)]
  refine ⟨hp, fun k x hx => ?_, fun s hs9 => ?_, fun k hk9 => ?_, fun i hi => ?_, fun j hj => ?_⟩
  · have hl := cF_lt hx
    by_cases e1 : k = 0
    · subst e1; cases hx; exact c1
    · by_cases e2 : k = 5
      · subst e2; cases hx; exact c2
      · by_cases e3 : k = 27
        · subst e3; cases hx; exact c3
        · rw [hk k e1 e2 e3 (by omega) (by omega) (by omega) (by omega) (by omega) (by omega)]
          refine h.f k x ?_
          rw [show cF ca T (gRul G u q6 q7 q8 q9 qa qb) (u + 1) ad = (((cF ca T G u ad).set 0 (ad 0, xO 11 [fR (ad 1), fR (ad 4), fR (ad 12), fR (ad 14), fR (ad 18), fR (ad 20), fR (ad 26), fR (ad 27), fR (ad 28), fR (ad 29), fR (ad 30), fR (ad 31), fR (ad 32), fR (ad 33), fR (ad 34), fR (ad 35), fU (gRul G u q6 q7 q8 q9 qa qb) (u + 1), fX (T 0 6), fG (-2147483648) 2147483647])).set 5 (ad 5, xAQ (ca 6) 8 (gU 8 (gRul G u q6 q7 q8 q9 qa qb) (u + 1)))).set 27 (ad 27, xAQ (ca 6) 16 (gU 16 (gRul G u q6 q7 q8 q9 qa qb) (u + 1))) from rfl, List.getElem?_set_ne (Ne.symm e3), List.getElem?_set_ne (Ne.symm e2), List.getElem?_set_ne (Ne.symm e1)] at hx
          exact hx
  · obtain ⟨a, b, c⟩ := h.2.2.1 s hs9
    exact ⟨(hk _ (by omega) (by omega) (by omega) (by omega) (by omega) (by omega) (by omega) (by omega) (by omega)).trans a, (hk _ (by omega) (by omega) (by omega) (by omega) (by omega) (by omega) (by omega) (by omega) (by omega)).trans b, (hk _ (by omega) (by omega) (by omega) (by omega) (by omega) (by omega) (by omega) (by omega) (by omega)).trans c⟩
  · exact (hk _ (by omega) (by omega) (by omega) (by omega) (by omega) (by omega) (by omega) (by omega) (by omega)).trans (h.2.2.2.1 k hk9)
  · exact (hk _ (by omega) (by omega) (by omega) (by omega) (by omega) (by omega) (by omega) (by omega) (by omega)).trans (h.2.2.2.2.1 i hi)
  · by_cases e : j = u
    · subst e
      obtain ⟨n6, n7, n8, n9, na, nb⟩ := hN
      refine ⟨?_, ?_, ?_, ?_, ?_, ?_⟩
      · rw [n6, n7, n8, n9, na, nb]; exact d6
      · rw [n7]; exact d7
      · rw [n8]; exact d8
      · rw [n9]; exact d9
      · rw [na]; exact da
      · rw [nb]; exact db
    · obtain ⟨a, b, c, d, f, g⟩ := h.2.2.2.2.2 j (by omega)
      have go : ∀ f : Nat, gRul G u q6 q7 q8 q9 qa qb f j = G f j := fun f => gRul_o e
      unfold CRu
      rw [go, go, go, go, go, go]
      exact ⟨(hk _ (by omega) (by omega) (by omega) (by omega) (by omega) (by omega) (by omega) (by omega) (by omega)).trans a, (hk _ (by omega) (by omega) (by omega) (by omega) (by omega) (by omega) (by omega) (by omega) (by omega)).trans b, (hk _ (by omega) (by omega) (by omega) (by omega) (by omega) (by omega) (by omega) (by omega) (by omega)).trans c, (hk _ (by omega) (by omega) (by omega) (by omega) (by omega) (by omega) (by omega) (by omega) (by omega)).trans d, (hk _ (by omega) (by omega) (by omega) (by omega) (by omega) (by omega) (by omega) (by omega) (by omega)).trans f, (hk _ (by omega) (by omega) (by omega) (by omega) (by omega) (by omega) (by omega) (by omega) (by omega)).trans g⟩

theorem k_X2_init : xMI yX2_init cX2_init 2 1 := ⟨m_1218, m_1217, rfl, m_115, ⟨by decide +kernel, by decide +kernel, by decide +kernel⟩⟩
theorem k_X7_put : xMV yX7_put cX7_put 3 none 2 := ⟨m_564, m_562, m_563, m_105, ⟨by decide +kernel, by decide +kernel, by decide +kernel⟩⟩
theorem k_X4_init : xMI yX4_init cX4_init 6 5 := ⟨m_511, m_510, rfl, m_107, ⟨by decide +kernel, by decide +kernel, by decide +kernel⟩⟩
theorem k_X0_add : xMV yX0_add cX0_add 2 (some .int) 1 := ⟨m_560, m_558, m_559, m_96, ⟨by decide +kernel, by decide +kernel, by decide +kernel⟩⟩
theorem k_X11_understood : xMV yX11_understood cX11_understood 3 (some .boolean) 2 := ⟨m_580, m_579, m_1, m_95, ⟨by decide +kernel, by decide +kernel, by decide +kernel⟩⟩
theorem k_X6_add : xMV yX6_add cX6_add 3 (some .int) 2 := ⟨m_816, m_814, m_815, m_97, ⟨by decide +kernel, by decide +kernel, by decide +kernel⟩⟩
theorem k_X5_init : xMI yX5_init cX5_init 1 0 := ⟨m_336, m_335, rfl, m_103, ⟨by decide +kernel, by decide +kernel, by decide +kernel⟩⟩
abbrev r_c_X2_init : Room := { frames := 1, cells := 0, slots := 0, locals := 20 }
set_option maxHeartbeats 4000000 in
set_option maxRecDepth 100000 in
theorem c_X2_init (l : Launch) (D : va_G) (Zk : yK) (ca : Nat → ClassId) (w : yW) (aq : Nat) (nq : Nat) (afl : Nat) (ifl : Nat) (f2 : Int) (f7 : Int) (f8 : Int) (P0 : fP) (P1 : fP) (P2 : fP) (P4 : fP) (P6 : fP) (fq : w nq = some (aq, xO 2 [fX 0, fX 0, fX 0, fX 0])) (ffl : w ifl = some (afl, xO 0 [P0, P1, P2, fG (-2147483648) 2147483647, P4, fX f2, P6, fX f7, fX f8])) (hn : nq ≠ ifl) : yC l D Zk ca yX2_init cX2_init 2 none r_c_X2_init [.ref aq, .ref afl] w (fun r w1 => r = none ∧ w1 = (wu w nq (aq, xO 2 [fX f2, fG (-2147483648) 2147483647, fX f7, fX f8]))) := by
  refine yC.of2 "WindWords$Image" (by decide) rfl (Nat.le_of_ble_eq_true rfl) ?_
  intro p e s m args below meth c A ls Qf B hnm h hl hQ
  have hl : lv_has ls 2 [(0, .ref aq), (1, .ref afl)] := hl
  refine lv_aload_n B.1 B.2.1 dX2_init_0 rfl (lv_at hl 0 rfl) ?_
  refine x_obj B m_1219 m_122 m_123 hl.1 (Nat.le_of_ble_eq_true rfl) (by decide) dX2_init_1 ?_
  refine lv_aload_n B.1 B.2.1 dX2_init_4 rfl (lv_at hl 0 rfl) ?_
  refine lv_aload_n B.1 B.2.1 dX2_init_5 rfl (lv_at hl 1 rfl) ?_
  refine y_getX B h kX0 ifl ffl 5 (z := f2) rfl m_144 (by decide) dX2_init_6 ?_
  refine y_putF B h kX2 nq fq 0 (Nat.le_of_ble_eq_true rfl) (P' := fX f2) m_1220 (by decide) rfl rfl hnm rfl rfl rfl dX2_init_9 (fun H locs h => ?_)
  have h : yH D Zk A s ((wu w nq (aq, xO 2 [fX f2, fX 0, fX 0, fX 0]))) _ _ := h
  refine lv_aload_n B.1 B.2.1 dX2_init_12 rfl (lv_at hl 0 rfl) ?_
  refine lv_aload_n B.1 B.2.1 dX2_init_13 rfl (lv_at hl 1 rfl) ?_
  refine y_getG B h kX0 ifl (wu_at ffl (by omega)) 3 (lo := (-2147483648)) (hi := 2147483647) rfl m_138 (by decide) dX2_init_14 (fun z1 z1a z1b => ?_)
  refine y_putF B h kX2 nq wu_eq 1 (Nat.le_of_ble_eq_true rfl) (P' := fX z1) m_1222 (by decide) rfl rfl hnm rfl rfl rfl dX2_init_17 (fun H locs h => ?_)
  rw [wu_wu] at h
  have h : yH D Zk A s ((wu w nq (aq, xO 2 [fX f2, fX z1, fX 0, fX 0]))) _ _ := h
  refine lv_aload_n B.1 B.2.1 dX2_init_20 rfl (lv_at hl 0 rfl) ?_
  refine lv_aload_n B.1 B.2.1 dX2_init_21 rfl (lv_at hl 1 rfl) ?_
  refine y_getX B h kX0 ifl (wu_at ffl (by omega)) 7 (z := f7) rfl m_152 (by decide) dX2_init_22 ?_
  refine y_putF B h kX2 nq wu_eq 2 (Nat.le_of_ble_eq_true rfl) (P' := fX f7) m_1224 (by decide) rfl rfl hnm rfl rfl rfl dX2_init_25 (fun H locs h => ?_)
  rw [wu_wu] at h
  have h : yH D Zk A s ((wu w nq (aq, xO 2 [fX f2, fX z1, fX f7, fX 0]))) _ _ := h
  refine lv_aload_n B.1 B.2.1 dX2_init_28 rfl (lv_at hl 0 rfl) ?_
  refine lv_aload_n B.1 B.2.1 dX2_init_29 rfl (lv_at hl 1 rfl) ?_
  refine y_getX B h kX0 ifl (wu_at ffl (by omega)) 8 (z := f8) rfl m_155 (by decide) dX2_init_30 ?_
  refine y_putF B h kX2 nq wu_eq 3 (Nat.le_of_ble_eq_true rfl) (P' := fX f8) m_1226 (by decide) rfl rfl hnm rfl rfl rfl dX2_init_33 (fun H locs h => ?_)
  rw [wu_wu] at h
  have h : yH D Zk A s ((wu w nq (aq, xO 2 [fX f2, fX z1, fX f7, fX f8]))) _ _ := h
  have h := yH.weak (P' := xO 2 [fX f2, fG (-2147483648) 2147483647, fX f7, fX f8]) h wu_eq (xO_le (fLe_cons (fun _ x => x) (fLe_cons (fX_G (by omega)) (fLe_cons (fun _ x => x) (fLe_cons (fun _ x => x) fLe_nil)))))
  rw [wu_wu] at h
  have h : yH D Zk A s ((wu w nq (aq, xO 2 [fX f2, fG (-2147483648) 2147483647, fX f7, fX f8]))) _ _ := h
  refine y_rv B hQ h (by decide) dX2_init_36 ?_
  exact ⟨rfl, rfl⟩
abbrev r_c_X11_image : Room := { frames := 2, cells := 1, slots := 4, locals := 41 }
set_option maxHeartbeats 4000000 in
set_option maxRecDepth 100000 in
theorem c_X11_image (l : Launch) (D : va_G) (Zk : yK) (ca : Nat → ClassId) (T : Nat → Int → Int) (G : Nat → Int → Nat) (u : Int) (ad : Nat → Nat) (w : yW) (hC : CW ca T G u ad w)    : yC l D Zk ca yX11_image cX11_image 1 (some .int) r_c_X11_image [.ref (ad 0)] w (fun r w1 => ∃ z : Int, r = some (.int (iI z)) ∧ ((T 0 6 < 4 ∧ z = T 0 6 ∧ ∃ G2 : Nat → Int → Nat, CW ca (tImage T) G2 u ad w1 ∧ AGX w w1) ∨ (T 0 6 = 4 ∧ z = -1 ∧ w1 = w))) := by
  refine yC.of2 "WindWords" (by decide) rfl (Nat.le_of_ble_eq_true rfl) ?_
  intro p e s m args below meth c A ls Qf B hnm h hl hQ
  have hl : lv_has ls 1 [(0, .ref (ad 0))] := hl
  have hs := pi_s (CW.pi hC)
  refine lv_aload_n B.1 B.2.1 dX11_image_0 rfl (lv_at hl 0 rfl) ?_
  refine y_getX B h kX11 0 (CW.f hC 0 _ rfl) 17 (z := (T 0 6)) rfl m_378 (by decide) dX11_image_1 ?_
  refine x_iconst B dX11_image_4 ?_
  refine x_icmp_lt B (by omega) (tgt := 15) dX11_image_5 (by decide) (fun c1 => ?_) (fun c1 => ?_)
  · refine lv_aload_n B.1 B.2.1 dX11_image_15 rfl (lv_at hl 0 rfl) ?_
    refine y_getR B h kX11 0 (CW.f hC 0 _ rfl) 8 (b := ad 28) rfl m_369 (by decide) dX11_image_16 ?_
    refine lv_aload_n B.1 B.2.1 dX11_image_19 rfl (lv_at hl 0 rfl) ?_
    refine y_getX B h kX11 0 (CW.f hC 0 _ rfl) 17 (z := (T 0 6)) rfl m_378 (by decide) dX11_image_20 ?_
    refine y_new (1000 + 16 * (T 0 6).toNat + 5) B h kX2 m_331 m_1215 m_115 [fX 0, fX 0, fX 0, fX 0] rfl ⟨rfl, rfl, rfl, rfl, trivial⟩ (by decide) dX11_image_23 (fun q2 H h => ?_)
    have h : yH D Zk A s ((wu w (1000 + 16 * (T 0 6).toNat + 5) (q2, xO 2 [fX 0, fX 0, fX 0, fX 0]))) _ _ := h
    refine lv_dup B.1 B.2.1 dX11_image_26 rfl ?_
    refine lv_aload_n B.1 B.2.1 dX11_image_27 rfl (lv_at hl 0 rfl) ?_
    refine y_getR B h kX11 0 (wu_at (CW.f hC 0 _ rfl) (by omega)) 0 (b := ad 1) rfl m_361 (by decide) dX11_image_28 ?_
    refine y_cI B h k_X2_init (c_X2_init l D Zk ca _ q2 (1000 + 16 * (T 0 6).toNat + 5) (ad 1) 1 ((T 0 2)) ((T 0 4)) ((T 0 5)) (fR (ad 2)) (fR (ad 3)) (fX (T 0 0)) (fX (T 0 1)) (fX (T 0 3)) wu_eq (wu_at (CW.f hC 1 _ rfl) (by omega)) (by omega)) m_1216 rfl (by decide) hl.1 [.ref q2, .int (iI (T 0 6)), .ref (ad 28)] (Nat.le_of_ble_eq_true rfl) rfl dX11_image_31 (fun r w1 hq H locs h => ?_)
    obtain ⟨rfl, rfl⟩ := hq
    rw [wu_wu] at h
    have h : yH D Zk A s ((wu w (1000 + 16 * (T 0 6).toNat + 5) (q2, xO 2 [fX ((T 0 2)), fG (-2147483648) 2147483647, fX ((T 0 4)), fX ((T 0 5))]))) _ _ := h
    show W p l e r_c_X11_image s m args below meth c _ _ 1 4 Qf (F0 m 34 ls [.ref q2, .int (iI (T 0 6)), .ref (ad 28)])
    refine y_qast B h 28 7 kX2 rfl (wu_at (CW.f hC 28 _ rfl) (by omega)) (by omega) wu_eq (P' := gRow (gUp G 5 (T 0 6) q2) 5 (T 0 6 + 1)) (gRow_up (by omega) (if_pos ⟨rfl, rfl⟩) (fun i hi => if_neg (by omega))) dX11_image_34 (fun H locs h => ?_)
    have h : yH D Zk A s ((wu (wu w (1000 + 16 * (T 0 6).toNat + 5) (q2, xO 2 [fX ((T 0 2)), fG (-2147483648) 2147483647, fX ((T 0 4)), fX ((T 0 5))])) 28 (ad 28, xAQ (ca 7) 4 (gRow (gUp G 5 (T 0 6) q2) 5 (T 0 6 + 1))))) _ _ := h
    refine lv_aload_n B.1 B.2.1 dX11_image_35 rfl (lv_at hl 0 rfl) ?_
    refine lv_dup B.1 B.2.1 dX11_image_36 rfl ?_
    refine y_getX B h kX11 0 (wu_at (wu_at (CW.f hC 0 _ rfl) (by omega)) (by decide)) 17 (z := (T 0 6)) rfl m_378 (by decide) dX11_image_37 ?_
    refine x_iconst B dX11_image_40 ?_
    refine x_iadd B dX11_image_41 ?_
    refine y_put B h kX11 0 (wu_at (wu_at (CW.f hC 0 _ rfl) (by omega)) (by decide)) 17 (Nat.le_of_ble_eq_true rfl) (P' := fX ((T 0 6) + 1)) m_378 (by decide) rfl rfl rfl rfl dX11_image_42 (fun H locs h => ?_)
    have h : yH D Zk A s ((wu (wu (wu w (1000 + 16 * (T 0 6).toNat + 5) (q2, xO 2 [fX ((T 0 2)), fG (-2147483648) 2147483647, fX ((T 0 4)), fX ((T 0 5))])) 28 (ad 28, xAQ (ca 7) 4 (gRow (gUp G 5 (T 0 6) q2) 5 (T 0 6 + 1)))) 0 (ad 0, xO 11 [fR (ad 1), fR (ad 4), fR (ad 12), fR (ad 14), fR (ad 18), fR (ad 20), fR (ad 26), fR (ad 27), fR (ad 28), fR (ad 29), fR (ad 30), fR (ad 31), fR (ad 32), fR (ad 33), fR (ad 34), fR (ad 35), fU G u, fX ((T 0 6) + 1), fG (-2147483648) 2147483647]))) _ _ := h
    refine lv_aload_n B.1 B.2.1 dX11_image_45 rfl (lv_at hl 0 rfl) ?_
    refine y_getX B h kX11 0 wu_eq 17 (z := ((T 0 6) + 1)) rfl m_378 (by decide) dX11_image_46 ?_
    refine x_iconst B dX11_image_49 ?_
    refine x_isub B dX11_image_50 ?_
    refine y_ri B hQ h (by decide) dX11_image_51 ?_
    exact ⟨_, rfl, Or.inl ⟨by omega, by omega, _, cw_image (q := q2) hC (by omega) (fun k k0 k1 k2 => by rw [wu_ne (by omega), wu_ne (by omega), wu_ne (by omega)]) wu_eq (wu_at wu_eq (by decide)) (wu_at (wu_at wu_eq (by omega)) (by omega)), fun k h1 h2 => by rw [wu_ne (by omega), wu_ne (by omega), wu_ne (by omega)]⟩⟩
  · refine lv_aload_n B.1 B.2.1 dX11_image_8 rfl (lv_at hl 0 rfl) ?_
    refine x_iconst B dX11_image_9 ?_
    refine x_iconst B dX11_image_10 ?_
    refine y_cV B h kX11 0 (CW.f hC 0 _ rfl) k_X11_refuse rfl (c_X11_refuse l D Zk ca T G u ad _ hC 1 ((-1))  (by omega) (by omega)) m_423 rfl (by decide) hl.1 [] (Nat.le_of_ble_eq_true rfl) rfl dX11_image_11 (fun r w1 hq H locs h => ?_)
    obtain ⟨rfl, z3, rfl, hz3⟩ := hq
    show W p l e r_c_X11_image s m args below meth c _ _ 0 0 Qf (F0 m 14 ls [.int (iI z3)])
    refine y_ri B hQ h (by decide) dX11_image_14 ?_
    exact ⟨_, rfl, Or.inr ⟨by omega, by omega, rfl⟩⟩
abbrev r_c_X4_init : Room := { frames := 1, cells := 0, slots := 0, locals := 20 }
set_option maxHeartbeats 4000000 in
set_option maxRecDepth 100000 in
theorem c_X4_init (l : Launch) (D : va_G) (Zk : yK) (ca : Nat → ClassId) (w : yW) (aq : Nat) (nq : Nat) (ash : Nat) (v : Int) (sp : Int) (kd : Int) (nb : Int) (fq : w nq = some (aq, xO 4 [fN, fX 0, fX 0, fX 0, fX 0, fX 0, fX 0, fX 0])) (hv : 0 ≤ v ∧ v ≤ 999) (hsp : 0 ≤ sp ∧ sp ≤ 6399) (hkd : 0 ≤ kd ∧ kd ≤ 3) (hnb : 0 ≤ nb ∧ nb ≤ 99) : yC l D Zk ca yX4_init cX4_init 6 none r_c_X4_init [.ref aq, .ref ash, .int (iI v), .int (iI sp), .int (iI kd), .int (iI nb)] w (fun r w1 => r = none ∧ w1 = (wu w nq (aq, xO 4 [fR ash, fX v, fX (sp / 100), fX kd, fX nb, fX ((sp / 10) % 10), fX (sp % 10), fX (-1)]))) := by
  refine yC.of2 "WindWords$Reading" (by decide) rfl (Nat.le_of_ble_eq_true rfl) ?_
  intro p e s m args below meth c A ls Qf B hnm h hl hQ
  have hl : lv_has ls 6 [(0, .ref aq), (1, .ref ash), (2, .int (iI v)), (3, .int (iI sp)), (4, .int (iI kd)), (5, .int (iI nb))] := hl
  refine lv_aload_n B.1 B.2.1 dX4_init_0 rfl (lv_at hl 0 rfl) ?_
  refine x_obj B m_512 m_122 m_123 hl.1 (Nat.le_of_ble_eq_true rfl) (by decide) dX4_init_1 ?_
  refine lv_aload_n B.1 B.2.1 dX4_init_4 rfl (lv_at hl 0 rfl) ?_
  refine x_iconst B dX4_init_5 ?_
  refine y_put B h kX4 nq fq 7 (Nat.le_of_ble_eq_true rfl) (P' := fX (-1)) m_537 (by decide) rfl rfl rfl rfl dX4_init_6 (fun H locs h => ?_)
  have h : yH D Zk A s ((wu w nq (aq, xO 4 [fN, fX 0, fX 0, fX 0, fX 0, fX 0, fX 0, fX (-1)]))) _ _ := h
  refine lv_aload_n B.1 B.2.1 dX4_init_9 rfl (lv_at hl 0 rfl) ?_
  refine lv_aload_n B.1 B.2.1 dX4_init_10 rfl (lv_at hl 1 rfl) ?_
  refine y_putF B h kX4 nq wu_eq 0 (Nat.le_of_ble_eq_true rfl) (P' := fR ash) m_513 (by decide) rfl rfl hnm rfl rfl rfl dX4_init_11 (fun H locs h => ?_)
  rw [wu_wu] at h
  have h : yH D Zk A s ((wu w nq (aq, xO 4 [fR ash, fX 0, fX 0, fX 0, fX 0, fX 0, fX 0, fX (-1)]))) _ _ := h
  refine lv_aload_n B.1 B.2.1 dX4_init_14 rfl (lv_at hl 0 rfl) ?_
  refine lv_iload_n B.1 B.2.1 dX4_init_15 rfl (lv_at hl 2 rfl) ?_
  refine y_putF B h kX4 nq wu_eq 1 (Nat.le_of_ble_eq_true rfl) (P' := fX v) m_516 (by decide) rfl rfl hnm rfl rfl rfl dX4_init_16 (fun H locs h => ?_)
  rw [wu_wu] at h
  have h : yH D Zk A s ((wu w nq (aq, xO 4 [fR ash, fX v, fX 0, fX 0, fX 0, fX 0, fX 0, fX (-1)]))) _ _ := h
  refine lv_aload_n B.1 B.2.1 dX4_init_19 rfl (lv_at hl 0 rfl) ?_
  refine lv_iload_n B.1 B.2.1 dX4_init_20 rfl (lv_at hl 3 rfl) ?_
  refine x_bipush B (by decide) dX4_init_21 ?_
  refine x_idiv B (by omega) dX4_init_23 ?_
  refine y_putF B h kX4 nq wu_eq 2 (Nat.le_of_ble_eq_true rfl) (P' := fX (sp / 100)) m_520 (by decide) rfl rfl hnm rfl rfl rfl dX4_init_24 (fun H locs h => ?_)
  rw [wu_wu] at h
  have h : yH D Zk A s ((wu w nq (aq, xO 4 [fR ash, fX v, fX (sp / 100), fX 0, fX 0, fX 0, fX 0, fX (-1)]))) _ _ := h
  refine lv_aload_n B.1 B.2.1 dX4_init_27 rfl (lv_at hl 0 rfl) ?_
  refine lv_iload_n B.1 B.2.1 dX4_init_28 rfl (lv_at hl 3 rfl) ?_
  refine x_bipush B (by decide) dX4_init_29 ?_
  refine x_idiv B (by omega) dX4_init_31 ?_
  refine x_bipush B (by decide) dX4_init_32 ?_
  refine x_irem B (by omega) dX4_init_34 ?_
  refine y_putF B h kX4 nq wu_eq 5 (Nat.le_of_ble_eq_true rfl) (P' := fX ((sp / 10) % 10)) m_533 (by decide) rfl rfl hnm rfl rfl rfl dX4_init_35 (fun H locs h => ?_)
  rw [wu_wu] at h
  have h : yH D Zk A s ((wu w nq (aq, xO 4 [fR ash, fX v, fX (sp / 100), fX 0, fX 0, fX ((sp / 10) % 10), fX 0, fX (-1)]))) _ _ := h
  refine lv_aload_n B.1 B.2.1 dX4_init_38 rfl (lv_at hl 0 rfl) ?_
  refine lv_iload_n B.1 B.2.1 dX4_init_39 rfl (lv_at hl 3 rfl) ?_
  refine x_bipush B (by decide) dX4_init_40 ?_
  refine x_irem B (by omega) dX4_init_42 ?_
  refine y_putF B h kX4 nq wu_eq 6 (Nat.le_of_ble_eq_true rfl) (P' := fX (sp % 10)) m_535 (by decide) rfl rfl hnm rfl rfl rfl dX4_init_43 (fun H locs h => ?_)
  rw [wu_wu] at h
  have h : yH D Zk A s ((wu w nq (aq, xO 4 [fR ash, fX v, fX (sp / 100), fX 0, fX 0, fX ((sp / 10) % 10), fX (sp % 10), fX (-1)]))) _ _ := h
  refine lv_aload_n B.1 B.2.1 dX4_init_46 rfl (lv_at hl 0 rfl) ?_
  refine lv_iload B.1 B.2.1 dX4_init_47 (lv_at hl 4 rfl) ?_
  refine y_putF B h kX4 nq wu_eq 3 (Nat.le_of_ble_eq_true rfl) (P' := fX kd) m_524 (by decide) rfl rfl hnm rfl rfl rfl dX4_init_49 (fun H locs h => ?_)
  rw [wu_wu] at h
  have h : yH D Zk A s ((wu w nq (aq, xO 4 [fR ash, fX v, fX (sp / 100), fX kd, fX 0, fX ((sp / 10) % 10), fX (sp % 10), fX (-1)]))) _ _ := h
  refine lv_aload_n B.1 B.2.1 dX4_init_52 rfl (lv_at hl 0 rfl) ?_
  refine lv_iload B.1 B.2.1 dX4_init_53 (lv_at hl 5 rfl) ?_
  refine y_putF B h kX4 nq wu_eq 4 (Nat.le_of_ble_eq_true rfl) (P' := fX nb) m_528 (by decide) rfl rfl hnm rfl rfl rfl dX4_init_55 (fun H locs h => ?_)
  rw [wu_wu] at h
  have h : yH D Zk A s ((wu w nq (aq, xO 4 [fR ash, fX v, fX (sp / 100), fX kd, fX nb, fX ((sp / 10) % 10), fX (sp % 10), fX (-1)]))) _ _ := h
  refine y_rv B hQ h (by decide) dX4_init_58 ?_
  exact ⟨rfl, rfl⟩
abbrev r_c_X7_put : Room := { frames := 1, cells := 0, slots := 0, locals := 21 }
set_option maxHeartbeats 4000000 in
set_option maxRecDepth 100000 in
theorem c_X7_put (l : Launch) (D : va_G) (Zk : yK) (ca : Nat → ClassId) (w : yW) (P0 : fP) (P1 : fP) (P2 : fP) (P4 : fP) (P5 : fP) (P6 : fP) (P7 : fP) (P8 : fP) (P9 : fP) (Pa : fP) (Pb : fP) (Pc : fP) (as1 : Nat) (is1 : Nat) (ar1 : Nat) (ir1 : Nat) (av1 : Nat) (iv1 : Nat) (PA : (Nat → Option Nat) → Prop) (PB : (Nat → Option Nat) → Prop) (v : Int) (fs1 : w is1 = some (as1, xO 7 [P0, P1, P2, fR ar1, P4])) (fr1 : w ir1 = some (ar1, xAQ (ca 5) 1000 PA)) (fv1 : w iv1 = some (av1, xO 4 [P5, P6, P7, P8, P9, Pa, Pb, Pc])) (hPB : ∀ f : Nat → Option Nat, PA f → PB (va_up f v.toNat (some av1))) (hn : is1 ≠ ir1 ∧ iv1 ≠ ir1) (hv : 0 ≤ v ∧ v ≤ 999) : yC l D Zk ca yX7_put cX7_put 3 none r_c_X7_put [.ref as1, .int (iI v), .ref av1] w (fun r w1 => r = none ∧ w1 = (wu w ir1 (ar1, xAQ (ca 5) 1000 PB)) ∧ (True)) := by
  refine yC.of2 "WindWords$Ship" (by decide) rfl (Nat.le_of_ble_eq_true rfl) ?_
  intro p e s m args below meth c A ls Qf B hnm h hl hQ
  have hl : lv_has ls 3 [(0, .ref as1), (1, .int (iI v)), (2, .ref av1)] := hl
  have h : yH D Zk A s ((wu w ir1 (ar1, xAQ (ca 5) 1000 PA))) s.heap [] := by rw [wu_same (show w ir1 = _ from fr1)]; exact h
  refine lv_iload_n B.1 B.2.1 dX7_put_0 rfl (lv_at hl 1 rfl) ?_
  refine x_sipush B (by decide) dX7_put_1 ?_
  refine y_cSN (host := "WindWords") B h k_X11_within (c_X11_within l D Zk ca _ v 999  (by omega) (by omega)) (by decide) rfl (by decide) hl.1 [] (Nat.le_of_ble_eq_true rfl) rfl dX7_put_4 (fun r w1 hq H locs h => ?_)
  obtain ⟨rfl, _, rfl, ⟨rfl, b1⟩ | ⟨rfl, b1⟩⟩ := hq
  · show W p l e r_c_X7_put s m args below meth c _ _ 0 0 Qf (F0 m 7 ls [.int (iI 1)])
    refine x_if_eq B (by omega) (tgt := 17) dX7_put_7 (by decide) (fun c2 => ?_) (fun c2 => ?_)
    · exact absurd c2 (by omega)
    · refine lv_aload_n B.1 B.2.1 dX7_put_10 rfl (lv_at hl 0 rfl) ?_
      refine y_getR B h kX7 is1 (wu_at fs1 (by omega)) 3 (b := ar1) rfl m_463 (by decide) dX7_put_11 ?_
      refine lv_iload_n B.1 B.2.1 dX7_put_14 rfl (lv_at hl 1 rfl) ?_
      refine lv_aload_n B.1 B.2.1 dX7_put_15 rfl (lv_at hl 2 rfl) ?_
      refine y_qast B h ir1 5 kX4 rfl wu_eq (by omega) (wu_at fv1 (by omega)) (P' := PB) (hPB) dX7_put_16 (fun H locs h => ?_)
      rw [wu_wu] at h
      have h : yH D Zk A s ((wu w ir1 (ar1, xAQ (ca 5) 1000 PB))) _ _ := h
      refine y_rv B hQ h (by decide) dX7_put_17 ?_
      exact ⟨rfl, rfl, trivial⟩
  · exact absurd b1 (by omega)
abbrev r_c_X0_add : Room := { frames := 2, cells := 0, slots := 0, locals := 43 }
set_option maxHeartbeats 4000000 in
set_option maxRecDepth 100000 in
theorem c_X0_add (l : Launch) (D : va_G) (Zk : yK) (ca : Nat → ClassId) (w : yW) (P2 : fP) (P3 : fP) (P4 : fP) (P6 : fP) (P7 : fP) (P8 : fP) (Q2 : fP) (Q3 : fP) (Q4 : fP) (Q5 : fP) (Q6 : fP) (Q7 : fP) (S0 : fP) (S1 : fP) (S2 : fP) (S4 : fP) (nr : Int) (v : Int) (af1 : Nat) (if1 : Nat) (aw1 : Nat) (iw1 : Nat) (P0 : fP) (as1 : Nat) (is1 : Nat) (ar1 : Nat) (ir1 : Nat) (av1 : Nat) (iv1 : Nat) (PA : (Nat → Option Nat) → Prop) (PB : (Nat → Option Nat) → Prop) (PC : (Nat → Option Nat) → Prop) (PD : (Nat → Option Nat) → Prop) (ff1 : w if1 = some (af1, xO 0 [P0, fR aw1, P2, P3, P4, fX nr, P6, P7, P8])) (fw1 : w iw1 = some (aw1, xAQ (ca 5) 300 PC)) (fv1 : w iv1 = some (av1, xO 4 [fR as1, fX v, Q2, Q3, Q4, Q5, Q6, Q7])) (fs1 : w is1 = some (as1, xO 7 [S0, S1, S2, fR ar1, S4])) (fr1 : w ir1 = some (ar1, xAQ (ca 5) 1000 PA)) (hnr : 0 ≤ nr ∧ nr < 300) (hv : 0 ≤ v ∧ v ≤ 999) (hPB : ∀ f : Nat → Option Nat, PA f → PB (va_up f v.toNat (some av1))) (hPD : ∀ f : Nat → Option Nat, PC f → PD (va_up f nr.toNat (some av1))) (hn : if1 ≠ iw1 ∧ if1 ≠ is1 ∧ if1 ≠ ir1 ∧ if1 ≠ iv1 ∧ iw1 ≠ is1 ∧ iw1 ≠ ir1 ∧ iw1 ≠ iv1 ∧ is1 ≠ ir1 ∧ is1 ≠ iv1 ∧ ir1 ≠ iv1) : yC l D Zk ca yX0_add cX0_add 2 (some .int) r_c_X0_add [.ref af1, .ref av1] w (fun r w1 => ∃ z : Int, r = some (.int (iI z)) ∧ w1 = (wu (wu (wu (wu w iv1 (av1, xO 4 [fR as1, fX v, Q2, Q3, Q4, Q5, Q6, fX nr])) iw1 (aw1, xAQ (ca 5) 300 PD)) ir1 (ar1, xAQ (ca 5) 1000 PB)) if1 (af1, xO 0 [P0, fR aw1, P2, P3, P4, fX (nr + 1), P6, P7, P8])) ∧ (z = nr)) := by
  refine yC.of2 "WindWords$Fleet" (by decide) rfl (Nat.le_of_ble_eq_true rfl) ?_
  intro p e s m args below meth c A ls Qf B hnm h hl hQ
  have hl : lv_has ls 2 [(0, .ref af1), (1, .ref av1)] := hl
  have h : yH D Zk A s ((wu (wu (wu (wu w iv1 (av1, xO 4 [fR as1, fX v, Q2, Q3, Q4, Q5, Q6, Q7])) iw1 (aw1, xAQ (ca 5) 300 PC)) ir1 (ar1, xAQ (ca 5) 1000 PA)) if1 (af1, xO 0 [P0, fR aw1, P2, P3, P4, fX nr, P6, P7, P8]))) s.heap [] := by rw [wu_same (show w iv1 = _ from fv1), wu_same (show w iw1 = _ from fw1), wu_same (show w ir1 = _ from fr1), wu_same (show w if1 = _ from ff1)]; exact h
  refine lv_aload_n B.1 B.2.1 dX0_add_0 rfl (lv_at hl 0 rfl) ?_
  refine y_getX B h kX0 if1 wu_eq 5 (z := nr) rfl m_145 (by decide) dX0_add_1 ?_
  refine x_sipush B (by decide) dX0_add_4 ?_
  refine x_icmp_lt B (by omega) (tgt := 12) dX0_add_7 (by decide) (fun c1 => ?_) (fun c1 => ?_)
  · refine lv_aload_n B.1 B.2.1 dX0_add_12 rfl (lv_at hl 1 rfl) ?_
    refine lv_aload_n B.1 B.2.1 dX0_add_13 rfl (lv_at hl 0 rfl) ?_
    refine y_getX B h kX0 if1 wu_eq 5 (z := nr) rfl m_145 (by decide) dX0_add_14 ?_
    rw [wu_comm (show (iv1 : Nat) ≠ iw1 by omega), wu_comm (show (iv1 : Nat) ≠ ir1 by omega), wu_comm (show (iv1 : Nat) ≠ if1 by omega)] at h
    have h : yH D Zk A s ((wu (wu (wu (wu w iw1 (aw1, xAQ (ca 5) 300 PC)) ir1 (ar1, xAQ (ca 5) 1000 PA)) if1 (af1, xO 0 [P0, fR aw1, P2, P3, P4, fX nr, P6, P7, P8])) iv1 (av1, xO 4 [fR as1, fX v, Q2, Q3, Q4, Q5, Q6, Q7]))) _ _ := h
    refine y_put B h kX4 iv1 wu_eq 7 (Nat.le_of_ble_eq_true rfl) (P' := fX nr) m_538 (by decide) rfl rfl rfl rfl dX0_add_17 (fun H locs h => ?_)
    rw [wu_wu] at h
    have h : yH D Zk A s ((wu (wu (wu (wu w iw1 (aw1, xAQ (ca 5) 300 PC)) ir1 (ar1, xAQ (ca 5) 1000 PA)) if1 (af1, xO 0 [P0, fR aw1, P2, P3, P4, fX nr, P6, P7, P8])) iv1 (av1, xO 4 [fR as1, fX v, Q2, Q3, Q4, Q5, Q6, fX nr]))) _ _ := h
    refine lv_aload_n B.1 B.2.1 dX0_add_20 rfl (lv_at hl 0 rfl) ?_
    refine y_getR B h kX0 if1 (wu_at wu_eq (by omega)) 1 (b := aw1) rfl m_135 (by decide) dX0_add_21 ?_
    refine lv_aload_n B.1 B.2.1 dX0_add_24 rfl (lv_at hl 0 rfl) ?_
    refine y_getX B h kX0 if1 (wu_at wu_eq (by omega)) 5 (z := nr) rfl m_145 (by decide) dX0_add_25 ?_
    refine lv_aload_n B.1 B.2.1 dX0_add_28 rfl (lv_at hl 1 rfl) ?_
    rw [wu_comm (show (iw1 : Nat) ≠ ir1 by omega), wu_comm (show (iw1 : Nat) ≠ if1 by omega), wu_comm (show (iw1 : Nat) ≠ iv1 by omega)] at h
    have h : yH D Zk A s ((wu (wu (wu (wu w ir1 (ar1, xAQ (ca 5) 1000 PA)) if1 (af1, xO 0 [P0, fR aw1, P2, P3, P4, fX nr, P6, P7, P8])) iv1 (av1, xO 4 [fR as1, fX v, Q2, Q3, Q4, Q5, Q6, fX nr])) iw1 (aw1, xAQ (ca 5) 300 PC))) _ _ := h
    refine y_qast B h iw1 5 kX4 rfl wu_eq (by omega) (wu_at wu_eq (by omega)) (P' := PD) (hPD) dX0_add_29 (fun H locs h => ?_)
    rw [wu_wu] at h
    have h : yH D Zk A s ((wu (wu (wu (wu w ir1 (ar1, xAQ (ca 5) 1000 PA)) if1 (af1, xO 0 [P0, fR aw1, P2, P3, P4, fX nr, P6, P7, P8])) iv1 (av1, xO 4 [fR as1, fX v, Q2, Q3, Q4, Q5, Q6, fX nr])) iw1 (aw1, xAQ (ca 5) 300 PD))) _ _ := h
    refine lv_aload_n B.1 B.2.1 dX0_add_30 rfl (lv_at hl 1 rfl) ?_
    refine y_getR B h kX4 iv1 (wu_at wu_eq (by omega)) 0 (b := as1) rfl m_514 (by decide) dX0_add_31 ?_
    refine lv_aload_n B.1 B.2.1 dX0_add_34 rfl (lv_at hl 1 rfl) ?_
    refine y_getX B h kX4 iv1 (wu_at wu_eq (by omega)) 1 (z := v) rfl m_518 (by decide) dX0_add_35 ?_
    refine lv_aload_n B.1 B.2.1 dX0_add_38 rfl (lv_at hl 1 rfl) ?_
    refine y_cV B h kX7 is1 (wu_at (wu_at (wu_at (wu_at fs1 (by omega)) (by omega)) (by omega)) (by omega)) k_X7_put rfl (c_X7_put l D Zk ca _ S0 S1 S2 S4 (fR as1) (fX v) Q2 Q3 Q4 Q5 Q6 (fX nr) as1 is1 ar1 ir1 av1 iv1 PA PB v (wu_at (wu_at (wu_at (wu_at fs1 (by omega)) (by omega)) (by omega)) (by omega)) (wu_at (wu_at (wu_at wu_eq (by omega)) (by omega)) (by omega)) (wu_at wu_eq (by omega)) hPB (by omega) (by omega)) m_561 rfl (by decide) hl.1 [] (Nat.le_of_ble_eq_true rfl) rfl dX0_add_39 (fun r w1 hq H locs h => ?_)
    obtain ⟨rfl, rfl, hr2⟩ := hq
    rw [wu_comm (show (ir1 : Nat) ≠ if1 by omega), wu_comm (show (ir1 : Nat) ≠ iv1 by omega), wu_comm (show (ir1 : Nat) ≠ iw1 by omega), wu_wu] at h
    have h : yH D Zk A s ((wu (wu (wu (wu w if1 (af1, xO 0 [P0, fR aw1, P2, P3, P4, fX nr, P6, P7, P8])) iv1 (av1, xO 4 [fR as1, fX v, Q2, Q3, Q4, Q5, Q6, fX nr])) iw1 (aw1, xAQ (ca 5) 300 PD)) ir1 (ar1, xAQ (ca 5) 1000 PB))) _ _ := h
    show W p l e r_c_X0_add s m args below meth c _ _ 0 0 Qf (F0 m 42 ls [])
    refine lv_aload_n B.1 B.2.1 dX0_add_42 rfl (lv_at hl 0 rfl) ?_
    refine lv_dup B.1 B.2.1 dX0_add_43 rfl ?_
    refine y_getX B h kX0 if1 (wu_at (wu_at (wu_at wu_eq (by omega)) (by omega)) (by omega)) 5 (z := nr) rfl m_145 (by decide) dX0_add_44 ?_
    refine x_iconst B dX0_add_47 ?_
    refine x_iadd B dX0_add_48 ?_
    rw [wu_comm (show (if1 : Nat) ≠ iv1 by omega), wu_comm (show (if1 : Nat) ≠ iw1 by omega), wu_comm (show (if1 : Nat) ≠ ir1 by omega)] at h
    have h : yH D Zk A s ((wu (wu (wu (wu w iv1 (av1, xO 4 [fR as1, fX v, Q2, Q3, Q4, Q5, Q6, fX nr])) iw1 (aw1, xAQ (ca 5) 300 PD)) ir1 (ar1, xAQ (ca 5) 1000 PB)) if1 (af1, xO 0 [P0, fR aw1, P2, P3, P4, fX nr, P6, P7, P8]))) _ _ := h
    refine y_put B h kX0 if1 wu_eq 5 (Nat.le_of_ble_eq_true rfl) (P' := fX (nr + 1)) m_145 (by decide) rfl rfl rfl rfl dX0_add_49 (fun H locs h => ?_)
    rw [wu_wu] at h
    have h : yH D Zk A s ((wu (wu (wu (wu w iv1 (av1, xO 4 [fR as1, fX v, Q2, Q3, Q4, Q5, Q6, fX nr])) iw1 (aw1, xAQ (ca 5) 300 PD)) ir1 (ar1, xAQ (ca 5) 1000 PB)) if1 (af1, xO 0 [P0, fR aw1, P2, P3, P4, fX (nr + 1), P6, P7, P8]))) _ _ := h
    refine lv_aload_n B.1 B.2.1 dX0_add_52 rfl (lv_at hl 0 rfl) ?_
    refine y_getX B h kX0 if1 wu_eq 5 (z := (nr + 1)) rfl m_145 (by decide) dX0_add_53 ?_
    refine x_iconst B dX0_add_56 ?_
    refine x_isub B dX0_add_57 ?_
    rw [wu_comm (show (iv1 : Nat) ≠ iw1 by omega), wu_comm (show (iv1 : Nat) ≠ ir1 by omega), wu_comm (show (iv1 : Nat) ≠ if1 by omega)] at h
    have h : yH D Zk A s ((wu (wu (wu (wu w iw1 (aw1, xAQ (ca 5) 300 PD)) ir1 (ar1, xAQ (ca 5) 1000 PB)) if1 (af1, xO 0 [P0, fR aw1, P2, P3, P4, fX (nr + 1), P6, P7, P8])) iv1 (av1, xO 4 [fR as1, fX v, Q2, Q3, Q4, Q5, Q6, fX nr]))) _ _ := h
    rw [wu_comm (show (iw1 : Nat) ≠ ir1 by omega), wu_comm (show (iw1 : Nat) ≠ if1 by omega), wu_comm (show (iw1 : Nat) ≠ iv1 by omega)] at h
    have h : yH D Zk A s ((wu (wu (wu (wu w ir1 (ar1, xAQ (ca 5) 1000 PB)) if1 (af1, xO 0 [P0, fR aw1, P2, P3, P4, fX (nr + 1), P6, P7, P8])) iv1 (av1, xO 4 [fR as1, fX v, Q2, Q3, Q4, Q5, Q6, fX nr])) iw1 (aw1, xAQ (ca 5) 300 PD))) _ _ := h
    rw [wu_comm (show (ir1 : Nat) ≠ if1 by omega), wu_comm (show (ir1 : Nat) ≠ iv1 by omega), wu_comm (show (ir1 : Nat) ≠ iw1 by omega)] at h
    have h : yH D Zk A s ((wu (wu (wu (wu w if1 (af1, xO 0 [P0, fR aw1, P2, P3, P4, fX (nr + 1), P6, P7, P8])) iv1 (av1, xO 4 [fR as1, fX v, Q2, Q3, Q4, Q5, Q6, fX nr])) iw1 (aw1, xAQ (ca 5) 300 PD)) ir1 (ar1, xAQ (ca 5) 1000 PB))) _ _ := h
    rw [wu_comm (show (if1 : Nat) ≠ iv1 by omega), wu_comm (show (if1 : Nat) ≠ iw1 by omega), wu_comm (show (if1 : Nat) ≠ ir1 by omega)] at h
    have h : yH D Zk A s ((wu (wu (wu (wu w iv1 (av1, xO 4 [fR as1, fX v, Q2, Q3, Q4, Q5, Q6, fX nr])) iw1 (aw1, xAQ (ca 5) 300 PD)) ir1 (ar1, xAQ (ca 5) 1000 PB)) if1 (af1, xO 0 [P0, fR aw1, P2, P3, P4, fX (nr + 1), P6, P7, P8]))) _ _ := h
    refine y_ri B hQ h (by decide) dX0_add_58 ?_
    exact ⟨_, rfl, rfl, by omega⟩
  · refine x_iconst B dX0_add_10 ?_
    rw [wu_comm (show (iv1 : Nat) ≠ iw1 by omega), wu_comm (show (iv1 : Nat) ≠ ir1 by omega), wu_comm (show (iv1 : Nat) ≠ if1 by omega)] at h
    have h : yH D Zk A s ((wu (wu (wu (wu w iw1 (aw1, xAQ (ca 5) 300 PC)) ir1 (ar1, xAQ (ca 5) 1000 PA)) if1 (af1, xO 0 [P0, fR aw1, P2, P3, P4, fX nr, P6, P7, P8])) iv1 (av1, xO 4 [fR as1, fX v, Q2, Q3, Q4, Q5, Q6, Q7]))) _ _ := h
    rw [wu_comm (show (iw1 : Nat) ≠ ir1 by omega), wu_comm (show (iw1 : Nat) ≠ if1 by omega), wu_comm (show (iw1 : Nat) ≠ iv1 by omega)] at h
    have h : yH D Zk A s ((wu (wu (wu (wu w ir1 (ar1, xAQ (ca 5) 1000 PA)) if1 (af1, xO 0 [P0, fR aw1, P2, P3, P4, fX nr, P6, P7, P8])) iv1 (av1, xO 4 [fR as1, fX v, Q2, Q3, Q4, Q5, Q6, Q7])) iw1 (aw1, xAQ (ca 5) 300 PC))) _ _ := h
    rw [wu_comm (show (ir1 : Nat) ≠ if1 by omega), wu_comm (show (ir1 : Nat) ≠ iv1 by omega), wu_comm (show (ir1 : Nat) ≠ iw1 by omega)] at h
    have h : yH D Zk A s ((wu (wu (wu (wu w if1 (af1, xO 0 [P0, fR aw1, P2, P3, P4, fX nr, P6, P7, P8])) iv1 (av1, xO 4 [fR as1, fX v, Q2, Q3, Q4, Q5, Q6, Q7])) iw1 (aw1, xAQ (ca 5) 300 PC)) ir1 (ar1, xAQ (ca 5) 1000 PA))) _ _ := h
    rw [wu_comm (show (if1 : Nat) ≠ iv1 by omega), wu_comm (show (if1 : Nat) ≠ iw1 by omega), wu_comm (show (if1 : Nat) ≠ ir1 by omega)] at h
    have h : yH D Zk A s ((wu (wu (wu (wu w iv1 (av1, xO 4 [fR as1, fX v, Q2, Q3, Q4, Q5, Q6, Q7])) iw1 (aw1, xAQ (ca 5) 300 PC)) ir1 (ar1, xAQ (ca 5) 1000 PA)) if1 (af1, xO 0 [P0, fR aw1, P2, P3, P4, fX nr, P6, P7, P8]))) _ _ := h
    refine y_ri B hQ h (by decide) dX0_add_11 ?_
    exfalso; omega
abbrev r_c_X11_read : Room := { frames := 3, cells := 1, slots := 8, locals := 64 }
set_option maxHeartbeats 4000000 in
set_option maxRecDepth 100000 in
theorem c_X11_read (l : Launch) (D : va_G) (Zk : yK) (ca : Nat → ClassId) (T : Nat → Int → Int) (G : Nat → Int → Nat) (u : Int) (ad : Nat → Nat) (w : yW) (hC : CW ca T G u ad w) (sh : Int) (v : Int) (sp : Int) (kd : Int) (nb : Int)  (hsh : xr sh) (hv : xr v) (hsp : xr sp) (hkd : xr kd) (hnb : xr nb) : yC l D Zk ca yX11_read cX11_read 7 (some .int) r_c_X11_read [.ref (ad 0), .int (iI sh), .int (iI v), .int (iI sp), .int (iI kd), .int (iI nb)] w (fun r w1 => ∃ z : Int, r = some (.int (iI z)) ∧ (((((0 ≤ sh ∧ sh < T 0 1) ∧ (0 ≤ v ∧ v ≤ 999) ∧ (0 ≤ sp ∧ sp ≤ 6399) ∧ (0 ≤ kd ∧ kd ≤ 3) ∧ (0 ≤ nb ∧ nb ≤ 99 ∧ (kd = 3 ∨ nb ≤ 12)) ∧ ∀ k : Int, 0 ≤ k ∧ k < T 0 2 → ¬ (T 4 k = sh ∧ T 5 k = v)) ∧ T 0 2 < 300) ∧ z = T 0 2 ∧ ∃ G2 : Nat → Int → Nat, CW ca (tRead T sh v sp kd nb) G2 u ad w1 ∧ AGX w w1) ∨ (¬ (((0 ≤ sh ∧ sh < T 0 1) ∧ (0 ≤ v ∧ v ≤ 999) ∧ (0 ≤ sp ∧ sp ≤ 6399) ∧ (0 ≤ kd ∧ kd ≤ 3) ∧ (0 ≤ nb ∧ nb ≤ 99 ∧ (kd = 3 ∨ nb ≤ 12)) ∧ ∀ k : Int, 0 ≤ k ∧ k < T 0 2 → ¬ (T 4 k = sh ∧ T 5 k = v)) ∧ T 0 2 < 300) ∧ z = -1 ∧ w1 = w))) := by
  refine yC.of2 "WindWords" (by decide) rfl (Nat.le_of_ble_eq_true rfl) ?_
  intro p e s m args below meth c A ls Qf B hnm h hl hQ
  have hl : lv_has ls 7 [(0, .ref (ad 0)), (1, .int (iI sh)), (2, .int (iI v)), (3, .int (iI sp)), (4, .int (iI kd)), (5, .int (iI nb))] := hl
  have hs := pi_s (CW.pi hC)
  refine lv_aload_n B.1 B.2.1 dX11_read_0 rfl (lv_at hl 0 rfl) ?_
  refine y_getR B h kX11 0 (CW.f hC 0 _ rfl) 0 (b := ad 1) rfl m_361 (by decide) dX11_read_1 ?_
  refine lv_iload_n B.1 B.2.1 dX11_read_4 rfl (lv_at hl 1 rfl) ?_
  refine y_cV B h kX0 1 (CW.f hC 1 _ rfl) k_X0_shipAt rfl (c_X0_shipAt l D Zk ca T G u ad _ hC sh  (by omega)) m_481 rfl (by decide) hl.1 [] (Nat.le_of_ble_eq_true rfl) rfl dX11_read_5 (fun r w1 hq H locs h => ?_)
  obtain ⟨rfl, _, rfl, ⟨rfl, q1⟩ | ⟨rfl, q1⟩⟩ := hq
  · show W p l e r_c_X11_read s m args below meth c _ _ 0 0 Qf (F0 m 8 ls [.null])
    refine lv_astoreN (lv' := [(6, .null), (0, .ref (ad 0)), (1, .int (iI sh)), (2, .int (iI v)), (3, .int (iI sp)), (4, .int (iI kd)), (5, .int (iI nb))]) B.1 B.2.1 dX11_read_8 hl (by decide) rfl (fun ls hl => ?_)
    refine lv_aloadN B.1 B.2.1 dX11_read_10 (lv_at hl 0 rfl) ?_
    refine lv_ifnullN (tgt := 74) B.1 B.2.1 dX11_read_12 (by decide) ?_
    refine lv_aload_n B.1 B.2.1 dX11_read_74 rfl (lv_at hl 1 rfl) ?_
    refine x_iconst B dX11_read_75 ?_
    refine x_iconst B dX11_read_76 ?_
    refine y_cV B h kX11 0 (CW.f hC 0 _ rfl) k_X11_refuse rfl (c_X11_refuse l D Zk ca T G u ad _ hC 0 ((-1))  (by omega) (by omega)) m_423 rfl (by decide) hl.1 [] (Nat.le_of_ble_eq_true rfl) rfl dX11_read_77 (fun r w1 hq H locs h => ?_)
    obtain ⟨rfl, z2, rfl, hz2⟩ := hq
    show W p l e r_c_X11_read s m args below meth c _ _ 0 0 Qf (F0 m 80 ls [.int (iI z2)])
    refine y_ri B hQ h (by decide) dX11_read_80 ?_
    exact ⟨_, rfl, Or.inr ⟨fun q9 => by obtain ⟨⟨q1, q2, q3, q4, q5, -⟩, q7⟩ := q9; omega, by omega, rfl⟩⟩
  · have fo3 := CW.sh hC sh (by omega)
    show W p l e r_c_X11_read s m args below meth c _ _ 0 0 Qf (F0 m 8 ls [.ref (G 1 sh)])
    refine lv_astore (lv' := [(6, .ref (G 1 sh)), (0, .ref (ad 0)), (1, .int (iI sh)), (2, .int (iI v)), (3, .int (iI sp)), (4, .int (iI kd)), (5, .int (iI nb))]) B.1 B.2.1 dX11_read_8 hl (by decide) rfl (fun ls hl => ?_)
    refine lv_aload B.1 B.2.1 dX11_read_10 (lv_at hl 0 rfl) ?_
    refine lv_ifnull B.1 B.2.1 dX11_read_12 ?_
    refine lv_iload_n B.1 B.2.1 dX11_read_15 rfl (lv_at hl 3 rfl) ?_
    refine x_sipush B (by decide) dX11_read_16 ?_
    refine y_cS B h k_X11_within (c_X11_within l D Zk ca _ v 999  (by omega) (by omega)) m_431 rfl (by decide) hl.1 [] (Nat.le_of_ble_eq_true rfl) rfl dX11_read_19 (fun r w1 hq H locs h => ?_)
    obtain ⟨rfl, _, rfl, ⟨rfl, b4⟩ | ⟨rfl, b4⟩⟩ := hq
    · show W p l e r_c_X11_read s m args below meth c _ _ 0 0 Qf (F0 m 22 ls [.int (iI 1)])
      refine x_if_eq B (by omega) (tgt := 74) dX11_read_22 (by decide) (fun c5 => ?_) (fun c5 => ?_)
      · exact absurd c5 (by omega)
      · refine lv_iload_n B.1 B.2.1 dX11_read_25 rfl (lv_at hl 4 rfl) ?_
        refine x_sipush B (by decide) dX11_read_26 ?_
        refine y_cS B h k_X11_within (c_X11_within l D Zk ca _ sp 6399  (by omega) (by omega)) m_431 rfl (by decide) hl.1 [] (Nat.le_of_ble_eq_true rfl) rfl dX11_read_29 (fun r w1 hq H locs h => ?_)
        obtain ⟨rfl, _, rfl, ⟨rfl, b6⟩ | ⟨rfl, b6⟩⟩ := hq
        · show W p l e r_c_X11_read s m args below meth c _ _ 0 0 Qf (F0 m 32 ls [.int (iI 1)])
          refine x_if_eq B (by omega) (tgt := 74) dX11_read_32 (by decide) (fun c7 => ?_) (fun c7 => ?_)
          · exact absurd c7 (by omega)
          · refine lv_iload B.1 B.2.1 dX11_read_35 (lv_at hl 5 rfl) ?_
            refine x_iconst B dX11_read_37 ?_
            refine y_cS B h k_X11_within (c_X11_within l D Zk ca _ kd 3  (by omega) (by omega)) m_431 rfl (by decide) hl.1 [] (Nat.le_of_ble_eq_true rfl) rfl dX11_read_38 (fun r w1 hq H locs h => ?_)
            obtain ⟨rfl, _, rfl, ⟨rfl, b8⟩ | ⟨rfl, b8⟩⟩ := hq
            · show W p l e r_c_X11_read s m args below meth c _ _ 0 0 Qf (F0 m 41 ls [.int (iI 1)])
              refine x_if_eq B (by omega) (tgt := 74) dX11_read_41 (by decide) (fun c9 => ?_) (fun c9 => ?_)
              · exact absurd c9 (by omega)
              · refine lv_iload B.1 B.2.1 dX11_read_44 (lv_at hl 6 rfl) ?_
                refine lv_iload B.1 B.2.1 dX11_read_46 (lv_at hl 5 rfl) ?_
                refine x_iconst B dX11_read_48 ?_
                refine x_icmp_ne B (by omega) (tgt := 57) dX11_read_49 (by decide) (fun c10 => ?_) (fun c10 => ?_)
                · refine x_bipush B (by decide) dX11_read_57 ?_
                  refine y_cS B h k_X11_within (c_X11_within l D Zk ca _ nb 12  (by omega) (by omega)) m_431 rfl (by decide) hl.1 [] (Nat.le_of_ble_eq_true rfl) rfl dX11_read_59 (fun r w1 hq H locs h => ?_)
                  obtain ⟨rfl, _, rfl, ⟨rfl, b11⟩ | ⟨rfl, b11⟩⟩ := hq
                  · show W p l e r_c_X11_read s m args below meth c _ _ 0 0 Qf (F0 m 62 ls [.int (iI 1)])
                    refine x_if_eq B (by omega) (tgt := 74) dX11_read_62 (by decide) (fun c12 => ?_) (fun c12 => ?_)
                    · exact absurd c12 (by omega)
                    · refine lv_aload B.1 B.2.1 dX11_read_65 (lv_at hl 0 rfl) ?_
                      refine lv_iload_n B.1 B.2.1 dX11_read_67 rfl (lv_at hl 3 rfl) ?_
                      refine y_cV B h kX7 (1000 + 16 * sh.toNat + 1) fo3.1 k_X7_readingOn rfl (c_X7_readingOn l D Zk ca T G u ad _ hC sh v  (by omega) (by omega)) m_502 rfl (by decide) hl.1 [] (Nat.le_of_ble_eq_true rfl) rfl dX11_read_68 (fun r w1 hq H locs h => ?_)
                      obtain ⟨rfl, _, rfl, ⟨rfl, q13⟩ | ⟨k14, rfl, q13⟩⟩ := hq
                      · show W p l e r_c_X11_read s m args below meth c _ _ 0 0 Qf (F0 m 71 ls [.null])
                        refine lv_ifnullN (tgt := 81) B.1 B.2.1 dX11_read_71 (by decide) ?_
                        refine lv_aload_n B.1 B.2.1 dX11_read_81 rfl (lv_at hl 1 rfl) ?_
                        refine y_getR B h kX11 0 (CW.f hC 0 _ rfl) 0 (b := ad 1) rfl m_361 (by decide) dX11_read_82 ?_
                        refine y_getX B h kX0 1 (CW.f hC 1 _ rfl) 5 (z := (T 0 2)) rfl m_149 (by decide) dX11_read_85 ?_
                        refine x_sipush B (by decide) dX11_read_88 ?_
                        refine x_icmp_lt B (by omega) (tgt := 101) dX11_read_91 (by decide) (fun c15 => ?_) (fun c15 => ?_)
                        · refine lv_aload_n B.1 B.2.1 dX11_read_101 rfl (lv_at hl 1 rfl) ?_
                          refine y_getR B h kX11 0 (CW.f hC 0 _ rfl) 0 (b := ad 1) rfl m_361 (by decide) dX11_read_102 ?_
                          refine y_new (1000 + 16 * (T 0 2).toNat + 4) B h kX4 m_507 m_508 m_107 [fN, fX 0, fX 0, fX 0, fX 0, fX 0, fX 0, fX 0] rfl ⟨rfl, rfl, rfl, rfl, rfl, rfl, rfl, rfl, trivial⟩ (by decide) dX11_read_105 (fun q16 H h => ?_)
                          have h : yH D Zk A s ((wu w (1000 + 16 * (T 0 2).toNat + 4) (q16, xO 4 [fN, fX 0, fX 0, fX 0, fX 0, fX 0, fX 0, fX 0]))) _ _ := h
                          refine lv_dup B.1 B.2.1 dX11_read_108 rfl ?_
                          refine lv_aload B.1 B.2.1 dX11_read_109 (lv_at hl 0 rfl) ?_
                          refine lv_iload_n B.1 B.2.1 dX11_read_111 rfl (lv_at hl 3 rfl) ?_
                          refine lv_iload_n B.1 B.2.1 dX11_read_112 rfl (lv_at hl 4 rfl) ?_
                          refine lv_iload B.1 B.2.1 dX11_read_113 (lv_at hl 5 rfl) ?_
                          refine lv_iload B.1 B.2.1 dX11_read_115 (lv_at hl 6 rfl) ?_
                          refine y_cI B h k_X4_init (c_X4_init l D Zk ca _ q16 (1000 + 16 * (T 0 2).toNat + 4) (G 1 sh) v sp kd nb wu_eq (by omega) (by omega) (by omega) (by omega)) m_509 rfl (by decide) hl.1 [.ref q16, .ref (ad 1)] (Nat.le_of_ble_eq_true rfl) rfl dX11_read_117 (fun r w1 hq H locs h => ?_)
                          obtain ⟨rfl, rfl⟩ := hq
                          rw [wu_wu] at h
                          have h : yH D Zk A s ((wu w (1000 + 16 * (T 0 2).toNat + 4) (q16, xO 4 [fR ((G 1 sh)), fX v, fX (sp / 100), fX kd, fX nb, fX ((sp / 10) % 10), fX (sp % 10), fX (-1)]))) _ _ := h
                          show W p l e r_c_X11_read s m args below meth c _ _ 1 8 Qf (F0 m 120 ls [.ref q16, .ref (ad 1)])
                          refine y_cV B h kX0 1 (wu_at (CW.f hC 1 _ rfl) (by omega)) k_X0_add rfl (c_X0_add l D Zk ca _ (fX (T 0 0)) (fG (-2147483648) 2147483647) (fX (T 0 1)) (fX (T 0 3)) (fX (T 0 4)) (fX (T 0 5)) (fX (sp / 100)) (fX kd) (fX nb) (fX ((sp / 10) % 10)) (fX (sp % 10)) (fX (-1)) (fX sh) (fX (T 1 sh)) (fR (G 2 sh)) (fX (T 2 sh)) ((T 0 2)) v (ad 1) 1 (ad 3) 3 (fR (ad 2)) (G 1 sh) (1000 + 16 * sh.toNat + 1) (G 3 sh) (1000 + 16 * sh.toNat + 3) q16 (1000 + 16 * (T 0 2).toNat + 4) (gRd T G (T 0 2) sh) (gRd (tRead T sh v sp kd nb) (gUp G 4 (T 0 2) q16) (T 0 2 + 1) sh) (gRow G 4 (T 0 2)) (gRow (gUp G 4 (T 0 2) q16) 4 (T 0 2 + 1)) (wu_at (CW.f hC 1 _ rfl) (by omega)) (wu_at (CW.f hC 3 _ rfl) (by omega)) wu_eq (wu_at fo3.1 (by omega)) (wu_at fo3.2.2 (by omega)) (by omega) (by omega) (gRd_up (by omega)) (gRow_up (by omega) (if_pos ⟨rfl, rfl⟩) (fun i hi => if_neg (by omega))) (by omega)) m_557 rfl (by decide) hl.1 [] (Nat.le_of_ble_eq_true rfl) rfl dX11_read_120 (fun r w1 hq H locs h => ?_)
                          obtain ⟨z18, rfl, rfl, hr17⟩ := hq
                          rw [wu_wu] at h
                          have h : yH D Zk A s ((wu (wu (wu (wu w (1000 + 16 * (T 0 2).toNat + 4) (q16, xO 4 [fR ((G 1 sh)), fX v, (fX (sp / 100)), (fX kd), (fX nb), (fX ((sp / 10) % 10)), (fX (sp % 10)), fX ((T 0 2))])) 3 (ad 3, xAQ (ca 5) 300 ((gRow (gUp G 4 (T 0 2) q16) 4 (T 0 2 + 1))))) (1000 + 16 * sh.toNat + 3) (G 3 sh, xAQ (ca 5) 1000 ((gRd (tRead T sh v sp kd nb) (gUp G 4 (T 0 2) q16) (T 0 2 + 1) sh)))) 1 (ad 1, xO 0 [(fR (ad 2)), fR ((ad 3)), (fX (T 0 0)), (fG (-2147483648) 2147483647), (fX (T 0 1)), fX (((T 0 2)) + 1), (fX (T 0 3)), (fX (T 0 4)), (fX (T 0 5))]))) _ _ := h
                          show W p l e r_c_X11_read s m args below meth c _ _ 1 8 Qf (F0 m 123 ls [.int (iI z18)])
                          refine y_ri B hQ h (by decide) dX11_read_123 ?_
                          exact ⟨_, rfl, Or.inl ⟨⟨⟨by omega, by omega, by omega, by omega, by omega, by assumption⟩, by omega⟩, by omega, _, cw_read (q := q16) hC (by omega) (by omega) (by omega) (by omega) (by omega) (by omega) (by assumption) (fun k k0 k1 k2 k3 => by rw [wu_ne (by omega), wu_ne (by omega), wu_ne (by omega), wu_ne (by omega)]) wu_eq (wu_at (wu_at wu_eq (by omega)) (by decide)) (wu_at wu_eq (by omega)) (wu_at (wu_at (wu_at wu_eq (by omega)) (by omega)) (by omega)), fun k h1 h2 => by rw [wu_ne (by omega), wu_ne (by omega), wu_ne (by omega), wu_ne (by omega)]⟩⟩
                        · refine lv_aload_n B.1 B.2.1 dX11_read_94 rfl (lv_at hl 1 rfl) ?_
                          refine x_iconst B dX11_read_95 ?_
                          refine x_iconst B dX11_read_96 ?_
                          refine y_cV B h kX11 0 (CW.f hC 0 _ rfl) k_X11_refuse rfl (c_X11_refuse l D Zk ca T G u ad _ hC 1 ((-1))  (by omega) (by omega)) m_423 rfl (by decide) hl.1 [] (Nat.le_of_ble_eq_true rfl) rfl dX11_read_97 (fun r w1 hq H locs h => ?_)
                          obtain ⟨rfl, z19, rfl, hz19⟩ := hq
                          show W p l e r_c_X11_read s m args below meth c _ _ 0 0 Qf (F0 m 100 ls [.int (iI z19)])
                          refine y_ri B hQ h (by decide) dX11_read_100 ?_
                          exact ⟨_, rfl, Or.inr ⟨fun q9 => by obtain ⟨⟨q1, q2, q3, q4, q5, -⟩, q7⟩ := q9; omega, by omega, rfl⟩⟩
                      · have fo20 := CW.rd hC k14 (by omega)
                        show W p l e r_c_X11_read s m args below meth c _ _ 0 0 Qf (F0 m 71 ls [.ref (G 4 k14)])
                        refine lv_ifnull B.1 B.2.1 dX11_read_71 ?_
                        refine lv_aload_n B.1 B.2.1 dX11_read_74 rfl (lv_at hl 1 rfl) ?_
                        refine x_iconst B dX11_read_75 ?_
                        refine x_iconst B dX11_read_76 ?_
                        refine y_cV B h kX11 0 (CW.f hC 0 _ rfl) k_X11_refuse rfl (c_X11_refuse l D Zk ca T G u ad _ hC 0 ((-1))  (by omega) (by omega)) m_423 rfl (by decide) hl.1 [] (Nat.le_of_ble_eq_true rfl) rfl dX11_read_77 (fun r w1 hq H locs h => ?_)
                        obtain ⟨rfl, z21, rfl, hz21⟩ := hq
                        show W p l e r_c_X11_read s m args below meth c _ _ 0 0 Qf (F0 m 80 ls [.int (iI z21)])
                        refine y_ri B hQ h (by decide) dX11_read_80 ?_
                        exact ⟨_, rfl, Or.inr ⟨fun q9 => q9.1.2.2.2.2.2 k14 q13.1 ⟨q13.2.1, q13.2.2⟩, by omega, rfl⟩⟩
                  · show W p l e r_c_X11_read s m args below meth c _ _ 0 0 Qf (F0 m 62 ls [.int (iI 0)])
                    refine x_if_eq B (by omega) (tgt := 74) dX11_read_62 (by decide) (fun c22 => ?_) (fun c22 => ?_)
                    · refine lv_aload_n B.1 B.2.1 dX11_read_74 rfl (lv_at hl 1 rfl) ?_
                      refine x_iconst B dX11_read_75 ?_
                      refine x_iconst B dX11_read_76 ?_
                      refine y_cV B h kX11 0 (CW.f hC 0 _ rfl) k_X11_refuse rfl (c_X11_refuse l D Zk ca T G u ad _ hC 0 ((-1))  (by omega) (by omega)) m_423 rfl (by decide) hl.1 [] (Nat.le_of_ble_eq_true rfl) rfl dX11_read_77 (fun r w1 hq H locs h => ?_)
                      obtain ⟨rfl, z23, rfl, hz23⟩ := hq
                      show W p l e r_c_X11_read s m args below meth c _ _ 0 0 Qf (F0 m 80 ls [.int (iI z23)])
                      refine y_ri B hQ h (by decide) dX11_read_80 ?_
                      exact ⟨_, rfl, Or.inr ⟨fun q9 => by obtain ⟨⟨q1, q2, q3, q4, q5, -⟩, q7⟩ := q9; omega, by omega, rfl⟩⟩
                    · exact absurd c22 (by omega)
                · refine x_bipush B (by decide) dX11_read_52 ?_
                  refine lv_goto (tgt := 59) B.1 B.2.1 dX11_read_54 (by decide) ?_
                  refine y_cS B h k_X11_within (c_X11_within l D Zk ca _ nb 99  (by omega) (by omega)) m_431 rfl (by decide) hl.1 [] (Nat.le_of_ble_eq_true rfl) rfl dX11_read_59 (fun r w1 hq H locs h => ?_)
                  obtain ⟨rfl, _, rfl, ⟨rfl, b24⟩ | ⟨rfl, b24⟩⟩ := hq
                  · show W p l e r_c_X11_read s m args below meth c _ _ 0 0 Qf (F0 m 62 ls [.int (iI 1)])
                    refine x_if_eq B (by omega) (tgt := 74) dX11_read_62 (by decide) (fun c25 => ?_) (fun c25 => ?_)
                    · exact absurd c25 (by omega)
                    · refine lv_aload B.1 B.2.1 dX11_read_65 (lv_at hl 0 rfl) ?_
                      refine lv_iload_n B.1 B.2.1 dX11_read_67 rfl (lv_at hl 3 rfl) ?_
                      refine y_cV B h kX7 (1000 + 16 * sh.toNat + 1) fo3.1 k_X7_readingOn rfl (c_X7_readingOn l D Zk ca T G u ad _ hC sh v  (by omega) (by omega)) m_502 rfl (by decide) hl.1 [] (Nat.le_of_ble_eq_true rfl) rfl dX11_read_68 (fun r w1 hq H locs h => ?_)
                      obtain ⟨rfl, _, rfl, ⟨rfl, q26⟩ | ⟨k27, rfl, q26⟩⟩ := hq
                      · show W p l e r_c_X11_read s m args below meth c _ _ 0 0 Qf (F0 m 71 ls [.null])
                        refine lv_ifnullN (tgt := 81) B.1 B.2.1 dX11_read_71 (by decide) ?_
                        refine lv_aload_n B.1 B.2.1 dX11_read_81 rfl (lv_at hl 1 rfl) ?_
                        refine y_getR B h kX11 0 (CW.f hC 0 _ rfl) 0 (b := ad 1) rfl m_361 (by decide) dX11_read_82 ?_
                        refine y_getX B h kX0 1 (CW.f hC 1 _ rfl) 5 (z := (T 0 2)) rfl m_149 (by decide) dX11_read_85 ?_
                        refine x_sipush B (by decide) dX11_read_88 ?_
                        refine x_icmp_lt B (by omega) (tgt := 101) dX11_read_91 (by decide) (fun c28 => ?_) (fun c28 => ?_)
                        · refine lv_aload_n B.1 B.2.1 dX11_read_101 rfl (lv_at hl 1 rfl) ?_
                          refine y_getR B h kX11 0 (CW.f hC 0 _ rfl) 0 (b := ad 1) rfl m_361 (by decide) dX11_read_102 ?_
                          refine y_new (1000 + 16 * (T 0 2).toNat + 4) B h kX4 m_507 m_508 m_107 [fN, fX 0, fX 0, fX 0, fX 0, fX 0, fX 0, fX 0] rfl ⟨rfl, rfl, rfl, rfl, rfl, rfl, rfl, rfl, trivial⟩ (by decide) dX11_read_105 (fun q29 H h => ?_)
                          have h : yH D Zk A s ((wu w (1000 + 16 * (T 0 2).toNat + 4) (q29, xO 4 [fN, fX 0, fX 0, fX 0, fX 0, fX 0, fX 0, fX 0]))) _ _ := h
                          refine lv_dup B.1 B.2.1 dX11_read_108 rfl ?_
                          refine lv_aload B.1 B.2.1 dX11_read_109 (lv_at hl 0 rfl) ?_
                          refine lv_iload_n B.1 B.2.1 dX11_read_111 rfl (lv_at hl 3 rfl) ?_
                          refine lv_iload_n B.1 B.2.1 dX11_read_112 rfl (lv_at hl 4 rfl) ?_
                          refine lv_iload B.1 B.2.1 dX11_read_113 (lv_at hl 5 rfl) ?_
                          refine lv_iload B.1 B.2.1 dX11_read_115 (lv_at hl 6 rfl) ?_
                          refine y_cI B h k_X4_init (c_X4_init l D Zk ca _ q29 (1000 + 16 * (T 0 2).toNat + 4) (G 1 sh) v sp kd nb wu_eq (by omega) (by omega) (by omega) (by omega)) m_509 rfl (by decide) hl.1 [.ref q29, .ref (ad 1)] (Nat.le_of_ble_eq_true rfl) rfl dX11_read_117 (fun r w1 hq H locs h => ?_)
                          obtain ⟨rfl, rfl⟩ := hq
                          rw [wu_wu] at h
                          have h : yH D Zk A s ((wu w (1000 + 16 * (T 0 2).toNat + 4) (q29, xO 4 [fR ((G 1 sh)), fX v, fX (sp / 100), fX kd, fX nb, fX ((sp / 10) % 10), fX (sp % 10), fX (-1)]))) _ _ := h
                          show W p l e r_c_X11_read s m args below meth c _ _ 1 8 Qf (F0 m 120 ls [.ref q29, .ref (ad 1)])
                          refine y_cV B h kX0 1 (wu_at (CW.f hC 1 _ rfl) (by omega)) k_X0_add rfl (c_X0_add l D Zk ca _ (fX (T 0 0)) (fG (-2147483648) 2147483647) (fX (T 0 1)) (fX (T 0 3)) (fX (T 0 4)) (fX (T 0 5)) (fX (sp / 100)) (fX kd) (fX nb) (fX ((sp / 10) % 10)) (fX (sp % 10)) (fX (-1)) (fX sh) (fX (T 1 sh)) (fR (G 2 sh)) (fX (T 2 sh)) ((T 0 2)) v (ad 1) 1 (ad 3) 3 (fR (ad 2)) (G 1 sh) (1000 + 16 * sh.toNat + 1) (G 3 sh) (1000 + 16 * sh.toNat + 3) q29 (1000 + 16 * (T 0 2).toNat + 4) (gRd T G (T 0 2) sh) (gRd (tRead T sh v sp kd nb) (gUp G 4 (T 0 2) q29) (T 0 2 + 1) sh) (gRow G 4 (T 0 2)) (gRow (gUp G 4 (T 0 2) q29) 4 (T 0 2 + 1)) (wu_at (CW.f hC 1 _ rfl) (by omega)) (wu_at (CW.f hC 3 _ rfl) (by omega)) wu_eq (wu_at fo3.1 (by omega)) (wu_at fo3.2.2 (by omega)) (by omega) (by omega) (gRd_up (by omega)) (gRow_up (by omega) (if_pos ⟨rfl, rfl⟩) (fun i hi => if_neg (by omega))) (by omega)) m_557 rfl (by decide) hl.1 [] (Nat.le_of_ble_eq_true rfl) rfl dX11_read_120 (fun r w1 hq H locs h => ?_)
                          obtain ⟨z31, rfl, rfl, hr30⟩ := hq
                          rw [wu_wu] at h
                          have h : yH D Zk A s ((wu (wu (wu (wu w (1000 + 16 * (T 0 2).toNat + 4) (q29, xO 4 [fR ((G 1 sh)), fX v, (fX (sp / 100)), (fX kd), (fX nb), (fX ((sp / 10) % 10)), (fX (sp % 10)), fX ((T 0 2))])) 3 (ad 3, xAQ (ca 5) 300 ((gRow (gUp G 4 (T 0 2) q29) 4 (T 0 2 + 1))))) (1000 + 16 * sh.toNat + 3) (G 3 sh, xAQ (ca 5) 1000 ((gRd (tRead T sh v sp kd nb) (gUp G 4 (T 0 2) q29) (T 0 2 + 1) sh)))) 1 (ad 1, xO 0 [(fR (ad 2)), fR ((ad 3)), (fX (T 0 0)), (fG (-2147483648) 2147483647), (fX (T 0 1)), fX (((T 0 2)) + 1), (fX (T 0 3)), (fX (T 0 4)), (fX (T 0 5))]))) _ _ := h
                          show W p l e r_c_X11_read s m args below meth c _ _ 1 8 Qf (F0 m 123 ls [.int (iI z31)])
                          refine y_ri B hQ h (by decide) dX11_read_123 ?_
                          exact ⟨_, rfl, Or.inl ⟨⟨⟨by omega, by omega, by omega, by omega, by omega, by assumption⟩, by omega⟩, by omega, _, cw_read (q := q29) hC (by omega) (by omega) (by omega) (by omega) (by omega) (by omega) (by assumption) (fun k k0 k1 k2 k3 => by rw [wu_ne (by omega), wu_ne (by omega), wu_ne (by omega), wu_ne (by omega)]) wu_eq (wu_at (wu_at wu_eq (by omega)) (by decide)) (wu_at wu_eq (by omega)) (wu_at (wu_at (wu_at wu_eq (by omega)) (by omega)) (by omega)), fun k h1 h2 => by rw [wu_ne (by omega), wu_ne (by omega), wu_ne (by omega), wu_ne (by omega)]⟩⟩
                        · refine lv_aload_n B.1 B.2.1 dX11_read_94 rfl (lv_at hl 1 rfl) ?_
                          refine x_iconst B dX11_read_95 ?_
                          refine x_iconst B dX11_read_96 ?_
                          refine y_cV B h kX11 0 (CW.f hC 0 _ rfl) k_X11_refuse rfl (c_X11_refuse l D Zk ca T G u ad _ hC 1 ((-1))  (by omega) (by omega)) m_423 rfl (by decide) hl.1 [] (Nat.le_of_ble_eq_true rfl) rfl dX11_read_97 (fun r w1 hq H locs h => ?_)
                          obtain ⟨rfl, z32, rfl, hz32⟩ := hq
                          show W p l e r_c_X11_read s m args below meth c _ _ 0 0 Qf (F0 m 100 ls [.int (iI z32)])
                          refine y_ri B hQ h (by decide) dX11_read_100 ?_
                          exact ⟨_, rfl, Or.inr ⟨fun q9 => by obtain ⟨⟨q1, q2, q3, q4, q5, -⟩, q7⟩ := q9; omega, by omega, rfl⟩⟩
                      · have fo33 := CW.rd hC k27 (by omega)
                        show W p l e r_c_X11_read s m args below meth c _ _ 0 0 Qf (F0 m 71 ls [.ref (G 4 k27)])
                        refine lv_ifnull B.1 B.2.1 dX11_read_71 ?_
                        refine lv_aload_n B.1 B.2.1 dX11_read_74 rfl (lv_at hl 1 rfl) ?_
                        refine x_iconst B dX11_read_75 ?_
                        refine x_iconst B dX11_read_76 ?_
                        refine y_cV B h kX11 0 (CW.f hC 0 _ rfl) k_X11_refuse rfl (c_X11_refuse l D Zk ca T G u ad _ hC 0 ((-1))  (by omega) (by omega)) m_423 rfl (by decide) hl.1 [] (Nat.le_of_ble_eq_true rfl) rfl dX11_read_77 (fun r w1 hq H locs h => ?_)
                        obtain ⟨rfl, z34, rfl, hz34⟩ := hq
                        show W p l e r_c_X11_read s m args below meth c _ _ 0 0 Qf (F0 m 80 ls [.int (iI z34)])
                        refine y_ri B hQ h (by decide) dX11_read_80 ?_
                        exact ⟨_, rfl, Or.inr ⟨fun q9 => q9.1.2.2.2.2.2 k27 q26.1 ⟨q26.2.1, q26.2.2⟩, by omega, rfl⟩⟩
                  · show W p l e r_c_X11_read s m args below meth c _ _ 0 0 Qf (F0 m 62 ls [.int (iI 0)])
                    refine x_if_eq B (by omega) (tgt := 74) dX11_read_62 (by decide) (fun c35 => ?_) (fun c35 => ?_)
                    · refine lv_aload_n B.1 B.2.1 dX11_read_74 rfl (lv_at hl 1 rfl) ?_
                      refine x_iconst B dX11_read_75 ?_
                      refine x_iconst B dX11_read_76 ?_
                      refine y_cV B h kX11 0 (CW.f hC 0 _ rfl) k_X11_refuse rfl (c_X11_refuse l D Zk ca T G u ad _ hC 0 ((-1))  (by omega) (by omega)) m_423 rfl (by decide) hl.1 [] (Nat.le_of_ble_eq_true rfl) rfl dX11_read_77 (fun r w1 hq H locs h => ?_)
                      obtain ⟨rfl, z36, rfl, hz36⟩ := hq
                      show W p l e r_c_X11_read s m args below meth c _ _ 0 0 Qf (F0 m 80 ls [.int (iI z36)])
                      refine y_ri B hQ h (by decide) dX11_read_80 ?_
                      exact ⟨_, rfl, Or.inr ⟨fun q9 => by obtain ⟨⟨q1, q2, q3, q4, q5, -⟩, q7⟩ := q9; omega, by omega, rfl⟩⟩
                    · exact absurd c35 (by omega)
            · show W p l e r_c_X11_read s m args below meth c _ _ 0 0 Qf (F0 m 41 ls [.int (iI 0)])
              refine x_if_eq B (by omega) (tgt := 74) dX11_read_41 (by decide) (fun c37 => ?_) (fun c37 => ?_)
              · refine lv_aload_n B.1 B.2.1 dX11_read_74 rfl (lv_at hl 1 rfl) ?_
                refine x_iconst B dX11_read_75 ?_
                refine x_iconst B dX11_read_76 ?_
                refine y_cV B h kX11 0 (CW.f hC 0 _ rfl) k_X11_refuse rfl (c_X11_refuse l D Zk ca T G u ad _ hC 0 ((-1))  (by omega) (by omega)) m_423 rfl (by decide) hl.1 [] (Nat.le_of_ble_eq_true rfl) rfl dX11_read_77 (fun r w1 hq H locs h => ?_)
                obtain ⟨rfl, z38, rfl, hz38⟩ := hq
                show W p l e r_c_X11_read s m args below meth c _ _ 0 0 Qf (F0 m 80 ls [.int (iI z38)])
                refine y_ri B hQ h (by decide) dX11_read_80 ?_
                exact ⟨_, rfl, Or.inr ⟨fun q9 => by obtain ⟨⟨q1, q2, q3, q4, q5, -⟩, q7⟩ := q9; omega, by omega, rfl⟩⟩
              · exact absurd c37 (by omega)
        · show W p l e r_c_X11_read s m args below meth c _ _ 0 0 Qf (F0 m 32 ls [.int (iI 0)])
          refine x_if_eq B (by omega) (tgt := 74) dX11_read_32 (by decide) (fun c39 => ?_) (fun c39 => ?_)
          · refine lv_aload_n B.1 B.2.1 dX11_read_74 rfl (lv_at hl 1 rfl) ?_
            refine x_iconst B dX11_read_75 ?_
            refine x_iconst B dX11_read_76 ?_
            refine y_cV B h kX11 0 (CW.f hC 0 _ rfl) k_X11_refuse rfl (c_X11_refuse l D Zk ca T G u ad _ hC 0 ((-1))  (by omega) (by omega)) m_423 rfl (by decide) hl.1 [] (Nat.le_of_ble_eq_true rfl) rfl dX11_read_77 (fun r w1 hq H locs h => ?_)
            obtain ⟨rfl, z40, rfl, hz40⟩ := hq
            show W p l e r_c_X11_read s m args below meth c _ _ 0 0 Qf (F0 m 80 ls [.int (iI z40)])
            refine y_ri B hQ h (by decide) dX11_read_80 ?_
            exact ⟨_, rfl, Or.inr ⟨fun q9 => by obtain ⟨⟨q1, q2, q3, q4, q5, -⟩, q7⟩ := q9; omega, by omega, rfl⟩⟩
          · exact absurd c39 (by omega)
    · show W p l e r_c_X11_read s m args below meth c _ _ 0 0 Qf (F0 m 22 ls [.int (iI 0)])
      refine x_if_eq B (by omega) (tgt := 74) dX11_read_22 (by decide) (fun c41 => ?_) (fun c41 => ?_)
      · refine lv_aload_n B.1 B.2.1 dX11_read_74 rfl (lv_at hl 1 rfl) ?_
        refine x_iconst B dX11_read_75 ?_
        refine x_iconst B dX11_read_76 ?_
        refine y_cV B h kX11 0 (CW.f hC 0 _ rfl) k_X11_refuse rfl (c_X11_refuse l D Zk ca T G u ad _ hC 0 ((-1))  (by omega) (by omega)) m_423 rfl (by decide) hl.1 [] (Nat.le_of_ble_eq_true rfl) rfl dX11_read_77 (fun r w1 hq H locs h => ?_)
        obtain ⟨rfl, z42, rfl, hz42⟩ := hq
        show W p l e r_c_X11_read s m args below meth c _ _ 0 0 Qf (F0 m 80 ls [.int (iI z42)])
        refine y_ri B hQ h (by decide) dX11_read_80 ?_
        exact ⟨_, rfl, Or.inr ⟨fun q9 => by obtain ⟨⟨q1, q2, q3, q4, q5, -⟩, q7⟩ := q9; omega, by omega, rfl⟩⟩
      · exact absurd c41 (by omega)
abbrev r_c_X5_init : Room := { frames := 1, cells := 5, slots := 611, locals := 20 }
set_option maxHeartbeats 4000000 in
set_option maxRecDepth 100000 in
theorem c_X5_init (l : Launch) (D : va_G) (Zk : yK) (ca : Nat → ClassId) (w : yW) (aq : Nat) (nq : Nat) (n1 : Nat) (n2 : Nat) (n3 : Nat) (n4 : Nat) (n5 : Nat) (fq : w nq = some (aq, xO 5 [fN, fN, fN, fN, fN, fX 0, fX 0])) (hn : nq ≠ n1 ∧ nq ≠ n2 ∧ nq ≠ n3 ∧ nq ≠ n4 ∧ nq ≠ n5 ∧ n1 ≠ n2 ∧ n1 ≠ n3 ∧ n1 ≠ n4 ∧ n1 ≠ n5 ∧ n2 ≠ n3 ∧ n2 ≠ n4 ∧ n2 ≠ n5 ∧ n3 ≠ n4 ∧ n3 ≠ n5 ∧ n4 ≠ n5) : yC l D Zk ca yX5_init cX5_init 1 none r_c_X5_init [.ref aq] w (fun r w1 => r = none ∧ ∃ q1 q2 q3 q4 q5 : Nat, w1 = (wu (wu (wu (wu (wu (wu w n1 (q1, xAI (ca 0) 40 (gX 40 (fun _ => 0)))) n2 (q2, xAI (ca 0) 40 (gX 40 (fun _ => 0)))) n3 (q3, xAI (ca 0) 40 (gX 40 (fun _ => 0)))) n4 (q4, xAI (ca 0) 41 (gX 41 (fun _ => 0)))) n5 (q5, xAI (ca 0) 450 (gX 450 (fun _ => 0)))) nq (aq, xO 5 [fR q1, fR q2, fR q3, fR q4, fR q5, fX 0, fX 0]))) := by
  refine yC.of2 "WindWords$Rules" (by decide) rfl (Nat.le_of_ble_eq_true rfl) ?_
  intro p e s m args below meth c A ls Qf B hnm h hl hQ
  have hl : lv_has ls 1 [(0, .ref aq)] := hl
  refine lv_aload_n B.1 B.2.1 dX5_init_0 rfl (lv_at hl 0 rfl) ?_
  refine x_obj B m_337 m_122 m_123 hl.1 (Nat.le_of_ble_eq_true rfl) (by decide) dX5_init_1 ?_
  refine lv_aload_n B.1 B.2.1 dX5_init_4 rfl (lv_at hl 0 rfl) ?_
  refine x_bipush B (by decide) dX5_init_5 ?_
  refine y_newaI n1 B h (N := 40) (by omega) (by decide) m_213 (by decide) dX5_init_7 (fun q1 H h => ?_)
  have h : yH D Zk A s ((wu w n1 (q1, xAI (ca 0) 40 (gX 40 (fun _ => 0))))) _ _ := h
  refine y_putF B h kX5 nq (wu_at fq (by omega)) 0 (Nat.le_of_ble_eq_true rfl) (P' := fR q1) m_338 (by decide) rfl rfl hnm rfl rfl rfl dX5_init_9 (fun H locs h => ?_)
  have h : yH D Zk A s ((wu (wu w n1 (q1, xAI (ca 0) 40 (gX 40 (fun _ => 0)))) nq (aq, xO 5 [fR q1, fN, fN, fN, fN, fX 0, fX 0]))) _ _ := h
  refine lv_aload_n B.1 B.2.1 dX5_init_12 rfl (lv_at hl 0 rfl) ?_
  refine x_bipush B (by decide) dX5_init_13 ?_
  refine y_newaI n2 B h (N := 40) (by omega) (by decide) m_213 (by decide) dX5_init_15 (fun q2 H h => ?_)
  have h : yH D Zk A s ((wu (wu (wu w n1 (q1, xAI (ca 0) 40 (gX 40 (fun _ => 0)))) nq (aq, xO 5 [fR q1, fN, fN, fN, fN, fX 0, fX 0])) n2 (q2, xAI (ca 0) 40 (gX 40 (fun _ => 0))))) _ _ := h
  rw [wu_comm (show (nq : Nat) ≠ n2 by omega)] at h
  have h : yH D Zk A s ((wu (wu (wu w n1 (q1, xAI (ca 0) 40 (gX 40 (fun _ => 0)))) n2 (q2, xAI (ca 0) 40 (gX 40 (fun _ => 0)))) nq (aq, xO 5 [fR q1, fN, fN, fN, fN, fX 0, fX 0]))) _ _ := h
  refine y_putF B h kX5 nq wu_eq 1 (Nat.le_of_ble_eq_true rfl) (P' := fR q2) m_339 (by decide) rfl rfl hnm rfl rfl rfl dX5_init_17 (fun H locs h => ?_)
  rw [wu_wu] at h
  have h : yH D Zk A s ((wu (wu (wu w n1 (q1, xAI (ca 0) 40 (gX 40 (fun _ => 0)))) n2 (q2, xAI (ca 0) 40 (gX 40 (fun _ => 0)))) nq (aq, xO 5 [fR q1, fR q2, fN, fN, fN, fX 0, fX 0]))) _ _ := h
  refine lv_aload_n B.1 B.2.1 dX5_init_20 rfl (lv_at hl 0 rfl) ?_
  refine x_bipush B (by decide) dX5_init_21 ?_
  refine y_newaI n3 B h (N := 40) (by omega) (by decide) m_213 (by decide) dX5_init_23 (fun q3 H h => ?_)
  have h : yH D Zk A s ((wu (wu (wu (wu w n1 (q1, xAI (ca 0) 40 (gX 40 (fun _ => 0)))) n2 (q2, xAI (ca 0) 40 (gX 40 (fun _ => 0)))) nq (aq, xO 5 [fR q1, fR q2, fN, fN, fN, fX 0, fX 0])) n3 (q3, xAI (ca 0) 40 (gX 40 (fun _ => 0))))) _ _ := h
  rw [wu_comm (show (nq : Nat) ≠ n3 by omega)] at h
  have h : yH D Zk A s ((wu (wu (wu (wu w n1 (q1, xAI (ca 0) 40 (gX 40 (fun _ => 0)))) n2 (q2, xAI (ca 0) 40 (gX 40 (fun _ => 0)))) n3 (q3, xAI (ca 0) 40 (gX 40 (fun _ => 0)))) nq (aq, xO 5 [fR q1, fR q2, fN, fN, fN, fX 0, fX 0]))) _ _ := h
  refine y_putF B h kX5 nq wu_eq 2 (Nat.le_of_ble_eq_true rfl) (P' := fR q3) m_340 (by decide) rfl rfl hnm rfl rfl rfl dX5_init_25 (fun H locs h => ?_)
  rw [wu_wu] at h
  have h : yH D Zk A s ((wu (wu (wu (wu w n1 (q1, xAI (ca 0) 40 (gX 40 (fun _ => 0)))) n2 (q2, xAI (ca 0) 40 (gX 40 (fun _ => 0)))) n3 (q3, xAI (ca 0) 40 (gX 40 (fun _ => 0)))) nq (aq, xO 5 [fR q1, fR q2, fR q3, fN, fN, fX 0, fX 0]))) _ _ := h
  refine lv_aload_n B.1 B.2.1 dX5_init_28 rfl (lv_at hl 0 rfl) ?_
  refine x_bipush B (by decide) dX5_init_29 ?_
  refine y_newaI n4 B h (N := 41) (by omega) (by decide) m_213 (by decide) dX5_init_31 (fun q4 H h => ?_)
  have h : yH D Zk A s ((wu (wu (wu (wu (wu w n1 (q1, xAI (ca 0) 40 (gX 40 (fun _ => 0)))) n2 (q2, xAI (ca 0) 40 (gX 40 (fun _ => 0)))) n3 (q3, xAI (ca 0) 40 (gX 40 (fun _ => 0)))) nq (aq, xO 5 [fR q1, fR q2, fR q3, fN, fN, fX 0, fX 0])) n4 (q4, xAI (ca 0) 41 (gX 41 (fun _ => 0))))) _ _ := h
  rw [wu_comm (show (nq : Nat) ≠ n4 by omega)] at h
  have h : yH D Zk A s ((wu (wu (wu (wu (wu w n1 (q1, xAI (ca 0) 40 (gX 40 (fun _ => 0)))) n2 (q2, xAI (ca 0) 40 (gX 40 (fun _ => 0)))) n3 (q3, xAI (ca 0) 40 (gX 40 (fun _ => 0)))) n4 (q4, xAI (ca 0) 41 (gX 41 (fun _ => 0)))) nq (aq, xO 5 [fR q1, fR q2, fR q3, fN, fN, fX 0, fX 0]))) _ _ := h
  refine y_putF B h kX5 nq wu_eq 3 (Nat.le_of_ble_eq_true rfl) (P' := fR q4) m_341 (by decide) rfl rfl hnm rfl rfl rfl dX5_init_33 (fun H locs h => ?_)
  rw [wu_wu] at h
  have h : yH D Zk A s ((wu (wu (wu (wu (wu w n1 (q1, xAI (ca 0) 40 (gX 40 (fun _ => 0)))) n2 (q2, xAI (ca 0) 40 (gX 40 (fun _ => 0)))) n3 (q3, xAI (ca 0) 40 (gX 40 (fun _ => 0)))) n4 (q4, xAI (ca 0) 41 (gX 41 (fun _ => 0)))) nq (aq, xO 5 [fR q1, fR q2, fR q3, fR q4, fN, fX 0, fX 0]))) _ _ := h
  refine lv_aload_n B.1 B.2.1 dX5_init_36 rfl (lv_at hl 0 rfl) ?_
  refine x_sipush B (by decide) dX5_init_37 ?_
  refine y_newaI n5 B h (N := 450) (by omega) (by decide) m_213 (by decide) dX5_init_40 (fun q5 H h => ?_)
  have h : yH D Zk A s ((wu (wu (wu (wu (wu (wu w n1 (q1, xAI (ca 0) 40 (gX 40 (fun _ => 0)))) n2 (q2, xAI (ca 0) 40 (gX 40 (fun _ => 0)))) n3 (q3, xAI (ca 0) 40 (gX 40 (fun _ => 0)))) n4 (q4, xAI (ca 0) 41 (gX 41 (fun _ => 0)))) nq (aq, xO 5 [fR q1, fR q2, fR q3, fR q4, fN, fX 0, fX 0])) n5 (q5, xAI (ca 0) 450 (gX 450 (fun _ => 0))))) _ _ := h
  rw [wu_comm (show (nq : Nat) ≠ n5 by omega)] at h
  have h : yH D Zk A s ((wu (wu (wu (wu (wu (wu w n1 (q1, xAI (ca 0) 40 (gX 40 (fun _ => 0)))) n2 (q2, xAI (ca 0) 40 (gX 40 (fun _ => 0)))) n3 (q3, xAI (ca 0) 40 (gX 40 (fun _ => 0)))) n4 (q4, xAI (ca 0) 41 (gX 41 (fun _ => 0)))) n5 (q5, xAI (ca 0) 450 (gX 450 (fun _ => 0)))) nq (aq, xO 5 [fR q1, fR q2, fR q3, fR q4, fN, fX 0, fX 0]))) _ _ := h
  refine y_putF B h kX5 nq wu_eq 4 (Nat.le_of_ble_eq_true rfl) (P' := fR q5) m_342 (by decide) rfl rfl hnm rfl rfl rfl dX5_init_42 (fun H locs h => ?_)
  rw [wu_wu] at h
  have h : yH D Zk A s ((wu (wu (wu (wu (wu (wu w n1 (q1, xAI (ca 0) 40 (gX 40 (fun _ => 0)))) n2 (q2, xAI (ca 0) 40 (gX 40 (fun _ => 0)))) n3 (q3, xAI (ca 0) 40 (gX 40 (fun _ => 0)))) n4 (q4, xAI (ca 0) 41 (gX 41 (fun _ => 0)))) n5 (q5, xAI (ca 0) 450 (gX 450 (fun _ => 0)))) nq (aq, xO 5 [fR q1, fR q2, fR q3, fR q4, fR q5, fX 0, fX 0]))) _ _ := h
  refine lv_aload_n B.1 B.2.1 dX5_init_45 rfl (lv_at hl 0 rfl) ?_
  refine x_iconst B dX5_init_46 ?_
  refine y_put B h kX5 nq wu_eq 5 (Nat.le_of_ble_eq_true rfl) (P' := fX 0) m_343 (by decide) rfl rfl rfl rfl dX5_init_47 (fun H locs h => ?_)
  rw [wu_wu] at h
  have h : yH D Zk A s ((wu (wu (wu (wu (wu (wu w n1 (q1, xAI (ca 0) 40 (gX 40 (fun _ => 0)))) n2 (q2, xAI (ca 0) 40 (gX 40 (fun _ => 0)))) n3 (q3, xAI (ca 0) 40 (gX 40 (fun _ => 0)))) n4 (q4, xAI (ca 0) 41 (gX 41 (fun _ => 0)))) n5 (q5, xAI (ca 0) 450 (gX 450 (fun _ => 0)))) nq (aq, xO 5 [fR q1, fR q2, fR q3, fR q4, fR q5, fX 0, fX 0]))) _ _ := h
  refine lv_aload_n B.1 B.2.1 dX5_init_50 rfl (lv_at hl 0 rfl) ?_
  refine x_iconst B dX5_init_51 ?_
  refine y_put B h kX5 nq wu_eq 6 (Nat.le_of_ble_eq_true rfl) (P' := fX 0) m_345 (by decide) rfl rfl rfl rfl dX5_init_52 (fun H locs h => ?_)
  rw [wu_wu] at h
  have h : yH D Zk A s ((wu (wu (wu (wu (wu (wu w n1 (q1, xAI (ca 0) 40 (gX 40 (fun _ => 0)))) n2 (q2, xAI (ca 0) 40 (gX 40 (fun _ => 0)))) n3 (q3, xAI (ca 0) 40 (gX 40 (fun _ => 0)))) n4 (q4, xAI (ca 0) 41 (gX 41 (fun _ => 0)))) n5 (q5, xAI (ca 0) 450 (gX 450 (fun _ => 0)))) nq (aq, xO 5 [fR q1, fR q2, fR q3, fR q4, fR q5, fX 0, fX 0]))) _ _ := h
  refine y_rv B hQ h (by decide) dX5_init_55 ?_
  exact ⟨rfl, q1, q2, q3, q4, q5, rfl⟩
abbrev r_c_X11_scale : Room := { frames := 36, cells := 6, slots := 618, locals := 873 }
set_option maxHeartbeats 4000000 in
set_option maxRecDepth 100000 in
theorem c_X11_scale (l : Launch) (D : va_G) (Zk : yK) (ca : Nat → ClassId) (T : Nat → Int → Int) (G : Nat → Int → Nat) (u : Int) (ad : Nat → Nat) (w : yW) (hC : CW ca T G u ad w) (n : Int) (year : Int)  (hu0 : 0 ≤ u) (hn : xr n) (hyear : xr year) : yC l D Zk ca yX11_scale cX11_scale 4 (some .int) r_c_X11_scale [.ref (ad 0), .int (iI n), .int (iI year)] w (fun r w1 => ∃ z : Int, r = some (.int (iI z)) ∧ ∃ (G2 : Nat → Int → Nat) (u2 : Int), (u ≤ u2 ∧ u2 ≤ u + 1) ∧ CW ca T G2 u2 ad w1 ∧ AGX w w1) := by
  refine yC.of2 "WindWords" (by decide) rfl (Nat.le_of_ble_eq_true rfl) ?_
  intro p e s m args below meth c A ls Qf B hnm h hl hQ
  have hl : lv_has ls 4 [(0, .ref (ad 0)), (1, .int (iI n)), (2, .int (iI year))] := hl
  have hs := pi_s (CW.pi hC)
  refine lv_iload_n B.1 B.2.1 dX11_scale_0 rfl (lv_at hl 1 rfl) ?_
  refine lv_aload_n B.1 B.2.1 dX11_scale_1 rfl (lv_at hl 0 rfl) ?_
  refine y_getR B h kX11 0 (CW.f hC 0 _ rfl) 5 (b := ad 20) rfl m_366 (by decide) dX11_scale_2 ?_
  refine y_getG B h kX9 20 (CW.f hC 20 _ rfl) 0 (lo := 0) (hi := 900) rfl m_289 (by decide) dX11_scale_5 (fun z1 z1a z1b => ?_)
  refine y_cS B h k_X11_within (c_X11_within l D Zk ca _ n z1  (by omega) (by omega)) m_431 rfl (by decide) hl.1 [] (Nat.le_of_ble_eq_true rfl) rfl dX11_scale_8 (fun r w1 hq H locs h => ?_)
  obtain ⟨rfl, _, rfl, ⟨rfl, b2⟩ | ⟨rfl, b2⟩⟩ := hq
  · show W p l e r_c_X11_scale s m args below meth c _ _ 0 0 Qf (F0 m 11 ls [.int (iI 1)])
    refine x_if_eq B (by omega) (tgt := 23) dX11_scale_11 (by decide) (fun c3 => ?_) (fun c3 => ?_)
    · exact absurd c3 (by omega)
    · refine lv_iload_n B.1 B.2.1 dX11_scale_14 rfl (lv_at hl 2 rfl) ?_
      refine x_bipush B (by decide) dX11_scale_15 ?_
      refine y_cS B h k_X11_within (c_X11_within l D Zk ca _ year 9  (by omega) (by omega)) m_431 rfl (by decide) hl.1 [] (Nat.le_of_ble_eq_true rfl) rfl dX11_scale_17 (fun r w1 hq H locs h => ?_)
      obtain ⟨rfl, _, rfl, ⟨rfl, b4⟩ | ⟨rfl, b4⟩⟩ := hq
      · show W p l e r_c_X11_scale s m args below meth c _ _ 0 0 Qf (F0 m 20 ls [.int (iI 1)])
        refine x_if_ne B (by omega) (tgt := 31) dX11_scale_20 (by decide) (fun c5 => ?_) (fun c5 => ?_)
        · refine lv_aload_n B.1 B.2.1 dX11_scale_31 rfl (lv_at hl 0 rfl) ?_
          refine y_getR B h kX11 0 (CW.f hC 0 _ rfl) 1 (b := ad 4) rfl m_362 (by decide) dX11_scale_32 ?_
          refine y_getG B h kX6 4 (CW.f hC 4 _ rfl) 7 (lo := 0) (hi := 8) rfl m_195 (by decide) dX11_scale_35 (fun z6 z6a z6b => ?_)
          refine x_bipush B (by decide) dX11_scale_38 ?_
          refine x_icmp_lt B (by omega) (tgt := 51) dX11_scale_40 (by decide) (fun c7 => ?_) (fun c7 => ?_)
          · refine lv_aload_n B.1 B.2.1 dX11_scale_51 rfl (lv_at hl 0 rfl) ?_
            refine lv_iload_n B.1 B.2.1 dX11_scale_52 rfl (lv_at hl 1 rfl) ?_
            refine x_iconst B dX11_scale_53 ?_
            refine y_cV B h kX11 0 (CW.f hC 0 _ rfl) k_X11_understood rfl (c_X11_understood l D Zk ca T G u ad _ hC n 1  (by omega) (by omega)) m_577 rfl (by decide) hl.1 [] (Nat.le_of_ble_eq_true rfl) rfl dX11_scale_54 (fun r w1 hq H locs h => ?_)
            obtain ⟨rfl, _, rfl, ⟨rfl, b8⟩ | ⟨rfl, b8⟩⟩ := hq
            · show W p l e r_c_X11_scale s m args below meth c _ _ 0 0 Qf (F0 m 57 ls [.int (iI 1)])
              refine x_if_ne B (by omega) (tgt := 67) dX11_scale_57 (by decide) (fun c9 => ?_) (fun c9 => ?_)
              · refine lv_aload_n B.1 B.2.1 dX11_scale_67 rfl (lv_at hl 0 rfl) ?_
                refine y_getR B h kX11 0 (CW.f hC 0 _ rfl) 1 (b := ad 4) rfl m_362 (by decide) dX11_scale_68 ?_
                refine lv_aload_n B.1 B.2.1 dX11_scale_71 rfl (lv_at hl 0 rfl) ?_
                refine y_get B h kX11 0 (CW.f hC 0 _ rfl) 16 (P := fU G u) rfl m_377 (by decide) dX11_scale_72 (fun v10 hv10 => ?_)
                obtain ⟨j11, hj11, rfl⟩ := hv10
                have fo12 := CW.ru hC j11 (by omega)
                refine lv_iload_n B.1 B.2.1 dX11_scale_75 rfl (lv_at hl 2 rfl) ?_
                refine y_cV B h kX6 4 (CW.f hC 4 _ rfl) k_X6_add rfl (c_X6_add l D Zk ca T G u ad _ hC j11 year  (by omega) (by omega)) m_813 rfl (by decide) hl.1 [] (Nat.le_of_ble_eq_true rfl) rfl dX11_scale_76 (fun r w1 hq H locs h => ?_)
                obtain ⟨rfl, z13, rfl, hz13⟩ := hq
                show W p l e r_c_X11_scale s m args below meth c _ _ 0 0 Qf (F0 m 79 ls [.int (iI z13)])
                refine lv_istore_n (lv' := [(3, .int (iI z13)), (0, .ref (ad 0)), (1, .int (iI n)), (2, .int (iI year))]) B.1 B.2.1 dX11_scale_79 rfl hl (by decide) rfl (fun ls hl => ?_)
                refine lv_aload_n B.1 B.2.1 dX11_scale_80 rfl (lv_at hl 1 rfl) ?_
                refine y_new (1000 + 16 * u.toNat + 6) B h kX5 m_330 m_333 m_103 [fN, fN, fN, fN, fN, fX 0, fX 0] rfl ⟨rfl, rfl, rfl, rfl, rfl, rfl, rfl, trivial⟩ (by decide) dX11_scale_81 (fun q14 H h => ?_)
                have h : yH D Zk A s ((wu w (1000 + 16 * u.toNat + 6) (q14, xO 5 [fN, fN, fN, fN, fN, fX 0, fX 0]))) _ _ := h
                refine lv_dup B.1 B.2.1 dX11_scale_84 rfl ?_
                refine y_cIN (host := "WindWords") B h k_X5_init (c_X5_init l D Zk ca _ q14 (1000 + 16 * u.toNat + 6) (1000 + 16 * u.toNat + 7) (1000 + 16 * u.toNat + 8) (1000 + 16 * u.toNat + 9) (1000 + 16 * u.toNat + 10) (1000 + 16 * u.toNat + 11) wu_eq (by omega)) (by decide) rfl (by decide) hl.1 [.ref q14, .ref (ad 0)] (Nat.le_of_ble_eq_true rfl) rfl dX11_scale_85 (fun r w1 hq H locs h => ?_)
                obtain ⟨rfl, q15, q16, q17, q18, q19, rfl⟩ := hq
                rw [wu_comm (show (1000 + 16 * u.toNat + 6 : Nat) ≠ (1000 + 16 * u.toNat + 7) by omega), wu_comm (show (1000 + 16 * u.toNat + 6 : Nat) ≠ (1000 + 16 * u.toNat + 8) by omega), wu_comm (show (1000 + 16 * u.toNat + 6 : Nat) ≠ (1000 + 16 * u.toNat + 9) by omega), wu_comm (show (1000 + 16 * u.toNat + 6 : Nat) ≠ (1000 + 16 * u.toNat + 10) by omega), wu_comm (show (1000 + 16 * u.toNat + 6 : Nat) ≠ (1000 + 16 * u.toNat + 11) by omega), wu_wu] at h
                have h : yH D Zk A s ((wu (wu (wu (wu (wu (wu w ((1000 + 16 * u.toNat + 7)) (q15, xAI (ca 0) 40 (gX 40 (fun _ => 0)))) ((1000 + 16 * u.toNat + 8)) (q16, xAI (ca 0) 40 (gX 40 (fun _ => 0)))) ((1000 + 16 * u.toNat + 9)) (q17, xAI (ca 0) 40 (gX 40 (fun _ => 0)))) ((1000 + 16 * u.toNat + 10)) (q18, xAI (ca 0) 41 (gX 41 (fun _ => 0)))) ((1000 + 16 * u.toNat + 11)) (q19, xAI (ca 0) 450 (gX 450 (fun _ => 0)))) (1000 + 16 * u.toNat + 6) (q14, xO 5 [fR q15, fR q16, fR q17, fR q18, fR q19, fX 0, fX 0]))) _ _ := h
                show W p l e r_c_X11_scale s m args below meth c _ _ 6 618 Qf (F0 m 88 ls [.ref q14, .ref (ad 0)])
                have h := yH.weak (P' := xO 11 [fR (ad 1), fR (ad 4), fR (ad 12), fR (ad 14), fR (ad 18), fR (ad 20), fR (ad 26), fR (ad 27), fR (ad 28), fR (ad 29), fR (ad 30), fR (ad 31), fR (ad 32), fR (ad 33), fR (ad 34), fR (ad 35), fU (gRul G u q14 q15 q16 q17 q18 q19) (u + 1), fX (T 0 6), fG (-2147483648) 2147483647]) h (wu_at (wu_at (wu_at (wu_at (wu_at (wu_at (CW.f hC 0 _ rfl) (by omega)) (by omega)) (by omega)) (by omega)) (by omega)) (by omega)) (xO_le (fLe_cons (fun _ x => x) (fLe_cons (fun _ x => x) (fLe_cons (fun _ x => x) (fLe_cons (fun _ x => x) (fLe_cons (fun _ x => x) (fLe_cons (fun _ x => x) (fLe_cons (fun _ x => x) (fLe_cons (fun _ x => x) (fLe_cons (fun _ x => x) (fLe_cons (fun _ x => x) (fLe_cons (fun _ x => x) (fLe_cons (fun _ x => x) (fLe_cons (fun _ x => x) (fLe_cons (fun _ x => x) (fLe_cons (fun _ x => x) (fLe_cons (fun _ x => x) (fLe_cons fU_new (fLe_cons (fun _ x => x) (fLe_cons (fun _ x => x) fLe_nil))))))))))))))))))))
                have h : yH D Zk A s ((wu (wu (wu (wu (wu (wu (wu w ((1000 + 16 * u.toNat + 7)) (q15, xAI (ca 0) 40 (gX 40 (fun _ => 0)))) ((1000 + 16 * u.toNat + 8)) (q16, xAI (ca 0) 40 (gX 40 (fun _ => 0)))) ((1000 + 16 * u.toNat + 9)) (q17, xAI (ca 0) 40 (gX 40 (fun _ => 0)))) ((1000 + 16 * u.toNat + 10)) (q18, xAI (ca 0) 41 (gX 41 (fun _ => 0)))) ((1000 + 16 * u.toNat + 11)) (q19, xAI (ca 0) 450 (gX 450 (fun _ => 0)))) (1000 + 16 * u.toNat + 6) (q14, xO 5 [fR q15, fR q16, fR q17, fR q18, fR q19, fX 0, fX 0])) 0 (ad 0, xO 11 [fR (ad 1), fR (ad 4), fR (ad 12), fR (ad 14), fR (ad 18), fR (ad 20), fR (ad 26), fR (ad 27), fR (ad 28), fR (ad 29), fR (ad 30), fR (ad 31), fR (ad 32), fR (ad 33), fR (ad 34), fR (ad 35), fU (gRul G u q14 q15 q16 q17 q18 q19) (u + 1), fX (T 0 6), fG (-2147483648) 2147483647]))) _ _ := h
                have h := yH.weak (P' := xAQ (ca 6) 8 (gU 8 (gRul G u q14 q15 q16 q17 q18 q19) (u + 1))) h (wu_at (wu_at (wu_at (wu_at (wu_at (wu_at (wu_at (CW.f hC 5 _ rfl) (by omega)) (by omega)) (by omega)) (by omega)) (by omega)) (by omega)) (by decide)) gU_new
                have h : yH D Zk A s ((wu (wu (wu (wu (wu (wu (wu (wu w ((1000 + 16 * u.toNat + 7)) (q15, xAI (ca 0) 40 (gX 40 (fun _ => 0)))) ((1000 + 16 * u.toNat + 8)) (q16, xAI (ca 0) 40 (gX 40 (fun _ => 0)))) ((1000 + 16 * u.toNat + 9)) (q17, xAI (ca 0) 40 (gX 40 (fun _ => 0)))) ((1000 + 16 * u.toNat + 10)) (q18, xAI (ca 0) 41 (gX 41 (fun _ => 0)))) ((1000 + 16 * u.toNat + 11)) (q19, xAI (ca 0) 450 (gX 450 (fun _ => 0)))) (1000 + 16 * u.toNat + 6) (q14, xO 5 [fR q15, fR q16, fR q17, fR q18, fR q19, fX 0, fX 0])) 0 (ad 0, xO 11 [fR (ad 1), fR (ad 4), fR (ad 12), fR (ad 14), fR (ad 18), fR (ad 20), fR (ad 26), fR (ad 27), fR (ad 28), fR (ad 29), fR (ad 30), fR (ad 31), fR (ad 32), fR (ad 33), fR (ad 34), fR (ad 35), fU (gRul G u q14 q15 q16 q17 q18 q19) (u + 1), fX (T 0 6), fG (-2147483648) 2147483647])) 5 (ad 5, xAQ (ca 6) 8 (gU 8 (gRul G u q14 q15 q16 q17 q18 q19) (u + 1))))) _ _ := h
                have h := yH.weak (P' := xAQ (ca 6) 16 (gU 16 (gRul G u q14 q15 q16 q17 q18 q19) (u + 1))) h (wu_at (wu_at (wu_at (wu_at (wu_at (wu_at (wu_at (wu_at (CW.f hC 27 _ rfl) (by omega)) (by omega)) (by omega)) (by omega)) (by omega)) (by omega)) (by decide)) (by decide)) gU_new
                have h : yH D Zk A s ((wu (wu (wu (wu (wu (wu (wu (wu (wu w ((1000 + 16 * u.toNat + 7)) (q15, xAI (ca 0) 40 (gX 40 (fun _ => 0)))) ((1000 + 16 * u.toNat + 8)) (q16, xAI (ca 0) 40 (gX 40 (fun _ => 0)))) ((1000 + 16 * u.toNat + 9)) (q17, xAI (ca 0) 40 (gX 40 (fun _ => 0)))) ((1000 + 16 * u.toNat + 10)) (q18, xAI (ca 0) 41 (gX 41 (fun _ => 0)))) ((1000 + 16 * u.toNat + 11)) (q19, xAI (ca 0) 450 (gX 450 (fun _ => 0)))) (1000 + 16 * u.toNat + 6) (q14, xO 5 [fR q15, fR q16, fR q17, fR q18, fR q19, fX 0, fX 0])) 0 (ad 0, xO 11 [fR (ad 1), fR (ad 4), fR (ad 12), fR (ad 14), fR (ad 18), fR (ad 20), fR (ad 26), fR (ad 27), fR (ad 28), fR (ad 29), fR (ad 30), fR (ad 31), fR (ad 32), fR (ad 33), fR (ad 34), fR (ad 35), fU (gRul G u q14 q15 q16 q17 q18 q19) (u + 1), fX (T 0 6), fG (-2147483648) 2147483647])) 5 (ad 5, xAQ (ca 6) 8 (gU 8 (gRul G u q14 q15 q16 q17 q18 q19) (u + 1)))) 27 (ad 27, xAQ (ca 6) 16 (gU 16 (gRul G u q14 q15 q16 q17 q18 q19) (u + 1))))) _ _ := h
                refine y_putS B h kX11 0 (wu_at (wu_at wu_eq (by decide)) (by decide)) 16 (P := fU (gRul G u q14 q15 q16 q17 q18 q19) (u + 1)) rfl m_377 (by decide) ⟨u, by omega, congrArg Value.ref gRul_n.1.symm⟩ rfl rfl rfl dX11_scale_88 (fun H locs h => ?_)
                refine lv_iload_n B.1 B.2.1 dX11_scale_91 rfl (lv_at hl 0 rfl) ?_
                rw [wu_comm (show (1000 + 16 * u.toNat + 6 : Nat) ≠ 0 by omega), wu_comm (show (1000 + 16 * u.toNat + 6 : Nat) ≠ 5 by omega), wu_comm (show (1000 + 16 * u.toNat + 6 : Nat) ≠ 27 by omega)] at h
                have h : yH D Zk A s ((wu (wu (wu (wu (wu (wu (wu (wu (wu w ((1000 + 16 * u.toNat + 7)) (q15, xAI (ca 0) 40 (gX 40 (fun _ => 0)))) ((1000 + 16 * u.toNat + 8)) (q16, xAI (ca 0) 40 (gX 40 (fun _ => 0)))) ((1000 + 16 * u.toNat + 9)) (q17, xAI (ca 0) 40 (gX 40 (fun _ => 0)))) ((1000 + 16 * u.toNat + 10)) (q18, xAI (ca 0) 41 (gX 41 (fun _ => 0)))) ((1000 + 16 * u.toNat + 11)) (q19, xAI (ca 0) 450 (gX 450 (fun _ => 0)))) 0 (ad 0, xO 11 [fR (ad 1), fR (ad 4), fR (ad 12), fR (ad 14), fR (ad 18), fR (ad 20), fR (ad 26), fR (ad 27), fR (ad 28), fR (ad 29), fR (ad 30), fR (ad 31), fR (ad 32), fR (ad 33), fR (ad 34), fR (ad 35), fU (gRul G u q14 q15 q16 q17 q18 q19) (u + 1), fX (T 0 6), fG (-2147483648) 2147483647])) 5 (ad 5, xAQ (ca 6) 8 (gU 8 (gRul G u q14 q15 q16 q17 q18 q19) (u + 1)))) 27 (ad 27, xAQ (ca 6) 16 (gU 16 (gRul G u q14 q15 q16 q17 q18 q19) (u + 1)))) (1000 + 16 * u.toNat + 6) (q14, xO 5 [fR q15, fR q16, fR q17, fR q18, fR q19, fX 0, fX 0]))) _ _ := h
                have h := yH.weak (P' := xO 5 [fR q15, fR q16, fR q17, fR q18, fR q19, fG 0 40, fG 0 450]) h wu_eq (xO_le (fLe_cons (fun _ x => x) (fLe_cons (fun _ x => x) (fLe_cons (fun _ x => x) (fLe_cons (fun _ x => x) (fLe_cons (fun _ x => x) (fLe_cons (fX_G (by omega)) (fLe_cons (fX_G (by omega)) fLe_nil))))))))
                rw [wu_wu] at h
                have h : yH D Zk A s ((wu (wu (wu (wu (wu (wu (wu (wu (wu w ((1000 + 16 * u.toNat + 7)) (q15, xAI (ca 0) 40 (gX 40 (fun _ => 0)))) ((1000 + 16 * u.toNat + 8)) (q16, xAI (ca 0) 40 (gX 40 (fun _ => 0)))) ((1000 + 16 * u.toNat + 9)) (q17, xAI (ca 0) 40 (gX 40 (fun _ => 0)))) ((1000 + 16 * u.toNat + 10)) (q18, xAI (ca 0) 41 (gX 41 (fun _ => 0)))) ((1000 + 16 * u.toNat + 11)) (q19, xAI (ca 0) 450 (gX 450 (fun _ => 0)))) 0 (ad 0, xO 11 [fR (ad 1), fR (ad 4), fR (ad 12), fR (ad 14), fR (ad 18), fR (ad 20), fR (ad 26), fR (ad 27), fR (ad 28), fR (ad 29), fR (ad 30), fR (ad 31), fR (ad 32), fR (ad 33), fR (ad 34), fR (ad 35), fU (gRul G u q14 q15 q16 q17 q18 q19) (u + 1), fX (T 0 6), fG (-2147483648) 2147483647])) 5 (ad 5, xAQ (ca 6) 8 (gU 8 (gRul G u q14 q15 q16 q17 q18 q19) (u + 1)))) 27 (ad 27, xAQ (ca 6) 16 (gU 16 (gRul G u q14 q15 q16 q17 q18 q19) (u + 1)))) (1000 + 16 * u.toNat + 6) (q14, xO 5 [fR q15, fR q16, fR q17, fR q18, fR q19, fG 0 40, fG 0 450]))) _ _ := h
                rw [wu_comm (show ((1000 + 16 * u.toNat + 7) : Nat) ≠ (1000 + 16 * u.toNat + 8) by omega), wu_comm (show ((1000 + 16 * u.toNat + 7) : Nat) ≠ (1000 + 16 * u.toNat + 9) by omega), wu_comm (show ((1000 + 16 * u.toNat + 7) : Nat) ≠ (1000 + 16 * u.toNat + 10) by omega), wu_comm (show ((1000 + 16 * u.toNat + 7) : Nat) ≠ (1000 + 16 * u.toNat + 11) by omega), wu_comm (show ((1000 + 16 * u.toNat + 7) : Nat) ≠ 0 by omega), wu_comm (show ((1000 + 16 * u.toNat + 7) : Nat) ≠ 5 by omega), wu_comm (show ((1000 + 16 * u.toNat + 7) : Nat) ≠ 27 by omega), wu_comm (show ((1000 + 16 * u.toNat + 7) : Nat) ≠ 1000 + 16 * u.toNat + 6 by omega)] at h
                have h : yH D Zk A s ((wu (wu (wu (wu (wu (wu (wu (wu (wu w ((1000 + 16 * u.toNat + 8)) (q16, xAI (ca 0) 40 (gX 40 (fun _ => 0)))) ((1000 + 16 * u.toNat + 9)) (q17, xAI (ca 0) 40 (gX 40 (fun _ => 0)))) ((1000 + 16 * u.toNat + 10)) (q18, xAI (ca 0) 41 (gX 41 (fun _ => 0)))) ((1000 + 16 * u.toNat + 11)) (q19, xAI (ca 0) 450 (gX 450 (fun _ => 0)))) 0 (ad 0, xO 11 [fR (ad 1), fR (ad 4), fR (ad 12), fR (ad 14), fR (ad 18), fR (ad 20), fR (ad 26), fR (ad 27), fR (ad 28), fR (ad 29), fR (ad 30), fR (ad 31), fR (ad 32), fR (ad 33), fR (ad 34), fR (ad 35), fU (gRul G u q14 q15 q16 q17 q18 q19) (u + 1), fX (T 0 6), fG (-2147483648) 2147483647])) 5 (ad 5, xAQ (ca 6) 8 (gU 8 (gRul G u q14 q15 q16 q17 q18 q19) (u + 1)))) 27 (ad 27, xAQ (ca 6) 16 (gU 16 (gRul G u q14 q15 q16 q17 q18 q19) (u + 1)))) (1000 + 16 * u.toNat + 6) (q14, xO 5 [fR q15, fR q16, fR q17, fR q18, fR q19, fG 0 40, fG 0 450])) ((1000 + 16 * u.toNat + 7)) (q15, xAI (ca 0) 40 (gX 40 (fun _ => 0))))) _ _ := h
                have h := yH.weak (P' := xAI (ca 0) 40 gA) h wu_eq (xAI_any)
                rw [wu_wu] at h
                have h : yH D Zk A s ((wu (wu (wu (wu (wu (wu (wu (wu (wu w ((1000 + 16 * u.toNat + 8)) (q16, xAI (ca 0) 40 (gX 40 (fun _ => 0)))) ((1000 + 16 * u.toNat + 9)) (q17, xAI (ca 0) 40 (gX 40 (fun _ => 0)))) ((1000 + 16 * u.toNat + 10)) (q18, xAI (ca 0) 41 (gX 41 (fun _ => 0)))) ((1000 + 16 * u.toNat + 11)) (q19, xAI (ca 0) 450 (gX 450 (fun _ => 0)))) 0 (ad 0, xO 11 [fR (ad 1), fR (ad 4), fR (ad 12), fR (ad 14), fR (ad 18), fR (ad 20), fR (ad 26), fR (ad 27), fR (ad 28), fR (ad 29), fR (ad 30), fR (ad 31), fR (ad 32), fR (ad 33), fR (ad 34), fR (ad 35), fU (gRul G u q14 q15 q16 q17 q18 q19) (u + 1), fX (T 0 6), fG (-2147483648) 2147483647])) 5 (ad 5, xAQ (ca 6) 8 (gU 8 (gRul G u q14 q15 q16 q17 q18 q19) (u + 1)))) 27 (ad 27, xAQ (ca 6) 16 (gU 16 (gRul G u q14 q15 q16 q17 q18 q19) (u + 1)))) (1000 + 16 * u.toNat + 6) (q14, xO 5 [fR q15, fR q16, fR q17, fR q18, fR q19, fG 0 40, fG 0 450])) ((1000 + 16 * u.toNat + 7)) (q15, xAI (ca 0) 40 gA))) _ _ := h
                rw [wu_comm (show ((1000 + 16 * u.toNat + 8) : Nat) ≠ (1000 + 16 * u.toNat + 9) by omega), wu_comm (show ((1000 + 16 * u.toNat + 8) : Nat) ≠ (1000 + 16 * u.toNat + 10) by omega), wu_comm (show ((1000 + 16 * u.toNat + 8) : Nat) ≠ (1000 + 16 * u.toNat + 11) by omega), wu_comm (show ((1000 + 16 * u.toNat + 8) : Nat) ≠ 0 by omega), wu_comm (show ((1000 + 16 * u.toNat + 8) : Nat) ≠ 5 by omega), wu_comm (show ((1000 + 16 * u.toNat + 8) : Nat) ≠ 27 by omega), wu_comm (show ((1000 + 16 * u.toNat + 8) : Nat) ≠ 1000 + 16 * u.toNat + 6 by omega), wu_comm (show ((1000 + 16 * u.toNat + 8) : Nat) ≠ (1000 + 16 * u.toNat + 7) by omega)] at h
                have h : yH D Zk A s ((wu (wu (wu (wu (wu (wu (wu (wu (wu w ((1000 + 16 * u.toNat + 9)) (q17, xAI (ca 0) 40 (gX 40 (fun _ => 0)))) ((1000 + 16 * u.toNat + 10)) (q18, xAI (ca 0) 41 (gX 41 (fun _ => 0)))) ((1000 + 16 * u.toNat + 11)) (q19, xAI (ca 0) 450 (gX 450 (fun _ => 0)))) 0 (ad 0, xO 11 [fR (ad 1), fR (ad 4), fR (ad 12), fR (ad 14), fR (ad 18), fR (ad 20), fR (ad 26), fR (ad 27), fR (ad 28), fR (ad 29), fR (ad 30), fR (ad 31), fR (ad 32), fR (ad 33), fR (ad 34), fR (ad 35), fU (gRul G u q14 q15 q16 q17 q18 q19) (u + 1), fX (T 0 6), fG (-2147483648) 2147483647])) 5 (ad 5, xAQ (ca 6) 8 (gU 8 (gRul G u q14 q15 q16 q17 q18 q19) (u + 1)))) 27 (ad 27, xAQ (ca 6) 16 (gU 16 (gRul G u q14 q15 q16 q17 q18 q19) (u + 1)))) (1000 + 16 * u.toNat + 6) (q14, xO 5 [fR q15, fR q16, fR q17, fR q18, fR q19, fG 0 40, fG 0 450])) ((1000 + 16 * u.toNat + 7)) (q15, xAI (ca 0) 40 gA)) ((1000 + 16 * u.toNat + 8)) (q16, xAI (ca 0) 40 (gX 40 (fun _ => 0))))) _ _ := h
                have h := yH.weak (P' := xAI (ca 0) 40 (gG 40 0 12)) h wu_eq (xAI_XG (fun _ _ => by omega))
                rw [wu_wu] at h
                have h : yH D Zk A s ((wu (wu (wu (wu (wu (wu (wu (wu (wu w ((1000 + 16 * u.toNat + 9)) (q17, xAI (ca 0) 40 (gX 40 (fun _ => 0)))) ((1000 + 16 * u.toNat + 10)) (q18, xAI (ca 0) 41 (gX 41 (fun _ => 0)))) ((1000 + 16 * u.toNat + 11)) (q19, xAI (ca 0) 450 (gX 450 (fun _ => 0)))) 0 (ad 0, xO 11 [fR (ad 1), fR (ad 4), fR (ad 12), fR (ad 14), fR (ad 18), fR (ad 20), fR (ad 26), fR (ad 27), fR (ad 28), fR (ad 29), fR (ad 30), fR (ad 31), fR (ad 32), fR (ad 33), fR (ad 34), fR (ad 35), fU (gRul G u q14 q15 q16 q17 q18 q19) (u + 1), fX (T 0 6), fG (-2147483648) 2147483647])) 5 (ad 5, xAQ (ca 6) 8 (gU 8 (gRul G u q14 q15 q16 q17 q18 q19) (u + 1)))) 27 (ad 27, xAQ (ca 6) 16 (gU 16 (gRul G u q14 q15 q16 q17 q18 q19) (u + 1)))) (1000 + 16 * u.toNat + 6) (q14, xO 5 [fR q15, fR q16, fR q17, fR q18, fR q19, fG 0 40, fG 0 450])) ((1000 + 16 * u.toNat + 7)) (q15, xAI (ca 0) 40 gA)) ((1000 + 16 * u.toNat + 8)) (q16, xAI (ca 0) 40 (gG 40 0 12)))) _ _ := h
                rw [wu_comm (show ((1000 + 16 * u.toNat + 9) : Nat) ≠ (1000 + 16 * u.toNat + 10) by omega), wu_comm (show ((1000 + 16 * u.toNat + 9) : Nat) ≠ (1000 + 16 * u.toNat + 11) by omega), wu_comm (show ((1000 + 16 * u.toNat + 9) : Nat) ≠ 0 by omega), wu_comm (show ((1000 + 16 * u.toNat + 9) : Nat) ≠ 5 by omega), wu_comm (show ((1000 + 16 * u.toNat + 9) : Nat) ≠ 27 by omega), wu_comm (show ((1000 + 16 * u.toNat + 9) : Nat) ≠ 1000 + 16 * u.toNat + 6 by omega), wu_comm (show ((1000 + 16 * u.toNat + 9) : Nat) ≠ (1000 + 16 * u.toNat + 7) by omega), wu_comm (show ((1000 + 16 * u.toNat + 9) : Nat) ≠ (1000 + 16 * u.toNat + 8) by omega)] at h
                have h : yH D Zk A s ((wu (wu (wu (wu (wu (wu (wu (wu (wu w ((1000 + 16 * u.toNat + 10)) (q18, xAI (ca 0) 41 (gX 41 (fun _ => 0)))) ((1000 + 16 * u.toNat + 11)) (q19, xAI (ca 0) 450 (gX 450 (fun _ => 0)))) 0 (ad 0, xO 11 [fR (ad 1), fR (ad 4), fR (ad 12), fR (ad 14), fR (ad 18), fR (ad 20), fR (ad 26), fR (ad 27), fR (ad 28), fR (ad 29), fR (ad 30), fR (ad 31), fR (ad 32), fR (ad 33), fR (ad 34), fR (ad 35), fU (gRul G u q14 q15 q16 q17 q18 q19) (u + 1), fX (T 0 6), fG (-2147483648) 2147483647])) 5 (ad 5, xAQ (ca 6) 8 (gU 8 (gRul G u q14 q15 q16 q17 q18 q19) (u + 1)))) 27 (ad 27, xAQ (ca 6) 16 (gU 16 (gRul G u q14 q15 q16 q17 q18 q19) (u + 1)))) (1000 + 16 * u.toNat + 6) (q14, xO 5 [fR q15, fR q16, fR q17, fR q18, fR q19, fG 0 40, fG 0 450])) ((1000 + 16 * u.toNat + 7)) (q15, xAI (ca 0) 40 gA)) ((1000 + 16 * u.toNat + 8)) (q16, xAI (ca 0) 40 (gG 40 0 12))) ((1000 + 16 * u.toNat + 9)) (q17, xAI (ca 0) 40 (gX 40 (fun _ => 0))))) _ _ := h
                have h := yH.weak (P' := xAI (ca 0) 40 (gG 40 0 99)) h wu_eq (xAI_XG (fun _ _ => by omega))
                rw [wu_wu] at h
                have h : yH D Zk A s ((wu (wu (wu (wu (wu (wu (wu (wu (wu w ((1000 + 16 * u.toNat + 10)) (q18, xAI (ca 0) 41 (gX 41 (fun _ => 0)))) ((1000 + 16 * u.toNat + 11)) (q19, xAI (ca 0) 450 (gX 450 (fun _ => 0)))) 0 (ad 0, xO 11 [fR (ad 1), fR (ad 4), fR (ad 12), fR (ad 14), fR (ad 18), fR (ad 20), fR (ad 26), fR (ad 27), fR (ad 28), fR (ad 29), fR (ad 30), fR (ad 31), fR (ad 32), fR (ad 33), fR (ad 34), fR (ad 35), fU (gRul G u q14 q15 q16 q17 q18 q19) (u + 1), fX (T 0 6), fG (-2147483648) 2147483647])) 5 (ad 5, xAQ (ca 6) 8 (gU 8 (gRul G u q14 q15 q16 q17 q18 q19) (u + 1)))) 27 (ad 27, xAQ (ca 6) 16 (gU 16 (gRul G u q14 q15 q16 q17 q18 q19) (u + 1)))) (1000 + 16 * u.toNat + 6) (q14, xO 5 [fR q15, fR q16, fR q17, fR q18, fR q19, fG 0 40, fG 0 450])) ((1000 + 16 * u.toNat + 7)) (q15, xAI (ca 0) 40 gA)) ((1000 + 16 * u.toNat + 8)) (q16, xAI (ca 0) 40 (gG 40 0 12))) ((1000 + 16 * u.toNat + 9)) (q17, xAI (ca 0) 40 (gG 40 0 99)))) _ _ := h
                rw [wu_comm (show ((1000 + 16 * u.toNat + 10) : Nat) ≠ (1000 + 16 * u.toNat + 11) by omega), wu_comm (show ((1000 + 16 * u.toNat + 10) : Nat) ≠ 0 by omega), wu_comm (show ((1000 + 16 * u.toNat + 10) : Nat) ≠ 5 by omega), wu_comm (show ((1000 + 16 * u.toNat + 10) : Nat) ≠ 27 by omega), wu_comm (show ((1000 + 16 * u.toNat + 10) : Nat) ≠ 1000 + 16 * u.toNat + 6 by omega), wu_comm (show ((1000 + 16 * u.toNat + 10) : Nat) ≠ (1000 + 16 * u.toNat + 7) by omega), wu_comm (show ((1000 + 16 * u.toNat + 10) : Nat) ≠ (1000 + 16 * u.toNat + 8) by omega), wu_comm (show ((1000 + 16 * u.toNat + 10) : Nat) ≠ (1000 + 16 * u.toNat + 9) by omega)] at h
                have h : yH D Zk A s ((wu (wu (wu (wu (wu (wu (wu (wu (wu w ((1000 + 16 * u.toNat + 11)) (q19, xAI (ca 0) 450 (gX 450 (fun _ => 0)))) 0 (ad 0, xO 11 [fR (ad 1), fR (ad 4), fR (ad 12), fR (ad 14), fR (ad 18), fR (ad 20), fR (ad 26), fR (ad 27), fR (ad 28), fR (ad 29), fR (ad 30), fR (ad 31), fR (ad 32), fR (ad 33), fR (ad 34), fR (ad 35), fU (gRul G u q14 q15 q16 q17 q18 q19) (u + 1), fX (T 0 6), fG (-2147483648) 2147483647])) 5 (ad 5, xAQ (ca 6) 8 (gU 8 (gRul G u q14 q15 q16 q17 q18 q19) (u + 1)))) 27 (ad 27, xAQ (ca 6) 16 (gU 16 (gRul G u q14 q15 q16 q17 q18 q19) (u + 1)))) (1000 + 16 * u.toNat + 6) (q14, xO 5 [fR q15, fR q16, fR q17, fR q18, fR q19, fG 0 40, fG 0 450])) ((1000 + 16 * u.toNat + 7)) (q15, xAI (ca 0) 40 gA)) ((1000 + 16 * u.toNat + 8)) (q16, xAI (ca 0) 40 (gG 40 0 12))) ((1000 + 16 * u.toNat + 9)) (q17, xAI (ca 0) 40 (gG 40 0 99))) ((1000 + 16 * u.toNat + 10)) (q18, xAI (ca 0) 41 (gX 41 (fun _ => 0))))) _ _ := h
                have h := yH.weak (P' := xAI (ca 0) 41 (gG 41 0 450)) h wu_eq (xAI_XG (fun _ _ => by omega))
                rw [wu_wu] at h
                have h : yH D Zk A s ((wu (wu (wu (wu (wu (wu (wu (wu (wu w ((1000 + 16 * u.toNat + 11)) (q19, xAI (ca 0) 450 (gX 450 (fun _ => 0)))) 0 (ad 0, xO 11 [fR (ad 1), fR (ad 4), fR (ad 12), fR (ad 14), fR (ad 18), fR (ad 20), fR (ad 26), fR (ad 27), fR (ad 28), fR (ad 29), fR (ad 30), fR (ad 31), fR (ad 32), fR (ad 33), fR (ad 34), fR (ad 35), fU (gRul G u q14 q15 q16 q17 q18 q19) (u + 1), fX (T 0 6), fG (-2147483648) 2147483647])) 5 (ad 5, xAQ (ca 6) 8 (gU 8 (gRul G u q14 q15 q16 q17 q18 q19) (u + 1)))) 27 (ad 27, xAQ (ca 6) 16 (gU 16 (gRul G u q14 q15 q16 q17 q18 q19) (u + 1)))) (1000 + 16 * u.toNat + 6) (q14, xO 5 [fR q15, fR q16, fR q17, fR q18, fR q19, fG 0 40, fG 0 450])) ((1000 + 16 * u.toNat + 7)) (q15, xAI (ca 0) 40 gA)) ((1000 + 16 * u.toNat + 8)) (q16, xAI (ca 0) 40 (gG 40 0 12))) ((1000 + 16 * u.toNat + 9)) (q17, xAI (ca 0) 40 (gG 40 0 99))) ((1000 + 16 * u.toNat + 10)) (q18, xAI (ca 0) 41 (gG 41 0 450)))) _ _ := h
                rw [wu_comm (show ((1000 + 16 * u.toNat + 11) : Nat) ≠ 0 by omega), wu_comm (show ((1000 + 16 * u.toNat + 11) : Nat) ≠ 5 by omega), wu_comm (show ((1000 + 16 * u.toNat + 11) : Nat) ≠ 27 by omega), wu_comm (show ((1000 + 16 * u.toNat + 11) : Nat) ≠ 1000 + 16 * u.toNat + 6 by omega), wu_comm (show ((1000 + 16 * u.toNat + 11) : Nat) ≠ (1000 + 16 * u.toNat + 7) by omega), wu_comm (show ((1000 + 16 * u.toNat + 11) : Nat) ≠ (1000 + 16 * u.toNat + 8) by omega), wu_comm (show ((1000 + 16 * u.toNat + 11) : Nat) ≠ (1000 + 16 * u.toNat + 9) by omega), wu_comm (show ((1000 + 16 * u.toNat + 11) : Nat) ≠ (1000 + 16 * u.toNat + 10) by omega)] at h
                have h : yH D Zk A s ((wu (wu (wu (wu (wu (wu (wu (wu (wu w 0 (ad 0, xO 11 [fR (ad 1), fR (ad 4), fR (ad 12), fR (ad 14), fR (ad 18), fR (ad 20), fR (ad 26), fR (ad 27), fR (ad 28), fR (ad 29), fR (ad 30), fR (ad 31), fR (ad 32), fR (ad 33), fR (ad 34), fR (ad 35), fU (gRul G u q14 q15 q16 q17 q18 q19) (u + 1), fX (T 0 6), fG (-2147483648) 2147483647])) 5 (ad 5, xAQ (ca 6) 8 (gU 8 (gRul G u q14 q15 q16 q17 q18 q19) (u + 1)))) 27 (ad 27, xAQ (ca 6) 16 (gU 16 (gRul G u q14 q15 q16 q17 q18 q19) (u + 1)))) (1000 + 16 * u.toNat + 6) (q14, xO 5 [fR q15, fR q16, fR q17, fR q18, fR q19, fG 0 40, fG 0 450])) ((1000 + 16 * u.toNat + 7)) (q15, xAI (ca 0) 40 gA)) ((1000 + 16 * u.toNat + 8)) (q16, xAI (ca 0) 40 (gG 40 0 12))) ((1000 + 16 * u.toNat + 9)) (q17, xAI (ca 0) 40 (gG 40 0 99))) ((1000 + 16 * u.toNat + 10)) (q18, xAI (ca 0) 41 (gG 41 0 450))) ((1000 + 16 * u.toNat + 11)) (q19, xAI (ca 0) 450 (gX 450 (fun _ => 0))))) _ _ := h
                have h := yH.weak (P' := xAI (ca 0) 450 gA) h wu_eq (xAI_any)
                rw [wu_wu] at h
                have h : yH D Zk A s ((wu (wu (wu (wu (wu (wu (wu (wu (wu w 0 (ad 0, xO 11 [fR (ad 1), fR (ad 4), fR (ad 12), fR (ad 14), fR (ad 18), fR (ad 20), fR (ad 26), fR (ad 27), fR (ad 28), fR (ad 29), fR (ad 30), fR (ad 31), fR (ad 32), fR (ad 33), fR (ad 34), fR (ad 35), fU (gRul G u q14 q15 q16 q17 q18 q19) (u + 1), fX (T 0 6), fG (-2147483648) 2147483647])) 5 (ad 5, xAQ (ca 6) 8 (gU 8 (gRul G u q14 q15 q16 q17 q18 q19) (u + 1)))) 27 (ad 27, xAQ (ca 6) 16 (gU 16 (gRul G u q14 q15 q16 q17 q18 q19) (u + 1)))) (1000 + 16 * u.toNat + 6) (q14, xO 5 [fR q15, fR q16, fR q17, fR q18, fR q19, fG 0 40, fG 0 450])) ((1000 + 16 * u.toNat + 7)) (q15, xAI (ca 0) 40 gA)) ((1000 + 16 * u.toNat + 8)) (q16, xAI (ca 0) 40 (gG 40 0 12))) ((1000 + 16 * u.toNat + 9)) (q17, xAI (ca 0) 40 (gG 40 0 99))) ((1000 + 16 * u.toNat + 10)) (q18, xAI (ca 0) 41 (gG 41 0 450))) ((1000 + 16 * u.toNat + 11)) (q19, xAI (ca 0) 450 gA))) _ _ := h
                refine y_ri B hQ h (by decide) dX11_scale_92 ?_
                exact ⟨_, rfl, _, _, by omega, cw_rule hC hu0 (fun k k0 k1 k2 k3 k4 k5 k6 k7 k8 => by rw [wu_ne (by omega), wu_ne (by omega), wu_ne (by omega), wu_ne (by omega), wu_ne (by omega), wu_ne (by omega), wu_ne (by omega), wu_ne (by omega), wu_ne (by omega)]) (wu_at (wu_at (wu_at (wu_at (wu_at (wu_at (wu_at (wu_at wu_eq (by decide)) (by decide)) (by omega)) (by omega)) (by omega)) (by omega)) (by omega)) (by omega)) (wu_at (wu_at (wu_at (wu_at (wu_at (wu_at (wu_at wu_eq (by decide)) (by omega)) (by omega)) (by omega)) (by omega)) (by omega)) (by omega)) (wu_at (wu_at (wu_at (wu_at (wu_at (wu_at wu_eq (by omega)) (by omega)) (by omega)) (by omega)) (by omega)) (by omega)) (wu_at (wu_at (wu_at (wu_at (wu_at wu_eq (by omega)) (by omega)) (by omega)) (by omega)) (by omega)) (wu_at (wu_at (wu_at (wu_at wu_eq (by omega)) (by omega)) (by omega)) (by omega)) (wu_at (wu_at (wu_at wu_eq (by omega)) (by omega)) (by omega)) (wu_at (wu_at wu_eq (by omega)) (by omega)) (wu_at wu_eq (by omega)) wu_eq, fun k h1 h2 => by rw [wu_ne (by omega), wu_ne (by omega), wu_ne (by omega), wu_ne (by omega), wu_ne (by omega), wu_ne (by omega), wu_ne (by omega), wu_ne (by omega), wu_ne (by omega)]⟩
              · exact absurd c9 (by omega)
            · show W p l e r_c_X11_scale s m args below meth c _ _ 0 0 Qf (F0 m 57 ls [.int (iI 0)])
              refine x_if_ne B (by omega) (tgt := 67) dX11_scale_57 (by decide) (fun c20 => ?_) (fun c20 => ?_)
              · exact absurd c20 (by omega)
              · refine lv_aload_n B.1 B.2.1 dX11_scale_60 rfl (lv_at hl 0 rfl) ?_
                refine x_iconst B dX11_scale_61 ?_
                refine x_iconst B dX11_scale_62 ?_
                refine y_cV B h kX11 0 (CW.f hC 0 _ rfl) k_X11_refuse rfl (c_X11_refuse l D Zk ca T G u ad _ hC 2 ((-1))  (by omega) (by omega)) m_423 rfl (by decide) hl.1 [] (Nat.le_of_ble_eq_true rfl) rfl dX11_scale_63 (fun r w1 hq H locs h => ?_)
                obtain ⟨rfl, z21, rfl, hz21⟩ := hq
                show W p l e r_c_X11_scale s m args below meth c _ _ 0 0 Qf (F0 m 66 ls [.int (iI z21)])
                refine y_ri B hQ h (by decide) dX11_scale_66 ?_
                exact ⟨_, rfl, G, u, by omega, hC, fun k h1 h2 => rfl⟩
          · refine lv_aload_n B.1 B.2.1 dX11_scale_43 rfl (lv_at hl 0 rfl) ?_
            refine x_iconst B dX11_scale_44 ?_
            refine x_bipush B (by decide) dX11_scale_45 ?_
            refine y_cV B h kX11 0 (CW.f hC 0 _ rfl) k_X11_refuse rfl (c_X11_refuse l D Zk ca T G u ad _ hC 1 ((-3))  (by omega) (by omega)) m_423 rfl (by decide) hl.1 [] (Nat.le_of_ble_eq_true rfl) rfl dX11_scale_47 (fun r w1 hq H locs h => ?_)
            obtain ⟨rfl, z22, rfl, hz22⟩ := hq
            show W p l e r_c_X11_scale s m args below meth c _ _ 0 0 Qf (F0 m 50 ls [.int (iI z22)])
            refine y_ri B hQ h (by decide) dX11_scale_50 ?_
            exact ⟨_, rfl, G, u, by omega, hC, fun k h1 h2 => rfl⟩
        · exact absurd c5 (by omega)
      · show W p l e r_c_X11_scale s m args below meth c _ _ 0 0 Qf (F0 m 20 ls [.int (iI 0)])
        refine x_if_ne B (by omega) (tgt := 31) dX11_scale_20 (by decide) (fun c23 => ?_) (fun c23 => ?_)
        · exact absurd c23 (by omega)
        · refine lv_aload_n B.1 B.2.1 dX11_scale_23 rfl (lv_at hl 0 rfl) ?_
          refine x_iconst B dX11_scale_24 ?_
          refine x_bipush B (by decide) dX11_scale_25 ?_
          refine y_cV B h kX11 0 (CW.f hC 0 _ rfl) k_X11_refuse rfl (c_X11_refuse l D Zk ca T G u ad _ hC 0 ((-2))  (by omega) (by omega)) m_423 rfl (by decide) hl.1 [] (Nat.le_of_ble_eq_true rfl) rfl dX11_scale_27 (fun r w1 hq H locs h => ?_)
          obtain ⟨rfl, z24, rfl, hz24⟩ := hq
          show W p l e r_c_X11_scale s m args below meth c _ _ 0 0 Qf (F0 m 30 ls [.int (iI z24)])
          refine y_ri B hQ h (by decide) dX11_scale_30 ?_
          exact ⟨_, rfl, G, u, by omega, hC, fun k h1 h2 => rfl⟩
  · show W p l e r_c_X11_scale s m args below meth c _ _ 0 0 Qf (F0 m 11 ls [.int (iI 0)])
    refine x_if_eq B (by omega) (tgt := 23) dX11_scale_11 (by decide) (fun c25 => ?_) (fun c25 => ?_)
    · refine lv_aload_n B.1 B.2.1 dX11_scale_23 rfl (lv_at hl 0 rfl) ?_
      refine x_iconst B dX11_scale_24 ?_
      refine x_bipush B (by decide) dX11_scale_25 ?_
      refine y_cV B h kX11 0 (CW.f hC 0 _ rfl) k_X11_refuse rfl (c_X11_refuse l D Zk ca T G u ad _ hC 0 ((-2))  (by omega) (by omega)) m_423 rfl (by decide) hl.1 [] (Nat.le_of_ble_eq_true rfl) rfl dX11_scale_27 (fun r w1 hq H locs h => ?_)
      obtain ⟨rfl, z26, rfl, hz26⟩ := hq
      show W p l e r_c_X11_scale s m args below meth c _ _ 0 0 Qf (F0 m 30 ls [.int (iI z26)])
      refine y_ri B hQ h (by decide) dX11_scale_30 ?_
      exact ⟨_, rfl, G, u, by omega, hC, fun k h1 h2 => rfl⟩
    · exact absurd c25 (by omega)
abbrev r_c_X11_habits : Room := { frames := 36, cells := 6, slots := 618, locals := 873 }
set_option maxHeartbeats 4000000 in
set_option maxRecDepth 100000 in
theorem c_X11_habits (l : Launch) (D : va_G) (Zk : yK) (ca : Nat → ClassId) (T : Nat → Int → Int) (G : Nat → Int → Nat) (u : Int) (ad : Nat → Nat) (w : yW) (hC : CW ca T G u ad w) (o : Int) (n : Int)  (hu0 : 0 ≤ u) (ho : xr o) (hn : xr n) : yC l D Zk ca yX11_habits cX11_habits 5 (some .int) r_c_X11_habits [.ref (ad 0), .int (iI o), .int (iI n)] w (fun r w1 => ∃ z : Int, r = some (.int (iI z)) ∧ ∃ (G2 : Nat → Int → Nat) (u2 : Int), (u ≤ u2 ∧ u2 ≤ u + 1) ∧ CW ca T G2 u2 ad w1 ∧ AGX w w1) := by
  refine yC.of2 "WindWords" (by decide) rfl (Nat.le_of_ble_eq_true rfl) ?_
  intro p e s m args below meth c A ls Qf B hnm h hl hQ
  have hl : lv_has ls 5 [(0, .ref (ad 0)), (1, .int (iI o)), (2, .int (iI n))] := hl
  have hs := pi_s (CW.pi hC)
  refine lv_aload_n B.1 B.2.1 dX11_habits_0 rfl (lv_at hl 0 rfl) ?_
  refine y_getR B h kX11 0 (CW.f hC 0 _ rfl) 0 (b := ad 1) rfl m_361 (by decide) dX11_habits_1 ?_
  refine lv_iload_n B.1 B.2.1 dX11_habits_4 rfl (lv_at hl 1 rfl) ?_
  refine y_cV B h kX0 1 (CW.f hC 1 _ rfl) k_X0_hasOfficer rfl (c_X0_hasOfficer l D Zk ca T G u ad _ hC o  (by omega)) m_434 rfl (by decide) hl.1 [] (Nat.le_of_ble_eq_true rfl) rfl dX11_habits_5 (fun r w1 hq H locs h => ?_)
  obtain ⟨rfl, _, rfl, ⟨rfl, b1⟩ | ⟨rfl, b1⟩⟩ := hq
  · show W p l e r_c_X11_habits s m args below meth c _ _ 0 0 Qf (F0 m 8 ls [.int (iI 1)])
    refine x_if_eq B (by omega) (tgt := 25) dX11_habits_8 (by decide) (fun c2 => ?_) (fun c2 => ?_)
    · exact absurd c2 (by omega)
    · refine lv_iload_n B.1 B.2.1 dX11_habits_11 rfl (lv_at hl 2 rfl) ?_
      refine lv_aload_n B.1 B.2.1 dX11_habits_12 rfl (lv_at hl 0 rfl) ?_
      refine y_getR B h kX11 0 (CW.f hC 0 _ rfl) 5 (b := ad 20) rfl m_366 (by decide) dX11_habits_13 ?_
      refine y_getG B h kX9 20 (CW.f hC 20 _ rfl) 0 (lo := 0) (hi := 900) rfl m_289 (by decide) dX11_habits_16 (fun z3 z3a z3b => ?_)
      refine y_cS B h k_X11_within (c_X11_within l D Zk ca _ n z3  (by omega) (by omega)) m_431 rfl (by decide) hl.1 [] (Nat.le_of_ble_eq_true rfl) rfl dX11_habits_19 (fun r w1 hq H locs h => ?_)
      obtain ⟨rfl, _, rfl, ⟨rfl, b4⟩ | ⟨rfl, b4⟩⟩ := hq
      · show W p l e r_c_X11_habits s m args below meth c _ _ 0 0 Qf (F0 m 22 ls [.int (iI 1)])
        refine x_if_ne B (by omega) (tgt := 33) dX11_habits_22 (by decide) (fun c5 => ?_) (fun c5 => ?_)
        · refine lv_aload_n B.1 B.2.1 dX11_habits_33 rfl (lv_at hl 0 rfl) ?_
          refine lv_iload_n B.1 B.2.1 dX11_habits_34 rfl (lv_at hl 2 rfl) ?_
          refine x_iconst B dX11_habits_35 ?_
          refine y_cV B h kX11 0 (CW.f hC 0 _ rfl) k_X11_understood rfl (c_X11_understood l D Zk ca T G u ad _ hC n 0  (by omega) (by omega)) m_577 rfl (by decide) hl.1 [] (Nat.le_of_ble_eq_true rfl) rfl dX11_habits_36 (fun r w1 hq H locs h => ?_)
          obtain ⟨rfl, _, rfl, ⟨rfl, b6⟩ | ⟨rfl, b6⟩⟩ := hq
          · show W p l e r_c_X11_habits s m args below meth c _ _ 0 0 Qf (F0 m 39 ls [.int (iI 1)])
            refine x_if_ne B (by omega) (tgt := 49) dX11_habits_39 (by decide) (fun c7 => ?_) (fun c7 => ?_)
            · refine lv_aload_n B.1 B.2.1 dX11_habits_49 rfl (lv_at hl 0 rfl) ?_
              refine y_getR B h kX11 0 (CW.f hC 0 _ rfl) 7 (b := ad 27) rfl m_368 (by decide) dX11_habits_50 ?_
              refine lv_iload_n B.1 B.2.1 dX11_habits_53 rfl (lv_at hl 1 rfl) ?_
              refine y_qald B h 27 6 rfl (CW.f hC 27 _ rfl) (by omega) dX11_habits_54 (fun f9 hf8 => ?_)
              rcases hf8 (o) (by omega) with e10 | ⟨j11, hj11, e10⟩
              · rw [e10]
                show W p l e r_c_X11_habits s m args below meth c _ _ 0 0 Qf (F0 m 55 ls [.null])
                refine lv_astore_nN (lv' := [(3, .null), (0, .ref (ad 0)), (1, .int (iI o)), (2, .int (iI n))]) B.1 B.2.1 dX11_habits_55 rfl hl (by decide) rfl (fun ls hl => ?_)
                refine lv_aload_n B.1 B.2.1 dX11_habits_56 rfl (lv_at hl 1 rfl) ?_
                refine y_getR B h kX11 0 (CW.f hC 0 _ rfl) 7 (b := ad 27) rfl m_368 (by decide) dX11_habits_57 ?_
                refine lv_iload_n B.1 B.2.1 dX11_habits_60 rfl (lv_at hl 2 rfl) ?_
                refine lv_aload_n B.1 B.2.1 dX11_habits_61 rfl (lv_at hl 1 rfl) ?_
                refine y_get B h kX11 0 (CW.f hC 0 _ rfl) 16 (P := fU G u) rfl m_377 (by decide) dX11_habits_62 (fun v13 hv13 => ?_)
                obtain ⟨j14, hj14, rfl⟩ := hv13
                have fo15 := CW.ru hC j14 (by omega)
                refine y_qastS B h 27 6 kX5 rfl (CW.f hC 27 _ rfl) (by omega) fo15.1 (gU_up (by omega)) dX11_habits_65 (fun H locs h => ?_)
                refine lv_aload_n B.1 B.2.1 dX11_habits_66 rfl (lv_at hl 1 rfl) ?_
                refine y_get B h kX11 0 (CW.f hC 0 _ rfl) 16 (P := fU G u) rfl m_377 (by decide) dX11_habits_67 (fun v16 hv16 => ?_)
                obtain ⟨j17, hj17, rfl⟩ := hv16
                have fo18 := CW.ru hC j17 (by omega)
                refine y_getG B h kX5 (1000 + 16 * j17.toNat + 6) fo18.1 5 (lo := 0) (hi := 40) rfl m_344 (by decide) dX11_habits_70 (fun z19 z19a z19b => ?_)
                refine lv_istore (lv' := [(4, .int (iI z19)), (3, .null), (0, .ref (ad 0)), (1, .int (iI o)), (2, .int (iI n))]) B.1 B.2.1 dX11_habits_73 hl (by decide) rfl (fun ls hl => ?_)
                refine lv_aload_n B.1 B.2.1 dX11_habits_75 rfl (lv_at hl 2 rfl) ?_
                refine lv_aload_nN B.1 B.2.1 dX11_habits_76 rfl (lv_at hl 1 rfl) ?_
                refine lv_ifnonnullN B.1 B.2.1 dX11_habits_77 ?_
                refine y_new (1000 + 16 * u.toNat + 6) B h kX5 m_330 m_333 m_103 [fN, fN, fN, fN, fN, fX 0, fX 0] rfl ⟨rfl, rfl, rfl, rfl, rfl, rfl, rfl, trivial⟩ (by decide) dX11_habits_80 (fun q20 H h => ?_)
                have h : yH D Zk A s ((wu w (1000 + 16 * u.toNat + 6) (q20, xO 5 [fN, fN, fN, fN, fN, fX 0, fX 0]))) _ _ := h
                refine lv_dup B.1 B.2.1 dX11_habits_83 rfl ?_
                refine y_cIN (host := "WindWords") B h k_X5_init (c_X5_init l D Zk ca _ q20 (1000 + 16 * u.toNat + 6) (1000 + 16 * u.toNat + 7) (1000 + 16 * u.toNat + 8) (1000 + 16 * u.toNat + 9) (1000 + 16 * u.toNat + 10) (1000 + 16 * u.toNat + 11) wu_eq (by omega)) (by decide) rfl (by decide) hl.1 [.ref q20, .ref (ad 0)] (Nat.le_of_ble_eq_true rfl) rfl dX11_habits_84 (fun r w1 hq H locs h => ?_)
                obtain ⟨rfl, q21, q22, q23, q24, q25, rfl⟩ := hq
                rw [wu_comm (show (1000 + 16 * u.toNat + 6 : Nat) ≠ (1000 + 16 * u.toNat + 7) by omega), wu_comm (show (1000 + 16 * u.toNat + 6 : Nat) ≠ (1000 + 16 * u.toNat + 8) by omega), wu_comm (show (1000 + 16 * u.toNat + 6 : Nat) ≠ (1000 + 16 * u.toNat + 9) by omega), wu_comm (show (1000 + 16 * u.toNat + 6 : Nat) ≠ (1000 + 16 * u.toNat + 10) by omega), wu_comm (show (1000 + 16 * u.toNat + 6 : Nat) ≠ (1000 + 16 * u.toNat + 11) by omega), wu_wu] at h
                have h : yH D Zk A s ((wu (wu (wu (wu (wu (wu w ((1000 + 16 * u.toNat + 7)) (q21, xAI (ca 0) 40 (gX 40 (fun _ => 0)))) ((1000 + 16 * u.toNat + 8)) (q22, xAI (ca 0) 40 (gX 40 (fun _ => 0)))) ((1000 + 16 * u.toNat + 9)) (q23, xAI (ca 0) 40 (gX 40 (fun _ => 0)))) ((1000 + 16 * u.toNat + 10)) (q24, xAI (ca 0) 41 (gX 41 (fun _ => 0)))) ((1000 + 16 * u.toNat + 11)) (q25, xAI (ca 0) 450 (gX 450 (fun _ => 0)))) (1000 + 16 * u.toNat + 6) (q20, xO 5 [fR q21, fR q22, fR q23, fR q24, fR q25, fX 0, fX 0]))) _ _ := h
                show W p l e r_c_X11_habits s m args below meth c _ _ 6 618 Qf (F0 m 87 ls [.ref q20, .ref (ad 0)])
                refine lv_goto (tgt := 91) B.1 B.2.1 dX11_habits_87 (by decide) ?_
                have h := yH.weak (P' := xO 11 [fR (ad 1), fR (ad 4), fR (ad 12), fR (ad 14), fR (ad 18), fR (ad 20), fR (ad 26), fR (ad 27), fR (ad 28), fR (ad 29), fR (ad 30), fR (ad 31), fR (ad 32), fR (ad 33), fR (ad 34), fR (ad 35), fU (gRul G u q20 q21 q22 q23 q24 q25) (u + 1), fX (T 0 6), fG (-2147483648) 2147483647]) h (wu_at (wu_at (wu_at (wu_at (wu_at (wu_at (CW.f hC 0 _ rfl) (by omega)) (by omega)) (by omega)) (by omega)) (by omega)) (by omega)) (xO_le (fLe_cons (fun _ x => x) (fLe_cons (fun _ x => x) (fLe_cons (fun _ x => x) (fLe_cons (fun _ x => x) (fLe_cons (fun _ x => x) (fLe_cons (fun _ x => x) (fLe_cons (fun _ x => x) (fLe_cons (fun _ x => x) (fLe_cons (fun _ x => x) (fLe_cons (fun _ x => x) (fLe_cons (fun _ x => x) (fLe_cons (fun _ x => x) (fLe_cons (fun _ x => x) (fLe_cons (fun _ x => x) (fLe_cons (fun _ x => x) (fLe_cons (fun _ x => x) (fLe_cons fU_new (fLe_cons (fun _ x => x) (fLe_cons (fun _ x => x) fLe_nil))))))))))))))))))))
                have h : yH D Zk A s ((wu (wu (wu (wu (wu (wu (wu w ((1000 + 16 * u.toNat + 7)) (q21, xAI (ca 0) 40 (gX 40 (fun _ => 0)))) ((1000 + 16 * u.toNat + 8)) (q22, xAI (ca 0) 40 (gX 40 (fun _ => 0)))) ((1000 + 16 * u.toNat + 9)) (q23, xAI (ca 0) 40 (gX 40 (fun _ => 0)))) ((1000 + 16 * u.toNat + 10)) (q24, xAI (ca 0) 41 (gX 41 (fun _ => 0)))) ((1000 + 16 * u.toNat + 11)) (q25, xAI (ca 0) 450 (gX 450 (fun _ => 0)))) (1000 + 16 * u.toNat + 6) (q20, xO 5 [fR q21, fR q22, fR q23, fR q24, fR q25, fX 0, fX 0])) 0 (ad 0, xO 11 [fR (ad 1), fR (ad 4), fR (ad 12), fR (ad 14), fR (ad 18), fR (ad 20), fR (ad 26), fR (ad 27), fR (ad 28), fR (ad 29), fR (ad 30), fR (ad 31), fR (ad 32), fR (ad 33), fR (ad 34), fR (ad 35), fU (gRul G u q20 q21 q22 q23 q24 q25) (u + 1), fX (T 0 6), fG (-2147483648) 2147483647]))) _ _ := h
                have h := yH.weak (P' := xAQ (ca 6) 8 (gU 8 (gRul G u q20 q21 q22 q23 q24 q25) (u + 1))) h (wu_at (wu_at (wu_at (wu_at (wu_at (wu_at (wu_at (CW.f hC 5 _ rfl) (by omega)) (by omega)) (by omega)) (by omega)) (by omega)) (by omega)) (by decide)) gU_new
                have h : yH D Zk A s ((wu (wu (wu (wu (wu (wu (wu (wu w ((1000 + 16 * u.toNat + 7)) (q21, xAI (ca 0) 40 (gX 40 (fun _ => 0)))) ((1000 + 16 * u.toNat + 8)) (q22, xAI (ca 0) 40 (gX 40 (fun _ => 0)))) ((1000 + 16 * u.toNat + 9)) (q23, xAI (ca 0) 40 (gX 40 (fun _ => 0)))) ((1000 + 16 * u.toNat + 10)) (q24, xAI (ca 0) 41 (gX 41 (fun _ => 0)))) ((1000 + 16 * u.toNat + 11)) (q25, xAI (ca 0) 450 (gX 450 (fun _ => 0)))) (1000 + 16 * u.toNat + 6) (q20, xO 5 [fR q21, fR q22, fR q23, fR q24, fR q25, fX 0, fX 0])) 0 (ad 0, xO 11 [fR (ad 1), fR (ad 4), fR (ad 12), fR (ad 14), fR (ad 18), fR (ad 20), fR (ad 26), fR (ad 27), fR (ad 28), fR (ad 29), fR (ad 30), fR (ad 31), fR (ad 32), fR (ad 33), fR (ad 34), fR (ad 35), fU (gRul G u q20 q21 q22 q23 q24 q25) (u + 1), fX (T 0 6), fG (-2147483648) 2147483647])) 5 (ad 5, xAQ (ca 6) 8 (gU 8 (gRul G u q20 q21 q22 q23 q24 q25) (u + 1))))) _ _ := h
                have h := yH.weak (P' := xAQ (ca 6) 16 (gU 16 (gRul G u q20 q21 q22 q23 q24 q25) (u + 1))) h (wu_at (wu_at (wu_at (wu_at (wu_at (wu_at (wu_at (wu_at (CW.f hC 27 _ rfl) (by omega)) (by omega)) (by omega)) (by omega)) (by omega)) (by omega)) (by decide)) (by decide)) gU_new
                have h : yH D Zk A s ((wu (wu (wu (wu (wu (wu (wu (wu (wu w ((1000 + 16 * u.toNat + 7)) (q21, xAI (ca 0) 40 (gX 40 (fun _ => 0)))) ((1000 + 16 * u.toNat + 8)) (q22, xAI (ca 0) 40 (gX 40 (fun _ => 0)))) ((1000 + 16 * u.toNat + 9)) (q23, xAI (ca 0) 40 (gX 40 (fun _ => 0)))) ((1000 + 16 * u.toNat + 10)) (q24, xAI (ca 0) 41 (gX 41 (fun _ => 0)))) ((1000 + 16 * u.toNat + 11)) (q25, xAI (ca 0) 450 (gX 450 (fun _ => 0)))) (1000 + 16 * u.toNat + 6) (q20, xO 5 [fR q21, fR q22, fR q23, fR q24, fR q25, fX 0, fX 0])) 0 (ad 0, xO 11 [fR (ad 1), fR (ad 4), fR (ad 12), fR (ad 14), fR (ad 18), fR (ad 20), fR (ad 26), fR (ad 27), fR (ad 28), fR (ad 29), fR (ad 30), fR (ad 31), fR (ad 32), fR (ad 33), fR (ad 34), fR (ad 35), fU (gRul G u q20 q21 q22 q23 q24 q25) (u + 1), fX (T 0 6), fG (-2147483648) 2147483647])) 5 (ad 5, xAQ (ca 6) 8 (gU 8 (gRul G u q20 q21 q22 q23 q24 q25) (u + 1)))) 27 (ad 27, xAQ (ca 6) 16 (gU 16 (gRul G u q20 q21 q22 q23 q24 q25) (u + 1))))) _ _ := h
                refine y_putS B h kX11 0 (wu_at (wu_at wu_eq (by decide)) (by decide)) 16 (P := fU (gRul G u q20 q21 q22 q23 q24 q25) (u + 1)) rfl m_377 (by decide) ⟨u, by omega, congrArg Value.ref gRul_n.1.symm⟩ rfl rfl rfl dX11_habits_91 (fun H locs h => ?_)
                refine lv_iload B.1 B.2.1 dX11_habits_94 (lv_at hl 0 rfl) ?_
                rw [wu_comm (show (1000 + 16 * u.toNat + 6 : Nat) ≠ 0 by omega), wu_comm (show (1000 + 16 * u.toNat + 6 : Nat) ≠ 5 by omega), wu_comm (show (1000 + 16 * u.toNat + 6 : Nat) ≠ 27 by omega)] at h
                have h : yH D Zk A s ((wu (wu (wu (wu (wu (wu (wu (wu (wu w ((1000 + 16 * u.toNat + 7)) (q21, xAI (ca 0) 40 (gX 40 (fun _ => 0)))) ((1000 + 16 * u.toNat + 8)) (q22, xAI (ca 0) 40 (gX 40 (fun _ => 0)))) ((1000 + 16 * u.toNat + 9)) (q23, xAI (ca 0) 40 (gX 40 (fun _ => 0)))) ((1000 + 16 * u.toNat + 10)) (q24, xAI (ca 0) 41 (gX 41 (fun _ => 0)))) ((1000 + 16 * u.toNat + 11)) (q25, xAI (ca 0) 450 (gX 450 (fun _ => 0)))) 0 (ad 0, xO 11 [fR (ad 1), fR (ad 4), fR (ad 12), fR (ad 14), fR (ad 18), fR (ad 20), fR (ad 26), fR (ad 27), fR (ad 28), fR (ad 29), fR (ad 30), fR (ad 31), fR (ad 32), fR (ad 33), fR (ad 34), fR (ad 35), fU (gRul G u q20 q21 q22 q23 q24 q25) (u + 1), fX (T 0 6), fG (-2147483648) 2147483647])) 5 (ad 5, xAQ (ca 6) 8 (gU 8 (gRul G u q20 q21 q22 q23 q24 q25) (u + 1)))) 27 (ad 27, xAQ (ca 6) 16 (gU 16 (gRul G u q20 q21 q22 q23 q24 q25) (u + 1)))) (1000 + 16 * u.toNat + 6) (q20, xO 5 [fR q21, fR q22, fR q23, fR q24, fR q25, fX 0, fX 0]))) _ _ := h
                have h := yH.weak (P' := xO 5 [fR q21, fR q22, fR q23, fR q24, fR q25, fG 0 40, fG 0 450]) h wu_eq (xO_le (fLe_cons (fun _ x => x) (fLe_cons (fun _ x => x) (fLe_cons (fun _ x => x) (fLe_cons (fun _ x => x) (fLe_cons (fun _ x => x) (fLe_cons (fX_G (by omega)) (fLe_cons (fX_G (by omega)) fLe_nil))))))))
                rw [wu_wu] at h
                have h : yH D Zk A s ((wu (wu (wu (wu (wu (wu (wu (wu (wu w ((1000 + 16 * u.toNat + 7)) (q21, xAI (ca 0) 40 (gX 40 (fun _ => 0)))) ((1000 + 16 * u.toNat + 8)) (q22, xAI (ca 0) 40 (gX 40 (fun _ => 0)))) ((1000 + 16 * u.toNat + 9)) (q23, xAI (ca 0) 40 (gX 40 (fun _ => 0)))) ((1000 + 16 * u.toNat + 10)) (q24, xAI (ca 0) 41 (gX 41 (fun _ => 0)))) ((1000 + 16 * u.toNat + 11)) (q25, xAI (ca 0) 450 (gX 450 (fun _ => 0)))) 0 (ad 0, xO 11 [fR (ad 1), fR (ad 4), fR (ad 12), fR (ad 14), fR (ad 18), fR (ad 20), fR (ad 26), fR (ad 27), fR (ad 28), fR (ad 29), fR (ad 30), fR (ad 31), fR (ad 32), fR (ad 33), fR (ad 34), fR (ad 35), fU (gRul G u q20 q21 q22 q23 q24 q25) (u + 1), fX (T 0 6), fG (-2147483648) 2147483647])) 5 (ad 5, xAQ (ca 6) 8 (gU 8 (gRul G u q20 q21 q22 q23 q24 q25) (u + 1)))) 27 (ad 27, xAQ (ca 6) 16 (gU 16 (gRul G u q20 q21 q22 q23 q24 q25) (u + 1)))) (1000 + 16 * u.toNat + 6) (q20, xO 5 [fR q21, fR q22, fR q23, fR q24, fR q25, fG 0 40, fG 0 450]))) _ _ := h
                rw [wu_comm (show ((1000 + 16 * u.toNat + 7) : Nat) ≠ (1000 + 16 * u.toNat + 8) by omega), wu_comm (show ((1000 + 16 * u.toNat + 7) : Nat) ≠ (1000 + 16 * u.toNat + 9) by omega), wu_comm (show ((1000 + 16 * u.toNat + 7) : Nat) ≠ (1000 + 16 * u.toNat + 10) by omega), wu_comm (show ((1000 + 16 * u.toNat + 7) : Nat) ≠ (1000 + 16 * u.toNat + 11) by omega), wu_comm (show ((1000 + 16 * u.toNat + 7) : Nat) ≠ 0 by omega), wu_comm (show ((1000 + 16 * u.toNat + 7) : Nat) ≠ 5 by omega), wu_comm (show ((1000 + 16 * u.toNat + 7) : Nat) ≠ 27 by omega), wu_comm (show ((1000 + 16 * u.toNat + 7) : Nat) ≠ 1000 + 16 * u.toNat + 6 by omega)] at h
                have h : yH D Zk A s ((wu (wu (wu (wu (wu (wu (wu (wu (wu w ((1000 + 16 * u.toNat + 8)) (q22, xAI (ca 0) 40 (gX 40 (fun _ => 0)))) ((1000 + 16 * u.toNat + 9)) (q23, xAI (ca 0) 40 (gX 40 (fun _ => 0)))) ((1000 + 16 * u.toNat + 10)) (q24, xAI (ca 0) 41 (gX 41 (fun _ => 0)))) ((1000 + 16 * u.toNat + 11)) (q25, xAI (ca 0) 450 (gX 450 (fun _ => 0)))) 0 (ad 0, xO 11 [fR (ad 1), fR (ad 4), fR (ad 12), fR (ad 14), fR (ad 18), fR (ad 20), fR (ad 26), fR (ad 27), fR (ad 28), fR (ad 29), fR (ad 30), fR (ad 31), fR (ad 32), fR (ad 33), fR (ad 34), fR (ad 35), fU (gRul G u q20 q21 q22 q23 q24 q25) (u + 1), fX (T 0 6), fG (-2147483648) 2147483647])) 5 (ad 5, xAQ (ca 6) 8 (gU 8 (gRul G u q20 q21 q22 q23 q24 q25) (u + 1)))) 27 (ad 27, xAQ (ca 6) 16 (gU 16 (gRul G u q20 q21 q22 q23 q24 q25) (u + 1)))) (1000 + 16 * u.toNat + 6) (q20, xO 5 [fR q21, fR q22, fR q23, fR q24, fR q25, fG 0 40, fG 0 450])) ((1000 + 16 * u.toNat + 7)) (q21, xAI (ca 0) 40 (gX 40 (fun _ => 0))))) _ _ := h
                have h := yH.weak (P' := xAI (ca 0) 40 gA) h wu_eq (xAI_any)
                rw [wu_wu] at h
                have h : yH D Zk A s ((wu (wu (wu (wu (wu (wu (wu (wu (wu w ((1000 + 16 * u.toNat + 8)) (q22, xAI (ca 0) 40 (gX 40 (fun _ => 0)))) ((1000 + 16 * u.toNat + 9)) (q23, xAI (ca 0) 40 (gX 40 (fun _ => 0)))) ((1000 + 16 * u.toNat + 10)) (q24, xAI (ca 0) 41 (gX 41 (fun _ => 0)))) ((1000 + 16 * u.toNat + 11)) (q25, xAI (ca 0) 450 (gX 450 (fun _ => 0)))) 0 (ad 0, xO 11 [fR (ad 1), fR (ad 4), fR (ad 12), fR (ad 14), fR (ad 18), fR (ad 20), fR (ad 26), fR (ad 27), fR (ad 28), fR (ad 29), fR (ad 30), fR (ad 31), fR (ad 32), fR (ad 33), fR (ad 34), fR (ad 35), fU (gRul G u q20 q21 q22 q23 q24 q25) (u + 1), fX (T 0 6), fG (-2147483648) 2147483647])) 5 (ad 5, xAQ (ca 6) 8 (gU 8 (gRul G u q20 q21 q22 q23 q24 q25) (u + 1)))) 27 (ad 27, xAQ (ca 6) 16 (gU 16 (gRul G u q20 q21 q22 q23 q24 q25) (u + 1)))) (1000 + 16 * u.toNat + 6) (q20, xO 5 [fR q21, fR q22, fR q23, fR q24, fR q25, fG 0 40, fG 0 450])) ((1000 + 16 * u.toNat + 7)) (q21, xAI (ca 0) 40 gA))) _ _ := h
                rw [wu_comm (show ((1000 + 16 * u.toNat + 8) : Nat) ≠ (1000 + 16 * u.toNat + 9) by omega), wu_comm (show ((1000 + 16 * u.toNat + 8) : Nat) ≠ (1000 + 16 * u.toNat + 10) by omega), wu_comm (show ((1000 + 16 * u.toNat + 8) : Nat) ≠ (1000 + 16 * u.toNat + 11) by omega), wu_comm (show ((1000 + 16 * u.toNat + 8) : Nat) ≠ 0 by omega), wu_comm (show ((1000 + 16 * u.toNat + 8) : Nat) ≠ 5 by omega), wu_comm (show ((1000 + 16 * u.toNat + 8) : Nat) ≠ 27 by omega), wu_comm (show ((1000 + 16 * u.toNat + 8) : Nat) ≠ 1000 + 16 * u.toNat + 6 by omega), wu_comm (show ((1000 + 16 * u.toNat + 8) : Nat) ≠ (1000 + 16 * u.toNat + 7) by omega)] at h
                have h : yH D Zk A s ((wu (wu (wu (wu (wu (wu (wu (wu (wu w ((1000 + 16 * u.toNat + 9)) (q23, xAI (ca 0) 40 (gX 40 (fun _ => 0)))) ((1000 + 16 * u.toNat + 10)) (q24, xAI (ca 0) 41 (gX 41 (fun _ => 0)))) ((1000 + 16 * u.toNat + 11)) (q25, xAI (ca 0) 450 (gX 450 (fun _ => 0)))) 0 (ad 0, xO 11 [fR (ad 1), fR (ad 4), fR (ad 12), fR (ad 14), fR (ad 18), fR (ad 20), fR (ad 26), fR (ad 27), fR (ad 28), fR (ad 29), fR (ad 30), fR (ad 31), fR (ad 32), fR (ad 33), fR (ad 34), fR (ad 35), fU (gRul G u q20 q21 q22 q23 q24 q25) (u + 1), fX (T 0 6), fG (-2147483648) 2147483647])) 5 (ad 5, xAQ (ca 6) 8 (gU 8 (gRul G u q20 q21 q22 q23 q24 q25) (u + 1)))) 27 (ad 27, xAQ (ca 6) 16 (gU 16 (gRul G u q20 q21 q22 q23 q24 q25) (u + 1)))) (1000 + 16 * u.toNat + 6) (q20, xO 5 [fR q21, fR q22, fR q23, fR q24, fR q25, fG 0 40, fG 0 450])) ((1000 + 16 * u.toNat + 7)) (q21, xAI (ca 0) 40 gA)) ((1000 + 16 * u.toNat + 8)) (q22, xAI (ca 0) 40 (gX 40 (fun _ => 0))))) _ _ := h
                have h := yH.weak (P' := xAI (ca 0) 40 (gG 40 0 12)) h wu_eq (xAI_XG (fun _ _ => by omega))
                rw [wu_wu] at h
                have h : yH D Zk A s ((wu (wu (wu (wu (wu (wu (wu (wu (wu w ((1000 + 16 * u.toNat + 9)) (q23, xAI (ca 0) 40 (gX 40 (fun _ => 0)))) ((1000 + 16 * u.toNat + 10)) (q24, xAI (ca 0) 41 (gX 41 (fun _ => 0)))) ((1000 + 16 * u.toNat + 11)) (q25, xAI (ca 0) 450 (gX 450 (fun _ => 0)))) 0 (ad 0, xO 11 [fR (ad 1), fR (ad 4), fR (ad 12), fR (ad 14), fR (ad 18), fR (ad 20), fR (ad 26), fR (ad 27), fR (ad 28), fR (ad 29), fR (ad 30), fR (ad 31), fR (ad 32), fR (ad 33), fR (ad 34), fR (ad 35), fU (gRul G u q20 q21 q22 q23 q24 q25) (u + 1), fX (T 0 6), fG (-2147483648) 2147483647])) 5 (ad 5, xAQ (ca 6) 8 (gU 8 (gRul G u q20 q21 q22 q23 q24 q25) (u + 1)))) 27 (ad 27, xAQ (ca 6) 16 (gU 16 (gRul G u q20 q21 q22 q23 q24 q25) (u + 1)))) (1000 + 16 * u.toNat + 6) (q20, xO 5 [fR q21, fR q22, fR q23, fR q24, fR q25, fG 0 40, fG 0 450])) ((1000 + 16 * u.toNat + 7)) (q21, xAI (ca 0) 40 gA)) ((1000 + 16 * u.toNat + 8)) (q22, xAI (ca 0) 40 (gG 40 0 12)))) _ _ := h
                rw [wu_comm (show ((1000 + 16 * u.toNat + 9) : Nat) ≠ (1000 + 16 * u.toNat + 10) by omega), wu_comm (show ((1000 + 16 * u.toNat + 9) : Nat) ≠ (1000 + 16 * u.toNat + 11) by omega), wu_comm (show ((1000 + 16 * u.toNat + 9) : Nat) ≠ 0 by omega), wu_comm (show ((1000 + 16 * u.toNat + 9) : Nat) ≠ 5 by omega), wu_comm (show ((1000 + 16 * u.toNat + 9) : Nat) ≠ 27 by omega), wu_comm (show ((1000 + 16 * u.toNat + 9) : Nat) ≠ 1000 + 16 * u.toNat + 6 by omega), wu_comm (show ((1000 + 16 * u.toNat + 9) : Nat) ≠ (1000 + 16 * u.toNat + 7) by omega), wu_comm (show ((1000 + 16 * u.toNat + 9) : Nat) ≠ (1000 + 16 * u.toNat + 8) by omega)] at h
                have h : yH D Zk A s ((wu (wu (wu (wu (wu (wu (wu (wu (wu w ((1000 + 16 * u.toNat + 10)) (q24, xAI (ca 0) 41 (gX 41 (fun _ => 0)))) ((1000 + 16 * u.toNat + 11)) (q25, xAI (ca 0) 450 (gX 450 (fun _ => 0)))) 0 (ad 0, xO 11 [fR (ad 1), fR (ad 4), fR (ad 12), fR (ad 14), fR (ad 18), fR (ad 20), fR (ad 26), fR (ad 27), fR (ad 28), fR (ad 29), fR (ad 30), fR (ad 31), fR (ad 32), fR (ad 33), fR (ad 34), fR (ad 35), fU (gRul G u q20 q21 q22 q23 q24 q25) (u + 1), fX (T 0 6), fG (-2147483648) 2147483647])) 5 (ad 5, xAQ (ca 6) 8 (gU 8 (gRul G u q20 q21 q22 q23 q24 q25) (u + 1)))) 27 (ad 27, xAQ (ca 6) 16 (gU 16 (gRul G u q20 q21 q22 q23 q24 q25) (u + 1)))) (1000 + 16 * u.toNat + 6) (q20, xO 5 [fR q21, fR q22, fR q23, fR q24, fR q25, fG 0 40, fG 0 450])) ((1000 + 16 * u.toNat + 7)) (q21, xAI (ca 0) 40 gA)) ((1000 + 16 * u.toNat + 8)) (q22, xAI (ca 0) 40 (gG 40 0 12))) ((1000 + 16 * u.toNat + 9)) (q23, xAI (ca 0) 40 (gX 40 (fun _ => 0))))) _ _ := h
                have h := yH.weak (P' := xAI (ca 0) 40 (gG 40 0 99)) h wu_eq (xAI_XG (fun _ _ => by omega))
                rw [wu_wu] at h
                have h : yH D Zk A s ((wu (wu (wu (wu (wu (wu (wu (wu (wu w ((1000 + 16 * u.toNat + 10)) (q24, xAI (ca 0) 41 (gX 41 (fun _ => 0)))) ((1000 + 16 * u.toNat + 11)) (q25, xAI (ca 0) 450 (gX 450 (fun _ => 0)))) 0 (ad 0, xO 11 [fR (ad 1), fR (ad 4), fR (ad 12), fR (ad 14), fR (ad 18), fR (ad 20), fR (ad 26), fR (ad 27), fR (ad 28), fR (ad 29), fR (ad 30), fR (ad 31), fR (ad 32), fR (ad 33), fR (ad 34), fR (ad 35), fU (gRul G u q20 q21 q22 q23 q24 q25) (u + 1), fX (T 0 6), fG (-2147483648) 2147483647])) 5 (ad 5, xAQ (ca 6) 8 (gU 8 (gRul G u q20 q21 q22 q23 q24 q25) (u + 1)))) 27 (ad 27, xAQ (ca 6) 16 (gU 16 (gRul G u q20 q21 q22 q23 q24 q25) (u + 1)))) (1000 + 16 * u.toNat + 6) (q20, xO 5 [fR q21, fR q22, fR q23, fR q24, fR q25, fG 0 40, fG 0 450])) ((1000 + 16 * u.toNat + 7)) (q21, xAI (ca 0) 40 gA)) ((1000 + 16 * u.toNat + 8)) (q22, xAI (ca 0) 40 (gG 40 0 12))) ((1000 + 16 * u.toNat + 9)) (q23, xAI (ca 0) 40 (gG 40 0 99)))) _ _ := h
                rw [wu_comm (show ((1000 + 16 * u.toNat + 10) : Nat) ≠ (1000 + 16 * u.toNat + 11) by omega), wu_comm (show ((1000 + 16 * u.toNat + 10) : Nat) ≠ 0 by omega), wu_comm (show ((1000 + 16 * u.toNat + 10) : Nat) ≠ 5 by omega), wu_comm (show ((1000 + 16 * u.toNat + 10) : Nat) ≠ 27 by omega), wu_comm (show ((1000 + 16 * u.toNat + 10) : Nat) ≠ 1000 + 16 * u.toNat + 6 by omega), wu_comm (show ((1000 + 16 * u.toNat + 10) : Nat) ≠ (1000 + 16 * u.toNat + 7) by omega), wu_comm (show ((1000 + 16 * u.toNat + 10) : Nat) ≠ (1000 + 16 * u.toNat + 8) by omega), wu_comm (show ((1000 + 16 * u.toNat + 10) : Nat) ≠ (1000 + 16 * u.toNat + 9) by omega)] at h
                have h : yH D Zk A s ((wu (wu (wu (wu (wu (wu (wu (wu (wu w ((1000 + 16 * u.toNat + 11)) (q25, xAI (ca 0) 450 (gX 450 (fun _ => 0)))) 0 (ad 0, xO 11 [fR (ad 1), fR (ad 4), fR (ad 12), fR (ad 14), fR (ad 18), fR (ad 20), fR (ad 26), fR (ad 27), fR (ad 28), fR (ad 29), fR (ad 30), fR (ad 31), fR (ad 32), fR (ad 33), fR (ad 34), fR (ad 35), fU (gRul G u q20 q21 q22 q23 q24 q25) (u + 1), fX (T 0 6), fG (-2147483648) 2147483647])) 5 (ad 5, xAQ (ca 6) 8 (gU 8 (gRul G u q20 q21 q22 q23 q24 q25) (u + 1)))) 27 (ad 27, xAQ (ca 6) 16 (gU 16 (gRul G u q20 q21 q22 q23 q24 q25) (u + 1)))) (1000 + 16 * u.toNat + 6) (q20, xO 5 [fR q21, fR q22, fR q23, fR q24, fR q25, fG 0 40, fG 0 450])) ((1000 + 16 * u.toNat + 7)) (q21, xAI (ca 0) 40 gA)) ((1000 + 16 * u.toNat + 8)) (q22, xAI (ca 0) 40 (gG 40 0 12))) ((1000 + 16 * u.toNat + 9)) (q23, xAI (ca 0) 40 (gG 40 0 99))) ((1000 + 16 * u.toNat + 10)) (q24, xAI (ca 0) 41 (gX 41 (fun _ => 0))))) _ _ := h
                have h := yH.weak (P' := xAI (ca 0) 41 (gG 41 0 450)) h wu_eq (xAI_XG (fun _ _ => by omega))
                rw [wu_wu] at h
                have h : yH D Zk A s ((wu (wu (wu (wu (wu (wu (wu (wu (wu w ((1000 + 16 * u.toNat + 11)) (q25, xAI (ca 0) 450 (gX 450 (fun _ => 0)))) 0 (ad 0, xO 11 [fR (ad 1), fR (ad 4), fR (ad 12), fR (ad 14), fR (ad 18), fR (ad 20), fR (ad 26), fR (ad 27), fR (ad 28), fR (ad 29), fR (ad 30), fR (ad 31), fR (ad 32), fR (ad 33), fR (ad 34), fR (ad 35), fU (gRul G u q20 q21 q22 q23 q24 q25) (u + 1), fX (T 0 6), fG (-2147483648) 2147483647])) 5 (ad 5, xAQ (ca 6) 8 (gU 8 (gRul G u q20 q21 q22 q23 q24 q25) (u + 1)))) 27 (ad 27, xAQ (ca 6) 16 (gU 16 (gRul G u q20 q21 q22 q23 q24 q25) (u + 1)))) (1000 + 16 * u.toNat + 6) (q20, xO 5 [fR q21, fR q22, fR q23, fR q24, fR q25, fG 0 40, fG 0 450])) ((1000 + 16 * u.toNat + 7)) (q21, xAI (ca 0) 40 gA)) ((1000 + 16 * u.toNat + 8)) (q22, xAI (ca 0) 40 (gG 40 0 12))) ((1000 + 16 * u.toNat + 9)) (q23, xAI (ca 0) 40 (gG 40 0 99))) ((1000 + 16 * u.toNat + 10)) (q24, xAI (ca 0) 41 (gG 41 0 450)))) _ _ := h
                rw [wu_comm (show ((1000 + 16 * u.toNat + 11) : Nat) ≠ 0 by omega), wu_comm (show ((1000 + 16 * u.toNat + 11) : Nat) ≠ 5 by omega), wu_comm (show ((1000 + 16 * u.toNat + 11) : Nat) ≠ 27 by omega), wu_comm (show ((1000 + 16 * u.toNat + 11) : Nat) ≠ 1000 + 16 * u.toNat + 6 by omega), wu_comm (show ((1000 + 16 * u.toNat + 11) : Nat) ≠ (1000 + 16 * u.toNat + 7) by omega), wu_comm (show ((1000 + 16 * u.toNat + 11) : Nat) ≠ (1000 + 16 * u.toNat + 8) by omega), wu_comm (show ((1000 + 16 * u.toNat + 11) : Nat) ≠ (1000 + 16 * u.toNat + 9) by omega), wu_comm (show ((1000 + 16 * u.toNat + 11) : Nat) ≠ (1000 + 16 * u.toNat + 10) by omega)] at h
                have h : yH D Zk A s ((wu (wu (wu (wu (wu (wu (wu (wu (wu w 0 (ad 0, xO 11 [fR (ad 1), fR (ad 4), fR (ad 12), fR (ad 14), fR (ad 18), fR (ad 20), fR (ad 26), fR (ad 27), fR (ad 28), fR (ad 29), fR (ad 30), fR (ad 31), fR (ad 32), fR (ad 33), fR (ad 34), fR (ad 35), fU (gRul G u q20 q21 q22 q23 q24 q25) (u + 1), fX (T 0 6), fG (-2147483648) 2147483647])) 5 (ad 5, xAQ (ca 6) 8 (gU 8 (gRul G u q20 q21 q22 q23 q24 q25) (u + 1)))) 27 (ad 27, xAQ (ca 6) 16 (gU 16 (gRul G u q20 q21 q22 q23 q24 q25) (u + 1)))) (1000 + 16 * u.toNat + 6) (q20, xO 5 [fR q21, fR q22, fR q23, fR q24, fR q25, fG 0 40, fG 0 450])) ((1000 + 16 * u.toNat + 7)) (q21, xAI (ca 0) 40 gA)) ((1000 + 16 * u.toNat + 8)) (q22, xAI (ca 0) 40 (gG 40 0 12))) ((1000 + 16 * u.toNat + 9)) (q23, xAI (ca 0) 40 (gG 40 0 99))) ((1000 + 16 * u.toNat + 10)) (q24, xAI (ca 0) 41 (gG 41 0 450))) ((1000 + 16 * u.toNat + 11)) (q25, xAI (ca 0) 450 (gX 450 (fun _ => 0))))) _ _ := h
                have h := yH.weak (P' := xAI (ca 0) 450 gA) h wu_eq (xAI_any)
                rw [wu_wu] at h
                have h : yH D Zk A s ((wu (wu (wu (wu (wu (wu (wu (wu (wu w 0 (ad 0, xO 11 [fR (ad 1), fR (ad 4), fR (ad 12), fR (ad 14), fR (ad 18), fR (ad 20), fR (ad 26), fR (ad 27), fR (ad 28), fR (ad 29), fR (ad 30), fR (ad 31), fR (ad 32), fR (ad 33), fR (ad 34), fR (ad 35), fU (gRul G u q20 q21 q22 q23 q24 q25) (u + 1), fX (T 0 6), fG (-2147483648) 2147483647])) 5 (ad 5, xAQ (ca 6) 8 (gU 8 (gRul G u q20 q21 q22 q23 q24 q25) (u + 1)))) 27 (ad 27, xAQ (ca 6) 16 (gU 16 (gRul G u q20 q21 q22 q23 q24 q25) (u + 1)))) (1000 + 16 * u.toNat + 6) (q20, xO 5 [fR q21, fR q22, fR q23, fR q24, fR q25, fG 0 40, fG 0 450])) ((1000 + 16 * u.toNat + 7)) (q21, xAI (ca 0) 40 gA)) ((1000 + 16 * u.toNat + 8)) (q22, xAI (ca 0) 40 (gG 40 0 12))) ((1000 + 16 * u.toNat + 9)) (q23, xAI (ca 0) 40 (gG 40 0 99))) ((1000 + 16 * u.toNat + 10)) (q24, xAI (ca 0) 41 (gG 41 0 450))) ((1000 + 16 * u.toNat + 11)) (q25, xAI (ca 0) 450 gA))) _ _ := h
                refine y_ri B hQ h (by decide) dX11_habits_96 ?_
                exact ⟨_, rfl, _, _, by omega, cw_rule hC hu0 (fun k k0 k1 k2 k3 k4 k5 k6 k7 k8 => by rw [wu_ne (by omega), wu_ne (by omega), wu_ne (by omega), wu_ne (by omega), wu_ne (by omega), wu_ne (by omega), wu_ne (by omega), wu_ne (by omega), wu_ne (by omega)]) (wu_at (wu_at (wu_at (wu_at (wu_at (wu_at (wu_at (wu_at wu_eq (by decide)) (by decide)) (by omega)) (by omega)) (by omega)) (by omega)) (by omega)) (by omega)) (wu_at (wu_at (wu_at (wu_at (wu_at (wu_at (wu_at wu_eq (by decide)) (by omega)) (by omega)) (by omega)) (by omega)) (by omega)) (by omega)) (wu_at (wu_at (wu_at (wu_at (wu_at (wu_at wu_eq (by omega)) (by omega)) (by omega)) (by omega)) (by omega)) (by omega)) (wu_at (wu_at (wu_at (wu_at (wu_at wu_eq (by omega)) (by omega)) (by omega)) (by omega)) (by omega)) (wu_at (wu_at (wu_at (wu_at wu_eq (by omega)) (by omega)) (by omega)) (by omega)) (wu_at (wu_at (wu_at wu_eq (by omega)) (by omega)) (by omega)) (wu_at (wu_at wu_eq (by omega)) (by omega)) (wu_at wu_eq (by omega)) wu_eq, fun k h1 h2 => by rw [wu_ne (by omega), wu_ne (by omega), wu_ne (by omega), wu_ne (by omega), wu_ne (by omega), wu_ne (by omega), wu_ne (by omega), wu_ne (by omega), wu_ne (by omega)]⟩
              · rw [e10]
                have fo12 := CW.ru hC j11 (by omega)
                show W p l e r_c_X11_habits s m args below meth c _ _ 0 0 Qf (F0 m 55 ls [.ref (G 6 j11)])
                refine lv_astore_n (lv' := [(3, .ref (G 6 j11)), (0, .ref (ad 0)), (1, .int (iI o)), (2, .int (iI n))]) B.1 B.2.1 dX11_habits_55 rfl hl (by decide) rfl (fun ls hl => ?_)
                refine lv_aload_n B.1 B.2.1 dX11_habits_56 rfl (lv_at hl 1 rfl) ?_
                refine y_getR B h kX11 0 (CW.f hC 0 _ rfl) 7 (b := ad 27) rfl m_368 (by decide) dX11_habits_57 ?_
                refine lv_iload_n B.1 B.2.1 dX11_habits_60 rfl (lv_at hl 2 rfl) ?_
                refine lv_aload_n B.1 B.2.1 dX11_habits_61 rfl (lv_at hl 1 rfl) ?_
                refine y_get B h kX11 0 (CW.f hC 0 _ rfl) 16 (P := fU G u) rfl m_377 (by decide) dX11_habits_62 (fun v26 hv26 => ?_)
                obtain ⟨j27, hj27, rfl⟩ := hv26
                have fo28 := CW.ru hC j27 (by omega)
                refine y_qastS B h 27 6 kX5 rfl (CW.f hC 27 _ rfl) (by omega) fo28.1 (gU_up (by omega)) dX11_habits_65 (fun H locs h => ?_)
                refine lv_aload_n B.1 B.2.1 dX11_habits_66 rfl (lv_at hl 1 rfl) ?_
                refine y_get B h kX11 0 (CW.f hC 0 _ rfl) 16 (P := fU G u) rfl m_377 (by decide) dX11_habits_67 (fun v29 hv29 => ?_)
                obtain ⟨j30, hj30, rfl⟩ := hv29
                have fo31 := CW.ru hC j30 (by omega)
                refine y_getG B h kX5 (1000 + 16 * j30.toNat + 6) fo31.1 5 (lo := 0) (hi := 40) rfl m_344 (by decide) dX11_habits_70 (fun z32 z32a z32b => ?_)
                refine lv_istore (lv' := [(4, .int (iI z32)), (3, .ref (G 6 j11)), (0, .ref (ad 0)), (1, .int (iI o)), (2, .int (iI n))]) B.1 B.2.1 dX11_habits_73 hl (by decide) rfl (fun ls hl => ?_)
                refine lv_aload_n B.1 B.2.1 dX11_habits_75 rfl (lv_at hl 2 rfl) ?_
                refine lv_aload_n B.1 B.2.1 dX11_habits_76 rfl (lv_at hl 1 rfl) ?_
                refine lv_ifnonnull (tgt := 90) B.1 B.2.1 dX11_habits_77 (by decide) ?_
                refine lv_aload_n B.1 B.2.1 dX11_habits_90 rfl (lv_at hl 1 rfl) ?_
                refine y_putS B h kX11 0 (CW.f hC 0 _ rfl) 16 (P := fU G u) rfl m_377 (by decide) ⟨_, by omega, rfl⟩ rfl rfl rfl dX11_habits_91 (fun H locs h => ?_)
                refine lv_iload B.1 B.2.1 dX11_habits_94 (lv_at hl 0 rfl) ?_
                refine y_ri B hQ h (by decide) dX11_habits_96 ?_
                exact ⟨_, rfl, G, u, by omega, hC, fun k h1 h2 => rfl⟩
            · exact absurd c7 (by omega)
          · show W p l e r_c_X11_habits s m args below meth c _ _ 0 0 Qf (F0 m 39 ls [.int (iI 0)])
            refine x_if_ne B (by omega) (tgt := 49) dX11_habits_39 (by decide) (fun c33 => ?_) (fun c33 => ?_)
            · exact absurd c33 (by omega)
            · refine lv_aload_n B.1 B.2.1 dX11_habits_42 rfl (lv_at hl 0 rfl) ?_
              refine x_iconst B dX11_habits_43 ?_
              refine x_iconst B dX11_habits_44 ?_
              refine y_cV B h kX11 0 (CW.f hC 0 _ rfl) k_X11_refuse rfl (c_X11_refuse l D Zk ca T G u ad _ hC 2 ((-1))  (by omega) (by omega)) m_423 rfl (by decide) hl.1 [] (Nat.le_of_ble_eq_true rfl) rfl dX11_habits_45 (fun r w1 hq H locs h => ?_)
              obtain ⟨rfl, z34, rfl, hz34⟩ := hq
              show W p l e r_c_X11_habits s m args below meth c _ _ 0 0 Qf (F0 m 48 ls [.int (iI z34)])
              refine y_ri B hQ h (by decide) dX11_habits_48 ?_
              exact ⟨_, rfl, G, u, by omega, hC, fun k h1 h2 => rfl⟩
        · exact absurd c5 (by omega)
      · show W p l e r_c_X11_habits s m args below meth c _ _ 0 0 Qf (F0 m 22 ls [.int (iI 0)])
        refine x_if_ne B (by omega) (tgt := 33) dX11_habits_22 (by decide) (fun c35 => ?_) (fun c35 => ?_)
        · exact absurd c35 (by omega)
        · refine lv_aload_n B.1 B.2.1 dX11_habits_25 rfl (lv_at hl 0 rfl) ?_
          refine x_iconst B dX11_habits_26 ?_
          refine x_bipush B (by decide) dX11_habits_27 ?_
          refine y_cV B h kX11 0 (CW.f hC 0 _ rfl) k_X11_refuse rfl (c_X11_refuse l D Zk ca T G u ad _ hC 0 ((-2))  (by omega) (by omega)) m_423 rfl (by decide) hl.1 [] (Nat.le_of_ble_eq_true rfl) rfl dX11_habits_29 (fun r w1 hq H locs h => ?_)
          obtain ⟨rfl, z36, rfl, hz36⟩ := hq
          show W p l e r_c_X11_habits s m args below meth c _ _ 0 0 Qf (F0 m 32 ls [.int (iI z36)])
          refine y_ri B hQ h (by decide) dX11_habits_32 ?_
          exact ⟨_, rfl, G, u, by omega, hC, fun k h1 h2 => rfl⟩
  · show W p l e r_c_X11_habits s m args below meth c _ _ 0 0 Qf (F0 m 8 ls [.int (iI 0)])
    refine x_if_eq B (by omega) (tgt := 25) dX11_habits_8 (by decide) (fun c37 => ?_) (fun c37 => ?_)
    · refine lv_aload_n B.1 B.2.1 dX11_habits_25 rfl (lv_at hl 0 rfl) ?_
      refine x_iconst B dX11_habits_26 ?_
      refine x_bipush B (by decide) dX11_habits_27 ?_
      refine y_cV B h kX11 0 (CW.f hC 0 _ rfl) k_X11_refuse rfl (c_X11_refuse l D Zk ca T G u ad _ hC 0 ((-2))  (by omega) (by omega)) m_423 rfl (by decide) hl.1 [] (Nat.le_of_ble_eq_true rfl) rfl dX11_habits_29 (fun r w1 hq H locs h => ?_)
      obtain ⟨rfl, z38, rfl, hz38⟩ := hq
      show W p l e r_c_X11_habits s m args below meth c _ _ 0 0 Qf (F0 m 32 ls [.int (iI z38)])
      refine y_ri B hQ h (by decide) dX11_habits_32 ?_
      exact ⟨_, rfl, G, u, by omega, hC, fun k h1 h2 => rfl⟩
    · exact absurd c37 (by omega)
