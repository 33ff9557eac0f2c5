/-! ===== the reference's texts: statement after statement, into a slot ===== -/
theorem gX_eqv {n : Nat} {g g' : Nat → Int} (h : ∀ j : Nat, j < n → g j = g' j) : gX n g = gX n g' := funext fun f => propext ⟨fun q j hj => (q j hj).trans (congrArg iI (h j hj)), fun q j hj => (q j hj).trans (congrArg iI (h j hj).symm)⟩
theorem iu_o {g : Nat → Int} {i z : Int} {j : Nat} (h : (j : Int) ≠ i) : iu g i z j = g j := if_neg h
def RR (E : Nat → Int → Int) (gf gb : Nat → Int) (sl c9 st : Int) : Prop := ∀ i : Int, 0 ≤ i ∧ i < c9 → 0 ≤ gf (40 * sl + i).toNat ∧ gf (40 * sl + i).toNat ≤ gb (40 * sl + i).toNat ∧ gb (40 * sl + i).toNat ≤ st ∧ OKS E (320 * sl + gf (40 * sl + i).toNat) (gb (40 * sl + i).toNat - gf (40 * sl + i).toNat)
theorem RR_0 {E : Nat → Int → Int} {gf gb : Nat → Int} {sl st : Int} : RR E gf gb sl 0 st := fun i hi => absurd hi (by omega)
theorem RR_next {E E2 : Nat → Int → Int} {gf gb gf2 gb2 : Nat → Int} {sl c9 st st2 i9 iw2 : Int} (h : RR E gf gb sl c9 st) (hG : GBK gf gb gf2 gb2 i9 st st2 iw2) (hi9 : i9 = 40 * sl + c9) (hw : iw2 = 0) (hF : FR E E2 sl st) (hO : OKS E2 (320 * sl + st) (st2 - st)) (h0 : 0 ≤ sl ∧ 0 ≤ st ∧ st ≤ st2 ∧ st ≤ 320) : RR E2 gf2 gb2 sl (c9 + 1) st2 := fun i hi => by
  by_cases q : i = c9
  · subst q
    obtain ⟨a, b⟩ := hG.2 hw
    rw [hi9] at a b
    rw [a, b]
    exact ⟨by omega, by omega, by omega, hO⟩
  · obtain ⟨a, b⟩ := hG.1 (40 * sl + i).toNat (by omega)
    obtain ⟨x1, x2, x3, x4⟩ := h i (by omega)
    rw [a, b]
    exact ⟨x1, x2, by omega, OKS_congr x4 (fun k hk => hF 4 _ (by omega))⟩
def GF (gf gb gf9 gb9 : Nat → Int) (sl : Int) : Prop := ∀ j : Nat, ¬ (40 * sl ≤ (j : Int) ∧ (j : Int) < 40 * sl + 40) → gf9 j = gf j ∧ gb9 j = gb j
theorem GF_0 {gf gb : Nat → Int} {sl : Int} : GF gf gb gf gb sl := fun _ _ => ⟨rfl, rfl⟩
theorem GF_next {gf gb gf9 gb9 gf2 gb2 : Nat → Int} {sl i st st2 iw2 : Int} (h : GF gf gb gf9 gb9 sl) (hG : GBK gf9 gb9 gf2 gb2 i st st2 iw2) (hi : 40 * sl ≤ i ∧ i < 40 * sl + 40) : GF gf gb gf2 gb2 sl := fun j hj => by
  obtain ⟨a, b⟩ := hG.1 j (by omega)
  obtain ⟨x1, x2⟩ := h j hj
  exact ⟨a.trans x1, b.trans x2⟩
/-- the statements of a slot are good -/
def SLOT (E : Nat → Int → Int) (pl : Int) : Prop := ∀ i : Int, 0 ≤ i ∧ i < E 1 pl → (0 ≤ E 2 (40 * pl + i) ∧ E 2 (40 * pl + i) ≤ E 3 (40 * pl + i) ∧ E 3 (40 * pl + i) ≤ 320) ∧ OKS E (320 * pl + E 2 (40 * pl + i)) (E 3 (40 * pl + i) - E 2 (40 * pl + i))
def EMK (E E2 : Nat → Int → Int) (gs gf gb gm : Nat → Int) : Nat → Int → Int
  | 1, j => gs j.toNat
  | 2, j => gf j.toNat
  | 3, j => gb j.toNat
  | 4, j => E2 4 j
  | 5, j => if j.toNat < 1000 then gm j.toNat else 0
  | f, j => E f j
theorem SLOT_of {E E2 : Nat → Int → Int} {gs gf gb gm : Nat → Int} {pl c9 st : Int} (h : RR E2 gf gb pl c9 st) (hc : gs pl.toNat = c9) (hst : st ≤ 320) : SLOT (EMK E E2 gs gf gb gm) pl := fun i hi => by
  have hi : 0 ≤ i ∧ i < gs pl.toNat := hi
  obtain ⟨a, b, d, f⟩ := h i (by omega)
  exact ⟨⟨a, b, by show gb (40 * pl + i).toNat ≤ 320; omega⟩, OKS_congr (E' := EMK E E2 gs gf gb gm) f (fun k hk => rfl)⟩
theorem pe_rd {E E2 : Nat → Int → Int} {gs gf gb gm : Nat → Int} {pl : Int} (h : PE E) (hpl : (pl = E 0 0 ∧ pl ≤ 7) ∨ pl = 24) (hs : ∀ j : Nat, (j : Int) ≠ pl → gs j = E 1 (j : Int)) (hs2 : ∀ j : Nat, 0 ≤ gs j ∧ gs j ≤ 40)
    (hf : GF (fun j => E 2 (j : Int)) (fun j => E 3 (j : Int)) gf gb pl) (hE : FR E E2 pl 0) (hm : ∀ j : Nat, j < 1000 → -12 ≤ gm j ∧ gm j ≤ 12) : PE (EMK E E2 gs gf gb gm) := by
  obtain ⟨h1, h2, h3, h4⟩ := h
  refine ⟨h1, fun i => hs2 i.toNat, fun i => ?_, fun q hq i hi => ?_⟩
  · show -12 ≤ (if i.toNat < 1000 then gm i.toNat else 0) ∧ (if i.toNat < 1000 then gm i.toNat else 0) ≤ 12
    by_cases q : i.toNat < 1000
    · rw [if_pos q]; exact hm _ q
    · rw [if_neg q]; omega
  · have hq : (0 ≤ q ∧ q < E 0 0) ∨ (8 ≤ q ∧ q < 24) := hq
    have hi : 0 ≤ i ∧ i < gs q.toNat := hi
    have e1 : gs q.toNat = E 1 q := by rw [hs q.toNat (by omega), Int.toNat_of_nonneg (by omega)]
    have h9 := hs2 q.toNat
    obtain ⟨f1, f2⟩ := hf (40 * q + i).toNat (by omega)
    have f1 : gf (40 * q + i).toNat = E 2 (40 * q + i) := by rw [f1]; show E 2 (((40 * q + i).toNat : Nat) : Int) = _; rw [Int.toNat_of_nonneg (by omega)]
    have f2 : gb (40 * q + i).toNat = E 3 (40 * q + i) := by rw [f2]; show E 3 (((40 * q + i).toNat : Nat) : Int) = _; rw [Int.toNat_of_nonneg (by omega)]
    obtain ⟨a, b, d, f⟩ := h4 q hq i (by omega)
    show 0 ≤ gf (40 * q + i).toNat ∧ gf (40 * q + i).toNat ≤ gb (40 * q + i).toNat ∧ gb (40 * q + i).toNat ≤ 320 ∧ OKS (EMK E E2 gs gf gb gm) (320 * q + gf (40 * q + i).toNat) (gb (40 * q + i).toNat - gf (40 * q + i).toNat)
    rw [f1, f2]
    exact ⟨a, b, d, OKS_congr (E' := EMK E E2 gs gf gb gm) f (fun k hk => hE 4 _ (by omega))⟩
set_option maxHeartbeats 4000000 in
theorem MW.ex {ca : Nat → ClassId} {T E E2 : Nat → Int → Int} {am : Nat → Nat} {w w1 : yW} {gs gf gb gm : Nat → Int} (h : MW ca T E am w) (hp : PE (EMK E E2 gs gf gb gm))
    (hk : ∀ k : Nat, k ≠ 66 → k ≠ 69 → k ≠ 71 → k ≠ 72 → k ≠ 73 → w1 k = w k)
    (c1 : w1 66 = some (am 16, xAI (ca 0) 25 (gX 25 gs))) (c2 : w1 69 = some (am 19, xAI (ca 0) 1000 (gX 1000 gm))) (c3 : w1 71 = some (am 21, xAI (ca 0) 1000 (gX 1000 gf))) (c4 : w1 72 = some (am 22, xAI (ca 0) 1000 (gX 1000 gb)))
    (c5 : w1 73 = some (am 23, xAI (ca 0) 8000 (gX 8000 (fun j => E2 4 (j : Int))))) : MW ca T (EMK E E2 gs gf gb gm) am w1 := by
  have em : gX 1000 gm = gX 1000 (fun j => EMK E E2 gs gf gb gm 5 (j : Int)) := gX_eqv fun j hj => by
    show gm j = if ((j : Nat) : Int).toNat < 1000 then gm ((j : Nat) : Int).toNat else 0
    rw [Int.toNat_natCast, if_pos hj]
  refine ⟨h.1, hp, fun k x hx => ?_⟩
  by_cases e1 : k = 16
  · subst e1; cases hx; exact c1
  · by_cases e2 : k = 19
    · subst e2; cases hx; rw [← em]; exact c2
    · by_cases e3 : k = 21
      · subst e3; cases hx; exact c3
      · by_cases e4 : k = 22
        · subst e4; cases hx; exact c4
        · by_cases e5 : k = 23
          · subst e5; cases hx; exact c5
          · rw [hk (50 + k) (by omega) (by omega) (by omega) (by omega) (by omega)]
            refine h.f k x ?_
            rw [show mF ca T (EMK E E2 gs gf gb gm) am = (((((mF ca T E am).set 16 (am 16, xAI (ca 0) 25 (gX 25 gs))).set 19 (am 19, xAI (ca 0) 1000 (gX 1000 (fun j => EMK E E2 gs gf gb gm 5 (j : Int))))).set 21 (am 21, xAI (ca 0) 1000 (gX 1000 gf))).set 22 (am 22, xAI (ca 0) 1000 (gX 1000 gb))).set 23 (am 23, xAI (ca 0) 8000 (gX 8000 (fun j => E2 4 (j : Int)))) from rfl, List.getElem?_set_ne (Ne.symm e5), List.getElem?_set_ne (Ne.symm e4), List.getElem?_set_ne (Ne.symm e3), List.getElem?_set_ne (Ne.symm e2), List.getElem?_set_ne (Ne.symm e1)] at hx
            exact hx
/-- one scale more -/
theorem MW.sc {ca : Nat → ClassId} {T E : Nat → Int → Int} {am : Nat → Nat} {w : yW} (h : MW ca T E am w) (h7 : E 0 0 ≤ 7) (hS : SLOT E (E 0 0)) : MW ca T (eu E 0 (E 0 0 + 1)) am (wu w 50 (am 0, mO am T (fX ((E 0 0) + 1)) (fG 0 900) (fG (-2147483648) 2147483647) (fG 0 900) (fG 0 900) (fG 0 900) (fG (-2147483648) 2147483647) (fG (-2147483648) 2147483647) (fG 0 24) (fG 0 41) (fG 0 319) fL (fG 0 1) (fG 0 48) (fG 0 9) (fX (E 0 5)))) := by
  have e9 : ∀ f : Nat, 1 ≤ f → eu E 0 (E 0 0 + 1) f = E f := fun f hf => funext fun j => if_neg (by omega)
  have e5 : eu E 0 (E 0 0 + 1) 0 5 = E 0 5 := if_neg (by omega)
  have e0 : eu E 0 (E 0 0 + 1) 0 0 = E 0 0 + 1 := if_pos ⟨rfl, rfl⟩
  refine ⟨h.1, ?_, fun k x hk => ?_⟩
  · obtain ⟨h1, h2, h3, h4⟩ := h.2.1
    unfold PE
    rw [e0, e9 1 (by omega), e9 5 (by omega), e9 2 (by omega), e9 3 (by omega)]
    refine ⟨by omega, h2, h3, fun q hq i hi => ?_⟩
    by_cases q9 : q = E 0 0
    · obtain ⟨⟨a, b, d⟩, f⟩ := hS i (by rw [← q9]; exact hi)
      rw [q9]
      exact ⟨a, b, d, OKS_congr f (fun k hk => by rw [e9 4 (by omega)])⟩
    · obtain ⟨a, b, d, f⟩ := h4 q (by omega) i hi
      exact ⟨a, b, d, OKS_congr f (fun k hk => by rw [e9 4 (by omega)])⟩
  · by_cases q : k = 0
    · subst q
      unfold mF at hk
      cases hk
      rw [e0, e5]
      exact wu_eq
    · obtain ⟨k, rfl⟩ : ∃ n : Nat, k = n + 1 := ⟨k - 1, by omega⟩
      rw [wu_ne (by omega)]
      refine h.2.2 (k + 1) x ?_
      unfold mF at hk ⊢
      rw [e9 1 (by omega), e9 2 (by omega), e9 3 (by omega), e9 4 (by omega), e9 5 (by omega), List.getElem?_cons_succ] at hk
      rw [List.getElem?_cons_succ]
      exact hk

theorem k_X12_readHabit : xMV yX12_readHabit cX12_readHabit 5 none 1 := ⟨m_1645, m_1644, m_60, m_104, ⟨by decide +kernel, by decide +kernel, by decide +kernel⟩⟩
theorem k_X12_readScale : xMV yX12_readScale cX12_readScale 2 none 1 := ⟨m_1576, m_1575, m_46, m_104, ⟨by decide +kernel, by decide +kernel, by decide +kernel⟩⟩
theorem k_X12_refuse : xMV yX12_refuse cX12_refuse 2 (some .int) 1 := ⟨m_1510, m_1509, m_38, m_104, ⟨by decide +kernel, by decide +kernel, by decide +kernel⟩⟩
theorem k_X12_reads : xMV yX12_reads cX12_reads 4 (some .boolean) 3 := ⟨m_1557, m_1556, m_42, m_104, ⟨by decide +kernel, by decide +kernel, by decide +kernel⟩⟩
abbrev r_c_X12_reads : Room := { frames := 7, cells := 0, slots := 0, locals := 158 }
set_option maxHeartbeats 4000000 in
set_option maxRecDepth 100000 in
theorem c_X12_reads (l : Launch) (D : va_G) (Zk : yK) (ca : Nat → ClassId) (T : Nat → Int → Int) (E : Nat → Int → Int) (am : Nat → Nat) (w : yW) (hM : MW ca T E am w) (n : Int) (pl : Int) (b : Int)  (hpl2 : (pl = E 0 0 ∧ pl ≤ 7) ∨ pl = 24) (hn : 0 ≤ n ∧ n ≤ 900) (hpl : 0 ≤ pl ∧ pl ≤ 24) (hb : 0 ≤ b ∧ b ≤ 1) : yC l D Zk ca yX12_reads cX12_reads 4 (some .boolean) r_c_X12_reads [.ref (am 0), .int (iI n), .int (iI pl), .int (iI b)] w (fun r w1 => ∃ z : Int, r = some (.int (iI z)) ∧ ∃ E9 : Nat → Int → Int, MW ca T E9 am w1 ∧ AGM w w1 ∧ (∀ j : Int, E9 0 j = E 0 j) ∧ ((z = 1 ∧ SLOT E9 pl) ∨ z = 0)) := by
  refine yC.of2 "WindWordsModel" (by decide) rfl (Nat.le_of_ble_eq_true rfl) ?_
  intro p e s m args below meth c A ls Qf B hnm h hl hQ
  have hl : lv_has ls 4 [(0, .ref (am 0)), (1, .int (iI n)), (2, .int (iI pl)), (3, .int (iI b))] := hl
  have hs := pi_s (MW.pi hM)
  have hpe := pe_0 (MW.pe hM)
  have h := yH.weak (P' := xAI (ca 0) 1000 (gG 1000 (-12) 12)) h (MW.f hM 19 _ rfl) (xAI_XG (fun k hk => pe_5 (MW.pe hM) _))
  have h : yH D Zk A s ((wu w 69 (am 19, xAI (ca 0) 1000 (gG 1000 (-12) 12)))) _ _ := h
  obtain ⟨g1, hg1, h⟩ := yH.pinA h (wu_at (MW.f hM 25 _ rfl) (by decide))
  have h : yH D Zk A s ((wu (wu w 69 (am 19, xAI (ca 0) 1000 (gG 1000 (-12) 12))) 75 (am 25, xAI (ca 3) 900 (gX 900 g1)))) _ _ := h
  refine lv_aload_n B.1 B.2.1 dX12_reads_0 rfl (lv_at hl 0 rfl) ?_
  refine lv_iload_n B.1 B.2.1 dX12_reads_1 rfl (lv_at hl 1 rfl) ?_
  refine y_put B h kX12 50 (wu_at (wu_at (MW.f hM 0 _ rfl) (by decide)) (by decide)) 34 (Nat.le_of_ble_eq_true rfl) (P' := fX n) m_1295 (by decide) rfl rfl rfl rfl dX12_reads_2 (fun H locs h => ?_)
  have h : yH D Zk A s ((wu (wu (wu w 69 (am 19, xAI (ca 0) 1000 (gG 1000 (-12) 12))) 75 (am 25, xAI (ca 3) 900 (gX 900 g1))) 50 (am 0, mO am T (fX (E 0 0)) (fG 0 900) (fG (-2147483648) 2147483647) (fX n) (fG 0 900) (fG 0 900) (fG (-2147483648) 2147483647) (fG (-2147483648) 2147483647) (fG 0 24) (fG 0 41) (fG 0 319) fL (fG 0 1) (fG 0 48) (fG 0 9) (fX (E 0 5))))) _ _ := h
  refine lv_aload_n B.1 B.2.1 dX12_reads_5 rfl (lv_at hl 0 rfl) ?_
  refine x_iconst B dX12_reads_6 ?_
  refine y_putS B h kX12 50 wu_eq 32 (P := fG 0 900) rfl m_1293 (by decide) ⟨_, rfl, by omega, by omega⟩ rfl rfl rfl dX12_reads_7 (fun H locs h => ?_)
  refine lv_aload_n B.1 B.2.1 dX12_reads_10 rfl (lv_at hl 0 rfl) ?_
  refine x_iconst B dX12_reads_11 ?_
  refine y_put B h kX12 50 wu_eq 35 (Nat.le_of_ble_eq_true rfl) (P' := fX 0) m_1296 (by decide) rfl rfl rfl rfl dX12_reads_12 (fun H locs h => ?_)
  rw [wu_wu] at h
  have h : yH D Zk A s ((wu (wu (wu w 69 (am 19, xAI (ca 0) 1000 (gG 1000 (-12) 12))) 75 (am 25, xAI (ca 3) 900 (gX 900 g1))) 50 (am 0, mO am T (fX (E 0 0)) (fG 0 900) (fG (-2147483648) 2147483647) (fX n) (fX 0) (fG 0 900) (fG (-2147483648) 2147483647) (fG (-2147483648) 2147483647) (fG 0 24) (fG 0 41) (fG 0 319) fL (fG 0 1) (fG 0 48) (fG 0 9) (fX (E 0 5))))) _ _ := h
  refine lv_aload_n B.1 B.2.1 dX12_reads_15 rfl (lv_at hl 0 rfl) ?_
  refine x_iconst B dX12_reads_16 ?_
  refine y_putS B h kX12 50 wu_eq 33 (P := fG (-2147483648) 2147483647) rfl m_1294 (by decide) ⟨_, rfl, by omega, by omega⟩ rfl rfl rfl dX12_reads_17 (fun H locs h => ?_)
  refine lv_aload_n B.1 B.2.1 dX12_reads_20 rfl (lv_at hl 0 rfl) ?_
  refine x_iconst B dX12_reads_21 ?_
  refine y_put B h kX12 50 wu_eq 43 (Nat.le_of_ble_eq_true rfl) (P' := fX 0) m_1304 (by decide) rfl rfl rfl rfl dX12_reads_22 (fun H locs h => ?_)
  rw [wu_wu] at h
  have h : yH D Zk A s ((wu (wu (wu w 69 (am 19, xAI (ca 0) 1000 (gG 1000 (-12) 12))) 75 (am 25, xAI (ca 3) 900 (gX 900 g1))) 50 (am 0, mO am T (fX (E 0 0)) (fG 0 900) (fG (-2147483648) 2147483647) (fX n) (fX 0) (fG 0 900) (fG (-2147483648) 2147483647) (fG (-2147483648) 2147483647) (fG 0 24) (fG 0 41) (fG 0 319) fL (fX 0) (fG 0 48) (fG 0 9) (fX (E 0 5))))) _ _ := h
  refine lv_aload_n B.1 B.2.1 dX12_reads_25 rfl (lv_at hl 0 rfl) ?_
  refine lv_iload_n B.1 B.2.1 dX12_reads_26 rfl (lv_at hl 2 rfl) ?_
  refine y_put B h kX12 50 wu_eq 39 (Nat.le_of_ble_eq_true rfl) (P' := fX pl) m_1300 (by decide) rfl rfl rfl rfl dX12_reads_27 (fun H locs h => ?_)
  rw [wu_wu] at h
  have h : yH D Zk A s ((wu (wu (wu w 69 (am 19, xAI (ca 0) 1000 (gG 1000 (-12) 12))) 75 (am 25, xAI (ca 3) 900 (gX 900 g1))) 50 (am 0, mO am T (fX (E 0 0)) (fG 0 900) (fG (-2147483648) 2147483647) (fX n) (fX 0) (fG 0 900) (fG (-2147483648) 2147483647) (fG (-2147483648) 2147483647) (fX pl) (fG 0 41) (fG 0 319) fL (fX 0) (fG 0 48) (fG 0 9) (fX (E 0 5))))) _ _ := h
  refine lv_aload_n B.1 B.2.1 dX12_reads_30 rfl (lv_at hl 0 rfl) ?_
  refine x_iconst B dX12_reads_31 ?_
  refine y_put B h kX12 50 wu_eq 40 (Nat.le_of_ble_eq_true rfl) (P' := fX 0) m_1301 (by decide) rfl rfl rfl rfl dX12_reads_32 (fun H locs h => ?_)
  rw [wu_wu] at h
  have h : yH D Zk A s ((wu (wu (wu w 69 (am 19, xAI (ca 0) 1000 (gG 1000 (-12) 12))) 75 (am 25, xAI (ca 3) 900 (gX 900 g1))) 50 (am 0, mO am T (fX (E 0 0)) (fG 0 900) (fG (-2147483648) 2147483647) (fX n) (fX 0) (fG 0 900) (fG (-2147483648) 2147483647) (fG (-2147483648) 2147483647) (fX pl) (fX 0) (fG 0 319) fL (fX 0) (fG 0 48) (fG 0 9) (fX (E 0 5))))) _ _ := h
  refine lv_aload_n B.1 B.2.1 dX12_reads_35 rfl (lv_at hl 0 rfl) ?_
  refine x_iconst B dX12_reads_36 ?_
  refine y_put B h kX12 50 wu_eq 41 (Nat.le_of_ble_eq_true rfl) (P' := fX 0) m_1302 (by decide) rfl rfl rfl rfl dX12_reads_37 (fun H locs h => ?_)
  rw [wu_wu] at h
  have h : yH D Zk A s ((wu (wu (wu w 69 (am 19, xAI (ca 0) 1000 (gG 1000 (-12) 12))) 75 (am 25, xAI (ca 3) 900 (gX 900 g1))) 50 (am 0, mO am T (fX (E 0 0)) (fG 0 900) (fG (-2147483648) 2147483647) (fX n) (fX 0) (fG 0 900) (fG (-2147483648) 2147483647) (fG (-2147483648) 2147483647) (fX pl) (fX 0) (fX 0) fL (fX 0) (fG 0 48) (fG 0 9) (fX (E 0 5))))) _ _ := h
  refine lv_aload_n B.1 B.2.1 dX12_reads_40 rfl (lv_at hl 0 rfl) ?_
  refine y_cV B h kX12 50 wu_eq k_X12_next rfl (c_X12_next l D Zk ca _ _ _ (fX (E 0 0)) (fG 0 900) (fG (-2147483648) 2147483647) (fG 0 900) (fG (-2147483648) 2147483647) (fG (-2147483648) 2147483647) (fX pl) (fX 0) (fX 0) fL (fX 0) (fG 0 48) (fG 0 9) (fX (E 0 5)) n 0 g1 wu_eq (wu_at wu_eq (by decide)) (by omega)) m_1558 rfl (by decide) hl.1 [] (Nat.le_of_ble_eq_true rfl) rfl dX12_reads_41 (fun r w1 hq H locs h => ?_)
  obtain ⟨rfl, pt2_2, fr2_3, tk2_4, vl2_5, tx2_6, rfl, hr7⟩ := hq
  rw [wu_wu] at h
  have h : yH D Zk A s ((wu (wu (wu w 69 (am 19, xAI (ca 0) 1000 (gG 1000 (-12) 12))) 75 (am 25, xAI (ca 3) 900 (gX 900 g1))) 50 (am 0, mO am T (fX (E 0 0)) (fG 0 900) (fG (-2147483648) 2147483647) (fX n) (fX pt2_2) (fX fr2_3) (fX tk2_4) (fX vl2_5) (fX pl) (fX 0) (fX 0) (fY tx2_6) (fX 0) (fG 0 48) (fG 0 9) (fX (E 0 5))))) _ _ := h
  show W p l e r_c_X12_reads s m args below meth c _ _ 0 0 Qf (F0 m 44 ls [])
  have h := yH.weak (P' := xAI (ca 0) 8000 (gX 8000 (fun j => E 4 (j : Int)))) h (wu_at (wu_at (wu_at (MW.f hM 23 _ rfl) (by decide)) (by decide)) (by decide)) (fun _ x => x)
  have h : yH D Zk A s ((wu (wu (wu (wu w 69 (am 19, xAI (ca 0) 1000 (gG 1000 (-12) 12))) 75 (am 25, xAI (ca 3) 900 (gX 900 g1))) 50 (am 0, mO am T (fX (E 0 0)) (fG 0 900) (fG (-2147483648) 2147483647) (fX n) (fX pt2_2) (fX fr2_3) (fX tk2_4) (fX vl2_5) (fX pl) (fX 0) (fX 0) (fY tx2_6) (fX 0) (fG 0 48) (fG 0 9) (fX (E 0 5)))) 73 (am 23, xAI (ca 0) 8000 (gX 8000 (fun j => E 4 (j : Int)))))) _ _ := h
  have h := yH.weak (P' := xAI (ca 0) 1000 (gX 1000 (fun j => E 2 (j : Int)))) h (wu_at (wu_at (wu_at (wu_at (MW.f hM 21 _ rfl) (by decide)) (by decide)) (by decide)) (by decide)) (fun _ x => x)
  have h : yH D Zk A s ((wu (wu (wu (wu (wu w 69 (am 19, xAI (ca 0) 1000 (gG 1000 (-12) 12))) 75 (am 25, xAI (ca 3) 900 (gX 900 g1))) 50 (am 0, mO am T (fX (E 0 0)) (fG 0 900) (fG (-2147483648) 2147483647) (fX n) (fX pt2_2) (fX fr2_3) (fX tk2_4) (fX vl2_5) (fX pl) (fX 0) (fX 0) (fY tx2_6) (fX 0) (fG 0 48) (fG 0 9) (fX (E 0 5)))) 73 (am 23, xAI (ca 0) 8000 (gX 8000 (fun j => E 4 (j : Int))))) 71 (am 21, xAI (ca 0) 1000 (gX 1000 (fun j => E 2 (j : Int)))))) _ _ := h
  have h := yH.weak (P' := xAI (ca 0) 1000 (gX 1000 (fun j => E 3 (j : Int)))) h (wu_at (wu_at (wu_at (wu_at (wu_at (MW.f hM 22 _ rfl) (by decide)) (by decide)) (by decide)) (by decide)) (by decide)) (fun _ x => x)
  have h : yH D Zk A s ((wu (wu (wu (wu (wu (wu w 69 (am 19, xAI (ca 0) 1000 (gG 1000 (-12) 12))) 75 (am 25, xAI (ca 3) 900 (gX 900 g1))) 50 (am 0, mO am T (fX (E 0 0)) (fG 0 900) (fG (-2147483648) 2147483647) (fX n) (fX pt2_2) (fX fr2_3) (fX tk2_4) (fX vl2_5) (fX pl) (fX 0) (fX 0) (fY tx2_6) (fX 0) (fG 0 48) (fG 0 9) (fX (E 0 5)))) 73 (am 23, xAI (ca 0) 8000 (gX 8000 (fun j => E 4 (j : Int))))) 71 (am 21, xAI (ca 0) 1000 (gX 1000 (fun j => E 2 (j : Int))))) 72 (am 22, xAI (ca 0) 1000 (gX 1000 (fun j => E 3 (j : Int)))))) _ _ := h
  have loop44 : ∀ (n44 : Nat) (fr9 : Int) (pt9 : Int) (tk9 : Int) (vl9 : Int) (tx9 : Int) (iw9 : Int) (st9 : Int) (ct9 : Int) (E9 : Nat → Int → Int) (gf9 : Nat → Int) (gb9 : Nat → Int), (0 ≤ fr9 ∧ fr9 ≤ pt9 ∧ pt9 ≤ n ∧ 0 ≤ vl9 ∧ vl9 ≤ 10000000) → (TOK tk9 tx9 fr9 pt9) → (iw9 = 0 ∨ iw9 = 1) → (0 ≤ ct9 ∧ ct9 ≤ 41 ∧ (iw9 = 0 → ct9 ≤ 40)) → (0 ≤ st9 ∧ 3 * st9 ≤ fr9) → (iw9 = 0 → RR E9 gf9 gb9 pl ct9 st9) → (FR E E9 pl 0) → (GF (fun j => E 2 (j : Int)) (fun j => E 3 (j : Int)) gf9 gb9 pl) → ((900 - fr9 + (1 - iw9) : Int)).toNat < n44 → ∀ (H : Heap) (locs : List Loc) (ls : Array Slot), yH D Zk A s ((wu (wu (wu (wu (wu (wu w 69 (am 19, xAI (ca 0) 1000 (gG 1000 (-12) 12))) 75 (am 25, xAI (ca 3) 900 (gX 900 g1))) 50 (am 0, mO am T (fX (E 0 0)) (fG 0 900) (fG (-2147483648) 2147483647) (fX n) (fX pt9) (fX fr9) (fX tk9) (fX vl9) (fX pl) (fX ct9) (fX st9) (fY tx9) (fX iw9) (fG 0 48) (fG 0 9) (fX (E 0 5)))) 73 (am 23, xAI (ca 0) 8000 (gX 8000 (fun j => E9 4 (j : Int))))) 71 (am 21, xAI (ca 0) 1000 (gX 1000 gf9))) 72 (am 22, xAI (ca 0) 1000 (gX 1000 gb9)))) H locs → lv_has ls 4 [(0, .ref (am 0)), (3, .int (iI b))] → W p l e r_c_X12_reads s m args below meth c H locs 0 0 Qf (F0 m 44 ls []) := by
    intro n44
    induction n44 with
    | zero =>
      intro fr9 pt9 tk9 vl9 tx9 iw9 st9 ct9 E9 gf9 gb9 hrg ht9 hi9 hc9 hs9 hR hF hG hm44 H locs ls h hl
      exact absurd hm44 (Nat.not_lt_zero _)
    | succ n44 ih44 =>
      intro fr9 pt9 tk9 vl9 tx9 iw9 st9 ct9 E9 gf9 gb9 hrg ht9 hi9 hc9 hs9 hR hF hG hm44 H locs ls h hl
      refine lv_aload_n B.1 B.2.1 dX12_reads_44 rfl (lv_at hl 0 rfl) ?_
      refine y_getX B h kX12 50 (wu_at (wu_at (wu_at wu_eq (by decide)) (by decide)) (by decide)) 37 (z := tk9) rfl m_1298 (by decide) dX12_reads_45 ?_
      refine x_if_eq B (by omega) (tgt := 126) dX12_reads_48 (by decide) (fun c8 => ?_) (fun c8 => ?_)
      · refine lv_aload_n B.1 B.2.1 dX12_reads_126 rfl (lv_at hl 0 rfl) ?_
        refine y_getX B h kX12 50 (wu_at (wu_at (wu_at wu_eq (by decide)) (by decide)) (by decide)) 43 (z := iw9) rfl m_1304 (by decide) dX12_reads_127 ?_
        refine x_if_eq B (by omega) (tgt := 135) dX12_reads_130 (by decide) (fun c9 => ?_) (fun c9 => ?_)
        · refine lv_aload_n B.1 B.2.1 dX12_reads_135 rfl (lv_at hl 0 rfl) ?_
          refine y_getR B h kX12 50 (wu_at (wu_at (wu_at wu_eq (by decide)) (by decide)) (by decide)) 21 (b := am 16) rfl m_1282 (by decide) dX12_reads_136 ?_
          refine lv_aload_n B.1 B.2.1 dX12_reads_139 rfl (lv_at hl 0 rfl) ?_
          refine y_getX B h kX12 50 (wu_at (wu_at (wu_at wu_eq (by decide)) (by decide)) (by decide)) 39 (z := pl) rfl m_1300 (by decide) dX12_reads_140 ?_
          refine lv_aload_n B.1 B.2.1 dX12_reads_143 rfl (lv_at hl 0 rfl) ?_
          refine y_getX B h kX12 50 (wu_at (wu_at (wu_at wu_eq (by decide)) (by decide)) (by decide)) 40 (z := ct9) rfl m_1301 (by decide) dX12_reads_144 ?_
          refine y_iast B h 66 (wu_at (wu_at (wu_at (wu_at (wu_at (wu_at (MW.f hM 16 _ rfl) (by decide)) (by decide)) (by decide)) (by decide)) (by decide)) (by decide)) (by omega) (P' := gX 25 (iu (fun j => E 1 (j : Int)) pl ct9)) (gX_upd (by omega)) dX12_reads_147 (fun H locs h => ?_)
          have h : yH D Zk A s ((wu (wu (wu (wu (wu (wu (wu w 69 (am 19, xAI (ca 0) 1000 (gG 1000 (-12) 12))) 75 (am 25, xAI (ca 3) 900 (gX 900 g1))) 50 (am 0, mO am T (fX (E 0 0)) (fG 0 900) (fG (-2147483648) 2147483647) (fX n) (fX pt9) (fX fr9) (fX tk9) (fX vl9) (fX pl) (fX ct9) (fX st9) (fY tx9) (fX iw9) (fG 0 48) (fG 0 9) (fX (E 0 5)))) 73 (am 23, xAI (ca 0) 8000 (gX 8000 (fun j => E9 4 (j : Int))))) 71 (am 21, xAI (ca 0) 1000 (gX 1000 gf9))) 72 (am 22, xAI (ca 0) 1000 (gX 1000 gb9))) 66 (am 16, xAI (ca 0) 25 (gX 25 (iu (fun j => E 1 (j : Int)) pl ct9))))) _ _ := h
          refine x_iconst B dX12_reads_148 ?_
          rw [wu_comm (show (69 : Nat) ≠ 75 by decide), wu_comm (show (69 : Nat) ≠ 50 by decide), wu_comm (show (69 : Nat) ≠ 73 by decide), wu_comm (show (69 : Nat) ≠ 71 by decide), wu_comm (show (69 : Nat) ≠ 72 by decide), wu_comm (show (69 : Nat) ≠ 66 by decide)] at h
          have h : yH D Zk A s ((wu (wu (wu (wu (wu (wu (wu w 75 (am 25, xAI (ca 3) 900 (gX 900 g1))) 50 (am 0, mO am T (fX (E 0 0)) (fG 0 900) (fG (-2147483648) 2147483647) (fX n) (fX pt9) (fX fr9) (fX tk9) (fX vl9) (fX pl) (fX ct9) (fX st9) (fY tx9) (fX iw9) (fG 0 48) (fG 0 9) (fX (E 0 5)))) 73 (am 23, xAI (ca 0) 8000 (gX 8000 (fun j => E9 4 (j : Int))))) 71 (am 21, xAI (ca 0) 1000 (gX 1000 gf9))) 72 (am 22, xAI (ca 0) 1000 (gX 1000 gb9))) 66 (am 16, xAI (ca 0) 25 (gX 25 (iu (fun j => E 1 (j : Int)) pl ct9)))) 69 (am 19, xAI (ca 0) 1000 (gG 1000 (-12) 12)))) _ _ := h
          obtain ⟨g10, hg10, h⟩ := yH.pinG h wu_eq
          rw [wu_wu] at h
          have h : yH D Zk A s ((wu (wu (wu (wu (wu (wu (wu w 75 (am 25, xAI (ca 3) 900 (gX 900 g1))) 50 (am 0, mO am T (fX (E 0 0)) (fG 0 900) (fG (-2147483648) 2147483647) (fX n) (fX pt9) (fX fr9) (fX tk9) (fX vl9) (fX pl) (fX ct9) (fX st9) (fY tx9) (fX iw9) (fG 0 48) (fG 0 9) (fX (E 0 5)))) 73 (am 23, xAI (ca 0) 8000 (gX 8000 (fun j => E9 4 (j : Int))))) 71 (am 21, xAI (ca 0) 1000 (gX 1000 gf9))) 72 (am 22, xAI (ca 0) 1000 (gX 1000 gb9))) 66 (am 16, xAI (ca 0) 25 (gX 25 (iu (fun j => E 1 (j : Int)) pl ct9)))) 69 (am 19, xAI (ca 0) 1000 (gX 1000 g10)))) _ _ := h
          rw [wu_comm (show (50 : Nat) ≠ 73 by decide), wu_comm (show (50 : Nat) ≠ 71 by decide), wu_comm (show (50 : Nat) ≠ 72 by decide), wu_comm (show (50 : Nat) ≠ 66 by decide), wu_comm (show (50 : Nat) ≠ 69 by decide)] at h
          have h : yH D Zk A s ((wu (wu (wu (wu (wu (wu (wu w 75 (am 25, xAI (ca 3) 900 (gX 900 g1))) 73 (am 23, xAI (ca 0) 8000 (gX 8000 (fun j => E9 4 (j : Int))))) 71 (am 21, xAI (ca 0) 1000 (gX 1000 gf9))) 72 (am 22, xAI (ca 0) 1000 (gX 1000 gb9))) 66 (am 16, xAI (ca 0) 25 (gX 25 (iu (fun j => E 1 (j : Int)) pl ct9)))) 69 (am 19, xAI (ca 0) 1000 (gX 1000 g10))) 50 (am 0, mO am T (fX (E 0 0)) (fG 0 900) (fG (-2147483648) 2147483647) (fX n) (fX pt9) (fX fr9) (fX tk9) (fX vl9) (fX pl) (fX ct9) (fX st9) (fY tx9) (fX iw9) (fG 0 48) (fG 0 9) (fX (E 0 5))))) _ _ := h
          have h : yH D Zk A s ((wu (wu (wu (wu (wu (wu w 75 (am 25, xAI (ca 3) 900 (gX 900 g1))) 73 (am 23, xAI (ca 0) 8000 (gX 8000 (fun j => E9 4 (j : Int))))) 71 (am 21, xAI (ca 0) 1000 (gX 1000 gf9))) 72 (am 22, xAI (ca 0) 1000 (gX 1000 gb9))) 66 (am 16, xAI (ca 0) 25 (gX 25 (iu (fun j => E 1 (j : Int)) pl ct9)))) 69 (am 19, xAI (ca 0) 1000 (gX 1000 g10)))) _ _ := yH.unpin h (wu_at (wu_at (wu_at (wu_at (wu_at (wu_at (MW.f hM 0 _ rfl) (by decide)) (by decide)) (by decide)) (by decide)) (by decide)) (by decide)) (xO_le (fLe_cons (fun _ x => x) (fLe_cons (fun _ x => x) (fLe_cons (fun _ x => x) (fLe_cons (fun _ x => x) (fLe_cons (fun _ x => x) (fLe_cons (fun _ x => x) (fLe_cons (fun _ x => x) (fLe_cons (fun _ x => x) (fLe_cons (fun _ x => x) (fLe_cons (fun _ x => x) (fLe_cons (fun _ x => x) (fLe_cons (fun _ x => x) (fLe_cons (fun _ x => x) (fLe_cons (fun _ x => x) (fLe_cons (fun _ x => x) (fLe_cons (fun _ x => x) (fLe_cons (fun _ x => x) (fLe_cons (fun _ x => x) (fLe_cons (fun _ x => x) (fLe_cons (fun _ x => x) (fLe_cons (fun _ x => x) (fLe_cons (fun _ x => x) (fLe_cons (fun _ x => x) (fLe_cons (fun _ x => x) (fLe_cons (fun _ x => x) (fLe_cons (fun _ x => x) (fLe_cons (fun _ x => x) (fLe_cons (fun _ x => x) (fLe_cons (fun _ x => x) (fLe_cons (fun _ x => x) (fLe_cons (fun _ x => x) (fLe_cons (fun _ x => x) (fLe_cons (fun _ x => x) (fLe_cons (fun _ x => x) (fLe_cons (fX_G (by omega)) (fLe_cons (fX_G (by omega)) (fLe_cons (fX_G (by omega)) (fLe_cons (fX_G (by omega)) (fLe_cons (fX_G (by omega)) (fLe_cons (fX_G (by omega)) (fLe_cons (fX_G (by omega)) (fLe_cons (fX_G (by omega)) (fLe_cons (fun _ x => ⟨_, x⟩) (fLe_cons (fX_G (by omega)) (fLe_cons (fun _ x => x) (fLe_cons (fun _ x => x) (fLe_cons (fun _ x => x) (fLe_cons (fun _ x => x) (fLe_cons (fun _ x => x) (fLe_cons (fun _ x => x) (fLe_cons (fun _ x => x) (fLe_cons (fun _ x => x) (fLe_cons (fun _ x => x) (fLe_cons (fun _ x => x) (fLe_cons (fun _ x => x) (fLe_cons (fun _ x => x) (fLe_cons (fun _ x => x) (fLe_cons (fun _ x => x) (fLe_cons (fun _ x => x) (fLe_cons (fun _ x => x) (fLe_cons (fun _ x => x) (fLe_cons (fun _ x => x) (fLe_cons (fun _ x => x) (fLe_cons (fun _ x => x) (fLe_cons (fun _ x => x) (fLe_cons (fun _ x => x) (fLe_cons (fun _ x => x) (fLe_cons (fun _ x => x) (fLe_cons (fun _ x => x) (fLe_cons (fun _ x => x) (fLe_cons (fun _ x => x) (fLe_cons (fun _ x => x) (fLe_cons (fun _ x => x) (fLe_cons (fun _ x => x) (fLe_cons (fun _ x => x) (fLe_cons (fun _ x => x) (fLe_cons (fun _ x => x) (fLe_cons (fun _ x => x) (fLe_cons (fun _ x => x) (fLe_cons (fun _ x => x) fLe_nil)))))))))))))))))))))))))))))))))))))))))))))))))))))))))))))))))))))))))))))))))
          rw [wu_comm (show (75 : Nat) ≠ 73 by decide), wu_comm (show (75 : Nat) ≠ 71 by decide), wu_comm (show (75 : Nat) ≠ 72 by decide), wu_comm (show (75 : Nat) ≠ 66 by decide), wu_comm (show (75 : Nat) ≠ 69 by decide)] at h
          have h : yH D Zk A s ((wu (wu (wu (wu (wu (wu w 73 (am 23, xAI (ca 0) 8000 (gX 8000 (fun j => E9 4 (j : Int))))) 71 (am 21, xAI (ca 0) 1000 (gX 1000 gf9))) 72 (am 22, xAI (ca 0) 1000 (gX 1000 gb9))) 66 (am 16, xAI (ca 0) 25 (gX 25 (iu (fun j => E 1 (j : Int)) pl ct9)))) 69 (am 19, xAI (ca 0) 1000 (gX 1000 g10))) 75 (am 25, xAI (ca 3) 900 (gX 900 g1)))) _ _ := h
          have h : yH D Zk A s ((wu (wu (wu (wu (wu w 73 (am 23, xAI (ca 0) 8000 (gX 8000 (fun j => E9 4 (j : Int))))) 71 (am 21, xAI (ca 0) 1000 (gX 1000 gf9))) 72 (am 22, xAI (ca 0) 1000 (gX 1000 gb9))) 66 (am 16, xAI (ca 0) 25 (gX 25 (iu (fun j => E 1 (j : Int)) pl ct9)))) 69 (am 19, xAI (ca 0) 1000 (gX 1000 g10)))) _ _ := yH.unpin h (wu_at (wu_at (wu_at (wu_at (wu_at (MW.f hM 25 _ rfl) (by decide)) (by decide)) (by decide)) (by decide)) (by decide)) (xAI_any)
          refine y_rz B hQ h (by decide) (by decide) dX12_reads_149 ?_
          exact ⟨_, rfl, _, MW.ex hM (pe_rd (gs := iu (fun j => E 1 (j : Int)) pl ct9) (MW.pe hM) hpl2 (fun j hj => iu_o hj) (fun j => by unfold iu; split; omega; exact pe_1 (MW.pe hM) _) hG hF hg10) (fun k k0 k1 k2 k3 k4 => by rw [wu_ne (by omega), wu_ne (by omega), wu_ne (by omega), wu_ne (by omega), wu_ne (by omega)]) (wu_at wu_eq (by decide)) wu_eq (wu_at (wu_at (wu_at wu_eq (by decide)) (by decide)) (by decide)) (wu_at (wu_at wu_eq (by decide)) (by decide)) (wu_at (wu_at (wu_at (wu_at wu_eq (by decide)) (by decide)) (by decide)) (by decide)), fun k h1 => by rw [wu_ne (by omega), wu_ne (by omega), wu_ne (by omega), wu_ne (by omega), wu_ne (by omega)], fun j => rfl, Or.inl ⟨rfl, SLOT_of (hR (by omega)) (iu_eq (by omega)) (by omega)⟩⟩
        · refine x_iconst B dX12_reads_133 ?_
          rw [wu_comm (show (69 : Nat) ≠ 75 by decide), wu_comm (show (69 : Nat) ≠ 50 by decide), wu_comm (show (69 : Nat) ≠ 73 by decide), wu_comm (show (69 : Nat) ≠ 71 by decide), wu_comm (show (69 : Nat) ≠ 72 by decide)] at h
          have h : yH D Zk A s ((wu (wu (wu (wu (wu (wu w 75 (am 25, xAI (ca 3) 900 (gX 900 g1))) 50 (am 0, mO am T (fX (E 0 0)) (fG 0 900) (fG (-2147483648) 2147483647) (fX n) (fX pt9) (fX fr9) (fX tk9) (fX vl9) (fX pl) (fX ct9) (fX st9) (fY tx9) (fX iw9) (fG 0 48) (fG 0 9) (fX (E 0 5)))) 73 (am 23, xAI (ca 0) 8000 (gX 8000 (fun j => E9 4 (j : Int))))) 71 (am 21, xAI (ca 0) 1000 (gX 1000 gf9))) 72 (am 22, xAI (ca 0) 1000 (gX 1000 gb9))) 69 (am 19, xAI (ca 0) 1000 (gG 1000 (-12) 12)))) _ _ := h
          obtain ⟨g11, hg11, h⟩ := yH.pinG h wu_eq
          rw [wu_wu] at h
          have h : yH D Zk A s ((wu (wu (wu (wu (wu (wu w 75 (am 25, xAI (ca 3) 900 (gX 900 g1))) 50 (am 0, mO am T (fX (E 0 0)) (fG 0 900) (fG (-2147483648) 2147483647) (fX n) (fX pt9) (fX fr9) (fX tk9) (fX vl9) (fX pl) (fX ct9) (fX st9) (fY tx9) (fX iw9) (fG 0 48) (fG 0 9) (fX (E 0 5)))) 73 (am 23, xAI (ca 0) 8000 (gX 8000 (fun j => E9 4 (j : Int))))) 71 (am 21, xAI (ca 0) 1000 (gX 1000 gf9))) 72 (am 22, xAI (ca 0) 1000 (gX 1000 gb9))) 69 (am 19, xAI (ca 0) 1000 (gX 1000 g11)))) _ _ := h
          rw [wu_comm (show (50 : Nat) ≠ 73 by decide), wu_comm (show (50 : Nat) ≠ 71 by decide), wu_comm (show (50 : Nat) ≠ 72 by decide), wu_comm (show (50 : Nat) ≠ 69 by decide)] at h
          have h : yH D Zk A s ((wu (wu (wu (wu (wu (wu w 75 (am 25, xAI (ca 3) 900 (gX 900 g1))) 73 (am 23, xAI (ca 0) 8000 (gX 8000 (fun j => E9 4 (j : Int))))) 71 (am 21, xAI (ca 0) 1000 (gX 1000 gf9))) 72 (am 22, xAI (ca 0) 1000 (gX 1000 gb9))) 69 (am 19, xAI (ca 0) 1000 (gX 1000 g11))) 50 (am 0, mO am T (fX (E 0 0)) (fG 0 900) (fG (-2147483648) 2147483647) (fX n) (fX pt9) (fX fr9) (fX tk9) (fX vl9) (fX pl) (fX ct9) (fX st9) (fY tx9) (fX iw9) (fG 0 48) (fG 0 9) (fX (E 0 5))))) _ _ := h
          have h : yH D Zk A s ((wu (wu (wu (wu (wu w 75 (am 25, xAI (ca 3) 900 (gX 900 g1))) 73 (am 23, xAI (ca 0) 8000 (gX 8000 (fun j => E9 4 (j : Int))))) 71 (am 21, xAI (ca 0) 1000 (gX 1000 gf9))) 72 (am 22, xAI (ca 0) 1000 (gX 1000 gb9))) 69 (am 19, xAI (ca 0) 1000 (gX 1000 g11)))) _ _ := yH.unpin h (wu_at (wu_at (wu_at (wu_at (wu_at (MW.f hM 0 _ rfl) (by decide)) (by decide)) (by decide)) (by decide)) (by decide)) (xO_le (fLe_cons (fun _ x => x) (fLe_cons (fun _ x => x) (fLe_cons (fun _ x => x) (fLe_cons (fun _ x => x) (fLe_cons (fun _ x => x) (fLe_cons (fun _ x => x) (fLe_cons (fun _ x => x) (fLe_cons (fun _ x => x) (fLe_cons (fun _ x => x) (fLe_cons (fun _ x => x) (fLe_cons (fun _ x => x) (fLe_cons (fun _ x => x) (fLe_cons (fun _ x => x) (fLe_cons (fun _ x => x) (fLe_cons (fun _ x => x) (fLe_cons (fun _ x => x) (fLe_cons (fun _ x => x) (fLe_cons (fun _ x => x) (fLe_cons (fun _ x => x) (fLe_cons (fun _ x => x) (fLe_cons (fun _ x => x) (fLe_cons (fun _ x => x) (fLe_cons (fun _ x => x) (fLe_cons (fun _ x => x) (fLe_cons (fun _ x => x) (fLe_cons (fun _ x => x) (fLe_cons (fun _ x => x) (fLe_cons (fun _ x => x) (fLe_cons (fun _ x => x) (fLe_cons (fun _ x => x) (fLe_cons (fun _ x => x) (fLe_cons (fun _ x => x) (fLe_cons (fun _ x => x) (fLe_cons (fun _ x => x) (fLe_cons (fX_G (by omega)) (fLe_cons (fX_G (by omega)) (fLe_cons (fX_G (by omega)) (fLe_cons (fX_G (by omega)) (fLe_cons (fX_G (by omega)) (fLe_cons (fX_G (by omega)) (fLe_cons (fX_G (by omega)) (fLe_cons (fX_G (by omega)) (fLe_cons (fun _ x => ⟨_, x⟩) (fLe_cons (fX_G (by omega)) (fLe_cons (fun _ x => x) (fLe_cons (fun _ x => x) (fLe_cons (fun _ x => x) (fLe_cons (fun _ x => x) (fLe_cons (fun _ x => x) (fLe_cons (fun _ x => x) (fLe_cons (fun _ x => x) (fLe_cons (fun _ x => x) (fLe_cons (fun _ x => x) (fLe_cons (fun _ x => x) (fLe_cons (fun _ x => x) (fLe_cons (fun _ x => x) (fLe_cons (fun _ x => x) (fLe_cons (fun _ x => x) (fLe_cons (fun _ x => x) (fLe_cons (fun _ x => x) (fLe_cons (fun _ x => x) (fLe_cons (fun _ x => x) (fLe_cons (fun _ x => x) (fLe_cons (fun _ x => x) (fLe_cons (fun _ x => x) (fLe_cons (fun _ x => x) (fLe_cons (fun _ x => x) (fLe_cons (fun _ x => x) (fLe_cons (fun _ x => x) (fLe_cons (fun _ x => x) (fLe_cons (fun _ x => x) (fLe_cons (fun _ x => x) (fLe_cons (fun _ x => x) (fLe_cons (fun _ x => x) (fLe_cons (fun _ x => x) (fLe_cons (fun _ x => x) (fLe_cons (fun _ x => x) (fLe_cons (fun _ x => x) (fLe_cons (fun _ x => x) (fLe_cons (fun _ x => x) fLe_nil)))))))))))))))))))))))))))))))))))))))))))))))))))))))))))))))))))))))))))))))))
          rw [wu_comm (show (75 : Nat) ≠ 73 by decide), wu_comm (show (75 : Nat) ≠ 71 by decide), wu_comm (show (75 : Nat) ≠ 72 by decide), wu_comm (show (75 : Nat) ≠ 69 by decide)] at h
          have h : yH D Zk A s ((wu (wu (wu (wu (wu w 73 (am 23, xAI (ca 0) 8000 (gX 8000 (fun j => E9 4 (j : Int))))) 71 (am 21, xAI (ca 0) 1000 (gX 1000 gf9))) 72 (am 22, xAI (ca 0) 1000 (gX 1000 gb9))) 69 (am 19, xAI (ca 0) 1000 (gX 1000 g11))) 75 (am 25, xAI (ca 3) 900 (gX 900 g1)))) _ _ := h
          have h : yH D Zk A s ((wu (wu (wu (wu w 73 (am 23, xAI (ca 0) 8000 (gX 8000 (fun j => E9 4 (j : Int))))) 71 (am 21, xAI (ca 0) 1000 (gX 1000 gf9))) 72 (am 22, xAI (ca 0) 1000 (gX 1000 gb9))) 69 (am 19, xAI (ca 0) 1000 (gX 1000 g11)))) _ _ := yH.unpin h (wu_at (wu_at (wu_at (wu_at (MW.f hM 25 _ rfl) (by decide)) (by decide)) (by decide)) (by decide)) (xAI_any)
          refine y_rz B hQ h (by decide) (by decide) dX12_reads_134 ?_
          exact ⟨_, rfl, _, MW.ex hM (pe_rd (gs := fun j => E 1 (j : Int)) (MW.pe hM) hpl2 (fun j hj => rfl) (fun j => pe_1 (MW.pe hM) _) hG hF hg11) (fun k k0 k1 k2 k3 k4 => by rw [wu_ne (by omega), wu_ne (by omega), wu_ne (by omega), wu_ne (by omega)]) (wu_at (wu_at (wu_at (wu_at (MW.f hM 16 _ rfl) (by decide)) (by decide)) (by decide)) (by decide)) wu_eq (wu_at (wu_at wu_eq (by decide)) (by decide)) (wu_at wu_eq (by decide)) (wu_at (wu_at (wu_at wu_eq (by decide)) (by decide)) (by decide)), fun k h1 => by rw [wu_ne (by omega), wu_ne (by omega), wu_ne (by omega), wu_ne (by omega)], fun j => rfl, Or.inr rfl⟩
      · refine lv_aload_n B.1 B.2.1 dX12_reads_51 rfl (lv_at hl 0 rfl) ?_
        refine y_getX B h kX12 50 (wu_at (wu_at (wu_at wu_eq (by decide)) (by decide)) (by decide)) 43 (z := iw9) rfl m_1304 (by decide) dX12_reads_52 ?_
        refine x_if_ne B (by omega) (tgt := 126) dX12_reads_55 (by decide) (fun c12 => ?_) (fun c12 => ?_)
        · refine lv_aload_n B.1 B.2.1 dX12_reads_126 rfl (lv_at hl 0 rfl) ?_
          refine y_getX B h kX12 50 (wu_at (wu_at (wu_at wu_eq (by decide)) (by decide)) (by decide)) 43 (z := iw9) rfl m_1304 (by decide) dX12_reads_127 ?_
          refine x_if_eq B (by omega) (tgt := 135) dX12_reads_130 (by decide) (fun c13 => ?_) (fun c13 => ?_)
          · refine lv_aload_n B.1 B.2.1 dX12_reads_135 rfl (lv_at hl 0 rfl) ?_
            refine y_getR B h kX12 50 (wu_at (wu_at (wu_at wu_eq (by decide)) (by decide)) (by decide)) 21 (b := am 16) rfl m_1282 (by decide) dX12_reads_136 ?_
            refine lv_aload_n B.1 B.2.1 dX12_reads_139 rfl (lv_at hl 0 rfl) ?_
            refine y_getX B h kX12 50 (wu_at (wu_at (wu_at wu_eq (by decide)) (by decide)) (by decide)) 39 (z := pl) rfl m_1300 (by decide) dX12_reads_140 ?_
            refine lv_aload_n B.1 B.2.1 dX12_reads_143 rfl (lv_at hl 0 rfl) ?_
            refine y_getX B h kX12 50 (wu_at (wu_at (wu_at wu_eq (by decide)) (by decide)) (by decide)) 40 (z := ct9) rfl m_1301 (by decide) dX12_reads_144 ?_
            refine y_iast B h 66 (wu_at (wu_at (wu_at (wu_at (wu_at (wu_at (MW.f hM 16 _ rfl) (by decide)) (by decide)) (by decide)) (by decide)) (by decide)) (by decide)) (by omega) (P' := gX 25 (iu (fun j => E 1 (j : Int)) pl ct9)) (gX_upd (by omega)) dX12_reads_147 (fun H locs h => ?_)
            have h : yH D Zk A s ((wu (wu (wu (wu (wu (wu (wu w 69 (am 19, xAI (ca 0) 1000 (gG 1000 (-12) 12))) 75 (am 25, xAI (ca 3) 900 (gX 900 g1))) 50 (am 0, mO am T (fX (E 0 0)) (fG 0 900) (fG (-2147483648) 2147483647) (fX n) (fX pt9) (fX fr9) (fX tk9) (fX vl9) (fX pl) (fX ct9) (fX st9) (fY tx9) (fX iw9) (fG 0 48) (fG 0 9) (fX (E 0 5)))) 73 (am 23, xAI (ca 0) 8000 (gX 8000 (fun j => E9 4 (j : Int))))) 71 (am 21, xAI (ca 0) 1000 (gX 1000 gf9))) 72 (am 22, xAI (ca 0) 1000 (gX 1000 gb9))) 66 (am 16, xAI (ca 0) 25 (gX 25 (iu (fun j => E 1 (j : Int)) pl ct9))))) _ _ := h
            refine x_iconst B dX12_reads_148 ?_
            rw [wu_comm (show (69 : Nat) ≠ 75 by decide), wu_comm (show (69 : Nat) ≠ 50 by decide), wu_comm (show (69 : Nat) ≠ 73 by decide), wu_comm (show (69 : Nat) ≠ 71 by decide), wu_comm (show (69 : Nat) ≠ 72 by decide), wu_comm (show (69 : Nat) ≠ 66 by decide)] at h
            have h : yH D Zk A s ((wu (wu (wu (wu (wu (wu (wu w 75 (am 25, xAI (ca 3) 900 (gX 900 g1))) 50 (am 0, mO am T (fX (E 0 0)) (fG 0 900) (fG (-2147483648) 2147483647) (fX n) (fX pt9) (fX fr9) (fX tk9) (fX vl9) (fX pl) (fX ct9) (fX st9) (fY tx9) (fX iw9) (fG 0 48) (fG 0 9) (fX (E 0 5)))) 73 (am 23, xAI (ca 0) 8000 (gX 8000 (fun j => E9 4 (j : Int))))) 71 (am 21, xAI (ca 0) 1000 (gX 1000 gf9))) 72 (am 22, xAI (ca 0) 1000 (gX 1000 gb9))) 66 (am 16, xAI (ca 0) 25 (gX 25 (iu (fun j => E 1 (j : Int)) pl ct9)))) 69 (am 19, xAI (ca 0) 1000 (gG 1000 (-12) 12)))) _ _ := h
            obtain ⟨g14, hg14, h⟩ := yH.pinG h wu_eq
            rw [wu_wu] at h
            have h : yH D Zk A s ((wu (wu (wu (wu (wu (wu (wu w 75 (am 25, xAI (ca 3) 900 (gX 900 g1))) 50 (am 0, mO am T (fX (E 0 0)) (fG 0 900) (fG (-2147483648) 2147483647) (fX n) (fX pt9) (fX fr9) (fX tk9) (fX vl9) (fX pl) (fX ct9) (fX st9) (fY tx9) (fX iw9) (fG 0 48) (fG 0 9) (fX (E 0 5)))) 73 (am 23, xAI (ca 0) 8000 (gX 8000 (fun j => E9 4 (j : Int))))) 71 (am 21, xAI (ca 0) 1000 (gX 1000 gf9))) 72 (am 22, xAI (ca 0) 1000 (gX 1000 gb9))) 66 (am 16, xAI (ca 0) 25 (gX 25 (iu (fun j => E 1 (j : Int)) pl ct9)))) 69 (am 19, xAI (ca 0) 1000 (gX 1000 g14)))) _ _ := h
            rw [wu_comm (show (50 : Nat) ≠ 73 by decide), wu_comm (show (50 : Nat) ≠ 71 by decide), wu_comm (show (50 : Nat) ≠ 72 by decide), wu_comm (show (50 : Nat) ≠ 66 by decide), wu_comm (show (50 : Nat) ≠ 69 by decide)] at h
            have h : yH D Zk A s ((wu (wu (wu (wu (wu (wu (wu w 75 (am 25, xAI (ca 3) 900 (gX 900 g1))) 73 (am 23, xAI (ca 0) 8000 (gX 8000 (fun j => E9 4 (j : Int))))) 71 (am 21, xAI (ca 0) 1000 (gX 1000 gf9))) 72 (am 22, xAI (ca 0) 1000 (gX 1000 gb9))) 66 (am 16, xAI (ca 0) 25 (gX 25 (iu (fun j => E 1 (j : Int)) pl ct9)))) 69 (am 19, xAI (ca 0) 1000 (gX 1000 g14))) 50 (am 0, mO am T (fX (E 0 0)) (fG 0 900) (fG (-2147483648) 2147483647) (fX n) (fX pt9) (fX fr9) (fX tk9) (fX vl9) (fX pl) (fX ct9) (fX st9) (fY tx9) (fX iw9) (fG 0 48) (fG 0 9) (fX (E 0 5))))) _ _ := h
            have h : yH D Zk A s ((wu (wu (wu (wu (wu (wu w 75 (am 25, xAI (ca 3) 900 (gX 900 g1))) 73 (am 23, xAI (ca 0) 8000 (gX 8000 (fun j => E9 4 (j : Int))))) 71 (am 21, xAI (ca 0) 1000 (gX 1000 gf9))) 72 (am 22, xAI (ca 0) 1000 (gX 1000 gb9))) 66 (am 16, xAI (ca 0) 25 (gX 25 (iu (fun j => E 1 (j : Int)) pl ct9)))) 69 (am 19, xAI (ca 0) 1000 (gX 1000 g14)))) _ _ := yH.unpin h (wu_at (wu_at (wu_at (wu_at (wu_at (wu_at (MW.f hM 0 _ rfl) (by decide)) (by decide)) (by decide)) (by decide)) (by decide)) (by decide)) (xO_le (fLe_cons (fun _ x => x) (fLe_cons (fun _ x => x) (fLe_cons (fun _ x => x) (fLe_cons (fun _ x => x) (fLe_cons (fun _ x => x) (fLe_cons (fun _ x => x) (fLe_cons (fun _ x => x) (fLe_cons (fun _ x => x) (fLe_cons (fun _ x => x) (fLe_cons (fun _ x => x) (fLe_cons (fun _ x => x) (fLe_cons (fun _ x => x) (fLe_cons (fun _ x => x) (fLe_cons (fun _ x => x) (fLe_cons (fun _ x => x) (fLe_cons (fun _ x => x) (fLe_cons (fun _ x => x) (fLe_cons (fun _ x => x) (fLe_cons (fun _ x => x) (fLe_cons (fun _ x => x) (fLe_cons (fun _ x => x) (fLe_cons (fun _ x => x) (fLe_cons (fun _ x => x) (fLe_cons (fun _ x => x) (fLe_cons (fun _ x => x) (fLe_cons (fun _ x => x) (fLe_cons (fun _ x => x) (fLe_cons (fun _ x => x) (fLe_cons (fun _ x => x) (fLe_cons (fun _ x => x) (fLe_cons (fun _ x => x) (fLe_cons (fun _ x => x) (fLe_cons (fun _ x => x) (fLe_cons (fun _ x => x) (fLe_cons (fX_G (by omega)) (fLe_cons (fX_G (by omega)) (fLe_cons (fX_G (by omega)) (fLe_cons (fX_G (by omega)) (fLe_cons (fX_G (by omega)) (fLe_cons (fX_G (by omega)) (fLe_cons (fX_G (by omega)) (fLe_cons (fX_G (by omega)) (fLe_cons (fun _ x => ⟨_, x⟩) (fLe_cons (fX_G (by omega)) (fLe_cons (fun _ x => x) (fLe_cons (fun _ x => x) (fLe_cons (fun _ x => x) (fLe_cons (fun _ x => x) (fLe_cons (fun _ x => x) (fLe_cons (fun _ x => x) (fLe_cons (fun _ x => x) (fLe_cons (fun _ x => x) (fLe_cons (fun _ x => x) (fLe_cons (fun _ x => x) (fLe_cons (fun _ x => x) (fLe_cons (fun _ x => x) (fLe_cons (fun _ x => x) (fLe_cons (fun _ x => x) (fLe_cons (fun _ x => x) (fLe_cons (fun _ x => x) (fLe_cons (fun _ x => x) (fLe_cons (fun _ x => x) (fLe_cons (fun _ x => x) (fLe_cons (fun _ x => x) (fLe_cons (fun _ x => x) (fLe_cons (fun _ x => x) (fLe_cons (fun _ x => x) (fLe_cons (fun _ x => x) (fLe_cons (fun _ x => x) (fLe_cons (fun _ x => x) (fLe_cons (fun _ x => x) (fLe_cons (fun _ x => x) (fLe_cons (fun _ x => x) (fLe_cons (fun _ x => x) (fLe_cons (fun _ x => x) (fLe_cons (fun _ x => x) (fLe_cons (fun _ x => x) (fLe_cons (fun _ x => x) (fLe_cons (fun _ x => x) (fLe_cons (fun _ x => x) fLe_nil)))))))))))))))))))))))))))))))))))))))))))))))))))))))))))))))))))))))))))))))))
            rw [wu_comm (show (75 : Nat) ≠ 73 by decide), wu_comm (show (75 : Nat) ≠ 71 by decide), wu_comm (show (75 : Nat) ≠ 72 by decide), wu_comm (show (75 : Nat) ≠ 66 by decide), wu_comm (show (75 : Nat) ≠ 69 by decide)] at h
            have h : yH D Zk A s ((wu (wu (wu (wu (wu (wu w 73 (am 23, xAI (ca 0) 8000 (gX 8000 (fun j => E9 4 (j : Int))))) 71 (am 21, xAI (ca 0) 1000 (gX 1000 gf9))) 72 (am 22, xAI (ca 0) 1000 (gX 1000 gb9))) 66 (am 16, xAI (ca 0) 25 (gX 25 (iu (fun j => E 1 (j : Int)) pl ct9)))) 69 (am 19, xAI (ca 0) 1000 (gX 1000 g14))) 75 (am 25, xAI (ca 3) 900 (gX 900 g1)))) _ _ := h
            have h : yH D Zk A s ((wu (wu (wu (wu (wu w 73 (am 23, xAI (ca 0) 8000 (gX 8000 (fun j => E9 4 (j : Int))))) 71 (am 21, xAI (ca 0) 1000 (gX 1000 gf9))) 72 (am 22, xAI (ca 0) 1000 (gX 1000 gb9))) 66 (am 16, xAI (ca 0) 25 (gX 25 (iu (fun j => E 1 (j : Int)) pl ct9)))) 69 (am 19, xAI (ca 0) 1000 (gX 1000 g14)))) _ _ := yH.unpin h (wu_at (wu_at (wu_at (wu_at (wu_at (MW.f hM 25 _ rfl) (by decide)) (by decide)) (by decide)) (by decide)) (by decide)) (xAI_any)
            refine y_rz B hQ h (by decide) (by decide) dX12_reads_149 ?_
            exact ⟨_, rfl, _, MW.ex hM (pe_rd (gs := iu (fun j => E 1 (j : Int)) pl ct9) (MW.pe hM) hpl2 (fun j hj => iu_o hj) (fun j => by unfold iu; split; omega; exact pe_1 (MW.pe hM) _) hG hF hg14) (fun k k0 k1 k2 k3 k4 => by rw [wu_ne (by omega), wu_ne (by omega), wu_ne (by omega), wu_ne (by omega), wu_ne (by omega)]) (wu_at wu_eq (by decide)) wu_eq (wu_at (wu_at (wu_at wu_eq (by decide)) (by decide)) (by decide)) (wu_at (wu_at wu_eq (by decide)) (by decide)) (wu_at (wu_at (wu_at (wu_at wu_eq (by decide)) (by decide)) (by decide)) (by decide)), fun k h1 => by rw [wu_ne (by omega), wu_ne (by omega), wu_ne (by omega), wu_ne (by omega), wu_ne (by omega)], fun j => rfl, Or.inl ⟨rfl, SLOT_of (hR (by omega)) (iu_eq (by omega)) (by omega)⟩⟩
          · refine x_iconst B dX12_reads_133 ?_
            rw [wu_comm (show (69 : Nat) ≠ 75 by decide), wu_comm (show (69 : Nat) ≠ 50 by decide), wu_comm (show (69 : Nat) ≠ 73 by decide), wu_comm (show (69 : Nat) ≠ 71 by decide), wu_comm (show (69 : Nat) ≠ 72 by decide)] at h
            have h : yH D Zk A s ((wu (wu (wu (wu (wu (wu w 75 (am 25, xAI (ca 3) 900 (gX 900 g1))) 50 (am 0, mO am T (fX (E 0 0)) (fG 0 900) (fG (-2147483648) 2147483647) (fX n) (fX pt9) (fX fr9) (fX tk9) (fX vl9) (fX pl) (fX ct9) (fX st9) (fY tx9) (fX iw9) (fG 0 48) (fG 0 9) (fX (E 0 5)))) 73 (am 23, xAI (ca 0) 8000 (gX 8000 (fun j => E9 4 (j : Int))))) 71 (am 21, xAI (ca 0) 1000 (gX 1000 gf9))) 72 (am 22, xAI (ca 0) 1000 (gX 1000 gb9))) 69 (am 19, xAI (ca 0) 1000 (gG 1000 (-12) 12)))) _ _ := h
            obtain ⟨g15, hg15, h⟩ := yH.pinG h wu_eq
            rw [wu_wu] at h
            have h : yH D Zk A s ((wu (wu (wu (wu (wu (wu w 75 (am 25, xAI (ca 3) 900 (gX 900 g1))) 50 (am 0, mO am T (fX (E 0 0)) (fG 0 900) (fG (-2147483648) 2147483647) (fX n) (fX pt9) (fX fr9) (fX tk9) (fX vl9) (fX pl) (fX ct9) (fX st9) (fY tx9) (fX iw9) (fG 0 48) (fG 0 9) (fX (E 0 5)))) 73 (am 23, xAI (ca 0) 8000 (gX 8000 (fun j => E9 4 (j : Int))))) 71 (am 21, xAI (ca 0) 1000 (gX 1000 gf9))) 72 (am 22, xAI (ca 0) 1000 (gX 1000 gb9))) 69 (am 19, xAI (ca 0) 1000 (gX 1000 g15)))) _ _ := h
            rw [wu_comm (show (50 : Nat) ≠ 73 by decide), wu_comm (show (50 : Nat) ≠ 71 by decide), wu_comm (show (50 : Nat) ≠ 72 by decide), wu_comm (show (50 : Nat) ≠ 69 by decide)] at h
            have h : yH D Zk A s ((wu (wu (wu (wu (wu (wu w 75 (am 25, xAI (ca 3) 900 (gX 900 g1))) 73 (am 23, xAI (ca 0) 8000 (gX 8000 (fun j => E9 4 (j : Int))))) 71 (am 21, xAI (ca 0) 1000 (gX 1000 gf9))) 72 (am 22, xAI (ca 0) 1000 (gX 1000 gb9))) 69 (am 19, xAI (ca 0) 1000 (gX 1000 g15))) 50 (am 0, mO am T (fX (E 0 0)) (fG 0 900) (fG (-2147483648) 2147483647) (fX n) (fX pt9) (fX fr9) (fX tk9) (fX vl9) (fX pl) (fX ct9) (fX st9) (fY tx9) (fX iw9) (fG 0 48) (fG 0 9) (fX (E 0 5))))) _ _ := h
            have h : yH D Zk A s ((wu (wu (wu (wu (wu w 75 (am 25, xAI (ca 3) 900 (gX 900 g1))) 73 (am 23, xAI (ca 0) 8000 (gX 8000 (fun j => E9 4 (j : Int))))) 71 (am 21, xAI (ca 0) 1000 (gX 1000 gf9))) 72 (am 22, xAI (ca 0) 1000 (gX 1000 gb9))) 69 (am 19, xAI (ca 0) 1000 (gX 1000 g15)))) _ _ := yH.unpin h (wu_at (wu_at (wu_at (wu_at (wu_at (MW.f hM 0 _ rfl) (by decide)) (by decide)) (by decide)) (by decide)) (by decide)) (xO_le (fLe_cons (fun _ x => x) (fLe_cons (fun _ x => x) (fLe_cons (fun _ x => x) (fLe_cons (fun _ x => x) (fLe_cons (fun _ x => x) (fLe_cons (fun _ x => x) (fLe_cons (fun _ x => x) (fLe_cons (fun _ x => x) (fLe_cons (fun _ x => x) (fLe_cons (fun _ x => x) (fLe_cons (fun _ x => x) (fLe_cons (fun _ x => x) (fLe_cons (fun _ x => x) (fLe_cons (fun _ x => x) (fLe_cons (fun _ x => x) (fLe_cons (fun _ x => x) (fLe_cons (fun _ x => x) (fLe_cons (fun _ x => x) (fLe_cons (fun _ x => x) (fLe_cons (fun _ x => x) (fLe_cons (fun _ x => x) (fLe_cons (fun _ x => x) (fLe_cons (fun _ x => x) (fLe_cons (fun _ x => x) (fLe_cons (fun _ x => x) (fLe_cons (fun _ x => x) (fLe_cons (fun _ x => x) (fLe_cons (fun _ x => x) (fLe_cons (fun _ x => x) (fLe_cons (fun _ x => x) (fLe_cons (fun _ x => x) (fLe_cons (fun _ x => x) (fLe_cons (fun _ x => x) (fLe_cons (fun _ x => x) (fLe_cons (fX_G (by omega)) (fLe_cons (fX_G (by omega)) (fLe_cons (fX_G (by omega)) (fLe_cons (fX_G (by omega)) (fLe_cons (fX_G (by omega)) (fLe_cons (fX_G (by omega)) (fLe_cons (fX_G (by omega)) (fLe_cons (fX_G (by omega)) (fLe_cons (fun _ x => ⟨_, x⟩) (fLe_cons (fX_G (by omega)) (fLe_cons (fun _ x => x) (fLe_cons (fun _ x => x) (fLe_cons (fun _ x => x) (fLe_cons (fun _ x => x) (fLe_cons (fun _ x => x) (fLe_cons (fun _ x => x) (fLe_cons (fun _ x => x) (fLe_cons (fun _ x => x) (fLe_cons (fun _ x => x) (fLe_cons (fun _ x => x) (fLe_cons (fun _ x => x) (fLe_cons (fun _ x => x) (fLe_cons (fun _ x => x) (fLe_cons (fun _ x => x) (fLe_cons (fun _ x => x) (fLe_cons (fun _ x => x) (fLe_cons (fun _ x => x) (fLe_cons (fun _ x => x) (fLe_cons (fun _ x => x) (fLe_cons (fun _ x => x) (fLe_cons (fun _ x => x) (fLe_cons (fun _ x => x) (fLe_cons (fun _ x => x) (fLe_cons (fun _ x => x) (fLe_cons (fun _ x => x) (fLe_cons (fun _ x => x) (fLe_cons (fun _ x => x) (fLe_cons (fun _ x => x) (fLe_cons (fun _ x => x) (fLe_cons (fun _ x => x) (fLe_cons (fun _ x => x) (fLe_cons (fun _ x => x) (fLe_cons (fun _ x => x) (fLe_cons (fun _ x => x) (fLe_cons (fun _ x => x) (fLe_cons (fun _ x => x) fLe_nil)))))))))))))))))))))))))))))))))))))))))))))))))))))))))))))))))))))))))))))))))
            rw [wu_comm (show (75 : Nat) ≠ 73 by decide), wu_comm (show (75 : Nat) ≠ 71 by decide), wu_comm (show (75 : Nat) ≠ 72 by decide), wu_comm (show (75 : Nat) ≠ 69 by decide)] at h
            have h : yH D Zk A s ((wu (wu (wu (wu (wu w 73 (am 23, xAI (ca 0) 8000 (gX 8000 (fun j => E9 4 (j : Int))))) 71 (am 21, xAI (ca 0) 1000 (gX 1000 gf9))) 72 (am 22, xAI (ca 0) 1000 (gX 1000 gb9))) 69 (am 19, xAI (ca 0) 1000 (gX 1000 g15))) 75 (am 25, xAI (ca 3) 900 (gX 900 g1)))) _ _ := h
            have h : yH D Zk A s ((wu (wu (wu (wu w 73 (am 23, xAI (ca 0) 8000 (gX 8000 (fun j => E9 4 (j : Int))))) 71 (am 21, xAI (ca 0) 1000 (gX 1000 gf9))) 72 (am 22, xAI (ca 0) 1000 (gX 1000 gb9))) 69 (am 19, xAI (ca 0) 1000 (gX 1000 g15)))) _ _ := yH.unpin h (wu_at (wu_at (wu_at (wu_at (MW.f hM 25 _ rfl) (by decide)) (by decide)) (by decide)) (by decide)) (xAI_any)
            refine y_rz B hQ h (by decide) (by decide) dX12_reads_134 ?_
            exact ⟨_, rfl, _, MW.ex hM (pe_rd (gs := fun j => E 1 (j : Int)) (MW.pe hM) hpl2 (fun j hj => rfl) (fun j => pe_1 (MW.pe hM) _) hG hF hg15) (fun k k0 k1 k2 k3 k4 => by rw [wu_ne (by omega), wu_ne (by omega), wu_ne (by omega), wu_ne (by omega)]) (wu_at (wu_at (wu_at (wu_at (MW.f hM 16 _ rfl) (by decide)) (by decide)) (by decide)) (by decide)) wu_eq (wu_at (wu_at wu_eq (by decide)) (by decide)) (wu_at wu_eq (by decide)) (wu_at (wu_at (wu_at wu_eq (by decide)) (by decide)) (by decide)), fun k h1 => by rw [wu_ne (by omega), wu_ne (by omega), wu_ne (by omega), wu_ne (by omega)], fun j => rfl, Or.inr rfl⟩
        · refine lv_aload_n B.1 B.2.1 dX12_reads_58 rfl (lv_at hl 0 rfl) ?_
          refine y_getX B h kX12 50 (wu_at (wu_at (wu_at wu_eq (by decide)) (by decide)) (by decide)) 40 (z := ct9) rfl m_1301 (by decide) dX12_reads_59 ?_
          refine x_bipush B (by decide) dX12_reads_62 ?_
          refine x_icmp_ne B (by omega) (tgt := 74) dX12_reads_64 (by decide) (fun c16 => ?_) (fun c16 => ?_)
          · refine lv_iload_n B.1 B.2.1 dX12_reads_74 rfl (lv_at hl 1 rfl) ?_
            refine x_if_eq B (by omega) (tgt := 97) dX12_reads_75 (by decide) (fun c17 => ?_) (fun c17 => ?_)
            · refine lv_aload_n B.1 B.2.1 dX12_reads_97 rfl (lv_at hl 0 rfl) ?_
              refine x_bipush B (by decide) dX12_reads_98 ?_
              refine lv_aload_n B.1 B.2.1 dX12_reads_100 rfl (lv_at hl 0 rfl) ?_
              refine y_getX B h kX12 50 (wu_at (wu_at (wu_at wu_eq (by decide)) (by decide)) (by decide)) 39 (z := pl) rfl m_1300 (by decide) dX12_reads_101 ?_
              refine x_imul B dX12_reads_104 ?_
              refine lv_aload_n B.1 B.2.1 dX12_reads_105 rfl (lv_at hl 0 rfl) ?_
              refine y_getX B h kX12 50 (wu_at (wu_at (wu_at wu_eq (by decide)) (by decide)) (by decide)) 40 (z := ct9) rfl m_1301 (by decide) dX12_reads_106 ?_
              refine x_iadd B dX12_reads_109 ?_
              refine y_cV B h kX12 50 (wu_at (wu_at (wu_at wu_eq (by decide)) (by decide)) (by decide)) k_X12_readHabit rfl (c_X12_readHabit l D Zk ca _ _ _ (fX (E 0 0)) (fG 0 900) (fX ct9) (fX (E 0 5)) n pt9 fr9 tk9 vl9 pl st9 _ iw9 g1 gf9 gb9 E9 gf9 gb9 (((40 * pl) + ct9)) (wu_at (wu_at (wu_at wu_eq (by decide)) (by decide)) (by decide)) (wu_at (wu_at (wu_at (wu_at wu_eq (by decide)) (by decide)) (by decide)) (by decide)) (wu_at (wu_at wu_eq (by decide)) (by decide)) (wu_at (wu_at (wu_at (wu_at (wu_at (wu_at (MW.f hM 24 _ rfl) (by decide)) (by decide)) (by decide)) (by decide)) (by decide)) (by decide)) (wu_at (wu_at (wu_at (wu_at (wu_at (wu_at (MW.f hM 26 _ rfl) (by decide)) (by decide)) (by decide)) (by decide)) (by decide)) (by decide)) (wu_at wu_eq (by decide)) wu_eq (wu_at (wu_at (wu_at (wu_at (wu_at (wu_at (MW.f hM 18 _ rfl) (by decide)) (by decide)) (by decide)) (by decide)) (by decide)) (by decide)) (wu_at (wu_at (wu_at (wu_at (wu_at (wu_at (MW.f hM 20 _ rfl) (by decide)) (by decide)) (by decide)) (by decide)) (by decide)) (by decide)) (wu_at (wu_at (wu_at (wu_at (wu_at wu_eq (by decide)) (by decide)) (by decide)) (by decide)) (by decide)) (by omega) (by omega) (by omega) (by omega) (by omega) (by omega) (by omega)) m_1642 rfl (by decide) hl.1 [] (Nat.le_of_ble_eq_true rfl) rfl dX12_reads_110 (fun r w1 hq H locs h => ?_)
              obtain ⟨rfl, pt2_18, fr2_19, tk2_20, vl2_21, tx2_22, iw2_23, st2_24, E2_25, gf2_26, gb2_27, rfl, hr28⟩ := hq
              rw [wu_comm (x := (am 0, mO am T (fX (E 0 0)) (fG 0 900) (fG (-2147483648) 2147483647) (fX n) (fX pt9) (fX fr9) (fX tk9) (fX vl9) (fX pl) (fX ct9) (fX st9) (fY tx9) (fX iw9) (fG 0 48) (fG 0 9) (fX (E 0 5)))) (show (50 : Nat) ≠ 73 by decide), wu_comm (show (50 : Nat) ≠ 71 by decide), wu_comm (show (50 : Nat) ≠ 72 by decide), wu_wu, wu_comm (x := (am 23, xAI (ca 0) 8000 (gX 8000 (fun j => E9 4 (j : Int))))) (show (73 : Nat) ≠ 71 by decide), wu_comm (show (73 : Nat) ≠ 72 by decide), wu_comm (show (73 : Nat) ≠ 50 by decide), wu_wu, wu_comm (x := (am 21, xAI (ca 0) 1000 (gX 1000 gf9))) (show (71 : Nat) ≠ 72 by decide), wu_comm (show (71 : Nat) ≠ 50 by decide), wu_comm (show (71 : Nat) ≠ 73 by decide), wu_wu, wu_comm (show (72 : Nat) ≠ 50 by decide), wu_comm (show (72 : Nat) ≠ 73 by decide), wu_comm (show (72 : Nat) ≠ 71 by decide), wu_wu] at h
              have h : yH D Zk A s ((wu (wu (wu (wu (wu (wu w 69 (am 19, xAI (ca 0) 1000 (gG 1000 (-12) 12))) 75 (am 25, xAI (ca 3) 900 (gX 900 g1))) 50 (am 0, mO am T (fX (E 0 0)) (fG 0 900) (fG (-2147483648) 2147483647) (fX n) (fX pt2_18) (fX fr2_19) (fX tk2_20) (fX vl2_21) (fX pl) (fX ct9) (fX st2_24) (fY tx2_22) (fX iw2_23) (fG 0 48) (fG 0 9) (fX (E 0 5)))) 73 (am 23, xAI (ca 0) 8000 (gX 8000 (fun j => E2_25 4 (j : Int))))) 71 (am 21, xAI (ca 0) 1000 (gX 1000 gf2_26))) 72 (am 22, xAI (ca 0) 1000 (gX 1000 gb2_27)))) _ _ := h
              show W p l e r_c_X12_reads s m args below meth c _ _ 0 0 Qf (F0 m 113 ls [])
              refine lv_aload_n B.1 B.2.1 dX12_reads_113 rfl (lv_at hl 0 rfl) ?_
              refine lv_dup B.1 B.2.1 dX12_reads_114 rfl ?_
              refine y_getX B h kX12 50 (wu_at (wu_at (wu_at wu_eq (by decide)) (by decide)) (by decide)) 40 (z := ct9) rfl m_1301 (by decide) dX12_reads_115 ?_
              refine x_iconst B dX12_reads_118 ?_
              refine x_iadd B dX12_reads_119 ?_
              rw [wu_comm (show (50 : Nat) ≠ 73 by decide), wu_comm (show (50 : Nat) ≠ 71 by decide), wu_comm (show (50 : Nat) ≠ 72 by decide)] at h
              have h : yH D Zk A s ((wu (wu (wu (wu (wu (wu w 69 (am 19, xAI (ca 0) 1000 (gG 1000 (-12) 12))) 75 (am 25, xAI (ca 3) 900 (gX 900 g1))) 73 (am 23, xAI (ca 0) 8000 (gX 8000 (fun j => E2_25 4 (j : Int))))) 71 (am 21, xAI (ca 0) 1000 (gX 1000 gf2_26))) 72 (am 22, xAI (ca 0) 1000 (gX 1000 gb2_27))) 50 (am 0, mO am T (fX (E 0 0)) (fG 0 900) (fG (-2147483648) 2147483647) (fX n) (fX pt2_18) (fX fr2_19) (fX tk2_20) (fX vl2_21) (fX pl) (fX ct9) (fX st2_24) (fY tx2_22) (fX iw2_23) (fG 0 48) (fG 0 9) (fX (E 0 5))))) _ _ := h
              refine y_put B h kX12 50 wu_eq 40 (Nat.le_of_ble_eq_true rfl) (P' := fX (ct9 + 1)) m_1301 (by decide) rfl rfl rfl rfl dX12_reads_120 (fun H locs h => ?_)
              rw [wu_wu] at h
              have h : yH D Zk A s ((wu (wu (wu (wu (wu (wu w 69 (am 19, xAI (ca 0) 1000 (gG 1000 (-12) 12))) 75 (am 25, xAI (ca 3) 900 (gX 900 g1))) 73 (am 23, xAI (ca 0) 8000 (gX 8000 (fun j => E2_25 4 (j : Int))))) 71 (am 21, xAI (ca 0) 1000 (gX 1000 gf2_26))) 72 (am 22, xAI (ca 0) 1000 (gX 1000 gb2_27))) 50 (am 0, mO am T (fX (E 0 0)) (fG 0 900) (fG (-2147483648) 2147483647) (fX n) (fX pt2_18) (fX fr2_19) (fX tk2_20) (fX vl2_21) (fX pl) (fX (ct9 + 1)) (fX st2_24) (fY tx2_22) (fX iw2_23) (fG 0 48) (fG 0 9) (fX (E 0 5))))) _ _ := h
              refine lv_goto (tgt := 44) B.1 B.2.1 dX12_reads_123 (by decide) ?_
              rw [wu_comm (show (69 : Nat) ≠ 75 by decide), wu_comm (show (69 : Nat) ≠ 73 by decide), wu_comm (show (69 : Nat) ≠ 71 by decide), wu_comm (show (69 : Nat) ≠ 72 by decide), wu_comm (show (69 : Nat) ≠ 50 by decide)] at h
              have h : yH D Zk A s ((wu (wu (wu (wu (wu (wu w 75 (am 25, xAI (ca 3) 900 (gX 900 g1))) 73 (am 23, xAI (ca 0) 8000 (gX 8000 (fun j => E2_25 4 (j : Int))))) 71 (am 21, xAI (ca 0) 1000 (gX 1000 gf2_26))) 72 (am 22, xAI (ca 0) 1000 (gX 1000 gb2_27))) 50 (am 0, mO am T (fX (E 0 0)) (fG 0 900) (fG (-2147483648) 2147483647) (fX n) (fX pt2_18) (fX fr2_19) (fX tk2_20) (fX vl2_21) (fX pl) (fX (ct9 + 1)) (fX st2_24) (fY tx2_22) (fX iw2_23) (fG 0 48) (fG 0 9) (fX (E 0 5)))) 69 (am 19, xAI (ca 0) 1000 (gG 1000 (-12) 12)))) _ _ := h
              rw [wu_comm (show (75 : Nat) ≠ 73 by decide), wu_comm (show (75 : Nat) ≠ 71 by decide), wu_comm (show (75 : Nat) ≠ 72 by decide), wu_comm (show (75 : Nat) ≠ 50 by decide), wu_comm (show (75 : Nat) ≠ 69 by decide)] at h
              have h : yH D Zk A s ((wu (wu (wu (wu (wu (wu w 73 (am 23, xAI (ca 0) 8000 (gX 8000 (fun j => E2_25 4 (j : Int))))) 71 (am 21, xAI (ca 0) 1000 (gX 1000 gf2_26))) 72 (am 22, xAI (ca 0) 1000 (gX 1000 gb2_27))) 50 (am 0, mO am T (fX (E 0 0)) (fG 0 900) (fG (-2147483648) 2147483647) (fX n) (fX pt2_18) (fX fr2_19) (fX tk2_20) (fX vl2_21) (fX pl) (fX (ct9 + 1)) (fX st2_24) (fY tx2_22) (fX iw2_23) (fG 0 48) (fG 0 9) (fX (E 0 5)))) 69 (am 19, xAI (ca 0) 1000 (gG 1000 (-12) 12))) 75 (am 25, xAI (ca 3) 900 (gX 900 g1)))) _ _ := h
              rw [wu_comm (show (50 : Nat) ≠ 69 by decide), wu_comm (show (50 : Nat) ≠ 75 by decide)] at h
              have h : yH D Zk A s ((wu (wu (wu (wu (wu (wu w 73 (am 23, xAI (ca 0) 8000 (gX 8000 (fun j => E2_25 4 (j : Int))))) 71 (am 21, xAI (ca 0) 1000 (gX 1000 gf2_26))) 72 (am 22, xAI (ca 0) 1000 (gX 1000 gb2_27))) 69 (am 19, xAI (ca 0) 1000 (gG 1000 (-12) 12))) 75 (am 25, xAI (ca 3) 900 (gX 900 g1))) 50 (am 0, mO am T (fX (E 0 0)) (fG 0 900) (fG (-2147483648) 2147483647) (fX n) (fX pt2_18) (fX fr2_19) (fX tk2_20) (fX vl2_21) (fX pl) (fX (ct9 + 1)) (fX st2_24) (fY tx2_22) (fX iw2_23) (fG 0 48) (fG 0 9) (fX (E 0 5))))) _ _ := h
              rw [wu_comm (show (73 : Nat) ≠ 71 by decide), wu_comm (show (73 : Nat) ≠ 72 by decide), wu_comm (show (73 : Nat) ≠ 69 by decide), wu_comm (show (73 : Nat) ≠ 75 by decide), wu_comm (show (73 : Nat) ≠ 50 by decide)] at h
              have h : yH D Zk A s ((wu (wu (wu (wu (wu (wu w 71 (am 21, xAI (ca 0) 1000 (gX 1000 gf2_26))) 72 (am 22, xAI (ca 0) 1000 (gX 1000 gb2_27))) 69 (am 19, xAI (ca 0) 1000 (gG 1000 (-12) 12))) 75 (am 25, xAI (ca 3) 900 (gX 900 g1))) 50 (am 0, mO am T (fX (E 0 0)) (fG 0 900) (fG (-2147483648) 2147483647) (fX n) (fX pt2_18) (fX fr2_19) (fX tk2_20) (fX vl2_21) (fX pl) (fX (ct9 + 1)) (fX st2_24) (fY tx2_22) (fX iw2_23) (fG 0 48) (fG 0 9) (fX (E 0 5)))) 73 (am 23, xAI (ca 0) 8000 (gX 8000 (fun j => E2_25 4 (j : Int)))))) _ _ := h
              rw [wu_comm (show (71 : Nat) ≠ 72 by decide), wu_comm (show (71 : Nat) ≠ 69 by decide), wu_comm (show (71 : Nat) ≠ 75 by decide), wu_comm (show (71 : Nat) ≠ 50 by decide), wu_comm (show (71 : Nat) ≠ 73 by decide)] at h
              have h : yH D Zk A s ((wu (wu (wu (wu (wu (wu w 72 (am 22, xAI (ca 0) 1000 (gX 1000 gb2_27))) 69 (am 19, xAI (ca 0) 1000 (gG 1000 (-12) 12))) 75 (am 25, xAI (ca 3) 900 (gX 900 g1))) 50 (am 0, mO am T (fX (E 0 0)) (fG 0 900) (fG (-2147483648) 2147483647) (fX n) (fX pt2_18) (fX fr2_19) (fX tk2_20) (fX vl2_21) (fX pl) (fX (ct9 + 1)) (fX st2_24) (fY tx2_22) (fX iw2_23) (fG 0 48) (fG 0 9) (fX (E 0 5)))) 73 (am 23, xAI (ca 0) 8000 (gX 8000 (fun j => E2_25 4 (j : Int))))) 71 (am 21, xAI (ca 0) 1000 (gX 1000 gf2_26)))) _ _ := h
              rw [wu_comm (show (72 : Nat) ≠ 69 by decide), wu_comm (show (72 : Nat) ≠ 75 by decide), wu_comm (show (72 : Nat) ≠ 50 by decide), wu_comm (show (72 : Nat) ≠ 73 by decide), wu_comm (show (72 : Nat) ≠ 71 by decide)] at h
              have h : yH D Zk A s ((wu (wu (wu (wu (wu (wu w 69 (am 19, xAI (ca 0) 1000 (gG 1000 (-12) 12))) 75 (am 25, xAI (ca 3) 900 (gX 900 g1))) 50 (am 0, mO am T (fX (E 0 0)) (fG 0 900) (fG (-2147483648) 2147483647) (fX n) (fX pt2_18) (fX fr2_19) (fX tk2_20) (fX vl2_21) (fX pl) (fX (ct9 + 1)) (fX st2_24) (fY tx2_22) (fX iw2_23) (fG 0 48) (fG 0 9) (fX (E 0 5)))) 73 (am 23, xAI (ca 0) 8000 (gX 8000 (fun j => E2_25 4 (j : Int))))) 71 (am 21, xAI (ca 0) 1000 (gX 1000 gf2_26))) 72 (am 22, xAI (ca 0) 1000 (gX 1000 gb2_27)))) _ _ := h
              exact ih44 fr2_19 pt2_18 tk2_20 vl2_21 tx2_22 iw2_23 st2_24 ((ct9 + 1)) E2_25 gf2_26 gb2_27 (by omega) (by omega) (by omega) (by omega) (by omega) (fun q9 => RR_next (hR (by omega)) hr28.2.2.2.2.2.1 rfl q9 hr28.2.2.2.2.1 hr28.2.1 (by omega)) (FR_tr hF (FR_w hr28.2.2.2.2.1 (by omega))) (GF_next hG hr28.2.2.2.2.2.1 (by omega)) (by omega) _ _ _ h (lv_sub hl [0, 1] rfl)
            · refine lv_aload_n B.1 B.2.1 dX12_reads_78 rfl (lv_at hl 0 rfl) ?_
              refine x_bipush B (by decide) dX12_reads_79 ?_
              refine lv_aload_n B.1 B.2.1 dX12_reads_81 rfl (lv_at hl 0 rfl) ?_
              refine y_getX B h kX12 50 (wu_at (wu_at (wu_at wu_eq (by decide)) (by decide)) (by decide)) 39 (z := pl) rfl m_1300 (by decide) dX12_reads_82 ?_
              refine x_imul B dX12_reads_85 ?_
              refine lv_aload_n B.1 B.2.1 dX12_reads_86 rfl (lv_at hl 0 rfl) ?_
              refine y_getX B h kX12 50 (wu_at (wu_at (wu_at wu_eq (by decide)) (by decide)) (by decide)) 40 (z := ct9) rfl m_1301 (by decide) dX12_reads_87 ?_
              refine x_iadd B dX12_reads_90 ?_
              refine y_cV B h kX12 50 (wu_at (wu_at (wu_at wu_eq (by decide)) (by decide)) (by decide)) k_X12_readScale rfl (c_X12_readScale l D Zk ca _ _ _ (fX (E 0 0)) (fG 0 900) (fX ct9) (fX (E 0 5)) n pt9 fr9 tk9 vl9 pl st9 _ iw9 g1 gf9 gb9 E9 gf9 gb9 (((40 * pl) + ct9)) (wu_at (wu_at (wu_at wu_eq (by decide)) (by decide)) (by decide)) (wu_at (wu_at (wu_at (wu_at wu_eq (by decide)) (by decide)) (by decide)) (by decide)) (wu_at (wu_at wu_eq (by decide)) (by decide)) (wu_at (wu_at (wu_at (wu_at (wu_at (wu_at (MW.f hM 24 _ rfl) (by decide)) (by decide)) (by decide)) (by decide)) (by decide)) (by decide)) (wu_at (wu_at (wu_at (wu_at (wu_at (wu_at (MW.f hM 26 _ rfl) (by decide)) (by decide)) (by decide)) (by decide)) (by decide)) (by decide)) (wu_at wu_eq (by decide)) wu_eq (wu_at (wu_at (wu_at (wu_at (wu_at (wu_at (MW.f hM 18 _ rfl) (by decide)) (by decide)) (by decide)) (by decide)) (by decide)) (by decide)) (wu_at (wu_at (wu_at (wu_at (wu_at (wu_at (MW.f hM 20 _ rfl) (by decide)) (by decide)) (by decide)) (by decide)) (by decide)) (by decide)) (wu_at (wu_at (wu_at (wu_at (wu_at wu_eq (by decide)) (by decide)) (by decide)) (by decide)) (by decide)) (by omega) (by omega) (by omega) (by omega) (by omega) (by omega) (by omega)) m_1573 rfl (by decide) hl.1 [] (Nat.le_of_ble_eq_true rfl) rfl dX12_reads_91 (fun r w1 hq H locs h => ?_)
              obtain ⟨rfl, pt2_29, fr2_30, tk2_31, vl2_32, tx2_33, iw2_34, st2_35, E2_36, gf2_37, gb2_38, rfl, hr39⟩ := hq
              rw [wu_comm (x := (am 0, mO am T (fX (E 0 0)) (fG 0 900) (fG (-2147483648) 2147483647) (fX n) (fX pt9) (fX fr9) (fX tk9) (fX vl9) (fX pl) (fX ct9) (fX st9) (fY tx9) (fX iw9) (fG 0 48) (fG 0 9) (fX (E 0 5)))) (show (50 : Nat) ≠ 73 by decide), wu_comm (show (50 : Nat) ≠ 71 by decide), wu_comm (show (50 : Nat) ≠ 72 by decide), wu_wu, wu_comm (x := (am 23, xAI (ca 0) 8000 (gX 8000 (fun j => E9 4 (j : Int))))) (show (73 : Nat) ≠ 71 by decide), wu_comm (show (73 : Nat) ≠ 72 by decide), wu_comm (show (73 : Nat) ≠ 50 by decide), wu_wu, wu_comm (x := (am 21, xAI (ca 0) 1000 (gX 1000 gf9))) (show (71 : Nat) ≠ 72 by decide), wu_comm (show (71 : Nat) ≠ 50 by decide), wu_comm (show (71 : Nat) ≠ 73 by decide), wu_wu, wu_comm (show (72 : Nat) ≠ 50 by decide), wu_comm (show (72 : Nat) ≠ 73 by decide), wu_comm (show (72 : Nat) ≠ 71 by decide), wu_wu] at h
              have h : yH D Zk A s ((wu (wu (wu (wu (wu (wu w 69 (am 19, xAI (ca 0) 1000 (gG 1000 (-12) 12))) 75 (am 25, xAI (ca 3) 900 (gX 900 g1))) 50 (am 0, mO am T (fX (E 0 0)) (fG 0 900) (fG (-2147483648) 2147483647) (fX n) (fX pt2_29) (fX fr2_30) (fX tk2_31) (fX vl2_32) (fX pl) (fX ct9) (fX st2_35) (fY tx2_33) (fX iw2_34) (fG 0 48) (fG 0 9) (fX (E 0 5)))) 73 (am 23, xAI (ca 0) 8000 (gX 8000 (fun j => E2_36 4 (j : Int))))) 71 (am 21, xAI (ca 0) 1000 (gX 1000 gf2_37))) 72 (am 22, xAI (ca 0) 1000 (gX 1000 gb2_38)))) _ _ := h
              show W p l e r_c_X12_reads s m args below meth c _ _ 0 0 Qf (F0 m 94 ls [])
              refine lv_goto (tgt := 113) B.1 B.2.1 dX12_reads_94 (by decide) ?_
              refine lv_aload_n B.1 B.2.1 dX12_reads_113 rfl (lv_at hl 0 rfl) ?_
              refine lv_dup B.1 B.2.1 dX12_reads_114 rfl ?_
              refine y_getX B h kX12 50 (wu_at (wu_at (wu_at wu_eq (by decide)) (by decide)) (by decide)) 40 (z := ct9) rfl m_1301 (by decide) dX12_reads_115 ?_
              refine x_iconst B dX12_reads_118 ?_
              refine x_iadd B dX12_reads_119 ?_
              rw [wu_comm (show (50 : Nat) ≠ 73 by decide), wu_comm (show (50 : Nat) ≠ 71 by decide), wu_comm (show (50 : Nat) ≠ 72 by decide)] at h
              have h : yH D Zk A s ((wu (wu (wu (wu (wu (wu w 69 (am 19, xAI (ca 0) 1000 (gG 1000 (-12) 12))) 75 (am 25, xAI (ca 3) 900 (gX 900 g1))) 73 (am 23, xAI (ca 0) 8000 (gX 8000 (fun j => E2_36 4 (j : Int))))) 71 (am 21, xAI (ca 0) 1000 (gX 1000 gf2_37))) 72 (am 22, xAI (ca 0) 1000 (gX 1000 gb2_38))) 50 (am 0, mO am T (fX (E 0 0)) (fG 0 900) (fG (-2147483648) 2147483647) (fX n) (fX pt2_29) (fX fr2_30) (fX tk2_31) (fX vl2_32) (fX pl) (fX ct9) (fX st2_35) (fY tx2_33) (fX iw2_34) (fG 0 48) (fG 0 9) (fX (E 0 5))))) _ _ := h
              refine y_put B h kX12 50 wu_eq 40 (Nat.le_of_ble_eq_true rfl) (P' := fX (ct9 + 1)) m_1301 (by decide) rfl rfl rfl rfl dX12_reads_120 (fun H locs h => ?_)
              rw [wu_wu] at h
              have h : yH D Zk A s ((wu (wu (wu (wu (wu (wu w 69 (am 19, xAI (ca 0) 1000 (gG 1000 (-12) 12))) 75 (am 25, xAI (ca 3) 900 (gX 900 g1))) 73 (am 23, xAI (ca 0) 8000 (gX 8000 (fun j => E2_36 4 (j : Int))))) 71 (am 21, xAI (ca 0) 1000 (gX 1000 gf2_37))) 72 (am 22, xAI (ca 0) 1000 (gX 1000 gb2_38))) 50 (am 0, mO am T (fX (E 0 0)) (fG 0 900) (fG (-2147483648) 2147483647) (fX n) (fX pt2_29) (fX fr2_30) (fX tk2_31) (fX vl2_32) (fX pl) (fX (ct9 + 1)) (fX st2_35) (fY tx2_33) (fX iw2_34) (fG 0 48) (fG 0 9) (fX (E 0 5))))) _ _ := h
              refine lv_goto (tgt := 44) B.1 B.2.1 dX12_reads_123 (by decide) ?_
              rw [wu_comm (show (69 : Nat) ≠ 75 by decide), wu_comm (show (69 : Nat) ≠ 73 by decide), wu_comm (show (69 : Nat) ≠ 71 by decide), wu_comm (show (69 : Nat) ≠ 72 by decide), wu_comm (show (69 : Nat) ≠ 50 by decide)] at h
              have h : yH D Zk A s ((wu (wu (wu (wu (wu (wu w 75 (am 25, xAI (ca 3) 900 (gX 900 g1))) 73 (am 23, xAI (ca 0) 8000 (gX 8000 (fun j => E2_36 4 (j : Int))))) 71 (am 21, xAI (ca 0) 1000 (gX 1000 gf2_37))) 72 (am 22, xAI (ca 0) 1000 (gX 1000 gb2_38))) 50 (am 0, mO am T (fX (E 0 0)) (fG 0 900) (fG (-2147483648) 2147483647) (fX n) (fX pt2_29) (fX fr2_30) (fX tk2_31) (fX vl2_32) (fX pl) (fX (ct9 + 1)) (fX st2_35) (fY tx2_33) (fX iw2_34) (fG 0 48) (fG 0 9) (fX (E 0 5)))) 69 (am 19, xAI (ca 0) 1000 (gG 1000 (-12) 12)))) _ _ := h
              rw [wu_comm (show (75 : Nat) ≠ 73 by decide), wu_comm (show (75 : Nat) ≠ 71 by decide), wu_comm (show (75 : Nat) ≠ 72 by decide), wu_comm (show (75 : Nat) ≠ 50 by decide), wu_comm (show (75 : Nat) ≠ 69 by decide)] at h
              have h : yH D Zk A s ((wu (wu (wu (wu (wu (wu w 73 (am 23, xAI (ca 0) 8000 (gX 8000 (fun j => E2_36 4 (j : Int))))) 71 (am 21, xAI (ca 0) 1000 (gX 1000 gf2_37))) 72 (am 22, xAI (ca 0) 1000 (gX 1000 gb2_38))) 50 (am 0, mO am T (fX (E 0 0)) (fG 0 900) (fG (-2147483648) 2147483647) (fX n) (fX pt2_29) (fX fr2_30) (fX tk2_31) (fX vl2_32) (fX pl) (fX (ct9 + 1)) (fX st2_35) (fY tx2_33) (fX iw2_34) (fG 0 48) (fG 0 9) (fX (E 0 5)))) 69 (am 19, xAI (ca 0) 1000 (gG 1000 (-12) 12))) 75 (am 25, xAI (ca 3) 900 (gX 900 g1)))) _ _ := h
              rw [wu_comm (show (50 : Nat) ≠ 69 by decide), wu_comm (show (50 : Nat) ≠ 75 by decide)] at h
              have h : yH D Zk A s ((wu (wu (wu (wu (wu (wu w 73 (am 23, xAI (ca 0) 8000 (gX 8000 (fun j => E2_36 4 (j : Int))))) 71 (am 21, xAI (ca 0) 1000 (gX 1000 gf2_37))) 72 (am 22, xAI (ca 0) 1000 (gX 1000 gb2_38))) 69 (am 19, xAI (ca 0) 1000 (gG 1000 (-12) 12))) 75 (am 25, xAI (ca 3) 900 (gX 900 g1))) 50 (am 0, mO am T (fX (E 0 0)) (fG 0 900) (fG (-2147483648) 2147483647) (fX n) (fX pt2_29) (fX fr2_30) (fX tk2_31) (fX vl2_32) (fX pl) (fX (ct9 + 1)) (fX st2_35) (fY tx2_33) (fX iw2_34) (fG 0 48) (fG 0 9) (fX (E 0 5))))) _ _ := h
              rw [wu_comm (show (73 : Nat) ≠ 71 by decide), wu_comm (show (73 : Nat) ≠ 72 by decide), wu_comm (show (73 : Nat) ≠ 69 by decide), wu_comm (show (73 : Nat) ≠ 75 by decide), wu_comm (show (73 : Nat) ≠ 50 by decide)] at h
              have h : yH D Zk A s ((wu (wu (wu (wu (wu (wu w 71 (am 21, xAI (ca 0) 1000 (gX 1000 gf2_37))) 72 (am 22, xAI (ca 0) 1000 (gX 1000 gb2_38))) 69 (am 19, xAI (ca 0) 1000 (gG 1000 (-12) 12))) 75 (am 25, xAI (ca 3) 900 (gX 900 g1))) 50 (am 0, mO am T (fX (E 0 0)) (fG 0 900) (fG (-2147483648) 2147483647) (fX n) (fX pt2_29) (fX fr2_30) (fX tk2_31) (fX vl2_32) (fX pl) (fX (ct9 + 1)) (fX st2_35) (fY tx2_33) (fX iw2_34) (fG 0 48) (fG 0 9) (fX (E 0 5)))) 73 (am 23, xAI (ca 0) 8000 (gX 8000 (fun j => E2_36 4 (j : Int)))))) _ _ := h
              rw [wu_comm (show (71 : Nat) ≠ 72 by decide), wu_comm (show (71 : Nat) ≠ 69 by decide), wu_comm (show (71 : Nat) ≠ 75 by decide), wu_comm (show (71 : Nat) ≠ 50 by decide), wu_comm (show (71 : Nat) ≠ 73 by decide)] at h
              have h : yH D Zk A s ((wu (wu (wu (wu (wu (wu w 72 (am 22, xAI (ca 0) 1000 (gX 1000 gb2_38))) 69 (am 19, xAI (ca 0) 1000 (gG 1000 (-12) 12))) 75 (am 25, xAI (ca 3) 900 (gX 900 g1))) 50 (am 0, mO am T (fX (E 0 0)) (fG 0 900) (fG (-2147483648) 2147483647) (fX n) (fX pt2_29) (fX fr2_30) (fX tk2_31) (fX vl2_32) (fX pl) (fX (ct9 + 1)) (fX st2_35) (fY tx2_33) (fX iw2_34) (fG 0 48) (fG 0 9) (fX (E 0 5)))) 73 (am 23, xAI (ca 0) 8000 (gX 8000 (fun j => E2_36 4 (j : Int))))) 71 (am 21, xAI (ca 0) 1000 (gX 1000 gf2_37)))) _ _ := h
              rw [wu_comm (show (72 : Nat) ≠ 69 by decide), wu_comm (show (72 : Nat) ≠ 75 by decide), wu_comm (show (72 : Nat) ≠ 50 by decide), wu_comm (show (72 : Nat) ≠ 73 by decide), wu_comm (show (72 : Nat) ≠ 71 by decide)] at h
              have h : yH D Zk A s ((wu (wu (wu (wu (wu (wu w 69 (am 19, xAI (ca 0) 1000 (gG 1000 (-12) 12))) 75 (am 25, xAI (ca 3) 900 (gX 900 g1))) 50 (am 0, mO am T (fX (E 0 0)) (fG 0 900) (fG (-2147483648) 2147483647) (fX n) (fX pt2_29) (fX fr2_30) (fX tk2_31) (fX vl2_32) (fX pl) (fX (ct9 + 1)) (fX st2_35) (fY tx2_33) (fX iw2_34) (fG 0 48) (fG 0 9) (fX (E 0 5)))) 73 (am 23, xAI (ca 0) 8000 (gX 8000 (fun j => E2_36 4 (j : Int))))) 71 (am 21, xAI (ca 0) 1000 (gX 1000 gf2_37))) 72 (am 22, xAI (ca 0) 1000 (gX 1000 gb2_38)))) _ _ := h
              exact ih44 fr2_30 pt2_29 tk2_31 vl2_32 tx2_33 iw2_34 st2_35 ((ct9 + 1)) E2_36 gf2_37 gb2_38 (by omega) (by omega) (by omega) (by omega) (by omega) (fun q9 => RR_next (hR (by omega)) hr39.2.2.2.2.2.1 rfl q9 hr39.2.2.2.2.1 hr39.2.1 (by omega)) (FR_tr hF (FR_w hr39.2.2.2.2.1 (by omega))) (GF_next hG hr39.2.2.2.2.2.1 (by omega)) (by omega) _ _ _ h (lv_sub hl [0, 1] rfl)
          · refine lv_aload_n B.1 B.2.1 dX12_reads_67 rfl (lv_at hl 0 rfl) ?_
            refine y_cV B h kX12 50 (wu_at (wu_at (wu_at wu_eq (by decide)) (by decide)) (by decide)) k_X12_errs rfl (c_X12_errs l D Zk ca _ _ _ (fX (E 0 0)) (fG 0 900) (fX n) (fX pt9) (fX tk9) (fX vl9) (fX pl) (fX ct9) (fX st9) (fY tx9) (fG 0 48) (fG 0 9) (fX (E 0 5)) fr9 iw9 (wu_at (wu_at (wu_at wu_eq (by decide)) (by decide)) (by decide)) (by omega) (by omega)) m_1569 rfl (by decide) hl.1 [] (Nat.le_of_ble_eq_true rfl) rfl dX12_reads_68 (fun r w1 hq H locs h => ?_)
            obtain ⟨rfl, rfl, hr40⟩ := hq
            rw [wu_comm (show (50 : Nat) ≠ 73 by decide), wu_comm (show (50 : Nat) ≠ 71 by decide), wu_comm (show (50 : Nat) ≠ 72 by decide), wu_wu] at h
            have h : yH D Zk A s ((wu (wu (wu (wu (wu (wu w 69 (am 19, xAI (ca 0) 1000 (gG 1000 (-12) 12))) 75 (am 25, xAI (ca 3) 900 (gX 900 g1))) 73 (am 23, xAI (ca 0) 8000 (gX 8000 (fun j => E9 4 (j : Int))))) 71 (am 21, xAI (ca 0) 1000 (gX 1000 gf9))) 72 (am 22, xAI (ca 0) 1000 (gX 1000 gb9))) 50 (am 0, mO am T (fX (E 0 0)) (fG 0 900) (fG (-2147483648) 2147483647) (fX n) (fX pt9) (fX fr9) (fX tk9) (fX vl9) (fX pl) (fX ct9) (fX st9) (fY tx9) (fX 1) (fG 0 48) (fG 0 9) (fX (E 0 5))))) _ _ := h
            show W p l e r_c_X12_reads s m args below meth c _ _ 0 0 Qf (F0 m 71 ls [])
            refine lv_goto (tgt := 113) B.1 B.2.1 dX12_reads_71 (by decide) ?_
            refine lv_aload_n B.1 B.2.1 dX12_reads_113 rfl (lv_at hl 0 rfl) ?_
            refine lv_dup B.1 B.2.1 dX12_reads_114 rfl ?_
            refine y_getX B h kX12 50 wu_eq 40 (z := ct9) rfl m_1301 (by decide) dX12_reads_115 ?_
            refine x_iconst B dX12_reads_118 ?_
            refine x_iadd B dX12_reads_119 ?_
            refine y_put B h kX12 50 wu_eq 40 (Nat.le_of_ble_eq_true rfl) (P' := fX (ct9 + 1)) m_1301 (by decide) rfl rfl rfl rfl dX12_reads_120 (fun H locs h => ?_)
            rw [wu_wu] at h
            have h : yH D Zk A s ((wu (wu (wu (wu (wu (wu w 69 (am 19, xAI (ca 0) 1000 (gG 1000 (-12) 12))) 75 (am 25, xAI (ca 3) 900 (gX 900 g1))) 73 (am 23, xAI (ca 0) 8000 (gX 8000 (fun j => E9 4 (j : Int))))) 71 (am 21, xAI (ca 0) 1000 (gX 1000 gf9))) 72 (am 22, xAI (ca 0) 1000 (gX 1000 gb9))) 50 (am 0, mO am T (fX (E 0 0)) (fG 0 900) (fG (-2147483648) 2147483647) (fX n) (fX pt9) (fX fr9) (fX tk9) (fX vl9) (fX pl) (fX (ct9 + 1)) (fX st9) (fY tx9) (fX 1) (fG 0 48) (fG 0 9) (fX (E 0 5))))) _ _ := h
            refine lv_goto (tgt := 44) B.1 B.2.1 dX12_reads_123 (by decide) ?_
            rw [wu_comm (show (69 : Nat) ≠ 75 by decide), wu_comm (show (69 : Nat) ≠ 73 by decide), wu_comm (show (69 : Nat) ≠ 71 by decide), wu_comm (show (69 : Nat) ≠ 72 by decide), wu_comm (show (69 : Nat) ≠ 50 by decide)] at h
            have h : yH D Zk A s ((wu (wu (wu (wu (wu (wu w 75 (am 25, xAI (ca 3) 900 (gX 900 g1))) 73 (am 23, xAI (ca 0) 8000 (gX 8000 (fun j => E9 4 (j : Int))))) 71 (am 21, xAI (ca 0) 1000 (gX 1000 gf9))) 72 (am 22, xAI (ca 0) 1000 (gX 1000 gb9))) 50 (am 0, mO am T (fX (E 0 0)) (fG 0 900) (fG (-2147483648) 2147483647) (fX n) (fX pt9) (fX fr9) (fX tk9) (fX vl9) (fX pl) (fX (ct9 + 1)) (fX st9) (fY tx9) (fX 1) (fG 0 48) (fG 0 9) (fX (E 0 5)))) 69 (am 19, xAI (ca 0) 1000 (gG 1000 (-12) 12)))) _ _ := h
            rw [wu_comm (show (75 : Nat) ≠ 73 by decide), wu_comm (show (75 : Nat) ≠ 71 by decide), wu_comm (show (75 : Nat) ≠ 72 by decide), wu_comm (show (75 : Nat) ≠ 50 by decide), wu_comm (show (75 : Nat) ≠ 69 by decide)] at h
            have h : yH D Zk A s ((wu (wu (wu (wu (wu (wu w 73 (am 23, xAI (ca 0) 8000 (gX 8000 (fun j => E9 4 (j : Int))))) 71 (am 21, xAI (ca 0) 1000 (gX 1000 gf9))) 72 (am 22, xAI (ca 0) 1000 (gX 1000 gb9))) 50 (am 0, mO am T (fX (E 0 0)) (fG 0 900) (fG (-2147483648) 2147483647) (fX n) (fX pt9) (fX fr9) (fX tk9) (fX vl9) (fX pl) (fX (ct9 + 1)) (fX st9) (fY tx9) (fX 1) (fG 0 48) (fG 0 9) (fX (E 0 5)))) 69 (am 19, xAI (ca 0) 1000 (gG 1000 (-12) 12))) 75 (am 25, xAI (ca 3) 900 (gX 900 g1)))) _ _ := h
            rw [wu_comm (show (50 : Nat) ≠ 69 by decide), wu_comm (show (50 : Nat) ≠ 75 by decide)] at h
            have h : yH D Zk A s ((wu (wu (wu (wu (wu (wu w 73 (am 23, xAI (ca 0) 8000 (gX 8000 (fun j => E9 4 (j : Int))))) 71 (am 21, xAI (ca 0) 1000 (gX 1000 gf9))) 72 (am 22, xAI (ca 0) 1000 (gX 1000 gb9))) 69 (am 19, xAI (ca 0) 1000 (gG 1000 (-12) 12))) 75 (am 25, xAI (ca 3) 900 (gX 900 g1))) 50 (am 0, mO am T (fX (E 0 0)) (fG 0 900) (fG (-2147483648) 2147483647) (fX n) (fX pt9) (fX fr9) (fX tk9) (fX vl9) (fX pl) (fX (ct9 + 1)) (fX st9) (fY tx9) (fX 1) (fG 0 48) (fG 0 9) (fX (E 0 5))))) _ _ := h
            rw [wu_comm (show (73 : Nat) ≠ 71 by decide), wu_comm (show (73 : Nat) ≠ 72 by decide), wu_comm (show (73 : Nat) ≠ 69 by decide), wu_comm (show (73 : Nat) ≠ 75 by decide), wu_comm (show (73 : Nat) ≠ 50 by decide)] at h
            have h : yH D Zk A s ((wu (wu (wu (wu (wu (wu w 71 (am 21, xAI (ca 0) 1000 (gX 1000 gf9))) 72 (am 22, xAI (ca 0) 1000 (gX 1000 gb9))) 69 (am 19, xAI (ca 0) 1000 (gG 1000 (-12) 12))) 75 (am 25, xAI (ca 3) 900 (gX 900 g1))) 50 (am 0, mO am T (fX (E 0 0)) (fG 0 900) (fG (-2147483648) 2147483647) (fX n) (fX pt9) (fX fr9) (fX tk9) (fX vl9) (fX pl) (fX (ct9 + 1)) (fX st9) (fY tx9) (fX 1) (fG 0 48) (fG 0 9) (fX (E 0 5)))) 73 (am 23, xAI (ca 0) 8000 (gX 8000 (fun j => E9 4 (j : Int)))))) _ _ := h
            rw [wu_comm (show (71 : Nat) ≠ 72 by decide), wu_comm (show (71 : Nat) ≠ 69 by decide), wu_comm (show (71 : Nat) ≠ 75 by decide), wu_comm (show (71 : Nat) ≠ 50 by decide), wu_comm (show (71 : Nat) ≠ 73 by decide)] at h
            have h : yH D Zk A s ((wu (wu (wu (wu (wu (wu w 72 (am 22, xAI (ca 0) 1000 (gX 1000 gb9))) 69 (am 19, xAI (ca 0) 1000 (gG 1000 (-12) 12))) 75 (am 25, xAI (ca 3) 900 (gX 900 g1))) 50 (am 0, mO am T (fX (E 0 0)) (fG 0 900) (fG (-2147483648) 2147483647) (fX n) (fX pt9) (fX fr9) (fX tk9) (fX vl9) (fX pl) (fX (ct9 + 1)) (fX st9) (fY tx9) (fX 1) (fG 0 48) (fG 0 9) (fX (E 0 5)))) 73 (am 23, xAI (ca 0) 8000 (gX 8000 (fun j => E9 4 (j : Int))))) 71 (am 21, xAI (ca 0) 1000 (gX 1000 gf9)))) _ _ := h
            rw [wu_comm (show (72 : Nat) ≠ 69 by decide), wu_comm (show (72 : Nat) ≠ 75 by decide), wu_comm (show (72 : Nat) ≠ 50 by decide), wu_comm (show (72 : Nat) ≠ 73 by decide), wu_comm (show (72 : Nat) ≠ 71 by decide)] at h
            have h : yH D Zk A s ((wu (wu (wu (wu (wu (wu w 69 (am 19, xAI (ca 0) 1000 (gG 1000 (-12) 12))) 75 (am 25, xAI (ca 3) 900 (gX 900 g1))) 50 (am 0, mO am T (fX (E 0 0)) (fG 0 900) (fG (-2147483648) 2147483647) (fX n) (fX pt9) (fX fr9) (fX tk9) (fX vl9) (fX pl) (fX (ct9 + 1)) (fX st9) (fY tx9) (fX 1) (fG 0 48) (fG 0 9) (fX (E 0 5)))) 73 (am 23, xAI (ca 0) 8000 (gX 8000 (fun j => E9 4 (j : Int))))) 71 (am 21, xAI (ca 0) 1000 (gX 1000 gf9))) 72 (am 22, xAI (ca 0) 1000 (gX 1000 gb9)))) _ _ := h
            exact ih44 fr9 pt9 tk9 vl9 tx9 1 st9 ((ct9 + 1)) E9 gf9 gb9 (by omega) (by omega) (by omega) (by omega) (by omega) (fun q9 => absurd q9 (by omega)) hF hG (by omega) _ _ _ h (lv_sub hl [0, 1] rfl)
  exact loop44 (((900 - fr2_3 + (1 - 0) : Int)).toNat + 1) fr2_3 pt2_2 tk2_4 vl2_5 tx2_6 0 0 0 E (fun j => E 2 (j : Int)) (fun j => E 3 (j : Int)) (by omega) (by omega) (by omega) (by omega) (by omega) (fun _ => RR_0) FR_0 GF_0 (Nat.lt_succ_self _) _ _ _ h (lv_sub hl [0, 3] rfl)
abbrev r_c_X12_scale : Room := { frames := 8, cells := 0, slots := 0, locals := 181 }
set_option maxHeartbeats 4000000 in
set_option maxRecDepth 100000 in
theorem c_X12_scale (l : Launch) (D : va_G) (Zk : yK) (ca : Nat → ClassId) (T : Nat → Int → Int) (E : Nat → Int → Int) (am : Nat → Nat) (w : yW) (hM : MW ca T E am w) (n : Int) (year : Int)  (hn : xr n) (hyear : xr year) : yC l D Zk ca yX12_scale cX12_scale 3 (some .int) r_c_X12_scale [.ref (am 0), .int (iI n), .int (iI year)] w (fun r w1 => ∃ z : Int, r = some (.int (iI z)) ∧ ∃ E9 : Nat → Int → Int, MW ca T E9 am w1 ∧ AGM w w1) := by
  refine yC.of2 "WindWordsModel" (by decide) rfl (Nat.le_of_ble_eq_true rfl) ?_
  intro p e s m args below meth c A ls Qf B hnm h hl hQ
  have hl : lv_has ls 3 [(0, .ref (am 0)), (1, .int (iI n)), (2, .int (iI year))] := hl
  have hs := pi_s (MW.pi hM)
  have hpe := pe_0 (MW.pe hM)
  refine lv_iload_n B.1 B.2.1 dX12_scale_0 rfl (lv_at hl 1 rfl) ?_
  refine x_if_lt B (by omega) (tgt := 22) dX12_scale_1 (by decide) (fun c1 => ?_) (fun c1 => ?_)
  · refine lv_aload_n B.1 B.2.1 dX12_scale_22 rfl (lv_at hl 0 rfl) ?_
    refine x_iconst B dX12_scale_23 ?_
    refine y_cV B h kX12 50 (MW.f hM 0 _ rfl) k_X12_refuse rfl (c_X12_refuse l D Zk ca T E am _ hM 0  (by omega)) m_1507 rfl (by decide) hl.1 [] (Nat.le_of_ble_eq_true rfl) rfl dX12_scale_24 (fun r w1 hq H locs h => ?_)
    obtain ⟨rfl, z2, rfl, hz2⟩ := hq
    show W p l e r_c_X12_scale s m args below meth c _ _ 0 0 Qf (F0 m 27 ls [.int (iI z2)])
    refine lv_pop B.1 B.2.1 dX12_scale_27 rfl ?_
    refine x_bipush B (by decide) dX12_scale_28 ?_
    refine y_ri B hQ h (by decide) dX12_scale_30 ?_
    exact ⟨_, rfl, E, hM, fun k h1 => rfl⟩
  · refine lv_iload_n B.1 B.2.1 dX12_scale_4 rfl (lv_at hl 1 rfl) ?_
    refine lv_aload_n B.1 B.2.1 dX12_scale_5 rfl (lv_at hl 0 rfl) ?_
    refine y_getG B h kX12 50 (MW.f hM 0 _ rfl) 32 (lo := 0) (hi := 900) rfl m_1293 (by decide) dX12_scale_6 (fun z3 z3a z3b => ?_)
    refine x_icmp_gt B (by omega) (tgt := 22) dX12_scale_9 (by decide) (fun c4 => ?_) (fun c4 => ?_)
    · refine lv_aload_n B.1 B.2.1 dX12_scale_22 rfl (lv_at hl 0 rfl) ?_
      refine x_iconst B dX12_scale_23 ?_
      refine y_cV B h kX12 50 (MW.f hM 0 _ rfl) k_X12_refuse rfl (c_X12_refuse l D Zk ca T E am _ hM 0  (by omega)) m_1507 rfl (by decide) hl.1 [] (Nat.le_of_ble_eq_true rfl) rfl dX12_scale_24 (fun r w1 hq H locs h => ?_)
      obtain ⟨rfl, z5, rfl, hz5⟩ := hq
      show W p l e r_c_X12_scale s m args below meth c _ _ 0 0 Qf (F0 m 27 ls [.int (iI z5)])
      refine lv_pop B.1 B.2.1 dX12_scale_27 rfl ?_
      refine x_bipush B (by decide) dX12_scale_28 ?_
      refine y_ri B hQ h (by decide) dX12_scale_30 ?_
      exact ⟨_, rfl, E, hM, fun k h1 => rfl⟩
    · refine lv_iload_n B.1 B.2.1 dX12_scale_12 rfl (lv_at hl 2 rfl) ?_
      refine x_iconst B dX12_scale_13 ?_
      refine x_bipush B (by decide) dX12_scale_14 ?_
      refine y_cS B h k_X12_within (c_X12_within l D Zk ca _ year 0 9  (by omega) (by omega) (by omega)) m_1515 rfl (by decide) hl.1 [] (Nat.le_of_ble_eq_true rfl) rfl dX12_scale_16 (fun r w1 hq H locs h => ?_)
      obtain ⟨rfl, _, rfl, ⟨rfl, b6⟩ | ⟨rfl, b6⟩⟩ := hq
      · show W p l e r_c_X12_scale s m args below meth c _ _ 0 0 Qf (F0 m 19 ls [.int (iI 1)])
        refine x_if_ne B (by omega) (tgt := 31) dX12_scale_19 (by decide) (fun c7 => ?_) (fun c7 => ?_)
        · refine lv_aload_n B.1 B.2.1 dX12_scale_31 rfl (lv_at hl 0 rfl) ?_
          refine y_getX B h kX12 50 (MW.f hM 0 _ rfl) 23 (z := (E 0 0)) rfl m_1284 (by decide) dX12_scale_32 ?_
          refine x_bipush B (by decide) dX12_scale_35 ?_
          refine x_icmp_ne B (by omega) (tgt := 49) dX12_scale_37 (by decide) (fun c8 => ?_) (fun c8 => ?_)
          · refine lv_aload_n B.1 B.2.1 dX12_scale_49 rfl (lv_at hl 0 rfl) ?_
            refine lv_iload_n B.1 B.2.1 dX12_scale_50 rfl (lv_at hl 1 rfl) ?_
            refine lv_aload_n B.1 B.2.1 dX12_scale_51 rfl (lv_at hl 0 rfl) ?_
            refine y_getX B h kX12 50 (MW.f hM 0 _ rfl) 23 (z := (E 0 0)) rfl m_1284 (by decide) dX12_scale_52 ?_
            refine x_iconst B dX12_scale_55 ?_
            refine y_cV B h kX12 50 (MW.f hM 0 _ rfl) k_X12_reads rfl (c_X12_reads l D Zk ca T E am _ hM n ((E 0 0)) 1  (by omega) (by omega) (by omega) (by omega)) m_1554 rfl (by decide) hl.1 [] (Nat.le_of_ble_eq_true rfl) rfl dX12_scale_56 (fun r w1 hq H locs h => ?_)
            obtain ⟨_, rfl, E9, hM9, hag9, he9, hz9⟩ := hq
            have hpe9 := pe_0 (MW.pe hM9)
            have he90 := he9 0
            rcases hz9 with ⟨rfl, hz9⟩ | rfl
            · show W p l e r_c_X12_scale s m args below meth c _ _ 0 0 Qf (F0 m 59 ls [.int (iI 1)])
              refine x_if_ne B (by omega) (tgt := 68) dX12_scale_59 (by decide) (fun c9 => ?_) (fun c9 => ?_)
              · refine lv_aload_n B.1 B.2.1 dX12_scale_68 rfl (lv_at hl 0 rfl) ?_
                refine y_getR B h kX12 50 (MW.f hM9 0 _ rfl) 22 (b := am 17) rfl m_1283 (by decide) dX12_scale_69 ?_
                refine lv_aload_n B.1 B.2.1 dX12_scale_72 rfl (lv_at hl 0 rfl) ?_
                refine y_getX B h kX12 50 (MW.f hM9 0 _ rfl) 23 (z := (E9 0 0)) rfl m_1284 (by decide) dX12_scale_73 ?_
                refine lv_iload_n B.1 B.2.1 dX12_scale_76 rfl (lv_at hl 2 rfl) ?_
                refine y_iastS B h 67 (MW.f hM9 17 _ rfl) (by omega) (fun _ _ => trivial) dX12_scale_77 (fun H locs h => ?_)
                refine lv_aload_n B.1 B.2.1 dX12_scale_78 rfl (lv_at hl 0 rfl) ?_
                refine lv_dup B.1 B.2.1 dX12_scale_79 rfl ?_
                refine y_getX B h kX12 50 (MW.f hM9 0 _ rfl) 23 (z := (E9 0 0)) rfl m_1284 (by decide) dX12_scale_80 ?_
                refine x_iconst B dX12_scale_83 ?_
                refine x_iadd B dX12_scale_84 ?_
                refine y_put B h kX12 50 (MW.f hM9 0 _ rfl) 23 (Nat.le_of_ble_eq_true rfl) (P' := fX ((E9 0 0) + 1)) m_1284 (by decide) rfl rfl rfl rfl dX12_scale_85 (fun H locs h => ?_)
                have h : yH D Zk A s ((wu w1 50 (am 0, mO am T (fX ((E9 0 0) + 1)) (fG 0 900) (fG (-2147483648) 2147483647) (fG 0 900) (fG 0 900) (fG 0 900) (fG (-2147483648) 2147483647) (fG (-2147483648) 2147483647) (fG 0 24) (fG 0 41) (fG 0 319) fL (fG 0 1) (fG 0 48) (fG 0 9) (fX (E9 0 5))))) _ _ := h
                refine lv_aload_n B.1 B.2.1 dX12_scale_88 rfl (lv_at hl 0 rfl) ?_
                refine y_getX B h kX12 50 wu_eq 23 (z := ((E9 0 0) + 1)) rfl m_1284 (by decide) dX12_scale_89 ?_
                refine x_iconst B dX12_scale_92 ?_
                refine x_isub B dX12_scale_93 ?_
                refine y_ri B hQ h (by decide) dX12_scale_94 ?_
                exact ⟨_, rfl, _, MW.sc hM9 (by omega) (by rw [he90]; exact hz9), fun k h1 => by rw [wu_ne (by omega)]; exact hag9 k h1⟩
              · exact absurd c9 (by omega)
            · show W p l e r_c_X12_scale s m args below meth c _ _ 0 0 Qf (F0 m 59 ls [.int (iI 0)])
              refine x_if_ne B (by omega) (tgt := 68) dX12_scale_59 (by decide) (fun c10 => ?_) (fun c10 => ?_)
              · exact absurd c10 (by omega)
              · refine lv_aload_n B.1 B.2.1 dX12_scale_62 rfl (lv_at hl 0 rfl) ?_
                refine x_iconst B dX12_scale_63 ?_
                refine y_cV B h kX12 50 (MW.f hM9 0 _ rfl) k_X12_refuse rfl (c_X12_refuse l D Zk ca T E9 am _ hM9 2  (by omega)) m_1507 rfl (by decide) hl.1 [] (Nat.le_of_ble_eq_true rfl) rfl dX12_scale_64 (fun r w1 hq H locs h => ?_)
                obtain ⟨rfl, z11, rfl, hz11⟩ := hq
                show W p l e r_c_X12_scale s m args below meth c _ _ 0 0 Qf (F0 m 67 ls [.int (iI z11)])
                refine y_ri B hQ h (by decide) dX12_scale_67 ?_
                exact ⟨_, rfl, E9, hM9, hag9⟩
          · refine lv_aload_n B.1 B.2.1 dX12_scale_40 rfl (lv_at hl 0 rfl) ?_
            refine x_iconst B dX12_scale_41 ?_
            refine y_cV B h kX12 50 (MW.f hM 0 _ rfl) k_X12_refuse rfl (c_X12_refuse l D Zk ca T E am _ hM 1  (by omega)) m_1507 rfl (by decide) hl.1 [] (Nat.le_of_ble_eq_true rfl) rfl dX12_scale_42 (fun r w1 hq H locs h => ?_)
            obtain ⟨rfl, z12, rfl, hz12⟩ := hq
            show W p l e r_c_X12_scale s m args below meth c _ _ 0 0 Qf (F0 m 45 ls [.int (iI z12)])
            refine lv_pop B.1 B.2.1 dX12_scale_45 rfl ?_
            refine x_bipush B (by decide) dX12_scale_46 ?_
            refine y_ri B hQ h (by decide) dX12_scale_48 ?_
            exact ⟨_, rfl, E, hM, fun k h1 => rfl⟩
        · exact absurd c7 (by omega)
      · show W p l e r_c_X12_scale s m args below meth c _ _ 0 0 Qf (F0 m 19 ls [.int (iI 0)])
        refine x_if_ne B (by omega) (tgt := 31) dX12_scale_19 (by decide) (fun c13 => ?_) (fun c13 => ?_)
        · exact absurd c13 (by omega)
        · refine lv_aload_n B.1 B.2.1 dX12_scale_22 rfl (lv_at hl 0 rfl) ?_
          refine x_iconst B dX12_scale_23 ?_
          refine y_cV B h kX12 50 (MW.f hM 0 _ rfl) k_X12_refuse rfl (c_X12_refuse l D Zk ca T E am _ hM 0  (by omega)) m_1507 rfl (by decide) hl.1 [] (Nat.le_of_ble_eq_true rfl) rfl dX12_scale_24 (fun r w1 hq H locs h => ?_)
          obtain ⟨rfl, z14, rfl, hz14⟩ := hq
          show W p l e r_c_X12_scale s m args below meth c _ _ 0 0 Qf (F0 m 27 ls [.int (iI z14)])
          refine lv_pop B.1 B.2.1 dX12_scale_27 rfl ?_
          refine x_bipush B (by decide) dX12_scale_28 ?_
          refine y_ri B hQ h (by decide) dX12_scale_30 ?_
          exact ⟨_, rfl, E, hM, fun k h1 => rfl⟩
