/-! ===== rows are copied from one slot to another ===== -/
def cpy (g : Nat → Int) (a b k : Int) : Nat → Int := fun j => if b ≤ (j : Int) ∧ (j : Int) < b + k then g (a + ((j : Int) - b)).toNat else g j
theorem cpy_0 (g : Nat → Int) (a b : Int) : cpy g a b 0 = g := funext fun j => if_neg (by omega)
theorem cpy_up {n : Nat} {g : Nat → Int} {a b k i v : Int} (hi : i = b + k ∧ 0 ≤ b ∧ 0 ≤ k) (hv : v = cpy g a b k (a + k).toNat) (ha : b + k ≤ a) : ∀ q : Nat → Int32, gX n (cpy g a b k) q → gX n (cpy g a b (k + 1)) (upd q i.toNat (iI v)) := fun q hq j hj => by
  unfold upd
  by_cases e : j = i.toNat
  · rw [if_pos e, hv]
    unfold cpy
    rw [if_neg (by omega), if_pos (by omega), show a + ((j : Int) - b) = a + k by omega]
  · rw [if_neg e, hq j hj]
    unfold cpy
    by_cases q9 : b ≤ (j : Int) ∧ (j : Int) < b + k
    · rw [if_pos q9, if_pos (by omega)]
    · rw [if_neg q9, if_neg (by omega)]
theorem dpt_sh {E E' : Nat → Int → Int} {b b' : Int} : ∀ n : Nat, (∀ k : Nat, k < n → E' 4 (b' + (k : Int)) = E 4 (b + (k : Int))) → dpt E' b' n = dpt E b n
  | 0, _ => rfl
  | n + 1, h => by
    have a := dpt_sh n (fun k hk => h k (by omega))
    show dpt E' b' n + (if E' 4 (b' + (n : Int)) < 20 then 1 else if E' 4 (b' + (n : Int)) = 20 then 0 else -1) = dpt E b n + (if E 4 (b + (n : Int)) < 20 then 1 else if E 4 (b + (n : Int)) = 20 then 0 else -1)
    rw [a, h n (by omega)]
theorem OKS_sh {E E' : Nat → Int → Int} {b b' n : Int} (h : OKS E b n) (he : ∀ k : Nat, (k : Int) < n → E' 4 (b' + (k : Int)) = E 4 (b + (k : Int))) : OKS E' b' n := fun k hk => by
  rw [dpt_sh k (fun j hj => he j (by omega)), he k hk]
  exact h k hk
theorem pe_hb {E : Nat → Int → Int} {gm : Nat → Int} {to : Int} (h : PE E) (hS : SLOT E 24) (hto : 8 ≤ to ∧ to < 24) (hm : ∀ j : Nat, j < 1000 → -12 ≤ gm j ∧ gm j ≤ 12) :
    PE (EMK E (fun _ j => cpy (fun j => E 4 (j : Int)) 7680 (320 * to) 320 j.toNat) (iu (fun j => E 1 (j : Int)) to (E 1 24)) (cpy (fun j => E 2 (j : Int)) 960 (40 * to) 40) (cpy (fun j => E 3 (j : Int)) 960 (40 * to) 40) gm) := by
  obtain ⟨h1, h2, h3, h4⟩ := h
  have es : ∀ j : Nat, iu (fun j => E 1 (j : Int)) to (E 1 24) j = E 1 (if (j : Int) = to then 24 else (j : Int)) := fun j => by
    unfold iu; by_cases q : (j : Int) = to
    · rw [if_pos q, if_pos q]
    · rw [if_neg q, if_neg q]
  have ec : ∀ (f : Nat) (a b k x : Int), 0 ≤ x → 0 ≤ a → cpy (fun j => E f (j : Int)) a b k x.toNat = E f (if b ≤ x ∧ x < b + k then a + (x - b) else x) := fun f a b k x hx ha => by
    unfold cpy
    rw [Int.toNat_of_nonneg hx]
    by_cases q : b ≤ x ∧ x < b + k
    · rw [if_pos q, if_pos q]
      show E f (((a + (x - b)).toNat : Nat) : Int) = _
      rw [Int.toNat_of_nonneg (by omega)]
    · rw [if_neg q, if_neg q]
      show E f ((x.toNat : Nat) : Int) = _
      rw [Int.toNat_of_nonneg hx]
  refine ⟨h1, fun i => ?_, fun i => ?_, fun q hq i hi => ?_⟩
  · show 0 ≤ iu (fun j => E 1 (j : Int)) to (E 1 24) i.toNat ∧ iu (fun j => E 1 (j : Int)) to (E 1 24) i.toNat ≤ 40
    rw [es]; exact h2 _
  · show -12 ≤ (if i.toNat < 1000 then gm i.toNat else 0) ∧ (if i.toNat < 1000 then gm i.toNat else 0) ≤ 12
    by_cases q : i.toNat < 1000
    · rw [if_pos q]; exact hm _ q
    · rw [if_neg q]; omega
  · have hq : (0 ≤ q ∧ q < E 0 0) ∨ (8 ≤ q ∧ q < 24) := hq
    have hi : 0 ≤ i ∧ i < iu (fun j => E 1 (j : Int)) to (E 1 24) q.toNat := hi
    rw [es, Int.toNat_of_nonneg (by omega)] at hi
    have h40 := h2 (if q = to then 24 else q)
    show 0 ≤ cpy (fun j => E 2 (j : Int)) 960 (40 * to) 40 (40 * q + i).toNat ∧ cpy (fun j => E 2 (j : Int)) 960 (40 * to) 40 (40 * q + i).toNat ≤ cpy (fun j => E 3 (j : Int)) 960 (40 * to) 40 (40 * q + i).toNat ∧ cpy (fun j => E 3 (j : Int)) 960 (40 * to) 40 (40 * q + i).toNat ≤ 320 ∧ OKS _ (320 * q + cpy (fun j => E 2 (j : Int)) 960 (40 * to) 40 (40 * q + i).toNat) (cpy (fun j => E 3 (j : Int)) 960 (40 * to) 40 (40 * q + i).toNat - cpy (fun j => E 2 (j : Int)) 960 (40 * to) 40 (40 * q + i).toNat)
    rw [ec 2 _ _ _ _ (by omega) (by omega), ec 3 _ _ _ _ (by omega) (by omega)]
    by_cases e : q = to
    · rw [if_pos e] at hi h40
      obtain ⟨⟨a, b, d⟩, f⟩ := hS i hi
      rw [if_pos (by omega), show 960 + (40 * q + i - 40 * to) = 40 * 24 + i by omega]
      refine ⟨a, b, d, OKS_sh f (fun k hk => ?_)⟩
      show cpy (fun j => E 4 (j : Int)) 7680 (320 * to) 320 _ = _
      rw [ec 4 _ _ _ _ (by omega) (by omega), if_pos (by omega)]
      congr 1
      omega
    · rw [if_neg e] at hi h40
      obtain ⟨a, b, d, f⟩ := h4 q hq i hi
      rw [if_neg (by omega)]
      refine ⟨a, b, d, OKS_congr f (fun k hk => ?_)⟩
      show cpy (fun j => E 4 (j : Int)) 7680 (320 * to) 320 _ = _
      rw [ec 4 _ _ _ _ (by omega) (by omega), if_neg (by omega)]


abbrev r_c_X12_habits : Room := { frames := 8, cells := 0, slots := 0, locals := 181 }
set_option maxHeartbeats 4000000 in
set_option maxRecDepth 100000 in
theorem c_X12_habits (l : Launch) (D : va_G) (Zk : yK) (ca : Nat → ClassId) (T : Nat → Int → Int) (E : Nat → Int → Int) (am : Nat → Nat) (w : yW) (hM : MW ca T E am w) (o : Int) (n : Int)  (ho : xr o) (hn : xr n) : yC l D Zk ca yX12_habits cX12_habits 5 (some .int) r_c_X12_habits [.ref (am 0), .int (iI o), .int (iI n)] w (fun r w1 => ∃ z : Int, r = some (.int (iI z)) ∧ ∃ E9 : Nat → Int → Int, MW ca T E9 am w1 ∧ AGM w w1) := by
  refine yC.of2 "WindWordsModel" (by decide) rfl (Nat.le_of_ble_eq_true rfl) ?_
  intro p e s m args below meth c A ls Qf B hnm h hl hQ
  have hl : lv_has ls 5 [(0, .ref (am 0)), (1, .int (iI o)), (2, .int (iI n))] := hl
  have hs := pi_s (MW.pi hM)
  have hpe := pe_0 (MW.pe hM)
  refine lv_aload_n B.1 B.2.1 dX12_habits_0 rfl (lv_at hl 0 rfl) ?_
  refine lv_iload_n B.1 B.2.1 dX12_habits_1 rfl (lv_at hl 1 rfl) ?_
  refine y_cV B h kX12 50 (MW.f hM 0 _ rfl) k_X12_isOfficer rfl (c_X12_isOfficer l D Zk ca T E am _ hM o  (by omega)) m_1518 rfl (by decide) hl.1 [] (Nat.le_of_ble_eq_true rfl) rfl dX12_habits_2 (fun r w1 hq H locs h => ?_)
  obtain ⟨rfl, _, rfl, ⟨rfl, b1⟩ | ⟨rfl, b1⟩⟩ := hq
  · show W p l e r_c_X12_habits s m args below meth c _ _ 0 0 Qf (F0 m 5 ls [.int (iI 1)])
    refine x_if_eq B (by omega) (tgt := 20) dX12_habits_5 (by decide) (fun c2 => ?_) (fun c2 => ?_)
    · exact absurd c2 (by omega)
    · refine lv_iload_n B.1 B.2.1 dX12_habits_8 rfl (lv_at hl 2 rfl) ?_
      refine x_if_lt B (by omega) (tgt := 20) dX12_habits_9 (by decide) (fun c3 => ?_) (fun c3 => ?_)
      · refine lv_aload_n B.1 B.2.1 dX12_habits_20 rfl (lv_at hl 0 rfl) ?_
        refine x_iconst B dX12_habits_21 ?_
        refine y_cV B h kX12 50 (MW.f hM 0 _ rfl) k_X12_refuse rfl (c_X12_refuse l D Zk ca T E am _ hM 0  (by omega)) m_1507 rfl (by decide) hl.1 [] (Nat.le_of_ble_eq_true rfl) rfl dX12_habits_22 (fun r w1 hq H locs h => ?_)
        obtain ⟨rfl, z4, rfl, hz4⟩ := hq
        show W p l e r_c_X12_habits s m args below meth c _ _ 0 0 Qf (F0 m 25 ls [.int (iI z4)])
        refine lv_pop B.1 B.2.1 dX12_habits_25 rfl ?_
        refine x_bipush B (by decide) dX12_habits_26 ?_
        refine y_ri B hQ h (by decide) dX12_habits_28 ?_
        exact ⟨_, rfl, E, hM, fun k h1 => rfl⟩
      · refine lv_iload_n B.1 B.2.1 dX12_habits_12 rfl (lv_at hl 2 rfl) ?_
        refine lv_aload_n B.1 B.2.1 dX12_habits_13 rfl (lv_at hl 0 rfl) ?_
        refine y_getG B h kX12 50 (MW.f hM 0 _ rfl) 32 (lo := 0) (hi := 900) rfl m_1293 (by decide) dX12_habits_14 (fun z5 z5a z5b => ?_)
        refine x_icmp_le B (by omega) (tgt := 29) dX12_habits_17 (by decide) (fun c6 => ?_) (fun c6 => ?_)
        · refine lv_aload_n B.1 B.2.1 dX12_habits_29 rfl (lv_at hl 0 rfl) ?_
          refine lv_iload_n B.1 B.2.1 dX12_habits_30 rfl (lv_at hl 2 rfl) ?_
          refine x_bipush B (by decide) dX12_habits_31 ?_
          refine x_iconst B dX12_habits_33 ?_
          refine y_cV B h kX12 50 (MW.f hM 0 _ rfl) k_X12_reads rfl (c_X12_reads l D Zk ca T E am _ hM n 24 0  (by omega) (by omega) (by omega) (by omega)) m_1554 rfl (by decide) hl.1 [] (Nat.le_of_ble_eq_true rfl) rfl dX12_habits_34 (fun r w1 hq H locs h => ?_)
          obtain ⟨_, rfl, E9, hM9, hag9, he9, hz9⟩ := hq
          have hpe9 := pe_0 (MW.pe hM9)
          have he90 := he9 0
          rcases hz9 with ⟨rfl, hz9⟩ | rfl
          · show W p l e r_c_X12_habits s m args below meth c _ _ 0 0 Qf (F0 m 37 ls [.int (iI 1)])
            refine x_if_ne B (by omega) (tgt := 46) dX12_habits_37 (by decide) (fun c7 => ?_) (fun c7 => ?_)
            · have h := yH.weak (P' := xAI (ca 0) 1000 (gG 1000 (-12) 12)) h (MW.f hM9 19 _ rfl) (xAI_XG (fun k hk => pe_5 (MW.pe hM9) _))
              have h : yH D Zk A s ((wu w1 69 (am 19, xAI (ca 0) 1000 (gG 1000 (-12) 12)))) _ _ := h
              refine x_bipush B (by decide) dX12_habits_46 ?_
              refine lv_iload_n B.1 B.2.1 dX12_habits_48 rfl (lv_at hl 1 rfl) ?_
              refine x_iadd B dX12_habits_49 ?_
              refine lv_istore_n (lv' := [(3, .int (iI (8 + o))), (0, .ref (am 0)), (1, .int (iI o)), (2, .int (iI n))]) B.1 B.2.1 dX12_habits_50 rfl hl (by decide) rfl (fun ls hl => ?_)
              refine lv_aload_n B.1 B.2.1 dX12_habits_51 rfl (lv_at hl 1 rfl) ?_
              refine y_getR B h kX12 50 (wu_at (MW.f hM9 0 _ rfl) (by decide)) 21 (b := am 16) rfl m_1282 (by decide) dX12_habits_52 ?_
              refine lv_iload_n B.1 B.2.1 dX12_habits_55 rfl (lv_at hl 0 rfl) ?_
              refine lv_aload_n B.1 B.2.1 dX12_habits_56 rfl (lv_at hl 1 rfl) ?_
              refine y_getR B h kX12 50 (wu_at (MW.f hM9 0 _ rfl) (by decide)) 21 (b := am 16) rfl m_1282 (by decide) dX12_habits_57 ?_
              refine x_bipush B (by decide) dX12_habits_60 ?_
              have eb8 := pe_1 (MW.pe hM9) 24
              refine y_ialdX B h 66 (wu_at (MW.f hM9 16 _ rfl) (by decide)) (by omega) dX12_habits_62 ?_
              refine x_iset (z := (E9 1 24)) (by show iI (E9 1 (((24 : Int).toNat : Nat) : Int)) = _; rw [show ((((24 : Int).toNat : Nat) : Int)) = 24 by omega]) ?_
              refine y_iast B h 66 (wu_at (MW.f hM9 16 _ rfl) (by decide)) (by omega) (P' := gX 25 (iu (fun j => E9 1 (j : Int)) (8 + o) (E9 1 24))) (gX_upd (by omega)) dX12_habits_63 (fun H locs h => ?_)
              have h : yH D Zk A s ((wu (wu w1 69 (am 19, xAI (ca 0) 1000 (gG 1000 (-12) 12))) 66 (am 16, xAI (ca 0) 25 (gX 25 (iu (fun j => E9 1 (j : Int)) (8 + o) (E9 1 24)))))) _ _ := h
              refine x_iconst B dX12_habits_64 ?_
              refine lv_istore (lv' := [(4, .int (iI 0)), (3, .int (iI (8 + o))), (0, .ref (am 0)), (1, .int (iI o)), (2, .int (iI n))]) B.1 B.2.1 dX12_habits_65 hl (by decide) rfl (fun ls hl => ?_)
              have h := yH.weak (P' := xAI (ca 0) 1000 (gX 1000 (cpy (fun j => E9 2 (j : Int)) 960 (40 * (8 + o)) 0))) h (wu_at (wu_at (MW.f hM9 21 _ rfl) (by decide)) (by decide)) (fun e he => by rw [cpy_0]; exact he)
              have h : yH D Zk A s ((wu (wu (wu w1 69 (am 19, xAI (ca 0) 1000 (gG 1000 (-12) 12))) 66 (am 16, xAI (ca 0) 25 (gX 25 (iu (fun j => E9 1 (j : Int)) (8 + o) (E9 1 24))))) 71 (am 21, xAI (ca 0) 1000 (gX 1000 (cpy (fun j => E9 2 (j : Int)) 960 (40 * (8 + o)) 0))))) _ _ := h
              have h := yH.weak (P' := xAI (ca 0) 1000 (gX 1000 (cpy (fun j => E9 3 (j : Int)) 960 (40 * (8 + o)) 0))) h (wu_at (wu_at (wu_at (MW.f hM9 22 _ rfl) (by decide)) (by decide)) (by decide)) (fun e he => by rw [cpy_0]; exact he)
              have h : yH D Zk A s ((wu (wu (wu (wu w1 69 (am 19, xAI (ca 0) 1000 (gG 1000 (-12) 12))) 66 (am 16, xAI (ca 0) 25 (gX 25 (iu (fun j => E9 1 (j : Int)) (8 + o) (E9 1 24))))) 71 (am 21, xAI (ca 0) 1000 (gX 1000 (cpy (fun j => E9 2 (j : Int)) 960 (40 * (8 + o)) 0)))) 72 (am 22, xAI (ca 0) 1000 (gX 1000 (cpy (fun j => E9 3 (j : Int)) 960 (40 * (8 + o)) 0))))) _ _ := h
              have loop67 : ∀ (n67 : Nat) (k40 : Int), (0 ≤ k40 ∧ k40 ≤ 40) → ((40 - k40 : Int)).toNat < n67 → ∀ (H : Heap) (locs : List Loc) (ls : Array Slot), yH D Zk A s ((wu (wu (wu (wu w1 69 (am 19, xAI (ca 0) 1000 (gG 1000 (-12) 12))) 66 (am 16, xAI (ca 0) 25 (gX 25 (iu (fun j => E9 1 (j : Int)) (8 + o) (E9 1 24))))) 71 (am 21, xAI (ca 0) 1000 (gX 1000 (cpy (fun j => E9 2 (j : Int)) 960 (40 * (8 + o)) k40)))) 72 (am 22, xAI (ca 0) 1000 (gX 1000 (cpy (fun j => E9 3 (j : Int)) 960 (40 * (8 + o)) k40))))) H locs → lv_has ls 5 [(4, .int (iI k40)), (3, .int (iI (8 + o))), (0, .ref (am 0))] → W p l e r_c_X12_habits s m args below meth c H locs 0 0 Qf (F0 m 67 ls []) := by
                intro n67
                induction n67 with
                | zero =>
                  intro k40 h0 hm67 H locs ls h hl
                  exact absurd hm67 (Nat.not_lt_zero _)
                | succ n67 ih67 =>
                  intro k40 h0 hm67 H locs ls h hl
                  refine lv_iload B.1 B.2.1 dX12_habits_67 (lv_at hl 0 rfl) ?_
                  refine x_bipush B (by decide) dX12_habits_69 ?_
                  refine x_icmp_ge B (by omega) (tgt := 195) dX12_habits_71 (by decide) (fun c9 => ?_) (fun c9 => ?_)
                  · refine x_iconst B dX12_habits_195 ?_
                    refine lv_istore (lv' := [(4, .int (iI 0)), (3, .int (iI (8 + o))), (0, .ref (am 0))]) B.1 B.2.1 dX12_habits_196 hl (by decide) rfl (fun ls hl => ?_)
                    have h := yH.weak (P' := xAI (ca 0) 8000 (gX 8000 (cpy (fun j => E9 4 (j : Int)) 7680 (320 * (8 + o)) 0))) h (wu_at (wu_at (wu_at (wu_at (MW.f hM9 23 _ rfl) (by decide)) (by decide)) (by decide)) (by decide)) (fun e he => by rw [cpy_0]; exact he)
                    have h : yH D Zk A s ((wu (wu (wu (wu (wu w1 69 (am 19, xAI (ca 0) 1000 (gG 1000 (-12) 12))) 66 (am 16, xAI (ca 0) 25 (gX 25 (iu (fun j => E9 1 (j : Int)) (8 + o) (E9 1 24))))) 71 (am 21, xAI (ca 0) 1000 (gX 1000 (cpy (fun j => E9 2 (j : Int)) 960 (40 * (8 + o)) k40)))) 72 (am 22, xAI (ca 0) 1000 (gX 1000 (cpy (fun j => E9 3 (j : Int)) 960 (40 * (8 + o)) k40)))) 73 (am 23, xAI (ca 0) 8000 (gX 8000 (cpy (fun j => E9 4 (j : Int)) 7680 (320 * (8 + o)) 0))))) _ _ := h
                    have loop198 : ∀ (n198 : Nat) (k : Int), (0 ≤ k ∧ k ≤ 320) → ((320 - k : Int)).toNat < n198 → ∀ (H : Heap) (locs : List Loc) (ls : Array Slot), yH D Zk A s ((wu (wu (wu (wu (wu w1 69 (am 19, xAI (ca 0) 1000 (gG 1000 (-12) 12))) 66 (am 16, xAI (ca 0) 25 (gX 25 (iu (fun j => E9 1 (j : Int)) (8 + o) (E9 1 24))))) 71 (am 21, xAI (ca 0) 1000 (gX 1000 (cpy (fun j => E9 2 (j : Int)) 960 (40 * (8 + o)) k40)))) 72 (am 22, xAI (ca 0) 1000 (gX 1000 (cpy (fun j => E9 3 (j : Int)) 960 (40 * (8 + o)) k40)))) 73 (am 23, xAI (ca 0) 8000 (gX 8000 (cpy (fun j => E9 4 (j : Int)) 7680 (320 * (8 + o)) k))))) H locs → lv_has ls 5 [(4, .int (iI k)), (3, .int (iI (8 + o))), (0, .ref (am 0))] → W p l e r_c_X12_habits s m args below meth c H locs 0 0 Qf (F0 m 198 ls []) := by
                      intro n198
                      induction n198 with
                      | zero =>
                        intro k h1 hm198 H locs ls h hl
                        exact absurd hm198 (Nat.not_lt_zero _)
                      | succ n198 ih198 =>
                        intro k h1 hm198 H locs ls h hl
                        refine lv_iload B.1 B.2.1 dX12_habits_198 (lv_at hl 0 rfl) ?_
                        refine x_sipush B (by decide) dX12_habits_200 ?_
                        refine x_icmp_ge B (by omega) (tgt := 260) dX12_habits_203 (by decide) (fun c10 => ?_) (fun c10 => ?_)
                        · refine lv_aload_n B.1 B.2.1 dX12_habits_260 rfl (lv_at hl 2 rfl) ?_
                          refine y_getR B h kX12 50 (wu_at (wu_at (wu_at (wu_at (wu_at (MW.f hM9 0 _ rfl) (by decide)) (by decide)) (by decide)) (by decide)) (by decide)) 21 (b := am 16) rfl m_1282 (by decide) dX12_habits_261 ?_
                          refine lv_iload_n B.1 B.2.1 dX12_habits_264 rfl (lv_at hl 1 rfl) ?_
                          refine y_ialdX B h 66 (wu_at (wu_at (wu_at wu_eq (by decide)) (by decide)) (by decide)) (by omega) dX12_habits_265 ?_
                          refine x_iset (z := ((iu (fun j => E9 1 (j : Int)) (8 + o) (E9 1 24)) ((8 + o)).toNat)) rfl ?_
                          rw [wu_comm (show (69 : Nat) ≠ 66 by decide), wu_comm (show (69 : Nat) ≠ 71 by decide), wu_comm (show (69 : Nat) ≠ 72 by decide), wu_comm (show (69 : Nat) ≠ 73 by decide)] at h
                          have h : yH D Zk A s ((wu (wu (wu (wu (wu w1 66 (am 16, xAI (ca 0) 25 (gX 25 (iu (fun j => E9 1 (j : Int)) (8 + o) (E9 1 24))))) 71 (am 21, xAI (ca 0) 1000 (gX 1000 (cpy (fun j => E9 2 (j : Int)) 960 (40 * (8 + o)) k40)))) 72 (am 22, xAI (ca 0) 1000 (gX 1000 (cpy (fun j => E9 3 (j : Int)) 960 (40 * (8 + o)) k40)))) 73 (am 23, xAI (ca 0) 8000 (gX 8000 (cpy (fun j => E9 4 (j : Int)) 7680 (320 * (8 + o)) k)))) 69 (am 19, xAI (ca 0) 1000 (gG 1000 (-12) 12)))) _ _ := h
                          obtain ⟨g11, hg11, h⟩ := yH.pinG h wu_eq
                          rw [wu_wu] at h
                          have h : yH D Zk A s ((wu (wu (wu (wu (wu w1 66 (am 16, xAI (ca 0) 25 (gX 25 (iu (fun j => E9 1 (j : Int)) (8 + o) (E9 1 24))))) 71 (am 21, xAI (ca 0) 1000 (gX 1000 (cpy (fun j => E9 2 (j : Int)) 960 (40 * (8 + o)) k40)))) 72 (am 22, xAI (ca 0) 1000 (gX 1000 (cpy (fun j => E9 3 (j : Int)) 960 (40 * (8 + o)) k40)))) 73 (am 23, xAI (ca 0) 8000 (gX 8000 (cpy (fun j => E9 4 (j : Int)) 7680 (320 * (8 + o)) k)))) 69 (am 19, xAI (ca 0) 1000 (gX 1000 g11)))) _ _ := h
                          refine y_ri B hQ h (by decide) dX12_habits_266 ?_
                          have e40 : k40 = 40 := by omega
                          have e320 : k = 320 := by omega
                          subst e40
                          subst e320
                          exact ⟨_, rfl, _, MW.ex hM9 (pe_hb (MW.pe hM9) hz9 (by omega) hg11) (fun k k0 k1 k2 k3 k4 => by rw [wu_ne (by omega), wu_ne (by omega), wu_ne (by omega), wu_ne (by omega), wu_ne (by omega)]) (wu_at (wu_at (wu_at (wu_at wu_eq (by decide)) (by decide)) (by decide)) (by decide)) wu_eq (wu_at (wu_at (wu_at wu_eq (by decide)) (by decide)) (by decide)) (wu_at (wu_at wu_eq (by decide)) (by decide)) (wu_at wu_eq (by decide)), fun k h1 => by rw [wu_ne (by omega), wu_ne (by omega), wu_ne (by omega), wu_ne (by omega), wu_ne (by omega)]; exact hag9 k h1⟩
                        · refine lv_aload_n B.1 B.2.1 dX12_habits_206 rfl (lv_at hl 2 rfl) ?_
                          refine y_getR B h kX12 50 (wu_at (wu_at (wu_at (wu_at (wu_at (MW.f hM9 0 _ rfl) (by decide)) (by decide)) (by decide)) (by decide)) (by decide)) 29 (b := am 23) rfl m_1290 (by decide) dX12_habits_207 ?_
                          refine x_sipush B (by decide) dX12_habits_210 ?_
                          refine lv_iload_n B.1 B.2.1 dX12_habits_213 rfl (lv_at hl 1 rfl) ?_
                          refine x_imul B dX12_habits_214 ?_
                          refine lv_iload B.1 B.2.1 dX12_habits_215 (lv_at hl 0 rfl) ?_
                          refine x_iadd B dX12_habits_217 ?_
                          refine lv_aload_n B.1 B.2.1 dX12_habits_218 rfl (lv_at hl 2 rfl) ?_
                          refine y_getR B h kX12 50 (wu_at (wu_at (wu_at (wu_at (wu_at (MW.f hM9 0 _ rfl) (by decide)) (by decide)) (by decide)) (by decide)) (by decide)) 29 (b := am 23) rfl m_1290 (by decide) dX12_habits_219 ?_
                          refine x_sipush B (by decide) dX12_habits_222 ?_
                          refine lv_iload B.1 B.2.1 dX12_habits_225 (lv_at hl 0 rfl) ?_
                          refine x_iadd B dX12_habits_227 ?_
                          refine y_ialdX B h 73 wu_eq (by omega) dX12_habits_228 ?_
                          refine x_iset (z := ((cpy (fun j => E9 4 (j : Int)) 7680 (320 * (8 + o)) k) ((7680 + k)).toNat)) rfl ?_
                          refine y_iast B h 73 wu_eq (by omega) (P' := gX 8000 (cpy (fun j => E9 4 (j : Int)) 7680 (320 * (8 + o)) (k + 1))) (cpy_up (by omega) rfl (by omega)) dX12_habits_229 (fun H locs h => ?_)
                          rw [wu_wu] at h
                          have h : yH D Zk A s ((wu (wu (wu (wu (wu w1 69 (am 19, xAI (ca 0) 1000 (gG 1000 (-12) 12))) 66 (am 16, xAI (ca 0) 25 (gX 25 (iu (fun j => E9 1 (j : Int)) (8 + o) (E9 1 24))))) 71 (am 21, xAI (ca 0) 1000 (gX 1000 (cpy (fun j => E9 2 (j : Int)) 960 (40 * (8 + o)) k40)))) 72 (am 22, xAI (ca 0) 1000 (gX 1000 (cpy (fun j => E9 3 (j : Int)) 960 (40 * (8 + o)) k40)))) 73 (am 23, xAI (ca 0) 8000 (gX 8000 (cpy (fun j => E9 4 (j : Int)) 7680 (320 * (8 + o)) (k + 1)))))) _ _ := h
                          refine lv_aload_n B.1 B.2.1 dX12_habits_230 rfl (lv_at hl 2 rfl) ?_
                          refine y_getR B h kX12 50 (wu_at (wu_at (wu_at (wu_at (wu_at (MW.f hM9 0 _ rfl) (by decide)) (by decide)) (by decide)) (by decide)) (by decide)) 30 (b := am 24) rfl m_1291 (by decide) dX12_habits_231 ?_
                          refine x_sipush B (by decide) dX12_habits_234 ?_
                          refine lv_iload_n B.1 B.2.1 dX12_habits_237 rfl (lv_at hl 1 rfl) ?_
                          refine x_imul B dX12_habits_238 ?_
                          refine lv_iload B.1 B.2.1 dX12_habits_239 (lv_at hl 0 rfl) ?_
                          refine x_iadd B dX12_habits_241 ?_
                          refine lv_aload_n B.1 B.2.1 dX12_habits_242 rfl (lv_at hl 2 rfl) ?_
                          refine y_getR B h kX12 50 (wu_at (wu_at (wu_at (wu_at (wu_at (MW.f hM9 0 _ rfl) (by decide)) (by decide)) (by decide)) (by decide)) (by decide)) 30 (b := am 24) rfl m_1291 (by decide) dX12_habits_243 ?_
                          refine x_sipush B (by decide) dX12_habits_246 ?_
                          refine lv_iload B.1 B.2.1 dX12_habits_249 (lv_at hl 0 rfl) ?_
                          refine x_iadd B dX12_habits_251 ?_
                          refine y_iald B h 74 (wu_at (wu_at (wu_at (wu_at (wu_at (MW.f hM9 24 _ rfl) (by decide)) (by decide)) (by decide)) (by decide)) (by decide)) (by omega) dX12_habits_252 (fun fz12 hfz12 => ?_)
                          refine x_name (fun z12 hz12 ez12 => ?_)
                          refine y_iastS B h 74 (wu_at (wu_at (wu_at (wu_at (wu_at (MW.f hM9 24 _ rfl) (by decide)) (by decide)) (by decide)) (by decide)) (by decide)) (by omega) (fun _ _ => trivial) dX12_habits_253 (fun H locs h => ?_)
                          refine lv_iinc (v := iI (k + 1)) (lv' := [(4, .int (iI (k + 1))), (3, .int (iI (8 + o))), (0, .ref (am 0))]) B.1 B.2.1 dX12_habits_254 hl (k := 0) rfl (iI_add _ _) (by decide) rfl (fun ls hl => ?_)
                          refine lv_goto (tgt := 198) B.1 B.2.1 dX12_habits_257 (by decide) ?_
                          exact ih198 ((k + 1)) (by omega) (by omega) _ _ _ h (lv_sub hl [0, 1, 2] rfl)
                    exact loop198 (((320 - 0 : Int)).toNat + 1) 0 (by omega) (Nat.lt_succ_self _) _ _ _ h (lv_sub hl [0, 1, 2] rfl)
                  · refine lv_aload_n B.1 B.2.1 dX12_habits_74 rfl (lv_at hl 2 rfl) ?_
                    refine y_getR B h kX12 50 (wu_at (wu_at (wu_at (wu_at (MW.f hM9 0 _ rfl) (by decide)) (by decide)) (by decide)) (by decide)) 24 (b := am 18) rfl m_1285 (by decide) dX12_habits_75 ?_
                    refine x_bipush B (by decide) dX12_habits_78 ?_
                    refine lv_iload_n B.1 B.2.1 dX12_habits_80 rfl (lv_at hl 1 rfl) ?_
                    refine x_imul B dX12_habits_81 ?_
                    refine lv_iload B.1 B.2.1 dX12_habits_82 (lv_at hl 0 rfl) ?_
                    refine x_iadd B dX12_habits_84 ?_
                    refine lv_aload_n B.1 B.2.1 dX12_habits_85 rfl (lv_at hl 2 rfl) ?_
                    refine y_getR B h kX12 50 (wu_at (wu_at (wu_at (wu_at (MW.f hM9 0 _ rfl) (by decide)) (by decide)) (by decide)) (by decide)) 24 (b := am 18) rfl m_1285 (by decide) dX12_habits_86 ?_
                    refine x_sipush B (by decide) dX12_habits_89 ?_
                    refine lv_iload B.1 B.2.1 dX12_habits_92 (lv_at hl 0 rfl) ?_
                    refine x_iadd B dX12_habits_94 ?_
                    refine y_iald B h 68 (wu_at (wu_at (wu_at (wu_at (MW.f hM9 18 _ rfl) (by decide)) (by decide)) (by decide)) (by decide)) (by omega) dX12_habits_95 (fun fz13 hfz13 => ?_)
                    refine x_name (fun z13 hz13 ez13 => ?_)
                    refine y_iastS B h 68 (wu_at (wu_at (wu_at (wu_at (MW.f hM9 18 _ rfl) (by decide)) (by decide)) (by decide)) (by decide)) (by omega) (fun _ _ => trivial) dX12_habits_96 (fun H locs h => ?_)
                    refine lv_aload_n B.1 B.2.1 dX12_habits_97 rfl (lv_at hl 2 rfl) ?_
                    refine y_getR B h kX12 50 (wu_at (wu_at (wu_at (wu_at (MW.f hM9 0 _ rfl) (by decide)) (by decide)) (by decide)) (by decide)) 25 (b := am 19) rfl m_1286 (by decide) dX12_habits_98 ?_
                    refine x_bipush B (by decide) dX12_habits_101 ?_
                    refine lv_iload_n B.1 B.2.1 dX12_habits_103 rfl (lv_at hl 1 rfl) ?_
                    refine x_imul B dX12_habits_104 ?_
                    refine lv_iload B.1 B.2.1 dX12_habits_105 (lv_at hl 0 rfl) ?_
                    refine x_iadd B dX12_habits_107 ?_
                    refine lv_aload_n B.1 B.2.1 dX12_habits_108 rfl (lv_at hl 2 rfl) ?_
                    refine y_getR B h kX12 50 (wu_at (wu_at (wu_at (wu_at (MW.f hM9 0 _ rfl) (by decide)) (by decide)) (by decide)) (by decide)) 25 (b := am 19) rfl m_1286 (by decide) dX12_habits_109 ?_
                    refine x_sipush B (by decide) dX12_habits_112 ?_
                    refine lv_iload B.1 B.2.1 dX12_habits_115 (lv_at hl 0 rfl) ?_
                    refine x_iadd B dX12_habits_117 ?_
                    refine y_ialdG B h 69 (wu_at (wu_at (wu_at wu_eq (by decide)) (by decide)) (by decide)) (by omega) dX12_habits_118 (fun z14 z14a z14b => ?_)
                    refine y_iastS B h 69 (wu_at (wu_at (wu_at wu_eq (by decide)) (by decide)) (by decide)) (by omega) (gG_upd (by omega)) dX12_habits_119 (fun H locs h => ?_)
                    refine lv_aload_n B.1 B.2.1 dX12_habits_120 rfl (lv_at hl 2 rfl) ?_
                    refine y_getR B h kX12 50 (wu_at (wu_at (wu_at (wu_at (MW.f hM9 0 _ rfl) (by decide)) (by decide)) (by decide)) (by decide)) 26 (b := am 20) rfl m_1287 (by decide) dX12_habits_121 ?_
                    refine x_bipush B (by decide) dX12_habits_124 ?_
                    refine lv_iload_n B.1 B.2.1 dX12_habits_126 rfl (lv_at hl 1 rfl) ?_
                    refine x_imul B dX12_habits_127 ?_
                    refine lv_iload B.1 B.2.1 dX12_habits_128 (lv_at hl 0 rfl) ?_
                    refine x_iadd B dX12_habits_130 ?_
                    refine lv_aload_n B.1 B.2.1 dX12_habits_131 rfl (lv_at hl 2 rfl) ?_
                    refine y_getR B h kX12 50 (wu_at (wu_at (wu_at (wu_at (MW.f hM9 0 _ rfl) (by decide)) (by decide)) (by decide)) (by decide)) 26 (b := am 20) rfl m_1287 (by decide) dX12_habits_132 ?_
                    refine x_sipush B (by decide) dX12_habits_135 ?_
                    refine lv_iload B.1 B.2.1 dX12_habits_138 (lv_at hl 0 rfl) ?_
                    refine x_iadd B dX12_habits_140 ?_
                    refine y_iald B h 70 (wu_at (wu_at (wu_at (wu_at (MW.f hM9 20 _ rfl) (by decide)) (by decide)) (by decide)) (by decide)) (by omega) dX12_habits_141 (fun fz15 hfz15 => ?_)
                    refine x_name (fun z15 hz15 ez15 => ?_)
                    refine y_iastS B h 70 (wu_at (wu_at (wu_at (wu_at (MW.f hM9 20 _ rfl) (by decide)) (by decide)) (by decide)) (by decide)) (by omega) (fun _ _ => trivial) dX12_habits_142 (fun H locs h => ?_)
                    refine lv_aload_n B.1 B.2.1 dX12_habits_143 rfl (lv_at hl 2 rfl) ?_
                    refine y_getR B h kX12 50 (wu_at (wu_at (wu_at (wu_at (MW.f hM9 0 _ rfl) (by decide)) (by decide)) (by decide)) (by decide)) 27 (b := am 21) rfl m_1288 (by decide) dX12_habits_144 ?_
                    refine x_bipush B (by decide) dX12_habits_147 ?_
                    refine lv_iload_n B.1 B.2.1 dX12_habits_149 rfl (lv_at hl 1 rfl) ?_
                    refine x_imul B dX12_habits_150 ?_
                    refine lv_iload B.1 B.2.1 dX12_habits_151 (lv_at hl 0 rfl) ?_
                    refine x_iadd B dX12_habits_153 ?_
                    refine lv_aload_n B.1 B.2.1 dX12_habits_154 rfl (lv_at hl 2 rfl) ?_
                    refine y_getR B h kX12 50 (wu_at (wu_at (wu_at (wu_at (MW.f hM9 0 _ rfl) (by decide)) (by decide)) (by decide)) (by decide)) 27 (b := am 21) rfl m_1288 (by decide) dX12_habits_155 ?_
                    refine x_sipush B (by decide) dX12_habits_158 ?_
                    refine lv_iload B.1 B.2.1 dX12_habits_161 (lv_at hl 0 rfl) ?_
                    refine x_iadd B dX12_habits_163 ?_
                    refine y_ialdX B h 71 (wu_at wu_eq (by decide)) (by omega) dX12_habits_164 ?_
                    refine x_iset (z := ((cpy (fun j => E9 2 (j : Int)) 960 (40 * (8 + o)) k40) ((960 + k40)).toNat)) rfl ?_
                    rw [wu_comm (show (71 : Nat) ≠ 72 by decide)] at h
                    have h : yH D Zk A s ((wu (wu (wu (wu w1 69 (am 19, xAI (ca 0) 1000 (gG 1000 (-12) 12))) 66 (am 16, xAI (ca 0) 25 (gX 25 (iu (fun j => E9 1 (j : Int)) (8 + o) (E9 1 24))))) 72 (am 22, xAI (ca 0) 1000 (gX 1000 (cpy (fun j => E9 3 (j : Int)) 960 (40 * (8 + o)) k40)))) 71 (am 21, xAI (ca 0) 1000 (gX 1000 (cpy (fun j => E9 2 (j : Int)) 960 (40 * (8 + o)) k40))))) _ _ := h
                    refine y_iast B h 71 wu_eq (by omega) (P' := gX 1000 (cpy (fun j => E9 2 (j : Int)) 960 (40 * (8 + o)) (k40 + 1))) (cpy_up (by omega) rfl (by omega)) dX12_habits_165 (fun H locs h => ?_)
                    rw [wu_wu] at h
                    have h : yH D Zk A s ((wu (wu (wu (wu w1 69 (am 19, xAI (ca 0) 1000 (gG 1000 (-12) 12))) 66 (am 16, xAI (ca 0) 25 (gX 25 (iu (fun j => E9 1 (j : Int)) (8 + o) (E9 1 24))))) 72 (am 22, xAI (ca 0) 1000 (gX 1000 (cpy (fun j => E9 3 (j : Int)) 960 (40 * (8 + o)) k40)))) 71 (am 21, xAI (ca 0) 1000 (gX 1000 (cpy (fun j => E9 2 (j : Int)) 960 (40 * (8 + o)) (k40 + 1)))))) _ _ := h
                    refine lv_aload_n B.1 B.2.1 dX12_habits_166 rfl (lv_at hl 2 rfl) ?_
                    refine y_getR B h kX12 50 (wu_at (wu_at (wu_at (wu_at (MW.f hM9 0 _ rfl) (by decide)) (by decide)) (by decide)) (by decide)) 28 (b := am 22) rfl m_1289 (by decide) dX12_habits_167 ?_
                    refine x_bipush B (by decide) dX12_habits_170 ?_
                    refine lv_iload_n B.1 B.2.1 dX12_habits_172 rfl (lv_at hl 1 rfl) ?_
                    refine x_imul B dX12_habits_173 ?_
                    refine lv_iload B.1 B.2.1 dX12_habits_174 (lv_at hl 0 rfl) ?_
                    refine x_iadd B dX12_habits_176 ?_
                    refine lv_aload_n B.1 B.2.1 dX12_habits_177 rfl (lv_at hl 2 rfl) ?_
                    refine y_getR B h kX12 50 (wu_at (wu_at (wu_at (wu_at (MW.f hM9 0 _ rfl) (by decide)) (by decide)) (by decide)) (by decide)) 28 (b := am 22) rfl m_1289 (by decide) dX12_habits_178 ?_
                    refine x_sipush B (by decide) dX12_habits_181 ?_
                    refine lv_iload B.1 B.2.1 dX12_habits_184 (lv_at hl 0 rfl) ?_
                    refine x_iadd B dX12_habits_186 ?_
                    refine y_ialdX B h 72 (wu_at wu_eq (by decide)) (by omega) dX12_habits_187 ?_
                    refine x_iset (z := ((cpy (fun j => E9 3 (j : Int)) 960 (40 * (8 + o)) k40) ((960 + k40)).toNat)) rfl ?_
                    rw [wu_comm (show (72 : Nat) ≠ 71 by decide)] at h
                    have h : yH D Zk A s ((wu (wu (wu (wu w1 69 (am 19, xAI (ca 0) 1000 (gG 1000 (-12) 12))) 66 (am 16, xAI (ca 0) 25 (gX 25 (iu (fun j => E9 1 (j : Int)) (8 + o) (E9 1 24))))) 71 (am 21, xAI (ca 0) 1000 (gX 1000 (cpy (fun j => E9 2 (j : Int)) 960 (40 * (8 + o)) (k40 + 1))))) 72 (am 22, xAI (ca 0) 1000 (gX 1000 (cpy (fun j => E9 3 (j : Int)) 960 (40 * (8 + o)) k40))))) _ _ := h
                    refine y_iast B h 72 wu_eq (by omega) (P' := gX 1000 (cpy (fun j => E9 3 (j : Int)) 960 (40 * (8 + o)) (k40 + 1))) (cpy_up (by omega) rfl (by omega)) dX12_habits_188 (fun H locs h => ?_)
                    rw [wu_wu] at h
                    have h : yH D Zk A s ((wu (wu (wu (wu w1 69 (am 19, xAI (ca 0) 1000 (gG 1000 (-12) 12))) 66 (am 16, xAI (ca 0) 25 (gX 25 (iu (fun j => E9 1 (j : Int)) (8 + o) (E9 1 24))))) 71 (am 21, xAI (ca 0) 1000 (gX 1000 (cpy (fun j => E9 2 (j : Int)) 960 (40 * (8 + o)) (k40 + 1))))) 72 (am 22, xAI (ca 0) 1000 (gX 1000 (cpy (fun j => E9 3 (j : Int)) 960 (40 * (8 + o)) (k40 + 1)))))) _ _ := h
                    refine lv_iinc (v := iI (k40 + 1)) (lv' := [(4, .int (iI (k40 + 1))), (3, .int (iI (8 + o))), (0, .ref (am 0))]) B.1 B.2.1 dX12_habits_189 hl (k := 0) rfl (iI_add _ _) (by decide) rfl (fun ls hl => ?_)
                    refine lv_goto (tgt := 67) B.1 B.2.1 dX12_habits_192 (by decide) ?_
                    exact ih67 ((k40 + 1)) (by omega) (by omega) _ _ _ h (lv_sub hl [0, 1, 2] rfl)
              exact loop67 (((40 - 0 : Int)).toNat + 1) 0 (by omega) (Nat.lt_succ_self _) _ _ _ h (lv_sub hl [0, 1, 2] rfl)
            · exact absurd c7 (by omega)
          · show W p l e r_c_X12_habits s m args below meth c _ _ 0 0 Qf (F0 m 37 ls [.int (iI 0)])
            refine x_if_ne B (by omega) (tgt := 46) dX12_habits_37 (by decide) (fun c16 => ?_) (fun c16 => ?_)
            · exact absurd c16 (by omega)
            · refine lv_aload_n B.1 B.2.1 dX12_habits_40 rfl (lv_at hl 0 rfl) ?_
              refine x_iconst B dX12_habits_41 ?_
              refine y_cV B h kX12 50 (MW.f hM9 0 _ rfl) k_X12_refuse rfl (c_X12_refuse l D Zk ca T E9 am _ hM9 2  (by omega)) m_1507 rfl (by decide) hl.1 [] (Nat.le_of_ble_eq_true rfl) rfl dX12_habits_42 (fun r w1 hq H locs h => ?_)
              obtain ⟨rfl, z17, rfl, hz17⟩ := hq
              show W p l e r_c_X12_habits s m args below meth c _ _ 0 0 Qf (F0 m 45 ls [.int (iI z17)])
              refine y_ri B hQ h (by decide) dX12_habits_45 ?_
              exact ⟨_, rfl, E9, hM9, hag9⟩
        · refine lv_aload_n B.1 B.2.1 dX12_habits_20 rfl (lv_at hl 0 rfl) ?_
          refine x_iconst B dX12_habits_21 ?_
          refine y_cV B h kX12 50 (MW.f hM 0 _ rfl) k_X12_refuse rfl (c_X12_refuse l D Zk ca T E am _ hM 0  (by omega)) m_1507 rfl (by decide) hl.1 [] (Nat.le_of_ble_eq_true rfl) rfl dX12_habits_22 (fun r w1 hq H locs h => ?_)
          obtain ⟨rfl, z18, rfl, hz18⟩ := hq
          show W p l e r_c_X12_habits s m args below meth c _ _ 0 0 Qf (F0 m 25 ls [.int (iI z18)])
          refine lv_pop B.1 B.2.1 dX12_habits_25 rfl ?_
          refine x_bipush B (by decide) dX12_habits_26 ?_
          refine y_ri B hQ h (by decide) dX12_habits_28 ?_
          exact ⟨_, rfl, E, hM, fun k h1 => rfl⟩
  · show W p l e r_c_X12_habits s m args below meth c _ _ 0 0 Qf (F0 m 5 ls [.int (iI 0)])
    refine x_if_eq B (by omega) (tgt := 20) dX12_habits_5 (by decide) (fun c19 => ?_) (fun c19 => ?_)
    · refine lv_aload_n B.1 B.2.1 dX12_habits_20 rfl (lv_at hl 0 rfl) ?_
      refine x_iconst B dX12_habits_21 ?_
      refine y_cV B h kX12 50 (MW.f hM 0 _ rfl) k_X12_refuse rfl (c_X12_refuse l D Zk ca T E am _ hM 0  (by omega)) m_1507 rfl (by decide) hl.1 [] (Nat.le_of_ble_eq_true rfl) rfl dX12_habits_22 (fun r w1 hq H locs h => ?_)
      obtain ⟨rfl, z20, rfl, hz20⟩ := hq
      show W p l e r_c_X12_habits s m args below meth c _ _ 0 0 Qf (F0 m 25 ls [.int (iI z20)])
      refine lv_pop B.1 B.2.1 dX12_habits_25 rfl ?_
      refine x_bipush B (by decide) dX12_habits_26 ?_
      refine y_ri B hQ h (by decide) dX12_habits_28 ?_
      exact ⟨_, rfl, E, hM, fun k h1 => rfl⟩
    · exact absurd c19 (by omega)
