theorem pi_ship {T : Nat → Int → Int} {rg o : Int} (h : PI T) (hn : T 0 1 < 12) (h1 : 0 ≤ rg ∧ rg ≤ 3) (h2 : 0 ≤ o ∧ o ≤ 15) : PI (tShip T rg o) := by
  have hs := pi_s h
  refine ⟨⟨hs.1, ?_, hs.2.2⟩, (fun i => by have hb := pi_1 h i; unfold tShip; (repeat' split) <;> omega), (fun i => by have hb := pi_2 h i; unfold tShip; (repeat' split) <;> omega), (fun i => by have hb := pi_3 h i; unfold tShip; (repeat' split) <;> omega), (fun i => by have hb := pi_4 h i; unfold tShip; (repeat' split) <;> omega), (fun i => by have hb := pi_5 h i; unfold tShip; (repeat' split) <;> omega), (fun i => by have hb := pi_6 h i; unfold tShip; (repeat' split) <;> omega), (fun i => by have hb := pi_7 h i; unfold tShip; (repeat' split) <;> omega), (fun i => by have hb := pi_8 h i; unfold tShip; (repeat' split) <;> omega), (fun i => by have hb := pi_9 h i; unfold tShip; (repeat' split) <;> omega), (fun i => by have hb := pi_10 h i; unfold tShip; (repeat' split) <;> omega), (fun i => by have hb := pi_11 h i; unfold tShip; (repeat' split) <;> omega), (fun i => by have hb := pi_12 h i; unfold tShip; (repeat' split) <;> omega), (fun i => by have hb := pi_13 h i; unfold tShip; (repeat' split) <;> omega), (fun i => by have hb := pi_14 h i; unfold tShip; (repeat' split) <;> omega), (fun i => by have hb := pi_20 h i; unfold tShip; (repeat' split) <;> omega), (fun i => by have hb := pi_21 h i; unfold tShip; (repeat' split) <;> omega), (fun i => by have hb := pi_22 h i; unfold tShip; (repeat' split) <;> omega), (fun i => by have hb := pi_23 h i; unfold tShip; (repeat' split) <;> omega), pi_n h, fun k hk => ?_, fun j k hj hk a b => pi_un h hj hk a b, fun k hk => ?_, fun s v hs9 hv => ?_⟩
  · show 0 ≤ T 0 1 + 1 ∧ T 0 1 + 1 ≤ 12
    have := hs.2.1; omega
  · have := pi_in h k hk
    show T 4 k < T 0 1 + 1
    omega
  · have := pi_sn h k hk
    show T 21 k < T 0 1 + 1
    omega
  · have hs9 : 0 ≤ s ∧ s < T 0 1 + 1 := hs9
    show tShip T rg o 3 (1000 * s + v) = sgo (tShip T rg o) s v (T 0 3).toNat
    have e20 : tShip T rg o 20 s = if s = T 0 1 then o else T 20 s := by
      unfold tShip; (repeat' split) <;> first | rfl | omega
    have e3 : tShip T rg o 3 (1000 * s + v) = if s = T 0 1 then o else T 3 (1000 * s + v) := by
      unfold tShip; (repeat' split) <;> first | rfl | omega
    have h03 := hs.2.2.2.1
    by_cases q : s = T 0 1
    · rw [e3, if_pos q, sgo_none s v _ (fun k k0 k1 => ?_), e20, if_pos q]
      have := pi_sn h k (by omega)
      show T 21 k ≠ s
      omega
    · rw [e3, if_neg q, sgo_far s v _ (by rw [e20, if_neg q]) (fun k _ _ => ⟨rfl, rfl, rfl⟩)]
      exact pi_sg h (by omega) hv
theorem pi_signs {T : Nat → Int → Int} {s o v : Int} (h : PI T) (hn : T 0 3 < 60) (h1 : 0 ≤ s ∧ s < T 0 1) (h2 : 0 ≤ o ∧ o ≤ 15) (h3 : 0 ≤ v ∧ v ≤ 999) : PI (tSigns T s o v) := by
  have hs := pi_s h
  have h12 := hs.2.1
  refine ⟨⟨hs.1, hs.2.1, hs.2.2.1, ?_, hs.2.2.2.2⟩, (fun i => by have hb := pi_1 h i; unfold tSigns; (repeat' split) <;> omega), (fun i => by have hb := pi_2 h i; unfold tSigns; (repeat' split) <;> omega), (fun i => by have hb := pi_3 h i; unfold tSigns; (repeat' split) <;> omega), (fun i => by have hb := pi_4 h i; unfold tSigns; (repeat' split) <;> omega), (fun i => by have hb := pi_5 h i; unfold tSigns; (repeat' split) <;> omega), (fun i => by have hb := pi_6 h i; unfold tSigns; (repeat' split) <;> omega), (fun i => by have hb := pi_7 h i; unfold tSigns; (repeat' split) <;> omega), (fun i => by have hb := pi_8 h i; unfold tSigns; (repeat' split) <;> omega), (fun i => by have hb := pi_9 h i; unfold tSigns; (repeat' split) <;> omega), (fun i => by have hb := pi_10 h i; unfold tSigns; (repeat' split) <;> omega), (fun i => by have hb := pi_11 h i; unfold tSigns; (repeat' split) <;> omega), (fun i => by have hb := pi_12 h i; unfold tSigns; (repeat' split) <;> omega), (fun i => by have hb := pi_13 h i; unfold tSigns; (repeat' split) <;> omega), (fun i => by have hb := pi_14 h i; unfold tSigns; (repeat' split) <;> omega), (fun i => by have hb := pi_20 h i; unfold tSigns; (repeat' split) <;> omega), (fun i => by have hb := pi_21 h i; unfold tSigns; (repeat' split) <;> omega), (fun i => by have hb := pi_22 h i; unfold tSigns; (repeat' split) <;> omega), (fun i => by have hb := pi_23 h i; unfold tSigns; (repeat' split) <;> omega), pi_n h, fun k hk => pi_in h k hk, fun j k hj hk a b => pi_un h hj hk a b, fun k hk => ?_, fun s9 v9 hs9 hv => ?_⟩
  · show 0 ≤ T 0 3 + 1 ∧ T 0 3 + 1 ≤ 60
    have := hs.2.2.2.1; omega
  · have hk : 0 ≤ k ∧ k < T 0 3 + 1 := hk
    have e : tSigns T s o v 21 k = if k = T 0 3 then s else T 21 k := by
      unfold tSigns; (repeat' split) <;> first | rfl | omega
    show tSigns T s o v 21 k < T 0 1
    rw [e]
    by_cases q : k = T 0 3
    · rw [if_pos q]; exact h1.2
    · rw [if_neg q]; exact pi_sn h k (by omega)
  · have h03 := hs.2.2.2.1
    have e3 : tSigns T s o v 3 (1000 * s9 + v9) = if s = s9 ∧ v ≤ v9 then o else T 3 (1000 * s9 + v9) := by
      unfold tSigns; (repeat' split) <;> first | rfl | omega
    have en : (tSigns T s o v 0 3).toNat = (T 0 3).toNat + 1 := by
      show (T 0 3 + 1).toNat = _
      omega
    have ec : (((T 0 3).toNat : Nat) : Int) = T 0 3 := by omega
    have a1 : tSigns T s o v 21 (T 0 3) = s := by
      unfold tSigns; (repeat' split) <;> first | rfl | omega
    have a2 : tSigns T s o v 22 (T 0 3) = o := by
      unfold tSigns; (repeat' split) <;> first | rfl | omega
    have a3 : tSigns T s o v 23 (T 0 3) = v := by
      unfold tSigns; (repeat' split) <;> first | rfl | omega
    rw [en]
    show _ = (if tSigns T s o v 21 (((T 0 3).toNat : Nat) : Int) = s9 ∧ tSigns T s o v 23 (((T 0 3).toNat : Nat) : Int) ≤ v9 then tSigns T s o v 22 (((T 0 3).toNat : Nat) : Int) else sgo (tSigns T s o v) s9 v9 (T 0 3).toNat)
    rw [ec, a1, a2, a3, e3, sgo_far s9 v9 _ rfl (fun k k0 k1 => ?_)]
    · rw [← pi_sg h hs9 hv]
    · refine ⟨?_, ?_, ?_⟩ <;> (unfold tSigns; (repeat' split) <;> first | rfl | omega)
theorem pi_read {T : Nat → Int → Int} {s v sp kd nb : Int} (h : PI T) (hn : T 0 2 < 300) (h1 : 0 ≤ s ∧ s < T 0 1) (h2 : 0 ≤ v ∧ v ≤ 999) (h3 : 0 ≤ sp ∧ sp ≤ 6399) (h4 : 0 ≤ kd ∧ kd ≤ 3) (h5 : 0 ≤ nb ∧ nb ≤ 99 ∧ (kd = 3 ∨ nb ≤ 12)) (h6 : ∀ k : Int, 0 ≤ k ∧ k < T 0 2 → ¬ (T 4 k = s ∧ T 5 k = v)) : PI (tRead T s v sp kd nb) := by
  have hs := pi_s h
  have h12 := hs.2.1
  have e4 : ∀ j : Int, tRead T s v sp kd nb 4 j = if j = T 0 2 then s else T 4 j := fun j => by unfold tRead; (repeat' split) <;> first | rfl | omega
  have e5 : ∀ j : Int, tRead T s v sp kd nb 5 j = if j = T 0 2 then v else T 5 j := fun j => by unfold tRead; (repeat' split) <;> first | rfl | omega
  refine ⟨⟨hs.1, hs.2.1, ?_, hs.2.2.2⟩, (fun i => by have hb := pi_1 h i; unfold tRead; (repeat' split) <;> omega), (fun i => by have hb := pi_2 h i; unfold tRead; (repeat' split) <;> omega), (fun i => by have hb := pi_3 h i; unfold tRead; (repeat' split) <;> omega), (fun i => by have hb := pi_4 h i; unfold tRead; (repeat' split) <;> omega), (fun i => by have hb := pi_5 h i; unfold tRead; (repeat' split) <;> omega), (fun i => by have hb := pi_6 h i; unfold tRead; (repeat' split) <;> omega), (fun i => by have hb := pi_7 h i; unfold tRead; (repeat' split) <;> omega), (fun i => by have hb := pi_8 h i; unfold tRead; (repeat' split) <;> omega), (fun i => by have hb := pi_9 h i; unfold tRead; (repeat' split) <;> omega), (fun i => by have hb := pi_10 h i; unfold tRead; (repeat' split) <;> omega), (fun i => by have hb := pi_11 h i; unfold tRead; (repeat' split) <;> omega), (fun i => by have hb := pi_12 h i; unfold tRead; (repeat' split) <;> omega), (fun i => by have hb := pi_13 h i; unfold tRead; (repeat' split) <;> omega), (fun i => by have hb := pi_14 h i; unfold tRead; (repeat' split) <;> omega), (fun i => by have hb := pi_20 h i; unfold tRead; (repeat' split) <;> omega), (fun i => by have hb := pi_21 h i; unfold tRead; (repeat' split) <;> omega), (fun i => by have hb := pi_22 h i; unfold tRead; (repeat' split) <;> omega), (fun i => by have hb := pi_23 h i; unfold tRead; (repeat' split) <;> omega), fun k => ?_, fun k hk => ?_, fun j k hj hk a b => ?_, fun k hk => pi_sn h k hk, fun s9 v9 hs9 hv => ?_⟩
  · show 0 ≤ T 0 2 + 1 ∧ T 0 2 + 1 ≤ 300
    have := hs.2.2.1; omega
  · have := pi_n h k
    unfold tRead; (repeat' split) <;> omega
  · have hk : 0 ≤ k ∧ k < T 0 2 + 1 := hk
    show tRead T s v sp kd nb 4 k < T 0 1
    rw [e4]
    by_cases q : k = T 0 2
    · rw [if_pos q]; exact h1.2
    · rw [if_neg q]; exact pi_in h k (by omega)
  · have hj : 0 ≤ j ∧ j < T 0 2 + 1 := hj
    have hk : 0 ≤ k ∧ k < T 0 2 + 1 := hk
    rw [e4, e4] at a; rw [e5, e5] at b
    by_cases q : j = T 0 2 <;> by_cases q2 : k = T 0 2
    · omega
    · rw [if_pos q, if_neg q2] at a b
      exact absurd ⟨a.symm, b.symm⟩ (h6 k (by omega))
    · rw [if_neg q, if_pos q2] at a b
      exact absurd ⟨a, b⟩ (h6 j (by omega))
    · rw [if_neg q, if_neg q2] at a b
      exact pi_un h (by omega) (by omega) a b
  · rw [sgo_congr (T := T) (T' := tRead T s v sp kd nb) rfl rfl rfl rfl]
    exact pi_sg h hs9 hv
theorem pi_image {T : Nat → Int → Int}  (h : PI T) (hn : T 0 6 < 4) : PI (tImage T) := by
  have hs := pi_s h
  have g0 := hs.1
  have g2 := hs.2.2.1
  have g4 := hs.2.2.2.2.1
  have g5 := hs.2.2.2.2.2.1
  refine ⟨⟨hs.1, hs.2.1, hs.2.2.1, hs.2.2.2.1, hs.2.2.2.2.1, hs.2.2.2.2.2.1, ?_, hs.2.2.2.2.2.2.2⟩, (fun i => by have hb := pi_1 h i; unfold tImage; (repeat' split) <;> omega), (fun i => by have hb := pi_2 h i; unfold tImage; (repeat' split) <;> omega), (fun i => by have hb := pi_3 h i; unfold tImage; (repeat' split) <;> omega), (fun i => by have hb := pi_4 h i; unfold tImage; (repeat' split) <;> omega), (fun i => by have hb := pi_5 h i; unfold tImage; (repeat' split) <;> omega), (fun i => by have hb := pi_6 h i; unfold tImage; (repeat' split) <;> omega), (fun i => by have hb := pi_7 h i; unfold tImage; (repeat' split) <;> omega), (fun i => by have hb := pi_8 h i; unfold tImage; (repeat' split) <;> omega), (fun i => by have hb := pi_9 h i; unfold tImage; (repeat' split) <;> omega), (fun i => by have hb := pi_10 h i; unfold tImage; (repeat' split) <;> omega), (fun i => by have hb := pi_11 h i; unfold tImage; (repeat' split) <;> omega), (fun i => by have hb := pi_12 h i; unfold tImage; (repeat' split) <;> omega), (fun i => by have hb := pi_13 h i; unfold tImage; (repeat' split) <;> omega), (fun i => by have hb := pi_14 h i; unfold tImage; (repeat' split) <;> omega), (fun i => by have hb := pi_20 h i; unfold tImage; (repeat' split) <;> omega), (fun i => by have hb := pi_21 h i; unfold tImage; (repeat' split) <;> omega), (fun i => by have hb := pi_22 h i; unfold tImage; (repeat' split) <;> omega), (fun i => by have hb := pi_23 h i; unfold tImage; (repeat' split) <;> omega), pi_n h, fun k hk => pi_in h k hk, fun j k hj hk a b => pi_un h hj hk a b, fun k hk => pi_sn h k hk, fun s9 v9 hs9 hv => ?_⟩
  · show 0 ≤ T 0 6 + 1 ∧ T 0 6 + 1 ≤ 4
    have := hs.2.2.2.2.2.2.1; omega
  · rw [sgo_congr (T := T) (T' := tImage T) rfl rfl rfl rfl]
    exact pi_sg h hs9 hv
theorem pi_back {T : Nat → Int → Int} {i : Int} (h : PI T) (h1 : T 11 i ≤ T 0 2) : PI (tBack T i) := by
  have hs := pi_s h
  refine h.scal ⟨hs.1, hs.2.1, pi_11 h i, hs.2.2.2.1, pi_13 h i, pi_14 h i, hs.2.2.2.2.2.2⟩ (fun f j hf => ?_) rfl h1 rfl
  unfold tBack
  rw [if_neg (by omega), if_neg (by omega), if_neg (by omega)]
theorem cw_off {ca : Nat → ClassId} {T : Nat → Int → Int} {G : Nat → Int → Nat} {u : Int} {ad : Nat → Nat} {w : yW} (h : CW ca T G u ad w) (hn : T 0 0 < 16) : CW ca (tOff T) G u ad (wu w 1 (ad 1, xO 0 [fR (ad 2), fR (ad 3), fX (T 0 0 + 1), fG (-2147483648) 2147483647, fX (T 0 1), fX (T 0 2), fX (T 0 3), fX (T 0 4), fX (T 0 5)])) := by
  refine h.plain (pi_off h.pi hn) (cset (i := 1) h.f) (fun k hk => wu_ne (by omega)) rfl rfl rfl (fun f j h1 h2 => if_neg (by omega))
theorem cw_set {ca : Nat → ClassId} {T : Nat → Int → Int} {G : Nat → Int → Nat} {u : Int} {ad : Nat → Nat} {w : yW} {si er : Int} (h : CW ca T G u ad w) (h1 : 0 ≤ si ∧ si ≤ 7) (h2 : 0 ≤ er ∧ er ≤ 5) : CW ca (tSet T si er) G u ad (wu w 1 (ad 1, xO 0 [fR (ad 2), fR (ad 3), fX (T 0 0), fG (-2147483648) 2147483647, fX (T 0 1), fX (T 0 2), fX (T 0 3), fX si, fX er])) := by
  refine h.plain (pi_set h.pi h1 h2) (cset (i := 1) h.f) (fun k hk => wu_ne (by omega)) rfl rfl rfl (fun f j h1 h2 => ?_)
  unfold tSet
  rw [if_neg (by omega), if_neg (by omega)]
theorem cw_storm {ca : Nat → ClassId} {T : Nat → Int → Int} {G : Nat → Int → Nat} {u : Int} {ad : Nat → Nat} {w : yW} {a b r l : Int} (h : CW ca T G u ad w) (h1 : (0 ≤ a ∧ a ≤ 999) ∧ (0 ≤ b ∧ b ≤ 999) ∧ a ≤ b ∧ b - a ≤ 59 ∧ (0 ≤ r ∧ r ≤ 7) ∧ 0 ≤ l ∧ l ≤ 12) : CW ca (tStorm T a b r l) G u ad (wu w 18 (ad 18, xO 8 [fR (ad 19), fX 1, fX a, fX b, fX r, fX l])) := by
  refine h.plain (pi_storm h.pi h1) (cset (i := 18) h.f) (fun k hk => wu_ne (by omega)) rfl rfl rfl (fun f j h1 h2 => ?_)
  unfold tStorm
  rw [if_neg (by omega), if_neg (by omega), if_neg (by omega), if_neg (by omega), if_neg (by omega), if_neg (by omega)]
