theorem k_X7_signFrom : xMV yX7_signFrom cX7_signFrom 4 none 2 := ⟨m_452, m_450, m_451, m_105, ⟨by decide +kernel, by decide +kernel, by decide +kernel⟩⟩
theorem k_X7_init : xMI yX7_init cX7_init 4 3 := ⟨m_446, m_445, rfl, m_105, ⟨by decide +kernel, by decide +kernel, by decide +kernel⟩⟩
theorem k_X0_launch : xMV yX0_launch cX0_launch 3 (some .int) 2 := ⟨m_442, m_440, m_441, m_96, ⟨by decide +kernel, by decide +kernel, by decide +kernel⟩⟩
abbrev r_c_X7_signFrom : Room := { frames := 1, cells := 0, slots := 0, locals := 21 }
set_option maxHeartbeats 4000000 in
set_option maxRecDepth 100000 in
theorem c_X7_signFrom (l : Launch) (D : va_G) (Zk : yK) (ca : Nat → ClassId) (w : yW) (g : Nat → Int) (P0 : fP) (P1 : fP) (P3 : fP) (sf : Int) (as9 : Nat) (is9 : Nat) (ao : Nat) (io : Nat) (v : Int) (o : Int) (fs : w is9 = some (as9, xO 7 [P0, P1, fR ao, P3, fX sf])) (fo : w io = some (ao, xAI (ca 0) 1000 (gX 1000 g))) (hne : io ≠ is9) (hv : 0 ≤ v ∧ v ≤ 999) (ho : xr o) : yC l D Zk ca yX7_signFrom cX7_signFrom 4 none r_c_X7_signFrom [.ref as9, .int (iI v), .int (iI o)] w (fun r w1 => r = none ∧ w1 = (wu (wu w io (ao, xAI (ca 0) 1000 (gX 1000 (sfi g v o 1000)))) is9 (as9, xO 7 [P0, P1, fR ao, P3, fX v])) ∧ (True)) := by
  refine yC.of2 "WindWords$Ship" (by decide) rfl (Nat.le_of_ble_eq_true rfl) ?_
  intro p e s m args below meth c A ls Qf B hnm h hl hQ
  have hl : lv_has ls 4 [(0, .ref as9), (1, .int (iI v)), (2, .int (iI o))] := hl
  have h : yH D Zk A s ((wu (wu w io (ao, xAI (ca 0) 1000 (gX 1000 g))) is9 (as9, xO 7 [P0, P1, fR ao, P3, fX sf]))) s.heap [] := by rw [wu_same (show w io = _ from fo), wu_same (show w is9 = _ from fs)]; exact h
  refine x_iconst B dX7_signFrom_0 ?_
  refine lv_iload_n B.1 B.2.1 dX7_signFrom_1 rfl (lv_at hl 1 rfl) ?_
  refine x_max B (by omega) m_453 m_454 m_106 m_455 hl.1 (Nat.le_of_ble_eq_true rfl) (by decide) dX7_signFrom_2 ?_
  refine lv_istore_n (lv' := [(3, .int (iI (max 0 v))), (0, .ref as9), (1, .int (iI v)), (2, .int (iI o))]) B.1 B.2.1 dX7_signFrom_5 rfl hl (by decide) rfl (fun ls hl => ?_)
  have h : yH D Zk A s ((wu w io (ao, xAI (ca 0) 1000 (gX 1000 g)))) _ _ := yH.unpin h (wu_at fs (by omega)) (fun _ x => x)
  have h := yH.weak (P' := xAI (ca 0) 1000 (gX 1000 (sfi g v o (max 0 v)))) h wu_eq (fun e he => by obtain ⟨f, rfl, hf⟩ := he; exact ⟨f, rfl, by rw [show max 0 v = v by omega, ← sfi_0]; exact hf⟩)
  rw [wu_wu] at h
  have h : yH D Zk A s ((wu w io (ao, xAI (ca 0) 1000 (gX 1000 (sfi g v o (max 0 v)))))) _ _ := h
  have loop6 : ∀ (n6 : Nat) (i : Int), (v ≤ i ∧ i ≤ 1000) → ((1000 - i : Int)).toNat < n6 → ∀ (H : Heap) (locs : List Loc) (ls : Array Slot), yH D Zk A s ((wu w io (ao, xAI (ca 0) 1000 (gX 1000 (sfi g v o i))))) H locs → lv_has ls 4 [(3, .int (iI i)), (0, .ref as9), (1, .int (iI v)), (2, .int (iI o))] → W p l e r_c_X7_signFrom s m args below meth c H locs 0 0 Qf (F0 m 6 ls []) := by
    intro n6
    induction n6 with
    | zero =>
      intro i h0 hm6 H locs ls h hl
      exact absurd hm6 (Nat.not_lt_zero _)
    | succ n6 ih6 =>
      intro i h0 hm6 H locs ls h hl
      refine lv_iload_n B.1 B.2.1 dX7_signFrom_6 rfl (lv_at hl 0 rfl) ?_
      refine x_sipush B (by decide) dX7_signFrom_7 ?_
      refine x_icmp_gt B (by omega) (tgt := 26) dX7_signFrom_10 (by decide) (fun c1 => ?_) (fun c1 => ?_)
      · have e9 : i = 1000 := by omega
        rw [e9] at h
        have h : yH D Zk A s ((wu w io (ao, xAI (ca 0) 1000 (gX 1000 (sfi g v o 1000))))) _ _ := h
        refine lv_aload_n B.1 B.2.1 dX7_signFrom_26 rfl (lv_at hl 1 rfl) ?_
        refine lv_iload_n B.1 B.2.1 dX7_signFrom_27 rfl (lv_at hl 2 rfl) ?_
        refine y_put B h kX7 is9 (wu_at fs (by omega)) 4 (Nat.le_of_ble_eq_true rfl) (P' := fX v) m_464 (by decide) rfl rfl rfl rfl dX7_signFrom_28 (fun H locs h => ?_)
        have h : yH D Zk A s ((wu (wu w io (ao, xAI (ca 0) 1000 (gX 1000 (sfi g v o 1000)))) is9 (as9, xO 7 [P0, P1, fR ao, P3, fX v]))) _ _ := h
        rw [wu_comm (show (io : Nat) ≠ is9 by omega)] at h
        have h : yH D Zk A s ((wu (wu w is9 (as9, xO 7 [P0, P1, fR ao, P3, fX v])) io (ao, xAI (ca 0) 1000 (gX 1000 (sfi g v o 1000))))) _ _ := h
        rw [wu_comm (show (is9 : Nat) ≠ io by omega)] at h
        have h : yH D Zk A s ((wu (wu w io (ao, xAI (ca 0) 1000 (gX 1000 (sfi g v o 1000)))) is9 (as9, xO 7 [P0, P1, fR ao, P3, fX v]))) _ _ := h
        refine y_rv B hQ h (by decide) dX7_signFrom_31 ?_
        exact ⟨rfl, rfl, trivial⟩
      · refine lv_aload_n B.1 B.2.1 dX7_signFrom_13 rfl (lv_at hl 1 rfl) ?_
        refine y_getR B h kX7 is9 (wu_at fs (by omega)) 2 (b := ao) rfl m_462 (by decide) dX7_signFrom_14 ?_
        refine lv_iload_n B.1 B.2.1 dX7_signFrom_17 rfl (lv_at hl 0 rfl) ?_
        refine lv_iload_n B.1 B.2.1 dX7_signFrom_18 rfl (lv_at hl 3 rfl) ?_
        refine y_iast B h io wu_eq (by omega) (P' := gX 1000 (sfi g v o (i + 1))) (sfi_next (by omega)) dX7_signFrom_19 (fun H locs h => ?_)
        rw [wu_wu] at h
        have h : yH D Zk A s ((wu w io (ao, xAI (ca 0) 1000 (gX 1000 (sfi g v o (i + 1)))))) _ _ := h
        refine lv_iinc (v := iI (i + 1)) (lv' := [(3, .int (iI (i + 1))), (0, .ref as9), (1, .int (iI v)), (2, .int (iI o))]) B.1 B.2.1 dX7_signFrom_20 hl (k := 0) rfl (iI_add _ _) (by decide) rfl (fun ls hl => ?_)
        refine lv_goto (tgt := 6) B.1 B.2.1 dX7_signFrom_23 (by decide) ?_
        exact ih6 ((i + 1)) (by omega) (by omega) _ _ _ h (lv_sub hl [0, 1, 2, 3] rfl)
  exact loop6 (((1000 - ((max 0 v)) : Int)).toNat + 1) ((max 0 v)) (by omega) (Nat.lt_succ_self _) _ _ _ h (lv_sub hl [0, 1, 2, 3] rfl)
abbrev r_c_X7_init : Room := { frames := 2, cells := 2, slots := 2000, locals := 44 }
set_option maxHeartbeats 4000000 in
set_option maxRecDepth 100000 in
theorem c_X7_init (l : Launch) (D : va_G) (Zk : yK) (ca : Nat → ClassId) (w : yW) (aq : Nat) (nq : Nat) (n1 : Nat) (n2 : Nat) (pl : Int) (rg : Int) (of_ : Int) (fq : w nq = some (aq, xO 7 [fX 0, fX 0, fN, fN, fX 0])) (hn : nq ≠ n1 ∧ nq ≠ n2 ∧ n1 ≠ n2) (hpl : xr pl) (hrg : xr rg) (hof_ : -100 ≤ of_ ∧ of_ ≤ 1000) : yC l D Zk ca yX7_init cX7_init 4 none r_c_X7_init [.ref aq, .int (iI pl), .int (iI rg), .int (iI of_)] w (fun r w1 => r = none ∧ ∃ q1 q2 : Nat, w1 = (wu (wu (wu w n2 (q2, xAQ (ca 5) 1000 (fun f => f = fun _ => none))) n1 (q1, xAI (ca 0) 1000 (gX 1000 (sfi (fun _ => 0) 0 of_ 1000)))) nq (aq, xO 7 [(fX pl), (fX rg), fR q1, (fR q2), fX 0]))) := by
  refine yC.of2 "WindWords$Ship" (by decide) rfl (Nat.le_of_ble_eq_true rfl) ?_
  intro p e s m args below meth c A ls Qf B hnm h hl hQ
  have hl : lv_has ls 4 [(0, .ref aq), (1, .int (iI pl)), (2, .int (iI rg)), (3, .int (iI of_))] := hl
  refine lv_aload_n B.1 B.2.1 dX7_init_0 rfl (lv_at hl 0 rfl) ?_
  refine x_obj B m_447 m_122 m_123 hl.1 (Nat.le_of_ble_eq_true rfl) (by decide) dX7_init_1 ?_
  refine lv_aload_n B.1 B.2.1 dX7_init_4 rfl (lv_at hl 0 rfl) ?_
  refine x_sipush B (by decide) dX7_init_5 ?_
  refine y_newaI n1 B h (N := 1000) (by omega) (by decide) m_213 (by decide) dX7_init_8 (fun q1 H h => ?_)
  have h : yH D Zk A s ((wu w n1 (q1, xAI (ca 0) 1000 (gX 1000 (fun _ => 0))))) _ _ := h
  refine y_putF B h kX7 nq (wu_at fq (by omega)) 2 (Nat.le_of_ble_eq_true rfl) (P' := fR q1) m_462 (by decide) rfl rfl hnm rfl rfl rfl dX7_init_10 (fun H locs h => ?_)
  have h : yH D Zk A s ((wu (wu w n1 (q1, xAI (ca 0) 1000 (gX 1000 (fun _ => 0)))) nq (aq, xO 7 [fX 0, fX 0, fR q1, fN, fX 0]))) _ _ := h
  refine lv_aload_n B.1 B.2.1 dX7_init_13 rfl (lv_at hl 0 rfl) ?_
  refine x_sipush B (by decide) dX7_init_14 ?_
  refine y_anew n2 B h 5 rfl (by decide) m_448 (N := 1000) (by omega) (by decide) (by decide) dX7_init_17 (fun q2 H h => ?_)
  have h : yH D Zk A s ((wu (wu (wu w n1 (q1, xAI (ca 0) 1000 (gX 1000 (fun _ => 0)))) nq (aq, xO 7 [fX 0, fX 0, fR q1, fN, fX 0])) n2 (q2, xAQ (ca 5) 1000 (fun f => f = fun _ => none)))) _ _ := h
  rw [wu_comm (show (nq : Nat) ≠ n2 by omega)] at h
  have h : yH D Zk A s ((wu (wu (wu w n1 (q1, xAI (ca 0) 1000 (gX 1000 (fun _ => 0)))) n2 (q2, xAQ (ca 5) 1000 (fun f => f = fun _ => none))) nq (aq, xO 7 [fX 0, fX 0, fR q1, fN, fX 0]))) _ _ := h
  refine y_putF B h kX7 nq wu_eq 3 (Nat.le_of_ble_eq_true rfl) (P' := fR q2) m_463 (by decide) rfl rfl hnm rfl rfl rfl dX7_init_20 (fun H locs h => ?_)
  rw [wu_wu] at h
  have h : yH D Zk A s ((wu (wu (wu w n1 (q1, xAI (ca 0) 1000 (gX 1000 (fun _ => 0)))) n2 (q2, xAQ (ca 5) 1000 (fun f => f = fun _ => none))) nq (aq, xO 7 [fX 0, fX 0, fR q1, fR q2, fX 0]))) _ _ := h
  refine lv_aload_n B.1 B.2.1 dX7_init_23 rfl (lv_at hl 0 rfl) ?_
  refine x_iconst B dX7_init_24 ?_
  refine y_put B h kX7 nq wu_eq 4 (Nat.le_of_ble_eq_true rfl) (P' := fX (-1)) m_464 (by decide) rfl rfl rfl rfl dX7_init_25 (fun H locs h => ?_)
  rw [wu_wu] at h
  have h : yH D Zk A s ((wu (wu (wu w n1 (q1, xAI (ca 0) 1000 (gX 1000 (fun _ => 0)))) n2 (q2, xAQ (ca 5) 1000 (fun f => f = fun _ => none))) nq (aq, xO 7 [fX 0, fX 0, fR q1, fR q2, fX (-1)]))) _ _ := h
  refine lv_aload_n B.1 B.2.1 dX7_init_28 rfl (lv_at hl 0 rfl) ?_
  refine lv_iload_n B.1 B.2.1 dX7_init_29 rfl (lv_at hl 1 rfl) ?_
  refine y_putF B h kX7 nq wu_eq 0 (Nat.le_of_ble_eq_true rfl) (P' := fX pl) m_456 (by decide) rfl rfl hnm rfl rfl rfl dX7_init_30 (fun H locs h => ?_)
  rw [wu_wu] at h
  have h : yH D Zk A s ((wu (wu (wu w n1 (q1, xAI (ca 0) 1000 (gX 1000 (fun _ => 0)))) n2 (q2, xAQ (ca 5) 1000 (fun f => f = fun _ => none))) nq (aq, xO 7 [fX pl, fX 0, fR q1, fR q2, fX (-1)]))) _ _ := h
  refine lv_aload_n B.1 B.2.1 dX7_init_33 rfl (lv_at hl 0 rfl) ?_
  refine lv_iload_n B.1 B.2.1 dX7_init_34 rfl (lv_at hl 2 rfl) ?_
  refine y_putF B h kX7 nq wu_eq 1 (Nat.le_of_ble_eq_true rfl) (P' := fX rg) m_459 (by decide) rfl rfl hnm rfl rfl rfl dX7_init_35 (fun H locs h => ?_)
  rw [wu_wu] at h
  have h : yH D Zk A s ((wu (wu (wu w n1 (q1, xAI (ca 0) 1000 (gX 1000 (fun _ => 0)))) n2 (q2, xAQ (ca 5) 1000 (fun f => f = fun _ => none))) nq (aq, xO 7 [fX pl, fX rg, fR q1, fR q2, fX (-1)]))) _ _ := h
  refine lv_aload_n B.1 B.2.1 dX7_init_38 rfl (lv_at hl 0 rfl) ?_
  refine x_iconst B dX7_init_39 ?_
  refine lv_iload_n B.1 B.2.1 dX7_init_40 rfl (lv_at hl 3 rfl) ?_
  refine y_cV B h kX7 nq wu_eq k_X7_signFrom rfl (c_X7_signFrom l D Zk ca _ (fun _ => 0) (fX pl) (fX rg) (fR q2) ((-1)) aq nq q1 n1 0 of_ wu_eq (wu_at (wu_at wu_eq (by omega)) (by omega)) (by omega) (by omega) (by omega)) m_449 rfl (by decide) hl.1 [] (Nat.le_of_ble_eq_true rfl) rfl dX7_init_41 (fun r w1 hq H locs h => ?_)
  obtain ⟨rfl, rfl, hr3⟩ := hq
  rw [wu_comm (show (n1 : Nat) ≠ n2 by omega), wu_comm (show (n1 : Nat) ≠ nq by omega), wu_wu, wu_comm (show (nq : Nat) ≠ n1 by omega), wu_wu] at h
  have h : yH D Zk A s ((wu (wu (wu w n2 (q2, xAQ (ca 5) 1000 (fun f => f = fun _ => none))) n1 (q1, xAI (ca 0) 1000 (gX 1000 (sfi (fun _ => 0) 0 of_ 1000)))) nq (aq, xO 7 [(fX pl), (fX rg), fR q1, (fR q2), fX 0]))) _ _ := h
  show W p l e r_c_X7_init s m args below meth c _ _ 2 2000 Qf (F0 m 44 ls [])
  refine y_rv B hQ h (by decide) dX7_init_44 ?_
  exact ⟨rfl, q1, q2, rfl⟩
abbrev r_c_X0_launch : Room := { frames := 3, cells := 3, slots := 2005, locals := 67 }
set_option maxHeartbeats 4000000 in
set_option maxRecDepth 100000 in
theorem c_X0_launch (l : Launch) (D : va_G) (Zk : yK) (ca : Nat → ClassId) (T : Nat → Int → Int) (G : Nat → Int → Nat) (u : Int) (ad : Nat → Nat) (w : yW) (hC : CW ca T G u ad w) (rg : Int) (ofc : Int)  (hT : T 0 1 < 12) (hrg : 0 ≤ rg ∧ rg ≤ 3) (hofc : 0 ≤ ofc ∧ ofc ≤ 15) : yC l D Zk ca yX0_launch cX0_launch 3 (some .int) r_c_X0_launch [.ref (ad 1), .int (iI rg), .int (iI ofc)] w (fun r w1 => ∃ z : Int, r = some (.int (iI z)) ∧ z = T 0 1 ∧ ∃ G2 : Nat → Int → Nat, CW ca (tShip T rg ofc) G2 u ad w1 ∧ AGX w w1) := by
  refine yC.of2 "WindWords$Fleet" (by decide) rfl (Nat.le_of_ble_eq_true rfl) ?_
  intro p e s m args below meth c A ls Qf B hnm h hl hQ
  have hl : lv_has ls 3 [(0, .ref (ad 1)), (1, .int (iI rg)), (2, .int (iI ofc))] := hl
  have hs := pi_s (CW.pi hC)
  refine lv_aload_n B.1 B.2.1 dX0_launch_0 rfl (lv_at hl 0 rfl) ?_
  refine y_getX B h kX0 1 (CW.f hC 1 _ rfl) 4 (z := (T 0 1)) rfl m_141 (by decide) dX0_launch_1 ?_
  refine x_bipush B (by decide) dX0_launch_4 ?_
  refine x_icmp_lt B (by omega) (tgt := 11) dX0_launch_6 (by decide) (fun c1 => ?_) (fun c1 => ?_)
  · refine lv_aload_n B.1 B.2.1 dX0_launch_11 rfl (lv_at hl 0 rfl) ?_
    refine y_getR B h kX0 1 (CW.f hC 1 _ rfl) 0 (b := ad 2) rfl m_134 (by decide) dX0_launch_12 ?_
    refine lv_aload_n B.1 B.2.1 dX0_launch_15 rfl (lv_at hl 0 rfl) ?_
    refine y_getX B h kX0 1 (CW.f hC 1 _ rfl) 4 (z := (T 0 1)) rfl m_141 (by decide) dX0_launch_16 ?_
    refine y_new (1000 + 16 * (T 0 1).toNat + 1) B h kX7 m_130 m_443 m_105 [fX 0, fX 0, fN, fN, fX 0] rfl ⟨rfl, rfl, rfl, rfl, rfl, trivial⟩ (by decide) dX0_launch_19 (fun q2 H h => ?_)
    have h : yH D Zk A s ((wu w (1000 + 16 * (T 0 1).toNat + 1) (q2, xO 7 [fX 0, fX 0, fN, fN, fX 0]))) _ _ := h
    refine lv_dup B.1 B.2.1 dX0_launch_22 rfl ?_
    refine lv_aload_n B.1 B.2.1 dX0_launch_23 rfl (lv_at hl 0 rfl) ?_
    refine y_getX B h kX0 1 (wu_at (CW.f hC 1 _ rfl) (by omega)) 4 (z := (T 0 1)) rfl m_141 (by decide) dX0_launch_24 ?_
    refine lv_iload_n B.1 B.2.1 dX0_launch_27 rfl (lv_at hl 1 rfl) ?_
    refine lv_iload_n B.1 B.2.1 dX0_launch_28 rfl (lv_at hl 2 rfl) ?_
    refine y_cI B h k_X7_init (c_X7_init l D Zk ca _ q2 (1000 + 16 * (T 0 1).toNat + 1) (1000 + 16 * (T 0 1).toNat + 2) (1000 + 16 * (T 0 1).toNat + 3) ((T 0 1)) rg ofc wu_eq (by omega) (by omega) (by omega) (by omega)) m_444 rfl (by decide) hl.1 [.ref q2, .int (iI (T 0 1)), .ref (ad 2)] (Nat.le_of_ble_eq_true rfl) rfl dX0_launch_29 (fun r w1 hq H locs h => ?_)
    obtain ⟨rfl, q3, q4, rfl⟩ := hq
    rw [wu_comm (show (1000 + 16 * (T 0 1).toNat + 1 : Nat) ≠ (1000 + 16 * (T 0 1).toNat + 3) by omega), wu_comm (show (1000 + 16 * (T 0 1).toNat + 1 : Nat) ≠ (1000 + 16 * (T 0 1).toNat + 2) by omega), wu_wu] at h
    have h : yH D Zk A s ((wu (wu (wu w ((1000 + 16 * (T 0 1).toNat + 3)) (q4, xAQ (ca 5) 1000 (fun f => f = fun _ => none))) ((1000 + 16 * (T 0 1).toNat + 2)) (q3, xAI (ca 0) 1000 (gX 1000 (sfi (fun _ => 0) 0 ofc 1000)))) (1000 + 16 * (T 0 1).toNat + 1) (q2, xO 7 [(fX ((T 0 1))), (fX rg), fR q3, (fR q4), fX 0]))) _ _ := h
    show W p l e r_c_X0_launch s m args below meth c _ _ 3 2005 Qf (F0 m 32 ls [.ref q2, .int (iI (T 0 1)), .ref (ad 2)])
    refine y_qast B h 2 4 kX7 rfl (wu_at (wu_at (wu_at (CW.f hC 2 _ rfl) (by omega)) (by omega)) (by omega)) (by omega) wu_eq (P' := gRow (gShip T G q2 q3 q4) 1 (T 0 1 + 1)) (gRow_up (by omega) gShip_n.1 (fun i hi => gShip_o (by omega))) dX0_launch_32 (fun H locs h => ?_)
    have h : yH D Zk A s ((wu (wu (wu (wu w ((1000 + 16 * (T 0 1).toNat + 3)) (q4, xAQ (ca 5) 1000 (fun f => f = fun _ => none))) ((1000 + 16 * (T 0 1).toNat + 2)) (q3, xAI (ca 0) 1000 (gX 1000 (sfi (fun _ => 0) 0 ofc 1000)))) (1000 + 16 * (T 0 1).toNat + 1) (q2, xO 7 [(fX ((T 0 1))), (fX rg), fR q3, (fR q4), fX 0])) 2 (ad 2, xAQ (ca 4) 12 (gRow (gShip T G q2 q3 q4) 1 (T 0 1 + 1))))) _ _ := h
    refine lv_aload_n B.1 B.2.1 dX0_launch_33 rfl (lv_at hl 0 rfl) ?_
    refine lv_dup B.1 B.2.1 dX0_launch_34 rfl ?_
    refine y_getX B h kX0 1 (wu_at (wu_at (wu_at (wu_at (CW.f hC 1 _ rfl) (by omega)) (by omega)) (by omega)) (by decide)) 4 (z := (T 0 1)) rfl m_141 (by decide) dX0_launch_35 ?_
    refine x_iconst B dX0_launch_38 ?_
    refine x_iadd B dX0_launch_39 ?_
    refine y_put B h kX0 1 (wu_at (wu_at (wu_at (wu_at (CW.f hC 1 _ rfl) (by omega)) (by omega)) (by omega)) (by decide)) 4 (Nat.le_of_ble_eq_true rfl) (P' := fX ((T 0 1) + 1)) m_141 (by decide) rfl rfl rfl rfl dX0_launch_40 (fun H locs h => ?_)
    have h : yH D Zk A s ((wu (wu (wu (wu (wu w ((1000 + 16 * (T 0 1).toNat + 3)) (q4, xAQ (ca 5) 1000 (fun f => f = fun _ => none))) ((1000 + 16 * (T 0 1).toNat + 2)) (q3, xAI (ca 0) 1000 (gX 1000 (sfi (fun _ => 0) 0 ofc 1000)))) (1000 + 16 * (T 0 1).toNat + 1) (q2, xO 7 [(fX ((T 0 1))), (fX rg), fR q3, (fR q4), fX 0])) 2 (ad 2, xAQ (ca 4) 12 (gRow (gShip T G q2 q3 q4) 1 (T 0 1 + 1)))) 1 (ad 1, xO 0 [fR (ad 2), fR (ad 3), fX (T 0 0), fG (-2147483648) 2147483647, fX ((T 0 1) + 1), fX (T 0 2), fX (T 0 3), fX (T 0 4), fX (T 0 5)]))) _ _ := h
    refine lv_aload_n B.1 B.2.1 dX0_launch_43 rfl (lv_at hl 0 rfl) ?_
    refine y_getX B h kX0 1 wu_eq 4 (z := ((T 0 1) + 1)) rfl m_141 (by decide) dX0_launch_44 ?_
    refine x_iconst B dX0_launch_47 ?_
    refine x_isub B dX0_launch_48 ?_
    rw [wu_comm (show ((1000 + 16 * (T 0 1).toNat + 3) : Nat) ≠ (1000 + 16 * (T 0 1).toNat + 2) by omega), wu_comm (show ((1000 + 16 * (T 0 1).toNat + 3) : Nat) ≠ 1000 + 16 * (T 0 1).toNat + 1 by omega), wu_comm (show ((1000 + 16 * (T 0 1).toNat + 3) : Nat) ≠ 2 by omega), wu_comm (show ((1000 + 16 * (T 0 1).toNat + 3) : Nat) ≠ 1 by omega)] at h
    have h : yH D Zk A s ((wu (wu (wu (wu (wu w ((1000 + 16 * (T 0 1).toNat + 2)) (q3, xAI (ca 0) 1000 (gX 1000 (sfi (fun _ => 0) 0 ofc 1000)))) (1000 + 16 * (T 0 1).toNat + 1) (q2, xO 7 [(fX ((T 0 1))), (fX rg), fR q3, (fR q4), fX 0])) 2 (ad 2, xAQ (ca 4) 12 (gRow (gShip T G q2 q3 q4) 1 (T 0 1 + 1)))) 1 (ad 1, xO 0 [fR (ad 2), fR (ad 3), fX (T 0 0), fG (-2147483648) 2147483647, fX ((T 0 1) + 1), fX (T 0 2), fX (T 0 3), fX (T 0 4), fX (T 0 5)])) ((1000 + 16 * (T 0 1).toNat + 3)) (q4, xAQ (ca 5) 1000 (fun f => f = fun _ => none)))) _ _ := h
    have h := yH.weak (P' := xAQ (ca 5) 1000 (gRd T (gShip T G q2 q3 q4) (T 0 2) (T 0 1))) h wu_eq (gRd_none (fun k hk => by have := pi_in (CW.pi hC) k hk; omega))
    rw [wu_wu] at h
    have h : yH D Zk A s ((wu (wu (wu (wu (wu w ((1000 + 16 * (T 0 1).toNat + 2)) (q3, xAI (ca 0) 1000 (gX 1000 (sfi (fun _ => 0) 0 ofc 1000)))) (1000 + 16 * (T 0 1).toNat + 1) (q2, xO 7 [(fX ((T 0 1))), (fX rg), fR q3, (fR q4), fX 0])) 2 (ad 2, xAQ (ca 4) 12 (gRow (gShip T G q2 q3 q4) 1 (T 0 1 + 1)))) 1 (ad 1, xO 0 [fR (ad 2), fR (ad 3), fX (T 0 0), fG (-2147483648) 2147483647, fX ((T 0 1) + 1), fX (T 0 2), fX (T 0 3), fX (T 0 4), fX (T 0 5)])) ((1000 + 16 * (T 0 1).toNat + 3)) (q4, xAQ (ca 5) 1000 (gRd T (gShip T G q2 q3 q4) (T 0 2) (T 0 1))))) _ _ := h
    refine y_ri B hQ h (by decide) dX0_launch_49 ?_
    exact ⟨_, rfl, by omega, _, cw_ship hC (by omega) (by omega) (by omega) (fun k k0 k1 k2 k3 k4 => by rw [wu_ne (by omega), wu_ne (by omega), wu_ne (by omega), wu_ne (by omega), wu_ne (by omega)]) (wu_at wu_eq (by omega)) (wu_at (wu_at wu_eq (by decide)) (by omega)) (wu_at (wu_at (wu_at wu_eq (by omega)) (by omega)) (by omega)) (wu_at (wu_at (wu_at (wu_at wu_eq (by omega)) (by omega)) (by omega)) (by omega)) wu_eq, fun k h1 h2 => by rw [wu_ne (by omega), wu_ne (by omega), wu_ne (by omega), wu_ne (by omega), wu_ne (by omega)]⟩
  · exact absurd c1 (by omega)
abbrev r_c_X11_ship : Room := { frames := 4, cells := 3, slots := 2005, locals := 89 }
set_option maxHeartbeats 4000000 in
set_option maxRecDepth 100000 in
theorem c_X11_ship (l : Launch) (D : va_G) (Zk : yK) (ca : Nat → ClassId) (T : Nat → Int → Int) (G : Nat → Int → Nat) (u : Int) (ad : Nat → Nat) (w : yW) (hC : CW ca T G u ad w) (rg : Int) (ofc : Int)  (hrg : xr rg) (hofc : xr ofc) : yC l D Zk ca yX11_ship cX11_ship 3 (some .int) r_c_X11_ship [.ref (ad 0), .int (iI rg), .int (iI ofc)] w (fun r w1 => ∃ z : Int, r = some (.int (iI z)) ∧ ((((0 ≤ rg ∧ rg ≤ 3) ∧ 0 ≤ ofc ∧ ofc < T 0 0) ∧ T 0 1 < 12 ∧ z = T 0 1 ∧ ∃ G2 : Nat → Int → Nat, CW ca (tShip T rg ofc) G2 u ad w1 ∧ AGX w w1) ∨ (¬ (((0 ≤ rg ∧ rg ≤ 3) ∧ 0 ≤ ofc ∧ ofc < T 0 0) ∧ T 0 1 < 12) ∧ z = -1 ∧ w1 = w))) := by
  refine yC.of2 "WindWords" (by decide) rfl (Nat.le_of_ble_eq_true rfl) ?_
  intro p e s m args below meth c A ls Qf B hnm h hl hQ
  have hl : lv_has ls 3 [(0, .ref (ad 0)), (1, .int (iI rg)), (2, .int (iI ofc))] := hl
  have hs := pi_s (CW.pi hC)
  refine lv_iload_n B.1 B.2.1 dX11_ship_0 rfl (lv_at hl 1 rfl) ?_
  refine x_iconst B dX11_ship_1 ?_
  refine y_cS B h k_X11_within (c_X11_within l D Zk ca _ rg 3  (by omega) (by omega)) m_431 rfl (by decide) hl.1 [] (Nat.le_of_ble_eq_true rfl) rfl dX11_ship_2 (fun r w1 hq H locs h => ?_)
  obtain ⟨rfl, _, rfl, ⟨rfl, b1⟩ | ⟨rfl, b1⟩⟩ := hq
  · show W p l e r_c_X11_ship s m args below meth c _ _ 0 0 Qf (F0 m 5 ls [.int (iI 1)])
    refine x_if_eq B (by omega) (tgt := 19) dX11_ship_5 (by decide) (fun c2 => ?_) (fun c2 => ?_)
    · exact absurd c2 (by omega)
    · refine lv_aload_n B.1 B.2.1 dX11_ship_8 rfl (lv_at hl 0 rfl) ?_
      refine y_getR B h kX11 0 (CW.f hC 0 _ rfl) 0 (b := ad 1) rfl m_361 (by decide) dX11_ship_9 ?_
      refine lv_iload_n B.1 B.2.1 dX11_ship_12 rfl (lv_at hl 2 rfl) ?_
      refine y_cV B h kX0 1 (CW.f hC 1 _ rfl) k_X0_hasOfficer rfl (c_X0_hasOfficer l D Zk ca T G u ad _ hC ofc  (by omega)) m_434 rfl (by decide) hl.1 [] (Nat.le_of_ble_eq_true rfl) rfl dX11_ship_13 (fun r w1 hq H locs h => ?_)
      obtain ⟨rfl, _, rfl, ⟨rfl, b3⟩ | ⟨rfl, b3⟩⟩ := hq
      · show W p l e r_c_X11_ship s m args below meth c _ _ 0 0 Qf (F0 m 16 ls [.int (iI 1)])
        refine x_if_ne B (by omega) (tgt := 26) dX11_ship_16 (by decide) (fun c4 => ?_) (fun c4 => ?_)
        · refine lv_aload_n B.1 B.2.1 dX11_ship_26 rfl (lv_at hl 0 rfl) ?_
          refine y_getR B h kX11 0 (CW.f hC 0 _ rfl) 0 (b := ad 1) rfl m_361 (by decide) dX11_ship_27 ?_
          refine y_getX B h kX0 1 (CW.f hC 1 _ rfl) 4 (z := (T 0 1)) rfl m_143 (by decide) dX11_ship_30 ?_
          refine x_bipush B (by decide) dX11_ship_33 ?_
          refine x_icmp_lt B (by omega) (tgt := 45) dX11_ship_35 (by decide) (fun c5 => ?_) (fun c5 => ?_)
          · refine lv_aload_n B.1 B.2.1 dX11_ship_45 rfl (lv_at hl 0 rfl) ?_
            refine y_getR B h kX11 0 (CW.f hC 0 _ rfl) 0 (b := ad 1) rfl m_361 (by decide) dX11_ship_46 ?_
            refine lv_iload_n B.1 B.2.1 dX11_ship_49 rfl (lv_at hl 1 rfl) ?_
            refine lv_iload_n B.1 B.2.1 dX11_ship_50 rfl (lv_at hl 2 rfl) ?_
            refine y_cV B h kX0 1 (CW.f hC 1 _ rfl) k_X0_launch rfl (c_X0_launch l D Zk ca T G u ad _ hC rg ofc  (by omega) (by omega) (by omega)) m_439 rfl (by decide) hl.1 [] (Nat.le_of_ble_eq_true rfl) rfl dX11_ship_51 (fun r w1 hq H locs h => ?_)
            obtain ⟨_, rfl, rfl, G2, hC2, hag2⟩ := hq
            show W p l e r_c_X11_ship s m args below meth c _ _ 3 2005 Qf (F0 m 54 ls [.int (iI (T 0 1))])
            refine y_ri B hQ h (by decide) dX11_ship_54 ?_
            exact ⟨_, rfl, Or.inl ⟨by omega, by omega, rfl, G2, hC2, hag2⟩⟩
          · refine lv_aload_n B.1 B.2.1 dX11_ship_38 rfl (lv_at hl 0 rfl) ?_
            refine x_iconst B dX11_ship_39 ?_
            refine x_iconst B dX11_ship_40 ?_
            refine y_cV B h kX11 0 (CW.f hC 0 _ rfl) k_X11_refuse rfl (c_X11_refuse l D Zk ca T G u ad _ hC 1 ((-1))  (by omega) (by omega)) m_423 rfl (by decide) hl.1 [] (Nat.le_of_ble_eq_true rfl) rfl dX11_ship_41 (fun r w1 hq H locs h => ?_)
            obtain ⟨rfl, z6, rfl, hz6⟩ := hq
            show W p l e r_c_X11_ship s m args below meth c _ _ 0 0 Qf (F0 m 44 ls [.int (iI z6)])
            refine y_ri B hQ h (by decide) dX11_ship_44 ?_
            exact ⟨_, rfl, Or.inr ⟨by omega, by omega, rfl⟩⟩
        · exact absurd c4 (by omega)
      · show W p l e r_c_X11_ship s m args below meth c _ _ 0 0 Qf (F0 m 16 ls [.int (iI 0)])
        refine x_if_ne B (by omega) (tgt := 26) dX11_ship_16 (by decide) (fun c7 => ?_) (fun c7 => ?_)
        · exact absurd c7 (by omega)
        · refine lv_aload_n B.1 B.2.1 dX11_ship_19 rfl (lv_at hl 0 rfl) ?_
          refine x_iconst B dX11_ship_20 ?_
          refine x_iconst B dX11_ship_21 ?_
          refine y_cV B h kX11 0 (CW.f hC 0 _ rfl) k_X11_refuse rfl (c_X11_refuse l D Zk ca T G u ad _ hC 0 ((-1))  (by omega) (by omega)) m_423 rfl (by decide) hl.1 [] (Nat.le_of_ble_eq_true rfl) rfl dX11_ship_22 (fun r w1 hq H locs h => ?_)
          obtain ⟨rfl, z8, rfl, hz8⟩ := hq
          show W p l e r_c_X11_ship s m args below meth c _ _ 0 0 Qf (F0 m 25 ls [.int (iI z8)])
          refine y_ri B hQ h (by decide) dX11_ship_25 ?_
          exact ⟨_, rfl, Or.inr ⟨by omega, by omega, rfl⟩⟩
  · show W p l e r_c_X11_ship s m args below meth c _ _ 0 0 Qf (F0 m 5 ls [.int (iI 0)])
    refine x_if_eq B (by omega) (tgt := 19) dX11_ship_5 (by decide) (fun c9 => ?_) (fun c9 => ?_)
    · refine lv_aload_n B.1 B.2.1 dX11_ship_19 rfl (lv_at hl 0 rfl) ?_
      refine x_iconst B dX11_ship_20 ?_
      refine x_iconst B dX11_ship_21 ?_
      refine y_cV B h kX11 0 (CW.f hC 0 _ rfl) k_X11_refuse rfl (c_X11_refuse l D Zk ca T G u ad _ hC 0 ((-1))  (by omega) (by omega)) m_423 rfl (by decide) hl.1 [] (Nat.le_of_ble_eq_true rfl) rfl dX11_ship_22 (fun r w1 hq H locs h => ?_)
      obtain ⟨rfl, z10, rfl, hz10⟩ := hq
      show W p l e r_c_X11_ship s m args below meth c _ _ 0 0 Qf (F0 m 25 ls [.int (iI z10)])
      refine y_ri B hQ h (by decide) dX11_ship_25 ?_
      exact ⟨_, rfl, Or.inr ⟨by omega, by omega, rfl⟩⟩
    · exact absurd c9 (by omega)
abbrev r_c_X11_signs : Room := { frames := 2, cells := 0, slots := 0, locals := 44 }
set_option maxHeartbeats 4000000 in
set_option maxRecDepth 100000 in
theorem c_X11_signs (l : Launch) (D : va_G) (Zk : yK) (ca : Nat → ClassId) (T : Nat → Int → Int) (G : Nat → Int → Nat) (u : Int) (ad : Nat → Nat) (w : yW) (hC : CW ca T G u ad w) (sh : Int) (o : Int) (v : Int)  (hsh : xr sh) (ho : xr o) (hv : xr v) : yC l D Zk ca yX11_signs cX11_signs 5 (some .int) r_c_X11_signs [.ref (ad 0), .int (iI sh), .int (iI o), .int (iI v)] w (fun r w1 => ∃ z : Int, r = some (.int (iI z)) ∧ ((((0 ≤ sh ∧ sh < T 0 1) ∧ (0 ≤ o ∧ o < T 0 0) ∧ T 2 sh < v ∧ v ≤ 999) ∧ T 0 3 < 60 ∧ z = T 0 3 + 1 ∧ CW ca (tSigns T sh o v) G u ad w1 ∧ AGX w w1) ∨ (¬ (((0 ≤ sh ∧ sh < T 0 1) ∧ (0 ≤ o ∧ o < T 0 0) ∧ T 2 sh < v ∧ v ≤ 999) ∧ T 0 3 < 60) ∧ z = -1 ∧ w1 = w))) := by
  refine yC.of2 "WindWords" (by decide) rfl (Nat.le_of_ble_eq_true rfl) ?_
  intro p e s m args below meth c A ls Qf B hnm h hl hQ
  have hl : lv_has ls 5 [(0, .ref (ad 0)), (1, .int (iI sh)), (2, .int (iI o)), (3, .int (iI v))] := hl
  have hs := pi_s (CW.pi hC)
  refine lv_aload_n B.1 B.2.1 dX11_signs_0 rfl (lv_at hl 0 rfl) ?_
  refine y_getR B h kX11 0 (CW.f hC 0 _ rfl) 0 (b := ad 1) rfl m_361 (by decide) dX11_signs_1 ?_
  refine lv_iload_n B.1 B.2.1 dX11_signs_4 rfl (lv_at hl 1 rfl) ?_
  refine y_cV B h kX0 1 (CW.f hC 1 _ rfl) k_X0_shipAt rfl (c_X0_shipAt l D Zk ca T G u ad _ hC sh  (by omega)) m_481 rfl (by decide) hl.1 [] (Nat.le_of_ble_eq_true rfl) rfl dX11_signs_5 (fun r w1 hq H locs h => ?_)
  obtain ⟨rfl, _, rfl, ⟨rfl, q1⟩ | ⟨rfl, q1⟩⟩ := hq
  · show W p l e r_c_X11_signs s m args below meth c _ _ 0 0 Qf (F0 m 8 ls [.null])
    refine lv_astoreN (lv' := [(4, .null), (0, .ref (ad 0)), (1, .int (iI sh)), (2, .int (iI o)), (3, .int (iI v))]) B.1 B.2.1 dX11_signs_8 hl (by decide) rfl (fun ls hl => ?_)
    refine lv_aloadN B.1 B.2.1 dX11_signs_10 (lv_at hl 0 rfl) ?_
    refine lv_ifnullN (tgt := 42) B.1 B.2.1 dX11_signs_12 (by decide) ?_
    refine lv_aload_n B.1 B.2.1 dX11_signs_42 rfl (lv_at hl 1 rfl) ?_
    refine x_iconst B dX11_signs_43 ?_
    refine x_iconst B dX11_signs_44 ?_
    refine y_cV B h kX11 0 (CW.f hC 0 _ rfl) k_X11_refuse rfl (c_X11_refuse l D Zk ca T G u ad _ hC 0 ((-1))  (by omega) (by omega)) m_423 rfl (by decide) hl.1 [] (Nat.le_of_ble_eq_true rfl) rfl dX11_signs_45 (fun r w1 hq H locs h => ?_)
    obtain ⟨rfl, z2, rfl, hz2⟩ := hq
    show W p l e r_c_X11_signs s m args below meth c _ _ 0 0 Qf (F0 m 48 ls [.int (iI z2)])
    refine y_ri B hQ h (by decide) dX11_signs_48 ?_
    exact ⟨_, rfl, Or.inr ⟨by omega, by omega, rfl⟩⟩
  · have fo3 := CW.sh hC sh (by omega)
    show W p l e r_c_X11_signs s m args below meth c _ _ 0 0 Qf (F0 m 8 ls [.ref (G 1 sh)])
    refine lv_astore (lv' := [(4, .ref (G 1 sh)), (0, .ref (ad 0)), (1, .int (iI sh)), (2, .int (iI o)), (3, .int (iI v))]) B.1 B.2.1 dX11_signs_8 hl (by decide) rfl (fun ls hl => ?_)
    refine lv_aload B.1 B.2.1 dX11_signs_10 (lv_at hl 0 rfl) ?_
    refine lv_ifnull B.1 B.2.1 dX11_signs_12 ?_
    refine lv_aload_n B.1 B.2.1 dX11_signs_15 rfl (lv_at hl 1 rfl) ?_
    refine y_getR B h kX11 0 (CW.f hC 0 _ rfl) 0 (b := ad 1) rfl m_361 (by decide) dX11_signs_16 ?_
    refine lv_iload_n B.1 B.2.1 dX11_signs_19 rfl (lv_at hl 3 rfl) ?_
    refine y_cV B h kX0 1 (CW.f hC 1 _ rfl) k_X0_hasOfficer rfl (c_X0_hasOfficer l D Zk ca T G u ad _ hC o  (by omega)) m_434 rfl (by decide) hl.1 [] (Nat.le_of_ble_eq_true rfl) rfl dX11_signs_20 (fun r w1 hq H locs h => ?_)
    obtain ⟨rfl, _, rfl, ⟨rfl, b4⟩ | ⟨rfl, b4⟩⟩ := hq
    · show W p l e r_c_X11_signs s m args below meth c _ _ 0 0 Qf (F0 m 23 ls [.int (iI 1)])
      refine x_if_eq B (by omega) (tgt := 42) dX11_signs_23 (by decide) (fun c5 => ?_) (fun c5 => ?_)
      · exact absurd c5 (by omega)
      · refine lv_iload_n B.1 B.2.1 dX11_signs_26 rfl (lv_at hl 4 rfl) ?_
        refine lv_aload B.1 B.2.1 dX11_signs_27 (lv_at hl 0 rfl) ?_
        refine y_getX B h kX7 (1000 + 16 * sh.toNat + 1) fo3.1 4 (z := (T 2 sh)) rfl m_465 (by decide) dX11_signs_29 ?_
        have tb6 := pi_2 (CW.pi hC) sh
        refine x_icmp_le B (by omega) (tgt := 42) dX11_signs_32 (by decide) (fun c7 => ?_) (fun c7 => ?_)
        · refine lv_aload_n B.1 B.2.1 dX11_signs_42 rfl (lv_at hl 1 rfl) ?_
          refine x_iconst B dX11_signs_43 ?_
          refine x_iconst B dX11_signs_44 ?_
          refine y_cV B h kX11 0 (CW.f hC 0 _ rfl) k_X11_refuse rfl (c_X11_refuse l D Zk ca T G u ad _ hC 0 ((-1))  (by omega) (by omega)) m_423 rfl (by decide) hl.1 [] (Nat.le_of_ble_eq_true rfl) rfl dX11_signs_45 (fun r w1 hq H locs h => ?_)
          obtain ⟨rfl, z8, rfl, hz8⟩ := hq
          show W p l e r_c_X11_signs s m args below meth c _ _ 0 0 Qf (F0 m 48 ls [.int (iI z8)])
          refine y_ri B hQ h (by decide) dX11_signs_48 ?_
          exact ⟨_, rfl, Or.inr ⟨by omega, by omega, rfl⟩⟩
        · refine lv_iload_n B.1 B.2.1 dX11_signs_35 rfl (lv_at hl 4 rfl) ?_
          refine x_sipush B (by decide) dX11_signs_36 ?_
          refine x_icmp_le B (by omega) (tgt := 49) dX11_signs_39 (by decide) (fun c9 => ?_) (fun c9 => ?_)
          · refine lv_aload_n B.1 B.2.1 dX11_signs_49 rfl (lv_at hl 1 rfl) ?_
            refine y_getR B h kX11 0 (CW.f hC 0 _ rfl) 0 (b := ad 1) rfl m_361 (by decide) dX11_signs_50 ?_
            refine y_getX B h kX0 1 (CW.f hC 1 _ rfl) 6 (z := (T 0 3)) rfl m_151 (by decide) dX11_signs_53 ?_
            refine x_bipush B (by decide) dX11_signs_56 ?_
            refine x_icmp_lt B (by omega) (tgt := 68) dX11_signs_58 (by decide) (fun c10 => ?_) (fun c10 => ?_)
            · refine lv_aload B.1 B.2.1 dX11_signs_68 (lv_at hl 0 rfl) ?_
              refine lv_iload_n B.1 B.2.1 dX11_signs_70 rfl (lv_at hl 4 rfl) ?_
              refine lv_iload_n B.1 B.2.1 dX11_signs_71 rfl (lv_at hl 3 rfl) ?_
              refine y_cV B h kX7 (1000 + 16 * sh.toNat + 1) fo3.1 k_X7_signFrom rfl (c_X7_signFrom l D Zk ca _ (fun j => T 3 (1000 * sh + (j : Int))) (fX sh) (fX (T 1 sh)) (fR (G 3 sh)) ((T 2 sh)) (G 1 sh) (1000 + 16 * sh.toNat + 1) (G 2 sh) (1000 + 16 * sh.toNat + 2) v o fo3.1 fo3.2.1 (by omega) (by omega) (by omega)) m_485 rfl (by decide) hl.1 [] (Nat.le_of_ble_eq_true rfl) rfl dX11_signs_72 (fun r w1 hq H locs h => ?_)
              obtain ⟨rfl, rfl, hr11⟩ := hq
              have h : yH D Zk A s ((wu (wu w (1000 + 16 * sh.toNat + 2) (G 2 sh, xAI (ca 0) 1000 (gX 1000 (sfi (fun j => T 3 (1000 * sh + (j : Int))) v o 1000)))) (1000 + 16 * sh.toNat + 1) (G 1 sh, xO 7 [(fX sh), (fX (T 1 sh)), fR ((G 2 sh)), (fR (G 3 sh)), fX v]))) _ _ := h
              show W p l e r_c_X11_signs s m args below meth c _ _ 0 0 Qf (F0 m 75 ls [])
              refine lv_aload_n B.1 B.2.1 dX11_signs_75 rfl (lv_at hl 1 rfl) ?_
              refine y_getR B h kX11 0 (wu_at (wu_at (CW.f hC 0 _ rfl) (by omega)) (by omega)) 0 (b := ad 1) rfl m_361 (by decide) dX11_signs_76 ?_
              refine lv_dup B.1 B.2.1 dX11_signs_79 rfl ?_
              refine y_getX B h kX0 1 (wu_at (wu_at (CW.f hC 1 _ rfl) (by omega)) (by omega)) 6 (z := (T 0 3)) rfl m_151 (by decide) dX11_signs_80 ?_
              refine x_iconst B dX11_signs_83 ?_
              refine x_iadd B dX11_signs_84 ?_
              refine y_put B h kX0 1 (wu_at (wu_at (CW.f hC 1 _ rfl) (by omega)) (by omega)) 6 (Nat.le_of_ble_eq_true rfl) (P' := fX ((T 0 3) + 1)) m_151 (by decide) rfl rfl rfl rfl dX11_signs_85 (fun H locs h => ?_)
              have h : yH D Zk A s ((wu (wu (wu w (1000 + 16 * sh.toNat + 2) (G 2 sh, xAI (ca 0) 1000 (gX 1000 (sfi (fun j => T 3 (1000 * sh + (j : Int))) v o 1000)))) (1000 + 16 * sh.toNat + 1) (G 1 sh, xO 7 [(fX sh), (fX (T 1 sh)), fR ((G 2 sh)), (fR (G 3 sh)), fX v])) 1 (ad 1, xO 0 [fR (ad 2), fR (ad 3), fX (T 0 0), fG (-2147483648) 2147483647, fX (T 0 1), fX (T 0 2), fX ((T 0 3) + 1), fX (T 0 4), fX (T 0 5)]))) _ _ := h
              refine lv_aload_n B.1 B.2.1 dX11_signs_88 rfl (lv_at hl 1 rfl) ?_
              refine y_getR B h kX11 0 (wu_at (wu_at (wu_at (CW.f hC 0 _ rfl) (by omega)) (by omega)) (by decide)) 0 (b := ad 1) rfl m_361 (by decide) dX11_signs_89 ?_
              refine y_getX B h kX0 1 wu_eq 6 (z := ((T 0 3) + 1)) rfl m_151 (by decide) dX11_signs_92 ?_
              refine y_ri B hQ h (by decide) dX11_signs_95 ?_
              exact ⟨_, rfl, Or.inl ⟨by omega, by omega, by omega, cw_signs hC (by omega) (by omega) (by omega) (by omega) (fun k k0 k1 k2 => by rw [wu_ne (by omega), wu_ne (by omega), wu_ne (by omega)]) wu_eq (wu_at wu_eq (by omega)) (wu_at (wu_at wu_eq (by omega)) (by omega)), fun k h1 h2 => by rw [wu_ne (by omega), wu_ne (by omega), wu_ne (by omega)]⟩⟩
            · refine lv_aload_n B.1 B.2.1 dX11_signs_61 rfl (lv_at hl 1 rfl) ?_
              refine x_iconst B dX11_signs_62 ?_
              refine x_iconst B dX11_signs_63 ?_
              refine y_cV B h kX11 0 (CW.f hC 0 _ rfl) k_X11_refuse rfl (c_X11_refuse l D Zk ca T G u ad _ hC 1 ((-1))  (by omega) (by omega)) m_423 rfl (by decide) hl.1 [] (Nat.le_of_ble_eq_true rfl) rfl dX11_signs_64 (fun r w1 hq H locs h => ?_)
              obtain ⟨rfl, z12, rfl, hz12⟩ := hq
              show W p l e r_c_X11_signs s m args below meth c _ _ 0 0 Qf (F0 m 67 ls [.int (iI z12)])
              refine y_ri B hQ h (by decide) dX11_signs_67 ?_
              exact ⟨_, rfl, Or.inr ⟨by omega, by omega, rfl⟩⟩
          · refine lv_aload_n B.1 B.2.1 dX11_signs_42 rfl (lv_at hl 1 rfl) ?_
            refine x_iconst B dX11_signs_43 ?_
            refine x_iconst B dX11_signs_44 ?_
            refine y_cV B h kX11 0 (CW.f hC 0 _ rfl) k_X11_refuse rfl (c_X11_refuse l D Zk ca T G u ad _ hC 0 ((-1))  (by omega) (by omega)) m_423 rfl (by decide) hl.1 [] (Nat.le_of_ble_eq_true rfl) rfl dX11_signs_45 (fun r w1 hq H locs h => ?_)
            obtain ⟨rfl, z13, rfl, hz13⟩ := hq
            show W p l e r_c_X11_signs s m args below meth c _ _ 0 0 Qf (F0 m 48 ls [.int (iI z13)])
            refine y_ri B hQ h (by decide) dX11_signs_48 ?_
            exact ⟨_, rfl, Or.inr ⟨by omega, by omega, rfl⟩⟩
    · show W p l e r_c_X11_signs s m args below meth c _ _ 0 0 Qf (F0 m 23 ls [.int (iI 0)])
      refine x_if_eq B (by omega) (tgt := 42) dX11_signs_23 (by decide) (fun c14 => ?_) (fun c14 => ?_)
      · refine lv_aload_n B.1 B.2.1 dX11_signs_42 rfl (lv_at hl 1 rfl) ?_
        refine x_iconst B dX11_signs_43 ?_
        refine x_iconst B dX11_signs_44 ?_
        refine y_cV B h kX11 0 (CW.f hC 0 _ rfl) k_X11_refuse rfl (c_X11_refuse l D Zk ca T G u ad _ hC 0 ((-1))  (by omega) (by omega)) m_423 rfl (by decide) hl.1 [] (Nat.le_of_ble_eq_true rfl) rfl dX11_signs_45 (fun r w1 hq H locs h => ?_)
        obtain ⟨rfl, z15, rfl, hz15⟩ := hq
        show W p l e r_c_X11_signs s m args below meth c _ _ 0 0 Qf (F0 m 48 ls [.int (iI z15)])
        refine y_ri B hQ h (by decide) dX11_signs_48 ?_
        exact ⟨_, rfl, Or.inr ⟨by omega, by omega, rfl⟩⟩
      · exact absurd c14 (by omega)
