theorem k_X5_compares : xMS yX5_compares cX5_compares 5 (some .boolean) 2 := ⟨m_907, m_906, m_103, ⟨by decide +kernel, by decide +kernel, by decide +kernel⟩⟩
theorem k_X5_holds : xMV yX5_holds cX5_holds 7 (some .boolean) 2 := ⟨m_903, m_901, m_902, m_103, ⟨by decide +kernel, by decide +kernel, by decide +kernel⟩⟩
theorem k_X11_held : xMS yX11_held cX11_held 1 (some .int) 1 := ⟨m_923, m_922, m_95, ⟨by decide +kernel, by decide +kernel, by decide +kernel⟩⟩
abbrev r_c_X5_compares : Room := { frames := 0, cells := 0, slots := 0, locals := 0 }
set_option maxHeartbeats 4000000 in
set_option maxRecDepth 100000 in
theorem c_X5_compares (l : Launch) (D : va_G) (Zk : yK) (ca : Nat → ClassId) (w : yW) (step : Int) (aw : Nat) (iw : Nat) (fw : w iw = some (aw, xAI (ca 0) 5 gA)) (hstep : xr step) : yC l D Zk ca yX5_compares cX5_compares 5 (some .boolean) r_c_X5_compares [.int (iI step), .ref aw] w (vI w (fun z => (z = 1 ∧ (True)) ∨ (z = 0 ∧ (True)))) := by
  refine yC.of2 "WindWords$Rules" (by decide) rfl (Nat.le_of_ble_eq_true rfl) ?_
  intro p e s m args below meth c A ls Qf B hnm h hl hQ
  have hl : lv_has ls 5 [(0, .int (iI step)), (1, .ref aw)] := hl
  refine lv_iload_n B.1 B.2.1 dX5_compares_0 rfl (lv_at hl 0 rfl) ?_
  refine x_sipush B (by decide) dX5_compares_1 ?_
  refine lv_idiv B.1 B.2.1 dX5_compares_4 (by decide) ?_
  refine x_name (fun z1 hz1 ez1 => ?_)
  refine x_iconst B dX5_compares_5 ?_
  refine lv_irem B.1 B.2.1 dX5_compares_6 (by decide) ?_
  refine x_name (fun z2 hz2 ez2 => ?_)
  refine lv_istore_n (lv' := [(2, .int (iI z2)), (0, .int (iI step)), (1, .ref aw)]) B.1 B.2.1 dX5_compares_7 rfl hl (by decide) rfl (fun ls hl => ?_)
  refine lv_iload_n B.1 B.2.1 dX5_compares_8 rfl (lv_at hl 0 rfl) ?_
  refine x_if_lt B (by omega) (tgt := 24) dX5_compares_9 (by decide) (fun c3 => ?_) (fun c3 => ?_)
  · refine x_iconst B dX5_compares_24 ?_
    refine lv_istore_n (lv' := [(3, .int (iI 0)), (2, .int (iI z2)), (0, .int (iI step)), (1, .ref aw)]) B.1 B.2.1 dX5_compares_25 rfl hl (by decide) rfl (fun ls hl => ?_)
    refine lv_iload_n B.1 B.2.1 dX5_compares_26 rfl (lv_at hl 2 rfl) ?_
    refine x_sipush B (by decide) dX5_compares_27 ?_
    refine lv_irem B.1 B.2.1 dX5_compares_30 (by decide) ?_
    refine x_name (fun z4 hz4 ez4 => ?_)
    refine lv_istore (lv' := [(4, .int (iI z4)), (3, .int (iI 0)), (2, .int (iI z2)), (0, .int (iI step)), (1, .ref aw)]) B.1 B.2.1 dX5_compares_31 hl (by decide) rfl (fun ls hl => ?_)
    refine lv_iload_n B.1 B.2.1 dX5_compares_33 rfl (lv_at hl 3 rfl) ?_
    refine x_sipush B (by decide) dX5_compares_34 ?_
    refine lv_idiv B.1 B.2.1 dX5_compares_37 (by decide) ?_
    refine x_name (fun z5 hz5 ez5 => ?_)
    refine x_iconst B dX5_compares_38 ?_
    refine lv_idiv B.1 B.2.1 dX5_compares_39 (by decide) ?_
    refine x_name (fun z6 hz6 ez6 => ?_)
    by_cases t7 : z6 = 0
    · refine y_look B (tgt := 68) (by omega) dX5_compares_40 (by decide) (by rw [t7]) (by decide) ?_
      refine lv_iload_n B.1 B.2.1 dX5_compares_68 rfl (lv_at hl 1 rfl) ?_
      refine lv_iload B.1 B.2.1 dX5_compares_69 (lv_at hl 0 rfl) ?_
      refine x_icmp_ge B (by omega) (tgt := 78) dX5_compares_71 (by decide) (fun c8 => ?_) (fun c8 => ?_)
      · refine x_iconst B dX5_compares_78 ?_
        refine y_rz B hQ h (by decide) (by decide) dX5_compares_79 ?_
        exact ⟨rfl, _, rfl, Or.inr ⟨rfl, (by first | omega | trivial | assumption)⟩⟩
      · refine x_iconst B dX5_compares_74 ?_
        refine lv_goto (tgt := 79) B.1 B.2.1 dX5_compares_75 (by decide) ?_
        refine y_rz B hQ h (by decide) (by decide) dX5_compares_79 ?_
        exact ⟨rfl, _, rfl, Or.inl ⟨rfl, (by first | omega | trivial | assumption)⟩⟩
    by_cases t9 : z6 = 1
    · refine y_look B (tgt := 80) (by omega) dX5_compares_40 (by decide) (by rw [t9]) (by decide) ?_
      refine lv_iload_n B.1 B.2.1 dX5_compares_80 rfl (lv_at hl 1 rfl) ?_
      refine lv_iload B.1 B.2.1 dX5_compares_81 (lv_at hl 0 rfl) ?_
      refine x_icmp_le B (by omega) (tgt := 90) dX5_compares_83 (by decide) (fun c10 => ?_) (fun c10 => ?_)
      · refine x_iconst B dX5_compares_90 ?_
        refine y_rz B hQ h (by decide) (by decide) dX5_compares_91 ?_
        exact ⟨rfl, _, rfl, Or.inr ⟨rfl, (by first | omega | trivial | assumption)⟩⟩
      · refine x_iconst B dX5_compares_86 ?_
        refine lv_goto (tgt := 91) B.1 B.2.1 dX5_compares_87 (by decide) ?_
        refine y_rz B hQ h (by decide) (by decide) dX5_compares_91 ?_
        exact ⟨rfl, _, rfl, Or.inl ⟨rfl, (by first | omega | trivial | assumption)⟩⟩
    refine y_look B (tgt := 92) (off := 52) (by omega) dX5_compares_40 (by decide) (by show (if (0 : Int) = z6 then 28 else (if (1 : Int) = z6 then 40 else 52)) = 52; rw [if_neg (by omega), if_neg (by omega)]) (by decide) ?_
    refine lv_iload_n B.1 B.2.1 dX5_compares_92 rfl (lv_at hl 1 rfl) ?_
    refine lv_iload B.1 B.2.1 dX5_compares_93 (lv_at hl 0 rfl) ?_
    refine x_icmp_ne B (by omega) (tgt := 102) dX5_compares_95 (by decide) (fun c11 => ?_) (fun c11 => ?_)
    · refine x_iconst B dX5_compares_102 ?_
      refine y_rz B hQ h (by decide) (by decide) dX5_compares_103 ?_
      exact ⟨rfl, _, rfl, Or.inr ⟨rfl, (by first | omega | trivial | assumption)⟩⟩
    · refine x_iconst B dX5_compares_98 ?_
      refine lv_goto (tgt := 103) B.1 B.2.1 dX5_compares_99 (by decide) ?_
      refine y_rz B hQ h (by decide) (by decide) dX5_compares_103 ?_
      exact ⟨rfl, _, rfl, Or.inl ⟨rfl, (by first | omega | trivial | assumption)⟩⟩
  · refine lv_iload_n B.1 B.2.1 dX5_compares_12 rfl (lv_at hl 0 rfl) ?_
    refine lv_aload_n B.1 B.2.1 dX5_compares_13 rfl (lv_at hl 2 rfl) ?_
    refine y_alenI B h iw 0 fw rfl dX5_compares_14 ?_
    refine x_icmp_ge B (by omega) (tgt := 24) dX5_compares_15 (by decide) (fun c12 => ?_) (fun c12 => ?_)
    · refine x_iconst B dX5_compares_24 ?_
      refine lv_istore_n (lv' := [(3, .int (iI 0)), (2, .int (iI z2)), (0, .int (iI step)), (1, .ref aw)]) B.1 B.2.1 dX5_compares_25 rfl hl (by decide) rfl (fun ls hl => ?_)
      refine lv_iload_n B.1 B.2.1 dX5_compares_26 rfl (lv_at hl 2 rfl) ?_
      refine x_sipush B (by decide) dX5_compares_27 ?_
      refine lv_irem B.1 B.2.1 dX5_compares_30 (by decide) ?_
      refine x_name (fun z13 hz13 ez13 => ?_)
      refine lv_istore (lv' := [(4, .int (iI z13)), (3, .int (iI 0)), (2, .int (iI z2)), (0, .int (iI step)), (1, .ref aw)]) B.1 B.2.1 dX5_compares_31 hl (by decide) rfl (fun ls hl => ?_)
      refine lv_iload_n B.1 B.2.1 dX5_compares_33 rfl (lv_at hl 3 rfl) ?_
      refine x_sipush B (by decide) dX5_compares_34 ?_
      refine lv_idiv B.1 B.2.1 dX5_compares_37 (by decide) ?_
      refine x_name (fun z14 hz14 ez14 => ?_)
      refine x_iconst B dX5_compares_38 ?_
      refine lv_idiv B.1 B.2.1 dX5_compares_39 (by decide) ?_
      refine x_name (fun z15 hz15 ez15 => ?_)
      by_cases t16 : z15 = 0
      · refine y_look B (tgt := 68) (by omega) dX5_compares_40 (by decide) (by rw [t16]) (by decide) ?_
        refine lv_iload_n B.1 B.2.1 dX5_compares_68 rfl (lv_at hl 1 rfl) ?_
        refine lv_iload B.1 B.2.1 dX5_compares_69 (lv_at hl 0 rfl) ?_
        refine x_icmp_ge B (by omega) (tgt := 78) dX5_compares_71 (by decide) (fun c17 => ?_) (fun c17 => ?_)
        · refine x_iconst B dX5_compares_78 ?_
          refine y_rz B hQ h (by decide) (by decide) dX5_compares_79 ?_
          exact ⟨rfl, _, rfl, Or.inr ⟨rfl, (by first | omega | trivial | assumption)⟩⟩
        · refine x_iconst B dX5_compares_74 ?_
          refine lv_goto (tgt := 79) B.1 B.2.1 dX5_compares_75 (by decide) ?_
          refine y_rz B hQ h (by decide) (by decide) dX5_compares_79 ?_
          exact ⟨rfl, _, rfl, Or.inl ⟨rfl, (by first | omega | trivial | assumption)⟩⟩
      by_cases t18 : z15 = 1
      · refine y_look B (tgt := 80) (by omega) dX5_compares_40 (by decide) (by rw [t18]) (by decide) ?_
        refine lv_iload_n B.1 B.2.1 dX5_compares_80 rfl (lv_at hl 1 rfl) ?_
        refine lv_iload B.1 B.2.1 dX5_compares_81 (lv_at hl 0 rfl) ?_
        refine x_icmp_le B (by omega) (tgt := 90) dX5_compares_83 (by decide) (fun c19 => ?_) (fun c19 => ?_)
        · refine x_iconst B dX5_compares_90 ?_
          refine y_rz B hQ h (by decide) (by decide) dX5_compares_91 ?_
          exact ⟨rfl, _, rfl, Or.inr ⟨rfl, (by first | omega | trivial | assumption)⟩⟩
        · refine x_iconst B dX5_compares_86 ?_
          refine lv_goto (tgt := 91) B.1 B.2.1 dX5_compares_87 (by decide) ?_
          refine y_rz B hQ h (by decide) (by decide) dX5_compares_91 ?_
          exact ⟨rfl, _, rfl, Or.inl ⟨rfl, (by first | omega | trivial | assumption)⟩⟩
      refine y_look B (tgt := 92) (off := 52) (by omega) dX5_compares_40 (by decide) (by show (if (0 : Int) = z15 then 28 else (if (1 : Int) = z15 then 40 else 52)) = 52; rw [if_neg (by omega), if_neg (by omega)]) (by decide) ?_
      refine lv_iload_n B.1 B.2.1 dX5_compares_92 rfl (lv_at hl 1 rfl) ?_
      refine lv_iload B.1 B.2.1 dX5_compares_93 (lv_at hl 0 rfl) ?_
      refine x_icmp_ne B (by omega) (tgt := 102) dX5_compares_95 (by decide) (fun c20 => ?_) (fun c20 => ?_)
      · refine x_iconst B dX5_compares_102 ?_
        refine y_rz B hQ h (by decide) (by decide) dX5_compares_103 ?_
        exact ⟨rfl, _, rfl, Or.inr ⟨rfl, (by first | omega | trivial | assumption)⟩⟩
      · refine x_iconst B dX5_compares_98 ?_
        refine lv_goto (tgt := 103) B.1 B.2.1 dX5_compares_99 (by decide) ?_
        refine y_rz B hQ h (by decide) (by decide) dX5_compares_103 ?_
        exact ⟨rfl, _, rfl, Or.inl ⟨rfl, (by first | omega | trivial | assumption)⟩⟩
    · refine lv_aload_n B.1 B.2.1 dX5_compares_18 rfl (lv_at hl 2 rfl) ?_
      refine lv_iload_n B.1 B.2.1 dX5_compares_19 rfl (lv_at hl 0 rfl) ?_
      refine y_iald B h iw fw (by omega) dX5_compares_20 (fun fz21 hfz21 => ?_)
      refine x_name (fun z21 hz21 ez21 => ?_)
      refine lv_goto (tgt := 25) B.1 B.2.1 dX5_compares_21 (by decide) ?_
      refine lv_istore_n (lv' := [(3, .int (iI z21)), (2, .int (iI z2)), (0, .int (iI step)), (1, .ref aw)]) B.1 B.2.1 dX5_compares_25 rfl hl (by decide) rfl (fun ls hl => ?_)
      refine lv_iload_n B.1 B.2.1 dX5_compares_26 rfl (lv_at hl 2 rfl) ?_
      refine x_sipush B (by decide) dX5_compares_27 ?_
      refine lv_irem B.1 B.2.1 dX5_compares_30 (by decide) ?_
      refine x_name (fun z22 hz22 ez22 => ?_)
      refine lv_istore (lv' := [(4, .int (iI z22)), (3, .int (iI z21)), (2, .int (iI z2)), (0, .int (iI step)), (1, .ref aw)]) B.1 B.2.1 dX5_compares_31 hl (by decide) rfl (fun ls hl => ?_)
      refine lv_iload_n B.1 B.2.1 dX5_compares_33 rfl (lv_at hl 3 rfl) ?_
      refine x_sipush B (by decide) dX5_compares_34 ?_
      refine lv_idiv B.1 B.2.1 dX5_compares_37 (by decide) ?_
      refine x_name (fun z23 hz23 ez23 => ?_)
      refine x_iconst B dX5_compares_38 ?_
      refine lv_idiv B.1 B.2.1 dX5_compares_39 (by decide) ?_
      refine x_name (fun z24 hz24 ez24 => ?_)
      by_cases t25 : z24 = 0
      · refine y_look B (tgt := 68) (by omega) dX5_compares_40 (by decide) (by rw [t25]) (by decide) ?_
        refine lv_iload_n B.1 B.2.1 dX5_compares_68 rfl (lv_at hl 1 rfl) ?_
        refine lv_iload B.1 B.2.1 dX5_compares_69 (lv_at hl 0 rfl) ?_
        refine x_icmp_ge B (by omega) (tgt := 78) dX5_compares_71 (by decide) (fun c26 => ?_) (fun c26 => ?_)
        · refine x_iconst B dX5_compares_78 ?_
          refine y_rz B hQ h (by decide) (by decide) dX5_compares_79 ?_
          exact ⟨rfl, _, rfl, Or.inr ⟨rfl, (by first | omega | trivial | assumption)⟩⟩
        · refine x_iconst B dX5_compares_74 ?_
          refine lv_goto (tgt := 79) B.1 B.2.1 dX5_compares_75 (by decide) ?_
          refine y_rz B hQ h (by decide) (by decide) dX5_compares_79 ?_
          exact ⟨rfl, _, rfl, Or.inl ⟨rfl, (by first | omega | trivial | assumption)⟩⟩
      by_cases t27 : z24 = 1
      · refine y_look B (tgt := 80) (by omega) dX5_compares_40 (by decide) (by rw [t27]) (by decide) ?_
        refine lv_iload_n B.1 B.2.1 dX5_compares_80 rfl (lv_at hl 1 rfl) ?_
        refine lv_iload B.1 B.2.1 dX5_compares_81 (lv_at hl 0 rfl) ?_
        refine x_icmp_le B (by omega) (tgt := 90) dX5_compares_83 (by decide) (fun c28 => ?_) (fun c28 => ?_)
        · refine x_iconst B dX5_compares_90 ?_
          refine y_rz B hQ h (by decide) (by decide) dX5_compares_91 ?_
          exact ⟨rfl, _, rfl, Or.inr ⟨rfl, (by first | omega | trivial | assumption)⟩⟩
        · refine x_iconst B dX5_compares_86 ?_
          refine lv_goto (tgt := 91) B.1 B.2.1 dX5_compares_87 (by decide) ?_
          refine y_rz B hQ h (by decide) (by decide) dX5_compares_91 ?_
          exact ⟨rfl, _, rfl, Or.inl ⟨rfl, (by first | omega | trivial | assumption)⟩⟩
      refine y_look B (tgt := 92) (off := 52) (by omega) dX5_compares_40 (by decide) (by show (if (0 : Int) = z24 then 28 else (if (1 : Int) = z24 then 40 else 52)) = 52; rw [if_neg (by omega), if_neg (by omega)]) (by decide) ?_
      refine lv_iload_n B.1 B.2.1 dX5_compares_92 rfl (lv_at hl 1 rfl) ?_
      refine lv_iload B.1 B.2.1 dX5_compares_93 (lv_at hl 0 rfl) ?_
      refine x_icmp_ne B (by omega) (tgt := 102) dX5_compares_95 (by decide) (fun c29 => ?_) (fun c29 => ?_)
      · refine x_iconst B dX5_compares_102 ?_
        refine y_rz B hQ h (by decide) (by decide) dX5_compares_103 ?_
        exact ⟨rfl, _, rfl, Or.inr ⟨rfl, (by first | omega | trivial | assumption)⟩⟩
      · refine x_iconst B dX5_compares_98 ?_
        refine lv_goto (tgt := 103) B.1 B.2.1 dX5_compares_99 (by decide) ?_
        refine y_rz B hQ h (by decide) (by decide) dX5_compares_103 ?_
        exact ⟨rfl, _, rfl, Or.inl ⟨rfl, (by first | omega | trivial | assumption)⟩⟩
abbrev r_c_X5_holds : Room := { frames := 1, cells := 0, slots := 0, locals := 24 }
set_option maxHeartbeats 4000000 in
set_option maxRecDepth 100000 in
theorem c_X5_holds (l : Launch) (D : va_G) (Zk : yK) (ca : Nat → ClassId) (T : Nat → Int → Int) (G : Nat → Int → Nat) (u : Int) (ad : Nat → Nat) (w : yW) (hC : CW ca T G u ad w) (j : Int) (st : Int) (aw : Nat) (iw : Nat) (fw : w iw = some (aw, xAI (ca 0) 5 gA)) (hj : 0 ≤ j ∧ j < u) (hst : 0 ≤ st ∧ st ≤ 39) : yC l D Zk ca yX5_holds cX5_holds 7 (some .boolean) r_c_X5_holds [.ref (G 6 j), .int (iI st), .ref aw] w (vI w (fun z => (z = 1 ∧ (True)) ∨ (z = 0 ∧ (True)))) := by
  refine yC.of2 "WindWords$Rules" (by decide) rfl (Nat.le_of_ble_eq_true rfl) ?_
  intro p e s m args below meth c A ls Qf B hnm h hl hQ
  have hl : lv_has ls 7 [(0, .ref (G 6 j)), (1, .int (iI st)), (2, .ref aw)] := hl
  have hs := pi_s (CW.pi hC)
  have fo1 := CW.ru hC j (by omega)
  refine lv_lconst (v := 1) B.1 B.2.1 dX5_holds_0 (by decide) ?_
  refine lv_lstore_n (lv' := [(3, .long ((1 : Int64))), (0, .ref (G 6 j)), (1, .int (iI st)), (2, .ref aw)]) B.1 B.2.1 dX5_holds_1 rfl hl (by decide) rfl (fun ls hl => ?_)
  refine lv_aload_n B.1 B.2.1 dX5_holds_2 rfl (lv_at hl 1 rfl) ?_
  refine y_getR B h kX5 (1000 + 16 * j.toNat + 6) fo1.1 3 (b := G 10 j) rfl m_341 (by decide) dX5_holds_3 ?_
  refine lv_iload_n B.1 B.2.1 dX5_holds_6 rfl (lv_at hl 2 rfl) ?_
  refine y_ialdG B h (1000 + 16 * j.toNat + 10) fo1.2.2.2.2.1 (by omega) dX5_holds_7 (fun z2 z2a z2b => ?_)
  refine lv_istore (lv' := [(5, .int (iI z2)), (3, .long ((1 : Int64))), (0, .ref (G 6 j)), (1, .int (iI st)), (2, .ref aw)]) B.1 B.2.1 dX5_holds_8 hl (by decide) rfl (fun ls hl => ?_)
  have loop10 : ∀ (n10 : Nat) (sk : Int64) (i : Int), (0 ≤ i ∧ i ≤ 450) → ((450 - i : Int)).toNat < n10 → ∀ (H : Heap) (locs : List Loc) (ls : Array Slot), yH D Zk A s w H locs → lv_has ls 7 [(5, .int (iI i)), (3, .long (sk)), (0, .ref (G 6 j)), (1, .int (iI st)), (2, .ref aw)] → W p l e r_c_X5_holds s m args below meth c H locs 0 0 Qf (F0 m 10 ls []) := by
    intro n10
    induction n10 with
    | zero =>
      intro sk i h0 hm10 H locs ls h hl
      exact absurd hm10 (Nat.not_lt_zero _)
    | succ n10 ih10 =>
      intro sk i h0 hm10 H locs ls h hl
      refine lv_iload B.1 B.2.1 dX5_holds_10 (lv_at hl 0 rfl) ?_
      refine lv_aload_n B.1 B.2.1 dX5_holds_12 rfl (lv_at hl 2 rfl) ?_
      refine y_getR B h kX5 (1000 + 16 * j.toNat + 6) fo1.1 3 (b := G 10 j) rfl m_341 (by decide) dX5_holds_13 ?_
      refine lv_iload_n B.1 B.2.1 dX5_holds_16 rfl (lv_at hl 3 rfl) ?_
      refine x_iconst B dX5_holds_17 ?_
      refine x_iadd B dX5_holds_18 ?_
      refine y_ialdG B h (1000 + 16 * j.toNat + 10) fo1.2.2.2.2.1 (by omega) dX5_holds_19 (fun z3 z3a z3b => ?_)
      refine x_icmp_ge B (by omega) (tgt := 116) dX5_holds_20 (by decide) (fun c4 => ?_) (fun c4 => ?_)
      · refine lv_lload_n B.1 B.2.1 dX5_holds_116 rfl (lv_at hl 1 rfl) ?_
        refine lv_lconst (v := 1) B.1 B.2.1 dX5_holds_117 (by decide) ?_
        refine lv_land B.1 B.2.1 dX5_holds_118 ?_
        refine x_rawL (fun y5 => ?_)
        refine lv_lconst (v := 1) B.1 B.2.1 dX5_holds_119 (by decide) ?_
        refine W.lcmp B.1 B.2.1 dX5_holds_120 ?_
        refine x_name (fun z6 hz6 ez6 => ?_)
        refine x_if_ne B (by omega) (tgt := 128) dX5_holds_121 (by decide) (fun c7 => ?_) (fun c7 => ?_)
        · refine x_iconst B dX5_holds_128 ?_
          refine y_rz B hQ h (by decide) (by decide) dX5_holds_129 ?_
          exact ⟨rfl, _, rfl, Or.inr ⟨rfl, (by first | omega | trivial | assumption)⟩⟩
        · refine x_iconst B dX5_holds_124 ?_
          refine lv_goto (tgt := 129) B.1 B.2.1 dX5_holds_125 (by decide) ?_
          refine y_rz B hQ h (by decide) (by decide) dX5_holds_129 ?_
          exact ⟨rfl, _, rfl, Or.inl ⟨rfl, (by first | omega | trivial | assumption)⟩⟩
      · refine lv_iload B.1 B.2.1 dX5_holds_23 (lv_at hl 0 rfl) ?_
        refine x_sipush B (by decide) dX5_holds_25 ?_
        refine x_icmp_ge B (by omega) (tgt := 116) dX5_holds_28 (by decide) (fun c8 => ?_) (fun c8 => ?_)
        · refine lv_lload_n B.1 B.2.1 dX5_holds_116 rfl (lv_at hl 1 rfl) ?_
          refine lv_lconst (v := 1) B.1 B.2.1 dX5_holds_117 (by decide) ?_
          refine lv_land B.1 B.2.1 dX5_holds_118 ?_
          refine x_rawL (fun y9 => ?_)
          refine lv_lconst (v := 1) B.1 B.2.1 dX5_holds_119 (by decide) ?_
          refine W.lcmp B.1 B.2.1 dX5_holds_120 ?_
          refine x_name (fun z10 hz10 ez10 => ?_)
          refine x_if_ne B (by omega) (tgt := 128) dX5_holds_121 (by decide) (fun c11 => ?_) (fun c11 => ?_)
          · refine x_iconst B dX5_holds_128 ?_
            refine y_rz B hQ h (by decide) (by decide) dX5_holds_129 ?_
            exact ⟨rfl, _, rfl, Or.inr ⟨rfl, (by first | omega | trivial | assumption)⟩⟩
          · refine x_iconst B dX5_holds_124 ?_
            refine lv_goto (tgt := 129) B.1 B.2.1 dX5_holds_125 (by decide) ?_
            refine y_rz B hQ h (by decide) (by decide) dX5_holds_129 ?_
            exact ⟨rfl, _, rfl, Or.inl ⟨rfl, (by first | omega | trivial | assumption)⟩⟩
        · refine lv_aload_n B.1 B.2.1 dX5_holds_31 rfl (lv_at hl 2 rfl) ?_
          refine y_getR B h kX5 (1000 + 16 * j.toNat + 6) fo1.1 4 (b := G 11 j) rfl m_342 (by decide) dX5_holds_32 ?_
          refine lv_iload B.1 B.2.1 dX5_holds_35 (lv_at hl 0 rfl) ?_
          refine y_iald B h (1000 + 16 * j.toNat + 11) fo1.2.2.2.2.2 (by omega) dX5_holds_37 (fun fz12 hfz12 => ?_)
          refine x_name (fun z12 hz12 ez12 => ?_)
          refine lv_istore (lv' := [(6, .int (iI z12)), (5, .int (iI i)), (3, .long (sk)), (0, .ref (G 6 j)), (1, .int (iI st)), (2, .ref aw)]) B.1 B.2.1 dX5_holds_38 hl (by decide) rfl (fun ls hl => ?_)
          refine lv_iload B.1 B.2.1 dX5_holds_40 (lv_at hl 0 rfl) ?_
          refine x_iconst B dX5_holds_42 ?_
          refine x_icmp_ne B (by omega) (tgt := 53) dX5_holds_43 (by decide) (fun c13 => ?_) (fun c13 => ?_)
          · refine lv_iload B.1 B.2.1 dX5_holds_53 (lv_at hl 0 rfl) ?_
            refine x_bipush B (by decide) dX5_holds_55 ?_
            refine x_icmp_ne B (by omega) (tgt := 73) dX5_holds_57 (by decide) (fun c14 => ?_) (fun c14 => ?_)
            · refine lv_iload B.1 B.2.1 dX5_holds_73 (lv_at hl 0 rfl) ?_
              refine x_bipush B (by decide) dX5_holds_75 ?_
              refine x_icmp_ne B (by omega) (tgt := 91) dX5_holds_77 (by decide) (fun c15 => ?_) (fun c15 => ?_)
              · refine lv_lload_n B.1 B.2.1 dX5_holds_91 rfl (lv_at hl 2 rfl) ?_
                refine x_iconst B dX5_holds_92 ?_
                refine lv_lshl B.1 B.2.1 dX5_holds_93 rfl ?_
                refine x_rawL (fun y16 => ?_)
                refine lv_iload B.1 B.2.1 dX5_holds_94 (lv_at hl 0 rfl) ?_
                refine lv_aload_n B.1 B.2.1 dX5_holds_96 rfl (lv_at hl 5 rfl) ?_
                refine y_cS B h k_X5_compares (c_X5_compares l D Zk ca _ z12 aw iw fw (by omega)) m_905 rfl (by decide) hl.1 [.long (y16)] (Nat.le_of_ble_eq_true rfl) rfl dX5_holds_97 (fun r w1 hq H locs h => ?_)
                obtain ⟨rfl, _, rfl, ⟨rfl, b17⟩ | ⟨rfl, b17⟩⟩ := hq
                · show W p l e r_c_X5_holds s m args below meth c _ _ 0 0 Qf (F0 m 100 ls [.int (iI 1), .long (y16)])
                  refine x_if_eq B (by omega) (tgt := 107) dX5_holds_100 (by decide) (fun c18 => ?_) (fun c18 => ?_)
                  · exact absurd c18 (by omega)
                  · refine lv_lconst (v := 1) B.1 B.2.1 dX5_holds_103 (by decide) ?_
                    refine lv_goto (tgt := 108) B.1 B.2.1 dX5_holds_104 (by decide) ?_
                    refine lv_lor B.1 B.2.1 dX5_holds_108 ?_
                    refine x_rawL (fun y19 => ?_)
                    refine lv_lstore_n (lv' := [(3, .long (y19)), (6, .int (iI z12)), (5, .int (iI i)), (0, .ref (G 6 j)), (1, .int (iI st)), (2, .ref aw)]) B.1 B.2.1 dX5_holds_109 rfl hl (by decide) rfl (fun ls hl => ?_)
                    refine lv_iinc (v := iI (i + 1)) (lv' := [(5, .int (iI (i + 1))), (3, .long (y19)), (6, .int (iI z12)), (0, .ref (G 6 j)), (1, .int (iI st)), (2, .ref aw)]) B.1 B.2.1 dX5_holds_110 hl (k := 2) rfl (iI_add _ _) (by decide) rfl (fun ls hl => ?_)
                    refine lv_goto (tgt := 10) B.1 B.2.1 dX5_holds_113 (by decide) ?_
                    exact ih10 y19 ((i + 1)) (by omega) (by omega) _ _ _ h (lv_sub hl [0, 1, 3, 4, 5] rfl)
                · show W p l e r_c_X5_holds s m args below meth c _ _ 0 0 Qf (F0 m 100 ls [.int (iI 0), .long (y16)])
                  refine x_if_eq B (by omega) (tgt := 107) dX5_holds_100 (by decide) (fun c20 => ?_) (fun c20 => ?_)
                  · refine lv_lconst (v := 0) B.1 B.2.1 dX5_holds_107 (by decide) ?_
                    refine lv_lor B.1 B.2.1 dX5_holds_108 ?_
                    refine x_rawL (fun y21 => ?_)
                    refine lv_lstore_n (lv' := [(3, .long (y21)), (6, .int (iI z12)), (5, .int (iI i)), (0, .ref (G 6 j)), (1, .int (iI st)), (2, .ref aw)]) B.1 B.2.1 dX5_holds_109 rfl hl (by decide) rfl (fun ls hl => ?_)
                    refine lv_iinc (v := iI (i + 1)) (lv' := [(5, .int (iI (i + 1))), (3, .long (y21)), (6, .int (iI z12)), (0, .ref (G 6 j)), (1, .int (iI st)), (2, .ref aw)]) B.1 B.2.1 dX5_holds_110 hl (k := 2) rfl (iI_add _ _) (by decide) rfl (fun ls hl => ?_)
                    refine lv_goto (tgt := 10) B.1 B.2.1 dX5_holds_113 (by decide) ?_
                    exact ih10 y21 ((i + 1)) (by omega) (by omega) _ _ _ h (lv_sub hl [0, 1, 3, 4, 5] rfl)
                  · exact absurd c20 (by omega)
              · refine lv_lload_n B.1 B.2.1 dX5_holds_80 rfl (lv_at hl 2 rfl) ?_
                refine x_iconst B dX5_holds_81 ?_
                refine lv_lushr B.1 B.2.1 dX5_holds_82 rfl ?_
                refine x_rawL (fun y22 => ?_)
                refine lv_lload_n B.1 B.2.1 dX5_holds_83 rfl (lv_at hl 2 rfl) ?_
                refine lv_lconst (v := 1) B.1 B.2.1 dX5_holds_84 (by decide) ?_
                refine lv_land B.1 B.2.1 dX5_holds_85 ?_
                refine x_rawL (fun y23 => ?_)
                refine lv_lor B.1 B.2.1 dX5_holds_86 ?_
                refine x_rawL (fun y24 => ?_)
                refine lv_lstore_n (lv' := [(3, .long (y24)), (6, .int (iI z12)), (5, .int (iI i)), (0, .ref (G 6 j)), (1, .int (iI st)), (2, .ref aw)]) B.1 B.2.1 dX5_holds_87 rfl hl (by decide) rfl (fun ls hl => ?_)
                refine lv_goto (tgt := 110) B.1 B.2.1 dX5_holds_88 (by decide) ?_
                refine lv_iinc (v := iI (i + 1)) (lv' := [(5, .int (iI (i + 1))), (3, .long (y24)), (6, .int (iI z12)), (0, .ref (G 6 j)), (1, .int (iI st)), (2, .ref aw)]) B.1 B.2.1 dX5_holds_110 hl (k := 2) rfl (iI_add _ _) (by decide) rfl (fun ls hl => ?_)
                refine lv_goto (tgt := 10) B.1 B.2.1 dX5_holds_113 (by decide) ?_
                exact ih10 y24 ((i + 1)) (by omega) (by omega) _ _ _ h (lv_sub hl [0, 1, 3, 4, 5] rfl)
            · refine lv_lload_n B.1 B.2.1 dX5_holds_60 rfl (lv_at hl 2 rfl) ?_
              refine x_iconst B dX5_holds_61 ?_
              refine lv_lushr B.1 B.2.1 dX5_holds_62 rfl ?_
              refine x_rawL (fun y25 => ?_)
              refine lv_lload_n B.1 B.2.1 dX5_holds_63 rfl (lv_at hl 2 rfl) ?_
              refine x_ldc2 B m_904 dX5_holds_64 ?_
              refine lv_lor B.1 B.2.1 dX5_holds_67 ?_
              refine x_rawL (fun y26 => ?_)
              refine lv_land B.1 B.2.1 dX5_holds_68 ?_
              refine x_rawL (fun y27 => ?_)
              refine lv_lstore_n (lv' := [(3, .long (y27)), (6, .int (iI z12)), (5, .int (iI i)), (0, .ref (G 6 j)), (1, .int (iI st)), (2, .ref aw)]) B.1 B.2.1 dX5_holds_69 rfl hl (by decide) rfl (fun ls hl => ?_)
              refine lv_goto (tgt := 110) B.1 B.2.1 dX5_holds_70 (by decide) ?_
              refine lv_iinc (v := iI (i + 1)) (lv' := [(5, .int (iI (i + 1))), (3, .long (y27)), (6, .int (iI z12)), (0, .ref (G 6 j)), (1, .int (iI st)), (2, .ref aw)]) B.1 B.2.1 dX5_holds_110 hl (k := 2) rfl (iI_add _ _) (by decide) rfl (fun ls hl => ?_)
              refine lv_goto (tgt := 10) B.1 B.2.1 dX5_holds_113 (by decide) ?_
              exact ih10 y27 ((i + 1)) (by omega) (by omega) _ _ _ h (lv_sub hl [0, 1, 3, 4, 5] rfl)
          · refine lv_lload_n B.1 B.2.1 dX5_holds_46 rfl (lv_at hl 2 rfl) ?_
            refine lv_lconst (v := 1) B.1 B.2.1 dX5_holds_47 (by decide) ?_
            refine lv_lxor B.1 B.2.1 dX5_holds_48 ?_
            refine x_rawL (fun y28 => ?_)
            refine lv_lstore_n (lv' := [(3, .long (y28)), (6, .int (iI z12)), (5, .int (iI i)), (0, .ref (G 6 j)), (1, .int (iI st)), (2, .ref aw)]) B.1 B.2.1 dX5_holds_49 rfl hl (by decide) rfl (fun ls hl => ?_)
            refine lv_goto (tgt := 110) B.1 B.2.1 dX5_holds_50 (by decide) ?_
            refine lv_iinc (v := iI (i + 1)) (lv' := [(5, .int (iI (i + 1))), (3, .long (y28)), (6, .int (iI z12)), (0, .ref (G 6 j)), (1, .int (iI st)), (2, .ref aw)]) B.1 B.2.1 dX5_holds_110 hl (k := 2) rfl (iI_add _ _) (by decide) rfl (fun ls hl => ?_)
            refine lv_goto (tgt := 10) B.1 B.2.1 dX5_holds_113 (by decide) ?_
            exact ih10 y28 ((i + 1)) (by omega) (by omega) _ _ _ h (lv_sub hl [0, 1, 3, 4, 5] rfl)
  exact loop10 (((450 - z2 : Int)).toNat + 1) ((1 : Int64)) z2 (by omega) (Nat.lt_succ_self _) _ _ _ h (lv_sub hl [0, 1, 2, 3, 4] rfl)
abbrev r_c_X5_clear : Room := { frames := 0, cells := 0, slots := 0, locals := 0 }
set_option maxHeartbeats 4000000 in
set_option maxRecDepth 100000 in
theorem c_X5_clear (l : Launch) (D : va_G) (Zk : yK) (ca : Nat → ClassId) (T : Nat → Int → Int) (G : Nat → Int → Nat) (u : Int) (ad : Nat → Nat) (w : yW) (hC : CW ca T G u ad w) (j : Int)  (hj : 0 ≤ j ∧ j < u) : yC l D Zk ca yX5_clear cX5_clear 1 none r_c_X5_clear [.ref (G 6 j)] w (vV w) := by
  refine yC.of2 "WindWords$Rules" (by decide) rfl (Nat.le_of_ble_eq_true rfl) ?_
  intro p e s m args below meth c A ls Qf B hnm h hl hQ
  have hl : lv_has ls 1 [(0, .ref (G 6 j))] := hl
  have hs := pi_s (CW.pi hC)
  have fo1 := CW.ru hC j (by omega)
  refine lv_aload_n B.1 B.2.1 dX5_clear_0 rfl (lv_at hl 0 rfl) ?_
  refine x_iconst B dX5_clear_1 ?_
  refine y_putS B h kX5 (1000 + 16 * j.toNat + 6) fo1.1 5 (P := fG 0 40) rfl m_343 (by decide) ⟨_, rfl, by omega, by omega⟩ rfl rfl rfl dX5_clear_2 (fun H locs h => ?_)
  refine lv_aload_n B.1 B.2.1 dX5_clear_5 rfl (lv_at hl 0 rfl) ?_
  refine x_iconst B dX5_clear_6 ?_
  refine y_putS B h kX5 (1000 + 16 * j.toNat + 6) fo1.1 6 (P := fG 0 450) rfl m_345 (by decide) ⟨_, rfl, by omega, by omega⟩ rfl rfl rfl dX5_clear_7 (fun H locs h => ?_)
  refine y_rv B hQ h (by decide) dX5_clear_10 ?_
  exact ⟨rfl, rfl⟩
abbrev r_c_X5_add : Room := { frames := 0, cells := 0, slots := 0, locals := 0 }
set_option maxHeartbeats 4000000 in
set_option maxRecDepth 100000 in
theorem c_X5_add (l : Launch) (D : va_G) (Zk : yK) (ca : Nat → ClassId) (T : Nat → Int → Int) (G : Nat → Int → Nat) (u : Int) (ad : Nat → Nat) (w : yW) (hC : CW ca T G u ad w) (j : Int) (a : Int) (b : Int) (ci : Int)  (hj : 0 ≤ j ∧ j < u) (ha : xr a) (hb : 0 ≤ b ∧ b ≤ 12) (hci : 0 ≤ ci ∧ ci ≤ 99) : yC l D Zk ca yX5_add cX5_add 4 none r_c_X5_add [.ref (G 6 j), .int (iI a), .int (iI b), .int (iI ci)] w (vV w) := by
  refine yC.of2 "WindWords$Rules" (by decide) rfl (Nat.le_of_ble_eq_true rfl) ?_
  intro p e s m args below meth c A ls Qf B hnm h hl hQ
  have hl : lv_has ls 4 [(0, .ref (G 6 j)), (1, .int (iI a)), (2, .int (iI b)), (3, .int (iI ci))] := hl
  have hs := pi_s (CW.pi hC)
  have fo1 := CW.ru hC j (by omega)
  refine lv_aload_n B.1 B.2.1 dX5_add_0 rfl (lv_at hl 0 rfl) ?_
  obtain ⟨z2, z2a, z2b, h⟩ := yH.pin h fo1.1 5 (lo := 0) (hi := 40) rfl
  have h : yH D Zk A s ((wu w (1000 + 16 * j.toNat + 6) (G 6 j, xO 5 [fR (G 7 j), fR (G 8 j), fR (G 9 j), fR (G 10 j), fR (G 11 j), fX z2, fG 0 450]))) _ _ := h
  refine y_getX B h kX5 (1000 + 16 * j.toNat + 6) wu_eq 5 (z := z2) rfl m_343 (by decide) dX5_add_1 ?_
  refine x_bipush B (by decide) dX5_add_4 ?_
  refine x_icmp_ge B (by omega) (tgt := 62) dX5_add_6 (by decide) (fun c3 => ?_) (fun c3 => ?_)
  · have h : yH D Zk A s w _ _ := yH.unpin h fo1.1 (xO_le (fLe_cons (fun _ x => x) (fLe_cons (fun _ x => x) (fLe_cons (fun _ x => x) (fLe_cons (fun _ x => x) (fLe_cons (fun _ x => x) (fLe_cons (fX_G (by omega)) (fLe_cons (fun _ x => x) fLe_nil))))))))
    refine y_rv B hQ h (by decide) dX5_add_62 ?_
    exact ⟨rfl, rfl⟩
  · refine lv_aload_n B.1 B.2.1 dX5_add_9 rfl (lv_at hl 0 rfl) ?_
    refine y_getR B h kX5 (1000 + 16 * j.toNat + 6) wu_eq 0 (b := G 7 j) rfl m_338 (by decide) dX5_add_10 ?_
    refine lv_aload_n B.1 B.2.1 dX5_add_13 rfl (lv_at hl 0 rfl) ?_
    refine y_getX B h kX5 (1000 + 16 * j.toNat + 6) wu_eq 5 (z := z2) rfl m_343 (by decide) dX5_add_14 ?_
    refine lv_iload_n B.1 B.2.1 dX5_add_17 rfl (lv_at hl 1 rfl) ?_
    refine y_iastS B h (1000 + 16 * j.toNat + 7) (wu_at fo1.2.1 (by omega)) (by omega) (fun _ _ => trivial) dX5_add_18 (fun H locs h => ?_)
    refine lv_aload_n B.1 B.2.1 dX5_add_19 rfl (lv_at hl 0 rfl) ?_
    refine y_getR B h kX5 (1000 + 16 * j.toNat + 6) wu_eq 1 (b := G 8 j) rfl m_339 (by decide) dX5_add_20 ?_
    refine lv_aload_n B.1 B.2.1 dX5_add_23 rfl (lv_at hl 0 rfl) ?_
    refine y_getX B h kX5 (1000 + 16 * j.toNat + 6) wu_eq 5 (z := z2) rfl m_343 (by decide) dX5_add_24 ?_
    refine lv_iload_n B.1 B.2.1 dX5_add_27 rfl (lv_at hl 2 rfl) ?_
    refine y_iastS B h (1000 + 16 * j.toNat + 8) (wu_at fo1.2.2.1 (by omega)) (by omega) (gG_upd (by omega)) dX5_add_28 (fun H locs h => ?_)
    refine lv_aload_n B.1 B.2.1 dX5_add_29 rfl (lv_at hl 0 rfl) ?_
    refine y_getR B h kX5 (1000 + 16 * j.toNat + 6) wu_eq 2 (b := G 9 j) rfl m_340 (by decide) dX5_add_30 ?_
    refine lv_aload_n B.1 B.2.1 dX5_add_33 rfl (lv_at hl 0 rfl) ?_
    refine y_getX B h kX5 (1000 + 16 * j.toNat + 6) wu_eq 5 (z := z2) rfl m_343 (by decide) dX5_add_34 ?_
    refine lv_iload_n B.1 B.2.1 dX5_add_37 rfl (lv_at hl 3 rfl) ?_
    refine y_iastS B h (1000 + 16 * j.toNat + 9) (wu_at fo1.2.2.2.1 (by omega)) (by omega) (gG_upd (by omega)) dX5_add_38 (fun H locs h => ?_)
    refine lv_aload_n B.1 B.2.1 dX5_add_39 rfl (lv_at hl 0 rfl) ?_
    refine lv_dup B.1 B.2.1 dX5_add_40 rfl ?_
    refine y_getX B h kX5 (1000 + 16 * j.toNat + 6) wu_eq 5 (z := z2) rfl m_343 (by decide) dX5_add_41 ?_
    refine x_iconst B dX5_add_44 ?_
    refine x_iadd B dX5_add_45 ?_
    refine y_put B h kX5 (1000 + 16 * j.toNat + 6) wu_eq 5 (Nat.le_of_ble_eq_true rfl) (P' := fX (z2 + 1)) m_343 (by decide) rfl rfl rfl rfl dX5_add_46 (fun H locs h => ?_)
    rw [wu_wu] at h
    have h : yH D Zk A s ((wu w (1000 + 16 * j.toNat + 6) (G 6 j, xO 5 [fR (G 7 j), fR (G 8 j), fR (G 9 j), fR (G 10 j), fR (G 11 j), fX (z2 + 1), fG 0 450]))) _ _ := h
    refine lv_aload_n B.1 B.2.1 dX5_add_49 rfl (lv_at hl 0 rfl) ?_
    refine y_getR B h kX5 (1000 + 16 * j.toNat + 6) wu_eq 3 (b := G 10 j) rfl m_341 (by decide) dX5_add_50 ?_
    refine lv_aload_n B.1 B.2.1 dX5_add_53 rfl (lv_at hl 0 rfl) ?_
    refine y_getX B h kX5 (1000 + 16 * j.toNat + 6) wu_eq 5 (z := (z2 + 1)) rfl m_343 (by decide) dX5_add_54 ?_
    refine lv_aload_n B.1 B.2.1 dX5_add_57 rfl (lv_at hl 0 rfl) ?_
    obtain ⟨z4, z4a, z4b, h⟩ := yH.pin h wu_eq 6 (lo := 0) (hi := 450) rfl
    rw [wu_wu] at h
    have h : yH D Zk A s ((wu w (1000 + 16 * j.toNat + 6) (G 6 j, xO 5 [fR (G 7 j), fR (G 8 j), fR (G 9 j), fR (G 10 j), fR (G 11 j), fX (z2 + 1), fX z4]))) _ _ := h
    refine y_getX B h kX5 (1000 + 16 * j.toNat + 6) wu_eq 6 (z := z4) rfl m_345 (by decide) dX5_add_58 ?_
    refine y_iastS B h (1000 + 16 * j.toNat + 10) (wu_at fo1.2.2.2.2.1 (by omega)) (by omega) (gG_upd (by omega)) dX5_add_61 (fun H locs h => ?_)
    have h : yH D Zk A s w _ _ := yH.unpin h fo1.1 (xO_le (fLe_cons (fun _ x => x) (fLe_cons (fun _ x => x) (fLe_cons (fun _ x => x) (fLe_cons (fun _ x => x) (fLe_cons (fun _ x => x) (fLe_cons (fX_G (by omega)) (fLe_cons (fX_G (by omega)) fLe_nil))))))))
    refine y_rv B hQ h (by decide) dX5_add_62 ?_
    exact ⟨rfl, rfl⟩
abbrev r_c_X5_addStep : Room := { frames := 0, cells := 0, slots := 0, locals := 0 }
set_option maxHeartbeats 4000000 in
set_option maxRecDepth 100000 in
theorem c_X5_addStep (l : Launch) (D : va_G) (Zk : yK) (ca : Nat → ClassId) (T : Nat → Int → Int) (G : Nat → Int → Nat) (u : Int) (ad : Nat → Nat) (w : yW) (hC : CW ca T G u ad w) (j : Int) (a : Int)  (hj : 0 ≤ j ∧ j < u) (ha : xr a) : yC l D Zk ca yX5_addStep cX5_addStep 2 none r_c_X5_addStep [.ref (G 6 j), .int (iI a)] w (vV w) := by
  refine yC.of2 "WindWords$Rules" (by decide) rfl (Nat.le_of_ble_eq_true rfl) ?_
  intro p e s m args below meth c A ls Qf B hnm h hl hQ
  have hl : lv_has ls 2 [(0, .ref (G 6 j)), (1, .int (iI a))] := hl
  have hs := pi_s (CW.pi hC)
  have fo1 := CW.ru hC j (by omega)
  refine lv_aload_n B.1 B.2.1 dX5_addStep_0 rfl (lv_at hl 0 rfl) ?_
  obtain ⟨z2, z2a, z2b, h⟩ := yH.pin h fo1.1 6 (lo := 0) (hi := 450) rfl
  have h : yH D Zk A s ((wu w (1000 + 16 * j.toNat + 6) (G 6 j, xO 5 [fR (G 7 j), fR (G 8 j), fR (G 9 j), fR (G 10 j), fR (G 11 j), fG 0 40, fX z2]))) _ _ := h
  refine y_getX B h kX5 (1000 + 16 * j.toNat + 6) wu_eq 6 (z := z2) rfl m_345 (by decide) dX5_addStep_1 ?_
  refine x_sipush B (by decide) dX5_addStep_4 ?_
  refine x_icmp_ge B (by omega) (tgt := 30) dX5_addStep_7 (by decide) (fun c3 => ?_) (fun c3 => ?_)
  · have h : yH D Zk A s w _ _ := yH.unpin h fo1.1 (xO_le (fLe_cons (fun _ x => x) (fLe_cons (fun _ x => x) (fLe_cons (fun _ x => x) (fLe_cons (fun _ x => x) (fLe_cons (fun _ x => x) (fLe_cons (fun _ x => x) (fLe_cons (fX_G (by omega)) fLe_nil))))))))
    refine y_rv B hQ h (by decide) dX5_addStep_30 ?_
    exact ⟨rfl, rfl⟩
  · refine lv_aload_n B.1 B.2.1 dX5_addStep_10 rfl (lv_at hl 0 rfl) ?_
    refine y_getR B h kX5 (1000 + 16 * j.toNat + 6) wu_eq 4 (b := G 11 j) rfl m_342 (by decide) dX5_addStep_11 ?_
    refine lv_aload_n B.1 B.2.1 dX5_addStep_14 rfl (lv_at hl 0 rfl) ?_
    refine y_getX B h kX5 (1000 + 16 * j.toNat + 6) wu_eq 6 (z := z2) rfl m_345 (by decide) dX5_addStep_15 ?_
    refine lv_iload_n B.1 B.2.1 dX5_addStep_18 rfl (lv_at hl 1 rfl) ?_
    refine y_iastS B h (1000 + 16 * j.toNat + 11) (wu_at fo1.2.2.2.2.2 (by omega)) (by omega) (fun _ _ => trivial) dX5_addStep_19 (fun H locs h => ?_)
    refine lv_aload_n B.1 B.2.1 dX5_addStep_20 rfl (lv_at hl 0 rfl) ?_
    refine lv_dup B.1 B.2.1 dX5_addStep_21 rfl ?_
    refine y_getX B h kX5 (1000 + 16 * j.toNat + 6) wu_eq 6 (z := z2) rfl m_345 (by decide) dX5_addStep_22 ?_
    refine x_iconst B dX5_addStep_25 ?_
    refine x_iadd B dX5_addStep_26 ?_
    refine y_put B h kX5 (1000 + 16 * j.toNat + 6) wu_eq 6 (Nat.le_of_ble_eq_true rfl) (P' := fX (z2 + 1)) m_345 (by decide) rfl rfl rfl rfl dX5_addStep_27 (fun H locs h => ?_)
    rw [wu_wu] at h
    have h : yH D Zk A s ((wu w (1000 + 16 * j.toNat + 6) (G 6 j, xO 5 [fR (G 7 j), fR (G 8 j), fR (G 9 j), fR (G 10 j), fR (G 11 j), fG 0 40, fX (z2 + 1)]))) _ _ := h
    have h : yH D Zk A s w _ _ := yH.unpin h fo1.1 (xO_le (fLe_cons (fun _ x => x) (fLe_cons (fun _ x => x) (fLe_cons (fun _ x => x) (fLe_cons (fun _ x => x) (fLe_cons (fun _ x => x) (fLe_cons (fun _ x => x) (fLe_cons (fX_G (by omega)) fLe_nil))))))))
    refine y_rv B hQ h (by decide) dX5_addStep_30 ?_
    exact ⟨rfl, rfl⟩
abbrev r_c_X5_comparison : Room := { frames := 0, cells := 0, slots := 0, locals := 0 }
set_option maxHeartbeats 4000000 in
set_option maxRecDepth 100000 in
theorem c_X5_comparison (l : Launch) (D : va_G) (Zk : yK) (ca : Nat → ClassId) (w : yW) (a : Int) (b : Int) (ci : Int)  (ha : -1000 ≤ a ∧ a ≤ 1000) (hb : xr b) (hci : 0 ≤ ci ∧ ci ≤ 10000) : yC l D Zk ca yX5_comparison cX5_comparison 3 (some .int) r_c_X5_comparison [.int (iI a), .int (iI b), .int (iI ci)] w (vI w (fun z => xr z)) := by
  refine yC.of2 "WindWords$Rules" (by decide) rfl (Nat.le_of_ble_eq_true rfl) ?_
  intro p e s m args below meth c A ls Qf B hnm h hl hQ
  have hl : lv_has ls 3 [(0, .int (iI a)), (1, .int (iI b)), (2, .int (iI ci))] := hl
  refine lv_iload_n B.1 B.2.1 dX5_comparison_0 rfl (lv_at hl 1 rfl) ?_
  refine x_bipush B (by decide) dX5_comparison_1 ?_
  refine x_icmp_ne B (by omega) (tgt := 10) dX5_comparison_3 (by decide) (fun c1 => ?_) (fun c1 => ?_)
  · refine lv_iload_n B.1 B.2.1 dX5_comparison_10 rfl (lv_at hl 1 rfl) ?_
    refine x_bipush B (by decide) dX5_comparison_11 ?_
    refine x_icmp_ne B (by omega) (tgt := 20) dX5_comparison_13 (by decide) (fun c2 => ?_) (fun c2 => ?_)
    · refine x_iconst B dX5_comparison_20 ?_
      refine x_iconst B dX5_comparison_21 ?_
      refine x_imul B dX5_comparison_22 ?_
      refine lv_iload_n B.1 B.2.1 dX5_comparison_23 rfl (lv_at hl 0 rfl) ?_
      refine x_iadd B dX5_comparison_24 ?_
      refine x_sipush B (by decide) dX5_comparison_25 ?_
      refine x_imul B dX5_comparison_28 ?_
      refine lv_iload_n B.1 B.2.1 dX5_comparison_29 rfl (lv_at hl 2 rfl) ?_
      refine x_iadd B dX5_comparison_30 ?_
      refine y_ri B hQ h (by decide) dX5_comparison_31 ?_
      exact ⟨rfl, _, rfl, (by first | omega | trivial | assumption)⟩
    · refine x_iconst B dX5_comparison_16 ?_
      refine lv_goto (tgt := 21) B.1 B.2.1 dX5_comparison_17 (by decide) ?_
      refine x_iconst B dX5_comparison_21 ?_
      refine x_imul B dX5_comparison_22 ?_
      refine lv_iload_n B.1 B.2.1 dX5_comparison_23 rfl (lv_at hl 0 rfl) ?_
      refine x_iadd B dX5_comparison_24 ?_
      refine x_sipush B (by decide) dX5_comparison_25 ?_
      refine x_imul B dX5_comparison_28 ?_
      refine lv_iload_n B.1 B.2.1 dX5_comparison_29 rfl (lv_at hl 2 rfl) ?_
      refine x_iadd B dX5_comparison_30 ?_
      refine y_ri B hQ h (by decide) dX5_comparison_31 ?_
      exact ⟨rfl, _, rfl, (by first | omega | trivial | assumption)⟩
  · refine x_iconst B dX5_comparison_6 ?_
    refine lv_goto (tgt := 21) B.1 B.2.1 dX5_comparison_7 (by decide) ?_
    refine x_iconst B dX5_comparison_21 ?_
    refine x_imul B dX5_comparison_22 ?_
    refine lv_iload_n B.1 B.2.1 dX5_comparison_23 rfl (lv_at hl 0 rfl) ?_
    refine x_iadd B dX5_comparison_24 ?_
    refine x_sipush B (by decide) dX5_comparison_25 ?_
    refine x_imul B dX5_comparison_28 ?_
    refine lv_iload_n B.1 B.2.1 dX5_comparison_29 rfl (lv_at hl 2 rfl) ?_
    refine x_iadd B dX5_comparison_30 ?_
    refine y_ri B hQ h (by decide) dX5_comparison_31 ?_
    exact ⟨rfl, _, rfl, (by first | omega | trivial | assumption)⟩
abbrev r_c_X5_greatest : Room := { frames := 2, cells := 0, slots := 0, locals := 50 }
set_option maxHeartbeats 4000000 in
set_option maxRecDepth 100000 in
theorem c_X5_greatest (l : Launch) (D : va_G) (Zk : yK) (ca : Nat → ClassId) (T : Nat → Int → Int) (G : Nat → Int → Nat) (u : Int) (ad : Nat → Nat) (w : yW) (hC : CW ca T G u ad w) (j : Int) (kind : Int) (wind : Int) (aw : Nat) (iw : Nat) (fw : w iw = some (aw, xAI (ca 0) 5 gA)) (hj : 0 ≤ j ∧ j < u) (hkind : xr kind) (hwind : xr wind) : yC l D Zk ca yX5_greatest cX5_greatest 6 (some .int) r_c_X5_greatest [.ref (G 6 j), .int (iI kind), .int (iI wind), .ref aw] w (vI w (fun z => 0 ≤ z ∧ z ≤ 12)) := by
  refine yC.of2 "WindWords$Rules" (by decide) rfl (Nat.le_of_ble_eq_true rfl) ?_
  intro p e s m args below meth c A ls Qf B hnm h hl hQ
  have hl : lv_has ls 6 [(0, .ref (G 6 j)), (1, .int (iI kind)), (2, .int (iI wind)), (3, .ref aw)] := hl
  have hs := pi_s (CW.pi hC)
  have fo1 := CW.ru hC j (by omega)
  refine x_iconst B dX5_greatest_0 ?_
  refine lv_istore (lv' := [(4, .int (iI 0)), (0, .ref (G 6 j)), (1, .int (iI kind)), (2, .int (iI wind)), (3, .ref aw)]) B.1 B.2.1 dX5_greatest_1 hl (by decide) rfl (fun ls hl => ?_)
  refine x_iconst B dX5_greatest_3 ?_
  refine lv_istore (lv' := [(5, .int (iI 0)), (4, .int (iI 0)), (0, .ref (G 6 j)), (1, .int (iI kind)), (2, .int (iI wind)), (3, .ref aw)]) B.1 B.2.1 dX5_greatest_4 hl (by decide) rfl (fun ls hl => ?_)
  have loop6 : ∀ (n6 : Nat) (b : Int) (i : Int), (0 ≤ b ∧ b ≤ 12) → (0 ≤ i ∧ i ≤ 40) → ((40 - i : Int)).toNat < n6 → ∀ (H : Heap) (locs : List Loc) (ls : Array Slot), yH D Zk A s w H locs → lv_has ls 6 [(5, .int (iI i)), (4, .int (iI b)), (0, .ref (G 6 j)), (1, .int (iI kind)), (2, .int (iI wind)), (3, .ref aw)] → W p l e r_c_X5_greatest s m args below meth c H locs 0 0 Qf (F0 m 6 ls []) := by
    intro n6
    induction n6 with
    | zero =>
      intro b i h0 h1 hm6 H locs ls h hl
      exact absurd hm6 (Nat.not_lt_zero _)
    | succ n6 ih6 =>
      intro b i h0 h1 hm6 H locs ls h hl
      refine lv_iload B.1 B.2.1 dX5_greatest_6 (lv_at hl 0 rfl) ?_
      refine lv_aload_n B.1 B.2.1 dX5_greatest_8 rfl (lv_at hl 2 rfl) ?_
      refine y_getG B h kX5 (1000 + 16 * j.toNat + 6) fo1.1 5 (lo := 0) (hi := 40) rfl m_343 (by decide) dX5_greatest_9 (fun z2 z2a z2b => ?_)
      refine x_icmp_ge B (by omega) (tgt := 74) dX5_greatest_12 (by decide) (fun c3 => ?_) (fun c3 => ?_)
      · refine lv_iload B.1 B.2.1 dX5_greatest_74 (lv_at hl 1 rfl) ?_
        refine y_ri B hQ h (by decide) dX5_greatest_76 ?_
        exact ⟨rfl, _, rfl, (by first | omega | trivial | assumption)⟩
      · refine lv_aload_n B.1 B.2.1 dX5_greatest_15 rfl (lv_at hl 2 rfl) ?_
        refine y_getR B h kX5 (1000 + 16 * j.toNat + 6) fo1.1 0 (b := G 7 j) rfl m_338 (by decide) dX5_greatest_16 ?_
        refine lv_iload B.1 B.2.1 dX5_greatest_19 (lv_at hl 0 rfl) ?_
        refine y_iald B h (1000 + 16 * j.toNat + 7) fo1.2.1 (by omega) dX5_greatest_21 (fun fz4 hfz4 => ?_)
        refine x_name (fun z4 hz4 ez4 => ?_)
        refine lv_iload_n B.1 B.2.1 dX5_greatest_22 rfl (lv_at hl 3 rfl) ?_
        refine x_icmp_ne B (by omega) (tgt := 68) dX5_greatest_23 (by decide) (fun c5 => ?_) (fun c5 => ?_)
        · refine lv_iinc (v := iI (i + 1)) (lv' := [(5, .int (iI (i + 1))), (4, .int (iI b)), (0, .ref (G 6 j)), (1, .int (iI kind)), (2, .int (iI wind)), (3, .ref aw)]) B.1 B.2.1 dX5_greatest_68 hl (k := 0) rfl (iI_add _ _) (by decide) rfl (fun ls hl => ?_)
          refine lv_goto (tgt := 6) B.1 B.2.1 dX5_greatest_71 (by decide) ?_
          exact ih6 b ((i + 1)) (by omega) (by omega) (by omega) _ _ _ h (lv_sub hl [0, 1, 2, 3, 4, 5] rfl)
        · refine lv_aload_n B.1 B.2.1 dX5_greatest_26 rfl (lv_at hl 2 rfl) ?_
          refine y_getR B h kX5 (1000 + 16 * j.toNat + 6) fo1.1 2 (b := G 9 j) rfl m_340 (by decide) dX5_greatest_27 ?_
          refine lv_iload B.1 B.2.1 dX5_greatest_30 (lv_at hl 0 rfl) ?_
          refine y_ialdG B h (1000 + 16 * j.toNat + 9) fo1.2.2.2.1 (by omega) dX5_greatest_32 (fun z6 z6a z6b => ?_)
          refine lv_iload_n B.1 B.2.1 dX5_greatest_33 rfl (lv_at hl 4 rfl) ?_
          refine x_icmp_gt B (by omega) (tgt := 68) dX5_greatest_34 (by decide) (fun c7 => ?_) (fun c7 => ?_)
          · refine lv_iinc (v := iI (i + 1)) (lv' := [(5, .int (iI (i + 1))), (4, .int (iI b)), (0, .ref (G 6 j)), (1, .int (iI kind)), (2, .int (iI wind)), (3, .ref aw)]) B.1 B.2.1 dX5_greatest_68 hl (k := 0) rfl (iI_add _ _) (by decide) rfl (fun ls hl => ?_)
            refine lv_goto (tgt := 6) B.1 B.2.1 dX5_greatest_71 (by decide) ?_
            exact ih6 b ((i + 1)) (by omega) (by omega) (by omega) _ _ _ h (lv_sub hl [0, 1, 2, 3, 4, 5] rfl)
          · refine lv_aload_n B.1 B.2.1 dX5_greatest_37 rfl (lv_at hl 2 rfl) ?_
            refine y_getR B h kX5 (1000 + 16 * j.toNat + 6) fo1.1 1 (b := G 8 j) rfl m_339 (by decide) dX5_greatest_38 ?_
            refine lv_iload B.1 B.2.1 dX5_greatest_41 (lv_at hl 0 rfl) ?_
            refine y_ialdG B h (1000 + 16 * j.toNat + 8) fo1.2.2.1 (by omega) dX5_greatest_43 (fun z8 z8a z8b => ?_)
            refine lv_iload B.1 B.2.1 dX5_greatest_44 (lv_at hl 1 rfl) ?_
            refine x_icmp_le B (by omega) (tgt := 68) dX5_greatest_46 (by decide) (fun c9 => ?_) (fun c9 => ?_)
            · refine lv_iinc (v := iI (i + 1)) (lv' := [(5, .int (iI (i + 1))), (4, .int (iI b)), (0, .ref (G 6 j)), (1, .int (iI kind)), (2, .int (iI wind)), (3, .ref aw)]) B.1 B.2.1 dX5_greatest_68 hl (k := 0) rfl (iI_add _ _) (by decide) rfl (fun ls hl => ?_)
              refine lv_goto (tgt := 6) B.1 B.2.1 dX5_greatest_71 (by decide) ?_
              exact ih6 b ((i + 1)) (by omega) (by omega) (by omega) _ _ _ h (lv_sub hl [0, 1, 2, 3, 4, 5] rfl)
            · refine lv_aload_n B.1 B.2.1 dX5_greatest_49 rfl (lv_at hl 2 rfl) ?_
              refine lv_iload B.1 B.2.1 dX5_greatest_50 (lv_at hl 0 rfl) ?_
              refine lv_aload_n B.1 B.2.1 dX5_greatest_52 rfl (lv_at hl 5 rfl) ?_
              refine y_cV B h kX5 (1000 + 16 * j.toNat + 6) fo1.1 k_X5_holds rfl (c_X5_holds l D Zk ca T G u ad _ hC j i aw iw fw (by omega) (by omega)) m_900 rfl (by decide) hl.1 [] (Nat.le_of_ble_eq_true rfl) rfl dX5_greatest_53 (fun r w1 hq H locs h => ?_)
              obtain ⟨rfl, _, rfl, ⟨rfl, b10⟩ | ⟨rfl, b10⟩⟩ := hq
              · show W p l e r_c_X5_greatest s m args below meth c _ _ 0 0 Qf (F0 m 56 ls [.int (iI 1)])
                refine x_if_eq B (by omega) (tgt := 68) dX5_greatest_56 (by decide) (fun c11 => ?_) (fun c11 => ?_)
                · exact absurd c11 (by omega)
                · refine lv_aload_n B.1 B.2.1 dX5_greatest_59 rfl (lv_at hl 2 rfl) ?_
                  refine y_getR B h kX5 (1000 + 16 * j.toNat + 6) fo1.1 1 (b := G 8 j) rfl m_339 (by decide) dX5_greatest_60 ?_
                  refine lv_iload B.1 B.2.1 dX5_greatest_63 (lv_at hl 0 rfl) ?_
                  refine y_ialdG B h (1000 + 16 * j.toNat + 8) fo1.2.2.1 (by omega) dX5_greatest_65 (fun z12 z12a z12b => ?_)
                  refine lv_istore (lv' := [(4, .int (iI z12)), (5, .int (iI i)), (0, .ref (G 6 j)), (1, .int (iI kind)), (2, .int (iI wind)), (3, .ref aw)]) B.1 B.2.1 dX5_greatest_66 hl (by decide) rfl (fun ls hl => ?_)
                  refine lv_iinc (v := iI (i + 1)) (lv' := [(5, .int (iI (i + 1))), (4, .int (iI z12)), (0, .ref (G 6 j)), (1, .int (iI kind)), (2, .int (iI wind)), (3, .ref aw)]) B.1 B.2.1 dX5_greatest_68 hl (k := 1) rfl (iI_add _ _) (by decide) rfl (fun ls hl => ?_)
                  refine lv_goto (tgt := 6) B.1 B.2.1 dX5_greatest_71 (by decide) ?_
                  exact ih6 z12 ((i + 1)) (by omega) (by omega) (by omega) _ _ _ h (lv_sub hl [0, 1, 2, 3, 4, 5] rfl)
              · show W p l e r_c_X5_greatest s m args below meth c _ _ 0 0 Qf (F0 m 56 ls [.int (iI 0)])
                refine x_if_eq B (by omega) (tgt := 68) dX5_greatest_56 (by decide) (fun c13 => ?_) (fun c13 => ?_)
                · refine lv_iinc (v := iI (i + 1)) (lv' := [(5, .int (iI (i + 1))), (4, .int (iI b)), (0, .ref (G 6 j)), (1, .int (iI kind)), (2, .int (iI wind)), (3, .ref aw)]) B.1 B.2.1 dX5_greatest_68 hl (k := 0) rfl (iI_add _ _) (by decide) rfl (fun ls hl => ?_)
                  refine lv_goto (tgt := 6) B.1 B.2.1 dX5_greatest_71 (by decide) ?_
                  exact ih6 b ((i + 1)) (by omega) (by omega) (by omega) _ _ _ h (lv_sub hl [0, 1, 2, 3, 4, 5] rfl)
                · exact absurd c13 (by omega)
  exact loop6 (((40 - 0 : Int)).toNat + 1) 0 0 (by omega) (by omega) (Nat.lt_succ_self _) _ _ _ h (lv_sub hl [0, 1, 2, 3, 4, 5] rfl)
abbrev r_c_X5_fillRow : Room := { frames := 2, cells := 0, slots := 0, locals := 50 }
set_option maxHeartbeats 4000000 in
set_option maxRecDepth 100000 in
theorem c_X5_fillRow (l : Launch) (D : va_G) (Zk : yK) (ca : Nat → ClassId) (T : Nat → Int → Int) (G : Nat → Int → Nat) (u : Int) (ad : Nat → Nat) (w : yW) (hC : CW ca T G u ad w) (j : Int) (kind : Int) (ar : Nat) (ir : Nat) (aw : Nat) (iw : Nat) (fr : w ir = some (ar, xAI (ca 0) 100 (gG 100 0 12))) (fw : w iw = some (aw, xAI (ca 0) 5 gA)) (hj : 0 ≤ j ∧ j < u) (hkind : xr kind) : yC l D Zk ca yX5_fillRow cX5_fillRow 5 none r_c_X5_fillRow [.ref (G 6 j), .ref ar, .int (iI kind), .ref aw] w (vV w) := by
  refine yC.of2 "WindWords$Rules" (by decide) rfl (Nat.le_of_ble_eq_true rfl) ?_
  intro p e s m args below meth c A ls Qf B hnm h hl hQ
  have hl : lv_has ls 5 [(0, .ref (G 6 j)), (1, .ref ar), (2, .int (iI kind)), (3, .ref aw)] := hl
  have hs := pi_s (CW.pi hC)
  have fo1 := CW.ru hC j (by omega)
  refine x_iconst B dX5_fillRow_0 ?_
  refine lv_istore (lv' := [(4, .int (iI 0)), (0, .ref (G 6 j)), (1, .ref ar), (2, .int (iI kind)), (3, .ref aw)]) B.1 B.2.1 dX5_fillRow_1 hl (by decide) rfl (fun ls hl => ?_)
  have loop3 : ∀ (n3 : Nat) (i : Int), (0 ≤ i ∧ i ≤ 100) → ((100 - i : Int)).toNat < n3 → ∀ (H : Heap) (locs : List Loc) (ls : Array Slot), yH D Zk A s w H locs → lv_has ls 5 [(4, .int (iI i)), (0, .ref (G 6 j)), (1, .ref ar), (2, .int (iI kind)), (3, .ref aw)] → W p l e r_c_X5_fillRow s m args below meth c H locs 0 0 Qf (F0 m 3 ls []) := by
    intro n3
    induction n3 with
    | zero =>
      intro i h1 hm3 H locs ls h hl
      exact absurd hm3 (Nat.not_lt_zero _)
    | succ n3 ih3 =>
      intro i h1 hm3 H locs ls h hl
      refine lv_iload B.1 B.2.1 dX5_fillRow_3 (lv_at hl 0 rfl) ?_
      refine lv_aload_n B.1 B.2.1 dX5_fillRow_5 rfl (lv_at hl 2 rfl) ?_
      refine y_alenI B h ir 0 fr rfl dX5_fillRow_6 ?_
      refine x_icmp_ge B (by omega) (tgt := 21) dX5_fillRow_7 (by decide) (fun c2 => ?_) (fun c2 => ?_)
      · refine x_iconst B dX5_fillRow_21 ?_
        refine lv_istore (lv' := [(4, .int (iI 0)), (0, .ref (G 6 j)), (1, .ref ar), (2, .int (iI kind)), (3, .ref aw)]) B.1 B.2.1 dX5_fillRow_22 hl (by decide) rfl (fun ls hl => ?_)
        have loop24 : ∀ (n24 : Nat) (i : Int), (0 ≤ i ∧ i ≤ 40) → ((40 - i : Int)).toNat < n24 → ∀ (H : Heap) (locs : List Loc) (ls : Array Slot), yH D Zk A s w H locs → lv_has ls 5 [(4, .int (iI i)), (0, .ref (G 6 j)), (1, .ref ar), (2, .int (iI kind)), (3, .ref aw)] → W p l e r_c_X5_fillRow s m args below meth c H locs 0 0 Qf (F0 m 24 ls []) := by
          intro n24
          induction n24 with
          | zero =>
            intro i h1 hm24 H locs ls h hl
            exact absurd hm24 (Nat.not_lt_zero _)
          | succ n24 ih24 =>
            intro i h1 hm24 H locs ls h hl
            refine lv_iload B.1 B.2.1 dX5_fillRow_24 (lv_at hl 0 rfl) ?_
            refine lv_aload_n B.1 B.2.1 dX5_fillRow_26 rfl (lv_at hl 1 rfl) ?_
            refine y_getG B h kX5 (1000 + 16 * j.toNat + 6) fo1.1 5 (lo := 0) (hi := 40) rfl m_343 (by decide) dX5_fillRow_27 (fun z3 z3a z3b => ?_)
            refine x_icmp_ge B (by omega) (tgt := 112) dX5_fillRow_30 (by decide) (fun c4 => ?_) (fun c4 => ?_)
            · refine x_iconst B dX5_fillRow_112 ?_
              refine lv_istore (lv' := [(4, .int (iI 1)), (0, .ref (G 6 j)), (1, .ref ar), (2, .int (iI kind)), (3, .ref aw)]) B.1 B.2.1 dX5_fillRow_113 hl (by decide) rfl (fun ls hl => ?_)
              have loop115 : ∀ (n115 : Nat) (i : Int), (1 ≤ i ∧ i ≤ 100) → ((100 - i : Int)).toNat < n115 → ∀ (H : Heap) (locs : List Loc) (ls : Array Slot), yH D Zk A s w H locs → lv_has ls 5 [(4, .int (iI i)), (1, .ref ar)] → W p l e r_c_X5_fillRow s m args below meth c H locs 0 0 Qf (F0 m 115 ls []) := by
                intro n115
                induction n115 with
                | zero =>
                  intro i h1 hm115 H locs ls h hl
                  exact absurd hm115 (Nat.not_lt_zero _)
                | succ n115 ih115 =>
                  intro i h1 hm115 H locs ls h hl
                  refine lv_iload B.1 B.2.1 dX5_fillRow_115 (lv_at hl 0 rfl) ?_
                  refine lv_aload_n B.1 B.2.1 dX5_fillRow_117 rfl (lv_at hl 1 rfl) ?_
                  refine y_alenI B h ir 0 fr rfl dX5_fillRow_118 ?_
                  refine x_icmp_ge B (by omega) (tgt := 145) dX5_fillRow_119 (by decide) (fun c5 => ?_) (fun c5 => ?_)
                  · refine y_rv B hQ h (by decide) dX5_fillRow_145 ?_
                    exact ⟨rfl, rfl⟩
                  · refine lv_aload_n B.1 B.2.1 dX5_fillRow_122 rfl (lv_at hl 1 rfl) ?_
                    refine lv_iload B.1 B.2.1 dX5_fillRow_123 (lv_at hl 0 rfl) ?_
                    refine lv_aload_n B.1 B.2.1 dX5_fillRow_125 rfl (lv_at hl 1 rfl) ?_
                    refine lv_iload B.1 B.2.1 dX5_fillRow_126 (lv_at hl 0 rfl) ?_
                    refine y_ialdG B h ir fr (by omega) dX5_fillRow_128 (fun z6 z6a z6b => ?_)
                    refine lv_aload_n B.1 B.2.1 dX5_fillRow_129 rfl (lv_at hl 1 rfl) ?_
                    refine lv_iload B.1 B.2.1 dX5_fillRow_130 (lv_at hl 0 rfl) ?_
                    refine x_iconst B dX5_fillRow_132 ?_
                    refine x_isub B dX5_fillRow_133 ?_
                    refine y_ialdG B h ir fr (by omega) dX5_fillRow_134 (fun z7 z7a z7b => ?_)
                    refine x_max B (by omega) m_939 m_454 m_106 m_455 hl.1 (Nat.le_of_ble_eq_true rfl) (by decide) dX5_fillRow_135 ?_
                    refine y_iastS B h ir fr (by omega) (gG_upd (by omega)) dX5_fillRow_138 (fun H locs h => ?_)
                    refine lv_iinc (v := iI (i + 1)) (lv' := [(4, .int (iI (i + 1))), (1, .ref ar)]) B.1 B.2.1 dX5_fillRow_139 hl (k := 0) rfl (iI_add _ _) (by decide) rfl (fun ls hl => ?_)
                    refine lv_goto (tgt := 115) B.1 B.2.1 dX5_fillRow_142 (by decide) ?_
                    exact ih115 ((i + 1)) (by omega) (by omega) _ _ _ h (lv_sub hl [0, 1] rfl)
              exact loop115 (((100 - 1 : Int)).toNat + 1) 1 (by omega) (Nat.lt_succ_self _) _ _ _ h (lv_sub hl [0, 2] rfl)
            · refine lv_aload_n B.1 B.2.1 dX5_fillRow_33 rfl (lv_at hl 1 rfl) ?_
              refine y_getR B h kX5 (1000 + 16 * j.toNat + 6) fo1.1 0 (b := G 7 j) rfl m_338 (by decide) dX5_fillRow_34 ?_
              refine lv_iload B.1 B.2.1 dX5_fillRow_37 (lv_at hl 0 rfl) ?_
              refine y_iald B h (1000 + 16 * j.toNat + 7) fo1.2.1 (by omega) dX5_fillRow_39 (fun fz8 hfz8 => ?_)
              refine x_name (fun z8 hz8 ez8 => ?_)
              refine lv_iload_n B.1 B.2.1 dX5_fillRow_40 rfl (lv_at hl 3 rfl) ?_
              refine x_icmp_ne B (by omega) (tgt := 106) dX5_fillRow_41 (by decide) (fun c9 => ?_) (fun c9 => ?_)
              · refine lv_iinc (v := iI (i + 1)) (lv' := [(4, .int (iI (i + 1))), (0, .ref (G 6 j)), (1, .ref ar), (2, .int (iI kind)), (3, .ref aw)]) B.1 B.2.1 dX5_fillRow_106 hl (k := 0) rfl (iI_add _ _) (by decide) rfl (fun ls hl => ?_)
                refine lv_goto (tgt := 24) B.1 B.2.1 dX5_fillRow_109 (by decide) ?_
                exact ih24 ((i + 1)) (by omega) (by omega) _ _ _ h (lv_sub hl [0, 1, 2, 3, 4] rfl)
              · refine lv_aload_n B.1 B.2.1 dX5_fillRow_44 rfl (lv_at hl 1 rfl) ?_
                refine y_getR B h kX5 (1000 + 16 * j.toNat + 6) fo1.1 2 (b := G 9 j) rfl m_340 (by decide) dX5_fillRow_45 ?_
                refine lv_iload B.1 B.2.1 dX5_fillRow_48 (lv_at hl 0 rfl) ?_
                refine y_ialdG B h (1000 + 16 * j.toNat + 9) fo1.2.2.2.1 (by omega) dX5_fillRow_50 (fun z10 z10a z10b => ?_)
                refine lv_aload_n B.1 B.2.1 dX5_fillRow_51 rfl (lv_at hl 2 rfl) ?_
                refine y_alenI B h ir 0 fr rfl dX5_fillRow_52 ?_
                refine x_iconst B dX5_fillRow_53 ?_
                refine x_isub B dX5_fillRow_54 ?_
                refine y_cSN (host := "WindWords") B h k_X11_within (c_X11_within l D Zk ca _ z10 ((100 - 1))  (by omega) (by omega)) (by decide) rfl (by decide) hl.1 [] (Nat.le_of_ble_eq_true rfl) rfl dX5_fillRow_55 (fun r w1 hq H locs h => ?_)
                obtain ⟨rfl, _, rfl, ⟨rfl, b11⟩ | ⟨rfl, b11⟩⟩ := hq
                · show W p l e r_c_X5_fillRow s m args below meth c _ _ 0 0 Qf (F0 m 58 ls [.int (iI 1)])
                  refine x_if_eq B (by omega) (tgt := 106) dX5_fillRow_58 (by decide) (fun c12 => ?_) (fun c12 => ?_)
                  · exact absurd c12 (by omega)
                  · refine lv_aload_n B.1 B.2.1 dX5_fillRow_61 rfl (lv_at hl 1 rfl) ?_
                    refine y_getR B h kX5 (1000 + 16 * j.toNat + 6) fo1.1 1 (b := G 8 j) rfl m_339 (by decide) dX5_fillRow_62 ?_
                    refine lv_iload B.1 B.2.1 dX5_fillRow_65 (lv_at hl 0 rfl) ?_
                    refine y_ialdG B h (1000 + 16 * j.toNat + 8) fo1.2.2.1 (by omega) dX5_fillRow_67 (fun z13 z13a z13b => ?_)
                    refine lv_aload_n B.1 B.2.1 dX5_fillRow_68 rfl (lv_at hl 2 rfl) ?_
                    refine lv_aload_n B.1 B.2.1 dX5_fillRow_69 rfl (lv_at hl 1 rfl) ?_
                    refine y_getR B h kX5 (1000 + 16 * j.toNat + 6) fo1.1 2 (b := G 9 j) rfl m_340 (by decide) dX5_fillRow_70 ?_
                    refine lv_iload B.1 B.2.1 dX5_fillRow_73 (lv_at hl 0 rfl) ?_
                    refine y_ialdG B h (1000 + 16 * j.toNat + 9) fo1.2.2.2.1 (by omega) dX5_fillRow_75 (fun z14 z14a z14b => ?_)
                    refine y_ialdG B h ir fr (by omega) dX5_fillRow_76 (fun z15 z15a z15b => ?_)
                    refine x_icmp_le B (by omega) (tgt := 106) dX5_fillRow_77 (by decide) (fun c16 => ?_) (fun c16 => ?_)
                    · refine lv_iinc (v := iI (i + 1)) (lv' := [(4, .int (iI (i + 1))), (0, .ref (G 6 j)), (1, .ref ar), (2, .int (iI kind)), (3, .ref aw)]) B.1 B.2.1 dX5_fillRow_106 hl (k := 0) rfl (iI_add _ _) (by decide) rfl (fun ls hl => ?_)
                      refine lv_goto (tgt := 24) B.1 B.2.1 dX5_fillRow_109 (by decide) ?_
                      exact ih24 ((i + 1)) (by omega) (by omega) _ _ _ h (lv_sub hl [0, 1, 2, 3, 4] rfl)
                    · refine lv_aload_n B.1 B.2.1 dX5_fillRow_80 rfl (lv_at hl 1 rfl) ?_
                      refine lv_iload B.1 B.2.1 dX5_fillRow_81 (lv_at hl 0 rfl) ?_
                      refine lv_aload_n B.1 B.2.1 dX5_fillRow_83 rfl (lv_at hl 4 rfl) ?_
                      refine y_cV B h kX5 (1000 + 16 * j.toNat + 6) fo1.1 k_X5_holds rfl (c_X5_holds l D Zk ca T G u ad _ hC j i aw iw fw (by omega) (by omega)) m_900 rfl (by decide) hl.1 [] (Nat.le_of_ble_eq_true rfl) rfl dX5_fillRow_84 (fun r w1 hq H locs h => ?_)
                      obtain ⟨rfl, _, rfl, ⟨rfl, b17⟩ | ⟨rfl, b17⟩⟩ := hq
                      · show W p l e r_c_X5_fillRow s m args below meth c _ _ 0 0 Qf (F0 m 87 ls [.int (iI 1)])
                        refine x_if_eq B (by omega) (tgt := 106) dX5_fillRow_87 (by decide) (fun c18 => ?_) (fun c18 => ?_)
                        · exact absurd c18 (by omega)
                        · refine lv_aload_n B.1 B.2.1 dX5_fillRow_90 rfl (lv_at hl 2 rfl) ?_
                          refine lv_aload_n B.1 B.2.1 dX5_fillRow_91 rfl (lv_at hl 1 rfl) ?_
                          refine y_getR B h kX5 (1000 + 16 * j.toNat + 6) fo1.1 2 (b := G 9 j) rfl m_340 (by decide) dX5_fillRow_92 ?_
                          refine lv_iload B.1 B.2.1 dX5_fillRow_95 (lv_at hl 0 rfl) ?_
                          refine y_ialdG B h (1000 + 16 * j.toNat + 9) fo1.2.2.2.1 (by omega) dX5_fillRow_97 (fun z19 z19a z19b => ?_)
                          refine lv_aload_n B.1 B.2.1 dX5_fillRow_98 rfl (lv_at hl 1 rfl) ?_
                          refine y_getR B h kX5 (1000 + 16 * j.toNat + 6) fo1.1 1 (b := G 8 j) rfl m_339 (by decide) dX5_fillRow_99 ?_
                          refine lv_iload B.1 B.2.1 dX5_fillRow_102 (lv_at hl 0 rfl) ?_
                          refine y_ialdG B h (1000 + 16 * j.toNat + 8) fo1.2.2.1 (by omega) dX5_fillRow_104 (fun z20 z20a z20b => ?_)
                          refine y_iastS B h ir fr (by omega) (gG_upd (by omega)) dX5_fillRow_105 (fun H locs h => ?_)
                          refine lv_iinc (v := iI (i + 1)) (lv' := [(4, .int (iI (i + 1))), (0, .ref (G 6 j)), (1, .ref ar), (2, .int (iI kind)), (3, .ref aw)]) B.1 B.2.1 dX5_fillRow_106 hl (k := 0) rfl (iI_add _ _) (by decide) rfl (fun ls hl => ?_)
                          refine lv_goto (tgt := 24) B.1 B.2.1 dX5_fillRow_109 (by decide) ?_
                          exact ih24 ((i + 1)) (by omega) (by omega) _ _ _ h (lv_sub hl [0, 1, 2, 3, 4] rfl)
                      · show W p l e r_c_X5_fillRow s m args below meth c _ _ 0 0 Qf (F0 m 87 ls [.int (iI 0)])
                        refine x_if_eq B (by omega) (tgt := 106) dX5_fillRow_87 (by decide) (fun c21 => ?_) (fun c21 => ?_)
                        · refine lv_iinc (v := iI (i + 1)) (lv' := [(4, .int (iI (i + 1))), (0, .ref (G 6 j)), (1, .ref ar), (2, .int (iI kind)), (3, .ref aw)]) B.1 B.2.1 dX5_fillRow_106 hl (k := 0) rfl (iI_add _ _) (by decide) rfl (fun ls hl => ?_)
                          refine lv_goto (tgt := 24) B.1 B.2.1 dX5_fillRow_109 (by decide) ?_
                          exact ih24 ((i + 1)) (by omega) (by omega) _ _ _ h (lv_sub hl [0, 1, 2, 3, 4] rfl)
                        · exact absurd c21 (by omega)
                · show W p l e r_c_X5_fillRow s m args below meth c _ _ 0 0 Qf (F0 m 58 ls [.int (iI 0)])
                  refine x_if_eq B (by omega) (tgt := 106) dX5_fillRow_58 (by decide) (fun c22 => ?_) (fun c22 => ?_)
                  · refine lv_iinc (v := iI (i + 1)) (lv' := [(4, .int (iI (i + 1))), (0, .ref (G 6 j)), (1, .ref ar), (2, .int (iI kind)), (3, .ref aw)]) B.1 B.2.1 dX5_fillRow_106 hl (k := 0) rfl (iI_add _ _) (by decide) rfl (fun ls hl => ?_)
                    refine lv_goto (tgt := 24) B.1 B.2.1 dX5_fillRow_109 (by decide) ?_
                    exact ih24 ((i + 1)) (by omega) (by omega) _ _ _ h (lv_sub hl [0, 1, 2, 3, 4] rfl)
                  · exact absurd c22 (by omega)
        exact loop24 (((40 - 0 : Int)).toNat + 1) 0 (by omega) (Nat.lt_succ_self _) _ _ _ h (lv_sub hl [0, 1, 2, 3, 4] rfl)
      · refine lv_aload_n B.1 B.2.1 dX5_fillRow_10 rfl (lv_at hl 2 rfl) ?_
        refine lv_iload B.1 B.2.1 dX5_fillRow_11 (lv_at hl 0 rfl) ?_
        refine x_iconst B dX5_fillRow_13 ?_
        refine y_iastS B h ir fr (by omega) (gG_upd (by omega)) dX5_fillRow_14 (fun H locs h => ?_)
        refine lv_iinc (v := iI (i + 1)) (lv' := [(4, .int (iI (i + 1))), (0, .ref (G 6 j)), (1, .ref ar), (2, .int (iI kind)), (3, .ref aw)]) B.1 B.2.1 dX5_fillRow_15 hl (k := 0) rfl (iI_add _ _) (by decide) rfl (fun ls hl => ?_)
        refine lv_goto (tgt := 3) B.1 B.2.1 dX5_fillRow_18 (by decide) ?_
        exact ih3 ((i + 1)) (by omega) (by omega) _ _ _ h (lv_sub hl [0, 1, 2, 3, 4] rfl)
  exact loop3 (((100 - 0 : Int)).toNat + 1) 0 (by omega) (Nat.lt_succ_self _) _ _ _ h (lv_sub hl [0, 1, 2, 3, 4] rfl)
abbrev r_c_X5_written : Room := { frames := 2, cells := 0, slots := 0, locals := 50 }
set_option maxHeartbeats 4000000 in
set_option maxRecDepth 100000 in
theorem c_X5_written (l : Launch) (D : va_G) (Zk : yK) (ca : Nat → ClassId) (T : Nat → Int → Int) (G : Nat → Int → Nat) (u : Int) (ad : Nat → Nat) (w : yW) (hC : CW ca T G u ad w) (j : Int) (seen : Int) (aw : Nat) (iw : Nat) (fw : w iw = some (aw, xAI (ca 0) 5 gA)) (hj : 0 ≤ j ∧ j < u) (hseen : 0 ≤ seen ∧ seen ≤ 12) : yC l D Zk ca yX5_written cX5_written 5 (some .int) r_c_X5_written [.ref (G 6 j), .int (iI seen), .ref aw] w (vI w (fun z => 0 ≤ z ∧ z ≤ 12)) := by
  refine yC.of2 "WindWords$Rules" (by decide) rfl (Nat.le_of_ble_eq_true rfl) ?_
  intro p e s m args below meth c A ls Qf B hnm h hl hQ
  have hl : lv_has ls 5 [(0, .ref (G 6 j)), (1, .int (iI seen)), (2, .ref aw)] := hl
  have hs := pi_s (CW.pi hC)
  have fo1 := CW.ru hC j (by omega)
  refine lv_aload_n B.1 B.2.1 dX5_written_0 rfl (lv_at hl 2 rfl) ?_
  refine x_iconst B dX5_written_1 ?_
  refine lv_iload_n B.1 B.2.1 dX5_written_2 rfl (lv_at hl 1 rfl) ?_
  refine y_iastS B h iw fw (by omega) (fun _ _ => trivial) dX5_written_3 (fun H locs h => ?_)
  refine lv_iload_n B.1 B.2.1 dX5_written_4 rfl (lv_at hl 1 rfl) ?_
  refine lv_istore_n (lv' := [(3, .int (iI seen)), (0, .ref (G 6 j)), (1, .int (iI seen)), (2, .ref aw)]) B.1 B.2.1 dX5_written_5 rfl hl (by decide) rfl (fun ls hl => ?_)
  refine x_iconst B dX5_written_6 ?_
  refine lv_istore (lv' := [(4, .int (iI 0)), (3, .int (iI seen)), (0, .ref (G 6 j)), (1, .int (iI seen)), (2, .ref aw)]) B.1 B.2.1 dX5_written_7 hl (by decide) rfl (fun ls hl => ?_)
  have loop9 : ∀ (n9 : Nat) (lt : Int) (i : Int), (0 ≤ lt ∧ lt ≤ 12) → (0 ≤ i ∧ i ≤ 40) → ((40 - i : Int)).toNat < n9 → ∀ (H : Heap) (locs : List Loc) (ls : Array Slot), yH D Zk A s w H locs → lv_has ls 5 [(4, .int (iI i)), (3, .int (iI lt)), (0, .ref (G 6 j)), (1, .int (iI seen)), (2, .ref aw)] → W p l e r_c_X5_written s m args below meth c H locs 0 0 Qf (F0 m 9 ls []) := by
    intro n9
    induction n9 with
    | zero =>
      intro lt i h0 h1 hm9 H locs ls h hl
      exact absurd hm9 (Nat.not_lt_zero _)
    | succ n9 ih9 =>
      intro lt i h0 h1 hm9 H locs ls h hl
      refine lv_iload B.1 B.2.1 dX5_written_9 (lv_at hl 0 rfl) ?_
      refine lv_aload_n B.1 B.2.1 dX5_written_11 rfl (lv_at hl 2 rfl) ?_
      refine y_getG B h kX5 (1000 + 16 * j.toNat + 6) fo1.1 5 (lo := 0) (hi := 40) rfl m_343 (by decide) dX5_written_12 (fun z2 z2a z2b => ?_)
      refine x_icmp_ge B (by omega) (tgt := 83) dX5_written_15 (by decide) (fun c3 => ?_) (fun c3 => ?_)
      · have loop83 : ∀ (l3 : Int), (xr l3) → (0 ≤ l3 ∧ l3 ≤ 12) → ∀ (H : Heap) (locs : List Loc) (ls : Array Slot), yH D Zk A s w H locs → lv_has ls 5 [(3, .int (iI l3)), (0, .ref (G 6 j))] → W p l e r_c_X5_written s m args below meth c H locs 0 0 Qf (F0 m 83 ls []) := by
          intro l3 xl3 x3 H locs ls h hl
          refine x_iconst B dX5_written_83 ?_
          refine lv_istore (lv' := [(4, .int (iI 0)), (3, .int (iI l3)), (0, .ref (G 6 j))]) B.1 B.2.1 dX5_written_84 hl (by decide) rfl (fun ls hl => ?_)
          have loop86 : ∀ (n86 : Nat) (i : Int), (0 ≤ i ∧ i ≤ 40) → ((40 - i : Int)).toNat < n86 → ∀ (H : Heap) (locs : List Loc) (ls : Array Slot), yH D Zk A s w H locs → lv_has ls 5 [(4, .int (iI i)), (3, .int (iI l3)), (0, .ref (G 6 j))] → W p l e r_c_X5_written s m args below meth c H locs 0 0 Qf (F0 m 86 ls []) := by
            intro n86
            induction n86 with
            | zero =>
              intro i h1 hm86 H locs ls h hl
              exact absurd hm86 (Nat.not_lt_zero _)
            | succ n86 ih86 =>
              intro i h1 hm86 H locs ls h hl
              refine lv_iload B.1 B.2.1 dX5_written_86 (lv_at hl 0 rfl) ?_
              refine lv_aload_n B.1 B.2.1 dX5_written_88 rfl (lv_at hl 2 rfl) ?_
              refine y_getG B h kX5 (1000 + 16 * j.toNat + 6) fo1.1 5 (lo := 0) (hi := 40) rfl m_343 (by decide) dX5_written_89 (fun z4 z4a z4b => ?_)
              refine x_icmp_ge B (by omega) (tgt := 131) dX5_written_92 (by decide) (fun c5 => ?_) (fun c5 => ?_)
              · refine lv_iload_n B.1 B.2.1 dX5_written_131 rfl (lv_at hl 1 rfl) ?_
                refine y_ri B hQ h (by decide) dX5_written_132 ?_
                exact ⟨rfl, _, rfl, (by first | omega | trivial | assumption)⟩
              · refine lv_aload_n B.1 B.2.1 dX5_written_95 rfl (lv_at hl 2 rfl) ?_
                refine y_getR B h kX5 (1000 + 16 * j.toNat + 6) fo1.1 0 (b := G 7 j) rfl m_338 (by decide) dX5_written_96 ?_
                refine lv_iload B.1 B.2.1 dX5_written_99 (lv_at hl 0 rfl) ?_
                refine y_iald B h (1000 + 16 * j.toNat + 7) fo1.2.1 (by omega) dX5_written_101 (fun fz6 hfz6 => ?_)
                refine x_name (fun z6 hz6 ez6 => ?_)
                refine x_iconst B dX5_written_102 ?_
                refine x_icmp_ne B (by omega) (tgt := 125) dX5_written_103 (by decide) (fun c7 => ?_) (fun c7 => ?_)
                · refine lv_iinc (v := iI (i + 1)) (lv' := [(4, .int (iI (i + 1))), (3, .int (iI l3)), (0, .ref (G 6 j))]) B.1 B.2.1 dX5_written_125 hl (k := 0) rfl (iI_add _ _) (by decide) rfl (fun ls hl => ?_)
                  refine lv_goto (tgt := 86) B.1 B.2.1 dX5_written_128 (by decide) ?_
                  exact ih86 ((i + 1)) (by omega) (by omega) _ _ _ h (lv_sub hl [0, 1, 2] rfl)
                · refine lv_aload_n B.1 B.2.1 dX5_written_106 rfl (lv_at hl 2 rfl) ?_
                  refine y_getR B h kX5 (1000 + 16 * j.toNat + 6) fo1.1 2 (b := G 9 j) rfl m_340 (by decide) dX5_written_107 ?_
                  refine lv_iload B.1 B.2.1 dX5_written_110 (lv_at hl 0 rfl) ?_
                  refine y_ialdG B h (1000 + 16 * j.toNat + 9) fo1.2.2.2.1 (by omega) dX5_written_112 (fun z8 z8a z8b => ?_)
                  refine lv_iload_n B.1 B.2.1 dX5_written_113 rfl (lv_at hl 1 rfl) ?_
                  refine x_icmp_ne B (by omega) (tgt := 125) dX5_written_114 (by decide) (fun c9 => ?_) (fun c9 => ?_)
                  · refine lv_iinc (v := iI (i + 1)) (lv' := [(4, .int (iI (i + 1))), (3, .int (iI l3)), (0, .ref (G 6 j))]) B.1 B.2.1 dX5_written_125 hl (k := 0) rfl (iI_add _ _) (by decide) rfl (fun ls hl => ?_)
                    refine lv_goto (tgt := 86) B.1 B.2.1 dX5_written_128 (by decide) ?_
                    exact ih86 ((i + 1)) (by omega) (by omega) _ _ _ h (lv_sub hl [0, 1, 2] rfl)
                  · refine lv_aload_n B.1 B.2.1 dX5_written_117 rfl (lv_at hl 2 rfl) ?_
                    refine y_getR B h kX5 (1000 + 16 * j.toNat + 6) fo1.1 1 (b := G 8 j) rfl m_339 (by decide) dX5_written_118 ?_
                    refine lv_iload B.1 B.2.1 dX5_written_121 (lv_at hl 0 rfl) ?_
                    refine y_ialdG B h (1000 + 16 * j.toNat + 8) fo1.2.2.1 (by omega) dX5_written_123 (fun z10 z10a z10b => ?_)
                    refine y_ri B hQ h (by decide) dX5_written_124 ?_
                    exact ⟨rfl, _, rfl, (by first | omega | trivial | assumption)⟩
          exact loop86 (((40 - 0 : Int)).toNat + 1) 0 (by omega) (Nat.lt_succ_self _) _ _ _ h (lv_sub hl [0, 1, 2] rfl)
        exact loop83 lt (by omega) (by omega) _ _ _ h (lv_sub hl [1, 2] rfl)
      · refine lv_aload_n B.1 B.2.1 dX5_written_18 rfl (lv_at hl 2 rfl) ?_
        refine y_getR B h kX5 (1000 + 16 * j.toNat + 6) fo1.1 0 (b := G 7 j) rfl m_338 (by decide) dX5_written_19 ?_
        refine lv_iload B.1 B.2.1 dX5_written_22 (lv_at hl 0 rfl) ?_
        refine y_iald B h (1000 + 16 * j.toNat + 7) fo1.2.1 (by omega) dX5_written_24 (fun fz11 hfz11 => ?_)
        refine x_name (fun z11 hz11 ez11 => ?_)
        refine x_iconst B dX5_written_25 ?_
        refine x_icmp_eq B (by omega) (tgt := 77) dX5_written_26 (by decide) (fun c12 => ?_) (fun c12 => ?_)
        · refine lv_iinc (v := iI (i + 1)) (lv' := [(4, .int (iI (i + 1))), (3, .int (iI lt)), (0, .ref (G 6 j)), (1, .int (iI seen)), (2, .ref aw)]) B.1 B.2.1 dX5_written_77 hl (k := 0) rfl (iI_add _ _) (by decide) rfl (fun ls hl => ?_)
          refine lv_goto (tgt := 9) B.1 B.2.1 dX5_written_80 (by decide) ?_
          exact ih9 lt ((i + 1)) (by omega) (by omega) (by omega) _ _ _ h (lv_sub hl [0, 1, 2, 3, 4] rfl)
        · refine lv_aload_n B.1 B.2.1 dX5_written_29 rfl (lv_at hl 2 rfl) ?_
          refine lv_iload B.1 B.2.1 dX5_written_30 (lv_at hl 0 rfl) ?_
          refine lv_aload_n B.1 B.2.1 dX5_written_32 rfl (lv_at hl 4 rfl) ?_
          refine y_cV B h kX5 (1000 + 16 * j.toNat + 6) fo1.1 k_X5_holds rfl (c_X5_holds l D Zk ca T G u ad _ hC j i aw iw fw (by omega) (by omega)) m_900 rfl (by decide) hl.1 [] (Nat.le_of_ble_eq_true rfl) rfl dX5_written_33 (fun r w1 hq H locs h => ?_)
          obtain ⟨rfl, _, rfl, ⟨rfl, b13⟩ | ⟨rfl, b13⟩⟩ := hq
          · show W p l e r_c_X5_written s m args below meth c _ _ 0 0 Qf (F0 m 36 ls [.int (iI 1)])
            refine x_if_eq B (by omega) (tgt := 77) dX5_written_36 (by decide) (fun c14 => ?_) (fun c14 => ?_)
            · exact absurd c14 (by omega)
            · refine lv_aload_n B.1 B.2.1 dX5_written_39 rfl (lv_at hl 2 rfl) ?_
              refine y_getR B h kX5 (1000 + 16 * j.toNat + 6) fo1.1 0 (b := G 7 j) rfl m_338 (by decide) dX5_written_40 ?_
              refine lv_iload B.1 B.2.1 dX5_written_43 (lv_at hl 0 rfl) ?_
              refine y_iald B h (1000 + 16 * j.toNat + 7) fo1.2.1 (by omega) dX5_written_45 (fun fz15 hfz15 => ?_)
              refine x_name (fun z15 hz15 ez15 => ?_)
              refine x_if_ne B (by omega) (tgt := 61) dX5_written_46 (by decide) (fun c16 => ?_) (fun c16 => ?_)
              · refine lv_iload_n B.1 B.2.1 dX5_written_61 rfl (lv_at hl 3 rfl) ?_
                refine lv_aload_n B.1 B.2.1 dX5_written_62 rfl (lv_at hl 2 rfl) ?_
                refine y_getR B h kX5 (1000 + 16 * j.toNat + 6) fo1.1 1 (b := G 8 j) rfl m_339 (by decide) dX5_written_63 ?_
                refine lv_iload B.1 B.2.1 dX5_written_66 (lv_at hl 0 rfl) ?_
                refine y_ialdG B h (1000 + 16 * j.toNat + 8) fo1.2.2.1 (by omega) dX5_written_68 (fun z17 z17a z17b => ?_)
                refine x_isub B dX5_written_69 ?_
                refine y_cSN (host := "WindWords") B h k_X11_held (c_X11_held l D Zk ca _ ((seen - z17))  (by omega)) (by decide) rfl (by decide) hl.1 [] (Nat.le_of_ble_eq_true rfl) rfl dX5_written_70 (fun r w1 hq H locs h => ?_)
                obtain ⟨rfl, z18, rfl, hz18⟩ := hq
                show W p l e r_c_X5_written s m args below meth c _ _ 0 0 Qf (F0 m 73 ls [.int (iI z18)])
                refine lv_istore_n (lv' := [(3, .int (iI z18)), (4, .int (iI i)), (0, .ref (G 6 j)), (1, .int (iI seen)), (2, .ref aw)]) B.1 B.2.1 dX5_written_73 rfl hl (by decide) rfl (fun ls hl => ?_)
                refine lv_goto (tgt := 83) B.1 B.2.1 dX5_written_74 (by decide) ?_
                have loop83 : ∀ (l3 : Int), (xr l3) → (0 ≤ l3 ∧ l3 ≤ 12) → ∀ (H : Heap) (locs : List Loc) (ls : Array Slot), yH D Zk A s w H locs → lv_has ls 5 [(3, .int (iI l3)), (0, .ref (G 6 j))] → W p l e r_c_X5_written s m args below meth c H locs 0 0 Qf (F0 m 83 ls []) := by
                  intro l3 xl3 x3 H locs ls h hl
                  refine x_iconst B dX5_written_83 ?_
                  refine lv_istore (lv' := [(4, .int (iI 0)), (3, .int (iI l3)), (0, .ref (G 6 j))]) B.1 B.2.1 dX5_written_84 hl (by decide) rfl (fun ls hl => ?_)
                  have loop86 : ∀ (n86 : Nat) (i : Int), (0 ≤ i ∧ i ≤ 40) → ((40 - i : Int)).toNat < n86 → ∀ (H : Heap) (locs : List Loc) (ls : Array Slot), yH D Zk A s w H locs → lv_has ls 5 [(4, .int (iI i)), (3, .int (iI l3)), (0, .ref (G 6 j))] → W p l e r_c_X5_written s m args below meth c H locs 0 0 Qf (F0 m 86 ls []) := by
                    intro n86
                    induction n86 with
                    | zero =>
                      intro i h1 hm86 H locs ls h hl
                      exact absurd hm86 (Nat.not_lt_zero _)
                    | succ n86 ih86 =>
                      intro i h1 hm86 H locs ls h hl
                      refine lv_iload B.1 B.2.1 dX5_written_86 (lv_at hl 0 rfl) ?_
                      refine lv_aload_n B.1 B.2.1 dX5_written_88 rfl (lv_at hl 2 rfl) ?_
                      refine y_getG B h kX5 (1000 + 16 * j.toNat + 6) fo1.1 5 (lo := 0) (hi := 40) rfl m_343 (by decide) dX5_written_89 (fun z19 z19a z19b => ?_)
                      refine x_icmp_ge B (by omega) (tgt := 131) dX5_written_92 (by decide) (fun c20 => ?_) (fun c20 => ?_)
                      · refine lv_iload_n B.1 B.2.1 dX5_written_131 rfl (lv_at hl 1 rfl) ?_
                        refine y_ri B hQ h (by decide) dX5_written_132 ?_
                        exact ⟨rfl, _, rfl, (by first | omega | trivial | assumption)⟩
                      · refine lv_aload_n B.1 B.2.1 dX5_written_95 rfl (lv_at hl 2 rfl) ?_
                        refine y_getR B h kX5 (1000 + 16 * j.toNat + 6) fo1.1 0 (b := G 7 j) rfl m_338 (by decide) dX5_written_96 ?_
                        refine lv_iload B.1 B.2.1 dX5_written_99 (lv_at hl 0 rfl) ?_
                        refine y_iald B h (1000 + 16 * j.toNat + 7) fo1.2.1 (by omega) dX5_written_101 (fun fz21 hfz21 => ?_)
                        refine x_name (fun z21 hz21 ez21 => ?_)
                        refine x_iconst B dX5_written_102 ?_
                        refine x_icmp_ne B (by omega) (tgt := 125) dX5_written_103 (by decide) (fun c22 => ?_) (fun c22 => ?_)
                        · refine lv_iinc (v := iI (i + 1)) (lv' := [(4, .int (iI (i + 1))), (3, .int (iI l3)), (0, .ref (G 6 j))]) B.1 B.2.1 dX5_written_125 hl (k := 0) rfl (iI_add _ _) (by decide) rfl (fun ls hl => ?_)
                          refine lv_goto (tgt := 86) B.1 B.2.1 dX5_written_128 (by decide) ?_
                          exact ih86 ((i + 1)) (by omega) (by omega) _ _ _ h (lv_sub hl [0, 1, 2] rfl)
                        · refine lv_aload_n B.1 B.2.1 dX5_written_106 rfl (lv_at hl 2 rfl) ?_
                          refine y_getR B h kX5 (1000 + 16 * j.toNat + 6) fo1.1 2 (b := G 9 j) rfl m_340 (by decide) dX5_written_107 ?_
                          refine lv_iload B.1 B.2.1 dX5_written_110 (lv_at hl 0 rfl) ?_
                          refine y_ialdG B h (1000 + 16 * j.toNat + 9) fo1.2.2.2.1 (by omega) dX5_written_112 (fun z23 z23a z23b => ?_)
                          refine lv_iload_n B.1 B.2.1 dX5_written_113 rfl (lv_at hl 1 rfl) ?_
                          refine x_icmp_ne B (by omega) (tgt := 125) dX5_written_114 (by decide) (fun c24 => ?_) (fun c24 => ?_)
                          · refine lv_iinc (v := iI (i + 1)) (lv' := [(4, .int (iI (i + 1))), (3, .int (iI l3)), (0, .ref (G 6 j))]) B.1 B.2.1 dX5_written_125 hl (k := 0) rfl (iI_add _ _) (by decide) rfl (fun ls hl => ?_)
                            refine lv_goto (tgt := 86) B.1 B.2.1 dX5_written_128 (by decide) ?_
                            exact ih86 ((i + 1)) (by omega) (by omega) _ _ _ h (lv_sub hl [0, 1, 2] rfl)
                          · refine lv_aload_n B.1 B.2.1 dX5_written_117 rfl (lv_at hl 2 rfl) ?_
                            refine y_getR B h kX5 (1000 + 16 * j.toNat + 6) fo1.1 1 (b := G 8 j) rfl m_339 (by decide) dX5_written_118 ?_
                            refine lv_iload B.1 B.2.1 dX5_written_121 (lv_at hl 0 rfl) ?_
                            refine y_ialdG B h (1000 + 16 * j.toNat + 8) fo1.2.2.1 (by omega) dX5_written_123 (fun z25 z25a z25b => ?_)
                            refine y_ri B hQ h (by decide) dX5_written_124 ?_
                            exact ⟨rfl, _, rfl, (by first | omega | trivial | assumption)⟩
                  exact loop86 (((40 - 0 : Int)).toNat + 1) 0 (by omega) (Nat.lt_succ_self _) _ _ _ h (lv_sub hl [0, 1, 2] rfl)
                exact loop83 z18 (by omega) (by omega) _ _ _ h (lv_sub hl [0, 2] rfl)
              · refine lv_iload_n B.1 B.2.1 dX5_written_49 rfl (lv_at hl 3 rfl) ?_
                refine lv_aload_n B.1 B.2.1 dX5_written_50 rfl (lv_at hl 2 rfl) ?_
                refine y_getR B h kX5 (1000 + 16 * j.toNat + 6) fo1.1 1 (b := G 8 j) rfl m_339 (by decide) dX5_written_51 ?_
                refine lv_iload B.1 B.2.1 dX5_written_54 (lv_at hl 0 rfl) ?_
                refine y_ialdG B h (1000 + 16 * j.toNat + 8) fo1.2.2.1 (by omega) dX5_written_56 (fun z26 z26a z26b => ?_)
                refine x_iadd B dX5_written_57 ?_
                refine lv_goto (tgt := 70) B.1 B.2.1 dX5_written_58 (by decide) ?_
                refine y_cSN (host := "WindWords") B h k_X11_held (c_X11_held l D Zk ca _ ((seen + z26))  (by omega)) (by decide) rfl (by decide) hl.1 [] (Nat.le_of_ble_eq_true rfl) rfl dX5_written_70 (fun r w1 hq H locs h => ?_)
                obtain ⟨rfl, z27, rfl, hz27⟩ := hq
                show W p l e r_c_X5_written s m args below meth c _ _ 0 0 Qf (F0 m 73 ls [.int (iI z27)])
                refine lv_istore_n (lv' := [(3, .int (iI z27)), (4, .int (iI i)), (0, .ref (G 6 j)), (1, .int (iI seen)), (2, .ref aw)]) B.1 B.2.1 dX5_written_73 rfl hl (by decide) rfl (fun ls hl => ?_)
                refine lv_goto (tgt := 83) B.1 B.2.1 dX5_written_74 (by decide) ?_
                have loop83 : ∀ (l3 : Int), (xr l3) → (0 ≤ l3 ∧ l3 ≤ 12) → ∀ (H : Heap) (locs : List Loc) (ls : Array Slot), yH D Zk A s w H locs → lv_has ls 5 [(3, .int (iI l3)), (0, .ref (G 6 j))] → W p l e r_c_X5_written s m args below meth c H locs 0 0 Qf (F0 m 83 ls []) := by
                  intro l3 xl3 x3 H locs ls h hl
                  refine x_iconst B dX5_written_83 ?_
                  refine lv_istore (lv' := [(4, .int (iI 0)), (3, .int (iI l3)), (0, .ref (G 6 j))]) B.1 B.2.1 dX5_written_84 hl (by decide) rfl (fun ls hl => ?_)
                  have loop86 : ∀ (n86 : Nat) (i : Int), (0 ≤ i ∧ i ≤ 40) → ((40 - i : Int)).toNat < n86 → ∀ (H : Heap) (locs : List Loc) (ls : Array Slot), yH D Zk A s w H locs → lv_has ls 5 [(4, .int (iI i)), (3, .int (iI l3)), (0, .ref (G 6 j))] → W p l e r_c_X5_written s m args below meth c H locs 0 0 Qf (F0 m 86 ls []) := by
                    intro n86
                    induction n86 with
                    | zero =>
                      intro i h1 hm86 H locs ls h hl
                      exact absurd hm86 (Nat.not_lt_zero _)
                    | succ n86 ih86 =>
                      intro i h1 hm86 H locs ls h hl
                      refine lv_iload B.1 B.2.1 dX5_written_86 (lv_at hl 0 rfl) ?_
                      refine lv_aload_n B.1 B.2.1 dX5_written_88 rfl (lv_at hl 2 rfl) ?_
                      refine y_getG B h kX5 (1000 + 16 * j.toNat + 6) fo1.1 5 (lo := 0) (hi := 40) rfl m_343 (by decide) dX5_written_89 (fun z28 z28a z28b => ?_)
                      refine x_icmp_ge B (by omega) (tgt := 131) dX5_written_92 (by decide) (fun c29 => ?_) (fun c29 => ?_)
                      · refine lv_iload_n B.1 B.2.1 dX5_written_131 rfl (lv_at hl 1 rfl) ?_
                        refine y_ri B hQ h (by decide) dX5_written_132 ?_
                        exact ⟨rfl, _, rfl, (by first | omega | trivial | assumption)⟩
                      · refine lv_aload_n B.1 B.2.1 dX5_written_95 rfl (lv_at hl 2 rfl) ?_
                        refine y_getR B h kX5 (1000 + 16 * j.toNat + 6) fo1.1 0 (b := G 7 j) rfl m_338 (by decide) dX5_written_96 ?_
                        refine lv_iload B.1 B.2.1 dX5_written_99 (lv_at hl 0 rfl) ?_
                        refine y_iald B h (1000 + 16 * j.toNat + 7) fo1.2.1 (by omega) dX5_written_101 (fun fz30 hfz30 => ?_)
                        refine x_name (fun z30 hz30 ez30 => ?_)
                        refine x_iconst B dX5_written_102 ?_
                        refine x_icmp_ne B (by omega) (tgt := 125) dX5_written_103 (by decide) (fun c31 => ?_) (fun c31 => ?_)
                        · refine lv_iinc (v := iI (i + 1)) (lv' := [(4, .int (iI (i + 1))), (3, .int (iI l3)), (0, .ref (G 6 j))]) B.1 B.2.1 dX5_written_125 hl (k := 0) rfl (iI_add _ _) (by decide) rfl (fun ls hl => ?_)
                          refine lv_goto (tgt := 86) B.1 B.2.1 dX5_written_128 (by decide) ?_
                          exact ih86 ((i + 1)) (by omega) (by omega) _ _ _ h (lv_sub hl [0, 1, 2] rfl)
                        · refine lv_aload_n B.1 B.2.1 dX5_written_106 rfl (lv_at hl 2 rfl) ?_
                          refine y_getR B h kX5 (1000 + 16 * j.toNat + 6) fo1.1 2 (b := G 9 j) rfl m_340 (by decide) dX5_written_107 ?_
                          refine lv_iload B.1 B.2.1 dX5_written_110 (lv_at hl 0 rfl) ?_
                          refine y_ialdG B h (1000 + 16 * j.toNat + 9) fo1.2.2.2.1 (by omega) dX5_written_112 (fun z32 z32a z32b => ?_)
                          refine lv_iload_n B.1 B.2.1 dX5_written_113 rfl (lv_at hl 1 rfl) ?_
                          refine x_icmp_ne B (by omega) (tgt := 125) dX5_written_114 (by decide) (fun c33 => ?_) (fun c33 => ?_)
                          · refine lv_iinc (v := iI (i + 1)) (lv' := [(4, .int (iI (i + 1))), (3, .int (iI l3)), (0, .ref (G 6 j))]) B.1 B.2.1 dX5_written_125 hl (k := 0) rfl (iI_add _ _) (by decide) rfl (fun ls hl => ?_)
                            refine lv_goto (tgt := 86) B.1 B.2.1 dX5_written_128 (by decide) ?_
                            exact ih86 ((i + 1)) (by omega) (by omega) _ _ _ h (lv_sub hl [0, 1, 2] rfl)
                          · refine lv_aload_n B.1 B.2.1 dX5_written_117 rfl (lv_at hl 2 rfl) ?_
                            refine y_getR B h kX5 (1000 + 16 * j.toNat + 6) fo1.1 1 (b := G 8 j) rfl m_339 (by decide) dX5_written_118 ?_
                            refine lv_iload B.1 B.2.1 dX5_written_121 (lv_at hl 0 rfl) ?_
                            refine y_ialdG B h (1000 + 16 * j.toNat + 8) fo1.2.2.1 (by omega) dX5_written_123 (fun z34 z34a z34b => ?_)
                            refine y_ri B hQ h (by decide) dX5_written_124 ?_
                            exact ⟨rfl, _, rfl, (by first | omega | trivial | assumption)⟩
                  exact loop86 (((40 - 0 : Int)).toNat + 1) 0 (by omega) (Nat.lt_succ_self _) _ _ _ h (lv_sub hl [0, 1, 2] rfl)
                exact loop83 z27 (by omega) (by omega) _ _ _ h (lv_sub hl [0, 2] rfl)
          · show W p l e r_c_X5_written s m args below meth c _ _ 0 0 Qf (F0 m 36 ls [.int (iI 0)])
            refine x_if_eq B (by omega) (tgt := 77) dX5_written_36 (by decide) (fun c35 => ?_) (fun c35 => ?_)
            · refine lv_iinc (v := iI (i + 1)) (lv' := [(4, .int (iI (i + 1))), (3, .int (iI lt)), (0, .ref (G 6 j)), (1, .int (iI seen)), (2, .ref aw)]) B.1 B.2.1 dX5_written_77 hl (k := 0) rfl (iI_add _ _) (by decide) rfl (fun ls hl => ?_)
              refine lv_goto (tgt := 9) B.1 B.2.1 dX5_written_80 (by decide) ?_
              exact ih9 lt ((i + 1)) (by omega) (by omega) (by omega) _ _ _ h (lv_sub hl [0, 1, 2, 3, 4] rfl)
            · exact absurd c35 (by omega)
  exact loop9 (((40 - 0 : Int)).toNat + 1) seen 0 (by omega) (by omega) (Nat.lt_succ_self _) _ _ _ h (lv_sub hl [0, 1, 2, 3, 4] rfl)
