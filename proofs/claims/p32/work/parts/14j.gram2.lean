theorem k_X1_takesComparison : xMV yX1_takesComparison cX1_takesComparison 7 (some .boolean) 2 := ⟨m_785, m_784, m_12, m_102, ⟨by decide +kernel, by decide +kernel, by decide +kernel⟩⟩
theorem k_X1_takesOne : xMV yX1_takesOne cX1_takesOne 6 (some .boolean) 3 := ⟨m_781, m_780, m_11, m_102, ⟨by decide +kernel, by decide +kernel, by decide +kernel⟩⟩
theorem k_X1_takesAll : xMV yX1_takesAll cX1_takesAll 5 (some .boolean) 3 := ⟨m_777, m_776, m_10, m_102, ⟨by decide +kernel, by decide +kernel, by decide +kernel⟩⟩
theorem k_X1_takesAny : xMV yX1_takesAny cX1_takesAny 5 (some .boolean) 3 := ⟨m_773, m_772, m_9, m_102, ⟨by decide +kernel, by decide +kernel, by decide +kernel⟩⟩
abbrev r_c_X1_takesOne_0 : Room := { frames := 2, cells := 0, slots := 0, locals := 49 }
set_option maxHeartbeats 4000000 in
set_option maxRecDepth 100000 in
theorem c_X1_takesOne_0 (l : Launch) (D : va_G) (Zk : yK) (ca : Nat → ClassId) (T : Nat → Int → Int) (G : Nat → Int → Nat) (u : Int) (ad : Nat → Nat) (w : yW) (hC : CW ca T G u ad w) (j : Int) (op : Int)  (hj : 0 ≤ j ∧ j < u) (hop : 9 ≤ op ∧ op ≤ 9) : yC l D Zk ca yX1_takesOne cX1_takesOne 6 (some .boolean) r_c_X1_takesOne_0 [.ref (ad 26), .ref (ad 20), .ref (G 6 j), .int (iI op)] w (vI w (fun z => (z = 1 ∧ (True)) ∨ (z = 0 ∧ (True)))) := by
  refine yC.of2 "WindWords$Grammar" (by decide) rfl (Nat.le_of_ble_eq_true rfl) ?_
  intro p e s m args below meth c A ls Qf B hnm h hl hQ
  have hl : lv_has ls 6 [(0, .ref (ad 26)), (1, .ref (ad 20)), (2, .ref (G 6 j)), (3, .int (iI op))] := hl
  have hs := pi_s (CW.pi hC)
  have fo1 := CW.ru hC j (by omega)
  refine lv_iload_n B.1 B.2.1 dX1_takesOne_0 rfl (lv_at hl 3 rfl) ?_
  refine lv_istore (lv' := [(4, .int (iI op)), (0, .ref (ad 26)), (1, .ref (ad 20)), (2, .ref (G 6 j)), (3, .int (iI op))]) B.1 B.2.1 dX1_takesOne_1 hl (by decide) rfl (fun ls hl => ?_)
  have loop3 : ∀ (n3 : Nat) (ins : Int), (op ≤ ins ∧ ins ≤ 9) → ((9 - ins : Int)).toNat < n3 → ∀ (H : Heap) (locs : List Loc) (ls : Array Slot), yH D Zk A s w H locs → lv_has ls 6 [(4, .int (iI ins)), (0, .ref (ad 26)), (1, .ref (ad 20)), (2, .ref (G 6 j)), (3, .int (iI op))] → W p l e r_c_X1_takesOne_0 s m args below meth c H locs 0 0 Qf (F0 m 3 ls []) := by
    intro n3
    induction n3 with
    | zero =>
      intro ins hi hm3 H locs ls h hl
      exact absurd hm3 (Nat.not_lt_zero _)
    | succ n3 ih3 =>
      intro ins hi hm3 H locs ls h hl
      refine lv_iload B.1 B.2.1 dX1_takesOne_3 (lv_at hl 0 rfl) ?_
      refine x_bipush B (by decide) dX1_takesOne_5 ?_
      refine x_icmp_ge B (by omega) (tgt := 27) dX1_takesOne_7 (by decide) (fun c2 => ?_) (fun c2 => ?_)
      · have join81 : ∀ (tk : Int), (tk = 0 ∨ tk = 1) → ∀ (H : Heap) (locs : List Loc) (ls : Array Slot), yH D Zk A s w H locs → lv_has ls 6 [(4, .int (iI ins)), (2, .ref (G 6 j)), (3, .int (iI op))] → W p l e r_c_X1_takesOne_0 s m args below meth c H locs 0 0 Qf (F0 m 81 ls [.int (iI tk)]) := by
          intro tk hk0 H locs ls h hl
          refine lv_istore (lv' := [(5, .int (iI tk)), (4, .int (iI ins)), (2, .ref (G 6 j)), (3, .int (iI op))]) B.1 B.2.1 dX1_takesOne_81 hl (by decide) rfl (fun ls hl => ?_)
          refine lv_iload B.1 B.2.1 dX1_takesOne_83 (lv_at hl 0 rfl) ?_
          refine x_if_eq B (by omega) (tgt := 103) dX1_takesOne_85 (by decide) (fun c3 => ?_) (fun c3 => ?_)
          · refine lv_iload B.1 B.2.1 dX1_takesOne_103 (lv_at hl 0 rfl) ?_
            refine y_rz B hQ h (by decide) (nz01 (by omega)) dX1_takesOne_105 ?_
            rcases (show tk = 1 ∨ tk = 0 by omega) with e9 | e9
            · exact ⟨rfl, _, rfl, Or.inl ⟨e9, (by first | omega | trivial | assumption)⟩⟩
            · exact ⟨rfl, _, rfl, Or.inr ⟨e9, (by first | omega | trivial | assumption)⟩⟩
          · refine lv_iload B.1 B.2.1 dX1_takesOne_88 (lv_at hl 1 rfl) ?_
            refine lv_iload_n B.1 B.2.1 dX1_takesOne_90 rfl (lv_at hl 3 rfl) ?_
            refine x_isub B dX1_takesOne_91 ?_
            refine x_iconst B dX1_takesOne_92 ?_
            refine x_irem B (by omega) dX1_takesOne_93 ?_
            refine x_iconst B dX1_takesOne_94 ?_
            refine x_icmp_ne B (by omega) (tgt := 103) dX1_takesOne_95 (by decide) (fun c4 => ?_) (fun c4 => ?_)
            · refine lv_iload B.1 B.2.1 dX1_takesOne_103 (lv_at hl 0 rfl) ?_
              refine y_rz B hQ h (by decide) (nz01 (by omega)) dX1_takesOne_105 ?_
              rcases (show tk = 1 ∨ tk = 0 by omega) with e9 | e9
              · exact ⟨rfl, _, rfl, Or.inl ⟨e9, (by first | omega | trivial | assumption)⟩⟩
              · exact ⟨rfl, _, rfl, Or.inr ⟨e9, (by first | omega | trivial | assumption)⟩⟩
            · refine lv_aload_n B.1 B.2.1 dX1_takesOne_98 rfl (lv_at hl 2 rfl) ?_
              refine x_iconst B dX1_takesOne_99 ?_
              refine y_cV B h kX5 (1000 + 16 * j.toNat + 6) fo1.1 k_X5_addStep rfl (c_X5_addStep l D Zk ca T G u ad _ hC j ((-1))  (by omega) (by omega)) m_793 rfl (by decide) hl.1 [] (Nat.le_of_ble_eq_true rfl) rfl dX1_takesOne_100 (fun r w1 hq H locs h => ?_)
              obtain ⟨rfl, rfl⟩ := hq
              show W p l e r_c_X1_takesOne_0 s m args below meth c _ _ 0 0 Qf (F0 m 103 ls [])
              refine lv_iload B.1 B.2.1 dX1_takesOne_103 (lv_at hl 0 rfl) ?_
              refine y_rz B hQ h (by decide) (nz01 (by omega)) dX1_takesOne_105 ?_
              rcases (show tk = 1 ∨ tk = 0 by omega) with e9 | e9
              · exact ⟨rfl, _, rfl, Or.inl ⟨e9, (by first | omega | trivial | assumption)⟩⟩
              · exact ⟨rfl, _, rfl, Or.inr ⟨e9, (by first | omega | trivial | assumption)⟩⟩
        refine lv_iload B.1 B.2.1 dX1_takesOne_27 (lv_at hl 0 rfl) ?_
        refine x_bipush B (by decide) dX1_takesOne_29 ?_
        refine x_icmp_ge B (by omega) (tgt := 75) dX1_takesOne_31 (by decide) (fun c5 => ?_) (fun c5 => ?_)
        · refine lv_aload_n B.1 B.2.1 dX1_takesOne_75 rfl (lv_at hl 1 rfl) ?_
          refine lv_aload_n B.1 B.2.1 dX1_takesOne_76 rfl (lv_at hl 2 rfl) ?_
          refine lv_aload_n B.1 B.2.1 dX1_takesOne_77 rfl (lv_at hl 3 rfl) ?_
          refine y_cV B h kX1 26 (CW.f hC 26 _ rfl) k_X1_takesComparison rfl (c_X1_takesComparison l D Zk ca T G u ad _ hC j  (by omega)) m_782 rfl (by decide) hl.1 [] (Nat.le_of_ble_eq_true rfl) rfl dX1_takesOne_78 (fun r w1 hq H locs h => ?_)
          obtain ⟨rfl, _, rfl, ⟨rfl, b6⟩ | ⟨rfl, b6⟩⟩ := hq
          · show W p l e r_c_X1_takesOne_0 s m args below meth c _ _ 0 0 Qf (F0 m 81 ls [.int (iI 1)])
            exact join81 1 (by omega) _ _ _ h (lv_sub hl [0, 3, 4] rfl)
          · show W p l e r_c_X1_takesOne_0 s m args below meth c _ _ 0 0 Qf (F0 m 81 ls [.int (iI 0)])
            exact join81 0 (by omega) _ _ _ h (lv_sub hl [0, 3, 4] rfl)
        · exact absurd c5 (by omega)
      · refine lv_aload_n B.1 B.2.1 dX1_takesOne_10 rfl (lv_at hl 1 rfl) ?_
        refine lv_aload_n B.1 B.2.1 dX1_takesOne_11 rfl (lv_at hl 2 rfl) ?_
        refine x_sipush B (by decide) dX1_takesOne_12 ?_
        refine y_cV B h kX1 26 (CW.f hC 26 _ rfl) k_X1_takes rfl (c_X1_takes l D Zk ca T G u ad _ hC 229  (by omega)) m_762 rfl (by decide) hl.1 [] (Nat.le_of_ble_eq_true rfl) rfl dX1_takesOne_15 (fun r w1 hq H locs h => ?_)
        obtain ⟨rfl, _, rfl, ⟨rfl, b7⟩ | ⟨rfl, b7⟩⟩ := hq
        · show W p l e r_c_X1_takesOne_0 s m args below meth c _ _ 0 0 Qf (F0 m 18 ls [.int (iI 1)])
          refine x_if_eq B (by omega) (tgt := 27) dX1_takesOne_18 (by decide) (fun c8 => ?_) (fun c8 => ?_)
          · exact absurd c8 (by omega)
          · refine lv_iinc (v := iI (ins + 1)) (lv' := [(4, .int (iI (ins + 1))), (0, .ref (ad 26)), (1, .ref (ad 20)), (2, .ref (G 6 j)), (3, .int (iI op))]) B.1 B.2.1 dX1_takesOne_21 hl (k := 0) rfl (iI_add _ _) (by decide) rfl (fun ls hl => ?_)
            refine lv_goto (tgt := 3) B.1 B.2.1 dX1_takesOne_24 (by decide) ?_
            exact ih3 ((ins + 1)) (by omega) (by omega) _ _ _ h (lv_sub hl [0, 1, 2, 3, 4] rfl)
        · show W p l e r_c_X1_takesOne_0 s m args below meth c _ _ 0 0 Qf (F0 m 18 ls [.int (iI 0)])
          refine x_if_eq B (by omega) (tgt := 27) dX1_takesOne_18 (by decide) (fun c9 => ?_) (fun c9 => ?_)
          · have join81 : ∀ (tk : Int), (tk = 0 ∨ tk = 1) → ∀ (H : Heap) (locs : List Loc) (ls : Array Slot), yH D Zk A s w H locs → lv_has ls 6 [(4, .int (iI ins)), (2, .ref (G 6 j)), (3, .int (iI op))] → W p l e r_c_X1_takesOne_0 s m args below meth c H locs 0 0 Qf (F0 m 81 ls [.int (iI tk)]) := by
              intro tk hk0 H locs ls h hl
              refine lv_istore (lv' := [(5, .int (iI tk)), (4, .int (iI ins)), (2, .ref (G 6 j)), (3, .int (iI op))]) B.1 B.2.1 dX1_takesOne_81 hl (by decide) rfl (fun ls hl => ?_)
              refine lv_iload B.1 B.2.1 dX1_takesOne_83 (lv_at hl 0 rfl) ?_
              refine x_if_eq B (by omega) (tgt := 103) dX1_takesOne_85 (by decide) (fun c10 => ?_) (fun c10 => ?_)
              · refine lv_iload B.1 B.2.1 dX1_takesOne_103 (lv_at hl 0 rfl) ?_
                refine y_rz B hQ h (by decide) (nz01 (by omega)) dX1_takesOne_105 ?_
                rcases (show tk = 1 ∨ tk = 0 by omega) with e9 | e9
                · exact ⟨rfl, _, rfl, Or.inl ⟨e9, (by first | omega | trivial | assumption)⟩⟩
                · exact ⟨rfl, _, rfl, Or.inr ⟨e9, (by first | omega | trivial | assumption)⟩⟩
              · refine lv_iload B.1 B.2.1 dX1_takesOne_88 (lv_at hl 1 rfl) ?_
                refine lv_iload_n B.1 B.2.1 dX1_takesOne_90 rfl (lv_at hl 3 rfl) ?_
                refine x_isub B dX1_takesOne_91 ?_
                refine x_iconst B dX1_takesOne_92 ?_
                refine x_irem B (by omega) dX1_takesOne_93 ?_
                refine x_iconst B dX1_takesOne_94 ?_
                refine x_icmp_ne B (by omega) (tgt := 103) dX1_takesOne_95 (by decide) (fun c11 => ?_) (fun c11 => ?_)
                · refine lv_iload B.1 B.2.1 dX1_takesOne_103 (lv_at hl 0 rfl) ?_
                  refine y_rz B hQ h (by decide) (nz01 (by omega)) dX1_takesOne_105 ?_
                  rcases (show tk = 1 ∨ tk = 0 by omega) with e9 | e9
                  · exact ⟨rfl, _, rfl, Or.inl ⟨e9, (by first | omega | trivial | assumption)⟩⟩
                  · exact ⟨rfl, _, rfl, Or.inr ⟨e9, (by first | omega | trivial | assumption)⟩⟩
                · refine lv_aload_n B.1 B.2.1 dX1_takesOne_98 rfl (lv_at hl 2 rfl) ?_
                  refine x_iconst B dX1_takesOne_99 ?_
                  refine y_cV B h kX5 (1000 + 16 * j.toNat + 6) fo1.1 k_X5_addStep rfl (c_X5_addStep l D Zk ca T G u ad _ hC j ((-1))  (by omega) (by omega)) m_793 rfl (by decide) hl.1 [] (Nat.le_of_ble_eq_true rfl) rfl dX1_takesOne_100 (fun r w1 hq H locs h => ?_)
                  obtain ⟨rfl, rfl⟩ := hq
                  show W p l e r_c_X1_takesOne_0 s m args below meth c _ _ 0 0 Qf (F0 m 103 ls [])
                  refine lv_iload B.1 B.2.1 dX1_takesOne_103 (lv_at hl 0 rfl) ?_
                  refine y_rz B hQ h (by decide) (nz01 (by omega)) dX1_takesOne_105 ?_
                  rcases (show tk = 1 ∨ tk = 0 by omega) with e9 | e9
                  · exact ⟨rfl, _, rfl, Or.inl ⟨e9, (by first | omega | trivial | assumption)⟩⟩
                  · exact ⟨rfl, _, rfl, Or.inr ⟨e9, (by first | omega | trivial | assumption)⟩⟩
            refine lv_iload B.1 B.2.1 dX1_takesOne_27 (lv_at hl 0 rfl) ?_
            refine x_bipush B (by decide) dX1_takesOne_29 ?_
            refine x_icmp_ge B (by omega) (tgt := 75) dX1_takesOne_31 (by decide) (fun c12 => ?_) (fun c12 => ?_)
            · refine lv_aload_n B.1 B.2.1 dX1_takesOne_75 rfl (lv_at hl 1 rfl) ?_
              refine lv_aload_n B.1 B.2.1 dX1_takesOne_76 rfl (lv_at hl 2 rfl) ?_
              refine lv_aload_n B.1 B.2.1 dX1_takesOne_77 rfl (lv_at hl 3 rfl) ?_
              refine y_cV B h kX1 26 (CW.f hC 26 _ rfl) k_X1_takesComparison rfl (c_X1_takesComparison l D Zk ca T G u ad _ hC j  (by omega)) m_782 rfl (by decide) hl.1 [] (Nat.le_of_ble_eq_true rfl) rfl dX1_takesOne_78 (fun r w1 hq H locs h => ?_)
              obtain ⟨rfl, _, rfl, ⟨rfl, b13⟩ | ⟨rfl, b13⟩⟩ := hq
              · show W p l e r_c_X1_takesOne_0 s m args below meth c _ _ 0 0 Qf (F0 m 81 ls [.int (iI 1)])
                exact join81 1 (by omega) _ _ _ h (lv_sub hl [0, 3, 4] rfl)
              · show W p l e r_c_X1_takesOne_0 s m args below meth c _ _ 0 0 Qf (F0 m 81 ls [.int (iI 0)])
                exact join81 0 (by omega) _ _ _ h (lv_sub hl [0, 3, 4] rfl)
            · exact absurd c12 (by omega)
          · exact absurd c9 (by omega)
  exact loop3 (((9 - op : Int)).toNat + 1) op (by omega) (Nat.lt_succ_self _) _ _ _ h (lv_sub hl [0, 1, 2, 3, 4] rfl)
abbrev r_c_X1_takesAll_0 : Room := { frames := 3, cells := 0, slots := 0, locals := 74 }
set_option maxHeartbeats 4000000 in
set_option maxRecDepth 100000 in
theorem c_X1_takesAll_0 (l : Launch) (D : va_G) (Zk : yK) (ca : Nat → ClassId) (T : Nat → Int → Int) (G : Nat → Int → Nat) (u : Int) (ad : Nat → Nat) (w : yW) (hC : CW ca T G u ad w) (j : Int) (op : Int)  (hj : 0 ≤ j ∧ j < u) (hop : 9 ≤ op ∧ op ≤ 9) : yC l D Zk ca yX1_takesAll cX1_takesAll 5 (some .boolean) r_c_X1_takesAll_0 [.ref (ad 26), .ref (ad 20), .ref (G 6 j), .int (iI op)] w (vI w (fun z => (z = 1 ∧ (True)) ∨ (z = 0 ∧ (True)))) := by
  refine yC.of2 "WindWords$Grammar" (by decide) rfl (Nat.le_of_ble_eq_true rfl) ?_
  intro p e s m args below meth c A ls Qf B hnm h hl hQ
  have hl : lv_has ls 5 [(0, .ref (ad 26)), (1, .ref (ad 20)), (2, .ref (G 6 j)), (3, .int (iI op))] := hl
  have hs := pi_s (CW.pi hC)
  have fo1 := CW.ru hC j (by omega)
  refine lv_aload_n B.1 B.2.1 dX1_takesAll_0 rfl (lv_at hl 0 rfl) ?_
  refine lv_aload_n B.1 B.2.1 dX1_takesAll_1 rfl (lv_at hl 1 rfl) ?_
  refine lv_aload_n B.1 B.2.1 dX1_takesAll_2 rfl (lv_at hl 2 rfl) ?_
  refine lv_iload_n B.1 B.2.1 dX1_takesAll_3 rfl (lv_at hl 3 rfl) ?_
  refine y_cV B h kX1 26 (CW.f hC 26 _ rfl) k_X1_takesOne rfl (c_X1_takesOne_0 l D Zk ca T G u ad _ hC j op  (by omega) (by omega)) m_778 rfl (by decide) hl.1 [] (Nat.le_of_ble_eq_true rfl) rfl dX1_takesAll_4 (fun r w1 hq H locs h => ?_)
  obtain ⟨rfl, _, rfl, ⟨rfl, b2⟩ | ⟨rfl, b2⟩⟩ := hq
  · show W p l e r_c_X1_takesAll_0 s m args below meth c _ _ 0 0 Qf (F0 m 7 ls [.int (iI 1)])
    refine x_if_ne B (by omega) (tgt := 12) dX1_takesAll_7 (by decide) (fun c3 => ?_) (fun c3 => ?_)
    · refine x_iconst B dX1_takesAll_12 ?_
      refine lv_istore (lv' := [(4, .int (iI 0)), (0, .ref (ad 26)), (1, .ref (ad 20)), (2, .ref (G 6 j)), (3, .int (iI op))]) B.1 B.2.1 dX1_takesAll_13 hl (by decide) rfl (fun ls hl => ?_)
      have loop15 : ∀ (n15 : Nat) (i : Int), (0 ≤ i ∧ i ≤ 900) → ((900 - i : Int)).toNat < n15 → ∀ (H : Heap) (locs : List Loc) (ls : Array Slot), yH D Zk A s w H locs → lv_has ls 5 [(4, .int (iI i)), (0, .ref (ad 26)), (1, .ref (ad 20)), (2, .ref (G 6 j)), (3, .int (iI op))] → W p l e r_c_X1_takesAll_0 s m args below meth c H locs 0 0 Qf (F0 m 15 ls []) := by
        intro n15
        induction n15 with
        | zero =>
          intro i hi hm15 H locs ls h hl
          exact absurd hm15 (Nat.not_lt_zero _)
        | succ n15 ih15 =>
          intro i hi hm15 H locs ls h hl
          refine lv_iload B.1 B.2.1 dX1_takesAll_15 (lv_at hl 0 rfl) ?_
          refine lv_aload_n B.1 B.2.1 dX1_takesAll_17 rfl (lv_at hl 2 rfl) ?_
          refine y_getG B h kX9 20 (CW.f hC 20 _ rfl) 1 (lo := 0) (hi := 900) rfl m_291 (by decide) dX1_takesAll_18 (fun z4 z4a z4b => ?_)
          refine x_icmp_ge B (by omega) (tgt := 59) dX1_takesAll_21 (by decide) (fun c5 => ?_) (fun c5 => ?_)
          · refine x_iconst B dX1_takesAll_59 ?_
            refine y_rz B hQ h (by decide) (by decide) dX1_takesAll_60 ?_
            exact ⟨rfl, _, rfl, Or.inl ⟨rfl, (by first | omega | trivial | assumption)⟩⟩
          · refine lv_aload_n B.1 B.2.1 dX1_takesAll_24 rfl (lv_at hl 1 rfl) ?_
            refine lv_aload_n B.1 B.2.1 dX1_takesAll_25 rfl (lv_at hl 2 rfl) ?_
            refine x_sipush B (by decide) dX1_takesAll_26 ?_
            refine y_cV B h kX1 26 (CW.f hC 26 _ rfl) k_X1_takes rfl (c_X1_takes l D Zk ca T G u ad _ hC 227  (by omega)) m_762 rfl (by decide) hl.1 [] (Nat.le_of_ble_eq_true rfl) rfl dX1_takesAll_29 (fun r w1 hq H locs h => ?_)
            obtain ⟨rfl, _, rfl, ⟨rfl, b6⟩ | ⟨rfl, b6⟩⟩ := hq
            · show W p l e r_c_X1_takesAll_0 s m args below meth c _ _ 0 0 Qf (F0 m 32 ls [.int (iI 1)])
              refine x_if_eq B (by omega) (tgt := 59) dX1_takesAll_32 (by decide) (fun c7 => ?_) (fun c7 => ?_)
              · exact absurd c7 (by omega)
              · refine lv_aload_n B.1 B.2.1 dX1_takesAll_35 rfl (lv_at hl 1 rfl) ?_
                refine lv_aload_n B.1 B.2.1 dX1_takesAll_36 rfl (lv_at hl 2 rfl) ?_
                refine lv_aload_n B.1 B.2.1 dX1_takesAll_37 rfl (lv_at hl 3 rfl) ?_
                refine lv_iload_n B.1 B.2.1 dX1_takesAll_38 rfl (lv_at hl 4 rfl) ?_
                refine y_cV B h kX1 26 (CW.f hC 26 _ rfl) k_X1_takesOne rfl (c_X1_takesOne_0 l D Zk ca T G u ad _ hC j op  (by omega) (by omega)) m_778 rfl (by decide) hl.1 [] (Nat.le_of_ble_eq_true rfl) rfl dX1_takesAll_39 (fun r w1 hq H locs h => ?_)
                obtain ⟨rfl, _, rfl, ⟨rfl, b8⟩ | ⟨rfl, b8⟩⟩ := hq
                · show W p l e r_c_X1_takesAll_0 s m args below meth c _ _ 0 0 Qf (F0 m 42 ls [.int (iI 1)])
                  refine x_if_ne B (by omega) (tgt := 47) dX1_takesAll_42 (by decide) (fun c9 => ?_) (fun c9 => ?_)
                  · refine lv_aload_n B.1 B.2.1 dX1_takesAll_47 rfl (lv_at hl 3 rfl) ?_
                    refine x_bipush B (by decide) dX1_takesAll_48 ?_
                    refine y_cV B h kX5 (1000 + 16 * j.toNat + 6) fo1.1 k_X5_addStep rfl (c_X5_addStep l D Zk ca T G u ad _ hC j ((-2))  (by omega) (by omega)) m_793 rfl (by decide) hl.1 [] (Nat.le_of_ble_eq_true rfl) rfl dX1_takesAll_50 (fun r w1 hq H locs h => ?_)
                    obtain ⟨rfl, rfl⟩ := hq
                    show W p l e r_c_X1_takesAll_0 s m args below meth c _ _ 0 0 Qf (F0 m 53 ls [])
                    refine lv_iinc (v := iI (i + 1)) (lv' := [(4, .int (iI (i + 1))), (0, .ref (ad 26)), (1, .ref (ad 20)), (2, .ref (G 6 j)), (3, .int (iI op))]) B.1 B.2.1 dX1_takesAll_53 hl (k := 0) rfl (iI_add _ _) (by decide) rfl (fun ls hl => ?_)
                    refine lv_goto (tgt := 15) B.1 B.2.1 dX1_takesAll_56 (by decide) ?_
                    exact ih15 ((i + 1)) (by omega) (by omega) _ _ _ h (lv_sub hl [0, 1, 2, 3, 4] rfl)
                  · exact absurd c9 (by omega)
                · show W p l e r_c_X1_takesAll_0 s m args below meth c _ _ 0 0 Qf (F0 m 42 ls [.int (iI 0)])
                  refine x_if_ne B (by omega) (tgt := 47) dX1_takesAll_42 (by decide) (fun c10 => ?_) (fun c10 => ?_)
                  · exact absurd c10 (by omega)
                  · refine x_iconst B dX1_takesAll_45 ?_
                    refine y_rz B hQ h (by decide) (by decide) dX1_takesAll_46 ?_
                    exact ⟨rfl, _, rfl, Or.inr ⟨rfl, (by first | omega | trivial | assumption)⟩⟩
            · show W p l e r_c_X1_takesAll_0 s m args below meth c _ _ 0 0 Qf (F0 m 32 ls [.int (iI 0)])
              refine x_if_eq B (by omega) (tgt := 59) dX1_takesAll_32 (by decide) (fun c11 => ?_) (fun c11 => ?_)
              · refine x_iconst B dX1_takesAll_59 ?_
                refine y_rz B hQ h (by decide) (by decide) dX1_takesAll_60 ?_
                exact ⟨rfl, _, rfl, Or.inl ⟨rfl, (by first | omega | trivial | assumption)⟩⟩
              · exact absurd c11 (by omega)
      exact loop15 (((900 - 0 : Int)).toNat + 1) 0 (by omega) (Nat.lt_succ_self _) _ _ _ h (lv_sub hl [0, 1, 2, 3, 4] rfl)
    · exact absurd c3 (by omega)
  · show W p l e r_c_X1_takesAll_0 s m args below meth c _ _ 0 0 Qf (F0 m 7 ls [.int (iI 0)])
    refine x_if_ne B (by omega) (tgt := 12) dX1_takesAll_7 (by decide) (fun c12 => ?_) (fun c12 => ?_)
    · exact absurd c12 (by omega)
    · refine x_iconst B dX1_takesAll_10 ?_
      refine y_rz B hQ h (by decide) (by decide) dX1_takesAll_11 ?_
      exact ⟨rfl, _, rfl, Or.inr ⟨rfl, (by first | omega | trivial | assumption)⟩⟩
abbrev r_c_X1_takesAny_0 : Room := { frames := 4, cells := 0, slots := 0, locals := 98 }
set_option maxHeartbeats 4000000 in
set_option maxRecDepth 100000 in
theorem c_X1_takesAny_0 (l : Launch) (D : va_G) (Zk : yK) (ca : Nat → ClassId) (T : Nat → Int → Int) (G : Nat → Int → Nat) (u : Int) (ad : Nat → Nat) (w : yW) (hC : CW ca T G u ad w) (j : Int) (op : Int)  (hj : 0 ≤ j ∧ j < u) (hop : 9 ≤ op ∧ op ≤ 9) : yC l D Zk ca yX1_takesAny cX1_takesAny 5 (some .boolean) r_c_X1_takesAny_0 [.ref (ad 26), .ref (ad 20), .ref (G 6 j), .int (iI op)] w (vI w (fun z => (z = 1 ∧ (True)) ∨ (z = 0 ∧ (True)))) := by
  refine yC.of2 "WindWords$Grammar" (by decide) rfl (Nat.le_of_ble_eq_true rfl) ?_
  intro p e s m args below meth c A ls Qf B hnm h hl hQ
  have hl : lv_has ls 5 [(0, .ref (ad 26)), (1, .ref (ad 20)), (2, .ref (G 6 j)), (3, .int (iI op))] := hl
  have hs := pi_s (CW.pi hC)
  have fo1 := CW.ru hC j (by omega)
  refine lv_aload_n B.1 B.2.1 dX1_takesAny_0 rfl (lv_at hl 0 rfl) ?_
  refine lv_aload_n B.1 B.2.1 dX1_takesAny_1 rfl (lv_at hl 1 rfl) ?_
  refine lv_aload_n B.1 B.2.1 dX1_takesAny_2 rfl (lv_at hl 2 rfl) ?_
  refine lv_iload_n B.1 B.2.1 dX1_takesAny_3 rfl (lv_at hl 3 rfl) ?_
  refine y_cV B h kX1 26 (CW.f hC 26 _ rfl) k_X1_takesAll rfl (c_X1_takesAll_0 l D Zk ca T G u ad _ hC j op  (by omega) (by omega)) m_774 rfl (by decide) hl.1 [] (Nat.le_of_ble_eq_true rfl) rfl dX1_takesAny_4 (fun r w1 hq H locs h => ?_)
  obtain ⟨rfl, _, rfl, ⟨rfl, b2⟩ | ⟨rfl, b2⟩⟩ := hq
  · show W p l e r_c_X1_takesAny_0 s m args below meth c _ _ 0 0 Qf (F0 m 7 ls [.int (iI 1)])
    refine x_if_ne B (by omega) (tgt := 12) dX1_takesAny_7 (by decide) (fun c3 => ?_) (fun c3 => ?_)
    · refine x_iconst B dX1_takesAny_12 ?_
      refine lv_istore (lv' := [(4, .int (iI 0)), (0, .ref (ad 26)), (1, .ref (ad 20)), (2, .ref (G 6 j)), (3, .int (iI op))]) B.1 B.2.1 dX1_takesAny_13 hl (by decide) rfl (fun ls hl => ?_)
      have loop15 : ∀ (n15 : Nat) (i : Int), (0 ≤ i ∧ i ≤ 900) → ((900 - i : Int)).toNat < n15 → ∀ (H : Heap) (locs : List Loc) (ls : Array Slot), yH D Zk A s w H locs → lv_has ls 5 [(4, .int (iI i)), (0, .ref (ad 26)), (1, .ref (ad 20)), (2, .ref (G 6 j)), (3, .int (iI op))] → W p l e r_c_X1_takesAny_0 s m args below meth c H locs 0 0 Qf (F0 m 15 ls []) := by
        intro n15
        induction n15 with
        | zero =>
          intro i hi hm15 H locs ls h hl
          exact absurd hm15 (Nat.not_lt_zero _)
        | succ n15 ih15 =>
          intro i hi hm15 H locs ls h hl
          refine lv_iload B.1 B.2.1 dX1_takesAny_15 (lv_at hl 0 rfl) ?_
          refine lv_aload_n B.1 B.2.1 dX1_takesAny_17 rfl (lv_at hl 2 rfl) ?_
          refine y_getG B h kX9 20 (CW.f hC 20 _ rfl) 1 (lo := 0) (hi := 900) rfl m_291 (by decide) dX1_takesAny_18 (fun z4 z4a z4b => ?_)
          refine x_icmp_ge B (by omega) (tgt := 59) dX1_takesAny_21 (by decide) (fun c5 => ?_) (fun c5 => ?_)
          · refine x_iconst B dX1_takesAny_59 ?_
            refine y_rz B hQ h (by decide) (by decide) dX1_takesAny_60 ?_
            exact ⟨rfl, _, rfl, Or.inl ⟨rfl, (by first | omega | trivial | assumption)⟩⟩
          · refine lv_aload_n B.1 B.2.1 dX1_takesAny_24 rfl (lv_at hl 1 rfl) ?_
            refine lv_aload_n B.1 B.2.1 dX1_takesAny_25 rfl (lv_at hl 2 rfl) ?_
            refine x_sipush B (by decide) dX1_takesAny_26 ?_
            refine y_cV B h kX1 26 (CW.f hC 26 _ rfl) k_X1_takes rfl (c_X1_takes l D Zk ca T G u ad _ hC 228  (by omega)) m_762 rfl (by decide) hl.1 [] (Nat.le_of_ble_eq_true rfl) rfl dX1_takesAny_29 (fun r w1 hq H locs h => ?_)
            obtain ⟨rfl, _, rfl, ⟨rfl, b6⟩ | ⟨rfl, b6⟩⟩ := hq
            · show W p l e r_c_X1_takesAny_0 s m args below meth c _ _ 0 0 Qf (F0 m 32 ls [.int (iI 1)])
              refine x_if_eq B (by omega) (tgt := 59) dX1_takesAny_32 (by decide) (fun c7 => ?_) (fun c7 => ?_)
              · exact absurd c7 (by omega)
              · refine lv_aload_n B.1 B.2.1 dX1_takesAny_35 rfl (lv_at hl 1 rfl) ?_
                refine lv_aload_n B.1 B.2.1 dX1_takesAny_36 rfl (lv_at hl 2 rfl) ?_
                refine lv_aload_n B.1 B.2.1 dX1_takesAny_37 rfl (lv_at hl 3 rfl) ?_
                refine lv_iload_n B.1 B.2.1 dX1_takesAny_38 rfl (lv_at hl 4 rfl) ?_
                refine y_cV B h kX1 26 (CW.f hC 26 _ rfl) k_X1_takesAll rfl (c_X1_takesAll_0 l D Zk ca T G u ad _ hC j op  (by omega) (by omega)) m_774 rfl (by decide) hl.1 [] (Nat.le_of_ble_eq_true rfl) rfl dX1_takesAny_39 (fun r w1 hq H locs h => ?_)
                obtain ⟨rfl, _, rfl, ⟨rfl, b8⟩ | ⟨rfl, b8⟩⟩ := hq
                · show W p l e r_c_X1_takesAny_0 s m args below meth c _ _ 0 0 Qf (F0 m 42 ls [.int (iI 1)])
                  refine x_if_ne B (by omega) (tgt := 47) dX1_takesAny_42 (by decide) (fun c9 => ?_) (fun c9 => ?_)
                  · refine lv_aload_n B.1 B.2.1 dX1_takesAny_47 rfl (lv_at hl 3 rfl) ?_
                    refine x_bipush B (by decide) dX1_takesAny_48 ?_
                    refine y_cV B h kX5 (1000 + 16 * j.toNat + 6) fo1.1 k_X5_addStep rfl (c_X5_addStep l D Zk ca T G u ad _ hC j ((-3))  (by omega) (by omega)) m_793 rfl (by decide) hl.1 [] (Nat.le_of_ble_eq_true rfl) rfl dX1_takesAny_50 (fun r w1 hq H locs h => ?_)
                    obtain ⟨rfl, rfl⟩ := hq
                    show W p l e r_c_X1_takesAny_0 s m args below meth c _ _ 0 0 Qf (F0 m 53 ls [])
                    refine lv_iinc (v := iI (i + 1)) (lv' := [(4, .int (iI (i + 1))), (0, .ref (ad 26)), (1, .ref (ad 20)), (2, .ref (G 6 j)), (3, .int (iI op))]) B.1 B.2.1 dX1_takesAny_53 hl (k := 0) rfl (iI_add _ _) (by decide) rfl (fun ls hl => ?_)
                    refine lv_goto (tgt := 15) B.1 B.2.1 dX1_takesAny_56 (by decide) ?_
                    exact ih15 ((i + 1)) (by omega) (by omega) _ _ _ h (lv_sub hl [0, 1, 2, 3, 4] rfl)
                  · exact absurd c9 (by omega)
                · show W p l e r_c_X1_takesAny_0 s m args below meth c _ _ 0 0 Qf (F0 m 42 ls [.int (iI 0)])
                  refine x_if_ne B (by omega) (tgt := 47) dX1_takesAny_42 (by decide) (fun c10 => ?_) (fun c10 => ?_)
                  · exact absurd c10 (by omega)
                  · refine x_iconst B dX1_takesAny_45 ?_
                    refine y_rz B hQ h (by decide) (by decide) dX1_takesAny_46 ?_
                    exact ⟨rfl, _, rfl, Or.inr ⟨rfl, (by first | omega | trivial | assumption)⟩⟩
            · show W p l e r_c_X1_takesAny_0 s m args below meth c _ _ 0 0 Qf (F0 m 32 ls [.int (iI 0)])
              refine x_if_eq B (by omega) (tgt := 59) dX1_takesAny_32 (by decide) (fun c11 => ?_) (fun c11 => ?_)
              · refine x_iconst B dX1_takesAny_59 ?_
                refine y_rz B hQ h (by decide) (by decide) dX1_takesAny_60 ?_
                exact ⟨rfl, _, rfl, Or.inl ⟨rfl, (by first | omega | trivial | assumption)⟩⟩
              · exact absurd c11 (by omega)
      exact loop15 (((900 - 0 : Int)).toNat + 1) 0 (by omega) (Nat.lt_succ_self _) _ _ _ h (lv_sub hl [0, 1, 2, 3, 4] rfl)
    · exact absurd c3 (by omega)
  · show W p l e r_c_X1_takesAny_0 s m args below meth c _ _ 0 0 Qf (F0 m 7 ls [.int (iI 0)])
    refine x_if_ne B (by omega) (tgt := 12) dX1_takesAny_7 (by decide) (fun c12 => ?_) (fun c12 => ?_)
    · exact absurd c12 (by omega)
    · refine x_iconst B dX1_takesAny_10 ?_
      refine y_rz B hQ h (by decide) (by decide) dX1_takesAny_11 ?_
      exact ⟨rfl, _, rfl, Or.inr ⟨rfl, (by first | omega | trivial | assumption)⟩⟩
abbrev r_c_X1_takesOne_1 : Room := { frames := 5, cells := 0, slots := 0, locals := 122 }
set_option maxHeartbeats 4000000 in
set_option maxRecDepth 100000 in
theorem c_X1_takesOne_1 (l : Launch) (D : va_G) (Zk : yK) (ca : Nat → ClassId) (T : Nat → Int → Int) (G : Nat → Int → Nat) (u : Int) (ad : Nat → Nat) (w : yW) (hC : CW ca T G u ad w) (j : Int) (op : Int)  (hj : 0 ≤ j ∧ j < u) (hop : 8 ≤ op ∧ op ≤ 9) : yC l D Zk ca yX1_takesOne cX1_takesOne 6 (some .boolean) r_c_X1_takesOne_1 [.ref (ad 26), .ref (ad 20), .ref (G 6 j), .int (iI op)] w (vI w (fun z => (z = 1 ∧ (True)) ∨ (z = 0 ∧ (True)))) := by
  refine yC.of2 "WindWords$Grammar" (by decide) rfl (Nat.le_of_ble_eq_true rfl) ?_
  intro p e s m args below meth c A ls Qf B hnm h hl hQ
  have hl : lv_has ls 6 [(0, .ref (ad 26)), (1, .ref (ad 20)), (2, .ref (G 6 j)), (3, .int (iI op))] := hl
  have hs := pi_s (CW.pi hC)
  have fo1 := CW.ru hC j (by omega)
  refine lv_iload_n B.1 B.2.1 dX1_takesOne_0 rfl (lv_at hl 3 rfl) ?_
  refine lv_istore (lv' := [(4, .int (iI op)), (0, .ref (ad 26)), (1, .ref (ad 20)), (2, .ref (G 6 j)), (3, .int (iI op))]) B.1 B.2.1 dX1_takesOne_1 hl (by decide) rfl (fun ls hl => ?_)
  have loop3 : ∀ (n3 : Nat) (ins : Int), (op ≤ ins ∧ ins ≤ 9) → ((9 - ins : Int)).toNat < n3 → ∀ (H : Heap) (locs : List Loc) (ls : Array Slot), yH D Zk A s w H locs → lv_has ls 6 [(4, .int (iI ins)), (0, .ref (ad 26)), (1, .ref (ad 20)), (2, .ref (G 6 j)), (3, .int (iI op))] → W p l e r_c_X1_takesOne_1 s m args below meth c H locs 0 0 Qf (F0 m 3 ls []) := by
    intro n3
    induction n3 with
    | zero =>
      intro ins hi hm3 H locs ls h hl
      exact absurd hm3 (Nat.not_lt_zero _)
    | succ n3 ih3 =>
      intro ins hi hm3 H locs ls h hl
      refine lv_iload B.1 B.2.1 dX1_takesOne_3 (lv_at hl 0 rfl) ?_
      refine x_bipush B (by decide) dX1_takesOne_5 ?_
      refine x_icmp_ge B (by omega) (tgt := 27) dX1_takesOne_7 (by decide) (fun c2 => ?_) (fun c2 => ?_)
      · have join81 : ∀ (tk : Int), (tk = 0 ∨ tk = 1) → ∀ (H : Heap) (locs : List Loc) (ls : Array Slot), yH D Zk A s w H locs → lv_has ls 6 [(4, .int (iI ins)), (2, .ref (G 6 j)), (3, .int (iI op))] → W p l e r_c_X1_takesOne_1 s m args below meth c H locs 0 0 Qf (F0 m 81 ls [.int (iI tk)]) := by
          intro tk hk0 H locs ls h hl
          refine lv_istore (lv' := [(5, .int (iI tk)), (4, .int (iI ins)), (2, .ref (G 6 j)), (3, .int (iI op))]) B.1 B.2.1 dX1_takesOne_81 hl (by decide) rfl (fun ls hl => ?_)
          refine lv_iload B.1 B.2.1 dX1_takesOne_83 (lv_at hl 0 rfl) ?_
          refine x_if_eq B (by omega) (tgt := 103) dX1_takesOne_85 (by decide) (fun c3 => ?_) (fun c3 => ?_)
          · refine lv_iload B.1 B.2.1 dX1_takesOne_103 (lv_at hl 0 rfl) ?_
            refine y_rz B hQ h (by decide) (nz01 (by omega)) dX1_takesOne_105 ?_
            rcases (show tk = 1 ∨ tk = 0 by omega) with e9 | e9
            · exact ⟨rfl, _, rfl, Or.inl ⟨e9, (by first | omega | trivial | assumption)⟩⟩
            · exact ⟨rfl, _, rfl, Or.inr ⟨e9, (by first | omega | trivial | assumption)⟩⟩
          · refine lv_iload B.1 B.2.1 dX1_takesOne_88 (lv_at hl 1 rfl) ?_
            refine lv_iload_n B.1 B.2.1 dX1_takesOne_90 rfl (lv_at hl 3 rfl) ?_
            refine x_isub B dX1_takesOne_91 ?_
            refine x_iconst B dX1_takesOne_92 ?_
            refine x_irem B (by omega) dX1_takesOne_93 ?_
            refine x_iconst B dX1_takesOne_94 ?_
            refine x_icmp_ne B (by omega) (tgt := 103) dX1_takesOne_95 (by decide) (fun c4 => ?_) (fun c4 => ?_)
            · refine lv_iload B.1 B.2.1 dX1_takesOne_103 (lv_at hl 0 rfl) ?_
              refine y_rz B hQ h (by decide) (nz01 (by omega)) dX1_takesOne_105 ?_
              rcases (show tk = 1 ∨ tk = 0 by omega) with e9 | e9
              · exact ⟨rfl, _, rfl, Or.inl ⟨e9, (by first | omega | trivial | assumption)⟩⟩
              · exact ⟨rfl, _, rfl, Or.inr ⟨e9, (by first | omega | trivial | assumption)⟩⟩
            · refine lv_aload_n B.1 B.2.1 dX1_takesOne_98 rfl (lv_at hl 2 rfl) ?_
              refine x_iconst B dX1_takesOne_99 ?_
              refine y_cV B h kX5 (1000 + 16 * j.toNat + 6) fo1.1 k_X5_addStep rfl (c_X5_addStep l D Zk ca T G u ad _ hC j ((-1))  (by omega) (by omega)) m_793 rfl (by decide) hl.1 [] (Nat.le_of_ble_eq_true rfl) rfl dX1_takesOne_100 (fun r w1 hq H locs h => ?_)
              obtain ⟨rfl, rfl⟩ := hq
              show W p l e r_c_X1_takesOne_1 s m args below meth c _ _ 0 0 Qf (F0 m 103 ls [])
              refine lv_iload B.1 B.2.1 dX1_takesOne_103 (lv_at hl 0 rfl) ?_
              refine y_rz B hQ h (by decide) (nz01 (by omega)) dX1_takesOne_105 ?_
              rcases (show tk = 1 ∨ tk = 0 by omega) with e9 | e9
              · exact ⟨rfl, _, rfl, Or.inl ⟨e9, (by first | omega | trivial | assumption)⟩⟩
              · exact ⟨rfl, _, rfl, Or.inr ⟨e9, (by first | omega | trivial | assumption)⟩⟩
        refine lv_iload B.1 B.2.1 dX1_takesOne_27 (lv_at hl 0 rfl) ?_
        refine x_bipush B (by decide) dX1_takesOne_29 ?_
        refine x_icmp_ge B (by omega) (tgt := 75) dX1_takesOne_31 (by decide) (fun c5 => ?_) (fun c5 => ?_)
        · refine lv_aload_n B.1 B.2.1 dX1_takesOne_75 rfl (lv_at hl 1 rfl) ?_
          refine lv_aload_n B.1 B.2.1 dX1_takesOne_76 rfl (lv_at hl 2 rfl) ?_
          refine lv_aload_n B.1 B.2.1 dX1_takesOne_77 rfl (lv_at hl 3 rfl) ?_
          refine y_cV B h kX1 26 (CW.f hC 26 _ rfl) k_X1_takesComparison rfl (c_X1_takesComparison l D Zk ca T G u ad _ hC j  (by omega)) m_782 rfl (by decide) hl.1 [] (Nat.le_of_ble_eq_true rfl) rfl dX1_takesOne_78 (fun r w1 hq H locs h => ?_)
          obtain ⟨rfl, _, rfl, ⟨rfl, b6⟩ | ⟨rfl, b6⟩⟩ := hq
          · show W p l e r_c_X1_takesOne_1 s m args below meth c _ _ 0 0 Qf (F0 m 81 ls [.int (iI 1)])
            exact join81 1 (by omega) _ _ _ h (lv_sub hl [0, 3, 4] rfl)
          · show W p l e r_c_X1_takesOne_1 s m args below meth c _ _ 0 0 Qf (F0 m 81 ls [.int (iI 0)])
            exact join81 0 (by omega) _ _ _ h (lv_sub hl [0, 3, 4] rfl)
        · refine lv_aload_n B.1 B.2.1 dX1_takesOne_34 rfl (lv_at hl 1 rfl) ?_
          refine lv_aload_n B.1 B.2.1 dX1_takesOne_35 rfl (lv_at hl 2 rfl) ?_
          refine x_bipush B (by decide) dX1_takesOne_36 ?_
          refine y_cV B h kX1 26 (CW.f hC 26 _ rfl) k_X1_takes rfl (c_X1_takes l D Zk ca T G u ad _ hC 40  (by omega)) m_762 rfl (by decide) hl.1 [] (Nat.le_of_ble_eq_true rfl) rfl dX1_takesOne_38 (fun r w1 hq H locs h => ?_)
          obtain ⟨rfl, _, rfl, ⟨rfl, b7⟩ | ⟨rfl, b7⟩⟩ := hq
          · show W p l e r_c_X1_takesOne_1 s m args below meth c _ _ 0 0 Qf (F0 m 41 ls [.int (iI 1)])
            refine x_if_eq B (by omega) (tgt := 75) dX1_takesOne_41 (by decide) (fun c8 => ?_) (fun c8 => ?_)
            · exact absurd c8 (by omega)
            · refine lv_aload_n B.1 B.2.1 dX1_takesOne_44 rfl (lv_at hl 1 rfl) ?_
              refine lv_aload_n B.1 B.2.1 dX1_takesOne_45 rfl (lv_at hl 2 rfl) ?_
              refine lv_aload_n B.1 B.2.1 dX1_takesOne_46 rfl (lv_at hl 3 rfl) ?_
              refine lv_iload B.1 B.2.1 dX1_takesOne_47 (lv_at hl 0 rfl) ?_
              refine x_iconst B dX1_takesOne_49 ?_
              refine x_iadd B dX1_takesOne_50 ?_
              refine y_cV B h kX1 26 (CW.f hC 26 _ rfl) k_X1_takesAny rfl (c_X1_takesAny_0 l D Zk ca T G u ad _ hC j ((ins + 1))  (by omega) (by omega)) m_770 rfl (by decide) hl.1 [] (Nat.le_of_ble_eq_true rfl) rfl dX1_takesOne_51 (fun r w1 hq H locs h => ?_)
              obtain ⟨rfl, _, rfl, ⟨rfl, b9⟩ | ⟨rfl, b9⟩⟩ := hq
              · show W p l e r_c_X1_takesOne_1 s m args below meth c _ _ 0 0 Qf (F0 m 54 ls [.int (iI 1)])
                refine x_if_eq B (by omega) (tgt := 71) dX1_takesOne_54 (by decide) (fun c10 => ?_) (fun c10 => ?_)
                · exact absurd c10 (by omega)
                · refine lv_aload_n B.1 B.2.1 dX1_takesOne_57 rfl (lv_at hl 1 rfl) ?_
                  refine lv_aload_n B.1 B.2.1 dX1_takesOne_58 rfl (lv_at hl 2 rfl) ?_
                  refine x_bipush B (by decide) dX1_takesOne_59 ?_
                  refine y_cV B h kX1 26 (CW.f hC 26 _ rfl) k_X1_takes rfl (c_X1_takes l D Zk ca T G u ad _ hC 41  (by omega)) m_762 rfl (by decide) hl.1 [] (Nat.le_of_ble_eq_true rfl) rfl dX1_takesOne_61 (fun r w1 hq H locs h => ?_)
                  obtain ⟨rfl, _, rfl, ⟨rfl, b11⟩ | ⟨rfl, b11⟩⟩ := hq
                  · show W p l e r_c_X1_takesOne_1 s m args below meth c _ _ 0 0 Qf (F0 m 64 ls [.int (iI 1)])
                    refine x_if_eq B (by omega) (tgt := 71) dX1_takesOne_64 (by decide) (fun c12 => ?_) (fun c12 => ?_)
                    · exact absurd c12 (by omega)
                    · refine x_iconst B dX1_takesOne_67 ?_
                      refine lv_goto (tgt := 81) B.1 B.2.1 dX1_takesOne_68 (by decide) ?_
                      exact join81 1 (by omega) _ _ _ h (lv_sub hl [0, 3, 4] rfl)
                  · show W p l e r_c_X1_takesOne_1 s m args below meth c _ _ 0 0 Qf (F0 m 64 ls [.int (iI 0)])
                    refine x_if_eq B (by omega) (tgt := 71) dX1_takesOne_64 (by decide) (fun c13 => ?_) (fun c13 => ?_)
                    · refine x_iconst B dX1_takesOne_71 ?_
                      refine lv_goto (tgt := 81) B.1 B.2.1 dX1_takesOne_72 (by decide) ?_
                      exact join81 0 (by omega) _ _ _ h (lv_sub hl [0, 3, 4] rfl)
                    · exact absurd c13 (by omega)
              · show W p l e r_c_X1_takesOne_1 s m args below meth c _ _ 0 0 Qf (F0 m 54 ls [.int (iI 0)])
                refine x_if_eq B (by omega) (tgt := 71) dX1_takesOne_54 (by decide) (fun c14 => ?_) (fun c14 => ?_)
                · refine x_iconst B dX1_takesOne_71 ?_
                  refine lv_goto (tgt := 81) B.1 B.2.1 dX1_takesOne_72 (by decide) ?_
                  exact join81 0 (by omega) _ _ _ h (lv_sub hl [0, 3, 4] rfl)
                · exact absurd c14 (by omega)
          · show W p l e r_c_X1_takesOne_1 s m args below meth c _ _ 0 0 Qf (F0 m 41 ls [.int (iI 0)])
            refine x_if_eq B (by omega) (tgt := 75) dX1_takesOne_41 (by decide) (fun c15 => ?_) (fun c15 => ?_)
            · refine lv_aload_n B.1 B.2.1 dX1_takesOne_75 rfl (lv_at hl 1 rfl) ?_
              refine lv_aload_n B.1 B.2.1 dX1_takesOne_76 rfl (lv_at hl 2 rfl) ?_
              refine lv_aload_n B.1 B.2.1 dX1_takesOne_77 rfl (lv_at hl 3 rfl) ?_
              refine y_cV B h kX1 26 (CW.f hC 26 _ rfl) k_X1_takesComparison rfl (c_X1_takesComparison l D Zk ca T G u ad _ hC j  (by omega)) m_782 rfl (by decide) hl.1 [] (Nat.le_of_ble_eq_true rfl) rfl dX1_takesOne_78 (fun r w1 hq H locs h => ?_)
              obtain ⟨rfl, _, rfl, ⟨rfl, b16⟩ | ⟨rfl, b16⟩⟩ := hq
              · show W p l e r_c_X1_takesOne_1 s m args below meth c _ _ 0 0 Qf (F0 m 81 ls [.int (iI 1)])
                exact join81 1 (by omega) _ _ _ h (lv_sub hl [0, 3, 4] rfl)
              · show W p l e r_c_X1_takesOne_1 s m args below meth c _ _ 0 0 Qf (F0 m 81 ls [.int (iI 0)])
                exact join81 0 (by omega) _ _ _ h (lv_sub hl [0, 3, 4] rfl)
            · exact absurd c15 (by omega)
      · refine lv_aload_n B.1 B.2.1 dX1_takesOne_10 rfl (lv_at hl 1 rfl) ?_
        refine lv_aload_n B.1 B.2.1 dX1_takesOne_11 rfl (lv_at hl 2 rfl) ?_
        refine x_sipush B (by decide) dX1_takesOne_12 ?_
        refine y_cV B h kX1 26 (CW.f hC 26 _ rfl) k_X1_takes rfl (c_X1_takes l D Zk ca T G u ad _ hC 229  (by omega)) m_762 rfl (by decide) hl.1 [] (Nat.le_of_ble_eq_true rfl) rfl dX1_takesOne_15 (fun r w1 hq H locs h => ?_)
        obtain ⟨rfl, _, rfl, ⟨rfl, b17⟩ | ⟨rfl, b17⟩⟩ := hq
        · show W p l e r_c_X1_takesOne_1 s m args below meth c _ _ 0 0 Qf (F0 m 18 ls [.int (iI 1)])
          refine x_if_eq B (by omega) (tgt := 27) dX1_takesOne_18 (by decide) (fun c18 => ?_) (fun c18 => ?_)
          · exact absurd c18 (by omega)
          · refine lv_iinc (v := iI (ins + 1)) (lv' := [(4, .int (iI (ins + 1))), (0, .ref (ad 26)), (1, .ref (ad 20)), (2, .ref (G 6 j)), (3, .int (iI op))]) B.1 B.2.1 dX1_takesOne_21 hl (k := 0) rfl (iI_add _ _) (by decide) rfl (fun ls hl => ?_)
            refine lv_goto (tgt := 3) B.1 B.2.1 dX1_takesOne_24 (by decide) ?_
            exact ih3 ((ins + 1)) (by omega) (by omega) _ _ _ h (lv_sub hl [0, 1, 2, 3, 4] rfl)
        · show W p l e r_c_X1_takesOne_1 s m args below meth c _ _ 0 0 Qf (F0 m 18 ls [.int (iI 0)])
          refine x_if_eq B (by omega) (tgt := 27) dX1_takesOne_18 (by decide) (fun c19 => ?_) (fun c19 => ?_)
          · have join81 : ∀ (tk : Int), (tk = 0 ∨ tk = 1) → ∀ (H : Heap) (locs : List Loc) (ls : Array Slot), yH D Zk A s w H locs → lv_has ls 6 [(4, .int (iI ins)), (2, .ref (G 6 j)), (3, .int (iI op))] → W p l e r_c_X1_takesOne_1 s m args below meth c H locs 0 0 Qf (F0 m 81 ls [.int (iI tk)]) := by
              intro tk hk0 H locs ls h hl
              refine lv_istore (lv' := [(5, .int (iI tk)), (4, .int (iI ins)), (2, .ref (G 6 j)), (3, .int (iI op))]) B.1 B.2.1 dX1_takesOne_81 hl (by decide) rfl (fun ls hl => ?_)
              refine lv_iload B.1 B.2.1 dX1_takesOne_83 (lv_at hl 0 rfl) ?_
              refine x_if_eq B (by omega) (tgt := 103) dX1_takesOne_85 (by decide) (fun c20 => ?_) (fun c20 => ?_)
              · refine lv_iload B.1 B.2.1 dX1_takesOne_103 (lv_at hl 0 rfl) ?_
                refine y_rz B hQ h (by decide) (nz01 (by omega)) dX1_takesOne_105 ?_
                rcases (show tk = 1 ∨ tk = 0 by omega) with e9 | e9
                · exact ⟨rfl, _, rfl, Or.inl ⟨e9, (by first | omega | trivial | assumption)⟩⟩
                · exact ⟨rfl, _, rfl, Or.inr ⟨e9, (by first | omega | trivial | assumption)⟩⟩
              · refine lv_iload B.1 B.2.1 dX1_takesOne_88 (lv_at hl 1 rfl) ?_
                refine lv_iload_n B.1 B.2.1 dX1_takesOne_90 rfl (lv_at hl 3 rfl) ?_
                refine x_isub B dX1_takesOne_91 ?_
                refine x_iconst B dX1_takesOne_92 ?_
                refine x_irem B (by omega) dX1_takesOne_93 ?_
                refine x_iconst B dX1_takesOne_94 ?_
                refine x_icmp_ne B (by omega) (tgt := 103) dX1_takesOne_95 (by decide) (fun c21 => ?_) (fun c21 => ?_)
                · refine lv_iload B.1 B.2.1 dX1_takesOne_103 (lv_at hl 0 rfl) ?_
                  refine y_rz B hQ h (by decide) (nz01 (by omega)) dX1_takesOne_105 ?_
                  rcases (show tk = 1 ∨ tk = 0 by omega) with e9 | e9
                  · exact ⟨rfl, _, rfl, Or.inl ⟨e9, (by first | omega | trivial | assumption)⟩⟩
                  · exact ⟨rfl, _, rfl, Or.inr ⟨e9, (by first | omega | trivial | assumption)⟩⟩
                · refine lv_aload_n B.1 B.2.1 dX1_takesOne_98 rfl (lv_at hl 2 rfl) ?_
                  refine x_iconst B dX1_takesOne_99 ?_
                  refine y_cV B h kX5 (1000 + 16 * j.toNat + 6) fo1.1 k_X5_addStep rfl (c_X5_addStep l D Zk ca T G u ad _ hC j ((-1))  (by omega) (by omega)) m_793 rfl (by decide) hl.1 [] (Nat.le_of_ble_eq_true rfl) rfl dX1_takesOne_100 (fun r w1 hq H locs h => ?_)
                  obtain ⟨rfl, rfl⟩ := hq
                  show W p l e r_c_X1_takesOne_1 s m args below meth c _ _ 0 0 Qf (F0 m 103 ls [])
                  refine lv_iload B.1 B.2.1 dX1_takesOne_103 (lv_at hl 0 rfl) ?_
                  refine y_rz B hQ h (by decide) (nz01 (by omega)) dX1_takesOne_105 ?_
                  rcases (show tk = 1 ∨ tk = 0 by omega) with e9 | e9
                  · exact ⟨rfl, _, rfl, Or.inl ⟨e9, (by first | omega | trivial | assumption)⟩⟩
                  · exact ⟨rfl, _, rfl, Or.inr ⟨e9, (by first | omega | trivial | assumption)⟩⟩
            refine lv_iload B.1 B.2.1 dX1_takesOne_27 (lv_at hl 0 rfl) ?_
            refine x_bipush B (by decide) dX1_takesOne_29 ?_
            refine x_icmp_ge B (by omega) (tgt := 75) dX1_takesOne_31 (by decide) (fun c22 => ?_) (fun c22 => ?_)
            · refine lv_aload_n B.1 B.2.1 dX1_takesOne_75 rfl (lv_at hl 1 rfl) ?_
              refine lv_aload_n B.1 B.2.1 dX1_takesOne_76 rfl (lv_at hl 2 rfl) ?_
              refine lv_aload_n B.1 B.2.1 dX1_takesOne_77 rfl (lv_at hl 3 rfl) ?_
              refine y_cV B h kX1 26 (CW.f hC 26 _ rfl) k_X1_takesComparison rfl (c_X1_takesComparison l D Zk ca T G u ad _ hC j  (by omega)) m_782 rfl (by decide) hl.1 [] (Nat.le_of_ble_eq_true rfl) rfl dX1_takesOne_78 (fun r w1 hq H locs h => ?_)
              obtain ⟨rfl, _, rfl, ⟨rfl, b23⟩ | ⟨rfl, b23⟩⟩ := hq
              · show W p l e r_c_X1_takesOne_1 s m args below meth c _ _ 0 0 Qf (F0 m 81 ls [.int (iI 1)])
                exact join81 1 (by omega) _ _ _ h (lv_sub hl [0, 3, 4] rfl)
              · show W p l e r_c_X1_takesOne_1 s m args below meth c _ _ 0 0 Qf (F0 m 81 ls [.int (iI 0)])
                exact join81 0 (by omega) _ _ _ h (lv_sub hl [0, 3, 4] rfl)
            · refine lv_aload_n B.1 B.2.1 dX1_takesOne_34 rfl (lv_at hl 1 rfl) ?_
              refine lv_aload_n B.1 B.2.1 dX1_takesOne_35 rfl (lv_at hl 2 rfl) ?_
              refine x_bipush B (by decide) dX1_takesOne_36 ?_
              refine y_cV B h kX1 26 (CW.f hC 26 _ rfl) k_X1_takes rfl (c_X1_takes l D Zk ca T G u ad _ hC 40  (by omega)) m_762 rfl (by decide) hl.1 [] (Nat.le_of_ble_eq_true rfl) rfl dX1_takesOne_38 (fun r w1 hq H locs h => ?_)
              obtain ⟨rfl, _, rfl, ⟨rfl, b24⟩ | ⟨rfl, b24⟩⟩ := hq
              · show W p l e r_c_X1_takesOne_1 s m args below meth c _ _ 0 0 Qf (F0 m 41 ls [.int (iI 1)])
                refine x_if_eq B (by omega) (tgt := 75) dX1_takesOne_41 (by decide) (fun c25 => ?_) (fun c25 => ?_)
                · exact absurd c25 (by omega)
                · refine lv_aload_n B.1 B.2.1 dX1_takesOne_44 rfl (lv_at hl 1 rfl) ?_
                  refine lv_aload_n B.1 B.2.1 dX1_takesOne_45 rfl (lv_at hl 2 rfl) ?_
                  refine lv_aload_n B.1 B.2.1 dX1_takesOne_46 rfl (lv_at hl 3 rfl) ?_
                  refine lv_iload B.1 B.2.1 dX1_takesOne_47 (lv_at hl 0 rfl) ?_
                  refine x_iconst B dX1_takesOne_49 ?_
                  refine x_iadd B dX1_takesOne_50 ?_
                  refine y_cV B h kX1 26 (CW.f hC 26 _ rfl) k_X1_takesAny rfl (c_X1_takesAny_0 l D Zk ca T G u ad _ hC j ((ins + 1))  (by omega) (by omega)) m_770 rfl (by decide) hl.1 [] (Nat.le_of_ble_eq_true rfl) rfl dX1_takesOne_51 (fun r w1 hq H locs h => ?_)
                  obtain ⟨rfl, _, rfl, ⟨rfl, b26⟩ | ⟨rfl, b26⟩⟩ := hq
                  · show W p l e r_c_X1_takesOne_1 s m args below meth c _ _ 0 0 Qf (F0 m 54 ls [.int (iI 1)])
                    refine x_if_eq B (by omega) (tgt := 71) dX1_takesOne_54 (by decide) (fun c27 => ?_) (fun c27 => ?_)
                    · exact absurd c27 (by omega)
                    · refine lv_aload_n B.1 B.2.1 dX1_takesOne_57 rfl (lv_at hl 1 rfl) ?_
                      refine lv_aload_n B.1 B.2.1 dX1_takesOne_58 rfl (lv_at hl 2 rfl) ?_
                      refine x_bipush B (by decide) dX1_takesOne_59 ?_
                      refine y_cV B h kX1 26 (CW.f hC 26 _ rfl) k_X1_takes rfl (c_X1_takes l D Zk ca T G u ad _ hC 41  (by omega)) m_762 rfl (by decide) hl.1 [] (Nat.le_of_ble_eq_true rfl) rfl dX1_takesOne_61 (fun r w1 hq H locs h => ?_)
                      obtain ⟨rfl, _, rfl, ⟨rfl, b28⟩ | ⟨rfl, b28⟩⟩ := hq
                      · show W p l e r_c_X1_takesOne_1 s m args below meth c _ _ 0 0 Qf (F0 m 64 ls [.int (iI 1)])
                        refine x_if_eq B (by omega) (tgt := 71) dX1_takesOne_64 (by decide) (fun c29 => ?_) (fun c29 => ?_)
                        · exact absurd c29 (by omega)
                        · refine x_iconst B dX1_takesOne_67 ?_
                          refine lv_goto (tgt := 81) B.1 B.2.1 dX1_takesOne_68 (by decide) ?_
                          exact join81 1 (by omega) _ _ _ h (lv_sub hl [0, 3, 4] rfl)
                      · show W p l e r_c_X1_takesOne_1 s m args below meth c _ _ 0 0 Qf (F0 m 64 ls [.int (iI 0)])
                        refine x_if_eq B (by omega) (tgt := 71) dX1_takesOne_64 (by decide) (fun c30 => ?_) (fun c30 => ?_)
                        · refine x_iconst B dX1_takesOne_71 ?_
                          refine lv_goto (tgt := 81) B.1 B.2.1 dX1_takesOne_72 (by decide) ?_
                          exact join81 0 (by omega) _ _ _ h (lv_sub hl [0, 3, 4] rfl)
                        · exact absurd c30 (by omega)
                  · show W p l e r_c_X1_takesOne_1 s m args below meth c _ _ 0 0 Qf (F0 m 54 ls [.int (iI 0)])
                    refine x_if_eq B (by omega) (tgt := 71) dX1_takesOne_54 (by decide) (fun c31 => ?_) (fun c31 => ?_)
                    · refine x_iconst B dX1_takesOne_71 ?_
                      refine lv_goto (tgt := 81) B.1 B.2.1 dX1_takesOne_72 (by decide) ?_
                      exact join81 0 (by omega) _ _ _ h (lv_sub hl [0, 3, 4] rfl)
                    · exact absurd c31 (by omega)
              · show W p l e r_c_X1_takesOne_1 s m args below meth c _ _ 0 0 Qf (F0 m 41 ls [.int (iI 0)])
                refine x_if_eq B (by omega) (tgt := 75) dX1_takesOne_41 (by decide) (fun c32 => ?_) (fun c32 => ?_)
                · refine lv_aload_n B.1 B.2.1 dX1_takesOne_75 rfl (lv_at hl 1 rfl) ?_
                  refine lv_aload_n B.1 B.2.1 dX1_takesOne_76 rfl (lv_at hl 2 rfl) ?_
                  refine lv_aload_n B.1 B.2.1 dX1_takesOne_77 rfl (lv_at hl 3 rfl) ?_
                  refine y_cV B h kX1 26 (CW.f hC 26 _ rfl) k_X1_takesComparison rfl (c_X1_takesComparison l D Zk ca T G u ad _ hC j  (by omega)) m_782 rfl (by decide) hl.1 [] (Nat.le_of_ble_eq_true rfl) rfl dX1_takesOne_78 (fun r w1 hq H locs h => ?_)
                  obtain ⟨rfl, _, rfl, ⟨rfl, b33⟩ | ⟨rfl, b33⟩⟩ := hq
                  · show W p l e r_c_X1_takesOne_1 s m args below meth c _ _ 0 0 Qf (F0 m 81 ls [.int (iI 1)])
                    exact join81 1 (by omega) _ _ _ h (lv_sub hl [0, 3, 4] rfl)
                  · show W p l e r_c_X1_takesOne_1 s m args below meth c _ _ 0 0 Qf (F0 m 81 ls [.int (iI 0)])
                    exact join81 0 (by omega) _ _ _ h (lv_sub hl [0, 3, 4] rfl)
                · exact absurd c32 (by omega)
          · exact absurd c19 (by omega)
  exact loop3 (((9 - op : Int)).toNat + 1) op (by omega) (Nat.lt_succ_self _) _ _ _ h (lv_sub hl [0, 1, 2, 3, 4] rfl)
abbrev r_c_X1_takesAll_1 : Room := { frames := 6, cells := 0, slots := 0, locals := 147 }
set_option maxHeartbeats 4000000 in
set_option maxRecDepth 100000 in
theorem c_X1_takesAll_1 (l : Launch) (D : va_G) (Zk : yK) (ca : Nat → ClassId) (T : Nat → Int → Int) (G : Nat → Int → Nat) (u : Int) (ad : Nat → Nat) (w : yW) (hC : CW ca T G u ad w) (j : Int) (op : Int)  (hj : 0 ≤ j ∧ j < u) (hop : 8 ≤ op ∧ op ≤ 9) : yC l D Zk ca yX1_takesAll cX1_takesAll 5 (some .boolean) r_c_X1_takesAll_1 [.ref (ad 26), .ref (ad 20), .ref (G 6 j), .int (iI op)] w (vI w (fun z => (z = 1 ∧ (True)) ∨ (z = 0 ∧ (True)))) := by
  refine yC.of2 "WindWords$Grammar" (by decide) rfl (Nat.le_of_ble_eq_true rfl) ?_
  intro p e s m args below meth c A ls Qf B hnm h hl hQ
  have hl : lv_has ls 5 [(0, .ref (ad 26)), (1, .ref (ad 20)), (2, .ref (G 6 j)), (3, .int (iI op))] := hl
  have hs := pi_s (CW.pi hC)
  have fo1 := CW.ru hC j (by omega)
  refine lv_aload_n B.1 B.2.1 dX1_takesAll_0 rfl (lv_at hl 0 rfl) ?_
  refine lv_aload_n B.1 B.2.1 dX1_takesAll_1 rfl (lv_at hl 1 rfl) ?_
  refine lv_aload_n B.1 B.2.1 dX1_takesAll_2 rfl (lv_at hl 2 rfl) ?_
  refine lv_iload_n B.1 B.2.1 dX1_takesAll_3 rfl (lv_at hl 3 rfl) ?_
  refine y_cV B h kX1 26 (CW.f hC 26 _ rfl) k_X1_takesOne rfl (c_X1_takesOne_1 l D Zk ca T G u ad _ hC j op  (by omega) (by omega)) m_778 rfl (by decide) hl.1 [] (Nat.le_of_ble_eq_true rfl) rfl dX1_takesAll_4 (fun r w1 hq H locs h => ?_)
  obtain ⟨rfl, _, rfl, ⟨rfl, b2⟩ | ⟨rfl, b2⟩⟩ := hq
  · show W p l e r_c_X1_takesAll_1 s m args below meth c _ _ 0 0 Qf (F0 m 7 ls [.int (iI 1)])
    refine x_if_ne B (by omega) (tgt := 12) dX1_takesAll_7 (by decide) (fun c3 => ?_) (fun c3 => ?_)
    · refine x_iconst B dX1_takesAll_12 ?_
      refine lv_istore (lv' := [(4, .int (iI 0)), (0, .ref (ad 26)), (1, .ref (ad 20)), (2, .ref (G 6 j)), (3, .int (iI op))]) B.1 B.2.1 dX1_takesAll_13 hl (by decide) rfl (fun ls hl => ?_)
      have loop15 : ∀ (n15 : Nat) (i : Int), (0 ≤ i ∧ i ≤ 900) → ((900 - i : Int)).toNat < n15 → ∀ (H : Heap) (locs : List Loc) (ls : Array Slot), yH D Zk A s w H locs → lv_has ls 5 [(4, .int (iI i)), (0, .ref (ad 26)), (1, .ref (ad 20)), (2, .ref (G 6 j)), (3, .int (iI op))] → W p l e r_c_X1_takesAll_1 s m args below meth c H locs 0 0 Qf (F0 m 15 ls []) := by
        intro n15
        induction n15 with
        | zero =>
          intro i hi hm15 H locs ls h hl
          exact absurd hm15 (Nat.not_lt_zero _)
        | succ n15 ih15 =>
          intro i hi hm15 H locs ls h hl
          refine lv_iload B.1 B.2.1 dX1_takesAll_15 (lv_at hl 0 rfl) ?_
          refine lv_aload_n B.1 B.2.1 dX1_takesAll_17 rfl (lv_at hl 2 rfl) ?_
          refine y_getG B h kX9 20 (CW.f hC 20 _ rfl) 1 (lo := 0) (hi := 900) rfl m_291 (by decide) dX1_takesAll_18 (fun z4 z4a z4b => ?_)
          refine x_icmp_ge B (by omega) (tgt := 59) dX1_takesAll_21 (by decide) (fun c5 => ?_) (fun c5 => ?_)
          · refine x_iconst B dX1_takesAll_59 ?_
            refine y_rz B hQ h (by decide) (by decide) dX1_takesAll_60 ?_
            exact ⟨rfl, _, rfl, Or.inl ⟨rfl, (by first | omega | trivial | assumption)⟩⟩
          · refine lv_aload_n B.1 B.2.1 dX1_takesAll_24 rfl (lv_at hl 1 rfl) ?_
            refine lv_aload_n B.1 B.2.1 dX1_takesAll_25 rfl (lv_at hl 2 rfl) ?_
            refine x_sipush B (by decide) dX1_takesAll_26 ?_
            refine y_cV B h kX1 26 (CW.f hC 26 _ rfl) k_X1_takes rfl (c_X1_takes l D Zk ca T G u ad _ hC 227  (by omega)) m_762 rfl (by decide) hl.1 [] (Nat.le_of_ble_eq_true rfl) rfl dX1_takesAll_29 (fun r w1 hq H locs h => ?_)
            obtain ⟨rfl, _, rfl, ⟨rfl, b6⟩ | ⟨rfl, b6⟩⟩ := hq
            · show W p l e r_c_X1_takesAll_1 s m args below meth c _ _ 0 0 Qf (F0 m 32 ls [.int (iI 1)])
              refine x_if_eq B (by omega) (tgt := 59) dX1_takesAll_32 (by decide) (fun c7 => ?_) (fun c7 => ?_)
              · exact absurd c7 (by omega)
              · refine lv_aload_n B.1 B.2.1 dX1_takesAll_35 rfl (lv_at hl 1 rfl) ?_
                refine lv_aload_n B.1 B.2.1 dX1_takesAll_36 rfl (lv_at hl 2 rfl) ?_
                refine lv_aload_n B.1 B.2.1 dX1_takesAll_37 rfl (lv_at hl 3 rfl) ?_
                refine lv_iload_n B.1 B.2.1 dX1_takesAll_38 rfl (lv_at hl 4 rfl) ?_
                refine y_cV B h kX1 26 (CW.f hC 26 _ rfl) k_X1_takesOne rfl (c_X1_takesOne_1 l D Zk ca T G u ad _ hC j op  (by omega) (by omega)) m_778 rfl (by decide) hl.1 [] (Nat.le_of_ble_eq_true rfl) rfl dX1_takesAll_39 (fun r w1 hq H locs h => ?_)
                obtain ⟨rfl, _, rfl, ⟨rfl, b8⟩ | ⟨rfl, b8⟩⟩ := hq
                · show W p l e r_c_X1_takesAll_1 s m args below meth c _ _ 0 0 Qf (F0 m 42 ls [.int (iI 1)])
                  refine x_if_ne B (by omega) (tgt := 47) dX1_takesAll_42 (by decide) (fun c9 => ?_) (fun c9 => ?_)
                  · refine lv_aload_n B.1 B.2.1 dX1_takesAll_47 rfl (lv_at hl 3 rfl) ?_
                    refine x_bipush B (by decide) dX1_takesAll_48 ?_
                    refine y_cV B h kX5 (1000 + 16 * j.toNat + 6) fo1.1 k_X5_addStep rfl (c_X5_addStep l D Zk ca T G u ad _ hC j ((-2))  (by omega) (by omega)) m_793 rfl (by decide) hl.1 [] (Nat.le_of_ble_eq_true rfl) rfl dX1_takesAll_50 (fun r w1 hq H locs h => ?_)
                    obtain ⟨rfl, rfl⟩ := hq
                    show W p l e r_c_X1_takesAll_1 s m args below meth c _ _ 0 0 Qf (F0 m 53 ls [])
                    refine lv_iinc (v := iI (i + 1)) (lv' := [(4, .int (iI (i + 1))), (0, .ref (ad 26)), (1, .ref (ad 20)), (2, .ref (G 6 j)), (3, .int (iI op))]) B.1 B.2.1 dX1_takesAll_53 hl (k := 0) rfl (iI_add _ _) (by decide) rfl (fun ls hl => ?_)
                    refine lv_goto (tgt := 15) B.1 B.2.1 dX1_takesAll_56 (by decide) ?_
                    exact ih15 ((i + 1)) (by omega) (by omega) _ _ _ h (lv_sub hl [0, 1, 2, 3, 4] rfl)
                  · exact absurd c9 (by omega)
                · show W p l e r_c_X1_takesAll_1 s m args below meth c _ _ 0 0 Qf (F0 m 42 ls [.int (iI 0)])
                  refine x_if_ne B (by omega) (tgt := 47) dX1_takesAll_42 (by decide) (fun c10 => ?_) (fun c10 => ?_)
                  · exact absurd c10 (by omega)
                  · refine x_iconst B dX1_takesAll_45 ?_
                    refine y_rz B hQ h (by decide) (by decide) dX1_takesAll_46 ?_
                    exact ⟨rfl, _, rfl, Or.inr ⟨rfl, (by first | omega | trivial | assumption)⟩⟩
            · show W p l e r_c_X1_takesAll_1 s m args below meth c _ _ 0 0 Qf (F0 m 32 ls [.int (iI 0)])
              refine x_if_eq B (by omega) (tgt := 59) dX1_takesAll_32 (by decide) (fun c11 => ?_) (fun c11 => ?_)
              · refine x_iconst B dX1_takesAll_59 ?_
                refine y_rz B hQ h (by decide) (by decide) dX1_takesAll_60 ?_
                exact ⟨rfl, _, rfl, Or.inl ⟨rfl, (by first | omega | trivial | assumption)⟩⟩
              · exact absurd c11 (by omega)
      exact loop15 (((900 - 0 : Int)).toNat + 1) 0 (by omega) (Nat.lt_succ_self _) _ _ _ h (lv_sub hl [0, 1, 2, 3, 4] rfl)
    · exact absurd c3 (by omega)
  · show W p l e r_c_X1_takesAll_1 s m args below meth c _ _ 0 0 Qf (F0 m 7 ls [.int (iI 0)])
    refine x_if_ne B (by omega) (tgt := 12) dX1_takesAll_7 (by decide) (fun c12 => ?_) (fun c12 => ?_)
    · exact absurd c12 (by omega)
    · refine x_iconst B dX1_takesAll_10 ?_
      refine y_rz B hQ h (by decide) (by decide) dX1_takesAll_11 ?_
      exact ⟨rfl, _, rfl, Or.inr ⟨rfl, (by first | omega | trivial | assumption)⟩⟩
abbrev r_c_X1_takesAny_1 : Room := { frames := 7, cells := 0, slots := 0, locals := 171 }
set_option maxHeartbeats 4000000 in
set_option maxRecDepth 100000 in
theorem c_X1_takesAny_1 (l : Launch) (D : va_G) (Zk : yK) (ca : Nat → ClassId) (T : Nat → Int → Int) (G : Nat → Int → Nat) (u : Int) (ad : Nat → Nat) (w : yW) (hC : CW ca T G u ad w) (j : Int) (op : Int)  (hj : 0 ≤ j ∧ j < u) (hop : 8 ≤ op ∧ op ≤ 9) : yC l D Zk ca yX1_takesAny cX1_takesAny 5 (some .boolean) r_c_X1_takesAny_1 [.ref (ad 26), .ref (ad 20), .ref (G 6 j), .int (iI op)] w (vI w (fun z => (z = 1 ∧ (True)) ∨ (z = 0 ∧ (True)))) := by
  refine yC.of2 "WindWords$Grammar" (by decide) rfl (Nat.le_of_ble_eq_true rfl) ?_
  intro p e s m args below meth c A ls Qf B hnm h hl hQ
  have hl : lv_has ls 5 [(0, .ref (ad 26)), (1, .ref (ad 20)), (2, .ref (G 6 j)), (3, .int (iI op))] := hl
  have hs := pi_s (CW.pi hC)
  have fo1 := CW.ru hC j (by omega)
  refine lv_aload_n B.1 B.2.1 dX1_takesAny_0 rfl (lv_at hl 0 rfl) ?_
  refine lv_aload_n B.1 B.2.1 dX1_takesAny_1 rfl (lv_at hl 1 rfl) ?_
  refine lv_aload_n B.1 B.2.1 dX1_takesAny_2 rfl (lv_at hl 2 rfl) ?_
  refine lv_iload_n B.1 B.2.1 dX1_takesAny_3 rfl (lv_at hl 3 rfl) ?_
  refine y_cV B h kX1 26 (CW.f hC 26 _ rfl) k_X1_takesAll rfl (c_X1_takesAll_1 l D Zk ca T G u ad _ hC j op  (by omega) (by omega)) m_774 rfl (by decide) hl.1 [] (Nat.le_of_ble_eq_true rfl) rfl dX1_takesAny_4 (fun r w1 hq H locs h => ?_)
  obtain ⟨rfl, _, rfl, ⟨rfl, b2⟩ | ⟨rfl, b2⟩⟩ := hq
  · show W p l e r_c_X1_takesAny_1 s m args below meth c _ _ 0 0 Qf (F0 m 7 ls [.int (iI 1)])
    refine x_if_ne B (by omega) (tgt := 12) dX1_takesAny_7 (by decide) (fun c3 => ?_) (fun c3 => ?_)
    · refine x_iconst B dX1_takesAny_12 ?_
      refine lv_istore (lv' := [(4, .int (iI 0)), (0, .ref (ad 26)), (1, .ref (ad 20)), (2, .ref (G 6 j)), (3, .int (iI op))]) B.1 B.2.1 dX1_takesAny_13 hl (by decide) rfl (fun ls hl => ?_)
      have loop15 : ∀ (n15 : Nat) (i : Int), (0 ≤ i ∧ i ≤ 900) → ((900 - i : Int)).toNat < n15 → ∀ (H : Heap) (locs : List Loc) (ls : Array Slot), yH D Zk A s w H locs → lv_has ls 5 [(4, .int (iI i)), (0, .ref (ad 26)), (1, .ref (ad 20)), (2, .ref (G 6 j)), (3, .int (iI op))] → W p l e r_c_X1_takesAny_1 s m args below meth c H locs 0 0 Qf (F0 m 15 ls []) := by
        intro n15
        induction n15 with
        | zero =>
          intro i hi hm15 H locs ls h hl
          exact absurd hm15 (Nat.not_lt_zero _)
        | succ n15 ih15 =>
          intro i hi hm15 H locs ls h hl
          refine lv_iload B.1 B.2.1 dX1_takesAny_15 (lv_at hl 0 rfl) ?_
          refine lv_aload_n B.1 B.2.1 dX1_takesAny_17 rfl (lv_at hl 2 rfl) ?_
          refine y_getG B h kX9 20 (CW.f hC 20 _ rfl) 1 (lo := 0) (hi := 900) rfl m_291 (by decide) dX1_takesAny_18 (fun z4 z4a z4b => ?_)
          refine x_icmp_ge B (by omega) (tgt := 59) dX1_takesAny_21 (by decide) (fun c5 => ?_) (fun c5 => ?_)
          · refine x_iconst B dX1_takesAny_59 ?_
            refine y_rz B hQ h (by decide) (by decide) dX1_takesAny_60 ?_
            exact ⟨rfl, _, rfl, Or.inl ⟨rfl, (by first | omega | trivial | assumption)⟩⟩
          · refine lv_aload_n B.1 B.2.1 dX1_takesAny_24 rfl (lv_at hl 1 rfl) ?_
            refine lv_aload_n B.1 B.2.1 dX1_takesAny_25 rfl (lv_at hl 2 rfl) ?_
            refine x_sipush B (by decide) dX1_takesAny_26 ?_
            refine y_cV B h kX1 26 (CW.f hC 26 _ rfl) k_X1_takes rfl (c_X1_takes l D Zk ca T G u ad _ hC 228  (by omega)) m_762 rfl (by decide) hl.1 [] (Nat.le_of_ble_eq_true rfl) rfl dX1_takesAny_29 (fun r w1 hq H locs h => ?_)
            obtain ⟨rfl, _, rfl, ⟨rfl, b6⟩ | ⟨rfl, b6⟩⟩ := hq
            · show W p l e r_c_X1_takesAny_1 s m args below meth c _ _ 0 0 Qf (F0 m 32 ls [.int (iI 1)])
              refine x_if_eq B (by omega) (tgt := 59) dX1_takesAny_32 (by decide) (fun c7 => ?_) (fun c7 => ?_)
              · exact absurd c7 (by omega)
              · refine lv_aload_n B.1 B.2.1 dX1_takesAny_35 rfl (lv_at hl 1 rfl) ?_
                refine lv_aload_n B.1 B.2.1 dX1_takesAny_36 rfl (lv_at hl 2 rfl) ?_
                refine lv_aload_n B.1 B.2.1 dX1_takesAny_37 rfl (lv_at hl 3 rfl) ?_
                refine lv_iload_n B.1 B.2.1 dX1_takesAny_38 rfl (lv_at hl 4 rfl) ?_
                refine y_cV B h kX1 26 (CW.f hC 26 _ rfl) k_X1_takesAll rfl (c_X1_takesAll_1 l D Zk ca T G u ad _ hC j op  (by omega) (by omega)) m_774 rfl (by decide) hl.1 [] (Nat.le_of_ble_eq_true rfl) rfl dX1_takesAny_39 (fun r w1 hq H locs h => ?_)
                obtain ⟨rfl, _, rfl, ⟨rfl, b8⟩ | ⟨rfl, b8⟩⟩ := hq
                · show W p l e r_c_X1_takesAny_1 s m args below meth c _ _ 0 0 Qf (F0 m 42 ls [.int (iI 1)])
                  refine x_if_ne B (by omega) (tgt := 47) dX1_takesAny_42 (by decide) (fun c9 => ?_) (fun c9 => ?_)
                  · refine lv_aload_n B.1 B.2.1 dX1_takesAny_47 rfl (lv_at hl 3 rfl) ?_
                    refine x_bipush B (by decide) dX1_takesAny_48 ?_
                    refine y_cV B h kX5 (1000 + 16 * j.toNat + 6) fo1.1 k_X5_addStep rfl (c_X5_addStep l D Zk ca T G u ad _ hC j ((-3))  (by omega) (by omega)) m_793 rfl (by decide) hl.1 [] (Nat.le_of_ble_eq_true rfl) rfl dX1_takesAny_50 (fun r w1 hq H locs h => ?_)
                    obtain ⟨rfl, rfl⟩ := hq
                    show W p l e r_c_X1_takesAny_1 s m args below meth c _ _ 0 0 Qf (F0 m 53 ls [])
                    refine lv_iinc (v := iI (i + 1)) (lv' := [(4, .int (iI (i + 1))), (0, .ref (ad 26)), (1, .ref (ad 20)), (2, .ref (G 6 j)), (3, .int (iI op))]) B.1 B.2.1 dX1_takesAny_53 hl (k := 0) rfl (iI_add _ _) (by decide) rfl (fun ls hl => ?_)
                    refine lv_goto (tgt := 15) B.1 B.2.1 dX1_takesAny_56 (by decide) ?_
                    exact ih15 ((i + 1)) (by omega) (by omega) _ _ _ h (lv_sub hl [0, 1, 2, 3, 4] rfl)
                  · exact absurd c9 (by omega)
                · show W p l e r_c_X1_takesAny_1 s m args below meth c _ _ 0 0 Qf (F0 m 42 ls [.int (iI 0)])
                  refine x_if_ne B (by omega) (tgt := 47) dX1_takesAny_42 (by decide) (fun c10 => ?_) (fun c10 => ?_)
                  · exact absurd c10 (by omega)
                  · refine x_iconst B dX1_takesAny_45 ?_
                    refine y_rz B hQ h (by decide) (by decide) dX1_takesAny_46 ?_
                    exact ⟨rfl, _, rfl, Or.inr ⟨rfl, (by first | omega | trivial | assumption)⟩⟩
            · show W p l e r_c_X1_takesAny_1 s m args below meth c _ _ 0 0 Qf (F0 m 32 ls [.int (iI 0)])
              refine x_if_eq B (by omega) (tgt := 59) dX1_takesAny_32 (by decide) (fun c11 => ?_) (fun c11 => ?_)
              · refine x_iconst B dX1_takesAny_59 ?_
                refine y_rz B hQ h (by decide) (by decide) dX1_takesAny_60 ?_
                exact ⟨rfl, _, rfl, Or.inl ⟨rfl, (by first | omega | trivial | assumption)⟩⟩
              · exact absurd c11 (by omega)
      exact loop15 (((900 - 0 : Int)).toNat + 1) 0 (by omega) (Nat.lt_succ_self _) _ _ _ h (lv_sub hl [0, 1, 2, 3, 4] rfl)
    · exact absurd c3 (by omega)
  · show W p l e r_c_X1_takesAny_1 s m args below meth c _ _ 0 0 Qf (F0 m 7 ls [.int (iI 0)])
    refine x_if_ne B (by omega) (tgt := 12) dX1_takesAny_7 (by decide) (fun c12 => ?_) (fun c12 => ?_)
    · exact absurd c12 (by omega)
    · refine x_iconst B dX1_takesAny_10 ?_
      refine y_rz B hQ h (by decide) (by decide) dX1_takesAny_11 ?_
      exact ⟨rfl, _, rfl, Or.inr ⟨rfl, (by first | omega | trivial | assumption)⟩⟩
abbrev r_c_X1_takesOne_2 : Room := { frames := 8, cells := 0, slots := 0, locals := 195 }
set_option maxHeartbeats 4000000 in
set_option maxRecDepth 100000 in
theorem c_X1_takesOne_2 (l : Launch) (D : va_G) (Zk : yK) (ca : Nat → ClassId) (T : Nat → Int → Int) (G : Nat → Int → Nat) (u : Int) (ad : Nat → Nat) (w : yW) (hC : CW ca T G u ad w) (j : Int) (op : Int)  (hj : 0 ≤ j ∧ j < u) (hop : 7 ≤ op ∧ op ≤ 9) : yC l D Zk ca yX1_takesOne cX1_takesOne 6 (some .boolean) r_c_X1_takesOne_2 [.ref (ad 26), .ref (ad 20), .ref (G 6 j), .int (iI op)] w (vI w (fun z => (z = 1 ∧ (True)) ∨ (z = 0 ∧ (True)))) := by
  refine yC.of2 "WindWords$Grammar" (by decide) rfl (Nat.le_of_ble_eq_true rfl) ?_
  intro p e s m args below meth c A ls Qf B hnm h hl hQ
  have hl : lv_has ls 6 [(0, .ref (ad 26)), (1, .ref (ad 20)), (2, .ref (G 6 j)), (3, .int (iI op))] := hl
  have hs := pi_s (CW.pi hC)
  have fo1 := CW.ru hC j (by omega)
  refine lv_iload_n B.1 B.2.1 dX1_takesOne_0 rfl (lv_at hl 3 rfl) ?_
  refine lv_istore (lv' := [(4, .int (iI op)), (0, .ref (ad 26)), (1, .ref (ad 20)), (2, .ref (G 6 j)), (3, .int (iI op))]) B.1 B.2.1 dX1_takesOne_1 hl (by decide) rfl (fun ls hl => ?_)
  have loop3 : ∀ (n3 : Nat) (ins : Int), (op ≤ ins ∧ ins ≤ 9) → ((9 - ins : Int)).toNat < n3 → ∀ (H : Heap) (locs : List Loc) (ls : Array Slot), yH D Zk A s w H locs → lv_has ls 6 [(4, .int (iI ins)), (0, .ref (ad 26)), (1, .ref (ad 20)), (2, .ref (G 6 j)), (3, .int (iI op))] → W p l e r_c_X1_takesOne_2 s m args below meth c H locs 0 0 Qf (F0 m 3 ls []) := by
    intro n3
    induction n3 with
    | zero =>
      intro ins hi hm3 H locs ls h hl
      exact absurd hm3 (Nat.not_lt_zero _)
    | succ n3 ih3 =>
      intro ins hi hm3 H locs ls h hl
      refine lv_iload B.1 B.2.1 dX1_takesOne_3 (lv_at hl 0 rfl) ?_
      refine x_bipush B (by decide) dX1_takesOne_5 ?_
      refine x_icmp_ge B (by omega) (tgt := 27) dX1_takesOne_7 (by decide) (fun c2 => ?_) (fun c2 => ?_)
      · have join81 : ∀ (tk : Int), (tk = 0 ∨ tk = 1) → ∀ (H : Heap) (locs : List Loc) (ls : Array Slot), yH D Zk A s w H locs → lv_has ls 6 [(4, .int (iI ins)), (2, .ref (G 6 j)), (3, .int (iI op))] → W p l e r_c_X1_takesOne_2 s m args below meth c H locs 0 0 Qf (F0 m 81 ls [.int (iI tk)]) := by
          intro tk hk0 H locs ls h hl
          refine lv_istore (lv' := [(5, .int (iI tk)), (4, .int (iI ins)), (2, .ref (G 6 j)), (3, .int (iI op))]) B.1 B.2.1 dX1_takesOne_81 hl (by decide) rfl (fun ls hl => ?_)
          refine lv_iload B.1 B.2.1 dX1_takesOne_83 (lv_at hl 0 rfl) ?_
          refine x_if_eq B (by omega) (tgt := 103) dX1_takesOne_85 (by decide) (fun c3 => ?_) (fun c3 => ?_)
          · refine lv_iload B.1 B.2.1 dX1_takesOne_103 (lv_at hl 0 rfl) ?_
            refine y_rz B hQ h (by decide) (nz01 (by omega)) dX1_takesOne_105 ?_
            rcases (show tk = 1 ∨ tk = 0 by omega) with e9 | e9
            · exact ⟨rfl, _, rfl, Or.inl ⟨e9, (by first | omega | trivial | assumption)⟩⟩
            · exact ⟨rfl, _, rfl, Or.inr ⟨e9, (by first | omega | trivial | assumption)⟩⟩
          · refine lv_iload B.1 B.2.1 dX1_takesOne_88 (lv_at hl 1 rfl) ?_
            refine lv_iload_n B.1 B.2.1 dX1_takesOne_90 rfl (lv_at hl 3 rfl) ?_
            refine x_isub B dX1_takesOne_91 ?_
            refine x_iconst B dX1_takesOne_92 ?_
            refine x_irem B (by omega) dX1_takesOne_93 ?_
            refine x_iconst B dX1_takesOne_94 ?_
            refine x_icmp_ne B (by omega) (tgt := 103) dX1_takesOne_95 (by decide) (fun c4 => ?_) (fun c4 => ?_)
            · refine lv_iload B.1 B.2.1 dX1_takesOne_103 (lv_at hl 0 rfl) ?_
              refine y_rz B hQ h (by decide) (nz01 (by omega)) dX1_takesOne_105 ?_
              rcases (show tk = 1 ∨ tk = 0 by omega) with e9 | e9
              · exact ⟨rfl, _, rfl, Or.inl ⟨e9, (by first | omega | trivial | assumption)⟩⟩
              · exact ⟨rfl, _, rfl, Or.inr ⟨e9, (by first | omega | trivial | assumption)⟩⟩
            · refine lv_aload_n B.1 B.2.1 dX1_takesOne_98 rfl (lv_at hl 2 rfl) ?_
              refine x_iconst B dX1_takesOne_99 ?_
              refine y_cV B h kX5 (1000 + 16 * j.toNat + 6) fo1.1 k_X5_addStep rfl (c_X5_addStep l D Zk ca T G u ad _ hC j ((-1))  (by omega) (by omega)) m_793 rfl (by decide) hl.1 [] (Nat.le_of_ble_eq_true rfl) rfl dX1_takesOne_100 (fun r w1 hq H locs h => ?_)
              obtain ⟨rfl, rfl⟩ := hq
              show W p l e r_c_X1_takesOne_2 s m args below meth c _ _ 0 0 Qf (F0 m 103 ls [])
              refine lv_iload B.1 B.2.1 dX1_takesOne_103 (lv_at hl 0 rfl) ?_
              refine y_rz B hQ h (by decide) (nz01 (by omega)) dX1_takesOne_105 ?_
              rcases (show tk = 1 ∨ tk = 0 by omega) with e9 | e9
              · exact ⟨rfl, _, rfl, Or.inl ⟨e9, (by first | omega | trivial | assumption)⟩⟩
              · exact ⟨rfl, _, rfl, Or.inr ⟨e9, (by first | omega | trivial | assumption)⟩⟩
        refine lv_iload B.1 B.2.1 dX1_takesOne_27 (lv_at hl 0 rfl) ?_
        refine x_bipush B (by decide) dX1_takesOne_29 ?_
        refine x_icmp_ge B (by omega) (tgt := 75) dX1_takesOne_31 (by decide) (fun c5 => ?_) (fun c5 => ?_)
        · refine lv_aload_n B.1 B.2.1 dX1_takesOne_75 rfl (lv_at hl 1 rfl) ?_
          refine lv_aload_n B.1 B.2.1 dX1_takesOne_76 rfl (lv_at hl 2 rfl) ?_
          refine lv_aload_n B.1 B.2.1 dX1_takesOne_77 rfl (lv_at hl 3 rfl) ?_
          refine y_cV B h kX1 26 (CW.f hC 26 _ rfl) k_X1_takesComparison rfl (c_X1_takesComparison l D Zk ca T G u ad _ hC j  (by omega)) m_782 rfl (by decide) hl.1 [] (Nat.le_of_ble_eq_true rfl) rfl dX1_takesOne_78 (fun r w1 hq H locs h => ?_)
          obtain ⟨rfl, _, rfl, ⟨rfl, b6⟩ | ⟨rfl, b6⟩⟩ := hq
          · show W p l e r_c_X1_takesOne_2 s m args below meth c _ _ 0 0 Qf (F0 m 81 ls [.int (iI 1)])
            exact join81 1 (by omega) _ _ _ h (lv_sub hl [0, 3, 4] rfl)
          · show W p l e r_c_X1_takesOne_2 s m args below meth c _ _ 0 0 Qf (F0 m 81 ls [.int (iI 0)])
            exact join81 0 (by omega) _ _ _ h (lv_sub hl [0, 3, 4] rfl)
        · refine lv_aload_n B.1 B.2.1 dX1_takesOne_34 rfl (lv_at hl 1 rfl) ?_
          refine lv_aload_n B.1 B.2.1 dX1_takesOne_35 rfl (lv_at hl 2 rfl) ?_
          refine x_bipush B (by decide) dX1_takesOne_36 ?_
          refine y_cV B h kX1 26 (CW.f hC 26 _ rfl) k_X1_takes rfl (c_X1_takes l D Zk ca T G u ad _ hC 40  (by omega)) m_762 rfl (by decide) hl.1 [] (Nat.le_of_ble_eq_true rfl) rfl dX1_takesOne_38 (fun r w1 hq H locs h => ?_)
          obtain ⟨rfl, _, rfl, ⟨rfl, b7⟩ | ⟨rfl, b7⟩⟩ := hq
          · show W p l e r_c_X1_takesOne_2 s m args below meth c _ _ 0 0 Qf (F0 m 41 ls [.int (iI 1)])
            refine x_if_eq B (by omega) (tgt := 75) dX1_takesOne_41 (by decide) (fun c8 => ?_) (fun c8 => ?_)
            · exact absurd c8 (by omega)
            · refine lv_aload_n B.1 B.2.1 dX1_takesOne_44 rfl (lv_at hl 1 rfl) ?_
              refine lv_aload_n B.1 B.2.1 dX1_takesOne_45 rfl (lv_at hl 2 rfl) ?_
              refine lv_aload_n B.1 B.2.1 dX1_takesOne_46 rfl (lv_at hl 3 rfl) ?_
              refine lv_iload B.1 B.2.1 dX1_takesOne_47 (lv_at hl 0 rfl) ?_
              refine x_iconst B dX1_takesOne_49 ?_
              refine x_iadd B dX1_takesOne_50 ?_
              refine y_cV B h kX1 26 (CW.f hC 26 _ rfl) k_X1_takesAny rfl (c_X1_takesAny_1 l D Zk ca T G u ad _ hC j ((ins + 1))  (by omega) (by omega)) m_770 rfl (by decide) hl.1 [] (Nat.le_of_ble_eq_true rfl) rfl dX1_takesOne_51 (fun r w1 hq H locs h => ?_)
              obtain ⟨rfl, _, rfl, ⟨rfl, b9⟩ | ⟨rfl, b9⟩⟩ := hq
              · show W p l e r_c_X1_takesOne_2 s m args below meth c _ _ 0 0 Qf (F0 m 54 ls [.int (iI 1)])
                refine x_if_eq B (by omega) (tgt := 71) dX1_takesOne_54 (by decide) (fun c10 => ?_) (fun c10 => ?_)
                · exact absurd c10 (by omega)
                · refine lv_aload_n B.1 B.2.1 dX1_takesOne_57 rfl (lv_at hl 1 rfl) ?_
                  refine lv_aload_n B.1 B.2.1 dX1_takesOne_58 rfl (lv_at hl 2 rfl) ?_
                  refine x_bipush B (by decide) dX1_takesOne_59 ?_
                  refine y_cV B h kX1 26 (CW.f hC 26 _ rfl) k_X1_takes rfl (c_X1_takes l D Zk ca T G u ad _ hC 41  (by omega)) m_762 rfl (by decide) hl.1 [] (Nat.le_of_ble_eq_true rfl) rfl dX1_takesOne_61 (fun r w1 hq H locs h => ?_)
                  obtain ⟨rfl, _, rfl, ⟨rfl, b11⟩ | ⟨rfl, b11⟩⟩ := hq
                  · show W p l e r_c_X1_takesOne_2 s m args below meth c _ _ 0 0 Qf (F0 m 64 ls [.int (iI 1)])
                    refine x_if_eq B (by omega) (tgt := 71) dX1_takesOne_64 (by decide) (fun c12 => ?_) (fun c12 => ?_)
                    · exact absurd c12 (by omega)
                    · refine x_iconst B dX1_takesOne_67 ?_
                      refine lv_goto (tgt := 81) B.1 B.2.1 dX1_takesOne_68 (by decide) ?_
                      exact join81 1 (by omega) _ _ _ h (lv_sub hl [0, 3, 4] rfl)
                  · show W p l e r_c_X1_takesOne_2 s m args below meth c _ _ 0 0 Qf (F0 m 64 ls [.int (iI 0)])
                    refine x_if_eq B (by omega) (tgt := 71) dX1_takesOne_64 (by decide) (fun c13 => ?_) (fun c13 => ?_)
                    · refine x_iconst B dX1_takesOne_71 ?_
                      refine lv_goto (tgt := 81) B.1 B.2.1 dX1_takesOne_72 (by decide) ?_
                      exact join81 0 (by omega) _ _ _ h (lv_sub hl [0, 3, 4] rfl)
                    · exact absurd c13 (by omega)
              · show W p l e r_c_X1_takesOne_2 s m args below meth c _ _ 0 0 Qf (F0 m 54 ls [.int (iI 0)])
                refine x_if_eq B (by omega) (tgt := 71) dX1_takesOne_54 (by decide) (fun c14 => ?_) (fun c14 => ?_)
                · refine x_iconst B dX1_takesOne_71 ?_
                  refine lv_goto (tgt := 81) B.1 B.2.1 dX1_takesOne_72 (by decide) ?_
                  exact join81 0 (by omega) _ _ _ h (lv_sub hl [0, 3, 4] rfl)
                · exact absurd c14 (by omega)
          · show W p l e r_c_X1_takesOne_2 s m args below meth c _ _ 0 0 Qf (F0 m 41 ls [.int (iI 0)])
            refine x_if_eq B (by omega) (tgt := 75) dX1_takesOne_41 (by decide) (fun c15 => ?_) (fun c15 => ?_)
            · refine lv_aload_n B.1 B.2.1 dX1_takesOne_75 rfl (lv_at hl 1 rfl) ?_
              refine lv_aload_n B.1 B.2.1 dX1_takesOne_76 rfl (lv_at hl 2 rfl) ?_
              refine lv_aload_n B.1 B.2.1 dX1_takesOne_77 rfl (lv_at hl 3 rfl) ?_
              refine y_cV B h kX1 26 (CW.f hC 26 _ rfl) k_X1_takesComparison rfl (c_X1_takesComparison l D Zk ca T G u ad _ hC j  (by omega)) m_782 rfl (by decide) hl.1 [] (Nat.le_of_ble_eq_true rfl) rfl dX1_takesOne_78 (fun r w1 hq H locs h => ?_)
              obtain ⟨rfl, _, rfl, ⟨rfl, b16⟩ | ⟨rfl, b16⟩⟩ := hq
              · show W p l e r_c_X1_takesOne_2 s m args below meth c _ _ 0 0 Qf (F0 m 81 ls [.int (iI 1)])
                exact join81 1 (by omega) _ _ _ h (lv_sub hl [0, 3, 4] rfl)
              · show W p l e r_c_X1_takesOne_2 s m args below meth c _ _ 0 0 Qf (F0 m 81 ls [.int (iI 0)])
                exact join81 0 (by omega) _ _ _ h (lv_sub hl [0, 3, 4] rfl)
            · exact absurd c15 (by omega)
      · refine lv_aload_n B.1 B.2.1 dX1_takesOne_10 rfl (lv_at hl 1 rfl) ?_
        refine lv_aload_n B.1 B.2.1 dX1_takesOne_11 rfl (lv_at hl 2 rfl) ?_
        refine x_sipush B (by decide) dX1_takesOne_12 ?_
        refine y_cV B h kX1 26 (CW.f hC 26 _ rfl) k_X1_takes rfl (c_X1_takes l D Zk ca T G u ad _ hC 229  (by omega)) m_762 rfl (by decide) hl.1 [] (Nat.le_of_ble_eq_true rfl) rfl dX1_takesOne_15 (fun r w1 hq H locs h => ?_)
        obtain ⟨rfl, _, rfl, ⟨rfl, b17⟩ | ⟨rfl, b17⟩⟩ := hq
        · show W p l e r_c_X1_takesOne_2 s m args below meth c _ _ 0 0 Qf (F0 m 18 ls [.int (iI 1)])
          refine x_if_eq B (by omega) (tgt := 27) dX1_takesOne_18 (by decide) (fun c18 => ?_) (fun c18 => ?_)
          · exact absurd c18 (by omega)
          · refine lv_iinc (v := iI (ins + 1)) (lv' := [(4, .int (iI (ins + 1))), (0, .ref (ad 26)), (1, .ref (ad 20)), (2, .ref (G 6 j)), (3, .int (iI op))]) B.1 B.2.1 dX1_takesOne_21 hl (k := 0) rfl (iI_add _ _) (by decide) rfl (fun ls hl => ?_)
            refine lv_goto (tgt := 3) B.1 B.2.1 dX1_takesOne_24 (by decide) ?_
            exact ih3 ((ins + 1)) (by omega) (by omega) _ _ _ h (lv_sub hl [0, 1, 2, 3, 4] rfl)
        · show W p l e r_c_X1_takesOne_2 s m args below meth c _ _ 0 0 Qf (F0 m 18 ls [.int (iI 0)])
          refine x_if_eq B (by omega) (tgt := 27) dX1_takesOne_18 (by decide) (fun c19 => ?_) (fun c19 => ?_)
          · have join81 : ∀ (tk : Int), (tk = 0 ∨ tk = 1) → ∀ (H : Heap) (locs : List Loc) (ls : Array Slot), yH D Zk A s w H locs → lv_has ls 6 [(4, .int (iI ins)), (2, .ref (G 6 j)), (3, .int (iI op))] → W p l e r_c_X1_takesOne_2 s m args below meth c H locs 0 0 Qf (F0 m 81 ls [.int (iI tk)]) := by
              intro tk hk0 H locs ls h hl
              refine lv_istore (lv' := [(5, .int (iI tk)), (4, .int (iI ins)), (2, .ref (G 6 j)), (3, .int (iI op))]) B.1 B.2.1 dX1_takesOne_81 hl (by decide) rfl (fun ls hl => ?_)
              refine lv_iload B.1 B.2.1 dX1_takesOne_83 (lv_at hl 0 rfl) ?_
              refine x_if_eq B (by omega) (tgt := 103) dX1_takesOne_85 (by decide) (fun c20 => ?_) (fun c20 => ?_)
              · refine lv_iload B.1 B.2.1 dX1_takesOne_103 (lv_at hl 0 rfl) ?_
                refine y_rz B hQ h (by decide) (nz01 (by omega)) dX1_takesOne_105 ?_
                rcases (show tk = 1 ∨ tk = 0 by omega) with e9 | e9
                · exact ⟨rfl, _, rfl, Or.inl ⟨e9, (by first | omega | trivial | assumption)⟩⟩
                · exact ⟨rfl, _, rfl, Or.inr ⟨e9, (by first | omega | trivial | assumption)⟩⟩
              · refine lv_iload B.1 B.2.1 dX1_takesOne_88 (lv_at hl 1 rfl) ?_
                refine lv_iload_n B.1 B.2.1 dX1_takesOne_90 rfl (lv_at hl 3 rfl) ?_
                refine x_isub B dX1_takesOne_91 ?_
                refine x_iconst B dX1_takesOne_92 ?_
                refine x_irem B (by omega) dX1_takesOne_93 ?_
                refine x_iconst B dX1_takesOne_94 ?_
                refine x_icmp_ne B (by omega) (tgt := 103) dX1_takesOne_95 (by decide) (fun c21 => ?_) (fun c21 => ?_)
                · refine lv_iload B.1 B.2.1 dX1_takesOne_103 (lv_at hl 0 rfl) ?_
                  refine y_rz B hQ h (by decide) (nz01 (by omega)) dX1_takesOne_105 ?_
                  rcases (show tk = 1 ∨ tk = 0 by omega) with e9 | e9
                  · exact ⟨rfl, _, rfl, Or.inl ⟨e9, (by first | omega | trivial | assumption)⟩⟩
                  · exact ⟨rfl, _, rfl, Or.inr ⟨e9, (by first | omega | trivial | assumption)⟩⟩
                · refine lv_aload_n B.1 B.2.1 dX1_takesOne_98 rfl (lv_at hl 2 rfl) ?_
                  refine x_iconst B dX1_takesOne_99 ?_
                  refine y_cV B h kX5 (1000 + 16 * j.toNat + 6) fo1.1 k_X5_addStep rfl (c_X5_addStep l D Zk ca T G u ad _ hC j ((-1))  (by omega) (by omega)) m_793 rfl (by decide) hl.1 [] (Nat.le_of_ble_eq_true rfl) rfl dX1_takesOne_100 (fun r w1 hq H locs h => ?_)
                  obtain ⟨rfl, rfl⟩ := hq
                  show W p l e r_c_X1_takesOne_2 s m args below meth c _ _ 0 0 Qf (F0 m 103 ls [])
                  refine lv_iload B.1 B.2.1 dX1_takesOne_103 (lv_at hl 0 rfl) ?_
                  refine y_rz B hQ h (by decide) (nz01 (by omega)) dX1_takesOne_105 ?_
                  rcases (show tk = 1 ∨ tk = 0 by omega) with e9 | e9
                  · exact ⟨rfl, _, rfl, Or.inl ⟨e9, (by first | omega | trivial | assumption)⟩⟩
                  · exact ⟨rfl, _, rfl, Or.inr ⟨e9, (by first | omega | trivial | assumption)⟩⟩
            refine lv_iload B.1 B.2.1 dX1_takesOne_27 (lv_at hl 0 rfl) ?_
            refine x_bipush B (by decide) dX1_takesOne_29 ?_
            refine x_icmp_ge B (by omega) (tgt := 75) dX1_takesOne_31 (by decide) (fun c22 => ?_) (fun c22 => ?_)
            · refine lv_aload_n B.1 B.2.1 dX1_takesOne_75 rfl (lv_at hl 1 rfl) ?_
              refine lv_aload_n B.1 B.2.1 dX1_takesOne_76 rfl (lv_at hl 2 rfl) ?_
              refine lv_aload_n B.1 B.2.1 dX1_takesOne_77 rfl (lv_at hl 3 rfl) ?_
              refine y_cV B h kX1 26 (CW.f hC 26 _ rfl) k_X1_takesComparison rfl (c_X1_takesComparison l D Zk ca T G u ad _ hC j  (by omega)) m_782 rfl (by decide) hl.1 [] (Nat.le_of_ble_eq_true rfl) rfl dX1_takesOne_78 (fun r w1 hq H locs h => ?_)
              obtain ⟨rfl, _, rfl, ⟨rfl, b23⟩ | ⟨rfl, b23⟩⟩ := hq
              · show W p l e r_c_X1_takesOne_2 s m args below meth c _ _ 0 0 Qf (F0 m 81 ls [.int (iI 1)])
                exact join81 1 (by omega) _ _ _ h (lv_sub hl [0, 3, 4] rfl)
              · show W p l e r_c_X1_takesOne_2 s m args below meth c _ _ 0 0 Qf (F0 m 81 ls [.int (iI 0)])
                exact join81 0 (by omega) _ _ _ h (lv_sub hl [0, 3, 4] rfl)
            · refine lv_aload_n B.1 B.2.1 dX1_takesOne_34 rfl (lv_at hl 1 rfl) ?_
              refine lv_aload_n B.1 B.2.1 dX1_takesOne_35 rfl (lv_at hl 2 rfl) ?_
              refine x_bipush B (by decide) dX1_takesOne_36 ?_
              refine y_cV B h kX1 26 (CW.f hC 26 _ rfl) k_X1_takes rfl (c_X1_takes l D Zk ca T G u ad _ hC 40  (by omega)) m_762 rfl (by decide) hl.1 [] (Nat.le_of_ble_eq_true rfl) rfl dX1_takesOne_38 (fun r w1 hq H locs h => ?_)
              obtain ⟨rfl, _, rfl, ⟨rfl, b24⟩ | ⟨rfl, b24⟩⟩ := hq
              · show W p l e r_c_X1_takesOne_2 s m args below meth c _ _ 0 0 Qf (F0 m 41 ls [.int (iI 1)])
                refine x_if_eq B (by omega) (tgt := 75) dX1_takesOne_41 (by decide) (fun c25 => ?_) (fun c25 => ?_)
                · exact absurd c25 (by omega)
                · refine lv_aload_n B.1 B.2.1 dX1_takesOne_44 rfl (lv_at hl 1 rfl) ?_
                  refine lv_aload_n B.1 B.2.1 dX1_takesOne_45 rfl (lv_at hl 2 rfl) ?_
                  refine lv_aload_n B.1 B.2.1 dX1_takesOne_46 rfl (lv_at hl 3 rfl) ?_
                  refine lv_iload B.1 B.2.1 dX1_takesOne_47 (lv_at hl 0 rfl) ?_
                  refine x_iconst B dX1_takesOne_49 ?_
                  refine x_iadd B dX1_takesOne_50 ?_
                  refine y_cV B h kX1 26 (CW.f hC 26 _ rfl) k_X1_takesAny rfl (c_X1_takesAny_1 l D Zk ca T G u ad _ hC j ((ins + 1))  (by omega) (by omega)) m_770 rfl (by decide) hl.1 [] (Nat.le_of_ble_eq_true rfl) rfl dX1_takesOne_51 (fun r w1 hq H locs h => ?_)
                  obtain ⟨rfl, _, rfl, ⟨rfl, b26⟩ | ⟨rfl, b26⟩⟩ := hq
                  · show W p l e r_c_X1_takesOne_2 s m args below meth c _ _ 0 0 Qf (F0 m 54 ls [.int (iI 1)])
                    refine x_if_eq B (by omega) (tgt := 71) dX1_takesOne_54 (by decide) (fun c27 => ?_) (fun c27 => ?_)
                    · exact absurd c27 (by omega)
                    · refine lv_aload_n B.1 B.2.1 dX1_takesOne_57 rfl (lv_at hl 1 rfl) ?_
                      refine lv_aload_n B.1 B.2.1 dX1_takesOne_58 rfl (lv_at hl 2 rfl) ?_
                      refine x_bipush B (by decide) dX1_takesOne_59 ?_
                      refine y_cV B h kX1 26 (CW.f hC 26 _ rfl) k_X1_takes rfl (c_X1_takes l D Zk ca T G u ad _ hC 41  (by omega)) m_762 rfl (by decide) hl.1 [] (Nat.le_of_ble_eq_true rfl) rfl dX1_takesOne_61 (fun r w1 hq H locs h => ?_)
                      obtain ⟨rfl, _, rfl, ⟨rfl, b28⟩ | ⟨rfl, b28⟩⟩ := hq
                      · show W p l e r_c_X1_takesOne_2 s m args below meth c _ _ 0 0 Qf (F0 m 64 ls [.int (iI 1)])
                        refine x_if_eq B (by omega) (tgt := 71) dX1_takesOne_64 (by decide) (fun c29 => ?_) (fun c29 => ?_)
                        · exact absurd c29 (by omega)
                        · refine x_iconst B dX1_takesOne_67 ?_
                          refine lv_goto (tgt := 81) B.1 B.2.1 dX1_takesOne_68 (by decide) ?_
                          exact join81 1 (by omega) _ _ _ h (lv_sub hl [0, 3, 4] rfl)
                      · show W p l e r_c_X1_takesOne_2 s m args below meth c _ _ 0 0 Qf (F0 m 64 ls [.int (iI 0)])
                        refine x_if_eq B (by omega) (tgt := 71) dX1_takesOne_64 (by decide) (fun c30 => ?_) (fun c30 => ?_)
                        · refine x_iconst B dX1_takesOne_71 ?_
                          refine lv_goto (tgt := 81) B.1 B.2.1 dX1_takesOne_72 (by decide) ?_
                          exact join81 0 (by omega) _ _ _ h (lv_sub hl [0, 3, 4] rfl)
                        · exact absurd c30 (by omega)
                  · show W p l e r_c_X1_takesOne_2 s m args below meth c _ _ 0 0 Qf (F0 m 54 ls [.int (iI 0)])
                    refine x_if_eq B (by omega) (tgt := 71) dX1_takesOne_54 (by decide) (fun c31 => ?_) (fun c31 => ?_)
                    · refine x_iconst B dX1_takesOne_71 ?_
                      refine lv_goto (tgt := 81) B.1 B.2.1 dX1_takesOne_72 (by decide) ?_
                      exact join81 0 (by omega) _ _ _ h (lv_sub hl [0, 3, 4] rfl)
                    · exact absurd c31 (by omega)
              · show W p l e r_c_X1_takesOne_2 s m args below meth c _ _ 0 0 Qf (F0 m 41 ls [.int (iI 0)])
                refine x_if_eq B (by omega) (tgt := 75) dX1_takesOne_41 (by decide) (fun c32 => ?_) (fun c32 => ?_)
                · refine lv_aload_n B.1 B.2.1 dX1_takesOne_75 rfl (lv_at hl 1 rfl) ?_
                  refine lv_aload_n B.1 B.2.1 dX1_takesOne_76 rfl (lv_at hl 2 rfl) ?_
                  refine lv_aload_n B.1 B.2.1 dX1_takesOne_77 rfl (lv_at hl 3 rfl) ?_
                  refine y_cV B h kX1 26 (CW.f hC 26 _ rfl) k_X1_takesComparison rfl (c_X1_takesComparison l D Zk ca T G u ad _ hC j  (by omega)) m_782 rfl (by decide) hl.1 [] (Nat.le_of_ble_eq_true rfl) rfl dX1_takesOne_78 (fun r w1 hq H locs h => ?_)
                  obtain ⟨rfl, _, rfl, ⟨rfl, b33⟩ | ⟨rfl, b33⟩⟩ := hq
                  · show W p l e r_c_X1_takesOne_2 s m args below meth c _ _ 0 0 Qf (F0 m 81 ls [.int (iI 1)])
                    exact join81 1 (by omega) _ _ _ h (lv_sub hl [0, 3, 4] rfl)
                  · show W p l e r_c_X1_takesOne_2 s m args below meth c _ _ 0 0 Qf (F0 m 81 ls [.int (iI 0)])
                    exact join81 0 (by omega) _ _ _ h (lv_sub hl [0, 3, 4] rfl)
                · exact absurd c32 (by omega)
          · exact absurd c19 (by omega)
  exact loop3 (((9 - op : Int)).toNat + 1) op (by omega) (Nat.lt_succ_self _) _ _ _ h (lv_sub hl [0, 1, 2, 3, 4] rfl)
abbrev r_c_X1_takesAll_2 : Room := { frames := 9, cells := 0, slots := 0, locals := 220 }
set_option maxHeartbeats 4000000 in
set_option maxRecDepth 100000 in
theorem c_X1_takesAll_2 (l : Launch) (D : va_G) (Zk : yK) (ca : Nat → ClassId) (T : Nat → Int → Int) (G : Nat → Int → Nat) (u : Int) (ad : Nat → Nat) (w : yW) (hC : CW ca T G u ad w) (j : Int) (op : Int)  (hj : 0 ≤ j ∧ j < u) (hop : 7 ≤ op ∧ op ≤ 9) : yC l D Zk ca yX1_takesAll cX1_takesAll 5 (some .boolean) r_c_X1_takesAll_2 [.ref (ad 26), .ref (ad 20), .ref (G 6 j), .int (iI op)] w (vI w (fun z => (z = 1 ∧ (True)) ∨ (z = 0 ∧ (True)))) := by
  refine yC.of2 "WindWords$Grammar" (by decide) rfl (Nat.le_of_ble_eq_true rfl) ?_
  intro p e s m args below meth c A ls Qf B hnm h hl hQ
  have hl : lv_has ls 5 [(0, .ref (ad 26)), (1, .ref (ad 20)), (2, .ref (G 6 j)), (3, .int (iI op))] := hl
  have hs := pi_s (CW.pi hC)
  have fo1 := CW.ru hC j (by omega)
  refine lv_aload_n B.1 B.2.1 dX1_takesAll_0 rfl (lv_at hl 0 rfl) ?_
  refine lv_aload_n B.1 B.2.1 dX1_takesAll_1 rfl (lv_at hl 1 rfl) ?_
  refine lv_aload_n B.1 B.2.1 dX1_takesAll_2 rfl (lv_at hl 2 rfl) ?_
  refine lv_iload_n B.1 B.2.1 dX1_takesAll_3 rfl (lv_at hl 3 rfl) ?_
  refine y_cV B h kX1 26 (CW.f hC 26 _ rfl) k_X1_takesOne rfl (c_X1_takesOne_2 l D Zk ca T G u ad _ hC j op  (by omega) (by omega)) m_778 rfl (by decide) hl.1 [] (Nat.le_of_ble_eq_true rfl) rfl dX1_takesAll_4 (fun r w1 hq H locs h => ?_)
  obtain ⟨rfl, _, rfl, ⟨rfl, b2⟩ | ⟨rfl, b2⟩⟩ := hq
  · show W p l e r_c_X1_takesAll_2 s m args below meth c _ _ 0 0 Qf (F0 m 7 ls [.int (iI 1)])
    refine x_if_ne B (by omega) (tgt := 12) dX1_takesAll_7 (by decide) (fun c3 => ?_) (fun c3 => ?_)
    · refine x_iconst B dX1_takesAll_12 ?_
      refine lv_istore (lv' := [(4, .int (iI 0)), (0, .ref (ad 26)), (1, .ref (ad 20)), (2, .ref (G 6 j)), (3, .int (iI op))]) B.1 B.2.1 dX1_takesAll_13 hl (by decide) rfl (fun ls hl => ?_)
      have loop15 : ∀ (n15 : Nat) (i : Int), (0 ≤ i ∧ i ≤ 900) → ((900 - i : Int)).toNat < n15 → ∀ (H : Heap) (locs : List Loc) (ls : Array Slot), yH D Zk A s w H locs → lv_has ls 5 [(4, .int (iI i)), (0, .ref (ad 26)), (1, .ref (ad 20)), (2, .ref (G 6 j)), (3, .int (iI op))] → W p l e r_c_X1_takesAll_2 s m args below meth c H locs 0 0 Qf (F0 m 15 ls []) := by
        intro n15
        induction n15 with
        | zero =>
          intro i hi hm15 H locs ls h hl
          exact absurd hm15 (Nat.not_lt_zero _)
        | succ n15 ih15 =>
          intro i hi hm15 H locs ls h hl
          refine lv_iload B.1 B.2.1 dX1_takesAll_15 (lv_at hl 0 rfl) ?_
          refine lv_aload_n B.1 B.2.1 dX1_takesAll_17 rfl (lv_at hl 2 rfl) ?_
          refine y_getG B h kX9 20 (CW.f hC 20 _ rfl) 1 (lo := 0) (hi := 900) rfl m_291 (by decide) dX1_takesAll_18 (fun z4 z4a z4b => ?_)
          refine x_icmp_ge B (by omega) (tgt := 59) dX1_takesAll_21 (by decide) (fun c5 => ?_) (fun c5 => ?_)
          · refine x_iconst B dX1_takesAll_59 ?_
            refine y_rz B hQ h (by decide) (by decide) dX1_takesAll_60 ?_
            exact ⟨rfl, _, rfl, Or.inl ⟨rfl, (by first | omega | trivial | assumption)⟩⟩
          · refine lv_aload_n B.1 B.2.1 dX1_takesAll_24 rfl (lv_at hl 1 rfl) ?_
            refine lv_aload_n B.1 B.2.1 dX1_takesAll_25 rfl (lv_at hl 2 rfl) ?_
            refine x_sipush B (by decide) dX1_takesAll_26 ?_
            refine y_cV B h kX1 26 (CW.f hC 26 _ rfl) k_X1_takes rfl (c_X1_takes l D Zk ca T G u ad _ hC 227  (by omega)) m_762 rfl (by decide) hl.1 [] (Nat.le_of_ble_eq_true rfl) rfl dX1_takesAll_29 (fun r w1 hq H locs h => ?_)
            obtain ⟨rfl, _, rfl, ⟨rfl, b6⟩ | ⟨rfl, b6⟩⟩ := hq
            · show W p l e r_c_X1_takesAll_2 s m args below meth c _ _ 0 0 Qf (F0 m 32 ls [.int (iI 1)])
              refine x_if_eq B (by omega) (tgt := 59) dX1_takesAll_32 (by decide) (fun c7 => ?_) (fun c7 => ?_)
              · exact absurd c7 (by omega)
              · refine lv_aload_n B.1 B.2.1 dX1_takesAll_35 rfl (lv_at hl 1 rfl) ?_
                refine lv_aload_n B.1 B.2.1 dX1_takesAll_36 rfl (lv_at hl 2 rfl) ?_
                refine lv_aload_n B.1 B.2.1 dX1_takesAll_37 rfl (lv_at hl 3 rfl) ?_
                refine lv_iload_n B.1 B.2.1 dX1_takesAll_38 rfl (lv_at hl 4 rfl) ?_
                refine y_cV B h kX1 26 (CW.f hC 26 _ rfl) k_X1_takesOne rfl (c_X1_takesOne_2 l D Zk ca T G u ad _ hC j op  (by omega) (by omega)) m_778 rfl (by decide) hl.1 [] (Nat.le_of_ble_eq_true rfl) rfl dX1_takesAll_39 (fun r w1 hq H locs h => ?_)
                obtain ⟨rfl, _, rfl, ⟨rfl, b8⟩ | ⟨rfl, b8⟩⟩ := hq
                · show W p l e r_c_X1_takesAll_2 s m args below meth c _ _ 0 0 Qf (F0 m 42 ls [.int (iI 1)])
                  refine x_if_ne B (by omega) (tgt := 47) dX1_takesAll_42 (by decide) (fun c9 => ?_) (fun c9 => ?_)
                  · refine lv_aload_n B.1 B.2.1 dX1_takesAll_47 rfl (lv_at hl 3 rfl) ?_
                    refine x_bipush B (by decide) dX1_takesAll_48 ?_
                    refine y_cV B h kX5 (1000 + 16 * j.toNat + 6) fo1.1 k_X5_addStep rfl (c_X5_addStep l D Zk ca T G u ad _ hC j ((-2))  (by omega) (by omega)) m_793 rfl (by decide) hl.1 [] (Nat.le_of_ble_eq_true rfl) rfl dX1_takesAll_50 (fun r w1 hq H locs h => ?_)
                    obtain ⟨rfl, rfl⟩ := hq
                    show W p l e r_c_X1_takesAll_2 s m args below meth c _ _ 0 0 Qf (F0 m 53 ls [])
                    refine lv_iinc (v := iI (i + 1)) (lv' := [(4, .int (iI (i + 1))), (0, .ref (ad 26)), (1, .ref (ad 20)), (2, .ref (G 6 j)), (3, .int (iI op))]) B.1 B.2.1 dX1_takesAll_53 hl (k := 0) rfl (iI_add _ _) (by decide) rfl (fun ls hl => ?_)
                    refine lv_goto (tgt := 15) B.1 B.2.1 dX1_takesAll_56 (by decide) ?_
                    exact ih15 ((i + 1)) (by omega) (by omega) _ _ _ h (lv_sub hl [0, 1, 2, 3, 4] rfl)
                  · exact absurd c9 (by omega)
                · show W p l e r_c_X1_takesAll_2 s m args below meth c _ _ 0 0 Qf (F0 m 42 ls [.int (iI 0)])
                  refine x_if_ne B (by omega) (tgt := 47) dX1_takesAll_42 (by decide) (fun c10 => ?_) (fun c10 => ?_)
                  · exact absurd c10 (by omega)
                  · refine x_iconst B dX1_takesAll_45 ?_
                    refine y_rz B hQ h (by decide) (by decide) dX1_takesAll_46 ?_
                    exact ⟨rfl, _, rfl, Or.inr ⟨rfl, (by first | omega | trivial | assumption)⟩⟩
            · show W p l e r_c_X1_takesAll_2 s m args below meth c _ _ 0 0 Qf (F0 m 32 ls [.int (iI 0)])
              refine x_if_eq B (by omega) (tgt := 59) dX1_takesAll_32 (by decide) (fun c11 => ?_) (fun c11 => ?_)
              · refine x_iconst B dX1_takesAll_59 ?_
                refine y_rz B hQ h (by decide) (by decide) dX1_takesAll_60 ?_
                exact ⟨rfl, _, rfl, Or.inl ⟨rfl, (by first | omega | trivial | assumption)⟩⟩
              · exact absurd c11 (by omega)
      exact loop15 (((900 - 0 : Int)).toNat + 1) 0 (by omega) (Nat.lt_succ_self _) _ _ _ h (lv_sub hl [0, 1, 2, 3, 4] rfl)
    · exact absurd c3 (by omega)
  · show W p l e r_c_X1_takesAll_2 s m args below meth c _ _ 0 0 Qf (F0 m 7 ls [.int (iI 0)])
    refine x_if_ne B (by omega) (tgt := 12) dX1_takesAll_7 (by decide) (fun c12 => ?_) (fun c12 => ?_)
    · exact absurd c12 (by omega)
    · refine x_iconst B dX1_takesAll_10 ?_
      refine y_rz B hQ h (by decide) (by decide) dX1_takesAll_11 ?_
      exact ⟨rfl, _, rfl, Or.inr ⟨rfl, (by first | omega | trivial | assumption)⟩⟩
abbrev r_c_X1_takesAny_2 : Room := { frames := 10, cells := 0, slots := 0, locals := 244 }
set_option maxHeartbeats 4000000 in
set_option maxRecDepth 100000 in
theorem c_X1_takesAny_2 (l : Launch) (D : va_G) (Zk : yK) (ca : Nat → ClassId) (T : Nat → Int → Int) (G : Nat → Int → Nat) (u : Int) (ad : Nat → Nat) (w : yW) (hC : CW ca T G u ad w) (j : Int) (op : Int)  (hj : 0 ≤ j ∧ j < u) (hop : 7 ≤ op ∧ op ≤ 9) : yC l D Zk ca yX1_takesAny cX1_takesAny 5 (some .boolean) r_c_X1_takesAny_2 [.ref (ad 26), .ref (ad 20), .ref (G 6 j), .int (iI op)] w (vI w (fun z => (z = 1 ∧ (True)) ∨ (z = 0 ∧ (True)))) := by
  refine yC.of2 "WindWords$Grammar" (by decide) rfl (Nat.le_of_ble_eq_true rfl) ?_
  intro p e s m args below meth c A ls Qf B hnm h hl hQ
  have hl : lv_has ls 5 [(0, .ref (ad 26)), (1, .ref (ad 20)), (2, .ref (G 6 j)), (3, .int (iI op))] := hl
  have hs := pi_s (CW.pi hC)
  have fo1 := CW.ru hC j (by omega)
  refine lv_aload_n B.1 B.2.1 dX1_takesAny_0 rfl (lv_at hl 0 rfl) ?_
  refine lv_aload_n B.1 B.2.1 dX1_takesAny_1 rfl (lv_at hl 1 rfl) ?_
  refine lv_aload_n B.1 B.2.1 dX1_takesAny_2 rfl (lv_at hl 2 rfl) ?_
  refine lv_iload_n B.1 B.2.1 dX1_takesAny_3 rfl (lv_at hl 3 rfl) ?_
  refine y_cV B h kX1 26 (CW.f hC 26 _ rfl) k_X1_takesAll rfl (c_X1_takesAll_2 l D Zk ca T G u ad _ hC j op  (by omega) (by omega)) m_774 rfl (by decide) hl.1 [] (Nat.le_of_ble_eq_true rfl) rfl dX1_takesAny_4 (fun r w1 hq H locs h => ?_)
  obtain ⟨rfl, _, rfl, ⟨rfl, b2⟩ | ⟨rfl, b2⟩⟩ := hq
  · show W p l e r_c_X1_takesAny_2 s m args below meth c _ _ 0 0 Qf (F0 m 7 ls [.int (iI 1)])
    refine x_if_ne B (by omega) (tgt := 12) dX1_takesAny_7 (by decide) (fun c3 => ?_) (fun c3 => ?_)
    · refine x_iconst B dX1_takesAny_12 ?_
      refine lv_istore (lv' := [(4, .int (iI 0)), (0, .ref (ad 26)), (1, .ref (ad 20)), (2, .ref (G 6 j)), (3, .int (iI op))]) B.1 B.2.1 dX1_takesAny_13 hl (by decide) rfl (fun ls hl => ?_)
      have loop15 : ∀ (n15 : Nat) (i : Int), (0 ≤ i ∧ i ≤ 900) → ((900 - i : Int)).toNat < n15 → ∀ (H : Heap) (locs : List Loc) (ls : Array Slot), yH D Zk A s w H locs → lv_has ls 5 [(4, .int (iI i)), (0, .ref (ad 26)), (1, .ref (ad 20)), (2, .ref (G 6 j)), (3, .int (iI op))] → W p l e r_c_X1_takesAny_2 s m args below meth c H locs 0 0 Qf (F0 m 15 ls []) := by
        intro n15
        induction n15 with
        | zero =>
          intro i hi hm15 H locs ls h hl
          exact absurd hm15 (Nat.not_lt_zero _)
        | succ n15 ih15 =>
          intro i hi hm15 H locs ls h hl
          refine lv_iload B.1 B.2.1 dX1_takesAny_15 (lv_at hl 0 rfl) ?_
          refine lv_aload_n B.1 B.2.1 dX1_takesAny_17 rfl (lv_at hl 2 rfl) ?_
          refine y_getG B h kX9 20 (CW.f hC 20 _ rfl) 1 (lo := 0) (hi := 900) rfl m_291 (by decide) dX1_takesAny_18 (fun z4 z4a z4b => ?_)
          refine x_icmp_ge B (by omega) (tgt := 59) dX1_takesAny_21 (by decide) (fun c5 => ?_) (fun c5 => ?_)
          · refine x_iconst B dX1_takesAny_59 ?_
            refine y_rz B hQ h (by decide) (by decide) dX1_takesAny_60 ?_
            exact ⟨rfl, _, rfl, Or.inl ⟨rfl, (by first | omega | trivial | assumption)⟩⟩
          · refine lv_aload_n B.1 B.2.1 dX1_takesAny_24 rfl (lv_at hl 1 rfl) ?_
            refine lv_aload_n B.1 B.2.1 dX1_takesAny_25 rfl (lv_at hl 2 rfl) ?_
            refine x_sipush B (by decide) dX1_takesAny_26 ?_
            refine y_cV B h kX1 26 (CW.f hC 26 _ rfl) k_X1_takes rfl (c_X1_takes l D Zk ca T G u ad _ hC 228  (by omega)) m_762 rfl (by decide) hl.1 [] (Nat.le_of_ble_eq_true rfl) rfl dX1_takesAny_29 (fun r w1 hq H locs h => ?_)
            obtain ⟨rfl, _, rfl, ⟨rfl, b6⟩ | ⟨rfl, b6⟩⟩ := hq
            · show W p l e r_c_X1_takesAny_2 s m args below meth c _ _ 0 0 Qf (F0 m 32 ls [.int (iI 1)])
              refine x_if_eq B (by omega) (tgt := 59) dX1_takesAny_32 (by decide) (fun c7 => ?_) (fun c7 => ?_)
              · exact absurd c7 (by omega)
              · refine lv_aload_n B.1 B.2.1 dX1_takesAny_35 rfl (lv_at hl 1 rfl) ?_
                refine lv_aload_n B.1 B.2.1 dX1_takesAny_36 rfl (lv_at hl 2 rfl) ?_
                refine lv_aload_n B.1 B.2.1 dX1_takesAny_37 rfl (lv_at hl 3 rfl) ?_
                refine lv_iload_n B.1 B.2.1 dX1_takesAny_38 rfl (lv_at hl 4 rfl) ?_
                refine y_cV B h kX1 26 (CW.f hC 26 _ rfl) k_X1_takesAll rfl (c_X1_takesAll_2 l D Zk ca T G u ad _ hC j op  (by omega) (by omega)) m_774 rfl (by decide) hl.1 [] (Nat.le_of_ble_eq_true rfl) rfl dX1_takesAny_39 (fun r w1 hq H locs h => ?_)
                obtain ⟨rfl, _, rfl, ⟨rfl, b8⟩ | ⟨rfl, b8⟩⟩ := hq
                · show W p l e r_c_X1_takesAny_2 s m args below meth c _ _ 0 0 Qf (F0 m 42 ls [.int (iI 1)])
                  refine x_if_ne B (by omega) (tgt := 47) dX1_takesAny_42 (by decide) (fun c9 => ?_) (fun c9 => ?_)
                  · refine lv_aload_n B.1 B.2.1 dX1_takesAny_47 rfl (lv_at hl 3 rfl) ?_
                    refine x_bipush B (by decide) dX1_takesAny_48 ?_
                    refine y_cV B h kX5 (1000 + 16 * j.toNat + 6) fo1.1 k_X5_addStep rfl (c_X5_addStep l D Zk ca T G u ad _ hC j ((-3))  (by omega) (by omega)) m_793 rfl (by decide) hl.1 [] (Nat.le_of_ble_eq_true rfl) rfl dX1_takesAny_50 (fun r w1 hq H locs h => ?_)
                    obtain ⟨rfl, rfl⟩ := hq
                    show W p l e r_c_X1_takesAny_2 s m args below meth c _ _ 0 0 Qf (F0 m 53 ls [])
                    refine lv_iinc (v := iI (i + 1)) (lv' := [(4, .int (iI (i + 1))), (0, .ref (ad 26)), (1, .ref (ad 20)), (2, .ref (G 6 j)), (3, .int (iI op))]) B.1 B.2.1 dX1_takesAny_53 hl (k := 0) rfl (iI_add _ _) (by decide) rfl (fun ls hl => ?_)
                    refine lv_goto (tgt := 15) B.1 B.2.1 dX1_takesAny_56 (by decide) ?_
                    exact ih15 ((i + 1)) (by omega) (by omega) _ _ _ h (lv_sub hl [0, 1, 2, 3, 4] rfl)
                  · exact absurd c9 (by omega)
                · show W p l e r_c_X1_takesAny_2 s m args below meth c _ _ 0 0 Qf (F0 m 42 ls [.int (iI 0)])
                  refine x_if_ne B (by omega) (tgt := 47) dX1_takesAny_42 (by decide) (fun c10 => ?_) (fun c10 => ?_)
                  · exact absurd c10 (by omega)
                  · refine x_iconst B dX1_takesAny_45 ?_
                    refine y_rz B hQ h (by decide) (by decide) dX1_takesAny_46 ?_
                    exact ⟨rfl, _, rfl, Or.inr ⟨rfl, (by first | omega | trivial | assumption)⟩⟩
            · show W p l e r_c_X1_takesAny_2 s m args below meth c _ _ 0 0 Qf (F0 m 32 ls [.int (iI 0)])
              refine x_if_eq B (by omega) (tgt := 59) dX1_takesAny_32 (by decide) (fun c11 => ?_) (fun c11 => ?_)
              · refine x_iconst B dX1_takesAny_59 ?_
                refine y_rz B hQ h (by decide) (by decide) dX1_takesAny_60 ?_
                exact ⟨rfl, _, rfl, Or.inl ⟨rfl, (by first | omega | trivial | assumption)⟩⟩
              · exact absurd c11 (by omega)
      exact loop15 (((900 - 0 : Int)).toNat + 1) 0 (by omega) (Nat.lt_succ_self _) _ _ _ h (lv_sub hl [0, 1, 2, 3, 4] rfl)
    · exact absurd c3 (by omega)
  · show W p l e r_c_X1_takesAny_2 s m args below meth c _ _ 0 0 Qf (F0 m 7 ls [.int (iI 0)])
    refine x_if_ne B (by omega) (tgt := 12) dX1_takesAny_7 (by decide) (fun c12 => ?_) (fun c12 => ?_)
    · exact absurd c12 (by omega)
    · refine x_iconst B dX1_takesAny_10 ?_
      refine y_rz B hQ h (by decide) (by decide) dX1_takesAny_11 ?_
      exact ⟨rfl, _, rfl, Or.inr ⟨rfl, (by first | omega | trivial | assumption)⟩⟩
abbrev r_c_X1_takesOne_3 : Room := { frames := 11, cells := 0, slots := 0, locals := 268 }
set_option maxHeartbeats 4000000 in
set_option maxRecDepth 100000 in
theorem c_X1_takesOne_3 (l : Launch) (D : va_G) (Zk : yK) (ca : Nat → ClassId) (T : Nat → Int → Int) (G : Nat → Int → Nat) (u : Int) (ad : Nat → Nat) (w : yW) (hC : CW ca T G u ad w) (j : Int) (op : Int)  (hj : 0 ≤ j ∧ j < u) (hop : 6 ≤ op ∧ op ≤ 9) : yC l D Zk ca yX1_takesOne cX1_takesOne 6 (some .boolean) r_c_X1_takesOne_3 [.ref (ad 26), .ref (ad 20), .ref (G 6 j), .int (iI op)] w (vI w (fun z => (z = 1 ∧ (True)) ∨ (z = 0 ∧ (True)))) := by
  refine yC.of2 "WindWords$Grammar" (by decide) rfl (Nat.le_of_ble_eq_true rfl) ?_
  intro p e s m args below meth c A ls Qf B hnm h hl hQ
  have hl : lv_has ls 6 [(0, .ref (ad 26)), (1, .ref (ad 20)), (2, .ref (G 6 j)), (3, .int (iI op))] := hl
  have hs := pi_s (CW.pi hC)
  have fo1 := CW.ru hC j (by omega)
  refine lv_iload_n B.1 B.2.1 dX1_takesOne_0 rfl (lv_at hl 3 rfl) ?_
  refine lv_istore (lv' := [(4, .int (iI op)), (0, .ref (ad 26)), (1, .ref (ad 20)), (2, .ref (G 6 j)), (3, .int (iI op))]) B.1 B.2.1 dX1_takesOne_1 hl (by decide) rfl (fun ls hl => ?_)
  have loop3 : ∀ (n3 : Nat) (ins : Int), (op ≤ ins ∧ ins ≤ 9) → ((9 - ins : Int)).toNat < n3 → ∀ (H : Heap) (locs : List Loc) (ls : Array Slot), yH D Zk A s w H locs → lv_has ls 6 [(4, .int (iI ins)), (0, .ref (ad 26)), (1, .ref (ad 20)), (2, .ref (G 6 j)), (3, .int (iI op))] → W p l e r_c_X1_takesOne_3 s m args below meth c H locs 0 0 Qf (F0 m 3 ls []) := by
    intro n3
    induction n3 with
    | zero =>
      intro ins hi hm3 H locs ls h hl
      exact absurd hm3 (Nat.not_lt_zero _)
    | succ n3 ih3 =>
      intro ins hi hm3 H locs ls h hl
      refine lv_iload B.1 B.2.1 dX1_takesOne_3 (lv_at hl 0 rfl) ?_
      refine x_bipush B (by decide) dX1_takesOne_5 ?_
      refine x_icmp_ge B (by omega) (tgt := 27) dX1_takesOne_7 (by decide) (fun c2 => ?_) (fun c2 => ?_)
      · have join81 : ∀ (tk : Int), (tk = 0 ∨ tk = 1) → ∀ (H : Heap) (locs : List Loc) (ls : Array Slot), yH D Zk A s w H locs → lv_has ls 6 [(4, .int (iI ins)), (2, .ref (G 6 j)), (3, .int (iI op))] → W p l e r_c_X1_takesOne_3 s m args below meth c H locs 0 0 Qf (F0 m 81 ls [.int (iI tk)]) := by
          intro tk hk0 H locs ls h hl
          refine lv_istore (lv' := [(5, .int (iI tk)), (4, .int (iI ins)), (2, .ref (G 6 j)), (3, .int (iI op))]) B.1 B.2.1 dX1_takesOne_81 hl (by decide) rfl (fun ls hl => ?_)
          refine lv_iload B.1 B.2.1 dX1_takesOne_83 (lv_at hl 0 rfl) ?_
          refine x_if_eq B (by omega) (tgt := 103) dX1_takesOne_85 (by decide) (fun c3 => ?_) (fun c3 => ?_)
          · refine lv_iload B.1 B.2.1 dX1_takesOne_103 (lv_at hl 0 rfl) ?_
            refine y_rz B hQ h (by decide) (nz01 (by omega)) dX1_takesOne_105 ?_
            rcases (show tk = 1 ∨ tk = 0 by omega) with e9 | e9
            · exact ⟨rfl, _, rfl, Or.inl ⟨e9, (by first | omega | trivial | assumption)⟩⟩
            · exact ⟨rfl, _, rfl, Or.inr ⟨e9, (by first | omega | trivial | assumption)⟩⟩
          · refine lv_iload B.1 B.2.1 dX1_takesOne_88 (lv_at hl 1 rfl) ?_
            refine lv_iload_n B.1 B.2.1 dX1_takesOne_90 rfl (lv_at hl 3 rfl) ?_
            refine x_isub B dX1_takesOne_91 ?_
            refine x_iconst B dX1_takesOne_92 ?_
            refine x_irem B (by omega) dX1_takesOne_93 ?_
            refine x_iconst B dX1_takesOne_94 ?_
            refine x_icmp_ne B (by omega) (tgt := 103) dX1_takesOne_95 (by decide) (fun c4 => ?_) (fun c4 => ?_)
            · refine lv_iload B.1 B.2.1 dX1_takesOne_103 (lv_at hl 0 rfl) ?_
              refine y_rz B hQ h (by decide) (nz01 (by omega)) dX1_takesOne_105 ?_
              rcases (show tk = 1 ∨ tk = 0 by omega) with e9 | e9
              · exact ⟨rfl, _, rfl, Or.inl ⟨e9, (by first | omega | trivial | assumption)⟩⟩
              · exact ⟨rfl, _, rfl, Or.inr ⟨e9, (by first | omega | trivial | assumption)⟩⟩
            · refine lv_aload_n B.1 B.2.1 dX1_takesOne_98 rfl (lv_at hl 2 rfl) ?_
              refine x_iconst B dX1_takesOne_99 ?_
              refine y_cV B h kX5 (1000 + 16 * j.toNat + 6) fo1.1 k_X5_addStep rfl (c_X5_addStep l D Zk ca T G u ad _ hC j ((-1))  (by omega) (by omega)) m_793 rfl (by decide) hl.1 [] (Nat.le_of_ble_eq_true rfl) rfl dX1_takesOne_100 (fun r w1 hq H locs h => ?_)
              obtain ⟨rfl, rfl⟩ := hq
              show W p l e r_c_X1_takesOne_3 s m args below meth c _ _ 0 0 Qf (F0 m 103 ls [])
              refine lv_iload B.1 B.2.1 dX1_takesOne_103 (lv_at hl 0 rfl) ?_
              refine y_rz B hQ h (by decide) (nz01 (by omega)) dX1_takesOne_105 ?_
              rcases (show tk = 1 ∨ tk = 0 by omega) with e9 | e9
              · exact ⟨rfl, _, rfl, Or.inl ⟨e9, (by first | omega | trivial | assumption)⟩⟩
              · exact ⟨rfl, _, rfl, Or.inr ⟨e9, (by first | omega | trivial | assumption)⟩⟩
        refine lv_iload B.1 B.2.1 dX1_takesOne_27 (lv_at hl 0 rfl) ?_
        refine x_bipush B (by decide) dX1_takesOne_29 ?_
        refine x_icmp_ge B (by omega) (tgt := 75) dX1_takesOne_31 (by decide) (fun c5 => ?_) (fun c5 => ?_)
        · refine lv_aload_n B.1 B.2.1 dX1_takesOne_75 rfl (lv_at hl 1 rfl) ?_
          refine lv_aload_n B.1 B.2.1 dX1_takesOne_76 rfl (lv_at hl 2 rfl) ?_
          refine lv_aload_n B.1 B.2.1 dX1_takesOne_77 rfl (lv_at hl 3 rfl) ?_
          refine y_cV B h kX1 26 (CW.f hC 26 _ rfl) k_X1_takesComparison rfl (c_X1_takesComparison l D Zk ca T G u ad _ hC j  (by omega)) m_782 rfl (by decide) hl.1 [] (Nat.le_of_ble_eq_true rfl) rfl dX1_takesOne_78 (fun r w1 hq H locs h => ?_)
          obtain ⟨rfl, _, rfl, ⟨rfl, b6⟩ | ⟨rfl, b6⟩⟩ := hq
          · show W p l e r_c_X1_takesOne_3 s m args below meth c _ _ 0 0 Qf (F0 m 81 ls [.int (iI 1)])
            exact join81 1 (by omega) _ _ _ h (lv_sub hl [0, 3, 4] rfl)
          · show W p l e r_c_X1_takesOne_3 s m args below meth c _ _ 0 0 Qf (F0 m 81 ls [.int (iI 0)])
            exact join81 0 (by omega) _ _ _ h (lv_sub hl [0, 3, 4] rfl)
        · refine lv_aload_n B.1 B.2.1 dX1_takesOne_34 rfl (lv_at hl 1 rfl) ?_
          refine lv_aload_n B.1 B.2.1 dX1_takesOne_35 rfl (lv_at hl 2 rfl) ?_
          refine x_bipush B (by decide) dX1_takesOne_36 ?_
          refine y_cV B h kX1 26 (CW.f hC 26 _ rfl) k_X1_takes rfl (c_X1_takes l D Zk ca T G u ad _ hC 40  (by omega)) m_762 rfl (by decide) hl.1 [] (Nat.le_of_ble_eq_true rfl) rfl dX1_takesOne_38 (fun r w1 hq H locs h => ?_)
          obtain ⟨rfl, _, rfl, ⟨rfl, b7⟩ | ⟨rfl, b7⟩⟩ := hq
          · show W p l e r_c_X1_takesOne_3 s m args below meth c _ _ 0 0 Qf (F0 m 41 ls [.int (iI 1)])
            refine x_if_eq B (by omega) (tgt := 75) dX1_takesOne_41 (by decide) (fun c8 => ?_) (fun c8 => ?_)
            · exact absurd c8 (by omega)
            · refine lv_aload_n B.1 B.2.1 dX1_takesOne_44 rfl (lv_at hl 1 rfl) ?_
              refine lv_aload_n B.1 B.2.1 dX1_takesOne_45 rfl (lv_at hl 2 rfl) ?_
              refine lv_aload_n B.1 B.2.1 dX1_takesOne_46 rfl (lv_at hl 3 rfl) ?_
              refine lv_iload B.1 B.2.1 dX1_takesOne_47 (lv_at hl 0 rfl) ?_
              refine x_iconst B dX1_takesOne_49 ?_
              refine x_iadd B dX1_takesOne_50 ?_
              refine y_cV B h kX1 26 (CW.f hC 26 _ rfl) k_X1_takesAny rfl (c_X1_takesAny_2 l D Zk ca T G u ad _ hC j ((ins + 1))  (by omega) (by omega)) m_770 rfl (by decide) hl.1 [] (Nat.le_of_ble_eq_true rfl) rfl dX1_takesOne_51 (fun r w1 hq H locs h => ?_)
              obtain ⟨rfl, _, rfl, ⟨rfl, b9⟩ | ⟨rfl, b9⟩⟩ := hq
              · show W p l e r_c_X1_takesOne_3 s m args below meth c _ _ 0 0 Qf (F0 m 54 ls [.int (iI 1)])
                refine x_if_eq B (by omega) (tgt := 71) dX1_takesOne_54 (by decide) (fun c10 => ?_) (fun c10 => ?_)
                · exact absurd c10 (by omega)
                · refine lv_aload_n B.1 B.2.1 dX1_takesOne_57 rfl (lv_at hl 1 rfl) ?_
                  refine lv_aload_n B.1 B.2.1 dX1_takesOne_58 rfl (lv_at hl 2 rfl) ?_
                  refine x_bipush B (by decide) dX1_takesOne_59 ?_
                  refine y_cV B h kX1 26 (CW.f hC 26 _ rfl) k_X1_takes rfl (c_X1_takes l D Zk ca T G u ad _ hC 41  (by omega)) m_762 rfl (by decide) hl.1 [] (Nat.le_of_ble_eq_true rfl) rfl dX1_takesOne_61 (fun r w1 hq H locs h => ?_)
                  obtain ⟨rfl, _, rfl, ⟨rfl, b11⟩ | ⟨rfl, b11⟩⟩ := hq
                  · show W p l e r_c_X1_takesOne_3 s m args below meth c _ _ 0 0 Qf (F0 m 64 ls [.int (iI 1)])
                    refine x_if_eq B (by omega) (tgt := 71) dX1_takesOne_64 (by decide) (fun c12 => ?_) (fun c12 => ?_)
                    · exact absurd c12 (by omega)
                    · refine x_iconst B dX1_takesOne_67 ?_
                      refine lv_goto (tgt := 81) B.1 B.2.1 dX1_takesOne_68 (by decide) ?_
                      exact join81 1 (by omega) _ _ _ h (lv_sub hl [0, 3, 4] rfl)
                  · show W p l e r_c_X1_takesOne_3 s m args below meth c _ _ 0 0 Qf (F0 m 64 ls [.int (iI 0)])
                    refine x_if_eq B (by omega) (tgt := 71) dX1_takesOne_64 (by decide) (fun c13 => ?_) (fun c13 => ?_)
                    · refine x_iconst B dX1_takesOne_71 ?_
                      refine lv_goto (tgt := 81) B.1 B.2.1 dX1_takesOne_72 (by decide) ?_
                      exact join81 0 (by omega) _ _ _ h (lv_sub hl [0, 3, 4] rfl)
                    · exact absurd c13 (by omega)
              · show W p l e r_c_X1_takesOne_3 s m args below meth c _ _ 0 0 Qf (F0 m 54 ls [.int (iI 0)])
                refine x_if_eq B (by omega) (tgt := 71) dX1_takesOne_54 (by decide) (fun c14 => ?_) (fun c14 => ?_)
                · refine x_iconst B dX1_takesOne_71 ?_
                  refine lv_goto (tgt := 81) B.1 B.2.1 dX1_takesOne_72 (by decide) ?_
                  exact join81 0 (by omega) _ _ _ h (lv_sub hl [0, 3, 4] rfl)
                · exact absurd c14 (by omega)
          · show W p l e r_c_X1_takesOne_3 s m args below meth c _ _ 0 0 Qf (F0 m 41 ls [.int (iI 0)])
            refine x_if_eq B (by omega) (tgt := 75) dX1_takesOne_41 (by decide) (fun c15 => ?_) (fun c15 => ?_)
            · refine lv_aload_n B.1 B.2.1 dX1_takesOne_75 rfl (lv_at hl 1 rfl) ?_
              refine lv_aload_n B.1 B.2.1 dX1_takesOne_76 rfl (lv_at hl 2 rfl) ?_
              refine lv_aload_n B.1 B.2.1 dX1_takesOne_77 rfl (lv_at hl 3 rfl) ?_
              refine y_cV B h kX1 26 (CW.f hC 26 _ rfl) k_X1_takesComparison rfl (c_X1_takesComparison l D Zk ca T G u ad _ hC j  (by omega)) m_782 rfl (by decide) hl.1 [] (Nat.le_of_ble_eq_true rfl) rfl dX1_takesOne_78 (fun r w1 hq H locs h => ?_)
              obtain ⟨rfl, _, rfl, ⟨rfl, b16⟩ | ⟨rfl, b16⟩⟩ := hq
              · show W p l e r_c_X1_takesOne_3 s m args below meth c _ _ 0 0 Qf (F0 m 81 ls [.int (iI 1)])
                exact join81 1 (by omega) _ _ _ h (lv_sub hl [0, 3, 4] rfl)
              · show W p l e r_c_X1_takesOne_3 s m args below meth c _ _ 0 0 Qf (F0 m 81 ls [.int (iI 0)])
                exact join81 0 (by omega) _ _ _ h (lv_sub hl [0, 3, 4] rfl)
            · exact absurd c15 (by omega)
      · refine lv_aload_n B.1 B.2.1 dX1_takesOne_10 rfl (lv_at hl 1 rfl) ?_
        refine lv_aload_n B.1 B.2.1 dX1_takesOne_11 rfl (lv_at hl 2 rfl) ?_
        refine x_sipush B (by decide) dX1_takesOne_12 ?_
        refine y_cV B h kX1 26 (CW.f hC 26 _ rfl) k_X1_takes rfl (c_X1_takes l D Zk ca T G u ad _ hC 229  (by omega)) m_762 rfl (by decide) hl.1 [] (Nat.le_of_ble_eq_true rfl) rfl dX1_takesOne_15 (fun r w1 hq H locs h => ?_)
        obtain ⟨rfl, _, rfl, ⟨rfl, b17⟩ | ⟨rfl, b17⟩⟩ := hq
        · show W p l e r_c_X1_takesOne_3 s m args below meth c _ _ 0 0 Qf (F0 m 18 ls [.int (iI 1)])
          refine x_if_eq B (by omega) (tgt := 27) dX1_takesOne_18 (by decide) (fun c18 => ?_) (fun c18 => ?_)
          · exact absurd c18 (by omega)
          · refine lv_iinc (v := iI (ins + 1)) (lv' := [(4, .int (iI (ins + 1))), (0, .ref (ad 26)), (1, .ref (ad 20)), (2, .ref (G 6 j)), (3, .int (iI op))]) B.1 B.2.1 dX1_takesOne_21 hl (k := 0) rfl (iI_add _ _) (by decide) rfl (fun ls hl => ?_)
            refine lv_goto (tgt := 3) B.1 B.2.1 dX1_takesOne_24 (by decide) ?_
            exact ih3 ((ins + 1)) (by omega) (by omega) _ _ _ h (lv_sub hl [0, 1, 2, 3, 4] rfl)
        · show W p l e r_c_X1_takesOne_3 s m args below meth c _ _ 0 0 Qf (F0 m 18 ls [.int (iI 0)])
          refine x_if_eq B (by omega) (tgt := 27) dX1_takesOne_18 (by decide) (fun c19 => ?_) (fun c19 => ?_)
          · have join81 : ∀ (tk : Int), (tk = 0 ∨ tk = 1) → ∀ (H : Heap) (locs : List Loc) (ls : Array Slot), yH D Zk A s w H locs → lv_has ls 6 [(4, .int (iI ins)), (2, .ref (G 6 j)), (3, .int (iI op))] → W p l e r_c_X1_takesOne_3 s m args below meth c H locs 0 0 Qf (F0 m 81 ls [.int (iI tk)]) := by
              intro tk hk0 H locs ls h hl
              refine lv_istore (lv' := [(5, .int (iI tk)), (4, .int (iI ins)), (2, .ref (G 6 j)), (3, .int (iI op))]) B.1 B.2.1 dX1_takesOne_81 hl (by decide) rfl (fun ls hl => ?_)
              refine lv_iload B.1 B.2.1 dX1_takesOne_83 (lv_at hl 0 rfl) ?_
              refine x_if_eq B (by omega) (tgt := 103) dX1_takesOne_85 (by decide) (fun c20 => ?_) (fun c20 => ?_)
              · refine lv_iload B.1 B.2.1 dX1_takesOne_103 (lv_at hl 0 rfl) ?_
                refine y_rz B hQ h (by decide) (nz01 (by omega)) dX1_takesOne_105 ?_
                rcases (show tk = 1 ∨ tk = 0 by omega) with e9 | e9
                · exact ⟨rfl, _, rfl, Or.inl ⟨e9, (by first | omega | trivial | assumption)⟩⟩
                · exact ⟨rfl, _, rfl, Or.inr ⟨e9, (by first | omega | trivial | assumption)⟩⟩
              · refine lv_iload B.1 B.2.1 dX1_takesOne_88 (lv_at hl 1 rfl) ?_
                refine lv_iload_n B.1 B.2.1 dX1_takesOne_90 rfl (lv_at hl 3 rfl) ?_
                refine x_isub B dX1_takesOne_91 ?_
                refine x_iconst B dX1_takesOne_92 ?_
                refine x_irem B (by omega) dX1_takesOne_93 ?_
                refine x_iconst B dX1_takesOne_94 ?_
                refine x_icmp_ne B (by omega) (tgt := 103) dX1_takesOne_95 (by decide) (fun c21 => ?_) (fun c21 => ?_)
                · refine lv_iload B.1 B.2.1 dX1_takesOne_103 (lv_at hl 0 rfl) ?_
                  refine y_rz B hQ h (by decide) (nz01 (by omega)) dX1_takesOne_105 ?_
                  rcases (show tk = 1 ∨ tk = 0 by omega) with e9 | e9
                  · exact ⟨rfl, _, rfl, Or.inl ⟨e9, (by first | omega | trivial | assumption)⟩⟩
                  · exact ⟨rfl, _, rfl, Or.inr ⟨e9, (by first | omega | trivial | assumption)⟩⟩
                · refine lv_aload_n B.1 B.2.1 dX1_takesOne_98 rfl (lv_at hl 2 rfl) ?_
                  refine x_iconst B dX1_takesOne_99 ?_
                  refine y_cV B h kX5 (1000 + 16 * j.toNat + 6) fo1.1 k_X5_addStep rfl (c_X5_addStep l D Zk ca T G u ad _ hC j ((-1))  (by omega) (by omega)) m_793 rfl (by decide) hl.1 [] (Nat.le_of_ble_eq_true rfl) rfl dX1_takesOne_100 (fun r w1 hq H locs h => ?_)
                  obtain ⟨rfl, rfl⟩ := hq
                  show W p l e r_c_X1_takesOne_3 s m args below meth c _ _ 0 0 Qf (F0 m 103 ls [])
                  refine lv_iload B.1 B.2.1 dX1_takesOne_103 (lv_at hl 0 rfl) ?_
                  refine y_rz B hQ h (by decide) (nz01 (by omega)) dX1_takesOne_105 ?_
                  rcases (show tk = 1 ∨ tk = 0 by omega) with e9 | e9
                  · exact ⟨rfl, _, rfl, Or.inl ⟨e9, (by first | omega | trivial | assumption)⟩⟩
                  · exact ⟨rfl, _, rfl, Or.inr ⟨e9, (by first | omega | trivial | assumption)⟩⟩
            refine lv_iload B.1 B.2.1 dX1_takesOne_27 (lv_at hl 0 rfl) ?_
            refine x_bipush B (by decide) dX1_takesOne_29 ?_
            refine x_icmp_ge B (by omega) (tgt := 75) dX1_takesOne_31 (by decide) (fun c22 => ?_) (fun c22 => ?_)
            · refine lv_aload_n B.1 B.2.1 dX1_takesOne_75 rfl (lv_at hl 1 rfl) ?_
              refine lv_aload_n B.1 B.2.1 dX1_takesOne_76 rfl (lv_at hl 2 rfl) ?_
              refine lv_aload_n B.1 B.2.1 dX1_takesOne_77 rfl (lv_at hl 3 rfl) ?_
              refine y_cV B h kX1 26 (CW.f hC 26 _ rfl) k_X1_takesComparison rfl (c_X1_takesComparison l D Zk ca T G u ad _ hC j  (by omega)) m_782 rfl (by decide) hl.1 [] (Nat.le_of_ble_eq_true rfl) rfl dX1_takesOne_78 (fun r w1 hq H locs h => ?_)
              obtain ⟨rfl, _, rfl, ⟨rfl, b23⟩ | ⟨rfl, b23⟩⟩ := hq
              · show W p l e r_c_X1_takesOne_3 s m args below meth c _ _ 0 0 Qf (F0 m 81 ls [.int (iI 1)])
                exact join81 1 (by omega) _ _ _ h (lv_sub hl [0, 3, 4] rfl)
              · show W p l e r_c_X1_takesOne_3 s m args below meth c _ _ 0 0 Qf (F0 m 81 ls [.int (iI 0)])
                exact join81 0 (by omega) _ _ _ h (lv_sub hl [0, 3, 4] rfl)
            · refine lv_aload_n B.1 B.2.1 dX1_takesOne_34 rfl (lv_at hl 1 rfl) ?_
              refine lv_aload_n B.1 B.2.1 dX1_takesOne_35 rfl (lv_at hl 2 rfl) ?_
              refine x_bipush B (by decide) dX1_takesOne_36 ?_
              refine y_cV B h kX1 26 (CW.f hC 26 _ rfl) k_X1_takes rfl (c_X1_takes l D Zk ca T G u ad _ hC 40  (by omega)) m_762 rfl (by decide) hl.1 [] (Nat.le_of_ble_eq_true rfl) rfl dX1_takesOne_38 (fun r w1 hq H locs h => ?_)
              obtain ⟨rfl, _, rfl, ⟨rfl, b24⟩ | ⟨rfl, b24⟩⟩ := hq
              · show W p l e r_c_X1_takesOne_3 s m args below meth c _ _ 0 0 Qf (F0 m 41 ls [.int (iI 1)])
                refine x_if_eq B (by omega) (tgt := 75) dX1_takesOne_41 (by decide) (fun c25 => ?_) (fun c25 => ?_)
                · exact absurd c25 (by omega)
                · refine lv_aload_n B.1 B.2.1 dX1_takesOne_44 rfl (lv_at hl 1 rfl) ?_
                  refine lv_aload_n B.1 B.2.1 dX1_takesOne_45 rfl (lv_at hl 2 rfl) ?_
                  refine lv_aload_n B.1 B.2.1 dX1_takesOne_46 rfl (lv_at hl 3 rfl) ?_
                  refine lv_iload B.1 B.2.1 dX1_takesOne_47 (lv_at hl 0 rfl) ?_
                  refine x_iconst B dX1_takesOne_49 ?_
                  refine x_iadd B dX1_takesOne_50 ?_
                  refine y_cV B h kX1 26 (CW.f hC 26 _ rfl) k_X1_takesAny rfl (c_X1_takesAny_2 l D Zk ca T G u ad _ hC j ((ins + 1))  (by omega) (by omega)) m_770 rfl (by decide) hl.1 [] (Nat.le_of_ble_eq_true rfl) rfl dX1_takesOne_51 (fun r w1 hq H locs h => ?_)
                  obtain ⟨rfl, _, rfl, ⟨rfl, b26⟩ | ⟨rfl, b26⟩⟩ := hq
                  · show W p l e r_c_X1_takesOne_3 s m args below meth c _ _ 0 0 Qf (F0 m 54 ls [.int (iI 1)])
                    refine x_if_eq B (by omega) (tgt := 71) dX1_takesOne_54 (by decide) (fun c27 => ?_) (fun c27 => ?_)
                    · exact absurd c27 (by omega)
                    · refine lv_aload_n B.1 B.2.1 dX1_takesOne_57 rfl (lv_at hl 1 rfl) ?_
                      refine lv_aload_n B.1 B.2.1 dX1_takesOne_58 rfl (lv_at hl 2 rfl) ?_
                      refine x_bipush B (by decide) dX1_takesOne_59 ?_
                      refine y_cV B h kX1 26 (CW.f hC 26 _ rfl) k_X1_takes rfl (c_X1_takes l D Zk ca T G u ad _ hC 41  (by omega)) m_762 rfl (by decide) hl.1 [] (Nat.le_of_ble_eq_true rfl) rfl dX1_takesOne_61 (fun r w1 hq H locs h => ?_)
                      obtain ⟨rfl, _, rfl, ⟨rfl, b28⟩ | ⟨rfl, b28⟩⟩ := hq
                      · show W p l e r_c_X1_takesOne_3 s m args below meth c _ _ 0 0 Qf (F0 m 64 ls [.int (iI 1)])
                        refine x_if_eq B (by omega) (tgt := 71) dX1_takesOne_64 (by decide) (fun c29 => ?_) (fun c29 => ?_)
                        · exact absurd c29 (by omega)
                        · refine x_iconst B dX1_takesOne_67 ?_
                          refine lv_goto (tgt := 81) B.1 B.2.1 dX1_takesOne_68 (by decide) ?_
                          exact join81 1 (by omega) _ _ _ h (lv_sub hl [0, 3, 4] rfl)
                      · show W p l e r_c_X1_takesOne_3 s m args below meth c _ _ 0 0 Qf (F0 m 64 ls [.int (iI 0)])
                        refine x_if_eq B (by omega) (tgt := 71) dX1_takesOne_64 (by decide) (fun c30 => ?_) (fun c30 => ?_)
                        · refine x_iconst B dX1_takesOne_71 ?_
                          refine lv_goto (tgt := 81) B.1 B.2.1 dX1_takesOne_72 (by decide) ?_
                          exact join81 0 (by omega) _ _ _ h (lv_sub hl [0, 3, 4] rfl)
                        · exact absurd c30 (by omega)
                  · show W p l e r_c_X1_takesOne_3 s m args below meth c _ _ 0 0 Qf (F0 m 54 ls [.int (iI 0)])
                    refine x_if_eq B (by omega) (tgt := 71) dX1_takesOne_54 (by decide) (fun c31 => ?_) (fun c31 => ?_)
                    · refine x_iconst B dX1_takesOne_71 ?_
                      refine lv_goto (tgt := 81) B.1 B.2.1 dX1_takesOne_72 (by decide) ?_
                      exact join81 0 (by omega) _ _ _ h (lv_sub hl [0, 3, 4] rfl)
                    · exact absurd c31 (by omega)
              · show W p l e r_c_X1_takesOne_3 s m args below meth c _ _ 0 0 Qf (F0 m 41 ls [.int (iI 0)])
                refine x_if_eq B (by omega) (tgt := 75) dX1_takesOne_41 (by decide) (fun c32 => ?_) (fun c32 => ?_)
                · refine lv_aload_n B.1 B.2.1 dX1_takesOne_75 rfl (lv_at hl 1 rfl) ?_
                  refine lv_aload_n B.1 B.2.1 dX1_takesOne_76 rfl (lv_at hl 2 rfl) ?_
                  refine lv_aload_n B.1 B.2.1 dX1_takesOne_77 rfl (lv_at hl 3 rfl) ?_
                  refine y_cV B h kX1 26 (CW.f hC 26 _ rfl) k_X1_takesComparison rfl (c_X1_takesComparison l D Zk ca T G u ad _ hC j  (by omega)) m_782 rfl (by decide) hl.1 [] (Nat.le_of_ble_eq_true rfl) rfl dX1_takesOne_78 (fun r w1 hq H locs h => ?_)
                  obtain ⟨rfl, _, rfl, ⟨rfl, b33⟩ | ⟨rfl, b33⟩⟩ := hq
                  · show W p l e r_c_X1_takesOne_3 s m args below meth c _ _ 0 0 Qf (F0 m 81 ls [.int (iI 1)])
                    exact join81 1 (by omega) _ _ _ h (lv_sub hl [0, 3, 4] rfl)
                  · show W p l e r_c_X1_takesOne_3 s m args below meth c _ _ 0 0 Qf (F0 m 81 ls [.int (iI 0)])
                    exact join81 0 (by omega) _ _ _ h (lv_sub hl [0, 3, 4] rfl)
                · exact absurd c32 (by omega)
          · exact absurd c19 (by omega)
  exact loop3 (((9 - op : Int)).toNat + 1) op (by omega) (Nat.lt_succ_self _) _ _ _ h (lv_sub hl [0, 1, 2, 3, 4] rfl)
abbrev r_c_X1_takesAll_3 : Room := { frames := 12, cells := 0, slots := 0, locals := 293 }
set_option maxHeartbeats 4000000 in
set_option maxRecDepth 100000 in
theorem c_X1_takesAll_3 (l : Launch) (D : va_G) (Zk : yK) (ca : Nat → ClassId) (T : Nat → Int → Int) (G : Nat → Int → Nat) (u : Int) (ad : Nat → Nat) (w : yW) (hC : CW ca T G u ad w) (j : Int) (op : Int)  (hj : 0 ≤ j ∧ j < u) (hop : 6 ≤ op ∧ op ≤ 9) : yC l D Zk ca yX1_takesAll cX1_takesAll 5 (some .boolean) r_c_X1_takesAll_3 [.ref (ad 26), .ref (ad 20), .ref (G 6 j), .int (iI op)] w (vI w (fun z => (z = 1 ∧ (True)) ∨ (z = 0 ∧ (True)))) := by
  refine yC.of2 "WindWords$Grammar" (by decide) rfl (Nat.le_of_ble_eq_true rfl) ?_
  intro p e s m args below meth c A ls Qf B hnm h hl hQ
  have hl : lv_has ls 5 [(0, .ref (ad 26)), (1, .ref (ad 20)), (2, .ref (G 6 j)), (3, .int (iI op))] := hl
  have hs := pi_s (CW.pi hC)
  have fo1 := CW.ru hC j (by omega)
  refine lv_aload_n B.1 B.2.1 dX1_takesAll_0 rfl (lv_at hl 0 rfl) ?_
  refine lv_aload_n B.1 B.2.1 dX1_takesAll_1 rfl (lv_at hl 1 rfl) ?_
  refine lv_aload_n B.1 B.2.1 dX1_takesAll_2 rfl (lv_at hl 2 rfl) ?_
  refine lv_iload_n B.1 B.2.1 dX1_takesAll_3 rfl (lv_at hl 3 rfl) ?_
  refine y_cV B h kX1 26 (CW.f hC 26 _ rfl) k_X1_takesOne rfl (c_X1_takesOne_3 l D Zk ca T G u ad _ hC j op  (by omega) (by omega)) m_778 rfl (by decide) hl.1 [] (Nat.le_of_ble_eq_true rfl) rfl dX1_takesAll_4 (fun r w1 hq H locs h => ?_)
  obtain ⟨rfl, _, rfl, ⟨rfl, b2⟩ | ⟨rfl, b2⟩⟩ := hq
  · show W p l e r_c_X1_takesAll_3 s m args below meth c _ _ 0 0 Qf (F0 m 7 ls [.int (iI 1)])
    refine x_if_ne B (by omega) (tgt := 12) dX1_takesAll_7 (by decide) (fun c3 => ?_) (fun c3 => ?_)
    · refine x_iconst B dX1_takesAll_12 ?_
      refine lv_istore (lv' := [(4, .int (iI 0)), (0, .ref (ad 26)), (1, .ref (ad 20)), (2, .ref (G 6 j)), (3, .int (iI op))]) B.1 B.2.1 dX1_takesAll_13 hl (by decide) rfl (fun ls hl => ?_)
      have loop15 : ∀ (n15 : Nat) (i : Int), (0 ≤ i ∧ i ≤ 900) → ((900 - i : Int)).toNat < n15 → ∀ (H : Heap) (locs : List Loc) (ls : Array Slot), yH D Zk A s w H locs → lv_has ls 5 [(4, .int (iI i)), (0, .ref (ad 26)), (1, .ref (ad 20)), (2, .ref (G 6 j)), (3, .int (iI op))] → W p l e r_c_X1_takesAll_3 s m args below meth c H locs 0 0 Qf (F0 m 15 ls []) := by
        intro n15
        induction n15 with
        | zero =>
          intro i hi hm15 H locs ls h hl
          exact absurd hm15 (Nat.not_lt_zero _)
        | succ n15 ih15 =>
          intro i hi hm15 H locs ls h hl
          refine lv_iload B.1 B.2.1 dX1_takesAll_15 (lv_at hl 0 rfl) ?_
          refine lv_aload_n B.1 B.2.1 dX1_takesAll_17 rfl (lv_at hl 2 rfl) ?_
          refine y_getG B h kX9 20 (CW.f hC 20 _ rfl) 1 (lo := 0) (hi := 900) rfl m_291 (by decide) dX1_takesAll_18 (fun z4 z4a z4b => ?_)
          refine x_icmp_ge B (by omega) (tgt := 59) dX1_takesAll_21 (by decide) (fun c5 => ?_) (fun c5 => ?_)
          · refine x_iconst B dX1_takesAll_59 ?_
            refine y_rz B hQ h (by decide) (by decide) dX1_takesAll_60 ?_
            exact ⟨rfl, _, rfl, Or.inl ⟨rfl, (by first | omega | trivial | assumption)⟩⟩
          · refine lv_aload_n B.1 B.2.1 dX1_takesAll_24 rfl (lv_at hl 1 rfl) ?_
            refine lv_aload_n B.1 B.2.1 dX1_takesAll_25 rfl (lv_at hl 2 rfl) ?_
            refine x_sipush B (by decide) dX1_takesAll_26 ?_
            refine y_cV B h kX1 26 (CW.f hC 26 _ rfl) k_X1_takes rfl (c_X1_takes l D Zk ca T G u ad _ hC 227  (by omega)) m_762 rfl (by decide) hl.1 [] (Nat.le_of_ble_eq_true rfl) rfl dX1_takesAll_29 (fun r w1 hq H locs h => ?_)
            obtain ⟨rfl, _, rfl, ⟨rfl, b6⟩ | ⟨rfl, b6⟩⟩ := hq
            · show W p l e r_c_X1_takesAll_3 s m args below meth c _ _ 0 0 Qf (F0 m 32 ls [.int (iI 1)])
              refine x_if_eq B (by omega) (tgt := 59) dX1_takesAll_32 (by decide) (fun c7 => ?_) (fun c7 => ?_)
              · exact absurd c7 (by omega)
              · refine lv_aload_n B.1 B.2.1 dX1_takesAll_35 rfl (lv_at hl 1 rfl) ?_
                refine lv_aload_n B.1 B.2.1 dX1_takesAll_36 rfl (lv_at hl 2 rfl) ?_
                refine lv_aload_n B.1 B.2.1 dX1_takesAll_37 rfl (lv_at hl 3 rfl) ?_
                refine lv_iload_n B.1 B.2.1 dX1_takesAll_38 rfl (lv_at hl 4 rfl) ?_
                refine y_cV B h kX1 26 (CW.f hC 26 _ rfl) k_X1_takesOne rfl (c_X1_takesOne_3 l D Zk ca T G u ad _ hC j op  (by omega) (by omega)) m_778 rfl (by decide) hl.1 [] (Nat.le_of_ble_eq_true rfl) rfl dX1_takesAll_39 (fun r w1 hq H locs h => ?_)
                obtain ⟨rfl, _, rfl, ⟨rfl, b8⟩ | ⟨rfl, b8⟩⟩ := hq
                · show W p l e r_c_X1_takesAll_3 s m args below meth c _ _ 0 0 Qf (F0 m 42 ls [.int (iI 1)])
                  refine x_if_ne B (by omega) (tgt := 47) dX1_takesAll_42 (by decide) (fun c9 => ?_) (fun c9 => ?_)
                  · refine lv_aload_n B.1 B.2.1 dX1_takesAll_47 rfl (lv_at hl 3 rfl) ?_
                    refine x_bipush B (by decide) dX1_takesAll_48 ?_
                    refine y_cV B h kX5 (1000 + 16 * j.toNat + 6) fo1.1 k_X5_addStep rfl (c_X5_addStep l D Zk ca T G u ad _ hC j ((-2))  (by omega) (by omega)) m_793 rfl (by decide) hl.1 [] (Nat.le_of_ble_eq_true rfl) rfl dX1_takesAll_50 (fun r w1 hq H locs h => ?_)
                    obtain ⟨rfl, rfl⟩ := hq
                    show W p l e r_c_X1_takesAll_3 s m args below meth c _ _ 0 0 Qf (F0 m 53 ls [])
                    refine lv_iinc (v := iI (i + 1)) (lv' := [(4, .int (iI (i + 1))), (0, .ref (ad 26)), (1, .ref (ad 20)), (2, .ref (G 6 j)), (3, .int (iI op))]) B.1 B.2.1 dX1_takesAll_53 hl (k := 0) rfl (iI_add _ _) (by decide) rfl (fun ls hl => ?_)
                    refine lv_goto (tgt := 15) B.1 B.2.1 dX1_takesAll_56 (by decide) ?_
                    exact ih15 ((i + 1)) (by omega) (by omega) _ _ _ h (lv_sub hl [0, 1, 2, 3, 4] rfl)
                  · exact absurd c9 (by omega)
                · show W p l e r_c_X1_takesAll_3 s m args below meth c _ _ 0 0 Qf (F0 m 42 ls [.int (iI 0)])
                  refine x_if_ne B (by omega) (tgt := 47) dX1_takesAll_42 (by decide) (fun c10 => ?_) (fun c10 => ?_)
                  · exact absurd c10 (by omega)
                  · refine x_iconst B dX1_takesAll_45 ?_
                    refine y_rz B hQ h (by decide) (by decide) dX1_takesAll_46 ?_
                    exact ⟨rfl, _, rfl, Or.inr ⟨rfl, (by first | omega | trivial | assumption)⟩⟩
            · show W p l e r_c_X1_takesAll_3 s m args below meth c _ _ 0 0 Qf (F0 m 32 ls [.int (iI 0)])
              refine x_if_eq B (by omega) (tgt := 59) dX1_takesAll_32 (by decide) (fun c11 => ?_) (fun c11 => ?_)
              · refine x_iconst B dX1_takesAll_59 ?_
                refine y_rz B hQ h (by decide) (by decide) dX1_takesAll_60 ?_
                exact ⟨rfl, _, rfl, Or.inl ⟨rfl, (by first | omega | trivial | assumption)⟩⟩
              · exact absurd c11 (by omega)
      exact loop15 (((900 - 0 : Int)).toNat + 1) 0 (by omega) (Nat.lt_succ_self _) _ _ _ h (lv_sub hl [0, 1, 2, 3, 4] rfl)
    · exact absurd c3 (by omega)
  · show W p l e r_c_X1_takesAll_3 s m args below meth c _ _ 0 0 Qf (F0 m 7 ls [.int (iI 0)])
    refine x_if_ne B (by omega) (tgt := 12) dX1_takesAll_7 (by decide) (fun c12 => ?_) (fun c12 => ?_)
    · exact absurd c12 (by omega)
    · refine x_iconst B dX1_takesAll_10 ?_
      refine y_rz B hQ h (by decide) (by decide) dX1_takesAll_11 ?_
      exact ⟨rfl, _, rfl, Or.inr ⟨rfl, (by first | omega | trivial | assumption)⟩⟩
abbrev r_c_X1_takesAny_3 : Room := { frames := 13, cells := 0, slots := 0, locals := 317 }
set_option maxHeartbeats 4000000 in
set_option maxRecDepth 100000 in
theorem c_X1_takesAny_3 (l : Launch) (D : va_G) (Zk : yK) (ca : Nat → ClassId) (T : Nat → Int → Int) (G : Nat → Int → Nat) (u : Int) (ad : Nat → Nat) (w : yW) (hC : CW ca T G u ad w) (j : Int) (op : Int)  (hj : 0 ≤ j ∧ j < u) (hop : 6 ≤ op ∧ op ≤ 9) : yC l D Zk ca yX1_takesAny cX1_takesAny 5 (some .boolean) r_c_X1_takesAny_3 [.ref (ad 26), .ref (ad 20), .ref (G 6 j), .int (iI op)] w (vI w (fun z => (z = 1 ∧ (True)) ∨ (z = 0 ∧ (True)))) := by
  refine yC.of2 "WindWords$Grammar" (by decide) rfl (Nat.le_of_ble_eq_true rfl) ?_
  intro p e s m args below meth c A ls Qf B hnm h hl hQ
  have hl : lv_has ls 5 [(0, .ref (ad 26)), (1, .ref (ad 20)), (2, .ref (G 6 j)), (3, .int (iI op))] := hl
  have hs := pi_s (CW.pi hC)
  have fo1 := CW.ru hC j (by omega)
  refine lv_aload_n B.1 B.2.1 dX1_takesAny_0 rfl (lv_at hl 0 rfl) ?_
  refine lv_aload_n B.1 B.2.1 dX1_takesAny_1 rfl (lv_at hl 1 rfl) ?_
  refine lv_aload_n B.1 B.2.1 dX1_takesAny_2 rfl (lv_at hl 2 rfl) ?_
  refine lv_iload_n B.1 B.2.1 dX1_takesAny_3 rfl (lv_at hl 3 rfl) ?_
  refine y_cV B h kX1 26 (CW.f hC 26 _ rfl) k_X1_takesAll rfl (c_X1_takesAll_3 l D Zk ca T G u ad _ hC j op  (by omega) (by omega)) m_774 rfl (by decide) hl.1 [] (Nat.le_of_ble_eq_true rfl) rfl dX1_takesAny_4 (fun r w1 hq H locs h => ?_)
  obtain ⟨rfl, _, rfl, ⟨rfl, b2⟩ | ⟨rfl, b2⟩⟩ := hq
  · show W p l e r_c_X1_takesAny_3 s m args below meth c _ _ 0 0 Qf (F0 m 7 ls [.int (iI 1)])
    refine x_if_ne B (by omega) (tgt := 12) dX1_takesAny_7 (by decide) (fun c3 => ?_) (fun c3 => ?_)
    · refine x_iconst B dX1_takesAny_12 ?_
      refine lv_istore (lv' := [(4, .int (iI 0)), (0, .ref (ad 26)), (1, .ref (ad 20)), (2, .ref (G 6 j)), (3, .int (iI op))]) B.1 B.2.1 dX1_takesAny_13 hl (by decide) rfl (fun ls hl => ?_)
      have loop15 : ∀ (n15 : Nat) (i : Int), (0 ≤ i ∧ i ≤ 900) → ((900 - i : Int)).toNat < n15 → ∀ (H : Heap) (locs : List Loc) (ls : Array Slot), yH D Zk A s w H locs → lv_has ls 5 [(4, .int (iI i)), (0, .ref (ad 26)), (1, .ref (ad 20)), (2, .ref (G 6 j)), (3, .int (iI op))] → W p l e r_c_X1_takesAny_3 s m args below meth c H locs 0 0 Qf (F0 m 15 ls []) := by
        intro n15
        induction n15 with
        | zero =>
          intro i hi hm15 H locs ls h hl
          exact absurd hm15 (Nat.not_lt_zero _)
        | succ n15 ih15 =>
          intro i hi hm15 H locs ls h hl
          refine lv_iload B.1 B.2.1 dX1_takesAny_15 (lv_at hl 0 rfl) ?_
          refine lv_aload_n B.1 B.2.1 dX1_takesAny_17 rfl (lv_at hl 2 rfl) ?_
          refine y_getG B h kX9 20 (CW.f hC 20 _ rfl) 1 (lo := 0) (hi := 900) rfl m_291 (by decide) dX1_takesAny_18 (fun z4 z4a z4b => ?_)
          refine x_icmp_ge B (by omega) (tgt := 59) dX1_takesAny_21 (by decide) (fun c5 => ?_) (fun c5 => ?_)
          · refine x_iconst B dX1_takesAny_59 ?_
            refine y_rz B hQ h (by decide) (by decide) dX1_takesAny_60 ?_
            exact ⟨rfl, _, rfl, Or.inl ⟨rfl, (by first | omega | trivial | assumption)⟩⟩
          · refine lv_aload_n B.1 B.2.1 dX1_takesAny_24 rfl (lv_at hl 1 rfl) ?_
            refine lv_aload_n B.1 B.2.1 dX1_takesAny_25 rfl (lv_at hl 2 rfl) ?_
            refine x_sipush B (by decide) dX1_takesAny_26 ?_
            refine y_cV B h kX1 26 (CW.f hC 26 _ rfl) k_X1_takes rfl (c_X1_takes l D Zk ca T G u ad _ hC 228  (by omega)) m_762 rfl (by decide) hl.1 [] (Nat.le_of_ble_eq_true rfl) rfl dX1_takesAny_29 (fun r w1 hq H locs h => ?_)
            obtain ⟨rfl, _, rfl, ⟨rfl, b6⟩ | ⟨rfl, b6⟩⟩ := hq
            · show W p l e r_c_X1_takesAny_3 s m args below meth c _ _ 0 0 Qf (F0 m 32 ls [.int (iI 1)])
              refine x_if_eq B (by omega) (tgt := 59) dX1_takesAny_32 (by decide) (fun c7 => ?_) (fun c7 => ?_)
              · exact absurd c7 (by omega)
              · refine lv_aload_n B.1 B.2.1 dX1_takesAny_35 rfl (lv_at hl 1 rfl) ?_
                refine lv_aload_n B.1 B.2.1 dX1_takesAny_36 rfl (lv_at hl 2 rfl) ?_
                refine lv_aload_n B.1 B.2.1 dX1_takesAny_37 rfl (lv_at hl 3 rfl) ?_
                refine lv_iload_n B.1 B.2.1 dX1_takesAny_38 rfl (lv_at hl 4 rfl) ?_
                refine y_cV B h kX1 26 (CW.f hC 26 _ rfl) k_X1_takesAll rfl (c_X1_takesAll_3 l D Zk ca T G u ad _ hC j op  (by omega) (by omega)) m_774 rfl (by decide) hl.1 [] (Nat.le_of_ble_eq_true rfl) rfl dX1_takesAny_39 (fun r w1 hq H locs h => ?_)
                obtain ⟨rfl, _, rfl, ⟨rfl, b8⟩ | ⟨rfl, b8⟩⟩ := hq
                · show W p l e r_c_X1_takesAny_3 s m args below meth c _ _ 0 0 Qf (F0 m 42 ls [.int (iI 1)])
                  refine x_if_ne B (by omega) (tgt := 47) dX1_takesAny_42 (by decide) (fun c9 => ?_) (fun c9 => ?_)
                  · refine lv_aload_n B.1 B.2.1 dX1_takesAny_47 rfl (lv_at hl 3 rfl) ?_
                    refine x_bipush B (by decide) dX1_takesAny_48 ?_
                    refine y_cV B h kX5 (1000 + 16 * j.toNat + 6) fo1.1 k_X5_addStep rfl (c_X5_addStep l D Zk ca T G u ad _ hC j ((-3))  (by omega) (by omega)) m_793 rfl (by decide) hl.1 [] (Nat.le_of_ble_eq_true rfl) rfl dX1_takesAny_50 (fun r w1 hq H locs h => ?_)
                    obtain ⟨rfl, rfl⟩ := hq
                    show W p l e r_c_X1_takesAny_3 s m args below meth c _ _ 0 0 Qf (F0 m 53 ls [])
                    refine lv_iinc (v := iI (i + 1)) (lv' := [(4, .int (iI (i + 1))), (0, .ref (ad 26)), (1, .ref (ad 20)), (2, .ref (G 6 j)), (3, .int (iI op))]) B.1 B.2.1 dX1_takesAny_53 hl (k := 0) rfl (iI_add _ _) (by decide) rfl (fun ls hl => ?_)
                    refine lv_goto (tgt := 15) B.1 B.2.1 dX1_takesAny_56 (by decide) ?_
                    exact ih15 ((i + 1)) (by omega) (by omega) _ _ _ h (lv_sub hl [0, 1, 2, 3, 4] rfl)
                  · exact absurd c9 (by omega)
                · show W p l e r_c_X1_takesAny_3 s m args below meth c _ _ 0 0 Qf (F0 m 42 ls [.int (iI 0)])
                  refine x_if_ne B (by omega) (tgt := 47) dX1_takesAny_42 (by decide) (fun c10 => ?_) (fun c10 => ?_)
                  · exact absurd c10 (by omega)
                  · refine x_iconst B dX1_takesAny_45 ?_
                    refine y_rz B hQ h (by decide) (by decide) dX1_takesAny_46 ?_
                    exact ⟨rfl, _, rfl, Or.inr ⟨rfl, (by first | omega | trivial | assumption)⟩⟩
            · show W p l e r_c_X1_takesAny_3 s m args below meth c _ _ 0 0 Qf (F0 m 32 ls [.int (iI 0)])
              refine x_if_eq B (by omega) (tgt := 59) dX1_takesAny_32 (by decide) (fun c11 => ?_) (fun c11 => ?_)
              · refine x_iconst B dX1_takesAny_59 ?_
                refine y_rz B hQ h (by decide) (by decide) dX1_takesAny_60 ?_
                exact ⟨rfl, _, rfl, Or.inl ⟨rfl, (by first | omega | trivial | assumption)⟩⟩
              · exact absurd c11 (by omega)
      exact loop15 (((900 - 0 : Int)).toNat + 1) 0 (by omega) (Nat.lt_succ_self _) _ _ _ h (lv_sub hl [0, 1, 2, 3, 4] rfl)
    · exact absurd c3 (by omega)
  · show W p l e r_c_X1_takesAny_3 s m args below meth c _ _ 0 0 Qf (F0 m 7 ls [.int (iI 0)])
    refine x_if_ne B (by omega) (tgt := 12) dX1_takesAny_7 (by decide) (fun c12 => ?_) (fun c12 => ?_)
    · exact absurd c12 (by omega)
    · refine x_iconst B dX1_takesAny_10 ?_
      refine y_rz B hQ h (by decide) (by decide) dX1_takesAny_11 ?_
      exact ⟨rfl, _, rfl, Or.inr ⟨rfl, (by first | omega | trivial | assumption)⟩⟩
abbrev r_c_X1_takesOne_4 : Room := { frames := 14, cells := 0, slots := 0, locals := 341 }
set_option maxHeartbeats 4000000 in
set_option maxRecDepth 100000 in
theorem c_X1_takesOne_4 (l : Launch) (D : va_G) (Zk : yK) (ca : Nat → ClassId) (T : Nat → Int → Int) (G : Nat → Int → Nat) (u : Int) (ad : Nat → Nat) (w : yW) (hC : CW ca T G u ad w) (j : Int) (op : Int)  (hj : 0 ≤ j ∧ j < u) (hop : 5 ≤ op ∧ op ≤ 9) : yC l D Zk ca yX1_takesOne cX1_takesOne 6 (some .boolean) r_c_X1_takesOne_4 [.ref (ad 26), .ref (ad 20), .ref (G 6 j), .int (iI op)] w (vI w (fun z => (z = 1 ∧ (True)) ∨ (z = 0 ∧ (True)))) := by
  refine yC.of2 "WindWords$Grammar" (by decide) rfl (Nat.le_of_ble_eq_true rfl) ?_
  intro p e s m args below meth c A ls Qf B hnm h hl hQ
  have hl : lv_has ls 6 [(0, .ref (ad 26)), (1, .ref (ad 20)), (2, .ref (G 6 j)), (3, .int (iI op))] := hl
  have hs := pi_s (CW.pi hC)
  have fo1 := CW.ru hC j (by omega)
  refine lv_iload_n B.1 B.2.1 dX1_takesOne_0 rfl (lv_at hl 3 rfl) ?_
  refine lv_istore (lv' := [(4, .int (iI op)), (0, .ref (ad 26)), (1, .ref (ad 20)), (2, .ref (G 6 j)), (3, .int (iI op))]) B.1 B.2.1 dX1_takesOne_1 hl (by decide) rfl (fun ls hl => ?_)
  have loop3 : ∀ (n3 : Nat) (ins : Int), (op ≤ ins ∧ ins ≤ 9) → ((9 - ins : Int)).toNat < n3 → ∀ (H : Heap) (locs : List Loc) (ls : Array Slot), yH D Zk A s w H locs → lv_has ls 6 [(4, .int (iI ins)), (0, .ref (ad 26)), (1, .ref (ad 20)), (2, .ref (G 6 j)), (3, .int (iI op))] → W p l e r_c_X1_takesOne_4 s m args below meth c H locs 0 0 Qf (F0 m 3 ls []) := by
    intro n3
    induction n3 with
    | zero =>
      intro ins hi hm3 H locs ls h hl
      exact absurd hm3 (Nat.not_lt_zero _)
    | succ n3 ih3 =>
      intro ins hi hm3 H locs ls h hl
      refine lv_iload B.1 B.2.1 dX1_takesOne_3 (lv_at hl 0 rfl) ?_
      refine x_bipush B (by decide) dX1_takesOne_5 ?_
      refine x_icmp_ge B (by omega) (tgt := 27) dX1_takesOne_7 (by decide) (fun c2 => ?_) (fun c2 => ?_)
      · have join81 : ∀ (tk : Int), (tk = 0 ∨ tk = 1) → ∀ (H : Heap) (locs : List Loc) (ls : Array Slot), yH D Zk A s w H locs → lv_has ls 6 [(4, .int (iI ins)), (2, .ref (G 6 j)), (3, .int (iI op))] → W p l e r_c_X1_takesOne_4 s m args below meth c H locs 0 0 Qf (F0 m 81 ls [.int (iI tk)]) := by
          intro tk hk0 H locs ls h hl
          refine lv_istore (lv' := [(5, .int (iI tk)), (4, .int (iI ins)), (2, .ref (G 6 j)), (3, .int (iI op))]) B.1 B.2.1 dX1_takesOne_81 hl (by decide) rfl (fun ls hl => ?_)
          refine lv_iload B.1 B.2.1 dX1_takesOne_83 (lv_at hl 0 rfl) ?_
          refine x_if_eq B (by omega) (tgt := 103) dX1_takesOne_85 (by decide) (fun c3 => ?_) (fun c3 => ?_)
          · refine lv_iload B.1 B.2.1 dX1_takesOne_103 (lv_at hl 0 rfl) ?_
            refine y_rz B hQ h (by decide) (nz01 (by omega)) dX1_takesOne_105 ?_
            rcases (show tk = 1 ∨ tk = 0 by omega) with e9 | e9
            · exact ⟨rfl, _, rfl, Or.inl ⟨e9, (by first | omega | trivial | assumption)⟩⟩
            · exact ⟨rfl, _, rfl, Or.inr ⟨e9, (by first | omega | trivial | assumption)⟩⟩
          · refine lv_iload B.1 B.2.1 dX1_takesOne_88 (lv_at hl 1 rfl) ?_
            refine lv_iload_n B.1 B.2.1 dX1_takesOne_90 rfl (lv_at hl 3 rfl) ?_
            refine x_isub B dX1_takesOne_91 ?_
            refine x_iconst B dX1_takesOne_92 ?_
            refine x_irem B (by omega) dX1_takesOne_93 ?_
            refine x_iconst B dX1_takesOne_94 ?_
            refine x_icmp_ne B (by omega) (tgt := 103) dX1_takesOne_95 (by decide) (fun c4 => ?_) (fun c4 => ?_)
            · refine lv_iload B.1 B.2.1 dX1_takesOne_103 (lv_at hl 0 rfl) ?_
              refine y_rz B hQ h (by decide) (nz01 (by omega)) dX1_takesOne_105 ?_
              rcases (show tk = 1 ∨ tk = 0 by omega) with e9 | e9
              · exact ⟨rfl, _, rfl, Or.inl ⟨e9, (by first | omega | trivial | assumption)⟩⟩
              · exact ⟨rfl, _, rfl, Or.inr ⟨e9, (by first | omega | trivial | assumption)⟩⟩
            · refine lv_aload_n B.1 B.2.1 dX1_takesOne_98 rfl (lv_at hl 2 rfl) ?_
              refine x_iconst B dX1_takesOne_99 ?_
              refine y_cV B h kX5 (1000 + 16 * j.toNat + 6) fo1.1 k_X5_addStep rfl (c_X5_addStep l D Zk ca T G u ad _ hC j ((-1))  (by omega) (by omega)) m_793 rfl (by decide) hl.1 [] (Nat.le_of_ble_eq_true rfl) rfl dX1_takesOne_100 (fun r w1 hq H locs h => ?_)
              obtain ⟨rfl, rfl⟩ := hq
              show W p l e r_c_X1_takesOne_4 s m args below meth c _ _ 0 0 Qf (F0 m 103 ls [])
              refine lv_iload B.1 B.2.1 dX1_takesOne_103 (lv_at hl 0 rfl) ?_
              refine y_rz B hQ h (by decide) (nz01 (by omega)) dX1_takesOne_105 ?_
              rcases (show tk = 1 ∨ tk = 0 by omega) with e9 | e9
              · exact ⟨rfl, _, rfl, Or.inl ⟨e9, (by first | omega | trivial | assumption)⟩⟩
              · exact ⟨rfl, _, rfl, Or.inr ⟨e9, (by first | omega | trivial | assumption)⟩⟩
        refine lv_iload B.1 B.2.1 dX1_takesOne_27 (lv_at hl 0 rfl) ?_
        refine x_bipush B (by decide) dX1_takesOne_29 ?_
        refine x_icmp_ge B (by omega) (tgt := 75) dX1_takesOne_31 (by decide) (fun c5 => ?_) (fun c5 => ?_)
        · refine lv_aload_n B.1 B.2.1 dX1_takesOne_75 rfl (lv_at hl 1 rfl) ?_
          refine lv_aload_n B.1 B.2.1 dX1_takesOne_76 rfl (lv_at hl 2 rfl) ?_
          refine lv_aload_n B.1 B.2.1 dX1_takesOne_77 rfl (lv_at hl 3 rfl) ?_
          refine y_cV B h kX1 26 (CW.f hC 26 _ rfl) k_X1_takesComparison rfl (c_X1_takesComparison l D Zk ca T G u ad _ hC j  (by omega)) m_782 rfl (by decide) hl.1 [] (Nat.le_of_ble_eq_true rfl) rfl dX1_takesOne_78 (fun r w1 hq H locs h => ?_)
          obtain ⟨rfl, _, rfl, ⟨rfl, b6⟩ | ⟨rfl, b6⟩⟩ := hq
          · show W p l e r_c_X1_takesOne_4 s m args below meth c _ _ 0 0 Qf (F0 m 81 ls [.int (iI 1)])
            exact join81 1 (by omega) _ _ _ h (lv_sub hl [0, 3, 4] rfl)
          · show W p l e r_c_X1_takesOne_4 s m args below meth c _ _ 0 0 Qf (F0 m 81 ls [.int (iI 0)])
            exact join81 0 (by omega) _ _ _ h (lv_sub hl [0, 3, 4] rfl)
        · refine lv_aload_n B.1 B.2.1 dX1_takesOne_34 rfl (lv_at hl 1 rfl) ?_
          refine lv_aload_n B.1 B.2.1 dX1_takesOne_35 rfl (lv_at hl 2 rfl) ?_
          refine x_bipush B (by decide) dX1_takesOne_36 ?_
          refine y_cV B h kX1 26 (CW.f hC 26 _ rfl) k_X1_takes rfl (c_X1_takes l D Zk ca T G u ad _ hC 40  (by omega)) m_762 rfl (by decide) hl.1 [] (Nat.le_of_ble_eq_true rfl) rfl dX1_takesOne_38 (fun r w1 hq H locs h => ?_)
          obtain ⟨rfl, _, rfl, ⟨rfl, b7⟩ | ⟨rfl, b7⟩⟩ := hq
          · show W p l e r_c_X1_takesOne_4 s m args below meth c _ _ 0 0 Qf (F0 m 41 ls [.int (iI 1)])
            refine x_if_eq B (by omega) (tgt := 75) dX1_takesOne_41 (by decide) (fun c8 => ?_) (fun c8 => ?_)
            · exact absurd c8 (by omega)
            · refine lv_aload_n B.1 B.2.1 dX1_takesOne_44 rfl (lv_at hl 1 rfl) ?_
              refine lv_aload_n B.1 B.2.1 dX1_takesOne_45 rfl (lv_at hl 2 rfl) ?_
              refine lv_aload_n B.1 B.2.1 dX1_takesOne_46 rfl (lv_at hl 3 rfl) ?_
              refine lv_iload B.1 B.2.1 dX1_takesOne_47 (lv_at hl 0 rfl) ?_
              refine x_iconst B dX1_takesOne_49 ?_
              refine x_iadd B dX1_takesOne_50 ?_
              refine y_cV B h kX1 26 (CW.f hC 26 _ rfl) k_X1_takesAny rfl (c_X1_takesAny_3 l D Zk ca T G u ad _ hC j ((ins + 1))  (by omega) (by omega)) m_770 rfl (by decide) hl.1 [] (Nat.le_of_ble_eq_true rfl) rfl dX1_takesOne_51 (fun r w1 hq H locs h => ?_)
              obtain ⟨rfl, _, rfl, ⟨rfl, b9⟩ | ⟨rfl, b9⟩⟩ := hq
              · show W p l e r_c_X1_takesOne_4 s m args below meth c _ _ 0 0 Qf (F0 m 54 ls [.int (iI 1)])
                refine x_if_eq B (by omega) (tgt := 71) dX1_takesOne_54 (by decide) (fun c10 => ?_) (fun c10 => ?_)
                · exact absurd c10 (by omega)
                · refine lv_aload_n B.1 B.2.1 dX1_takesOne_57 rfl (lv_at hl 1 rfl) ?_
                  refine lv_aload_n B.1 B.2.1 dX1_takesOne_58 rfl (lv_at hl 2 rfl) ?_
                  refine x_bipush B (by decide) dX1_takesOne_59 ?_
                  refine y_cV B h kX1 26 (CW.f hC 26 _ rfl) k_X1_takes rfl (c_X1_takes l D Zk ca T G u ad _ hC 41  (by omega)) m_762 rfl (by decide) hl.1 [] (Nat.le_of_ble_eq_true rfl) rfl dX1_takesOne_61 (fun r w1 hq H locs h => ?_)
                  obtain ⟨rfl, _, rfl, ⟨rfl, b11⟩ | ⟨rfl, b11⟩⟩ := hq
                  · show W p l e r_c_X1_takesOne_4 s m args below meth c _ _ 0 0 Qf (F0 m 64 ls [.int (iI 1)])
                    refine x_if_eq B (by omega) (tgt := 71) dX1_takesOne_64 (by decide) (fun c12 => ?_) (fun c12 => ?_)
                    · exact absurd c12 (by omega)
                    · refine x_iconst B dX1_takesOne_67 ?_
                      refine lv_goto (tgt := 81) B.1 B.2.1 dX1_takesOne_68 (by decide) ?_
                      exact join81 1 (by omega) _ _ _ h (lv_sub hl [0, 3, 4] rfl)
                  · show W p l e r_c_X1_takesOne_4 s m args below meth c _ _ 0 0 Qf (F0 m 64 ls [.int (iI 0)])
                    refine x_if_eq B (by omega) (tgt := 71) dX1_takesOne_64 (by decide) (fun c13 => ?_) (fun c13 => ?_)
                    · refine x_iconst B dX1_takesOne_71 ?_
                      refine lv_goto (tgt := 81) B.1 B.2.1 dX1_takesOne_72 (by decide) ?_
                      exact join81 0 (by omega) _ _ _ h (lv_sub hl [0, 3, 4] rfl)
                    · exact absurd c13 (by omega)
              · show W p l e r_c_X1_takesOne_4 s m args below meth c _ _ 0 0 Qf (F0 m 54 ls [.int (iI 0)])
                refine x_if_eq B (by omega) (tgt := 71) dX1_takesOne_54 (by decide) (fun c14 => ?_) (fun c14 => ?_)
                · refine x_iconst B dX1_takesOne_71 ?_
                  refine lv_goto (tgt := 81) B.1 B.2.1 dX1_takesOne_72 (by decide) ?_
                  exact join81 0 (by omega) _ _ _ h (lv_sub hl [0, 3, 4] rfl)
                · exact absurd c14 (by omega)
          · show W p l e r_c_X1_takesOne_4 s m args below meth c _ _ 0 0 Qf (F0 m 41 ls [.int (iI 0)])
            refine x_if_eq B (by omega) (tgt := 75) dX1_takesOne_41 (by decide) (fun c15 => ?_) (fun c15 => ?_)
            · refine lv_aload_n B.1 B.2.1 dX1_takesOne_75 rfl (lv_at hl 1 rfl) ?_
              refine lv_aload_n B.1 B.2.1 dX1_takesOne_76 rfl (lv_at hl 2 rfl) ?_
              refine lv_aload_n B.1 B.2.1 dX1_takesOne_77 rfl (lv_at hl 3 rfl) ?_
              refine y_cV B h kX1 26 (CW.f hC 26 _ rfl) k_X1_takesComparison rfl (c_X1_takesComparison l D Zk ca T G u ad _ hC j  (by omega)) m_782 rfl (by decide) hl.1 [] (Nat.le_of_ble_eq_true rfl) rfl dX1_takesOne_78 (fun r w1 hq H locs h => ?_)
              obtain ⟨rfl, _, rfl, ⟨rfl, b16⟩ | ⟨rfl, b16⟩⟩ := hq
              · show W p l e r_c_X1_takesOne_4 s m args below meth c _ _ 0 0 Qf (F0 m 81 ls [.int (iI 1)])
                exact join81 1 (by omega) _ _ _ h (lv_sub hl [0, 3, 4] rfl)
              · show W p l e r_c_X1_takesOne_4 s m args below meth c _ _ 0 0 Qf (F0 m 81 ls [.int (iI 0)])
                exact join81 0 (by omega) _ _ _ h (lv_sub hl [0, 3, 4] rfl)
            · exact absurd c15 (by omega)
      · refine lv_aload_n B.1 B.2.1 dX1_takesOne_10 rfl (lv_at hl 1 rfl) ?_
        refine lv_aload_n B.1 B.2.1 dX1_takesOne_11 rfl (lv_at hl 2 rfl) ?_
        refine x_sipush B (by decide) dX1_takesOne_12 ?_
        refine y_cV B h kX1 26 (CW.f hC 26 _ rfl) k_X1_takes rfl (c_X1_takes l D Zk ca T G u ad _ hC 229  (by omega)) m_762 rfl (by decide) hl.1 [] (Nat.le_of_ble_eq_true rfl) rfl dX1_takesOne_15 (fun r w1 hq H locs h => ?_)
        obtain ⟨rfl, _, rfl, ⟨rfl, b17⟩ | ⟨rfl, b17⟩⟩ := hq
        · show W p l e r_c_X1_takesOne_4 s m args below meth c _ _ 0 0 Qf (F0 m 18 ls [.int (iI 1)])
          refine x_if_eq B (by omega) (tgt := 27) dX1_takesOne_18 (by decide) (fun c18 => ?_) (fun c18 => ?_)
          · exact absurd c18 (by omega)
          · refine lv_iinc (v := iI (ins + 1)) (lv' := [(4, .int (iI (ins + 1))), (0, .ref (ad 26)), (1, .ref (ad 20)), (2, .ref (G 6 j)), (3, .int (iI op))]) B.1 B.2.1 dX1_takesOne_21 hl (k := 0) rfl (iI_add _ _) (by decide) rfl (fun ls hl => ?_)
            refine lv_goto (tgt := 3) B.1 B.2.1 dX1_takesOne_24 (by decide) ?_
            exact ih3 ((ins + 1)) (by omega) (by omega) _ _ _ h (lv_sub hl [0, 1, 2, 3, 4] rfl)
        · show W p l e r_c_X1_takesOne_4 s m args below meth c _ _ 0 0 Qf (F0 m 18 ls [.int (iI 0)])
          refine x_if_eq B (by omega) (tgt := 27) dX1_takesOne_18 (by decide) (fun c19 => ?_) (fun c19 => ?_)
          · have join81 : ∀ (tk : Int), (tk = 0 ∨ tk = 1) → ∀ (H : Heap) (locs : List Loc) (ls : Array Slot), yH D Zk A s w H locs → lv_has ls 6 [(4, .int (iI ins)), (2, .ref (G 6 j)), (3, .int (iI op))] → W p l e r_c_X1_takesOne_4 s m args below meth c H locs 0 0 Qf (F0 m 81 ls [.int (iI tk)]) := by
              intro tk hk0 H locs ls h hl
              refine lv_istore (lv' := [(5, .int (iI tk)), (4, .int (iI ins)), (2, .ref (G 6 j)), (3, .int (iI op))]) B.1 B.2.1 dX1_takesOne_81 hl (by decide) rfl (fun ls hl => ?_)
              refine lv_iload B.1 B.2.1 dX1_takesOne_83 (lv_at hl 0 rfl) ?_
              refine x_if_eq B (by omega) (tgt := 103) dX1_takesOne_85 (by decide) (fun c20 => ?_) (fun c20 => ?_)
              · refine lv_iload B.1 B.2.1 dX1_takesOne_103 (lv_at hl 0 rfl) ?_
                refine y_rz B hQ h (by decide) (nz01 (by omega)) dX1_takesOne_105 ?_
                rcases (show tk = 1 ∨ tk = 0 by omega) with e9 | e9
                · exact ⟨rfl, _, rfl, Or.inl ⟨e9, (by first | omega | trivial | assumption)⟩⟩
                · exact ⟨rfl, _, rfl, Or.inr ⟨e9, (by first | omega | trivial | assumption)⟩⟩
              · refine lv_iload B.1 B.2.1 dX1_takesOne_88 (lv_at hl 1 rfl) ?_
                refine lv_iload_n B.1 B.2.1 dX1_takesOne_90 rfl (lv_at hl 3 rfl) ?_
                refine x_isub B dX1_takesOne_91 ?_
                refine x_iconst B dX1_takesOne_92 ?_
                refine x_irem B (by omega) dX1_takesOne_93 ?_
                refine x_iconst B dX1_takesOne_94 ?_
                refine x_icmp_ne B (by omega) (tgt := 103) dX1_takesOne_95 (by decide) (fun c21 => ?_) (fun c21 => ?_)
                · refine lv_iload B.1 B.2.1 dX1_takesOne_103 (lv_at hl 0 rfl) ?_
                  refine y_rz B hQ h (by decide) (nz01 (by omega)) dX1_takesOne_105 ?_
                  rcases (show tk = 1 ∨ tk = 0 by omega) with e9 | e9
                  · exact ⟨rfl, _, rfl, Or.inl ⟨e9, (by first | omega | trivial | assumption)⟩⟩
                  · exact ⟨rfl, _, rfl, Or.inr ⟨e9, (by first | omega | trivial | assumption)⟩⟩
                · refine lv_aload_n B.1 B.2.1 dX1_takesOne_98 rfl (lv_at hl 2 rfl) ?_
                  refine x_iconst B dX1_takesOne_99 ?_
                  refine y_cV B h kX5 (1000 + 16 * j.toNat + 6) fo1.1 k_X5_addStep rfl (c_X5_addStep l D Zk ca T G u ad _ hC j ((-1))  (by omega) (by omega)) m_793 rfl (by decide) hl.1 [] (Nat.le_of_ble_eq_true rfl) rfl dX1_takesOne_100 (fun r w1 hq H locs h => ?_)
                  obtain ⟨rfl, rfl⟩ := hq
                  show W p l e r_c_X1_takesOne_4 s m args below meth c _ _ 0 0 Qf (F0 m 103 ls [])
                  refine lv_iload B.1 B.2.1 dX1_takesOne_103 (lv_at hl 0 rfl) ?_
                  refine y_rz B hQ h (by decide) (nz01 (by omega)) dX1_takesOne_105 ?_
                  rcases (show tk = 1 ∨ tk = 0 by omega) with e9 | e9
                  · exact ⟨rfl, _, rfl, Or.inl ⟨e9, (by first | omega | trivial | assumption)⟩⟩
                  · exact ⟨rfl, _, rfl, Or.inr ⟨e9, (by first | omega | trivial | assumption)⟩⟩
            refine lv_iload B.1 B.2.1 dX1_takesOne_27 (lv_at hl 0 rfl) ?_
            refine x_bipush B (by decide) dX1_takesOne_29 ?_
            refine x_icmp_ge B (by omega) (tgt := 75) dX1_takesOne_31 (by decide) (fun c22 => ?_) (fun c22 => ?_)
            · refine lv_aload_n B.1 B.2.1 dX1_takesOne_75 rfl (lv_at hl 1 rfl) ?_
              refine lv_aload_n B.1 B.2.1 dX1_takesOne_76 rfl (lv_at hl 2 rfl) ?_
              refine lv_aload_n B.1 B.2.1 dX1_takesOne_77 rfl (lv_at hl 3 rfl) ?_
              refine y_cV B h kX1 26 (CW.f hC 26 _ rfl) k_X1_takesComparison rfl (c_X1_takesComparison l D Zk ca T G u ad _ hC j  (by omega)) m_782 rfl (by decide) hl.1 [] (Nat.le_of_ble_eq_true rfl) rfl dX1_takesOne_78 (fun r w1 hq H locs h => ?_)
              obtain ⟨rfl, _, rfl, ⟨rfl, b23⟩ | ⟨rfl, b23⟩⟩ := hq
              · show W p l e r_c_X1_takesOne_4 s m args below meth c _ _ 0 0 Qf (F0 m 81 ls [.int (iI 1)])
                exact join81 1 (by omega) _ _ _ h (lv_sub hl [0, 3, 4] rfl)
              · show W p l e r_c_X1_takesOne_4 s m args below meth c _ _ 0 0 Qf (F0 m 81 ls [.int (iI 0)])
                exact join81 0 (by omega) _ _ _ h (lv_sub hl [0, 3, 4] rfl)
            · refine lv_aload_n B.1 B.2.1 dX1_takesOne_34 rfl (lv_at hl 1 rfl) ?_
              refine lv_aload_n B.1 B.2.1 dX1_takesOne_35 rfl (lv_at hl 2 rfl) ?_
              refine x_bipush B (by decide) dX1_takesOne_36 ?_
              refine y_cV B h kX1 26 (CW.f hC 26 _ rfl) k_X1_takes rfl (c_X1_takes l D Zk ca T G u ad _ hC 40  (by omega)) m_762 rfl (by decide) hl.1 [] (Nat.le_of_ble_eq_true rfl) rfl dX1_takesOne_38 (fun r w1 hq H locs h => ?_)
              obtain ⟨rfl, _, rfl, ⟨rfl, b24⟩ | ⟨rfl, b24⟩⟩ := hq
              · show W p l e r_c_X1_takesOne_4 s m args below meth c _ _ 0 0 Qf (F0 m 41 ls [.int (iI 1)])
                refine x_if_eq B (by omega) (tgt := 75) dX1_takesOne_41 (by decide) (fun c25 => ?_) (fun c25 => ?_)
                · exact absurd c25 (by omega)
                · refine lv_aload_n B.1 B.2.1 dX1_takesOne_44 rfl (lv_at hl 1 rfl) ?_
                  refine lv_aload_n B.1 B.2.1 dX1_takesOne_45 rfl (lv_at hl 2 rfl) ?_
                  refine lv_aload_n B.1 B.2.1 dX1_takesOne_46 rfl (lv_at hl 3 rfl) ?_
                  refine lv_iload B.1 B.2.1 dX1_takesOne_47 (lv_at hl 0 rfl) ?_
                  refine x_iconst B dX1_takesOne_49 ?_
                  refine x_iadd B dX1_takesOne_50 ?_
                  refine y_cV B h kX1 26 (CW.f hC 26 _ rfl) k_X1_takesAny rfl (c_X1_takesAny_3 l D Zk ca T G u ad _ hC j ((ins + 1))  (by omega) (by omega)) m_770 rfl (by decide) hl.1 [] (Nat.le_of_ble_eq_true rfl) rfl dX1_takesOne_51 (fun r w1 hq H locs h => ?_)
                  obtain ⟨rfl, _, rfl, ⟨rfl, b26⟩ | ⟨rfl, b26⟩⟩ := hq
                  · show W p l e r_c_X1_takesOne_4 s m args below meth c _ _ 0 0 Qf (F0 m 54 ls [.int (iI 1)])
                    refine x_if_eq B (by omega) (tgt := 71) dX1_takesOne_54 (by decide) (fun c27 => ?_) (fun c27 => ?_)
                    · exact absurd c27 (by omega)
                    · refine lv_aload_n B.1 B.2.1 dX1_takesOne_57 rfl (lv_at hl 1 rfl) ?_
                      refine lv_aload_n B.1 B.2.1 dX1_takesOne_58 rfl (lv_at hl 2 rfl) ?_
                      refine x_bipush B (by decide) dX1_takesOne_59 ?_
                      refine y_cV B h kX1 26 (CW.f hC 26 _ rfl) k_X1_takes rfl (c_X1_takes l D Zk ca T G u ad _ hC 41  (by omega)) m_762 rfl (by decide) hl.1 [] (Nat.le_of_ble_eq_true rfl) rfl dX1_takesOne_61 (fun r w1 hq H locs h => ?_)
                      obtain ⟨rfl, _, rfl, ⟨rfl, b28⟩ | ⟨rfl, b28⟩⟩ := hq
                      · show W p l e r_c_X1_takesOne_4 s m args below meth c _ _ 0 0 Qf (F0 m 64 ls [.int (iI 1)])
                        refine x_if_eq B (by omega) (tgt := 71) dX1_takesOne_64 (by decide) (fun c29 => ?_) (fun c29 => ?_)
                        · exact absurd c29 (by omega)
                        · refine x_iconst B dX1_takesOne_67 ?_
                          refine lv_goto (tgt := 81) B.1 B.2.1 dX1_takesOne_68 (by decide) ?_
                          exact join81 1 (by omega) _ _ _ h (lv_sub hl [0, 3, 4] rfl)
                      · show W p l e r_c_X1_takesOne_4 s m args below meth c _ _ 0 0 Qf (F0 m 64 ls [.int (iI 0)])
                        refine x_if_eq B (by omega) (tgt := 71) dX1_takesOne_64 (by decide) (fun c30 => ?_) (fun c30 => ?_)
                        · refine x_iconst B dX1_takesOne_71 ?_
                          refine lv_goto (tgt := 81) B.1 B.2.1 dX1_takesOne_72 (by decide) ?_
                          exact join81 0 (by omega) _ _ _ h (lv_sub hl [0, 3, 4] rfl)
                        · exact absurd c30 (by omega)
                  · show W p l e r_c_X1_takesOne_4 s m args below meth c _ _ 0 0 Qf (F0 m 54 ls [.int (iI 0)])
                    refine x_if_eq B (by omega) (tgt := 71) dX1_takesOne_54 (by decide) (fun c31 => ?_) (fun c31 => ?_)
                    · refine x_iconst B dX1_takesOne_71 ?_
                      refine lv_goto (tgt := 81) B.1 B.2.1 dX1_takesOne_72 (by decide) ?_
                      exact join81 0 (by omega) _ _ _ h (lv_sub hl [0, 3, 4] rfl)
                    · exact absurd c31 (by omega)
              · show W p l e r_c_X1_takesOne_4 s m args below meth c _ _ 0 0 Qf (F0 m 41 ls [.int (iI 0)])
                refine x_if_eq B (by omega) (tgt := 75) dX1_takesOne_41 (by decide) (fun c32 => ?_) (fun c32 => ?_)
                · refine lv_aload_n B.1 B.2.1 dX1_takesOne_75 rfl (lv_at hl 1 rfl) ?_
                  refine lv_aload_n B.1 B.2.1 dX1_takesOne_76 rfl (lv_at hl 2 rfl) ?_
                  refine lv_aload_n B.1 B.2.1 dX1_takesOne_77 rfl (lv_at hl 3 rfl) ?_
                  refine y_cV B h kX1 26 (CW.f hC 26 _ rfl) k_X1_takesComparison rfl (c_X1_takesComparison l D Zk ca T G u ad _ hC j  (by omega)) m_782 rfl (by decide) hl.1 [] (Nat.le_of_ble_eq_true rfl) rfl dX1_takesOne_78 (fun r w1 hq H locs h => ?_)
                  obtain ⟨rfl, _, rfl, ⟨rfl, b33⟩ | ⟨rfl, b33⟩⟩ := hq
                  · show W p l e r_c_X1_takesOne_4 s m args below meth c _ _ 0 0 Qf (F0 m 81 ls [.int (iI 1)])
                    exact join81 1 (by omega) _ _ _ h (lv_sub hl [0, 3, 4] rfl)
                  · show W p l e r_c_X1_takesOne_4 s m args below meth c _ _ 0 0 Qf (F0 m 81 ls [.int (iI 0)])
                    exact join81 0 (by omega) _ _ _ h (lv_sub hl [0, 3, 4] rfl)
                · exact absurd c32 (by omega)
          · exact absurd c19 (by omega)
  exact loop3 (((9 - op : Int)).toNat + 1) op (by omega) (Nat.lt_succ_self _) _ _ _ h (lv_sub hl [0, 1, 2, 3, 4] rfl)
abbrev r_c_X1_takesAll_4 : Room := { frames := 15, cells := 0, slots := 0, locals := 366 }
set_option maxHeartbeats 4000000 in
set_option maxRecDepth 100000 in
theorem c_X1_takesAll_4 (l : Launch) (D : va_G) (Zk : yK) (ca : Nat → ClassId) (T : Nat → Int → Int) (G : Nat → Int → Nat) (u : Int) (ad : Nat → Nat) (w : yW) (hC : CW ca T G u ad w) (j : Int) (op : Int)  (hj : 0 ≤ j ∧ j < u) (hop : 5 ≤ op ∧ op ≤ 9) : yC l D Zk ca yX1_takesAll cX1_takesAll 5 (some .boolean) r_c_X1_takesAll_4 [.ref (ad 26), .ref (ad 20), .ref (G 6 j), .int (iI op)] w (vI w (fun z => (z = 1 ∧ (True)) ∨ (z = 0 ∧ (True)))) := by
  refine yC.of2 "WindWords$Grammar" (by decide) rfl (Nat.le_of_ble_eq_true rfl) ?_
  intro p e s m args below meth c A ls Qf B hnm h hl hQ
  have hl : lv_has ls 5 [(0, .ref (ad 26)), (1, .ref (ad 20)), (2, .ref (G 6 j)), (3, .int (iI op))] := hl
  have hs := pi_s (CW.pi hC)
  have fo1 := CW.ru hC j (by omega)
  refine lv_aload_n B.1 B.2.1 dX1_takesAll_0 rfl (lv_at hl 0 rfl) ?_
  refine lv_aload_n B.1 B.2.1 dX1_takesAll_1 rfl (lv_at hl 1 rfl) ?_
  refine lv_aload_n B.1 B.2.1 dX1_takesAll_2 rfl (lv_at hl 2 rfl) ?_
  refine lv_iload_n B.1 B.2.1 dX1_takesAll_3 rfl (lv_at hl 3 rfl) ?_
  refine y_cV B h kX1 26 (CW.f hC 26 _ rfl) k_X1_takesOne rfl (c_X1_takesOne_4 l D Zk ca T G u ad _ hC j op  (by omega) (by omega)) m_778 rfl (by decide) hl.1 [] (Nat.le_of_ble_eq_true rfl) rfl dX1_takesAll_4 (fun r w1 hq H locs h => ?_)
  obtain ⟨rfl, _, rfl, ⟨rfl, b2⟩ | ⟨rfl, b2⟩⟩ := hq
  · show W p l e r_c_X1_takesAll_4 s m args below meth c _ _ 0 0 Qf (F0 m 7 ls [.int (iI 1)])
    refine x_if_ne B (by omega) (tgt := 12) dX1_takesAll_7 (by decide) (fun c3 => ?_) (fun c3 => ?_)
    · refine x_iconst B dX1_takesAll_12 ?_
      refine lv_istore (lv' := [(4, .int (iI 0)), (0, .ref (ad 26)), (1, .ref (ad 20)), (2, .ref (G 6 j)), (3, .int (iI op))]) B.1 B.2.1 dX1_takesAll_13 hl (by decide) rfl (fun ls hl => ?_)
      have loop15 : ∀ (n15 : Nat) (i : Int), (0 ≤ i ∧ i ≤ 900) → ((900 - i : Int)).toNat < n15 → ∀ (H : Heap) (locs : List Loc) (ls : Array Slot), yH D Zk A s w H locs → lv_has ls 5 [(4, .int (iI i)), (0, .ref (ad 26)), (1, .ref (ad 20)), (2, .ref (G 6 j)), (3, .int (iI op))] → W p l e r_c_X1_takesAll_4 s m args below meth c H locs 0 0 Qf (F0 m 15 ls []) := by
        intro n15
        induction n15 with
        | zero =>
          intro i hi hm15 H locs ls h hl
          exact absurd hm15 (Nat.not_lt_zero _)
        | succ n15 ih15 =>
          intro i hi hm15 H locs ls h hl
          refine lv_iload B.1 B.2.1 dX1_takesAll_15 (lv_at hl 0 rfl) ?_
          refine lv_aload_n B.1 B.2.1 dX1_takesAll_17 rfl (lv_at hl 2 rfl) ?_
          refine y_getG B h kX9 20 (CW.f hC 20 _ rfl) 1 (lo := 0) (hi := 900) rfl m_291 (by decide) dX1_takesAll_18 (fun z4 z4a z4b => ?_)
          refine x_icmp_ge B (by omega) (tgt := 59) dX1_takesAll_21 (by decide) (fun c5 => ?_) (fun c5 => ?_)
          · refine x_iconst B dX1_takesAll_59 ?_
            refine y_rz B hQ h (by decide) (by decide) dX1_takesAll_60 ?_
            exact ⟨rfl, _, rfl, Or.inl ⟨rfl, (by first | omega | trivial | assumption)⟩⟩
          · refine lv_aload_n B.1 B.2.1 dX1_takesAll_24 rfl (lv_at hl 1 rfl) ?_
            refine lv_aload_n B.1 B.2.1 dX1_takesAll_25 rfl (lv_at hl 2 rfl) ?_
            refine x_sipush B (by decide) dX1_takesAll_26 ?_
            refine y_cV B h kX1 26 (CW.f hC 26 _ rfl) k_X1_takes rfl (c_X1_takes l D Zk ca T G u ad _ hC 227  (by omega)) m_762 rfl (by decide) hl.1 [] (Nat.le_of_ble_eq_true rfl) rfl dX1_takesAll_29 (fun r w1 hq H locs h => ?_)
            obtain ⟨rfl, _, rfl, ⟨rfl, b6⟩ | ⟨rfl, b6⟩⟩ := hq
            · show W p l e r_c_X1_takesAll_4 s m args below meth c _ _ 0 0 Qf (F0 m 32 ls [.int (iI 1)])
              refine x_if_eq B (by omega) (tgt := 59) dX1_takesAll_32 (by decide) (fun c7 => ?_) (fun c7 => ?_)
              · exact absurd c7 (by omega)
              · refine lv_aload_n B.1 B.2.1 dX1_takesAll_35 rfl (lv_at hl 1 rfl) ?_
                refine lv_aload_n B.1 B.2.1 dX1_takesAll_36 rfl (lv_at hl 2 rfl) ?_
                refine lv_aload_n B.1 B.2.1 dX1_takesAll_37 rfl (lv_at hl 3 rfl) ?_
                refine lv_iload_n B.1 B.2.1 dX1_takesAll_38 rfl (lv_at hl 4 rfl) ?_
                refine y_cV B h kX1 26 (CW.f hC 26 _ rfl) k_X1_takesOne rfl (c_X1_takesOne_4 l D Zk ca T G u ad _ hC j op  (by omega) (by omega)) m_778 rfl (by decide) hl.1 [] (Nat.le_of_ble_eq_true rfl) rfl dX1_takesAll_39 (fun r w1 hq H locs h => ?_)
                obtain ⟨rfl, _, rfl, ⟨rfl, b8⟩ | ⟨rfl, b8⟩⟩ := hq
                · show W p l e r_c_X1_takesAll_4 s m args below meth c _ _ 0 0 Qf (F0 m 42 ls [.int (iI 1)])
                  refine x_if_ne B (by omega) (tgt := 47) dX1_takesAll_42 (by decide) (fun c9 => ?_) (fun c9 => ?_)
                  · refine lv_aload_n B.1 B.2.1 dX1_takesAll_47 rfl (lv_at hl 3 rfl) ?_
                    refine x_bipush B (by decide) dX1_takesAll_48 ?_
                    refine y_cV B h kX5 (1000 + 16 * j.toNat + 6) fo1.1 k_X5_addStep rfl (c_X5_addStep l D Zk ca T G u ad _ hC j ((-2))  (by omega) (by omega)) m_793 rfl (by decide) hl.1 [] (Nat.le_of_ble_eq_true rfl) rfl dX1_takesAll_50 (fun r w1 hq H locs h => ?_)
                    obtain ⟨rfl, rfl⟩ := hq
                    show W p l e r_c_X1_takesAll_4 s m args below meth c _ _ 0 0 Qf (F0 m 53 ls [])
                    refine lv_iinc (v := iI (i + 1)) (lv' := [(4, .int (iI (i + 1))), (0, .ref (ad 26)), (1, .ref (ad 20)), (2, .ref (G 6 j)), (3, .int (iI op))]) B.1 B.2.1 dX1_takesAll_53 hl (k := 0) rfl (iI_add _ _) (by decide) rfl (fun ls hl => ?_)
                    refine lv_goto (tgt := 15) B.1 B.2.1 dX1_takesAll_56 (by decide) ?_
                    exact ih15 ((i + 1)) (by omega) (by omega) _ _ _ h (lv_sub hl [0, 1, 2, 3, 4] rfl)
                  · exact absurd c9 (by omega)
                · show W p l e r_c_X1_takesAll_4 s m args below meth c _ _ 0 0 Qf (F0 m 42 ls [.int (iI 0)])
                  refine x_if_ne B (by omega) (tgt := 47) dX1_takesAll_42 (by decide) (fun c10 => ?_) (fun c10 => ?_)
                  · exact absurd c10 (by omega)
                  · refine x_iconst B dX1_takesAll_45 ?_
                    refine y_rz B hQ h (by decide) (by decide) dX1_takesAll_46 ?_
                    exact ⟨rfl, _, rfl, Or.inr ⟨rfl, (by first | omega | trivial | assumption)⟩⟩
            · show W p l e r_c_X1_takesAll_4 s m args below meth c _ _ 0 0 Qf (F0 m 32 ls [.int (iI 0)])
              refine x_if_eq B (by omega) (tgt := 59) dX1_takesAll_32 (by decide) (fun c11 => ?_) (fun c11 => ?_)
              · refine x_iconst B dX1_takesAll_59 ?_
                refine y_rz B hQ h (by decide) (by decide) dX1_takesAll_60 ?_
                exact ⟨rfl, _, rfl, Or.inl ⟨rfl, (by first | omega | trivial | assumption)⟩⟩
              · exact absurd c11 (by omega)
      exact loop15 (((900 - 0 : Int)).toNat + 1) 0 (by omega) (Nat.lt_succ_self _) _ _ _ h (lv_sub hl [0, 1, 2, 3, 4] rfl)
    · exact absurd c3 (by omega)
  · show W p l e r_c_X1_takesAll_4 s m args below meth c _ _ 0 0 Qf (F0 m 7 ls [.int (iI 0)])
    refine x_if_ne B (by omega) (tgt := 12) dX1_takesAll_7 (by decide) (fun c12 => ?_) (fun c12 => ?_)
    · exact absurd c12 (by omega)
    · refine x_iconst B dX1_takesAll_10 ?_
      refine y_rz B hQ h (by decide) (by decide) dX1_takesAll_11 ?_
      exact ⟨rfl, _, rfl, Or.inr ⟨rfl, (by first | omega | trivial | assumption)⟩⟩
abbrev r_c_X1_takesAny_4 : Room := { frames := 16, cells := 0, slots := 0, locals := 390 }
set_option maxHeartbeats 4000000 in
set_option maxRecDepth 100000 in
theorem c_X1_takesAny_4 (l : Launch) (D : va_G) (Zk : yK) (ca : Nat → ClassId) (T : Nat → Int → Int) (G : Nat → Int → Nat) (u : Int) (ad : Nat → Nat) (w : yW) (hC : CW ca T G u ad w) (j : Int) (op : Int)  (hj : 0 ≤ j ∧ j < u) (hop : 5 ≤ op ∧ op ≤ 9) : yC l D Zk ca yX1_takesAny cX1_takesAny 5 (some .boolean) r_c_X1_takesAny_4 [.ref (ad 26), .ref (ad 20), .ref (G 6 j), .int (iI op)] w (vI w (fun z => (z = 1 ∧ (True)) ∨ (z = 0 ∧ (True)))) := by
  refine yC.of2 "WindWords$Grammar" (by decide) rfl (Nat.le_of_ble_eq_true rfl) ?_
  intro p e s m args below meth c A ls Qf B hnm h hl hQ
  have hl : lv_has ls 5 [(0, .ref (ad 26)), (1, .ref (ad 20)), (2, .ref (G 6 j)), (3, .int (iI op))] := hl
  have hs := pi_s (CW.pi hC)
  have fo1 := CW.ru hC j (by omega)
  refine lv_aload_n B.1 B.2.1 dX1_takesAny_0 rfl (lv_at hl 0 rfl) ?_
  refine lv_aload_n B.1 B.2.1 dX1_takesAny_1 rfl (lv_at hl 1 rfl) ?_
  refine lv_aload_n B.1 B.2.1 dX1_takesAny_2 rfl (lv_at hl 2 rfl) ?_
  refine lv_iload_n B.1 B.2.1 dX1_takesAny_3 rfl (lv_at hl 3 rfl) ?_
  refine y_cV B h kX1 26 (CW.f hC 26 _ rfl) k_X1_takesAll rfl (c_X1_takesAll_4 l D Zk ca T G u ad _ hC j op  (by omega) (by omega)) m_774 rfl (by decide) hl.1 [] (Nat.le_of_ble_eq_true rfl) rfl dX1_takesAny_4 (fun r w1 hq H locs h => ?_)
  obtain ⟨rfl, _, rfl, ⟨rfl, b2⟩ | ⟨rfl, b2⟩⟩ := hq
  · show W p l e r_c_X1_takesAny_4 s m args below meth c _ _ 0 0 Qf (F0 m 7 ls [.int (iI 1)])
    refine x_if_ne B (by omega) (tgt := 12) dX1_takesAny_7 (by decide) (fun c3 => ?_) (fun c3 => ?_)
    · refine x_iconst B dX1_takesAny_12 ?_
      refine lv_istore (lv' := [(4, .int (iI 0)), (0, .ref (ad 26)), (1, .ref (ad 20)), (2, .ref (G 6 j)), (3, .int (iI op))]) B.1 B.2.1 dX1_takesAny_13 hl (by decide) rfl (fun ls hl => ?_)
      have loop15 : ∀ (n15 : Nat) (i : Int), (0 ≤ i ∧ i ≤ 900) → ((900 - i : Int)).toNat < n15 → ∀ (H : Heap) (locs : List Loc) (ls : Array Slot), yH D Zk A s w H locs → lv_has ls 5 [(4, .int (iI i)), (0, .ref (ad 26)), (1, .ref (ad 20)), (2, .ref (G 6 j)), (3, .int (iI op))] → W p l e r_c_X1_takesAny_4 s m args below meth c H locs 0 0 Qf (F0 m 15 ls []) := by
        intro n15
        induction n15 with
        | zero =>
          intro i hi hm15 H locs ls h hl
          exact absurd hm15 (Nat.not_lt_zero _)
        | succ n15 ih15 =>
          intro i hi hm15 H locs ls h hl
          refine lv_iload B.1 B.2.1 dX1_takesAny_15 (lv_at hl 0 rfl) ?_
          refine lv_aload_n B.1 B.2.1 dX1_takesAny_17 rfl (lv_at hl 2 rfl) ?_
          refine y_getG B h kX9 20 (CW.f hC 20 _ rfl) 1 (lo := 0) (hi := 900) rfl m_291 (by decide) dX1_takesAny_18 (fun z4 z4a z4b => ?_)
          refine x_icmp_ge B (by omega) (tgt := 59) dX1_takesAny_21 (by decide) (fun c5 => ?_) (fun c5 => ?_)
          · refine x_iconst B dX1_takesAny_59 ?_
            refine y_rz B hQ h (by decide) (by decide) dX1_takesAny_60 ?_
            exact ⟨rfl, _, rfl, Or.inl ⟨rfl, (by first | omega | trivial | assumption)⟩⟩
          · refine lv_aload_n B.1 B.2.1 dX1_takesAny_24 rfl (lv_at hl 1 rfl) ?_
            refine lv_aload_n B.1 B.2.1 dX1_takesAny_25 rfl (lv_at hl 2 rfl) ?_
            refine x_sipush B (by decide) dX1_takesAny_26 ?_
            refine y_cV B h kX1 26 (CW.f hC 26 _ rfl) k_X1_takes rfl (c_X1_takes l D Zk ca T G u ad _ hC 228  (by omega)) m_762 rfl (by decide) hl.1 [] (Nat.le_of_ble_eq_true rfl) rfl dX1_takesAny_29 (fun r w1 hq H locs h => ?_)
            obtain ⟨rfl, _, rfl, ⟨rfl, b6⟩ | ⟨rfl, b6⟩⟩ := hq
            · show W p l e r_c_X1_takesAny_4 s m args below meth c _ _ 0 0 Qf (F0 m 32 ls [.int (iI 1)])
              refine x_if_eq B (by omega) (tgt := 59) dX1_takesAny_32 (by decide) (fun c7 => ?_) (fun c7 => ?_)
              · exact absurd c7 (by omega)
              · refine lv_aload_n B.1 B.2.1 dX1_takesAny_35 rfl (lv_at hl 1 rfl) ?_
                refine lv_aload_n B.1 B.2.1 dX1_takesAny_36 rfl (lv_at hl 2 rfl) ?_
                refine lv_aload_n B.1 B.2.1 dX1_takesAny_37 rfl (lv_at hl 3 rfl) ?_
                refine lv_iload_n B.1 B.2.1 dX1_takesAny_38 rfl (lv_at hl 4 rfl) ?_
                refine y_cV B h kX1 26 (CW.f hC 26 _ rfl) k_X1_takesAll rfl (c_X1_takesAll_4 l D Zk ca T G u ad _ hC j op  (by omega) (by omega)) m_774 rfl (by decide) hl.1 [] (Nat.le_of_ble_eq_true rfl) rfl dX1_takesAny_39 (fun r w1 hq H locs h => ?_)
                obtain ⟨rfl, _, rfl, ⟨rfl, b8⟩ | ⟨rfl, b8⟩⟩ := hq
                · show W p l e r_c_X1_takesAny_4 s m args below meth c _ _ 0 0 Qf (F0 m 42 ls [.int (iI 1)])
                  refine x_if_ne B (by omega) (tgt := 47) dX1_takesAny_42 (by decide) (fun c9 => ?_) (fun c9 => ?_)
                  · refine lv_aload_n B.1 B.2.1 dX1_takesAny_47 rfl (lv_at hl 3 rfl) ?_
                    refine x_bipush B (by decide) dX1_takesAny_48 ?_
                    refine y_cV B h kX5 (1000 + 16 * j.toNat + 6) fo1.1 k_X5_addStep rfl (c_X5_addStep l D Zk ca T G u ad _ hC j ((-3))  (by omega) (by omega)) m_793 rfl (by decide) hl.1 [] (Nat.le_of_ble_eq_true rfl) rfl dX1_takesAny_50 (fun r w1 hq H locs h => ?_)
                    obtain ⟨rfl, rfl⟩ := hq
                    show W p l e r_c_X1_takesAny_4 s m args below meth c _ _ 0 0 Qf (F0 m 53 ls [])
                    refine lv_iinc (v := iI (i + 1)) (lv' := [(4, .int (iI (i + 1))), (0, .ref (ad 26)), (1, .ref (ad 20)), (2, .ref (G 6 j)), (3, .int (iI op))]) B.1 B.2.1 dX1_takesAny_53 hl (k := 0) rfl (iI_add _ _) (by decide) rfl (fun ls hl => ?_)
                    refine lv_goto (tgt := 15) B.1 B.2.1 dX1_takesAny_56 (by decide) ?_
                    exact ih15 ((i + 1)) (by omega) (by omega) _ _ _ h (lv_sub hl [0, 1, 2, 3, 4] rfl)
                  · exact absurd c9 (by omega)
                · show W p l e r_c_X1_takesAny_4 s m args below meth c _ _ 0 0 Qf (F0 m 42 ls [.int (iI 0)])
                  refine x_if_ne B (by omega) (tgt := 47) dX1_takesAny_42 (by decide) (fun c10 => ?_) (fun c10 => ?_)
                  · exact absurd c10 (by omega)
                  · refine x_iconst B dX1_takesAny_45 ?_
                    refine y_rz B hQ h (by decide) (by decide) dX1_takesAny_46 ?_
                    exact ⟨rfl, _, rfl, Or.inr ⟨rfl, (by first | omega | trivial | assumption)⟩⟩
            · show W p l e r_c_X1_takesAny_4 s m args below meth c _ _ 0 0 Qf (F0 m 32 ls [.int (iI 0)])
              refine x_if_eq B (by omega) (tgt := 59) dX1_takesAny_32 (by decide) (fun c11 => ?_) (fun c11 => ?_)
              · refine x_iconst B dX1_takesAny_59 ?_
                refine y_rz B hQ h (by decide) (by decide) dX1_takesAny_60 ?_
                exact ⟨rfl, _, rfl, Or.inl ⟨rfl, (by first | omega | trivial | assumption)⟩⟩
              · exact absurd c11 (by omega)
      exact loop15 (((900 - 0 : Int)).toNat + 1) 0 (by omega) (Nat.lt_succ_self _) _ _ _ h (lv_sub hl [0, 1, 2, 3, 4] rfl)
    · exact absurd c3 (by omega)
  · show W p l e r_c_X1_takesAny_4 s m args below meth c _ _ 0 0 Qf (F0 m 7 ls [.int (iI 0)])
    refine x_if_ne B (by omega) (tgt := 12) dX1_takesAny_7 (by decide) (fun c12 => ?_) (fun c12 => ?_)
    · exact absurd c12 (by omega)
    · refine x_iconst B dX1_takesAny_10 ?_
      refine y_rz B hQ h (by decide) (by decide) dX1_takesAny_11 ?_
      exact ⟨rfl, _, rfl, Or.inr ⟨rfl, (by first | omega | trivial | assumption)⟩⟩
abbrev r_c_X1_takesOne_5 : Room := { frames := 17, cells := 0, slots := 0, locals := 414 }
set_option maxHeartbeats 4000000 in
set_option maxRecDepth 100000 in
theorem c_X1_takesOne_5 (l : Launch) (D : va_G) (Zk : yK) (ca : Nat → ClassId) (T : Nat → Int → Int) (G : Nat → Int → Nat) (u : Int) (ad : Nat → Nat) (w : yW) (hC : CW ca T G u ad w) (j : Int) (op : Int)  (hj : 0 ≤ j ∧ j < u) (hop : 4 ≤ op ∧ op ≤ 9) : yC l D Zk ca yX1_takesOne cX1_takesOne 6 (some .boolean) r_c_X1_takesOne_5 [.ref (ad 26), .ref (ad 20), .ref (G 6 j), .int (iI op)] w (vI w (fun z => (z = 1 ∧ (True)) ∨ (z = 0 ∧ (True)))) := by
  refine yC.of2 "WindWords$Grammar" (by decide) rfl (Nat.le_of_ble_eq_true rfl) ?_
  intro p e s m args below meth c A ls Qf B hnm h hl hQ
  have hl : lv_has ls 6 [(0, .ref (ad 26)), (1, .ref (ad 20)), (2, .ref (G 6 j)), (3, .int (iI op))] := hl
  have hs := pi_s (CW.pi hC)
  have fo1 := CW.ru hC j (by omega)
  refine lv_iload_n B.1 B.2.1 dX1_takesOne_0 rfl (lv_at hl 3 rfl) ?_
  refine lv_istore (lv' := [(4, .int (iI op)), (0, .ref (ad 26)), (1, .ref (ad 20)), (2, .ref (G 6 j)), (3, .int (iI op))]) B.1 B.2.1 dX1_takesOne_1 hl (by decide) rfl (fun ls hl => ?_)
  have loop3 : ∀ (n3 : Nat) (ins : Int), (op ≤ ins ∧ ins ≤ 9) → ((9 - ins : Int)).toNat < n3 → ∀ (H : Heap) (locs : List Loc) (ls : Array Slot), yH D Zk A s w H locs → lv_has ls 6 [(4, .int (iI ins)), (0, .ref (ad 26)), (1, .ref (ad 20)), (2, .ref (G 6 j)), (3, .int (iI op))] → W p l e r_c_X1_takesOne_5 s m args below meth c H locs 0 0 Qf (F0 m 3 ls []) := by
    intro n3
    induction n3 with
    | zero =>
      intro ins hi hm3 H locs ls h hl
      exact absurd hm3 (Nat.not_lt_zero _)
    | succ n3 ih3 =>
      intro ins hi hm3 H locs ls h hl
      refine lv_iload B.1 B.2.1 dX1_takesOne_3 (lv_at hl 0 rfl) ?_
      refine x_bipush B (by decide) dX1_takesOne_5 ?_
      refine x_icmp_ge B (by omega) (tgt := 27) dX1_takesOne_7 (by decide) (fun c2 => ?_) (fun c2 => ?_)
      · have join81 : ∀ (tk : Int), (tk = 0 ∨ tk = 1) → ∀ (H : Heap) (locs : List Loc) (ls : Array Slot), yH D Zk A s w H locs → lv_has ls 6 [(4, .int (iI ins)), (2, .ref (G 6 j)), (3, .int (iI op))] → W p l e r_c_X1_takesOne_5 s m args below meth c H locs 0 0 Qf (F0 m 81 ls [.int (iI tk)]) := by
          intro tk hk0 H locs ls h hl
          refine lv_istore (lv' := [(5, .int (iI tk)), (4, .int (iI ins)), (2, .ref (G 6 j)), (3, .int (iI op))]) B.1 B.2.1 dX1_takesOne_81 hl (by decide) rfl (fun ls hl => ?_)
          refine lv_iload B.1 B.2.1 dX1_takesOne_83 (lv_at hl 0 rfl) ?_
          refine x_if_eq B (by omega) (tgt := 103) dX1_takesOne_85 (by decide) (fun c3 => ?_) (fun c3 => ?_)
          · refine lv_iload B.1 B.2.1 dX1_takesOne_103 (lv_at hl 0 rfl) ?_
            refine y_rz B hQ h (by decide) (nz01 (by omega)) dX1_takesOne_105 ?_
            rcases (show tk = 1 ∨ tk = 0 by omega) with e9 | e9
            · exact ⟨rfl, _, rfl, Or.inl ⟨e9, (by first | omega | trivial | assumption)⟩⟩
            · exact ⟨rfl, _, rfl, Or.inr ⟨e9, (by first | omega | trivial | assumption)⟩⟩
          · refine lv_iload B.1 B.2.1 dX1_takesOne_88 (lv_at hl 1 rfl) ?_
            refine lv_iload_n B.1 B.2.1 dX1_takesOne_90 rfl (lv_at hl 3 rfl) ?_
            refine x_isub B dX1_takesOne_91 ?_
            refine x_iconst B dX1_takesOne_92 ?_
            refine x_irem B (by omega) dX1_takesOne_93 ?_
            refine x_iconst B dX1_takesOne_94 ?_
            refine x_icmp_ne B (by omega) (tgt := 103) dX1_takesOne_95 (by decide) (fun c4 => ?_) (fun c4 => ?_)
            · refine lv_iload B.1 B.2.1 dX1_takesOne_103 (lv_at hl 0 rfl) ?_
              refine y_rz B hQ h (by decide) (nz01 (by omega)) dX1_takesOne_105 ?_
              rcases (show tk = 1 ∨ tk = 0 by omega) with e9 | e9
              · exact ⟨rfl, _, rfl, Or.inl ⟨e9, (by first | omega | trivial | assumption)⟩⟩
              · exact ⟨rfl, _, rfl, Or.inr ⟨e9, (by first | omega | trivial | assumption)⟩⟩
            · refine lv_aload_n B.1 B.2.1 dX1_takesOne_98 rfl (lv_at hl 2 rfl) ?_
              refine x_iconst B dX1_takesOne_99 ?_
              refine y_cV B h kX5 (1000 + 16 * j.toNat + 6) fo1.1 k_X5_addStep rfl (c_X5_addStep l D Zk ca T G u ad _ hC j ((-1))  (by omega) (by omega)) m_793 rfl (by decide) hl.1 [] (Nat.le_of_ble_eq_true rfl) rfl dX1_takesOne_100 (fun r w1 hq H locs h => ?_)
              obtain ⟨rfl, rfl⟩ := hq
              show W p l e r_c_X1_takesOne_5 s m args below meth c _ _ 0 0 Qf (F0 m 103 ls [])
              refine lv_iload B.1 B.2.1 dX1_takesOne_103 (lv_at hl 0 rfl) ?_
              refine y_rz B hQ h (by decide) (nz01 (by omega)) dX1_takesOne_105 ?_
              rcases (show tk = 1 ∨ tk = 0 by omega) with e9 | e9
              · exact ⟨rfl, _, rfl, Or.inl ⟨e9, (by first | omega | trivial | assumption)⟩⟩
              · exact ⟨rfl, _, rfl, Or.inr ⟨e9, (by first | omega | trivial | assumption)⟩⟩
        refine lv_iload B.1 B.2.1 dX1_takesOne_27 (lv_at hl 0 rfl) ?_
        refine x_bipush B (by decide) dX1_takesOne_29 ?_
        refine x_icmp_ge B (by omega) (tgt := 75) dX1_takesOne_31 (by decide) (fun c5 => ?_) (fun c5 => ?_)
        · refine lv_aload_n B.1 B.2.1 dX1_takesOne_75 rfl (lv_at hl 1 rfl) ?_
          refine lv_aload_n B.1 B.2.1 dX1_takesOne_76 rfl (lv_at hl 2 rfl) ?_
          refine lv_aload_n B.1 B.2.1 dX1_takesOne_77 rfl (lv_at hl 3 rfl) ?_
          refine y_cV B h kX1 26 (CW.f hC 26 _ rfl) k_X1_takesComparison rfl (c_X1_takesComparison l D Zk ca T G u ad _ hC j  (by omega)) m_782 rfl (by decide) hl.1 [] (Nat.le_of_ble_eq_true rfl) rfl dX1_takesOne_78 (fun r w1 hq H locs h => ?_)
          obtain ⟨rfl, _, rfl, ⟨rfl, b6⟩ | ⟨rfl, b6⟩⟩ := hq
          · show W p l e r_c_X1_takesOne_5 s m args below meth c _ _ 0 0 Qf (F0 m 81 ls [.int (iI 1)])
            exact join81 1 (by omega) _ _ _ h (lv_sub hl [0, 3, 4] rfl)
          · show W p l e r_c_X1_takesOne_5 s m args below meth c _ _ 0 0 Qf (F0 m 81 ls [.int (iI 0)])
            exact join81 0 (by omega) _ _ _ h (lv_sub hl [0, 3, 4] rfl)
        · refine lv_aload_n B.1 B.2.1 dX1_takesOne_34 rfl (lv_at hl 1 rfl) ?_
          refine lv_aload_n B.1 B.2.1 dX1_takesOne_35 rfl (lv_at hl 2 rfl) ?_
          refine x_bipush B (by decide) dX1_takesOne_36 ?_
          refine y_cV B h kX1 26 (CW.f hC 26 _ rfl) k_X1_takes rfl (c_X1_takes l D Zk ca T G u ad _ hC 40  (by omega)) m_762 rfl (by decide) hl.1 [] (Nat.le_of_ble_eq_true rfl) rfl dX1_takesOne_38 (fun r w1 hq H locs h => ?_)
          obtain ⟨rfl, _, rfl, ⟨rfl, b7⟩ | ⟨rfl, b7⟩⟩ := hq
          · show W p l e r_c_X1_takesOne_5 s m args below meth c _ _ 0 0 Qf (F0 m 41 ls [.int (iI 1)])
            refine x_if_eq B (by omega) (tgt := 75) dX1_takesOne_41 (by decide) (fun c8 => ?_) (fun c8 => ?_)
            · exact absurd c8 (by omega)
            · refine lv_aload_n B.1 B.2.1 dX1_takesOne_44 rfl (lv_at hl 1 rfl) ?_
              refine lv_aload_n B.1 B.2.1 dX1_takesOne_45 rfl (lv_at hl 2 rfl) ?_
              refine lv_aload_n B.1 B.2.1 dX1_takesOne_46 rfl (lv_at hl 3 rfl) ?_
              refine lv_iload B.1 B.2.1 dX1_takesOne_47 (lv_at hl 0 rfl) ?_
              refine x_iconst B dX1_takesOne_49 ?_
              refine x_iadd B dX1_takesOne_50 ?_
              refine y_cV B h kX1 26 (CW.f hC 26 _ rfl) k_X1_takesAny rfl (c_X1_takesAny_4 l D Zk ca T G u ad _ hC j ((ins + 1))  (by omega) (by omega)) m_770 rfl (by decide) hl.1 [] (Nat.le_of_ble_eq_true rfl) rfl dX1_takesOne_51 (fun r w1 hq H locs h => ?_)
              obtain ⟨rfl, _, rfl, ⟨rfl, b9⟩ | ⟨rfl, b9⟩⟩ := hq
              · show W p l e r_c_X1_takesOne_5 s m args below meth c _ _ 0 0 Qf (F0 m 54 ls [.int (iI 1)])
                refine x_if_eq B (by omega) (tgt := 71) dX1_takesOne_54 (by decide) (fun c10 => ?_) (fun c10 => ?_)
                · exact absurd c10 (by omega)
                · refine lv_aload_n B.1 B.2.1 dX1_takesOne_57 rfl (lv_at hl 1 rfl) ?_
                  refine lv_aload_n B.1 B.2.1 dX1_takesOne_58 rfl (lv_at hl 2 rfl) ?_
                  refine x_bipush B (by decide) dX1_takesOne_59 ?_
                  refine y_cV B h kX1 26 (CW.f hC 26 _ rfl) k_X1_takes rfl (c_X1_takes l D Zk ca T G u ad _ hC 41  (by omega)) m_762 rfl (by decide) hl.1 [] (Nat.le_of_ble_eq_true rfl) rfl dX1_takesOne_61 (fun r w1 hq H locs h => ?_)
                  obtain ⟨rfl, _, rfl, ⟨rfl, b11⟩ | ⟨rfl, b11⟩⟩ := hq
                  · show W p l e r_c_X1_takesOne_5 s m args below meth c _ _ 0 0 Qf (F0 m 64 ls [.int (iI 1)])
                    refine x_if_eq B (by omega) (tgt := 71) dX1_takesOne_64 (by decide) (fun c12 => ?_) (fun c12 => ?_)
                    · exact absurd c12 (by omega)
                    · refine x_iconst B dX1_takesOne_67 ?_
                      refine lv_goto (tgt := 81) B.1 B.2.1 dX1_takesOne_68 (by decide) ?_
                      exact join81 1 (by omega) _ _ _ h (lv_sub hl [0, 3, 4] rfl)
                  · show W p l e r_c_X1_takesOne_5 s m args below meth c _ _ 0 0 Qf (F0 m 64 ls [.int (iI 0)])
                    refine x_if_eq B (by omega) (tgt := 71) dX1_takesOne_64 (by decide) (fun c13 => ?_) (fun c13 => ?_)
                    · refine x_iconst B dX1_takesOne_71 ?_
                      refine lv_goto (tgt := 81) B.1 B.2.1 dX1_takesOne_72 (by decide) ?_
                      exact join81 0 (by omega) _ _ _ h (lv_sub hl [0, 3, 4] rfl)
                    · exact absurd c13 (by omega)
              · show W p l e r_c_X1_takesOne_5 s m args below meth c _ _ 0 0 Qf (F0 m 54 ls [.int (iI 0)])
                refine x_if_eq B (by omega) (tgt := 71) dX1_takesOne_54 (by decide) (fun c14 => ?_) (fun c14 => ?_)
                · refine x_iconst B dX1_takesOne_71 ?_
                  refine lv_goto (tgt := 81) B.1 B.2.1 dX1_takesOne_72 (by decide) ?_
                  exact join81 0 (by omega) _ _ _ h (lv_sub hl [0, 3, 4] rfl)
                · exact absurd c14 (by omega)
          · show W p l e r_c_X1_takesOne_5 s m args below meth c _ _ 0 0 Qf (F0 m 41 ls [.int (iI 0)])
            refine x_if_eq B (by omega) (tgt := 75) dX1_takesOne_41 (by decide) (fun c15 => ?_) (fun c15 => ?_)
            · refine lv_aload_n B.1 B.2.1 dX1_takesOne_75 rfl (lv_at hl 1 rfl) ?_
              refine lv_aload_n B.1 B.2.1 dX1_takesOne_76 rfl (lv_at hl 2 rfl) ?_
              refine lv_aload_n B.1 B.2.1 dX1_takesOne_77 rfl (lv_at hl 3 rfl) ?_
              refine y_cV B h kX1 26 (CW.f hC 26 _ rfl) k_X1_takesComparison rfl (c_X1_takesComparison l D Zk ca T G u ad _ hC j  (by omega)) m_782 rfl (by decide) hl.1 [] (Nat.le_of_ble_eq_true rfl) rfl dX1_takesOne_78 (fun r w1 hq H locs h => ?_)
              obtain ⟨rfl, _, rfl, ⟨rfl, b16⟩ | ⟨rfl, b16⟩⟩ := hq
              · show W p l e r_c_X1_takesOne_5 s m args below meth c _ _ 0 0 Qf (F0 m 81 ls [.int (iI 1)])
                exact join81 1 (by omega) _ _ _ h (lv_sub hl [0, 3, 4] rfl)
              · show W p l e r_c_X1_takesOne_5 s m args below meth c _ _ 0 0 Qf (F0 m 81 ls [.int (iI 0)])
                exact join81 0 (by omega) _ _ _ h (lv_sub hl [0, 3, 4] rfl)
            · exact absurd c15 (by omega)
      · refine lv_aload_n B.1 B.2.1 dX1_takesOne_10 rfl (lv_at hl 1 rfl) ?_
        refine lv_aload_n B.1 B.2.1 dX1_takesOne_11 rfl (lv_at hl 2 rfl) ?_
        refine x_sipush B (by decide) dX1_takesOne_12 ?_
        refine y_cV B h kX1 26 (CW.f hC 26 _ rfl) k_X1_takes rfl (c_X1_takes l D Zk ca T G u ad _ hC 229  (by omega)) m_762 rfl (by decide) hl.1 [] (Nat.le_of_ble_eq_true rfl) rfl dX1_takesOne_15 (fun r w1 hq H locs h => ?_)
        obtain ⟨rfl, _, rfl, ⟨rfl, b17⟩ | ⟨rfl, b17⟩⟩ := hq
        · show W p l e r_c_X1_takesOne_5 s m args below meth c _ _ 0 0 Qf (F0 m 18 ls [.int (iI 1)])
          refine x_if_eq B (by omega) (tgt := 27) dX1_takesOne_18 (by decide) (fun c18 => ?_) (fun c18 => ?_)
          · exact absurd c18 (by omega)
          · refine lv_iinc (v := iI (ins + 1)) (lv' := [(4, .int (iI (ins + 1))), (0, .ref (ad 26)), (1, .ref (ad 20)), (2, .ref (G 6 j)), (3, .int (iI op))]) B.1 B.2.1 dX1_takesOne_21 hl (k := 0) rfl (iI_add _ _) (by decide) rfl (fun ls hl => ?_)
            refine lv_goto (tgt := 3) B.1 B.2.1 dX1_takesOne_24 (by decide) ?_
            exact ih3 ((ins + 1)) (by omega) (by omega) _ _ _ h (lv_sub hl [0, 1, 2, 3, 4] rfl)
        · show W p l e r_c_X1_takesOne_5 s m args below meth c _ _ 0 0 Qf (F0 m 18 ls [.int (iI 0)])
          refine x_if_eq B (by omega) (tgt := 27) dX1_takesOne_18 (by decide) (fun c19 => ?_) (fun c19 => ?_)
          · have join81 : ∀ (tk : Int), (tk = 0 ∨ tk = 1) → ∀ (H : Heap) (locs : List Loc) (ls : Array Slot), yH D Zk A s w H locs → lv_has ls 6 [(4, .int (iI ins)), (2, .ref (G 6 j)), (3, .int (iI op))] → W p l e r_c_X1_takesOne_5 s m args below meth c H locs 0 0 Qf (F0 m 81 ls [.int (iI tk)]) := by
              intro tk hk0 H locs ls h hl
              refine lv_istore (lv' := [(5, .int (iI tk)), (4, .int (iI ins)), (2, .ref (G 6 j)), (3, .int (iI op))]) B.1 B.2.1 dX1_takesOne_81 hl (by decide) rfl (fun ls hl => ?_)
              refine lv_iload B.1 B.2.1 dX1_takesOne_83 (lv_at hl 0 rfl) ?_
              refine x_if_eq B (by omega) (tgt := 103) dX1_takesOne_85 (by decide) (fun c20 => ?_) (fun c20 => ?_)
              · refine lv_iload B.1 B.2.1 dX1_takesOne_103 (lv_at hl 0 rfl) ?_
                refine y_rz B hQ h (by decide) (nz01 (by omega)) dX1_takesOne_105 ?_
                rcases (show tk = 1 ∨ tk = 0 by omega) with e9 | e9
                · exact ⟨rfl, _, rfl, Or.inl ⟨e9, (by first | omega | trivial | assumption)⟩⟩
                · exact ⟨rfl, _, rfl, Or.inr ⟨e9, (by first | omega | trivial | assumption)⟩⟩
              · refine lv_iload B.1 B.2.1 dX1_takesOne_88 (lv_at hl 1 rfl) ?_
                refine lv_iload_n B.1 B.2.1 dX1_takesOne_90 rfl (lv_at hl 3 rfl) ?_
                refine x_isub B dX1_takesOne_91 ?_
                refine x_iconst B dX1_takesOne_92 ?_
                refine x_irem B (by omega) dX1_takesOne_93 ?_
                refine x_iconst B dX1_takesOne_94 ?_
                refine x_icmp_ne B (by omega) (tgt := 103) dX1_takesOne_95 (by decide) (fun c21 => ?_) (fun c21 => ?_)
                · refine lv_iload B.1 B.2.1 dX1_takesOne_103 (lv_at hl 0 rfl) ?_
                  refine y_rz B hQ h (by decide) (nz01 (by omega)) dX1_takesOne_105 ?_
                  rcases (show tk = 1 ∨ tk = 0 by omega) with e9 | e9
                  · exact ⟨rfl, _, rfl, Or.inl ⟨e9, (by first | omega | trivial | assumption)⟩⟩
                  · exact ⟨rfl, _, rfl, Or.inr ⟨e9, (by first | omega | trivial | assumption)⟩⟩
                · refine lv_aload_n B.1 B.2.1 dX1_takesOne_98 rfl (lv_at hl 2 rfl) ?_
                  refine x_iconst B dX1_takesOne_99 ?_
                  refine y_cV B h kX5 (1000 + 16 * j.toNat + 6) fo1.1 k_X5_addStep rfl (c_X5_addStep l D Zk ca T G u ad _ hC j ((-1))  (by omega) (by omega)) m_793 rfl (by decide) hl.1 [] (Nat.le_of_ble_eq_true rfl) rfl dX1_takesOne_100 (fun r w1 hq H locs h => ?_)
                  obtain ⟨rfl, rfl⟩ := hq
                  show W p l e r_c_X1_takesOne_5 s m args below meth c _ _ 0 0 Qf (F0 m 103 ls [])
                  refine lv_iload B.1 B.2.1 dX1_takesOne_103 (lv_at hl 0 rfl) ?_
                  refine y_rz B hQ h (by decide) (nz01 (by omega)) dX1_takesOne_105 ?_
                  rcases (show tk = 1 ∨ tk = 0 by omega) with e9 | e9
                  · exact ⟨rfl, _, rfl, Or.inl ⟨e9, (by first | omega | trivial | assumption)⟩⟩
                  · exact ⟨rfl, _, rfl, Or.inr ⟨e9, (by first | omega | trivial | assumption)⟩⟩
            refine lv_iload B.1 B.2.1 dX1_takesOne_27 (lv_at hl 0 rfl) ?_
            refine x_bipush B (by decide) dX1_takesOne_29 ?_
            refine x_icmp_ge B (by omega) (tgt := 75) dX1_takesOne_31 (by decide) (fun c22 => ?_) (fun c22 => ?_)
            · refine lv_aload_n B.1 B.2.1 dX1_takesOne_75 rfl (lv_at hl 1 rfl) ?_
              refine lv_aload_n B.1 B.2.1 dX1_takesOne_76 rfl (lv_at hl 2 rfl) ?_
              refine lv_aload_n B.1 B.2.1 dX1_takesOne_77 rfl (lv_at hl 3 rfl) ?_
              refine y_cV B h kX1 26 (CW.f hC 26 _ rfl) k_X1_takesComparison rfl (c_X1_takesComparison l D Zk ca T G u ad _ hC j  (by omega)) m_782 rfl (by decide) hl.1 [] (Nat.le_of_ble_eq_true rfl) rfl dX1_takesOne_78 (fun r w1 hq H locs h => ?_)
              obtain ⟨rfl, _, rfl, ⟨rfl, b23⟩ | ⟨rfl, b23⟩⟩ := hq
              · show W p l e r_c_X1_takesOne_5 s m args below meth c _ _ 0 0 Qf (F0 m 81 ls [.int (iI 1)])
                exact join81 1 (by omega) _ _ _ h (lv_sub hl [0, 3, 4] rfl)
              · show W p l e r_c_X1_takesOne_5 s m args below meth c _ _ 0 0 Qf (F0 m 81 ls [.int (iI 0)])
                exact join81 0 (by omega) _ _ _ h (lv_sub hl [0, 3, 4] rfl)
            · refine lv_aload_n B.1 B.2.1 dX1_takesOne_34 rfl (lv_at hl 1 rfl) ?_
              refine lv_aload_n B.1 B.2.1 dX1_takesOne_35 rfl (lv_at hl 2 rfl) ?_
              refine x_bipush B (by decide) dX1_takesOne_36 ?_
              refine y_cV B h kX1 26 (CW.f hC 26 _ rfl) k_X1_takes rfl (c_X1_takes l D Zk ca T G u ad _ hC 40  (by omega)) m_762 rfl (by decide) hl.1 [] (Nat.le_of_ble_eq_true rfl) rfl dX1_takesOne_38 (fun r w1 hq H locs h => ?_)
              obtain ⟨rfl, _, rfl, ⟨rfl, b24⟩ | ⟨rfl, b24⟩⟩ := hq
              · show W p l e r_c_X1_takesOne_5 s m args below meth c _ _ 0 0 Qf (F0 m 41 ls [.int (iI 1)])
                refine x_if_eq B (by omega) (tgt := 75) dX1_takesOne_41 (by decide) (fun c25 => ?_) (fun c25 => ?_)
                · exact absurd c25 (by omega)
                · refine lv_aload_n B.1 B.2.1 dX1_takesOne_44 rfl (lv_at hl 1 rfl) ?_
                  refine lv_aload_n B.1 B.2.1 dX1_takesOne_45 rfl (lv_at hl 2 rfl) ?_
                  refine lv_aload_n B.1 B.2.1 dX1_takesOne_46 rfl (lv_at hl 3 rfl) ?_
                  refine lv_iload B.1 B.2.1 dX1_takesOne_47 (lv_at hl 0 rfl) ?_
                  refine x_iconst B dX1_takesOne_49 ?_
                  refine x_iadd B dX1_takesOne_50 ?_
                  refine y_cV B h kX1 26 (CW.f hC 26 _ rfl) k_X1_takesAny rfl (c_X1_takesAny_4 l D Zk ca T G u ad _ hC j ((ins + 1))  (by omega) (by omega)) m_770 rfl (by decide) hl.1 [] (Nat.le_of_ble_eq_true rfl) rfl dX1_takesOne_51 (fun r w1 hq H locs h => ?_)
                  obtain ⟨rfl, _, rfl, ⟨rfl, b26⟩ | ⟨rfl, b26⟩⟩ := hq
                  · show W p l e r_c_X1_takesOne_5 s m args below meth c _ _ 0 0 Qf (F0 m 54 ls [.int (iI 1)])
                    refine x_if_eq B (by omega) (tgt := 71) dX1_takesOne_54 (by decide) (fun c27 => ?_) (fun c27 => ?_)
                    · exact absurd c27 (by omega)
                    · refine lv_aload_n B.1 B.2.1 dX1_takesOne_57 rfl (lv_at hl 1 rfl) ?_
                      refine lv_aload_n B.1 B.2.1 dX1_takesOne_58 rfl (lv_at hl 2 rfl) ?_
                      refine x_bipush B (by decide) dX1_takesOne_59 ?_
                      refine y_cV B h kX1 26 (CW.f hC 26 _ rfl) k_X1_takes rfl (c_X1_takes l D Zk ca T G u ad _ hC 41  (by omega)) m_762 rfl (by decide) hl.1 [] (Nat.le_of_ble_eq_true rfl) rfl dX1_takesOne_61 (fun r w1 hq H locs h => ?_)
                      obtain ⟨rfl, _, rfl, ⟨rfl, b28⟩ | ⟨rfl, b28⟩⟩ := hq
                      · show W p l e r_c_X1_takesOne_5 s m args below meth c _ _ 0 0 Qf (F0 m 64 ls [.int (iI 1)])
                        refine x_if_eq B (by omega) (tgt := 71) dX1_takesOne_64 (by decide) (fun c29 => ?_) (fun c29 => ?_)
                        · exact absurd c29 (by omega)
                        · refine x_iconst B dX1_takesOne_67 ?_
                          refine lv_goto (tgt := 81) B.1 B.2.1 dX1_takesOne_68 (by decide) ?_
                          exact join81 1 (by omega) _ _ _ h (lv_sub hl [0, 3, 4] rfl)
                      · show W p l e r_c_X1_takesOne_5 s m args below meth c _ _ 0 0 Qf (F0 m 64 ls [.int (iI 0)])
                        refine x_if_eq B (by omega) (tgt := 71) dX1_takesOne_64 (by decide) (fun c30 => ?_) (fun c30 => ?_)
                        · refine x_iconst B dX1_takesOne_71 ?_
                          refine lv_goto (tgt := 81) B.1 B.2.1 dX1_takesOne_72 (by decide) ?_
                          exact join81 0 (by omega) _ _ _ h (lv_sub hl [0, 3, 4] rfl)
                        · exact absurd c30 (by omega)
                  · show W p l e r_c_X1_takesOne_5 s m args below meth c _ _ 0 0 Qf (F0 m 54 ls [.int (iI 0)])
                    refine x_if_eq B (by omega) (tgt := 71) dX1_takesOne_54 (by decide) (fun c31 => ?_) (fun c31 => ?_)
                    · refine x_iconst B dX1_takesOne_71 ?_
                      refine lv_goto (tgt := 81) B.1 B.2.1 dX1_takesOne_72 (by decide) ?_
                      exact join81 0 (by omega) _ _ _ h (lv_sub hl [0, 3, 4] rfl)
                    · exact absurd c31 (by omega)
              · show W p l e r_c_X1_takesOne_5 s m args below meth c _ _ 0 0 Qf (F0 m 41 ls [.int (iI 0)])
                refine x_if_eq B (by omega) (tgt := 75) dX1_takesOne_41 (by decide) (fun c32 => ?_) (fun c32 => ?_)
                · refine lv_aload_n B.1 B.2.1 dX1_takesOne_75 rfl (lv_at hl 1 rfl) ?_
                  refine lv_aload_n B.1 B.2.1 dX1_takesOne_76 rfl (lv_at hl 2 rfl) ?_
                  refine lv_aload_n B.1 B.2.1 dX1_takesOne_77 rfl (lv_at hl 3 rfl) ?_
                  refine y_cV B h kX1 26 (CW.f hC 26 _ rfl) k_X1_takesComparison rfl (c_X1_takesComparison l D Zk ca T G u ad _ hC j  (by omega)) m_782 rfl (by decide) hl.1 [] (Nat.le_of_ble_eq_true rfl) rfl dX1_takesOne_78 (fun r w1 hq H locs h => ?_)
                  obtain ⟨rfl, _, rfl, ⟨rfl, b33⟩ | ⟨rfl, b33⟩⟩ := hq
                  · show W p l e r_c_X1_takesOne_5 s m args below meth c _ _ 0 0 Qf (F0 m 81 ls [.int (iI 1)])
                    exact join81 1 (by omega) _ _ _ h (lv_sub hl [0, 3, 4] rfl)
                  · show W p l e r_c_X1_takesOne_5 s m args below meth c _ _ 0 0 Qf (F0 m 81 ls [.int (iI 0)])
                    exact join81 0 (by omega) _ _ _ h (lv_sub hl [0, 3, 4] rfl)
                · exact absurd c32 (by omega)
          · exact absurd c19 (by omega)
  exact loop3 (((9 - op : Int)).toNat + 1) op (by omega) (Nat.lt_succ_self _) _ _ _ h (lv_sub hl [0, 1, 2, 3, 4] rfl)
abbrev r_c_X1_takesAll_5 : Room := { frames := 18, cells := 0, slots := 0, locals := 439 }
set_option maxHeartbeats 4000000 in
set_option maxRecDepth 100000 in
theorem c_X1_takesAll_5 (l : Launch) (D : va_G) (Zk : yK) (ca : Nat → ClassId) (T : Nat → Int → Int) (G : Nat → Int → Nat) (u : Int) (ad : Nat → Nat) (w : yW) (hC : CW ca T G u ad w) (j : Int) (op : Int)  (hj : 0 ≤ j ∧ j < u) (hop : 4 ≤ op ∧ op ≤ 9) : yC l D Zk ca yX1_takesAll cX1_takesAll 5 (some .boolean) r_c_X1_takesAll_5 [.ref (ad 26), .ref (ad 20), .ref (G 6 j), .int (iI op)] w (vI w (fun z => (z = 1 ∧ (True)) ∨ (z = 0 ∧ (True)))) := by
  refine yC.of2 "WindWords$Grammar" (by decide) rfl (Nat.le_of_ble_eq_true rfl) ?_
  intro p e s m args below meth c A ls Qf B hnm h hl hQ
  have hl : lv_has ls 5 [(0, .ref (ad 26)), (1, .ref (ad 20)), (2, .ref (G 6 j)), (3, .int (iI op))] := hl
  have hs := pi_s (CW.pi hC)
  have fo1 := CW.ru hC j (by omega)
  refine lv_aload_n B.1 B.2.1 dX1_takesAll_0 rfl (lv_at hl 0 rfl) ?_
  refine lv_aload_n B.1 B.2.1 dX1_takesAll_1 rfl (lv_at hl 1 rfl) ?_
  refine lv_aload_n B.1 B.2.1 dX1_takesAll_2 rfl (lv_at hl 2 rfl) ?_
  refine lv_iload_n B.1 B.2.1 dX1_takesAll_3 rfl (lv_at hl 3 rfl) ?_
  refine y_cV B h kX1 26 (CW.f hC 26 _ rfl) k_X1_takesOne rfl (c_X1_takesOne_5 l D Zk ca T G u ad _ hC j op  (by omega) (by omega)) m_778 rfl (by decide) hl.1 [] (Nat.le_of_ble_eq_true rfl) rfl dX1_takesAll_4 (fun r w1 hq H locs h => ?_)
  obtain ⟨rfl, _, rfl, ⟨rfl, b2⟩ | ⟨rfl, b2⟩⟩ := hq
  · show W p l e r_c_X1_takesAll_5 s m args below meth c _ _ 0 0 Qf (F0 m 7 ls [.int (iI 1)])
    refine x_if_ne B (by omega) (tgt := 12) dX1_takesAll_7 (by decide) (fun c3 => ?_) (fun c3 => ?_)
    · refine x_iconst B dX1_takesAll_12 ?_
      refine lv_istore (lv' := [(4, .int (iI 0)), (0, .ref (ad 26)), (1, .ref (ad 20)), (2, .ref (G 6 j)), (3, .int (iI op))]) B.1 B.2.1 dX1_takesAll_13 hl (by decide) rfl (fun ls hl => ?_)
      have loop15 : ∀ (n15 : Nat) (i : Int), (0 ≤ i ∧ i ≤ 900) → ((900 - i : Int)).toNat < n15 → ∀ (H : Heap) (locs : List Loc) (ls : Array Slot), yH D Zk A s w H locs → lv_has ls 5 [(4, .int (iI i)), (0, .ref (ad 26)), (1, .ref (ad 20)), (2, .ref (G 6 j)), (3, .int (iI op))] → W p l e r_c_X1_takesAll_5 s m args below meth c H locs 0 0 Qf (F0 m 15 ls []) := by
        intro n15
        induction n15 with
        | zero =>
          intro i hi hm15 H locs ls h hl
          exact absurd hm15 (Nat.not_lt_zero _)
        | succ n15 ih15 =>
          intro i hi hm15 H locs ls h hl
          refine lv_iload B.1 B.2.1 dX1_takesAll_15 (lv_at hl 0 rfl) ?_
          refine lv_aload_n B.1 B.2.1 dX1_takesAll_17 rfl (lv_at hl 2 rfl) ?_
          refine y_getG B h kX9 20 (CW.f hC 20 _ rfl) 1 (lo := 0) (hi := 900) rfl m_291 (by decide) dX1_takesAll_18 (fun z4 z4a z4b => ?_)
          refine x_icmp_ge B (by omega) (tgt := 59) dX1_takesAll_21 (by decide) (fun c5 => ?_) (fun c5 => ?_)
          · refine x_iconst B dX1_takesAll_59 ?_
            refine y_rz B hQ h (by decide) (by decide) dX1_takesAll_60 ?_
            exact ⟨rfl, _, rfl, Or.inl ⟨rfl, (by first | omega | trivial | assumption)⟩⟩
          · refine lv_aload_n B.1 B.2.1 dX1_takesAll_24 rfl (lv_at hl 1 rfl) ?_
            refine lv_aload_n B.1 B.2.1 dX1_takesAll_25 rfl (lv_at hl 2 rfl) ?_
            refine x_sipush B (by decide) dX1_takesAll_26 ?_
            refine y_cV B h kX1 26 (CW.f hC 26 _ rfl) k_X1_takes rfl (c_X1_takes l D Zk ca T G u ad _ hC 227  (by omega)) m_762 rfl (by decide) hl.1 [] (Nat.le_of_ble_eq_true rfl) rfl dX1_takesAll_29 (fun r w1 hq H locs h => ?_)
            obtain ⟨rfl, _, rfl, ⟨rfl, b6⟩ | ⟨rfl, b6⟩⟩ := hq
            · show W p l e r_c_X1_takesAll_5 s m args below meth c _ _ 0 0 Qf (F0 m 32 ls [.int (iI 1)])
              refine x_if_eq B (by omega) (tgt := 59) dX1_takesAll_32 (by decide) (fun c7 => ?_) (fun c7 => ?_)
              · exact absurd c7 (by omega)
              · refine lv_aload_n B.1 B.2.1 dX1_takesAll_35 rfl (lv_at hl 1 rfl) ?_
                refine lv_aload_n B.1 B.2.1 dX1_takesAll_36 rfl (lv_at hl 2 rfl) ?_
                refine lv_aload_n B.1 B.2.1 dX1_takesAll_37 rfl (lv_at hl 3 rfl) ?_
                refine lv_iload_n B.1 B.2.1 dX1_takesAll_38 rfl (lv_at hl 4 rfl) ?_
                refine y_cV B h kX1 26 (CW.f hC 26 _ rfl) k_X1_takesOne rfl (c_X1_takesOne_5 l D Zk ca T G u ad _ hC j op  (by omega) (by omega)) m_778 rfl (by decide) hl.1 [] (Nat.le_of_ble_eq_true rfl) rfl dX1_takesAll_39 (fun r w1 hq H locs h => ?_)
                obtain ⟨rfl, _, rfl, ⟨rfl, b8⟩ | ⟨rfl, b8⟩⟩ := hq
                · show W p l e r_c_X1_takesAll_5 s m args below meth c _ _ 0 0 Qf (F0 m 42 ls [.int (iI 1)])
                  refine x_if_ne B (by omega) (tgt := 47) dX1_takesAll_42 (by decide) (fun c9 => ?_) (fun c9 => ?_)
                  · refine lv_aload_n B.1 B.2.1 dX1_takesAll_47 rfl (lv_at hl 3 rfl) ?_
                    refine x_bipush B (by decide) dX1_takesAll_48 ?_
                    refine y_cV B h kX5 (1000 + 16 * j.toNat + 6) fo1.1 k_X5_addStep rfl (c_X5_addStep l D Zk ca T G u ad _ hC j ((-2))  (by omega) (by omega)) m_793 rfl (by decide) hl.1 [] (Nat.le_of_ble_eq_true rfl) rfl dX1_takesAll_50 (fun r w1 hq H locs h => ?_)
                    obtain ⟨rfl, rfl⟩ := hq
                    show W p l e r_c_X1_takesAll_5 s m args below meth c _ _ 0 0 Qf (F0 m 53 ls [])
                    refine lv_iinc (v := iI (i + 1)) (lv' := [(4, .int (iI (i + 1))), (0, .ref (ad 26)), (1, .ref (ad 20)), (2, .ref (G 6 j)), (3, .int (iI op))]) B.1 B.2.1 dX1_takesAll_53 hl (k := 0) rfl (iI_add _ _) (by decide) rfl (fun ls hl => ?_)
                    refine lv_goto (tgt := 15) B.1 B.2.1 dX1_takesAll_56 (by decide) ?_
                    exact ih15 ((i + 1)) (by omega) (by omega) _ _ _ h (lv_sub hl [0, 1, 2, 3, 4] rfl)
                  · exact absurd c9 (by omega)
                · show W p l e r_c_X1_takesAll_5 s m args below meth c _ _ 0 0 Qf (F0 m 42 ls [.int (iI 0)])
                  refine x_if_ne B (by omega) (tgt := 47) dX1_takesAll_42 (by decide) (fun c10 => ?_) (fun c10 => ?_)
                  · exact absurd c10 (by omega)
                  · refine x_iconst B dX1_takesAll_45 ?_
                    refine y_rz B hQ h (by decide) (by decide) dX1_takesAll_46 ?_
                    exact ⟨rfl, _, rfl, Or.inr ⟨rfl, (by first | omega | trivial | assumption)⟩⟩
            · show W p l e r_c_X1_takesAll_5 s m args below meth c _ _ 0 0 Qf (F0 m 32 ls [.int (iI 0)])
              refine x_if_eq B (by omega) (tgt := 59) dX1_takesAll_32 (by decide) (fun c11 => ?_) (fun c11 => ?_)
              · refine x_iconst B dX1_takesAll_59 ?_
                refine y_rz B hQ h (by decide) (by decide) dX1_takesAll_60 ?_
                exact ⟨rfl, _, rfl, Or.inl ⟨rfl, (by first | omega | trivial | assumption)⟩⟩
              · exact absurd c11 (by omega)
      exact loop15 (((900 - 0 : Int)).toNat + 1) 0 (by omega) (Nat.lt_succ_self _) _ _ _ h (lv_sub hl [0, 1, 2, 3, 4] rfl)
    · exact absurd c3 (by omega)
  · show W p l e r_c_X1_takesAll_5 s m args below meth c _ _ 0 0 Qf (F0 m 7 ls [.int (iI 0)])
    refine x_if_ne B (by omega) (tgt := 12) dX1_takesAll_7 (by decide) (fun c12 => ?_) (fun c12 => ?_)
    · exact absurd c12 (by omega)
    · refine x_iconst B dX1_takesAll_10 ?_
      refine y_rz B hQ h (by decide) (by decide) dX1_takesAll_11 ?_
      exact ⟨rfl, _, rfl, Or.inr ⟨rfl, (by first | omega | trivial | assumption)⟩⟩
abbrev r_c_X1_takesAny_5 : Room := { frames := 19, cells := 0, slots := 0, locals := 463 }
set_option maxHeartbeats 4000000 in
set_option maxRecDepth 100000 in
theorem c_X1_takesAny_5 (l : Launch) (D : va_G) (Zk : yK) (ca : Nat → ClassId) (T : Nat → Int → Int) (G : Nat → Int → Nat) (u : Int) (ad : Nat → Nat) (w : yW) (hC : CW ca T G u ad w) (j : Int) (op : Int)  (hj : 0 ≤ j ∧ j < u) (hop : 4 ≤ op ∧ op ≤ 9) : yC l D Zk ca yX1_takesAny cX1_takesAny 5 (some .boolean) r_c_X1_takesAny_5 [.ref (ad 26), .ref (ad 20), .ref (G 6 j), .int (iI op)] w (vI w (fun z => (z = 1 ∧ (True)) ∨ (z = 0 ∧ (True)))) := by
  refine yC.of2 "WindWords$Grammar" (by decide) rfl (Nat.le_of_ble_eq_true rfl) ?_
  intro p e s m args below meth c A ls Qf B hnm h hl hQ
  have hl : lv_has ls 5 [(0, .ref (ad 26)), (1, .ref (ad 20)), (2, .ref (G 6 j)), (3, .int (iI op))] := hl
  have hs := pi_s (CW.pi hC)
  have fo1 := CW.ru hC j (by omega)
  refine lv_aload_n B.1 B.2.1 dX1_takesAny_0 rfl (lv_at hl 0 rfl) ?_
  refine lv_aload_n B.1 B.2.1 dX1_takesAny_1 rfl (lv_at hl 1 rfl) ?_
  refine lv_aload_n B.1 B.2.1 dX1_takesAny_2 rfl (lv_at hl 2 rfl) ?_
  refine lv_iload_n B.1 B.2.1 dX1_takesAny_3 rfl (lv_at hl 3 rfl) ?_
  refine y_cV B h kX1 26 (CW.f hC 26 _ rfl) k_X1_takesAll rfl (c_X1_takesAll_5 l D Zk ca T G u ad _ hC j op  (by omega) (by omega)) m_774 rfl (by decide) hl.1 [] (Nat.le_of_ble_eq_true rfl) rfl dX1_takesAny_4 (fun r w1 hq H locs h => ?_)
  obtain ⟨rfl, _, rfl, ⟨rfl, b2⟩ | ⟨rfl, b2⟩⟩ := hq
  · show W p l e r_c_X1_takesAny_5 s m args below meth c _ _ 0 0 Qf (F0 m 7 ls [.int (iI 1)])
    refine x_if_ne B (by omega) (tgt := 12) dX1_takesAny_7 (by decide) (fun c3 => ?_) (fun c3 => ?_)
    · refine x_iconst B dX1_takesAny_12 ?_
      refine lv_istore (lv' := [(4, .int (iI 0)), (0, .ref (ad 26)), (1, .ref (ad 20)), (2, .ref (G 6 j)), (3, .int (iI op))]) B.1 B.2.1 dX1_takesAny_13 hl (by decide) rfl (fun ls hl => ?_)
      have loop15 : ∀ (n15 : Nat) (i : Int), (0 ≤ i ∧ i ≤ 900) → ((900 - i : Int)).toNat < n15 → ∀ (H : Heap) (locs : List Loc) (ls : Array Slot), yH D Zk A s w H locs → lv_has ls 5 [(4, .int (iI i)), (0, .ref (ad 26)), (1, .ref (ad 20)), (2, .ref (G 6 j)), (3, .int (iI op))] → W p l e r_c_X1_takesAny_5 s m args below meth c H locs 0 0 Qf (F0 m 15 ls []) := by
        intro n15
        induction n15 with
        | zero =>
          intro i hi hm15 H locs ls h hl
          exact absurd hm15 (Nat.not_lt_zero _)
        | succ n15 ih15 =>
          intro i hi hm15 H locs ls h hl
          refine lv_iload B.1 B.2.1 dX1_takesAny_15 (lv_at hl 0 rfl) ?_
          refine lv_aload_n B.1 B.2.1 dX1_takesAny_17 rfl (lv_at hl 2 rfl) ?_
          refine y_getG B h kX9 20 (CW.f hC 20 _ rfl) 1 (lo := 0) (hi := 900) rfl m_291 (by decide) dX1_takesAny_18 (fun z4 z4a z4b => ?_)
          refine x_icmp_ge B (by omega) (tgt := 59) dX1_takesAny_21 (by decide) (fun c5 => ?_) (fun c5 => ?_)
          · refine x_iconst B dX1_takesAny_59 ?_
            refine y_rz B hQ h (by decide) (by decide) dX1_takesAny_60 ?_
            exact ⟨rfl, _, rfl, Or.inl ⟨rfl, (by first | omega | trivial | assumption)⟩⟩
          · refine lv_aload_n B.1 B.2.1 dX1_takesAny_24 rfl (lv_at hl 1 rfl) ?_
            refine lv_aload_n B.1 B.2.1 dX1_takesAny_25 rfl (lv_at hl 2 rfl) ?_
            refine x_sipush B (by decide) dX1_takesAny_26 ?_
            refine y_cV B h kX1 26 (CW.f hC 26 _ rfl) k_X1_takes rfl (c_X1_takes l D Zk ca T G u ad _ hC 228  (by omega)) m_762 rfl (by decide) hl.1 [] (Nat.le_of_ble_eq_true rfl) rfl dX1_takesAny_29 (fun r w1 hq H locs h => ?_)
            obtain ⟨rfl, _, rfl, ⟨rfl, b6⟩ | ⟨rfl, b6⟩⟩ := hq
            · show W p l e r_c_X1_takesAny_5 s m args below meth c _ _ 0 0 Qf (F0 m 32 ls [.int (iI 1)])
              refine x_if_eq B (by omega) (tgt := 59) dX1_takesAny_32 (by decide) (fun c7 => ?_) (fun c7 => ?_)
              · exact absurd c7 (by omega)
              · refine lv_aload_n B.1 B.2.1 dX1_takesAny_35 rfl (lv_at hl 1 rfl) ?_
                refine lv_aload_n B.1 B.2.1 dX1_takesAny_36 rfl (lv_at hl 2 rfl) ?_
                refine lv_aload_n B.1 B.2.1 dX1_takesAny_37 rfl (lv_at hl 3 rfl) ?_
                refine lv_iload_n B.1 B.2.1 dX1_takesAny_38 rfl (lv_at hl 4 rfl) ?_
                refine y_cV B h kX1 26 (CW.f hC 26 _ rfl) k_X1_takesAll rfl (c_X1_takesAll_5 l D Zk ca T G u ad _ hC j op  (by omega) (by omega)) m_774 rfl (by decide) hl.1 [] (Nat.le_of_ble_eq_true rfl) rfl dX1_takesAny_39 (fun r w1 hq H locs h => ?_)
                obtain ⟨rfl, _, rfl, ⟨rfl, b8⟩ | ⟨rfl, b8⟩⟩ := hq
                · show W p l e r_c_X1_takesAny_5 s m args below meth c _ _ 0 0 Qf (F0 m 42 ls [.int (iI 1)])
                  refine x_if_ne B (by omega) (tgt := 47) dX1_takesAny_42 (by decide) (fun c9 => ?_) (fun c9 => ?_)
                  · refine lv_aload_n B.1 B.2.1 dX1_takesAny_47 rfl (lv_at hl 3 rfl) ?_
                    refine x_bipush B (by decide) dX1_takesAny_48 ?_
                    refine y_cV B h kX5 (1000 + 16 * j.toNat + 6) fo1.1 k_X5_addStep rfl (c_X5_addStep l D Zk ca T G u ad _ hC j ((-3))  (by omega) (by omega)) m_793 rfl (by decide) hl.1 [] (Nat.le_of_ble_eq_true rfl) rfl dX1_takesAny_50 (fun r w1 hq H locs h => ?_)
                    obtain ⟨rfl, rfl⟩ := hq
                    show W p l e r_c_X1_takesAny_5 s m args below meth c _ _ 0 0 Qf (F0 m 53 ls [])
                    refine lv_iinc (v := iI (i + 1)) (lv' := [(4, .int (iI (i + 1))), (0, .ref (ad 26)), (1, .ref (ad 20)), (2, .ref (G 6 j)), (3, .int (iI op))]) B.1 B.2.1 dX1_takesAny_53 hl (k := 0) rfl (iI_add _ _) (by decide) rfl (fun ls hl => ?_)
                    refine lv_goto (tgt := 15) B.1 B.2.1 dX1_takesAny_56 (by decide) ?_
                    exact ih15 ((i + 1)) (by omega) (by omega) _ _ _ h (lv_sub hl [0, 1, 2, 3, 4] rfl)
                  · exact absurd c9 (by omega)
                · show W p l e r_c_X1_takesAny_5 s m args below meth c _ _ 0 0 Qf (F0 m 42 ls [.int (iI 0)])
                  refine x_if_ne B (by omega) (tgt := 47) dX1_takesAny_42 (by decide) (fun c10 => ?_) (fun c10 => ?_)
                  · exact absurd c10 (by omega)
                  · refine x_iconst B dX1_takesAny_45 ?_
                    refine y_rz B hQ h (by decide) (by decide) dX1_takesAny_46 ?_
                    exact ⟨rfl, _, rfl, Or.inr ⟨rfl, (by first | omega | trivial | assumption)⟩⟩
            · show W p l e r_c_X1_takesAny_5 s m args below meth c _ _ 0 0 Qf (F0 m 32 ls [.int (iI 0)])
              refine x_if_eq B (by omega) (tgt := 59) dX1_takesAny_32 (by decide) (fun c11 => ?_) (fun c11 => ?_)
              · refine x_iconst B dX1_takesAny_59 ?_
                refine y_rz B hQ h (by decide) (by decide) dX1_takesAny_60 ?_
                exact ⟨rfl, _, rfl, Or.inl ⟨rfl, (by first | omega | trivial | assumption)⟩⟩
              · exact absurd c11 (by omega)
      exact loop15 (((900 - 0 : Int)).toNat + 1) 0 (by omega) (Nat.lt_succ_self _) _ _ _ h (lv_sub hl [0, 1, 2, 3, 4] rfl)
    · exact absurd c3 (by omega)
  · show W p l e r_c_X1_takesAny_5 s m args below meth c _ _ 0 0 Qf (F0 m 7 ls [.int (iI 0)])
    refine x_if_ne B (by omega) (tgt := 12) dX1_takesAny_7 (by decide) (fun c12 => ?_) (fun c12 => ?_)
    · exact absurd c12 (by omega)
    · refine x_iconst B dX1_takesAny_10 ?_
      refine y_rz B hQ h (by decide) (by decide) dX1_takesAny_11 ?_
      exact ⟨rfl, _, rfl, Or.inr ⟨rfl, (by first | omega | trivial | assumption)⟩⟩
abbrev r_c_X1_takesOne_6 : Room := { frames := 20, cells := 0, slots := 0, locals := 487 }
set_option maxHeartbeats 4000000 in
set_option maxRecDepth 100000 in
theorem c_X1_takesOne_6 (l : Launch) (D : va_G) (Zk : yK) (ca : Nat → ClassId) (T : Nat → Int → Int) (G : Nat → Int → Nat) (u : Int) (ad : Nat → Nat) (w : yW) (hC : CW ca T G u ad w) (j : Int) (op : Int)  (hj : 0 ≤ j ∧ j < u) (hop : 3 ≤ op ∧ op ≤ 9) : yC l D Zk ca yX1_takesOne cX1_takesOne 6 (some .boolean) r_c_X1_takesOne_6 [.ref (ad 26), .ref (ad 20), .ref (G 6 j), .int (iI op)] w (vI w (fun z => (z = 1 ∧ (True)) ∨ (z = 0 ∧ (True)))) := by
  refine yC.of2 "WindWords$Grammar" (by decide) rfl (Nat.le_of_ble_eq_true rfl) ?_
  intro p e s m args below meth c A ls Qf B hnm h hl hQ
  have hl : lv_has ls 6 [(0, .ref (ad 26)), (1, .ref (ad 20)), (2, .ref (G 6 j)), (3, .int (iI op))] := hl
  have hs := pi_s (CW.pi hC)
  have fo1 := CW.ru hC j (by omega)
  refine lv_iload_n B.1 B.2.1 dX1_takesOne_0 rfl (lv_at hl 3 rfl) ?_
  refine lv_istore (lv' := [(4, .int (iI op)), (0, .ref (ad 26)), (1, .ref (ad 20)), (2, .ref (G 6 j)), (3, .int (iI op))]) B.1 B.2.1 dX1_takesOne_1 hl (by decide) rfl (fun ls hl => ?_)
  have loop3 : ∀ (n3 : Nat) (ins : Int), (op ≤ ins ∧ ins ≤ 9) → ((9 - ins : Int)).toNat < n3 → ∀ (H : Heap) (locs : List Loc) (ls : Array Slot), yH D Zk A s w H locs → lv_has ls 6 [(4, .int (iI ins)), (0, .ref (ad 26)), (1, .ref (ad 20)), (2, .ref (G 6 j)), (3, .int (iI op))] → W p l e r_c_X1_takesOne_6 s m args below meth c H locs 0 0 Qf (F0 m 3 ls []) := by
    intro n3
    induction n3 with
    | zero =>
      intro ins hi hm3 H locs ls h hl
      exact absurd hm3 (Nat.not_lt_zero _)
    | succ n3 ih3 =>
      intro ins hi hm3 H locs ls h hl
      refine lv_iload B.1 B.2.1 dX1_takesOne_3 (lv_at hl 0 rfl) ?_
      refine x_bipush B (by decide) dX1_takesOne_5 ?_
      refine x_icmp_ge B (by omega) (tgt := 27) dX1_takesOne_7 (by decide) (fun c2 => ?_) (fun c2 => ?_)
      · have join81 : ∀ (tk : Int), (tk = 0 ∨ tk = 1) → ∀ (H : Heap) (locs : List Loc) (ls : Array Slot), yH D Zk A s w H locs → lv_has ls 6 [(4, .int (iI ins)), (2, .ref (G 6 j)), (3, .int (iI op))] → W p l e r_c_X1_takesOne_6 s m args below meth c H locs 0 0 Qf (F0 m 81 ls [.int (iI tk)]) := by
          intro tk hk0 H locs ls h hl
          refine lv_istore (lv' := [(5, .int (iI tk)), (4, .int (iI ins)), (2, .ref (G 6 j)), (3, .int (iI op))]) B.1 B.2.1 dX1_takesOne_81 hl (by decide) rfl (fun ls hl => ?_)
          refine lv_iload B.1 B.2.1 dX1_takesOne_83 (lv_at hl 0 rfl) ?_
          refine x_if_eq B (by omega) (tgt := 103) dX1_takesOne_85 (by decide) (fun c3 => ?_) (fun c3 => ?_)
          · refine lv_iload B.1 B.2.1 dX1_takesOne_103 (lv_at hl 0 rfl) ?_
            refine y_rz B hQ h (by decide) (nz01 (by omega)) dX1_takesOne_105 ?_
            rcases (show tk = 1 ∨ tk = 0 by omega) with e9 | e9
            · exact ⟨rfl, _, rfl, Or.inl ⟨e9, (by first | omega | trivial | assumption)⟩⟩
            · exact ⟨rfl, _, rfl, Or.inr ⟨e9, (by first | omega | trivial | assumption)⟩⟩
          · refine lv_iload B.1 B.2.1 dX1_takesOne_88 (lv_at hl 1 rfl) ?_
            refine lv_iload_n B.1 B.2.1 dX1_takesOne_90 rfl (lv_at hl 3 rfl) ?_
            refine x_isub B dX1_takesOne_91 ?_
            refine x_iconst B dX1_takesOne_92 ?_
            refine x_irem B (by omega) dX1_takesOne_93 ?_
            refine x_iconst B dX1_takesOne_94 ?_
            refine x_icmp_ne B (by omega) (tgt := 103) dX1_takesOne_95 (by decide) (fun c4 => ?_) (fun c4 => ?_)
            · refine lv_iload B.1 B.2.1 dX1_takesOne_103 (lv_at hl 0 rfl) ?_
              refine y_rz B hQ h (by decide) (nz01 (by omega)) dX1_takesOne_105 ?_
              rcases (show tk = 1 ∨ tk = 0 by omega) with e9 | e9
              · exact ⟨rfl, _, rfl, Or.inl ⟨e9, (by first | omega | trivial | assumption)⟩⟩
              · exact ⟨rfl, _, rfl, Or.inr ⟨e9, (by first | omega | trivial | assumption)⟩⟩
            · refine lv_aload_n B.1 B.2.1 dX1_takesOne_98 rfl (lv_at hl 2 rfl) ?_
              refine x_iconst B dX1_takesOne_99 ?_
              refine y_cV B h kX5 (1000 + 16 * j.toNat + 6) fo1.1 k_X5_addStep rfl (c_X5_addStep l D Zk ca T G u ad _ hC j ((-1))  (by omega) (by omega)) m_793 rfl (by decide) hl.1 [] (Nat.le_of_ble_eq_true rfl) rfl dX1_takesOne_100 (fun r w1 hq H locs h => ?_)
              obtain ⟨rfl, rfl⟩ := hq
              show W p l e r_c_X1_takesOne_6 s m args below meth c _ _ 0 0 Qf (F0 m 103 ls [])
              refine lv_iload B.1 B.2.1 dX1_takesOne_103 (lv_at hl 0 rfl) ?_
              refine y_rz B hQ h (by decide) (nz01 (by omega)) dX1_takesOne_105 ?_
              rcases (show tk = 1 ∨ tk = 0 by omega) with e9 | e9
              · exact ⟨rfl, _, rfl, Or.inl ⟨e9, (by first | omega | trivial | assumption)⟩⟩
              · exact ⟨rfl, _, rfl, Or.inr ⟨e9, (by first | omega | trivial | assumption)⟩⟩
        refine lv_iload B.1 B.2.1 dX1_takesOne_27 (lv_at hl 0 rfl) ?_
        refine x_bipush B (by decide) dX1_takesOne_29 ?_
        refine x_icmp_ge B (by omega) (tgt := 75) dX1_takesOne_31 (by decide) (fun c5 => ?_) (fun c5 => ?_)
        · refine lv_aload_n B.1 B.2.1 dX1_takesOne_75 rfl (lv_at hl 1 rfl) ?_
          refine lv_aload_n B.1 B.2.1 dX1_takesOne_76 rfl (lv_at hl 2 rfl) ?_
          refine lv_aload_n B.1 B.2.1 dX1_takesOne_77 rfl (lv_at hl 3 rfl) ?_
          refine y_cV B h kX1 26 (CW.f hC 26 _ rfl) k_X1_takesComparison rfl (c_X1_takesComparison l D Zk ca T G u ad _ hC j  (by omega)) m_782 rfl (by decide) hl.1 [] (Nat.le_of_ble_eq_true rfl) rfl dX1_takesOne_78 (fun r w1 hq H locs h => ?_)
          obtain ⟨rfl, _, rfl, ⟨rfl, b6⟩ | ⟨rfl, b6⟩⟩ := hq
          · show W p l e r_c_X1_takesOne_6 s m args below meth c _ _ 0 0 Qf (F0 m 81 ls [.int (iI 1)])
            exact join81 1 (by omega) _ _ _ h (lv_sub hl [0, 3, 4] rfl)
          · show W p l e r_c_X1_takesOne_6 s m args below meth c _ _ 0 0 Qf (F0 m 81 ls [.int (iI 0)])
            exact join81 0 (by omega) _ _ _ h (lv_sub hl [0, 3, 4] rfl)
        · refine lv_aload_n B.1 B.2.1 dX1_takesOne_34 rfl (lv_at hl 1 rfl) ?_
          refine lv_aload_n B.1 B.2.1 dX1_takesOne_35 rfl (lv_at hl 2 rfl) ?_
          refine x_bipush B (by decide) dX1_takesOne_36 ?_
          refine y_cV B h kX1 26 (CW.f hC 26 _ rfl) k_X1_takes rfl (c_X1_takes l D Zk ca T G u ad _ hC 40  (by omega)) m_762 rfl (by decide) hl.1 [] (Nat.le_of_ble_eq_true rfl) rfl dX1_takesOne_38 (fun r w1 hq H locs h => ?_)
          obtain ⟨rfl, _, rfl, ⟨rfl, b7⟩ | ⟨rfl, b7⟩⟩ := hq
          · show W p l e r_c_X1_takesOne_6 s m args below meth c _ _ 0 0 Qf (F0 m 41 ls [.int (iI 1)])
            refine x_if_eq B (by omega) (tgt := 75) dX1_takesOne_41 (by decide) (fun c8 => ?_) (fun c8 => ?_)
            · exact absurd c8 (by omega)
            · refine lv_aload_n B.1 B.2.1 dX1_takesOne_44 rfl (lv_at hl 1 rfl) ?_
              refine lv_aload_n B.1 B.2.1 dX1_takesOne_45 rfl (lv_at hl 2 rfl) ?_
              refine lv_aload_n B.1 B.2.1 dX1_takesOne_46 rfl (lv_at hl 3 rfl) ?_
              refine lv_iload B.1 B.2.1 dX1_takesOne_47 (lv_at hl 0 rfl) ?_
              refine x_iconst B dX1_takesOne_49 ?_
              refine x_iadd B dX1_takesOne_50 ?_
              refine y_cV B h kX1 26 (CW.f hC 26 _ rfl) k_X1_takesAny rfl (c_X1_takesAny_5 l D Zk ca T G u ad _ hC j ((ins + 1))  (by omega) (by omega)) m_770 rfl (by decide) hl.1 [] (Nat.le_of_ble_eq_true rfl) rfl dX1_takesOne_51 (fun r w1 hq H locs h => ?_)
              obtain ⟨rfl, _, rfl, ⟨rfl, b9⟩ | ⟨rfl, b9⟩⟩ := hq
              · show W p l e r_c_X1_takesOne_6 s m args below meth c _ _ 0 0 Qf (F0 m 54 ls [.int (iI 1)])
                refine x_if_eq B (by omega) (tgt := 71) dX1_takesOne_54 (by decide) (fun c10 => ?_) (fun c10 => ?_)
                · exact absurd c10 (by omega)
                · refine lv_aload_n B.1 B.2.1 dX1_takesOne_57 rfl (lv_at hl 1 rfl) ?_
                  refine lv_aload_n B.1 B.2.1 dX1_takesOne_58 rfl (lv_at hl 2 rfl) ?_
                  refine x_bipush B (by decide) dX1_takesOne_59 ?_
                  refine y_cV B h kX1 26 (CW.f hC 26 _ rfl) k_X1_takes rfl (c_X1_takes l D Zk ca T G u ad _ hC 41  (by omega)) m_762 rfl (by decide) hl.1 [] (Nat.le_of_ble_eq_true rfl) rfl dX1_takesOne_61 (fun r w1 hq H locs h => ?_)
                  obtain ⟨rfl, _, rfl, ⟨rfl, b11⟩ | ⟨rfl, b11⟩⟩ := hq
                  · show W p l e r_c_X1_takesOne_6 s m args below meth c _ _ 0 0 Qf (F0 m 64 ls [.int (iI 1)])
                    refine x_if_eq B (by omega) (tgt := 71) dX1_takesOne_64 (by decide) (fun c12 => ?_) (fun c12 => ?_)
                    · exact absurd c12 (by omega)
                    · refine x_iconst B dX1_takesOne_67 ?_
                      refine lv_goto (tgt := 81) B.1 B.2.1 dX1_takesOne_68 (by decide) ?_
                      exact join81 1 (by omega) _ _ _ h (lv_sub hl [0, 3, 4] rfl)
                  · show W p l e r_c_X1_takesOne_6 s m args below meth c _ _ 0 0 Qf (F0 m 64 ls [.int (iI 0)])
                    refine x_if_eq B (by omega) (tgt := 71) dX1_takesOne_64 (by decide) (fun c13 => ?_) (fun c13 => ?_)
                    · refine x_iconst B dX1_takesOne_71 ?_
                      refine lv_goto (tgt := 81) B.1 B.2.1 dX1_takesOne_72 (by decide) ?_
                      exact join81 0 (by omega) _ _ _ h (lv_sub hl [0, 3, 4] rfl)
                    · exact absurd c13 (by omega)
              · show W p l e r_c_X1_takesOne_6 s m args below meth c _ _ 0 0 Qf (F0 m 54 ls [.int (iI 0)])
                refine x_if_eq B (by omega) (tgt := 71) dX1_takesOne_54 (by decide) (fun c14 => ?_) (fun c14 => ?_)
                · refine x_iconst B dX1_takesOne_71 ?_
                  refine lv_goto (tgt := 81) B.1 B.2.1 dX1_takesOne_72 (by decide) ?_
                  exact join81 0 (by omega) _ _ _ h (lv_sub hl [0, 3, 4] rfl)
                · exact absurd c14 (by omega)
          · show W p l e r_c_X1_takesOne_6 s m args below meth c _ _ 0 0 Qf (F0 m 41 ls [.int (iI 0)])
            refine x_if_eq B (by omega) (tgt := 75) dX1_takesOne_41 (by decide) (fun c15 => ?_) (fun c15 => ?_)
            · refine lv_aload_n B.1 B.2.1 dX1_takesOne_75 rfl (lv_at hl 1 rfl) ?_
              refine lv_aload_n B.1 B.2.1 dX1_takesOne_76 rfl (lv_at hl 2 rfl) ?_
              refine lv_aload_n B.1 B.2.1 dX1_takesOne_77 rfl (lv_at hl 3 rfl) ?_
              refine y_cV B h kX1 26 (CW.f hC 26 _ rfl) k_X1_takesComparison rfl (c_X1_takesComparison l D Zk ca T G u ad _ hC j  (by omega)) m_782 rfl (by decide) hl.1 [] (Nat.le_of_ble_eq_true rfl) rfl dX1_takesOne_78 (fun r w1 hq H locs h => ?_)
              obtain ⟨rfl, _, rfl, ⟨rfl, b16⟩ | ⟨rfl, b16⟩⟩ := hq
              · show W p l e r_c_X1_takesOne_6 s m args below meth c _ _ 0 0 Qf (F0 m 81 ls [.int (iI 1)])
                exact join81 1 (by omega) _ _ _ h (lv_sub hl [0, 3, 4] rfl)
              · show W p l e r_c_X1_takesOne_6 s m args below meth c _ _ 0 0 Qf (F0 m 81 ls [.int (iI 0)])
                exact join81 0 (by omega) _ _ _ h (lv_sub hl [0, 3, 4] rfl)
            · exact absurd c15 (by omega)
      · refine lv_aload_n B.1 B.2.1 dX1_takesOne_10 rfl (lv_at hl 1 rfl) ?_
        refine lv_aload_n B.1 B.2.1 dX1_takesOne_11 rfl (lv_at hl 2 rfl) ?_
        refine x_sipush B (by decide) dX1_takesOne_12 ?_
        refine y_cV B h kX1 26 (CW.f hC 26 _ rfl) k_X1_takes rfl (c_X1_takes l D Zk ca T G u ad _ hC 229  (by omega)) m_762 rfl (by decide) hl.1 [] (Nat.le_of_ble_eq_true rfl) rfl dX1_takesOne_15 (fun r w1 hq H locs h => ?_)
        obtain ⟨rfl, _, rfl, ⟨rfl, b17⟩ | ⟨rfl, b17⟩⟩ := hq
        · show W p l e r_c_X1_takesOne_6 s m args below meth c _ _ 0 0 Qf (F0 m 18 ls [.int (iI 1)])
          refine x_if_eq B (by omega) (tgt := 27) dX1_takesOne_18 (by decide) (fun c18 => ?_) (fun c18 => ?_)
          · exact absurd c18 (by omega)
          · refine lv_iinc (v := iI (ins + 1)) (lv' := [(4, .int (iI (ins + 1))), (0, .ref (ad 26)), (1, .ref (ad 20)), (2, .ref (G 6 j)), (3, .int (iI op))]) B.1 B.2.1 dX1_takesOne_21 hl (k := 0) rfl (iI_add _ _) (by decide) rfl (fun ls hl => ?_)
            refine lv_goto (tgt := 3) B.1 B.2.1 dX1_takesOne_24 (by decide) ?_
            exact ih3 ((ins + 1)) (by omega) (by omega) _ _ _ h (lv_sub hl [0, 1, 2, 3, 4] rfl)
        · show W p l e r_c_X1_takesOne_6 s m args below meth c _ _ 0 0 Qf (F0 m 18 ls [.int (iI 0)])
          refine x_if_eq B (by omega) (tgt := 27) dX1_takesOne_18 (by decide) (fun c19 => ?_) (fun c19 => ?_)
          · have join81 : ∀ (tk : Int), (tk = 0 ∨ tk = 1) → ∀ (H : Heap) (locs : List Loc) (ls : Array Slot), yH D Zk A s w H locs → lv_has ls 6 [(4, .int (iI ins)), (2, .ref (G 6 j)), (3, .int (iI op))] → W p l e r_c_X1_takesOne_6 s m args below meth c H locs 0 0 Qf (F0 m 81 ls [.int (iI tk)]) := by
              intro tk hk0 H locs ls h hl
              refine lv_istore (lv' := [(5, .int (iI tk)), (4, .int (iI ins)), (2, .ref (G 6 j)), (3, .int (iI op))]) B.1 B.2.1 dX1_takesOne_81 hl (by decide) rfl (fun ls hl => ?_)
              refine lv_iload B.1 B.2.1 dX1_takesOne_83 (lv_at hl 0 rfl) ?_
              refine x_if_eq B (by omega) (tgt := 103) dX1_takesOne_85 (by decide) (fun c20 => ?_) (fun c20 => ?_)
              · refine lv_iload B.1 B.2.1 dX1_takesOne_103 (lv_at hl 0 rfl) ?_
                refine y_rz B hQ h (by decide) (nz01 (by omega)) dX1_takesOne_105 ?_
                rcases (show tk = 1 ∨ tk = 0 by omega) with e9 | e9
                · exact ⟨rfl, _, rfl, Or.inl ⟨e9, (by first | omega | trivial | assumption)⟩⟩
                · exact ⟨rfl, _, rfl, Or.inr ⟨e9, (by first | omega | trivial | assumption)⟩⟩
              · refine lv_iload B.1 B.2.1 dX1_takesOne_88 (lv_at hl 1 rfl) ?_
                refine lv_iload_n B.1 B.2.1 dX1_takesOne_90 rfl (lv_at hl 3 rfl) ?_
                refine x_isub B dX1_takesOne_91 ?_
                refine x_iconst B dX1_takesOne_92 ?_
                refine x_irem B (by omega) dX1_takesOne_93 ?_
                refine x_iconst B dX1_takesOne_94 ?_
                refine x_icmp_ne B (by omega) (tgt := 103) dX1_takesOne_95 (by decide) (fun c21 => ?_) (fun c21 => ?_)
                · refine lv_iload B.1 B.2.1 dX1_takesOne_103 (lv_at hl 0 rfl) ?_
                  refine y_rz B hQ h (by decide) (nz01 (by omega)) dX1_takesOne_105 ?_
                  rcases (show tk = 1 ∨ tk = 0 by omega) with e9 | e9
                  · exact ⟨rfl, _, rfl, Or.inl ⟨e9, (by first | omega | trivial | assumption)⟩⟩
                  · exact ⟨rfl, _, rfl, Or.inr ⟨e9, (by first | omega | trivial | assumption)⟩⟩
                · refine lv_aload_n B.1 B.2.1 dX1_takesOne_98 rfl (lv_at hl 2 rfl) ?_
                  refine x_iconst B dX1_takesOne_99 ?_
                  refine y_cV B h kX5 (1000 + 16 * j.toNat + 6) fo1.1 k_X5_addStep rfl (c_X5_addStep l D Zk ca T G u ad _ hC j ((-1))  (by omega) (by omega)) m_793 rfl (by decide) hl.1 [] (Nat.le_of_ble_eq_true rfl) rfl dX1_takesOne_100 (fun r w1 hq H locs h => ?_)
                  obtain ⟨rfl, rfl⟩ := hq
                  show W p l e r_c_X1_takesOne_6 s m args below meth c _ _ 0 0 Qf (F0 m 103 ls [])
                  refine lv_iload B.1 B.2.1 dX1_takesOne_103 (lv_at hl 0 rfl) ?_
                  refine y_rz B hQ h (by decide) (nz01 (by omega)) dX1_takesOne_105 ?_
                  rcases (show tk = 1 ∨ tk = 0 by omega) with e9 | e9
                  · exact ⟨rfl, _, rfl, Or.inl ⟨e9, (by first | omega | trivial | assumption)⟩⟩
                  · exact ⟨rfl, _, rfl, Or.inr ⟨e9, (by first | omega | trivial | assumption)⟩⟩
            refine lv_iload B.1 B.2.1 dX1_takesOne_27 (lv_at hl 0 rfl) ?_
            refine x_bipush B (by decide) dX1_takesOne_29 ?_
            refine x_icmp_ge B (by omega) (tgt := 75) dX1_takesOne_31 (by decide) (fun c22 => ?_) (fun c22 => ?_)
            · refine lv_aload_n B.1 B.2.1 dX1_takesOne_75 rfl (lv_at hl 1 rfl) ?_
              refine lv_aload_n B.1 B.2.1 dX1_takesOne_76 rfl (lv_at hl 2 rfl) ?_
              refine lv_aload_n B.1 B.2.1 dX1_takesOne_77 rfl (lv_at hl 3 rfl) ?_
              refine y_cV B h kX1 26 (CW.f hC 26 _ rfl) k_X1_takesComparison rfl (c_X1_takesComparison l D Zk ca T G u ad _ hC j  (by omega)) m_782 rfl (by decide) hl.1 [] (Nat.le_of_ble_eq_true rfl) rfl dX1_takesOne_78 (fun r w1 hq H locs h => ?_)
              obtain ⟨rfl, _, rfl, ⟨rfl, b23⟩ | ⟨rfl, b23⟩⟩ := hq
              · show W p l e r_c_X1_takesOne_6 s m args below meth c _ _ 0 0 Qf (F0 m 81 ls [.int (iI 1)])
                exact join81 1 (by omega) _ _ _ h (lv_sub hl [0, 3, 4] rfl)
              · show W p l e r_c_X1_takesOne_6 s m args below meth c _ _ 0 0 Qf (F0 m 81 ls [.int (iI 0)])
                exact join81 0 (by omega) _ _ _ h (lv_sub hl [0, 3, 4] rfl)
            · refine lv_aload_n B.1 B.2.1 dX1_takesOne_34 rfl (lv_at hl 1 rfl) ?_
              refine lv_aload_n B.1 B.2.1 dX1_takesOne_35 rfl (lv_at hl 2 rfl) ?_
              refine x_bipush B (by decide) dX1_takesOne_36 ?_
              refine y_cV B h kX1 26 (CW.f hC 26 _ rfl) k_X1_takes rfl (c_X1_takes l D Zk ca T G u ad _ hC 40  (by omega)) m_762 rfl (by decide) hl.1 [] (Nat.le_of_ble_eq_true rfl) rfl dX1_takesOne_38 (fun r w1 hq H locs h => ?_)
              obtain ⟨rfl, _, rfl, ⟨rfl, b24⟩ | ⟨rfl, b24⟩⟩ := hq
              · show W p l e r_c_X1_takesOne_6 s m args below meth c _ _ 0 0 Qf (F0 m 41 ls [.int (iI 1)])
                refine x_if_eq B (by omega) (tgt := 75) dX1_takesOne_41 (by decide) (fun c25 => ?_) (fun c25 => ?_)
                · exact absurd c25 (by omega)
                · refine lv_aload_n B.1 B.2.1 dX1_takesOne_44 rfl (lv_at hl 1 rfl) ?_
                  refine lv_aload_n B.1 B.2.1 dX1_takesOne_45 rfl (lv_at hl 2 rfl) ?_
                  refine lv_aload_n B.1 B.2.1 dX1_takesOne_46 rfl (lv_at hl 3 rfl) ?_
                  refine lv_iload B.1 B.2.1 dX1_takesOne_47 (lv_at hl 0 rfl) ?_
                  refine x_iconst B dX1_takesOne_49 ?_
                  refine x_iadd B dX1_takesOne_50 ?_
                  refine y_cV B h kX1 26 (CW.f hC 26 _ rfl) k_X1_takesAny rfl (c_X1_takesAny_5 l D Zk ca T G u ad _ hC j ((ins + 1))  (by omega) (by omega)) m_770 rfl (by decide) hl.1 [] (Nat.le_of_ble_eq_true rfl) rfl dX1_takesOne_51 (fun r w1 hq H locs h => ?_)
                  obtain ⟨rfl, _, rfl, ⟨rfl, b26⟩ | ⟨rfl, b26⟩⟩ := hq
                  · show W p l e r_c_X1_takesOne_6 s m args below meth c _ _ 0 0 Qf (F0 m 54 ls [.int (iI 1)])
                    refine x_if_eq B (by omega) (tgt := 71) dX1_takesOne_54 (by decide) (fun c27 => ?_) (fun c27 => ?_)
                    · exact absurd c27 (by omega)
                    · refine lv_aload_n B.1 B.2.1 dX1_takesOne_57 rfl (lv_at hl 1 rfl) ?_
                      refine lv_aload_n B.1 B.2.1 dX1_takesOne_58 rfl (lv_at hl 2 rfl) ?_
                      refine x_bipush B (by decide) dX1_takesOne_59 ?_
                      refine y_cV B h kX1 26 (CW.f hC 26 _ rfl) k_X1_takes rfl (c_X1_takes l D Zk ca T G u ad _ hC 41  (by omega)) m_762 rfl (by decide) hl.1 [] (Nat.le_of_ble_eq_true rfl) rfl dX1_takesOne_61 (fun r w1 hq H locs h => ?_)
                      obtain ⟨rfl, _, rfl, ⟨rfl, b28⟩ | ⟨rfl, b28⟩⟩ := hq
                      · show W p l e r_c_X1_takesOne_6 s m args below meth c _ _ 0 0 Qf (F0 m 64 ls [.int (iI 1)])
                        refine x_if_eq B (by omega) (tgt := 71) dX1_takesOne_64 (by decide) (fun c29 => ?_) (fun c29 => ?_)
                        · exact absurd c29 (by omega)
                        · refine x_iconst B dX1_takesOne_67 ?_
                          refine lv_goto (tgt := 81) B.1 B.2.1 dX1_takesOne_68 (by decide) ?_
                          exact join81 1 (by omega) _ _ _ h (lv_sub hl [0, 3, 4] rfl)
                      · show W p l e r_c_X1_takesOne_6 s m args below meth c _ _ 0 0 Qf (F0 m 64 ls [.int (iI 0)])
                        refine x_if_eq B (by omega) (tgt := 71) dX1_takesOne_64 (by decide) (fun c30 => ?_) (fun c30 => ?_)
                        · refine x_iconst B dX1_takesOne_71 ?_
                          refine lv_goto (tgt := 81) B.1 B.2.1 dX1_takesOne_72 (by decide) ?_
                          exact join81 0 (by omega) _ _ _ h (lv_sub hl [0, 3, 4] rfl)
                        · exact absurd c30 (by omega)
                  · show W p l e r_c_X1_takesOne_6 s m args below meth c _ _ 0 0 Qf (F0 m 54 ls [.int (iI 0)])
                    refine x_if_eq B (by omega) (tgt := 71) dX1_takesOne_54 (by decide) (fun c31 => ?_) (fun c31 => ?_)
                    · refine x_iconst B dX1_takesOne_71 ?_
                      refine lv_goto (tgt := 81) B.1 B.2.1 dX1_takesOne_72 (by decide) ?_
                      exact join81 0 (by omega) _ _ _ h (lv_sub hl [0, 3, 4] rfl)
                    · exact absurd c31 (by omega)
              · show W p l e r_c_X1_takesOne_6 s m args below meth c _ _ 0 0 Qf (F0 m 41 ls [.int (iI 0)])
                refine x_if_eq B (by omega) (tgt := 75) dX1_takesOne_41 (by decide) (fun c32 => ?_) (fun c32 => ?_)
                · refine lv_aload_n B.1 B.2.1 dX1_takesOne_75 rfl (lv_at hl 1 rfl) ?_
                  refine lv_aload_n B.1 B.2.1 dX1_takesOne_76 rfl (lv_at hl 2 rfl) ?_
                  refine lv_aload_n B.1 B.2.1 dX1_takesOne_77 rfl (lv_at hl 3 rfl) ?_
                  refine y_cV B h kX1 26 (CW.f hC 26 _ rfl) k_X1_takesComparison rfl (c_X1_takesComparison l D Zk ca T G u ad _ hC j  (by omega)) m_782 rfl (by decide) hl.1 [] (Nat.le_of_ble_eq_true rfl) rfl dX1_takesOne_78 (fun r w1 hq H locs h => ?_)
                  obtain ⟨rfl, _, rfl, ⟨rfl, b33⟩ | ⟨rfl, b33⟩⟩ := hq
                  · show W p l e r_c_X1_takesOne_6 s m args below meth c _ _ 0 0 Qf (F0 m 81 ls [.int (iI 1)])
                    exact join81 1 (by omega) _ _ _ h (lv_sub hl [0, 3, 4] rfl)
                  · show W p l e r_c_X1_takesOne_6 s m args below meth c _ _ 0 0 Qf (F0 m 81 ls [.int (iI 0)])
                    exact join81 0 (by omega) _ _ _ h (lv_sub hl [0, 3, 4] rfl)
                · exact absurd c32 (by omega)
          · exact absurd c19 (by omega)
  exact loop3 (((9 - op : Int)).toNat + 1) op (by omega) (Nat.lt_succ_self _) _ _ _ h (lv_sub hl [0, 1, 2, 3, 4] rfl)
abbrev r_c_X1_takesAll_6 : Room := { frames := 21, cells := 0, slots := 0, locals := 512 }
set_option maxHeartbeats 4000000 in
set_option maxRecDepth 100000 in
theorem c_X1_takesAll_6 (l : Launch) (D : va_G) (Zk : yK) (ca : Nat → ClassId) (T : Nat → Int → Int) (G : Nat → Int → Nat) (u : Int) (ad : Nat → Nat) (w : yW) (hC : CW ca T G u ad w) (j : Int) (op : Int)  (hj : 0 ≤ j ∧ j < u) (hop : 3 ≤ op ∧ op ≤ 9) : yC l D Zk ca yX1_takesAll cX1_takesAll 5 (some .boolean) r_c_X1_takesAll_6 [.ref (ad 26), .ref (ad 20), .ref (G 6 j), .int (iI op)] w (vI w (fun z => (z = 1 ∧ (True)) ∨ (z = 0 ∧ (True)))) := by
  refine yC.of2 "WindWords$Grammar" (by decide) rfl (Nat.le_of_ble_eq_true rfl) ?_
  intro p e s m args below meth c A ls Qf B hnm h hl hQ
  have hl : lv_has ls 5 [(0, .ref (ad 26)), (1, .ref (ad 20)), (2, .ref (G 6 j)), (3, .int (iI op))] := hl
  have hs := pi_s (CW.pi hC)
  have fo1 := CW.ru hC j (by omega)
  refine lv_aload_n B.1 B.2.1 dX1_takesAll_0 rfl (lv_at hl 0 rfl) ?_
  refine lv_aload_n B.1 B.2.1 dX1_takesAll_1 rfl (lv_at hl 1 rfl) ?_
  refine lv_aload_n B.1 B.2.1 dX1_takesAll_2 rfl (lv_at hl 2 rfl) ?_
  refine lv_iload_n B.1 B.2.1 dX1_takesAll_3 rfl (lv_at hl 3 rfl) ?_
  refine y_cV B h kX1 26 (CW.f hC 26 _ rfl) k_X1_takesOne rfl (c_X1_takesOne_6 l D Zk ca T G u ad _ hC j op  (by omega) (by omega)) m_778 rfl (by decide) hl.1 [] (Nat.le_of_ble_eq_true rfl) rfl dX1_takesAll_4 (fun r w1 hq H locs h => ?_)
  obtain ⟨rfl, _, rfl, ⟨rfl, b2⟩ | ⟨rfl, b2⟩⟩ := hq
  · show W p l e r_c_X1_takesAll_6 s m args below meth c _ _ 0 0 Qf (F0 m 7 ls [.int (iI 1)])
    refine x_if_ne B (by omega) (tgt := 12) dX1_takesAll_7 (by decide) (fun c3 => ?_) (fun c3 => ?_)
    · refine x_iconst B dX1_takesAll_12 ?_
      refine lv_istore (lv' := [(4, .int (iI 0)), (0, .ref (ad 26)), (1, .ref (ad 20)), (2, .ref (G 6 j)), (3, .int (iI op))]) B.1 B.2.1 dX1_takesAll_13 hl (by decide) rfl (fun ls hl => ?_)
      have loop15 : ∀ (n15 : Nat) (i : Int), (0 ≤ i ∧ i ≤ 900) → ((900 - i : Int)).toNat < n15 → ∀ (H : Heap) (locs : List Loc) (ls : Array Slot), yH D Zk A s w H locs → lv_has ls 5 [(4, .int (iI i)), (0, .ref (ad 26)), (1, .ref (ad 20)), (2, .ref (G 6 j)), (3, .int (iI op))] → W p l e r_c_X1_takesAll_6 s m args below meth c H locs 0 0 Qf (F0 m 15 ls []) := by
        intro n15
        induction n15 with
        | zero =>
          intro i hi hm15 H locs ls h hl
          exact absurd hm15 (Nat.not_lt_zero _)
        | succ n15 ih15 =>
          intro i hi hm15 H locs ls h hl
          refine lv_iload B.1 B.2.1 dX1_takesAll_15 (lv_at hl 0 rfl) ?_
          refine lv_aload_n B.1 B.2.1 dX1_takesAll_17 rfl (lv_at hl 2 rfl) ?_
          refine y_getG B h kX9 20 (CW.f hC 20 _ rfl) 1 (lo := 0) (hi := 900) rfl m_291 (by decide) dX1_takesAll_18 (fun z4 z4a z4b => ?_)
          refine x_icmp_ge B (by omega) (tgt := 59) dX1_takesAll_21 (by decide) (fun c5 => ?_) (fun c5 => ?_)
          · refine x_iconst B dX1_takesAll_59 ?_
            refine y_rz B hQ h (by decide) (by decide) dX1_takesAll_60 ?_
            exact ⟨rfl, _, rfl, Or.inl ⟨rfl, (by first | omega | trivial | assumption)⟩⟩
          · refine lv_aload_n B.1 B.2.1 dX1_takesAll_24 rfl (lv_at hl 1 rfl) ?_
            refine lv_aload_n B.1 B.2.1 dX1_takesAll_25 rfl (lv_at hl 2 rfl) ?_
            refine x_sipush B (by decide) dX1_takesAll_26 ?_
            refine y_cV B h kX1 26 (CW.f hC 26 _ rfl) k_X1_takes rfl (c_X1_takes l D Zk ca T G u ad _ hC 227  (by omega)) m_762 rfl (by decide) hl.1 [] (Nat.le_of_ble_eq_true rfl) rfl dX1_takesAll_29 (fun r w1 hq H locs h => ?_)
            obtain ⟨rfl, _, rfl, ⟨rfl, b6⟩ | ⟨rfl, b6⟩⟩ := hq
            · show W p l e r_c_X1_takesAll_6 s m args below meth c _ _ 0 0 Qf (F0 m 32 ls [.int (iI 1)])
              refine x_if_eq B (by omega) (tgt := 59) dX1_takesAll_32 (by decide) (fun c7 => ?_) (fun c7 => ?_)
              · exact absurd c7 (by omega)
              · refine lv_aload_n B.1 B.2.1 dX1_takesAll_35 rfl (lv_at hl 1 rfl) ?_
                refine lv_aload_n B.1 B.2.1 dX1_takesAll_36 rfl (lv_at hl 2 rfl) ?_
                refine lv_aload_n B.1 B.2.1 dX1_takesAll_37 rfl (lv_at hl 3 rfl) ?_
                refine lv_iload_n B.1 B.2.1 dX1_takesAll_38 rfl (lv_at hl 4 rfl) ?_
                refine y_cV B h kX1 26 (CW.f hC 26 _ rfl) k_X1_takesOne rfl (c_X1_takesOne_6 l D Zk ca T G u ad _ hC j op  (by omega) (by omega)) m_778 rfl (by decide) hl.1 [] (Nat.le_of_ble_eq_true rfl) rfl dX1_takesAll_39 (fun r w1 hq H locs h => ?_)
                obtain ⟨rfl, _, rfl, ⟨rfl, b8⟩ | ⟨rfl, b8⟩⟩ := hq
                · show W p l e r_c_X1_takesAll_6 s m args below meth c _ _ 0 0 Qf (F0 m 42 ls [.int (iI 1)])
                  refine x_if_ne B (by omega) (tgt := 47) dX1_takesAll_42 (by decide) (fun c9 => ?_) (fun c9 => ?_)
                  · refine lv_aload_n B.1 B.2.1 dX1_takesAll_47 rfl (lv_at hl 3 rfl) ?_
                    refine x_bipush B (by decide) dX1_takesAll_48 ?_
                    refine y_cV B h kX5 (1000 + 16 * j.toNat + 6) fo1.1 k_X5_addStep rfl (c_X5_addStep l D Zk ca T G u ad _ hC j ((-2))  (by omega) (by omega)) m_793 rfl (by decide) hl.1 [] (Nat.le_of_ble_eq_true rfl) rfl dX1_takesAll_50 (fun r w1 hq H locs h => ?_)
                    obtain ⟨rfl, rfl⟩ := hq
                    show W p l e r_c_X1_takesAll_6 s m args below meth c _ _ 0 0 Qf (F0 m 53 ls [])
                    refine lv_iinc (v := iI (i + 1)) (lv' := [(4, .int (iI (i + 1))), (0, .ref (ad 26)), (1, .ref (ad 20)), (2, .ref (G 6 j)), (3, .int (iI op))]) B.1 B.2.1 dX1_takesAll_53 hl (k := 0) rfl (iI_add _ _) (by decide) rfl (fun ls hl => ?_)
                    refine lv_goto (tgt := 15) B.1 B.2.1 dX1_takesAll_56 (by decide) ?_
                    exact ih15 ((i + 1)) (by omega) (by omega) _ _ _ h (lv_sub hl [0, 1, 2, 3, 4] rfl)
                  · exact absurd c9 (by omega)
                · show W p l e r_c_X1_takesAll_6 s m args below meth c _ _ 0 0 Qf (F0 m 42 ls [.int (iI 0)])
                  refine x_if_ne B (by omega) (tgt := 47) dX1_takesAll_42 (by decide) (fun c10 => ?_) (fun c10 => ?_)
                  · exact absurd c10 (by omega)
                  · refine x_iconst B dX1_takesAll_45 ?_
                    refine y_rz B hQ h (by decide) (by decide) dX1_takesAll_46 ?_
                    exact ⟨rfl, _, rfl, Or.inr ⟨rfl, (by first | omega | trivial | assumption)⟩⟩
            · show W p l e r_c_X1_takesAll_6 s m args below meth c _ _ 0 0 Qf (F0 m 32 ls [.int (iI 0)])
              refine x_if_eq B (by omega) (tgt := 59) dX1_takesAll_32 (by decide) (fun c11 => ?_) (fun c11 => ?_)
              · refine x_iconst B dX1_takesAll_59 ?_
                refine y_rz B hQ h (by decide) (by decide) dX1_takesAll_60 ?_
                exact ⟨rfl, _, rfl, Or.inl ⟨rfl, (by first | omega | trivial | assumption)⟩⟩
              · exact absurd c11 (by omega)
      exact loop15 (((900 - 0 : Int)).toNat + 1) 0 (by omega) (Nat.lt_succ_self _) _ _ _ h (lv_sub hl [0, 1, 2, 3, 4] rfl)
    · exact absurd c3 (by omega)
  · show W p l e r_c_X1_takesAll_6 s m args below meth c _ _ 0 0 Qf (F0 m 7 ls [.int (iI 0)])
    refine x_if_ne B (by omega) (tgt := 12) dX1_takesAll_7 (by decide) (fun c12 => ?_) (fun c12 => ?_)
    · exact absurd c12 (by omega)
    · refine x_iconst B dX1_takesAll_10 ?_
      refine y_rz B hQ h (by decide) (by decide) dX1_takesAll_11 ?_
      exact ⟨rfl, _, rfl, Or.inr ⟨rfl, (by first | omega | trivial | assumption)⟩⟩
abbrev r_c_X1_takesAny_6 : Room := { frames := 22, cells := 0, slots := 0, locals := 536 }
set_option maxHeartbeats 4000000 in
set_option maxRecDepth 100000 in
theorem c_X1_takesAny_6 (l : Launch) (D : va_G) (Zk : yK) (ca : Nat → ClassId) (T : Nat → Int → Int) (G : Nat → Int → Nat) (u : Int) (ad : Nat → Nat) (w : yW) (hC : CW ca T G u ad w) (j : Int) (op : Int)  (hj : 0 ≤ j ∧ j < u) (hop : 3 ≤ op ∧ op ≤ 9) : yC l D Zk ca yX1_takesAny cX1_takesAny 5 (some .boolean) r_c_X1_takesAny_6 [.ref (ad 26), .ref (ad 20), .ref (G 6 j), .int (iI op)] w (vI w (fun z => (z = 1 ∧ (True)) ∨ (z = 0 ∧ (True)))) := by
  refine yC.of2 "WindWords$Grammar" (by decide) rfl (Nat.le_of_ble_eq_true rfl) ?_
  intro p e s m args below meth c A ls Qf B hnm h hl hQ
  have hl : lv_has ls 5 [(0, .ref (ad 26)), (1, .ref (ad 20)), (2, .ref (G 6 j)), (3, .int (iI op))] := hl
  have hs := pi_s (CW.pi hC)
  have fo1 := CW.ru hC j (by omega)
  refine lv_aload_n B.1 B.2.1 dX1_takesAny_0 rfl (lv_at hl 0 rfl) ?_
  refine lv_aload_n B.1 B.2.1 dX1_takesAny_1 rfl (lv_at hl 1 rfl) ?_
  refine lv_aload_n B.1 B.2.1 dX1_takesAny_2 rfl (lv_at hl 2 rfl) ?_
  refine lv_iload_n B.1 B.2.1 dX1_takesAny_3 rfl (lv_at hl 3 rfl) ?_
  refine y_cV B h kX1 26 (CW.f hC 26 _ rfl) k_X1_takesAll rfl (c_X1_takesAll_6 l D Zk ca T G u ad _ hC j op  (by omega) (by omega)) m_774 rfl (by decide) hl.1 [] (Nat.le_of_ble_eq_true rfl) rfl dX1_takesAny_4 (fun r w1 hq H locs h => ?_)
  obtain ⟨rfl, _, rfl, ⟨rfl, b2⟩ | ⟨rfl, b2⟩⟩ := hq
  · show W p l e r_c_X1_takesAny_6 s m args below meth c _ _ 0 0 Qf (F0 m 7 ls [.int (iI 1)])
    refine x_if_ne B (by omega) (tgt := 12) dX1_takesAny_7 (by decide) (fun c3 => ?_) (fun c3 => ?_)
    · refine x_iconst B dX1_takesAny_12 ?_
      refine lv_istore (lv' := [(4, .int (iI 0)), (0, .ref (ad 26)), (1, .ref (ad 20)), (2, .ref (G 6 j)), (3, .int (iI op))]) B.1 B.2.1 dX1_takesAny_13 hl (by decide) rfl (fun ls hl => ?_)
      have loop15 : ∀ (n15 : Nat) (i : Int), (0 ≤ i ∧ i ≤ 900) → ((900 - i : Int)).toNat < n15 → ∀ (H : Heap) (locs : List Loc) (ls : Array Slot), yH D Zk A s w H locs → lv_has ls 5 [(4, .int (iI i)), (0, .ref (ad 26)), (1, .ref (ad 20)), (2, .ref (G 6 j)), (3, .int (iI op))] → W p l e r_c_X1_takesAny_6 s m args below meth c H locs 0 0 Qf (F0 m 15 ls []) := by
        intro n15
        induction n15 with
        | zero =>
          intro i hi hm15 H locs ls h hl
          exact absurd hm15 (Nat.not_lt_zero _)
        | succ n15 ih15 =>
          intro i hi hm15 H locs ls h hl
          refine lv_iload B.1 B.2.1 dX1_takesAny_15 (lv_at hl 0 rfl) ?_
          refine lv_aload_n B.1 B.2.1 dX1_takesAny_17 rfl (lv_at hl 2 rfl) ?_
          refine y_getG B h kX9 20 (CW.f hC 20 _ rfl) 1 (lo := 0) (hi := 900) rfl m_291 (by decide) dX1_takesAny_18 (fun z4 z4a z4b => ?_)
          refine x_icmp_ge B (by omega) (tgt := 59) dX1_takesAny_21 (by decide) (fun c5 => ?_) (fun c5 => ?_)
          · refine x_iconst B dX1_takesAny_59 ?_
            refine y_rz B hQ h (by decide) (by decide) dX1_takesAny_60 ?_
            exact ⟨rfl, _, rfl, Or.inl ⟨rfl, (by first | omega | trivial | assumption)⟩⟩
          · refine lv_aload_n B.1 B.2.1 dX1_takesAny_24 rfl (lv_at hl 1 rfl) ?_
            refine lv_aload_n B.1 B.2.1 dX1_takesAny_25 rfl (lv_at hl 2 rfl) ?_
            refine x_sipush B (by decide) dX1_takesAny_26 ?_
            refine y_cV B h kX1 26 (CW.f hC 26 _ rfl) k_X1_takes rfl (c_X1_takes l D Zk ca T G u ad _ hC 228  (by omega)) m_762 rfl (by decide) hl.1 [] (Nat.le_of_ble_eq_true rfl) rfl dX1_takesAny_29 (fun r w1 hq H locs h => ?_)
            obtain ⟨rfl, _, rfl, ⟨rfl, b6⟩ | ⟨rfl, b6⟩⟩ := hq
            · show W p l e r_c_X1_takesAny_6 s m args below meth c _ _ 0 0 Qf (F0 m 32 ls [.int (iI 1)])
              refine x_if_eq B (by omega) (tgt := 59) dX1_takesAny_32 (by decide) (fun c7 => ?_) (fun c7 => ?_)
              · exact absurd c7 (by omega)
              · refine lv_aload_n B.1 B.2.1 dX1_takesAny_35 rfl (lv_at hl 1 rfl) ?_
                refine lv_aload_n B.1 B.2.1 dX1_takesAny_36 rfl (lv_at hl 2 rfl) ?_
                refine lv_aload_n B.1 B.2.1 dX1_takesAny_37 rfl (lv_at hl 3 rfl) ?_
                refine lv_iload_n B.1 B.2.1 dX1_takesAny_38 rfl (lv_at hl 4 rfl) ?_
                refine y_cV B h kX1 26 (CW.f hC 26 _ rfl) k_X1_takesAll rfl (c_X1_takesAll_6 l D Zk ca T G u ad _ hC j op  (by omega) (by omega)) m_774 rfl (by decide) hl.1 [] (Nat.le_of_ble_eq_true rfl) rfl dX1_takesAny_39 (fun r w1 hq H locs h => ?_)
                obtain ⟨rfl, _, rfl, ⟨rfl, b8⟩ | ⟨rfl, b8⟩⟩ := hq
                · show W p l e r_c_X1_takesAny_6 s m args below meth c _ _ 0 0 Qf (F0 m 42 ls [.int (iI 1)])
                  refine x_if_ne B (by omega) (tgt := 47) dX1_takesAny_42 (by decide) (fun c9 => ?_) (fun c9 => ?_)
                  · refine lv_aload_n B.1 B.2.1 dX1_takesAny_47 rfl (lv_at hl 3 rfl) ?_
                    refine x_bipush B (by decide) dX1_takesAny_48 ?_
                    refine y_cV B h kX5 (1000 + 16 * j.toNat + 6) fo1.1 k_X5_addStep rfl (c_X5_addStep l D Zk ca T G u ad _ hC j ((-3))  (by omega) (by omega)) m_793 rfl (by decide) hl.1 [] (Nat.le_of_ble_eq_true rfl) rfl dX1_takesAny_50 (fun r w1 hq H locs h => ?_)
                    obtain ⟨rfl, rfl⟩ := hq
                    show W p l e r_c_X1_takesAny_6 s m args below meth c _ _ 0 0 Qf (F0 m 53 ls [])
                    refine lv_iinc (v := iI (i + 1)) (lv' := [(4, .int (iI (i + 1))), (0, .ref (ad 26)), (1, .ref (ad 20)), (2, .ref (G 6 j)), (3, .int (iI op))]) B.1 B.2.1 dX1_takesAny_53 hl (k := 0) rfl (iI_add _ _) (by decide) rfl (fun ls hl => ?_)
                    refine lv_goto (tgt := 15) B.1 B.2.1 dX1_takesAny_56 (by decide) ?_
                    exact ih15 ((i + 1)) (by omega) (by omega) _ _ _ h (lv_sub hl [0, 1, 2, 3, 4] rfl)
                  · exact absurd c9 (by omega)
                · show W p l e r_c_X1_takesAny_6 s m args below meth c _ _ 0 0 Qf (F0 m 42 ls [.int (iI 0)])
                  refine x_if_ne B (by omega) (tgt := 47) dX1_takesAny_42 (by decide) (fun c10 => ?_) (fun c10 => ?_)
                  · exact absurd c10 (by omega)
                  · refine x_iconst B dX1_takesAny_45 ?_
                    refine y_rz B hQ h (by decide) (by decide) dX1_takesAny_46 ?_
                    exact ⟨rfl, _, rfl, Or.inr ⟨rfl, (by first | omega | trivial | assumption)⟩⟩
            · show W p l e r_c_X1_takesAny_6 s m args below meth c _ _ 0 0 Qf (F0 m 32 ls [.int (iI 0)])
              refine x_if_eq B (by omega) (tgt := 59) dX1_takesAny_32 (by decide) (fun c11 => ?_) (fun c11 => ?_)
              · refine x_iconst B dX1_takesAny_59 ?_
                refine y_rz B hQ h (by decide) (by decide) dX1_takesAny_60 ?_
                exact ⟨rfl, _, rfl, Or.inl ⟨rfl, (by first | omega | trivial | assumption)⟩⟩
              · exact absurd c11 (by omega)
      exact loop15 (((900 - 0 : Int)).toNat + 1) 0 (by omega) (Nat.lt_succ_self _) _ _ _ h (lv_sub hl [0, 1, 2, 3, 4] rfl)
    · exact absurd c3 (by omega)
  · show W p l e r_c_X1_takesAny_6 s m args below meth c _ _ 0 0 Qf (F0 m 7 ls [.int (iI 0)])
    refine x_if_ne B (by omega) (tgt := 12) dX1_takesAny_7 (by decide) (fun c12 => ?_) (fun c12 => ?_)
    · exact absurd c12 (by omega)
    · refine x_iconst B dX1_takesAny_10 ?_
      refine y_rz B hQ h (by decide) (by decide) dX1_takesAny_11 ?_
      exact ⟨rfl, _, rfl, Or.inr ⟨rfl, (by first | omega | trivial | assumption)⟩⟩
abbrev r_c_X1_takesOne_7 : Room := { frames := 23, cells := 0, slots := 0, locals := 560 }
set_option maxHeartbeats 4000000 in
set_option maxRecDepth 100000 in
theorem c_X1_takesOne_7 (l : Launch) (D : va_G) (Zk : yK) (ca : Nat → ClassId) (T : Nat → Int → Int) (G : Nat → Int → Nat) (u : Int) (ad : Nat → Nat) (w : yW) (hC : CW ca T G u ad w) (j : Int) (op : Int)  (hj : 0 ≤ j ∧ j < u) (hop : 2 ≤ op ∧ op ≤ 9) : yC l D Zk ca yX1_takesOne cX1_takesOne 6 (some .boolean) r_c_X1_takesOne_7 [.ref (ad 26), .ref (ad 20), .ref (G 6 j), .int (iI op)] w (vI w (fun z => (z = 1 ∧ (True)) ∨ (z = 0 ∧ (True)))) := by
  refine yC.of2 "WindWords$Grammar" (by decide) rfl (Nat.le_of_ble_eq_true rfl) ?_
  intro p e s m args below meth c A ls Qf B hnm h hl hQ
  have hl : lv_has ls 6 [(0, .ref (ad 26)), (1, .ref (ad 20)), (2, .ref (G 6 j)), (3, .int (iI op))] := hl
  have hs := pi_s (CW.pi hC)
  have fo1 := CW.ru hC j (by omega)
  refine lv_iload_n B.1 B.2.1 dX1_takesOne_0 rfl (lv_at hl 3 rfl) ?_
  refine lv_istore (lv' := [(4, .int (iI op)), (0, .ref (ad 26)), (1, .ref (ad 20)), (2, .ref (G 6 j)), (3, .int (iI op))]) B.1 B.2.1 dX1_takesOne_1 hl (by decide) rfl (fun ls hl => ?_)
  have loop3 : ∀ (n3 : Nat) (ins : Int), (op ≤ ins ∧ ins ≤ 9) → ((9 - ins : Int)).toNat < n3 → ∀ (H : Heap) (locs : List Loc) (ls : Array Slot), yH D Zk A s w H locs → lv_has ls 6 [(4, .int (iI ins)), (0, .ref (ad 26)), (1, .ref (ad 20)), (2, .ref (G 6 j)), (3, .int (iI op))] → W p l e r_c_X1_takesOne_7 s m args below meth c H locs 0 0 Qf (F0 m 3 ls []) := by
    intro n3
    induction n3 with
    | zero =>
      intro ins hi hm3 H locs ls h hl
      exact absurd hm3 (Nat.not_lt_zero _)
    | succ n3 ih3 =>
      intro ins hi hm3 H locs ls h hl
      refine lv_iload B.1 B.2.1 dX1_takesOne_3 (lv_at hl 0 rfl) ?_
      refine x_bipush B (by decide) dX1_takesOne_5 ?_
      refine x_icmp_ge B (by omega) (tgt := 27) dX1_takesOne_7 (by decide) (fun c2 => ?_) (fun c2 => ?_)
      · have join81 : ∀ (tk : Int), (tk = 0 ∨ tk = 1) → ∀ (H : Heap) (locs : List Loc) (ls : Array Slot), yH D Zk A s w H locs → lv_has ls 6 [(4, .int (iI ins)), (2, .ref (G 6 j)), (3, .int (iI op))] → W p l e r_c_X1_takesOne_7 s m args below meth c H locs 0 0 Qf (F0 m 81 ls [.int (iI tk)]) := by
          intro tk hk0 H locs ls h hl
          refine lv_istore (lv' := [(5, .int (iI tk)), (4, .int (iI ins)), (2, .ref (G 6 j)), (3, .int (iI op))]) B.1 B.2.1 dX1_takesOne_81 hl (by decide) rfl (fun ls hl => ?_)
          refine lv_iload B.1 B.2.1 dX1_takesOne_83 (lv_at hl 0 rfl) ?_
          refine x_if_eq B (by omega) (tgt := 103) dX1_takesOne_85 (by decide) (fun c3 => ?_) (fun c3 => ?_)
          · refine lv_iload B.1 B.2.1 dX1_takesOne_103 (lv_at hl 0 rfl) ?_
            refine y_rz B hQ h (by decide) (nz01 (by omega)) dX1_takesOne_105 ?_
            rcases (show tk = 1 ∨ tk = 0 by omega) with e9 | e9
            · exact ⟨rfl, _, rfl, Or.inl ⟨e9, (by first | omega | trivial | assumption)⟩⟩
            · exact ⟨rfl, _, rfl, Or.inr ⟨e9, (by first | omega | trivial | assumption)⟩⟩
          · refine lv_iload B.1 B.2.1 dX1_takesOne_88 (lv_at hl 1 rfl) ?_
            refine lv_iload_n B.1 B.2.1 dX1_takesOne_90 rfl (lv_at hl 3 rfl) ?_
            refine x_isub B dX1_takesOne_91 ?_
            refine x_iconst B dX1_takesOne_92 ?_
            refine x_irem B (by omega) dX1_takesOne_93 ?_
            refine x_iconst B dX1_takesOne_94 ?_
            refine x_icmp_ne B (by omega) (tgt := 103) dX1_takesOne_95 (by decide) (fun c4 => ?_) (fun c4 => ?_)
            · refine lv_iload B.1 B.2.1 dX1_takesOne_103 (lv_at hl 0 rfl) ?_
              refine y_rz B hQ h (by decide) (nz01 (by omega)) dX1_takesOne_105 ?_
              rcases (show tk = 1 ∨ tk = 0 by omega) with e9 | e9
              · exact ⟨rfl, _, rfl, Or.inl ⟨e9, (by first | omega | trivial | assumption)⟩⟩
              · exact ⟨rfl, _, rfl, Or.inr ⟨e9, (by first | omega | trivial | assumption)⟩⟩
            · refine lv_aload_n B.1 B.2.1 dX1_takesOne_98 rfl (lv_at hl 2 rfl) ?_
              refine x_iconst B dX1_takesOne_99 ?_
              refine y_cV B h kX5 (1000 + 16 * j.toNat + 6) fo1.1 k_X5_addStep rfl (c_X5_addStep l D Zk ca T G u ad _ hC j ((-1))  (by omega) (by omega)) m_793 rfl (by decide) hl.1 [] (Nat.le_of_ble_eq_true rfl) rfl dX1_takesOne_100 (fun r w1 hq H locs h => ?_)
              obtain ⟨rfl, rfl⟩ := hq
              show W p l e r_c_X1_takesOne_7 s m args below meth c _ _ 0 0 Qf (F0 m 103 ls [])
              refine lv_iload B.1 B.2.1 dX1_takesOne_103 (lv_at hl 0 rfl) ?_
              refine y_rz B hQ h (by decide) (nz01 (by omega)) dX1_takesOne_105 ?_
              rcases (show tk = 1 ∨ tk = 0 by omega) with e9 | e9
              · exact ⟨rfl, _, rfl, Or.inl ⟨e9, (by first | omega | trivial | assumption)⟩⟩
              · exact ⟨rfl, _, rfl, Or.inr ⟨e9, (by first | omega | trivial | assumption)⟩⟩
        refine lv_iload B.1 B.2.1 dX1_takesOne_27 (lv_at hl 0 rfl) ?_
        refine x_bipush B (by decide) dX1_takesOne_29 ?_
        refine x_icmp_ge B (by omega) (tgt := 75) dX1_takesOne_31 (by decide) (fun c5 => ?_) (fun c5 => ?_)
        · refine lv_aload_n B.1 B.2.1 dX1_takesOne_75 rfl (lv_at hl 1 rfl) ?_
          refine lv_aload_n B.1 B.2.1 dX1_takesOne_76 rfl (lv_at hl 2 rfl) ?_
          refine lv_aload_n B.1 B.2.1 dX1_takesOne_77 rfl (lv_at hl 3 rfl) ?_
          refine y_cV B h kX1 26 (CW.f hC 26 _ rfl) k_X1_takesComparison rfl (c_X1_takesComparison l D Zk ca T G u ad _ hC j  (by omega)) m_782 rfl (by decide) hl.1 [] (Nat.le_of_ble_eq_true rfl) rfl dX1_takesOne_78 (fun r w1 hq H locs h => ?_)
          obtain ⟨rfl, _, rfl, ⟨rfl, b6⟩ | ⟨rfl, b6⟩⟩ := hq
          · show W p l e r_c_X1_takesOne_7 s m args below meth c _ _ 0 0 Qf (F0 m 81 ls [.int (iI 1)])
            exact join81 1 (by omega) _ _ _ h (lv_sub hl [0, 3, 4] rfl)
          · show W p l e r_c_X1_takesOne_7 s m args below meth c _ _ 0 0 Qf (F0 m 81 ls [.int (iI 0)])
            exact join81 0 (by omega) _ _ _ h (lv_sub hl [0, 3, 4] rfl)
        · refine lv_aload_n B.1 B.2.1 dX1_takesOne_34 rfl (lv_at hl 1 rfl) ?_
          refine lv_aload_n B.1 B.2.1 dX1_takesOne_35 rfl (lv_at hl 2 rfl) ?_
          refine x_bipush B (by decide) dX1_takesOne_36 ?_
          refine y_cV B h kX1 26 (CW.f hC 26 _ rfl) k_X1_takes rfl (c_X1_takes l D Zk ca T G u ad _ hC 40  (by omega)) m_762 rfl (by decide) hl.1 [] (Nat.le_of_ble_eq_true rfl) rfl dX1_takesOne_38 (fun r w1 hq H locs h => ?_)
          obtain ⟨rfl, _, rfl, ⟨rfl, b7⟩ | ⟨rfl, b7⟩⟩ := hq
          · show W p l e r_c_X1_takesOne_7 s m args below meth c _ _ 0 0 Qf (F0 m 41 ls [.int (iI 1)])
            refine x_if_eq B (by omega) (tgt := 75) dX1_takesOne_41 (by decide) (fun c8 => ?_) (fun c8 => ?_)
            · exact absurd c8 (by omega)
            · refine lv_aload_n B.1 B.2.1 dX1_takesOne_44 rfl (lv_at hl 1 rfl) ?_
              refine lv_aload_n B.1 B.2.1 dX1_takesOne_45 rfl (lv_at hl 2 rfl) ?_
              refine lv_aload_n B.1 B.2.1 dX1_takesOne_46 rfl (lv_at hl 3 rfl) ?_
              refine lv_iload B.1 B.2.1 dX1_takesOne_47 (lv_at hl 0 rfl) ?_
              refine x_iconst B dX1_takesOne_49 ?_
              refine x_iadd B dX1_takesOne_50 ?_
              refine y_cV B h kX1 26 (CW.f hC 26 _ rfl) k_X1_takesAny rfl (c_X1_takesAny_6 l D Zk ca T G u ad _ hC j ((ins + 1))  (by omega) (by omega)) m_770 rfl (by decide) hl.1 [] (Nat.le_of_ble_eq_true rfl) rfl dX1_takesOne_51 (fun r w1 hq H locs h => ?_)
              obtain ⟨rfl, _, rfl, ⟨rfl, b9⟩ | ⟨rfl, b9⟩⟩ := hq
              · show W p l e r_c_X1_takesOne_7 s m args below meth c _ _ 0 0 Qf (F0 m 54 ls [.int (iI 1)])
                refine x_if_eq B (by omega) (tgt := 71) dX1_takesOne_54 (by decide) (fun c10 => ?_) (fun c10 => ?_)
                · exact absurd c10 (by omega)
                · refine lv_aload_n B.1 B.2.1 dX1_takesOne_57 rfl (lv_at hl 1 rfl) ?_
                  refine lv_aload_n B.1 B.2.1 dX1_takesOne_58 rfl (lv_at hl 2 rfl) ?_
                  refine x_bipush B (by decide) dX1_takesOne_59 ?_
                  refine y_cV B h kX1 26 (CW.f hC 26 _ rfl) k_X1_takes rfl (c_X1_takes l D Zk ca T G u ad _ hC 41  (by omega)) m_762 rfl (by decide) hl.1 [] (Nat.le_of_ble_eq_true rfl) rfl dX1_takesOne_61 (fun r w1 hq H locs h => ?_)
                  obtain ⟨rfl, _, rfl, ⟨rfl, b11⟩ | ⟨rfl, b11⟩⟩ := hq
                  · show W p l e r_c_X1_takesOne_7 s m args below meth c _ _ 0 0 Qf (F0 m 64 ls [.int (iI 1)])
                    refine x_if_eq B (by omega) (tgt := 71) dX1_takesOne_64 (by decide) (fun c12 => ?_) (fun c12 => ?_)
                    · exact absurd c12 (by omega)
                    · refine x_iconst B dX1_takesOne_67 ?_
                      refine lv_goto (tgt := 81) B.1 B.2.1 dX1_takesOne_68 (by decide) ?_
                      exact join81 1 (by omega) _ _ _ h (lv_sub hl [0, 3, 4] rfl)
                  · show W p l e r_c_X1_takesOne_7 s m args below meth c _ _ 0 0 Qf (F0 m 64 ls [.int (iI 0)])
                    refine x_if_eq B (by omega) (tgt := 71) dX1_takesOne_64 (by decide) (fun c13 => ?_) (fun c13 => ?_)
                    · refine x_iconst B dX1_takesOne_71 ?_
                      refine lv_goto (tgt := 81) B.1 B.2.1 dX1_takesOne_72 (by decide) ?_
                      exact join81 0 (by omega) _ _ _ h (lv_sub hl [0, 3, 4] rfl)
                    · exact absurd c13 (by omega)
              · show W p l e r_c_X1_takesOne_7 s m args below meth c _ _ 0 0 Qf (F0 m 54 ls [.int (iI 0)])
                refine x_if_eq B (by omega) (tgt := 71) dX1_takesOne_54 (by decide) (fun c14 => ?_) (fun c14 => ?_)
                · refine x_iconst B dX1_takesOne_71 ?_
                  refine lv_goto (tgt := 81) B.1 B.2.1 dX1_takesOne_72 (by decide) ?_
                  exact join81 0 (by omega) _ _ _ h (lv_sub hl [0, 3, 4] rfl)
                · exact absurd c14 (by omega)
          · show W p l e r_c_X1_takesOne_7 s m args below meth c _ _ 0 0 Qf (F0 m 41 ls [.int (iI 0)])
            refine x_if_eq B (by omega) (tgt := 75) dX1_takesOne_41 (by decide) (fun c15 => ?_) (fun c15 => ?_)
            · refine lv_aload_n B.1 B.2.1 dX1_takesOne_75 rfl (lv_at hl 1 rfl) ?_
              refine lv_aload_n B.1 B.2.1 dX1_takesOne_76 rfl (lv_at hl 2 rfl) ?_
              refine lv_aload_n B.1 B.2.1 dX1_takesOne_77 rfl (lv_at hl 3 rfl) ?_
              refine y_cV B h kX1 26 (CW.f hC 26 _ rfl) k_X1_takesComparison rfl (c_X1_takesComparison l D Zk ca T G u ad _ hC j  (by omega)) m_782 rfl (by decide) hl.1 [] (Nat.le_of_ble_eq_true rfl) rfl dX1_takesOne_78 (fun r w1 hq H locs h => ?_)
              obtain ⟨rfl, _, rfl, ⟨rfl, b16⟩ | ⟨rfl, b16⟩⟩ := hq
              · show W p l e r_c_X1_takesOne_7 s m args below meth c _ _ 0 0 Qf (F0 m 81 ls [.int (iI 1)])
                exact join81 1 (by omega) _ _ _ h (lv_sub hl [0, 3, 4] rfl)
              · show W p l e r_c_X1_takesOne_7 s m args below meth c _ _ 0 0 Qf (F0 m 81 ls [.int (iI 0)])
                exact join81 0 (by omega) _ _ _ h (lv_sub hl [0, 3, 4] rfl)
            · exact absurd c15 (by omega)
      · refine lv_aload_n B.1 B.2.1 dX1_takesOne_10 rfl (lv_at hl 1 rfl) ?_
        refine lv_aload_n B.1 B.2.1 dX1_takesOne_11 rfl (lv_at hl 2 rfl) ?_
        refine x_sipush B (by decide) dX1_takesOne_12 ?_
        refine y_cV B h kX1 26 (CW.f hC 26 _ rfl) k_X1_takes rfl (c_X1_takes l D Zk ca T G u ad _ hC 229  (by omega)) m_762 rfl (by decide) hl.1 [] (Nat.le_of_ble_eq_true rfl) rfl dX1_takesOne_15 (fun r w1 hq H locs h => ?_)
        obtain ⟨rfl, _, rfl, ⟨rfl, b17⟩ | ⟨rfl, b17⟩⟩ := hq
        · show W p l e r_c_X1_takesOne_7 s m args below meth c _ _ 0 0 Qf (F0 m 18 ls [.int (iI 1)])
          refine x_if_eq B (by omega) (tgt := 27) dX1_takesOne_18 (by decide) (fun c18 => ?_) (fun c18 => ?_)
          · exact absurd c18 (by omega)
          · refine lv_iinc (v := iI (ins + 1)) (lv' := [(4, .int (iI (ins + 1))), (0, .ref (ad 26)), (1, .ref (ad 20)), (2, .ref (G 6 j)), (3, .int (iI op))]) B.1 B.2.1 dX1_takesOne_21 hl (k := 0) rfl (iI_add _ _) (by decide) rfl (fun ls hl => ?_)
            refine lv_goto (tgt := 3) B.1 B.2.1 dX1_takesOne_24 (by decide) ?_
            exact ih3 ((ins + 1)) (by omega) (by omega) _ _ _ h (lv_sub hl [0, 1, 2, 3, 4] rfl)
        · show W p l e r_c_X1_takesOne_7 s m args below meth c _ _ 0 0 Qf (F0 m 18 ls [.int (iI 0)])
          refine x_if_eq B (by omega) (tgt := 27) dX1_takesOne_18 (by decide) (fun c19 => ?_) (fun c19 => ?_)
          · have join81 : ∀ (tk : Int), (tk = 0 ∨ tk = 1) → ∀ (H : Heap) (locs : List Loc) (ls : Array Slot), yH D Zk A s w H locs → lv_has ls 6 [(4, .int (iI ins)), (2, .ref (G 6 j)), (3, .int (iI op))] → W p l e r_c_X1_takesOne_7 s m args below meth c H locs 0 0 Qf (F0 m 81 ls [.int (iI tk)]) := by
              intro tk hk0 H locs ls h hl
              refine lv_istore (lv' := [(5, .int (iI tk)), (4, .int (iI ins)), (2, .ref (G 6 j)), (3, .int (iI op))]) B.1 B.2.1 dX1_takesOne_81 hl (by decide) rfl (fun ls hl => ?_)
              refine lv_iload B.1 B.2.1 dX1_takesOne_83 (lv_at hl 0 rfl) ?_
              refine x_if_eq B (by omega) (tgt := 103) dX1_takesOne_85 (by decide) (fun c20 => ?_) (fun c20 => ?_)
              · refine lv_iload B.1 B.2.1 dX1_takesOne_103 (lv_at hl 0 rfl) ?_
                refine y_rz B hQ h (by decide) (nz01 (by omega)) dX1_takesOne_105 ?_
                rcases (show tk = 1 ∨ tk = 0 by omega) with e9 | e9
                · exact ⟨rfl, _, rfl, Or.inl ⟨e9, (by first | omega | trivial | assumption)⟩⟩
                · exact ⟨rfl, _, rfl, Or.inr ⟨e9, (by first | omega | trivial | assumption)⟩⟩
              · refine lv_iload B.1 B.2.1 dX1_takesOne_88 (lv_at hl 1 rfl) ?_
                refine lv_iload_n B.1 B.2.1 dX1_takesOne_90 rfl (lv_at hl 3 rfl) ?_
                refine x_isub B dX1_takesOne_91 ?_
                refine x_iconst B dX1_takesOne_92 ?_
                refine x_irem B (by omega) dX1_takesOne_93 ?_
                refine x_iconst B dX1_takesOne_94 ?_
                refine x_icmp_ne B (by omega) (tgt := 103) dX1_takesOne_95 (by decide) (fun c21 => ?_) (fun c21 => ?_)
                · refine lv_iload B.1 B.2.1 dX1_takesOne_103 (lv_at hl 0 rfl) ?_
                  refine y_rz B hQ h (by decide) (nz01 (by omega)) dX1_takesOne_105 ?_
                  rcases (show tk = 1 ∨ tk = 0 by omega) with e9 | e9
                  · exact ⟨rfl, _, rfl, Or.inl ⟨e9, (by first | omega | trivial | assumption)⟩⟩
                  · exact ⟨rfl, _, rfl, Or.inr ⟨e9, (by first | omega | trivial | assumption)⟩⟩
                · refine lv_aload_n B.1 B.2.1 dX1_takesOne_98 rfl (lv_at hl 2 rfl) ?_
                  refine x_iconst B dX1_takesOne_99 ?_
                  refine y_cV B h kX5 (1000 + 16 * j.toNat + 6) fo1.1 k_X5_addStep rfl (c_X5_addStep l D Zk ca T G u ad _ hC j ((-1))  (by omega) (by omega)) m_793 rfl (by decide) hl.1 [] (Nat.le_of_ble_eq_true rfl) rfl dX1_takesOne_100 (fun r w1 hq H locs h => ?_)
                  obtain ⟨rfl, rfl⟩ := hq
                  show W p l e r_c_X1_takesOne_7 s m args below meth c _ _ 0 0 Qf (F0 m 103 ls [])
                  refine lv_iload B.1 B.2.1 dX1_takesOne_103 (lv_at hl 0 rfl) ?_
                  refine y_rz B hQ h (by decide) (nz01 (by omega)) dX1_takesOne_105 ?_
                  rcases (show tk = 1 ∨ tk = 0 by omega) with e9 | e9
                  · exact ⟨rfl, _, rfl, Or.inl ⟨e9, (by first | omega | trivial | assumption)⟩⟩
                  · exact ⟨rfl, _, rfl, Or.inr ⟨e9, (by first | omega | trivial | assumption)⟩⟩
            refine lv_iload B.1 B.2.1 dX1_takesOne_27 (lv_at hl 0 rfl) ?_
            refine x_bipush B (by decide) dX1_takesOne_29 ?_
            refine x_icmp_ge B (by omega) (tgt := 75) dX1_takesOne_31 (by decide) (fun c22 => ?_) (fun c22 => ?_)
            · refine lv_aload_n B.1 B.2.1 dX1_takesOne_75 rfl (lv_at hl 1 rfl) ?_
              refine lv_aload_n B.1 B.2.1 dX1_takesOne_76 rfl (lv_at hl 2 rfl) ?_
              refine lv_aload_n B.1 B.2.1 dX1_takesOne_77 rfl (lv_at hl 3 rfl) ?_
              refine y_cV B h kX1 26 (CW.f hC 26 _ rfl) k_X1_takesComparison rfl (c_X1_takesComparison l D Zk ca T G u ad _ hC j  (by omega)) m_782 rfl (by decide) hl.1 [] (Nat.le_of_ble_eq_true rfl) rfl dX1_takesOne_78 (fun r w1 hq H locs h => ?_)
              obtain ⟨rfl, _, rfl, ⟨rfl, b23⟩ | ⟨rfl, b23⟩⟩ := hq
              · show W p l e r_c_X1_takesOne_7 s m args below meth c _ _ 0 0 Qf (F0 m 81 ls [.int (iI 1)])
                exact join81 1 (by omega) _ _ _ h (lv_sub hl [0, 3, 4] rfl)
              · show W p l e r_c_X1_takesOne_7 s m args below meth c _ _ 0 0 Qf (F0 m 81 ls [.int (iI 0)])
                exact join81 0 (by omega) _ _ _ h (lv_sub hl [0, 3, 4] rfl)
            · refine lv_aload_n B.1 B.2.1 dX1_takesOne_34 rfl (lv_at hl 1 rfl) ?_
              refine lv_aload_n B.1 B.2.1 dX1_takesOne_35 rfl (lv_at hl 2 rfl) ?_
              refine x_bipush B (by decide) dX1_takesOne_36 ?_
              refine y_cV B h kX1 26 (CW.f hC 26 _ rfl) k_X1_takes rfl (c_X1_takes l D Zk ca T G u ad _ hC 40  (by omega)) m_762 rfl (by decide) hl.1 [] (Nat.le_of_ble_eq_true rfl) rfl dX1_takesOne_38 (fun r w1 hq H locs h => ?_)
              obtain ⟨rfl, _, rfl, ⟨rfl, b24⟩ | ⟨rfl, b24⟩⟩ := hq
              · show W p l e r_c_X1_takesOne_7 s m args below meth c _ _ 0 0 Qf (F0 m 41 ls [.int (iI 1)])
                refine x_if_eq B (by omega) (tgt := 75) dX1_takesOne_41 (by decide) (fun c25 => ?_) (fun c25 => ?_)
                · exact absurd c25 (by omega)
                · refine lv_aload_n B.1 B.2.1 dX1_takesOne_44 rfl (lv_at hl 1 rfl) ?_
                  refine lv_aload_n B.1 B.2.1 dX1_takesOne_45 rfl (lv_at hl 2 rfl) ?_
                  refine lv_aload_n B.1 B.2.1 dX1_takesOne_46 rfl (lv_at hl 3 rfl) ?_
                  refine lv_iload B.1 B.2.1 dX1_takesOne_47 (lv_at hl 0 rfl) ?_
                  refine x_iconst B dX1_takesOne_49 ?_
                  refine x_iadd B dX1_takesOne_50 ?_
                  refine y_cV B h kX1 26 (CW.f hC 26 _ rfl) k_X1_takesAny rfl (c_X1_takesAny_6 l D Zk ca T G u ad _ hC j ((ins + 1))  (by omega) (by omega)) m_770 rfl (by decide) hl.1 [] (Nat.le_of_ble_eq_true rfl) rfl dX1_takesOne_51 (fun r w1 hq H locs h => ?_)
                  obtain ⟨rfl, _, rfl, ⟨rfl, b26⟩ | ⟨rfl, b26⟩⟩ := hq
                  · show W p l e r_c_X1_takesOne_7 s m args below meth c _ _ 0 0 Qf (F0 m 54 ls [.int (iI 1)])
                    refine x_if_eq B (by omega) (tgt := 71) dX1_takesOne_54 (by decide) (fun c27 => ?_) (fun c27 => ?_)
                    · exact absurd c27 (by omega)
                    · refine lv_aload_n B.1 B.2.1 dX1_takesOne_57 rfl (lv_at hl 1 rfl) ?_
                      refine lv_aload_n B.1 B.2.1 dX1_takesOne_58 rfl (lv_at hl 2 rfl) ?_
                      refine x_bipush B (by decide) dX1_takesOne_59 ?_
                      refine y_cV B h kX1 26 (CW.f hC 26 _ rfl) k_X1_takes rfl (c_X1_takes l D Zk ca T G u ad _ hC 41  (by omega)) m_762 rfl (by decide) hl.1 [] (Nat.le_of_ble_eq_true rfl) rfl dX1_takesOne_61 (fun r w1 hq H locs h => ?_)
                      obtain ⟨rfl, _, rfl, ⟨rfl, b28⟩ | ⟨rfl, b28⟩⟩ := hq
                      · show W p l e r_c_X1_takesOne_7 s m args below meth c _ _ 0 0 Qf (F0 m 64 ls [.int (iI 1)])
                        refine x_if_eq B (by omega) (tgt := 71) dX1_takesOne_64 (by decide) (fun c29 => ?_) (fun c29 => ?_)
                        · exact absurd c29 (by omega)
                        · refine x_iconst B dX1_takesOne_67 ?_
                          refine lv_goto (tgt := 81) B.1 B.2.1 dX1_takesOne_68 (by decide) ?_
                          exact join81 1 (by omega) _ _ _ h (lv_sub hl [0, 3, 4] rfl)
                      · show W p l e r_c_X1_takesOne_7 s m args below meth c _ _ 0 0 Qf (F0 m 64 ls [.int (iI 0)])
                        refine x_if_eq B (by omega) (tgt := 71) dX1_takesOne_64 (by decide) (fun c30 => ?_) (fun c30 => ?_)
                        · refine x_iconst B dX1_takesOne_71 ?_
                          refine lv_goto (tgt := 81) B.1 B.2.1 dX1_takesOne_72 (by decide) ?_
                          exact join81 0 (by omega) _ _ _ h (lv_sub hl [0, 3, 4] rfl)
                        · exact absurd c30 (by omega)
                  · show W p l e r_c_X1_takesOne_7 s m args below meth c _ _ 0 0 Qf (F0 m 54 ls [.int (iI 0)])
                    refine x_if_eq B (by omega) (tgt := 71) dX1_takesOne_54 (by decide) (fun c31 => ?_) (fun c31 => ?_)
                    · refine x_iconst B dX1_takesOne_71 ?_
                      refine lv_goto (tgt := 81) B.1 B.2.1 dX1_takesOne_72 (by decide) ?_
                      exact join81 0 (by omega) _ _ _ h (lv_sub hl [0, 3, 4] rfl)
                    · exact absurd c31 (by omega)
              · show W p l e r_c_X1_takesOne_7 s m args below meth c _ _ 0 0 Qf (F0 m 41 ls [.int (iI 0)])
                refine x_if_eq B (by omega) (tgt := 75) dX1_takesOne_41 (by decide) (fun c32 => ?_) (fun c32 => ?_)
                · refine lv_aload_n B.1 B.2.1 dX1_takesOne_75 rfl (lv_at hl 1 rfl) ?_
                  refine lv_aload_n B.1 B.2.1 dX1_takesOne_76 rfl (lv_at hl 2 rfl) ?_
                  refine lv_aload_n B.1 B.2.1 dX1_takesOne_77 rfl (lv_at hl 3 rfl) ?_
                  refine y_cV B h kX1 26 (CW.f hC 26 _ rfl) k_X1_takesComparison rfl (c_X1_takesComparison l D Zk ca T G u ad _ hC j  (by omega)) m_782 rfl (by decide) hl.1 [] (Nat.le_of_ble_eq_true rfl) rfl dX1_takesOne_78 (fun r w1 hq H locs h => ?_)
                  obtain ⟨rfl, _, rfl, ⟨rfl, b33⟩ | ⟨rfl, b33⟩⟩ := hq
                  · show W p l e r_c_X1_takesOne_7 s m args below meth c _ _ 0 0 Qf (F0 m 81 ls [.int (iI 1)])
                    exact join81 1 (by omega) _ _ _ h (lv_sub hl [0, 3, 4] rfl)
                  · show W p l e r_c_X1_takesOne_7 s m args below meth c _ _ 0 0 Qf (F0 m 81 ls [.int (iI 0)])
                    exact join81 0 (by omega) _ _ _ h (lv_sub hl [0, 3, 4] rfl)
                · exact absurd c32 (by omega)
          · exact absurd c19 (by omega)
  exact loop3 (((9 - op : Int)).toNat + 1) op (by omega) (Nat.lt_succ_self _) _ _ _ h (lv_sub hl [0, 1, 2, 3, 4] rfl)
abbrev r_c_X1_takesAll_7 : Room := { frames := 24, cells := 0, slots := 0, locals := 585 }
set_option maxHeartbeats 4000000 in
set_option maxRecDepth 100000 in
theorem c_X1_takesAll_7 (l : Launch) (D : va_G) (Zk : yK) (ca : Nat → ClassId) (T : Nat → Int → Int) (G : Nat → Int → Nat) (u : Int) (ad : Nat → Nat) (w : yW) (hC : CW ca T G u ad w) (j : Int) (op : Int)  (hj : 0 ≤ j ∧ j < u) (hop : 2 ≤ op ∧ op ≤ 9) : yC l D Zk ca yX1_takesAll cX1_takesAll 5 (some .boolean) r_c_X1_takesAll_7 [.ref (ad 26), .ref (ad 20), .ref (G 6 j), .int (iI op)] w (vI w (fun z => (z = 1 ∧ (True)) ∨ (z = 0 ∧ (True)))) := by
  refine yC.of2 "WindWords$Grammar" (by decide) rfl (Nat.le_of_ble_eq_true rfl) ?_
  intro p e s m args below meth c A ls Qf B hnm h hl hQ
  have hl : lv_has ls 5 [(0, .ref (ad 26)), (1, .ref (ad 20)), (2, .ref (G 6 j)), (3, .int (iI op))] := hl
  have hs := pi_s (CW.pi hC)
  have fo1 := CW.ru hC j (by omega)
  refine lv_aload_n B.1 B.2.1 dX1_takesAll_0 rfl (lv_at hl 0 rfl) ?_
  refine lv_aload_n B.1 B.2.1 dX1_takesAll_1 rfl (lv_at hl 1 rfl) ?_
  refine lv_aload_n B.1 B.2.1 dX1_takesAll_2 rfl (lv_at hl 2 rfl) ?_
  refine lv_iload_n B.1 B.2.1 dX1_takesAll_3 rfl (lv_at hl 3 rfl) ?_
  refine y_cV B h kX1 26 (CW.f hC 26 _ rfl) k_X1_takesOne rfl (c_X1_takesOne_7 l D Zk ca T G u ad _ hC j op  (by omega) (by omega)) m_778 rfl (by decide) hl.1 [] (Nat.le_of_ble_eq_true rfl) rfl dX1_takesAll_4 (fun r w1 hq H locs h => ?_)
  obtain ⟨rfl, _, rfl, ⟨rfl, b2⟩ | ⟨rfl, b2⟩⟩ := hq
  · show W p l e r_c_X1_takesAll_7 s m args below meth c _ _ 0 0 Qf (F0 m 7 ls [.int (iI 1)])
    refine x_if_ne B (by omega) (tgt := 12) dX1_takesAll_7 (by decide) (fun c3 => ?_) (fun c3 => ?_)
    · refine x_iconst B dX1_takesAll_12 ?_
      refine lv_istore (lv' := [(4, .int (iI 0)), (0, .ref (ad 26)), (1, .ref (ad 20)), (2, .ref (G 6 j)), (3, .int (iI op))]) B.1 B.2.1 dX1_takesAll_13 hl (by decide) rfl (fun ls hl => ?_)
      have loop15 : ∀ (n15 : Nat) (i : Int), (0 ≤ i ∧ i ≤ 900) → ((900 - i : Int)).toNat < n15 → ∀ (H : Heap) (locs : List Loc) (ls : Array Slot), yH D Zk A s w H locs → lv_has ls 5 [(4, .int (iI i)), (0, .ref (ad 26)), (1, .ref (ad 20)), (2, .ref (G 6 j)), (3, .int (iI op))] → W p l e r_c_X1_takesAll_7 s m args below meth c H locs 0 0 Qf (F0 m 15 ls []) := by
        intro n15
        induction n15 with
        | zero =>
          intro i hi hm15 H locs ls h hl
          exact absurd hm15 (Nat.not_lt_zero _)
        | succ n15 ih15 =>
          intro i hi hm15 H locs ls h hl
          refine lv_iload B.1 B.2.1 dX1_takesAll_15 (lv_at hl 0 rfl) ?_
          refine lv_aload_n B.1 B.2.1 dX1_takesAll_17 rfl (lv_at hl 2 rfl) ?_
          refine y_getG B h kX9 20 (CW.f hC 20 _ rfl) 1 (lo := 0) (hi := 900) rfl m_291 (by decide) dX1_takesAll_18 (fun z4 z4a z4b => ?_)
          refine x_icmp_ge B (by omega) (tgt := 59) dX1_takesAll_21 (by decide) (fun c5 => ?_) (fun c5 => ?_)
          · refine x_iconst B dX1_takesAll_59 ?_
            refine y_rz B hQ h (by decide) (by decide) dX1_takesAll_60 ?_
            exact ⟨rfl, _, rfl, Or.inl ⟨rfl, (by first | omega | trivial | assumption)⟩⟩
          · refine lv_aload_n B.1 B.2.1 dX1_takesAll_24 rfl (lv_at hl 1 rfl) ?_
            refine lv_aload_n B.1 B.2.1 dX1_takesAll_25 rfl (lv_at hl 2 rfl) ?_
            refine x_sipush B (by decide) dX1_takesAll_26 ?_
            refine y_cV B h kX1 26 (CW.f hC 26 _ rfl) k_X1_takes rfl (c_X1_takes l D Zk ca T G u ad _ hC 227  (by omega)) m_762 rfl (by decide) hl.1 [] (Nat.le_of_ble_eq_true rfl) rfl dX1_takesAll_29 (fun r w1 hq H locs h => ?_)
            obtain ⟨rfl, _, rfl, ⟨rfl, b6⟩ | ⟨rfl, b6⟩⟩ := hq
            · show W p l e r_c_X1_takesAll_7 s m args below meth c _ _ 0 0 Qf (F0 m 32 ls [.int (iI 1)])
              refine x_if_eq B (by omega) (tgt := 59) dX1_takesAll_32 (by decide) (fun c7 => ?_) (fun c7 => ?_)
              · exact absurd c7 (by omega)
              · refine lv_aload_n B.1 B.2.1 dX1_takesAll_35 rfl (lv_at hl 1 rfl) ?_
                refine lv_aload_n B.1 B.2.1 dX1_takesAll_36 rfl (lv_at hl 2 rfl) ?_
                refine lv_aload_n B.1 B.2.1 dX1_takesAll_37 rfl (lv_at hl 3 rfl) ?_
                refine lv_iload_n B.1 B.2.1 dX1_takesAll_38 rfl (lv_at hl 4 rfl) ?_
                refine y_cV B h kX1 26 (CW.f hC 26 _ rfl) k_X1_takesOne rfl (c_X1_takesOne_7 l D Zk ca T G u ad _ hC j op  (by omega) (by omega)) m_778 rfl (by decide) hl.1 [] (Nat.le_of_ble_eq_true rfl) rfl dX1_takesAll_39 (fun r w1 hq H locs h => ?_)
                obtain ⟨rfl, _, rfl, ⟨rfl, b8⟩ | ⟨rfl, b8⟩⟩ := hq
                · show W p l e r_c_X1_takesAll_7 s m args below meth c _ _ 0 0 Qf (F0 m 42 ls [.int (iI 1)])
                  refine x_if_ne B (by omega) (tgt := 47) dX1_takesAll_42 (by decide) (fun c9 => ?_) (fun c9 => ?_)
                  · refine lv_aload_n B.1 B.2.1 dX1_takesAll_47 rfl (lv_at hl 3 rfl) ?_
                    refine x_bipush B (by decide) dX1_takesAll_48 ?_
                    refine y_cV B h kX5 (1000 + 16 * j.toNat + 6) fo1.1 k_X5_addStep rfl (c_X5_addStep l D Zk ca T G u ad _ hC j ((-2))  (by omega) (by omega)) m_793 rfl (by decide) hl.1 [] (Nat.le_of_ble_eq_true rfl) rfl dX1_takesAll_50 (fun r w1 hq H locs h => ?_)
                    obtain ⟨rfl, rfl⟩ := hq
                    show W p l e r_c_X1_takesAll_7 s m args below meth c _ _ 0 0 Qf (F0 m 53 ls [])
                    refine lv_iinc (v := iI (i + 1)) (lv' := [(4, .int (iI (i + 1))), (0, .ref (ad 26)), (1, .ref (ad 20)), (2, .ref (G 6 j)), (3, .int (iI op))]) B.1 B.2.1 dX1_takesAll_53 hl (k := 0) rfl (iI_add _ _) (by decide) rfl (fun ls hl => ?_)
                    refine lv_goto (tgt := 15) B.1 B.2.1 dX1_takesAll_56 (by decide) ?_
                    exact ih15 ((i + 1)) (by omega) (by omega) _ _ _ h (lv_sub hl [0, 1, 2, 3, 4] rfl)
                  · exact absurd c9 (by omega)
                · show W p l e r_c_X1_takesAll_7 s m args below meth c _ _ 0 0 Qf (F0 m 42 ls [.int (iI 0)])
                  refine x_if_ne B (by omega) (tgt := 47) dX1_takesAll_42 (by decide) (fun c10 => ?_) (fun c10 => ?_)
                  · exact absurd c10 (by omega)
                  · refine x_iconst B dX1_takesAll_45 ?_
                    refine y_rz B hQ h (by decide) (by decide) dX1_takesAll_46 ?_
                    exact ⟨rfl, _, rfl, Or.inr ⟨rfl, (by first | omega | trivial | assumption)⟩⟩
            · show W p l e r_c_X1_takesAll_7 s m args below meth c _ _ 0 0 Qf (F0 m 32 ls [.int (iI 0)])
              refine x_if_eq B (by omega) (tgt := 59) dX1_takesAll_32 (by decide) (fun c11 => ?_) (fun c11 => ?_)
              · refine x_iconst B dX1_takesAll_59 ?_
                refine y_rz B hQ h (by decide) (by decide) dX1_takesAll_60 ?_
                exact ⟨rfl, _, rfl, Or.inl ⟨rfl, (by first | omega | trivial | assumption)⟩⟩
              · exact absurd c11 (by omega)
      exact loop15 (((900 - 0 : Int)).toNat + 1) 0 (by omega) (Nat.lt_succ_self _) _ _ _ h (lv_sub hl [0, 1, 2, 3, 4] rfl)
    · exact absurd c3 (by omega)
  · show W p l e r_c_X1_takesAll_7 s m args below meth c _ _ 0 0 Qf (F0 m 7 ls [.int (iI 0)])
    refine x_if_ne B (by omega) (tgt := 12) dX1_takesAll_7 (by decide) (fun c12 => ?_) (fun c12 => ?_)
    · exact absurd c12 (by omega)
    · refine x_iconst B dX1_takesAll_10 ?_
      refine y_rz B hQ h (by decide) (by decide) dX1_takesAll_11 ?_
      exact ⟨rfl, _, rfl, Or.inr ⟨rfl, (by first | omega | trivial | assumption)⟩⟩
abbrev r_c_X1_takesAny_7 : Room := { frames := 25, cells := 0, slots := 0, locals := 609 }
set_option maxHeartbeats 4000000 in
set_option maxRecDepth 100000 in
theorem c_X1_takesAny_7 (l : Launch) (D : va_G) (Zk : yK) (ca : Nat → ClassId) (T : Nat → Int → Int) (G : Nat → Int → Nat) (u : Int) (ad : Nat → Nat) (w : yW) (hC : CW ca T G u ad w) (j : Int) (op : Int)  (hj : 0 ≤ j ∧ j < u) (hop : 2 ≤ op ∧ op ≤ 9) : yC l D Zk ca yX1_takesAny cX1_takesAny 5 (some .boolean) r_c_X1_takesAny_7 [.ref (ad 26), .ref (ad 20), .ref (G 6 j), .int (iI op)] w (vI w (fun z => (z = 1 ∧ (True)) ∨ (z = 0 ∧ (True)))) := by
  refine yC.of2 "WindWords$Grammar" (by decide) rfl (Nat.le_of_ble_eq_true rfl) ?_
  intro p e s m args below meth c A ls Qf B hnm h hl hQ
  have hl : lv_has ls 5 [(0, .ref (ad 26)), (1, .ref (ad 20)), (2, .ref (G 6 j)), (3, .int (iI op))] := hl
  have hs := pi_s (CW.pi hC)
  have fo1 := CW.ru hC j (by omega)
  refine lv_aload_n B.1 B.2.1 dX1_takesAny_0 rfl (lv_at hl 0 rfl) ?_
  refine lv_aload_n B.1 B.2.1 dX1_takesAny_1 rfl (lv_at hl 1 rfl) ?_
  refine lv_aload_n B.1 B.2.1 dX1_takesAny_2 rfl (lv_at hl 2 rfl) ?_
  refine lv_iload_n B.1 B.2.1 dX1_takesAny_3 rfl (lv_at hl 3 rfl) ?_
  refine y_cV B h kX1 26 (CW.f hC 26 _ rfl) k_X1_takesAll rfl (c_X1_takesAll_7 l D Zk ca T G u ad _ hC j op  (by omega) (by omega)) m_774 rfl (by decide) hl.1 [] (Nat.le_of_ble_eq_true rfl) rfl dX1_takesAny_4 (fun r w1 hq H locs h => ?_)
  obtain ⟨rfl, _, rfl, ⟨rfl, b2⟩ | ⟨rfl, b2⟩⟩ := hq
  · show W p l e r_c_X1_takesAny_7 s m args below meth c _ _ 0 0 Qf (F0 m 7 ls [.int (iI 1)])
    refine x_if_ne B (by omega) (tgt := 12) dX1_takesAny_7 (by decide) (fun c3 => ?_) (fun c3 => ?_)
    · refine x_iconst B dX1_takesAny_12 ?_
      refine lv_istore (lv' := [(4, .int (iI 0)), (0, .ref (ad 26)), (1, .ref (ad 20)), (2, .ref (G 6 j)), (3, .int (iI op))]) B.1 B.2.1 dX1_takesAny_13 hl (by decide) rfl (fun ls hl => ?_)
      have loop15 : ∀ (n15 : Nat) (i : Int), (0 ≤ i ∧ i ≤ 900) → ((900 - i : Int)).toNat < n15 → ∀ (H : Heap) (locs : List Loc) (ls : Array Slot), yH D Zk A s w H locs → lv_has ls 5 [(4, .int (iI i)), (0, .ref (ad 26)), (1, .ref (ad 20)), (2, .ref (G 6 j)), (3, .int (iI op))] → W p l e r_c_X1_takesAny_7 s m args below meth c H locs 0 0 Qf (F0 m 15 ls []) := by
        intro n15
        induction n15 with
        | zero =>
          intro i hi hm15 H locs ls h hl
          exact absurd hm15 (Nat.not_lt_zero _)
        | succ n15 ih15 =>
          intro i hi hm15 H locs ls h hl
          refine lv_iload B.1 B.2.1 dX1_takesAny_15 (lv_at hl 0 rfl) ?_
          refine lv_aload_n B.1 B.2.1 dX1_takesAny_17 rfl (lv_at hl 2 rfl) ?_
          refine y_getG B h kX9 20 (CW.f hC 20 _ rfl) 1 (lo := 0) (hi := 900) rfl m_291 (by decide) dX1_takesAny_18 (fun z4 z4a z4b => ?_)
          refine x_icmp_ge B (by omega) (tgt := 59) dX1_takesAny_21 (by decide) (fun c5 => ?_) (fun c5 => ?_)
          · refine x_iconst B dX1_takesAny_59 ?_
            refine y_rz B hQ h (by decide) (by decide) dX1_takesAny_60 ?_
            exact ⟨rfl, _, rfl, Or.inl ⟨rfl, (by first | omega | trivial | assumption)⟩⟩
          · refine lv_aload_n B.1 B.2.1 dX1_takesAny_24 rfl (lv_at hl 1 rfl) ?_
            refine lv_aload_n B.1 B.2.1 dX1_takesAny_25 rfl (lv_at hl 2 rfl) ?_
            refine x_sipush B (by decide) dX1_takesAny_26 ?_
            refine y_cV B h kX1 26 (CW.f hC 26 _ rfl) k_X1_takes rfl (c_X1_takes l D Zk ca T G u ad _ hC 228  (by omega)) m_762 rfl (by decide) hl.1 [] (Nat.le_of_ble_eq_true rfl) rfl dX1_takesAny_29 (fun r w1 hq H locs h => ?_)
            obtain ⟨rfl, _, rfl, ⟨rfl, b6⟩ | ⟨rfl, b6⟩⟩ := hq
            · show W p l e r_c_X1_takesAny_7 s m args below meth c _ _ 0 0 Qf (F0 m 32 ls [.int (iI 1)])
              refine x_if_eq B (by omega) (tgt := 59) dX1_takesAny_32 (by decide) (fun c7 => ?_) (fun c7 => ?_)
              · exact absurd c7 (by omega)
              · refine lv_aload_n B.1 B.2.1 dX1_takesAny_35 rfl (lv_at hl 1 rfl) ?_
                refine lv_aload_n B.1 B.2.1 dX1_takesAny_36 rfl (lv_at hl 2 rfl) ?_
                refine lv_aload_n B.1 B.2.1 dX1_takesAny_37 rfl (lv_at hl 3 rfl) ?_
                refine lv_iload_n B.1 B.2.1 dX1_takesAny_38 rfl (lv_at hl 4 rfl) ?_
                refine y_cV B h kX1 26 (CW.f hC 26 _ rfl) k_X1_takesAll rfl (c_X1_takesAll_7 l D Zk ca T G u ad _ hC j op  (by omega) (by omega)) m_774 rfl (by decide) hl.1 [] (Nat.le_of_ble_eq_true rfl) rfl dX1_takesAny_39 (fun r w1 hq H locs h => ?_)
                obtain ⟨rfl, _, rfl, ⟨rfl, b8⟩ | ⟨rfl, b8⟩⟩ := hq
                · show W p l e r_c_X1_takesAny_7 s m args below meth c _ _ 0 0 Qf (F0 m 42 ls [.int (iI 1)])
                  refine x_if_ne B (by omega) (tgt := 47) dX1_takesAny_42 (by decide) (fun c9 => ?_) (fun c9 => ?_)
                  · refine lv_aload_n B.1 B.2.1 dX1_takesAny_47 rfl (lv_at hl 3 rfl) ?_
                    refine x_bipush B (by decide) dX1_takesAny_48 ?_
                    refine y_cV B h kX5 (1000 + 16 * j.toNat + 6) fo1.1 k_X5_addStep rfl (c_X5_addStep l D Zk ca T G u ad _ hC j ((-3))  (by omega) (by omega)) m_793 rfl (by decide) hl.1 [] (Nat.le_of_ble_eq_true rfl) rfl dX1_takesAny_50 (fun r w1 hq H locs h => ?_)
                    obtain ⟨rfl, rfl⟩ := hq
                    show W p l e r_c_X1_takesAny_7 s m args below meth c _ _ 0 0 Qf (F0 m 53 ls [])
                    refine lv_iinc (v := iI (i + 1)) (lv' := [(4, .int (iI (i + 1))), (0, .ref (ad 26)), (1, .ref (ad 20)), (2, .ref (G 6 j)), (3, .int (iI op))]) B.1 B.2.1 dX1_takesAny_53 hl (k := 0) rfl (iI_add _ _) (by decide) rfl (fun ls hl => ?_)
                    refine lv_goto (tgt := 15) B.1 B.2.1 dX1_takesAny_56 (by decide) ?_
                    exact ih15 ((i + 1)) (by omega) (by omega) _ _ _ h (lv_sub hl [0, 1, 2, 3, 4] rfl)
                  · exact absurd c9 (by omega)
                · show W p l e r_c_X1_takesAny_7 s m args below meth c _ _ 0 0 Qf (F0 m 42 ls [.int (iI 0)])
                  refine x_if_ne B (by omega) (tgt := 47) dX1_takesAny_42 (by decide) (fun c10 => ?_) (fun c10 => ?_)
                  · exact absurd c10 (by omega)
                  · refine x_iconst B dX1_takesAny_45 ?_
                    refine y_rz B hQ h (by decide) (by decide) dX1_takesAny_46 ?_
                    exact ⟨rfl, _, rfl, Or.inr ⟨rfl, (by first | omega | trivial | assumption)⟩⟩
            · show W p l e r_c_X1_takesAny_7 s m args below meth c _ _ 0 0 Qf (F0 m 32 ls [.int (iI 0)])
              refine x_if_eq B (by omega) (tgt := 59) dX1_takesAny_32 (by decide) (fun c11 => ?_) (fun c11 => ?_)
              · refine x_iconst B dX1_takesAny_59 ?_
                refine y_rz B hQ h (by decide) (by decide) dX1_takesAny_60 ?_
                exact ⟨rfl, _, rfl, Or.inl ⟨rfl, (by first | omega | trivial | assumption)⟩⟩
              · exact absurd c11 (by omega)
      exact loop15 (((900 - 0 : Int)).toNat + 1) 0 (by omega) (Nat.lt_succ_self _) _ _ _ h (lv_sub hl [0, 1, 2, 3, 4] rfl)
    · exact absurd c3 (by omega)
  · show W p l e r_c_X1_takesAny_7 s m args below meth c _ _ 0 0 Qf (F0 m 7 ls [.int (iI 0)])
    refine x_if_ne B (by omega) (tgt := 12) dX1_takesAny_7 (by decide) (fun c12 => ?_) (fun c12 => ?_)
    · exact absurd c12 (by omega)
    · refine x_iconst B dX1_takesAny_10 ?_
      refine y_rz B hQ h (by decide) (by decide) dX1_takesAny_11 ?_
      exact ⟨rfl, _, rfl, Or.inr ⟨rfl, (by first | omega | trivial | assumption)⟩⟩
abbrev r_c_X1_takesOne_8 : Room := { frames := 26, cells := 0, slots := 0, locals := 633 }
set_option maxHeartbeats 4000000 in
set_option maxRecDepth 100000 in
theorem c_X1_takesOne_8 (l : Launch) (D : va_G) (Zk : yK) (ca : Nat → ClassId) (T : Nat → Int → Int) (G : Nat → Int → Nat) (u : Int) (ad : Nat → Nat) (w : yW) (hC : CW ca T G u ad w) (j : Int) (op : Int)  (hj : 0 ≤ j ∧ j < u) (hop : 1 ≤ op ∧ op ≤ 9) : yC l D Zk ca yX1_takesOne cX1_takesOne 6 (some .boolean) r_c_X1_takesOne_8 [.ref (ad 26), .ref (ad 20), .ref (G 6 j), .int (iI op)] w (vI w (fun z => (z = 1 ∧ (True)) ∨ (z = 0 ∧ (True)))) := by
  refine yC.of2 "WindWords$Grammar" (by decide) rfl (Nat.le_of_ble_eq_true rfl) ?_
  intro p e s m args below meth c A ls Qf B hnm h hl hQ
  have hl : lv_has ls 6 [(0, .ref (ad 26)), (1, .ref (ad 20)), (2, .ref (G 6 j)), (3, .int (iI op))] := hl
  have hs := pi_s (CW.pi hC)
  have fo1 := CW.ru hC j (by omega)
  refine lv_iload_n B.1 B.2.1 dX1_takesOne_0 rfl (lv_at hl 3 rfl) ?_
  refine lv_istore (lv' := [(4, .int (iI op)), (0, .ref (ad 26)), (1, .ref (ad 20)), (2, .ref (G 6 j)), (3, .int (iI op))]) B.1 B.2.1 dX1_takesOne_1 hl (by decide) rfl (fun ls hl => ?_)
  have loop3 : ∀ (n3 : Nat) (ins : Int), (op ≤ ins ∧ ins ≤ 9) → ((9 - ins : Int)).toNat < n3 → ∀ (H : Heap) (locs : List Loc) (ls : Array Slot), yH D Zk A s w H locs → lv_has ls 6 [(4, .int (iI ins)), (0, .ref (ad 26)), (1, .ref (ad 20)), (2, .ref (G 6 j)), (3, .int (iI op))] → W p l e r_c_X1_takesOne_8 s m args below meth c H locs 0 0 Qf (F0 m 3 ls []) := by
    intro n3
    induction n3 with
    | zero =>
      intro ins hi hm3 H locs ls h hl
      exact absurd hm3 (Nat.not_lt_zero _)
    | succ n3 ih3 =>
      intro ins hi hm3 H locs ls h hl
      refine lv_iload B.1 B.2.1 dX1_takesOne_3 (lv_at hl 0 rfl) ?_
      refine x_bipush B (by decide) dX1_takesOne_5 ?_
      refine x_icmp_ge B (by omega) (tgt := 27) dX1_takesOne_7 (by decide) (fun c2 => ?_) (fun c2 => ?_)
      · have join81 : ∀ (tk : Int), (tk = 0 ∨ tk = 1) → ∀ (H : Heap) (locs : List Loc) (ls : Array Slot), yH D Zk A s w H locs → lv_has ls 6 [(4, .int (iI ins)), (2, .ref (G 6 j)), (3, .int (iI op))] → W p l e r_c_X1_takesOne_8 s m args below meth c H locs 0 0 Qf (F0 m 81 ls [.int (iI tk)]) := by
          intro tk hk0 H locs ls h hl
          refine lv_istore (lv' := [(5, .int (iI tk)), (4, .int (iI ins)), (2, .ref (G 6 j)), (3, .int (iI op))]) B.1 B.2.1 dX1_takesOne_81 hl (by decide) rfl (fun ls hl => ?_)
          refine lv_iload B.1 B.2.1 dX1_takesOne_83 (lv_at hl 0 rfl) ?_
          refine x_if_eq B (by omega) (tgt := 103) dX1_takesOne_85 (by decide) (fun c3 => ?_) (fun c3 => ?_)
          · refine lv_iload B.1 B.2.1 dX1_takesOne_103 (lv_at hl 0 rfl) ?_
            refine y_rz B hQ h (by decide) (nz01 (by omega)) dX1_takesOne_105 ?_
            rcases (show tk = 1 ∨ tk = 0 by omega) with e9 | e9
            · exact ⟨rfl, _, rfl, Or.inl ⟨e9, (by first | omega | trivial | assumption)⟩⟩
            · exact ⟨rfl, _, rfl, Or.inr ⟨e9, (by first | omega | trivial | assumption)⟩⟩
          · refine lv_iload B.1 B.2.1 dX1_takesOne_88 (lv_at hl 1 rfl) ?_
            refine lv_iload_n B.1 B.2.1 dX1_takesOne_90 rfl (lv_at hl 3 rfl) ?_
            refine x_isub B dX1_takesOne_91 ?_
            refine x_iconst B dX1_takesOne_92 ?_
            refine x_irem B (by omega) dX1_takesOne_93 ?_
            refine x_iconst B dX1_takesOne_94 ?_
            refine x_icmp_ne B (by omega) (tgt := 103) dX1_takesOne_95 (by decide) (fun c4 => ?_) (fun c4 => ?_)
            · refine lv_iload B.1 B.2.1 dX1_takesOne_103 (lv_at hl 0 rfl) ?_
              refine y_rz B hQ h (by decide) (nz01 (by omega)) dX1_takesOne_105 ?_
              rcases (show tk = 1 ∨ tk = 0 by omega) with e9 | e9
              · exact ⟨rfl, _, rfl, Or.inl ⟨e9, (by first | omega | trivial | assumption)⟩⟩
              · exact ⟨rfl, _, rfl, Or.inr ⟨e9, (by first | omega | trivial | assumption)⟩⟩
            · refine lv_aload_n B.1 B.2.1 dX1_takesOne_98 rfl (lv_at hl 2 rfl) ?_
              refine x_iconst B dX1_takesOne_99 ?_
              refine y_cV B h kX5 (1000 + 16 * j.toNat + 6) fo1.1 k_X5_addStep rfl (c_X5_addStep l D Zk ca T G u ad _ hC j ((-1))  (by omega) (by omega)) m_793 rfl (by decide) hl.1 [] (Nat.le_of_ble_eq_true rfl) rfl dX1_takesOne_100 (fun r w1 hq H locs h => ?_)
              obtain ⟨rfl, rfl⟩ := hq
              show W p l e r_c_X1_takesOne_8 s m args below meth c _ _ 0 0 Qf (F0 m 103 ls [])
              refine lv_iload B.1 B.2.1 dX1_takesOne_103 (lv_at hl 0 rfl) ?_
              refine y_rz B hQ h (by decide) (nz01 (by omega)) dX1_takesOne_105 ?_
              rcases (show tk = 1 ∨ tk = 0 by omega) with e9 | e9
              · exact ⟨rfl, _, rfl, Or.inl ⟨e9, (by first | omega | trivial | assumption)⟩⟩
              · exact ⟨rfl, _, rfl, Or.inr ⟨e9, (by first | omega | trivial | assumption)⟩⟩
        refine lv_iload B.1 B.2.1 dX1_takesOne_27 (lv_at hl 0 rfl) ?_
        refine x_bipush B (by decide) dX1_takesOne_29 ?_
        refine x_icmp_ge B (by omega) (tgt := 75) dX1_takesOne_31 (by decide) (fun c5 => ?_) (fun c5 => ?_)
        · refine lv_aload_n B.1 B.2.1 dX1_takesOne_75 rfl (lv_at hl 1 rfl) ?_
          refine lv_aload_n B.1 B.2.1 dX1_takesOne_76 rfl (lv_at hl 2 rfl) ?_
          refine lv_aload_n B.1 B.2.1 dX1_takesOne_77 rfl (lv_at hl 3 rfl) ?_
          refine y_cV B h kX1 26 (CW.f hC 26 _ rfl) k_X1_takesComparison rfl (c_X1_takesComparison l D Zk ca T G u ad _ hC j  (by omega)) m_782 rfl (by decide) hl.1 [] (Nat.le_of_ble_eq_true rfl) rfl dX1_takesOne_78 (fun r w1 hq H locs h => ?_)
          obtain ⟨rfl, _, rfl, ⟨rfl, b6⟩ | ⟨rfl, b6⟩⟩ := hq
          · show W p l e r_c_X1_takesOne_8 s m args below meth c _ _ 0 0 Qf (F0 m 81 ls [.int (iI 1)])
            exact join81 1 (by omega) _ _ _ h (lv_sub hl [0, 3, 4] rfl)
          · show W p l e r_c_X1_takesOne_8 s m args below meth c _ _ 0 0 Qf (F0 m 81 ls [.int (iI 0)])
            exact join81 0 (by omega) _ _ _ h (lv_sub hl [0, 3, 4] rfl)
        · refine lv_aload_n B.1 B.2.1 dX1_takesOne_34 rfl (lv_at hl 1 rfl) ?_
          refine lv_aload_n B.1 B.2.1 dX1_takesOne_35 rfl (lv_at hl 2 rfl) ?_
          refine x_bipush B (by decide) dX1_takesOne_36 ?_
          refine y_cV B h kX1 26 (CW.f hC 26 _ rfl) k_X1_takes rfl (c_X1_takes l D Zk ca T G u ad _ hC 40  (by omega)) m_762 rfl (by decide) hl.1 [] (Nat.le_of_ble_eq_true rfl) rfl dX1_takesOne_38 (fun r w1 hq H locs h => ?_)
          obtain ⟨rfl, _, rfl, ⟨rfl, b7⟩ | ⟨rfl, b7⟩⟩ := hq
          · show W p l e r_c_X1_takesOne_8 s m args below meth c _ _ 0 0 Qf (F0 m 41 ls [.int (iI 1)])
            refine x_if_eq B (by omega) (tgt := 75) dX1_takesOne_41 (by decide) (fun c8 => ?_) (fun c8 => ?_)
            · exact absurd c8 (by omega)
            · refine lv_aload_n B.1 B.2.1 dX1_takesOne_44 rfl (lv_at hl 1 rfl) ?_
              refine lv_aload_n B.1 B.2.1 dX1_takesOne_45 rfl (lv_at hl 2 rfl) ?_
              refine lv_aload_n B.1 B.2.1 dX1_takesOne_46 rfl (lv_at hl 3 rfl) ?_
              refine lv_iload B.1 B.2.1 dX1_takesOne_47 (lv_at hl 0 rfl) ?_
              refine x_iconst B dX1_takesOne_49 ?_
              refine x_iadd B dX1_takesOne_50 ?_
              refine y_cV B h kX1 26 (CW.f hC 26 _ rfl) k_X1_takesAny rfl (c_X1_takesAny_7 l D Zk ca T G u ad _ hC j ((ins + 1))  (by omega) (by omega)) m_770 rfl (by decide) hl.1 [] (Nat.le_of_ble_eq_true rfl) rfl dX1_takesOne_51 (fun r w1 hq H locs h => ?_)
              obtain ⟨rfl, _, rfl, ⟨rfl, b9⟩ | ⟨rfl, b9⟩⟩ := hq
              · show W p l e r_c_X1_takesOne_8 s m args below meth c _ _ 0 0 Qf (F0 m 54 ls [.int (iI 1)])
                refine x_if_eq B (by omega) (tgt := 71) dX1_takesOne_54 (by decide) (fun c10 => ?_) (fun c10 => ?_)
                · exact absurd c10 (by omega)
                · refine lv_aload_n B.1 B.2.1 dX1_takesOne_57 rfl (lv_at hl 1 rfl) ?_
                  refine lv_aload_n B.1 B.2.1 dX1_takesOne_58 rfl (lv_at hl 2 rfl) ?_
                  refine x_bipush B (by decide) dX1_takesOne_59 ?_
                  refine y_cV B h kX1 26 (CW.f hC 26 _ rfl) k_X1_takes rfl (c_X1_takes l D Zk ca T G u ad _ hC 41  (by omega)) m_762 rfl (by decide) hl.1 [] (Nat.le_of_ble_eq_true rfl) rfl dX1_takesOne_61 (fun r w1 hq H locs h => ?_)
                  obtain ⟨rfl, _, rfl, ⟨rfl, b11⟩ | ⟨rfl, b11⟩⟩ := hq
                  · show W p l e r_c_X1_takesOne_8 s m args below meth c _ _ 0 0 Qf (F0 m 64 ls [.int (iI 1)])
                    refine x_if_eq B (by omega) (tgt := 71) dX1_takesOne_64 (by decide) (fun c12 => ?_) (fun c12 => ?_)
                    · exact absurd c12 (by omega)
                    · refine x_iconst B dX1_takesOne_67 ?_
                      refine lv_goto (tgt := 81) B.1 B.2.1 dX1_takesOne_68 (by decide) ?_
                      exact join81 1 (by omega) _ _ _ h (lv_sub hl [0, 3, 4] rfl)
                  · show W p l e r_c_X1_takesOne_8 s m args below meth c _ _ 0 0 Qf (F0 m 64 ls [.int (iI 0)])
                    refine x_if_eq B (by omega) (tgt := 71) dX1_takesOne_64 (by decide) (fun c13 => ?_) (fun c13 => ?_)
                    · refine x_iconst B dX1_takesOne_71 ?_
                      refine lv_goto (tgt := 81) B.1 B.2.1 dX1_takesOne_72 (by decide) ?_
                      exact join81 0 (by omega) _ _ _ h (lv_sub hl [0, 3, 4] rfl)
                    · exact absurd c13 (by omega)
              · show W p l e r_c_X1_takesOne_8 s m args below meth c _ _ 0 0 Qf (F0 m 54 ls [.int (iI 0)])
                refine x_if_eq B (by omega) (tgt := 71) dX1_takesOne_54 (by decide) (fun c14 => ?_) (fun c14 => ?_)
                · refine x_iconst B dX1_takesOne_71 ?_
                  refine lv_goto (tgt := 81) B.1 B.2.1 dX1_takesOne_72 (by decide) ?_
                  exact join81 0 (by omega) _ _ _ h (lv_sub hl [0, 3, 4] rfl)
                · exact absurd c14 (by omega)
          · show W p l e r_c_X1_takesOne_8 s m args below meth c _ _ 0 0 Qf (F0 m 41 ls [.int (iI 0)])
            refine x_if_eq B (by omega) (tgt := 75) dX1_takesOne_41 (by decide) (fun c15 => ?_) (fun c15 => ?_)
            · refine lv_aload_n B.1 B.2.1 dX1_takesOne_75 rfl (lv_at hl 1 rfl) ?_
              refine lv_aload_n B.1 B.2.1 dX1_takesOne_76 rfl (lv_at hl 2 rfl) ?_
              refine lv_aload_n B.1 B.2.1 dX1_takesOne_77 rfl (lv_at hl 3 rfl) ?_
              refine y_cV B h kX1 26 (CW.f hC 26 _ rfl) k_X1_takesComparison rfl (c_X1_takesComparison l D Zk ca T G u ad _ hC j  (by omega)) m_782 rfl (by decide) hl.1 [] (Nat.le_of_ble_eq_true rfl) rfl dX1_takesOne_78 (fun r w1 hq H locs h => ?_)
              obtain ⟨rfl, _, rfl, ⟨rfl, b16⟩ | ⟨rfl, b16⟩⟩ := hq
              · show W p l e r_c_X1_takesOne_8 s m args below meth c _ _ 0 0 Qf (F0 m 81 ls [.int (iI 1)])
                exact join81 1 (by omega) _ _ _ h (lv_sub hl [0, 3, 4] rfl)
              · show W p l e r_c_X1_takesOne_8 s m args below meth c _ _ 0 0 Qf (F0 m 81 ls [.int (iI 0)])
                exact join81 0 (by omega) _ _ _ h (lv_sub hl [0, 3, 4] rfl)
            · exact absurd c15 (by omega)
      · refine lv_aload_n B.1 B.2.1 dX1_takesOne_10 rfl (lv_at hl 1 rfl) ?_
        refine lv_aload_n B.1 B.2.1 dX1_takesOne_11 rfl (lv_at hl 2 rfl) ?_
        refine x_sipush B (by decide) dX1_takesOne_12 ?_
        refine y_cV B h kX1 26 (CW.f hC 26 _ rfl) k_X1_takes rfl (c_X1_takes l D Zk ca T G u ad _ hC 229  (by omega)) m_762 rfl (by decide) hl.1 [] (Nat.le_of_ble_eq_true rfl) rfl dX1_takesOne_15 (fun r w1 hq H locs h => ?_)
        obtain ⟨rfl, _, rfl, ⟨rfl, b17⟩ | ⟨rfl, b17⟩⟩ := hq
        · show W p l e r_c_X1_takesOne_8 s m args below meth c _ _ 0 0 Qf (F0 m 18 ls [.int (iI 1)])
          refine x_if_eq B (by omega) (tgt := 27) dX1_takesOne_18 (by decide) (fun c18 => ?_) (fun c18 => ?_)
          · exact absurd c18 (by omega)
          · refine lv_iinc (v := iI (ins + 1)) (lv' := [(4, .int (iI (ins + 1))), (0, .ref (ad 26)), (1, .ref (ad 20)), (2, .ref (G 6 j)), (3, .int (iI op))]) B.1 B.2.1 dX1_takesOne_21 hl (k := 0) rfl (iI_add _ _) (by decide) rfl (fun ls hl => ?_)
            refine lv_goto (tgt := 3) B.1 B.2.1 dX1_takesOne_24 (by decide) ?_
            exact ih3 ((ins + 1)) (by omega) (by omega) _ _ _ h (lv_sub hl [0, 1, 2, 3, 4] rfl)
        · show W p l e r_c_X1_takesOne_8 s m args below meth c _ _ 0 0 Qf (F0 m 18 ls [.int (iI 0)])
          refine x_if_eq B (by omega) (tgt := 27) dX1_takesOne_18 (by decide) (fun c19 => ?_) (fun c19 => ?_)
          · have join81 : ∀ (tk : Int), (tk = 0 ∨ tk = 1) → ∀ (H : Heap) (locs : List Loc) (ls : Array Slot), yH D Zk A s w H locs → lv_has ls 6 [(4, .int (iI ins)), (2, .ref (G 6 j)), (3, .int (iI op))] → W p l e r_c_X1_takesOne_8 s m args below meth c H locs 0 0 Qf (F0 m 81 ls [.int (iI tk)]) := by
              intro tk hk0 H locs ls h hl
              refine lv_istore (lv' := [(5, .int (iI tk)), (4, .int (iI ins)), (2, .ref (G 6 j)), (3, .int (iI op))]) B.1 B.2.1 dX1_takesOne_81 hl (by decide) rfl (fun ls hl => ?_)
              refine lv_iload B.1 B.2.1 dX1_takesOne_83 (lv_at hl 0 rfl) ?_
              refine x_if_eq B (by omega) (tgt := 103) dX1_takesOne_85 (by decide) (fun c20 => ?_) (fun c20 => ?_)
              · refine lv_iload B.1 B.2.1 dX1_takesOne_103 (lv_at hl 0 rfl) ?_
                refine y_rz B hQ h (by decide) (nz01 (by omega)) dX1_takesOne_105 ?_
                rcases (show tk = 1 ∨ tk = 0 by omega) with e9 | e9
                · exact ⟨rfl, _, rfl, Or.inl ⟨e9, (by first | omega | trivial | assumption)⟩⟩
                · exact ⟨rfl, _, rfl, Or.inr ⟨e9, (by first | omega | trivial | assumption)⟩⟩
              · refine lv_iload B.1 B.2.1 dX1_takesOne_88 (lv_at hl 1 rfl) ?_
                refine lv_iload_n B.1 B.2.1 dX1_takesOne_90 rfl (lv_at hl 3 rfl) ?_
                refine x_isub B dX1_takesOne_91 ?_
                refine x_iconst B dX1_takesOne_92 ?_
                refine x_irem B (by omega) dX1_takesOne_93 ?_
                refine x_iconst B dX1_takesOne_94 ?_
                refine x_icmp_ne B (by omega) (tgt := 103) dX1_takesOne_95 (by decide) (fun c21 => ?_) (fun c21 => ?_)
                · refine lv_iload B.1 B.2.1 dX1_takesOne_103 (lv_at hl 0 rfl) ?_
                  refine y_rz B hQ h (by decide) (nz01 (by omega)) dX1_takesOne_105 ?_
                  rcases (show tk = 1 ∨ tk = 0 by omega) with e9 | e9
                  · exact ⟨rfl, _, rfl, Or.inl ⟨e9, (by first | omega | trivial | assumption)⟩⟩
                  · exact ⟨rfl, _, rfl, Or.inr ⟨e9, (by first | omega | trivial | assumption)⟩⟩
                · refine lv_aload_n B.1 B.2.1 dX1_takesOne_98 rfl (lv_at hl 2 rfl) ?_
                  refine x_iconst B dX1_takesOne_99 ?_
                  refine y_cV B h kX5 (1000 + 16 * j.toNat + 6) fo1.1 k_X5_addStep rfl (c_X5_addStep l D Zk ca T G u ad _ hC j ((-1))  (by omega) (by omega)) m_793 rfl (by decide) hl.1 [] (Nat.le_of_ble_eq_true rfl) rfl dX1_takesOne_100 (fun r w1 hq H locs h => ?_)
                  obtain ⟨rfl, rfl⟩ := hq
                  show W p l e r_c_X1_takesOne_8 s m args below meth c _ _ 0 0 Qf (F0 m 103 ls [])
                  refine lv_iload B.1 B.2.1 dX1_takesOne_103 (lv_at hl 0 rfl) ?_
                  refine y_rz B hQ h (by decide) (nz01 (by omega)) dX1_takesOne_105 ?_
                  rcases (show tk = 1 ∨ tk = 0 by omega) with e9 | e9
                  · exact ⟨rfl, _, rfl, Or.inl ⟨e9, (by first | omega | trivial | assumption)⟩⟩
                  · exact ⟨rfl, _, rfl, Or.inr ⟨e9, (by first | omega | trivial | assumption)⟩⟩
            refine lv_iload B.1 B.2.1 dX1_takesOne_27 (lv_at hl 0 rfl) ?_
            refine x_bipush B (by decide) dX1_takesOne_29 ?_
            refine x_icmp_ge B (by omega) (tgt := 75) dX1_takesOne_31 (by decide) (fun c22 => ?_) (fun c22 => ?_)
            · refine lv_aload_n B.1 B.2.1 dX1_takesOne_75 rfl (lv_at hl 1 rfl) ?_
              refine lv_aload_n B.1 B.2.1 dX1_takesOne_76 rfl (lv_at hl 2 rfl) ?_
              refine lv_aload_n B.1 B.2.1 dX1_takesOne_77 rfl (lv_at hl 3 rfl) ?_
              refine y_cV B h kX1 26 (CW.f hC 26 _ rfl) k_X1_takesComparison rfl (c_X1_takesComparison l D Zk ca T G u ad _ hC j  (by omega)) m_782 rfl (by decide) hl.1 [] (Nat.le_of_ble_eq_true rfl) rfl dX1_takesOne_78 (fun r w1 hq H locs h => ?_)
              obtain ⟨rfl, _, rfl, ⟨rfl, b23⟩ | ⟨rfl, b23⟩⟩ := hq
              · show W p l e r_c_X1_takesOne_8 s m args below meth c _ _ 0 0 Qf (F0 m 81 ls [.int (iI 1)])
                exact join81 1 (by omega) _ _ _ h (lv_sub hl [0, 3, 4] rfl)
              · show W p l e r_c_X1_takesOne_8 s m args below meth c _ _ 0 0 Qf (F0 m 81 ls [.int (iI 0)])
                exact join81 0 (by omega) _ _ _ h (lv_sub hl [0, 3, 4] rfl)
            · refine lv_aload_n B.1 B.2.1 dX1_takesOne_34 rfl (lv_at hl 1 rfl) ?_
              refine lv_aload_n B.1 B.2.1 dX1_takesOne_35 rfl (lv_at hl 2 rfl) ?_
              refine x_bipush B (by decide) dX1_takesOne_36 ?_
              refine y_cV B h kX1 26 (CW.f hC 26 _ rfl) k_X1_takes rfl (c_X1_takes l D Zk ca T G u ad _ hC 40  (by omega)) m_762 rfl (by decide) hl.1 [] (Nat.le_of_ble_eq_true rfl) rfl dX1_takesOne_38 (fun r w1 hq H locs h => ?_)
              obtain ⟨rfl, _, rfl, ⟨rfl, b24⟩ | ⟨rfl, b24⟩⟩ := hq
              · show W p l e r_c_X1_takesOne_8 s m args below meth c _ _ 0 0 Qf (F0 m 41 ls [.int (iI 1)])
                refine x_if_eq B (by omega) (tgt := 75) dX1_takesOne_41 (by decide) (fun c25 => ?_) (fun c25 => ?_)
                · exact absurd c25 (by omega)
                · refine lv_aload_n B.1 B.2.1 dX1_takesOne_44 rfl (lv_at hl 1 rfl) ?_
                  refine lv_aload_n B.1 B.2.1 dX1_takesOne_45 rfl (lv_at hl 2 rfl) ?_
                  refine lv_aload_n B.1 B.2.1 dX1_takesOne_46 rfl (lv_at hl 3 rfl) ?_
                  refine lv_iload B.1 B.2.1 dX1_takesOne_47 (lv_at hl 0 rfl) ?_
                  refine x_iconst B dX1_takesOne_49 ?_
                  refine x_iadd B dX1_takesOne_50 ?_
                  refine y_cV B h kX1 26 (CW.f hC 26 _ rfl) k_X1_takesAny rfl (c_X1_takesAny_7 l D Zk ca T G u ad _ hC j ((ins + 1))  (by omega) (by omega)) m_770 rfl (by decide) hl.1 [] (Nat.le_of_ble_eq_true rfl) rfl dX1_takesOne_51 (fun r w1 hq H locs h => ?_)
                  obtain ⟨rfl, _, rfl, ⟨rfl, b26⟩ | ⟨rfl, b26⟩⟩ := hq
                  · show W p l e r_c_X1_takesOne_8 s m args below meth c _ _ 0 0 Qf (F0 m 54 ls [.int (iI 1)])
                    refine x_if_eq B (by omega) (tgt := 71) dX1_takesOne_54 (by decide) (fun c27 => ?_) (fun c27 => ?_)
                    · exact absurd c27 (by omega)
                    · refine lv_aload_n B.1 B.2.1 dX1_takesOne_57 rfl (lv_at hl 1 rfl) ?_
                      refine lv_aload_n B.1 B.2.1 dX1_takesOne_58 rfl (lv_at hl 2 rfl) ?_
                      refine x_bipush B (by decide) dX1_takesOne_59 ?_
                      refine y_cV B h kX1 26 (CW.f hC 26 _ rfl) k_X1_takes rfl (c_X1_takes l D Zk ca T G u ad _ hC 41  (by omega)) m_762 rfl (by decide) hl.1 [] (Nat.le_of_ble_eq_true rfl) rfl dX1_takesOne_61 (fun r w1 hq H locs h => ?_)
                      obtain ⟨rfl, _, rfl, ⟨rfl, b28⟩ | ⟨rfl, b28⟩⟩ := hq
                      · show W p l e r_c_X1_takesOne_8 s m args below meth c _ _ 0 0 Qf (F0 m 64 ls [.int (iI 1)])
                        refine x_if_eq B (by omega) (tgt := 71) dX1_takesOne_64 (by decide) (fun c29 => ?_) (fun c29 => ?_)
                        · exact absurd c29 (by omega)
                        · refine x_iconst B dX1_takesOne_67 ?_
                          refine lv_goto (tgt := 81) B.1 B.2.1 dX1_takesOne_68 (by decide) ?_
                          exact join81 1 (by omega) _ _ _ h (lv_sub hl [0, 3, 4] rfl)
                      · show W p l e r_c_X1_takesOne_8 s m args below meth c _ _ 0 0 Qf (F0 m 64 ls [.int (iI 0)])
                        refine x_if_eq B (by omega) (tgt := 71) dX1_takesOne_64 (by decide) (fun c30 => ?_) (fun c30 => ?_)
                        · refine x_iconst B dX1_takesOne_71 ?_
                          refine lv_goto (tgt := 81) B.1 B.2.1 dX1_takesOne_72 (by decide) ?_
                          exact join81 0 (by omega) _ _ _ h (lv_sub hl [0, 3, 4] rfl)
                        · exact absurd c30 (by omega)
                  · show W p l e r_c_X1_takesOne_8 s m args below meth c _ _ 0 0 Qf (F0 m 54 ls [.int (iI 0)])
                    refine x_if_eq B (by omega) (tgt := 71) dX1_takesOne_54 (by decide) (fun c31 => ?_) (fun c31 => ?_)
                    · refine x_iconst B dX1_takesOne_71 ?_
                      refine lv_goto (tgt := 81) B.1 B.2.1 dX1_takesOne_72 (by decide) ?_
                      exact join81 0 (by omega) _ _ _ h (lv_sub hl [0, 3, 4] rfl)
                    · exact absurd c31 (by omega)
              · show W p l e r_c_X1_takesOne_8 s m args below meth c _ _ 0 0 Qf (F0 m 41 ls [.int (iI 0)])
                refine x_if_eq B (by omega) (tgt := 75) dX1_takesOne_41 (by decide) (fun c32 => ?_) (fun c32 => ?_)
                · refine lv_aload_n B.1 B.2.1 dX1_takesOne_75 rfl (lv_at hl 1 rfl) ?_
                  refine lv_aload_n B.1 B.2.1 dX1_takesOne_76 rfl (lv_at hl 2 rfl) ?_
                  refine lv_aload_n B.1 B.2.1 dX1_takesOne_77 rfl (lv_at hl 3 rfl) ?_
                  refine y_cV B h kX1 26 (CW.f hC 26 _ rfl) k_X1_takesComparison rfl (c_X1_takesComparison l D Zk ca T G u ad _ hC j  (by omega)) m_782 rfl (by decide) hl.1 [] (Nat.le_of_ble_eq_true rfl) rfl dX1_takesOne_78 (fun r w1 hq H locs h => ?_)
                  obtain ⟨rfl, _, rfl, ⟨rfl, b33⟩ | ⟨rfl, b33⟩⟩ := hq
                  · show W p l e r_c_X1_takesOne_8 s m args below meth c _ _ 0 0 Qf (F0 m 81 ls [.int (iI 1)])
                    exact join81 1 (by omega) _ _ _ h (lv_sub hl [0, 3, 4] rfl)
                  · show W p l e r_c_X1_takesOne_8 s m args below meth c _ _ 0 0 Qf (F0 m 81 ls [.int (iI 0)])
                    exact join81 0 (by omega) _ _ _ h (lv_sub hl [0, 3, 4] rfl)
                · exact absurd c32 (by omega)
          · exact absurd c19 (by omega)
  exact loop3 (((9 - op : Int)).toNat + 1) op (by omega) (Nat.lt_succ_self _) _ _ _ h (lv_sub hl [0, 1, 2, 3, 4] rfl)
abbrev r_c_X1_takesAll_8 : Room := { frames := 27, cells := 0, slots := 0, locals := 658 }
set_option maxHeartbeats 4000000 in
set_option maxRecDepth 100000 in
theorem c_X1_takesAll_8 (l : Launch) (D : va_G) (Zk : yK) (ca : Nat → ClassId) (T : Nat → Int → Int) (G : Nat → Int → Nat) (u : Int) (ad : Nat → Nat) (w : yW) (hC : CW ca T G u ad w) (j : Int) (op : Int)  (hj : 0 ≤ j ∧ j < u) (hop : 1 ≤ op ∧ op ≤ 9) : yC l D Zk ca yX1_takesAll cX1_takesAll 5 (some .boolean) r_c_X1_takesAll_8 [.ref (ad 26), .ref (ad 20), .ref (G 6 j), .int (iI op)] w (vI w (fun z => (z = 1 ∧ (True)) ∨ (z = 0 ∧ (True)))) := by
  refine yC.of2 "WindWords$Grammar" (by decide) rfl (Nat.le_of_ble_eq_true rfl) ?_
  intro p e s m args below meth c A ls Qf B hnm h hl hQ
  have hl : lv_has ls 5 [(0, .ref (ad 26)), (1, .ref (ad 20)), (2, .ref (G 6 j)), (3, .int (iI op))] := hl
  have hs := pi_s (CW.pi hC)
  have fo1 := CW.ru hC j (by omega)
  refine lv_aload_n B.1 B.2.1 dX1_takesAll_0 rfl (lv_at hl 0 rfl) ?_
  refine lv_aload_n B.1 B.2.1 dX1_takesAll_1 rfl (lv_at hl 1 rfl) ?_
  refine lv_aload_n B.1 B.2.1 dX1_takesAll_2 rfl (lv_at hl 2 rfl) ?_
  refine lv_iload_n B.1 B.2.1 dX1_takesAll_3 rfl (lv_at hl 3 rfl) ?_
  refine y_cV B h kX1 26 (CW.f hC 26 _ rfl) k_X1_takesOne rfl (c_X1_takesOne_8 l D Zk ca T G u ad _ hC j op  (by omega) (by omega)) m_778 rfl (by decide) hl.1 [] (Nat.le_of_ble_eq_true rfl) rfl dX1_takesAll_4 (fun r w1 hq H locs h => ?_)
  obtain ⟨rfl, _, rfl, ⟨rfl, b2⟩ | ⟨rfl, b2⟩⟩ := hq
  · show W p l e r_c_X1_takesAll_8 s m args below meth c _ _ 0 0 Qf (F0 m 7 ls [.int (iI 1)])
    refine x_if_ne B (by omega) (tgt := 12) dX1_takesAll_7 (by decide) (fun c3 => ?_) (fun c3 => ?_)
    · refine x_iconst B dX1_takesAll_12 ?_
      refine lv_istore (lv' := [(4, .int (iI 0)), (0, .ref (ad 26)), (1, .ref (ad 20)), (2, .ref (G 6 j)), (3, .int (iI op))]) B.1 B.2.1 dX1_takesAll_13 hl (by decide) rfl (fun ls hl => ?_)
      have loop15 : ∀ (n15 : Nat) (i : Int), (0 ≤ i ∧ i ≤ 900) → ((900 - i : Int)).toNat < n15 → ∀ (H : Heap) (locs : List Loc) (ls : Array Slot), yH D Zk A s w H locs → lv_has ls 5 [(4, .int (iI i)), (0, .ref (ad 26)), (1, .ref (ad 20)), (2, .ref (G 6 j)), (3, .int (iI op))] → W p l e r_c_X1_takesAll_8 s m args below meth c H locs 0 0 Qf (F0 m 15 ls []) := by
        intro n15
        induction n15 with
        | zero =>
          intro i hi hm15 H locs ls h hl
          exact absurd hm15 (Nat.not_lt_zero _)
        | succ n15 ih15 =>
          intro i hi hm15 H locs ls h hl
          refine lv_iload B.1 B.2.1 dX1_takesAll_15 (lv_at hl 0 rfl) ?_
          refine lv_aload_n B.1 B.2.1 dX1_takesAll_17 rfl (lv_at hl 2 rfl) ?_
          refine y_getG B h kX9 20 (CW.f hC 20 _ rfl) 1 (lo := 0) (hi := 900) rfl m_291 (by decide) dX1_takesAll_18 (fun z4 z4a z4b => ?_)
          refine x_icmp_ge B (by omega) (tgt := 59) dX1_takesAll_21 (by decide) (fun c5 => ?_) (fun c5 => ?_)
          · refine x_iconst B dX1_takesAll_59 ?_
            refine y_rz B hQ h (by decide) (by decide) dX1_takesAll_60 ?_
            exact ⟨rfl, _, rfl, Or.inl ⟨rfl, (by first | omega | trivial | assumption)⟩⟩
          · refine lv_aload_n B.1 B.2.1 dX1_takesAll_24 rfl (lv_at hl 1 rfl) ?_
            refine lv_aload_n B.1 B.2.1 dX1_takesAll_25 rfl (lv_at hl 2 rfl) ?_
            refine x_sipush B (by decide) dX1_takesAll_26 ?_
            refine y_cV B h kX1 26 (CW.f hC 26 _ rfl) k_X1_takes rfl (c_X1_takes l D Zk ca T G u ad _ hC 227  (by omega)) m_762 rfl (by decide) hl.1 [] (Nat.le_of_ble_eq_true rfl) rfl dX1_takesAll_29 (fun r w1 hq H locs h => ?_)
            obtain ⟨rfl, _, rfl, ⟨rfl, b6⟩ | ⟨rfl, b6⟩⟩ := hq
            · show W p l e r_c_X1_takesAll_8 s m args below meth c _ _ 0 0 Qf (F0 m 32 ls [.int (iI 1)])
              refine x_if_eq B (by omega) (tgt := 59) dX1_takesAll_32 (by decide) (fun c7 => ?_) (fun c7 => ?_)
              · exact absurd c7 (by omega)
              · refine lv_aload_n B.1 B.2.1 dX1_takesAll_35 rfl (lv_at hl 1 rfl) ?_
                refine lv_aload_n B.1 B.2.1 dX1_takesAll_36 rfl (lv_at hl 2 rfl) ?_
                refine lv_aload_n B.1 B.2.1 dX1_takesAll_37 rfl (lv_at hl 3 rfl) ?_
                refine lv_iload_n B.1 B.2.1 dX1_takesAll_38 rfl (lv_at hl 4 rfl) ?_
                refine y_cV B h kX1 26 (CW.f hC 26 _ rfl) k_X1_takesOne rfl (c_X1_takesOne_8 l D Zk ca T G u ad _ hC j op  (by omega) (by omega)) m_778 rfl (by decide) hl.1 [] (Nat.le_of_ble_eq_true rfl) rfl dX1_takesAll_39 (fun r w1 hq H locs h => ?_)
                obtain ⟨rfl, _, rfl, ⟨rfl, b8⟩ | ⟨rfl, b8⟩⟩ := hq
                · show W p l e r_c_X1_takesAll_8 s m args below meth c _ _ 0 0 Qf (F0 m 42 ls [.int (iI 1)])
                  refine x_if_ne B (by omega) (tgt := 47) dX1_takesAll_42 (by decide) (fun c9 => ?_) (fun c9 => ?_)
                  · refine lv_aload_n B.1 B.2.1 dX1_takesAll_47 rfl (lv_at hl 3 rfl) ?_
                    refine x_bipush B (by decide) dX1_takesAll_48 ?_
                    refine y_cV B h kX5 (1000 + 16 * j.toNat + 6) fo1.1 k_X5_addStep rfl (c_X5_addStep l D Zk ca T G u ad _ hC j ((-2))  (by omega) (by omega)) m_793 rfl (by decide) hl.1 [] (Nat.le_of_ble_eq_true rfl) rfl dX1_takesAll_50 (fun r w1 hq H locs h => ?_)
                    obtain ⟨rfl, rfl⟩ := hq
                    show W p l e r_c_X1_takesAll_8 s m args below meth c _ _ 0 0 Qf (F0 m 53 ls [])
                    refine lv_iinc (v := iI (i + 1)) (lv' := [(4, .int (iI (i + 1))), (0, .ref (ad 26)), (1, .ref (ad 20)), (2, .ref (G 6 j)), (3, .int (iI op))]) B.1 B.2.1 dX1_takesAll_53 hl (k := 0) rfl (iI_add _ _) (by decide) rfl (fun ls hl => ?_)
                    refine lv_goto (tgt := 15) B.1 B.2.1 dX1_takesAll_56 (by decide) ?_
                    exact ih15 ((i + 1)) (by omega) (by omega) _ _ _ h (lv_sub hl [0, 1, 2, 3, 4] rfl)
                  · exact absurd c9 (by omega)
                · show W p l e r_c_X1_takesAll_8 s m args below meth c _ _ 0 0 Qf (F0 m 42 ls [.int (iI 0)])
                  refine x_if_ne B (by omega) (tgt := 47) dX1_takesAll_42 (by decide) (fun c10 => ?_) (fun c10 => ?_)
                  · exact absurd c10 (by omega)
                  · refine x_iconst B dX1_takesAll_45 ?_
                    refine y_rz B hQ h (by decide) (by decide) dX1_takesAll_46 ?_
                    exact ⟨rfl, _, rfl, Or.inr ⟨rfl, (by first | omega | trivial | assumption)⟩⟩
            · show W p l e r_c_X1_takesAll_8 s m args below meth c _ _ 0 0 Qf (F0 m 32 ls [.int (iI 0)])
              refine x_if_eq B (by omega) (tgt := 59) dX1_takesAll_32 (by decide) (fun c11 => ?_) (fun c11 => ?_)
              · refine x_iconst B dX1_takesAll_59 ?_
                refine y_rz B hQ h (by decide) (by decide) dX1_takesAll_60 ?_
                exact ⟨rfl, _, rfl, Or.inl ⟨rfl, (by first | omega | trivial | assumption)⟩⟩
              · exact absurd c11 (by omega)
      exact loop15 (((900 - 0 : Int)).toNat + 1) 0 (by omega) (Nat.lt_succ_self _) _ _ _ h (lv_sub hl [0, 1, 2, 3, 4] rfl)
    · exact absurd c3 (by omega)
  · show W p l e r_c_X1_takesAll_8 s m args below meth c _ _ 0 0 Qf (F0 m 7 ls [.int (iI 0)])
    refine x_if_ne B (by omega) (tgt := 12) dX1_takesAll_7 (by decide) (fun c12 => ?_) (fun c12 => ?_)
    · exact absurd c12 (by omega)
    · refine x_iconst B dX1_takesAll_10 ?_
      refine y_rz B hQ h (by decide) (by decide) dX1_takesAll_11 ?_
      exact ⟨rfl, _, rfl, Or.inr ⟨rfl, (by first | omega | trivial | assumption)⟩⟩
abbrev r_c_X1_takesAny_8 : Room := { frames := 28, cells := 0, slots := 0, locals := 682 }
set_option maxHeartbeats 4000000 in
set_option maxRecDepth 100000 in
theorem c_X1_takesAny_8 (l : Launch) (D : va_G) (Zk : yK) (ca : Nat → ClassId) (T : Nat → Int → Int) (G : Nat → Int → Nat) (u : Int) (ad : Nat → Nat) (w : yW) (hC : CW ca T G u ad w) (j : Int) (op : Int)  (hj : 0 ≤ j ∧ j < u) (hop : 1 ≤ op ∧ op ≤ 9) : yC l D Zk ca yX1_takesAny cX1_takesAny 5 (some .boolean) r_c_X1_takesAny_8 [.ref (ad 26), .ref (ad 20), .ref (G 6 j), .int (iI op)] w (vI w (fun z => (z = 1 ∧ (True)) ∨ (z = 0 ∧ (True)))) := by
  refine yC.of2 "WindWords$Grammar" (by decide) rfl (Nat.le_of_ble_eq_true rfl) ?_
  intro p e s m args below meth c A ls Qf B hnm h hl hQ
  have hl : lv_has ls 5 [(0, .ref (ad 26)), (1, .ref (ad 20)), (2, .ref (G 6 j)), (3, .int (iI op))] := hl
  have hs := pi_s (CW.pi hC)
  have fo1 := CW.ru hC j (by omega)
  refine lv_aload_n B.1 B.2.1 dX1_takesAny_0 rfl (lv_at hl 0 rfl) ?_
  refine lv_aload_n B.1 B.2.1 dX1_takesAny_1 rfl (lv_at hl 1 rfl) ?_
  refine lv_aload_n B.1 B.2.1 dX1_takesAny_2 rfl (lv_at hl 2 rfl) ?_
  refine lv_iload_n B.1 B.2.1 dX1_takesAny_3 rfl (lv_at hl 3 rfl) ?_
  refine y_cV B h kX1 26 (CW.f hC 26 _ rfl) k_X1_takesAll rfl (c_X1_takesAll_8 l D Zk ca T G u ad _ hC j op  (by omega) (by omega)) m_774 rfl (by decide) hl.1 [] (Nat.le_of_ble_eq_true rfl) rfl dX1_takesAny_4 (fun r w1 hq H locs h => ?_)
  obtain ⟨rfl, _, rfl, ⟨rfl, b2⟩ | ⟨rfl, b2⟩⟩ := hq
  · show W p l e r_c_X1_takesAny_8 s m args below meth c _ _ 0 0 Qf (F0 m 7 ls [.int (iI 1)])
    refine x_if_ne B (by omega) (tgt := 12) dX1_takesAny_7 (by decide) (fun c3 => ?_) (fun c3 => ?_)
    · refine x_iconst B dX1_takesAny_12 ?_
      refine lv_istore (lv' := [(4, .int (iI 0)), (0, .ref (ad 26)), (1, .ref (ad 20)), (2, .ref (G 6 j)), (3, .int (iI op))]) B.1 B.2.1 dX1_takesAny_13 hl (by decide) rfl (fun ls hl => ?_)
      have loop15 : ∀ (n15 : Nat) (i : Int), (0 ≤ i ∧ i ≤ 900) → ((900 - i : Int)).toNat < n15 → ∀ (H : Heap) (locs : List Loc) (ls : Array Slot), yH D Zk A s w H locs → lv_has ls 5 [(4, .int (iI i)), (0, .ref (ad 26)), (1, .ref (ad 20)), (2, .ref (G 6 j)), (3, .int (iI op))] → W p l e r_c_X1_takesAny_8 s m args below meth c H locs 0 0 Qf (F0 m 15 ls []) := by
        intro n15
        induction n15 with
        | zero =>
          intro i hi hm15 H locs ls h hl
          exact absurd hm15 (Nat.not_lt_zero _)
        | succ n15 ih15 =>
          intro i hi hm15 H locs ls h hl
          refine lv_iload B.1 B.2.1 dX1_takesAny_15 (lv_at hl 0 rfl) ?_
          refine lv_aload_n B.1 B.2.1 dX1_takesAny_17 rfl (lv_at hl 2 rfl) ?_
          refine y_getG B h kX9 20 (CW.f hC 20 _ rfl) 1 (lo := 0) (hi := 900) rfl m_291 (by decide) dX1_takesAny_18 (fun z4 z4a z4b => ?_)
          refine x_icmp_ge B (by omega) (tgt := 59) dX1_takesAny_21 (by decide) (fun c5 => ?_) (fun c5 => ?_)
          · refine x_iconst B dX1_takesAny_59 ?_
            refine y_rz B hQ h (by decide) (by decide) dX1_takesAny_60 ?_
            exact ⟨rfl, _, rfl, Or.inl ⟨rfl, (by first | omega | trivial | assumption)⟩⟩
          · refine lv_aload_n B.1 B.2.1 dX1_takesAny_24 rfl (lv_at hl 1 rfl) ?_
            refine lv_aload_n B.1 B.2.1 dX1_takesAny_25 rfl (lv_at hl 2 rfl) ?_
            refine x_sipush B (by decide) dX1_takesAny_26 ?_
            refine y_cV B h kX1 26 (CW.f hC 26 _ rfl) k_X1_takes rfl (c_X1_takes l D Zk ca T G u ad _ hC 228  (by omega)) m_762 rfl (by decide) hl.1 [] (Nat.le_of_ble_eq_true rfl) rfl dX1_takesAny_29 (fun r w1 hq H locs h => ?_)
            obtain ⟨rfl, _, rfl, ⟨rfl, b6⟩ | ⟨rfl, b6⟩⟩ := hq
            · show W p l e r_c_X1_takesAny_8 s m args below meth c _ _ 0 0 Qf (F0 m 32 ls [.int (iI 1)])
              refine x_if_eq B (by omega) (tgt := 59) dX1_takesAny_32 (by decide) (fun c7 => ?_) (fun c7 => ?_)
              · exact absurd c7 (by omega)
              · refine lv_aload_n B.1 B.2.1 dX1_takesAny_35 rfl (lv_at hl 1 rfl) ?_
                refine lv_aload_n B.1 B.2.1 dX1_takesAny_36 rfl (lv_at hl 2 rfl) ?_
                refine lv_aload_n B.1 B.2.1 dX1_takesAny_37 rfl (lv_at hl 3 rfl) ?_
                refine lv_iload_n B.1 B.2.1 dX1_takesAny_38 rfl (lv_at hl 4 rfl) ?_
                refine y_cV B h kX1 26 (CW.f hC 26 _ rfl) k_X1_takesAll rfl (c_X1_takesAll_8 l D Zk ca T G u ad _ hC j op  (by omega) (by omega)) m_774 rfl (by decide) hl.1 [] (Nat.le_of_ble_eq_true rfl) rfl dX1_takesAny_39 (fun r w1 hq H locs h => ?_)
                obtain ⟨rfl, _, rfl, ⟨rfl, b8⟩ | ⟨rfl, b8⟩⟩ := hq
                · show W p l e r_c_X1_takesAny_8 s m args below meth c _ _ 0 0 Qf (F0 m 42 ls [.int (iI 1)])
                  refine x_if_ne B (by omega) (tgt := 47) dX1_takesAny_42 (by decide) (fun c9 => ?_) (fun c9 => ?_)
                  · refine lv_aload_n B.1 B.2.1 dX1_takesAny_47 rfl (lv_at hl 3 rfl) ?_
                    refine x_bipush B (by decide) dX1_takesAny_48 ?_
                    refine y_cV B h kX5 (1000 + 16 * j.toNat + 6) fo1.1 k_X5_addStep rfl (c_X5_addStep l D Zk ca T G u ad _ hC j ((-3))  (by omega) (by omega)) m_793 rfl (by decide) hl.1 [] (Nat.le_of_ble_eq_true rfl) rfl dX1_takesAny_50 (fun r w1 hq H locs h => ?_)
                    obtain ⟨rfl, rfl⟩ := hq
                    show W p l e r_c_X1_takesAny_8 s m args below meth c _ _ 0 0 Qf (F0 m 53 ls [])
                    refine lv_iinc (v := iI (i + 1)) (lv' := [(4, .int (iI (i + 1))), (0, .ref (ad 26)), (1, .ref (ad 20)), (2, .ref (G 6 j)), (3, .int (iI op))]) B.1 B.2.1 dX1_takesAny_53 hl (k := 0) rfl (iI_add _ _) (by decide) rfl (fun ls hl => ?_)
                    refine lv_goto (tgt := 15) B.1 B.2.1 dX1_takesAny_56 (by decide) ?_
                    exact ih15 ((i + 1)) (by omega) (by omega) _ _ _ h (lv_sub hl [0, 1, 2, 3, 4] rfl)
                  · exact absurd c9 (by omega)
                · show W p l e r_c_X1_takesAny_8 s m args below meth c _ _ 0 0 Qf (F0 m 42 ls [.int (iI 0)])
                  refine x_if_ne B (by omega) (tgt := 47) dX1_takesAny_42 (by decide) (fun c10 => ?_) (fun c10 => ?_)
                  · exact absurd c10 (by omega)
                  · refine x_iconst B dX1_takesAny_45 ?_
                    refine y_rz B hQ h (by decide) (by decide) dX1_takesAny_46 ?_
                    exact ⟨rfl, _, rfl, Or.inr ⟨rfl, (by first | omega | trivial | assumption)⟩⟩
            · show W p l e r_c_X1_takesAny_8 s m args below meth c _ _ 0 0 Qf (F0 m 32 ls [.int (iI 0)])
              refine x_if_eq B (by omega) (tgt := 59) dX1_takesAny_32 (by decide) (fun c11 => ?_) (fun c11 => ?_)
              · refine x_iconst B dX1_takesAny_59 ?_
                refine y_rz B hQ h (by decide) (by decide) dX1_takesAny_60 ?_
                exact ⟨rfl, _, rfl, Or.inl ⟨rfl, (by first | omega | trivial | assumption)⟩⟩
              · exact absurd c11 (by omega)
      exact loop15 (((900 - 0 : Int)).toNat + 1) 0 (by omega) (Nat.lt_succ_self _) _ _ _ h (lv_sub hl [0, 1, 2, 3, 4] rfl)
    · exact absurd c3 (by omega)
  · show W p l e r_c_X1_takesAny_8 s m args below meth c _ _ 0 0 Qf (F0 m 7 ls [.int (iI 0)])
    refine x_if_ne B (by omega) (tgt := 12) dX1_takesAny_7 (by decide) (fun c12 => ?_) (fun c12 => ?_)
    · exact absurd c12 (by omega)
    · refine x_iconst B dX1_takesAny_10 ?_
      refine y_rz B hQ h (by decide) (by decide) dX1_takesAny_11 ?_
      exact ⟨rfl, _, rfl, Or.inr ⟨rfl, (by first | omega | trivial | assumption)⟩⟩
abbrev r_c_X1_takesOne_9 : Room := { frames := 29, cells := 0, slots := 0, locals := 706 }
set_option maxHeartbeats 4000000 in
set_option maxRecDepth 100000 in
theorem c_X1_takesOne_9 (l : Launch) (D : va_G) (Zk : yK) (ca : Nat → ClassId) (T : Nat → Int → Int) (G : Nat → Int → Nat) (u : Int) (ad : Nat → Nat) (w : yW) (hC : CW ca T G u ad w) (j : Int) (op : Int)  (hj : 0 ≤ j ∧ j < u) (hop : 0 ≤ op ∧ op ≤ 9) : yC l D Zk ca yX1_takesOne cX1_takesOne 6 (some .boolean) r_c_X1_takesOne_9 [.ref (ad 26), .ref (ad 20), .ref (G 6 j), .int (iI op)] w (vI w (fun z => (z = 1 ∧ (True)) ∨ (z = 0 ∧ (True)))) := by
  refine yC.of2 "WindWords$Grammar" (by decide) rfl (Nat.le_of_ble_eq_true rfl) ?_
  intro p e s m args below meth c A ls Qf B hnm h hl hQ
  have hl : lv_has ls 6 [(0, .ref (ad 26)), (1, .ref (ad 20)), (2, .ref (G 6 j)), (3, .int (iI op))] := hl
  have hs := pi_s (CW.pi hC)
  have fo1 := CW.ru hC j (by omega)
  refine lv_iload_n B.1 B.2.1 dX1_takesOne_0 rfl (lv_at hl 3 rfl) ?_
  refine lv_istore (lv' := [(4, .int (iI op)), (0, .ref (ad 26)), (1, .ref (ad 20)), (2, .ref (G 6 j)), (3, .int (iI op))]) B.1 B.2.1 dX1_takesOne_1 hl (by decide) rfl (fun ls hl => ?_)
  have loop3 : ∀ (n3 : Nat) (ins : Int), (op ≤ ins ∧ ins ≤ 9) → ((9 - ins : Int)).toNat < n3 → ∀ (H : Heap) (locs : List Loc) (ls : Array Slot), yH D Zk A s w H locs → lv_has ls 6 [(4, .int (iI ins)), (0, .ref (ad 26)), (1, .ref (ad 20)), (2, .ref (G 6 j)), (3, .int (iI op))] → W p l e r_c_X1_takesOne_9 s m args below meth c H locs 0 0 Qf (F0 m 3 ls []) := by
    intro n3
    induction n3 with
    | zero =>
      intro ins hi hm3 H locs ls h hl
      exact absurd hm3 (Nat.not_lt_zero _)
    | succ n3 ih3 =>
      intro ins hi hm3 H locs ls h hl
      refine lv_iload B.1 B.2.1 dX1_takesOne_3 (lv_at hl 0 rfl) ?_
      refine x_bipush B (by decide) dX1_takesOne_5 ?_
      refine x_icmp_ge B (by omega) (tgt := 27) dX1_takesOne_7 (by decide) (fun c2 => ?_) (fun c2 => ?_)
      · have join81 : ∀ (tk : Int), (tk = 0 ∨ tk = 1) → ∀ (H : Heap) (locs : List Loc) (ls : Array Slot), yH D Zk A s w H locs → lv_has ls 6 [(4, .int (iI ins)), (2, .ref (G 6 j)), (3, .int (iI op))] → W p l e r_c_X1_takesOne_9 s m args below meth c H locs 0 0 Qf (F0 m 81 ls [.int (iI tk)]) := by
          intro tk hk0 H locs ls h hl
          refine lv_istore (lv' := [(5, .int (iI tk)), (4, .int (iI ins)), (2, .ref (G 6 j)), (3, .int (iI op))]) B.1 B.2.1 dX1_takesOne_81 hl (by decide) rfl (fun ls hl => ?_)
          refine lv_iload B.1 B.2.1 dX1_takesOne_83 (lv_at hl 0 rfl) ?_
          refine x_if_eq B (by omega) (tgt := 103) dX1_takesOne_85 (by decide) (fun c3 => ?_) (fun c3 => ?_)
          · refine lv_iload B.1 B.2.1 dX1_takesOne_103 (lv_at hl 0 rfl) ?_
            refine y_rz B hQ h (by decide) (nz01 (by omega)) dX1_takesOne_105 ?_
            rcases (show tk = 1 ∨ tk = 0 by omega) with e9 | e9
            · exact ⟨rfl, _, rfl, Or.inl ⟨e9, (by first | omega | trivial | assumption)⟩⟩
            · exact ⟨rfl, _, rfl, Or.inr ⟨e9, (by first | omega | trivial | assumption)⟩⟩
          · refine lv_iload B.1 B.2.1 dX1_takesOne_88 (lv_at hl 1 rfl) ?_
            refine lv_iload_n B.1 B.2.1 dX1_takesOne_90 rfl (lv_at hl 3 rfl) ?_
            refine x_isub B dX1_takesOne_91 ?_
            refine x_iconst B dX1_takesOne_92 ?_
            refine x_irem B (by omega) dX1_takesOne_93 ?_
            refine x_iconst B dX1_takesOne_94 ?_
            refine x_icmp_ne B (by omega) (tgt := 103) dX1_takesOne_95 (by decide) (fun c4 => ?_) (fun c4 => ?_)
            · refine lv_iload B.1 B.2.1 dX1_takesOne_103 (lv_at hl 0 rfl) ?_
              refine y_rz B hQ h (by decide) (nz01 (by omega)) dX1_takesOne_105 ?_
              rcases (show tk = 1 ∨ tk = 0 by omega) with e9 | e9
              · exact ⟨rfl, _, rfl, Or.inl ⟨e9, (by first | omega | trivial | assumption)⟩⟩
              · exact ⟨rfl, _, rfl, Or.inr ⟨e9, (by first | omega | trivial | assumption)⟩⟩
            · refine lv_aload_n B.1 B.2.1 dX1_takesOne_98 rfl (lv_at hl 2 rfl) ?_
              refine x_iconst B dX1_takesOne_99 ?_
              refine y_cV B h kX5 (1000 + 16 * j.toNat + 6) fo1.1 k_X5_addStep rfl (c_X5_addStep l D Zk ca T G u ad _ hC j ((-1))  (by omega) (by omega)) m_793 rfl (by decide) hl.1 [] (Nat.le_of_ble_eq_true rfl) rfl dX1_takesOne_100 (fun r w1 hq H locs h => ?_)
              obtain ⟨rfl, rfl⟩ := hq
              show W p l e r_c_X1_takesOne_9 s m args below meth c _ _ 0 0 Qf (F0 m 103 ls [])
              refine lv_iload B.1 B.2.1 dX1_takesOne_103 (lv_at hl 0 rfl) ?_
              refine y_rz B hQ h (by decide) (nz01 (by omega)) dX1_takesOne_105 ?_
              rcases (show tk = 1 ∨ tk = 0 by omega) with e9 | e9
              · exact ⟨rfl, _, rfl, Or.inl ⟨e9, (by first | omega | trivial | assumption)⟩⟩
              · exact ⟨rfl, _, rfl, Or.inr ⟨e9, (by first | omega | trivial | assumption)⟩⟩
        refine lv_iload B.1 B.2.1 dX1_takesOne_27 (lv_at hl 0 rfl) ?_
        refine x_bipush B (by decide) dX1_takesOne_29 ?_
        refine x_icmp_ge B (by omega) (tgt := 75) dX1_takesOne_31 (by decide) (fun c5 => ?_) (fun c5 => ?_)
        · refine lv_aload_n B.1 B.2.1 dX1_takesOne_75 rfl (lv_at hl 1 rfl) ?_
          refine lv_aload_n B.1 B.2.1 dX1_takesOne_76 rfl (lv_at hl 2 rfl) ?_
          refine lv_aload_n B.1 B.2.1 dX1_takesOne_77 rfl (lv_at hl 3 rfl) ?_
          refine y_cV B h kX1 26 (CW.f hC 26 _ rfl) k_X1_takesComparison rfl (c_X1_takesComparison l D Zk ca T G u ad _ hC j  (by omega)) m_782 rfl (by decide) hl.1 [] (Nat.le_of_ble_eq_true rfl) rfl dX1_takesOne_78 (fun r w1 hq H locs h => ?_)
          obtain ⟨rfl, _, rfl, ⟨rfl, b6⟩ | ⟨rfl, b6⟩⟩ := hq
          · show W p l e r_c_X1_takesOne_9 s m args below meth c _ _ 0 0 Qf (F0 m 81 ls [.int (iI 1)])
            exact join81 1 (by omega) _ _ _ h (lv_sub hl [0, 3, 4] rfl)
          · show W p l e r_c_X1_takesOne_9 s m args below meth c _ _ 0 0 Qf (F0 m 81 ls [.int (iI 0)])
            exact join81 0 (by omega) _ _ _ h (lv_sub hl [0, 3, 4] rfl)
        · refine lv_aload_n B.1 B.2.1 dX1_takesOne_34 rfl (lv_at hl 1 rfl) ?_
          refine lv_aload_n B.1 B.2.1 dX1_takesOne_35 rfl (lv_at hl 2 rfl) ?_
          refine x_bipush B (by decide) dX1_takesOne_36 ?_
          refine y_cV B h kX1 26 (CW.f hC 26 _ rfl) k_X1_takes rfl (c_X1_takes l D Zk ca T G u ad _ hC 40  (by omega)) m_762 rfl (by decide) hl.1 [] (Nat.le_of_ble_eq_true rfl) rfl dX1_takesOne_38 (fun r w1 hq H locs h => ?_)
          obtain ⟨rfl, _, rfl, ⟨rfl, b7⟩ | ⟨rfl, b7⟩⟩ := hq
          · show W p l e r_c_X1_takesOne_9 s m args below meth c _ _ 0 0 Qf (F0 m 41 ls [.int (iI 1)])
            refine x_if_eq B (by omega) (tgt := 75) dX1_takesOne_41 (by decide) (fun c8 => ?_) (fun c8 => ?_)
            · exact absurd c8 (by omega)
            · refine lv_aload_n B.1 B.2.1 dX1_takesOne_44 rfl (lv_at hl 1 rfl) ?_
              refine lv_aload_n B.1 B.2.1 dX1_takesOne_45 rfl (lv_at hl 2 rfl) ?_
              refine lv_aload_n B.1 B.2.1 dX1_takesOne_46 rfl (lv_at hl 3 rfl) ?_
              refine lv_iload B.1 B.2.1 dX1_takesOne_47 (lv_at hl 0 rfl) ?_
              refine x_iconst B dX1_takesOne_49 ?_
              refine x_iadd B dX1_takesOne_50 ?_
              refine y_cV B h kX1 26 (CW.f hC 26 _ rfl) k_X1_takesAny rfl (c_X1_takesAny_8 l D Zk ca T G u ad _ hC j ((ins + 1))  (by omega) (by omega)) m_770 rfl (by decide) hl.1 [] (Nat.le_of_ble_eq_true rfl) rfl dX1_takesOne_51 (fun r w1 hq H locs h => ?_)
              obtain ⟨rfl, _, rfl, ⟨rfl, b9⟩ | ⟨rfl, b9⟩⟩ := hq
              · show W p l e r_c_X1_takesOne_9 s m args below meth c _ _ 0 0 Qf (F0 m 54 ls [.int (iI 1)])
                refine x_if_eq B (by omega) (tgt := 71) dX1_takesOne_54 (by decide) (fun c10 => ?_) (fun c10 => ?_)
                · exact absurd c10 (by omega)
                · refine lv_aload_n B.1 B.2.1 dX1_takesOne_57 rfl (lv_at hl 1 rfl) ?_
                  refine lv_aload_n B.1 B.2.1 dX1_takesOne_58 rfl (lv_at hl 2 rfl) ?_
                  refine x_bipush B (by decide) dX1_takesOne_59 ?_
                  refine y_cV B h kX1 26 (CW.f hC 26 _ rfl) k_X1_takes rfl (c_X1_takes l D Zk ca T G u ad _ hC 41  (by omega)) m_762 rfl (by decide) hl.1 [] (Nat.le_of_ble_eq_true rfl) rfl dX1_takesOne_61 (fun r w1 hq H locs h => ?_)
                  obtain ⟨rfl, _, rfl, ⟨rfl, b11⟩ | ⟨rfl, b11⟩⟩ := hq
                  · show W p l e r_c_X1_takesOne_9 s m args below meth c _ _ 0 0 Qf (F0 m 64 ls [.int (iI 1)])
                    refine x_if_eq B (by omega) (tgt := 71) dX1_takesOne_64 (by decide) (fun c12 => ?_) (fun c12 => ?_)
                    · exact absurd c12 (by omega)
                    · refine x_iconst B dX1_takesOne_67 ?_
                      refine lv_goto (tgt := 81) B.1 B.2.1 dX1_takesOne_68 (by decide) ?_
                      exact join81 1 (by omega) _ _ _ h (lv_sub hl [0, 3, 4] rfl)
                  · show W p l e r_c_X1_takesOne_9 s m args below meth c _ _ 0 0 Qf (F0 m 64 ls [.int (iI 0)])
                    refine x_if_eq B (by omega) (tgt := 71) dX1_takesOne_64 (by decide) (fun c13 => ?_) (fun c13 => ?_)
                    · refine x_iconst B dX1_takesOne_71 ?_
                      refine lv_goto (tgt := 81) B.1 B.2.1 dX1_takesOne_72 (by decide) ?_
                      exact join81 0 (by omega) _ _ _ h (lv_sub hl [0, 3, 4] rfl)
                    · exact absurd c13 (by omega)
              · show W p l e r_c_X1_takesOne_9 s m args below meth c _ _ 0 0 Qf (F0 m 54 ls [.int (iI 0)])
                refine x_if_eq B (by omega) (tgt := 71) dX1_takesOne_54 (by decide) (fun c14 => ?_) (fun c14 => ?_)
                · refine x_iconst B dX1_takesOne_71 ?_
                  refine lv_goto (tgt := 81) B.1 B.2.1 dX1_takesOne_72 (by decide) ?_
                  exact join81 0 (by omega) _ _ _ h (lv_sub hl [0, 3, 4] rfl)
                · exact absurd c14 (by omega)
          · show W p l e r_c_X1_takesOne_9 s m args below meth c _ _ 0 0 Qf (F0 m 41 ls [.int (iI 0)])
            refine x_if_eq B (by omega) (tgt := 75) dX1_takesOne_41 (by decide) (fun c15 => ?_) (fun c15 => ?_)
            · refine lv_aload_n B.1 B.2.1 dX1_takesOne_75 rfl (lv_at hl 1 rfl) ?_
              refine lv_aload_n B.1 B.2.1 dX1_takesOne_76 rfl (lv_at hl 2 rfl) ?_
              refine lv_aload_n B.1 B.2.1 dX1_takesOne_77 rfl (lv_at hl 3 rfl) ?_
              refine y_cV B h kX1 26 (CW.f hC 26 _ rfl) k_X1_takesComparison rfl (c_X1_takesComparison l D Zk ca T G u ad _ hC j  (by omega)) m_782 rfl (by decide) hl.1 [] (Nat.le_of_ble_eq_true rfl) rfl dX1_takesOne_78 (fun r w1 hq H locs h => ?_)
              obtain ⟨rfl, _, rfl, ⟨rfl, b16⟩ | ⟨rfl, b16⟩⟩ := hq
              · show W p l e r_c_X1_takesOne_9 s m args below meth c _ _ 0 0 Qf (F0 m 81 ls [.int (iI 1)])
                exact join81 1 (by omega) _ _ _ h (lv_sub hl [0, 3, 4] rfl)
              · show W p l e r_c_X1_takesOne_9 s m args below meth c _ _ 0 0 Qf (F0 m 81 ls [.int (iI 0)])
                exact join81 0 (by omega) _ _ _ h (lv_sub hl [0, 3, 4] rfl)
            · exact absurd c15 (by omega)
      · refine lv_aload_n B.1 B.2.1 dX1_takesOne_10 rfl (lv_at hl 1 rfl) ?_
        refine lv_aload_n B.1 B.2.1 dX1_takesOne_11 rfl (lv_at hl 2 rfl) ?_
        refine x_sipush B (by decide) dX1_takesOne_12 ?_
        refine y_cV B h kX1 26 (CW.f hC 26 _ rfl) k_X1_takes rfl (c_X1_takes l D Zk ca T G u ad _ hC 229  (by omega)) m_762 rfl (by decide) hl.1 [] (Nat.le_of_ble_eq_true rfl) rfl dX1_takesOne_15 (fun r w1 hq H locs h => ?_)
        obtain ⟨rfl, _, rfl, ⟨rfl, b17⟩ | ⟨rfl, b17⟩⟩ := hq
        · show W p l e r_c_X1_takesOne_9 s m args below meth c _ _ 0 0 Qf (F0 m 18 ls [.int (iI 1)])
          refine x_if_eq B (by omega) (tgt := 27) dX1_takesOne_18 (by decide) (fun c18 => ?_) (fun c18 => ?_)
          · exact absurd c18 (by omega)
          · refine lv_iinc (v := iI (ins + 1)) (lv' := [(4, .int (iI (ins + 1))), (0, .ref (ad 26)), (1, .ref (ad 20)), (2, .ref (G 6 j)), (3, .int (iI op))]) B.1 B.2.1 dX1_takesOne_21 hl (k := 0) rfl (iI_add _ _) (by decide) rfl (fun ls hl => ?_)
            refine lv_goto (tgt := 3) B.1 B.2.1 dX1_takesOne_24 (by decide) ?_
            exact ih3 ((ins + 1)) (by omega) (by omega) _ _ _ h (lv_sub hl [0, 1, 2, 3, 4] rfl)
        · show W p l e r_c_X1_takesOne_9 s m args below meth c _ _ 0 0 Qf (F0 m 18 ls [.int (iI 0)])
          refine x_if_eq B (by omega) (tgt := 27) dX1_takesOne_18 (by decide) (fun c19 => ?_) (fun c19 => ?_)
          · have join81 : ∀ (tk : Int), (tk = 0 ∨ tk = 1) → ∀ (H : Heap) (locs : List Loc) (ls : Array Slot), yH D Zk A s w H locs → lv_has ls 6 [(4, .int (iI ins)), (2, .ref (G 6 j)), (3, .int (iI op))] → W p l e r_c_X1_takesOne_9 s m args below meth c H locs 0 0 Qf (F0 m 81 ls [.int (iI tk)]) := by
              intro tk hk0 H locs ls h hl
              refine lv_istore (lv' := [(5, .int (iI tk)), (4, .int (iI ins)), (2, .ref (G 6 j)), (3, .int (iI op))]) B.1 B.2.1 dX1_takesOne_81 hl (by decide) rfl (fun ls hl => ?_)
              refine lv_iload B.1 B.2.1 dX1_takesOne_83 (lv_at hl 0 rfl) ?_
              refine x_if_eq B (by omega) (tgt := 103) dX1_takesOne_85 (by decide) (fun c20 => ?_) (fun c20 => ?_)
              · refine lv_iload B.1 B.2.1 dX1_takesOne_103 (lv_at hl 0 rfl) ?_
                refine y_rz B hQ h (by decide) (nz01 (by omega)) dX1_takesOne_105 ?_
                rcases (show tk = 1 ∨ tk = 0 by omega) with e9 | e9
                · exact ⟨rfl, _, rfl, Or.inl ⟨e9, (by first | omega | trivial | assumption)⟩⟩
                · exact ⟨rfl, _, rfl, Or.inr ⟨e9, (by first | omega | trivial | assumption)⟩⟩
              · refine lv_iload B.1 B.2.1 dX1_takesOne_88 (lv_at hl 1 rfl) ?_
                refine lv_iload_n B.1 B.2.1 dX1_takesOne_90 rfl (lv_at hl 3 rfl) ?_
                refine x_isub B dX1_takesOne_91 ?_
                refine x_iconst B dX1_takesOne_92 ?_
                refine x_irem B (by omega) dX1_takesOne_93 ?_
                refine x_iconst B dX1_takesOne_94 ?_
                refine x_icmp_ne B (by omega) (tgt := 103) dX1_takesOne_95 (by decide) (fun c21 => ?_) (fun c21 => ?_)
                · refine lv_iload B.1 B.2.1 dX1_takesOne_103 (lv_at hl 0 rfl) ?_
                  refine y_rz B hQ h (by decide) (nz01 (by omega)) dX1_takesOne_105 ?_
                  rcases (show tk = 1 ∨ tk = 0 by omega) with e9 | e9
                  · exact ⟨rfl, _, rfl, Or.inl ⟨e9, (by first | omega | trivial | assumption)⟩⟩
                  · exact ⟨rfl, _, rfl, Or.inr ⟨e9, (by first | omega | trivial | assumption)⟩⟩
                · refine lv_aload_n B.1 B.2.1 dX1_takesOne_98 rfl (lv_at hl 2 rfl) ?_
                  refine x_iconst B dX1_takesOne_99 ?_
                  refine y_cV B h kX5 (1000 + 16 * j.toNat + 6) fo1.1 k_X5_addStep rfl (c_X5_addStep l D Zk ca T G u ad _ hC j ((-1))  (by omega) (by omega)) m_793 rfl (by decide) hl.1 [] (Nat.le_of_ble_eq_true rfl) rfl dX1_takesOne_100 (fun r w1 hq H locs h => ?_)
                  obtain ⟨rfl, rfl⟩ := hq
                  show W p l e r_c_X1_takesOne_9 s m args below meth c _ _ 0 0 Qf (F0 m 103 ls [])
                  refine lv_iload B.1 B.2.1 dX1_takesOne_103 (lv_at hl 0 rfl) ?_
                  refine y_rz B hQ h (by decide) (nz01 (by omega)) dX1_takesOne_105 ?_
                  rcases (show tk = 1 ∨ tk = 0 by omega) with e9 | e9
                  · exact ⟨rfl, _, rfl, Or.inl ⟨e9, (by first | omega | trivial | assumption)⟩⟩
                  · exact ⟨rfl, _, rfl, Or.inr ⟨e9, (by first | omega | trivial | assumption)⟩⟩
            refine lv_iload B.1 B.2.1 dX1_takesOne_27 (lv_at hl 0 rfl) ?_
            refine x_bipush B (by decide) dX1_takesOne_29 ?_
            refine x_icmp_ge B (by omega) (tgt := 75) dX1_takesOne_31 (by decide) (fun c22 => ?_) (fun c22 => ?_)
            · refine lv_aload_n B.1 B.2.1 dX1_takesOne_75 rfl (lv_at hl 1 rfl) ?_
              refine lv_aload_n B.1 B.2.1 dX1_takesOne_76 rfl (lv_at hl 2 rfl) ?_
              refine lv_aload_n B.1 B.2.1 dX1_takesOne_77 rfl (lv_at hl 3 rfl) ?_
              refine y_cV B h kX1 26 (CW.f hC 26 _ rfl) k_X1_takesComparison rfl (c_X1_takesComparison l D Zk ca T G u ad _ hC j  (by omega)) m_782 rfl (by decide) hl.1 [] (Nat.le_of_ble_eq_true rfl) rfl dX1_takesOne_78 (fun r w1 hq H locs h => ?_)
              obtain ⟨rfl, _, rfl, ⟨rfl, b23⟩ | ⟨rfl, b23⟩⟩ := hq
              · show W p l e r_c_X1_takesOne_9 s m args below meth c _ _ 0 0 Qf (F0 m 81 ls [.int (iI 1)])
                exact join81 1 (by omega) _ _ _ h (lv_sub hl [0, 3, 4] rfl)
              · show W p l e r_c_X1_takesOne_9 s m args below meth c _ _ 0 0 Qf (F0 m 81 ls [.int (iI 0)])
                exact join81 0 (by omega) _ _ _ h (lv_sub hl [0, 3, 4] rfl)
            · refine lv_aload_n B.1 B.2.1 dX1_takesOne_34 rfl (lv_at hl 1 rfl) ?_
              refine lv_aload_n B.1 B.2.1 dX1_takesOne_35 rfl (lv_at hl 2 rfl) ?_
              refine x_bipush B (by decide) dX1_takesOne_36 ?_
              refine y_cV B h kX1 26 (CW.f hC 26 _ rfl) k_X1_takes rfl (c_X1_takes l D Zk ca T G u ad _ hC 40  (by omega)) m_762 rfl (by decide) hl.1 [] (Nat.le_of_ble_eq_true rfl) rfl dX1_takesOne_38 (fun r w1 hq H locs h => ?_)
              obtain ⟨rfl, _, rfl, ⟨rfl, b24⟩ | ⟨rfl, b24⟩⟩ := hq
              · show W p l e r_c_X1_takesOne_9 s m args below meth c _ _ 0 0 Qf (F0 m 41 ls [.int (iI 1)])
                refine x_if_eq B (by omega) (tgt := 75) dX1_takesOne_41 (by decide) (fun c25 => ?_) (fun c25 => ?_)
                · exact absurd c25 (by omega)
                · refine lv_aload_n B.1 B.2.1 dX1_takesOne_44 rfl (lv_at hl 1 rfl) ?_
                  refine lv_aload_n B.1 B.2.1 dX1_takesOne_45 rfl (lv_at hl 2 rfl) ?_
                  refine lv_aload_n B.1 B.2.1 dX1_takesOne_46 rfl (lv_at hl 3 rfl) ?_
                  refine lv_iload B.1 B.2.1 dX1_takesOne_47 (lv_at hl 0 rfl) ?_
                  refine x_iconst B dX1_takesOne_49 ?_
                  refine x_iadd B dX1_takesOne_50 ?_
                  refine y_cV B h kX1 26 (CW.f hC 26 _ rfl) k_X1_takesAny rfl (c_X1_takesAny_8 l D Zk ca T G u ad _ hC j ((ins + 1))  (by omega) (by omega)) m_770 rfl (by decide) hl.1 [] (Nat.le_of_ble_eq_true rfl) rfl dX1_takesOne_51 (fun r w1 hq H locs h => ?_)
                  obtain ⟨rfl, _, rfl, ⟨rfl, b26⟩ | ⟨rfl, b26⟩⟩ := hq
                  · show W p l e r_c_X1_takesOne_9 s m args below meth c _ _ 0 0 Qf (F0 m 54 ls [.int (iI 1)])
                    refine x_if_eq B (by omega) (tgt := 71) dX1_takesOne_54 (by decide) (fun c27 => ?_) (fun c27 => ?_)
                    · exact absurd c27 (by omega)
                    · refine lv_aload_n B.1 B.2.1 dX1_takesOne_57 rfl (lv_at hl 1 rfl) ?_
                      refine lv_aload_n B.1 B.2.1 dX1_takesOne_58 rfl (lv_at hl 2 rfl) ?_
                      refine x_bipush B (by decide) dX1_takesOne_59 ?_
                      refine y_cV B h kX1 26 (CW.f hC 26 _ rfl) k_X1_takes rfl (c_X1_takes l D Zk ca T G u ad _ hC 41  (by omega)) m_762 rfl (by decide) hl.1 [] (Nat.le_of_ble_eq_true rfl) rfl dX1_takesOne_61 (fun r w1 hq H locs h => ?_)
                      obtain ⟨rfl, _, rfl, ⟨rfl, b28⟩ | ⟨rfl, b28⟩⟩ := hq
                      · show W p l e r_c_X1_takesOne_9 s m args below meth c _ _ 0 0 Qf (F0 m 64 ls [.int (iI 1)])
                        refine x_if_eq B (by omega) (tgt := 71) dX1_takesOne_64 (by decide) (fun c29 => ?_) (fun c29 => ?_)
                        · exact absurd c29 (by omega)
                        · refine x_iconst B dX1_takesOne_67 ?_
                          refine lv_goto (tgt := 81) B.1 B.2.1 dX1_takesOne_68 (by decide) ?_
                          exact join81 1 (by omega) _ _ _ h (lv_sub hl [0, 3, 4] rfl)
                      · show W p l e r_c_X1_takesOne_9 s m args below meth c _ _ 0 0 Qf (F0 m 64 ls [.int (iI 0)])
                        refine x_if_eq B (by omega) (tgt := 71) dX1_takesOne_64 (by decide) (fun c30 => ?_) (fun c30 => ?_)
                        · refine x_iconst B dX1_takesOne_71 ?_
                          refine lv_goto (tgt := 81) B.1 B.2.1 dX1_takesOne_72 (by decide) ?_
                          exact join81 0 (by omega) _ _ _ h (lv_sub hl [0, 3, 4] rfl)
                        · exact absurd c30 (by omega)
                  · show W p l e r_c_X1_takesOne_9 s m args below meth c _ _ 0 0 Qf (F0 m 54 ls [.int (iI 0)])
                    refine x_if_eq B (by omega) (tgt := 71) dX1_takesOne_54 (by decide) (fun c31 => ?_) (fun c31 => ?_)
                    · refine x_iconst B dX1_takesOne_71 ?_
                      refine lv_goto (tgt := 81) B.1 B.2.1 dX1_takesOne_72 (by decide) ?_
                      exact join81 0 (by omega) _ _ _ h (lv_sub hl [0, 3, 4] rfl)
                    · exact absurd c31 (by omega)
              · show W p l e r_c_X1_takesOne_9 s m args below meth c _ _ 0 0 Qf (F0 m 41 ls [.int (iI 0)])
                refine x_if_eq B (by omega) (tgt := 75) dX1_takesOne_41 (by decide) (fun c32 => ?_) (fun c32 => ?_)
                · refine lv_aload_n B.1 B.2.1 dX1_takesOne_75 rfl (lv_at hl 1 rfl) ?_
                  refine lv_aload_n B.1 B.2.1 dX1_takesOne_76 rfl (lv_at hl 2 rfl) ?_
                  refine lv_aload_n B.1 B.2.1 dX1_takesOne_77 rfl (lv_at hl 3 rfl) ?_
                  refine y_cV B h kX1 26 (CW.f hC 26 _ rfl) k_X1_takesComparison rfl (c_X1_takesComparison l D Zk ca T G u ad _ hC j  (by omega)) m_782 rfl (by decide) hl.1 [] (Nat.le_of_ble_eq_true rfl) rfl dX1_takesOne_78 (fun r w1 hq H locs h => ?_)
                  obtain ⟨rfl, _, rfl, ⟨rfl, b33⟩ | ⟨rfl, b33⟩⟩ := hq
                  · show W p l e r_c_X1_takesOne_9 s m args below meth c _ _ 0 0 Qf (F0 m 81 ls [.int (iI 1)])
                    exact join81 1 (by omega) _ _ _ h (lv_sub hl [0, 3, 4] rfl)
                  · show W p l e r_c_X1_takesOne_9 s m args below meth c _ _ 0 0 Qf (F0 m 81 ls [.int (iI 0)])
                    exact join81 0 (by omega) _ _ _ h (lv_sub hl [0, 3, 4] rfl)
                · exact absurd c32 (by omega)
          · exact absurd c19 (by omega)
  exact loop3 (((9 - op : Int)).toNat + 1) op (by omega) (Nat.lt_succ_self _) _ _ _ h (lv_sub hl [0, 1, 2, 3, 4] rfl)
abbrev r_c_X1_takesAll_9 : Room := { frames := 30, cells := 0, slots := 0, locals := 731 }
set_option maxHeartbeats 4000000 in
set_option maxRecDepth 100000 in
theorem c_X1_takesAll_9 (l : Launch) (D : va_G) (Zk : yK) (ca : Nat → ClassId) (T : Nat → Int → Int) (G : Nat → Int → Nat) (u : Int) (ad : Nat → Nat) (w : yW) (hC : CW ca T G u ad w) (j : Int) (op : Int)  (hj : 0 ≤ j ∧ j < u) (hop : 0 ≤ op ∧ op ≤ 9) : yC l D Zk ca yX1_takesAll cX1_takesAll 5 (some .boolean) r_c_X1_takesAll_9 [.ref (ad 26), .ref (ad 20), .ref (G 6 j), .int (iI op)] w (vI w (fun z => (z = 1 ∧ (True)) ∨ (z = 0 ∧ (True)))) := by
  refine yC.of2 "WindWords$Grammar" (by decide) rfl (Nat.le_of_ble_eq_true rfl) ?_
  intro p e s m args below meth c A ls Qf B hnm h hl hQ
  have hl : lv_has ls 5 [(0, .ref (ad 26)), (1, .ref (ad 20)), (2, .ref (G 6 j)), (3, .int (iI op))] := hl
  have hs := pi_s (CW.pi hC)
  have fo1 := CW.ru hC j (by omega)
  refine lv_aload_n B.1 B.2.1 dX1_takesAll_0 rfl (lv_at hl 0 rfl) ?_
  refine lv_aload_n B.1 B.2.1 dX1_takesAll_1 rfl (lv_at hl 1 rfl) ?_
  refine lv_aload_n B.1 B.2.1 dX1_takesAll_2 rfl (lv_at hl 2 rfl) ?_
  refine lv_iload_n B.1 B.2.1 dX1_takesAll_3 rfl (lv_at hl 3 rfl) ?_
  refine y_cV B h kX1 26 (CW.f hC 26 _ rfl) k_X1_takesOne rfl (c_X1_takesOne_9 l D Zk ca T G u ad _ hC j op  (by omega) (by omega)) m_778 rfl (by decide) hl.1 [] (Nat.le_of_ble_eq_true rfl) rfl dX1_takesAll_4 (fun r w1 hq H locs h => ?_)
  obtain ⟨rfl, _, rfl, ⟨rfl, b2⟩ | ⟨rfl, b2⟩⟩ := hq
  · show W p l e r_c_X1_takesAll_9 s m args below meth c _ _ 0 0 Qf (F0 m 7 ls [.int (iI 1)])
    refine x_if_ne B (by omega) (tgt := 12) dX1_takesAll_7 (by decide) (fun c3 => ?_) (fun c3 => ?_)
    · refine x_iconst B dX1_takesAll_12 ?_
      refine lv_istore (lv' := [(4, .int (iI 0)), (0, .ref (ad 26)), (1, .ref (ad 20)), (2, .ref (G 6 j)), (3, .int (iI op))]) B.1 B.2.1 dX1_takesAll_13 hl (by decide) rfl (fun ls hl => ?_)
      have loop15 : ∀ (n15 : Nat) (i : Int), (0 ≤ i ∧ i ≤ 900) → ((900 - i : Int)).toNat < n15 → ∀ (H : Heap) (locs : List Loc) (ls : Array Slot), yH D Zk A s w H locs → lv_has ls 5 [(4, .int (iI i)), (0, .ref (ad 26)), (1, .ref (ad 20)), (2, .ref (G 6 j)), (3, .int (iI op))] → W p l e r_c_X1_takesAll_9 s m args below meth c H locs 0 0 Qf (F0 m 15 ls []) := by
        intro n15
        induction n15 with
        | zero =>
          intro i hi hm15 H locs ls h hl
          exact absurd hm15 (Nat.not_lt_zero _)
        | succ n15 ih15 =>
          intro i hi hm15 H locs ls h hl
          refine lv_iload B.1 B.2.1 dX1_takesAll_15 (lv_at hl 0 rfl) ?_
          refine lv_aload_n B.1 B.2.1 dX1_takesAll_17 rfl (lv_at hl 2 rfl) ?_
          refine y_getG B h kX9 20 (CW.f hC 20 _ rfl) 1 (lo := 0) (hi := 900) rfl m_291 (by decide) dX1_takesAll_18 (fun z4 z4a z4b => ?_)
          refine x_icmp_ge B (by omega) (tgt := 59) dX1_takesAll_21 (by decide) (fun c5 => ?_) (fun c5 => ?_)
          · refine x_iconst B dX1_takesAll_59 ?_
            refine y_rz B hQ h (by decide) (by decide) dX1_takesAll_60 ?_
            exact ⟨rfl, _, rfl, Or.inl ⟨rfl, (by first | omega | trivial | assumption)⟩⟩
          · refine lv_aload_n B.1 B.2.1 dX1_takesAll_24 rfl (lv_at hl 1 rfl) ?_
            refine lv_aload_n B.1 B.2.1 dX1_takesAll_25 rfl (lv_at hl 2 rfl) ?_
            refine x_sipush B (by decide) dX1_takesAll_26 ?_
            refine y_cV B h kX1 26 (CW.f hC 26 _ rfl) k_X1_takes rfl (c_X1_takes l D Zk ca T G u ad _ hC 227  (by omega)) m_762 rfl (by decide) hl.1 [] (Nat.le_of_ble_eq_true rfl) rfl dX1_takesAll_29 (fun r w1 hq H locs h => ?_)
            obtain ⟨rfl, _, rfl, ⟨rfl, b6⟩ | ⟨rfl, b6⟩⟩ := hq
            · show W p l e r_c_X1_takesAll_9 s m args below meth c _ _ 0 0 Qf (F0 m 32 ls [.int (iI 1)])
              refine x_if_eq B (by omega) (tgt := 59) dX1_takesAll_32 (by decide) (fun c7 => ?_) (fun c7 => ?_)
              · exact absurd c7 (by omega)
              · refine lv_aload_n B.1 B.2.1 dX1_takesAll_35 rfl (lv_at hl 1 rfl) ?_
                refine lv_aload_n B.1 B.2.1 dX1_takesAll_36 rfl (lv_at hl 2 rfl) ?_
                refine lv_aload_n B.1 B.2.1 dX1_takesAll_37 rfl (lv_at hl 3 rfl) ?_
                refine lv_iload_n B.1 B.2.1 dX1_takesAll_38 rfl (lv_at hl 4 rfl) ?_
                refine y_cV B h kX1 26 (CW.f hC 26 _ rfl) k_X1_takesOne rfl (c_X1_takesOne_9 l D Zk ca T G u ad _ hC j op  (by omega) (by omega)) m_778 rfl (by decide) hl.1 [] (Nat.le_of_ble_eq_true rfl) rfl dX1_takesAll_39 (fun r w1 hq H locs h => ?_)
                obtain ⟨rfl, _, rfl, ⟨rfl, b8⟩ | ⟨rfl, b8⟩⟩ := hq
                · show W p l e r_c_X1_takesAll_9 s m args below meth c _ _ 0 0 Qf (F0 m 42 ls [.int (iI 1)])
                  refine x_if_ne B (by omega) (tgt := 47) dX1_takesAll_42 (by decide) (fun c9 => ?_) (fun c9 => ?_)
                  · refine lv_aload_n B.1 B.2.1 dX1_takesAll_47 rfl (lv_at hl 3 rfl) ?_
                    refine x_bipush B (by decide) dX1_takesAll_48 ?_
                    refine y_cV B h kX5 (1000 + 16 * j.toNat + 6) fo1.1 k_X5_addStep rfl (c_X5_addStep l D Zk ca T G u ad _ hC j ((-2))  (by omega) (by omega)) m_793 rfl (by decide) hl.1 [] (Nat.le_of_ble_eq_true rfl) rfl dX1_takesAll_50 (fun r w1 hq H locs h => ?_)
                    obtain ⟨rfl, rfl⟩ := hq
                    show W p l e r_c_X1_takesAll_9 s m args below meth c _ _ 0 0 Qf (F0 m 53 ls [])
                    refine lv_iinc (v := iI (i + 1)) (lv' := [(4, .int (iI (i + 1))), (0, .ref (ad 26)), (1, .ref (ad 20)), (2, .ref (G 6 j)), (3, .int (iI op))]) B.1 B.2.1 dX1_takesAll_53 hl (k := 0) rfl (iI_add _ _) (by decide) rfl (fun ls hl => ?_)
                    refine lv_goto (tgt := 15) B.1 B.2.1 dX1_takesAll_56 (by decide) ?_
                    exact ih15 ((i + 1)) (by omega) (by omega) _ _ _ h (lv_sub hl [0, 1, 2, 3, 4] rfl)
                  · exact absurd c9 (by omega)
                · show W p l e r_c_X1_takesAll_9 s m args below meth c _ _ 0 0 Qf (F0 m 42 ls [.int (iI 0)])
                  refine x_if_ne B (by omega) (tgt := 47) dX1_takesAll_42 (by decide) (fun c10 => ?_) (fun c10 => ?_)
                  · exact absurd c10 (by omega)
                  · refine x_iconst B dX1_takesAll_45 ?_
                    refine y_rz B hQ h (by decide) (by decide) dX1_takesAll_46 ?_
                    exact ⟨rfl, _, rfl, Or.inr ⟨rfl, (by first | omega | trivial | assumption)⟩⟩
            · show W p l e r_c_X1_takesAll_9 s m args below meth c _ _ 0 0 Qf (F0 m 32 ls [.int (iI 0)])
              refine x_if_eq B (by omega) (tgt := 59) dX1_takesAll_32 (by decide) (fun c11 => ?_) (fun c11 => ?_)
              · refine x_iconst B dX1_takesAll_59 ?_
                refine y_rz B hQ h (by decide) (by decide) dX1_takesAll_60 ?_
                exact ⟨rfl, _, rfl, Or.inl ⟨rfl, (by first | omega | trivial | assumption)⟩⟩
              · exact absurd c11 (by omega)
      exact loop15 (((900 - 0 : Int)).toNat + 1) 0 (by omega) (Nat.lt_succ_self _) _ _ _ h (lv_sub hl [0, 1, 2, 3, 4] rfl)
    · exact absurd c3 (by omega)
  · show W p l e r_c_X1_takesAll_9 s m args below meth c _ _ 0 0 Qf (F0 m 7 ls [.int (iI 0)])
    refine x_if_ne B (by omega) (tgt := 12) dX1_takesAll_7 (by decide) (fun c12 => ?_) (fun c12 => ?_)
    · exact absurd c12 (by omega)
    · refine x_iconst B dX1_takesAll_10 ?_
      refine y_rz B hQ h (by decide) (by decide) dX1_takesAll_11 ?_
      exact ⟨rfl, _, rfl, Or.inr ⟨rfl, (by first | omega | trivial | assumption)⟩⟩
abbrev r_c_X1_takesAny_9 : Room := { frames := 31, cells := 0, slots := 0, locals := 755 }
set_option maxHeartbeats 4000000 in
set_option maxRecDepth 100000 in
theorem c_X1_takesAny_9 (l : Launch) (D : va_G) (Zk : yK) (ca : Nat → ClassId) (T : Nat → Int → Int) (G : Nat → Int → Nat) (u : Int) (ad : Nat → Nat) (w : yW) (hC : CW ca T G u ad w) (j : Int) (op : Int)  (hj : 0 ≤ j ∧ j < u) (hop : 0 ≤ op ∧ op ≤ 9) : yC l D Zk ca yX1_takesAny cX1_takesAny 5 (some .boolean) r_c_X1_takesAny_9 [.ref (ad 26), .ref (ad 20), .ref (G 6 j), .int (iI op)] w (vI w (fun z => (z = 1 ∧ (True)) ∨ (z = 0 ∧ (True)))) := by
  refine yC.of2 "WindWords$Grammar" (by decide) rfl (Nat.le_of_ble_eq_true rfl) ?_
  intro p e s m args below meth c A ls Qf B hnm h hl hQ
  have hl : lv_has ls 5 [(0, .ref (ad 26)), (1, .ref (ad 20)), (2, .ref (G 6 j)), (3, .int (iI op))] := hl
  have hs := pi_s (CW.pi hC)
  have fo1 := CW.ru hC j (by omega)
  refine lv_aload_n B.1 B.2.1 dX1_takesAny_0 rfl (lv_at hl 0 rfl) ?_
  refine lv_aload_n B.1 B.2.1 dX1_takesAny_1 rfl (lv_at hl 1 rfl) ?_
  refine lv_aload_n B.1 B.2.1 dX1_takesAny_2 rfl (lv_at hl 2 rfl) ?_
  refine lv_iload_n B.1 B.2.1 dX1_takesAny_3 rfl (lv_at hl 3 rfl) ?_
  refine y_cV B h kX1 26 (CW.f hC 26 _ rfl) k_X1_takesAll rfl (c_X1_takesAll_9 l D Zk ca T G u ad _ hC j op  (by omega) (by omega)) m_774 rfl (by decide) hl.1 [] (Nat.le_of_ble_eq_true rfl) rfl dX1_takesAny_4 (fun r w1 hq H locs h => ?_)
  obtain ⟨rfl, _, rfl, ⟨rfl, b2⟩ | ⟨rfl, b2⟩⟩ := hq
  · show W p l e r_c_X1_takesAny_9 s m args below meth c _ _ 0 0 Qf (F0 m 7 ls [.int (iI 1)])
    refine x_if_ne B (by omega) (tgt := 12) dX1_takesAny_7 (by decide) (fun c3 => ?_) (fun c3 => ?_)
    · refine x_iconst B dX1_takesAny_12 ?_
      refine lv_istore (lv' := [(4, .int (iI 0)), (0, .ref (ad 26)), (1, .ref (ad 20)), (2, .ref (G 6 j)), (3, .int (iI op))]) B.1 B.2.1 dX1_takesAny_13 hl (by decide) rfl (fun ls hl => ?_)
      have loop15 : ∀ (n15 : Nat) (i : Int), (0 ≤ i ∧ i ≤ 900) → ((900 - i : Int)).toNat < n15 → ∀ (H : Heap) (locs : List Loc) (ls : Array Slot), yH D Zk A s w H locs → lv_has ls 5 [(4, .int (iI i)), (0, .ref (ad 26)), (1, .ref (ad 20)), (2, .ref (G 6 j)), (3, .int (iI op))] → W p l e r_c_X1_takesAny_9 s m args below meth c H locs 0 0 Qf (F0 m 15 ls []) := by
        intro n15
        induction n15 with
        | zero =>
          intro i hi hm15 H locs ls h hl
          exact absurd hm15 (Nat.not_lt_zero _)
        | succ n15 ih15 =>
          intro i hi hm15 H locs ls h hl
          refine lv_iload B.1 B.2.1 dX1_takesAny_15 (lv_at hl 0 rfl) ?_
          refine lv_aload_n B.1 B.2.1 dX1_takesAny_17 rfl (lv_at hl 2 rfl) ?_
          refine y_getG B h kX9 20 (CW.f hC 20 _ rfl) 1 (lo := 0) (hi := 900) rfl m_291 (by decide) dX1_takesAny_18 (fun z4 z4a z4b => ?_)
          refine x_icmp_ge B (by omega) (tgt := 59) dX1_takesAny_21 (by decide) (fun c5 => ?_) (fun c5 => ?_)
          · refine x_iconst B dX1_takesAny_59 ?_
            refine y_rz B hQ h (by decide) (by decide) dX1_takesAny_60 ?_
            exact ⟨rfl, _, rfl, Or.inl ⟨rfl, (by first | omega | trivial | assumption)⟩⟩
          · refine lv_aload_n B.1 B.2.1 dX1_takesAny_24 rfl (lv_at hl 1 rfl) ?_
            refine lv_aload_n B.1 B.2.1 dX1_takesAny_25 rfl (lv_at hl 2 rfl) ?_
            refine x_sipush B (by decide) dX1_takesAny_26 ?_
            refine y_cV B h kX1 26 (CW.f hC 26 _ rfl) k_X1_takes rfl (c_X1_takes l D Zk ca T G u ad _ hC 228  (by omega)) m_762 rfl (by decide) hl.1 [] (Nat.le_of_ble_eq_true rfl) rfl dX1_takesAny_29 (fun r w1 hq H locs h => ?_)
            obtain ⟨rfl, _, rfl, ⟨rfl, b6⟩ | ⟨rfl, b6⟩⟩ := hq
            · show W p l e r_c_X1_takesAny_9 s m args below meth c _ _ 0 0 Qf (F0 m 32 ls [.int (iI 1)])
              refine x_if_eq B (by omega) (tgt := 59) dX1_takesAny_32 (by decide) (fun c7 => ?_) (fun c7 => ?_)
              · exact absurd c7 (by omega)
              · refine lv_aload_n B.1 B.2.1 dX1_takesAny_35 rfl (lv_at hl 1 rfl) ?_
                refine lv_aload_n B.1 B.2.1 dX1_takesAny_36 rfl (lv_at hl 2 rfl) ?_
                refine lv_aload_n B.1 B.2.1 dX1_takesAny_37 rfl (lv_at hl 3 rfl) ?_
                refine lv_iload_n B.1 B.2.1 dX1_takesAny_38 rfl (lv_at hl 4 rfl) ?_
                refine y_cV B h kX1 26 (CW.f hC 26 _ rfl) k_X1_takesAll rfl (c_X1_takesAll_9 l D Zk ca T G u ad _ hC j op  (by omega) (by omega)) m_774 rfl (by decide) hl.1 [] (Nat.le_of_ble_eq_true rfl) rfl dX1_takesAny_39 (fun r w1 hq H locs h => ?_)
                obtain ⟨rfl, _, rfl, ⟨rfl, b8⟩ | ⟨rfl, b8⟩⟩ := hq
                · show W p l e r_c_X1_takesAny_9 s m args below meth c _ _ 0 0 Qf (F0 m 42 ls [.int (iI 1)])
                  refine x_if_ne B (by omega) (tgt := 47) dX1_takesAny_42 (by decide) (fun c9 => ?_) (fun c9 => ?_)
                  · refine lv_aload_n B.1 B.2.1 dX1_takesAny_47 rfl (lv_at hl 3 rfl) ?_
                    refine x_bipush B (by decide) dX1_takesAny_48 ?_
                    refine y_cV B h kX5 (1000 + 16 * j.toNat + 6) fo1.1 k_X5_addStep rfl (c_X5_addStep l D Zk ca T G u ad _ hC j ((-3))  (by omega) (by omega)) m_793 rfl (by decide) hl.1 [] (Nat.le_of_ble_eq_true rfl) rfl dX1_takesAny_50 (fun r w1 hq H locs h => ?_)
                    obtain ⟨rfl, rfl⟩ := hq
                    show W p l e r_c_X1_takesAny_9 s m args below meth c _ _ 0 0 Qf (F0 m 53 ls [])
                    refine lv_iinc (v := iI (i + 1)) (lv' := [(4, .int (iI (i + 1))), (0, .ref (ad 26)), (1, .ref (ad 20)), (2, .ref (G 6 j)), (3, .int (iI op))]) B.1 B.2.1 dX1_takesAny_53 hl (k := 0) rfl (iI_add _ _) (by decide) rfl (fun ls hl => ?_)
                    refine lv_goto (tgt := 15) B.1 B.2.1 dX1_takesAny_56 (by decide) ?_
                    exact ih15 ((i + 1)) (by omega) (by omega) _ _ _ h (lv_sub hl [0, 1, 2, 3, 4] rfl)
                  · exact absurd c9 (by omega)
                · show W p l e r_c_X1_takesAny_9 s m args below meth c _ _ 0 0 Qf (F0 m 42 ls [.int (iI 0)])
                  refine x_if_ne B (by omega) (tgt := 47) dX1_takesAny_42 (by decide) (fun c10 => ?_) (fun c10 => ?_)
                  · exact absurd c10 (by omega)
                  · refine x_iconst B dX1_takesAny_45 ?_
                    refine y_rz B hQ h (by decide) (by decide) dX1_takesAny_46 ?_
                    exact ⟨rfl, _, rfl, Or.inr ⟨rfl, (by first | omega | trivial | assumption)⟩⟩
            · show W p l e r_c_X1_takesAny_9 s m args below meth c _ _ 0 0 Qf (F0 m 32 ls [.int (iI 0)])
              refine x_if_eq B (by omega) (tgt := 59) dX1_takesAny_32 (by decide) (fun c11 => ?_) (fun c11 => ?_)
              · refine x_iconst B dX1_takesAny_59 ?_
                refine y_rz B hQ h (by decide) (by decide) dX1_takesAny_60 ?_
                exact ⟨rfl, _, rfl, Or.inl ⟨rfl, (by first | omega | trivial | assumption)⟩⟩
              · exact absurd c11 (by omega)
      exact loop15 (((900 - 0 : Int)).toNat + 1) 0 (by omega) (Nat.lt_succ_self _) _ _ _ h (lv_sub hl [0, 1, 2, 3, 4] rfl)
    · exact absurd c3 (by omega)
  · show W p l e r_c_X1_takesAny_9 s m args below meth c _ _ 0 0 Qf (F0 m 7 ls [.int (iI 0)])
    refine x_if_ne B (by omega) (tgt := 12) dX1_takesAny_7 (by decide) (fun c12 => ?_) (fun c12 => ?_)
    · exact absurd c12 (by omega)
    · refine x_iconst B dX1_takesAny_10 ?_
      refine y_rz B hQ h (by decide) (by decide) dX1_takesAny_11 ?_
      exact ⟨rfl, _, rfl, Or.inr ⟨rfl, (by first | omega | trivial | assumption)⟩⟩
