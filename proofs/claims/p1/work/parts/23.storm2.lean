theorem k_X12_abs : xMS yX12_abs cX12_abs 1 (some .int) 1 := ⟨m_1749, m_1748, m_104, ⟨by decide +kernel, by decide +kernel, by decide +kernel⟩⟩
theorem k_X12_far : xMS yX12_far cX12_far 4 (some .int) 2 := ⟨m_1746, m_1745, m_104, ⟨by decide +kernel, by decide +kernel, by decide +kernel⟩⟩
theorem k_X12_isNear : xMV yX12_isNear cX12_isNear 5 (some .boolean) 2 := ⟨m_1875, m_1874, m_90, m_104, ⟨by decide +kernel, by decide +kernel, by decide +kernel⟩⟩
theorem k_X12_agrees : xMV yX12_agrees cX12_agrees 5 (some .boolean) 2 := ⟨m_1871, m_1870, m_89, m_104, ⟨by decide +kernel, by decide +kernel, by decide +kernel⟩⟩
theorem k_X12_findWays : xMV yX12_findWays cX12_findWays 3 none 0 := ⟨m_1867, m_1866, m_88, m_104, ⟨by decide +kernel, by decide +kernel, by decide +kernel⟩⟩
theorem k_X12_cellsOn : xMV yX12_cellsOn cX12_cellsOn 4 (some .int) 1 := ⟨m_1879, m_1878, m_91, m_104, ⟨by decide +kernel, by decide +kernel, by decide +kernel⟩⟩
abbrev r_c_X12_far : Room := { frames := 1, cells := 0, slots := 0, locals := 20 }
set_option maxHeartbeats 4000000 in
set_option maxRecDepth 100000 in
theorem c_X12_far (l : Launch) (D : va_G) (ca : Nat → ClassId) (w : xW) (a : Int) (b : Int)  (ha : 0 ≤ a ∧ a ≤ 63) (hb : 0 ≤ b ∧ b ≤ 63) : xC l D ca yX12_far cX12_far 4 (some .int) r_c_X12_far [.int (iI a), .int (iI b)] w (qI w (fun z => (0 ≤ z ∧ z ≤ 63) ∧ (a = b → z = 0))) := by
  refine xC.of2 "WindWordsModel" (by decide) rfl (Nat.le_of_ble_eq_true rfl) ?_
  intro p e s m args below meth c A ls Qf B hnm h hl hQ
  have hl : lv_has ls 4 [(0, .int (iI a)), (1, .int (iI b))] := hl
  refine lv_iload_n B.1 B.2.1 dX12_far_0 rfl (lv_at hl 0 rfl) ?_
  refine x_bipush B (by decide) dX12_far_1 ?_
  refine x_irem B (by omega) dX12_far_3 ?_
  refine lv_iload_n B.1 B.2.1 dX12_far_4 rfl (lv_at hl 1 rfl) ?_
  refine x_bipush B (by decide) dX12_far_5 ?_
  refine x_irem B (by omega) dX12_far_7 ?_
  refine x_isub B dX12_far_8 ?_
  refine x_cS B h k_X12_abs (c_X12_abs l D ca _ (((a % 8) - (b % 8)))  (by omega)) m_1747 rfl (by decide) hl.1 [] (Nat.le_of_ble_eq_true rfl) rfl dX12_far_9 (fun r w1 hq H locs h => ?_)
  obtain ⟨rfl, _, rfl, rfl⟩ := hq
  show W p l e r_c_X12_far s m args below meth c H locs 0 0 Qf (F0 m 12 ls [.int (iI (max (((a % 8) - (b % 8))) (-(((a % 8) - (b % 8))))))])
  refine lv_istore_n (lv' := [(2, .int (iI (max (((a % 8) - (b % 8))) (-(((a % 8) - (b % 8))))))), (0, .int (iI a)), (1, .int (iI b))]) B.1 B.2.1 dX12_far_12 rfl hl (by decide) rfl (fun ls hl => ?_)
  refine lv_iload_n B.1 B.2.1 dX12_far_13 rfl (lv_at hl 1 rfl) ?_
  refine x_bipush B (by decide) dX12_far_14 ?_
  refine x_idiv B (by omega) dX12_far_16 ?_
  refine lv_iload_n B.1 B.2.1 dX12_far_17 rfl (lv_at hl 2 rfl) ?_
  refine x_bipush B (by decide) dX12_far_18 ?_
  refine x_idiv B (by omega) dX12_far_20 ?_
  refine x_isub B dX12_far_21 ?_
  refine x_cS B h k_X12_abs (c_X12_abs l D ca _ (((a / 8) - (b / 8)))  (by omega)) m_1747 rfl (by decide) hl.1 [] (Nat.le_of_ble_eq_true rfl) rfl dX12_far_22 (fun r w1 hq H locs h => ?_)
  obtain ⟨rfl, _, rfl, rfl⟩ := hq
  show W p l e r_c_X12_far s m args below meth c H locs 0 0 Qf (F0 m 25 ls [.int (iI (max (((a / 8) - (b / 8))) (-(((a / 8) - (b / 8))))))])
  refine lv_istore_n (lv' := [(3, .int (iI (max (((a / 8) - (b / 8))) (-(((a / 8) - (b / 8))))))), (2, .int (iI (max (((a % 8) - (b % 8))) (-(((a % 8) - (b % 8))))))), (0, .int (iI a)), (1, .int (iI b))]) B.1 B.2.1 dX12_far_25 rfl hl (by decide) rfl (fun ls hl => ?_)
  refine lv_iload_n B.1 B.2.1 dX12_far_26 rfl (lv_at hl 1 rfl) ?_
  refine lv_iload_n B.1 B.2.1 dX12_far_27 rfl (lv_at hl 0 rfl) ?_
  refine x_icmp_le B (by omega) (tgt := 35) dX12_far_28 (by decide) (fun c3 => ?_) (fun c3 => ?_)
  · refine lv_iload_n B.1 B.2.1 dX12_far_35 rfl (lv_at hl 0 rfl) ?_
    refine x_ri B hQ h (by decide) dX12_far_36 ?_
    exact ⟨rfl, _, rfl, by omega⟩
  · refine lv_iload_n B.1 B.2.1 dX12_far_31 rfl (lv_at hl 1 rfl) ?_
    refine lv_goto (tgt := 36) B.1 B.2.1 dX12_far_32 (by decide) ?_
    refine x_ri B hQ h (by decide) dX12_far_36 ?_
    exact ⟨rfl, _, rfl, by omega⟩
abbrev r_c_X12_isNear : Room := { frames := 2, cells := 0, slots := 0, locals := 43 }
set_option maxHeartbeats 4000000 in
set_option maxRecDepth 100000 in
theorem c_X12_isNear (l : Launch) (D : va_G) (ca : Nat → ClassId) (w : xW) (watch : Int) (cell : Int) (am : Nat → Nat) (fr : Int) (to : Int) (rad : Int) (li : Int) (kk : Int) (f0 : w[0]? = some (am 0, xO 12 [fR (am 1), fX 0, fX 0, fX 0, fX 0, fX 1, fX 1, fR (am 2), fR (am 3), fR (am 4), fR (am 5), fR (am 6), fR (am 7), fR (am 8), fR (am 9), fR (am 10), fR (am 11), fR (am 12), fR (am 13), fR (am 14), fR (am 15), fR (am 16), fR (am 17), fX 0, fR (am 18), fR (am 19), fR (am 20), fR (am 21), fR (am 22), fR (am 23), fR (am 24), fR (am 25), fX 0, fX (-1), fG 0 0, fG 0 0, fG 0 0, fG 0 0, fG 0 0, fG 0 0, fG 0 0, fG 0 0, fL, fX 0, fR (am 26), fX 0, fX 0, fR (am 27), fR (am 28), fR (am 29), fR (am 30), fR (am 31), fX 0, fX 0, fX 0, fX 0, fR (am 32), fX 0, fX 0, fX 0, fX 0, fR (am 33), fR (am 34), fR (am 35), fX 0, fX 0, fR (am 36), fR (am 37), fR (am 38), fX fr, fX to, fX rad, fX li, fR (am 39), fX 0, fR (am 40), fR (am 41), fR (am 42), fR (am 43), fR (am 44)])) (f39 : w[39]? = some (am 39, xAI (ca 2) 3840 (gP kk ((fun _ => 1))))) (hw : fr ≤ watch ∧ watch ≤ to) (hc : 0 ≤ cell ∧ cell ≤ 63) (hf : 0 ≤ fr ∧ fr ≤ 999) (ht : fr ≤ to ∧ to ≤ 999) (hd : to - fr < 60) (hk : 64 * (watch - fr) + 64 ≤ kk ∧ kk ≤ 3840) : xC l D ca yX12_isNear cX12_isNear 5 (some .boolean) r_c_X12_isNear [.ref (am 0), .int (iI watch), .int (iI cell)] w (qZ w (True)) := by
  refine xC.of2 "WindWordsModel" (by decide) rfl (Nat.le_of_ble_eq_true rfl) ?_
  intro p e s m args below meth c A ls Qf B hnm h hl hQ
  have hl : lv_has ls 5 [(0, .ref (am 0)), (1, .int (iI watch)), (2, .int (iI cell))] := hl
  refine x_iconst B dX12_isNear_0 ?_
  refine lv_istore_n (lv' := [(3, .int (iI 0)), (0, .ref (am 0)), (1, .int (iI watch)), (2, .int (iI cell))]) B.1 B.2.1 dX12_isNear_1 rfl hl (by decide) rfl (fun ls hl => ?_)
  refine x_iconst B dX12_isNear_2 ?_
  refine lv_istore (lv' := [(4, .int (iI 0)), (3, .int (iI 0)), (0, .ref (am 0)), (1, .int (iI watch)), (2, .int (iI cell))]) B.1 B.2.1 dX12_isNear_3 hl (by decide) rfl (fun ls hl => ?_)
  have loop5 : ∀ (n5 : Nat) (i : Int) (v : Int), (0 ≤ i ∧ i ≤ 64) → ((v = 0 ∧ i ≤ cell) ∨ v = 1) → (64 - i : Int).toNat < n5 → ∀ (H : Heap) (locs : List Loc) (ls : Array Slot), xH D A s.heap w H locs → lv_has ls 5 [(0, .ref (am 0)), (1, .int (iI watch)), (2, .int (iI cell)), (3, .int (iI v)), (4, .int (iI i))] → W p l e r_c_X12_isNear s m args below meth c H locs 0 0 Qf (F0 m 5 ls []) := by
    intro n5
    induction n5 with
    | zero =>
      intro i v h0 h1 hm5 H locs ls h hl
      exact absurd hm5 (Nat.not_lt_zero _)
    | succ n5 ih5 =>
      intro i v h0 h1 hm5 H locs ls h hl
      refine lv_iload B.1 B.2.1 dX12_isNear_5 (lv_at hl 4 rfl) ?_
      refine x_bipush B (by decide) dX12_isNear_7 ?_
      refine x_icmp_ge B (by omega) (tgt := 58) dX12_isNear_9 (by decide) (fun c1 => ?_) (fun c1 => ?_)
      · refine lv_iload_n B.1 B.2.1 dX12_isNear_58 rfl (lv_at hl 3 rfl) ?_
        refine x_rz B hQ h (by decide) (by rw [show v = 1 by omega]; rfl) dX12_isNear_59 ?_
        exact ⟨rfl, Or.inl ⟨by rw [show v = 1 by omega], trivial⟩⟩
      · refine lv_iload_n B.1 B.2.1 dX12_isNear_12 rfl (lv_at hl 3 rfl) ?_
        refine x_if_ne B (by omega) (tgt := 46) dX12_isNear_13 (by decide) (fun c2 => ?_) (fun c2 => ?_)
        · refine x_iconst B dX12_isNear_46 ?_
          refine lv_goto (tgt := 51) B.1 B.2.1 dX12_isNear_47 (by decide) ?_
          refine lv_istore_n (lv' := [(3, .int (iI 1)), (0, .ref (am 0)), (1, .int (iI watch)), (2, .int (iI cell)), (4, .int (iI i))]) B.1 B.2.1 dX12_isNear_51 rfl hl (by decide) rfl (fun ls hl => ?_)
          refine lv_iinc (v := iI (i + 1)) (lv' := [(4, .int (iI (i + 1))), (3, .int (iI 1)), (0, .ref (am 0)), (1, .int (iI watch)), (2, .int (iI cell))]) B.1 B.2.1 dX12_isNear_52 hl (k := 4) rfl (iI_add _ _) (by decide) rfl (fun ls hl => ?_)
          refine lv_goto (tgt := 5) B.1 B.2.1 dX12_isNear_55 (by decide) ?_
          exact ih5 ((i + 1)) 1 (by omega) (by omega) (by omega) _ _ _ h (lv_sub hl [2, 3, 4, 1, 0] rfl)
        · refine lv_iload B.1 B.2.1 dX12_isNear_16 (lv_at hl 4 rfl) ?_
          refine lv_iload_n B.1 B.2.1 dX12_isNear_18 rfl (lv_at hl 2 rfl) ?_
          refine x_cS B h k_X12_far (c_X12_far l D ca _ i cell  (by omega) (by omega)) m_1744 rfl (by decide) hl.1 [] (Nat.le_of_ble_eq_true rfl) rfl dX12_isNear_19 (fun r w1 hq H locs h => ?_)
          obtain ⟨rfl, z3, rfl, hz3⟩ := hq
          show W p l e r_c_X12_isNear s m args below meth c H locs 0 0 Qf (F0 m 22 ls [.int (iI z3)])
          refine x_iconst B dX12_isNear_22 ?_
          refine x_icmp_gt B (by omega) (tgt := 50) dX12_isNear_23 (by decide) (fun c4 => ?_) (fun c4 => ?_)
          · refine x_iconst B dX12_isNear_50 ?_
            refine lv_istore_n (lv' := [(3, .int (iI 0)), (0, .ref (am 0)), (1, .int (iI watch)), (2, .int (iI cell)), (4, .int (iI i))]) B.1 B.2.1 dX12_isNear_51 rfl hl (by decide) rfl (fun ls hl => ?_)
            refine lv_iinc (v := iI (i + 1)) (lv' := [(4, .int (iI (i + 1))), (3, .int (iI 0)), (0, .ref (am 0)), (1, .int (iI watch)), (2, .int (iI cell))]) B.1 B.2.1 dX12_isNear_52 hl (k := 4) rfl (iI_add _ _) (by decide) rfl (fun ls hl => ?_)
            refine lv_goto (tgt := 5) B.1 B.2.1 dX12_isNear_55 (by decide) ?_
            exact ih5 ((i + 1)) 0 (by omega) (by omega) (by omega) _ _ _ h (lv_sub hl [2, 3, 4, 1, 0] rfl)
          · refine lv_aload_n B.1 B.2.1 dX12_isNear_26 rfl (lv_at hl 0 rfl) ?_
            refine x_getR B h kX12 0 f0 73 (b := am 39) rfl m_1334 (by decide) dX12_isNear_27 ?_
            refine x_bipush B (by decide) dX12_isNear_30 ?_
            refine lv_iload_n B.1 B.2.1 dX12_isNear_32 rfl (lv_at hl 1 rfl) ?_
            refine lv_aload_n B.1 B.2.1 dX12_isNear_33 rfl (lv_at hl 0 rfl) ?_
            refine x_getX B h kX12 0 f0 69 (z := fr) rfl m_1330 (by decide) dX12_isNear_34 ?_
            refine x_isub B dX12_isNear_37 ?_
            refine x_imul B dX12_isNear_38 ?_
            refine lv_iload B.1 B.2.1 dX12_isNear_39 (lv_at hl 4 rfl) ?_
            refine x_iadd B dX12_isNear_41 ?_
            refine x_zaldP B h 39 f39 (by omega) dX12_isNear_42 (z := 1) rfl ?_
            refine x_if_eq B (by omega) (tgt := 50) dX12_isNear_43 (by decide) (fun c5 => ?_) (fun c5 => ?_)
            · exact absurd c5 (by omega)
            · refine x_iconst B dX12_isNear_46 ?_
              refine lv_goto (tgt := 51) B.1 B.2.1 dX12_isNear_47 (by decide) ?_
              refine lv_istore_n (lv' := [(3, .int (iI 1)), (0, .ref (am 0)), (1, .int (iI watch)), (2, .int (iI cell)), (4, .int (iI i))]) B.1 B.2.1 dX12_isNear_51 rfl hl (by decide) rfl (fun ls hl => ?_)
              refine lv_iinc (v := iI (i + 1)) (lv' := [(4, .int (iI (i + 1))), (3, .int (iI 1)), (0, .ref (am 0)), (1, .int (iI watch)), (2, .int (iI cell))]) B.1 B.2.1 dX12_isNear_52 hl (k := 4) rfl (iI_add _ _) (by decide) rfl (fun ls hl => ?_)
              refine lv_goto (tgt := 5) B.1 B.2.1 dX12_isNear_55 (by decide) ?_
              exact ih5 ((i + 1)) 1 (by omega) (by omega) (by omega) _ _ _ h (lv_sub hl [2, 3, 4, 1, 0] rfl)
  exact loop5 ((64 - 0 : Int).toNat + 1) 0 0 (by omega) (by omega) (Nat.lt_succ_self _) _ _ _ h (lv_sub hl [2, 3, 4, 1, 0] rfl)
abbrev r_c_X12_agrees : Room := { frames := 0, cells := 0, slots := 0, locals := 0 }
set_option maxHeartbeats 4000000 in
set_option maxRecDepth 100000 in
theorem c_X12_agrees (l : Launch) (D : va_G) (ca : Nat → ClassId) (w : xW) (watch : Int) (cell : Int) (am : Nat → Nat) (fr : Int) (to : Int) (rad : Int) (li : Int) (f0 : w[0]? = some (am 0, xO 12 [fR (am 1), fX 0, fX 0, fX 0, fX 0, fX 1, fX 1, fR (am 2), fR (am 3), fR (am 4), fR (am 5), fR (am 6), fR (am 7), fR (am 8), fR (am 9), fR (am 10), fR (am 11), fR (am 12), fR (am 13), fR (am 14), fR (am 15), fR (am 16), fR (am 17), fX 0, fR (am 18), fR (am 19), fR (am 20), fR (am 21), fR (am 22), fR (am 23), fR (am 24), fR (am 25), fX 0, fX (-1), fG 0 0, fG 0 0, fG 0 0, fG 0 0, fG 0 0, fG 0 0, fG 0 0, fG 0 0, fL, fX 0, fR (am 26), fX 0, fX 0, fR (am 27), fR (am 28), fR (am 29), fR (am 30), fR (am 31), fX 0, fX 0, fX 0, fX 0, fR (am 32), fX 0, fX 0, fX 0, fX 0, fR (am 33), fR (am 34), fR (am 35), fX 0, fX 0, fR (am 36), fR (am 37), fR (am 38), fX fr, fX to, fX rad, fX li, fR (am 39), fX 0, fR (am 40), fR (am 41), fR (am 42), fR (am 43), fR (am 44)])) (hwatch : xr watch) (hcell : xr cell) : xC l D ca yX12_agrees cX12_agrees 5 (some .boolean) r_c_X12_agrees [.ref (am 0), .int (iI watch), .int (iI cell)] w (qZ w (True)) := by
  refine xC.of2 "WindWordsModel" (by decide) rfl (Nat.le_of_ble_eq_true rfl) ?_
  intro p e s m args below meth c A ls Qf B hnm h hl hQ
  have hl : lv_has ls 5 [(0, .ref (am 0)), (1, .int (iI watch)), (2, .int (iI cell))] := hl
  refine x_iconst B dX12_agrees_0 ?_
  refine lv_istore_n (lv' := [(3, .int (iI 1)), (0, .ref (am 0)), (1, .int (iI watch)), (2, .int (iI cell))]) B.1 B.2.1 dX12_agrees_1 rfl hl (by decide) rfl (fun ls hl => ?_)
  refine x_iconst B dX12_agrees_2 ?_
  refine lv_istore (lv' := [(4, .int (iI 0)), (3, .int (iI 1)), (0, .ref (am 0)), (1, .int (iI watch)), (2, .int (iI cell))]) B.1 B.2.1 dX12_agrees_3 hl (by decide) rfl (fun ls hl => ?_)
  refine lv_iload B.1 B.2.1 dX12_agrees_5 (lv_at hl 0 rfl) ?_
  refine lv_aload_n B.1 B.2.1 dX12_agrees_7 rfl (lv_at hl 2 rfl) ?_
  refine x_getX B h kX12 0 f0 4 (z := 0) rfl m_1265 (by decide) dX12_agrees_8 ?_
  refine x_icmp_ge B (by omega) (tgt := 107) dX12_agrees_11 (by decide) (fun c1 => ?_) (fun c1 => ?_)
  · refine lv_iload_n B.1 B.2.1 dX12_agrees_107 rfl (lv_at hl 1 rfl) ?_
    refine x_rz B hQ h (by decide) (by decide) dX12_agrees_108 ?_
    exact ⟨rfl, Or.inl ⟨rfl, trivial⟩⟩
  · exact absurd c1 (by omega)
abbrev r_c_X12_findWays : Room := { frames := 3, cells := 0, slots := 0, locals := 67 }
set_option maxHeartbeats 4000000 in
set_option maxRecDepth 100000 in
theorem c_X12_findWays (l : Launch) (D : va_G) (ca : Nat → ClassId) (w : xW) (am : Nat → Nat) (fr : Int) (to : Int) (rad : Int) (li : Int) (f0 : w[0]? = some (am 0, xO 12 [fR (am 1), fX 0, fX 0, fX 0, fX 0, fX 1, fX 1, fR (am 2), fR (am 3), fR (am 4), fR (am 5), fR (am 6), fR (am 7), fR (am 8), fR (am 9), fR (am 10), fR (am 11), fR (am 12), fR (am 13), fR (am 14), fR (am 15), fR (am 16), fR (am 17), fX 0, fR (am 18), fR (am 19), fR (am 20), fR (am 21), fR (am 22), fR (am 23), fR (am 24), fR (am 25), fX 0, fX (-1), fG 0 0, fG 0 0, fG 0 0, fG 0 0, fG 0 0, fG 0 0, fG 0 0, fG 0 0, fL, fX 0, fR (am 26), fX 0, fX 0, fR (am 27), fR (am 28), fR (am 29), fR (am 30), fR (am 31), fX 0, fX 0, fX 0, fX 0, fR (am 32), fX 0, fX 0, fX 0, fX 0, fR (am 33), fR (am 34), fR (am 35), fX 0, fX 0, fR (am 36), fR (am 37), fR (am 38), fX fr, fX to, fX rad, fX li, fR (am 39), fX 0, fR (am 40), fR (am 41), fR (am 42), fR (am 43), fR (am 44)])) (f39 : w[39]? = some (am 39, xAI (ca 2) 3840 gA)) (hf : 0 ≤ fr ∧ fr ≤ 999) (ht : fr ≤ to ∧ to ≤ 999) (hd : to - fr < 60) : xC l D ca yX12_findWays cX12_findWays 3 none r_c_X12_findWays [.ref (am 0)] w (qV (w.set 39 (am 39, xAI (ca 2) 3840 (gP (64 * ((to - fr) + 1)) ((fun _ => 1)))))) := by
  refine xC.of2 "WindWordsModel" (by decide) rfl (Nat.le_of_ble_eq_true rfl) ?_
  intro p e s m args below meth c A ls Qf B hnm h hl hQ
  have hl : lv_has ls 3 [(0, .ref (am 0))] := hl
  refine lv_aload_n B.1 B.2.1 dX12_findWays_0 rfl (lv_at hl 0 rfl) ?_
  refine x_getX B h kX12 0 f0 69 (z := fr) rfl m_1330 (by decide) dX12_findWays_1 ?_
  refine lv_istore_n (lv' := [(1, .int (iI fr)), (0, .ref (am 0))]) B.1 B.2.1 dX12_findWays_4 rfl hl (by decide) rfl (fun ls hl => ?_)
  have h := xH.weak (P' := xAI (ca 2) 3840 (gP ((64 * (fr - fr)) + 0) ((fun _ => 1)))) h f39 (fun e he => by obtain ⟨f, rfl, _⟩ := he; exact ⟨f, rfl, fun j hj => by omega⟩)
  have h : xH D A s.heap (w.set 39 (am 39, xAI (ca 2) 3840 (gP ((64 * (fr - fr)) + 0) ((fun _ => 1))))) _ _ := h
  have loop5 : ∀ (n5 : Nat) (wt : Int), (fr ≤ wt ∧ wt ≤ to + 1) → (to + 1 - wt : Int).toNat < n5 → ∀ (H : Heap) (locs : List Loc) (ls : Array Slot), xH D A s.heap ((w.set 39 (am 39, xAI (ca 2) 3840 (gP ((64 * (wt - fr)) + 0) ((fun _ => 1)))))) H locs → lv_has ls 3 [(0, .ref (am 0)), (1, .int (iI wt))] → W p l e r_c_X12_findWays s m args below meth c H locs 0 0 Qf (F0 m 5 ls []) := by
    intro n5
    induction n5 with
    | zero =>
      intro wt h0 hm5 H locs ls h hl
      exact absurd hm5 (Nat.not_lt_zero _)
    | succ n5 ih5 =>
      intro wt h0 hm5 H locs ls h hl
      refine lv_iload_n B.1 B.2.1 dX12_findWays_5 rfl (lv_at hl 1 rfl) ?_
      refine lv_aload_n B.1 B.2.1 dX12_findWays_6 rfl (lv_at hl 0 rfl) ?_
      refine x_getX B h kX12 0 (xset_ne f0 (by decide)) 70 (z := to) rfl m_1331 (by decide) dX12_findWays_7 ?_
      refine x_icmp_gt B (by omega) (tgt := 82) dX12_findWays_10 (by decide) (fun c1 => ?_) (fun c1 => ?_)
      · have h := xH.weak (P' := xAI (ca 2) 3840 (gP (64 * ((to - fr) + 1)) ((fun _ => 1)))) h (xset_eq f39) (fun e he => by obtain ⟨f, rfl, hf⟩ := he; exact ⟨f, rfl, gP_less (by omega) _ hf⟩)
        have h : xH D A s.heap (w.set 39 (am 39, xAI (ca 2) 3840 (gP (64 * ((to - fr) + 1)) ((fun _ => 1))))) H locs := by rw [List.set_set] at h; exact h
        refine lv_aload_n B.1 B.2.1 dX12_findWays_82 rfl (lv_at hl 0 rfl) ?_
        refine x_getX B h kX12 0 (xset_ne f0 (by decide)) 70 (z := to) rfl m_1331 (by decide) dX12_findWays_83 ?_
        refine x_iconst B dX12_findWays_86 ?_
        refine x_isub B dX12_findWays_87 ?_
        refine lv_istore_n (lv' := [(1, .int (iI (to - 1))), (0, .ref (am 0))]) B.1 B.2.1 dX12_findWays_88 rfl hl (by decide) rfl (fun ls hl => ?_)
        have loop89 : ∀ (n89 : Nat) (wt : Int), (fr - 1 ≤ wt ∧ wt + 1 ≤ to) → (wt - fr + 1 : Int).toNat < n89 → ∀ (H : Heap) (locs : List Loc) (ls : Array Slot), xH D A s.heap ((w.set 39 (am 39, xAI (ca 2) 3840 (gP (64 * ((to - fr) + 1)) ((fun _ => 1)))))) H locs → lv_has ls 3 [(0, .ref (am 0)), (1, .int (iI wt))] → W p l e r_c_X12_findWays s m args below meth c H locs 0 0 Qf (F0 m 89 ls []) := by
          intro n89
          induction n89 with
          | zero =>
            intro wt h0 hm89 H locs ls h hl
            exact absurd hm89 (Nat.not_lt_zero _)
          | succ n89 ih89 =>
            intro wt h0 hm89 H locs ls h hl
            refine lv_iload_n B.1 B.2.1 dX12_findWays_89 rfl (lv_at hl 1 rfl) ?_
            refine lv_aload_n B.1 B.2.1 dX12_findWays_90 rfl (lv_at hl 0 rfl) ?_
            refine x_getX B h kX12 0 (xset_ne f0 (by decide)) 69 (z := fr) rfl m_1330 (by decide) dX12_findWays_91 ?_
            refine x_icmp_lt B (by omega) (tgt := 168) dX12_findWays_94 (by decide) (fun c2 => ?_) (fun c2 => ?_)
            · refine x_rv B hQ h (by decide) dX12_findWays_168 ?_
              exact ⟨rfl, rfl⟩
            · refine x_iconst B dX12_findWays_97 ?_
              refine lv_istore_n (lv' := [(2, .int (iI 0)), (0, .ref (am 0)), (1, .int (iI wt))]) B.1 B.2.1 dX12_findWays_98 rfl hl (by decide) rfl (fun ls hl => ?_)
              have loop99 : ∀ (n99 : Nat) (ct : Int), (0 ≤ ct ∧ ct ≤ 64) → (64 - ct : Int).toNat < n99 → ∀ (H : Heap) (locs : List Loc) (ls : Array Slot), xH D A s.heap ((w.set 39 (am 39, xAI (ca 2) 3840 (gP (64 * ((to - fr) + 1)) ((fun _ => 1)))))) H locs → lv_has ls 3 [(0, .ref (am 0)), (1, .int (iI wt)), (2, .int (iI ct))] → W p l e r_c_X12_findWays s m args below meth c H locs 0 0 Qf (F0 m 99 ls []) := by
                intro n99
                induction n99 with
                | zero =>
                  intro ct h1 hm99 H locs ls h hl
                  exact absurd hm99 (Nat.not_lt_zero _)
                | succ n99 ih99 =>
                  intro ct h1 hm99 H locs ls h hl
                  refine lv_iload_n B.1 B.2.1 dX12_findWays_99 rfl (lv_at hl 2 rfl) ?_
                  refine x_bipush B (by decide) dX12_findWays_100 ?_
                  refine x_icmp_ge B (by omega) (tgt := 162) dX12_findWays_102 (by decide) (fun c3 => ?_) (fun c3 => ?_)
                  · refine lv_iinc (v := iI (wt + (-1))) (lv' := [(1, .int (iI (wt + (-1)))), (0, .ref (am 0)), (2, .int (iI ct))]) B.1 B.2.1 dX12_findWays_162 hl (k := 1) rfl (iI_add _ _) (by decide) rfl (fun ls hl => ?_)
                    refine lv_goto (tgt := 89) B.1 B.2.1 dX12_findWays_165 (by decide) ?_
                    exact ih89 ((wt + (-1))) (by omega) (by omega) _ _ _ h (lv_sub hl [1, 0] rfl)
                  · refine lv_aload_n B.1 B.2.1 dX12_findWays_105 rfl (lv_at hl 0 rfl) ?_
                    refine x_getR B h kX12 0 (xset_ne f0 (by decide)) 73 (b := am 39) rfl m_1334 (by decide) dX12_findWays_106 ?_
                    refine x_bipush B (by decide) dX12_findWays_109 ?_
                    refine lv_iload_n B.1 B.2.1 dX12_findWays_111 rfl (lv_at hl 1 rfl) ?_
                    refine lv_aload_n B.1 B.2.1 dX12_findWays_112 rfl (lv_at hl 0 rfl) ?_
                    refine x_getX B h kX12 0 (xset_ne f0 (by decide)) 69 (z := fr) rfl m_1330 (by decide) dX12_findWays_113 ?_
                    refine x_isub B dX12_findWays_116 ?_
                    refine x_imul B dX12_findWays_117 ?_
                    refine lv_iload_n B.1 B.2.1 dX12_findWays_118 rfl (lv_at hl 2 rfl) ?_
                    refine x_iadd B dX12_findWays_119 ?_
                    refine lv_aload_n B.1 B.2.1 dX12_findWays_120 rfl (lv_at hl 0 rfl) ?_
                    refine x_getR B h kX12 0 (xset_ne f0 (by decide)) 73 (b := am 39) rfl m_1334 (by decide) dX12_findWays_121 ?_
                    refine x_bipush B (by decide) dX12_findWays_124 ?_
                    refine lv_iload_n B.1 B.2.1 dX12_findWays_126 rfl (lv_at hl 1 rfl) ?_
                    refine lv_aload_n B.1 B.2.1 dX12_findWays_127 rfl (lv_at hl 0 rfl) ?_
                    refine x_getX B h kX12 0 (xset_ne f0 (by decide)) 69 (z := fr) rfl m_1330 (by decide) dX12_findWays_128 ?_
                    refine x_isub B dX12_findWays_131 ?_
                    refine x_imul B dX12_findWays_132 ?_
                    refine lv_iload_n B.1 B.2.1 dX12_findWays_133 rfl (lv_at hl 2 rfl) ?_
                    refine x_iadd B dX12_findWays_134 ?_
                    refine x_zaldP B h 39 (xset_eq f39) (by omega) dX12_findWays_135 (z := 1) rfl ?_
                    refine x_if_eq B (by omega) (tgt := 154) dX12_findWays_136 (by decide) (fun c4 => ?_) (fun c4 => ?_)
                    · exact absurd c4 (by omega)
                    · refine lv_aload_n B.1 B.2.1 dX12_findWays_139 rfl (lv_at hl 0 rfl) ?_
                      refine lv_iload_n B.1 B.2.1 dX12_findWays_140 rfl (lv_at hl 1 rfl) ?_
                      refine x_iconst B dX12_findWays_141 ?_
                      refine x_iadd B dX12_findWays_142 ?_
                      refine lv_iload_n B.1 B.2.1 dX12_findWays_143 rfl (lv_at hl 2 rfl) ?_
                      refine x_cV B h kX12 0 (xset_ne f0 (by decide)) k_X12_isNear rfl (c_X12_isNear l D ca _ ((wt + 1)) ct am _ _ _ _ _ (xset_ne f0 (by decide)) (xset_eq f39) (by omega) (by omega) (by omega) (by omega) (by omega) (by omega)) m_1872 rfl (by decide) hl.1 [.int (iI ((64 * (wt - fr)) + ct)), .ref (am 39)] (Nat.le_of_ble_eq_true rfl) rfl dX12_findWays_144 (fun r w1 hq H locs h => ?_)
                      obtain ⟨rfl, ⟨rfl, b5⟩ | ⟨rfl, b5⟩⟩ := hq
                      · show W p l e r_c_X12_findWays s m args below meth c H locs 0 0 Qf (F0 m 147 ls [.int (iI 1), .int (iI ((64 * (wt - fr)) + ct)), .ref (am 39)])
                        refine x_if_eq B (by omega) (tgt := 154) dX12_findWays_147 (by decide) (fun c6 => ?_) (fun c6 => ?_)
                        · exact absurd c6 (by omega)
                        · refine x_iconst B dX12_findWays_150 ?_
                          refine lv_goto (tgt := 155) B.1 B.2.1 dX12_findWays_151 (by decide) ?_
                          refine x_zast B h 39 (xset_eq f39) (by omega) (P' := gP (64 * ((to - fr) + 1)) ((fun _ => 1))) (gP_putZ) dX12_findWays_155 (fun H locs h => ?_)
                          have h : xH D A s.heap (w.set 39 (am 39, xAI (ca 2) 3840 (gP (64 * ((to - fr) + 1)) ((fun _ => 1))))) H locs := by rw [List.set_set] at h; exact h
                          refine lv_iinc (v := iI (ct + 1)) (lv' := [(2, .int (iI (ct + 1))), (0, .ref (am 0)), (1, .int (iI wt))]) B.1 B.2.1 dX12_findWays_156 hl (k := 2) rfl (iI_add _ _) (by decide) rfl (fun ls hl => ?_)
                          refine lv_goto (tgt := 99) B.1 B.2.1 dX12_findWays_159 (by decide) ?_
                          exact ih99 ((ct + 1)) (by omega) (by omega) _ _ _ h (lv_sub hl [1, 2, 0] rfl)
                      · exact (b5 trivial).elim
              exact loop99 ((64 - 0 : Int).toNat + 1) 0 (by omega) (Nat.lt_succ_self _) _ _ _ h (lv_sub hl [1, 2, 0] rfl)
        exact loop89 ((((to - 1)) - fr + 1 : Int).toNat + 1) ((to - 1)) (by omega) (Nat.lt_succ_self _) _ _ _ h (lv_sub hl [1, 0] rfl)
      · refine x_iconst B dX12_findWays_13 ?_
        refine lv_istore_n (lv' := [(2, .int (iI 0)), (0, .ref (am 0)), (1, .int (iI wt))]) B.1 B.2.1 dX12_findWays_14 rfl hl (by decide) rfl (fun ls hl => ?_)
        have h := xH.weak (P' := xAI (ca 2) 3840 (gP ((64 * (wt - fr)) + 0) ((fun _ => 1)))) h (xset_eq f39) (fun e he => he)
        have h : xH D A s.heap (w.set 39 (am 39, xAI (ca 2) 3840 (gP ((64 * (wt - fr)) + 0) ((fun _ => 1))))) H locs := by rw [List.set_set] at h; exact h
        have loop15 : ∀ (n15 : Nat) (ct : Int), (0 ≤ ct ∧ ct ≤ 64) → (64 - ct : Int).toNat < n15 → ∀ (H : Heap) (locs : List Loc) (ls : Array Slot), xH D A s.heap ((w.set 39 (am 39, xAI (ca 2) 3840 (gP ((64 * (wt - fr)) + ct) ((fun _ => 1)))))) H locs → lv_has ls 3 [(0, .ref (am 0)), (1, .int (iI wt)), (2, .int (iI ct))] → W p l e r_c_X12_findWays s m args below meth c H locs 0 0 Qf (F0 m 15 ls []) := by
          intro n15
          induction n15 with
          | zero =>
            intro ct h1 hm15 H locs ls h hl
            exact absurd hm15 (Nat.not_lt_zero _)
          | succ n15 ih15 =>
            intro ct h1 hm15 H locs ls h hl
            refine lv_iload_n B.1 B.2.1 dX12_findWays_15 rfl (lv_at hl 2 rfl) ?_
            refine x_bipush B (by decide) dX12_findWays_16 ?_
            refine x_icmp_ge B (by omega) (tgt := 76) dX12_findWays_18 (by decide) (fun c7 => ?_) (fun c7 => ?_)
            · have h := xH.weak (P' := xAI (ca 2) 3840 (gP ((64 * ((wt + 1) - fr)) + 0) ((fun _ => 1)))) h (xset_eq f39) (fun e he => by obtain ⟨f, rfl, hf⟩ := he; exact ⟨f, rfl, gP_less (by omega) _ hf⟩)
              have h : xH D A s.heap (w.set 39 (am 39, xAI (ca 2) 3840 (gP ((64 * ((wt + 1) - fr)) + 0) ((fun _ => 1))))) H locs := by rw [List.set_set] at h; exact h
              refine lv_iinc (v := iI (wt + 1)) (lv' := [(1, .int (iI (wt + 1))), (0, .ref (am 0)), (2, .int (iI ct))]) B.1 B.2.1 dX12_findWays_76 hl (k := 1) rfl (iI_add _ _) (by decide) rfl (fun ls hl => ?_)
              refine lv_goto (tgt := 5) B.1 B.2.1 dX12_findWays_79 (by decide) ?_
              exact ih5 ((wt + 1)) (by omega) (by omega) _ _ _ h (lv_sub hl [1, 0] rfl)
            · refine lv_aload_n B.1 B.2.1 dX12_findWays_21 rfl (lv_at hl 0 rfl) ?_
              refine x_getR B h kX12 0 (xset_ne f0 (by decide)) 73 (b := am 39) rfl m_1334 (by decide) dX12_findWays_22 ?_
              refine x_bipush B (by decide) dX12_findWays_25 ?_
              refine lv_iload_n B.1 B.2.1 dX12_findWays_27 rfl (lv_at hl 1 rfl) ?_
              refine lv_aload_n B.1 B.2.1 dX12_findWays_28 rfl (lv_at hl 0 rfl) ?_
              refine x_getX B h kX12 0 (xset_ne f0 (by decide)) 69 (z := fr) rfl m_1330 (by decide) dX12_findWays_29 ?_
              refine x_isub B dX12_findWays_32 ?_
              refine x_imul B dX12_findWays_33 ?_
              refine lv_iload_n B.1 B.2.1 dX12_findWays_34 rfl (lv_at hl 2 rfl) ?_
              refine x_iadd B dX12_findWays_35 ?_
              refine lv_aload_n B.1 B.2.1 dX12_findWays_36 rfl (lv_at hl 0 rfl) ?_
              refine lv_iload_n B.1 B.2.1 dX12_findWays_37 rfl (lv_at hl 1 rfl) ?_
              refine lv_iload_n B.1 B.2.1 dX12_findWays_38 rfl (lv_at hl 2 rfl) ?_
              refine x_cV B h kX12 0 (xset_ne f0 (by decide)) k_X12_agrees rfl (c_X12_agrees l D ca _ wt ct am fr to rad li (xset_ne f0 (by decide)) (by omega) (by omega)) m_1868 rfl (by decide) hl.1 [.int (iI ((64 * (wt - fr)) + ct)), .ref (am 39)] (Nat.le_of_ble_eq_true rfl) rfl dX12_findWays_39 (fun r w1 hq H locs h => ?_)
              obtain ⟨rfl, ⟨rfl, b8⟩ | ⟨rfl, b8⟩⟩ := hq
              · show W p l e r_c_X12_findWays s m args below meth c H locs 0 0 Qf (F0 m 42 ls [.int (iI 1), .int (iI ((64 * (wt - fr)) + ct)), .ref (am 39)])
                refine x_if_eq B (by omega) (tgt := 68) dX12_findWays_42 (by decide) (fun c9 => ?_) (fun c9 => ?_)
                · exact absurd c9 (by omega)
                · refine lv_iload_n B.1 B.2.1 dX12_findWays_45 rfl (lv_at hl 1 rfl) ?_
                  refine lv_aload_n B.1 B.2.1 dX12_findWays_46 rfl (lv_at hl 0 rfl) ?_
                  refine x_getX B h kX12 0 (xset_ne f0 (by decide)) 69 (z := fr) rfl m_1330 (by decide) dX12_findWays_47 ?_
                  refine x_icmp_eq B (by omega) (tgt := 64) dX12_findWays_50 (by decide) (fun c10 => ?_) (fun c10 => ?_)
                  · refine x_iconst B dX12_findWays_64 ?_
                    refine lv_goto (tgt := 69) B.1 B.2.1 dX12_findWays_65 (by decide) ?_
                    refine x_zast B h 39 (xset_eq f39) (by omega) (P' := gP ((64 * (wt - fr)) + (ct + 1)) ((fun _ => 1))) (gP_nextZ2 ⟨by omega, by omega⟩) dX12_findWays_69 (fun H locs h => ?_)
                    have h : xH D A s.heap (w.set 39 (am 39, xAI (ca 2) 3840 (gP ((64 * (wt - fr)) + (ct + 1)) ((fun _ => 1))))) H locs := by rw [List.set_set] at h; exact h
                    refine lv_iinc (v := iI (ct + 1)) (lv' := [(2, .int (iI (ct + 1))), (0, .ref (am 0)), (1, .int (iI wt))]) B.1 B.2.1 dX12_findWays_70 hl (k := 2) rfl (iI_add _ _) (by decide) rfl (fun ls hl => ?_)
                    refine lv_goto (tgt := 15) B.1 B.2.1 dX12_findWays_73 (by decide) ?_
                    exact ih15 ((ct + 1)) (by omega) (by omega) _ _ _ h (lv_sub hl [1, 2, 0] rfl)
                  · refine lv_aload_n B.1 B.2.1 dX12_findWays_53 rfl (lv_at hl 0 rfl) ?_
                    refine lv_iload_n B.1 B.2.1 dX12_findWays_54 rfl (lv_at hl 1 rfl) ?_
                    refine x_iconst B dX12_findWays_55 ?_
                    refine x_isub B dX12_findWays_56 ?_
                    refine lv_iload_n B.1 B.2.1 dX12_findWays_57 rfl (lv_at hl 2 rfl) ?_
                    refine x_cV B h kX12 0 (xset_ne f0 (by decide)) k_X12_isNear rfl (c_X12_isNear l D ca _ ((wt - 1)) ct am fr to rad li (((64 * (wt - fr)) + ct)) (xset_ne f0 (by decide)) (xset_eq f39) (by omega) (by omega) (by omega) (by omega) (by omega) (by omega)) m_1872 rfl (by decide) hl.1 [.int (iI ((64 * (wt - fr)) + ct)), .ref (am 39)] (Nat.le_of_ble_eq_true rfl) rfl dX12_findWays_58 (fun r w1 hq H locs h => ?_)
                    obtain ⟨rfl, ⟨rfl, b11⟩ | ⟨rfl, b11⟩⟩ := hq
                    · show W p l e r_c_X12_findWays s m args below meth c H locs 0 0 Qf (F0 m 61 ls [.int (iI 1), .int (iI ((64 * (wt - fr)) + ct)), .ref (am 39)])
                      refine x_if_eq B (by omega) (tgt := 68) dX12_findWays_61 (by decide) (fun c12 => ?_) (fun c12 => ?_)
                      · exact absurd c12 (by omega)
                      · refine x_iconst B dX12_findWays_64 ?_
                        refine lv_goto (tgt := 69) B.1 B.2.1 dX12_findWays_65 (by decide) ?_
                        refine x_zast B h 39 (xset_eq f39) (by omega) (P' := gP ((64 * (wt - fr)) + (ct + 1)) ((fun _ => 1))) (gP_nextZ2 ⟨by omega, by omega⟩) dX12_findWays_69 (fun H locs h => ?_)
                        have h : xH D A s.heap (w.set 39 (am 39, xAI (ca 2) 3840 (gP ((64 * (wt - fr)) + (ct + 1)) ((fun _ => 1))))) H locs := by rw [List.set_set] at h; exact h
                        refine lv_iinc (v := iI (ct + 1)) (lv' := [(2, .int (iI (ct + 1))), (0, .ref (am 0)), (1, .int (iI wt))]) B.1 B.2.1 dX12_findWays_70 hl (k := 2) rfl (iI_add _ _) (by decide) rfl (fun ls hl => ?_)
                        refine lv_goto (tgt := 15) B.1 B.2.1 dX12_findWays_73 (by decide) ?_
                        exact ih15 ((ct + 1)) (by omega) (by omega) _ _ _ h (lv_sub hl [1, 2, 0] rfl)
                    · exact (b11 trivial).elim
              · exact (b8 trivial).elim
        exact loop15 ((64 - 0 : Int).toNat + 1) 0 (by omega) (Nat.lt_succ_self _) _ _ _ h (lv_sub hl [1, 2, 0] rfl)
  exact loop5 ((to + 1 - fr : Int).toNat + 1) fr (by omega) (Nat.lt_succ_self _) _ _ _ h (lv_sub hl [1, 0] rfl)
abbrev r_c_X12_cellsOn : Room := { frames := 0, cells := 0, slots := 0, locals := 0 }
set_option maxHeartbeats 4000000 in
set_option maxRecDepth 100000 in
theorem c_X12_cellsOn (l : Launch) (D : va_G) (ca : Nat → ClassId) (w : xW) (am : Nat → Nat) (fr : Int) (to : Int) (rad : Int) (li : Int) (f0 : w[0]? = some (am 0, xO 12 [fR (am 1), fX 0, fX 0, fX 0, fX 0, fX 1, fX 1, fR (am 2), fR (am 3), fR (am 4), fR (am 5), fR (am 6), fR (am 7), fR (am 8), fR (am 9), fR (am 10), fR (am 11), fR (am 12), fR (am 13), fR (am 14), fR (am 15), fR (am 16), fR (am 17), fX 0, fR (am 18), fR (am 19), fR (am 20), fR (am 21), fR (am 22), fR (am 23), fR (am 24), fR (am 25), fX 0, fX (-1), fG 0 0, fG 0 0, fG 0 0, fG 0 0, fG 0 0, fG 0 0, fG 0 0, fG 0 0, fL, fX 0, fR (am 26), fX 0, fX 0, fR (am 27), fR (am 28), fR (am 29), fR (am 30), fR (am 31), fX 0, fX 0, fX 0, fX 0, fR (am 32), fX 0, fX 0, fX 0, fX 0, fR (am 33), fR (am 34), fR (am 35), fX 0, fX 0, fR (am 36), fR (am 37), fR (am 38), fX fr, fX to, fX rad, fX li, fR (am 39), fX 0, fR (am 40), fR (am 41), fR (am 42), fR (am 43), fR (am 44)])) (f39 : w[39]? = some (am 39, xAI (ca 2) 3840 (gP (64 * ((to - fr) + 1)) ((fun _ => 1))))) (hf : 0 ≤ fr ∧ fr ≤ 999) (ht : fr ≤ to ∧ to ≤ 999) (hd : to - fr < 60) : xC l D ca yX12_cellsOn cX12_cellsOn 4 (some .int) r_c_X12_cellsOn [.ref (am 0), .int (iI fr)] w (qI w (fun z => z = 64)) := by
  refine xC.of2 "WindWordsModel" (by decide) rfl (Nat.le_of_ble_eq_true rfl) ?_
  intro p e s m args below meth c A ls Qf B hnm h hl hQ
  have hl : lv_has ls 4 [(0, .ref (am 0)), (1, .int (iI fr))] := hl
  refine x_iconst B dX12_cellsOn_0 ?_
  refine lv_istore_n (lv' := [(2, .int (iI 0)), (0, .ref (am 0)), (1, .int (iI fr))]) B.1 B.2.1 dX12_cellsOn_1 rfl hl (by decide) rfl (fun ls hl => ?_)
  refine x_iconst B dX12_cellsOn_2 ?_
  refine lv_istore_n (lv' := [(3, .int (iI 0)), (2, .int (iI 0)), (0, .ref (am 0)), (1, .int (iI fr))]) B.1 B.2.1 dX12_cellsOn_3 rfl hl (by decide) rfl (fun ls hl => ?_)
  have loop4 : ∀ (n4 : Nat) (i : Int), (0 ≤ i ∧ i ≤ 64) → (64 - i : Int).toNat < n4 → ∀ (H : Heap) (locs : List Loc) (ls : Array Slot), xH D A s.heap w H locs → lv_has ls 4 [(0, .ref (am 0)), (1, .int (iI fr)), (2, .int (iI i)), (3, .int (iI i))] → W p l e r_c_X12_cellsOn s m args below meth c H locs 0 0 Qf (F0 m 4 ls []) := by
    intro n4
    induction n4 with
    | zero =>
      intro i h0 hm4 H locs ls h hl
      exact absurd hm4 (Nat.not_lt_zero _)
    | succ n4 ih4 =>
      intro i h0 hm4 H locs ls h hl
      refine lv_iload_n B.1 B.2.1 dX12_cellsOn_4 rfl (lv_at hl 3 rfl) ?_
      refine x_bipush B (by decide) dX12_cellsOn_5 ?_
      refine x_icmp_ge B (by omega) (tgt := 43) dX12_cellsOn_7 (by decide) (fun c1 => ?_) (fun c1 => ?_)
      · refine lv_iload_n B.1 B.2.1 dX12_cellsOn_43 rfl (lv_at hl 2 rfl) ?_
        refine x_ri B hQ h (by decide) dX12_cellsOn_44 ?_
        exact ⟨rfl, _, rfl, by omega⟩
      · refine lv_iload_n B.1 B.2.1 dX12_cellsOn_10 rfl (lv_at hl 2 rfl) ?_
        refine lv_aload_n B.1 B.2.1 dX12_cellsOn_11 rfl (lv_at hl 0 rfl) ?_
        refine x_getR B h kX12 0 f0 73 (b := am 39) rfl m_1334 (by decide) dX12_cellsOn_12 ?_
        refine x_bipush B (by decide) dX12_cellsOn_15 ?_
        refine lv_iload_n B.1 B.2.1 dX12_cellsOn_17 rfl (lv_at hl 1 rfl) ?_
        refine lv_aload_n B.1 B.2.1 dX12_cellsOn_18 rfl (lv_at hl 0 rfl) ?_
        refine x_getX B h kX12 0 f0 69 (z := fr) rfl m_1330 (by decide) dX12_cellsOn_19 ?_
        refine x_isub B dX12_cellsOn_22 ?_
        refine x_imul B dX12_cellsOn_23 ?_
        refine lv_iload_n B.1 B.2.1 dX12_cellsOn_24 rfl (lv_at hl 3 rfl) ?_
        refine x_iadd B dX12_cellsOn_25 ?_
        refine x_zaldP B h 39 f39 (by omega) dX12_cellsOn_26 (z := 1) rfl ?_
        refine x_if_eq B (by omega) (tgt := 34) dX12_cellsOn_27 (by decide) (fun c2 => ?_) (fun c2 => ?_)
        · exact absurd c2 (by omega)
        · refine x_iconst B dX12_cellsOn_30 ?_
          refine lv_goto (tgt := 35) B.1 B.2.1 dX12_cellsOn_31 (by decide) ?_
          refine x_iadd B dX12_cellsOn_35 ?_
          refine lv_istore_n (lv' := [(2, .int (iI (i + 1))), (0, .ref (am 0)), (1, .int (iI fr)), (3, .int (iI i))]) B.1 B.2.1 dX12_cellsOn_36 rfl hl (by decide) rfl (fun ls hl => ?_)
          refine lv_iinc (v := iI (i + 1)) (lv' := [(3, .int (iI (i + 1))), (2, .int (iI (i + 1))), (0, .ref (am 0)), (1, .int (iI fr))]) B.1 B.2.1 dX12_cellsOn_37 hl (k := 3) rfl (iI_add _ _) (by decide) rfl (fun ls hl => ?_)
          refine lv_goto (tgt := 4) B.1 B.2.1 dX12_cellsOn_40 (by decide) ?_
          exact ih4 ((i + 1)) (by omega) (by omega) _ _ _ h (lv_sub hl [2, 3, 1, 0] rfl)
  exact loop4 ((64 - 0 : Int).toNat + 1) 0 (by omega) (Nat.lt_succ_self _) _ _ _ h (lv_sub hl [2, 3, 1, 0] rfl)
abbrev r_c_X12_storm : Room := { frames := 4, cells := 0, slots := 0, locals := 89 }
set_option maxHeartbeats 4000000 in
set_option maxRecDepth 100000 in
theorem c_X12_storm (l : Launch) (D : va_G) (ca : Nat → ClassId) (w : xW) (fr : Int) (to : Int) (rad : Int) (li : Int) (am : Nat → Nat) (f0 : w[0]? = some (am 0, xO 12 [fR (am 1), fX 0, fX 0, fX 0, fX 0, fX 1, fX 1, fR (am 2), fR (am 3), fR (am 4), fR (am 5), fR (am 6), fR (am 7), fR (am 8), fR (am 9), fR (am 10), fR (am 11), fR (am 12), fR (am 13), fR (am 14), fR (am 15), fR (am 16), fR (am 17), fX 0, fR (am 18), fR (am 19), fR (am 20), fR (am 21), fR (am 22), fR (am 23), fR (am 24), fR (am 25), fX 0, fX (-1), fG 0 0, fG 0 0, fG 0 0, fG 0 0, fG 0 0, fG 0 0, fG 0 0, fG 0 0, fL, fX 0, fR (am 26), fX 0, fX 0, fR (am 27), fR (am 28), fR (am 29), fR (am 30), fR (am 31), fX 0, fX 0, fX 0, fX 0, fR (am 32), fX 0, fX 0, fX 0, fX 0, fR (am 33), fR (am 34), fR (am 35), fX 0, fX 0, fR (am 36), fR (am 37), fR (am 38), fX (-1), fX 0, fX 0, fX 0, fR (am 39), fX 0, fR (am 40), fR (am 41), fR (am 42), fR (am 43), fR (am 44)])) (f39 : w[39]? = some (am 39, xAI (ca 2) 3840 gA)) (hfr : xr fr) (hto : xr to) (hrad : xr rad) (hli : xr li) : xC l D ca yX12_storm cX12_storm 5 (some .int) r_c_X12_storm [.ref (am 0), .int (iI fr), .int (iI to), .int (iI rad), .int (iI li)] w (qIa (fun z => (((0 ≤ fr ∧ fr ≤ 999) ∧ (0 ≤ to ∧ to ≤ 999) ∧ fr ≤ to ∧ to - fr < 60 ∧ (0 ≤ rad ∧ rad ≤ 7) ∧ 0 ≤ li ∧ li ≤ 12) → z = 1) ∧ (¬ ((0 ≤ fr ∧ fr ≤ 999) ∧ (0 ≤ to ∧ to ≤ 999) ∧ fr ≤ to ∧ to - fr < 60 ∧ (0 ≤ rad ∧ rad ≤ 7) ∧ 0 ≤ li ∧ li ≤ 12) → z = -1))) := by
  refine xC.of2 "WindWordsModel" (by decide) rfl (Nat.le_of_ble_eq_true rfl) ?_
  intro p e s m args below meth c A ls Qf B hnm h hl hQ
  have hl : lv_has ls 5 [(0, .ref (am 0)), (1, .int (iI fr)), (2, .int (iI to)), (3, .int (iI rad)), (4, .int (iI li))] := hl
  refine lv_iload_n B.1 B.2.1 dX12_storm_0 rfl (lv_at hl 1 rfl) ?_
  refine x_iconst B dX12_storm_1 ?_
  refine x_sipush B (by decide) dX12_storm_2 ?_
  refine x_cS B h k_X12_within (c_X12_within l D ca _ fr 0 999  (by omega) (by omega) (by omega)) m_1515 rfl (by decide) hl.1 [] (Nat.le_of_ble_eq_true rfl) rfl dX12_storm_5 (fun r w1 hq H locs h => ?_)
  obtain ⟨rfl, ⟨rfl, b1⟩ | ⟨rfl, b1⟩⟩ := hq
  · show W p l e r_c_X12_storm s m args below meth c H locs 0 0 Qf (F0 m 8 ls [.int (iI 1)])
    refine x_if_eq B (by omega) (tgt := 56) dX12_storm_8 (by decide) (fun c2 => ?_) (fun c2 => ?_)
    · exact absurd c2 (by omega)
    · refine lv_iload_n B.1 B.2.1 dX12_storm_11 rfl (lv_at hl 2 rfl) ?_
      refine x_iconst B dX12_storm_12 ?_
      refine x_sipush B (by decide) dX12_storm_13 ?_
      refine x_cS B h k_X12_within (c_X12_within l D ca _ to 0 999  (by omega) (by omega) (by omega)) m_1515 rfl (by decide) hl.1 [] (Nat.le_of_ble_eq_true rfl) rfl dX12_storm_16 (fun r w1 hq H locs h => ?_)
      obtain ⟨rfl, ⟨rfl, b3⟩ | ⟨rfl, b3⟩⟩ := hq
      · show W p l e r_c_X12_storm s m args below meth c H locs 0 0 Qf (F0 m 19 ls [.int (iI 1)])
        refine x_if_eq B (by omega) (tgt := 56) dX12_storm_19 (by decide) (fun c4 => ?_) (fun c4 => ?_)
        · exact absurd c4 (by omega)
        · refine lv_iload_n B.1 B.2.1 dX12_storm_22 rfl (lv_at hl 2 rfl) ?_
          refine lv_iload_n B.1 B.2.1 dX12_storm_23 rfl (lv_at hl 1 rfl) ?_
          refine x_icmp_lt B (by omega) (tgt := 56) dX12_storm_24 (by decide) (fun c5 => ?_) (fun c5 => ?_)
          · refine x_iconst B dX12_storm_56 ?_
            refine x_ri B hQ h (by decide) dX12_storm_57 ?_
            exact ⟨_, rfl, by omega⟩
          · refine lv_iload_n B.1 B.2.1 dX12_storm_27 rfl (lv_at hl 2 rfl) ?_
            refine lv_iload_n B.1 B.2.1 dX12_storm_28 rfl (lv_at hl 1 rfl) ?_
            refine x_isub B dX12_storm_29 ?_
            refine x_bipush B (by decide) dX12_storm_30 ?_
            refine x_icmp_gt B (by omega) (tgt := 56) dX12_storm_32 (by decide) (fun c6 => ?_) (fun c6 => ?_)
            · refine x_iconst B dX12_storm_56 ?_
              refine x_ri B hQ h (by decide) dX12_storm_57 ?_
              exact ⟨_, rfl, by omega⟩
            · refine lv_iload_n B.1 B.2.1 dX12_storm_35 rfl (lv_at hl 3 rfl) ?_
              refine x_iconst B dX12_storm_36 ?_
              refine x_bipush B (by decide) dX12_storm_37 ?_
              refine x_cS B h k_X12_within (c_X12_within l D ca _ rad 0 7  (by omega) (by omega) (by omega)) m_1515 rfl (by decide) hl.1 [] (Nat.le_of_ble_eq_true rfl) rfl dX12_storm_39 (fun r w1 hq H locs h => ?_)
              obtain ⟨rfl, ⟨rfl, b7⟩ | ⟨rfl, b7⟩⟩ := hq
              · show W p l e r_c_X12_storm s m args below meth c H locs 0 0 Qf (F0 m 42 ls [.int (iI 1)])
                refine x_if_eq B (by omega) (tgt := 56) dX12_storm_42 (by decide) (fun c8 => ?_) (fun c8 => ?_)
                · exact absurd c8 (by omega)
                · refine lv_iload B.1 B.2.1 dX12_storm_45 (lv_at hl 4 rfl) ?_
                  refine x_iconst B dX12_storm_47 ?_
                  refine x_bipush B (by decide) dX12_storm_48 ?_
                  refine x_cS B h k_X12_within (c_X12_within l D ca _ li 0 12  (by omega) (by omega) (by omega)) m_1515 rfl (by decide) hl.1 [] (Nat.le_of_ble_eq_true rfl) rfl dX12_storm_50 (fun r w1 hq H locs h => ?_)
                  obtain ⟨rfl, ⟨rfl, b9⟩ | ⟨rfl, b9⟩⟩ := hq
                  · show W p l e r_c_X12_storm s m args below meth c H locs 0 0 Qf (F0 m 53 ls [.int (iI 1)])
                    refine x_if_ne B (by omega) (tgt := 58) dX12_storm_53 (by decide) (fun c10 => ?_) (fun c10 => ?_)
                    · refine lv_aload_n B.1 B.2.1 dX12_storm_58 rfl (lv_at hl 0 rfl) ?_
                      refine lv_iload_n B.1 B.2.1 dX12_storm_59 rfl (lv_at hl 1 rfl) ?_
                      refine x_put B h kX12 0 f0 69 (Nat.le_of_ble_eq_true rfl) (P' := fX fr) m_1330 (by decide) rfl rfl rfl rfl dX12_storm_60 (fun H locs h => ?_)
                      have h : xH D A s.heap (w.set 0 (am 0, xO 12 [fR (am 1), fX 0, fX 0, fX 0, fX 0, fX 1, fX 1, fR (am 2), fR (am 3), fR (am 4), fR (am 5), fR (am 6), fR (am 7), fR (am 8), fR (am 9), fR (am 10), fR (am 11), fR (am 12), fR (am 13), fR (am 14), fR (am 15), fR (am 16), fR (am 17), fX 0, fR (am 18), fR (am 19), fR (am 20), fR (am 21), fR (am 22), fR (am 23), fR (am 24), fR (am 25), fX 0, fX (-1), fG 0 0, fG 0 0, fG 0 0, fG 0 0, fG 0 0, fG 0 0, fG 0 0, fG 0 0, fL, fX 0, fR (am 26), fX 0, fX 0, fR (am 27), fR (am 28), fR (am 29), fR (am 30), fR (am 31), fX 0, fX 0, fX 0, fX 0, fR (am 32), fX 0, fX 0, fX 0, fX 0, fR (am 33), fR (am 34), fR (am 35), fX 0, fX 0, fR (am 36), fR (am 37), fR (am 38), fX fr, fX 0, fX 0, fX 0, fR (am 39), fX 0, fR (am 40), fR (am 41), fR (am 42), fR (am 43), fR (am 44)])) H locs := h
                      refine lv_aload_n B.1 B.2.1 dX12_storm_63 rfl (lv_at hl 0 rfl) ?_
                      refine lv_iload_n B.1 B.2.1 dX12_storm_64 rfl (lv_at hl 2 rfl) ?_
                      refine x_put B h kX12 0 (xset_eq f0) 70 (Nat.le_of_ble_eq_true rfl) (P' := fX to) m_1331 (by decide) rfl rfl rfl rfl dX12_storm_65 (fun H locs h => ?_)
                      have h : xH D A s.heap (w.set 0 (am 0, xO 12 [fR (am 1), fX 0, fX 0, fX 0, fX 0, fX 1, fX 1, fR (am 2), fR (am 3), fR (am 4), fR (am 5), fR (am 6), fR (am 7), fR (am 8), fR (am 9), fR (am 10), fR (am 11), fR (am 12), fR (am 13), fR (am 14), fR (am 15), fR (am 16), fR (am 17), fX 0, fR (am 18), fR (am 19), fR (am 20), fR (am 21), fR (am 22), fR (am 23), fR (am 24), fR (am 25), fX 0, fX (-1), fG 0 0, fG 0 0, fG 0 0, fG 0 0, fG 0 0, fG 0 0, fG 0 0, fG 0 0, fL, fX 0, fR (am 26), fX 0, fX 0, fR (am 27), fR (am 28), fR (am 29), fR (am 30), fR (am 31), fX 0, fX 0, fX 0, fX 0, fR (am 32), fX 0, fX 0, fX 0, fX 0, fR (am 33), fR (am 34), fR (am 35), fX 0, fX 0, fR (am 36), fR (am 37), fR (am 38), fX fr, fX to, fX 0, fX 0, fR (am 39), fX 0, fR (am 40), fR (am 41), fR (am 42), fR (am 43), fR (am 44)])) H locs := by rw [List.set_set] at h; exact h
                      refine lv_aload_n B.1 B.2.1 dX12_storm_68 rfl (lv_at hl 0 rfl) ?_
                      refine lv_iload_n B.1 B.2.1 dX12_storm_69 rfl (lv_at hl 3 rfl) ?_
                      refine x_put B h kX12 0 (xset_eq f0) 71 (Nat.le_of_ble_eq_true rfl) (P' := fX rad) m_1332 (by decide) rfl rfl rfl rfl dX12_storm_70 (fun H locs h => ?_)
                      have h : xH D A s.heap (w.set 0 (am 0, xO 12 [fR (am 1), fX 0, fX 0, fX 0, fX 0, fX 1, fX 1, fR (am 2), fR (am 3), fR (am 4), fR (am 5), fR (am 6), fR (am 7), fR (am 8), fR (am 9), fR (am 10), fR (am 11), fR (am 12), fR (am 13), fR (am 14), fR (am 15), fR (am 16), fR (am 17), fX 0, fR (am 18), fR (am 19), fR (am 20), fR (am 21), fR (am 22), fR (am 23), fR (am 24), fR (am 25), fX 0, fX (-1), fG 0 0, fG 0 0, fG 0 0, fG 0 0, fG 0 0, fG 0 0, fG 0 0, fG 0 0, fL, fX 0, fR (am 26), fX 0, fX 0, fR (am 27), fR (am 28), fR (am 29), fR (am 30), fR (am 31), fX 0, fX 0, fX 0, fX 0, fR (am 32), fX 0, fX 0, fX 0, fX 0, fR (am 33), fR (am 34), fR (am 35), fX 0, fX 0, fR (am 36), fR (am 37), fR (am 38), fX fr, fX to, fX rad, fX 0, fR (am 39), fX 0, fR (am 40), fR (am 41), fR (am 42), fR (am 43), fR (am 44)])) H locs := by rw [List.set_set] at h; exact h
                      refine lv_aload_n B.1 B.2.1 dX12_storm_73 rfl (lv_at hl 0 rfl) ?_
                      refine lv_iload B.1 B.2.1 dX12_storm_74 (lv_at hl 4 rfl) ?_
                      refine x_put B h kX12 0 (xset_eq f0) 72 (Nat.le_of_ble_eq_true rfl) (P' := fX li) m_1333 (by decide) rfl rfl rfl rfl dX12_storm_76 (fun H locs h => ?_)
                      have h : xH D A s.heap (w.set 0 (am 0, xO 12 [fR (am 1), fX 0, fX 0, fX 0, fX 0, fX 1, fX 1, fR (am 2), fR (am 3), fR (am 4), fR (am 5), fR (am 6), fR (am 7), fR (am 8), fR (am 9), fR (am 10), fR (am 11), fR (am 12), fR (am 13), fR (am 14), fR (am 15), fR (am 16), fR (am 17), fX 0, fR (am 18), fR (am 19), fR (am 20), fR (am 21), fR (am 22), fR (am 23), fR (am 24), fR (am 25), fX 0, fX (-1), fG 0 0, fG 0 0, fG 0 0, fG 0 0, fG 0 0, fG 0 0, fG 0 0, fG 0 0, fL, fX 0, fR (am 26), fX 0, fX 0, fR (am 27), fR (am 28), fR (am 29), fR (am 30), fR (am 31), fX 0, fX 0, fX 0, fX 0, fR (am 32), fX 0, fX 0, fX 0, fX 0, fR (am 33), fR (am 34), fR (am 35), fX 0, fX 0, fR (am 36), fR (am 37), fR (am 38), fX fr, fX to, fX rad, fX li, fR (am 39), fX 0, fR (am 40), fR (am 41), fR (am 42), fR (am 43), fR (am 44)])) H locs := by rw [List.set_set] at h; exact h
                      refine lv_aload_n B.1 B.2.1 dX12_storm_79 rfl (lv_at hl 0 rfl) ?_
                      refine x_cV B h kX12 0 (xset_eq f0) k_X12_findWays rfl (c_X12_findWays l D ca _ am fr to rad li (xset_eq f0) (xset_ne f39 (by decide)) (by omega) (by omega) (by omega)) m_1864 rfl (by decide) hl.1 [] (Nat.le_of_ble_eq_true rfl) rfl dX12_storm_80 (fun r w1 hq H locs h => ?_)
                      obtain ⟨rfl, rfl⟩ := hq
                      show W p l e r_c_X12_storm s m args below meth c H locs 0 0 Qf (F0 m 83 ls [])
                      have h : xH D A s.heap ((w.set 0 (am 0, xO 12 [fR (am 1), fX 0, fX 0, fX 0, fX 0, fX 1, fX 1, fR (am 2), fR (am 3), fR (am 4), fR (am 5), fR (am 6), fR (am 7), fR (am 8), fR (am 9), fR (am 10), fR (am 11), fR (am 12), fR (am 13), fR (am 14), fR (am 15), fR (am 16), fR (am 17), fX 0, fR (am 18), fR (am 19), fR (am 20), fR (am 21), fR (am 22), fR (am 23), fR (am 24), fR (am 25), fX 0, fX (-1), fG 0 0, fG 0 0, fG 0 0, fG 0 0, fG 0 0, fG 0 0, fG 0 0, fG 0 0, fL, fX 0, fR (am 26), fX 0, fX 0, fR (am 27), fR (am 28), fR (am 29), fR (am 30), fR (am 31), fX 0, fX 0, fX 0, fX 0, fR (am 32), fX 0, fX 0, fX 0, fX 0, fR (am 33), fR (am 34), fR (am 35), fX 0, fX 0, fR (am 36), fR (am 37), fR (am 38), fX fr, fX to, fX rad, fX li, fR (am 39), fX 0, fR (am 40), fR (am 41), fR (am 42), fR (am 43), fR (am 44)])).set 39 (am 39, xAI (ca 2) 3840 (gP (64 * ((to - fr) + 1)) ((fun _ => 1))))) H locs := h
                      refine lv_aload_n B.1 B.2.1 dX12_storm_83 rfl (lv_at hl 0 rfl) ?_
                      refine lv_aload_n B.1 B.2.1 dX12_storm_84 rfl (lv_at hl 0 rfl) ?_
                      refine x_getX B h kX12 0 (xset_ne (xset_eq f0) (by decide)) 69 (z := fr) rfl m_1330 (by decide) dX12_storm_85 ?_
                      refine x_cV B h kX12 0 (xset_ne (xset_eq f0) (by decide)) k_X12_cellsOn rfl (c_X12_cellsOn l D ca _ am fr to rad li (xset_ne (xset_eq f0) (by decide)) (xset_eq (xset_ne f39 (by decide))) (by omega) (by omega) (by omega)) m_1876 rfl (by decide) hl.1 [] (Nat.le_of_ble_eq_true rfl) rfl dX12_storm_88 (fun r w1 hq H locs h => ?_)
                      obtain ⟨rfl, _, rfl, rfl⟩ := hq
                      show W p l e r_c_X12_storm s m args below meth c H locs 0 0 Qf (F0 m 91 ls [.int (iI 64)])
                      refine x_if_le B (by omega) (tgt := 98) dX12_storm_91 (by decide) (fun c12 => ?_) (fun c12 => ?_)
                      · exact absurd c12 (by omega)
                      · refine x_iconst B dX12_storm_94 ?_
                        refine lv_goto (tgt := 99) B.1 B.2.1 dX12_storm_95 (by decide) ?_
                        refine x_ri B hQ h (by decide) dX12_storm_99 ?_
                        exact ⟨_, rfl, by omega⟩
                    · exact absurd c10 (by omega)
                  · show W p l e r_c_X12_storm s m args below meth c H locs 0 0 Qf (F0 m 53 ls [.int (iI 0)])
                    refine x_if_ne B (by omega) (tgt := 58) dX12_storm_53 (by decide) (fun c13 => ?_) (fun c13 => ?_)
                    · exact absurd c13 (by omega)
                    · refine x_iconst B dX12_storm_56 ?_
                      refine x_ri B hQ h (by decide) dX12_storm_57 ?_
                      exact ⟨_, rfl, by omega⟩
              · show W p l e r_c_X12_storm s m args below meth c H locs 0 0 Qf (F0 m 42 ls [.int (iI 0)])
                refine x_if_eq B (by omega) (tgt := 56) dX12_storm_42 (by decide) (fun c14 => ?_) (fun c14 => ?_)
                · refine x_iconst B dX12_storm_56 ?_
                  refine x_ri B hQ h (by decide) dX12_storm_57 ?_
                  exact ⟨_, rfl, by omega⟩
                · exact absurd c14 (by omega)
      · show W p l e r_c_X12_storm s m args below meth c H locs 0 0 Qf (F0 m 19 ls [.int (iI 0)])
        refine x_if_eq B (by omega) (tgt := 56) dX12_storm_19 (by decide) (fun c15 => ?_) (fun c15 => ?_)
        · refine x_iconst B dX12_storm_56 ?_
          refine x_ri B hQ h (by decide) dX12_storm_57 ?_
          exact ⟨_, rfl, by omega⟩
        · exact absurd c15 (by omega)
  · show W p l e r_c_X12_storm s m args below meth c H locs 0 0 Qf (F0 m 8 ls [.int (iI 0)])
    refine x_if_eq B (by omega) (tgt := 56) dX12_storm_8 (by decide) (fun c16 => ?_) (fun c16 => ?_)
    · refine x_iconst B dX12_storm_56 ?_
      refine x_ri B hQ h (by decide) dX12_storm_57 ?_
      exact ⟨_, rfl, by omega⟩
    · exact absurd c16 (by omega)
