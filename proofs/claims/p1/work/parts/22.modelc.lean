theorem k_X12_findLeans : xMV yX12_findLeans cX12_findLeans 5 none 0 := ⟨m_1726, m_1725, m_69, m_104, ⟨by decide +kernel, by decide +kernel, by decide +kernel⟩⟩
theorem k_X12_sumsOf : xMV yX12_sumsOf cX12_sumsOf 3 none 1 := ⟨m_1791, m_1790, m_80, m_104, ⟨by decide +kernel, by decide +kernel, by decide +kernel⟩⟩
theorem k_X12_ordersWith : xMV yX12_ordersWith cX12_ordersWith 6 (some .long) 2 := ⟨m_1803, m_1802, m_82, m_104, ⟨by decide +kernel, by decide +kernel, by decide +kernel⟩⟩
theorem k_X12_lateBy : xMV yX12_lateBy cX12_lateBy 4 none 1 := ⟨m_1811, m_1810, m_83, m_104, ⟨by decide +kernel, by decide +kernel, by decide +kernel⟩⟩
theorem k_X12_trusted : xMV yX12_trusted cX12_trusted 3 (some .int) 0 := ⟨m_1899, m_1898, m_92, m_104, ⟨by decide +kernel, by decide +kernel, by decide +kernel⟩⟩
theorem k_X12_habitsInAll : xMV yX12_habitsInAll cX12_habitsInAll 3 (some .int) 0 := ⟨m_1903, m_1902, m_93, m_104, ⟨by decide +kernel, by decide +kernel, by decide +kernel⟩⟩
abbrev r_c_X12_findLeans : Room := { frames := 0, cells := 0, slots := 0, locals := 0 }
set_option maxHeartbeats 4000000 in
set_option maxRecDepth 100000 in
theorem c_X12_findLeans (l : Launch) (D : va_G) (ca : Nat → ClassId) (w : xW) (am : Nat → Nat) (f0 : w[0]? = some (am 0, xO 12 [fR (am 1), fX 0, fX 0, fX 0, fX 0, fX 1, fX 1, fR (am 2), fR (am 3), fR (am 4), fR (am 5), fR (am 6), fR (am 7), fR (am 8), fR (am 9), fR (am 10), fR (am 11), fR (am 12), fR (am 13), fR (am 14), fR (am 15), fR (am 16), fR (am 17), fX 0, fR (am 18), fR (am 19), fR (am 20), fR (am 21), fR (am 22), fR (am 23), fR (am 24), fR (am 25), fX 0, fX (-1), fG 0 0, fG 0 0, fG 0 0, fG 0 0, fG 0 0, fG 0 0, fG 0 0, fG 0 0, fL, fX 0, fR (am 26), fX 0, fX 0, fR (am 27), fR (am 28), fR (am 29), fR (am 30), fR (am 31), fX 0, fX 0, fX 0, fX 0, fR (am 32), fX 0, fX 0, fX 0, fX 0, fR (am 33), fR (am 34), fR (am 35), fX 0, fX 0, fR (am 36), fR (am 37), fR (am 38), fX (-1), fX 0, fX 0, fX 0, fR (am 39), fX 0, fR (am 40), fR (am 41), fR (am 42), fR (am 43), fR (am 44)])) (f32 : w[32]? = some (am 32, xAI (ca 0) 289 (gG 289 0 100000)))  : xC l D ca yX12_findLeans cX12_findLeans 5 none r_c_X12_findLeans [.ref (am 0)] w (qV (w.set 0 (am 0, xO 12 [fR (am 1), fX 0, fX 0, fX 0, fX 0, fX 1, fX 1, fR (am 2), fR (am 3), fR (am 4), fR (am 5), fR (am 6), fR (am 7), fR (am 8), fR (am 9), fR (am 10), fR (am 11), fR (am 12), fR (am 13), fR (am 14), fR (am 15), fR (am 16), fR (am 17), fX 0, fR (am 18), fR (am 19), fR (am 20), fR (am 21), fR (am 22), fR (am 23), fR (am 24), fR (am 25), fX 0, fX (-1), fG 0 0, fG 0 0, fG 0 0, fG 0 0, fG 0 0, fG 0 0, fG 0 0, fG 0 0, fL, fX 0, fR (am 26), fX 0, fX 0, fR (am 27), fR (am 28), fR (am 29), fR (am 30), fR (am 31), fX 0, fX 0, fX 0, fX 0, fR (am 32), fX 1, fX 0, fX 0, fX 0, fR (am 33), fR (am 34), fR (am 35), fX 0, fX 0, fR (am 36), fR (am 37), fR (am 38), fX (-1), fX 0, fX 0, fX 0, fR (am 39), fX 0, fR (am 40), fR (am 41), fR (am 42), fR (am 43), fR (am 44)]))) := by
  refine xC.of2 "WindWordsModel" (by decide) rfl (Nat.le_of_ble_eq_true rfl) ?_
  intro p e s m args below meth c A ls Qf B hnm h hl hQ
  have hl : lv_has ls 5 [(0, .ref (am 0))] := hl
  refine x_iconst B dX12_findLeans_0 ?_
  refine lv_istore_n (lv' := [(1, .int (iI 0)), (0, .ref (am 0))]) B.1 B.2.1 dX12_findLeans_1 rfl hl (by decide) rfl (fun ls hl => ?_)
  have loop2 : ∀ (n2 : Nat) (i : Int), (0 ≤ i ∧ i ≤ 289) → (289 - i : Int).toNat < n2 → ∀ (H : Heap) (locs : List Loc) (ls : Array Slot), xH D A s.heap w H locs → lv_has ls 5 [(0, .ref (am 0)), (1, .int (iI i))] → W p l e r_c_X12_findLeans s m args below meth c H locs 0 0 Qf (F0 m 2 ls []) := by
    intro n2
    induction n2 with
    | zero =>
      intro i h0 hm2 H locs ls h hl
      exact absurd hm2 (Nat.not_lt_zero _)
    | succ n2 ih2 =>
      intro i h0 hm2 H locs ls h hl
      refine lv_iload_n B.1 B.2.1 dX12_findLeans_2 rfl (lv_at hl 1 rfl) ?_
      refine x_sipush B (by decide) dX12_findLeans_3 ?_
      refine x_icmp_ge B (by omega) (tgt := 35) dX12_findLeans_6 (by decide) (fun c1 => ?_) (fun c1 => ?_)
      · refine x_iconst B dX12_findLeans_35 ?_
        refine lv_istore_n (lv' := [(1, .int (iI 0)), (0, .ref (am 0))]) B.1 B.2.1 dX12_findLeans_36 rfl hl (by decide) rfl (fun ls hl => ?_)
        refine lv_iload_n B.1 B.2.1 dX12_findLeans_37 rfl (lv_at hl 0 rfl) ?_
        refine lv_aload_n B.1 B.2.1 dX12_findLeans_38 rfl (lv_at hl 1 rfl) ?_
        refine x_getX B h kX12 0 f0 4 (z := 0) rfl m_1265 (by decide) dX12_findLeans_39 ?_
        refine x_icmp_ge B (by omega) (tgt := 101) dX12_findLeans_42 (by decide) (fun c2 => ?_) (fun c2 => ?_)
        · refine x_iconst B dX12_findLeans_101 ?_
          refine lv_istore_n (lv' := [(1, .int (iI 0)), (0, .ref (am 0))]) B.1 B.2.1 dX12_findLeans_102 rfl hl (by decide) rfl (fun ls hl => ?_)
          have loop103 : ∀ (n103 : Nat) (x : Int), (0 ≤ x ∧ x ≤ 17) → (17 - x : Int).toNat < n103 → ∀ (H : Heap) (locs : List Loc) (ls : Array Slot), xH D A s.heap w H locs → lv_has ls 5 [(0, .ref (am 0)), (1, .int (iI x))] → W p l e r_c_X12_findLeans s m args below meth c H locs 0 0 Qf (F0 m 103 ls []) := by
            intro n103
            induction n103 with
            | zero =>
              intro x hx hm103 H locs ls h hl
              exact absurd hm103 (Nat.not_lt_zero _)
            | succ n103 ih103 =>
              intro x hx hm103 H locs ls h hl
              refine lv_iload_n B.1 B.2.1 dX12_findLeans_103 rfl (lv_at hl 1 rfl) ?_
              refine x_bipush B (by decide) dX12_findLeans_104 ?_
              refine x_icmp_ge B (by omega) (tgt := 245) dX12_findLeans_106 (by decide) (fun c3 => ?_) (fun c3 => ?_)
              · refine lv_aload_n B.1 B.2.1 dX12_findLeans_245 rfl (lv_at hl 0 rfl) ?_
                refine x_iconst B dX12_findLeans_246 ?_
                refine x_put B h kX12 0 f0 57 (Nat.le_of_ble_eq_true rfl) (P' := fX 1) m_1318 (by decide) rfl rfl rfl rfl dX12_findLeans_247 (fun H locs h => ?_)
                have h : xH D A s.heap (w.set 0 (am 0, xO 12 [fR (am 1), fX 0, fX 0, fX 0, fX 0, fX 1, fX 1, fR (am 2), fR (am 3), fR (am 4), fR (am 5), fR (am 6), fR (am 7), fR (am 8), fR (am 9), fR (am 10), fR (am 11), fR (am 12), fR (am 13), fR (am 14), fR (am 15), fR (am 16), fR (am 17), fX 0, fR (am 18), fR (am 19), fR (am 20), fR (am 21), fR (am 22), fR (am 23), fR (am 24), fR (am 25), fX 0, fX (-1), fG 0 0, fG 0 0, fG 0 0, fG 0 0, fG 0 0, fG 0 0, fG 0 0, fG 0 0, fL, fX 0, fR (am 26), fX 0, fX 0, fR (am 27), fR (am 28), fR (am 29), fR (am 30), fR (am 31), fX 0, fX 0, fX 0, fX 0, fR (am 32), fX 1, fX 0, fX 0, fX 0, fR (am 33), fR (am 34), fR (am 35), fX 0, fX 0, fR (am 36), fR (am 37), fR (am 38), fX (-1), fX 0, fX 0, fX 0, fR (am 39), fX 0, fR (am 40), fR (am 41), fR (am 42), fR (am 43), fR (am 44)])) H locs := h
                refine x_iconst B dX12_findLeans_250 ?_
                refine lv_istore_n (lv' := [(1, .int (iI 0)), (0, .ref (am 0))]) B.1 B.2.1 dX12_findLeans_251 rfl hl (by decide) rfl (fun ls hl => ?_)
                have loop252 : ∀ (n252 : Nat) (u : Int), (0 ≤ u ∧ u ≤ 17) → (17 - u : Int).toNat < n252 → ∀ (H : Heap) (locs : List Loc) (ls : Array Slot), xH D A s.heap ((w.set 0 (am 0, xO 12 [fR (am 1), fX 0, fX 0, fX 0, fX 0, fX 1, fX 1, fR (am 2), fR (am 3), fR (am 4), fR (am 5), fR (am 6), fR (am 7), fR (am 8), fR (am 9), fR (am 10), fR (am 11), fR (am 12), fR (am 13), fR (am 14), fR (am 15), fR (am 16), fR (am 17), fX 0, fR (am 18), fR (am 19), fR (am 20), fR (am 21), fR (am 22), fR (am 23), fR (am 24), fR (am 25), fX 0, fX (-1), fG 0 0, fG 0 0, fG 0 0, fG 0 0, fG 0 0, fG 0 0, fG 0 0, fG 0 0, fL, fX 0, fR (am 26), fX 0, fX 0, fR (am 27), fR (am 28), fR (am 29), fR (am 30), fR (am 31), fX 0, fX 0, fX 0, fX 0, fR (am 32), fX 1, fX 0, fX 0, fX 0, fR (am 33), fR (am 34), fR (am 35), fX 0, fX 0, fR (am 36), fR (am 37), fR (am 38), fX (-1), fX 0, fX 0, fX 0, fR (am 39), fX 0, fR (am 40), fR (am 41), fR (am 42), fR (am 43), fR (am 44)]))) H locs → lv_has ls 5 [(0, .ref (am 0)), (1, .int (iI u))] → W p l e r_c_X12_findLeans s m args below meth c H locs 0 0 Qf (F0 m 252 ls []) := by
                  intro n252
                  induction n252 with
                  | zero =>
                    intro u hu hm252 H locs ls h hl
                    exact absurd hm252 (Nat.not_lt_zero _)
                  | succ n252 ih252 =>
                    intro u hu hm252 H locs ls h hl
                    refine lv_iload_n B.1 B.2.1 dX12_findLeans_252 rfl (lv_at hl 1 rfl) ?_
                    refine x_bipush B (by decide) dX12_findLeans_253 ?_
                    refine x_icmp_ge B (by omega) (tgt := 292) dX12_findLeans_255 (by decide) (fun c4 => ?_) (fun c4 => ?_)
                    · refine x_rv B hQ h (by decide) dX12_findLeans_292 ?_
                      exact ⟨rfl, rfl⟩
                    · refine lv_aload_n B.1 B.2.1 dX12_findLeans_258 rfl (lv_at hl 0 rfl) ?_
                      refine lv_aload_n B.1 B.2.1 dX12_findLeans_259 rfl (lv_at hl 0 rfl) ?_
                      refine x_getX B h kX12 0 (xset_eq f0) 57 (z := 1) rfl m_1318 (by decide) dX12_findLeans_260 ?_
                      refine x_if_eq B (by omega) (tgt := 282) dX12_findLeans_263 (by decide) (fun c5 => ?_) (fun c5 => ?_)
                      · exact absurd c5 (by omega)
                      · refine lv_aload_n B.1 B.2.1 dX12_findLeans_266 rfl (lv_at hl 0 rfl) ?_
                        refine x_getR B h kX12 0 (xset_eq f0) 56 (b := am 32) rfl m_1317 (by decide) dX12_findLeans_267 ?_
                        refine x_bipush B (by decide) dX12_findLeans_270 ?_
                        refine lv_iload_n B.1 B.2.1 dX12_findLeans_272 rfl (lv_at hl 1 rfl) ?_
                        refine x_imul B dX12_findLeans_273 ?_
                        refine x_ialdG B h 32 (xset_ne f32 (by decide)) (by omega) dX12_findLeans_274 (fun z6 z6a z6b => ?_)
                        refine x_if_lt B (by omega) (tgt := 282) dX12_findLeans_275 (by decide) (fun c7 => ?_) (fun c7 => ?_)
                        · exact absurd c7 (by omega)
                        · refine x_iconst B dX12_findLeans_278 ?_
                          refine lv_goto (tgt := 283) B.1 B.2.1 dX12_findLeans_279 (by decide) ?_
                          refine x_putS B h kX12 0 (xset_eq f0) 57 (P := fX 1) rfl m_1318 (by decide) rfl rfl rfl rfl dX12_findLeans_283 (fun H locs h => ?_)
                          refine lv_iinc (v := iI (u + 1)) (lv' := [(1, .int (iI (u + 1))), (0, .ref (am 0))]) B.1 B.2.1 dX12_findLeans_286 hl (k := 1) rfl (iI_add _ _) (by decide) rfl (fun ls hl => ?_)
                          refine lv_goto (tgt := 252) B.1 B.2.1 dX12_findLeans_289 (by decide) ?_
                          exact ih252 ((u + 1)) (by omega) (by omega) _ _ _ h (lv_sub hl [1, 0] rfl)
                exact loop252 ((17 - 0 : Int).toNat + 1) 0 (by omega) (Nat.lt_succ_self _) _ _ _ h (lv_sub hl [1, 0] rfl)
              · refine x_iconst B dX12_findLeans_109 ?_
                refine lv_istore_n (lv' := [(2, .int (iI 0)), (0, .ref (am 0)), (1, .int (iI x))]) B.1 B.2.1 dX12_findLeans_110 rfl hl (by decide) rfl (fun ls hl => ?_)
                have loop111 : ∀ (n111 : Nat) (y : Int), (0 ≤ y ∧ y ≤ 17) → (17 - y : Int).toNat < n111 → ∀ (H : Heap) (locs : List Loc) (ls : Array Slot), xH D A s.heap w H locs → lv_has ls 5 [(0, .ref (am 0)), (1, .int (iI x)), (2, .int (iI y))] → W p l e r_c_X12_findLeans s m args below meth c H locs 0 0 Qf (F0 m 111 ls []) := by
                  intro n111
                  induction n111 with
                  | zero =>
                    intro y hy hm111 H locs ls h hl
                    exact absurd hm111 (Nat.not_lt_zero _)
                  | succ n111 ih111 =>
                    intro y hy hm111 H locs ls h hl
                    refine lv_iload_n B.1 B.2.1 dX12_findLeans_111 rfl (lv_at hl 2 rfl) ?_
                    refine x_bipush B (by decide) dX12_findLeans_112 ?_
                    refine x_icmp_ge B (by omega) (tgt := 239) dX12_findLeans_114 (by decide) (fun c8 => ?_) (fun c8 => ?_)
                    · refine lv_iinc (v := iI (x + 1)) (lv' := [(1, .int (iI (x + 1))), (0, .ref (am 0)), (2, .int (iI y))]) B.1 B.2.1 dX12_findLeans_239 hl (k := 1) rfl (iI_add _ _) (by decide) rfl (fun ls hl => ?_)
                      refine lv_goto (tgt := 103) B.1 B.2.1 dX12_findLeans_242 (by decide) ?_
                      exact ih103 ((x + 1)) (by omega) (by omega) _ _ _ h (lv_sub hl [1, 0] rfl)
                    · refine x_iconst B dX12_findLeans_117 ?_
                      refine lv_istore_n (lv' := [(3, .int (iI 0)), (0, .ref (am 0)), (1, .int (iI x)), (2, .int (iI y))]) B.1 B.2.1 dX12_findLeans_118 rfl hl (by decide) rfl (fun ls hl => ?_)
                      have loop119 : ∀ (n119 : Nat) (v : Int), (0 ≤ v ∧ v ≤ 17) → (17 - v : Int).toNat < n119 → ∀ (H : Heap) (locs : List Loc) (ls : Array Slot), xH D A s.heap w H locs → lv_has ls 5 [(0, .ref (am 0)), (1, .int (iI x)), (2, .int (iI y)), (3, .int (iI v))] → W p l e r_c_X12_findLeans s m args below meth c H locs 0 0 Qf (F0 m 119 ls []) := by
                        intro n119
                        induction n119 with
                        | zero =>
                          intro v hv hm119 H locs ls h hl
                          exact absurd hm119 (Nat.not_lt_zero _)
                        | succ n119 ih119 =>
                          intro v hv hm119 H locs ls h hl
                          refine lv_iload_n B.1 B.2.1 dX12_findLeans_119 rfl (lv_at hl 3 rfl) ?_
                          refine x_bipush B (by decide) dX12_findLeans_120 ?_
                          refine x_icmp_ge B (by omega) (tgt := 233) dX12_findLeans_122 (by decide) (fun c9 => ?_) (fun c9 => ?_)
                          · refine lv_iinc (v := iI (y + 1)) (lv' := [(2, .int (iI (y + 1))), (0, .ref (am 0)), (1, .int (iI x)), (3, .int (iI v))]) B.1 B.2.1 dX12_findLeans_233 hl (k := 2) rfl (iI_add _ _) (by decide) rfl (fun ls hl => ?_)
                            refine lv_goto (tgt := 111) B.1 B.2.1 dX12_findLeans_236 (by decide) ?_
                            exact ih111 ((y + 1)) (by omega) (by omega) _ _ _ h (lv_sub hl [1, 2, 0] rfl)
                          · refine lv_aload_n B.1 B.2.1 dX12_findLeans_125 rfl (lv_at hl 0 rfl) ?_
                            refine x_getR B h kX12 0 f0 56 (b := am 32) rfl m_1317 (by decide) dX12_findLeans_126 ?_
                            refine x_bipush B (by decide) dX12_findLeans_129 ?_
                            refine lv_iload_n B.1 B.2.1 dX12_findLeans_131 rfl (lv_at hl 2 rfl) ?_
                            refine x_imul B dX12_findLeans_132 ?_
                            refine lv_iload_n B.1 B.2.1 dX12_findLeans_133 rfl (lv_at hl 1 rfl) ?_
                            refine x_iadd B dX12_findLeans_134 ?_
                            refine x_ialdG B h 32 f32 (by omega) dX12_findLeans_135 (fun z10 z10a z10b => ?_)
                            refine lv_aload_n B.1 B.2.1 dX12_findLeans_136 rfl (lv_at hl 0 rfl) ?_
                            refine x_getR B h kX12 0 f0 56 (b := am 32) rfl m_1317 (by decide) dX12_findLeans_137 ?_
                            refine x_bipush B (by decide) dX12_findLeans_140 ?_
                            refine lv_iload_n B.1 B.2.1 dX12_findLeans_142 rfl (lv_at hl 1 rfl) ?_
                            refine x_imul B dX12_findLeans_143 ?_
                            refine lv_iload_n B.1 B.2.1 dX12_findLeans_144 rfl (lv_at hl 3 rfl) ?_
                            refine x_iadd B dX12_findLeans_145 ?_
                            refine x_ialdG B h 32 f32 (by omega) dX12_findLeans_146 (fun z11 z11a z11b => ?_)
                            refine x_iadd B dX12_findLeans_147 ?_
                            refine lv_istore (lv' := [(4, .int (iI (z10 + z11))), (0, .ref (am 0)), (1, .int (iI x)), (2, .int (iI y)), (3, .int (iI v))]) B.1 B.2.1 dX12_findLeans_148 hl (by decide) rfl (fun ls hl => ?_)
                            refine lv_aload_n B.1 B.2.1 dX12_findLeans_150 rfl (lv_at hl 1 rfl) ?_
                            refine x_getR B h kX12 0 f0 56 (b := am 32) rfl m_1317 (by decide) dX12_findLeans_151 ?_
                            refine x_bipush B (by decide) dX12_findLeans_154 ?_
                            refine lv_iload_n B.1 B.2.1 dX12_findLeans_156 rfl (lv_at hl 3 rfl) ?_
                            refine x_imul B dX12_findLeans_157 ?_
                            refine lv_iload_n B.1 B.2.1 dX12_findLeans_158 rfl (lv_at hl 2 rfl) ?_
                            refine x_iadd B dX12_findLeans_159 ?_
                            refine x_ialdG B h 32 f32 (by omega) dX12_findLeans_160 (fun z12 z12a z12b => ?_)
                            refine x_ldcw B (z := 100000) m_1727 (by decide) dX12_findLeans_161 ?_
                            refine x_icmp_ge B (by omega) (tgt := 227) dX12_findLeans_164 (by decide) (fun c13 => ?_) (fun c13 => ?_)
                            · refine lv_iinc (v := iI (v + 1)) (lv' := [(3, .int (iI (v + 1))), (4, .int (iI (z10 + z11))), (0, .ref (am 0)), (1, .int (iI x)), (2, .int (iI y))]) B.1 B.2.1 dX12_findLeans_227 hl (k := 4) rfl (iI_add _ _) (by decide) rfl (fun ls hl => ?_)
                              refine lv_goto (tgt := 119) B.1 B.2.1 dX12_findLeans_230 (by decide) ?_
                              exact ih119 ((v + 1)) (by omega) (by omega) _ _ _ h (lv_sub hl [2, 3, 4, 0] rfl)
                            · refine lv_aload_n B.1 B.2.1 dX12_findLeans_167 rfl (lv_at hl 1 rfl) ?_
                              refine x_getR B h kX12 0 f0 56 (b := am 32) rfl m_1317 (by decide) dX12_findLeans_168 ?_
                              refine x_bipush B (by decide) dX12_findLeans_171 ?_
                              refine lv_iload_n B.1 B.2.1 dX12_findLeans_173 rfl (lv_at hl 2 rfl) ?_
                              refine x_imul B dX12_findLeans_174 ?_
                              refine lv_iload_n B.1 B.2.1 dX12_findLeans_175 rfl (lv_at hl 4 rfl) ?_
                              refine x_iadd B dX12_findLeans_176 ?_
                              refine x_ialdG B h 32 f32 (by omega) dX12_findLeans_177 (fun z14 z14a z14b => ?_)
                              refine x_ldcw B (z := 100000) m_1727 (by decide) dX12_findLeans_178 ?_
                              refine x_icmp_ge B (by omega) (tgt := 227) dX12_findLeans_181 (by decide) (fun c15 => ?_) (fun c15 => ?_)
                              · refine lv_iinc (v := iI (v + 1)) (lv' := [(3, .int (iI (v + 1))), (4, .int (iI (z10 + z11))), (0, .ref (am 0)), (1, .int (iI x)), (2, .int (iI y))]) B.1 B.2.1 dX12_findLeans_227 hl (k := 4) rfl (iI_add _ _) (by decide) rfl (fun ls hl => ?_)
                                refine lv_goto (tgt := 119) B.1 B.2.1 dX12_findLeans_230 (by decide) ?_
                                exact ih119 ((v + 1)) (by omega) (by omega) _ _ _ h (lv_sub hl [2, 3, 4, 0] rfl)
                              · refine lv_iload B.1 B.2.1 dX12_findLeans_184 (lv_at hl 0 rfl) ?_
                                refine lv_aload_n B.1 B.2.1 dX12_findLeans_186 rfl (lv_at hl 1 rfl) ?_
                                refine x_getR B h kX12 0 f0 56 (b := am 32) rfl m_1317 (by decide) dX12_findLeans_187 ?_
                                refine x_bipush B (by decide) dX12_findLeans_190 ?_
                                refine lv_iload_n B.1 B.2.1 dX12_findLeans_192 rfl (lv_at hl 3 rfl) ?_
                                refine x_imul B dX12_findLeans_193 ?_
                                refine lv_iload_n B.1 B.2.1 dX12_findLeans_194 rfl (lv_at hl 4 rfl) ?_
                                refine x_iadd B dX12_findLeans_195 ?_
                                refine x_ialdG B h 32 f32 (by omega) dX12_findLeans_196 (fun z16 z16a z16b => ?_)
                                refine x_icmp_ge B (by omega) (tgt := 227) dX12_findLeans_197 (by decide) (fun c17 => ?_) (fun c17 => ?_)
                                · refine lv_iinc (v := iI (v + 1)) (lv' := [(3, .int (iI (v + 1))), (4, .int (iI (z10 + z11))), (0, .ref (am 0)), (1, .int (iI x)), (2, .int (iI y))]) B.1 B.2.1 dX12_findLeans_227 hl (k := 4) rfl (iI_add _ _) (by decide) rfl (fun ls hl => ?_)
                                  refine lv_goto (tgt := 119) B.1 B.2.1 dX12_findLeans_230 (by decide) ?_
                                  exact ih119 ((v + 1)) (by omega) (by omega) _ _ _ h (lv_sub hl [2, 3, 4, 0] rfl)
                                · refine lv_aload_n B.1 B.2.1 dX12_findLeans_200 rfl (lv_at hl 1 rfl) ?_
                                  refine x_getR B h kX12 0 f0 56 (b := am 32) rfl m_1317 (by decide) dX12_findLeans_201 ?_
                                  refine x_bipush B (by decide) dX12_findLeans_204 ?_
                                  refine lv_iload_n B.1 B.2.1 dX12_findLeans_206 rfl (lv_at hl 3 rfl) ?_
                                  refine x_imul B dX12_findLeans_207 ?_
                                  refine lv_iload_n B.1 B.2.1 dX12_findLeans_208 rfl (lv_at hl 4 rfl) ?_
                                  refine x_iadd B dX12_findLeans_209 ?_
                                  refine lv_iload B.1 B.2.1 dX12_findLeans_210 (lv_at hl 0 rfl) ?_
                                  refine x_ldcw B (z := (-100000)) m_1762 (by decide) dX12_findLeans_212 ?_
                                  refine x_icmp_ge B (by omega) (tgt := 224) dX12_findLeans_215 (by decide) (fun c18 => ?_) (fun c18 => ?_)
                                  · refine lv_iload B.1 B.2.1 dX12_findLeans_224 (lv_at hl 0 rfl) ?_
                                    refine x_iastS B h 32 f32 (by omega) (gG_upd (by omega)) dX12_findLeans_226 (fun H locs h => ?_)
                                    refine lv_iinc (v := iI (v + 1)) (lv' := [(3, .int (iI (v + 1))), (4, .int (iI (z10 + z11))), (0, .ref (am 0)), (1, .int (iI x)), (2, .int (iI y))]) B.1 B.2.1 dX12_findLeans_227 hl (k := 4) rfl (iI_add _ _) (by decide) rfl (fun ls hl => ?_)
                                    refine lv_goto (tgt := 119) B.1 B.2.1 dX12_findLeans_230 (by decide) ?_
                                    exact ih119 ((v + 1)) (by omega) (by omega) _ _ _ h (lv_sub hl [2, 3, 4, 0] rfl)
                                  · exact absurd c18 (by omega)
                      exact loop119 ((17 - 0 : Int).toNat + 1) 0 (by omega) (Nat.lt_succ_self _) _ _ _ h (lv_sub hl [1, 2, 3, 0] rfl)
                exact loop111 ((17 - 0 : Int).toNat + 1) 0 (by omega) (Nat.lt_succ_self _) _ _ _ h (lv_sub hl [1, 2, 0] rfl)
          exact loop103 ((17 - 0 : Int).toNat + 1) 0 (by omega) (Nat.lt_succ_self _) _ _ _ h (lv_sub hl [1, 0] rfl)
        · exact absurd c2 (by omega)
      · refine lv_aload_n B.1 B.2.1 dX12_findLeans_9 rfl (lv_at hl 0 rfl) ?_
        refine x_getR B h kX12 0 f0 56 (b := am 32) rfl m_1317 (by decide) dX12_findLeans_10 ?_
        refine lv_iload_n B.1 B.2.1 dX12_findLeans_13 rfl (lv_at hl 1 rfl) ?_
        refine lv_iload_n B.1 B.2.1 dX12_findLeans_14 rfl (lv_at hl 1 rfl) ?_
        refine x_bipush B (by decide) dX12_findLeans_15 ?_
        refine x_irem B (by omega) dX12_findLeans_17 ?_
        refine x_if_ne B (by omega) (tgt := 25) dX12_findLeans_18 (by decide) (fun c19 => ?_) (fun c19 => ?_)
        · refine x_ldcw B (z := 100000) m_1727 (by decide) dX12_findLeans_25 ?_
          refine x_iastS B h 32 f32 (by omega) (gG_upd (by omega)) dX12_findLeans_28 (fun H locs h => ?_)
          refine lv_iinc (v := iI (i + 1)) (lv' := [(1, .int (iI (i + 1))), (0, .ref (am 0))]) B.1 B.2.1 dX12_findLeans_29 hl (k := 1) rfl (iI_add _ _) (by decide) rfl (fun ls hl => ?_)
          refine lv_goto (tgt := 2) B.1 B.2.1 dX12_findLeans_32 (by decide) ?_
          exact ih2 ((i + 1)) (by omega) (by omega) _ _ _ h (lv_sub hl [1, 0] rfl)
        · refine x_iconst B dX12_findLeans_21 ?_
          refine lv_goto (tgt := 28) B.1 B.2.1 dX12_findLeans_22 (by decide) ?_
          refine x_iastS B h 32 f32 (by omega) (gG_upd (by omega)) dX12_findLeans_28 (fun H locs h => ?_)
          refine lv_iinc (v := iI (i + 1)) (lv' := [(1, .int (iI (i + 1))), (0, .ref (am 0))]) B.1 B.2.1 dX12_findLeans_29 hl (k := 1) rfl (iI_add _ _) (by decide) rfl (fun ls hl => ?_)
          refine lv_goto (tgt := 2) B.1 B.2.1 dX12_findLeans_32 (by decide) ?_
          exact ih2 ((i + 1)) (by omega) (by omega) _ _ _ h (lv_sub hl [1, 0] rfl)
  exact loop2 ((289 - 0 : Int).toNat + 1) 0 (by omega) (Nat.lt_succ_self _) _ _ _ h (lv_sub hl [1, 0] rfl)
abbrev r_c_X12_tight : Room := { frames := 1, cells := 0, slots := 0, locals := 24 }
set_option maxHeartbeats 4000000 in
set_option maxRecDepth 100000 in
theorem c_X12_tight (l : Launch) (D : va_G) (ca : Nat → ClassId) (w : xW) (am : Nat → Nat) (f0 : w[0]? = some (am 0, xO 12 [fR (am 1), fX 0, fX 0, fX 0, fX 0, fX 1, fX 1, fR (am 2), fR (am 3), fR (am 4), fR (am 5), fR (am 6), fR (am 7), fR (am 8), fR (am 9), fR (am 10), fR (am 11), fR (am 12), fR (am 13), fR (am 14), fR (am 15), fR (am 16), fR (am 17), fX 0, fR (am 18), fR (am 19), fR (am 20), fR (am 21), fR (am 22), fR (am 23), fR (am 24), fR (am 25), fX 0, fX (-1), fG 0 0, fG 0 0, fG 0 0, fG 0 0, fG 0 0, fG 0 0, fG 0 0, fG 0 0, fL, fX 0, fR (am 26), fX 0, fX 0, fR (am 27), fR (am 28), fR (am 29), fR (am 30), fR (am 31), fX 0, fX 0, fX 0, fX 0, fR (am 32), fX 0, fX 0, fX 0, fX 0, fR (am 33), fR (am 34), fR (am 35), fX 0, fX 0, fR (am 36), fR (am 37), fR (am 38), fX (-1), fX 0, fX 0, fX 0, fR (am 39), fX 0, fR (am 40), fR (am 41), fR (am 42), fR (am 43), fR (am 44)])) (f32 : w[32]? = some (am 32, xAI (ca 0) 289 (gG 289 0 100000)))  : xC l D ca yX12_tight cX12_tight 1 (some .int) r_c_X12_tight [.ref (am 0)] w (qIa (fun z => z = 1)) := by
  refine xC.of2 "WindWordsModel" (by decide) rfl (Nat.le_of_ble_eq_true rfl) ?_
  intro p e s m args below meth c A ls Qf B hnm h hl hQ
  have hl : lv_has ls 1 [(0, .ref (am 0))] := hl
  refine lv_aload_n B.1 B.2.1 dX12_tight_0 rfl (lv_at hl 0 rfl) ?_
  refine x_cV B h kX12 0 f0 k_X12_findLeans rfl (c_X12_findLeans l D ca _ am f0 f32 ) m_1723 rfl (by decide) hl.1 [] (Nat.le_of_ble_eq_true rfl) rfl dX12_tight_1 (fun r w1 hq H locs h => ?_)
  obtain ⟨rfl, rfl⟩ := hq
  show W p l e r_c_X12_tight s m args below meth c H locs 0 0 Qf (F0 m 4 ls [])
  have h : xH D A s.heap (w.set 0 (am 0, xO 12 [fR (am 1), fX 0, fX 0, fX 0, fX 0, fX 1, fX 1, fR (am 2), fR (am 3), fR (am 4), fR (am 5), fR (am 6), fR (am 7), fR (am 8), fR (am 9), fR (am 10), fR (am 11), fR (am 12), fR (am 13), fR (am 14), fR (am 15), fR (am 16), fR (am 17), fX 0, fR (am 18), fR (am 19), fR (am 20), fR (am 21), fR (am 22), fR (am 23), fR (am 24), fR (am 25), fX 0, fX (-1), fG 0 0, fG 0 0, fG 0 0, fG 0 0, fG 0 0, fG 0 0, fG 0 0, fG 0 0, fL, fX 0, fR (am 26), fX 0, fX 0, fR (am 27), fR (am 28), fR (am 29), fR (am 30), fR (am 31), fX 0, fX 0, fX 0, fX 0, fR (am 32), fX 1, fX 0, fX 0, fX 0, fR (am 33), fR (am 34), fR (am 35), fX 0, fX 0, fR (am 36), fR (am 37), fR (am 38), fX (-1), fX 0, fX 0, fX 0, fR (am 39), fX 0, fR (am 40), fR (am 41), fR (am 42), fR (am 43), fR (am 44)])) H locs := h
  refine lv_aload_n B.1 B.2.1 dX12_tight_4 rfl (lv_at hl 0 rfl) ?_
  refine x_getX B h kX12 0 (xset_eq f0) 57 (z := 1) rfl m_1318 (by decide) dX12_tight_5 ?_
  refine x_if_eq B (by omega) (tgt := 15) dX12_tight_8 (by decide) (fun c1 => ?_) (fun c1 => ?_)
  · exact absurd c1 (by omega)
  · refine x_iconst B dX12_tight_11 ?_
    refine lv_goto (tgt := 16) B.1 B.2.1 dX12_tight_12 (by decide) ?_
    refine x_ri B hQ h (by decide) dX12_tight_16 ?_
    exact ⟨_, rfl, by omega⟩
abbrev r_c_X12_lean : Room := { frames := 1, cells := 0, slots := 0, locals := 21 }
set_option maxHeartbeats 4000000 in
set_option maxRecDepth 100000 in
theorem c_X12_lean (l : Launch) (D : va_G) (ca : Nat → ClassId) (w : xW) (o : Int) (what : Int) (am : Nat → Nat) (f0 : w[0]? = some (am 0, xO 12 [fR (am 1), fX 0, fX 0, fX 0, fX 0, fX 1, fX 1, fR (am 2), fR (am 3), fR (am 4), fR (am 5), fR (am 6), fR (am 7), fR (am 8), fR (am 9), fR (am 10), fR (am 11), fR (am 12), fR (am 13), fR (am 14), fR (am 15), fR (am 16), fR (am 17), fX 0, fR (am 18), fR (am 19), fR (am 20), fR (am 21), fR (am 22), fR (am 23), fR (am 24), fR (am 25), fX 0, fX (-1), fG 0 0, fG 0 0, fG 0 0, fG 0 0, fG 0 0, fG 0 0, fG 0 0, fG 0 0, fL, fX 0, fR (am 26), fX 0, fX 0, fR (am 27), fR (am 28), fR (am 29), fR (am 30), fR (am 31), fX 0, fX 0, fX 0, fX 0, fR (am 32), fX 0, fX 0, fX 0, fX 0, fR (am 33), fR (am 34), fR (am 35), fX 0, fX 0, fR (am 36), fR (am 37), fR (am 38), fX (-1), fX 0, fX 0, fX 0, fR (am 39), fX 0, fR (am 40), fR (am 41), fR (am 42), fR (am 43), fR (am 44)])) (ho : xr o) (hwhat : xr what) : xC l D ca yX12_lean cX12_lean 3 (some .int) r_c_X12_lean [.ref (am 0), .int (iI o), .int (iI what)] w (qIa (fun z => z = -2000)) := by
  refine xC.of2 "WindWordsModel" (by decide) rfl (Nat.le_of_ble_eq_true rfl) ?_
  intro p e s m args below meth c A ls Qf B hnm h hl hQ
  have hl : lv_has ls 3 [(0, .ref (am 0)), (1, .int (iI o)), (2, .int (iI what))] := hl
  refine lv_aload_n B.1 B.2.1 dX12_lean_0 rfl (lv_at hl 0 rfl) ?_
  refine lv_iload_n B.1 B.2.1 dX12_lean_1 rfl (lv_at hl 1 rfl) ?_
  refine x_cV B h kX12 0 f0 k_X12_isOfficer rfl (c_X12_isOfficer l D ca _ o am f0 (by omega)) m_1518 rfl (by decide) hl.1 [] (Nat.le_of_ble_eq_true rfl) rfl dX12_lean_2 (fun r w1 hq H locs h => ?_)
  obtain ⟨rfl, ⟨rfl, b1⟩ | ⟨rfl, b1⟩⟩ := hq
  · exact b1.elim
  · show W p l e r_c_X12_lean s m args below meth c H locs 0 0 Qf (F0 m 5 ls [.int (iI 0)])
    refine x_if_eq B (by omega) (tgt := 17) dX12_lean_5 (by decide) (fun c2 => ?_) (fun c2 => ?_)
    · refine x_sipush B (by decide) dX12_lean_17 ?_
      refine x_ri B hQ h (by decide) dX12_lean_20 ?_
      exact ⟨_, rfl, by omega⟩
    · exact absurd c2 (by omega)
abbrev r_c_X12_liked : Room := { frames := 1, cells := 0, slots := 0, locals := 21 }
set_option maxHeartbeats 4000000 in
set_option maxRecDepth 100000 in
theorem c_X12_liked (l : Launch) (D : va_G) (ca : Nat → ClassId) (w : xW) (o : Int) (number : Int) (what : Int) (am : Nat → Nat) (f0 : w[0]? = some (am 0, xO 12 [fR (am 1), fX 0, fX 0, fX 0, fX 0, fX 1, fX 1, fR (am 2), fR (am 3), fR (am 4), fR (am 5), fR (am 6), fR (am 7), fR (am 8), fR (am 9), fR (am 10), fR (am 11), fR (am 12), fR (am 13), fR (am 14), fR (am 15), fR (am 16), fR (am 17), fX 0, fR (am 18), fR (am 19), fR (am 20), fR (am 21), fR (am 22), fR (am 23), fR (am 24), fR (am 25), fX 0, fX (-1), fG 0 0, fG 0 0, fG 0 0, fG 0 0, fG 0 0, fG 0 0, fG 0 0, fG 0 0, fL, fX 0, fR (am 26), fX 0, fX 0, fR (am 27), fR (am 28), fR (am 29), fR (am 30), fR (am 31), fX 0, fX 0, fX 0, fX 0, fR (am 32), fX 0, fX 0, fX 0, fX 0, fR (am 33), fR (am 34), fR (am 35), fX 0, fX 0, fR (am 36), fR (am 37), fR (am 38), fX (-1), fX 0, fX 0, fX 0, fR (am 39), fX 0, fR (am 40), fR (am 41), fR (am 42), fR (am 43), fR (am 44)])) (ho : xr o) (hnumber : xr number) (hwhat : xr what) : xC l D ca yX12_liked cX12_liked 10 (some .int) r_c_X12_liked [.ref (am 0), .int (iI o), .int (iI number), .int (iI what)] w (qIa (fun z => z = -200)) := by
  refine xC.of2 "WindWordsModel" (by decide) rfl (Nat.le_of_ble_eq_true rfl) ?_
  intro p e s m args below meth c A ls Qf B hnm h hl hQ
  have hl : lv_has ls 10 [(0, .ref (am 0)), (1, .int (iI o)), (2, .int (iI number)), (3, .int (iI what))] := hl
  refine lv_aload_n B.1 B.2.1 dX12_liked_0 rfl (lv_at hl 0 rfl) ?_
  refine lv_iload_n B.1 B.2.1 dX12_liked_1 rfl (lv_at hl 1 rfl) ?_
  refine x_cV B h kX12 0 f0 k_X12_isOfficer rfl (c_X12_isOfficer l D ca _ o am f0 (by omega)) m_1518 rfl (by decide) hl.1 [] (Nat.le_of_ble_eq_true rfl) rfl dX12_liked_2 (fun r w1 hq H locs h => ?_)
  obtain ⟨rfl, ⟨rfl, b1⟩ | ⟨rfl, b1⟩⟩ := hq
  · exact b1.elim
  · show W p l e r_c_X12_liked s m args below meth c H locs 0 0 Qf (F0 m 5 ls [.int (iI 0)])
    refine x_if_eq B (by omega) (tgt := 27) dX12_liked_5 (by decide) (fun c2 => ?_) (fun c2 => ?_)
    · refine x_sipush B (by decide) dX12_liked_27 ?_
      refine x_ri B hQ h (by decide) dX12_liked_30 ?_
      exact ⟨_, rfl, by omega⟩
    · exact absurd c2 (by omega)
abbrev r_c_X12_sumsOf : Room := { frames := 0, cells := 0, slots := 0, locals := 0 }
set_option maxHeartbeats 4000000 in
set_option maxRecDepth 100000 in
theorem c_X12_sumsOf (l : Launch) (D : va_G) (ca : Nat → ClassId) (w : xW) (year : Int) (am : Nat → Nat) (f0 : w[0]? = some (am 0, xO 12 [fR (am 1), fX 0, fX 0, fX 0, fX 0, fX 1, fX 1, fR (am 2), fR (am 3), fR (am 4), fR (am 5), fR (am 6), fR (am 7), fR (am 8), fR (am 9), fR (am 10), fR (am 11), fR (am 12), fR (am 13), fR (am 14), fR (am 15), fR (am 16), fR (am 17), fX 0, fR (am 18), fR (am 19), fR (am 20), fR (am 21), fR (am 22), fR (am 23), fR (am 24), fR (am 25), fX 0, fX (-1), fG 0 0, fG 0 0, fG 0 0, fG 0 0, fG 0 0, fG 0 0, fG 0 0, fG 0 0, fL, fX 0, fR (am 26), fX 0, fX 0, fR (am 27), fR (am 28), fR (am 29), fR (am 30), fR (am 31), fX 0, fX 0, fX 0, fX 0, fR (am 32), fX 1, fX 0, fX 0, fX 0, fR (am 33), fR (am 34), fR (am 35), fX 0, fX 0, fR (am 36), fR (am 37), fR (am 38), fX (-1), fX 0, fX 0, fX 0, fR (am 39), fX 0, fR (am 40), fR (am 41), fR (am 42), fR (am 43), fR (am 44)])) (hyear : xr year) : xC l D ca yX12_sumsOf cX12_sumsOf 3 none r_c_X12_sumsOf [.ref (am 0), .int (iI year)] w (qV w) := by
  refine xC.of2 "WindWordsModel" (by decide) rfl (Nat.le_of_ble_eq_true rfl) ?_
  intro p e s m args below meth c A ls Qf B hnm h hl hQ
  have hl : lv_has ls 3 [(0, .ref (am 0)), (1, .int (iI year))] := hl
  refine lv_aload_n B.1 B.2.1 dX12_sumsOf_0 rfl (lv_at hl 0 rfl) ?_
  refine x_iconst B dX12_sumsOf_1 ?_
  refine x_putS B h kX12 0 f0 58 (P := fX 0) rfl m_1319 (by decide) rfl rfl rfl rfl dX12_sumsOf_2 (fun H locs h => ?_)
  refine lv_aload_n B.1 B.2.1 dX12_sumsOf_5 rfl (lv_at hl 0 rfl) ?_
  refine x_iconst B dX12_sumsOf_6 ?_
  refine x_putS B h kX12 0 f0 59 (P := fX 0) rfl m_1320 (by decide) rfl rfl rfl rfl dX12_sumsOf_7 (fun H locs h => ?_)
  refine lv_aload_n B.1 B.2.1 dX12_sumsOf_10 rfl (lv_at hl 0 rfl) ?_
  refine x_iconst B dX12_sumsOf_11 ?_
  refine x_putS B h kX12 0 f0 60 (P := fX 0) rfl m_1321 (by decide) rfl rfl rfl rfl dX12_sumsOf_12 (fun H locs h => ?_)
  refine x_iconst B dX12_sumsOf_15 ?_
  refine lv_istore_n (lv' := [(2, .int (iI 0)), (0, .ref (am 0)), (1, .int (iI year))]) B.1 B.2.1 dX12_sumsOf_16 rfl hl (by decide) rfl (fun ls hl => ?_)
  refine lv_iload_n B.1 B.2.1 dX12_sumsOf_17 rfl (lv_at hl 0 rfl) ?_
  refine lv_aload_n B.1 B.2.1 dX12_sumsOf_18 rfl (lv_at hl 1 rfl) ?_
  refine x_getX B h kX12 0 f0 4 (z := 0) rfl m_1265 (by decide) dX12_sumsOf_19 ?_
  refine x_icmp_ge B (by omega) (tgt := 61) dX12_sumsOf_22 (by decide) (fun c1 => ?_) (fun c1 => ?_)
  · refine x_rv B hQ h (by decide) dX12_sumsOf_61 ?_
    exact ⟨rfl, rfl⟩
  · exact absurd c1 (by omega)
abbrev r_c_X12_wind : Room := { frames := 1, cells := 0, slots := 0, locals := 24 }
set_option maxHeartbeats 4000000 in
set_option maxRecDepth 100000 in
theorem c_X12_wind (l : Launch) (D : va_G) (ca : Nat → ClassId) (w : xW) (year : Int) (what : Int) (am : Nat → Nat) (f0 : w[0]? = some (am 0, xO 12 [fR (am 1), fX 0, fX 0, fX 0, fX 0, fX 1, fX 1, fR (am 2), fR (am 3), fR (am 4), fR (am 5), fR (am 6), fR (am 7), fR (am 8), fR (am 9), fR (am 10), fR (am 11), fR (am 12), fR (am 13), fR (am 14), fR (am 15), fR (am 16), fR (am 17), fX 0, fR (am 18), fR (am 19), fR (am 20), fR (am 21), fR (am 22), fR (am 23), fR (am 24), fR (am 25), fX 0, fX (-1), fG 0 0, fG 0 0, fG 0 0, fG 0 0, fG 0 0, fG 0 0, fG 0 0, fG 0 0, fL, fX 0, fR (am 26), fX 0, fX 0, fR (am 27), fR (am 28), fR (am 29), fR (am 30), fR (am 31), fX 0, fX 0, fX 0, fX 0, fR (am 32), fX 0, fX 0, fX 0, fX 0, fR (am 33), fR (am 34), fR (am 35), fX 0, fX 0, fR (am 36), fR (am 37), fR (am 38), fX (-1), fX 0, fX 0, fX 0, fR (am 39), fX 0, fR (am 40), fR (am 41), fR (am 42), fR (am 43), fR (am 44)])) (f32 : w[32]? = some (am 32, xAI (ca 0) 289 (gG 289 0 100000))) (hyear : xr year) (hwhat : xr what) : xC l D ca yX12_wind cX12_wind 3 (some .int) r_c_X12_wind [.ref (am 0), .int (iI year), .int (iI what)] w (qIa (fun z => (((0 ≤ year ∧ year ≤ 9) ∧ what = 0) → z = 0) ∧ (¬ ((0 ≤ year ∧ year ≤ 9) ∧ what = 0) → z = -1))) := by
  refine xC.of2 "WindWordsModel" (by decide) rfl (Nat.le_of_ble_eq_true rfl) ?_
  intro p e s m args below meth c A ls Qf B hnm h hl hQ
  have hl : lv_has ls 3 [(0, .ref (am 0)), (1, .int (iI year)), (2, .int (iI what))] := hl
  refine lv_iload_n B.1 B.2.1 dX12_wind_0 rfl (lv_at hl 1 rfl) ?_
  refine x_iconst B dX12_wind_1 ?_
  refine x_bipush B (by decide) dX12_wind_2 ?_
  refine x_cS B h k_X12_within (c_X12_within l D ca _ year 0 9  (by omega) (by omega) (by omega)) m_1515 rfl (by decide) hl.1 [] (Nat.le_of_ble_eq_true rfl) rfl dX12_wind_4 (fun r w1 hq H locs h => ?_)
  obtain ⟨rfl, ⟨rfl, b1⟩ | ⟨rfl, b1⟩⟩ := hq
  · show W p l e r_c_X12_wind s m args below meth c H locs 0 0 Qf (F0 m 7 ls [.int (iI 1)])
    refine x_if_eq B (by omega) (tgt := 19) dX12_wind_7 (by decide) (fun c2 => ?_) (fun c2 => ?_)
    · exact absurd c2 (by omega)
    · refine lv_iload_n B.1 B.2.1 dX12_wind_10 rfl (lv_at hl 2 rfl) ?_
      refine x_iconst B dX12_wind_11 ?_
      refine x_iconst B dX12_wind_12 ?_
      refine x_cS B h k_X12_within (c_X12_within l D ca _ what 0 2  (by omega) (by omega) (by omega)) m_1515 rfl (by decide) hl.1 [] (Nat.le_of_ble_eq_true rfl) rfl dX12_wind_13 (fun r w1 hq H locs h => ?_)
      obtain ⟨rfl, ⟨rfl, b3⟩ | ⟨rfl, b3⟩⟩ := hq
      · show W p l e r_c_X12_wind s m args below meth c H locs 0 0 Qf (F0 m 16 ls [.int (iI 1)])
        refine x_if_ne B (by omega) (tgt := 21) dX12_wind_16 (by decide) (fun c4 => ?_) (fun c4 => ?_)
        · refine lv_aload_n B.1 B.2.1 dX12_wind_21 rfl (lv_at hl 0 rfl) ?_
          refine x_cV B h kX12 0 f0 k_X12_findLeans rfl (c_X12_findLeans l D ca _ am f0 f32 ) m_1723 rfl (by decide) hl.1 [] (Nat.le_of_ble_eq_true rfl) rfl dX12_wind_22 (fun r w1 hq H locs h => ?_)
          obtain ⟨rfl, rfl⟩ := hq
          show W p l e r_c_X12_wind s m args below meth c H locs 0 0 Qf (F0 m 25 ls [])
          have h : xH D A s.heap (w.set 0 (am 0, xO 12 [fR (am 1), fX 0, fX 0, fX 0, fX 0, fX 1, fX 1, fR (am 2), fR (am 3), fR (am 4), fR (am 5), fR (am 6), fR (am 7), fR (am 8), fR (am 9), fR (am 10), fR (am 11), fR (am 12), fR (am 13), fR (am 14), fR (am 15), fR (am 16), fR (am 17), fX 0, fR (am 18), fR (am 19), fR (am 20), fR (am 21), fR (am 22), fR (am 23), fR (am 24), fR (am 25), fX 0, fX (-1), fG 0 0, fG 0 0, fG 0 0, fG 0 0, fG 0 0, fG 0 0, fG 0 0, fG 0 0, fL, fX 0, fR (am 26), fX 0, fX 0, fR (am 27), fR (am 28), fR (am 29), fR (am 30), fR (am 31), fX 0, fX 0, fX 0, fX 0, fR (am 32), fX 1, fX 0, fX 0, fX 0, fR (am 33), fR (am 34), fR (am 35), fX 0, fX 0, fR (am 36), fR (am 37), fR (am 38), fX (-1), fX 0, fX 0, fX 0, fR (am 39), fX 0, fR (am 40), fR (am 41), fR (am 42), fR (am 43), fR (am 44)])) H locs := h
          refine lv_aload_n B.1 B.2.1 dX12_wind_25 rfl (lv_at hl 0 rfl) ?_
          refine x_getX B h kX12 0 (xset_eq f0) 57 (z := 1) rfl m_1318 (by decide) dX12_wind_26 ?_
          refine x_if_ne B (by omega) (tgt := 34) dX12_wind_29 (by decide) (fun c5 => ?_) (fun c5 => ?_)
          · refine lv_aload_n B.1 B.2.1 dX12_wind_34 rfl (lv_at hl 0 rfl) ?_
            refine lv_iload_n B.1 B.2.1 dX12_wind_35 rfl (lv_at hl 1 rfl) ?_
            refine x_cV B h kX12 0 (xset_eq f0) k_X12_sumsOf rfl (c_X12_sumsOf l D ca _ year am (xset_eq f0) (by omega)) m_1788 rfl (by decide) hl.1 [] (Nat.le_of_ble_eq_true rfl) rfl dX12_wind_36 (fun r w1 hq H locs h => ?_)
            obtain ⟨rfl, rfl⟩ := hq
            show W p l e r_c_X12_wind s m args below meth c H locs 0 0 Qf (F0 m 39 ls [])
            refine lv_iload_n B.1 B.2.1 dX12_wind_39 rfl (lv_at hl 2 rfl) ?_
            refine x_if_ne B (by omega) (tgt := 48) dX12_wind_40 (by decide) (fun c6 => ?_) (fun c6 => ?_)
            · refine lv_aload_n B.1 B.2.1 dX12_wind_48 rfl (lv_at hl 0 rfl) ?_
              refine x_getX B h kX12 0 (xset_eq f0) 58 (z := 0) rfl m_1319 (by decide) dX12_wind_49 ?_
              refine x_if_ne B (by omega) (tgt := 59) dX12_wind_52 (by decide) (fun c7 => ?_) (fun c7 => ?_)
              · exact absurd c7 (by omega)
              · refine x_iconst B dX12_wind_55 ?_
                refine lv_goto (tgt := 80) B.1 B.2.1 dX12_wind_56 (by decide) ?_
                refine x_ri B hQ h (by decide) dX12_wind_80 ?_
                exact ⟨_, rfl, by omega⟩
            · refine lv_aload_n B.1 B.2.1 dX12_wind_43 rfl (lv_at hl 0 rfl) ?_
              refine x_getX B h kX12 0 (xset_eq f0) 58 (z := 0) rfl m_1319 (by decide) dX12_wind_44 ?_
              refine x_ri B hQ h (by decide) dX12_wind_47 ?_
              exact ⟨_, rfl, by omega⟩
          · exact absurd c5 (by omega)
        · exact absurd c4 (by omega)
      · show W p l e r_c_X12_wind s m args below meth c H locs 0 0 Qf (F0 m 16 ls [.int (iI 0)])
        refine x_if_ne B (by omega) (tgt := 21) dX12_wind_16 (by decide) (fun c8 => ?_) (fun c8 => ?_)
        · exact absurd c8 (by omega)
        · refine x_iconst B dX12_wind_19 ?_
          refine x_ri B hQ h (by decide) dX12_wind_20 ?_
          exact ⟨_, rfl, by omega⟩
  · show W p l e r_c_X12_wind s m args below meth c H locs 0 0 Qf (F0 m 7 ls [.int (iI 0)])
    refine x_if_eq B (by omega) (tgt := 19) dX12_wind_7 (by decide) (fun c9 => ?_) (fun c9 => ?_)
    · refine x_iconst B dX12_wind_19 ?_
      refine x_ri B hQ h (by decide) dX12_wind_20 ?_
      exact ⟨_, rfl, by omega⟩
    · exact absurd c9 (by omega)
abbrev r_c_X12_ordersWith : Room := { frames := 0, cells := 0, slots := 0, locals := 0 }
set_option maxHeartbeats 4000000 in
set_option maxRecDepth 100000 in
theorem c_X12_ordersWith (l : Launch) (D : va_G) (ca : Nat → ClassId) (w : xW) (am : Nat → Nat) (f0 : w[0]? = some (am 0, xO 12 [fR (am 1), fX 0, fX 0, fX 0, fX 0, fX 1, fX 1, fR (am 2), fR (am 3), fR (am 4), fR (am 5), fR (am 6), fR (am 7), fR (am 8), fR (am 9), fR (am 10), fR (am 11), fR (am 12), fR (am 13), fR (am 14), fR (am 15), fR (am 16), fR (am 17), fX 0, fR (am 18), fR (am 19), fR (am 20), fR (am 21), fR (am 22), fR (am 23), fR (am 24), fR (am 25), fX 0, fX (-1), fG 0 0, fG 0 0, fG 0 0, fG 0 0, fG 0 0, fG 0 0, fG 0 0, fG 0 0, fL, fX 0, fR (am 26), fX 0, fX 0, fR (am 27), fR (am 28), fR (am 29), fR (am 30), fR (am 31), fX 0, fX 0, fX 0, fX 0, fR (am 32), fX 1, fX 0, fX 0, fX 0, fR (am 33), fR (am 34), fR (am 35), fX 0, fX 0, fR (am 36), fR (am 37), fR (am 38), fX (-1), fX 0, fX 0, fX 0, fR (am 39), fX 0, fR (am 40), fR (am 41), fR (am 42), fR (am 43), fR (am 44)])) (f33 : w[33]? = some (am 33, xAL (ca 1) 50 (fun _ => True)))  : xC l D ca yX12_ordersWith cX12_ordersWith 6 (some .long) r_c_X12_ordersWith [.ref (am 0), .int (iI 0), .int (iI 0)] w (qLa (fun z => z = (1 : Int64))) := by
  refine xC.of2 "WindWordsModel" (by decide) rfl (Nat.le_of_ble_eq_true rfl) ?_
  intro p e s m args below meth c A ls Qf B hnm h hl hQ
  have hl : lv_has ls 6 [(0, .ref (am 0)), (1, .int (iI 0)), (2, .int (iI 0))] := hl
  refine x_iconst B dX12_ordersWith_0 ?_
  refine lv_istore_n (lv' := [(3, .int (iI 0)), (0, .ref (am 0)), (1, .int (iI 0)), (2, .int (iI 0))]) B.1 B.2.1 dX12_ordersWith_1 rfl hl (by decide) rfl (fun ls hl => ?_)
  have h := xH.weak (P' := xAL (ca 1) 50 (gO 0)) h f33 (fun e he => by obtain ⟨f, rfl, _⟩ := he; exact ⟨f, rfl, fun j hj => by omega⟩)
  have h : xH D A s.heap (w.set 33 (am 33, xAL (ca 1) 50 (gO 0))) _ _ := h
  have loop2 : ∀ (n2 : Nat) (k : Int), (0 ≤ k ∧ k ≤ 50) → (50 - k : Int).toNat < n2 → ∀ (H : Heap) (locs : List Loc) (ls : Array Slot), xH D A s.heap ((w.set 33 (am 33, xAL (ca 1) 50 (gO k)))) H locs → lv_has ls 6 [(0, .ref (am 0)), (1, .int (iI 0)), (2, .int (iI 0)), (3, .int (iI k))] → W p l e r_c_X12_ordersWith s m args below meth c H locs 0 0 Qf (F0 m 2 ls []) := by
    intro n2
    induction n2 with
    | zero =>
      intro k h0 hm2 H locs ls h hl
      exact absurd hm2 (Nat.not_lt_zero _)
    | succ n2 ih2 =>
      intro k h0 hm2 H locs ls h hl
      refine lv_iload_n B.1 B.2.1 dX12_ordersWith_2 rfl (lv_at hl 3 rfl) ?_
      refine x_bipush B (by decide) dX12_ordersWith_3 ?_
      refine x_icmp_ge B (by omega) (tgt := 29) dX12_ordersWith_5 (by decide) (fun c1 => ?_) (fun c1 => ?_)
      · have e9_k : 50 = k := by omega
        subst e9_k
        refine x_iconst B dX12_ordersWith_29 ?_
        refine lv_istore_n (lv' := [(3, .int (iI 2)), (0, .ref (am 0)), (1, .int (iI 0)), (2, .int (iI 0))]) B.1 B.2.1 dX12_ordersWith_30 rfl hl (by decide) rfl (fun ls hl => ?_)
        refine lv_iload_n B.1 B.2.1 dX12_ordersWith_31 rfl (lv_at hl 0 rfl) ?_
        refine lv_iload_n B.1 B.2.1 dX12_ordersWith_32 rfl (lv_at hl 2 rfl) ?_
        refine x_icmp_gt B (by omega) (tgt := 138) dX12_ordersWith_33 (by decide) (fun c2 => ?_) (fun c2 => ?_)
        · refine lv_lconst (v := 0) B.1 B.2.1 dX12_ordersWith_138 (by decide) ?_
          refine lv_lstore_n (lv' := [(3, .long ((0 : Int64))), (0, .ref (am 0)), (1, .int (iI 0)), (2, .int (iI 0))]) B.1 B.2.1 dX12_ordersWith_139 rfl hl (by decide) rfl (fun ls hl => ?_)
          refine lv_iload_n B.1 B.2.1 dX12_ordersWith_140 rfl (lv_at hl 3 rfl) ?_
          refine lv_istore (lv' := [(5, .int (iI 0)), (3, .long ((0 : Int64))), (0, .ref (am 0)), (1, .int (iI 0)), (2, .int (iI 0))]) B.1 B.2.1 dX12_ordersWith_141 hl (by decide) rfl (fun ls hl => ?_)
          have loop143 : ∀ (n143 : Nat) (k : Int) (s_ : Int64), (0 ≤ k ∧ k ≤ 50) → ((k = 0 ∧ s_ = 0) ∨ (1 ≤ k ∧ s_ = 1)) → (50 - k : Int).toNat < n143 → ∀ (H : Heap) (locs : List Loc) (ls : Array Slot), xH D A s.heap ((w.set 33 (am 33, xAL (ca 1) 50 (gO 50)))) H locs → lv_has ls 6 [(0, .ref (am 0)), (1, .int (iI 0)), (2, .int (iI 0)), (3, .long (s_)), (5, .int (iI k))] → W p l e r_c_X12_ordersWith s m args below meth c H locs 0 0 Qf (F0 m 143 ls []) := by
            intro n143
            induction n143 with
            | zero =>
              intro k s_ h0 h1 hm143 H locs ls h hl
              exact absurd hm143 (Nat.not_lt_zero _)
            | succ n143 ih143 =>
              intro k s_ h0 h1 hm143 H locs ls h hl
              refine lv_iload B.1 B.2.1 dX12_ordersWith_143 (lv_at hl 4 rfl) ?_
              refine x_bipush B (by decide) dX12_ordersWith_145 ?_
              refine x_icmp_ge B (by omega) (tgt := 166) dX12_ordersWith_147 (by decide) (fun c3 => ?_) (fun c3 => ?_)
              · refine lv_lload_n B.1 B.2.1 dX12_ordersWith_166 rfl (lv_at hl 3 rfl) ?_
                refine x_rl B hQ h (by decide) dX12_ordersWith_167 ?_
                exact ⟨_, rfl, h1.elim (fun q => absurd q.1 (by omega)) (fun q => q.2)⟩
              · refine lv_lload_n B.1 B.2.1 dX12_ordersWith_150 rfl (lv_at hl 3 rfl) ?_
                refine lv_aload_n B.1 B.2.1 dX12_ordersWith_151 rfl (lv_at hl 0 rfl) ?_
                refine x_getR B h kX12 0 (xset_ne f0 (by decide)) 61 (b := am 33) rfl m_1322 (by decide) dX12_ordersWith_152 ?_
                refine lv_iload B.1 B.2.1 dX12_ordersWith_155 (lv_at hl 4 rfl) ?_
                refine x_lald B h 33 (xset_eq f33) (by omega) dX12_ordersWith_157 (fun fy4 hfy4 => ?_)
                obtain ⟨y4, ey4, hy4⟩ := gO_ex (i := k) hfy4 (by omega)
                refine x_lset ey4 ?_
                refine lv_ladd B.1 B.2.1 dX12_ordersWith_158 ?_
                refine x_rawLe (fun y5 ey5 => ?_)
                refine lv_lstore_n (lv' := [(3, .long (y5)), (0, .ref (am 0)), (1, .int (iI 0)), (2, .int (iI 0)), (5, .int (iI k))]) B.1 B.2.1 dX12_ordersWith_159 rfl hl (by decide) rfl (fun ls hl => ?_)
                refine lv_iinc (v := iI (k + 1)) (lv' := [(5, .int (iI (k + 1))), (3, .long (y5)), (0, .ref (am 0)), (1, .int (iI 0)), (2, .int (iI 0))]) B.1 B.2.1 dX12_ordersWith_160 hl (k := 4) rfl (iI_add _ _) (by decide) rfl (fun ls hl => ?_)
                refine lv_goto (tgt := 143) B.1 B.2.1 dX12_ordersWith_163 (by decide) ?_
                exact ih143 ((k + 1)) y5 (by omega) (gO_sum h1 hy4 ey5) (by omega) _ _ _ h (lv_sub hl [2, 3, 4, 1, 0] rfl)
          exact loop143 ((50 - 0 : Int).toNat + 1) 0 ((0 : Int64)) (by omega) (Or.inl ⟨rfl, rfl⟩) (Nat.lt_succ_self _) _ _ _ h (lv_sub hl [2, 3, 4, 1, 0] rfl)
        · exact absurd c2 (by omega)
      · refine lv_aload_n B.1 B.2.1 dX12_ordersWith_8 rfl (lv_at hl 0 rfl) ?_
        refine x_getR B h kX12 0 (xset_ne f0 (by decide)) 61 (b := am 33) rfl m_1322 (by decide) dX12_ordersWith_9 ?_
        refine lv_iload_n B.1 B.2.1 dX12_ordersWith_12 rfl (lv_at hl 3 rfl) ?_
        refine lv_iload_n B.1 B.2.1 dX12_ordersWith_13 rfl (lv_at hl 3 rfl) ?_
        refine x_if_ne B (by omega) (tgt := 21) dX12_ordersWith_14 (by decide) (fun c6 => ?_) (fun c6 => ?_)
        · refine lv_lconst (v := 0) B.1 B.2.1 dX12_ordersWith_21 (by decide) ?_
          refine x_last B h 33 (xset_eq f33) (by omega) (P' := gO (k + 1)) (gO_next_0 (by omega)) dX12_ordersWith_22 (fun H locs h => ?_)
          have h : xH D A s.heap (w.set 33 (am 33, xAL (ca 1) 50 (gO (k + 1)))) H locs := by rw [List.set_set] at h; exact h
          refine lv_iinc (v := iI (k + 1)) (lv' := [(3, .int (iI (k + 1))), (0, .ref (am 0)), (1, .int (iI 0)), (2, .int (iI 0))]) B.1 B.2.1 dX12_ordersWith_23 hl (k := 3) rfl (iI_add _ _) (by decide) rfl (fun ls hl => ?_)
          refine lv_goto (tgt := 2) B.1 B.2.1 dX12_ordersWith_26 (by decide) ?_
          exact ih2 ((k + 1)) (by omega) (by omega) _ _ _ h (lv_sub hl [1, 2, 3, 0] rfl)
        · refine lv_lconst (v := 1) B.1 B.2.1 dX12_ordersWith_17 (by decide) ?_
          refine lv_goto (tgt := 22) B.1 B.2.1 dX12_ordersWith_18 (by decide) ?_
          refine x_last B h 33 (xset_eq f33) (by omega) (P' := gO (k + 1)) (gO_next_1 (by omega)) dX12_ordersWith_22 (fun H locs h => ?_)
          have h : xH D A s.heap (w.set 33 (am 33, xAL (ca 1) 50 (gO (k + 1)))) H locs := by rw [List.set_set] at h; exact h
          refine lv_iinc (v := iI (k + 1)) (lv' := [(3, .int (iI (k + 1))), (0, .ref (am 0)), (1, .int (iI 0)), (2, .int (iI 0))]) B.1 B.2.1 dX12_ordersWith_23 hl (k := 3) rfl (iI_add _ _) (by decide) rfl (fun ls hl => ?_)
          refine lv_goto (tgt := 2) B.1 B.2.1 dX12_ordersWith_26 (by decide) ?_
          exact ih2 ((k + 1)) (by omega) (by omega) _ _ _ h (lv_sub hl [1, 2, 3, 0] rfl)
  exact loop2 ((50 - 0 : Int).toNat + 1) 0 (by omega) (Nat.lt_succ_self _) _ _ _ h (lv_sub hl [1, 2, 3, 0] rfl)
abbrev r_c_X12_grew : Room := { frames := 1, cells := 0, slots := 0, locals := 25 }
set_option maxHeartbeats 4000000 in
set_option maxRecDepth 100000 in
theorem c_X12_grew (l : Launch) (D : va_G) (ca : Nat → ClassId) (w : xW) (what : Int) (am : Nat → Nat) (f0 : w[0]? = some (am 0, xO 12 [fR (am 1), fX 0, fX 0, fX 0, fX 0, fX 1, fX 1, fR (am 2), fR (am 3), fR (am 4), fR (am 5), fR (am 6), fR (am 7), fR (am 8), fR (am 9), fR (am 10), fR (am 11), fR (am 12), fR (am 13), fR (am 14), fR (am 15), fR (am 16), fR (am 17), fX 0, fR (am 18), fR (am 19), fR (am 20), fR (am 21), fR (am 22), fR (am 23), fR (am 24), fR (am 25), fX 0, fX (-1), fG 0 0, fG 0 0, fG 0 0, fG 0 0, fG 0 0, fG 0 0, fG 0 0, fG 0 0, fL, fX 0, fR (am 26), fX 0, fX 0, fR (am 27), fR (am 28), fR (am 29), fR (am 30), fR (am 31), fX 0, fX 0, fX 0, fX 0, fR (am 32), fX 0, fX 0, fX 0, fX 0, fR (am 33), fR (am 34), fR (am 35), fX 0, fX 0, fR (am 36), fR (am 37), fR (am 38), fX (-1), fX 0, fX 0, fX 0, fR (am 39), fX 0, fR (am 40), fR (am 41), fR (am 42), fR (am 43), fR (am 44)])) (f32 : w[32]? = some (am 32, xAI (ca 0) 289 (gG 289 0 100000))) (f33 : w[33]? = some (am 33, xAL (ca 1) 50 (fun _ => True))) (f35 : w[35]? = some (am 35, xAI (ca 0) 10 gA)) (hwhat : xr what) : xC l D ca yX12_grew cX12_grew 6 (some .int) r_c_X12_grew [.ref (am 0), .int (iI what)] w (qIa (fun z => ((what = 0 ∨ what = 3) → z = 0) ∧ ((what = 1 ∨ what = 2) → z = 1) ∧ ((what < 0 ∨ 3 < what) → z = -1))) := by
  refine xC.of2 "WindWordsModel" (by decide) rfl (Nat.le_of_ble_eq_true rfl) ?_
  intro p e s m args below meth c A ls Qf B hnm h hl hQ
  have hl : lv_has ls 6 [(0, .ref (am 0)), (1, .int (iI what))] := hl
  refine lv_iload_n B.1 B.2.1 dX12_grew_0 rfl (lv_at hl 1 rfl) ?_
  refine x_iconst B dX12_grew_1 ?_
  refine x_iconst B dX12_grew_2 ?_
  refine x_cS B h k_X12_within (c_X12_within l D ca _ what 0 3  (by omega) (by omega) (by omega)) m_1515 rfl (by decide) hl.1 [] (Nat.le_of_ble_eq_true rfl) rfl dX12_grew_3 (fun r w1 hq H locs h => ?_)
  obtain ⟨rfl, ⟨rfl, b1⟩ | ⟨rfl, b1⟩⟩ := hq
  · show W p l e r_c_X12_grew s m args below meth c H locs 0 0 Qf (F0 m 6 ls [.int (iI 1)])
    refine x_if_ne B (by omega) (tgt := 11) dX12_grew_6 (by decide) (fun c2 => ?_) (fun c2 => ?_)
    · refine lv_aload_n B.1 B.2.1 dX12_grew_11 rfl (lv_at hl 0 rfl) ?_
      refine x_cV B h kX12 0 f0 k_X12_findLeans rfl (c_X12_findLeans l D ca _ am f0 f32 ) m_1723 rfl (by decide) hl.1 [] (Nat.le_of_ble_eq_true rfl) rfl dX12_grew_12 (fun r w1 hq H locs h => ?_)
      obtain ⟨rfl, rfl⟩ := hq
      show W p l e r_c_X12_grew s m args below meth c H locs 0 0 Qf (F0 m 15 ls [])
      have h : xH D A s.heap (w.set 0 (am 0, xO 12 [fR (am 1), fX 0, fX 0, fX 0, fX 0, fX 1, fX 1, fR (am 2), fR (am 3), fR (am 4), fR (am 5), fR (am 6), fR (am 7), fR (am 8), fR (am 9), fR (am 10), fR (am 11), fR (am 12), fR (am 13), fR (am 14), fR (am 15), fR (am 16), fR (am 17), fX 0, fR (am 18), fR (am 19), fR (am 20), fR (am 21), fR (am 22), fR (am 23), fR (am 24), fR (am 25), fX 0, fX (-1), fG 0 0, fG 0 0, fG 0 0, fG 0 0, fG 0 0, fG 0 0, fG 0 0, fG 0 0, fL, fX 0, fR (am 26), fX 0, fX 0, fR (am 27), fR (am 28), fR (am 29), fR (am 30), fR (am 31), fX 0, fX 0, fX 0, fX 0, fR (am 32), fX 1, fX 0, fX 0, fX 0, fR (am 33), fR (am 34), fR (am 35), fX 0, fX 0, fR (am 36), fR (am 37), fR (am 38), fX (-1), fX 0, fX 0, fX 0, fR (am 39), fX 0, fR (am 40), fR (am 41), fR (am 42), fR (am 43), fR (am 44)])) H locs := h
      refine lv_aload_n B.1 B.2.1 dX12_grew_15 rfl (lv_at hl 0 rfl) ?_
      refine x_getX B h kX12 0 (xset_eq f0) 57 (z := 1) rfl m_1318 (by decide) dX12_grew_16 ?_
      refine x_if_ne B (by omega) (tgt := 24) dX12_grew_19 (by decide) (fun c3 => ?_) (fun c3 => ?_)
      · refine x_iconst B dX12_grew_24 ?_
        refine lv_istore_n (lv' := [(2, .int (iI 0)), (0, .ref (am 0)), (1, .int (iI what))]) B.1 B.2.1 dX12_grew_25 rfl hl (by decide) rfl (fun ls hl => ?_)
        refine x_iconst B dX12_grew_26 ?_
        refine lv_istore_n (lv' := [(3, .int (iI 0)), (2, .int (iI 0)), (0, .ref (am 0)), (1, .int (iI what))]) B.1 B.2.1 dX12_grew_27 rfl hl (by decide) rfl (fun ls hl => ?_)
        refine lv_iload_n B.1 B.2.1 dX12_grew_28 rfl (lv_at hl 0 rfl) ?_
        refine x_bipush B (by decide) dX12_grew_29 ?_
        refine x_icmp_ge B (by omega) (tgt := 84) dX12_grew_31 (by decide) (fun c4 => ?_) (fun c4 => ?_)
        · exact absurd c4 (by omega)
        · refine lv_aload_n B.1 B.2.1 dX12_grew_34 rfl (lv_at hl 2 rfl) ?_
          refine lv_iload_n B.1 B.2.1 dX12_grew_35 rfl (lv_at hl 0 rfl) ?_
          refine x_cV B h kX12 0 (xset_eq f0) k_X12_sumsOf rfl (c_X12_sumsOf l D ca _ 0 am (xset_eq f0) (by omega)) m_1788 rfl (by decide) hl.1 [] (Nat.le_of_ble_eq_true rfl) rfl dX12_grew_36 (fun r w1 hq H locs h => ?_)
          obtain ⟨rfl, rfl⟩ := hq
          show W p l e r_c_X12_grew s m args below meth c H locs 0 0 Qf (F0 m 39 ls [])
          refine lv_aload_n B.1 B.2.1 dX12_grew_39 rfl (lv_at hl 2 rfl) ?_
          refine x_getX B h kX12 0 (xset_eq f0) 58 (z := 0) rfl m_1319 (by decide) dX12_grew_40 ?_
          refine x_if_ne B (by omega) (tgt := 49) dX12_grew_43 (by decide) (fun c5 => ?_) (fun c5 => ?_)
          · exact absurd c5 (by omega)
          · refine lv_goto (tgt := 78) B.1 B.2.1 dX12_grew_46 (by decide) ?_
            refine lv_iinc (v := iI (0 + 1)) (lv' := [(3, .int (iI (0 + 1))), (2, .int (iI 0)), (0, .ref (am 0)), (1, .int (iI what))]) B.1 B.2.1 dX12_grew_78 hl (k := 0) rfl (iI_add _ _) (by decide) rfl (fun ls hl => ?_)
            refine lv_goto (tgt := 28) B.1 B.2.1 dX12_grew_81 (by decide) ?_
            refine lv_iload_n B.1 B.2.1 dX12_grew_28 rfl (lv_at hl 0 rfl) ?_
            refine x_bipush B (by decide) dX12_grew_29 ?_
            refine x_icmp_ge B (by omega) (tgt := 84) dX12_grew_31 (by decide) (fun c6 => ?_) (fun c6 => ?_)
            · exact absurd c6 (by omega)
            · refine lv_aload_n B.1 B.2.1 dX12_grew_34 rfl (lv_at hl 2 rfl) ?_
              refine lv_iload_n B.1 B.2.1 dX12_grew_35 rfl (lv_at hl 0 rfl) ?_
              refine x_cV B h kX12 0 (xset_eq f0) k_X12_sumsOf rfl (c_X12_sumsOf l D ca _ ((0 + 1)) am (xset_eq f0) (by omega)) m_1788 rfl (by decide) hl.1 [] (Nat.le_of_ble_eq_true rfl) rfl dX12_grew_36 (fun r w1 hq H locs h => ?_)
              obtain ⟨rfl, rfl⟩ := hq
              show W p l e r_c_X12_grew s m args below meth c H locs 0 0 Qf (F0 m 39 ls [])
              refine lv_aload_n B.1 B.2.1 dX12_grew_39 rfl (lv_at hl 2 rfl) ?_
              refine x_getX B h kX12 0 (xset_eq f0) 58 (z := 0) rfl m_1319 (by decide) dX12_grew_40 ?_
              refine x_if_ne B (by omega) (tgt := 49) dX12_grew_43 (by decide) (fun c7 => ?_) (fun c7 => ?_)
              · exact absurd c7 (by omega)
              · refine lv_goto (tgt := 78) B.1 B.2.1 dX12_grew_46 (by decide) ?_
                refine lv_iinc (v := iI ((0 + 1) + 1)) (lv' := [(3, .int (iI ((0 + 1) + 1))), (2, .int (iI 0)), (0, .ref (am 0)), (1, .int (iI what))]) B.1 B.2.1 dX12_grew_78 hl (k := 0) rfl (iI_add _ _) (by decide) rfl (fun ls hl => ?_)
                refine lv_goto (tgt := 28) B.1 B.2.1 dX12_grew_81 (by decide) ?_
                refine lv_iload_n B.1 B.2.1 dX12_grew_28 rfl (lv_at hl 0 rfl) ?_
                refine x_bipush B (by decide) dX12_grew_29 ?_
                refine x_icmp_ge B (by omega) (tgt := 84) dX12_grew_31 (by decide) (fun c8 => ?_) (fun c8 => ?_)
                · exact absurd c8 (by omega)
                · refine lv_aload_n B.1 B.2.1 dX12_grew_34 rfl (lv_at hl 2 rfl) ?_
                  refine lv_iload_n B.1 B.2.1 dX12_grew_35 rfl (lv_at hl 0 rfl) ?_
                  refine x_cV B h kX12 0 (xset_eq f0) k_X12_sumsOf rfl (c_X12_sumsOf l D ca _ (((0 + 1) + 1)) am (xset_eq f0) (by omega)) m_1788 rfl (by decide) hl.1 [] (Nat.le_of_ble_eq_true rfl) rfl dX12_grew_36 (fun r w1 hq H locs h => ?_)
                  obtain ⟨rfl, rfl⟩ := hq
                  show W p l e r_c_X12_grew s m args below meth c H locs 0 0 Qf (F0 m 39 ls [])
                  refine lv_aload_n B.1 B.2.1 dX12_grew_39 rfl (lv_at hl 2 rfl) ?_
                  refine x_getX B h kX12 0 (xset_eq f0) 58 (z := 0) rfl m_1319 (by decide) dX12_grew_40 ?_
                  refine x_if_ne B (by omega) (tgt := 49) dX12_grew_43 (by decide) (fun c9 => ?_) (fun c9 => ?_)
                  · exact absurd c9 (by omega)
                  · refine lv_goto (tgt := 78) B.1 B.2.1 dX12_grew_46 (by decide) ?_
                    refine lv_iinc (v := iI (((0 + 1) + 1) + 1)) (lv' := [(3, .int (iI (((0 + 1) + 1) + 1))), (2, .int (iI 0)), (0, .ref (am 0)), (1, .int (iI what))]) B.1 B.2.1 dX12_grew_78 hl (k := 0) rfl (iI_add _ _) (by decide) rfl (fun ls hl => ?_)
                    refine lv_goto (tgt := 28) B.1 B.2.1 dX12_grew_81 (by decide) ?_
                    refine lv_iload_n B.1 B.2.1 dX12_grew_28 rfl (lv_at hl 0 rfl) ?_
                    refine x_bipush B (by decide) dX12_grew_29 ?_
                    refine x_icmp_ge B (by omega) (tgt := 84) dX12_grew_31 (by decide) (fun c10 => ?_) (fun c10 => ?_)
                    · exact absurd c10 (by omega)
                    · refine lv_aload_n B.1 B.2.1 dX12_grew_34 rfl (lv_at hl 2 rfl) ?_
                      refine lv_iload_n B.1 B.2.1 dX12_grew_35 rfl (lv_at hl 0 rfl) ?_
                      refine x_cV B h kX12 0 (xset_eq f0) k_X12_sumsOf rfl (c_X12_sumsOf l D ca _ ((((0 + 1) + 1) + 1)) am (xset_eq f0) (by omega)) m_1788 rfl (by decide) hl.1 [] (Nat.le_of_ble_eq_true rfl) rfl dX12_grew_36 (fun r w1 hq H locs h => ?_)
                      obtain ⟨rfl, rfl⟩ := hq
                      show W p l e r_c_X12_grew s m args below meth c H locs 0 0 Qf (F0 m 39 ls [])
                      refine lv_aload_n B.1 B.2.1 dX12_grew_39 rfl (lv_at hl 2 rfl) ?_
                      refine x_getX B h kX12 0 (xset_eq f0) 58 (z := 0) rfl m_1319 (by decide) dX12_grew_40 ?_
                      refine x_if_ne B (by omega) (tgt := 49) dX12_grew_43 (by decide) (fun c11 => ?_) (fun c11 => ?_)
                      · exact absurd c11 (by omega)
                      · refine lv_goto (tgt := 78) B.1 B.2.1 dX12_grew_46 (by decide) ?_
                        refine lv_iinc (v := iI ((((0 + 1) + 1) + 1) + 1)) (lv' := [(3, .int (iI ((((0 + 1) + 1) + 1) + 1))), (2, .int (iI 0)), (0, .ref (am 0)), (1, .int (iI what))]) B.1 B.2.1 dX12_grew_78 hl (k := 0) rfl (iI_add _ _) (by decide) rfl (fun ls hl => ?_)
                        refine lv_goto (tgt := 28) B.1 B.2.1 dX12_grew_81 (by decide) ?_
                        refine lv_iload_n B.1 B.2.1 dX12_grew_28 rfl (lv_at hl 0 rfl) ?_
                        refine x_bipush B (by decide) dX12_grew_29 ?_
                        refine x_icmp_ge B (by omega) (tgt := 84) dX12_grew_31 (by decide) (fun c12 => ?_) (fun c12 => ?_)
                        · exact absurd c12 (by omega)
                        · refine lv_aload_n B.1 B.2.1 dX12_grew_34 rfl (lv_at hl 2 rfl) ?_
                          refine lv_iload_n B.1 B.2.1 dX12_grew_35 rfl (lv_at hl 0 rfl) ?_
                          refine x_cV B h kX12 0 (xset_eq f0) k_X12_sumsOf rfl (c_X12_sumsOf l D ca _ (((((0 + 1) + 1) + 1) + 1)) am (xset_eq f0) (by omega)) m_1788 rfl (by decide) hl.1 [] (Nat.le_of_ble_eq_true rfl) rfl dX12_grew_36 (fun r w1 hq H locs h => ?_)
                          obtain ⟨rfl, rfl⟩ := hq
                          show W p l e r_c_X12_grew s m args below meth c H locs 0 0 Qf (F0 m 39 ls [])
                          refine lv_aload_n B.1 B.2.1 dX12_grew_39 rfl (lv_at hl 2 rfl) ?_
                          refine x_getX B h kX12 0 (xset_eq f0) 58 (z := 0) rfl m_1319 (by decide) dX12_grew_40 ?_
                          refine x_if_ne B (by omega) (tgt := 49) dX12_grew_43 (by decide) (fun c13 => ?_) (fun c13 => ?_)
                          · exact absurd c13 (by omega)
                          · refine lv_goto (tgt := 78) B.1 B.2.1 dX12_grew_46 (by decide) ?_
                            refine lv_iinc (v := iI (((((0 + 1) + 1) + 1) + 1) + 1)) (lv' := [(3, .int (iI (((((0 + 1) + 1) + 1) + 1) + 1))), (2, .int (iI 0)), (0, .ref (am 0)), (1, .int (iI what))]) B.1 B.2.1 dX12_grew_78 hl (k := 0) rfl (iI_add _ _) (by decide) rfl (fun ls hl => ?_)
                            refine lv_goto (tgt := 28) B.1 B.2.1 dX12_grew_81 (by decide) ?_
                            refine lv_iload_n B.1 B.2.1 dX12_grew_28 rfl (lv_at hl 0 rfl) ?_
                            refine x_bipush B (by decide) dX12_grew_29 ?_
                            refine x_icmp_ge B (by omega) (tgt := 84) dX12_grew_31 (by decide) (fun c14 => ?_) (fun c14 => ?_)
                            · exact absurd c14 (by omega)
                            · refine lv_aload_n B.1 B.2.1 dX12_grew_34 rfl (lv_at hl 2 rfl) ?_
                              refine lv_iload_n B.1 B.2.1 dX12_grew_35 rfl (lv_at hl 0 rfl) ?_
                              refine x_cV B h kX12 0 (xset_eq f0) k_X12_sumsOf rfl (c_X12_sumsOf l D ca _ ((((((0 + 1) + 1) + 1) + 1) + 1)) am (xset_eq f0) (by omega)) m_1788 rfl (by decide) hl.1 [] (Nat.le_of_ble_eq_true rfl) rfl dX12_grew_36 (fun r w1 hq H locs h => ?_)
                              obtain ⟨rfl, rfl⟩ := hq
                              show W p l e r_c_X12_grew s m args below meth c H locs 0 0 Qf (F0 m 39 ls [])
                              refine lv_aload_n B.1 B.2.1 dX12_grew_39 rfl (lv_at hl 2 rfl) ?_
                              refine x_getX B h kX12 0 (xset_eq f0) 58 (z := 0) rfl m_1319 (by decide) dX12_grew_40 ?_
                              refine x_if_ne B (by omega) (tgt := 49) dX12_grew_43 (by decide) (fun c15 => ?_) (fun c15 => ?_)
                              · exact absurd c15 (by omega)
                              · refine lv_goto (tgt := 78) B.1 B.2.1 dX12_grew_46 (by decide) ?_
                                refine lv_iinc (v := iI ((((((0 + 1) + 1) + 1) + 1) + 1) + 1)) (lv' := [(3, .int (iI ((((((0 + 1) + 1) + 1) + 1) + 1) + 1))), (2, .int (iI 0)), (0, .ref (am 0)), (1, .int (iI what))]) B.1 B.2.1 dX12_grew_78 hl (k := 0) rfl (iI_add _ _) (by decide) rfl (fun ls hl => ?_)
                                refine lv_goto (tgt := 28) B.1 B.2.1 dX12_grew_81 (by decide) ?_
                                refine lv_iload_n B.1 B.2.1 dX12_grew_28 rfl (lv_at hl 0 rfl) ?_
                                refine x_bipush B (by decide) dX12_grew_29 ?_
                                refine x_icmp_ge B (by omega) (tgt := 84) dX12_grew_31 (by decide) (fun c16 => ?_) (fun c16 => ?_)
                                · exact absurd c16 (by omega)
                                · refine lv_aload_n B.1 B.2.1 dX12_grew_34 rfl (lv_at hl 2 rfl) ?_
                                  refine lv_iload_n B.1 B.2.1 dX12_grew_35 rfl (lv_at hl 0 rfl) ?_
                                  refine x_cV B h kX12 0 (xset_eq f0) k_X12_sumsOf rfl (c_X12_sumsOf l D ca _ (((((((0 + 1) + 1) + 1) + 1) + 1) + 1)) am (xset_eq f0) (by omega)) m_1788 rfl (by decide) hl.1 [] (Nat.le_of_ble_eq_true rfl) rfl dX12_grew_36 (fun r w1 hq H locs h => ?_)
                                  obtain ⟨rfl, rfl⟩ := hq
                                  show W p l e r_c_X12_grew s m args below meth c H locs 0 0 Qf (F0 m 39 ls [])
                                  refine lv_aload_n B.1 B.2.1 dX12_grew_39 rfl (lv_at hl 2 rfl) ?_
                                  refine x_getX B h kX12 0 (xset_eq f0) 58 (z := 0) rfl m_1319 (by decide) dX12_grew_40 ?_
                                  refine x_if_ne B (by omega) (tgt := 49) dX12_grew_43 (by decide) (fun c17 => ?_) (fun c17 => ?_)
                                  · exact absurd c17 (by omega)
                                  · refine lv_goto (tgt := 78) B.1 B.2.1 dX12_grew_46 (by decide) ?_
                                    refine lv_iinc (v := iI (((((((0 + 1) + 1) + 1) + 1) + 1) + 1) + 1)) (lv' := [(3, .int (iI (((((((0 + 1) + 1) + 1) + 1) + 1) + 1) + 1))), (2, .int (iI 0)), (0, .ref (am 0)), (1, .int (iI what))]) B.1 B.2.1 dX12_grew_78 hl (k := 0) rfl (iI_add _ _) (by decide) rfl (fun ls hl => ?_)
                                    refine lv_goto (tgt := 28) B.1 B.2.1 dX12_grew_81 (by decide) ?_
                                    refine lv_iload_n B.1 B.2.1 dX12_grew_28 rfl (lv_at hl 0 rfl) ?_
                                    refine x_bipush B (by decide) dX12_grew_29 ?_
                                    refine x_icmp_ge B (by omega) (tgt := 84) dX12_grew_31 (by decide) (fun c18 => ?_) (fun c18 => ?_)
                                    · exact absurd c18 (by omega)
                                    · refine lv_aload_n B.1 B.2.1 dX12_grew_34 rfl (lv_at hl 2 rfl) ?_
                                      refine lv_iload_n B.1 B.2.1 dX12_grew_35 rfl (lv_at hl 0 rfl) ?_
                                      refine x_cV B h kX12 0 (xset_eq f0) k_X12_sumsOf rfl (c_X12_sumsOf l D ca _ ((((((((0 + 1) + 1) + 1) + 1) + 1) + 1) + 1)) am (xset_eq f0) (by omega)) m_1788 rfl (by decide) hl.1 [] (Nat.le_of_ble_eq_true rfl) rfl dX12_grew_36 (fun r w1 hq H locs h => ?_)
                                      obtain ⟨rfl, rfl⟩ := hq
                                      show W p l e r_c_X12_grew s m args below meth c H locs 0 0 Qf (F0 m 39 ls [])
                                      refine lv_aload_n B.1 B.2.1 dX12_grew_39 rfl (lv_at hl 2 rfl) ?_
                                      refine x_getX B h kX12 0 (xset_eq f0) 58 (z := 0) rfl m_1319 (by decide) dX12_grew_40 ?_
                                      refine x_if_ne B (by omega) (tgt := 49) dX12_grew_43 (by decide) (fun c19 => ?_) (fun c19 => ?_)
                                      · exact absurd c19 (by omega)
                                      · refine lv_goto (tgt := 78) B.1 B.2.1 dX12_grew_46 (by decide) ?_
                                        refine lv_iinc (v := iI ((((((((0 + 1) + 1) + 1) + 1) + 1) + 1) + 1) + 1)) (lv' := [(3, .int (iI ((((((((0 + 1) + 1) + 1) + 1) + 1) + 1) + 1) + 1))), (2, .int (iI 0)), (0, .ref (am 0)), (1, .int (iI what))]) B.1 B.2.1 dX12_grew_78 hl (k := 0) rfl (iI_add _ _) (by decide) rfl (fun ls hl => ?_)
                                        refine lv_goto (tgt := 28) B.1 B.2.1 dX12_grew_81 (by decide) ?_
                                        refine lv_iload_n B.1 B.2.1 dX12_grew_28 rfl (lv_at hl 0 rfl) ?_
                                        refine x_bipush B (by decide) dX12_grew_29 ?_
                                        refine x_icmp_ge B (by omega) (tgt := 84) dX12_grew_31 (by decide) (fun c20 => ?_) (fun c20 => ?_)
                                        · exact absurd c20 (by omega)
                                        · refine lv_aload_n B.1 B.2.1 dX12_grew_34 rfl (lv_at hl 2 rfl) ?_
                                          refine lv_iload_n B.1 B.2.1 dX12_grew_35 rfl (lv_at hl 0 rfl) ?_
                                          refine x_cV B h kX12 0 (xset_eq f0) k_X12_sumsOf rfl (c_X12_sumsOf l D ca _ (((((((((0 + 1) + 1) + 1) + 1) + 1) + 1) + 1) + 1)) am (xset_eq f0) (by omega)) m_1788 rfl (by decide) hl.1 [] (Nat.le_of_ble_eq_true rfl) rfl dX12_grew_36 (fun r w1 hq H locs h => ?_)
                                          obtain ⟨rfl, rfl⟩ := hq
                                          show W p l e r_c_X12_grew s m args below meth c H locs 0 0 Qf (F0 m 39 ls [])
                                          refine lv_aload_n B.1 B.2.1 dX12_grew_39 rfl (lv_at hl 2 rfl) ?_
                                          refine x_getX B h kX12 0 (xset_eq f0) 58 (z := 0) rfl m_1319 (by decide) dX12_grew_40 ?_
                                          refine x_if_ne B (by omega) (tgt := 49) dX12_grew_43 (by decide) (fun c21 => ?_) (fun c21 => ?_)
                                          · exact absurd c21 (by omega)
                                          · refine lv_goto (tgt := 78) B.1 B.2.1 dX12_grew_46 (by decide) ?_
                                            refine lv_iinc (v := iI (((((((((0 + 1) + 1) + 1) + 1) + 1) + 1) + 1) + 1) + 1)) (lv' := [(3, .int (iI (((((((((0 + 1) + 1) + 1) + 1) + 1) + 1) + 1) + 1) + 1))), (2, .int (iI 0)), (0, .ref (am 0)), (1, .int (iI what))]) B.1 B.2.1 dX12_grew_78 hl (k := 0) rfl (iI_add _ _) (by decide) rfl (fun ls hl => ?_)
                                            refine lv_goto (tgt := 28) B.1 B.2.1 dX12_grew_81 (by decide) ?_
                                            refine lv_iload_n B.1 B.2.1 dX12_grew_28 rfl (lv_at hl 0 rfl) ?_
                                            refine x_bipush B (by decide) dX12_grew_29 ?_
                                            refine x_icmp_ge B (by omega) (tgt := 84) dX12_grew_31 (by decide) (fun c22 => ?_) (fun c22 => ?_)
                                            · exact absurd c22 (by omega)
                                            · refine lv_aload_n B.1 B.2.1 dX12_grew_34 rfl (lv_at hl 2 rfl) ?_
                                              refine lv_iload_n B.1 B.2.1 dX12_grew_35 rfl (lv_at hl 0 rfl) ?_
                                              refine x_cV B h kX12 0 (xset_eq f0) k_X12_sumsOf rfl (c_X12_sumsOf l D ca _ ((((((((((0 + 1) + 1) + 1) + 1) + 1) + 1) + 1) + 1) + 1)) am (xset_eq f0) (by omega)) m_1788 rfl (by decide) hl.1 [] (Nat.le_of_ble_eq_true rfl) rfl dX12_grew_36 (fun r w1 hq H locs h => ?_)
                                              obtain ⟨rfl, rfl⟩ := hq
                                              show W p l e r_c_X12_grew s m args below meth c H locs 0 0 Qf (F0 m 39 ls [])
                                              refine lv_aload_n B.1 B.2.1 dX12_grew_39 rfl (lv_at hl 2 rfl) ?_
                                              refine x_getX B h kX12 0 (xset_eq f0) 58 (z := 0) rfl m_1319 (by decide) dX12_grew_40 ?_
                                              refine x_if_ne B (by omega) (tgt := 49) dX12_grew_43 (by decide) (fun c23 => ?_) (fun c23 => ?_)
                                              · exact absurd c23 (by omega)
                                              · refine lv_goto (tgt := 78) B.1 B.2.1 dX12_grew_46 (by decide) ?_
                                                refine lv_iinc (v := iI ((((((((((0 + 1) + 1) + 1) + 1) + 1) + 1) + 1) + 1) + 1) + 1)) (lv' := [(3, .int (iI ((((((((((0 + 1) + 1) + 1) + 1) + 1) + 1) + 1) + 1) + 1) + 1))), (2, .int (iI 0)), (0, .ref (am 0)), (1, .int (iI what))]) B.1 B.2.1 dX12_grew_78 hl (k := 0) rfl (iI_add _ _) (by decide) rfl (fun ls hl => ?_)
                                                refine lv_goto (tgt := 28) B.1 B.2.1 dX12_grew_81 (by decide) ?_
                                                refine lv_iload_n B.1 B.2.1 dX12_grew_28 rfl (lv_at hl 0 rfl) ?_
                                                refine x_bipush B (by decide) dX12_grew_29 ?_
                                                refine x_icmp_ge B (by omega) (tgt := 84) dX12_grew_31 (by decide) (fun c24 => ?_) (fun c24 => ?_)
                                                · refine x_iconst B dX12_grew_84 ?_
                                                  refine lv_istore_n (lv' := [(3, .int (iI 0)), (2, .int (iI 0)), (0, .ref (am 0)), (1, .int (iI what))]) B.1 B.2.1 dX12_grew_85 rfl hl (by decide) rfl (fun ls hl => ?_)
                                                  refine x_iconst B dX12_grew_86 ?_
                                                  refine lv_istore (lv' := [(4, .int (iI 0)), (3, .int (iI 0)), (2, .int (iI 0)), (0, .ref (am 0)), (1, .int (iI what))]) B.1 B.2.1 dX12_grew_87 hl (by decide) rfl (fun ls hl => ?_)
                                                  refine lv_iload B.1 B.2.1 dX12_grew_89 (lv_at hl 0 rfl) ?_
                                                  refine lv_iload_n B.1 B.2.1 dX12_grew_91 rfl (lv_at hl 2 rfl) ?_
                                                  refine x_icmp_ge B (by omega) (tgt := 144) dX12_grew_92 (by decide) (fun c25 => ?_) (fun c25 => ?_)
                                                  · refine lv_iload_n B.1 B.2.1 dX12_grew_144 rfl (lv_at hl 4 rfl) ?_
                                                    refine x_if_ne B (by omega) (tgt := 152) dX12_grew_145 (by decide) (fun c26 => ?_) (fun c26 => ?_)
                                                    · refine lv_iload_n B.1 B.2.1 dX12_grew_152 rfl (lv_at hl 4 rfl) ?_
                                                      refine x_iconst B dX12_grew_153 ?_
                                                      refine x_icmp_ne B (by omega) (tgt := 161) dX12_grew_154 (by decide) (fun c27 => ?_) (fun c27 => ?_)
                                                      · refine lv_aload_n B.1 B.2.1 dX12_grew_161 rfl (lv_at hl 3 rfl) ?_
                                                        refine lv_iload_n B.1 B.2.1 dX12_grew_162 rfl (lv_at hl 2 rfl) ?_
                                                        refine lv_iload_n B.1 B.2.1 dX12_grew_163 rfl (lv_at hl 4 rfl) ?_
                                                        refine x_iconst B dX12_grew_164 ?_
                                                        refine x_icmp_ne B (by omega) (tgt := 172) dX12_grew_165 (by decide) (fun c28 => ?_) (fun c28 => ?_)
                                                        · refine x_iconst B dX12_grew_172 ?_
                                                          refine x_cV B h kX12 0 (xset_eq f0) k_X12_ordersWith rfl (c_X12_ordersWith l D ca _ am (xset_eq f0) (xset_ne f33 (by decide)) ) m_1800 rfl (by decide) hl.1 [] (Nat.le_of_ble_eq_true rfl) rfl dX12_grew_173 (fun r w1 hq H locs h => ?_)
                                                          obtain ⟨_, rfl, rfl⟩ := hq
                                                          show W p l e r_c_X12_grew s m args below meth c H locs 0 0 Qf (F0 m 176 ls [.long ((1 : Int64))])
                                                          refine lv_l2i (v := iI 1) B.1 B.2.1 dX12_grew_176 (by decide) ?_
                                                          refine x_ri B hQ h (by decide) dX12_grew_177 ?_
                                                          exact ⟨_, rfl, by omega⟩
                                                        · refine lv_iload_n B.1 B.2.1 dX12_grew_168 rfl (lv_at hl 1 rfl) ?_
                                                          refine lv_goto (tgt := 173) B.1 B.2.1 dX12_grew_169 (by decide) ?_
                                                          refine x_cV B h kX12 0 (xset_eq f0) k_X12_ordersWith rfl (c_X12_ordersWith l D ca _ am (xset_eq f0) (xset_ne f33 (by decide)) ) m_1800 rfl (by decide) hl.1 [] (Nat.le_of_ble_eq_true rfl) rfl dX12_grew_173 (fun r w1 hq H locs h => ?_)
                                                          obtain ⟨_, rfl, rfl⟩ := hq
                                                          show W p l e r_c_X12_grew s m args below meth c H locs 0 0 Qf (F0 m 176 ls [.long ((1 : Int64))])
                                                          refine lv_l2i (v := iI 1) B.1 B.2.1 dX12_grew_176 (by decide) ?_
                                                          refine x_ri B hQ h (by decide) dX12_grew_177 ?_
                                                          exact ⟨_, rfl, by omega⟩
                                                      · refine lv_iload_n B.1 B.2.1 dX12_grew_157 rfl (lv_at hl 2 rfl) ?_
                                                        refine lv_goto (tgt := 177) B.1 B.2.1 dX12_grew_158 (by decide) ?_
                                                        refine x_ri B hQ h (by decide) dX12_grew_177 ?_
                                                        exact ⟨_, rfl, by omega⟩
                                                    · refine lv_iload_n B.1 B.2.1 dX12_grew_148 rfl (lv_at hl 1 rfl) ?_
                                                      refine lv_goto (tgt := 177) B.1 B.2.1 dX12_grew_149 (by decide) ?_
                                                      refine x_ri B hQ h (by decide) dX12_grew_177 ?_
                                                      exact ⟨_, rfl, by omega⟩
                                                  · exact absurd c25 (by omega)
                                                · exact absurd c24 (by omega)
      · exact absurd c3 (by omega)
    · exact absurd c2 (by omega)
  · show W p l e r_c_X12_grew s m args below meth c H locs 0 0 Qf (F0 m 6 ls [.int (iI 0)])
    refine x_if_ne B (by omega) (tgt := 11) dX12_grew_6 (by decide) (fun c29 => ?_) (fun c29 => ?_)
    · exact absurd c29 (by omega)
    · refine x_iconst B dX12_grew_9 ?_
      refine x_ri B hQ h (by decide) dX12_grew_10 ?_
      exact ⟨_, rfl, by omega⟩
abbrev r_c_X12_lateBy : Room := { frames := 0, cells := 0, slots := 0, locals := 0 }
set_option maxHeartbeats 4000000 in
set_option maxRecDepth 100000 in
theorem c_X12_lateBy (l : Launch) (D : va_G) (ca : Nat → ClassId) (w : xW) (lag : Int) (am : Nat → Nat) (f0 : w[0]? = some (am 0, xO 12 [fR (am 1), fX 0, fX 0, fX 0, fX 0, fX 1, fX 1, fR (am 2), fR (am 3), fR (am 4), fR (am 5), fR (am 6), fR (am 7), fR (am 8), fR (am 9), fR (am 10), fR (am 11), fR (am 12), fR (am 13), fR (am 14), fR (am 15), fR (am 16), fR (am 17), fX 0, fR (am 18), fR (am 19), fR (am 20), fR (am 21), fR (am 22), fR (am 23), fR (am 24), fR (am 25), fX 0, fX (-1), fG 0 0, fG 0 0, fG 0 0, fG 0 0, fG 0 0, fG 0 0, fG 0 0, fG 0 0, fL, fX 0, fR (am 26), fX 0, fX 0, fR (am 27), fR (am 28), fR (am 29), fR (am 30), fR (am 31), fX 0, fX 0, fX 0, fX 0, fR (am 32), fX 0, fX 0, fX 0, fX 0, fR (am 33), fR (am 34), fR (am 35), fX 0, fX 0, fR (am 36), fR (am 37), fR (am 38), fX (-1), fX 0, fX 0, fX 0, fR (am 39), fX 0, fR (am 40), fR (am 41), fR (am 42), fR (am 43), fR (am 44)])) (hlag : xr lag) : xC l D ca yX12_lateBy cX12_lateBy 4 none r_c_X12_lateBy [.ref (am 0), .int (iI lag)] w (qV w) := by
  refine xC.of2 "WindWordsModel" (by decide) rfl (Nat.le_of_ble_eq_true rfl) ?_
  intro p e s m args below meth c A ls Qf B hnm h hl hQ
  have hl : lv_has ls 4 [(0, .ref (am 0)), (1, .int (iI lag))] := hl
  refine lv_aload_n B.1 B.2.1 dX12_lateBy_0 rfl (lv_at hl 0 rfl) ?_
  refine x_iconst B dX12_lateBy_1 ?_
  refine x_putS B h kX12 0 f0 64 (P := fX 0) rfl m_1325 (by decide) rfl rfl rfl rfl dX12_lateBy_2 (fun H locs h => ?_)
  refine lv_aload_n B.1 B.2.1 dX12_lateBy_5 rfl (lv_at hl 0 rfl) ?_
  refine x_iconst B dX12_lateBy_6 ?_
  refine x_putS B h kX12 0 f0 65 (P := fX 0) rfl m_1326 (by decide) rfl rfl rfl rfl dX12_lateBy_7 (fun H locs h => ?_)
  refine x_iconst B dX12_lateBy_10 ?_
  refine lv_istore_n (lv' := [(2, .int (iI 0)), (0, .ref (am 0)), (1, .int (iI lag))]) B.1 B.2.1 dX12_lateBy_11 rfl hl (by decide) rfl (fun ls hl => ?_)
  refine lv_iload_n B.1 B.2.1 dX12_lateBy_12 rfl (lv_at hl 0 rfl) ?_
  refine lv_aload_n B.1 B.2.1 dX12_lateBy_13 rfl (lv_at hl 1 rfl) ?_
  refine x_getX B h kX12 0 f0 4 (z := 0) rfl m_1265 (by decide) dX12_lateBy_14 ?_
  refine x_icmp_ge B (by omega) (tgt := 170) dX12_lateBy_17 (by decide) (fun c1 => ?_) (fun c1 => ?_)
  · refine x_rv B hQ h (by decide) dX12_lateBy_170 ?_
    exact ⟨rfl, rfl⟩
  · exact absurd c1 (by omega)
abbrev r_c_X12_late : Room := { frames := 1, cells := 0, slots := 0, locals := 23 }
set_option maxHeartbeats 4000000 in
set_option maxRecDepth 100000 in
theorem c_X12_late (l : Launch) (D : va_G) (ca : Nat → ClassId) (w : xW) (what : Int) (am : Nat → Nat) (f0 : w[0]? = some (am 0, xO 12 [fR (am 1), fX 0, fX 0, fX 0, fX 0, fX 1, fX 1, fR (am 2), fR (am 3), fR (am 4), fR (am 5), fR (am 6), fR (am 7), fR (am 8), fR (am 9), fR (am 10), fR (am 11), fR (am 12), fR (am 13), fR (am 14), fR (am 15), fR (am 16), fR (am 17), fX 0, fR (am 18), fR (am 19), fR (am 20), fR (am 21), fR (am 22), fR (am 23), fR (am 24), fR (am 25), fX 0, fX (-1), fG 0 0, fG 0 0, fG 0 0, fG 0 0, fG 0 0, fG 0 0, fG 0 0, fG 0 0, fL, fX 0, fR (am 26), fX 0, fX 0, fR (am 27), fR (am 28), fR (am 29), fR (am 30), fR (am 31), fX 0, fX 0, fX 0, fX 0, fR (am 32), fX 0, fX 0, fX 0, fX 0, fR (am 33), fR (am 34), fR (am 35), fX 0, fX 0, fR (am 36), fR (am 37), fR (am 38), fX (-1), fX 0, fX 0, fX 0, fR (am 39), fX 0, fR (am 40), fR (am 41), fR (am 42), fR (am 43), fR (am 44)])) (hwhat : xr what) : xC l D ca yX12_late cX12_late 6 (some .int) r_c_X12_late [.ref (am 0), .int (iI what)] w (qIa (fun z => ((10 ≤ what ∧ what ≤ 29) → z = 0) ∧ (¬ (10 ≤ what ∧ what ≤ 29) → z = -1))) := by
  refine xC.of2 "WindWordsModel" (by decide) rfl (Nat.le_of_ble_eq_true rfl) ?_
  intro p e s m args below meth c A ls Qf B hnm h hl hQ
  have hl : lv_has ls 6 [(0, .ref (am 0)), (1, .int (iI what))] := hl
  refine lv_iload_n B.1 B.2.1 dX12_late_0 rfl (lv_at hl 1 rfl) ?_
  refine x_bipush B (by decide) dX12_late_1 ?_
  refine x_bipush B (by decide) dX12_late_3 ?_
  refine x_cS B h k_X12_within (c_X12_within l D ca _ what 10 19  (by omega) (by omega) (by omega)) m_1515 rfl (by decide) hl.1 [] (Nat.le_of_ble_eq_true rfl) rfl dX12_late_5 (fun r w1 hq H locs h => ?_)
  obtain ⟨rfl, ⟨rfl, b1⟩ | ⟨rfl, b1⟩⟩ := hq
  · show W p l e r_c_X12_late s m args below meth c H locs 0 0 Qf (F0 m 8 ls [.int (iI 1)])
    refine x_if_ne B (by omega) (tgt := 22) dX12_late_8 (by decide) (fun c2 => ?_) (fun c2 => ?_)
    · refine lv_aload_n B.1 B.2.1 dX12_late_22 rfl (lv_at hl 0 rfl) ?_
      refine lv_iload_n B.1 B.2.1 dX12_late_23 rfl (lv_at hl 1 rfl) ?_
      refine x_bipush B (by decide) dX12_late_24 ?_
      refine x_irem B (by omega) dX12_late_26 ?_
      refine x_cV B h kX12 0 f0 k_X12_lateBy rfl (c_X12_lateBy l D ca _ ((what % 10)) am f0 (by omega)) m_1808 rfl (by decide) hl.1 [] (Nat.le_of_ble_eq_true rfl) rfl dX12_late_27 (fun r w1 hq H locs h => ?_)
      obtain ⟨rfl, rfl⟩ := hq
      show W p l e r_c_X12_late s m args below meth c H locs 0 0 Qf (F0 m 30 ls [])
      refine lv_iload_n B.1 B.2.1 dX12_late_30 rfl (lv_at hl 1 rfl) ?_
      refine x_bipush B (by decide) dX12_late_31 ?_
      refine x_icmp_ge B (by omega) (tgt := 43) dX12_late_33 (by decide) (fun c3 => ?_) (fun c3 => ?_)
      · refine lv_aload_n B.1 B.2.1 dX12_late_43 rfl (lv_at hl 0 rfl) ?_
        refine x_getX B h kX12 0 f0 65 (z := 0) rfl m_1326 (by decide) dX12_late_44 ?_
        refine x_ri B hQ h (by decide) dX12_late_47 ?_
        exact ⟨_, rfl, by omega⟩
      · refine lv_aload_n B.1 B.2.1 dX12_late_36 rfl (lv_at hl 0 rfl) ?_
        refine x_getX B h kX12 0 f0 64 (z := 0) rfl m_1325 (by decide) dX12_late_37 ?_
        refine lv_goto (tgt := 47) B.1 B.2.1 dX12_late_40 (by decide) ?_
        refine x_ri B hQ h (by decide) dX12_late_47 ?_
        exact ⟨_, rfl, by omega⟩
    · exact absurd c2 (by omega)
  · show W p l e r_c_X12_late s m args below meth c H locs 0 0 Qf (F0 m 8 ls [.int (iI 0)])
    refine x_if_ne B (by omega) (tgt := 22) dX12_late_8 (by decide) (fun c4 => ?_) (fun c4 => ?_)
    · exact absurd c4 (by omega)
    · refine lv_iload_n B.1 B.2.1 dX12_late_11 rfl (lv_at hl 1 rfl) ?_
      refine x_bipush B (by decide) dX12_late_12 ?_
      refine x_bipush B (by decide) dX12_late_14 ?_
      refine x_cS B h k_X12_within (c_X12_within l D ca _ what 20 29  (by omega) (by omega) (by omega)) m_1515 rfl (by decide) hl.1 [] (Nat.le_of_ble_eq_true rfl) rfl dX12_late_16 (fun r w1 hq H locs h => ?_)
      obtain ⟨rfl, ⟨rfl, b5⟩ | ⟨rfl, b5⟩⟩ := hq
      · show W p l e r_c_X12_late s m args below meth c H locs 0 0 Qf (F0 m 19 ls [.int (iI 1)])
        refine x_if_eq B (by omega) (tgt := 48) dX12_late_19 (by decide) (fun c6 => ?_) (fun c6 => ?_)
        · exact absurd c6 (by omega)
        · refine lv_aload_n B.1 B.2.1 dX12_late_22 rfl (lv_at hl 0 rfl) ?_
          refine lv_iload_n B.1 B.2.1 dX12_late_23 rfl (lv_at hl 1 rfl) ?_
          refine x_bipush B (by decide) dX12_late_24 ?_
          refine x_irem B (by omega) dX12_late_26 ?_
          refine x_cV B h kX12 0 f0 k_X12_lateBy rfl (c_X12_lateBy l D ca _ ((what % 10)) am f0 (by omega)) m_1808 rfl (by decide) hl.1 [] (Nat.le_of_ble_eq_true rfl) rfl dX12_late_27 (fun r w1 hq H locs h => ?_)
          obtain ⟨rfl, rfl⟩ := hq
          show W p l e r_c_X12_late s m args below meth c H locs 0 0 Qf (F0 m 30 ls [])
          refine lv_iload_n B.1 B.2.1 dX12_late_30 rfl (lv_at hl 1 rfl) ?_
          refine x_bipush B (by decide) dX12_late_31 ?_
          refine x_icmp_ge B (by omega) (tgt := 43) dX12_late_33 (by decide) (fun c7 => ?_) (fun c7 => ?_)
          · refine lv_aload_n B.1 B.2.1 dX12_late_43 rfl (lv_at hl 0 rfl) ?_
            refine x_getX B h kX12 0 f0 65 (z := 0) rfl m_1326 (by decide) dX12_late_44 ?_
            refine x_ri B hQ h (by decide) dX12_late_47 ?_
            exact ⟨_, rfl, by omega⟩
          · refine lv_aload_n B.1 B.2.1 dX12_late_36 rfl (lv_at hl 0 rfl) ?_
            refine x_getX B h kX12 0 f0 64 (z := 0) rfl m_1325 (by decide) dX12_late_37 ?_
            refine lv_goto (tgt := 47) B.1 B.2.1 dX12_late_40 (by decide) ?_
            refine x_ri B hQ h (by decide) dX12_late_47 ?_
            exact ⟨_, rfl, by omega⟩
      · show W p l e r_c_X12_late s m args below meth c H locs 0 0 Qf (F0 m 19 ls [.int (iI 0)])
        refine x_if_eq B (by omega) (tgt := 48) dX12_late_19 (by decide) (fun c8 => ?_) (fun c8 => ?_)
        · refine lv_iload_n B.1 B.2.1 dX12_late_48 rfl (lv_at hl 1 rfl) ?_
          refine x_iconst B dX12_late_49 ?_
          refine x_iconst B dX12_late_50 ?_
          refine x_cS B h k_X12_within (c_X12_within l D ca _ what 0 2  (by omega) (by omega) (by omega)) m_1515 rfl (by decide) hl.1 [] (Nat.le_of_ble_eq_true rfl) rfl dX12_late_51 (fun r w1 hq H locs h => ?_)
          obtain ⟨rfl, ⟨rfl, b9⟩ | ⟨rfl, b9⟩⟩ := hq
          · show W p l e r_c_X12_late s m args below meth c H locs 0 0 Qf (F0 m 54 ls [.int (iI 1)])
            refine x_if_ne B (by omega) (tgt := 59) dX12_late_54 (by decide) (fun c10 => ?_) (fun c10 => ?_)
            · refine x_iconst B dX12_late_59 ?_
              refine lv_istore_n (lv' := [(2, .int (iI (-1))), (0, .ref (am 0)), (1, .int (iI what))]) B.1 B.2.1 dX12_late_60 rfl hl (by decide) rfl (fun ls hl => ?_)
              refine x_iconst B dX12_late_61 ?_
              refine lv_istore_n (lv' := [(3, .int (iI 0)), (2, .int (iI (-1))), (0, .ref (am 0)), (1, .int (iI what))]) B.1 B.2.1 dX12_late_62 rfl hl (by decide) rfl (fun ls hl => ?_)
              refine x_iconst B dX12_late_63 ?_
              refine lv_istore (lv' := [(4, .int (iI 0)), (3, .int (iI 0)), (2, .int (iI (-1))), (0, .ref (am 0)), (1, .int (iI what))]) B.1 B.2.1 dX12_late_64 hl (by decide) rfl (fun ls hl => ?_)
              refine x_iconst B dX12_late_66 ?_
              refine lv_istore (lv' := [(5, .int (iI 0)), (4, .int (iI 0)), (3, .int (iI 0)), (2, .int (iI (-1))), (0, .ref (am 0)), (1, .int (iI what))]) B.1 B.2.1 dX12_late_67 hl (by decide) rfl (fun ls hl => ?_)
              refine lv_iload B.1 B.2.1 dX12_late_69 (lv_at hl 0 rfl) ?_
              refine x_bipush B (by decide) dX12_late_71 ?_
              refine x_icmp_ge B (by omega) (tgt := 137) dX12_late_73 (by decide) (fun c11 => ?_) (fun c11 => ?_)
              · exact absurd c11 (by omega)
              · refine lv_aload_n B.1 B.2.1 dX12_late_76 rfl (lv_at hl 4 rfl) ?_
                refine lv_iload B.1 B.2.1 dX12_late_77 (lv_at hl 0 rfl) ?_
                refine x_cV B h kX12 0 f0 k_X12_lateBy rfl (c_X12_lateBy l D ca _ 0 am f0 (by omega)) m_1808 rfl (by decide) hl.1 [] (Nat.le_of_ble_eq_true rfl) rfl dX12_late_79 (fun r w1 hq H locs h => ?_)
                obtain ⟨rfl, rfl⟩ := hq
                show W p l e r_c_X12_late s m args below meth c H locs 0 0 Qf (F0 m 82 ls [])
                refine lv_aload_n B.1 B.2.1 dX12_late_82 rfl (lv_at hl 4 rfl) ?_
                refine x_getX B h kX12 0 f0 65 (z := 0) rfl m_1326 (by decide) dX12_late_83 ?_
                refine x_if_eq B (by omega) (tgt := 131) dX12_late_86 (by decide) (fun c12 => ?_) (fun c12 => ?_)
                · refine lv_iinc (v := iI (0 + 1)) (lv' := [(5, .int (iI (0 + 1))), (4, .int (iI 0)), (3, .int (iI 0)), (2, .int (iI (-1))), (0, .ref (am 0)), (1, .int (iI what))]) B.1 B.2.1 dX12_late_131 hl (k := 0) rfl (iI_add _ _) (by decide) rfl (fun ls hl => ?_)
                  refine lv_goto (tgt := 69) B.1 B.2.1 dX12_late_134 (by decide) ?_
                  refine lv_iload B.1 B.2.1 dX12_late_69 (lv_at hl 0 rfl) ?_
                  refine x_bipush B (by decide) dX12_late_71 ?_
                  refine x_icmp_ge B (by omega) (tgt := 137) dX12_late_73 (by decide) (fun c13 => ?_) (fun c13 => ?_)
                  · exact absurd c13 (by omega)
                  · refine lv_aload_n B.1 B.2.1 dX12_late_76 rfl (lv_at hl 4 rfl) ?_
                    refine lv_iload B.1 B.2.1 dX12_late_77 (lv_at hl 0 rfl) ?_
                    refine x_cV B h kX12 0 f0 k_X12_lateBy rfl (c_X12_lateBy l D ca _ ((0 + 1)) am f0 (by omega)) m_1808 rfl (by decide) hl.1 [] (Nat.le_of_ble_eq_true rfl) rfl dX12_late_79 (fun r w1 hq H locs h => ?_)
                    obtain ⟨rfl, rfl⟩ := hq
                    show W p l e r_c_X12_late s m args below meth c H locs 0 0 Qf (F0 m 82 ls [])
                    refine lv_aload_n B.1 B.2.1 dX12_late_82 rfl (lv_at hl 4 rfl) ?_
                    refine x_getX B h kX12 0 f0 65 (z := 0) rfl m_1326 (by decide) dX12_late_83 ?_
                    refine x_if_eq B (by omega) (tgt := 131) dX12_late_86 (by decide) (fun c14 => ?_) (fun c14 => ?_)
                    · refine lv_iinc (v := iI ((0 + 1) + 1)) (lv' := [(5, .int (iI ((0 + 1) + 1))), (4, .int (iI 0)), (3, .int (iI 0)), (2, .int (iI (-1))), (0, .ref (am 0)), (1, .int (iI what))]) B.1 B.2.1 dX12_late_131 hl (k := 0) rfl (iI_add _ _) (by decide) rfl (fun ls hl => ?_)
                      refine lv_goto (tgt := 69) B.1 B.2.1 dX12_late_134 (by decide) ?_
                      refine lv_iload B.1 B.2.1 dX12_late_69 (lv_at hl 0 rfl) ?_
                      refine x_bipush B (by decide) dX12_late_71 ?_
                      refine x_icmp_ge B (by omega) (tgt := 137) dX12_late_73 (by decide) (fun c15 => ?_) (fun c15 => ?_)
                      · exact absurd c15 (by omega)
                      · refine lv_aload_n B.1 B.2.1 dX12_late_76 rfl (lv_at hl 4 rfl) ?_
                        refine lv_iload B.1 B.2.1 dX12_late_77 (lv_at hl 0 rfl) ?_
                        refine x_cV B h kX12 0 f0 k_X12_lateBy rfl (c_X12_lateBy l D ca _ (((0 + 1) + 1)) am f0 (by omega)) m_1808 rfl (by decide) hl.1 [] (Nat.le_of_ble_eq_true rfl) rfl dX12_late_79 (fun r w1 hq H locs h => ?_)
                        obtain ⟨rfl, rfl⟩ := hq
                        show W p l e r_c_X12_late s m args below meth c H locs 0 0 Qf (F0 m 82 ls [])
                        refine lv_aload_n B.1 B.2.1 dX12_late_82 rfl (lv_at hl 4 rfl) ?_
                        refine x_getX B h kX12 0 f0 65 (z := 0) rfl m_1326 (by decide) dX12_late_83 ?_
                        refine x_if_eq B (by omega) (tgt := 131) dX12_late_86 (by decide) (fun c16 => ?_) (fun c16 => ?_)
                        · refine lv_iinc (v := iI (((0 + 1) + 1) + 1)) (lv' := [(5, .int (iI (((0 + 1) + 1) + 1))), (4, .int (iI 0)), (3, .int (iI 0)), (2, .int (iI (-1))), (0, .ref (am 0)), (1, .int (iI what))]) B.1 B.2.1 dX12_late_131 hl (k := 0) rfl (iI_add _ _) (by decide) rfl (fun ls hl => ?_)
                          refine lv_goto (tgt := 69) B.1 B.2.1 dX12_late_134 (by decide) ?_
                          refine lv_iload B.1 B.2.1 dX12_late_69 (lv_at hl 0 rfl) ?_
                          refine x_bipush B (by decide) dX12_late_71 ?_
                          refine x_icmp_ge B (by omega) (tgt := 137) dX12_late_73 (by decide) (fun c17 => ?_) (fun c17 => ?_)
                          · exact absurd c17 (by omega)
                          · refine lv_aload_n B.1 B.2.1 dX12_late_76 rfl (lv_at hl 4 rfl) ?_
                            refine lv_iload B.1 B.2.1 dX12_late_77 (lv_at hl 0 rfl) ?_
                            refine x_cV B h kX12 0 f0 k_X12_lateBy rfl (c_X12_lateBy l D ca _ ((((0 + 1) + 1) + 1)) am f0 (by omega)) m_1808 rfl (by decide) hl.1 [] (Nat.le_of_ble_eq_true rfl) rfl dX12_late_79 (fun r w1 hq H locs h => ?_)
                            obtain ⟨rfl, rfl⟩ := hq
                            show W p l e r_c_X12_late s m args below meth c H locs 0 0 Qf (F0 m 82 ls [])
                            refine lv_aload_n B.1 B.2.1 dX12_late_82 rfl (lv_at hl 4 rfl) ?_
                            refine x_getX B h kX12 0 f0 65 (z := 0) rfl m_1326 (by decide) dX12_late_83 ?_
                            refine x_if_eq B (by omega) (tgt := 131) dX12_late_86 (by decide) (fun c18 => ?_) (fun c18 => ?_)
                            · refine lv_iinc (v := iI ((((0 + 1) + 1) + 1) + 1)) (lv' := [(5, .int (iI ((((0 + 1) + 1) + 1) + 1))), (4, .int (iI 0)), (3, .int (iI 0)), (2, .int (iI (-1))), (0, .ref (am 0)), (1, .int (iI what))]) B.1 B.2.1 dX12_late_131 hl (k := 0) rfl (iI_add _ _) (by decide) rfl (fun ls hl => ?_)
                              refine lv_goto (tgt := 69) B.1 B.2.1 dX12_late_134 (by decide) ?_
                              refine lv_iload B.1 B.2.1 dX12_late_69 (lv_at hl 0 rfl) ?_
                              refine x_bipush B (by decide) dX12_late_71 ?_
                              refine x_icmp_ge B (by omega) (tgt := 137) dX12_late_73 (by decide) (fun c19 => ?_) (fun c19 => ?_)
                              · exact absurd c19 (by omega)
                              · refine lv_aload_n B.1 B.2.1 dX12_late_76 rfl (lv_at hl 4 rfl) ?_
                                refine lv_iload B.1 B.2.1 dX12_late_77 (lv_at hl 0 rfl) ?_
                                refine x_cV B h kX12 0 f0 k_X12_lateBy rfl (c_X12_lateBy l D ca _ (((((0 + 1) + 1) + 1) + 1)) am f0 (by omega)) m_1808 rfl (by decide) hl.1 [] (Nat.le_of_ble_eq_true rfl) rfl dX12_late_79 (fun r w1 hq H locs h => ?_)
                                obtain ⟨rfl, rfl⟩ := hq
                                show W p l e r_c_X12_late s m args below meth c H locs 0 0 Qf (F0 m 82 ls [])
                                refine lv_aload_n B.1 B.2.1 dX12_late_82 rfl (lv_at hl 4 rfl) ?_
                                refine x_getX B h kX12 0 f0 65 (z := 0) rfl m_1326 (by decide) dX12_late_83 ?_
                                refine x_if_eq B (by omega) (tgt := 131) dX12_late_86 (by decide) (fun c20 => ?_) (fun c20 => ?_)
                                · refine lv_iinc (v := iI (((((0 + 1) + 1) + 1) + 1) + 1)) (lv' := [(5, .int (iI (((((0 + 1) + 1) + 1) + 1) + 1))), (4, .int (iI 0)), (3, .int (iI 0)), (2, .int (iI (-1))), (0, .ref (am 0)), (1, .int (iI what))]) B.1 B.2.1 dX12_late_131 hl (k := 0) rfl (iI_add _ _) (by decide) rfl (fun ls hl => ?_)
                                  refine lv_goto (tgt := 69) B.1 B.2.1 dX12_late_134 (by decide) ?_
                                  refine lv_iload B.1 B.2.1 dX12_late_69 (lv_at hl 0 rfl) ?_
                                  refine x_bipush B (by decide) dX12_late_71 ?_
                                  refine x_icmp_ge B (by omega) (tgt := 137) dX12_late_73 (by decide) (fun c21 => ?_) (fun c21 => ?_)
                                  · exact absurd c21 (by omega)
                                  · refine lv_aload_n B.1 B.2.1 dX12_late_76 rfl (lv_at hl 4 rfl) ?_
                                    refine lv_iload B.1 B.2.1 dX12_late_77 (lv_at hl 0 rfl) ?_
                                    refine x_cV B h kX12 0 f0 k_X12_lateBy rfl (c_X12_lateBy l D ca _ ((((((0 + 1) + 1) + 1) + 1) + 1)) am f0 (by omega)) m_1808 rfl (by decide) hl.1 [] (Nat.le_of_ble_eq_true rfl) rfl dX12_late_79 (fun r w1 hq H locs h => ?_)
                                    obtain ⟨rfl, rfl⟩ := hq
                                    show W p l e r_c_X12_late s m args below meth c H locs 0 0 Qf (F0 m 82 ls [])
                                    refine lv_aload_n B.1 B.2.1 dX12_late_82 rfl (lv_at hl 4 rfl) ?_
                                    refine x_getX B h kX12 0 f0 65 (z := 0) rfl m_1326 (by decide) dX12_late_83 ?_
                                    refine x_if_eq B (by omega) (tgt := 131) dX12_late_86 (by decide) (fun c22 => ?_) (fun c22 => ?_)
                                    · refine lv_iinc (v := iI ((((((0 + 1) + 1) + 1) + 1) + 1) + 1)) (lv' := [(5, .int (iI ((((((0 + 1) + 1) + 1) + 1) + 1) + 1))), (4, .int (iI 0)), (3, .int (iI 0)), (2, .int (iI (-1))), (0, .ref (am 0)), (1, .int (iI what))]) B.1 B.2.1 dX12_late_131 hl (k := 0) rfl (iI_add _ _) (by decide) rfl (fun ls hl => ?_)
                                      refine lv_goto (tgt := 69) B.1 B.2.1 dX12_late_134 (by decide) ?_
                                      refine lv_iload B.1 B.2.1 dX12_late_69 (lv_at hl 0 rfl) ?_
                                      refine x_bipush B (by decide) dX12_late_71 ?_
                                      refine x_icmp_ge B (by omega) (tgt := 137) dX12_late_73 (by decide) (fun c23 => ?_) (fun c23 => ?_)
                                      · exact absurd c23 (by omega)
                                      · refine lv_aload_n B.1 B.2.1 dX12_late_76 rfl (lv_at hl 4 rfl) ?_
                                        refine lv_iload B.1 B.2.1 dX12_late_77 (lv_at hl 0 rfl) ?_
                                        refine x_cV B h kX12 0 f0 k_X12_lateBy rfl (c_X12_lateBy l D ca _ (((((((0 + 1) + 1) + 1) + 1) + 1) + 1)) am f0 (by omega)) m_1808 rfl (by decide) hl.1 [] (Nat.le_of_ble_eq_true rfl) rfl dX12_late_79 (fun r w1 hq H locs h => ?_)
                                        obtain ⟨rfl, rfl⟩ := hq
                                        show W p l e r_c_X12_late s m args below meth c H locs 0 0 Qf (F0 m 82 ls [])
                                        refine lv_aload_n B.1 B.2.1 dX12_late_82 rfl (lv_at hl 4 rfl) ?_
                                        refine x_getX B h kX12 0 f0 65 (z := 0) rfl m_1326 (by decide) dX12_late_83 ?_
                                        refine x_if_eq B (by omega) (tgt := 131) dX12_late_86 (by decide) (fun c24 => ?_) (fun c24 => ?_)
                                        · refine lv_iinc (v := iI (((((((0 + 1) + 1) + 1) + 1) + 1) + 1) + 1)) (lv' := [(5, .int (iI (((((((0 + 1) + 1) + 1) + 1) + 1) + 1) + 1))), (4, .int (iI 0)), (3, .int (iI 0)), (2, .int (iI (-1))), (0, .ref (am 0)), (1, .int (iI what))]) B.1 B.2.1 dX12_late_131 hl (k := 0) rfl (iI_add _ _) (by decide) rfl (fun ls hl => ?_)
                                          refine lv_goto (tgt := 69) B.1 B.2.1 dX12_late_134 (by decide) ?_
                                          refine lv_iload B.1 B.2.1 dX12_late_69 (lv_at hl 0 rfl) ?_
                                          refine x_bipush B (by decide) dX12_late_71 ?_
                                          refine x_icmp_ge B (by omega) (tgt := 137) dX12_late_73 (by decide) (fun c25 => ?_) (fun c25 => ?_)
                                          · exact absurd c25 (by omega)
                                          · refine lv_aload_n B.1 B.2.1 dX12_late_76 rfl (lv_at hl 4 rfl) ?_
                                            refine lv_iload B.1 B.2.1 dX12_late_77 (lv_at hl 0 rfl) ?_
                                            refine x_cV B h kX12 0 f0 k_X12_lateBy rfl (c_X12_lateBy l D ca _ ((((((((0 + 1) + 1) + 1) + 1) + 1) + 1) + 1)) am f0 (by omega)) m_1808 rfl (by decide) hl.1 [] (Nat.le_of_ble_eq_true rfl) rfl dX12_late_79 (fun r w1 hq H locs h => ?_)
                                            obtain ⟨rfl, rfl⟩ := hq
                                            show W p l e r_c_X12_late s m args below meth c H locs 0 0 Qf (F0 m 82 ls [])
                                            refine lv_aload_n B.1 B.2.1 dX12_late_82 rfl (lv_at hl 4 rfl) ?_
                                            refine x_getX B h kX12 0 f0 65 (z := 0) rfl m_1326 (by decide) dX12_late_83 ?_
                                            refine x_if_eq B (by omega) (tgt := 131) dX12_late_86 (by decide) (fun c26 => ?_) (fun c26 => ?_)
                                            · refine lv_iinc (v := iI ((((((((0 + 1) + 1) + 1) + 1) + 1) + 1) + 1) + 1)) (lv' := [(5, .int (iI ((((((((0 + 1) + 1) + 1) + 1) + 1) + 1) + 1) + 1))), (4, .int (iI 0)), (3, .int (iI 0)), (2, .int (iI (-1))), (0, .ref (am 0)), (1, .int (iI what))]) B.1 B.2.1 dX12_late_131 hl (k := 0) rfl (iI_add _ _) (by decide) rfl (fun ls hl => ?_)
                                              refine lv_goto (tgt := 69) B.1 B.2.1 dX12_late_134 (by decide) ?_
                                              refine lv_iload B.1 B.2.1 dX12_late_69 (lv_at hl 0 rfl) ?_
                                              refine x_bipush B (by decide) dX12_late_71 ?_
                                              refine x_icmp_ge B (by omega) (tgt := 137) dX12_late_73 (by decide) (fun c27 => ?_) (fun c27 => ?_)
                                              · exact absurd c27 (by omega)
                                              · refine lv_aload_n B.1 B.2.1 dX12_late_76 rfl (lv_at hl 4 rfl) ?_
                                                refine lv_iload B.1 B.2.1 dX12_late_77 (lv_at hl 0 rfl) ?_
                                                refine x_cV B h kX12 0 f0 k_X12_lateBy rfl (c_X12_lateBy l D ca _ (((((((((0 + 1) + 1) + 1) + 1) + 1) + 1) + 1) + 1)) am f0 (by omega)) m_1808 rfl (by decide) hl.1 [] (Nat.le_of_ble_eq_true rfl) rfl dX12_late_79 (fun r w1 hq H locs h => ?_)
                                                obtain ⟨rfl, rfl⟩ := hq
                                                show W p l e r_c_X12_late s m args below meth c H locs 0 0 Qf (F0 m 82 ls [])
                                                refine lv_aload_n B.1 B.2.1 dX12_late_82 rfl (lv_at hl 4 rfl) ?_
                                                refine x_getX B h kX12 0 f0 65 (z := 0) rfl m_1326 (by decide) dX12_late_83 ?_
                                                refine x_if_eq B (by omega) (tgt := 131) dX12_late_86 (by decide) (fun c28 => ?_) (fun c28 => ?_)
                                                · refine lv_iinc (v := iI (((((((((0 + 1) + 1) + 1) + 1) + 1) + 1) + 1) + 1) + 1)) (lv' := [(5, .int (iI (((((((((0 + 1) + 1) + 1) + 1) + 1) + 1) + 1) + 1) + 1))), (4, .int (iI 0)), (3, .int (iI 0)), (2, .int (iI (-1))), (0, .ref (am 0)), (1, .int (iI what))]) B.1 B.2.1 dX12_late_131 hl (k := 0) rfl (iI_add _ _) (by decide) rfl (fun ls hl => ?_)
                                                  refine lv_goto (tgt := 69) B.1 B.2.1 dX12_late_134 (by decide) ?_
                                                  refine lv_iload B.1 B.2.1 dX12_late_69 (lv_at hl 0 rfl) ?_
                                                  refine x_bipush B (by decide) dX12_late_71 ?_
                                                  refine x_icmp_ge B (by omega) (tgt := 137) dX12_late_73 (by decide) (fun c29 => ?_) (fun c29 => ?_)
                                                  · exact absurd c29 (by omega)
                                                  · refine lv_aload_n B.1 B.2.1 dX12_late_76 rfl (lv_at hl 4 rfl) ?_
                                                    refine lv_iload B.1 B.2.1 dX12_late_77 (lv_at hl 0 rfl) ?_
                                                    refine x_cV B h kX12 0 f0 k_X12_lateBy rfl (c_X12_lateBy l D ca _ ((((((((((0 + 1) + 1) + 1) + 1) + 1) + 1) + 1) + 1) + 1)) am f0 (by omega)) m_1808 rfl (by decide) hl.1 [] (Nat.le_of_ble_eq_true rfl) rfl dX12_late_79 (fun r w1 hq H locs h => ?_)
                                                    obtain ⟨rfl, rfl⟩ := hq
                                                    show W p l e r_c_X12_late s m args below meth c H locs 0 0 Qf (F0 m 82 ls [])
                                                    refine lv_aload_n B.1 B.2.1 dX12_late_82 rfl (lv_at hl 4 rfl) ?_
                                                    refine x_getX B h kX12 0 f0 65 (z := 0) rfl m_1326 (by decide) dX12_late_83 ?_
                                                    refine x_if_eq B (by omega) (tgt := 131) dX12_late_86 (by decide) (fun c30 => ?_) (fun c30 => ?_)
                                                    · refine lv_iinc (v := iI ((((((((((0 + 1) + 1) + 1) + 1) + 1) + 1) + 1) + 1) + 1) + 1)) (lv' := [(5, .int (iI ((((((((((0 + 1) + 1) + 1) + 1) + 1) + 1) + 1) + 1) + 1) + 1))), (4, .int (iI 0)), (3, .int (iI 0)), (2, .int (iI (-1))), (0, .ref (am 0)), (1, .int (iI what))]) B.1 B.2.1 dX12_late_131 hl (k := 0) rfl (iI_add _ _) (by decide) rfl (fun ls hl => ?_)
                                                      refine lv_goto (tgt := 69) B.1 B.2.1 dX12_late_134 (by decide) ?_
                                                      refine lv_iload B.1 B.2.1 dX12_late_69 (lv_at hl 0 rfl) ?_
                                                      refine x_bipush B (by decide) dX12_late_71 ?_
                                                      refine x_icmp_ge B (by omega) (tgt := 137) dX12_late_73 (by decide) (fun c31 => ?_) (fun c31 => ?_)
                                                      · refine lv_iload_n B.1 B.2.1 dX12_late_137 rfl (lv_at hl 3 rfl) ?_
                                                        refine x_if_ge B (by omega) (tgt := 145) dX12_late_138 (by decide) (fun c32 => ?_) (fun c32 => ?_)
                                                        · exact absurd c32 (by omega)
                                                        · refine x_iconst B dX12_late_141 ?_
                                                          refine lv_goto (tgt := 164) B.1 B.2.1 dX12_late_142 (by decide) ?_
                                                          refine x_ri B hQ h (by decide) dX12_late_164 ?_
                                                          exact ⟨_, rfl, by omega⟩
                                                      · exact absurd c31 (by omega)
                                                    · exact absurd c30 (by omega)
                                                · exact absurd c28 (by omega)
                                            · exact absurd c26 (by omega)
                                        · exact absurd c24 (by omega)
                                    · exact absurd c22 (by omega)
                                · exact absurd c20 (by omega)
                            · exact absurd c18 (by omega)
                        · exact absurd c16 (by omega)
                    · exact absurd c14 (by omega)
                · exact absurd c12 (by omega)
            · exact absurd c10 (by omega)
          · show W p l e r_c_X12_late s m args below meth c H locs 0 0 Qf (F0 m 54 ls [.int (iI 0)])
            refine x_if_ne B (by omega) (tgt := 59) dX12_late_54 (by decide) (fun c33 => ?_) (fun c33 => ?_)
            · exact absurd c33 (by omega)
            · refine x_iconst B dX12_late_57 ?_
              refine x_ri B hQ h (by decide) dX12_late_58 ?_
              exact ⟨_, rfl, by omega⟩
        · exact absurd c8 (by omega)
abbrev r_c_X12_copied : Room := { frames := 1, cells := 0, slots := 0, locals := 21 }
set_option maxHeartbeats 4000000 in
set_option maxRecDepth 100000 in
theorem c_X12_copied (l : Launch) (D : va_G) (ca : Nat → ClassId) (w : xW) (ship : Int) (what : Int) (am : Nat → Nat) (f0 : w[0]? = some (am 0, xO 12 [fR (am 1), fX 0, fX 0, fX 0, fX 0, fX 1, fX 1, fR (am 2), fR (am 3), fR (am 4), fR (am 5), fR (am 6), fR (am 7), fR (am 8), fR (am 9), fR (am 10), fR (am 11), fR (am 12), fR (am 13), fR (am 14), fR (am 15), fR (am 16), fR (am 17), fX 0, fR (am 18), fR (am 19), fR (am 20), fR (am 21), fR (am 22), fR (am 23), fR (am 24), fR (am 25), fX 0, fX (-1), fG 0 0, fG 0 0, fG 0 0, fG 0 0, fG 0 0, fG 0 0, fG 0 0, fG 0 0, fL, fX 0, fR (am 26), fX 0, fX 0, fR (am 27), fR (am 28), fR (am 29), fR (am 30), fR (am 31), fX 0, fX 0, fX 0, fX 0, fR (am 32), fX 0, fX 0, fX 0, fX 0, fR (am 33), fR (am 34), fR (am 35), fX 0, fX 0, fR (am 36), fR (am 37), fR (am 38), fX (-1), fX 0, fX 0, fX 0, fR (am 39), fX 0, fR (am 40), fR (am 41), fR (am 42), fR (am 43), fR (am 44)])) (hship : xr ship) (hwhat : xr what) : xC l D ca yX12_copied cX12_copied 6 (some .int) r_c_X12_copied [.ref (am 0), .int (iI ship), .int (iI what)] w (qIa (fun z => z = -1)) := by
  refine xC.of2 "WindWordsModel" (by decide) rfl (Nat.le_of_ble_eq_true rfl) ?_
  intro p e s m args below meth c A ls Qf B hnm h hl hQ
  have hl : lv_has ls 6 [(0, .ref (am 0)), (1, .int (iI ship)), (2, .int (iI what))] := hl
  refine lv_aload_n B.1 B.2.1 dX12_copied_0 rfl (lv_at hl 0 rfl) ?_
  refine lv_iload_n B.1 B.2.1 dX12_copied_1 rfl (lv_at hl 1 rfl) ?_
  refine x_cV B h kX12 0 f0 k_X12_isShip rfl (c_X12_isShip l D ca _ ship am f0 (by omega)) m_1526 rfl (by decide) hl.1 [] (Nat.le_of_ble_eq_true rfl) rfl dX12_copied_2 (fun r w1 hq H locs h => ?_)
  obtain ⟨rfl, ⟨rfl, b1⟩ | ⟨rfl, b1⟩⟩ := hq
  · exact b1.elim
  · show W p l e r_c_X12_copied s m args below meth c H locs 0 0 Qf (F0 m 5 ls [.int (iI 0)])
    refine x_if_eq B (by omega) (tgt := 17) dX12_copied_5 (by decide) (fun c2 => ?_) (fun c2 => ?_)
    · refine x_iconst B dX12_copied_17 ?_
      refine x_ri B hQ h (by decide) dX12_copied_18 ?_
      exact ⟨_, rfl, by omega⟩
    · exact absurd c2 (by omega)
abbrev r_c_X12_find : Room := { frames := 0, cells := 0, slots := 0, locals := 0 }
set_option maxHeartbeats 4000000 in
set_option maxRecDepth 100000 in
theorem c_X12_find (l : Launch) (D : va_G) (ca : Nat → ClassId) (w : xW) (k : Int) (am : Nat → Nat) (f0 : w[0]? = some (am 0, xO 12 [fR (am 1), fX 0, fX 0, fX 0, fX 0, fX 1, fX 1, fR (am 2), fR (am 3), fR (am 4), fR (am 5), fR (am 6), fR (am 7), fR (am 8), fR (am 9), fR (am 10), fR (am 11), fR (am 12), fR (am 13), fR (am 14), fR (am 15), fR (am 16), fR (am 17), fX 0, fR (am 18), fR (am 19), fR (am 20), fR (am 21), fR (am 22), fR (am 23), fR (am 24), fR (am 25), fX 0, fX (-1), fG 0 0, fG 0 0, fG 0 0, fG 0 0, fG 0 0, fG 0 0, fG 0 0, fG 0 0, fL, fX 0, fR (am 26), fX 0, fX 0, fR (am 27), fR (am 28), fR (am 29), fR (am 30), fR (am 31), fX 0, fX 0, fX 0, fX 0, fR (am 32), fX 0, fX 0, fX 0, fX 0, fR (am 33), fR (am 34), fR (am 35), fX 0, fX 0, fR (am 36), fR (am 37), fR (am 38), fX (-1), fX 0, fX 0, fX 0, fR (am 39), fX 0, fR (am 40), fR (am 41), fR (am 42), fR (am 43), fR (am 44)])) (hk : xr k) : xC l D ca yX12_find cX12_find 4 (some .int) r_c_X12_find [.ref (am 0), .int (iI k)] w (qIa (fun z => z = -1)) := by
  refine xC.of2 "WindWordsModel" (by decide) rfl (Nat.le_of_ble_eq_true rfl) ?_
  intro p e s m args below meth c A ls Qf B hnm h hl hQ
  have hl : lv_has ls 4 [(0, .ref (am 0)), (1, .int (iI k))] := hl
  refine lv_iload_n B.1 B.2.1 dX12_find_0 rfl (lv_at hl 1 rfl) ?_
  refine x_if_ge B (by omega) (tgt := 6) dX12_find_1 (by decide) (fun c1 => ?_) (fun c1 => ?_)
  · refine lv_iload_n B.1 B.2.1 dX12_find_6 rfl (lv_at hl 1 rfl) ?_
    refine lv_istore_n (lv' := [(2, .int (iI k)), (0, .ref (am 0)), (1, .int (iI k))]) B.1 B.2.1 dX12_find_7 rfl hl (by decide) rfl (fun ls hl => ?_)
    refine x_iconst B dX12_find_8 ?_
    refine lv_istore_n (lv' := [(3, .int (iI 0)), (2, .int (iI k)), (0, .ref (am 0)), (1, .int (iI k))]) B.1 B.2.1 dX12_find_9 rfl hl (by decide) rfl (fun ls hl => ?_)
    refine lv_iload_n B.1 B.2.1 dX12_find_10 rfl (lv_at hl 0 rfl) ?_
    refine lv_aload_n B.1 B.2.1 dX12_find_11 rfl (lv_at hl 2 rfl) ?_
    refine x_getX B h kX12 0 f0 4 (z := 0) rfl m_1265 (by decide) dX12_find_12 ?_
    refine x_icmp_ge B (by omega) (tgt := 44) dX12_find_15 (by decide) (fun c2 => ?_) (fun c2 => ?_)
    · refine x_iconst B dX12_find_44 ?_
      refine x_ri B hQ h (by decide) dX12_find_45 ?_
      exact ⟨_, rfl, by omega⟩
    · exact absurd c2 (by omega)
  · refine x_iconst B dX12_find_4 ?_
    refine x_ri B hQ h (by decide) dX12_find_5 ?_
    exact ⟨_, rfl, by omega⟩
abbrev r_c_X12_wished : Room := { frames := 1, cells := 0, slots := 0, locals := 21 }
set_option maxHeartbeats 4000000 in
set_option maxRecDepth 100000 in
theorem c_X12_wished (l : Launch) (D : va_G) (ca : Nat → ClassId) (w : xW) (o : Int) (what : Int) (am : Nat → Nat) (f0 : w[0]? = some (am 0, xO 12 [fR (am 1), fX 0, fX 0, fX 0, fX 0, fX 1, fX 1, fR (am 2), fR (am 3), fR (am 4), fR (am 5), fR (am 6), fR (am 7), fR (am 8), fR (am 9), fR (am 10), fR (am 11), fR (am 12), fR (am 13), fR (am 14), fR (am 15), fR (am 16), fR (am 17), fX 0, fR (am 18), fR (am 19), fR (am 20), fR (am 21), fR (am 22), fR (am 23), fR (am 24), fR (am 25), fX 0, fX (-1), fG 0 0, fG 0 0, fG 0 0, fG 0 0, fG 0 0, fG 0 0, fG 0 0, fG 0 0, fL, fX 0, fR (am 26), fX 0, fX 0, fR (am 27), fR (am 28), fR (am 29), fR (am 30), fR (am 31), fX 0, fX 0, fX 0, fX 0, fR (am 32), fX 0, fX 0, fX 0, fX 0, fR (am 33), fR (am 34), fR (am 35), fX 0, fX 0, fR (am 36), fR (am 37), fR (am 38), fX (-1), fX 0, fX 0, fX 0, fR (am 39), fX 0, fR (am 40), fR (am 41), fR (am 42), fR (am 43), fR (am 44)])) (ho : xr o) (hwhat : xr what) : xC l D ca yX12_wished cX12_wished 12 (some .int) r_c_X12_wished [.ref (am 0), .int (iI o), .int (iI what)] w (qIa (fun z => z = -1000000)) := by
  refine xC.of2 "WindWordsModel" (by decide) rfl (Nat.le_of_ble_eq_true rfl) ?_
  intro p e s m args below meth c A ls Qf B hnm h hl hQ
  have hl : lv_has ls 12 [(0, .ref (am 0)), (1, .int (iI o)), (2, .int (iI what))] := hl
  refine lv_aload_n B.1 B.2.1 dX12_wished_0 rfl (lv_at hl 0 rfl) ?_
  refine lv_iload_n B.1 B.2.1 dX12_wished_1 rfl (lv_at hl 1 rfl) ?_
  refine x_cV B h kX12 0 f0 k_X12_isOfficer rfl (c_X12_isOfficer l D ca _ o am f0 (by omega)) m_1518 rfl (by decide) hl.1 [] (Nat.le_of_ble_eq_true rfl) rfl dX12_wished_2 (fun r w1 hq H locs h => ?_)
  obtain ⟨rfl, ⟨rfl, b1⟩ | ⟨rfl, b1⟩⟩ := hq
  · exact b1.elim
  · show W p l e r_c_X12_wished s m args below meth c H locs 0 0 Qf (F0 m 5 ls [.int (iI 0)])
    refine x_if_eq B (by omega) (tgt := 17) dX12_wished_5 (by decide) (fun c2 => ?_) (fun c2 => ?_)
    · refine x_ldcw B (z := (-1000000)) m_1836 (by decide) dX12_wished_17 ?_
      refine x_ri B hQ h (by decide) dX12_wished_20 ?_
      exact ⟨_, rfl, by omega⟩
    · exact absurd c2 (by omega)
abbrev r_c_X12_eight : Room := { frames := 1, cells := 0, slots := 0, locals := 22 }
set_option maxHeartbeats 4000000 in
set_option maxRecDepth 100000 in
theorem c_X12_eight (l : Launch) (D : va_G) (ca : Nat → ClassId) (w : xW) (line : Int) (wind : Int) (coin : Int) (what : Int) (am : Nat → Nat) (f0 : w[0]? = some (am 0, xO 12 [fR (am 1), fX 0, fX 0, fX 0, fX 0, fX 1, fX 1, fR (am 2), fR (am 3), fR (am 4), fR (am 5), fR (am 6), fR (am 7), fR (am 8), fR (am 9), fR (am 10), fR (am 11), fR (am 12), fR (am 13), fR (am 14), fR (am 15), fR (am 16), fR (am 17), fX 0, fR (am 18), fR (am 19), fR (am 20), fR (am 21), fR (am 22), fR (am 23), fR (am 24), fR (am 25), fX 0, fX (-1), fG 0 0, fG 0 0, fG 0 0, fG 0 0, fG 0 0, fG 0 0, fG 0 0, fG 0 0, fL, fX 0, fR (am 26), fX 0, fX 0, fR (am 27), fR (am 28), fR (am 29), fR (am 30), fR (am 31), fX 0, fX 0, fX 0, fX 0, fR (am 32), fX 0, fX 0, fX 0, fX 0, fR (am 33), fR (am 34), fR (am 35), fX 0, fX 0, fR (am 36), fR (am 37), fR (am 38), fX (-1), fX 0, fX 0, fX 0, fR (am 39), fX 0, fR (am 40), fR (am 41), fR (am 42), fR (am 43), fR (am 44)])) (hline : xr line) (hwind : xr wind) (hcoin : xr coin) (hwhat : xr what) : xC l D ca yX12_eight cX12_eight 10 (some .int) r_c_X12_eight [.ref (am 0), .int (iI line), .int (iI wind), .int (iI coin), .int (iI what)] w (qIa (fun z => (((0 ≤ line ∧ line ≤ 12) ∧ (0 ≤ wind ∧ wind ≤ 99) ∧ (0 ≤ coin ∧ coin ≤ 9999) ∧ 0 ≤ what ∧ what ≤ 3) → z = 0) ∧ (¬ ((0 ≤ line ∧ line ≤ 12) ∧ (0 ≤ wind ∧ wind ≤ 99) ∧ (0 ≤ coin ∧ coin ≤ 9999) ∧ 0 ≤ what ∧ what ≤ 3) → z = -1000000000))) := by
  refine xC.of2 "WindWordsModel" (by decide) rfl (Nat.le_of_ble_eq_true rfl) ?_
  intro p e s m args below meth c A ls Qf B hnm h hl hQ
  have hl : lv_has ls 10 [(0, .ref (am 0)), (1, .int (iI line)), (2, .int (iI wind)), (3, .int (iI coin)), (4, .int (iI what))] := hl
  refine lv_iload_n B.1 B.2.1 dX12_eight_0 rfl (lv_at hl 1 rfl) ?_
  refine x_iconst B dX12_eight_1 ?_
  refine x_bipush B (by decide) dX12_eight_2 ?_
  refine x_cS B h k_X12_within (c_X12_within l D ca _ line 0 12  (by omega) (by omega) (by omega)) m_1515 rfl (by decide) hl.1 [] (Nat.le_of_ble_eq_true rfl) rfl dX12_eight_4 (fun r w1 hq H locs h => ?_)
  obtain ⟨rfl, ⟨rfl, b1⟩ | ⟨rfl, b1⟩⟩ := hq
  · show W p l e r_c_X12_eight s m args below meth c H locs 0 0 Qf (F0 m 7 ls [.int (iI 1)])
    refine x_if_eq B (by omega) (tgt := 41) dX12_eight_7 (by decide) (fun c2 => ?_) (fun c2 => ?_)
    · exact absurd c2 (by omega)
    · refine lv_iload_n B.1 B.2.1 dX12_eight_10 rfl (lv_at hl 2 rfl) ?_
      refine x_iconst B dX12_eight_11 ?_
      refine x_bipush B (by decide) dX12_eight_12 ?_
      refine x_cS B h k_X12_within (c_X12_within l D ca _ wind 0 99  (by omega) (by omega) (by omega)) m_1515 rfl (by decide) hl.1 [] (Nat.le_of_ble_eq_true rfl) rfl dX12_eight_14 (fun r w1 hq H locs h => ?_)
      obtain ⟨rfl, ⟨rfl, b3⟩ | ⟨rfl, b3⟩⟩ := hq
      · show W p l e r_c_X12_eight s m args below meth c H locs 0 0 Qf (F0 m 17 ls [.int (iI 1)])
        refine x_if_eq B (by omega) (tgt := 41) dX12_eight_17 (by decide) (fun c4 => ?_) (fun c4 => ?_)
        · exact absurd c4 (by omega)
        · refine lv_iload_n B.1 B.2.1 dX12_eight_20 rfl (lv_at hl 3 rfl) ?_
          refine x_iconst B dX12_eight_21 ?_
          refine x_sipush B (by decide) dX12_eight_22 ?_
          refine x_cS B h k_X12_within (c_X12_within l D ca _ coin 0 9999  (by omega) (by omega) (by omega)) m_1515 rfl (by decide) hl.1 [] (Nat.le_of_ble_eq_true rfl) rfl dX12_eight_25 (fun r w1 hq H locs h => ?_)
          obtain ⟨rfl, ⟨rfl, b5⟩ | ⟨rfl, b5⟩⟩ := hq
          · show W p l e r_c_X12_eight s m args below meth c H locs 0 0 Qf (F0 m 28 ls [.int (iI 1)])
            refine x_if_eq B (by omega) (tgt := 41) dX12_eight_28 (by decide) (fun c6 => ?_) (fun c6 => ?_)
            · exact absurd c6 (by omega)
            · refine lv_iload B.1 B.2.1 dX12_eight_31 (lv_at hl 4 rfl) ?_
              refine x_iconst B dX12_eight_33 ?_
              refine x_iconst B dX12_eight_34 ?_
              refine x_cS B h k_X12_within (c_X12_within l D ca _ what 0 3  (by omega) (by omega) (by omega)) m_1515 rfl (by decide) hl.1 [] (Nat.le_of_ble_eq_true rfl) rfl dX12_eight_35 (fun r w1 hq H locs h => ?_)
              obtain ⟨rfl, ⟨rfl, b7⟩ | ⟨rfl, b7⟩⟩ := hq
              · show W p l e r_c_X12_eight s m args below meth c H locs 0 0 Qf (F0 m 38 ls [.int (iI 1)])
                refine x_if_ne B (by omega) (tgt := 45) dX12_eight_38 (by decide) (fun c8 => ?_) (fun c8 => ?_)
                · refine x_iconst B dX12_eight_45 ?_
                  refine lv_istore (lv' := [(5, .int (iI 0)), (0, .ref (am 0)), (1, .int (iI line)), (2, .int (iI wind)), (3, .int (iI coin)), (4, .int (iI what))]) B.1 B.2.1 dX12_eight_46 hl (by decide) rfl (fun ls hl => ?_)
                  refine x_iconst B dX12_eight_48 ?_
                  refine lv_istore (lv' := [(6, .int (iI 0)), (5, .int (iI 0)), (0, .ref (am 0)), (1, .int (iI line)), (2, .int (iI wind)), (3, .int (iI coin)), (4, .int (iI what))]) B.1 B.2.1 dX12_eight_49 hl (by decide) rfl (fun ls hl => ?_)
                  refine x_iconst B dX12_eight_51 ?_
                  refine lv_istore (lv' := [(7, .int (iI 0)), (6, .int (iI 0)), (5, .int (iI 0)), (0, .ref (am 0)), (1, .int (iI line)), (2, .int (iI wind)), (3, .int (iI coin)), (4, .int (iI what))]) B.1 B.2.1 dX12_eight_52 hl (by decide) rfl (fun ls hl => ?_)
                  refine x_iconst B dX12_eight_54 ?_
                  refine lv_istore (lv' := [(8, .int (iI 0)), (7, .int (iI 0)), (6, .int (iI 0)), (5, .int (iI 0)), (0, .ref (am 0)), (1, .int (iI line)), (2, .int (iI wind)), (3, .int (iI coin)), (4, .int (iI what))]) B.1 B.2.1 dX12_eight_55 hl (by decide) rfl (fun ls hl => ?_)
                  refine lv_iload B.1 B.2.1 dX12_eight_57 (lv_at hl 0 rfl) ?_
                  refine lv_aload_n B.1 B.2.1 dX12_eight_59 rfl (lv_at hl 4 rfl) ?_
                  refine x_getX B h kX12 0 f0 4 (z := 0) rfl m_1265 (by decide) dX12_eight_60 ?_
                  refine x_icmp_ge B (by omega) (tgt := 167) dX12_eight_63 (by decide) (fun c9 => ?_) (fun c9 => ?_)
                  · refine lv_iload B.1 B.2.1 dX12_eight_167 (lv_at hl 8 rfl) ?_
                    refine x_if_ne B (by omega) (tgt := 177) dX12_eight_169 (by decide) (fun c10 => ?_) (fun c10 => ?_)
                    · refine lv_iload B.1 B.2.1 dX12_eight_177 (lv_at hl 8 rfl) ?_
                      refine x_iconst B dX12_eight_179 ?_
                      refine x_icmp_ne B (by omega) (tgt := 188) dX12_eight_180 (by decide) (fun c11 => ?_) (fun c11 => ?_)
                      · refine lv_iload B.1 B.2.1 dX12_eight_188 (lv_at hl 8 rfl) ?_
                        refine x_iconst B dX12_eight_190 ?_
                        refine x_icmp_ne B (by omega) (tgt := 199) dX12_eight_191 (by decide) (fun c12 => ?_) (fun c12 => ?_)
                        · refine lv_iload_n B.1 B.2.1 dX12_eight_199 rfl (lv_at hl 7 rfl) ?_
                          refine lv_iload B.1 B.2.1 dX12_eight_200 (lv_at hl 2 rfl) ?_
                          refine lv_iload B.1 B.2.1 dX12_eight_202 (lv_at hl 1 rfl) ?_
                          refine x_isub B dX12_eight_204 ?_
                          refine x_imul B dX12_eight_205 ?_
                          refine x_ri B hQ h (by decide) dX12_eight_206 ?_
                          exact ⟨_, rfl, by omega⟩
                        · refine lv_iload B.1 B.2.1 dX12_eight_194 (lv_at hl 1 rfl) ?_
                          refine lv_goto (tgt := 206) B.1 B.2.1 dX12_eight_196 (by decide) ?_
                          refine x_ri B hQ h (by decide) dX12_eight_206 ?_
                          exact ⟨_, rfl, by omega⟩
                      · refine lv_iload B.1 B.2.1 dX12_eight_183 (lv_at hl 2 rfl) ?_
                        refine lv_goto (tgt := 206) B.1 B.2.1 dX12_eight_185 (by decide) ?_
                        refine x_ri B hQ h (by decide) dX12_eight_206 ?_
                        exact ⟨_, rfl, by omega⟩
                    · refine lv_iload B.1 B.2.1 dX12_eight_172 (lv_at hl 3 rfl) ?_
                      refine lv_goto (tgt := 206) B.1 B.2.1 dX12_eight_174 (by decide) ?_
                      refine x_ri B hQ h (by decide) dX12_eight_206 ?_
                      exact ⟨_, rfl, by omega⟩
                  · exact absurd c9 (by omega)
                · exact absurd c8 (by omega)
              · show W p l e r_c_X12_eight s m args below meth c H locs 0 0 Qf (F0 m 38 ls [.int (iI 0)])
                refine x_if_ne B (by omega) (tgt := 45) dX12_eight_38 (by decide) (fun c13 => ?_) (fun c13 => ?_)
                · exact absurd c13 (by omega)
                · refine x_ldcw B (z := (-1000000000)) m_1851 (by decide) dX12_eight_41 ?_
                  refine x_ri B hQ h (by decide) dX12_eight_44 ?_
                  exact ⟨_, rfl, by omega⟩
          · show W p l e r_c_X12_eight s m args below meth c H locs 0 0 Qf (F0 m 28 ls [.int (iI 0)])
            refine x_if_eq B (by omega) (tgt := 41) dX12_eight_28 (by decide) (fun c14 => ?_) (fun c14 => ?_)
            · refine x_ldcw B (z := (-1000000000)) m_1851 (by decide) dX12_eight_41 ?_
              refine x_ri B hQ h (by decide) dX12_eight_44 ?_
              exact ⟨_, rfl, by omega⟩
            · exact absurd c14 (by omega)
      · show W p l e r_c_X12_eight s m args below meth c H locs 0 0 Qf (F0 m 17 ls [.int (iI 0)])
        refine x_if_eq B (by omega) (tgt := 41) dX12_eight_17 (by decide) (fun c15 => ?_) (fun c15 => ?_)
        · refine x_ldcw B (z := (-1000000000)) m_1851 (by decide) dX12_eight_41 ?_
          refine x_ri B hQ h (by decide) dX12_eight_44 ?_
          exact ⟨_, rfl, by omega⟩
        · exact absurd c15 (by omega)
  · show W p l e r_c_X12_eight s m args below meth c H locs 0 0 Qf (F0 m 7 ls [.int (iI 0)])
    refine x_if_eq B (by omega) (tgt := 41) dX12_eight_7 (by decide) (fun c16 => ?_) (fun c16 => ?_)
    · refine x_ldcw B (z := (-1000000000)) m_1851 (by decide) dX12_eight_41 ?_
      refine x_ri B hQ h (by decide) dX12_eight_44 ?_
      exact ⟨_, rfl, by omega⟩
    · exact absurd c16 (by omega)
abbrev r_c_X12_alike : Room := { frames := 1, cells := 0, slots := 0, locals := 22 }
set_option maxHeartbeats 4000000 in
set_option maxRecDepth 100000 in
theorem c_X12_alike (l : Launch) (D : va_G) (ca : Nat → ClassId) (w : xW) (scale : Int) (am : Nat → Nat) (f0 : w[0]? = some (am 0, xO 12 [fR (am 1), fX 0, fX 0, fX 0, fX 0, fX 1, fX 1, fR (am 2), fR (am 3), fR (am 4), fR (am 5), fR (am 6), fR (am 7), fR (am 8), fR (am 9), fR (am 10), fR (am 11), fR (am 12), fR (am 13), fR (am 14), fR (am 15), fR (am 16), fR (am 17), fX 0, fR (am 18), fR (am 19), fR (am 20), fR (am 21), fR (am 22), fR (am 23), fR (am 24), fR (am 25), fX 0, fX (-1), fG 0 0, fG 0 0, fG 0 0, fG 0 0, fG 0 0, fG 0 0, fG 0 0, fG 0 0, fL, fX 0, fR (am 26), fX 0, fX 0, fR (am 27), fR (am 28), fR (am 29), fR (am 30), fR (am 31), fX 0, fX 0, fX 0, fX 0, fR (am 32), fX 0, fX 0, fX 0, fX 0, fR (am 33), fR (am 34), fR (am 35), fX 0, fX 0, fR (am 36), fR (am 37), fR (am 38), fX (-1), fX 0, fX 0, fX 0, fR (am 39), fX 0, fR (am 40), fR (am 41), fR (am 42), fR (am 43), fR (am 44)])) (hscale : xr scale) : xC l D ca yX12_alike cX12_alike 6 (some .int) r_c_X12_alike [.ref (am 0), .int (iI scale)] w (qIa (fun z => z = -1)) := by
  refine xC.of2 "WindWordsModel" (by decide) rfl (Nat.le_of_ble_eq_true rfl) ?_
  intro p e s m args below meth c A ls Qf B hnm h hl hQ
  have hl : lv_has ls 6 [(0, .ref (am 0)), (1, .int (iI scale))] := hl
  refine lv_iload_n B.1 B.2.1 dX12_alike_0 rfl (lv_at hl 1 rfl) ?_
  refine x_iconst B dX12_alike_1 ?_
  refine lv_aload_n B.1 B.2.1 dX12_alike_2 rfl (lv_at hl 0 rfl) ?_
  refine x_getX B h kX12 0 f0 23 (z := 0) rfl m_1284 (by decide) dX12_alike_3 ?_
  refine x_iconst B dX12_alike_6 ?_
  refine x_isub B dX12_alike_7 ?_
  refine x_cS B h k_X12_within (c_X12_within l D ca _ scale 0 ((0 - 1))  (by omega) (by omega) (by omega)) m_1515 rfl (by decide) hl.1 [] (Nat.le_of_ble_eq_true rfl) rfl dX12_alike_8 (fun r w1 hq H locs h => ?_)
  obtain ⟨rfl, ⟨rfl, b1⟩ | ⟨rfl, b1⟩⟩ := hq
  · exact absurd b1 (by omega)
  · show W p l e r_c_X12_alike s m args below meth c H locs 0 0 Qf (F0 m 11 ls [.int (iI 0)])
    refine x_if_eq B (by omega) (tgt := 20) dX12_alike_11 (by decide) (fun c2 => ?_) (fun c2 => ?_)
    · refine lv_iload_n B.1 B.2.1 dX12_alike_20 rfl (lv_at hl 1 rfl) ?_
      refine x_iconst B dX12_alike_21 ?_
      refine x_icmp_eq B (by omega) (tgt := 27) dX12_alike_22 (by decide) (fun c3 => ?_) (fun c3 => ?_)
      · refine x_iconst B dX12_alike_27 ?_
        refine lv_istore_n (lv' := [(2, .int (iI (-1))), (0, .ref (am 0)), (1, .int (iI scale))]) B.1 B.2.1 dX12_alike_28 rfl hl (by decide) rfl (fun ls hl => ?_)
        refine x_iconst B dX12_alike_29 ?_
        refine lv_istore_n (lv' := [(3, .int (iI 0)), (2, .int (iI (-1))), (0, .ref (am 0)), (1, .int (iI scale))]) B.1 B.2.1 dX12_alike_30 rfl hl (by decide) rfl (fun ls hl => ?_)
        refine x_iconst B dX12_alike_31 ?_
        refine lv_istore (lv' := [(4, .int (iI 0)), (3, .int (iI 0)), (2, .int (iI (-1))), (0, .ref (am 0)), (1, .int (iI scale))]) B.1 B.2.1 dX12_alike_32 hl (by decide) rfl (fun ls hl => ?_)
        refine lv_iload B.1 B.2.1 dX12_alike_34 (lv_at hl 0 rfl) ?_
        refine lv_aload_n B.1 B.2.1 dX12_alike_36 rfl (lv_at hl 3 rfl) ?_
        refine x_getX B h kX12 0 f0 23 (z := 0) rfl m_1284 (by decide) dX12_alike_37 ?_
        refine x_icmp_ge B (by omega) (tgt := 76) dX12_alike_40 (by decide) (fun c4 => ?_) (fun c4 => ?_)
        · refine lv_iload_n B.1 B.2.1 dX12_alike_76 rfl (lv_at hl 2 rfl) ?_
          refine x_ri B hQ h (by decide) dX12_alike_77 ?_
          exact ⟨_, rfl, by omega⟩
        · exact absurd c4 (by omega)
      · refine x_iconst B dX12_alike_25 ?_
        refine x_ri B hQ h (by decide) dX12_alike_26 ?_
        exact ⟨_, rfl, by omega⟩
    · exact absurd c2 (by omega)
abbrev r_c_X12_reading : Room := { frames := 1, cells := 0, slots := 0, locals := 22 }
set_option maxHeartbeats 4000000 in
set_option maxRecDepth 100000 in
theorem c_X12_reading (l : Launch) (D : va_G) (ca : Nat → ClassId) (w : xW) (k : Int) (what : Int) (am : Nat → Nat) (f0 : w[0]? = some (am 0, xO 12 [fR (am 1), fX 0, fX 0, fX 0, fX 0, fX 1, fX 1, fR (am 2), fR (am 3), fR (am 4), fR (am 5), fR (am 6), fR (am 7), fR (am 8), fR (am 9), fR (am 10), fR (am 11), fR (am 12), fR (am 13), fR (am 14), fR (am 15), fR (am 16), fR (am 17), fX 0, fR (am 18), fR (am 19), fR (am 20), fR (am 21), fR (am 22), fR (am 23), fR (am 24), fR (am 25), fX 0, fX (-1), fG 0 0, fG 0 0, fG 0 0, fG 0 0, fG 0 0, fG 0 0, fG 0 0, fG 0 0, fL, fX 0, fR (am 26), fX 0, fX 0, fR (am 27), fR (am 28), fR (am 29), fR (am 30), fR (am 31), fX 0, fX 0, fX 0, fX 0, fR (am 32), fX 0, fX 0, fX 0, fX 0, fR (am 33), fR (am 34), fR (am 35), fX 0, fX 0, fR (am 36), fR (am 37), fR (am 38), fX (-1), fX 0, fX 0, fX 0, fR (am 39), fX 0, fR (am 40), fR (am 41), fR (am 42), fR (am 43), fR (am 44)])) (hk : xr k) (hwhat : xr what) : xC l D ca yX12_reading cX12_reading 3 (some .int) r_c_X12_reading [.ref (am 0), .int (iI k), .int (iI what)] w (qIa (fun z => z = -1)) := by
  refine xC.of2 "WindWordsModel" (by decide) rfl (Nat.le_of_ble_eq_true rfl) ?_
  intro p e s m args below meth c A ls Qf B hnm h hl hQ
  have hl : lv_has ls 3 [(0, .ref (am 0)), (1, .int (iI k)), (2, .int (iI what))] := hl
  refine lv_iload_n B.1 B.2.1 dX12_reading_0 rfl (lv_at hl 1 rfl) ?_
  refine x_iconst B dX12_reading_1 ?_
  refine lv_aload_n B.1 B.2.1 dX12_reading_2 rfl (lv_at hl 0 rfl) ?_
  refine x_getX B h kX12 0 f0 4 (z := 0) rfl m_1265 (by decide) dX12_reading_3 ?_
  refine x_iconst B dX12_reading_6 ?_
  refine x_isub B dX12_reading_7 ?_
  refine x_cS B h k_X12_within (c_X12_within l D ca _ k 0 ((0 - 1))  (by omega) (by omega) (by omega)) m_1515 rfl (by decide) hl.1 [] (Nat.le_of_ble_eq_true rfl) rfl dX12_reading_8 (fun r w1 hq H locs h => ?_)
  obtain ⟨rfl, ⟨rfl, b1⟩ | ⟨rfl, b1⟩⟩ := hq
  · exact absurd b1 (by omega)
  · show W p l e r_c_X12_reading s m args below meth c H locs 0 0 Qf (F0 m 11 ls [.int (iI 0)])
    refine x_if_eq B (by omega) (tgt := 24) dX12_reading_11 (by decide) (fun c2 => ?_) (fun c2 => ?_)
    · refine x_iconst B dX12_reading_24 ?_
      refine x_ri B hQ h (by decide) dX12_reading_25 ?_
      exact ⟨_, rfl, by omega⟩
    · exact absurd c2 (by omega)
abbrev r_c_X12_back : Room := { frames := 1, cells := 0, slots := 0, locals := 22 }
set_option maxHeartbeats 4000000 in
set_option maxRecDepth 100000 in
theorem c_X12_back (l : Launch) (D : va_G) (ca : Nat → ClassId) (w : xW) (im : Int) (am : Nat → Nat) (f0 : w[0]? = some (am 0, xO 12 [fR (am 1), fX 0, fX 0, fX 0, fX 0, fX 1, fX 1, fR (am 2), fR (am 3), fR (am 4), fR (am 5), fR (am 6), fR (am 7), fR (am 8), fR (am 9), fR (am 10), fR (am 11), fR (am 12), fR (am 13), fR (am 14), fR (am 15), fR (am 16), fR (am 17), fX 0, fR (am 18), fR (am 19), fR (am 20), fR (am 21), fR (am 22), fR (am 23), fR (am 24), fR (am 25), fX 0, fX (-1), fG 0 0, fG 0 0, fG 0 0, fG 0 0, fG 0 0, fG 0 0, fG 0 0, fG 0 0, fL, fX 0, fR (am 26), fX 0, fX 0, fR (am 27), fR (am 28), fR (am 29), fR (am 30), fR (am 31), fX 0, fX 0, fX 0, fX 0, fR (am 32), fX 0, fX 0, fX 0, fX 0, fR (am 33), fR (am 34), fR (am 35), fX 0, fX 0, fR (am 36), fR (am 37), fR (am 38), fX (-1), fX 0, fX 0, fX 0, fR (am 39), fX 0, fR (am 40), fR (am 41), fR (am 42), fR (am 43), fR (am 44)])) (f1 : w[1]? = some (am 1, xAI (ca 0) 3 (gX 3 (fun _ => 0)))) (him : xr im) : xC l D ca yX12_back cX12_back 4 (some .int) r_c_X12_back [.ref (am 0), .int (iI im)] w (qIa (fun z => z = -1)) := by
  refine xC.of2 "WindWordsModel" (by decide) rfl (Nat.le_of_ble_eq_true rfl) ?_
  intro p e s m args below meth c A ls Qf B hnm h hl hQ
  have hl : lv_has ls 4 [(0, .ref (am 0)), (1, .int (iI im))] := hl
  refine lv_iload_n B.1 B.2.1 dX12_back_0 rfl (lv_at hl 1 rfl) ?_
  refine x_iconst B dX12_back_1 ?_
  refine lv_aload_n B.1 B.2.1 dX12_back_2 rfl (lv_at hl 0 rfl) ?_
  refine x_getX B h kX12 0 f0 74 (z := 0) rfl m_1335 (by decide) dX12_back_3 ?_
  refine x_iconst B dX12_back_6 ?_
  refine x_isub B dX12_back_7 ?_
  refine x_cS B h k_X12_within (c_X12_within l D ca _ im 0 ((0 - 1))  (by omega) (by omega) (by omega)) m_1515 rfl (by decide) hl.1 [] (Nat.le_of_ble_eq_true rfl) rfl dX12_back_8 (fun r w1 hq H locs h => ?_)
  obtain ⟨rfl, ⟨rfl, b1⟩ | ⟨rfl, b1⟩⟩ := hq
  · exact absurd b1 (by omega)
  · show W p l e r_c_X12_back s m args below meth c H locs 0 0 Qf (F0 m 11 ls [.int (iI 0)])
    refine x_if_eq B (by omega) (tgt := 27) dX12_back_11 (by decide) (fun c2 => ?_) (fun c2 => ?_)
    · refine lv_aload_n B.1 B.2.1 dX12_back_27 rfl (lv_at hl 0 rfl) ?_
      refine x_iconst B dX12_back_28 ?_
      refine x_cV B h kX12 0 f0 k_X12_refuse rfl (c_X12_refuse l D ca _ 0 am f0 f1 (by omega)) m_1507 rfl (by decide) hl.1 [] (Nat.le_of_ble_eq_true rfl) rfl dX12_back_29 (fun r w1 hq H locs h => ?_)
      obtain ⟨z3, rfl, hz3⟩ := hq
      show W p l e r_c_X12_back s m args below meth c H locs 0 0 Qf (F0 m 32 ls [.int (iI z3)])
      refine x_ri B hQ h (by decide) dX12_back_32 ?_
      exact ⟨_, rfl, by omega⟩
    · exact absurd c2 (by omega)
abbrev r_c_X12_way : Room := { frames := 0, cells := 0, slots := 0, locals := 0 }
set_option maxHeartbeats 4000000 in
set_option maxRecDepth 100000 in
theorem c_X12_way (l : Launch) (D : va_G) (ca : Nat → ClassId) (w : xW) (watch : Int) (cell : Int) (am : Nat → Nat) (f0 : w[0]? = some (am 0, xO 12 [fR (am 1), fX 0, fX 0, fX 0, fX 0, fX 1, fX 1, fR (am 2), fR (am 3), fR (am 4), fR (am 5), fR (am 6), fR (am 7), fR (am 8), fR (am 9), fR (am 10), fR (am 11), fR (am 12), fR (am 13), fR (am 14), fR (am 15), fR (am 16), fR (am 17), fX 0, fR (am 18), fR (am 19), fR (am 20), fR (am 21), fR (am 22), fR (am 23), fR (am 24), fR (am 25), fX 0, fX (-1), fG 0 0, fG 0 0, fG 0 0, fG 0 0, fG 0 0, fG 0 0, fG 0 0, fG 0 0, fL, fX 0, fR (am 26), fX 0, fX 0, fR (am 27), fR (am 28), fR (am 29), fR (am 30), fR (am 31), fX 0, fX 0, fX 0, fX 0, fR (am 32), fX 0, fX 0, fX 0, fX 0, fR (am 33), fR (am 34), fR (am 35), fX 0, fX 0, fR (am 36), fR (am 37), fR (am 38), fX (-1), fX 0, fX 0, fX 0, fR (am 39), fX 0, fR (am 40), fR (am 41), fR (am 42), fR (am 43), fR (am 44)])) (hwatch : xr watch) (hcell : xr cell) : xC l D ca yX12_way cX12_way 3 (some .int) r_c_X12_way [.ref (am 0), .int (iI watch), .int (iI cell)] w (qIa (fun z => z = -1)) := by
  refine xC.of2 "WindWordsModel" (by decide) rfl (Nat.le_of_ble_eq_true rfl) ?_
  intro p e s m args below meth c A ls Qf B hnm h hl hQ
  have hl : lv_has ls 3 [(0, .ref (am 0)), (1, .int (iI watch)), (2, .int (iI cell))] := hl
  refine lv_aload_n B.1 B.2.1 dX12_way_0 rfl (lv_at hl 0 rfl) ?_
  refine x_getX B h kX12 0 f0 69 (z := (-1)) rfl m_1330 (by decide) dX12_way_1 ?_
  refine x_if_lt B (by omega) (tgt := 32) dX12_way_4 (by decide) (fun c1 => ?_) (fun c1 => ?_)
  · refine x_iconst B dX12_way_32 ?_
    refine x_ri B hQ h (by decide) dX12_way_33 ?_
    exact ⟨_, rfl, by omega⟩
  · exact absurd c1 (by omega)
abbrev r_c_X12_image : Room := { frames := 0, cells := 0, slots := 0, locals := 0 }
set_option maxHeartbeats 4000000 in
set_option maxRecDepth 100000 in
theorem c_X12_image (l : Launch) (D : va_G) (ca : Nat → ClassId) (w : xW) (am : Nat → Nat) (f0 : w[0]? = some (am 0, xO 12 [fR (am 1), fX 0, fX 0, fX 0, fX 0, fX 1, fX 1, fR (am 2), fR (am 3), fR (am 4), fR (am 5), fR (am 6), fR (am 7), fR (am 8), fR (am 9), fR (am 10), fR (am 11), fR (am 12), fR (am 13), fR (am 14), fR (am 15), fR (am 16), fR (am 17), fX 0, fR (am 18), fR (am 19), fR (am 20), fR (am 21), fR (am 22), fR (am 23), fR (am 24), fR (am 25), fX 0, fX (-1), fG 0 0, fG 0 0, fG 0 0, fG 0 0, fG 0 0, fG 0 0, fG 0 0, fG 0 0, fL, fX 0, fR (am 26), fX 0, fX 0, fR (am 27), fR (am 28), fR (am 29), fR (am 30), fR (am 31), fX 0, fX 0, fX 0, fX 0, fR (am 32), fX 0, fX 0, fX 0, fX 0, fR (am 33), fR (am 34), fR (am 35), fX 0, fX 0, fR (am 36), fR (am 37), fR (am 38), fX (-1), fX 0, fX 0, fX 0, fR (am 39), fX 0, fR (am 40), fR (am 41), fR (am 42), fR (am 43), fR (am 44)])) (f40 : w[40]? = some (am 40, xAI (ca 0) 4 gA)) (f41 : w[41]? = some (am 41, xAI (ca 0) 4 gA)) (f42 : w[42]? = some (am 42, xAI (ca 0) 4 gA)) (f43 : w[43]? = some (am 43, xAI (ca 0) 4 gA)) (f1 : w[1]? = some (am 1, xAI (ca 0) 3 (gX 3 (fun _ => 0))))  : xC l D ca yX12_image cX12_image 2 (some .int) r_c_X12_image [.ref (am 0)] w (qIa (fun z => z = 0)) := by
  refine xC.of2 "WindWordsModel" (by decide) rfl (Nat.le_of_ble_eq_true rfl) ?_
  intro p e s m args below meth c A ls Qf B hnm h hl hQ
  have hl : lv_has ls 2 [(0, .ref (am 0))] := hl
  refine lv_aload_n B.1 B.2.1 dX12_image_0 rfl (lv_at hl 0 rfl) ?_
  refine x_getX B h kX12 0 f0 74 (z := 0) rfl m_1335 (by decide) dX12_image_1 ?_
  refine x_iconst B dX12_image_4 ?_
  refine x_icmp_ne B (by omega) (tgt := 14) dX12_image_5 (by decide) (fun c1 => ?_) (fun c1 => ?_)
  · refine lv_aload_n B.1 B.2.1 dX12_image_14 rfl (lv_at hl 0 rfl) ?_
    refine x_getR B h kX12 0 f0 75 (b := am 40) rfl m_1336 (by decide) dX12_image_15 ?_
    refine lv_aload_n B.1 B.2.1 dX12_image_18 rfl (lv_at hl 0 rfl) ?_
    refine x_getX B h kX12 0 f0 74 (z := 0) rfl m_1335 (by decide) dX12_image_19 ?_
    refine lv_aload_n B.1 B.2.1 dX12_image_22 rfl (lv_at hl 0 rfl) ?_
    refine x_getX B h kX12 0 f0 4 (z := 0) rfl m_1265 (by decide) dX12_image_23 ?_
    refine x_iastS B h 40 f40 (by omega) (fun _ _ => trivial) dX12_image_26 (fun H locs h => ?_)
    refine lv_aload_n B.1 B.2.1 dX12_image_27 rfl (lv_at hl 0 rfl) ?_
    refine x_getR B h kX12 0 f0 76 (b := am 41) rfl m_1337 (by decide) dX12_image_28 ?_
    refine lv_aload_n B.1 B.2.1 dX12_image_31 rfl (lv_at hl 0 rfl) ?_
    refine x_getX B h kX12 0 f0 74 (z := 0) rfl m_1335 (by decide) dX12_image_32 ?_
    refine lv_aload_n B.1 B.2.1 dX12_image_35 rfl (lv_at hl 0 rfl) ?_
    refine x_getX B h kX12 0 f0 1 (z := 0) rfl m_1262 (by decide) dX12_image_36 ?_
    refine x_iastS B h 41 f41 (by omega) (fun _ _ => trivial) dX12_image_39 (fun H locs h => ?_)
    refine lv_aload_n B.1 B.2.1 dX12_image_40 rfl (lv_at hl 0 rfl) ?_
    refine x_getR B h kX12 0 f0 77 (b := am 42) rfl m_1338 (by decide) dX12_image_41 ?_
    refine lv_aload_n B.1 B.2.1 dX12_image_44 rfl (lv_at hl 0 rfl) ?_
    refine x_getX B h kX12 0 f0 74 (z := 0) rfl m_1335 (by decide) dX12_image_45 ?_
    refine lv_aload_n B.1 B.2.1 dX12_image_48 rfl (lv_at hl 0 rfl) ?_
    refine x_getX B h kX12 0 f0 5 (z := 1) rfl m_1266 (by decide) dX12_image_49 ?_
    refine x_iastS B h 42 f42 (by omega) (fun _ _ => trivial) dX12_image_52 (fun H locs h => ?_)
    refine lv_aload_n B.1 B.2.1 dX12_image_53 rfl (lv_at hl 0 rfl) ?_
    refine x_getR B h kX12 0 f0 78 (b := am 43) rfl m_1339 (by decide) dX12_image_54 ?_
    refine lv_aload_n B.1 B.2.1 dX12_image_57 rfl (lv_at hl 0 rfl) ?_
    refine x_getX B h kX12 0 f0 74 (z := 0) rfl m_1335 (by decide) dX12_image_58 ?_
    refine lv_aload_n B.1 B.2.1 dX12_image_61 rfl (lv_at hl 0 rfl) ?_
    refine x_getX B h kX12 0 f0 6 (z := 1) rfl m_1267 (by decide) dX12_image_62 ?_
    refine x_iastS B h 43 f43 (by omega) (fun _ _ => trivial) dX12_image_65 (fun H locs h => ?_)
    refine x_iconst B dX12_image_66 ?_
    refine lv_istore_n (lv' := [(1, .int (iI 0)), (0, .ref (am 0))]) B.1 B.2.1 dX12_image_67 rfl hl (by decide) rfl (fun ls hl => ?_)
    refine lv_iload_n B.1 B.2.1 dX12_image_68 rfl (lv_at hl 0 rfl) ?_
    refine lv_aload_n B.1 B.2.1 dX12_image_69 rfl (lv_at hl 1 rfl) ?_
    refine x_getX B h kX12 0 f0 1 (z := 0) rfl m_1262 (by decide) dX12_image_70 ?_
    refine x_icmp_ge B (by omega) (tgt := 102) dX12_image_73 (by decide) (fun c2 => ?_) (fun c2 => ?_)
    · refine lv_aload_n B.1 B.2.1 dX12_image_102 rfl (lv_at hl 1 rfl) ?_
      refine lv_dup B.1 B.2.1 dX12_image_103 rfl ?_
      refine x_getX B h kX12 0 f0 74 (z := 0) rfl m_1335 (by decide) dX12_image_104 ?_
      refine x_iconst B dX12_image_107 ?_
      refine x_iadd B dX12_image_108 ?_
      refine x_put B h kX12 0 f0 74 (Nat.le_of_ble_eq_true rfl) (P' := fX (0 + 1)) m_1335 (by decide) rfl rfl rfl rfl dX12_image_109 (fun H locs h => ?_)
      have h : xH D A s.heap (w.set 0 (am 0, xO 12 [fR (am 1), fX 0, fX 0, fX 0, fX 0, fX 1, fX 1, fR (am 2), fR (am 3), fR (am 4), fR (am 5), fR (am 6), fR (am 7), fR (am 8), fR (am 9), fR (am 10), fR (am 11), fR (am 12), fR (am 13), fR (am 14), fR (am 15), fR (am 16), fR (am 17), fX 0, fR (am 18), fR (am 19), fR (am 20), fR (am 21), fR (am 22), fR (am 23), fR (am 24), fR (am 25), fX 0, fX (-1), fG 0 0, fG 0 0, fG 0 0, fG 0 0, fG 0 0, fG 0 0, fG 0 0, fG 0 0, fL, fX 0, fR (am 26), fX 0, fX 0, fR (am 27), fR (am 28), fR (am 29), fR (am 30), fR (am 31), fX 0, fX 0, fX 0, fX 0, fR (am 32), fX 0, fX 0, fX 0, fX 0, fR (am 33), fR (am 34), fR (am 35), fX 0, fX 0, fR (am 36), fR (am 37), fR (am 38), fX (-1), fX 0, fX 0, fX 0, fR (am 39), fX (0 + 1), fR (am 40), fR (am 41), fR (am 42), fR (am 43), fR (am 44)])) H locs := h
      refine lv_aload_n B.1 B.2.1 dX12_image_112 rfl (lv_at hl 1 rfl) ?_
      refine x_getX B h kX12 0 (xset_eq f0) 74 (z := (0 + 1)) rfl m_1335 (by decide) dX12_image_113 ?_
      refine x_iconst B dX12_image_116 ?_
      refine x_isub B dX12_image_117 ?_
      refine x_ri B hQ h (by decide) dX12_image_118 ?_
      exact ⟨_, rfl, by omega⟩
    · exact absurd c2 (by omega)
  · exact absurd c1 (by omega)
abbrev r_c_X12_trusted : Room := { frames := 0, cells := 0, slots := 0, locals := 0 }
set_option maxHeartbeats 4000000 in
set_option maxRecDepth 100000 in
theorem c_X12_trusted (l : Launch) (D : va_G) (ca : Nat → ClassId) (w : xW) (am : Nat → Nat) (f0 : w[0]? = some (am 0, xO 12 [fR (am 1), fX 0, fX 0, fX 0, fX 0, fX 1, fX 1, fR (am 2), fR (am 3), fR (am 4), fR (am 5), fR (am 6), fR (am 7), fR (am 8), fR (am 9), fR (am 10), fR (am 11), fR (am 12), fR (am 13), fR (am 14), fR (am 15), fR (am 16), fR (am 17), fX 0, fR (am 18), fR (am 19), fR (am 20), fR (am 21), fR (am 22), fR (am 23), fR (am 24), fR (am 25), fX 0, fX (-1), fG 0 0, fG 0 0, fG 0 0, fG 0 0, fG 0 0, fG 0 0, fG 0 0, fG 0 0, fL, fX 0, fR (am 26), fX 0, fX 0, fR (am 27), fR (am 28), fR (am 29), fR (am 30), fR (am 31), fX 0, fX 0, fX 0, fX 0, fR (am 32), fX 0, fX 0, fX 0, fX 0, fR (am 33), fR (am 34), fR (am 35), fX 0, fX 0, fR (am 36), fR (am 37), fR (am 38), fX (-1), fX 0, fX 0, fX 0, fR (am 39), fX 0, fR (am 40), fR (am 41), fR (am 42), fR (am 43), fR (am 44)]))  : xC l D ca yX12_trusted cX12_trusted 3 (some .int) r_c_X12_trusted [.ref (am 0)] w (qI w (fun z => z = 0)) := by
  refine xC.of2 "WindWordsModel" (by decide) rfl (Nat.le_of_ble_eq_true rfl) ?_
  intro p e s m args below meth c A ls Qf B hnm h hl hQ
  have hl : lv_has ls 3 [(0, .ref (am 0))] := hl
  refine x_iconst B dX12_trusted_0 ?_
  refine lv_istore_n (lv' := [(1, .int (iI 0)), (0, .ref (am 0))]) B.1 B.2.1 dX12_trusted_1 rfl hl (by decide) rfl (fun ls hl => ?_)
  refine x_iconst B dX12_trusted_2 ?_
  refine lv_istore_n (lv' := [(2, .int (iI 0)), (1, .int (iI 0)), (0, .ref (am 0))]) B.1 B.2.1 dX12_trusted_3 rfl hl (by decide) rfl (fun ls hl => ?_)
  refine lv_iload_n B.1 B.2.1 dX12_trusted_4 rfl (lv_at hl 0 rfl) ?_
  refine lv_aload_n B.1 B.2.1 dX12_trusted_5 rfl (lv_at hl 2 rfl) ?_
  refine x_getX B h kX12 0 f0 1 (z := 0) rfl m_1262 (by decide) dX12_trusted_6 ?_
  refine x_icmp_ge B (by omega) (tgt := 35) dX12_trusted_9 (by decide) (fun c1 => ?_) (fun c1 => ?_)
  · refine lv_iload_n B.1 B.2.1 dX12_trusted_35 rfl (lv_at hl 1 rfl) ?_
    refine x_ri B hQ h (by decide) dX12_trusted_36 ?_
    exact ⟨rfl, _, rfl, by omega⟩
  · exact absurd c1 (by omega)
abbrev r_c_X12_habitsInAll : Room := { frames := 0, cells := 0, slots := 0, locals := 0 }
set_option maxHeartbeats 4000000 in
set_option maxRecDepth 100000 in
theorem c_X12_habitsInAll (l : Launch) (D : va_G) (ca : Nat → ClassId) (w : xW) (am : Nat → Nat) (f0 : w[0]? = some (am 0, xO 12 [fR (am 1), fX 0, fX 0, fX 0, fX 0, fX 1, fX 1, fR (am 2), fR (am 3), fR (am 4), fR (am 5), fR (am 6), fR (am 7), fR (am 8), fR (am 9), fR (am 10), fR (am 11), fR (am 12), fR (am 13), fR (am 14), fR (am 15), fR (am 16), fR (am 17), fX 0, fR (am 18), fR (am 19), fR (am 20), fR (am 21), fR (am 22), fR (am 23), fR (am 24), fR (am 25), fX 0, fX (-1), fG 0 0, fG 0 0, fG 0 0, fG 0 0, fG 0 0, fG 0 0, fG 0 0, fG 0 0, fL, fX 0, fR (am 26), fX 0, fX 0, fR (am 27), fR (am 28), fR (am 29), fR (am 30), fR (am 31), fX 0, fX 0, fX 0, fX 0, fR (am 32), fX 0, fX 0, fX 0, fX 0, fR (am 33), fR (am 34), fR (am 35), fX 0, fX 0, fR (am 36), fR (am 37), fR (am 38), fX (-1), fX 0, fX 0, fX 0, fR (am 39), fX 0, fR (am 40), fR (am 41), fR (am 42), fR (am 43), fR (am 44)]))  : xC l D ca yX12_habitsInAll cX12_habitsInAll 3 (some .int) r_c_X12_habitsInAll [.ref (am 0)] w (qI w (fun z => z = 0)) := by
  refine xC.of2 "WindWordsModel" (by decide) rfl (Nat.le_of_ble_eq_true rfl) ?_
  intro p e s m args below meth c A ls Qf B hnm h hl hQ
  have hl : lv_has ls 3 [(0, .ref (am 0))] := hl
  refine x_iconst B dX12_habitsInAll_0 ?_
  refine lv_istore_n (lv' := [(1, .int (iI 0)), (0, .ref (am 0))]) B.1 B.2.1 dX12_habitsInAll_1 rfl hl (by decide) rfl (fun ls hl => ?_)
  refine x_iconst B dX12_habitsInAll_2 ?_
  refine lv_istore_n (lv' := [(2, .int (iI 0)), (1, .int (iI 0)), (0, .ref (am 0))]) B.1 B.2.1 dX12_habitsInAll_3 rfl hl (by decide) rfl (fun ls hl => ?_)
  refine lv_iload_n B.1 B.2.1 dX12_habitsInAll_4 rfl (lv_at hl 0 rfl) ?_
  refine lv_aload_n B.1 B.2.1 dX12_habitsInAll_5 rfl (lv_at hl 2 rfl) ?_
  refine x_getX B h kX12 0 f0 1 (z := 0) rfl m_1262 (by decide) dX12_habitsInAll_6 ?_
  refine x_icmp_ge B (by omega) (tgt := 30) dX12_habitsInAll_9 (by decide) (fun c1 => ?_) (fun c1 => ?_)
  · refine lv_iload_n B.1 B.2.1 dX12_habitsInAll_30 rfl (lv_at hl 1 rfl) ?_
    refine x_ri B hQ h (by decide) dX12_habitsInAll_31 ?_
    exact ⟨rfl, _, rfl, by omega⟩
  · exact absurd c1 (by omega)
abbrev r_c_X12_count : Room := { frames := 1, cells := 0, slots := 0, locals := 22 }
set_option maxHeartbeats 4000000 in
set_option maxRecDepth 100000 in
theorem c_X12_count (l : Launch) (D : va_G) (ca : Nat → ClassId) (w : xW) (what : Int) (am : Nat → Nat) (f0 : w[0]? = some (am 0, xO 12 [fR (am 1), fX 0, fX 0, fX 0, fX 0, fX 1, fX 1, fR (am 2), fR (am 3), fR (am 4), fR (am 5), fR (am 6), fR (am 7), fR (am 8), fR (am 9), fR (am 10), fR (am 11), fR (am 12), fR (am 13), fR (am 14), fR (am 15), fR (am 16), fR (am 17), fX 0, fR (am 18), fR (am 19), fR (am 20), fR (am 21), fR (am 22), fR (am 23), fR (am 24), fR (am 25), fX 0, fX (-1), fG 0 0, fG 0 0, fG 0 0, fG 0 0, fG 0 0, fG 0 0, fG 0 0, fG 0 0, fL, fX 0, fR (am 26), fX 0, fX 0, fR (am 27), fR (am 28), fR (am 29), fR (am 30), fR (am 31), fX 0, fX 0, fX 0, fX 0, fR (am 32), fX 0, fX 0, fX 0, fX 0, fR (am 33), fR (am 34), fR (am 35), fX 0, fX 0, fR (am 36), fR (am 37), fR (am 38), fX (-1), fX 0, fX 0, fX 0, fR (am 39), fX 0, fR (am 40), fR (am 41), fR (am 42), fR (am 43), fR (am 44)])) (f1 : w[1]? = some (am 1, xAI (ca 0) 3 (gX 3 (fun _ => 0)))) (hwhat : xr what) : xC l D ca yX12_count cX12_count 2 (some .int) r_c_X12_count [.ref (am 0), .int (iI what)] w (qIa (fun z => ((what = 4 ∨ what = 5) → z = 1) ∧ ((0 ≤ what ∧ what ≤ 13 ∧ what ≠ 4 ∧ what ≠ 5) → z = 0) ∧ ((what < 0 ∨ 13 < what) → z = -1))) := by
  refine xC.of2 "WindWordsModel" (by decide) rfl (Nat.le_of_ble_eq_true rfl) ?_
  intro p e s m args below meth c A ls Qf B hnm h hl hQ
  have hl : lv_has ls 2 [(0, .ref (am 0)), (1, .int (iI what))] := hl
  refine lv_iload_n B.1 B.2.1 dX12_count_0 rfl (lv_at hl 1 rfl) ?_
  by_cases t1 : what = 0
  · refine x_tin B (tgt := 72) 0 (by omega) dX12_count_1 rfl (by decide) ?_
    refine lv_aload_n B.1 B.2.1 dX12_count_72 rfl (lv_at hl 0 rfl) ?_
    refine x_getX B h kX12 0 f0 1 (z := 0) rfl m_1262 (by decide) dX12_count_73 ?_
    refine x_ri B hQ h (by decide) dX12_count_76 ?_
    exact ⟨_, rfl, by omega⟩
  by_cases t2 : what = 1
  · refine x_tin B (tgt := 77) 1 (by omega) dX12_count_1 rfl (by decide) ?_
    refine lv_aload_n B.1 B.2.1 dX12_count_77 rfl (lv_at hl 0 rfl) ?_
    refine x_getX B h kX12 0 f0 2 (z := 0) rfl m_1263 (by decide) dX12_count_78 ?_
    refine x_ri B hQ h (by decide) dX12_count_81 ?_
    exact ⟨_, rfl, by omega⟩
  by_cases t3 : what = 2
  · refine x_tin B (tgt := 82) 2 (by omega) dX12_count_1 rfl (by decide) ?_
    refine lv_aload_n B.1 B.2.1 dX12_count_82 rfl (lv_at hl 0 rfl) ?_
    refine x_getX B h kX12 0 f0 4 (z := 0) rfl m_1265 (by decide) dX12_count_83 ?_
    refine x_ri B hQ h (by decide) dX12_count_86 ?_
    exact ⟨_, rfl, by omega⟩
  by_cases t4 : what = 3
  · refine x_tin B (tgt := 87) 3 (by omega) dX12_count_1 rfl (by decide) ?_
    refine lv_aload_n B.1 B.2.1 dX12_count_87 rfl (lv_at hl 0 rfl) ?_
    refine x_getX B h kX12 0 f0 23 (z := 0) rfl m_1284 (by decide) dX12_count_88 ?_
    refine x_ri B hQ h (by decide) dX12_count_91 ?_
    exact ⟨_, rfl, by omega⟩
  by_cases t5 : what = 4
  · refine x_tin B (tgt := 92) 4 (by omega) dX12_count_1 rfl (by decide) ?_
    refine lv_aload_n B.1 B.2.1 dX12_count_92 rfl (lv_at hl 0 rfl) ?_
    refine x_getX B h kX12 0 f0 5 (z := 1) rfl m_1266 (by decide) dX12_count_93 ?_
    refine x_ri B hQ h (by decide) dX12_count_96 ?_
    exact ⟨_, rfl, by omega⟩
  by_cases t6 : what = 5
  · refine x_tin B (tgt := 97) 5 (by omega) dX12_count_1 rfl (by decide) ?_
    refine lv_aload_n B.1 B.2.1 dX12_count_97 rfl (lv_at hl 0 rfl) ?_
    refine x_getX B h kX12 0 f0 6 (z := 1) rfl m_1267 (by decide) dX12_count_98 ?_
    refine x_ri B hQ h (by decide) dX12_count_101 ?_
    exact ⟨_, rfl, by omega⟩
  by_cases t7 : what = 6
  · refine x_tin B (tgt := 102) 6 (by omega) dX12_count_1 rfl (by decide) ?_
    refine lv_aload_n B.1 B.2.1 dX12_count_102 rfl (lv_at hl 0 rfl) ?_
    refine x_getX B h kX12 0 f0 3 (z := 0) rfl m_1264 (by decide) dX12_count_103 ?_
    refine x_ri B hQ h (by decide) dX12_count_106 ?_
    exact ⟨_, rfl, by omega⟩
  by_cases t8 : what = 7
  · refine x_tin B (tgt := 107) 7 (by omega) dX12_count_1 rfl (by decide) ?_
    refine lv_aload_n B.1 B.2.1 dX12_count_107 rfl (lv_at hl 0 rfl) ?_
    refine x_cV B h kX12 0 f0 k_X12_trusted rfl (c_X12_trusted l D ca _ am f0 ) m_1896 rfl (by decide) hl.1 [] (Nat.le_of_ble_eq_true rfl) rfl dX12_count_108 (fun r w1 hq H locs h => ?_)
    obtain ⟨rfl, _, rfl, rfl⟩ := hq
    show W p l e r_c_X12_count s m args below meth c H locs 0 0 Qf (F0 m 111 ls [.int (iI 0)])
    refine x_ri B hQ h (by decide) dX12_count_111 ?_
    exact ⟨_, rfl, by omega⟩
  by_cases t10 : what = 8
  · refine x_tin B (tgt := 112) 8 (by omega) dX12_count_1 rfl (by decide) ?_
    refine lv_aload_n B.1 B.2.1 dX12_count_112 rfl (lv_at hl 0 rfl) ?_
    refine x_getR B h kX12 0 f0 0 (b := am 1) rfl m_1261 (by decide) dX12_count_113 ?_
    refine x_iconst B dX12_count_116 ?_
    refine x_ialdX B h 1 f1 (by omega) dX12_count_117 ?_
    refine x_ri B hQ h (by decide) dX12_count_118 ?_
    exact ⟨_, rfl, by omega⟩
  by_cases t11 : what = 9
  · refine x_tin B (tgt := 119) 9 (by omega) dX12_count_1 rfl (by decide) ?_
    refine lv_aload_n B.1 B.2.1 dX12_count_119 rfl (lv_at hl 0 rfl) ?_
    refine x_getR B h kX12 0 f0 0 (b := am 1) rfl m_1261 (by decide) dX12_count_120 ?_
    refine x_iconst B dX12_count_123 ?_
    refine x_ialdX B h 1 f1 (by omega) dX12_count_124 ?_
    refine x_ri B hQ h (by decide) dX12_count_125 ?_
    exact ⟨_, rfl, by omega⟩
  by_cases t12 : what = 10
  · refine x_tin B (tgt := 126) 10 (by omega) dX12_count_1 rfl (by decide) ?_
    refine lv_aload_n B.1 B.2.1 dX12_count_126 rfl (lv_at hl 0 rfl) ?_
    refine x_getR B h kX12 0 f0 0 (b := am 1) rfl m_1261 (by decide) dX12_count_127 ?_
    refine x_iconst B dX12_count_130 ?_
    refine x_ialdX B h 1 f1 (by omega) dX12_count_131 ?_
    refine x_ri B hQ h (by decide) dX12_count_132 ?_
    exact ⟨_, rfl, by omega⟩
  by_cases t13 : what = 11
  · refine x_tin B (tgt := 133) 11 (by omega) dX12_count_1 rfl (by decide) ?_
    refine lv_aload_n B.1 B.2.1 dX12_count_133 rfl (lv_at hl 0 rfl) ?_
    refine x_getX B h kX12 0 f0 74 (z := 0) rfl m_1335 (by decide) dX12_count_134 ?_
    refine x_ri B hQ h (by decide) dX12_count_137 ?_
    exact ⟨_, rfl, by omega⟩
  by_cases t14 : what = 12
  · refine x_tin B (tgt := 138) 12 (by omega) dX12_count_1 rfl (by decide) ?_
    refine lv_aload_n B.1 B.2.1 dX12_count_138 rfl (lv_at hl 0 rfl) ?_
    refine x_getX B h kX12 0 f0 32 (z := 0) rfl m_1293 (by decide) dX12_count_139 ?_
    refine x_ri B hQ h (by decide) dX12_count_142 ?_
    exact ⟨_, rfl, by omega⟩
  by_cases t15 : what = 13
  · refine x_tin B (tgt := 143) 13 (by omega) dX12_count_1 rfl (by decide) ?_
    refine lv_aload_n B.1 B.2.1 dX12_count_143 rfl (lv_at hl 0 rfl) ?_
    refine x_cV B h kX12 0 f0 k_X12_habitsInAll rfl (c_X12_habitsInAll l D ca _ am f0 ) m_1900 rfl (by decide) hl.1 [] (Nat.le_of_ble_eq_true rfl) rfl dX12_count_144 (fun r w1 hq H locs h => ?_)
    obtain ⟨rfl, _, rfl, rfl⟩ := hq
    show W p l e r_c_X12_count s m args below meth c H locs 0 0 Qf (F0 m 147 ls [.int (iI 0)])
    refine x_ri B hQ h (by decide) dX12_count_147 ?_
    exact ⟨_, rfl, by omega⟩
  refine x_tout B (tgt := 148) (by omega) dX12_count_1 (by decide) ?_
  refine x_iconst B dX12_count_148 ?_
  refine x_ri B hQ h (by decide) dX12_count_149 ?_
  exact ⟨_, rfl, by omega⟩
