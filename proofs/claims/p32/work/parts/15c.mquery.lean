theorem k_X12_holds : xMV yX12_holds cX12_holds 7 (some .boolean) 2 := ⟨m_1678, m_1677, m_64, m_104, ⟨by decide +kernel, by decide +kernel, by decide +kernel⟩⟩
theorem k_X12_scaleFor : xMV yX12_scaleFor cX12_scaleFor 4 (some .int) 1 := ⟨m_1670, m_1669, m_62, m_104, ⟨by decide +kernel, by decide +kernel, by decide +kernel⟩⟩
theorem k_X12_readsBy : xMV yX12_readsBy cX12_readsBy 9 (some .int) 6 := ⟨m_1674, m_1673, m_63, m_104, ⟨by decide +kernel, by decide +kernel, by decide +kernel⟩⟩
theorem k_X12_held : xMS yX12_held cX12_held 1 (some .int) 1 := ⟨m_1693, m_1692, m_104, ⟨by decide +kernel, by decide +kernel, by decide +kernel⟩⟩
theorem k_X12_within : xMS yX12_within cX12_within 3 (some .boolean) 3 := ⟨m_1517, m_1516, m_104, ⟨by decide +kernel, by decide +kernel, by decide +kernel⟩⟩
theorem k_X12_readIn : xMV yX12_readIn cX12_readIn 6 (some .int) 5 := ⟨m_1666, m_1665, m_61, m_104, ⟨by decide +kernel, by decide +kernel, by decide +kernel⟩⟩
theorem k_X12_isShip : xMV yX12_isShip cX12_isShip 2 (some .boolean) 1 := ⟨m_1529, m_1528, m_40, m_104, ⟨by decide +kernel, by decide +kernel, by decide +kernel⟩⟩
theorem k_X12_writes : xMV yX12_writes cX12_writes 10 (some .int) 5 := ⟨m_1690, m_1689, m_66, m_104, ⟨by decide +kernel, by decide +kernel, by decide +kernel⟩⟩
theorem k_X12_columns : xMV yX12_columns cX12_columns 7 none 4 := ⟨m_1710, m_1709, m_67, m_104, ⟨by decide +kernel, by decide +kernel, by decide +kernel⟩⟩
theorem k_X12_turns : xMV yX12_turns cX12_turns 7 (some .boolean) 5 := ⟨m_1718, m_1717, m_68, m_104, ⟨by decide +kernel, by decide +kernel, by decide +kernel⟩⟩
theorem k_X12_isMan : xMV yX12_isMan cX12_isMan 2 (some .boolean) 1 := ⟨m_1731, m_1730, m_70, m_104, ⟨by decide +kernel, by decide +kernel, by decide +kernel⟩⟩
theorem k_X12_binds : xMV yX12_binds cX12_binds 4 none 3 := ⟨m_1757, m_1756, m_75, m_104, ⟨by decide +kernel, by decide +kernel, by decide +kernel⟩⟩
theorem k_X12_yearOf : xMV yX12_yearOf cX12_yearOf 2 (some .int) 1 := ⟨m_1761, m_1760, m_76, m_104, ⟨by decide +kernel, by decide +kernel, by decide +kernel⟩⟩
theorem k_X12_isTrustedOne : xMV yX12_isTrustedOne cX12_isTrustedOne 2 (some .boolean) 1 := ⟨m_1735, m_1734, m_71, m_104, ⟨by decide +kernel, by decide +kernel, by decide +kernel⟩⟩
theorem k_X12_areInSight : xMV yX12_areInSight cX12_areInSight 3 (some .boolean) 2 := ⟨m_1743, m_1742, m_73, m_104, ⟨by decide +kernel, by decide +kernel, by decide +kernel⟩⟩
theorem k_X12_bindsBy : xMV yX12_bindsBy cX12_bindsBy 6 none 2 := ⟨m_1753, m_1752, m_74, m_104, ⟨by decide +kernel, by decide +kernel, by decide +kernel⟩⟩
theorem k_X12_findLeans : xMV yX12_findLeans cX12_findLeans 5 none 0 := ⟨m_1726, m_1725, m_69, m_104, ⟨by decide +kernel, by decide +kernel, by decide +kernel⟩⟩
theorem k_X12_isOfficer : xMV yX12_isOfficer cX12_isOfficer 2 (some .boolean) 1 := ⟨m_1521, m_1520, m_39, m_104, ⟨by decide +kernel, by decide +kernel, by decide +kernel⟩⟩
theorem k_X12_leanMost : xMV yX12_leanMost cX12_leanMost 2 (some .int) 1 := ⟨m_1774, m_1773, m_78, m_104, ⟨by decide +kernel, by decide +kernel, by decide +kernel⟩⟩
theorem k_X12_leanLeast : xMV yX12_leanLeast cX12_leanLeast 2 (some .int) 1 := ⟨m_1770, m_1769, m_77, m_104, ⟨by decide +kernel, by decide +kernel, by decide +kernel⟩⟩
theorem k_X12_withNumber : xMV yX12_withNumber cX12_withNumber 5 (some .int) 2 := ⟨m_1782, m_1781, m_79, m_104, ⟨by decide +kernel, by decide +kernel, by decide +kernel⟩⟩
theorem k_X12_lateBy : xMV yX12_lateBy cX12_lateBy 4 none 1 := ⟨m_1811, m_1810, m_83, m_104, ⟨by decide +kernel, by decide +kernel, by decide +kernel⟩⟩
theorem k_X12_readingOf : xMV yX12_readingOf cX12_readingOf 4 (some .int) 2 := ⟨m_1545, m_1544, m_41, m_104, ⟨by decide +kernel, by decide +kernel, by decide +kernel⟩⟩
theorem k_X12_followed : xMV yX12_followed cX12_followed 3 (some .int) 1 := ⟨m_1823, m_1822, m_85, m_104, ⟨by decide +kernel, by decide +kernel, by decide +kernel⟩⟩
theorem k_X12_isCopied : xMV yX12_isCopied cX12_isCopied 7 (some .boolean) 1 := ⟨m_1819, m_1818, m_84, m_104, ⟨by decide +kernel, by decide +kernel, by decide +kernel⟩⟩
theorem k_X12_unlikeBy : xMV yX12_unlikeBy cX12_unlikeBy 5 (some .int) 1 := ⟨m_1859, m_1858, m_87, m_104, ⟨by decide +kernel, by decide +kernel, by decide +kernel⟩⟩
theorem k_X12_isNear : xMV yX12_isNear cX12_isNear 5 (some .boolean) 2 := ⟨m_1875, m_1874, m_90, m_104, ⟨by decide +kernel, by decide +kernel, by decide +kernel⟩⟩
theorem k_X12_agrees : xMV yX12_agrees cX12_agrees 5 (some .boolean) 2 := ⟨m_1871, m_1870, m_89, m_104, ⟨by decide +kernel, by decide +kernel, by decide +kernel⟩⟩
theorem k_X12_findWays : xMV yX12_findWays cX12_findWays 3 none 0 := ⟨m_1867, m_1866, m_88, m_104, ⟨by decide +kernel, by decide +kernel, by decide +kernel⟩⟩
theorem k_X12_cellsOn : xMV yX12_cellsOn cX12_cellsOn 4 (some .int) 1 := ⟨m_1879, m_1878, m_91, m_104, ⟨by decide +kernel, by decide +kernel, by decide +kernel⟩⟩
theorem k_X12_trusted : xMV yX12_trusted cX12_trusted 3 (some .int) 0 := ⟨m_1899, m_1898, m_92, m_104, ⟨by decide +kernel, by decide +kernel, by decide +kernel⟩⟩
theorem k_X12_habitsInAll : xMV yX12_habitsInAll cX12_habitsInAll 3 (some .int) 0 := ⟨m_1903, m_1902, m_93, m_104, ⟨by decide +kernel, by decide +kernel, by decide +kernel⟩⟩
theorem k_X12_blow : xMV yX12_blow cX12_blow 6 (some .int) 5 := ⟨m_1682, m_1680, m_1681, m_104, ⟨by decide +kernel, by decide +kernel, by decide +kernel⟩⟩
theorem k_X12_lead : xMS yX12_lead cX12_lead 4 (some .int) 4 := ⟨m_1843, m_1842, m_104, ⟨by decide +kernel, by decide +kernel, by decide +kernel⟩⟩
theorem k_X12_bitsOf : xMS yX12_bitsOf cX12_bitsOf 3 (some .int) 1 := ⟨m_1846, m_1845, m_104, ⟨by decide +kernel, by decide +kernel, by decide +kernel⟩⟩
theorem k_X12_beside : xMV yX12_beside cX12_beside 3 (some .int) 1 := ⟨m_1840, m_1839, m_86, m_104, ⟨by decide +kernel, by decide +kernel, by decide +kernel⟩⟩
abbrev r_c_X12_holds : Room := { frames := 0, cells := 0, slots := 0, locals := 0 }
set_option maxHeartbeats 4000000 in
set_option maxRecDepth 100000 in
theorem c_X12_holds (l : Launch) (D : va_G) (Zk : yK) (ca : Nat → ClassId) (T : Nat → Int → Int) (E : Nat → Int → Int) (am : Nat → Nat) (w : yW) (hM : MW ca T E am w) (place : Int) (i : Int)  (hb : 0 ≤ E 2 i ∧ E 2 i ≤ E 3 i ∧ E 3 i ≤ 320) (hH : OKS E (320 * place + E 2 i) (E 3 i - E 2 i)) (hplace : 0 ≤ place ∧ place ≤ 24) (hi : 0 ≤ i ∧ i ≤ 999) : yC l D Zk ca yX12_holds cX12_holds 7 (some .boolean) r_c_X12_holds [.ref (am 0), .int (iI place), .int (iI i)] w (vI w (fun z => (z = 1 ∧ (True)) ∨ (z = 0 ∧ (True)))) := by
  refine yC.of2 "WindWordsModel" (by decide) rfl (Nat.le_of_ble_eq_true rfl) ?_
  intro p e s m args below meth c A ls Qf B hnm h hl hQ
  have hl : lv_has ls 7 [(0, .ref (am 0)), (1, .int (iI place)), (2, .int (iI i))] := hl
  have hs := pi_s (MW.pi hM)
  have hpe := pe_0 (MW.pe hM)
  refine x_iconst B dX12_holds_0 ?_
  refine lv_istore_n (lv' := [(3, .int (iI 0)), (0, .ref (am 0)), (1, .int (iI place)), (2, .int (iI i))]) B.1 B.2.1 dX12_holds_1 rfl hl (by decide) rfl (fun ls hl => ?_)
  refine x_sipush B (by decide) dX12_holds_2 ?_
  refine lv_iload_n B.1 B.2.1 dX12_holds_5 rfl (lv_at hl 2 rfl) ?_
  refine x_imul B dX12_holds_6 ?_
  refine lv_aload_n B.1 B.2.1 dX12_holds_7 rfl (lv_at hl 1 rfl) ?_
  refine y_getR B h kX12 50 (MW.f hM 0 _ rfl) 27 (b := am 21) rfl m_1288 (by decide) dX12_holds_8 ?_
  refine lv_iload_n B.1 B.2.1 dX12_holds_11 rfl (lv_at hl 3 rfl) ?_
  refine y_ialdX B h 71 (MW.f hM 21 _ rfl) (by omega) dX12_holds_12 ?_
  refine x_iset (z := (E 2 i)) (by show iI (E 2 (((i : Int).toNat : Nat) : Int)) = _; rw [show ((((i : Int).toNat : Nat) : Int)) = i by omega]) ?_
  refine x_iadd B dX12_holds_13 ?_
  refine lv_istore (lv' := [(4, .int (iI ((320 * place) + (E 2 i)))), (3, .int (iI 0)), (0, .ref (am 0)), (1, .int (iI place)), (2, .int (iI i))]) B.1 B.2.1 dX12_holds_14 hl (by decide) rfl (fun ls hl => ?_)
  have loop16 : ∀ (n16 : Nat) (n : Int) (k : Int), (320 * place + E 2 i ≤ k ∧ k ≤ 320 * place + E 3 i) → (n = dpt E (320 * place + E 2 i) (k - (320 * place + E 2 i)).toNat) → (0 ≤ n ∧ n ≤ 48) → ((8000 - k : Int)).toNat < n16 → ∀ (H : Heap) (locs : List Loc) (ls : Array Slot), yH D Zk A s w H locs → lv_has ls 7 [(4, .int (iI k)), (3, .int (iI n)), (0, .ref (am 0)), (1, .int (iI place)), (2, .int (iI i))] → W p l e r_c_X12_holds s m args below meth c H locs 0 0 Qf (F0 m 16 ls []) := by
    intro n16
    induction n16 with
    | zero =>
      intro n k h0 h1 h2 hm16 H locs ls h hl
      exact absurd hm16 (Nat.not_lt_zero _)
    | succ n16 ih16 =>
      intro n k h0 h1 h2 hm16 H locs ls h hl
      have hst := oks_at (k := k) hH (by omega)
      rw [← h1] at hst
      refine lv_iload B.1 B.2.1 dX12_holds_16 (lv_at hl 0 rfl) ?_
      refine x_sipush B (by decide) dX12_holds_18 ?_
      refine lv_iload_n B.1 B.2.1 dX12_holds_21 rfl (lv_at hl 3 rfl) ?_
      refine x_imul B dX12_holds_22 ?_
      refine lv_aload_n B.1 B.2.1 dX12_holds_23 rfl (lv_at hl 2 rfl) ?_
      refine y_getR B h kX12 50 (MW.f hM 0 _ rfl) 28 (b := am 22) rfl m_1289 (by decide) dX12_holds_24 ?_
      refine lv_iload_n B.1 B.2.1 dX12_holds_27 rfl (lv_at hl 4 rfl) ?_
      refine y_ialdX B h 72 (MW.f hM 22 _ rfl) (by omega) dX12_holds_28 ?_
      refine x_iset (z := (E 3 i)) (by show iI (E 3 (((i : Int).toNat : Nat) : Int)) = _; rw [show ((((i : Int).toNat : Nat) : Int)) = i by omega]) ?_
      refine x_iadd B dX12_holds_29 ?_
      refine x_icmp_ge B (by omega) (tgt := 255) dX12_holds_30 (by decide) (fun c1 => ?_) (fun c1 => ?_)
      · refine lv_iload_n B.1 B.2.1 dX12_holds_255 rfl (lv_at hl 1 rfl) ?_
        refine x_if_eq B (by omega) (tgt := 268) dX12_holds_256 (by decide) (fun c2 => ?_) (fun c2 => ?_)
        · refine x_iconst B dX12_holds_268 ?_
          refine lv_goto (tgt := 273) B.1 B.2.1 dX12_holds_269 (by decide) ?_
          refine y_rz B hQ h (by decide) (by decide) dX12_holds_273 ?_
          exact ⟨rfl, _, rfl, Or.inl ⟨rfl, (by first | omega | trivial | assumption)⟩⟩
        · refine lv_aload_n B.1 B.2.1 dX12_holds_259 rfl (lv_at hl 2 rfl) ?_
          refine y_getR B h kX12 50 (MW.f hM 0 _ rfl) 48 (b := am 28) rfl m_1309 (by decide) dX12_holds_260 ?_
          refine x_iconst B dX12_holds_263 ?_
          refine y_zaldG B h 78 (MW.f hM 28 _ rfl) (by omega) dX12_holds_264 (fun z3 z3a z3b => ?_)
          refine x_if_eq B (by omega) (tgt := 272) dX12_holds_265 (by decide) (fun c4 => ?_) (fun c4 => ?_)
          · refine x_iconst B dX12_holds_272 ?_
            refine y_rz B hQ h (by decide) (by decide) dX12_holds_273 ?_
            exact ⟨rfl, _, rfl, Or.inr ⟨rfl, (by first | omega | trivial | assumption)⟩⟩
          · refine x_iconst B dX12_holds_268 ?_
            refine lv_goto (tgt := 273) B.1 B.2.1 dX12_holds_269 (by decide) ?_
            refine y_rz B hQ h (by decide) (by decide) dX12_holds_273 ?_
            exact ⟨rfl, _, rfl, Or.inl ⟨rfl, (by first | omega | trivial | assumption)⟩⟩
      · refine lv_aload_n B.1 B.2.1 dX12_holds_33 rfl (lv_at hl 2 rfl) ?_
        refine y_getR B h kX12 50 (MW.f hM 0 _ rfl) 29 (b := am 23) rfl m_1290 (by decide) dX12_holds_34 ?_
        refine lv_iload B.1 B.2.1 dX12_holds_37 (lv_at hl 0 rfl) ?_
        refine y_ialdX B h 73 (MW.f hM 23 _ rfl) (by omega) dX12_holds_39 ?_
        refine x_iset (z := (E 4 k)) (by show iI (E 4 (((k : Int).toNat : Nat) : Int)) = _; rw [show ((((k : Int).toNat : Nat) : Int)) = k by omega]) ?_
        refine lv_istore (lv' := [(5, .int (iI (E 4 k))), (4, .int (iI k)), (3, .int (iI n)), (0, .ref (am 0)), (1, .int (iI place)), (2, .int (iI i))]) B.1 B.2.1 dX12_holds_40 hl (by decide) rfl (fun ls hl => ?_)
        refine lv_iload B.1 B.2.1 dX12_holds_42 (lv_at hl 0 rfl) ?_
        refine x_bipush B (by decide) dX12_holds_44 ?_
        refine x_icmp_ge B (by omega) (tgt := 144) dX12_holds_46 (by decide) (fun c5 => ?_) (fun c5 => ?_)
        · refine lv_iload B.1 B.2.1 dX12_holds_144 (lv_at hl 0 rfl) ?_
          refine x_bipush B (by decide) dX12_holds_146 ?_
          refine x_icmp_ne B (by omega) (tgt := 178) dX12_holds_148 (by decide) (fun c6 => ?_) (fun c6 => ?_)
          · refine lv_iinc (v := iI (n + (-1))) (lv' := [(3, .int (iI (n + (-1)))), (5, .int (iI (E 4 k))), (4, .int (iI k)), (0, .ref (am 0)), (1, .int (iI place)), (2, .int (iI i))]) B.1 B.2.1 dX12_holds_178 hl (k := 2) rfl (iI_add _ _) (by decide) rfl (fun ls hl => ?_)
            refine lv_aload_n B.1 B.2.1 dX12_holds_181 rfl (lv_at hl 3 rfl) ?_
            refine y_getR B h kX12 50 (MW.f hM 0 _ rfl) 48 (b := am 28) rfl m_1309 (by decide) dX12_holds_182 ?_
            refine lv_iload_n B.1 B.2.1 dX12_holds_185 rfl (lv_at hl 0 rfl) ?_
            refine x_iconst B dX12_holds_186 ?_
            refine x_isub B dX12_holds_187 ?_
            refine lv_iload B.1 B.2.1 dX12_holds_188 (lv_at hl 1 rfl) ?_
            refine x_bipush B (by decide) dX12_holds_190 ?_
            refine x_icmp_ne B (by omega) (tgt := 223) dX12_holds_192 (by decide) (fun c7 => ?_) (fun c7 => ?_)
            · refine lv_aload_n B.1 B.2.1 dX12_holds_223 rfl (lv_at hl 3 rfl) ?_
              refine y_getR B h kX12 50 (MW.f hM 0 _ rfl) 48 (b := am 28) rfl m_1309 (by decide) dX12_holds_224 ?_
              refine lv_iload_n B.1 B.2.1 dX12_holds_227 rfl (lv_at hl 0 rfl) ?_
              refine x_iconst B dX12_holds_228 ?_
              refine x_isub B dX12_holds_229 ?_
              refine y_zaldG B h 78 (MW.f hM 28 _ rfl) (by omega) dX12_holds_230 (fun z8 z8a z8b => ?_)
              refine x_if_ne B (by omega) (tgt := 243) dX12_holds_231 (by decide) (fun c9 => ?_) (fun c9 => ?_)
              · refine x_iconst B dX12_holds_243 ?_
                refine lv_goto (tgt := 248) B.1 B.2.1 dX12_holds_244 (by decide) ?_
                refine y_zastS B h 78 (MW.f hM 28 _ rfl) (by omega) (gG_updZ (by omega)) dX12_holds_248 (fun H locs h => ?_)
                refine lv_iinc (v := iI (k + 1)) (lv' := [(4, .int (iI (k + 1))), (3, .int (iI (n + (-1)))), (5, .int (iI (E 4 k))), (0, .ref (am 0)), (1, .int (iI place)), (2, .int (iI i))]) B.1 B.2.1 dX12_holds_249 hl (k := 2) rfl (iI_add _ _) (by decide) rfl (fun ls hl => ?_)
                refine lv_goto (tgt := 16) B.1 B.2.1 dX12_holds_252 (by decide) ?_
                exact ih16 ((n + (-1))) ((k + 1)) (by omega) (dpt_step (by omega) h1 (by omega)) (by omega) (by omega) _ _ _ h (lv_sub hl [0, 1, 3, 4, 5] rfl)
              · refine lv_aload_n B.1 B.2.1 dX12_holds_234 rfl (lv_at hl 3 rfl) ?_
                refine y_getR B h kX12 50 (MW.f hM 0 _ rfl) 48 (b := am 28) rfl m_1309 (by decide) dX12_holds_235 ?_
                refine lv_iload_n B.1 B.2.1 dX12_holds_238 rfl (lv_at hl 0 rfl) ?_
                refine y_zaldG B h 78 (MW.f hM 28 _ rfl) (by omega) dX12_holds_239 (fun z10 z10a z10b => ?_)
                refine x_if_eq B (by omega) (tgt := 247) dX12_holds_240 (by decide) (fun c11 => ?_) (fun c11 => ?_)
                · refine x_iconst B dX12_holds_247 ?_
                  refine y_zastS B h 78 (MW.f hM 28 _ rfl) (by omega) (gG_updZ (by omega)) dX12_holds_248 (fun H locs h => ?_)
                  refine lv_iinc (v := iI (k + 1)) (lv' := [(4, .int (iI (k + 1))), (3, .int (iI (n + (-1)))), (5, .int (iI (E 4 k))), (0, .ref (am 0)), (1, .int (iI place)), (2, .int (iI i))]) B.1 B.2.1 dX12_holds_249 hl (k := 2) rfl (iI_add _ _) (by decide) rfl (fun ls hl => ?_)
                  refine lv_goto (tgt := 16) B.1 B.2.1 dX12_holds_252 (by decide) ?_
                  exact ih16 ((n + (-1))) ((k + 1)) (by omega) (dpt_step (by omega) h1 (by omega)) (by omega) (by omega) _ _ _ h (lv_sub hl [0, 1, 3, 4, 5] rfl)
                · refine x_iconst B dX12_holds_243 ?_
                  refine lv_goto (tgt := 248) B.1 B.2.1 dX12_holds_244 (by decide) ?_
                  refine y_zastS B h 78 (MW.f hM 28 _ rfl) (by omega) (gG_updZ (by omega)) dX12_holds_248 (fun H locs h => ?_)
                  refine lv_iinc (v := iI (k + 1)) (lv' := [(4, .int (iI (k + 1))), (3, .int (iI (n + (-1)))), (5, .int (iI (E 4 k))), (0, .ref (am 0)), (1, .int (iI place)), (2, .int (iI i))]) B.1 B.2.1 dX12_holds_249 hl (k := 2) rfl (iI_add _ _) (by decide) rfl (fun ls hl => ?_)
                  refine lv_goto (tgt := 16) B.1 B.2.1 dX12_holds_252 (by decide) ?_
                  exact ih16 ((n + (-1))) ((k + 1)) (by omega) (dpt_step (by omega) h1 (by omega)) (by omega) (by omega) _ _ _ h (lv_sub hl [0, 1, 3, 4, 5] rfl)
            · refine lv_aload_n B.1 B.2.1 dX12_holds_195 rfl (lv_at hl 3 rfl) ?_
              refine y_getR B h kX12 50 (MW.f hM 0 _ rfl) 48 (b := am 28) rfl m_1309 (by decide) dX12_holds_196 ?_
              refine lv_iload_n B.1 B.2.1 dX12_holds_199 rfl (lv_at hl 0 rfl) ?_
              refine x_iconst B dX12_holds_200 ?_
              refine x_isub B dX12_holds_201 ?_
              refine y_zaldG B h 78 (MW.f hM 28 _ rfl) (by omega) dX12_holds_202 (fun z12 z12a z12b => ?_)
              refine x_if_eq B (by omega) (tgt := 219) dX12_holds_203 (by decide) (fun c13 => ?_) (fun c13 => ?_)
              · refine x_iconst B dX12_holds_219 ?_
                refine lv_goto (tgt := 248) B.1 B.2.1 dX12_holds_220 (by decide) ?_
                refine y_zastS B h 78 (MW.f hM 28 _ rfl) (by omega) (gG_updZ (by omega)) dX12_holds_248 (fun H locs h => ?_)
                refine lv_iinc (v := iI (k + 1)) (lv' := [(4, .int (iI (k + 1))), (3, .int (iI (n + (-1)))), (5, .int (iI (E 4 k))), (0, .ref (am 0)), (1, .int (iI place)), (2, .int (iI i))]) B.1 B.2.1 dX12_holds_249 hl (k := 2) rfl (iI_add _ _) (by decide) rfl (fun ls hl => ?_)
                refine lv_goto (tgt := 16) B.1 B.2.1 dX12_holds_252 (by decide) ?_
                exact ih16 ((n + (-1))) ((k + 1)) (by omega) (dpt_step (by omega) h1 (by omega)) (by omega) (by omega) _ _ _ h (lv_sub hl [0, 1, 3, 4, 5] rfl)
              · refine lv_aload_n B.1 B.2.1 dX12_holds_206 rfl (lv_at hl 3 rfl) ?_
                refine y_getR B h kX12 50 (MW.f hM 0 _ rfl) 48 (b := am 28) rfl m_1309 (by decide) dX12_holds_207 ?_
                refine lv_iload_n B.1 B.2.1 dX12_holds_210 rfl (lv_at hl 0 rfl) ?_
                refine y_zaldG B h 78 (MW.f hM 28 _ rfl) (by omega) dX12_holds_211 (fun z14 z14a z14b => ?_)
                refine x_if_eq B (by omega) (tgt := 219) dX12_holds_212 (by decide) (fun c15 => ?_) (fun c15 => ?_)
                · refine x_iconst B dX12_holds_219 ?_
                  refine lv_goto (tgt := 248) B.1 B.2.1 dX12_holds_220 (by decide) ?_
                  refine y_zastS B h 78 (MW.f hM 28 _ rfl) (by omega) (gG_updZ (by omega)) dX12_holds_248 (fun H locs h => ?_)
                  refine lv_iinc (v := iI (k + 1)) (lv' := [(4, .int (iI (k + 1))), (3, .int (iI (n + (-1)))), (5, .int (iI (E 4 k))), (0, .ref (am 0)), (1, .int (iI place)), (2, .int (iI i))]) B.1 B.2.1 dX12_holds_249 hl (k := 2) rfl (iI_add _ _) (by decide) rfl (fun ls hl => ?_)
                  refine lv_goto (tgt := 16) B.1 B.2.1 dX12_holds_252 (by decide) ?_
                  exact ih16 ((n + (-1))) ((k + 1)) (by omega) (dpt_step (by omega) h1 (by omega)) (by omega) (by omega) _ _ _ h (lv_sub hl [0, 1, 3, 4, 5] rfl)
                · refine x_iconst B dX12_holds_215 ?_
                  refine lv_goto (tgt := 248) B.1 B.2.1 dX12_holds_216 (by decide) ?_
                  refine y_zastS B h 78 (MW.f hM 28 _ rfl) (by omega) (gG_updZ (by omega)) dX12_holds_248 (fun H locs h => ?_)
                  refine lv_iinc (v := iI (k + 1)) (lv' := [(4, .int (iI (k + 1))), (3, .int (iI (n + (-1)))), (5, .int (iI (E 4 k))), (0, .ref (am 0)), (1, .int (iI place)), (2, .int (iI i))]) B.1 B.2.1 dX12_holds_249 hl (k := 2) rfl (iI_add _ _) (by decide) rfl (fun ls hl => ?_)
                  refine lv_goto (tgt := 16) B.1 B.2.1 dX12_holds_252 (by decide) ?_
                  exact ih16 ((n + (-1))) ((k + 1)) (by omega) (dpt_step (by omega) h1 (by omega)) (by omega) (by omega) _ _ _ h (lv_sub hl [0, 1, 3, 4, 5] rfl)
          · refine lv_aload_n B.1 B.2.1 dX12_holds_151 rfl (lv_at hl 3 rfl) ?_
            refine y_getR B h kX12 50 (MW.f hM 0 _ rfl) 48 (b := am 28) rfl m_1309 (by decide) dX12_holds_152 ?_
            refine lv_iload_n B.1 B.2.1 dX12_holds_155 rfl (lv_at hl 2 rfl) ?_
            refine x_iconst B dX12_holds_156 ?_
            refine x_isub B dX12_holds_157 ?_
            refine lv_aload_n B.1 B.2.1 dX12_holds_158 rfl (lv_at hl 3 rfl) ?_
            refine y_getR B h kX12 50 (MW.f hM 0 _ rfl) 48 (b := am 28) rfl m_1309 (by decide) dX12_holds_159 ?_
            refine lv_iload_n B.1 B.2.1 dX12_holds_162 rfl (lv_at hl 2 rfl) ?_
            refine x_iconst B dX12_holds_163 ?_
            refine x_isub B dX12_holds_164 ?_
            refine y_zaldG B h 78 (MW.f hM 28 _ rfl) (by omega) dX12_holds_165 (fun z16 z16a z16b => ?_)
            refine x_if_ne B (by omega) (tgt := 173) dX12_holds_166 (by decide) (fun c17 => ?_) (fun c17 => ?_)
            · refine x_iconst B dX12_holds_173 ?_
              refine y_zastS B h 78 (MW.f hM 28 _ rfl) (by omega) (gG_updZ (by omega)) dX12_holds_174 (fun H locs h => ?_)
              refine lv_goto (tgt := 249) B.1 B.2.1 dX12_holds_175 (by decide) ?_
              refine lv_iinc (v := iI (k + 1)) (lv' := [(4, .int (iI (k + 1))), (5, .int (iI (E 4 k))), (3, .int (iI n)), (0, .ref (am 0)), (1, .int (iI place)), (2, .int (iI i))]) B.1 B.2.1 dX12_holds_249 hl (k := 1) rfl (iI_add _ _) (by decide) rfl (fun ls hl => ?_)
              refine lv_goto (tgt := 16) B.1 B.2.1 dX12_holds_252 (by decide) ?_
              exact ih16 n ((k + 1)) (by omega) (dpt_step (by omega) h1 (by omega)) (by omega) (by omega) _ _ _ h (lv_sub hl [0, 2, 3, 4, 5] rfl)
            · refine x_iconst B dX12_holds_169 ?_
              refine lv_goto (tgt := 174) B.1 B.2.1 dX12_holds_170 (by decide) ?_
              refine y_zastS B h 78 (MW.f hM 28 _ rfl) (by omega) (gG_updZ (by omega)) dX12_holds_174 (fun H locs h => ?_)
              refine lv_goto (tgt := 249) B.1 B.2.1 dX12_holds_175 (by decide) ?_
              refine lv_iinc (v := iI (k + 1)) (lv' := [(4, .int (iI (k + 1))), (5, .int (iI (E 4 k))), (3, .int (iI n)), (0, .ref (am 0)), (1, .int (iI place)), (2, .int (iI i))]) B.1 B.2.1 dX12_holds_249 hl (k := 1) rfl (iI_add _ _) (by decide) rfl (fun ls hl => ?_)
              refine lv_goto (tgt := 16) B.1 B.2.1 dX12_holds_252 (by decide) ?_
              exact ih16 n ((k + 1)) (by omega) (dpt_step (by omega) h1 (by omega)) (by omega) (by omega) _ _ _ h (lv_sub hl [0, 2, 3, 4, 5] rfl)
        · refine lv_aload_n B.1 B.2.1 dX12_holds_49 rfl (lv_at hl 3 rfl) ?_
          refine y_getR B h kX12 50 (MW.f hM 0 _ rfl) 47 (b := am 27) rfl m_1308 (by decide) dX12_holds_50 ?_
          refine lv_iload B.1 B.2.1 dX12_holds_53 (lv_at hl 0 rfl) ?_
          refine x_iconst B dX12_holds_55 ?_
          refine x_idiv B (by omega) dX12_holds_56 ?_
          refine y_iald B h 77 (MW.f hM 27 _ rfl) (by omega) dX12_holds_57 (fun fz18 hfz18 => ?_)
          refine x_name (fun z18 hz18 ez18 => ?_)
          refine lv_istore (lv' := [(6, .int (iI z18)), (5, .int (iI (E 4 k))), (4, .int (iI k)), (3, .int (iI n)), (0, .ref (am 0)), (1, .int (iI place)), (2, .int (iI i))]) B.1 B.2.1 dX12_holds_58 hl (by decide) rfl (fun ls hl => ?_)
          refine lv_aload_n B.1 B.2.1 dX12_holds_60 rfl (lv_at hl 4 rfl) ?_
          refine y_getR B h kX12 50 (MW.f hM 0 _ rfl) 48 (b := am 28) rfl m_1309 (by decide) dX12_holds_61 ?_
          refine lv_iload_n B.1 B.2.1 dX12_holds_64 rfl (lv_at hl 3 rfl) ?_
          refine lv_iload B.1 B.2.1 dX12_holds_65 (lv_at hl 1 rfl) ?_
          refine x_iconst B dX12_holds_67 ?_
          refine x_irem B (by omega) dX12_holds_68 ?_
          refine x_if_ne B (by omega) (tgt := 92) dX12_holds_69 (by decide) (fun c19 => ?_) (fun c19 => ?_)
          · refine lv_iload B.1 B.2.1 dX12_holds_92 (lv_at hl 1 rfl) ?_
            refine x_iconst B dX12_holds_94 ?_
            refine x_irem B (by omega) dX12_holds_95 ?_
            refine x_iconst B dX12_holds_96 ?_
            refine x_icmp_ne B (by omega) (tgt := 120) dX12_holds_97 (by decide) (fun c20 => ?_) (fun c20 => ?_)
            · refine lv_iload B.1 B.2.1 dX12_holds_120 (lv_at hl 0 rfl) ?_
              refine lv_aload_n B.1 B.2.1 dX12_holds_122 rfl (lv_at hl 4 rfl) ?_
              refine y_getR B h kX12 50 (MW.f hM 0 _ rfl) 30 (b := am 24) rfl m_1291 (by decide) dX12_holds_123 ?_
              refine lv_iload B.1 B.2.1 dX12_holds_126 (lv_at hl 2 rfl) ?_
              refine y_iald B h 74 (MW.f hM 24 _ rfl) (by omega) dX12_holds_128 (fun fz21 hfz21 => ?_)
              refine x_name (fun z21 hz21 ez21 => ?_)
              refine x_icmp_ne B (by omega) (tgt := 136) dX12_holds_129 (by decide) (fun c22 => ?_) (fun c22 => ?_)
              · refine x_iconst B dX12_holds_136 ?_
                refine y_zastS B h 78 (MW.f hM 28 _ rfl) (by omega) (gG_updZ (by omega)) dX12_holds_137 (fun H locs h => ?_)
                refine lv_iinc (v := iI (n + 1)) (lv' := [(3, .int (iI (n + 1))), (6, .int (iI z18)), (5, .int (iI (E 4 k))), (4, .int (iI k)), (0, .ref (am 0)), (1, .int (iI place)), (2, .int (iI i))]) B.1 B.2.1 dX12_holds_138 hl (k := 3) rfl (iI_add _ _) (by decide) rfl (fun ls hl => ?_)
                refine lv_goto (tgt := 249) B.1 B.2.1 dX12_holds_141 (by decide) ?_
                refine lv_iinc (v := iI (k + 1)) (lv' := [(4, .int (iI (k + 1))), (3, .int (iI (n + 1))), (6, .int (iI z18)), (5, .int (iI (E 4 k))), (0, .ref (am 0)), (1, .int (iI place)), (2, .int (iI i))]) B.1 B.2.1 dX12_holds_249 hl (k := 3) rfl (iI_add _ _) (by decide) rfl (fun ls hl => ?_)
                refine lv_goto (tgt := 16) B.1 B.2.1 dX12_holds_252 (by decide) ?_
                exact ih16 ((n + 1)) ((k + 1)) (by omega) (dpt_step (by omega) h1 (by omega)) (by omega) (by omega) _ _ _ h (lv_sub hl [0, 1, 4, 5, 6] rfl)
              · refine x_iconst B dX12_holds_132 ?_
                refine lv_goto (tgt := 137) B.1 B.2.1 dX12_holds_133 (by decide) ?_
                refine y_zastS B h 78 (MW.f hM 28 _ rfl) (by omega) (gG_updZ (by omega)) dX12_holds_137 (fun H locs h => ?_)
                refine lv_iinc (v := iI (n + 1)) (lv' := [(3, .int (iI (n + 1))), (6, .int (iI z18)), (5, .int (iI (E 4 k))), (4, .int (iI k)), (0, .ref (am 0)), (1, .int (iI place)), (2, .int (iI i))]) B.1 B.2.1 dX12_holds_138 hl (k := 3) rfl (iI_add _ _) (by decide) rfl (fun ls hl => ?_)
                refine lv_goto (tgt := 249) B.1 B.2.1 dX12_holds_141 (by decide) ?_
                refine lv_iinc (v := iI (k + 1)) (lv' := [(4, .int (iI (k + 1))), (3, .int (iI (n + 1))), (6, .int (iI z18)), (5, .int (iI (E 4 k))), (0, .ref (am 0)), (1, .int (iI place)), (2, .int (iI i))]) B.1 B.2.1 dX12_holds_249 hl (k := 3) rfl (iI_add _ _) (by decide) rfl (fun ls hl => ?_)
                refine lv_goto (tgt := 16) B.1 B.2.1 dX12_holds_252 (by decide) ?_
                exact ih16 ((n + 1)) ((k + 1)) (by omega) (dpt_step (by omega) h1 (by omega)) (by omega) (by omega) _ _ _ h (lv_sub hl [0, 1, 4, 5, 6] rfl)
            · refine lv_iload B.1 B.2.1 dX12_holds_100 (lv_at hl 0 rfl) ?_
              refine lv_aload_n B.1 B.2.1 dX12_holds_102 rfl (lv_at hl 4 rfl) ?_
              refine y_getR B h kX12 50 (MW.f hM 0 _ rfl) 30 (b := am 24) rfl m_1291 (by decide) dX12_holds_103 ?_
              refine lv_iload B.1 B.2.1 dX12_holds_106 (lv_at hl 2 rfl) ?_
              refine y_iald B h 74 (MW.f hM 24 _ rfl) (by omega) dX12_holds_108 (fun fz23 hfz23 => ?_)
              refine x_name (fun z23 hz23 ez23 => ?_)
              refine x_icmp_le B (by omega) (tgt := 116) dX12_holds_109 (by decide) (fun c24 => ?_) (fun c24 => ?_)
              · refine x_iconst B dX12_holds_116 ?_
                refine lv_goto (tgt := 137) B.1 B.2.1 dX12_holds_117 (by decide) ?_
                refine y_zastS B h 78 (MW.f hM 28 _ rfl) (by omega) (gG_updZ (by omega)) dX12_holds_137 (fun H locs h => ?_)
                refine lv_iinc (v := iI (n + 1)) (lv' := [(3, .int (iI (n + 1))), (6, .int (iI z18)), (5, .int (iI (E 4 k))), (4, .int (iI k)), (0, .ref (am 0)), (1, .int (iI place)), (2, .int (iI i))]) B.1 B.2.1 dX12_holds_138 hl (k := 3) rfl (iI_add _ _) (by decide) rfl (fun ls hl => ?_)
                refine lv_goto (tgt := 249) B.1 B.2.1 dX12_holds_141 (by decide) ?_
                refine lv_iinc (v := iI (k + 1)) (lv' := [(4, .int (iI (k + 1))), (3, .int (iI (n + 1))), (6, .int (iI z18)), (5, .int (iI (E 4 k))), (0, .ref (am 0)), (1, .int (iI place)), (2, .int (iI i))]) B.1 B.2.1 dX12_holds_249 hl (k := 3) rfl (iI_add _ _) (by decide) rfl (fun ls hl => ?_)
                refine lv_goto (tgt := 16) B.1 B.2.1 dX12_holds_252 (by decide) ?_
                exact ih16 ((n + 1)) ((k + 1)) (by omega) (dpt_step (by omega) h1 (by omega)) (by omega) (by omega) _ _ _ h (lv_sub hl [0, 1, 4, 5, 6] rfl)
              · refine x_iconst B dX12_holds_112 ?_
                refine lv_goto (tgt := 137) B.1 B.2.1 dX12_holds_113 (by decide) ?_
                refine y_zastS B h 78 (MW.f hM 28 _ rfl) (by omega) (gG_updZ (by omega)) dX12_holds_137 (fun H locs h => ?_)
                refine lv_iinc (v := iI (n + 1)) (lv' := [(3, .int (iI (n + 1))), (6, .int (iI z18)), (5, .int (iI (E 4 k))), (4, .int (iI k)), (0, .ref (am 0)), (1, .int (iI place)), (2, .int (iI i))]) B.1 B.2.1 dX12_holds_138 hl (k := 3) rfl (iI_add _ _) (by decide) rfl (fun ls hl => ?_)
                refine lv_goto (tgt := 249) B.1 B.2.1 dX12_holds_141 (by decide) ?_
                refine lv_iinc (v := iI (k + 1)) (lv' := [(4, .int (iI (k + 1))), (3, .int (iI (n + 1))), (6, .int (iI z18)), (5, .int (iI (E 4 k))), (0, .ref (am 0)), (1, .int (iI place)), (2, .int (iI i))]) B.1 B.2.1 dX12_holds_249 hl (k := 3) rfl (iI_add _ _) (by decide) rfl (fun ls hl => ?_)
                refine lv_goto (tgt := 16) B.1 B.2.1 dX12_holds_252 (by decide) ?_
                exact ih16 ((n + 1)) ((k + 1)) (by omega) (dpt_step (by omega) h1 (by omega)) (by omega) (by omega) _ _ _ h (lv_sub hl [0, 1, 4, 5, 6] rfl)
          · refine lv_iload B.1 B.2.1 dX12_holds_72 (lv_at hl 0 rfl) ?_
            refine lv_aload_n B.1 B.2.1 dX12_holds_74 rfl (lv_at hl 4 rfl) ?_
            refine y_getR B h kX12 50 (MW.f hM 0 _ rfl) 30 (b := am 24) rfl m_1291 (by decide) dX12_holds_75 ?_
            refine lv_iload B.1 B.2.1 dX12_holds_78 (lv_at hl 2 rfl) ?_
            refine y_iald B h 74 (MW.f hM 24 _ rfl) (by omega) dX12_holds_80 (fun fz25 hfz25 => ?_)
            refine x_name (fun z25 hz25 ez25 => ?_)
            refine x_icmp_ge B (by omega) (tgt := 88) dX12_holds_81 (by decide) (fun c26 => ?_) (fun c26 => ?_)
            · refine x_iconst B dX12_holds_88 ?_
              refine lv_goto (tgt := 137) B.1 B.2.1 dX12_holds_89 (by decide) ?_
              refine y_zastS B h 78 (MW.f hM 28 _ rfl) (by omega) (gG_updZ (by omega)) dX12_holds_137 (fun H locs h => ?_)
              refine lv_iinc (v := iI (n + 1)) (lv' := [(3, .int (iI (n + 1))), (6, .int (iI z18)), (5, .int (iI (E 4 k))), (4, .int (iI k)), (0, .ref (am 0)), (1, .int (iI place)), (2, .int (iI i))]) B.1 B.2.1 dX12_holds_138 hl (k := 3) rfl (iI_add _ _) (by decide) rfl (fun ls hl => ?_)
              refine lv_goto (tgt := 249) B.1 B.2.1 dX12_holds_141 (by decide) ?_
              refine lv_iinc (v := iI (k + 1)) (lv' := [(4, .int (iI (k + 1))), (3, .int (iI (n + 1))), (6, .int (iI z18)), (5, .int (iI (E 4 k))), (0, .ref (am 0)), (1, .int (iI place)), (2, .int (iI i))]) B.1 B.2.1 dX12_holds_249 hl (k := 3) rfl (iI_add _ _) (by decide) rfl (fun ls hl => ?_)
              refine lv_goto (tgt := 16) B.1 B.2.1 dX12_holds_252 (by decide) ?_
              exact ih16 ((n + 1)) ((k + 1)) (by omega) (dpt_step (by omega) h1 (by omega)) (by omega) (by omega) _ _ _ h (lv_sub hl [0, 1, 4, 5, 6] rfl)
            · refine x_iconst B dX12_holds_84 ?_
              refine lv_goto (tgt := 137) B.1 B.2.1 dX12_holds_85 (by decide) ?_
              refine y_zastS B h 78 (MW.f hM 28 _ rfl) (by omega) (gG_updZ (by omega)) dX12_holds_137 (fun H locs h => ?_)
              refine lv_iinc (v := iI (n + 1)) (lv' := [(3, .int (iI (n + 1))), (6, .int (iI z18)), (5, .int (iI (E 4 k))), (4, .int (iI k)), (0, .ref (am 0)), (1, .int (iI place)), (2, .int (iI i))]) B.1 B.2.1 dX12_holds_138 hl (k := 3) rfl (iI_add _ _) (by decide) rfl (fun ls hl => ?_)
              refine lv_goto (tgt := 249) B.1 B.2.1 dX12_holds_141 (by decide) ?_
              refine lv_iinc (v := iI (k + 1)) (lv' := [(4, .int (iI (k + 1))), (3, .int (iI (n + 1))), (6, .int (iI z18)), (5, .int (iI (E 4 k))), (0, .ref (am 0)), (1, .int (iI place)), (2, .int (iI i))]) B.1 B.2.1 dX12_holds_249 hl (k := 3) rfl (iI_add _ _) (by decide) rfl (fun ls hl => ?_)
              refine lv_goto (tgt := 16) B.1 B.2.1 dX12_holds_252 (by decide) ?_
              exact ih16 ((n + 1)) ((k + 1)) (by omega) (dpt_step (by omega) h1 (by omega)) (by omega) (by omega) _ _ _ h (lv_sub hl [0, 1, 4, 5, 6] rfl)
  exact loop16 (((8000 - (((320 * place) + (E 2 i))) : Int)).toNat + 1) 0 (((320 * place) + (E 2 i))) (by omega) (show 0 = dpt E (320 * place + E 2 i) (((320 * place) + (E 2 i)) - (320 * place + E 2 i)).toNat by rw [show (((320 * place) + (E 2 i)) - (320 * place + E 2 i)).toNat = 0 by omega]; rfl) (by omega) (Nat.lt_succ_self _) _ _ _ h (lv_sub hl [0, 1, 2, 3, 4] rfl)
abbrev r_c_X12_scaleFor : Room := { frames := 0, cells := 0, slots := 0, locals := 0 }
set_option maxHeartbeats 4000000 in
set_option maxRecDepth 100000 in
theorem c_X12_scaleFor (l : Launch) (D : va_G) (Zk : yK) (ca : Nat → ClassId) (T : Nat → Int → Int) (E : Nat → Int → Int) (am : Nat → Nat) (w : yW) (hM : MW ca T E am w) (year : Int)  (hyear : xr year) : yC l D Zk ca yX12_scaleFor cX12_scaleFor 4 (some .int) r_c_X12_scaleFor [.ref (am 0), .int (iI year)] w (vI w (fun z => z = -1 ∨ (0 ≤ z ∧ z < E 0 0))) := by
  refine yC.of2 "WindWordsModel" (by decide) rfl (Nat.le_of_ble_eq_true rfl) ?_
  intro p e s m args below meth c A ls Qf B hnm h hl hQ
  have hl : lv_has ls 4 [(0, .ref (am 0)), (1, .int (iI year))] := hl
  have hs := pi_s (MW.pi hM)
  have hpe := pe_0 (MW.pe hM)
  refine x_iconst B dX12_scaleFor_0 ?_
  refine lv_istore_n (lv' := [(2, .int (iI (-1))), (0, .ref (am 0)), (1, .int (iI year))]) B.1 B.2.1 dX12_scaleFor_1 rfl hl (by decide) rfl (fun ls hl => ?_)
  refine x_iconst B dX12_scaleFor_2 ?_
  refine lv_istore_n (lv' := [(3, .int (iI 0)), (2, .int (iI (-1))), (0, .ref (am 0)), (1, .int (iI year))]) B.1 B.2.1 dX12_scaleFor_3 rfl hl (by decide) rfl (fun ls hl => ?_)
  have loop4 : ∀ (n4 : Nat) (b : Int) (i : Int), (b = -1 ∨ (0 ≤ b ∧ b < E 0 0)) → (0 ≤ i ∧ i ≤ 8) → ((8 - i : Int)).toNat < n4 → ∀ (H : Heap) (locs : List Loc) (ls : Array Slot), yH D Zk A s w H locs → lv_has ls 4 [(3, .int (iI i)), (2, .int (iI b)), (0, .ref (am 0)), (1, .int (iI year))] → W p l e r_c_X12_scaleFor s m args below meth c H locs 0 0 Qf (F0 m 4 ls []) := by
    intro n4
    induction n4 with
    | zero =>
      intro b i h0 h1 hm4 H locs ls h hl
      exact absurd hm4 (Nat.not_lt_zero _)
    | succ n4 ih4 =>
      intro b i h0 h1 hm4 H locs ls h hl
      refine lv_iload_n B.1 B.2.1 dX12_scaleFor_4 rfl (lv_at hl 0 rfl) ?_
      refine lv_aload_n B.1 B.2.1 dX12_scaleFor_5 rfl (lv_at hl 2 rfl) ?_
      refine y_getX B h kX12 50 (MW.f hM 0 _ rfl) 23 (z := (E 0 0)) rfl m_1284 (by decide) dX12_scaleFor_6 ?_
      refine x_icmp_ge B (by omega) (tgt := 49) dX12_scaleFor_9 (by decide) (fun c1 => ?_) (fun c1 => ?_)
      · refine lv_iload_n B.1 B.2.1 dX12_scaleFor_49 rfl (lv_at hl 1 rfl) ?_
        refine y_ri B hQ h (by decide) dX12_scaleFor_50 ?_
        exact ⟨rfl, _, rfl, (by first | omega | trivial | assumption)⟩
      · refine lv_aload_n B.1 B.2.1 dX12_scaleFor_12 rfl (lv_at hl 2 rfl) ?_
        refine y_getR B h kX12 50 (MW.f hM 0 _ rfl) 22 (b := am 17) rfl m_1283 (by decide) dX12_scaleFor_13 ?_
        refine lv_iload_n B.1 B.2.1 dX12_scaleFor_16 rfl (lv_at hl 0 rfl) ?_
        refine y_iald B h 67 (MW.f hM 17 _ rfl) (by omega) dX12_scaleFor_17 (fun fz2 hfz2 => ?_)
        refine x_name (fun z2 hz2 ez2 => ?_)
        refine lv_iload_n B.1 B.2.1 dX12_scaleFor_18 rfl (lv_at hl 3 rfl) ?_
        refine x_icmp_gt B (by omega) (tgt := 43) dX12_scaleFor_19 (by decide) (fun c3 => ?_) (fun c3 => ?_)
        · refine lv_iinc (v := iI (i + 1)) (lv' := [(3, .int (iI (i + 1))), (2, .int (iI b)), (0, .ref (am 0)), (1, .int (iI year))]) B.1 B.2.1 dX12_scaleFor_43 hl (k := 0) rfl (iI_add _ _) (by decide) rfl (fun ls hl => ?_)
          refine lv_goto (tgt := 4) B.1 B.2.1 dX12_scaleFor_46 (by decide) ?_
          exact ih4 b ((i + 1)) (by omega) (by omega) (by omega) _ _ _ h (lv_sub hl [0, 1, 2, 3] rfl)
        · refine lv_iload_n B.1 B.2.1 dX12_scaleFor_22 rfl (lv_at hl 1 rfl) ?_
          refine x_if_lt B (by omega) (tgt := 41) dX12_scaleFor_23 (by decide) (fun c4 => ?_) (fun c4 => ?_)
          · refine lv_iload_n B.1 B.2.1 dX12_scaleFor_41 rfl (lv_at hl 0 rfl) ?_
            refine lv_istore_n (lv' := [(2, .int (iI i)), (3, .int (iI i)), (0, .ref (am 0)), (1, .int (iI year))]) B.1 B.2.1 dX12_scaleFor_42 rfl hl (by decide) rfl (fun ls hl => ?_)
            refine lv_iinc (v := iI (i + 1)) (lv' := [(3, .int (iI (i + 1))), (2, .int (iI i)), (0, .ref (am 0)), (1, .int (iI year))]) B.1 B.2.1 dX12_scaleFor_43 hl (k := 1) rfl (iI_add _ _) (by decide) rfl (fun ls hl => ?_)
            refine lv_goto (tgt := 4) B.1 B.2.1 dX12_scaleFor_46 (by decide) ?_
            exact ih4 i ((i + 1)) (by omega) (by omega) (by omega) _ _ _ h (lv_sub hl [0, 1, 2, 3] rfl)
          · refine lv_aload_n B.1 B.2.1 dX12_scaleFor_26 rfl (lv_at hl 2 rfl) ?_
            refine y_getR B h kX12 50 (MW.f hM 0 _ rfl) 22 (b := am 17) rfl m_1283 (by decide) dX12_scaleFor_27 ?_
            refine lv_iload_n B.1 B.2.1 dX12_scaleFor_30 rfl (lv_at hl 0 rfl) ?_
            refine y_iald B h 67 (MW.f hM 17 _ rfl) (by omega) dX12_scaleFor_31 (fun fz5 hfz5 => ?_)
            refine x_name (fun z5 hz5 ez5 => ?_)
            refine lv_aload_n B.1 B.2.1 dX12_scaleFor_32 rfl (lv_at hl 2 rfl) ?_
            refine y_getR B h kX12 50 (MW.f hM 0 _ rfl) 22 (b := am 17) rfl m_1283 (by decide) dX12_scaleFor_33 ?_
            refine lv_iload_n B.1 B.2.1 dX12_scaleFor_36 rfl (lv_at hl 1 rfl) ?_
            refine y_iald B h 67 (MW.f hM 17 _ rfl) (by omega) dX12_scaleFor_37 (fun fz6 hfz6 => ?_)
            refine x_name (fun z6 hz6 ez6 => ?_)
            refine x_icmp_lt B (by omega) (tgt := 43) dX12_scaleFor_38 (by decide) (fun c7 => ?_) (fun c7 => ?_)
            · refine lv_iinc (v := iI (i + 1)) (lv' := [(3, .int (iI (i + 1))), (2, .int (iI b)), (0, .ref (am 0)), (1, .int (iI year))]) B.1 B.2.1 dX12_scaleFor_43 hl (k := 0) rfl (iI_add _ _) (by decide) rfl (fun ls hl => ?_)
              refine lv_goto (tgt := 4) B.1 B.2.1 dX12_scaleFor_46 (by decide) ?_
              exact ih4 b ((i + 1)) (by omega) (by omega) (by omega) _ _ _ h (lv_sub hl [0, 1, 2, 3] rfl)
            · refine lv_iload_n B.1 B.2.1 dX12_scaleFor_41 rfl (lv_at hl 0 rfl) ?_
              refine lv_istore_n (lv' := [(2, .int (iI i)), (3, .int (iI i)), (0, .ref (am 0)), (1, .int (iI year))]) B.1 B.2.1 dX12_scaleFor_42 rfl hl (by decide) rfl (fun ls hl => ?_)
              refine lv_iinc (v := iI (i + 1)) (lv' := [(3, .int (iI (i + 1))), (2, .int (iI i)), (0, .ref (am 0)), (1, .int (iI year))]) B.1 B.2.1 dX12_scaleFor_43 hl (k := 1) rfl (iI_add _ _) (by decide) rfl (fun ls hl => ?_)
              refine lv_goto (tgt := 4) B.1 B.2.1 dX12_scaleFor_46 (by decide) ?_
              exact ih4 i ((i + 1)) (by omega) (by omega) (by omega) _ _ _ h (lv_sub hl [0, 1, 2, 3] rfl)
  exact loop4 (((8 - 0 : Int)).toNat + 1) ((-1)) 0 (by omega) (by omega) (Nat.lt_succ_self _) _ _ _ h (lv_sub hl [0, 1, 2, 3] rfl)
abbrev r_c_X12_readsBy : Room := { frames := 1, cells := 0, slots := 0, locals := 26 }
set_option maxHeartbeats 4000000 in
set_option maxRecDepth 100000 in
theorem c_X12_readsBy (l : Launch) (D : va_G) (Zk : yK) (ca : Nat → ClassId) (T : Nat → Int → Int) (E : Nat → Int → Int) (am : Nat → Nat) (w : yW) (hM : MW ca T E am w) (sc : Int) (kind : Int) (wind : Int) (rg : Int) (dp : Int) (year : Int)  (hs2 : sc < 0 ∨ (0 ≤ sc ∧ sc < E 0 0)) (hsc : xr sc) (hkind : xr kind) (hwind : 0 ≤ wind ∧ wind ≤ 99) (hrg : xr rg) (hdp : xr dp) (hyear : xr year) : yC l D Zk ca yX12_readsBy cX12_readsBy 9 (some .int) r_c_X12_readsBy [.ref (am 0), .int (iI sc), .int (iI kind), .int (iI wind), .int (iI rg), .int (iI dp), .int (iI year)] w (vI w (fun z => 0 ≤ z ∧ z ≤ 12)) := by
  refine yC.of2 "WindWordsModel" (by decide) rfl (Nat.le_of_ble_eq_true rfl) ?_
  intro p e s m args below meth c A ls Qf B hnm h hl hQ
  have hl : lv_has ls 9 [(0, .ref (am 0)), (1, .int (iI sc)), (2, .int (iI kind)), (3, .int (iI wind)), (4, .int (iI rg)), (5, .int (iI dp)), (6, .int (iI year))] := hl
  have hs := pi_s (MW.pi hM)
  have hpe := pe_0 (MW.pe hM)
  have hpe1 := pe_1 (MW.pe hM) sc
  refine lv_iload_n B.1 B.2.1 dX12_readsBy_0 rfl (lv_at hl 1 rfl) ?_
  refine x_if_ge B (by omega) (tgt := 23) dX12_readsBy_1 (by decide) (fun c1 => ?_) (fun c1 => ?_)
  · refine lv_aload_n B.1 B.2.1 dX12_readsBy_23 rfl (lv_at hl 0 rfl) ?_
    refine y_getR B h kX12 50 (MW.f hM 0 _ rfl) 47 (b := am 27) rfl m_1308 (by decide) dX12_readsBy_24 ?_
    refine x_iconst B dX12_readsBy_27 ?_
    refine lv_iload B.1 B.2.1 dX12_readsBy_28 (lv_at hl 4 rfl) ?_
    refine y_iastS B h 77 (MW.f hM 27 _ rfl) (by omega) (fun _ _ => trivial) dX12_readsBy_30 (fun H locs h => ?_)
    refine lv_aload_n B.1 B.2.1 dX12_readsBy_31 rfl (lv_at hl 0 rfl) ?_
    refine y_getR B h kX12 50 (MW.f hM 0 _ rfl) 47 (b := am 27) rfl m_1308 (by decide) dX12_readsBy_32 ?_
    refine x_iconst B dX12_readsBy_35 ?_
    refine lv_iload B.1 B.2.1 dX12_readsBy_36 (lv_at hl 5 rfl) ?_
    refine y_iastS B h 77 (MW.f hM 27 _ rfl) (by omega) (fun _ _ => trivial) dX12_readsBy_38 (fun H locs h => ?_)
    refine lv_aload_n B.1 B.2.1 dX12_readsBy_39 rfl (lv_at hl 0 rfl) ?_
    refine y_getR B h kX12 50 (MW.f hM 0 _ rfl) 47 (b := am 27) rfl m_1308 (by decide) dX12_readsBy_40 ?_
    refine x_iconst B dX12_readsBy_43 ?_
    refine lv_iload B.1 B.2.1 dX12_readsBy_44 (lv_at hl 6 rfl) ?_
    refine y_iastS B h 77 (MW.f hM 27 _ rfl) (by omega) (fun _ _ => trivial) dX12_readsBy_46 (fun H locs h => ?_)
    refine x_iconst B dX12_readsBy_47 ?_
    refine lv_istore (lv' := [(7, .int (iI 0)), (0, .ref (am 0)), (1, .int (iI sc)), (2, .int (iI kind)), (3, .int (iI wind)), (4, .int (iI rg)), (5, .int (iI dp)), (6, .int (iI year))]) B.1 B.2.1 dX12_readsBy_48 hl (by decide) rfl (fun ls hl => ?_)
    refine x_bipush B (by decide) dX12_readsBy_50 ?_
    refine lv_iload_n B.1 B.2.1 dX12_readsBy_52 rfl (lv_at hl 2 rfl) ?_
    refine x_imul B dX12_readsBy_53 ?_
    refine lv_istore (lv' := [(8, .int (iI (40 * sc))), (7, .int (iI 0)), (0, .ref (am 0)), (1, .int (iI sc)), (2, .int (iI kind)), (3, .int (iI wind)), (4, .int (iI rg)), (5, .int (iI dp)), (6, .int (iI year))]) B.1 B.2.1 dX12_readsBy_54 hl (by decide) rfl (fun ls hl => ?_)
    have loop56 : ∀ (n56 : Nat) (b : Int) (i : Int), (0 ≤ b ∧ b ≤ 12) → (40 * sc ≤ i ∧ i ≤ 40 * sc + E 1 sc) → ((1000 - i : Int)).toNat < n56 → ∀ (H : Heap) (locs : List Loc) (ls : Array Slot), yH D Zk A s w H locs → lv_has ls 9 [(8, .int (iI i)), (7, .int (iI b)), (0, .ref (am 0)), (1, .int (iI sc)), (2, .int (iI kind)), (3, .int (iI wind))] → W p l e r_c_X12_readsBy s m args below meth c H locs 0 0 Qf (F0 m 56 ls []) := by
      intro n56
      induction n56 with
      | zero =>
        intro b i h0 h1 hm56 H locs ls h hl
        exact absurd hm56 (Nat.not_lt_zero _)
      | succ n56 ih56 =>
        intro b i h0 h1 hm56 H locs ls h hl
        refine lv_iload B.1 B.2.1 dX12_readsBy_56 (lv_at hl 0 rfl) ?_
        refine x_bipush B (by decide) dX12_readsBy_58 ?_
        refine lv_iload_n B.1 B.2.1 dX12_readsBy_60 rfl (lv_at hl 3 rfl) ?_
        refine x_imul B dX12_readsBy_61 ?_
        refine lv_aload_n B.1 B.2.1 dX12_readsBy_62 rfl (lv_at hl 2 rfl) ?_
        refine y_getR B h kX12 50 (MW.f hM 0 _ rfl) 21 (b := am 16) rfl m_1282 (by decide) dX12_readsBy_63 ?_
        refine lv_iload_n B.1 B.2.1 dX12_readsBy_66 rfl (lv_at hl 3 rfl) ?_
        have eb2 := pe_1 (MW.pe hM) sc
        refine y_ialdX B h 66 (MW.f hM 16 _ rfl) (by omega) dX12_readsBy_67 ?_
        refine x_iset (z := (E 1 sc)) (by show iI (E 1 (((sc : Int).toNat : Nat) : Int)) = _; rw [show ((((sc : Int).toNat : Nat) : Int)) = sc by omega]) ?_
        refine x_iadd B dX12_readsBy_68 ?_
        refine x_icmp_ge B (by omega) (tgt := 131) dX12_readsBy_69 (by decide) (fun c3 => ?_) (fun c3 => ?_)
        · refine lv_iload B.1 B.2.1 dX12_readsBy_131 (lv_at hl 1 rfl) ?_
          refine y_ri B hQ h (by decide) dX12_readsBy_133 ?_
          exact ⟨rfl, _, rfl, (by first | omega | trivial | assumption)⟩
        · refine lv_aload_n B.1 B.2.1 dX12_readsBy_72 rfl (lv_at hl 2 rfl) ?_
          refine y_getR B h kX12 50 (MW.f hM 0 _ rfl) 24 (b := am 18) rfl m_1285 (by decide) dX12_readsBy_73 ?_
          refine lv_iload B.1 B.2.1 dX12_readsBy_76 (lv_at hl 0 rfl) ?_
          refine y_iald B h 68 (MW.f hM 18 _ rfl) (by omega) dX12_readsBy_78 (fun fz4 hfz4 => ?_)
          refine x_name (fun z4 hz4 ez4 => ?_)
          refine lv_iload_n B.1 B.2.1 dX12_readsBy_79 rfl (lv_at hl 4 rfl) ?_
          refine x_icmp_ne B (by omega) (tgt := 125) dX12_readsBy_80 (by decide) (fun c5 => ?_) (fun c5 => ?_)
          · refine lv_iinc (v := iI (i + 1)) (lv' := [(8, .int (iI (i + 1))), (7, .int (iI b)), (0, .ref (am 0)), (1, .int (iI sc)), (2, .int (iI kind)), (3, .int (iI wind))]) B.1 B.2.1 dX12_readsBy_125 hl (k := 0) rfl (iI_add _ _) (by decide) rfl (fun ls hl => ?_)
            refine lv_goto (tgt := 56) B.1 B.2.1 dX12_readsBy_128 (by decide) ?_
            exact ih56 b ((i + 1)) (by omega) (by omega) (by omega) _ _ _ h (lv_sub hl [0, 1, 2, 3, 4, 5] rfl)
          · refine lv_aload_n B.1 B.2.1 dX12_readsBy_83 rfl (lv_at hl 2 rfl) ?_
            refine y_getR B h kX12 50 (MW.f hM 0 _ rfl) 26 (b := am 20) rfl m_1287 (by decide) dX12_readsBy_84 ?_
            refine lv_iload B.1 B.2.1 dX12_readsBy_87 (lv_at hl 0 rfl) ?_
            refine y_iald B h 70 (MW.f hM 20 _ rfl) (by omega) dX12_readsBy_89 (fun fz6 hfz6 => ?_)
            refine x_name (fun z6 hz6 ez6 => ?_)
            refine lv_iload_n B.1 B.2.1 dX12_readsBy_90 rfl (lv_at hl 5 rfl) ?_
            refine x_icmp_gt B (by omega) (tgt := 125) dX12_readsBy_91 (by decide) (fun c7 => ?_) (fun c7 => ?_)
            · refine lv_iinc (v := iI (i + 1)) (lv' := [(8, .int (iI (i + 1))), (7, .int (iI b)), (0, .ref (am 0)), (1, .int (iI sc)), (2, .int (iI kind)), (3, .int (iI wind))]) B.1 B.2.1 dX12_readsBy_125 hl (k := 0) rfl (iI_add _ _) (by decide) rfl (fun ls hl => ?_)
              refine lv_goto (tgt := 56) B.1 B.2.1 dX12_readsBy_128 (by decide) ?_
              exact ih56 b ((i + 1)) (by omega) (by omega) (by omega) _ _ _ h (lv_sub hl [0, 1, 2, 3, 4, 5] rfl)
            · refine lv_aload_n B.1 B.2.1 dX12_readsBy_94 rfl (lv_at hl 2 rfl) ?_
              refine y_getR B h kX12 50 (MW.f hM 0 _ rfl) 25 (b := am 19) rfl m_1286 (by decide) dX12_readsBy_95 ?_
              refine lv_iload B.1 B.2.1 dX12_readsBy_98 (lv_at hl 0 rfl) ?_
              have eb8 := pe_5 (MW.pe hM) i
              refine y_ialdX B h 69 (MW.f hM 19 _ rfl) (by omega) dX12_readsBy_100 ?_
              refine x_iset (z := (E 5 i)) (by show iI (E 5 (((i : Int).toNat : Nat) : Int)) = _; rw [show ((((i : Int).toNat : Nat) : Int)) = i by omega]) ?_
              refine lv_iload B.1 B.2.1 dX12_readsBy_101 (lv_at hl 1 rfl) ?_
              refine x_icmp_le B (by omega) (tgt := 125) dX12_readsBy_103 (by decide) (fun c9 => ?_) (fun c9 => ?_)
              · refine lv_iinc (v := iI (i + 1)) (lv' := [(8, .int (iI (i + 1))), (7, .int (iI b)), (0, .ref (am 0)), (1, .int (iI sc)), (2, .int (iI kind)), (3, .int (iI wind))]) B.1 B.2.1 dX12_readsBy_125 hl (k := 0) rfl (iI_add _ _) (by decide) rfl (fun ls hl => ?_)
                refine lv_goto (tgt := 56) B.1 B.2.1 dX12_readsBy_128 (by decide) ?_
                exact ih56 b ((i + 1)) (by omega) (by omega) (by omega) _ _ _ h (lv_sub hl [0, 1, 2, 3, 4, 5] rfl)
              · refine lv_aload_n B.1 B.2.1 dX12_readsBy_106 rfl (lv_at hl 2 rfl) ?_
                refine lv_iload_n B.1 B.2.1 dX12_readsBy_107 rfl (lv_at hl 3 rfl) ?_
                refine lv_iload B.1 B.2.1 dX12_readsBy_108 (lv_at hl 0 rfl) ?_
                refine y_cV B h kX12 50 (MW.f hM 0 _ rfl) k_X12_holds rfl (c_X12_holds l D Zk ca T E am _ hM sc i  ((pe_h (MW.pe hM) (q := sc) (i := i) (Or.inl (by omega)) (by omega)).1) ((pe_h (MW.pe hM) (q := sc) (i := i) (Or.inl (by omega)) (by omega)).2) (by omega) (by omega)) m_1675 rfl (by decide) hl.1 [] (Nat.le_of_ble_eq_true rfl) rfl dX12_readsBy_110 (fun r w1 hq H locs h => ?_)
                obtain ⟨rfl, _, rfl, ⟨rfl, b10⟩ | ⟨rfl, b10⟩⟩ := hq
                · show W p l e r_c_X12_readsBy s m args below meth c _ _ 0 0 Qf (F0 m 113 ls [.int (iI 1)])
                  refine x_if_eq B (by omega) (tgt := 125) dX12_readsBy_113 (by decide) (fun c11 => ?_) (fun c11 => ?_)
                  · exact absurd c11 (by omega)
                  · refine lv_aload_n B.1 B.2.1 dX12_readsBy_116 rfl (lv_at hl 2 rfl) ?_
                    refine y_getR B h kX12 50 (MW.f hM 0 _ rfl) 25 (b := am 19) rfl m_1286 (by decide) dX12_readsBy_117 ?_
                    refine lv_iload B.1 B.2.1 dX12_readsBy_120 (lv_at hl 0 rfl) ?_
                    have eb12 := pe_5 (MW.pe hM) i
                    refine y_ialdX B h 69 (MW.f hM 19 _ rfl) (by omega) dX12_readsBy_122 ?_
                    refine x_iset (z := (E 5 i)) (by show iI (E 5 (((i : Int).toNat : Nat) : Int)) = _; rw [show ((((i : Int).toNat : Nat) : Int)) = i by omega]) ?_
                    refine lv_istore (lv' := [(7, .int (iI (E 5 i))), (8, .int (iI i)), (0, .ref (am 0)), (1, .int (iI sc)), (2, .int (iI kind)), (3, .int (iI wind))]) B.1 B.2.1 dX12_readsBy_123 hl (by decide) rfl (fun ls hl => ?_)
                    refine lv_iinc (v := iI (i + 1)) (lv' := [(8, .int (iI (i + 1))), (7, .int (iI (E 5 i))), (0, .ref (am 0)), (1, .int (iI sc)), (2, .int (iI kind)), (3, .int (iI wind))]) B.1 B.2.1 dX12_readsBy_125 hl (k := 1) rfl (iI_add _ _) (by decide) rfl (fun ls hl => ?_)
                    refine lv_goto (tgt := 56) B.1 B.2.1 dX12_readsBy_128 (by decide) ?_
                    exact ih56 ((E 5 i)) ((i + 1)) (by omega) (by omega) (by omega) _ _ _ h (lv_sub hl [0, 1, 2, 3, 4, 5] rfl)
                · show W p l e r_c_X12_readsBy s m args below meth c _ _ 0 0 Qf (F0 m 113 ls [.int (iI 0)])
                  refine x_if_eq B (by omega) (tgt := 125) dX12_readsBy_113 (by decide) (fun c13 => ?_) (fun c13 => ?_)
                  · refine lv_iinc (v := iI (i + 1)) (lv' := [(8, .int (iI (i + 1))), (7, .int (iI b)), (0, .ref (am 0)), (1, .int (iI sc)), (2, .int (iI kind)), (3, .int (iI wind))]) B.1 B.2.1 dX12_readsBy_125 hl (k := 0) rfl (iI_add _ _) (by decide) rfl (fun ls hl => ?_)
                    refine lv_goto (tgt := 56) B.1 B.2.1 dX12_readsBy_128 (by decide) ?_
                    exact ih56 b ((i + 1)) (by omega) (by omega) (by omega) _ _ _ h (lv_sub hl [0, 1, 2, 3, 4, 5] rfl)
                  · exact absurd c13 (by omega)
    exact loop56 (((1000 - ((40 * sc)) : Int)).toNat + 1) 0 ((40 * sc)) (by omega) (by omega) (Nat.lt_succ_self _) _ _ _ h (lv_sub hl [0, 1, 2, 3, 4, 5] rfl)
  · refine lv_iload_n B.1 B.2.1 dX12_readsBy_4 rfl (lv_at hl 3 rfl) ?_
    refine x_bipush B (by decide) dX12_readsBy_5 ?_
    refine x_idiv B (by omega) dX12_readsBy_7 ?_
    refine x_bipush B (by decide) dX12_readsBy_8 ?_
    refine x_icmp_le B (by omega) (tgt := 18) dX12_readsBy_10 (by decide) (fun c14 => ?_) (fun c14 => ?_)
    · refine lv_iload_n B.1 B.2.1 dX12_readsBy_18 rfl (lv_at hl 3 rfl) ?_
      refine x_bipush B (by decide) dX12_readsBy_19 ?_
      refine x_idiv B (by omega) dX12_readsBy_21 ?_
      refine y_ri B hQ h (by decide) dX12_readsBy_22 ?_
      exact ⟨rfl, _, rfl, (by first | omega | trivial | assumption)⟩
    · refine x_bipush B (by decide) dX12_readsBy_13 ?_
      refine lv_goto (tgt := 22) B.1 B.2.1 dX12_readsBy_15 (by decide) ?_
      refine y_ri B hQ h (by decide) dX12_readsBy_22 ?_
      exact ⟨rfl, _, rfl, (by first | omega | trivial | assumption)⟩
abbrev r_c_X12_readIn : Room := { frames := 2, cells := 0, slots := 0, locals := 54 }
set_option maxHeartbeats 4000000 in
set_option maxRecDepth 100000 in
theorem c_X12_readIn (l : Launch) (D : va_G) (Zk : yK) (ca : Nat → ClassId) (T : Nat → Int → Int) (E : Nat → Int → Int) (am : Nat → Nat) (w : yW) (hM : MW ca T E am w) (kind : Int) (wind : Int) (rg : Int) (dp : Int) (year : Int)  (hkind : xr kind) (hwind : 0 ≤ wind ∧ wind ≤ 99) (hrg : xr rg) (hdp : xr dp) (hyear : xr year) : yC l D Zk ca yX12_readIn cX12_readIn 6 (some .int) r_c_X12_readIn [.ref (am 0), .int (iI kind), .int (iI wind), .int (iI rg), .int (iI dp), .int (iI year)] w (vI w (fun z => 0 ≤ z ∧ z ≤ 12)) := by
  refine yC.of2 "WindWordsModel" (by decide) rfl (Nat.le_of_ble_eq_true rfl) ?_
  intro p e s m args below meth c A ls Qf B hnm h hl hQ
  have hl : lv_has ls 6 [(0, .ref (am 0)), (1, .int (iI kind)), (2, .int (iI wind)), (3, .int (iI rg)), (4, .int (iI dp)), (5, .int (iI year))] := hl
  have hs := pi_s (MW.pi hM)
  have hpe := pe_0 (MW.pe hM)
  refine lv_aload_n B.1 B.2.1 dX12_readIn_0 rfl (lv_at hl 0 rfl) ?_
  refine lv_aload_n B.1 B.2.1 dX12_readIn_1 rfl (lv_at hl 0 rfl) ?_
  refine lv_iload B.1 B.2.1 dX12_readIn_2 (lv_at hl 5 rfl) ?_
  refine y_cV B h kX12 50 (MW.f hM 0 _ rfl) k_X12_scaleFor rfl (c_X12_scaleFor l D Zk ca T E am _ hM year  (by omega)) m_1667 rfl (by decide) hl.1 [.ref (am 0)] (Nat.le_of_ble_eq_true rfl) rfl dX12_readIn_4 (fun r w1 hq H locs h => ?_)
  obtain ⟨rfl, z1, rfl, hz1⟩ := hq
  show W p l e r_c_X12_readIn s m args below meth c _ _ 0 0 Qf (F0 m 7 ls [.int (iI z1), .ref (am 0)])
  refine lv_iload_n B.1 B.2.1 dX12_readIn_7 rfl (lv_at hl 1 rfl) ?_
  refine lv_iload_n B.1 B.2.1 dX12_readIn_8 rfl (lv_at hl 2 rfl) ?_
  refine lv_iload_n B.1 B.2.1 dX12_readIn_9 rfl (lv_at hl 3 rfl) ?_
  refine lv_iload B.1 B.2.1 dX12_readIn_10 (lv_at hl 4 rfl) ?_
  refine lv_iload B.1 B.2.1 dX12_readIn_12 (lv_at hl 5 rfl) ?_
  refine y_cV B h kX12 50 (MW.f hM 0 _ rfl) k_X12_readsBy rfl (c_X12_readsBy l D Zk ca T E am _ hM z1 kind wind rg dp year  (by omega) (by omega) (by omega) (by omega) (by omega) (by omega) (by omega)) m_1671 rfl (by decide) hl.1 [] (Nat.le_of_ble_eq_true rfl) rfl dX12_readIn_14 (fun r w1 hq H locs h => ?_)
  obtain ⟨rfl, z2, rfl, hz2⟩ := hq
  show W p l e r_c_X12_readIn s m args below meth c _ _ 0 0 Qf (F0 m 17 ls [.int (iI z2)])
  refine y_ri B hQ h (by decide) dX12_readIn_17 ?_
  exact ⟨rfl, _, rfl, (by first | omega | trivial | assumption)⟩
abbrev r_c_X12_writes : Room := { frames := 1, cells := 0, slots := 0, locals := 26 }
set_option maxHeartbeats 4000000 in
set_option maxRecDepth 100000 in
theorem c_X12_writes (l : Launch) (D : va_G) (Zk : yK) (ca : Nat → ClassId) (T : Nat → Int → Int) (E : Nat → Int → Int) (am : Nat → Nat) (w : yW) (hM : MW ca T E am w) (o : Int) (number : Int) (rg : Int) (year : Int) (sp : Int)  (ho : 0 ≤ o ∧ o ≤ 15) (hnumber : xr number) (hrg : xr rg) (hyear : xr year) (hsp : xr sp) : yC l D Zk ca yX12_writes cX12_writes 10 (some .int) r_c_X12_writes [.ref (am 0), .int (iI o), .int (iI number), .int (iI rg), .int (iI year), .int (iI sp)] w (vI w (fun z => xr z)) := by
  refine yC.of2 "WindWordsModel" (by decide) rfl (Nat.le_of_ble_eq_true rfl) ?_
  intro p e s m args below meth c A ls Qf B hnm h hl hQ
  have hl : lv_has ls 10 [(0, .ref (am 0)), (1, .int (iI o)), (2, .int (iI number)), (3, .int (iI rg)), (4, .int (iI year)), (5, .int (iI sp))] := hl
  have hs := pi_s (MW.pi hM)
  have hpe := pe_0 (MW.pe hM)
  have hpe1 := pe_1 (MW.pe hM) (8 + o)
  refine x_bipush B (by decide) dX12_writes_0 ?_
  refine lv_iload_n B.1 B.2.1 dX12_writes_2 rfl (lv_at hl 1 rfl) ?_
  refine x_iadd B dX12_writes_3 ?_
  refine lv_istore (lv' := [(6, .int (iI (8 + o))), (0, .ref (am 0)), (1, .int (iI o)), (2, .int (iI number)), (3, .int (iI rg)), (4, .int (iI year)), (5, .int (iI sp))]) B.1 B.2.1 dX12_writes_4 hl (by decide) rfl (fun ls hl => ?_)
  refine lv_aload_n B.1 B.2.1 dX12_writes_6 rfl (lv_at hl 1 rfl) ?_
  refine y_getR B h kX12 50 (MW.f hM 0 _ rfl) 47 (b := am 27) rfl m_1308 (by decide) dX12_writes_7 ?_
  refine x_iconst B dX12_writes_10 ?_
  refine lv_iload_n B.1 B.2.1 dX12_writes_11 rfl (lv_at hl 4 rfl) ?_
  refine y_iastS B h 77 (MW.f hM 27 _ rfl) (by omega) (fun _ _ => trivial) dX12_writes_12 (fun H locs h => ?_)
  refine lv_aload_n B.1 B.2.1 dX12_writes_13 rfl (lv_at hl 1 rfl) ?_
  refine y_getR B h kX12 50 (MW.f hM 0 _ rfl) 47 (b := am 27) rfl m_1308 (by decide) dX12_writes_14 ?_
  refine x_iconst B dX12_writes_17 ?_
  refine lv_iload B.1 B.2.1 dX12_writes_18 (lv_at hl 6 rfl) ?_
  refine y_iastS B h 77 (MW.f hM 27 _ rfl) (by omega) (fun _ _ => trivial) dX12_writes_20 (fun H locs h => ?_)
  refine lv_aload_n B.1 B.2.1 dX12_writes_21 rfl (lv_at hl 1 rfl) ?_
  refine y_getR B h kX12 50 (MW.f hM 0 _ rfl) 47 (b := am 27) rfl m_1308 (by decide) dX12_writes_22 ?_
  refine x_iconst B dX12_writes_25 ?_
  refine lv_iload B.1 B.2.1 dX12_writes_26 (lv_at hl 5 rfl) ?_
  refine y_iastS B h 77 (MW.f hM 27 _ rfl) (by omega) (fun _ _ => trivial) dX12_writes_28 (fun H locs h => ?_)
  refine lv_aload_n B.1 B.2.1 dX12_writes_29 rfl (lv_at hl 1 rfl) ?_
  refine y_getR B h kX12 50 (MW.f hM 0 _ rfl) 47 (b := am 27) rfl m_1308 (by decide) dX12_writes_30 ?_
  refine x_iconst B dX12_writes_33 ?_
  refine lv_iload_n B.1 B.2.1 dX12_writes_34 rfl (lv_at hl 3 rfl) ?_
  refine y_iastS B h 77 (MW.f hM 27 _ rfl) (by omega) (fun _ _ => trivial) dX12_writes_35 (fun H locs h => ?_)
  refine lv_iload_n B.1 B.2.1 dX12_writes_36 rfl (lv_at hl 3 rfl) ?_
  refine lv_istore (lv' := [(7, .int (iI number)), (6, .int (iI (8 + o))), (0, .ref (am 0)), (1, .int (iI o)), (2, .int (iI number)), (3, .int (iI rg)), (4, .int (iI year)), (5, .int (iI sp))]) B.1 B.2.1 dX12_writes_37 hl (by decide) rfl (fun ls hl => ?_)
  refine x_iconst B dX12_writes_39 ?_
  refine lv_istore (lv' := [(8, .int (iI 0)), (7, .int (iI number)), (6, .int (iI (8 + o))), (0, .ref (am 0)), (1, .int (iI o)), (2, .int (iI number)), (3, .int (iI rg)), (4, .int (iI year)), (5, .int (iI sp))]) B.1 B.2.1 dX12_writes_40 hl (by decide) rfl (fun ls hl => ?_)
  refine x_bipush B (by decide) dX12_writes_42 ?_
  refine lv_iload B.1 B.2.1 dX12_writes_44 (lv_at hl 2 rfl) ?_
  refine x_imul B dX12_writes_46 ?_
  refine lv_istore (lv' := [(9, .int (iI (40 * (8 + o)))), (8, .int (iI 0)), (7, .int (iI number)), (6, .int (iI (8 + o))), (0, .ref (am 0)), (1, .int (iI o)), (2, .int (iI number)), (3, .int (iI rg)), (4, .int (iI year)), (5, .int (iI sp))]) B.1 B.2.1 dX12_writes_47 hl (by decide) rfl (fun ls hl => ?_)
  have loop49 : ∀ (n49 : Nat) (v : Int) (le : Int) (i : Int), (xr v) → (le = 0 ∨ le = 1) → (40 * (8 + o) ≤ i ∧ i ≤ 40 * (8 + o) + E 1 (8 + o)) → ((1000 - i : Int)).toNat < n49 → ∀ (H : Heap) (locs : List Loc) (ls : Array Slot), yH D Zk A s w H locs → lv_has ls 10 [(9, .int (iI i)), (8, .int (iI le)), (7, .int (iI v)), (6, .int (iI (8 + o))), (0, .ref (am 0)), (2, .int (iI number))] → W p l e r_c_X12_writes s m args below meth c H locs 0 0 Qf (F0 m 49 ls []) := by
    intro n49
    induction n49 with
    | zero =>
      intro v le i h0 h1 h2 hm49 H locs ls h hl
      exact absurd hm49 (Nat.not_lt_zero _)
    | succ n49 ih49 =>
      intro v le i h0 h1 h2 hm49 H locs ls h hl
      refine lv_iload B.1 B.2.1 dX12_writes_49 (lv_at hl 0 rfl) ?_
      refine x_bipush B (by decide) dX12_writes_51 ?_
      refine lv_iload B.1 B.2.1 dX12_writes_53 (lv_at hl 3 rfl) ?_
      refine x_imul B dX12_writes_55 ?_
      refine lv_aload_n B.1 B.2.1 dX12_writes_56 rfl (lv_at hl 4 rfl) ?_
      refine y_getR B h kX12 50 (MW.f hM 0 _ rfl) 21 (b := am 16) rfl m_1282 (by decide) dX12_writes_57 ?_
      refine lv_iload B.1 B.2.1 dX12_writes_60 (lv_at hl 3 rfl) ?_
      have eb1 := pe_1 (MW.pe hM) ((8 + o))
      refine y_ialdX B h 66 (MW.f hM 16 _ rfl) (by omega) dX12_writes_62 ?_
      refine x_iset (z := (E 1 ((8 + o)))) (by show iI (E 1 ((((8 + o) : Int).toNat : Nat) : Int)) = _; rw [show (((((8 + o) : Int).toNat : Nat) : Int)) = (8 + o) by omega]) ?_
      refine x_iadd B dX12_writes_63 ?_
      refine x_icmp_ge B (by omega) (tgt := 125) dX12_writes_64 (by decide) (fun c2 => ?_) (fun c2 => ?_)
      · refine x_bipush B (by decide) dX12_writes_125 ?_
        refine lv_iload B.1 B.2.1 dX12_writes_127 (lv_at hl 3 rfl) ?_
        refine x_imul B dX12_writes_129 ?_
        refine lv_istore (lv' := [(9, .int (iI (40 * (8 + o)))), (8, .int (iI le)), (7, .int (iI v)), (6, .int (iI (8 + o))), (0, .ref (am 0)), (2, .int (iI number))]) B.1 B.2.1 dX12_writes_130 hl (by decide) rfl (fun ls hl => ?_)
        have loop132 : ∀ (n132 : Nat) (i : Int), (40 * (8 + o) ≤ i ∧ i ≤ 40 * (8 + o) + E 1 (8 + o)) → ((1000 - i : Int)).toNat < n132 → ∀ (H : Heap) (locs : List Loc) (ls : Array Slot), yH D Zk A s w H locs → lv_has ls 10 [(9, .int (iI i)), (7, .int (iI v)), (6, .int (iI (8 + o))), (0, .ref (am 0))] → W p l e r_c_X12_writes s m args below meth c H locs 0 0 Qf (F0 m 132 ls []) := by
          intro n132
          induction n132 with
          | zero =>
            intro i h3 hm132 H locs ls h hl
            exact absurd hm132 (Nat.not_lt_zero _)
          | succ n132 ih132 =>
            intro i h3 hm132 H locs ls h hl
            refine lv_iload B.1 B.2.1 dX12_writes_132 (lv_at hl 0 rfl) ?_
            refine x_bipush B (by decide) dX12_writes_134 ?_
            refine lv_iload B.1 B.2.1 dX12_writes_136 (lv_at hl 2 rfl) ?_
            refine x_imul B dX12_writes_138 ?_
            refine lv_aload_n B.1 B.2.1 dX12_writes_139 rfl (lv_at hl 3 rfl) ?_
            refine y_getR B h kX12 50 (MW.f hM 0 _ rfl) 21 (b := am 16) rfl m_1282 (by decide) dX12_writes_140 ?_
            refine lv_iload B.1 B.2.1 dX12_writes_143 (lv_at hl 2 rfl) ?_
            have eb3 := pe_1 (MW.pe hM) ((8 + o))
            refine y_ialdX B h 66 (MW.f hM 16 _ rfl) (by omega) dX12_writes_145 ?_
            refine x_iset (z := (E 1 ((8 + o)))) (by show iI (E 1 ((((8 + o) : Int).toNat : Nat) : Int)) = _; rw [show (((((8 + o) : Int).toNat : Nat) : Int)) = (8 + o) by omega]) ?_
            refine x_iadd B dX12_writes_146 ?_
            refine x_icmp_ge B (by omega) (tgt := 187) dX12_writes_147 (by decide) (fun c4 => ?_) (fun c4 => ?_)
            · refine lv_iload B.1 B.2.1 dX12_writes_187 (lv_at hl 1 rfl) ?_
              refine y_ri B hQ h (by decide) dX12_writes_189 ?_
              exact ⟨rfl, _, rfl, (by first | omega | trivial | assumption)⟩
            · refine lv_aload_n B.1 B.2.1 dX12_writes_150 rfl (lv_at hl 3 rfl) ?_
              refine y_getR B h kX12 50 (MW.f hM 0 _ rfl) 24 (b := am 18) rfl m_1285 (by decide) dX12_writes_151 ?_
              refine lv_iload B.1 B.2.1 dX12_writes_154 (lv_at hl 0 rfl) ?_
              refine y_iald B h 68 (MW.f hM 18 _ rfl) (by omega) dX12_writes_156 (fun fz5 hfz5 => ?_)
              refine x_name (fun z5 hz5 ez5 => ?_)
              refine x_iconst B dX12_writes_157 ?_
              refine x_icmp_ne B (by omega) (tgt := 181) dX12_writes_158 (by decide) (fun c6 => ?_) (fun c6 => ?_)
              · refine lv_iinc (v := iI (i + 1)) (lv' := [(9, .int (iI (i + 1))), (7, .int (iI v)), (6, .int (iI (8 + o))), (0, .ref (am 0))]) B.1 B.2.1 dX12_writes_181 hl (k := 0) rfl (iI_add _ _) (by decide) rfl (fun ls hl => ?_)
                refine lv_goto (tgt := 132) B.1 B.2.1 dX12_writes_184 (by decide) ?_
                exact ih132 ((i + 1)) (by omega) (by omega) _ _ _ h (lv_sub hl [0, 1, 2, 3] rfl)
              · refine lv_aload_n B.1 B.2.1 dX12_writes_161 rfl (lv_at hl 3 rfl) ?_
                refine y_getR B h kX12 50 (MW.f hM 0 _ rfl) 26 (b := am 20) rfl m_1287 (by decide) dX12_writes_162 ?_
                refine lv_iload B.1 B.2.1 dX12_writes_165 (lv_at hl 0 rfl) ?_
                refine y_iald B h 70 (MW.f hM 20 _ rfl) (by omega) dX12_writes_167 (fun fz7 hfz7 => ?_)
                refine x_name (fun z7 hz7 ez7 => ?_)
                refine lv_iload B.1 B.2.1 dX12_writes_168 (lv_at hl 1 rfl) ?_
                refine x_icmp_ne B (by omega) (tgt := 181) dX12_writes_170 (by decide) (fun c8 => ?_) (fun c8 => ?_)
                · refine lv_iinc (v := iI (i + 1)) (lv' := [(9, .int (iI (i + 1))), (7, .int (iI v)), (6, .int (iI (8 + o))), (0, .ref (am 0))]) B.1 B.2.1 dX12_writes_181 hl (k := 0) rfl (iI_add _ _) (by decide) rfl (fun ls hl => ?_)
                  refine lv_goto (tgt := 132) B.1 B.2.1 dX12_writes_184 (by decide) ?_
                  exact ih132 ((i + 1)) (by omega) (by omega) _ _ _ h (lv_sub hl [0, 1, 2, 3] rfl)
                · refine lv_aload_n B.1 B.2.1 dX12_writes_173 rfl (lv_at hl 3 rfl) ?_
                  refine y_getR B h kX12 50 (MW.f hM 0 _ rfl) 25 (b := am 19) rfl m_1286 (by decide) dX12_writes_174 ?_
                  refine lv_iload B.1 B.2.1 dX12_writes_177 (lv_at hl 0 rfl) ?_
                  have eb9 := pe_5 (MW.pe hM) i
                  refine y_ialdX B h 69 (MW.f hM 19 _ rfl) (by omega) dX12_writes_179 ?_
                  refine x_iset (z := (E 5 i)) (by show iI (E 5 (((i : Int).toNat : Nat) : Int)) = _; rw [show ((((i : Int).toNat : Nat) : Int)) = i by omega]) ?_
                  refine y_ri B hQ h (by decide) dX12_writes_180 ?_
                  exact ⟨rfl, _, rfl, (by first | omega | trivial | assumption)⟩
        exact loop132 (((1000 - ((40 * (8 + o))) : Int)).toNat + 1) ((40 * (8 + o))) (by omega) (Nat.lt_succ_self _) _ _ _ h (lv_sub hl [0, 2, 3, 4] rfl)
      · refine lv_iload B.1 B.2.1 dX12_writes_67 (lv_at hl 1 rfl) ?_
        refine x_if_ne B (by omega) (tgt := 125) dX12_writes_69 (by decide) (fun c10 => ?_) (fun c10 => ?_)
        · refine x_bipush B (by decide) dX12_writes_125 ?_
          refine lv_iload B.1 B.2.1 dX12_writes_127 (lv_at hl 3 rfl) ?_
          refine x_imul B dX12_writes_129 ?_
          refine lv_istore (lv' := [(9, .int (iI (40 * (8 + o)))), (8, .int (iI le)), (7, .int (iI v)), (6, .int (iI (8 + o))), (0, .ref (am 0)), (2, .int (iI number))]) B.1 B.2.1 dX12_writes_130 hl (by decide) rfl (fun ls hl => ?_)
          have loop132 : ∀ (n132 : Nat) (i : Int), (40 * (8 + o) ≤ i ∧ i ≤ 40 * (8 + o) + E 1 (8 + o)) → ((1000 - i : Int)).toNat < n132 → ∀ (H : Heap) (locs : List Loc) (ls : Array Slot), yH D Zk A s w H locs → lv_has ls 10 [(9, .int (iI i)), (7, .int (iI v)), (6, .int (iI (8 + o))), (0, .ref (am 0))] → W p l e r_c_X12_writes s m args below meth c H locs 0 0 Qf (F0 m 132 ls []) := by
            intro n132
            induction n132 with
            | zero =>
              intro i h3 hm132 H locs ls h hl
              exact absurd hm132 (Nat.not_lt_zero _)
            | succ n132 ih132 =>
              intro i h3 hm132 H locs ls h hl
              refine lv_iload B.1 B.2.1 dX12_writes_132 (lv_at hl 0 rfl) ?_
              refine x_bipush B (by decide) dX12_writes_134 ?_
              refine lv_iload B.1 B.2.1 dX12_writes_136 (lv_at hl 2 rfl) ?_
              refine x_imul B dX12_writes_138 ?_
              refine lv_aload_n B.1 B.2.1 dX12_writes_139 rfl (lv_at hl 3 rfl) ?_
              refine y_getR B h kX12 50 (MW.f hM 0 _ rfl) 21 (b := am 16) rfl m_1282 (by decide) dX12_writes_140 ?_
              refine lv_iload B.1 B.2.1 dX12_writes_143 (lv_at hl 2 rfl) ?_
              have eb11 := pe_1 (MW.pe hM) ((8 + o))
              refine y_ialdX B h 66 (MW.f hM 16 _ rfl) (by omega) dX12_writes_145 ?_
              refine x_iset (z := (E 1 ((8 + o)))) (by show iI (E 1 ((((8 + o) : Int).toNat : Nat) : Int)) = _; rw [show (((((8 + o) : Int).toNat : Nat) : Int)) = (8 + o) by omega]) ?_
              refine x_iadd B dX12_writes_146 ?_
              refine x_icmp_ge B (by omega) (tgt := 187) dX12_writes_147 (by decide) (fun c12 => ?_) (fun c12 => ?_)
              · refine lv_iload B.1 B.2.1 dX12_writes_187 (lv_at hl 1 rfl) ?_
                refine y_ri B hQ h (by decide) dX12_writes_189 ?_
                exact ⟨rfl, _, rfl, (by first | omega | trivial | assumption)⟩
              · refine lv_aload_n B.1 B.2.1 dX12_writes_150 rfl (lv_at hl 3 rfl) ?_
                refine y_getR B h kX12 50 (MW.f hM 0 _ rfl) 24 (b := am 18) rfl m_1285 (by decide) dX12_writes_151 ?_
                refine lv_iload B.1 B.2.1 dX12_writes_154 (lv_at hl 0 rfl) ?_
                refine y_iald B h 68 (MW.f hM 18 _ rfl) (by omega) dX12_writes_156 (fun fz13 hfz13 => ?_)
                refine x_name (fun z13 hz13 ez13 => ?_)
                refine x_iconst B dX12_writes_157 ?_
                refine x_icmp_ne B (by omega) (tgt := 181) dX12_writes_158 (by decide) (fun c14 => ?_) (fun c14 => ?_)
                · refine lv_iinc (v := iI (i + 1)) (lv' := [(9, .int (iI (i + 1))), (7, .int (iI v)), (6, .int (iI (8 + o))), (0, .ref (am 0))]) B.1 B.2.1 dX12_writes_181 hl (k := 0) rfl (iI_add _ _) (by decide) rfl (fun ls hl => ?_)
                  refine lv_goto (tgt := 132) B.1 B.2.1 dX12_writes_184 (by decide) ?_
                  exact ih132 ((i + 1)) (by omega) (by omega) _ _ _ h (lv_sub hl [0, 1, 2, 3] rfl)
                · refine lv_aload_n B.1 B.2.1 dX12_writes_161 rfl (lv_at hl 3 rfl) ?_
                  refine y_getR B h kX12 50 (MW.f hM 0 _ rfl) 26 (b := am 20) rfl m_1287 (by decide) dX12_writes_162 ?_
                  refine lv_iload B.1 B.2.1 dX12_writes_165 (lv_at hl 0 rfl) ?_
                  refine y_iald B h 70 (MW.f hM 20 _ rfl) (by omega) dX12_writes_167 (fun fz15 hfz15 => ?_)
                  refine x_name (fun z15 hz15 ez15 => ?_)
                  refine lv_iload B.1 B.2.1 dX12_writes_168 (lv_at hl 1 rfl) ?_
                  refine x_icmp_ne B (by omega) (tgt := 181) dX12_writes_170 (by decide) (fun c16 => ?_) (fun c16 => ?_)
                  · refine lv_iinc (v := iI (i + 1)) (lv' := [(9, .int (iI (i + 1))), (7, .int (iI v)), (6, .int (iI (8 + o))), (0, .ref (am 0))]) B.1 B.2.1 dX12_writes_181 hl (k := 0) rfl (iI_add _ _) (by decide) rfl (fun ls hl => ?_)
                    refine lv_goto (tgt := 132) B.1 B.2.1 dX12_writes_184 (by decide) ?_
                    exact ih132 ((i + 1)) (by omega) (by omega) _ _ _ h (lv_sub hl [0, 1, 2, 3] rfl)
                  · refine lv_aload_n B.1 B.2.1 dX12_writes_173 rfl (lv_at hl 3 rfl) ?_
                    refine y_getR B h kX12 50 (MW.f hM 0 _ rfl) 25 (b := am 19) rfl m_1286 (by decide) dX12_writes_174 ?_
                    refine lv_iload B.1 B.2.1 dX12_writes_177 (lv_at hl 0 rfl) ?_
                    have eb17 := pe_5 (MW.pe hM) i
                    refine y_ialdX B h 69 (MW.f hM 19 _ rfl) (by omega) dX12_writes_179 ?_
                    refine x_iset (z := (E 5 i)) (by show iI (E 5 (((i : Int).toNat : Nat) : Int)) = _; rw [show ((((i : Int).toNat : Nat) : Int)) = i by omega]) ?_
                    refine y_ri B hQ h (by decide) dX12_writes_180 ?_
                    exact ⟨rfl, _, rfl, (by first | omega | trivial | assumption)⟩
          exact loop132 (((1000 - ((40 * (8 + o))) : Int)).toNat + 1) ((40 * (8 + o))) (by omega) (Nat.lt_succ_self _) _ _ _ h (lv_sub hl [0, 2, 3, 4] rfl)
        · refine lv_aload_n B.1 B.2.1 dX12_writes_72 rfl (lv_at hl 4 rfl) ?_
          refine y_getR B h kX12 50 (MW.f hM 0 _ rfl) 24 (b := am 18) rfl m_1285 (by decide) dX12_writes_73 ?_
          refine lv_iload B.1 B.2.1 dX12_writes_76 (lv_at hl 0 rfl) ?_
          refine y_iald B h 68 (MW.f hM 18 _ rfl) (by omega) dX12_writes_78 (fun fz18 hfz18 => ?_)
          refine x_name (fun z18 hz18 ez18 => ?_)
          refine x_if_ne B (by omega) (tgt := 97) dX12_writes_79 (by decide) (fun c19 => ?_) (fun c19 => ?_)
          · refine x_iconst B dX12_writes_97 ?_
            refine lv_istore (lv' := [(8, .int (iI 0)), (9, .int (iI i)), (7, .int (iI v)), (6, .int (iI (8 + o))), (0, .ref (am 0)), (2, .int (iI number))]) B.1 B.2.1 dX12_writes_98 hl (by decide) rfl (fun ls hl => ?_)
            refine lv_iload B.1 B.2.1 dX12_writes_100 (lv_at hl 0 rfl) ?_
            refine x_if_eq B (by omega) (tgt := 119) dX12_writes_102 (by decide) (fun c20 => ?_) (fun c20 => ?_)
            · refine lv_iinc (v := iI (i + 1)) (lv' := [(9, .int (iI (i + 1))), (8, .int (iI 0)), (7, .int (iI v)), (6, .int (iI (8 + o))), (0, .ref (am 0)), (2, .int (iI number))]) B.1 B.2.1 dX12_writes_119 hl (k := 1) rfl (iI_add _ _) (by decide) rfl (fun ls hl => ?_)
              refine lv_goto (tgt := 49) B.1 B.2.1 dX12_writes_122 (by decide) ?_
              exact ih49 v 0 ((i + 1)) (by omega) (by omega) (by omega) (by omega) _ _ _ h (lv_sub hl [0, 1, 2, 3, 4, 5] rfl)
            · exact absurd c20 (by omega)
          · refine lv_aload_n B.1 B.2.1 dX12_writes_82 rfl (lv_at hl 4 rfl) ?_
            refine lv_iload B.1 B.2.1 dX12_writes_83 (lv_at hl 3 rfl) ?_
            refine lv_iload B.1 B.2.1 dX12_writes_85 (lv_at hl 0 rfl) ?_
            refine y_cV B h kX12 50 (MW.f hM 0 _ rfl) k_X12_holds rfl (c_X12_holds l D Zk ca T E am _ hM ((8 + o)) i  ((pe_h (MW.pe hM) (q := (8 + o)) (i := i) (Or.inr (by omega)) (by omega)).1) ((pe_h (MW.pe hM) (q := (8 + o)) (i := i) (Or.inr (by omega)) (by omega)).2) (by omega) (by omega)) m_1675 rfl (by decide) hl.1 [] (Nat.le_of_ble_eq_true rfl) rfl dX12_writes_87 (fun r w1 hq H locs h => ?_)
            obtain ⟨rfl, _, rfl, ⟨rfl, b21⟩ | ⟨rfl, b21⟩⟩ := hq
            · show W p l e r_c_X12_writes s m args below meth c _ _ 0 0 Qf (F0 m 90 ls [.int (iI 1)])
              refine x_if_eq B (by omega) (tgt := 97) dX12_writes_90 (by decide) (fun c22 => ?_) (fun c22 => ?_)
              · exact absurd c22 (by omega)
              · refine x_iconst B dX12_writes_93 ?_
                refine lv_goto (tgt := 98) B.1 B.2.1 dX12_writes_94 (by decide) ?_
                refine lv_istore (lv' := [(8, .int (iI 1)), (9, .int (iI i)), (7, .int (iI v)), (6, .int (iI (8 + o))), (0, .ref (am 0)), (2, .int (iI number))]) B.1 B.2.1 dX12_writes_98 hl (by decide) rfl (fun ls hl => ?_)
                refine lv_iload B.1 B.2.1 dX12_writes_100 (lv_at hl 0 rfl) ?_
                refine x_if_eq B (by omega) (tgt := 119) dX12_writes_102 (by decide) (fun c23 => ?_) (fun c23 => ?_)
                · exact absurd c23 (by omega)
                · refine lv_iload_n B.1 B.2.1 dX12_writes_105 rfl (lv_at hl 5 rfl) ?_
                  refine lv_aload_n B.1 B.2.1 dX12_writes_106 rfl (lv_at hl 4 rfl) ?_
                  refine y_getR B h kX12 50 (MW.f hM 0 _ rfl) 25 (b := am 19) rfl m_1286 (by decide) dX12_writes_107 ?_
                  refine lv_iload B.1 B.2.1 dX12_writes_110 (lv_at hl 1 rfl) ?_
                  have eb24 := pe_5 (MW.pe hM) i
                  refine y_ialdX B h 69 (MW.f hM 19 _ rfl) (by omega) dX12_writes_112 ?_
                  refine x_iset (z := (E 5 i)) (by show iI (E 5 (((i : Int).toNat : Nat) : Int)) = _; rw [show ((((i : Int).toNat : Nat) : Int)) = i by omega]) ?_
                  refine x_iadd B dX12_writes_113 ?_
                  refine x_name (fun z25 hz25 ez25 => ?_)
                  refine y_cS B h k_X12_held (c_X12_held l D Zk ca _ z25  (by omega)) m_1691 rfl (by decide) hl.1 [] (Nat.le_of_ble_eq_true rfl) rfl dX12_writes_114 (fun r w1 hq H locs h => ?_)
                  obtain ⟨rfl, z26, rfl, hz26⟩ := hq
                  show W p l e r_c_X12_writes s m args below meth c _ _ 0 0 Qf (F0 m 117 ls [.int (iI z26)])
                  refine lv_istore (lv' := [(7, .int (iI z26)), (8, .int (iI 1)), (9, .int (iI i)), (6, .int (iI (8 + o))), (0, .ref (am 0)), (2, .int (iI number))]) B.1 B.2.1 dX12_writes_117 hl (by decide) rfl (fun ls hl => ?_)
                  refine lv_iinc (v := iI (i + 1)) (lv' := [(9, .int (iI (i + 1))), (7, .int (iI z26)), (8, .int (iI 1)), (6, .int (iI (8 + o))), (0, .ref (am 0)), (2, .int (iI number))]) B.1 B.2.1 dX12_writes_119 hl (k := 2) rfl (iI_add _ _) (by decide) rfl (fun ls hl => ?_)
                  refine lv_goto (tgt := 49) B.1 B.2.1 dX12_writes_122 (by decide) ?_
                  exact ih49 z26 1 ((i + 1)) (by omega) (by omega) (by omega) (by omega) _ _ _ h (lv_sub hl [0, 2, 1, 3, 4, 5] rfl)
            · show W p l e r_c_X12_writes s m args below meth c _ _ 0 0 Qf (F0 m 90 ls [.int (iI 0)])
              refine x_if_eq B (by omega) (tgt := 97) dX12_writes_90 (by decide) (fun c27 => ?_) (fun c27 => ?_)
              · refine x_iconst B dX12_writes_97 ?_
                refine lv_istore (lv' := [(8, .int (iI 0)), (9, .int (iI i)), (7, .int (iI v)), (6, .int (iI (8 + o))), (0, .ref (am 0)), (2, .int (iI number))]) B.1 B.2.1 dX12_writes_98 hl (by decide) rfl (fun ls hl => ?_)
                refine lv_iload B.1 B.2.1 dX12_writes_100 (lv_at hl 0 rfl) ?_
                refine x_if_eq B (by omega) (tgt := 119) dX12_writes_102 (by decide) (fun c28 => ?_) (fun c28 => ?_)
                · refine lv_iinc (v := iI (i + 1)) (lv' := [(9, .int (iI (i + 1))), (8, .int (iI 0)), (7, .int (iI v)), (6, .int (iI (8 + o))), (0, .ref (am 0)), (2, .int (iI number))]) B.1 B.2.1 dX12_writes_119 hl (k := 1) rfl (iI_add _ _) (by decide) rfl (fun ls hl => ?_)
                  refine lv_goto (tgt := 49) B.1 B.2.1 dX12_writes_122 (by decide) ?_
                  exact ih49 v 0 ((i + 1)) (by omega) (by omega) (by omega) (by omega) _ _ _ h (lv_sub hl [0, 1, 2, 3, 4, 5] rfl)
                · exact absurd c28 (by omega)
              · exact absurd c27 (by omega)
  exact loop49 (((1000 - ((40 * (8 + o))) : Int)).toNat + 1) number 0 ((40 * (8 + o))) (by omega) (by omega) (by omega) (Nat.lt_succ_self _) _ _ _ h (lv_sub hl [0, 1, 2, 3, 4, 6] rfl)
abbrev r_c_X12_reads_ : Room := { frames := 3, cells := 0, slots := 0, locals := 79 }
set_option maxHeartbeats 4000000 in
set_option maxRecDepth 100000 in
theorem c_X12_reads_ (l : Launch) (D : va_G) (Zk : yK) (ca : Nat → ClassId) (T : Nat → Int → Int) (E : Nat → Int → Int) (am : Nat → Nat) (w : yW) (hM : MW ca T E am w) (year : Int) (kind : Int) (wind : Int) (mix : Int)  (hyear : xr year) (hkind : xr kind) (hwind : xr wind) (hmix : xr mix) : yC l D Zk ca yX12_reads_ cX12_reads_ 5 (some .int) r_c_X12_reads_ [.ref (am 0), .int (iI year), .int (iI kind), .int (iI wind), .int (iI mix)] w (vI w (fun z => xr z)) := by
  refine yC.of2 "WindWordsModel" (by decide) rfl (Nat.le_of_ble_eq_true rfl) ?_
  intro p e s m args below meth c A ls Qf B hnm h hl hQ
  have hl : lv_has ls 5 [(0, .ref (am 0)), (1, .int (iI year)), (2, .int (iI kind)), (3, .int (iI wind)), (4, .int (iI mix))] := hl
  have hs := pi_s (MW.pi hM)
  have hpe := pe_0 (MW.pe hM)
  refine lv_iload_n B.1 B.2.1 dX12_reads__0 rfl (lv_at hl 1 rfl) ?_
  refine x_iconst B dX12_reads__1 ?_
  refine x_bipush B (by decide) dX12_reads__2 ?_
  refine y_cS B h k_X12_within (c_X12_within l D Zk ca _ year 0 9  (by omega) (by omega) (by omega)) m_1515 rfl (by decide) hl.1 [] (Nat.le_of_ble_eq_true rfl) rfl dX12_reads__4 (fun r w1 hq H locs h => ?_)
  obtain ⟨rfl, _, rfl, ⟨rfl, b1⟩ | ⟨rfl, b1⟩⟩ := hq
  · show W p l e r_c_X12_reads_ s m args below meth c _ _ 0 0 Qf (F0 m 7 ls [.int (iI 1)])
    refine x_if_eq B (by omega) (tgt := 40) dX12_reads__7 (by decide) (fun c2 => ?_) (fun c2 => ?_)
    · exact absurd c2 (by omega)
    · refine lv_iload_n B.1 B.2.1 dX12_reads__10 rfl (lv_at hl 2 rfl) ?_
      refine x_iconst B dX12_reads__11 ?_
      refine x_iconst B dX12_reads__12 ?_
      refine y_cS B h k_X12_within (c_X12_within l D Zk ca _ kind 0 2  (by omega) (by omega) (by omega)) m_1515 rfl (by decide) hl.1 [] (Nat.le_of_ble_eq_true rfl) rfl dX12_reads__13 (fun r w1 hq H locs h => ?_)
      obtain ⟨rfl, _, rfl, ⟨rfl, b3⟩ | ⟨rfl, b3⟩⟩ := hq
      · show W p l e r_c_X12_reads_ s m args below meth c _ _ 0 0 Qf (F0 m 16 ls [.int (iI 1)])
        refine x_if_eq B (by omega) (tgt := 40) dX12_reads__16 (by decide) (fun c4 => ?_) (fun c4 => ?_)
        · exact absurd c4 (by omega)
        · refine lv_iload_n B.1 B.2.1 dX12_reads__19 rfl (lv_at hl 3 rfl) ?_
          refine x_iconst B dX12_reads__20 ?_
          refine x_bipush B (by decide) dX12_reads__21 ?_
          refine y_cS B h k_X12_within (c_X12_within l D Zk ca _ wind 0 99  (by omega) (by omega) (by omega)) m_1515 rfl (by decide) hl.1 [] (Nat.le_of_ble_eq_true rfl) rfl dX12_reads__23 (fun r w1 hq H locs h => ?_)
          obtain ⟨rfl, _, rfl, ⟨rfl, b5⟩ | ⟨rfl, b5⟩⟩ := hq
          · show W p l e r_c_X12_reads_ s m args below meth c _ _ 0 0 Qf (F0 m 26 ls [.int (iI 1)])
            refine x_if_eq B (by omega) (tgt := 40) dX12_reads__26 (by decide) (fun c6 => ?_) (fun c6 => ?_)
            · exact absurd c6 (by omega)
            · refine lv_iload B.1 B.2.1 dX12_reads__29 (lv_at hl 4 rfl) ?_
              refine x_iconst B dX12_reads__31 ?_
              refine x_bipush B (by decide) dX12_reads__32 ?_
              refine y_cS B h k_X12_within (c_X12_within l D Zk ca _ mix 0 39  (by omega) (by omega) (by omega)) m_1515 rfl (by decide) hl.1 [] (Nat.le_of_ble_eq_true rfl) rfl dX12_reads__34 (fun r w1 hq H locs h => ?_)
              obtain ⟨rfl, _, rfl, ⟨rfl, b7⟩ | ⟨rfl, b7⟩⟩ := hq
              · show W p l e r_c_X12_reads_ s m args below meth c _ _ 0 0 Qf (F0 m 37 ls [.int (iI 1)])
                refine x_if_ne B (by omega) (tgt := 42) dX12_reads__37 (by decide) (fun c8 => ?_) (fun c8 => ?_)
                · refine lv_aload_n B.1 B.2.1 dX12_reads__42 rfl (lv_at hl 0 rfl) ?_
                  refine lv_iload_n B.1 B.2.1 dX12_reads__43 rfl (lv_at hl 2 rfl) ?_
                  refine lv_iload_n B.1 B.2.1 dX12_reads__44 rfl (lv_at hl 3 rfl) ?_
                  refine lv_iload B.1 B.2.1 dX12_reads__45 (lv_at hl 4 rfl) ?_
                  refine x_bipush B (by decide) dX12_reads__47 ?_
                  refine x_idiv B (by omega) dX12_reads__49 ?_
                  refine lv_iload B.1 B.2.1 dX12_reads__50 (lv_at hl 4 rfl) ?_
                  refine x_bipush B (by decide) dX12_reads__52 ?_
                  refine x_irem B (by omega) dX12_reads__54 ?_
                  refine lv_iload_n B.1 B.2.1 dX12_reads__55 rfl (lv_at hl 1 rfl) ?_
                  refine y_cV B h kX12 50 (MW.f hM 0 _ rfl) k_X12_readIn rfl (c_X12_readIn l D Zk ca T E am _ hM kind wind ((mix / 10)) ((mix % 10)) year  (by omega) (by omega) (by omega) (by omega) (by omega)) m_1663 rfl (by decide) hl.1 [] (Nat.le_of_ble_eq_true rfl) rfl dX12_reads__56 (fun r w1 hq H locs h => ?_)
                  obtain ⟨rfl, z9, rfl, hz9⟩ := hq
                  show W p l e r_c_X12_reads_ s m args below meth c _ _ 0 0 Qf (F0 m 59 ls [.int (iI z9)])
                  refine y_ri B hQ h (by decide) dX12_reads__59 ?_
                  exact ⟨rfl, _, rfl, (by first | omega | trivial | assumption)⟩
                · exact absurd c8 (by omega)
              · show W p l e r_c_X12_reads_ s m args below meth c _ _ 0 0 Qf (F0 m 37 ls [.int (iI 0)])
                refine x_if_ne B (by omega) (tgt := 42) dX12_reads__37 (by decide) (fun c10 => ?_) (fun c10 => ?_)
                · exact absurd c10 (by omega)
                · refine x_iconst B dX12_reads__40 ?_
                  refine y_ri B hQ h (by decide) dX12_reads__41 ?_
                  exact ⟨rfl, _, rfl, (by first | omega | trivial | assumption)⟩
          · show W p l e r_c_X12_reads_ s m args below meth c _ _ 0 0 Qf (F0 m 26 ls [.int (iI 0)])
            refine x_if_eq B (by omega) (tgt := 40) dX12_reads__26 (by decide) (fun c11 => ?_) (fun c11 => ?_)
            · refine x_iconst B dX12_reads__40 ?_
              refine y_ri B hQ h (by decide) dX12_reads__41 ?_
              exact ⟨rfl, _, rfl, (by first | omega | trivial | assumption)⟩
            · exact absurd c11 (by omega)
      · show W p l e r_c_X12_reads_ s m args below meth c _ _ 0 0 Qf (F0 m 16 ls [.int (iI 0)])
        refine x_if_eq B (by omega) (tgt := 40) dX12_reads__16 (by decide) (fun c12 => ?_) (fun c12 => ?_)
        · refine x_iconst B dX12_reads__40 ?_
          refine y_ri B hQ h (by decide) dX12_reads__41 ?_
          exact ⟨rfl, _, rfl, (by first | omega | trivial | assumption)⟩
        · exact absurd c12 (by omega)
  · show W p l e r_c_X12_reads_ s m args below meth c _ _ 0 0 Qf (F0 m 7 ls [.int (iI 0)])
    refine x_if_eq B (by omega) (tgt := 40) dX12_reads__7 (by decide) (fun c13 => ?_) (fun c13 => ?_)
    · refine x_iconst B dX12_reads__40 ?_
      refine y_ri B hQ h (by decide) dX12_reads__41 ?_
      exact ⟨rfl, _, rfl, (by first | omega | trivial | assumption)⟩
    · exact absurd c13 (by omega)
abbrev r_c_X12_blow : Room := { frames := 3, cells := 0, slots := 0, locals := 79 }
set_option maxHeartbeats 4000000 in
set_option maxRecDepth 100000 in
theorem c_X12_blow (l : Launch) (D : va_G) (Zk : yK) (ca : Nat → ClassId) (T : Nat → Int → Int) (E : Nat → Int → Int) (am : Nat → Nat) (w : yW) (hM : MW ca T E am w) (ship : Int) (watch : Int) (kind : Int) (wind : Int) (depth : Int)  (hship : xr ship) (hwatch : xr watch) (hkind : xr kind) (hwind : xr wind) (hdepth : xr depth) : yC l D Zk ca yX12_blow cX12_blow 6 (some .int) r_c_X12_blow [.ref (am 0), .int (iI ship), .int (iI watch), .int (iI kind), .int (iI wind), .int (iI depth)] w (vI w (fun z => xr z)) := by
  refine yC.of2 "WindWordsModel" (by decide) rfl (Nat.le_of_ble_eq_true rfl) ?_
  intro p e s m args below meth c A ls Qf B hnm h hl hQ
  have hl : lv_has ls 6 [(0, .ref (am 0)), (1, .int (iI ship)), (2, .int (iI watch)), (3, .int (iI kind)), (4, .int (iI wind)), (5, .int (iI depth))] := hl
  have hs := pi_s (MW.pi hM)
  have hpe := pe_0 (MW.pe hM)
  refine lv_aload_n B.1 B.2.1 dX12_blow_0 rfl (lv_at hl 0 rfl) ?_
  refine lv_iload_n B.1 B.2.1 dX12_blow_1 rfl (lv_at hl 1 rfl) ?_
  refine y_cV B h kX12 50 (MW.f hM 0 _ rfl) k_X12_isShip rfl (c_X12_isShip l D Zk ca T E am _ hM ship  (by omega)) m_1526 rfl (by decide) hl.1 [] (Nat.le_of_ble_eq_true rfl) rfl dX12_blow_2 (fun r w1 hq H locs h => ?_)
  obtain ⟨rfl, _, rfl, ⟨rfl, b1⟩ | ⟨rfl, b1⟩⟩ := hq
  · show W p l e r_c_X12_blow s m args below meth c _ _ 0 0 Qf (F0 m 5 ls [.int (iI 1)])
    refine x_if_eq B (by omega) (tgt := 50) dX12_blow_5 (by decide) (fun c2 => ?_) (fun c2 => ?_)
    · exact absurd c2 (by omega)
    · refine lv_iload_n B.1 B.2.1 dX12_blow_8 rfl (lv_at hl 2 rfl) ?_
      refine x_iconst B dX12_blow_9 ?_
      refine x_sipush B (by decide) dX12_blow_10 ?_
      refine y_cS B h k_X12_within (c_X12_within l D Zk ca _ watch 0 999  (by omega) (by omega) (by omega)) m_1515 rfl (by decide) hl.1 [] (Nat.le_of_ble_eq_true rfl) rfl dX12_blow_13 (fun r w1 hq H locs h => ?_)
      obtain ⟨rfl, _, rfl, ⟨rfl, b3⟩ | ⟨rfl, b3⟩⟩ := hq
      · show W p l e r_c_X12_blow s m args below meth c _ _ 0 0 Qf (F0 m 16 ls [.int (iI 1)])
        refine x_if_eq B (by omega) (tgt := 50) dX12_blow_16 (by decide) (fun c4 => ?_) (fun c4 => ?_)
        · exact absurd c4 (by omega)
        · refine lv_iload_n B.1 B.2.1 dX12_blow_19 rfl (lv_at hl 3 rfl) ?_
          refine x_iconst B dX12_blow_20 ?_
          refine x_iconst B dX12_blow_21 ?_
          refine y_cS B h k_X12_within (c_X12_within l D Zk ca _ kind 0 2  (by omega) (by omega) (by omega)) m_1515 rfl (by decide) hl.1 [] (Nat.le_of_ble_eq_true rfl) rfl dX12_blow_22 (fun r w1 hq H locs h => ?_)
          obtain ⟨rfl, _, rfl, ⟨rfl, b5⟩ | ⟨rfl, b5⟩⟩ := hq
          · show W p l e r_c_X12_blow s m args below meth c _ _ 0 0 Qf (F0 m 25 ls [.int (iI 1)])
            refine x_if_eq B (by omega) (tgt := 50) dX12_blow_25 (by decide) (fun c6 => ?_) (fun c6 => ?_)
            · exact absurd c6 (by omega)
            · refine lv_iload B.1 B.2.1 dX12_blow_28 (lv_at hl 4 rfl) ?_
              refine x_iconst B dX12_blow_30 ?_
              refine x_bipush B (by decide) dX12_blow_31 ?_
              refine y_cS B h k_X12_within (c_X12_within l D Zk ca _ wind 0 99  (by omega) (by omega) (by omega)) m_1515 rfl (by decide) hl.1 [] (Nat.le_of_ble_eq_true rfl) rfl dX12_blow_33 (fun r w1 hq H locs h => ?_)
              obtain ⟨rfl, _, rfl, ⟨rfl, b7⟩ | ⟨rfl, b7⟩⟩ := hq
              · show W p l e r_c_X12_blow s m args below meth c _ _ 0 0 Qf (F0 m 36 ls [.int (iI 1)])
                refine x_if_eq B (by omega) (tgt := 50) dX12_blow_36 (by decide) (fun c8 => ?_) (fun c8 => ?_)
                · exact absurd c8 (by omega)
                · refine lv_iload B.1 B.2.1 dX12_blow_39 (lv_at hl 5 rfl) ?_
                  refine x_iconst B dX12_blow_41 ?_
                  refine x_bipush B (by decide) dX12_blow_42 ?_
                  refine y_cS B h k_X12_within (c_X12_within l D Zk ca _ depth 0 9  (by omega) (by omega) (by omega)) m_1515 rfl (by decide) hl.1 [] (Nat.le_of_ble_eq_true rfl) rfl dX12_blow_44 (fun r w1 hq H locs h => ?_)
                  obtain ⟨rfl, _, rfl, ⟨rfl, b9⟩ | ⟨rfl, b9⟩⟩ := hq
                  · show W p l e r_c_X12_blow s m args below meth c _ _ 0 0 Qf (F0 m 47 ls [.int (iI 1)])
                    refine x_if_ne B (by omega) (tgt := 52) dX12_blow_47 (by decide) (fun c10 => ?_) (fun c10 => ?_)
                    · refine lv_aload_n B.1 B.2.1 dX12_blow_52 rfl (lv_at hl 0 rfl) ?_
                      refine lv_aload_n B.1 B.2.1 dX12_blow_53 rfl (lv_at hl 0 rfl) ?_
                      refine lv_iload_n B.1 B.2.1 dX12_blow_54 rfl (lv_at hl 1 rfl) ?_
                      refine lv_iload_n B.1 B.2.1 dX12_blow_55 rfl (lv_at hl 2 rfl) ?_
                      refine y_cV B h kX12 50 (MW.f hM 0 _ rfl) k_X12_officerOf rfl (c_X12_officerOf l D Zk ca T E am _ hM ship watch  (by omega) (by omega)) m_1683 rfl (by decide) hl.1 [.ref (am 0)] (Nat.le_of_ble_eq_true rfl) rfl dX12_blow_56 (fun r w1 hq H locs h => ?_)
                      obtain ⟨rfl, z11, rfl, hz11⟩ := hq
                      show W p l e r_c_X12_blow s m args below meth c _ _ 0 0 Qf (F0 m 59 ls [.int (iI z11), .ref (am 0)])
                      refine lv_aload_n B.1 B.2.1 dX12_blow_59 rfl (lv_at hl 0 rfl) ?_
                      refine lv_iload_n B.1 B.2.1 dX12_blow_60 rfl (lv_at hl 3 rfl) ?_
                      refine lv_iload B.1 B.2.1 dX12_blow_61 (lv_at hl 4 rfl) ?_
                      refine lv_aload_n B.1 B.2.1 dX12_blow_63 rfl (lv_at hl 0 rfl) ?_
                      refine y_getR B h kX12 50 (MW.f hM 0 _ rfl) 8 (b := am 3) rfl m_1269 (by decide) dX12_blow_64 ?_
                      refine lv_iload_n B.1 B.2.1 dX12_blow_67 rfl (lv_at hl 1 rfl) ?_
                      refine y_ialdX B h 53 (MW.f hM 3 _ rfl) (by omega) dX12_blow_68 ?_
                      refine x_iset (z := (T 1 ship)) (by show iI (T 1 (((ship : Int).toNat : Nat) : Int)) = _; rw [show ((((ship : Int).toNat : Nat) : Int)) = ship by omega]) ?_
                      have tb12 := pi_1 (MW.pi hM) ship
                      refine lv_iload B.1 B.2.1 dX12_blow_69 (lv_at hl 5 rfl) ?_
                      refine lv_iload_n B.1 B.2.1 dX12_blow_71 rfl (lv_at hl 2 rfl) ?_
                      refine x_bipush B (by decide) dX12_blow_72 ?_
                      refine x_idiv B (by omega) dX12_blow_74 ?_
                      refine y_cV B h kX12 50 (MW.f hM 0 _ rfl) k_X12_readIn rfl (c_X12_readIn l D Zk ca T E am _ hM kind wind ((T 1 ship)) depth ((watch / 100))  (by omega) (by omega) (by omega) (by omega) (by omega)) m_1663 rfl (by decide) hl.1 [.int (iI z11), .ref (am 0)] (Nat.le_of_ble_eq_true rfl) rfl dX12_blow_75 (fun r w1 hq H locs h => ?_)
                      obtain ⟨rfl, z13, rfl, hz13⟩ := hq
                      show W p l e r_c_X12_blow s m args below meth c _ _ 0 0 Qf (F0 m 78 ls [.int (iI z13), .int (iI z11), .ref (am 0)])
                      refine lv_aload_n B.1 B.2.1 dX12_blow_78 rfl (lv_at hl 0 rfl) ?_
                      refine y_getR B h kX12 50 (MW.f hM 0 _ rfl) 8 (b := am 3) rfl m_1269 (by decide) dX12_blow_79 ?_
                      refine lv_iload_n B.1 B.2.1 dX12_blow_82 rfl (lv_at hl 1 rfl) ?_
                      refine y_ialdX B h 53 (MW.f hM 3 _ rfl) (by omega) dX12_blow_83 ?_
                      refine x_iset (z := (T 1 ship)) (by show iI (T 1 (((ship : Int).toNat : Nat) : Int)) = _; rw [show ((((ship : Int).toNat : Nat) : Int)) = ship by omega]) ?_
                      refine lv_iload_n B.1 B.2.1 dX12_blow_84 rfl (lv_at hl 2 rfl) ?_
                      refine x_bipush B (by decide) dX12_blow_85 ?_
                      refine x_idiv B (by omega) dX12_blow_87 ?_
                      refine x_iconst B dX12_blow_88 ?_
                      refine y_cV B h kX12 50 (MW.f hM 0 _ rfl) k_X12_writes rfl (c_X12_writes l D Zk ca T E am _ hM z11 z13 ((T 1 ship)) ((watch / 100)) 0  (by omega) (by omega) (by omega) (by omega) (by omega)) m_1687 rfl (by decide) hl.1 [] (Nat.le_of_ble_eq_true rfl) rfl dX12_blow_89 (fun r w1 hq H locs h => ?_)
                      obtain ⟨rfl, z14, rfl, hz14⟩ := hq
                      show W p l e r_c_X12_blow s m args below meth c _ _ 0 0 Qf (F0 m 92 ls [.int (iI z14)])
                      refine y_ri B hQ h (by decide) dX12_blow_92 ?_
                      exact ⟨rfl, _, rfl, (by first | omega | trivial | assumption)⟩
                    · exact absurd c10 (by omega)
                  · show W p l e r_c_X12_blow s m args below meth c _ _ 0 0 Qf (F0 m 47 ls [.int (iI 0)])
                    refine x_if_ne B (by omega) (tgt := 52) dX12_blow_47 (by decide) (fun c15 => ?_) (fun c15 => ?_)
                    · exact absurd c15 (by omega)
                    · refine x_iconst B dX12_blow_50 ?_
                      refine y_ri B hQ h (by decide) dX12_blow_51 ?_
                      exact ⟨rfl, _, rfl, (by first | omega | trivial | assumption)⟩
              · show W p l e r_c_X12_blow s m args below meth c _ _ 0 0 Qf (F0 m 36 ls [.int (iI 0)])
                refine x_if_eq B (by omega) (tgt := 50) dX12_blow_36 (by decide) (fun c16 => ?_) (fun c16 => ?_)
                · refine x_iconst B dX12_blow_50 ?_
                  refine y_ri B hQ h (by decide) dX12_blow_51 ?_
                  exact ⟨rfl, _, rfl, (by first | omega | trivial | assumption)⟩
                · exact absurd c16 (by omega)
          · show W p l e r_c_X12_blow s m args below meth c _ _ 0 0 Qf (F0 m 25 ls [.int (iI 0)])
            refine x_if_eq B (by omega) (tgt := 50) dX12_blow_25 (by decide) (fun c17 => ?_) (fun c17 => ?_)
            · refine x_iconst B dX12_blow_50 ?_
              refine y_ri B hQ h (by decide) dX12_blow_51 ?_
              exact ⟨rfl, _, rfl, (by first | omega | trivial | assumption)⟩
            · exact absurd c17 (by omega)
      · show W p l e r_c_X12_blow s m args below meth c _ _ 0 0 Qf (F0 m 16 ls [.int (iI 0)])
        refine x_if_eq B (by omega) (tgt := 50) dX12_blow_16 (by decide) (fun c18 => ?_) (fun c18 => ?_)
        · refine x_iconst B dX12_blow_50 ?_
          refine y_ri B hQ h (by decide) dX12_blow_51 ?_
          exact ⟨rfl, _, rfl, (by first | omega | trivial | assumption)⟩
        · exact absurd c18 (by omega)
  · show W p l e r_c_X12_blow s m args below meth c _ _ 0 0 Qf (F0 m 5 ls [.int (iI 0)])
    refine x_if_eq B (by omega) (tgt := 50) dX12_blow_5 (by decide) (fun c19 => ?_) (fun c19 => ?_)
    · refine x_iconst B dX12_blow_50 ?_
      refine y_ri B hQ h (by decide) dX12_blow_51 ?_
      exact ⟨rfl, _, rfl, (by first | omega | trivial | assumption)⟩
    · exact absurd c19 (by omega)
abbrev r_c_X12_columns : Room := { frames := 3, cells := 0, slots := 0, locals := 79 }
set_option maxHeartbeats 4000000 in
set_option maxRecDepth 100000 in
theorem c_X12_columns (l : Launch) (D : va_G) (Zk : yK) (ca : Nat → ClassId) (T : Nat → Int → Int) (E : Nat → Int → Int) (am : Nat → Nat) (w : yW) (hM : MW ca T E am w) (year : Int) (kind : Int) (rg : Int) (dp : Int)  (hyear : xr year) (hkind : xr kind) (hrg : xr rg) (hdp : xr dp) : yC l D Zk ca yX12_columns cX12_columns 7 none r_c_X12_columns [.ref (am 0), .int (iI year), .int (iI kind), .int (iI rg), .int (iI dp)] w (vV w) := by
  refine yC.of2 "WindWordsModel" (by decide) rfl (Nat.le_of_ble_eq_true rfl) ?_
  intro p e s m args below meth c A ls Qf B hnm h hl hQ
  have hl : lv_has ls 7 [(0, .ref (am 0)), (1, .int (iI year)), (2, .int (iI kind)), (3, .int (iI rg)), (4, .int (iI dp))] := hl
  have hs := pi_s (MW.pi hM)
  have hpe := pe_0 (MW.pe hM)
  refine x_iconst B dX12_columns_0 ?_
  refine lv_istore (lv' := [(5, .int (iI 0)), (0, .ref (am 0)), (1, .int (iI year)), (2, .int (iI kind)), (3, .int (iI rg)), (4, .int (iI dp))]) B.1 B.2.1 dX12_columns_1 hl (by decide) rfl (fun ls hl => ?_)
  have loop3 : ∀ (n3 : Nat) (i : Int), (0 ≤ i ∧ i ≤ 13) → ((13 - i : Int)).toNat < n3 → ∀ (H : Heap) (locs : List Loc) (ls : Array Slot), yH D Zk A s w H locs → lv_has ls 7 [(5, .int (iI i)), (0, .ref (am 0)), (1, .int (iI year)), (2, .int (iI kind)), (3, .int (iI rg)), (4, .int (iI dp))] → W p l e r_c_X12_columns s m args below meth c H locs 0 0 Qf (F0 m 3 ls []) := by
    intro n3
    induction n3 with
    | zero =>
      intro i h0 hm3 H locs ls h hl
      exact absurd hm3 (Nat.not_lt_zero _)
    | succ n3 ih3 =>
      intro i h0 hm3 H locs ls h hl
      refine lv_iload B.1 B.2.1 dX12_columns_3 (lv_at hl 0 rfl) ?_
      refine x_bipush B (by decide) dX12_columns_5 ?_
      refine x_icmp_ge B (by omega) (tgt := 32) dX12_columns_7 (by decide) (fun c1 => ?_) (fun c1 => ?_)
      · refine x_iconst B dX12_columns_32 ?_
        refine lv_istore (lv' := [(5, .int (iI 0)), (0, .ref (am 0)), (1, .int (iI year)), (2, .int (iI kind)), (3, .int (iI rg)), (4, .int (iI dp))]) B.1 B.2.1 dX12_columns_33 hl (by decide) rfl (fun ls hl => ?_)
        have loop35 : ∀ (n35 : Nat) (i : Int), (0 ≤ i ∧ i ≤ 100) → ((100 - i : Int)).toNat < n35 → ∀ (H : Heap) (locs : List Loc) (ls : Array Slot), yH D Zk A s w H locs → lv_has ls 7 [(5, .int (iI i)), (0, .ref (am 0)), (1, .int (iI year)), (2, .int (iI kind)), (3, .int (iI rg)), (4, .int (iI dp))] → W p l e r_c_X12_columns s m args below meth c H locs 0 0 Qf (F0 m 35 ls []) := by
          intro n35
          induction n35 with
          | zero =>
            intro i h1 hm35 H locs ls h hl
            exact absurd hm35 (Nat.not_lt_zero _)
          | succ n35 ih35 =>
            intro i h1 hm35 H locs ls h hl
            refine lv_iload B.1 B.2.1 dX12_columns_35 (lv_at hl 0 rfl) ?_
            refine x_bipush B (by decide) dX12_columns_37 ?_
            refine x_icmp_ge B (by omega) (tgt := 89) dX12_columns_39 (by decide) (fun c2 => ?_) (fun c2 => ?_)
            · refine y_rv B hQ h (by decide) dX12_columns_89 ?_
              exact ⟨rfl, rfl⟩
            · refine lv_aload_n B.1 B.2.1 dX12_columns_42 rfl (lv_at hl 1 rfl) ?_
              refine lv_iload_n B.1 B.2.1 dX12_columns_43 rfl (lv_at hl 3 rfl) ?_
              refine lv_iload B.1 B.2.1 dX12_columns_44 (lv_at hl 0 rfl) ?_
              refine lv_iload_n B.1 B.2.1 dX12_columns_46 rfl (lv_at hl 4 rfl) ?_
              refine lv_iload B.1 B.2.1 dX12_columns_47 (lv_at hl 5 rfl) ?_
              refine lv_iload_n B.1 B.2.1 dX12_columns_49 rfl (lv_at hl 2 rfl) ?_
              refine y_cV B h kX12 50 (MW.f hM 0 _ rfl) k_X12_readIn rfl (c_X12_readIn l D Zk ca T E am _ hM kind i rg dp year  (by omega) (by omega) (by omega) (by omega) (by omega)) m_1663 rfl (by decide) hl.1 [] (Nat.le_of_ble_eq_true rfl) rfl dX12_columns_50 (fun r w1 hq H locs h => ?_)
              obtain ⟨rfl, z3, rfl, hz3⟩ := hq
              show W p l e r_c_X12_columns s m args below meth c _ _ 0 0 Qf (F0 m 53 ls [.int (iI z3)])
              refine lv_istore (lv' := [(6, .int (iI z3)), (5, .int (iI i)), (0, .ref (am 0)), (1, .int (iI year)), (2, .int (iI kind)), (3, .int (iI rg)), (4, .int (iI dp))]) B.1 B.2.1 dX12_columns_53 hl (by decide) rfl (fun ls hl => ?_)
              refine lv_aload_n B.1 B.2.1 dX12_columns_55 rfl (lv_at hl 2 rfl) ?_
              refine y_getR B h kX12 50 (MW.f hM 0 _ rfl) 49 (b := am 29) rfl m_1310 (by decide) dX12_columns_56 ?_
              refine lv_iload B.1 B.2.1 dX12_columns_59 (lv_at hl 0 rfl) ?_
              refine y_iald B h 79 (MW.f hM 29 _ rfl) (by omega) dX12_columns_61 (fun fz4 hfz4 => ?_)
              refine x_name (fun z4 hz4 ez4 => ?_)
              refine x_if_ge B (by omega) (tgt := 74) dX12_columns_62 (by decide) (fun c5 => ?_) (fun c5 => ?_)
              · refine lv_aload_n B.1 B.2.1 dX12_columns_74 rfl (lv_at hl 2 rfl) ?_
                refine y_getR B h kX12 50 (MW.f hM 0 _ rfl) 50 (b := am 30) rfl m_1311 (by decide) dX12_columns_75 ?_
                refine lv_iload B.1 B.2.1 dX12_columns_78 (lv_at hl 0 rfl) ?_
                refine lv_iload B.1 B.2.1 dX12_columns_80 (lv_at hl 1 rfl) ?_
                refine y_iastS B h 80 (MW.f hM 30 _ rfl) (by omega) (fun _ _ => trivial) dX12_columns_82 (fun H locs h => ?_)
                refine lv_iinc (v := iI (i + 1)) (lv' := [(5, .int (iI (i + 1))), (6, .int (iI z3)), (0, .ref (am 0)), (1, .int (iI year)), (2, .int (iI kind)), (3, .int (iI rg)), (4, .int (iI dp))]) B.1 B.2.1 dX12_columns_83 hl (k := 1) rfl (iI_add _ _) (by decide) rfl (fun ls hl => ?_)
                refine lv_goto (tgt := 35) B.1 B.2.1 dX12_columns_86 (by decide) ?_
                exact ih35 ((i + 1)) (by omega) (by omega) _ _ _ h (lv_sub hl [0, 2, 3, 4, 5, 6] rfl)
              · refine lv_aload_n B.1 B.2.1 dX12_columns_65 rfl (lv_at hl 2 rfl) ?_
                refine y_getR B h kX12 50 (MW.f hM 0 _ rfl) 49 (b := am 29) rfl m_1310 (by decide) dX12_columns_66 ?_
                refine lv_iload B.1 B.2.1 dX12_columns_69 (lv_at hl 0 rfl) ?_
                refine lv_iload B.1 B.2.1 dX12_columns_71 (lv_at hl 1 rfl) ?_
                refine y_iastS B h 79 (MW.f hM 29 _ rfl) (by omega) (fun _ _ => trivial) dX12_columns_73 (fun H locs h => ?_)
                refine lv_aload_n B.1 B.2.1 dX12_columns_74 rfl (lv_at hl 2 rfl) ?_
                refine y_getR B h kX12 50 (MW.f hM 0 _ rfl) 50 (b := am 30) rfl m_1311 (by decide) dX12_columns_75 ?_
                refine lv_iload B.1 B.2.1 dX12_columns_78 (lv_at hl 0 rfl) ?_
                refine lv_iload B.1 B.2.1 dX12_columns_80 (lv_at hl 1 rfl) ?_
                refine y_iastS B h 80 (MW.f hM 30 _ rfl) (by omega) (fun _ _ => trivial) dX12_columns_82 (fun H locs h => ?_)
                refine lv_iinc (v := iI (i + 1)) (lv' := [(5, .int (iI (i + 1))), (6, .int (iI z3)), (0, .ref (am 0)), (1, .int (iI year)), (2, .int (iI kind)), (3, .int (iI rg)), (4, .int (iI dp))]) B.1 B.2.1 dX12_columns_83 hl (k := 1) rfl (iI_add _ _) (by decide) rfl (fun ls hl => ?_)
                refine lv_goto (tgt := 35) B.1 B.2.1 dX12_columns_86 (by decide) ?_
                exact ih35 ((i + 1)) (by omega) (by omega) _ _ _ h (lv_sub hl [0, 2, 3, 4, 5, 6] rfl)
        exact loop35 (((100 - 0 : Int)).toNat + 1) 0 (by omega) (Nat.lt_succ_self _) _ _ _ h (lv_sub hl [0, 1, 2, 3, 4, 5] rfl)
      · refine lv_aload_n B.1 B.2.1 dX12_columns_10 rfl (lv_at hl 1 rfl) ?_
        refine y_getR B h kX12 50 (MW.f hM 0 _ rfl) 49 (b := am 29) rfl m_1310 (by decide) dX12_columns_11 ?_
        refine lv_iload B.1 B.2.1 dX12_columns_14 (lv_at hl 0 rfl) ?_
        refine x_iconst B dX12_columns_16 ?_
        refine y_iastS B h 79 (MW.f hM 29 _ rfl) (by omega) (fun _ _ => trivial) dX12_columns_17 (fun H locs h => ?_)
        refine lv_aload_n B.1 B.2.1 dX12_columns_18 rfl (lv_at hl 1 rfl) ?_
        refine y_getR B h kX12 50 (MW.f hM 0 _ rfl) 50 (b := am 30) rfl m_1311 (by decide) dX12_columns_19 ?_
        refine lv_iload B.1 B.2.1 dX12_columns_22 (lv_at hl 0 rfl) ?_
        refine x_iconst B dX12_columns_24 ?_
        refine y_iastS B h 80 (MW.f hM 30 _ rfl) (by omega) (fun _ _ => trivial) dX12_columns_25 (fun H locs h => ?_)
        refine lv_iinc (v := iI (i + 1)) (lv' := [(5, .int (iI (i + 1))), (0, .ref (am 0)), (1, .int (iI year)), (2, .int (iI kind)), (3, .int (iI rg)), (4, .int (iI dp))]) B.1 B.2.1 dX12_columns_26 hl (k := 0) rfl (iI_add _ _) (by decide) rfl (fun ls hl => ?_)
        refine lv_goto (tgt := 3) B.1 B.2.1 dX12_columns_29 (by decide) ?_
        exact ih3 ((i + 1)) (by omega) (by omega) _ _ _ h (lv_sub hl [0, 1, 2, 3, 4, 5] rfl)
  exact loop3 (((13 - 0 : Int)).toNat + 1) 0 (by omega) (Nat.lt_succ_self _) _ _ _ h (lv_sub hl [0, 1, 2, 3, 4, 5] rfl)
abbrev r_c_X12_column : Room := { frames := 4, cells := 0, slots := 0, locals := 105 }
set_option maxHeartbeats 4000000 in
set_option maxRecDepth 100000 in
theorem c_X12_column (l : Launch) (D : va_G) (Zk : yK) (ca : Nat → ClassId) (T : Nat → Int → Int) (E : Nat → Int → Int) (am : Nat → Nat) (w : yW) (hM : MW ca T E am w) (year : Int) (kind : Int) (mix : Int) (number : Int) (what : Int)  (hyear : xr year) (hkind : xr kind) (hmix : xr mix) (hnumber : xr number) (hwhat : xr what) : yC l D Zk ca yX12_column cX12_column 6 (some .int) r_c_X12_column [.ref (am 0), .int (iI year), .int (iI kind), .int (iI mix), .int (iI number), .int (iI what)] w (vI w (fun z => xr z)) := by
  refine yC.of2 "WindWordsModel" (by decide) rfl (Nat.le_of_ble_eq_true rfl) ?_
  intro p e s m args below meth c A ls Qf B hnm h hl hQ
  have hl : lv_has ls 6 [(0, .ref (am 0)), (1, .int (iI year)), (2, .int (iI kind)), (3, .int (iI mix)), (4, .int (iI number)), (5, .int (iI what))] := hl
  have hs := pi_s (MW.pi hM)
  have hpe := pe_0 (MW.pe hM)
  refine lv_iload_n B.1 B.2.1 dX12_column_0 rfl (lv_at hl 1 rfl) ?_
  refine x_iconst B dX12_column_1 ?_
  refine x_bipush B (by decide) dX12_column_2 ?_
  refine y_cS B h k_X12_within (c_X12_within l D Zk ca _ year 0 9  (by omega) (by omega) (by omega)) m_1515 rfl (by decide) hl.1 [] (Nat.le_of_ble_eq_true rfl) rfl dX12_column_4 (fun r w1 hq H locs h => ?_)
  obtain ⟨rfl, _, rfl, ⟨rfl, b1⟩ | ⟨rfl, b1⟩⟩ := hq
  · show W p l e r_c_X12_column s m args below meth c _ _ 0 0 Qf (F0 m 7 ls [.int (iI 1)])
    refine x_if_eq B (by omega) (tgt := 50) dX12_column_7 (by decide) (fun c2 => ?_) (fun c2 => ?_)
    · exact absurd c2 (by omega)
    · refine lv_iload_n B.1 B.2.1 dX12_column_10 rfl (lv_at hl 2 rfl) ?_
      refine x_iconst B dX12_column_11 ?_
      refine x_iconst B dX12_column_12 ?_
      refine y_cS B h k_X12_within (c_X12_within l D Zk ca _ kind 0 2  (by omega) (by omega) (by omega)) m_1515 rfl (by decide) hl.1 [] (Nat.le_of_ble_eq_true rfl) rfl dX12_column_13 (fun r w1 hq H locs h => ?_)
      obtain ⟨rfl, _, rfl, ⟨rfl, b3⟩ | ⟨rfl, b3⟩⟩ := hq
      · show W p l e r_c_X12_column s m args below meth c _ _ 0 0 Qf (F0 m 16 ls [.int (iI 1)])
        refine x_if_eq B (by omega) (tgt := 50) dX12_column_16 (by decide) (fun c4 => ?_) (fun c4 => ?_)
        · exact absurd c4 (by omega)
        · refine lv_iload_n B.1 B.2.1 dX12_column_19 rfl (lv_at hl 3 rfl) ?_
          refine x_iconst B dX12_column_20 ?_
          refine x_bipush B (by decide) dX12_column_21 ?_
          refine y_cS B h k_X12_within (c_X12_within l D Zk ca _ mix 0 39  (by omega) (by omega) (by omega)) m_1515 rfl (by decide) hl.1 [] (Nat.le_of_ble_eq_true rfl) rfl dX12_column_23 (fun r w1 hq H locs h => ?_)
          obtain ⟨rfl, _, rfl, ⟨rfl, b5⟩ | ⟨rfl, b5⟩⟩ := hq
          · show W p l e r_c_X12_column s m args below meth c _ _ 0 0 Qf (F0 m 26 ls [.int (iI 1)])
            refine x_if_eq B (by omega) (tgt := 50) dX12_column_26 (by decide) (fun c6 => ?_) (fun c6 => ?_)
            · exact absurd c6 (by omega)
            · refine lv_iload B.1 B.2.1 dX12_column_29 (lv_at hl 4 rfl) ?_
              refine x_iconst B dX12_column_31 ?_
              refine x_bipush B (by decide) dX12_column_32 ?_
              refine y_cS B h k_X12_within (c_X12_within l D Zk ca _ number 0 12  (by omega) (by omega) (by omega)) m_1515 rfl (by decide) hl.1 [] (Nat.le_of_ble_eq_true rfl) rfl dX12_column_34 (fun r w1 hq H locs h => ?_)
              obtain ⟨rfl, _, rfl, ⟨rfl, b7⟩ | ⟨rfl, b7⟩⟩ := hq
              · show W p l e r_c_X12_column s m args below meth c _ _ 0 0 Qf (F0 m 37 ls [.int (iI 1)])
                refine x_if_eq B (by omega) (tgt := 50) dX12_column_37 (by decide) (fun c8 => ?_) (fun c8 => ?_)
                · exact absurd c8 (by omega)
                · refine lv_iload B.1 B.2.1 dX12_column_40 (lv_at hl 5 rfl) ?_
                  refine x_iconst B dX12_column_42 ?_
                  refine x_iconst B dX12_column_43 ?_
                  refine y_cS B h k_X12_within (c_X12_within l D Zk ca _ what 0 1  (by omega) (by omega) (by omega)) m_1515 rfl (by decide) hl.1 [] (Nat.le_of_ble_eq_true rfl) rfl dX12_column_44 (fun r w1 hq H locs h => ?_)
                  obtain ⟨rfl, _, rfl, ⟨rfl, b9⟩ | ⟨rfl, b9⟩⟩ := hq
                  · show W p l e r_c_X12_column s m args below meth c _ _ 0 0 Qf (F0 m 47 ls [.int (iI 1)])
                    refine x_if_ne B (by omega) (tgt := 52) dX12_column_47 (by decide) (fun c10 => ?_) (fun c10 => ?_)
                    · refine lv_aload_n B.1 B.2.1 dX12_column_52 rfl (lv_at hl 0 rfl) ?_
                      refine lv_iload_n B.1 B.2.1 dX12_column_53 rfl (lv_at hl 1 rfl) ?_
                      refine lv_iload_n B.1 B.2.1 dX12_column_54 rfl (lv_at hl 2 rfl) ?_
                      refine lv_iload_n B.1 B.2.1 dX12_column_55 rfl (lv_at hl 3 rfl) ?_
                      refine x_bipush B (by decide) dX12_column_56 ?_
                      refine x_idiv B (by omega) dX12_column_58 ?_
                      refine lv_iload_n B.1 B.2.1 dX12_column_59 rfl (lv_at hl 3 rfl) ?_
                      refine x_bipush B (by decide) dX12_column_60 ?_
                      refine x_irem B (by omega) dX12_column_62 ?_
                      refine y_cV B h kX12 50 (MW.f hM 0 _ rfl) k_X12_columns rfl (c_X12_columns l D Zk ca T E am _ hM year kind ((mix / 10)) ((mix % 10))  (by omega) (by omega) (by omega) (by omega)) m_1707 rfl (by decide) hl.1 [] (Nat.le_of_ble_eq_true rfl) rfl dX12_column_63 (fun r w1 hq H locs h => ?_)
                      obtain ⟨rfl, rfl⟩ := hq
                      show W p l e r_c_X12_column s m args below meth c _ _ 0 0 Qf (F0 m 66 ls [])
                      refine lv_iload B.1 B.2.1 dX12_column_66 (lv_at hl 5 rfl) ?_
                      refine x_if_ne B (by omega) (tgt := 81) dX12_column_68 (by decide) (fun c11 => ?_) (fun c11 => ?_)
                      · refine lv_aload_n B.1 B.2.1 dX12_column_81 rfl (lv_at hl 0 rfl) ?_
                        refine y_getR B h kX12 50 (MW.f hM 0 _ rfl) 50 (b := am 30) rfl m_1311 (by decide) dX12_column_82 ?_
                        refine lv_iload B.1 B.2.1 dX12_column_85 (lv_at hl 4 rfl) ?_
                        refine y_iald B h 80 (MW.f hM 30 _ rfl) (by omega) dX12_column_87 (fun fz12 hfz12 => ?_)
                        refine x_name (fun z12 hz12 ez12 => ?_)
                        refine y_ri B hQ h (by decide) dX12_column_88 ?_
                        exact ⟨rfl, _, rfl, (by first | omega | trivial | assumption)⟩
                      · refine lv_aload_n B.1 B.2.1 dX12_column_71 rfl (lv_at hl 0 rfl) ?_
                        refine y_getR B h kX12 50 (MW.f hM 0 _ rfl) 49 (b := am 29) rfl m_1310 (by decide) dX12_column_72 ?_
                        refine lv_iload B.1 B.2.1 dX12_column_75 (lv_at hl 4 rfl) ?_
                        refine y_iald B h 79 (MW.f hM 29 _ rfl) (by omega) dX12_column_77 (fun fz13 hfz13 => ?_)
                        refine x_name (fun z13 hz13 ez13 => ?_)
                        refine lv_goto (tgt := 88) B.1 B.2.1 dX12_column_78 (by decide) ?_
                        refine y_ri B hQ h (by decide) dX12_column_88 ?_
                        exact ⟨rfl, _, rfl, (by first | omega | trivial | assumption)⟩
                    · exact absurd c10 (by omega)
                  · show W p l e r_c_X12_column s m args below meth c _ _ 0 0 Qf (F0 m 47 ls [.int (iI 0)])
                    refine x_if_ne B (by omega) (tgt := 52) dX12_column_47 (by decide) (fun c14 => ?_) (fun c14 => ?_)
                    · exact absurd c14 (by omega)
                    · refine x_iconst B dX12_column_50 ?_
                      refine y_ri B hQ h (by decide) dX12_column_51 ?_
                      exact ⟨rfl, _, rfl, (by first | omega | trivial | assumption)⟩
              · show W p l e r_c_X12_column s m args below meth c _ _ 0 0 Qf (F0 m 37 ls [.int (iI 0)])
                refine x_if_eq B (by omega) (tgt := 50) dX12_column_37 (by decide) (fun c15 => ?_) (fun c15 => ?_)
                · refine x_iconst B dX12_column_50 ?_
                  refine y_ri B hQ h (by decide) dX12_column_51 ?_
                  exact ⟨rfl, _, rfl, (by first | omega | trivial | assumption)⟩
                · exact absurd c15 (by omega)
          · show W p l e r_c_X12_column s m args below meth c _ _ 0 0 Qf (F0 m 26 ls [.int (iI 0)])
            refine x_if_eq B (by omega) (tgt := 50) dX12_column_26 (by decide) (fun c16 => ?_) (fun c16 => ?_)
            · refine x_iconst B dX12_column_50 ?_
              refine y_ri B hQ h (by decide) dX12_column_51 ?_
              exact ⟨rfl, _, rfl, (by first | omega | trivial | assumption)⟩
            · exact absurd c16 (by omega)
      · show W p l e r_c_X12_column s m args below meth c _ _ 0 0 Qf (F0 m 16 ls [.int (iI 0)])
        refine x_if_eq B (by omega) (tgt := 50) dX12_column_16 (by decide) (fun c17 => ?_) (fun c17 => ?_)
        · refine x_iconst B dX12_column_50 ?_
          refine y_ri B hQ h (by decide) dX12_column_51 ?_
          exact ⟨rfl, _, rfl, (by first | omega | trivial | assumption)⟩
        · exact absurd c17 (by omega)
  · show W p l e r_c_X12_column s m args below meth c _ _ 0 0 Qf (F0 m 7 ls [.int (iI 0)])
    refine x_if_eq B (by omega) (tgt := 50) dX12_column_7 (by decide) (fun c18 => ?_) (fun c18 => ?_)
    · refine x_iconst B dX12_column_50 ?_
      refine y_ri B hQ h (by decide) dX12_column_51 ?_
      exact ⟨rfl, _, rfl, (by first | omega | trivial | assumption)⟩
    · exact absurd c18 (by omega)
abbrev r_c_X12_turns : Room := { frames := 3, cells := 0, slots := 0, locals := 79 }
set_option maxHeartbeats 4000000 in
set_option maxRecDepth 100000 in
theorem c_X12_turns (l : Launch) (D : va_G) (Zk : yK) (ca : Nat → ClassId) (T : Nat → Int → Int) (E : Nat → Int → Int) (am : Nat → Nat) (w : yW) (hM : MW ca T E am w) (kind : Int) (year : Int) (number : Int) (sc : Int) (other : Int)  (hs2 : sc < 0 ∨ (0 ≤ sc ∧ sc < E 0 0)) (hkind : xr kind) (hyear : xr year) (hnumber : xr number) (hsc : xr sc) (hother : xr other) : yC l D Zk ca yX12_turns cX12_turns 7 (some .boolean) r_c_X12_turns [.ref (am 0), .int (iI kind), .int (iI year), .int (iI number), .int (iI sc), .int (iI other)] w (vI w (fun z => (z = 1 ∧ (True)) ∨ (z = 0 ∧ (True)))) := by
  refine yC.of2 "WindWordsModel" (by decide) rfl (Nat.le_of_ble_eq_true rfl) ?_
  intro p e s m args below meth c A ls Qf B hnm h hl hQ
  have hl : lv_has ls 7 [(0, .ref (am 0)), (1, .int (iI kind)), (2, .int (iI year)), (3, .int (iI number)), (4, .int (iI sc)), (5, .int (iI other))] := hl
  have hs := pi_s (MW.pi hM)
  have hpe := pe_0 (MW.pe hM)
  refine x_iconst B dX12_turns_0 ?_
  refine lv_istore (lv' := [(6, .int (iI 0)), (0, .ref (am 0)), (1, .int (iI kind)), (2, .int (iI year)), (3, .int (iI number)), (4, .int (iI sc)), (5, .int (iI other))]) B.1 B.2.1 dX12_turns_1 hl (by decide) rfl (fun ls hl => ?_)
  have loop3 : ∀ (n3 : Nat) (i : Int), (0 ≤ i ∧ i ≤ 13) → ((13 - i : Int)).toNat < n3 → ∀ (H : Heap) (locs : List Loc) (ls : Array Slot), yH D Zk A s w H locs → lv_has ls 7 [(6, .int (iI i)), (0, .ref (am 0)), (1, .int (iI kind)), (2, .int (iI year)), (3, .int (iI number)), (4, .int (iI sc)), (5, .int (iI other))] → W p l e r_c_X12_turns s m args below meth c H locs 0 0 Qf (F0 m 3 ls []) := by
    intro n3
    induction n3 with
    | zero =>
      intro i h0 hm3 H locs ls h hl
      exact absurd hm3 (Nat.not_lt_zero _)
    | succ n3 ih3 =>
      intro i h0 hm3 H locs ls h hl
      refine lv_iload B.1 B.2.1 dX12_turns_3 (lv_at hl 0 rfl) ?_
      refine x_bipush B (by decide) dX12_turns_5 ?_
      refine x_icmp_ge B (by omega) (tgt := 24) dX12_turns_7 (by decide) (fun c1 => ?_) (fun c1 => ?_)
      · refine lv_aload_n B.1 B.2.1 dX12_turns_24 rfl (lv_at hl 1 rfl) ?_
        refine x_iconst B dX12_turns_25 ?_
        refine y_putS B h kX12 50 (MW.f hM 0 _ rfl) 55 (P := fG (-2147483648) 2147483647) rfl m_1316 (by decide) ⟨_, rfl, by omega, by omega⟩ rfl rfl rfl dX12_turns_26 (fun H locs h => ?_)
        refine x_iconst B dX12_turns_29 ?_
        refine lv_istore (lv' := [(6, .int (iI 0)), (0, .ref (am 0)), (1, .int (iI kind)), (2, .int (iI year)), (3, .int (iI number)), (4, .int (iI sc)), (5, .int (iI other))]) B.1 B.2.1 dX12_turns_30 hl (by decide) rfl (fun ls hl => ?_)
        have loop32 : ∀ (n32 : Nat) (i : Int), (0 ≤ i ∧ i ≤ 100) → ((100 - i : Int)).toNat < n32 → ∀ (H : Heap) (locs : List Loc) (ls : Array Slot), yH D Zk A s w H locs → lv_has ls 7 [(6, .int (iI i)), (0, .ref (am 0)), (1, .int (iI kind)), (2, .int (iI year)), (3, .int (iI number)), (4, .int (iI sc)), (5, .int (iI other))] → W p l e r_c_X12_turns s m args below meth c H locs 0 0 Qf (F0 m 32 ls []) := by
          intro n32
          induction n32 with
          | zero =>
            intro i h1 hm32 H locs ls h hl
            exact absurd hm32 (Nat.not_lt_zero _)
          | succ n32 ih32 =>
            intro i h1 hm32 H locs ls h hl
            refine lv_iload B.1 B.2.1 dX12_turns_32 (lv_at hl 0 rfl) ?_
            refine x_bipush B (by decide) dX12_turns_34 ?_
            refine x_icmp_ge B (by omega) (tgt := 94) dX12_turns_36 (by decide) (fun c2 => ?_) (fun c2 => ?_)
            · refine lv_aload_n B.1 B.2.1 dX12_turns_94 rfl (lv_at hl 1 rfl) ?_
              refine x_iconst B dX12_turns_95 ?_
              refine y_putS B h kX12 50 (MW.f hM 0 _ rfl) 52 (P := fG (-2147483648) 2147483647) rfl m_1313 (by decide) ⟨_, rfl, by omega, by omega⟩ rfl rfl rfl dX12_turns_96 (fun H locs h => ?_)
              refine lv_aload_n B.1 B.2.1 dX12_turns_99 rfl (lv_at hl 1 rfl) ?_
              refine x_iconst B dX12_turns_100 ?_
              refine y_putS B h kX12 50 (MW.f hM 0 _ rfl) 54 (P := fG 0 12) rfl m_1315 (by decide) ⟨_, rfl, by omega, by omega⟩ rfl rfl rfl dX12_turns_101 (fun H locs h => ?_)
              refine x_iconst B dX12_turns_104 ?_
              refine lv_istore (lv' := [(6, .int (iI 0)), (0, .ref (am 0)), (1, .int (iI kind)), (2, .int (iI year)), (3, .int (iI number)), (4, .int (iI sc)), (5, .int (iI other))]) B.1 B.2.1 dX12_turns_105 hl (by decide) rfl (fun ls hl => ?_)
              have loop107 : ∀ (n107 : Nat) (i : Int), (0 ≤ i ∧ i ≤ 13) → ((13 - i : Int)).toNat < n107 → ∀ (H : Heap) (locs : List Loc) (ls : Array Slot), yH D Zk A s w H locs → lv_has ls 7 [(6, .int (iI i)), (0, .ref (am 0))] → W p l e r_c_X12_turns s m args below meth c H locs 0 0 Qf (F0 m 107 ls []) := by
                intro n107
                induction n107 with
                | zero =>
                  intro i h2 hm107 H locs ls h hl
                  exact absurd hm107 (Nat.not_lt_zero _)
                | succ n107 ih107 =>
                  intro i h2 hm107 H locs ls h hl
                  refine lv_iload B.1 B.2.1 dX12_turns_107 (lv_at hl 0 rfl) ?_
                  refine x_bipush B (by decide) dX12_turns_109 ?_
                  refine x_icmp_ge B (by omega) (tgt := 177) dX12_turns_111 (by decide) (fun c3 => ?_) (fun c3 => ?_)
                  · refine lv_aload_n B.1 B.2.1 dX12_turns_177 rfl (lv_at hl 1 rfl) ?_
                    refine y_getG B h kX12 50 (MW.f hM 0 _ rfl) 55 (lo := (-2147483648)) (hi := 2147483647) rfl m_1316 (by decide) dX12_turns_178 (fun z4 z4a z4b => ?_)
                    refine x_if_le B (by omega) (tgt := 188) dX12_turns_181 (by decide) (fun c5 => ?_) (fun c5 => ?_)
                    · refine x_iconst B dX12_turns_188 ?_
                      refine y_rz B hQ h (by decide) (by decide) dX12_turns_189 ?_
                      exact ⟨rfl, _, rfl, Or.inr ⟨rfl, (by first | omega | trivial | assumption)⟩⟩
                    · refine x_iconst B dX12_turns_184 ?_
                      refine lv_goto (tgt := 189) B.1 B.2.1 dX12_turns_185 (by decide) ?_
                      refine y_rz B hQ h (by decide) (by decide) dX12_turns_189 ?_
                      exact ⟨rfl, _, rfl, Or.inl ⟨rfl, (by first | omega | trivial | assumption)⟩⟩
                  · refine lv_aload_n B.1 B.2.1 dX12_turns_114 rfl (lv_at hl 1 rfl) ?_
                    refine y_getR B h kX12 50 (MW.f hM 0 _ rfl) 51 (b := am 31) rfl m_1312 (by decide) dX12_turns_115 ?_
                    refine lv_iload B.1 B.2.1 dX12_turns_118 (lv_at hl 0 rfl) ?_
                    refine y_iald B h 81 (MW.f hM 31 _ rfl) (by omega) dX12_turns_120 (fun fz6 hfz6 => ?_)
                    refine x_name (fun z6 hz6 ez6 => ?_)
                    refine x_if_ne B (by omega) (tgt := 127) dX12_turns_121 (by decide) (fun c7 => ?_) (fun c7 => ?_)
                    · refine lv_aload_n B.1 B.2.1 dX12_turns_127 rfl (lv_at hl 1 rfl) ?_
                      refine y_getG B h kX12 50 (MW.f hM 0 _ rfl) 52 (lo := (-2147483648)) (hi := 2147483647) rfl m_1313 (by decide) dX12_turns_128 (fun z8 z8a z8b => ?_)
                      refine x_if_ge B (by omega) (tgt := 140) dX12_turns_131 (by decide) (fun c9 => ?_) (fun c9 => ?_)
                      · refine lv_aload_n B.1 B.2.1 dX12_turns_140 rfl (lv_at hl 1 rfl) ?_
                        refine lv_iload B.1 B.2.1 dX12_turns_141 (lv_at hl 0 rfl) ?_
                        refine y_putS B h kX12 50 (MW.f hM 0 _ rfl) 53 (P := fG (-2147483648) 2147483647) rfl m_1314 (by decide) ⟨_, rfl, by omega, by omega⟩ rfl rfl rfl dX12_turns_143 (fun H locs h => ?_)
                        refine lv_aload_n B.1 B.2.1 dX12_turns_146 rfl (lv_at hl 1 rfl) ?_
                        refine y_getR B h kX12 50 (MW.f hM 0 _ rfl) 51 (b := am 31) rfl m_1312 (by decide) dX12_turns_147 ?_
                        refine lv_iload B.1 B.2.1 dX12_turns_150 (lv_at hl 0 rfl) ?_
                        refine y_iald B h 81 (MW.f hM 31 _ rfl) (by omega) dX12_turns_152 (fun fz10 hfz10 => ?_)
                        refine x_name (fun z10 hz10 ez10 => ?_)
                        refine lv_aload_n B.1 B.2.1 dX12_turns_153 rfl (lv_at hl 1 rfl) ?_
                        refine y_getR B h kX12 50 (MW.f hM 0 _ rfl) 51 (b := am 31) rfl m_1312 (by decide) dX12_turns_154 ?_
                        refine lv_aload_n B.1 B.2.1 dX12_turns_157 rfl (lv_at hl 1 rfl) ?_
                        refine y_getG B h kX12 50 (MW.f hM 0 _ rfl) 54 (lo := 0) (hi := 12) rfl m_1315 (by decide) dX12_turns_158 (fun z11 z11a z11b => ?_)
                        refine y_iald B h 81 (MW.f hM 31 _ rfl) (by omega) dX12_turns_161 (fun fz12 hfz12 => ?_)
                        refine x_name (fun z12 hz12 ez12 => ?_)
                        refine x_icmp_le B (by omega) (tgt := 171) dX12_turns_162 (by decide) (fun c13 => ?_) (fun c13 => ?_)
                        · refine lv_iinc (v := iI (i + 1)) (lv' := [(6, .int (iI (i + 1))), (0, .ref (am 0))]) B.1 B.2.1 dX12_turns_171 hl (k := 0) rfl (iI_add _ _) (by decide) rfl (fun ls hl => ?_)
                          refine lv_goto (tgt := 107) B.1 B.2.1 dX12_turns_174 (by decide) ?_
                          exact ih107 ((i + 1)) (by omega) (by omega) _ _ _ h (lv_sub hl [0, 1] rfl)
                        · refine lv_aload_n B.1 B.2.1 dX12_turns_165 rfl (lv_at hl 1 rfl) ?_
                          refine lv_iload B.1 B.2.1 dX12_turns_166 (lv_at hl 0 rfl) ?_
                          refine y_putS B h kX12 50 (MW.f hM 0 _ rfl) 54 (P := fG 0 12) rfl m_1315 (by decide) ⟨_, rfl, by omega, by omega⟩ rfl rfl rfl dX12_turns_168 (fun H locs h => ?_)
                          refine lv_iinc (v := iI (i + 1)) (lv' := [(6, .int (iI (i + 1))), (0, .ref (am 0))]) B.1 B.2.1 dX12_turns_171 hl (k := 0) rfl (iI_add _ _) (by decide) rfl (fun ls hl => ?_)
                          refine lv_goto (tgt := 107) B.1 B.2.1 dX12_turns_174 (by decide) ?_
                          exact ih107 ((i + 1)) (by omega) (by omega) _ _ _ h (lv_sub hl [0, 1] rfl)
                      · refine lv_aload_n B.1 B.2.1 dX12_turns_134 rfl (lv_at hl 1 rfl) ?_
                        refine lv_iload B.1 B.2.1 dX12_turns_135 (lv_at hl 0 rfl) ?_
                        refine y_putS B h kX12 50 (MW.f hM 0 _ rfl) 52 (P := fG (-2147483648) 2147483647) rfl m_1313 (by decide) ⟨_, rfl, by omega, by omega⟩ rfl rfl rfl dX12_turns_137 (fun H locs h => ?_)
                        refine lv_aload_n B.1 B.2.1 dX12_turns_140 rfl (lv_at hl 1 rfl) ?_
                        refine lv_iload B.1 B.2.1 dX12_turns_141 (lv_at hl 0 rfl) ?_
                        refine y_putS B h kX12 50 (MW.f hM 0 _ rfl) 53 (P := fG (-2147483648) 2147483647) rfl m_1314 (by decide) ⟨_, rfl, by omega, by omega⟩ rfl rfl rfl dX12_turns_143 (fun H locs h => ?_)
                        refine lv_aload_n B.1 B.2.1 dX12_turns_146 rfl (lv_at hl 1 rfl) ?_
                        refine y_getR B h kX12 50 (MW.f hM 0 _ rfl) 51 (b := am 31) rfl m_1312 (by decide) dX12_turns_147 ?_
                        refine lv_iload B.1 B.2.1 dX12_turns_150 (lv_at hl 0 rfl) ?_
                        refine y_iald B h 81 (MW.f hM 31 _ rfl) (by omega) dX12_turns_152 (fun fz14 hfz14 => ?_)
                        refine x_name (fun z14 hz14 ez14 => ?_)
                        refine lv_aload_n B.1 B.2.1 dX12_turns_153 rfl (lv_at hl 1 rfl) ?_
                        refine y_getR B h kX12 50 (MW.f hM 0 _ rfl) 51 (b := am 31) rfl m_1312 (by decide) dX12_turns_154 ?_
                        refine lv_aload_n B.1 B.2.1 dX12_turns_157 rfl (lv_at hl 1 rfl) ?_
                        refine y_getG B h kX12 50 (MW.f hM 0 _ rfl) 54 (lo := 0) (hi := 12) rfl m_1315 (by decide) dX12_turns_158 (fun z15 z15a z15b => ?_)
                        refine y_iald B h 81 (MW.f hM 31 _ rfl) (by omega) dX12_turns_161 (fun fz16 hfz16 => ?_)
                        refine x_name (fun z16 hz16 ez16 => ?_)
                        refine x_icmp_le B (by omega) (tgt := 171) dX12_turns_162 (by decide) (fun c17 => ?_) (fun c17 => ?_)
                        · refine lv_iinc (v := iI (i + 1)) (lv' := [(6, .int (iI (i + 1))), (0, .ref (am 0))]) B.1 B.2.1 dX12_turns_171 hl (k := 0) rfl (iI_add _ _) (by decide) rfl (fun ls hl => ?_)
                          refine lv_goto (tgt := 107) B.1 B.2.1 dX12_turns_174 (by decide) ?_
                          exact ih107 ((i + 1)) (by omega) (by omega) _ _ _ h (lv_sub hl [0, 1] rfl)
                        · refine lv_aload_n B.1 B.2.1 dX12_turns_165 rfl (lv_at hl 1 rfl) ?_
                          refine lv_iload B.1 B.2.1 dX12_turns_166 (lv_at hl 0 rfl) ?_
                          refine y_putS B h kX12 50 (MW.f hM 0 _ rfl) 54 (P := fG 0 12) rfl m_1315 (by decide) ⟨_, rfl, by omega, by omega⟩ rfl rfl rfl dX12_turns_168 (fun H locs h => ?_)
                          refine lv_iinc (v := iI (i + 1)) (lv' := [(6, .int (iI (i + 1))), (0, .ref (am 0))]) B.1 B.2.1 dX12_turns_171 hl (k := 0) rfl (iI_add _ _) (by decide) rfl (fun ls hl => ?_)
                          refine lv_goto (tgt := 107) B.1 B.2.1 dX12_turns_174 (by decide) ?_
                          exact ih107 ((i + 1)) (by omega) (by omega) _ _ _ h (lv_sub hl [0, 1] rfl)
                    · refine lv_goto (tgt := 171) B.1 B.2.1 dX12_turns_124 (by decide) ?_
                      refine lv_iinc (v := iI (i + 1)) (lv' := [(6, .int (iI (i + 1))), (0, .ref (am 0))]) B.1 B.2.1 dX12_turns_171 hl (k := 0) rfl (iI_add _ _) (by decide) rfl (fun ls hl => ?_)
                      refine lv_goto (tgt := 107) B.1 B.2.1 dX12_turns_174 (by decide) ?_
                      exact ih107 ((i + 1)) (by omega) (by omega) _ _ _ h (lv_sub hl [0, 1] rfl)
              exact loop107 (((13 - 0 : Int)).toNat + 1) 0 (by omega) (Nat.lt_succ_self _) _ _ _ h (lv_sub hl [0, 1] rfl)
            · refine lv_aload_n B.1 B.2.1 dX12_turns_39 rfl (lv_at hl 1 rfl) ?_
              refine lv_iload_n B.1 B.2.1 dX12_turns_40 rfl (lv_at hl 2 rfl) ?_
              refine lv_iload B.1 B.2.1 dX12_turns_41 (lv_at hl 0 rfl) ?_
              refine x_iconst B dX12_turns_43 ?_
              refine x_iconst B dX12_turns_44 ?_
              refine lv_iload_n B.1 B.2.1 dX12_turns_45 rfl (lv_at hl 3 rfl) ?_
              refine y_cV B h kX12 50 (MW.f hM 0 _ rfl) k_X12_readIn rfl (c_X12_readIn l D Zk ca T E am _ hM kind i 0 0 year  (by omega) (by omega) (by omega) (by omega) (by omega)) m_1663 rfl (by decide) hl.1 [] (Nat.le_of_ble_eq_true rfl) rfl dX12_turns_46 (fun r w1 hq H locs h => ?_)
              obtain ⟨rfl, z18, rfl, hz18⟩ := hq
              show W p l e r_c_X12_turns s m args below meth c _ _ 0 0 Qf (F0 m 49 ls [.int (iI z18)])
              refine lv_iload_n B.1 B.2.1 dX12_turns_49 rfl (lv_at hl 4 rfl) ?_
              refine x_icmp_eq B (by omega) (tgt := 56) dX12_turns_50 (by decide) (fun c19 => ?_) (fun c19 => ?_)
              · refine lv_aload_n B.1 B.2.1 dX12_turns_56 rfl (lv_at hl 1 rfl) ?_
                refine y_getR B h kX12 50 (MW.f hM 0 _ rfl) 51 (b := am 31) rfl m_1312 (by decide) dX12_turns_57 ?_
                refine lv_aload_n B.1 B.2.1 dX12_turns_60 rfl (lv_at hl 1 rfl) ?_
                refine lv_iload B.1 B.2.1 dX12_turns_61 (lv_at hl 5 rfl) ?_
                refine lv_iload_n B.1 B.2.1 dX12_turns_63 rfl (lv_at hl 2 rfl) ?_
                refine lv_iload B.1 B.2.1 dX12_turns_64 (lv_at hl 0 rfl) ?_
                refine x_iconst B dX12_turns_66 ?_
                refine x_iconst B dX12_turns_67 ?_
                refine lv_iload B.1 B.2.1 dX12_turns_68 (lv_at hl 6 rfl) ?_
                refine y_cV B h kX12 50 (MW.f hM 0 _ rfl) k_X12_readsBy rfl (c_X12_readsBy l D Zk ca T E am _ hM sc kind i 0 0 other  (by omega) (by omega) (by omega) (by omega) (by omega) (by omega) (by omega)) m_1671 rfl (by decide) hl.1 [.ref (am 31)] (Nat.le_of_ble_eq_true rfl) rfl dX12_turns_70 (fun r w1 hq H locs h => ?_)
                obtain ⟨rfl, z20, rfl, hz20⟩ := hq
                show W p l e r_c_X12_turns s m args below meth c _ _ 0 0 Qf (F0 m 73 ls [.int (iI z20), .ref (am 31)])
                refine lv_dup2_11 B.1 B.2.1 dX12_turns_73 rfl rfl ?_
                refine y_iald B h 81 (MW.f hM 31 _ rfl) (by omega) dX12_turns_74 (fun fz21 hfz21 => ?_)
                refine x_name (fun z21 hz21 ez21 => ?_)
                refine x_iconst B dX12_turns_75 ?_
                refine x_iadd B dX12_turns_76 ?_
                refine y_iastS B h 81 (MW.f hM 31 _ rfl) (by omega) (fun _ _ => trivial) dX12_turns_77 (fun H locs h => ?_)
                refine lv_aload_n B.1 B.2.1 dX12_turns_78 rfl (lv_at hl 1 rfl) ?_
                refine lv_dup B.1 B.2.1 dX12_turns_79 rfl ?_
                refine y_getG B h kX12 50 (MW.f hM 0 _ rfl) 55 (lo := (-2147483648)) (hi := 2147483647) rfl m_1316 (by decide) dX12_turns_80 (fun z22 z22a z22b => ?_)
                refine x_iconst B dX12_turns_83 ?_
                refine x_iadd B dX12_turns_84 ?_
                refine x_name (fun z23 hz23 ez23 => ?_)
                refine y_putS B h kX12 50 (MW.f hM 0 _ rfl) 55 (P := fG (-2147483648) 2147483647) rfl m_1316 (by decide) ⟨_, rfl, by omega, by omega⟩ rfl rfl rfl dX12_turns_85 (fun H locs h => ?_)
                refine lv_iinc (v := iI (i + 1)) (lv' := [(6, .int (iI (i + 1))), (0, .ref (am 0)), (1, .int (iI kind)), (2, .int (iI year)), (3, .int (iI number)), (4, .int (iI sc)), (5, .int (iI other))]) B.1 B.2.1 dX12_turns_88 hl (k := 0) rfl (iI_add _ _) (by decide) rfl (fun ls hl => ?_)
                refine lv_goto (tgt := 32) B.1 B.2.1 dX12_turns_91 (by decide) ?_
                exact ih32 ((i + 1)) (by omega) (by omega) _ _ _ h (lv_sub hl [0, 1, 2, 3, 4, 5, 6] rfl)
              · refine lv_goto (tgt := 88) B.1 B.2.1 dX12_turns_53 (by decide) ?_
                refine lv_iinc (v := iI (i + 1)) (lv' := [(6, .int (iI (i + 1))), (0, .ref (am 0)), (1, .int (iI kind)), (2, .int (iI year)), (3, .int (iI number)), (4, .int (iI sc)), (5, .int (iI other))]) B.1 B.2.1 dX12_turns_88 hl (k := 0) rfl (iI_add _ _) (by decide) rfl (fun ls hl => ?_)
                refine lv_goto (tgt := 32) B.1 B.2.1 dX12_turns_91 (by decide) ?_
                exact ih32 ((i + 1)) (by omega) (by omega) _ _ _ h (lv_sub hl [0, 1, 2, 3, 4, 5, 6] rfl)
        exact loop32 (((100 - 0 : Int)).toNat + 1) 0 (by omega) (Nat.lt_succ_self _) _ _ _ h (lv_sub hl [0, 1, 2, 3, 4, 5, 6] rfl)
      · refine lv_aload_n B.1 B.2.1 dX12_turns_10 rfl (lv_at hl 1 rfl) ?_
        refine y_getR B h kX12 50 (MW.f hM 0 _ rfl) 51 (b := am 31) rfl m_1312 (by decide) dX12_turns_11 ?_
        refine lv_iload B.1 B.2.1 dX12_turns_14 (lv_at hl 0 rfl) ?_
        refine x_iconst B dX12_turns_16 ?_
        refine y_iastS B h 81 (MW.f hM 31 _ rfl) (by omega) (fun _ _ => trivial) dX12_turns_17 (fun H locs h => ?_)
        refine lv_iinc (v := iI (i + 1)) (lv' := [(6, .int (iI (i + 1))), (0, .ref (am 0)), (1, .int (iI kind)), (2, .int (iI year)), (3, .int (iI number)), (4, .int (iI sc)), (5, .int (iI other))]) B.1 B.2.1 dX12_turns_18 hl (k := 0) rfl (iI_add _ _) (by decide) rfl (fun ls hl => ?_)
        refine lv_goto (tgt := 3) B.1 B.2.1 dX12_turns_21 (by decide) ?_
        exact ih3 ((i + 1)) (by omega) (by omega) _ _ _ h (lv_sub hl [0, 1, 2, 3, 4, 5, 6] rfl)
  exact loop3 (((13 - 0 : Int)).toNat + 1) 0 (by omega) (Nat.lt_succ_self _) _ _ _ h (lv_sub hl [0, 1, 2, 3, 4, 5, 6] rfl)
abbrev r_c_X12_turn : Room := { frames := 4, cells := 0, slots := 0, locals := 105 }
set_option maxHeartbeats 4000000 in
set_option maxRecDepth 100000 in
theorem c_X12_turn (l : Launch) (D : va_G) (Zk : yK) (ca : Nat → ClassId) (T : Nat → Int → Int) (E : Nat → Int → Int) (am : Nat → Nat) (w : yW) (hM : MW ca T E am w) (kind : Int) (year : Int) (number : Int) (other : Int) (what : Int)  (hkind : xr kind) (hyear : xr year) (hnumber : xr number) (hother : xr other) (hwhat : xr what) : yC l D Zk ca yX12_turn cX12_turn 6 (some .int) r_c_X12_turn [.ref (am 0), .int (iI kind), .int (iI year), .int (iI number), .int (iI other), .int (iI what)] w (vI w (fun z => xr z)) := by
  refine yC.of2 "WindWordsModel" (by decide) rfl (Nat.le_of_ble_eq_true rfl) ?_
  intro p e s m args below meth c A ls Qf B hnm h hl hQ
  have hl : lv_has ls 6 [(0, .ref (am 0)), (1, .int (iI kind)), (2, .int (iI year)), (3, .int (iI number)), (4, .int (iI other)), (5, .int (iI what))] := hl
  have hs := pi_s (MW.pi hM)
  have hpe := pe_0 (MW.pe hM)
  refine lv_iload_n B.1 B.2.1 dX12_turn_0 rfl (lv_at hl 1 rfl) ?_
  refine x_iconst B dX12_turn_1 ?_
  refine x_iconst B dX12_turn_2 ?_
  refine y_cS B h k_X12_within (c_X12_within l D Zk ca _ kind 0 2  (by omega) (by omega) (by omega)) m_1515 rfl (by decide) hl.1 [] (Nat.le_of_ble_eq_true rfl) rfl dX12_turn_3 (fun r w1 hq H locs h => ?_)
  obtain ⟨rfl, _, rfl, ⟨rfl, b1⟩ | ⟨rfl, b1⟩⟩ := hq
  · show W p l e r_c_X12_turn s m args below meth c _ _ 0 0 Qf (F0 m 6 ls [.int (iI 1)])
    refine x_if_eq B (by omega) (tgt := 50) dX12_turn_6 (by decide) (fun c2 => ?_) (fun c2 => ?_)
    · exact absurd c2 (by omega)
    · refine lv_iload_n B.1 B.2.1 dX12_turn_9 rfl (lv_at hl 2 rfl) ?_
      refine x_iconst B dX12_turn_10 ?_
      refine x_bipush B (by decide) dX12_turn_11 ?_
      refine y_cS B h k_X12_within (c_X12_within l D Zk ca _ year 0 9  (by omega) (by omega) (by omega)) m_1515 rfl (by decide) hl.1 [] (Nat.le_of_ble_eq_true rfl) rfl dX12_turn_13 (fun r w1 hq H locs h => ?_)
      obtain ⟨rfl, _, rfl, ⟨rfl, b3⟩ | ⟨rfl, b3⟩⟩ := hq
      · show W p l e r_c_X12_turn s m args below meth c _ _ 0 0 Qf (F0 m 16 ls [.int (iI 1)])
        refine x_if_eq B (by omega) (tgt := 50) dX12_turn_16 (by decide) (fun c4 => ?_) (fun c4 => ?_)
        · exact absurd c4 (by omega)
        · refine lv_iload_n B.1 B.2.1 dX12_turn_19 rfl (lv_at hl 3 rfl) ?_
          refine x_iconst B dX12_turn_20 ?_
          refine x_bipush B (by decide) dX12_turn_21 ?_
          refine y_cS B h k_X12_within (c_X12_within l D Zk ca _ number 0 12  (by omega) (by omega) (by omega)) m_1515 rfl (by decide) hl.1 [] (Nat.le_of_ble_eq_true rfl) rfl dX12_turn_23 (fun r w1 hq H locs h => ?_)
          obtain ⟨rfl, _, rfl, ⟨rfl, b5⟩ | ⟨rfl, b5⟩⟩ := hq
          · show W p l e r_c_X12_turn s m args below meth c _ _ 0 0 Qf (F0 m 26 ls [.int (iI 1)])
            refine x_if_eq B (by omega) (tgt := 50) dX12_turn_26 (by decide) (fun c6 => ?_) (fun c6 => ?_)
            · exact absurd c6 (by omega)
            · refine lv_iload B.1 B.2.1 dX12_turn_29 (lv_at hl 4 rfl) ?_
              refine x_iconst B dX12_turn_31 ?_
              refine x_bipush B (by decide) dX12_turn_32 ?_
              refine y_cS B h k_X12_within (c_X12_within l D Zk ca _ other 0 9  (by omega) (by omega) (by omega)) m_1515 rfl (by decide) hl.1 [] (Nat.le_of_ble_eq_true rfl) rfl dX12_turn_34 (fun r w1 hq H locs h => ?_)
              obtain ⟨rfl, _, rfl, ⟨rfl, b7⟩ | ⟨rfl, b7⟩⟩ := hq
              · show W p l e r_c_X12_turn s m args below meth c _ _ 0 0 Qf (F0 m 37 ls [.int (iI 1)])
                refine x_if_eq B (by omega) (tgt := 50) dX12_turn_37 (by decide) (fun c8 => ?_) (fun c8 => ?_)
                · exact absurd c8 (by omega)
                · refine lv_iload B.1 B.2.1 dX12_turn_40 (lv_at hl 5 rfl) ?_
                  refine x_iconst B dX12_turn_42 ?_
                  refine x_iconst B dX12_turn_43 ?_
                  refine y_cS B h k_X12_within (c_X12_within l D Zk ca _ what 0 3  (by omega) (by omega) (by omega)) m_1515 rfl (by decide) hl.1 [] (Nat.le_of_ble_eq_true rfl) rfl dX12_turn_44 (fun r w1 hq H locs h => ?_)
                  obtain ⟨rfl, _, rfl, ⟨rfl, b9⟩ | ⟨rfl, b9⟩⟩ := hq
                  · show W p l e r_c_X12_turn s m args below meth c _ _ 0 0 Qf (F0 m 47 ls [.int (iI 1)])
                    refine x_if_ne B (by omega) (tgt := 52) dX12_turn_47 (by decide) (fun c10 => ?_) (fun c10 => ?_)
                    · refine lv_aload_n B.1 B.2.1 dX12_turn_52 rfl (lv_at hl 0 rfl) ?_
                      refine lv_iload_n B.1 B.2.1 dX12_turn_53 rfl (lv_at hl 1 rfl) ?_
                      refine lv_iload_n B.1 B.2.1 dX12_turn_54 rfl (lv_at hl 2 rfl) ?_
                      refine lv_iload_n B.1 B.2.1 dX12_turn_55 rfl (lv_at hl 3 rfl) ?_
                      refine lv_aload_n B.1 B.2.1 dX12_turn_56 rfl (lv_at hl 0 rfl) ?_
                      refine lv_iload B.1 B.2.1 dX12_turn_57 (lv_at hl 4 rfl) ?_
                      refine y_cV B h kX12 50 (MW.f hM 0 _ rfl) k_X12_scaleFor rfl (c_X12_scaleFor l D Zk ca T E am _ hM other  (by omega)) m_1667 rfl (by decide) hl.1 [.int (iI number), .int (iI year), .int (iI kind), .ref (am 0)] (Nat.le_of_ble_eq_true rfl) rfl dX12_turn_59 (fun r w1 hq H locs h => ?_)
                      obtain ⟨rfl, z11, rfl, hz11⟩ := hq
                      show W p l e r_c_X12_turn s m args below meth c _ _ 0 0 Qf (F0 m 62 ls [.int (iI z11), .int (iI number), .int (iI year), .int (iI kind), .ref (am 0)])
                      refine lv_iload B.1 B.2.1 dX12_turn_62 (lv_at hl 4 rfl) ?_
                      refine y_cV B h kX12 50 (MW.f hM 0 _ rfl) k_X12_turns rfl (c_X12_turns l D Zk ca T E am _ hM kind year number z11 other  (by omega) (by omega) (by omega) (by omega) (by omega) (by omega)) m_1715 rfl (by decide) hl.1 [] (Nat.le_of_ble_eq_true rfl) rfl dX12_turn_64 (fun r w1 hq H locs h => ?_)
                      obtain ⟨rfl, _, rfl, ⟨rfl, b12⟩ | ⟨rfl, b12⟩⟩ := hq
                      · show W p l e r_c_X12_turn s m args below meth c _ _ 0 0 Qf (F0 m 67 ls [.int (iI 1)])
                        refine x_if_ne B (by omega) (tgt := 72) dX12_turn_67 (by decide) (fun c13 => ?_) (fun c13 => ?_)
                        · refine lv_iload B.1 B.2.1 dX12_turn_72 (lv_at hl 5 rfl) ?_
                          refine x_if_ne B (by omega) (tgt := 84) dX12_turn_74 (by decide) (fun c14 => ?_) (fun c14 => ?_)
                          · refine lv_iload B.1 B.2.1 dX12_turn_84 (lv_at hl 5 rfl) ?_
                            refine x_iconst B dX12_turn_86 ?_
                            refine x_icmp_ne B (by omega) (tgt := 97) dX12_turn_87 (by decide) (fun c15 => ?_) (fun c15 => ?_)
                            · refine lv_iload B.1 B.2.1 dX12_turn_97 (lv_at hl 5 rfl) ?_
                              refine x_iconst B dX12_turn_99 ?_
                              refine x_icmp_ne B (by omega) (tgt := 110) dX12_turn_100 (by decide) (fun c16 => ?_) (fun c16 => ?_)
                              · refine lv_aload_n B.1 B.2.1 dX12_turn_110 rfl (lv_at hl 0 rfl) ?_
                                refine y_getG B h kX12 50 (MW.f hM 0 _ rfl) 55 (lo := (-2147483648)) (hi := 2147483647) rfl m_1316 (by decide) dX12_turn_111 (fun z17 z17a z17b => ?_)
                                refine lv_aload_n B.1 B.2.1 dX12_turn_114 rfl (lv_at hl 0 rfl) ?_
                                refine y_getR B h kX12 50 (MW.f hM 0 _ rfl) 51 (b := am 31) rfl m_1312 (by decide) dX12_turn_115 ?_
                                refine lv_aload_n B.1 B.2.1 dX12_turn_118 rfl (lv_at hl 0 rfl) ?_
                                refine y_getG B h kX12 50 (MW.f hM 0 _ rfl) 54 (lo := 0) (hi := 12) rfl m_1315 (by decide) dX12_turn_119 (fun z18 z18a z18b => ?_)
                                refine y_iald B h 81 (MW.f hM 31 _ rfl) (by omega) dX12_turn_122 (fun fz19 hfz19 => ?_)
                                refine x_name (fun z19 hz19 ez19 => ?_)
                                refine x_isub B dX12_turn_123 ?_
                                refine x_name (fun z20 hz20 ez20 => ?_)
                                refine y_ri B hQ h (by decide) dX12_turn_124 ?_
                                exact ⟨rfl, _, rfl, (by first | omega | trivial | assumption)⟩
                              · refine lv_aload_n B.1 B.2.1 dX12_turn_103 rfl (lv_at hl 0 rfl) ?_
                                refine y_getG B h kX12 50 (MW.f hM 0 _ rfl) 54 (lo := 0) (hi := 12) rfl m_1315 (by decide) dX12_turn_104 (fun z21 z21a z21b => ?_)
                                refine lv_goto (tgt := 124) B.1 B.2.1 dX12_turn_107 (by decide) ?_
                                refine y_ri B hQ h (by decide) dX12_turn_124 ?_
                                exact ⟨rfl, _, rfl, (by first | omega | trivial | assumption)⟩
                            · refine lv_aload_n B.1 B.2.1 dX12_turn_90 rfl (lv_at hl 0 rfl) ?_
                              refine y_getG B h kX12 50 (MW.f hM 0 _ rfl) 53 (lo := (-2147483648)) (hi := 2147483647) rfl m_1314 (by decide) dX12_turn_91 (fun z22 z22a z22b => ?_)
                              refine lv_goto (tgt := 124) B.1 B.2.1 dX12_turn_94 (by decide) ?_
                              refine y_ri B hQ h (by decide) dX12_turn_124 ?_
                              exact ⟨rfl, _, rfl, (by first | omega | trivial | assumption)⟩
                          · refine lv_aload_n B.1 B.2.1 dX12_turn_77 rfl (lv_at hl 0 rfl) ?_
                            refine y_getG B h kX12 50 (MW.f hM 0 _ rfl) 52 (lo := (-2147483648)) (hi := 2147483647) rfl m_1313 (by decide) dX12_turn_78 (fun z23 z23a z23b => ?_)
                            refine lv_goto (tgt := 124) B.1 B.2.1 dX12_turn_81 (by decide) ?_
                            refine y_ri B hQ h (by decide) dX12_turn_124 ?_
                            exact ⟨rfl, _, rfl, (by first | omega | trivial | assumption)⟩
                        · exact absurd c13 (by omega)
                      · show W p l e r_c_X12_turn s m args below meth c _ _ 0 0 Qf (F0 m 67 ls [.int (iI 0)])
                        refine x_if_ne B (by omega) (tgt := 72) dX12_turn_67 (by decide) (fun c24 => ?_) (fun c24 => ?_)
                        · exact absurd c24 (by omega)
                        · refine x_iconst B dX12_turn_70 ?_
                          refine y_ri B hQ h (by decide) dX12_turn_71 ?_
                          exact ⟨rfl, _, rfl, (by first | omega | trivial | assumption)⟩
                    · exact absurd c10 (by omega)
                  · show W p l e r_c_X12_turn s m args below meth c _ _ 0 0 Qf (F0 m 47 ls [.int (iI 0)])
                    refine x_if_ne B (by omega) (tgt := 52) dX12_turn_47 (by decide) (fun c25 => ?_) (fun c25 => ?_)
                    · exact absurd c25 (by omega)
                    · refine x_iconst B dX12_turn_50 ?_
                      refine y_ri B hQ h (by decide) dX12_turn_51 ?_
                      exact ⟨rfl, _, rfl, (by first | omega | trivial | assumption)⟩
              · show W p l e r_c_X12_turn s m args below meth c _ _ 0 0 Qf (F0 m 37 ls [.int (iI 0)])
                refine x_if_eq B (by omega) (tgt := 50) dX12_turn_37 (by decide) (fun c26 => ?_) (fun c26 => ?_)
                · refine x_iconst B dX12_turn_50 ?_
                  refine y_ri B hQ h (by decide) dX12_turn_51 ?_
                  exact ⟨rfl, _, rfl, (by first | omega | trivial | assumption)⟩
                · exact absurd c26 (by omega)
          · show W p l e r_c_X12_turn s m args below meth c _ _ 0 0 Qf (F0 m 26 ls [.int (iI 0)])
            refine x_if_eq B (by omega) (tgt := 50) dX12_turn_26 (by decide) (fun c27 => ?_) (fun c27 => ?_)
            · refine x_iconst B dX12_turn_50 ?_
              refine y_ri B hQ h (by decide) dX12_turn_51 ?_
              exact ⟨rfl, _, rfl, (by first | omega | trivial | assumption)⟩
            · exact absurd c27 (by omega)
      · show W p l e r_c_X12_turn s m args below meth c _ _ 0 0 Qf (F0 m 16 ls [.int (iI 0)])
        refine x_if_eq B (by omega) (tgt := 50) dX12_turn_16 (by decide) (fun c28 => ?_) (fun c28 => ?_)
        · refine x_iconst B dX12_turn_50 ?_
          refine y_ri B hQ h (by decide) dX12_turn_51 ?_
          exact ⟨rfl, _, rfl, (by first | omega | trivial | assumption)⟩
        · exact absurd c28 (by omega)
  · show W p l e r_c_X12_turn s m args below meth c _ _ 0 0 Qf (F0 m 6 ls [.int (iI 0)])
    refine x_if_eq B (by omega) (tgt := 50) dX12_turn_6 (by decide) (fun c29 => ?_) (fun c29 => ?_)
    · refine x_iconst B dX12_turn_50 ?_
      refine y_ri B hQ h (by decide) dX12_turn_51 ?_
      exact ⟨rfl, _, rfl, (by first | omega | trivial | assumption)⟩
    · exact absurd c29 (by omega)
abbrev r_c_X12_binds : Room := { frames := 0, cells := 0, slots := 0, locals := 0 }
set_option maxHeartbeats 4000000 in
set_option maxRecDepth 100000 in
theorem c_X12_binds (l : Launch) (D : va_G) (Zk : yK) (ca : Nat → ClassId) (T : Nat → Int → Int) (E : Nat → Int → Int) (am : Nat → Nat) (w : yW) (hM : MW ca T E am w) (a : Int) (b : Int) (v : Int)  (ha : 0 ≤ a ∧ a ≤ 16) (hb : 0 ≤ b ∧ b ≤ 16) (hv : xr v) : yC l D Zk ca yX12_binds cX12_binds 4 none r_c_X12_binds [.ref (am 0), .int (iI a), .int (iI b), .int (iI v)] w (vV w) := by
  refine yC.of2 "WindWordsModel" (by decide) rfl (Nat.le_of_ble_eq_true rfl) ?_
  intro p e s m args below meth c A ls Qf B hnm h hl hQ
  have hl : lv_has ls 4 [(0, .ref (am 0)), (1, .int (iI a)), (2, .int (iI b)), (3, .int (iI v))] := hl
  have hs := pi_s (MW.pi hM)
  have hpe := pe_0 (MW.pe hM)
  refine lv_iload_n B.1 B.2.1 dX12_binds_0 rfl (lv_at hl 3 rfl) ?_
  refine lv_aload_n B.1 B.2.1 dX12_binds_1 rfl (lv_at hl 0 rfl) ?_
  refine y_getR B h kX12 50 (MW.f hM 0 _ rfl) 56 (b := am 32) rfl m_1317 (by decide) dX12_binds_2 ?_
  refine x_bipush B (by decide) dX12_binds_5 ?_
  refine lv_iload_n B.1 B.2.1 dX12_binds_7 rfl (lv_at hl 1 rfl) ?_
  refine x_imul B dX12_binds_8 ?_
  refine lv_iload_n B.1 B.2.1 dX12_binds_9 rfl (lv_at hl 2 rfl) ?_
  refine x_iadd B dX12_binds_10 ?_
  refine y_iald B h 82 (MW.f hM 32 _ rfl) (by omega) dX12_binds_11 (fun fz1 hfz1 => ?_)
  refine x_name (fun z1 hz1 ez1 => ?_)
  refine x_icmp_ge B (by omega) (tgt := 27) dX12_binds_12 (by decide) (fun c2 => ?_) (fun c2 => ?_)
  · refine y_rv B hQ h (by decide) dX12_binds_27 ?_
    exact ⟨rfl, rfl⟩
  · refine lv_aload_n B.1 B.2.1 dX12_binds_15 rfl (lv_at hl 0 rfl) ?_
    refine y_getR B h kX12 50 (MW.f hM 0 _ rfl) 56 (b := am 32) rfl m_1317 (by decide) dX12_binds_16 ?_
    refine x_bipush B (by decide) dX12_binds_19 ?_
    refine lv_iload_n B.1 B.2.1 dX12_binds_21 rfl (lv_at hl 1 rfl) ?_
    refine x_imul B dX12_binds_22 ?_
    refine lv_iload_n B.1 B.2.1 dX12_binds_23 rfl (lv_at hl 2 rfl) ?_
    refine x_iadd B dX12_binds_24 ?_
    refine lv_iload_n B.1 B.2.1 dX12_binds_25 rfl (lv_at hl 3 rfl) ?_
    refine y_iastS B h 82 (MW.f hM 32 _ rfl) (by omega) (fun _ _ => trivial) dX12_binds_26 (fun H locs h => ?_)
    refine y_rv B hQ h (by decide) dX12_binds_27 ?_
    exact ⟨rfl, rfl⟩
abbrev r_c_X12_bindsBy : Room := { frames := 3, cells := 0, slots := 0, locals := 79 }
set_option maxHeartbeats 4000000 in
set_option maxRecDepth 100000 in
theorem c_X12_bindsBy (l : Launch) (D : va_G) (Zk : yK) (ca : Nat → ClassId) (T : Nat → Int → Int) (E : Nat → Int → Int) (am : Nat → Nat) (w : yW) (hM : MW ca T E am w) (a : Int) (b : Int)  (ha : 0 ≤ a ∧ a < T 0 2) (hb : 0 ≤ b ∧ b < T 0 2) : yC l D Zk ca yX12_bindsBy cX12_bindsBy 6 none r_c_X12_bindsBy [.ref (am 0), .int (iI a), .int (iI b)] w (vV w) := by
  refine yC.of2 "WindWordsModel" (by decide) rfl (Nat.le_of_ble_eq_true rfl) ?_
  intro p e s m args below meth c A ls Qf B hnm h hl hQ
  have hl : lv_has ls 6 [(0, .ref (am 0)), (1, .int (iI a)), (2, .int (iI b))] := hl
  have hs := pi_s (MW.pi hM)
  have hpe := pe_0 (MW.pe hM)
  refine lv_aload_n B.1 B.2.1 dX12_bindsBy_0 rfl (lv_at hl 0 rfl) ?_
  refine lv_iload_n B.1 B.2.1 dX12_bindsBy_1 rfl (lv_at hl 1 rfl) ?_
  refine y_cV B h kX12 50 (MW.f hM 0 _ rfl) k_X12_writer rfl (c_X12_writer l D Zk ca T E am _ hM a  (by omega)) m_1736 rfl (by decide) hl.1 [] (Nat.le_of_ble_eq_true rfl) rfl dX12_bindsBy_2 (fun r w1 hq H locs h => ?_)
  obtain ⟨rfl, _, rfl, rfl⟩ := hq
  have tb1 := pi_3 (MW.pi hM) (1000 * T 4 a + T 5 a)
  show W p l e r_c_X12_bindsBy s m args below meth c _ _ 0 0 Qf (F0 m 5 ls [.int (iI (T 3 (1000 * T 4 a + T 5 a)))])
  refine lv_istore_n (lv' := [(3, .int (iI (T 3 (1000 * T 4 a + T 5 a)))), (0, .ref (am 0)), (1, .int (iI a)), (2, .int (iI b))]) B.1 B.2.1 dX12_bindsBy_5 rfl hl (by decide) rfl (fun ls hl => ?_)
  refine lv_aload_n B.1 B.2.1 dX12_bindsBy_6 rfl (lv_at hl 1 rfl) ?_
  refine lv_iload_n B.1 B.2.1 dX12_bindsBy_7 rfl (lv_at hl 3 rfl) ?_
  refine y_cV B h kX12 50 (MW.f hM 0 _ rfl) k_X12_isMan rfl (c_X12_isMan l D Zk ca T E am _ hM b  (by omega)) m_1728 rfl (by decide) hl.1 [] (Nat.le_of_ble_eq_true rfl) rfl dX12_bindsBy_8 (fun r w1 hq H locs h => ?_)
  obtain ⟨rfl, _, rfl, ⟨rfl, b2⟩ | ⟨rfl, b2⟩⟩ := hq
  · show W p l e r_c_X12_bindsBy s m args below meth c _ _ 0 0 Qf (F0 m 11 ls [.int (iI 1)])
    refine x_if_eq B (by omega) (tgt := 82) dX12_bindsBy_11 (by decide) (fun c3 => ?_) (fun c3 => ?_)
    · exact absurd c3 (by omega)
    · refine lv_aload_n B.1 B.2.1 dX12_bindsBy_14 rfl (lv_at hl 1 rfl) ?_
      refine lv_iload_n B.1 B.2.1 dX12_bindsBy_15 rfl (lv_at hl 3 rfl) ?_
      refine y_cV B h kX12 50 (MW.f hM 0 _ rfl) k_X12_writer rfl (c_X12_writer l D Zk ca T E am _ hM b  (by omega)) m_1736 rfl (by decide) hl.1 [] (Nat.le_of_ble_eq_true rfl) rfl dX12_bindsBy_16 (fun r w1 hq H locs h => ?_)
      obtain ⟨rfl, _, rfl, rfl⟩ := hq
      have tb4 := pi_3 (MW.pi hM) (1000 * T 4 b + T 5 b)
      show W p l e r_c_X12_bindsBy s m args below meth c _ _ 0 0 Qf (F0 m 19 ls [.int (iI (T 3 (1000 * T 4 b + T 5 b)))])
      refine lv_istore (lv' := [(4, .int (iI (T 3 (1000 * T 4 b + T 5 b)))), (3, .int (iI (T 3 (1000 * T 4 a + T 5 a)))), (0, .ref (am 0)), (1, .int (iI a)), (2, .int (iI b))]) B.1 B.2.1 dX12_bindsBy_19 hl (by decide) rfl (fun ls hl => ?_)
      refine lv_iload B.1 B.2.1 dX12_bindsBy_21 (lv_at hl 0 rfl) ?_
      refine lv_iload_n B.1 B.2.1 dX12_bindsBy_23 rfl (lv_at hl 1 rfl) ?_
      refine x_icmp_eq B (by omega) (tgt := 37) dX12_bindsBy_24 (by decide) (fun c5 => ?_) (fun c5 => ?_)
      · refine y_rv B hQ h (by decide) dX12_bindsBy_37 ?_
        exact ⟨rfl, rfl⟩
      · refine lv_aload_n B.1 B.2.1 dX12_bindsBy_27 rfl (lv_at hl 2 rfl) ?_
        refine y_getR B h kX12 50 (MW.f hM 0 _ rfl) 7 (b := am 2) rfl m_1268 (by decide) dX12_bindsBy_28 ?_
        refine lv_iload B.1 B.2.1 dX12_bindsBy_31 (lv_at hl 0 rfl) ?_
        refine y_zaldG B h 52 (MW.f hM 2 _ rfl) (by omega) dX12_bindsBy_33 (fun z6 z6a z6b => ?_)
        refine x_if_ne B (by omega) (tgt := 38) dX12_bindsBy_34 (by decide) (fun c7 => ?_) (fun c7 => ?_)
        · refine lv_aload_n B.1 B.2.1 dX12_bindsBy_38 rfl (lv_at hl 2 rfl) ?_
          refine y_getR B h kX12 50 (MW.f hM 0 _ rfl) 18 (b := am 13) rfl m_1279 (by decide) dX12_bindsBy_39 ?_
          refine lv_iload_n B.1 B.2.1 dX12_bindsBy_42 rfl (lv_at hl 3 rfl) ?_
          refine y_ialdX B h 63 (MW.f hM 13 _ rfl) (by omega) dX12_bindsBy_43 ?_
          refine x_iset (z := (T 8 a)) (by show iI (T 8 (((a : Int).toNat : Nat) : Int)) = _; rw [show ((((a : Int).toNat : Nat) : Int)) = a by omega]) ?_
          have tb8 := pi_8 (MW.pi hM) a
          have tb9 := pi_n (MW.pi hM) a
          refine lv_aload_n B.1 B.2.1 dX12_bindsBy_44 rfl (lv_at hl 2 rfl) ?_
          refine y_getR B h kX12 50 (MW.f hM 0 _ rfl) 18 (b := am 13) rfl m_1279 (by decide) dX12_bindsBy_45 ?_
          refine lv_iload_n B.1 B.2.1 dX12_bindsBy_48 rfl (lv_at hl 4 rfl) ?_
          refine y_ialdX B h 63 (MW.f hM 13 _ rfl) (by omega) dX12_bindsBy_49 ?_
          refine x_iset (z := (T 8 b)) (by show iI (T 8 (((b : Int).toNat : Nat) : Int)) = _; rw [show ((((b : Int).toNat : Nat) : Int)) = b by omega]) ?_
          have tb10 := pi_8 (MW.pi hM) b
          have tb11 := pi_n (MW.pi hM) b
          refine x_isub B dX12_bindsBy_50 ?_
          refine lv_istore (lv' := [(5, .int (iI ((T 8 a) - (T 8 b)))), (4, .int (iI (T 3 (1000 * T 4 b + T 5 b)))), (3, .int (iI (T 3 (1000 * T 4 a + T 5 a)))), (0, .ref (am 0)), (1, .int (iI a)), (2, .int (iI b))]) B.1 B.2.1 dX12_bindsBy_51 hl (by decide) rfl (fun ls hl => ?_)
          refine lv_aload_n B.1 B.2.1 dX12_bindsBy_53 rfl (lv_at hl 3 rfl) ?_
          refine lv_iload_n B.1 B.2.1 dX12_bindsBy_54 rfl (lv_at hl 2 rfl) ?_
          refine lv_iload B.1 B.2.1 dX12_bindsBy_55 (lv_at hl 1 rfl) ?_
          refine lv_iload B.1 B.2.1 dX12_bindsBy_57 (lv_at hl 0 rfl) ?_
          refine lv_aload_n B.1 B.2.1 dX12_bindsBy_59 rfl (lv_at hl 3 rfl) ?_
          refine y_getX B h kX12 50 (MW.f hM 0 _ rfl) 6 (z := (T 0 5)) rfl m_1267 (by decide) dX12_bindsBy_60 ?_
          refine x_iadd B dX12_bindsBy_63 ?_
          refine y_cV B h kX12 50 (MW.f hM 0 _ rfl) k_X12_binds rfl (c_X12_binds l D Zk ca T E am _ hM ((T 3 (1000 * T 4 a + T 5 a))) ((T 3 (1000 * T 4 b + T 5 b))) ((((T 8 a) - (T 8 b)) + (T 0 5)))  (by omega) (by omega) (by omega)) m_1754 rfl (by decide) hl.1 [] (Nat.le_of_ble_eq_true rfl) rfl dX12_bindsBy_64 (fun r w1 hq H locs h => ?_)
          obtain ⟨rfl, rfl⟩ := hq
          show W p l e r_c_X12_bindsBy s m args below meth c _ _ 0 0 Qf (F0 m 67 ls [])
          refine lv_aload_n B.1 B.2.1 dX12_bindsBy_67 rfl (lv_at hl 3 rfl) ?_
          refine lv_iload B.1 B.2.1 dX12_bindsBy_68 (lv_at hl 1 rfl) ?_
          refine lv_iload_n B.1 B.2.1 dX12_bindsBy_70 rfl (lv_at hl 2 rfl) ?_
          refine lv_aload_n B.1 B.2.1 dX12_bindsBy_71 rfl (lv_at hl 3 rfl) ?_
          refine y_getX B h kX12 50 (MW.f hM 0 _ rfl) 6 (z := (T 0 5)) rfl m_1267 (by decide) dX12_bindsBy_72 ?_
          refine lv_iload B.1 B.2.1 dX12_bindsBy_75 (lv_at hl 0 rfl) ?_
          refine x_isub B dX12_bindsBy_77 ?_
          refine y_cV B h kX12 50 (MW.f hM 0 _ rfl) k_X12_binds rfl (c_X12_binds l D Zk ca T E am _ hM ((T 3 (1000 * T 4 b + T 5 b))) ((T 3 (1000 * T 4 a + T 5 a))) (((T 0 5) - ((T 8 a) - (T 8 b))))  (by omega) (by omega) (by omega)) m_1754 rfl (by decide) hl.1 [] (Nat.le_of_ble_eq_true rfl) rfl dX12_bindsBy_78 (fun r w1 hq H locs h => ?_)
          obtain ⟨rfl, rfl⟩ := hq
          show W p l e r_c_X12_bindsBy s m args below meth c _ _ 0 0 Qf (F0 m 81 ls [])
          refine y_rv B hQ h (by decide) dX12_bindsBy_81 ?_
          exact ⟨rfl, rfl⟩
        · refine y_rv B hQ h (by decide) dX12_bindsBy_37 ?_
          exact ⟨rfl, rfl⟩
  · show W p l e r_c_X12_bindsBy s m args below meth c _ _ 0 0 Qf (F0 m 11 ls [.int (iI 0)])
    refine x_if_eq B (by omega) (tgt := 82) dX12_bindsBy_11 (by decide) (fun c12 => ?_) (fun c12 => ?_)
    · refine lv_aload_n B.1 B.2.1 dX12_bindsBy_82 rfl (lv_at hl 1 rfl) ?_
      refine y_getR B h kX12 50 (MW.f hM 0 _ rfl) 18 (b := am 13) rfl m_1279 (by decide) dX12_bindsBy_83 ?_
      refine lv_iload_n B.1 B.2.1 dX12_bindsBy_86 rfl (lv_at hl 2 rfl) ?_
      refine y_ialdX B h 63 (MW.f hM 13 _ rfl) (by omega) dX12_bindsBy_87 ?_
      refine x_iset (z := (T 8 a)) (by show iI (T 8 (((a : Int).toNat : Nat) : Int)) = _; rw [show ((((a : Int).toNat : Nat) : Int)) = a by omega]) ?_
      have tb13 := pi_8 (MW.pi hM) a
      have tb14 := pi_n (MW.pi hM) a
      refine lv_aload_n B.1 B.2.1 dX12_bindsBy_88 rfl (lv_at hl 1 rfl) ?_
      refine lv_aload_n B.1 B.2.1 dX12_bindsBy_89 rfl (lv_at hl 1 rfl) ?_
      refine y_getR B h kX12 50 (MW.f hM 0 _ rfl) 17 (b := am 12) rfl m_1278 (by decide) dX12_bindsBy_90 ?_
      refine lv_iload_n B.1 B.2.1 dX12_bindsBy_93 rfl (lv_at hl 2 rfl) ?_
      refine y_ialdX B h 62 (MW.f hM 12 _ rfl) (by omega) dX12_bindsBy_94 ?_
      refine x_iset (z := (T 7 a)) (by show iI (T 7 (((a : Int).toNat : Nat) : Int)) = _; rw [show ((((a : Int).toNat : Nat) : Int)) = a by omega]) ?_
      have tb15 := pi_7 (MW.pi hM) a
      refine lv_aload_n B.1 B.2.1 dX12_bindsBy_95 rfl (lv_at hl 1 rfl) ?_
      refine y_getR B h kX12 50 (MW.f hM 0 _ rfl) 18 (b := am 13) rfl m_1279 (by decide) dX12_bindsBy_96 ?_
      refine lv_iload_n B.1 B.2.1 dX12_bindsBy_99 rfl (lv_at hl 3 rfl) ?_
      refine y_ialdX B h 63 (MW.f hM 13 _ rfl) (by omega) dX12_bindsBy_100 ?_
      refine x_iset (z := (T 8 b)) (by show iI (T 8 (((b : Int).toNat : Nat) : Int)) = _; rw [show ((((b : Int).toNat : Nat) : Int)) = b by omega]) ?_
      have tb16 := pi_8 (MW.pi hM) b
      have tb17 := pi_n (MW.pi hM) b
      refine lv_aload_n B.1 B.2.1 dX12_bindsBy_101 rfl (lv_at hl 1 rfl) ?_
      refine y_getR B h kX12 50 (MW.f hM 0 _ rfl) 8 (b := am 3) rfl m_1269 (by decide) dX12_bindsBy_102 ?_
      refine lv_aload_n B.1 B.2.1 dX12_bindsBy_105 rfl (lv_at hl 1 rfl) ?_
      refine y_getR B h kX12 50 (MW.f hM 0 _ rfl) 14 (b := am 9) rfl m_1275 (by decide) dX12_bindsBy_106 ?_
      refine lv_iload_n B.1 B.2.1 dX12_bindsBy_109 rfl (lv_at hl 2 rfl) ?_
      refine y_ialdX B h 59 (MW.f hM 9 _ rfl) (by omega) dX12_bindsBy_110 ?_
      refine x_iset (z := (T 4 a)) (by show iI (T 4 (((a : Int).toNat : Nat) : Int)) = _; rw [show ((((a : Int).toNat : Nat) : Int)) = a by omega]) ?_
      have tb18 := pi_4 (MW.pi hM) a
      refine y_ialdX B h 53 (MW.f hM 3 _ rfl) (by omega) dX12_bindsBy_111 ?_
      refine x_iset (z := (T 1 ((T 4 a)))) (by show iI (T 1 ((((T 4 a) : Int).toNat : Nat) : Int)) = _; rw [show (((((T 4 a) : Int).toNat : Nat) : Int)) = (T 4 a) by omega]) ?_
      have tb19 := pi_1 (MW.pi hM) ((T 4 a))
      refine lv_aload_n B.1 B.2.1 dX12_bindsBy_112 rfl (lv_at hl 1 rfl) ?_
      refine y_getR B h kX12 50 (MW.f hM 0 _ rfl) 19 (b := am 14) rfl m_1280 (by decide) dX12_bindsBy_113 ?_
      refine lv_iload_n B.1 B.2.1 dX12_bindsBy_116 rfl (lv_at hl 2 rfl) ?_
      refine y_ialdX B h 64 (MW.f hM 14 _ rfl) (by omega) dX12_bindsBy_117 ?_
      refine x_iset (z := (T 9 a)) (by show iI (T 9 (((a : Int).toNat : Nat) : Int)) = _; rw [show ((((a : Int).toNat : Nat) : Int)) = a by omega]) ?_
      have tb20 := pi_9 (MW.pi hM) a
      refine lv_aload_n B.1 B.2.1 dX12_bindsBy_118 rfl (lv_at hl 1 rfl) ?_
      refine lv_iload_n B.1 B.2.1 dX12_bindsBy_119 rfl (lv_at hl 2 rfl) ?_
      refine y_cV B h kX12 50 (MW.f hM 0 _ rfl) k_X12_yearOf rfl (c_X12_yearOf l D Zk ca T E am _ hM a  (by omega)) m_1758 rfl (by decide) hl.1 [.int (iI (T 9 a)), .int (iI (T 1 ((T 4 a)))), .int (iI (T 8 b)), .int (iI (T 7 a)), .ref (am 0), .int (iI (T 8 a))] (Nat.le_of_ble_eq_true rfl) rfl dX12_bindsBy_120 (fun r w1 hq H locs h => ?_)
      obtain ⟨rfl, _, rfl, rfl⟩ := hq
      have tb21 := pi_5 (MW.pi hM) a
      show W p l e r_c_X12_bindsBy s m args below meth c _ _ 0 0 Qf (F0 m 123 ls [.int (iI ((T 5 a) / 100)), .int (iI (T 9 a)), .int (iI (T 1 ((T 4 a)))), .int (iI (T 8 b)), .int (iI (T 7 a)), .ref (am 0), .int (iI (T 8 a))])
      refine y_cV B h kX12 50 (MW.f hM 0 _ rfl) k_X12_readIn rfl (c_X12_readIn l D Zk ca T E am _ hM ((T 7 a)) ((T 8 b)) ((T 1 ((T 4 a)))) ((T 9 a)) (((T 5 a) / 100))  (by omega) (by omega) (by omega) (by omega) (by omega)) m_1663 rfl (by decide) hl.1 [.int (iI (T 8 a))] (Nat.le_of_ble_eq_true rfl) rfl dX12_bindsBy_123 (fun r w1 hq H locs h => ?_)
      obtain ⟨rfl, z22, rfl, hz22⟩ := hq
      show W p l e r_c_X12_bindsBy s m args below meth c _ _ 0 0 Qf (F0 m 126 ls [.int (iI z22), .int (iI (T 8 a))])
      refine x_isub B dX12_bindsBy_126 ?_
      refine lv_istore (lv' := [(4, .int (iI ((T 8 a) - z22))), (3, .int (iI (T 3 (1000 * T 4 a + T 5 a)))), (0, .ref (am 0)), (1, .int (iI a)), (2, .int (iI b))]) B.1 B.2.1 dX12_bindsBy_127 hl (by decide) rfl (fun ls hl => ?_)
      refine lv_aload_n B.1 B.2.1 dX12_bindsBy_129 rfl (lv_at hl 2 rfl) ?_
      refine lv_iload_n B.1 B.2.1 dX12_bindsBy_130 rfl (lv_at hl 1 rfl) ?_
      refine x_bipush B (by decide) dX12_bindsBy_131 ?_
      refine lv_iload B.1 B.2.1 dX12_bindsBy_133 (lv_at hl 0 rfl) ?_
      refine lv_aload_n B.1 B.2.1 dX12_bindsBy_135 rfl (lv_at hl 2 rfl) ?_
      refine y_getX B h kX12 50 (MW.f hM 0 _ rfl) 6 (z := (T 0 5)) rfl m_1267 (by decide) dX12_bindsBy_136 ?_
      refine x_iadd B dX12_bindsBy_139 ?_
      refine y_cV B h kX12 50 (MW.f hM 0 _ rfl) k_X12_binds rfl (c_X12_binds l D Zk ca T E am _ hM ((T 3 (1000 * T 4 a + T 5 a))) 16 ((((T 8 a) - z22) + (T 0 5)))  (by omega) (by omega) (by omega)) m_1754 rfl (by decide) hl.1 [] (Nat.le_of_ble_eq_true rfl) rfl dX12_bindsBy_140 (fun r w1 hq H locs h => ?_)
      obtain ⟨rfl, rfl⟩ := hq
      show W p l e r_c_X12_bindsBy s m args below meth c _ _ 0 0 Qf (F0 m 143 ls [])
      refine lv_aload_n B.1 B.2.1 dX12_bindsBy_143 rfl (lv_at hl 2 rfl) ?_
      refine x_bipush B (by decide) dX12_bindsBy_144 ?_
      refine lv_iload_n B.1 B.2.1 dX12_bindsBy_146 rfl (lv_at hl 1 rfl) ?_
      refine lv_aload_n B.1 B.2.1 dX12_bindsBy_147 rfl (lv_at hl 2 rfl) ?_
      refine y_getX B h kX12 50 (MW.f hM 0 _ rfl) 6 (z := (T 0 5)) rfl m_1267 (by decide) dX12_bindsBy_148 ?_
      refine lv_iload B.1 B.2.1 dX12_bindsBy_151 (lv_at hl 0 rfl) ?_
      refine x_isub B dX12_bindsBy_153 ?_
      refine y_cV B h kX12 50 (MW.f hM 0 _ rfl) k_X12_binds rfl (c_X12_binds l D Zk ca T E am _ hM 16 ((T 3 (1000 * T 4 a + T 5 a))) (((T 0 5) - ((T 8 a) - z22)))  (by omega) (by omega) (by omega)) m_1754 rfl (by decide) hl.1 [] (Nat.le_of_ble_eq_true rfl) rfl dX12_bindsBy_154 (fun r w1 hq H locs h => ?_)
      obtain ⟨rfl, rfl⟩ := hq
      show W p l e r_c_X12_bindsBy s m args below meth c _ _ 0 0 Qf (F0 m 157 ls [])
      refine y_rv B hQ h (by decide) dX12_bindsBy_157 ?_
      exact ⟨rfl, rfl⟩
    · exact absurd c12 (by omega)
abbrev r_c_X12_leanLeast : Room := { frames := 0, cells := 0, slots := 0, locals := 0 }
set_option maxHeartbeats 4000000 in
set_option maxRecDepth 100000 in
theorem c_X12_leanLeast (l : Launch) (D : va_G) (Zk : yK) (ca : Nat → ClassId) (T : Nat → Int → Int) (E : Nat → Int → Int) (am : Nat → Nat) (w : yW) (hM : MW ca T E am w) (o : Int)  (ho : 0 ≤ o ∧ o ≤ 15) : yC l D Zk ca yX12_leanLeast cX12_leanLeast 2 (some .int) r_c_X12_leanLeast [.ref (am 0), .int (iI o)] w (vI w (fun z => xr z)) := by
  refine yC.of2 "WindWordsModel" (by decide) rfl (Nat.le_of_ble_eq_true rfl) ?_
  intro p e s m args below meth c A ls Qf B hnm h hl hQ
  have hl : lv_has ls 2 [(0, .ref (am 0)), (1, .int (iI o))] := hl
  have hs := pi_s (MW.pi hM)
  have hpe := pe_0 (MW.pe hM)
  refine lv_aload_n B.1 B.2.1 dX12_leanLeast_0 rfl (lv_at hl 0 rfl) ?_
  refine y_getR B h kX12 50 (MW.f hM 0 _ rfl) 56 (b := am 32) rfl m_1317 (by decide) dX12_leanLeast_1 ?_
  refine x_sipush B (by decide) dX12_leanLeast_4 ?_
  refine lv_iload_n B.1 B.2.1 dX12_leanLeast_7 rfl (lv_at hl 1 rfl) ?_
  refine x_iadd B dX12_leanLeast_8 ?_
  refine y_iald B h 82 (MW.f hM 32 _ rfl) (by omega) dX12_leanLeast_9 (fun fz1 hfz1 => ?_)
  refine x_name (fun z1 hz1 ez1 => ?_)
  refine x_ldcw B (z := 100000) m_1727 (by decide) dX12_leanLeast_10 ?_
  refine x_icmp_lt B (by omega) (tgt := 22) dX12_leanLeast_13 (by decide) (fun c2 => ?_) (fun c2 => ?_)
  · refine lv_aload_n B.1 B.2.1 dX12_leanLeast_22 rfl (lv_at hl 0 rfl) ?_
    refine y_getR B h kX12 50 (MW.f hM 0 _ rfl) 56 (b := am 32) rfl m_1317 (by decide) dX12_leanLeast_23 ?_
    refine x_sipush B (by decide) dX12_leanLeast_26 ?_
    refine lv_iload_n B.1 B.2.1 dX12_leanLeast_29 rfl (lv_at hl 1 rfl) ?_
    refine x_iadd B dX12_leanLeast_30 ?_
    refine y_iald B h 82 (MW.f hM 32 _ rfl) (by omega) dX12_leanLeast_31 (fun fz3 hfz3 => ?_)
    refine x_name (fun z3 hz3 ez3 => ?_)
    refine x_ineg B dX12_leanLeast_32 ?_
    refine x_name (fun z4 hz4 ez4 => ?_)
    refine y_ri B hQ h (by decide) dX12_leanLeast_33 ?_
    exact ⟨rfl, _, rfl, (by first | omega | trivial | assumption)⟩
  · refine x_sipush B (by decide) dX12_leanLeast_16 ?_
    refine lv_goto (tgt := 33) B.1 B.2.1 dX12_leanLeast_19 (by decide) ?_
    refine y_ri B hQ h (by decide) dX12_leanLeast_33 ?_
    exact ⟨rfl, _, rfl, (by first | omega | trivial | assumption)⟩
abbrev r_c_X12_leanMost : Room := { frames := 0, cells := 0, slots := 0, locals := 0 }
set_option maxHeartbeats 4000000 in
set_option maxRecDepth 100000 in
theorem c_X12_leanMost (l : Launch) (D : va_G) (Zk : yK) (ca : Nat → ClassId) (T : Nat → Int → Int) (E : Nat → Int → Int) (am : Nat → Nat) (w : yW) (hM : MW ca T E am w) (o : Int)  (ho : 0 ≤ o ∧ o ≤ 15) : yC l D Zk ca yX12_leanMost cX12_leanMost 2 (some .int) r_c_X12_leanMost [.ref (am 0), .int (iI o)] w (vI w (fun z => xr z)) := by
  refine yC.of2 "WindWordsModel" (by decide) rfl (Nat.le_of_ble_eq_true rfl) ?_
  intro p e s m args below meth c A ls Qf B hnm h hl hQ
  have hl : lv_has ls 2 [(0, .ref (am 0)), (1, .int (iI o))] := hl
  have hs := pi_s (MW.pi hM)
  have hpe := pe_0 (MW.pe hM)
  refine lv_aload_n B.1 B.2.1 dX12_leanMost_0 rfl (lv_at hl 0 rfl) ?_
  refine y_getR B h kX12 50 (MW.f hM 0 _ rfl) 56 (b := am 32) rfl m_1317 (by decide) dX12_leanMost_1 ?_
  refine x_bipush B (by decide) dX12_leanMost_4 ?_
  refine lv_iload_n B.1 B.2.1 dX12_leanMost_6 rfl (lv_at hl 1 rfl) ?_
  refine x_imul B dX12_leanMost_7 ?_
  refine x_bipush B (by decide) dX12_leanMost_8 ?_
  refine x_iadd B dX12_leanMost_10 ?_
  refine y_iald B h 82 (MW.f hM 32 _ rfl) (by omega) dX12_leanMost_11 (fun fz1 hfz1 => ?_)
  refine x_name (fun z1 hz1 ez1 => ?_)
  refine x_ldcw B (z := 100000) m_1727 (by decide) dX12_leanMost_12 ?_
  refine x_icmp_lt B (by omega) (tgt := 24) dX12_leanMost_15 (by decide) (fun c2 => ?_) (fun c2 => ?_)
  · refine lv_aload_n B.1 B.2.1 dX12_leanMost_24 rfl (lv_at hl 0 rfl) ?_
    refine y_getR B h kX12 50 (MW.f hM 0 _ rfl) 56 (b := am 32) rfl m_1317 (by decide) dX12_leanMost_25 ?_
    refine x_bipush B (by decide) dX12_leanMost_28 ?_
    refine lv_iload_n B.1 B.2.1 dX12_leanMost_30 rfl (lv_at hl 1 rfl) ?_
    refine x_imul B dX12_leanMost_31 ?_
    refine x_bipush B (by decide) dX12_leanMost_32 ?_
    refine x_iadd B dX12_leanMost_34 ?_
    refine y_iald B h 82 (MW.f hM 32 _ rfl) (by omega) dX12_leanMost_35 (fun fz3 hfz3 => ?_)
    refine x_name (fun z3 hz3 ez3 => ?_)
    refine y_ri B hQ h (by decide) dX12_leanMost_36 ?_
    exact ⟨rfl, _, rfl, (by first | omega | trivial | assumption)⟩
  · refine x_sipush B (by decide) dX12_leanMost_18 ?_
    refine lv_goto (tgt := 36) B.1 B.2.1 dX12_leanMost_21 (by decide) ?_
    refine y_ri B hQ h (by decide) dX12_leanMost_36 ?_
    exact ⟨rfl, _, rfl, (by first | omega | trivial | assumption)⟩
abbrev r_c_X12_findLeans : Room := { frames := 4, cells := 0, slots := 0, locals := 104 }
set_option maxHeartbeats 4000000 in
set_option maxRecDepth 100000 in
theorem c_X12_findLeans (l : Launch) (D : va_G) (Zk : yK) (ca : Nat → ClassId) (T : Nat → Int → Int) (E : Nat → Int → Int) (am : Nat → Nat) (w : yW) (hM : MW ca T E am w)    : yC l D Zk ca yX12_findLeans cX12_findLeans 5 none r_c_X12_findLeans [.ref (am 0)] w (vV w) := by
  refine yC.of2 "WindWordsModel" (by decide) rfl (Nat.le_of_ble_eq_true rfl) ?_
  intro p e s m args below meth c A ls Qf B hnm h hl hQ
  have hl : lv_has ls 5 [(0, .ref (am 0))] := hl
  have hs := pi_s (MW.pi hM)
  have hpe := pe_0 (MW.pe hM)
  refine x_iconst B dX12_findLeans_0 ?_
  refine lv_istore_n (lv' := [(1, .int (iI 0)), (0, .ref (am 0))]) B.1 B.2.1 dX12_findLeans_1 rfl hl (by decide) rfl (fun ls hl => ?_)
  have loop2 : ∀ (n2 : Nat) (i : Int), (0 ≤ i ∧ i ≤ 289) → ((289 - i : Int)).toNat < n2 → ∀ (H : Heap) (locs : List Loc) (ls : Array Slot), yH D Zk A s w H locs → lv_has ls 5 [(1, .int (iI i)), (0, .ref (am 0))] → W p l e r_c_X12_findLeans s m args below meth c H locs 0 0 Qf (F0 m 2 ls []) := by
    intro n2
    induction n2 with
    | zero =>
      intro i h0 hm2 H locs ls h hl
      exact absurd hm2 (Nat.not_lt_zero _)
    | succ n2 ih2 =>
      intro i h0 hm2 H locs ls h hl
      refine lv_iload_n B.1 B.2.1 dX12_findLeans_2 rfl (lv_at hl 0 rfl) ?_
      refine x_sipush B (by decide) dX12_findLeans_3 ?_
      refine x_icmp_ge B (by omega) (tgt := 35) dX12_findLeans_6 (by decide) (fun c1 => ?_) (fun c1 => ?_)
      · refine x_iconst B dX12_findLeans_35 ?_
        refine lv_istore_n (lv' := [(1, .int (iI 0)), (0, .ref (am 0))]) B.1 B.2.1 dX12_findLeans_36 rfl hl (by decide) rfl (fun ls hl => ?_)
        have loop37 : ∀ (n37 : Nat) (a : Int), (0 ≤ a ∧ a ≤ 300) → ((300 - a : Int)).toNat < n37 → ∀ (H : Heap) (locs : List Loc) (ls : Array Slot), yH D Zk A s w H locs → lv_has ls 5 [(1, .int (iI a)), (0, .ref (am 0))] → W p l e r_c_X12_findLeans s m args below meth c H locs 0 0 Qf (F0 m 37 ls []) := by
          intro n37
          induction n37 with
          | zero =>
            intro a h0 hm37 H locs ls h hl
            exact absurd hm37 (Nat.not_lt_zero _)
          | succ n37 ih37 =>
            intro a h0 hm37 H locs ls h hl
            refine lv_iload_n B.1 B.2.1 dX12_findLeans_37 rfl (lv_at hl 0 rfl) ?_
            refine lv_aload_n B.1 B.2.1 dX12_findLeans_38 rfl (lv_at hl 1 rfl) ?_
            refine y_getX B h kX12 50 (MW.f hM 0 _ rfl) 4 (z := (T 0 2)) rfl m_1265 (by decide) dX12_findLeans_39 ?_
            refine x_icmp_ge B (by omega) (tgt := 101) dX12_findLeans_42 (by decide) (fun c2 => ?_) (fun c2 => ?_)
            · refine x_iconst B dX12_findLeans_101 ?_
              refine lv_istore_n (lv' := [(1, .int (iI 0)), (0, .ref (am 0))]) B.1 B.2.1 dX12_findLeans_102 rfl hl (by decide) rfl (fun ls hl => ?_)
              have loop103 : ∀ (n103 : Nat) (x : Int), (0 ≤ x ∧ x ≤ 17) → ((17 - x : Int)).toNat < n103 → ∀ (H : Heap) (locs : List Loc) (ls : Array Slot), yH D Zk A s w H locs → lv_has ls 5 [(1, .int (iI x)), (0, .ref (am 0))] → W p l e r_c_X12_findLeans s m args below meth c H locs 0 0 Qf (F0 m 103 ls []) := by
                intro n103
                induction n103 with
                | zero =>
                  intro x h2 hm103 H locs ls h hl
                  exact absurd hm103 (Nat.not_lt_zero _)
                | succ n103 ih103 =>
                  intro x h2 hm103 H locs ls h hl
                  refine lv_iload_n B.1 B.2.1 dX12_findLeans_103 rfl (lv_at hl 0 rfl) ?_
                  refine x_bipush B (by decide) dX12_findLeans_104 ?_
                  refine x_icmp_ge B (by omega) (tgt := 245) dX12_findLeans_106 (by decide) (fun c3 => ?_) (fun c3 => ?_)
                  · refine lv_aload_n B.1 B.2.1 dX12_findLeans_245 rfl (lv_at hl 1 rfl) ?_
                    refine x_iconst B dX12_findLeans_246 ?_
                    refine y_putS B h kX12 50 (MW.f hM 0 _ rfl) 57 (P := fG 0 1) rfl m_1318 (by decide) ⟨_, rfl, by omega, by omega⟩ rfl rfl rfl dX12_findLeans_247 (fun H locs h => ?_)
                    refine x_iconst B dX12_findLeans_250 ?_
                    refine lv_istore_n (lv' := [(1, .int (iI 0)), (0, .ref (am 0))]) B.1 B.2.1 dX12_findLeans_251 rfl hl (by decide) rfl (fun ls hl => ?_)
                    have loop252 : ∀ (n252 : Nat) (u : Int), (0 ≤ u ∧ u ≤ 17) → ((17 - u : Int)).toNat < n252 → ∀ (H : Heap) (locs : List Loc) (ls : Array Slot), yH D Zk A s w H locs → lv_has ls 5 [(1, .int (iI u)), (0, .ref (am 0))] → W p l e r_c_X12_findLeans s m args below meth c H locs 0 0 Qf (F0 m 252 ls []) := by
                      intro n252
                      induction n252 with
                      | zero =>
                        intro u h5 hm252 H locs ls h hl
                        exact absurd hm252 (Nat.not_lt_zero _)
                      | succ n252 ih252 =>
                        intro u h5 hm252 H locs ls h hl
                        refine lv_iload_n B.1 B.2.1 dX12_findLeans_252 rfl (lv_at hl 0 rfl) ?_
                        refine x_bipush B (by decide) dX12_findLeans_253 ?_
                        refine x_icmp_ge B (by omega) (tgt := 292) dX12_findLeans_255 (by decide) (fun c4 => ?_) (fun c4 => ?_)
                        · refine y_rv B hQ h (by decide) dX12_findLeans_292 ?_
                          exact ⟨rfl, rfl⟩
                        · refine lv_aload_n B.1 B.2.1 dX12_findLeans_258 rfl (lv_at hl 1 rfl) ?_
                          refine lv_aload_n B.1 B.2.1 dX12_findLeans_259 rfl (lv_at hl 1 rfl) ?_
                          refine y_getG B h kX12 50 (MW.f hM 0 _ rfl) 57 (lo := 0) (hi := 1) rfl m_1318 (by decide) dX12_findLeans_260 (fun z5 z5a z5b => ?_)
                          refine x_if_eq B (by omega) (tgt := 282) dX12_findLeans_263 (by decide) (fun c6 => ?_) (fun c6 => ?_)
                          · refine x_iconst B dX12_findLeans_282 ?_
                            refine y_putS B h kX12 50 (MW.f hM 0 _ rfl) 57 (P := fG 0 1) rfl m_1318 (by decide) ⟨_, rfl, by omega, by omega⟩ rfl rfl rfl dX12_findLeans_283 (fun H locs h => ?_)
                            refine lv_iinc (v := iI (u + 1)) (lv' := [(1, .int (iI (u + 1))), (0, .ref (am 0))]) B.1 B.2.1 dX12_findLeans_286 hl (k := 0) rfl (iI_add _ _) (by decide) rfl (fun ls hl => ?_)
                            refine lv_goto (tgt := 252) B.1 B.2.1 dX12_findLeans_289 (by decide) ?_
                            exact ih252 ((u + 1)) (by omega) (by omega) _ _ _ h (lv_sub hl [0, 1] rfl)
                          · refine lv_aload_n B.1 B.2.1 dX12_findLeans_266 rfl (lv_at hl 1 rfl) ?_
                            refine y_getR B h kX12 50 (MW.f hM 0 _ rfl) 56 (b := am 32) rfl m_1317 (by decide) dX12_findLeans_267 ?_
                            refine x_bipush B (by decide) dX12_findLeans_270 ?_
                            refine lv_iload_n B.1 B.2.1 dX12_findLeans_272 rfl (lv_at hl 0 rfl) ?_
                            refine x_imul B dX12_findLeans_273 ?_
                            refine y_iald B h 82 (MW.f hM 32 _ rfl) (by omega) dX12_findLeans_274 (fun fz7 hfz7 => ?_)
                            refine x_name (fun z7 hz7 ez7 => ?_)
                            refine x_if_lt B (by omega) (tgt := 282) dX12_findLeans_275 (by decide) (fun c8 => ?_) (fun c8 => ?_)
                            · refine x_iconst B dX12_findLeans_282 ?_
                              refine y_putS B h kX12 50 (MW.f hM 0 _ rfl) 57 (P := fG 0 1) rfl m_1318 (by decide) ⟨_, rfl, by omega, by omega⟩ rfl rfl rfl dX12_findLeans_283 (fun H locs h => ?_)
                              refine lv_iinc (v := iI (u + 1)) (lv' := [(1, .int (iI (u + 1))), (0, .ref (am 0))]) B.1 B.2.1 dX12_findLeans_286 hl (k := 0) rfl (iI_add _ _) (by decide) rfl (fun ls hl => ?_)
                              refine lv_goto (tgt := 252) B.1 B.2.1 dX12_findLeans_289 (by decide) ?_
                              exact ih252 ((u + 1)) (by omega) (by omega) _ _ _ h (lv_sub hl [0, 1] rfl)
                            · refine x_iconst B dX12_findLeans_278 ?_
                              refine lv_goto (tgt := 283) B.1 B.2.1 dX12_findLeans_279 (by decide) ?_
                              refine y_putS B h kX12 50 (MW.f hM 0 _ rfl) 57 (P := fG 0 1) rfl m_1318 (by decide) ⟨_, rfl, by omega, by omega⟩ rfl rfl rfl dX12_findLeans_283 (fun H locs h => ?_)
                              refine lv_iinc (v := iI (u + 1)) (lv' := [(1, .int (iI (u + 1))), (0, .ref (am 0))]) B.1 B.2.1 dX12_findLeans_286 hl (k := 0) rfl (iI_add _ _) (by decide) rfl (fun ls hl => ?_)
                              refine lv_goto (tgt := 252) B.1 B.2.1 dX12_findLeans_289 (by decide) ?_
                              exact ih252 ((u + 1)) (by omega) (by omega) _ _ _ h (lv_sub hl [0, 1] rfl)
                    exact loop252 (((17 - 0 : Int)).toNat + 1) 0 (by omega) (Nat.lt_succ_self _) _ _ _ h (lv_sub hl [0, 1] rfl)
                  · refine x_iconst B dX12_findLeans_109 ?_
                    refine lv_istore_n (lv' := [(2, .int (iI 0)), (1, .int (iI x)), (0, .ref (am 0))]) B.1 B.2.1 dX12_findLeans_110 rfl hl (by decide) rfl (fun ls hl => ?_)
                    have loop111 : ∀ (n111 : Nat) (y : Int), (0 ≤ y ∧ y ≤ 17) → ((17 - y : Int)).toNat < n111 → ∀ (H : Heap) (locs : List Loc) (ls : Array Slot), yH D Zk A s w H locs → lv_has ls 5 [(2, .int (iI y)), (1, .int (iI x)), (0, .ref (am 0))] → W p l e r_c_X12_findLeans s m args below meth c H locs 0 0 Qf (F0 m 111 ls []) := by
                      intro n111
                      induction n111 with
                      | zero =>
                        intro y h3 hm111 H locs ls h hl
                        exact absurd hm111 (Nat.not_lt_zero _)
                      | succ n111 ih111 =>
                        intro y h3 hm111 H locs ls h hl
                        refine lv_iload_n B.1 B.2.1 dX12_findLeans_111 rfl (lv_at hl 0 rfl) ?_
                        refine x_bipush B (by decide) dX12_findLeans_112 ?_
                        refine x_icmp_ge B (by omega) (tgt := 239) dX12_findLeans_114 (by decide) (fun c9 => ?_) (fun c9 => ?_)
                        · refine lv_iinc (v := iI (x + 1)) (lv' := [(1, .int (iI (x + 1))), (2, .int (iI y)), (0, .ref (am 0))]) B.1 B.2.1 dX12_findLeans_239 hl (k := 1) rfl (iI_add _ _) (by decide) rfl (fun ls hl => ?_)
                          refine lv_goto (tgt := 103) B.1 B.2.1 dX12_findLeans_242 (by decide) ?_
                          exact ih103 ((x + 1)) (by omega) (by omega) _ _ _ h (lv_sub hl [0, 2] rfl)
                        · refine x_iconst B dX12_findLeans_117 ?_
                          refine lv_istore_n (lv' := [(3, .int (iI 0)), (2, .int (iI y)), (1, .int (iI x)), (0, .ref (am 0))]) B.1 B.2.1 dX12_findLeans_118 rfl hl (by decide) rfl (fun ls hl => ?_)
                          have loop119 : ∀ (n119 : Nat) (v : Int), (0 ≤ v ∧ v ≤ 17) → ((17 - v : Int)).toNat < n119 → ∀ (H : Heap) (locs : List Loc) (ls : Array Slot), yH D Zk A s w H locs → lv_has ls 5 [(3, .int (iI v)), (2, .int (iI y)), (1, .int (iI x)), (0, .ref (am 0))] → W p l e r_c_X12_findLeans s m args below meth c H locs 0 0 Qf (F0 m 119 ls []) := by
                            intro n119
                            induction n119 with
                            | zero =>
                              intro v h4 hm119 H locs ls h hl
                              exact absurd hm119 (Nat.not_lt_zero _)
                            | succ n119 ih119 =>
                              intro v h4 hm119 H locs ls h hl
                              refine lv_iload_n B.1 B.2.1 dX12_findLeans_119 rfl (lv_at hl 0 rfl) ?_
                              refine x_bipush B (by decide) dX12_findLeans_120 ?_
                              refine x_icmp_ge B (by omega) (tgt := 233) dX12_findLeans_122 (by decide) (fun c10 => ?_) (fun c10 => ?_)
                              · refine lv_iinc (v := iI (y + 1)) (lv' := [(2, .int (iI (y + 1))), (3, .int (iI v)), (1, .int (iI x)), (0, .ref (am 0))]) B.1 B.2.1 dX12_findLeans_233 hl (k := 1) rfl (iI_add _ _) (by decide) rfl (fun ls hl => ?_)
                                refine lv_goto (tgt := 111) B.1 B.2.1 dX12_findLeans_236 (by decide) ?_
                                exact ih111 ((y + 1)) (by omega) (by omega) _ _ _ h (lv_sub hl [0, 2, 3] rfl)
                              · refine lv_aload_n B.1 B.2.1 dX12_findLeans_125 rfl (lv_at hl 3 rfl) ?_
                                refine y_getR B h kX12 50 (MW.f hM 0 _ rfl) 56 (b := am 32) rfl m_1317 (by decide) dX12_findLeans_126 ?_
                                refine x_bipush B (by decide) dX12_findLeans_129 ?_
                                refine lv_iload_n B.1 B.2.1 dX12_findLeans_131 rfl (lv_at hl 1 rfl) ?_
                                refine x_imul B dX12_findLeans_132 ?_
                                refine lv_iload_n B.1 B.2.1 dX12_findLeans_133 rfl (lv_at hl 2 rfl) ?_
                                refine x_iadd B dX12_findLeans_134 ?_
                                refine y_iald B h 82 (MW.f hM 32 _ rfl) (by omega) dX12_findLeans_135 (fun fz11 hfz11 => ?_)
                                refine x_name (fun z11 hz11 ez11 => ?_)
                                refine lv_aload_n B.1 B.2.1 dX12_findLeans_136 rfl (lv_at hl 3 rfl) ?_
                                refine y_getR B h kX12 50 (MW.f hM 0 _ rfl) 56 (b := am 32) rfl m_1317 (by decide) dX12_findLeans_137 ?_
                                refine x_bipush B (by decide) dX12_findLeans_140 ?_
                                refine lv_iload_n B.1 B.2.1 dX12_findLeans_142 rfl (lv_at hl 2 rfl) ?_
                                refine x_imul B dX12_findLeans_143 ?_
                                refine lv_iload_n B.1 B.2.1 dX12_findLeans_144 rfl (lv_at hl 0 rfl) ?_
                                refine x_iadd B dX12_findLeans_145 ?_
                                refine y_iald B h 82 (MW.f hM 32 _ rfl) (by omega) dX12_findLeans_146 (fun fz12 hfz12 => ?_)
                                refine x_name (fun z12 hz12 ez12 => ?_)
                                refine x_iadd B dX12_findLeans_147 ?_
                                refine x_name (fun z13 hz13 ez13 => ?_)
                                refine lv_istore (lv' := [(4, .int (iI z13)), (3, .int (iI v)), (2, .int (iI y)), (1, .int (iI x)), (0, .ref (am 0))]) B.1 B.2.1 dX12_findLeans_148 hl (by decide) rfl (fun ls hl => ?_)
                                refine lv_aload_n B.1 B.2.1 dX12_findLeans_150 rfl (lv_at hl 4 rfl) ?_
                                refine y_getR B h kX12 50 (MW.f hM 0 _ rfl) 56 (b := am 32) rfl m_1317 (by decide) dX12_findLeans_151 ?_
                                refine x_bipush B (by decide) dX12_findLeans_154 ?_
                                refine lv_iload_n B.1 B.2.1 dX12_findLeans_156 rfl (lv_at hl 2 rfl) ?_
                                refine x_imul B dX12_findLeans_157 ?_
                                refine lv_iload_n B.1 B.2.1 dX12_findLeans_158 rfl (lv_at hl 3 rfl) ?_
                                refine x_iadd B dX12_findLeans_159 ?_
                                refine y_iald B h 82 (MW.f hM 32 _ rfl) (by omega) dX12_findLeans_160 (fun fz14 hfz14 => ?_)
                                refine x_name (fun z14 hz14 ez14 => ?_)
                                refine x_ldcw B (z := 100000) m_1727 (by decide) dX12_findLeans_161 ?_
                                refine x_icmp_ge B (by omega) (tgt := 227) dX12_findLeans_164 (by decide) (fun c15 => ?_) (fun c15 => ?_)
                                · refine lv_iinc (v := iI (v + 1)) (lv' := [(3, .int (iI (v + 1))), (4, .int (iI z13)), (2, .int (iI y)), (1, .int (iI x)), (0, .ref (am 0))]) B.1 B.2.1 dX12_findLeans_227 hl (k := 1) rfl (iI_add _ _) (by decide) rfl (fun ls hl => ?_)
                                  refine lv_goto (tgt := 119) B.1 B.2.1 dX12_findLeans_230 (by decide) ?_
                                  exact ih119 ((v + 1)) (by omega) (by omega) _ _ _ h (lv_sub hl [0, 2, 3, 4] rfl)
                                · refine lv_aload_n B.1 B.2.1 dX12_findLeans_167 rfl (lv_at hl 4 rfl) ?_
                                  refine y_getR B h kX12 50 (MW.f hM 0 _ rfl) 56 (b := am 32) rfl m_1317 (by decide) dX12_findLeans_168 ?_
                                  refine x_bipush B (by decide) dX12_findLeans_171 ?_
                                  refine lv_iload_n B.1 B.2.1 dX12_findLeans_173 rfl (lv_at hl 3 rfl) ?_
                                  refine x_imul B dX12_findLeans_174 ?_
                                  refine lv_iload_n B.1 B.2.1 dX12_findLeans_175 rfl (lv_at hl 1 rfl) ?_
                                  refine x_iadd B dX12_findLeans_176 ?_
                                  refine y_iald B h 82 (MW.f hM 32 _ rfl) (by omega) dX12_findLeans_177 (fun fz16 hfz16 => ?_)
                                  refine x_name (fun z16 hz16 ez16 => ?_)
                                  refine x_ldcw B (z := 100000) m_1727 (by decide) dX12_findLeans_178 ?_
                                  refine x_icmp_ge B (by omega) (tgt := 227) dX12_findLeans_181 (by decide) (fun c17 => ?_) (fun c17 => ?_)
                                  · refine lv_iinc (v := iI (v + 1)) (lv' := [(3, .int (iI (v + 1))), (4, .int (iI z13)), (2, .int (iI y)), (1, .int (iI x)), (0, .ref (am 0))]) B.1 B.2.1 dX12_findLeans_227 hl (k := 1) rfl (iI_add _ _) (by decide) rfl (fun ls hl => ?_)
                                    refine lv_goto (tgt := 119) B.1 B.2.1 dX12_findLeans_230 (by decide) ?_
                                    exact ih119 ((v + 1)) (by omega) (by omega) _ _ _ h (lv_sub hl [0, 2, 3, 4] rfl)
                                  · refine lv_iload B.1 B.2.1 dX12_findLeans_184 (lv_at hl 0 rfl) ?_
                                    refine lv_aload_n B.1 B.2.1 dX12_findLeans_186 rfl (lv_at hl 4 rfl) ?_
                                    refine y_getR B h kX12 50 (MW.f hM 0 _ rfl) 56 (b := am 32) rfl m_1317 (by decide) dX12_findLeans_187 ?_
                                    refine x_bipush B (by decide) dX12_findLeans_190 ?_
                                    refine lv_iload_n B.1 B.2.1 dX12_findLeans_192 rfl (lv_at hl 2 rfl) ?_
                                    refine x_imul B dX12_findLeans_193 ?_
                                    refine lv_iload_n B.1 B.2.1 dX12_findLeans_194 rfl (lv_at hl 1 rfl) ?_
                                    refine x_iadd B dX12_findLeans_195 ?_
                                    refine y_iald B h 82 (MW.f hM 32 _ rfl) (by omega) dX12_findLeans_196 (fun fz18 hfz18 => ?_)
                                    refine x_name (fun z18 hz18 ez18 => ?_)
                                    refine x_icmp_ge B (by omega) (tgt := 227) dX12_findLeans_197 (by decide) (fun c19 => ?_) (fun c19 => ?_)
                                    · refine lv_iinc (v := iI (v + 1)) (lv' := [(3, .int (iI (v + 1))), (4, .int (iI z13)), (2, .int (iI y)), (1, .int (iI x)), (0, .ref (am 0))]) B.1 B.2.1 dX12_findLeans_227 hl (k := 1) rfl (iI_add _ _) (by decide) rfl (fun ls hl => ?_)
                                      refine lv_goto (tgt := 119) B.1 B.2.1 dX12_findLeans_230 (by decide) ?_
                                      exact ih119 ((v + 1)) (by omega) (by omega) _ _ _ h (lv_sub hl [0, 2, 3, 4] rfl)
                                    · refine lv_aload_n B.1 B.2.1 dX12_findLeans_200 rfl (lv_at hl 4 rfl) ?_
                                      refine y_getR B h kX12 50 (MW.f hM 0 _ rfl) 56 (b := am 32) rfl m_1317 (by decide) dX12_findLeans_201 ?_
                                      refine x_bipush B (by decide) dX12_findLeans_204 ?_
                                      refine lv_iload_n B.1 B.2.1 dX12_findLeans_206 rfl (lv_at hl 2 rfl) ?_
                                      refine x_imul B dX12_findLeans_207 ?_
                                      refine lv_iload_n B.1 B.2.1 dX12_findLeans_208 rfl (lv_at hl 1 rfl) ?_
                                      refine x_iadd B dX12_findLeans_209 ?_
                                      refine lv_iload B.1 B.2.1 dX12_findLeans_210 (lv_at hl 0 rfl) ?_
                                      refine x_ldcw B (z := (-100000)) m_1762 (by decide) dX12_findLeans_212 ?_
                                      refine x_icmp_ge B (by omega) (tgt := 224) dX12_findLeans_215 (by decide) (fun c20 => ?_) (fun c20 => ?_)
                                      · refine lv_iload B.1 B.2.1 dX12_findLeans_224 (lv_at hl 0 rfl) ?_
                                        refine y_iastS B h 82 (MW.f hM 32 _ rfl) (by omega) (fun _ _ => trivial) dX12_findLeans_226 (fun H locs h => ?_)
                                        refine lv_iinc (v := iI (v + 1)) (lv' := [(3, .int (iI (v + 1))), (4, .int (iI z13)), (2, .int (iI y)), (1, .int (iI x)), (0, .ref (am 0))]) B.1 B.2.1 dX12_findLeans_227 hl (k := 1) rfl (iI_add _ _) (by decide) rfl (fun ls hl => ?_)
                                        refine lv_goto (tgt := 119) B.1 B.2.1 dX12_findLeans_230 (by decide) ?_
                                        exact ih119 ((v + 1)) (by omega) (by omega) _ _ _ h (lv_sub hl [0, 2, 3, 4] rfl)
                                      · refine x_ldcw B (z := (-100000)) m_1762 (by decide) dX12_findLeans_218 ?_
                                        refine lv_goto (tgt := 226) B.1 B.2.1 dX12_findLeans_221 (by decide) ?_
                                        refine y_iastS B h 82 (MW.f hM 32 _ rfl) (by omega) (fun _ _ => trivial) dX12_findLeans_226 (fun H locs h => ?_)
                                        refine lv_iinc (v := iI (v + 1)) (lv' := [(3, .int (iI (v + 1))), (4, .int (iI z13)), (2, .int (iI y)), (1, .int (iI x)), (0, .ref (am 0))]) B.1 B.2.1 dX12_findLeans_227 hl (k := 1) rfl (iI_add _ _) (by decide) rfl (fun ls hl => ?_)
                                        refine lv_goto (tgt := 119) B.1 B.2.1 dX12_findLeans_230 (by decide) ?_
                                        exact ih119 ((v + 1)) (by omega) (by omega) _ _ _ h (lv_sub hl [0, 2, 3, 4] rfl)
                          exact loop119 (((17 - 0 : Int)).toNat + 1) 0 (by omega) (Nat.lt_succ_self _) _ _ _ h (lv_sub hl [0, 1, 2, 3] rfl)
                    exact loop111 (((17 - 0 : Int)).toNat + 1) 0 (by omega) (Nat.lt_succ_self _) _ _ _ h (lv_sub hl [0, 1, 2] rfl)
              exact loop103 (((17 - 0 : Int)).toNat + 1) 0 (by omega) (Nat.lt_succ_self _) _ _ _ h (lv_sub hl [0, 1] rfl)
            · refine lv_aload_n B.1 B.2.1 dX12_findLeans_45 rfl (lv_at hl 1 rfl) ?_
              refine lv_iload_n B.1 B.2.1 dX12_findLeans_46 rfl (lv_at hl 0 rfl) ?_
              refine y_cV B h kX12 50 (MW.f hM 0 _ rfl) k_X12_isMan rfl (c_X12_isMan l D Zk ca T E am _ hM a  (by omega)) m_1728 rfl (by decide) hl.1 [] (Nat.le_of_ble_eq_true rfl) rfl dX12_findLeans_47 (fun r w1 hq H locs h => ?_)
              obtain ⟨rfl, _, rfl, ⟨rfl, b21⟩ | ⟨rfl, b21⟩⟩ := hq
              · show W p l e r_c_X12_findLeans s m args below meth c _ _ 0 0 Qf (F0 m 50 ls [.int (iI 1)])
                refine x_if_eq B (by omega) (tgt := 95) dX12_findLeans_50 (by decide) (fun c22 => ?_) (fun c22 => ?_)
                · exact absurd c22 (by omega)
                · refine lv_aload_n B.1 B.2.1 dX12_findLeans_53 rfl (lv_at hl 1 rfl) ?_
                  refine lv_iload_n B.1 B.2.1 dX12_findLeans_54 rfl (lv_at hl 0 rfl) ?_
                  refine y_cV B h kX12 50 (MW.f hM 0 _ rfl) k_X12_isTrustedOne rfl (c_X12_isTrustedOne l D Zk ca T E am _ hM a  (by omega)) m_1732 rfl (by decide) hl.1 [] (Nat.le_of_ble_eq_true rfl) rfl dX12_findLeans_55 (fun r w1 hq H locs h => ?_)
                  obtain ⟨rfl, _, rfl, ⟨rfl, b23⟩ | ⟨rfl, b23⟩⟩ := hq
                  · show W p l e r_c_X12_findLeans s m args below meth c _ _ 0 0 Qf (F0 m 58 ls [.int (iI 1)])
                    refine x_if_ne B (by omega) (tgt := 64) dX12_findLeans_58 (by decide) (fun c24 => ?_) (fun c24 => ?_)
                    · refine x_iconst B dX12_findLeans_64 ?_
                      refine lv_istore_n (lv' := [(2, .int (iI 0)), (1, .int (iI a)), (0, .ref (am 0))]) B.1 B.2.1 dX12_findLeans_65 rfl hl (by decide) rfl (fun ls hl => ?_)
                      have loop66 : ∀ (n66 : Nat) (b : Int), (0 ≤ b ∧ b ≤ 300) → ((300 - b : Int)).toNat < n66 → ∀ (H : Heap) (locs : List Loc) (ls : Array Slot), yH D Zk A s w H locs → lv_has ls 5 [(2, .int (iI b)), (1, .int (iI a)), (0, .ref (am 0))] → W p l e r_c_X12_findLeans s m args below meth c H locs 0 0 Qf (F0 m 66 ls []) := by
                        intro n66
                        induction n66 with
                        | zero =>
                          intro b h1 hm66 H locs ls h hl
                          exact absurd hm66 (Nat.not_lt_zero _)
                        | succ n66 ih66 =>
                          intro b h1 hm66 H locs ls h hl
                          refine lv_iload_n B.1 B.2.1 dX12_findLeans_66 rfl (lv_at hl 0 rfl) ?_
                          refine lv_aload_n B.1 B.2.1 dX12_findLeans_67 rfl (lv_at hl 2 rfl) ?_
                          refine y_getX B h kX12 50 (MW.f hM 0 _ rfl) 4 (z := (T 0 2)) rfl m_1265 (by decide) dX12_findLeans_68 ?_
                          refine x_icmp_ge B (by omega) (tgt := 95) dX12_findLeans_71 (by decide) (fun c25 => ?_) (fun c25 => ?_)
                          · refine lv_iinc (v := iI (a + 1)) (lv' := [(1, .int (iI (a + 1))), (2, .int (iI b)), (0, .ref (am 0))]) B.1 B.2.1 dX12_findLeans_95 hl (k := 1) rfl (iI_add _ _) (by decide) rfl (fun ls hl => ?_)
                            refine lv_goto (tgt := 37) B.1 B.2.1 dX12_findLeans_98 (by decide) ?_
                            exact ih37 ((a + 1)) (by omega) (by omega) _ _ _ h (lv_sub hl [0, 2] rfl)
                          · refine lv_aload_n B.1 B.2.1 dX12_findLeans_74 rfl (lv_at hl 2 rfl) ?_
                            refine lv_iload_n B.1 B.2.1 dX12_findLeans_75 rfl (lv_at hl 1 rfl) ?_
                            refine lv_iload_n B.1 B.2.1 dX12_findLeans_76 rfl (lv_at hl 0 rfl) ?_
                            refine y_cV B h kX12 50 (MW.f hM 0 _ rfl) k_X12_areInSight rfl (c_X12_areInSight l D Zk ca T E am _ hM a b  (by omega) (by omega)) m_1740 rfl (by decide) hl.1 [] (Nat.le_of_ble_eq_true rfl) rfl dX12_findLeans_77 (fun r w1 hq H locs h => ?_)
                            obtain ⟨rfl, _, rfl, ⟨rfl, b26⟩ | ⟨rfl, b26⟩⟩ := hq
                            · show W p l e r_c_X12_findLeans s m args below meth c _ _ 0 0 Qf (F0 m 80 ls [.int (iI 1)])
                              refine x_if_eq B (by omega) (tgt := 89) dX12_findLeans_80 (by decide) (fun c27 => ?_) (fun c27 => ?_)
                              · exact absurd c27 (by omega)
                              · refine lv_aload_n B.1 B.2.1 dX12_findLeans_83 rfl (lv_at hl 2 rfl) ?_
                                refine lv_iload_n B.1 B.2.1 dX12_findLeans_84 rfl (lv_at hl 1 rfl) ?_
                                refine lv_iload_n B.1 B.2.1 dX12_findLeans_85 rfl (lv_at hl 0 rfl) ?_
                                refine y_cV B h kX12 50 (MW.f hM 0 _ rfl) k_X12_bindsBy rfl (c_X12_bindsBy l D Zk ca T E am _ hM a b  (by omega) (by omega)) m_1750 rfl (by decide) hl.1 [] (Nat.le_of_ble_eq_true rfl) rfl dX12_findLeans_86 (fun r w1 hq H locs h => ?_)
                                obtain ⟨rfl, rfl⟩ := hq
                                show W p l e r_c_X12_findLeans s m args below meth c _ _ 0 0 Qf (F0 m 89 ls [])
                                refine lv_iinc (v := iI (b + 1)) (lv' := [(2, .int (iI (b + 1))), (1, .int (iI a)), (0, .ref (am 0))]) B.1 B.2.1 dX12_findLeans_89 hl (k := 0) rfl (iI_add _ _) (by decide) rfl (fun ls hl => ?_)
                                refine lv_goto (tgt := 66) B.1 B.2.1 dX12_findLeans_92 (by decide) ?_
                                exact ih66 ((b + 1)) (by omega) (by omega) _ _ _ h (lv_sub hl [0, 1, 2] rfl)
                            · show W p l e r_c_X12_findLeans s m args below meth c _ _ 0 0 Qf (F0 m 80 ls [.int (iI 0)])
                              refine x_if_eq B (by omega) (tgt := 89) dX12_findLeans_80 (by decide) (fun c28 => ?_) (fun c28 => ?_)
                              · refine lv_iinc (v := iI (b + 1)) (lv' := [(2, .int (iI (b + 1))), (1, .int (iI a)), (0, .ref (am 0))]) B.1 B.2.1 dX12_findLeans_89 hl (k := 0) rfl (iI_add _ _) (by decide) rfl (fun ls hl => ?_)
                                refine lv_goto (tgt := 66) B.1 B.2.1 dX12_findLeans_92 (by decide) ?_
                                exact ih66 ((b + 1)) (by omega) (by omega) _ _ _ h (lv_sub hl [0, 1, 2] rfl)
                              · exact absurd c28 (by omega)
                      exact loop66 (((300 - 0 : Int)).toNat + 1) 0 (by omega) (Nat.lt_succ_self _) _ _ _ h (lv_sub hl [0, 1, 2] rfl)
                    · exact absurd c24 (by omega)
                  · show W p l e r_c_X12_findLeans s m args below meth c _ _ 0 0 Qf (F0 m 58 ls [.int (iI 0)])
                    refine x_if_ne B (by omega) (tgt := 64) dX12_findLeans_58 (by decide) (fun c29 => ?_) (fun c29 => ?_)
                    · exact absurd c29 (by omega)
                    · refine lv_goto (tgt := 95) B.1 B.2.1 dX12_findLeans_61 (by decide) ?_
                      refine lv_iinc (v := iI (a + 1)) (lv' := [(1, .int (iI (a + 1))), (0, .ref (am 0))]) B.1 B.2.1 dX12_findLeans_95 hl (k := 0) rfl (iI_add _ _) (by decide) rfl (fun ls hl => ?_)
                      refine lv_goto (tgt := 37) B.1 B.2.1 dX12_findLeans_98 (by decide) ?_
                      exact ih37 ((a + 1)) (by omega) (by omega) _ _ _ h (lv_sub hl [0, 1] rfl)
              · show W p l e r_c_X12_findLeans s m args below meth c _ _ 0 0 Qf (F0 m 50 ls [.int (iI 0)])
                refine x_if_eq B (by omega) (tgt := 95) dX12_findLeans_50 (by decide) (fun c30 => ?_) (fun c30 => ?_)
                · refine lv_iinc (v := iI (a + 1)) (lv' := [(1, .int (iI (a + 1))), (0, .ref (am 0))]) B.1 B.2.1 dX12_findLeans_95 hl (k := 0) rfl (iI_add _ _) (by decide) rfl (fun ls hl => ?_)
                  refine lv_goto (tgt := 37) B.1 B.2.1 dX12_findLeans_98 (by decide) ?_
                  exact ih37 ((a + 1)) (by omega) (by omega) _ _ _ h (lv_sub hl [0, 1] rfl)
                · exact absurd c30 (by omega)
        exact loop37 (((300 - 0 : Int)).toNat + 1) 0 (by omega) (Nat.lt_succ_self _) _ _ _ h (lv_sub hl [0, 1] rfl)
      · refine lv_aload_n B.1 B.2.1 dX12_findLeans_9 rfl (lv_at hl 1 rfl) ?_
        refine y_getR B h kX12 50 (MW.f hM 0 _ rfl) 56 (b := am 32) rfl m_1317 (by decide) dX12_findLeans_10 ?_
        refine lv_iload_n B.1 B.2.1 dX12_findLeans_13 rfl (lv_at hl 0 rfl) ?_
        refine lv_iload_n B.1 B.2.1 dX12_findLeans_14 rfl (lv_at hl 0 rfl) ?_
        refine x_bipush B (by decide) dX12_findLeans_15 ?_
        refine x_irem B (by omega) dX12_findLeans_17 ?_
        refine x_if_ne B (by omega) (tgt := 25) dX12_findLeans_18 (by decide) (fun c31 => ?_) (fun c31 => ?_)
        · refine x_ldcw B (z := 100000) m_1727 (by decide) dX12_findLeans_25 ?_
          refine y_iastS B h 82 (MW.f hM 32 _ rfl) (by omega) (fun _ _ => trivial) dX12_findLeans_28 (fun H locs h => ?_)
          refine lv_iinc (v := iI (i + 1)) (lv' := [(1, .int (iI (i + 1))), (0, .ref (am 0))]) B.1 B.2.1 dX12_findLeans_29 hl (k := 0) rfl (iI_add _ _) (by decide) rfl (fun ls hl => ?_)
          refine lv_goto (tgt := 2) B.1 B.2.1 dX12_findLeans_32 (by decide) ?_
          exact ih2 ((i + 1)) (by omega) (by omega) _ _ _ h (lv_sub hl [0, 1] rfl)
        · refine x_iconst B dX12_findLeans_21 ?_
          refine lv_goto (tgt := 28) B.1 B.2.1 dX12_findLeans_22 (by decide) ?_
          refine y_iastS B h 82 (MW.f hM 32 _ rfl) (by omega) (fun _ _ => trivial) dX12_findLeans_28 (fun H locs h => ?_)
          refine lv_iinc (v := iI (i + 1)) (lv' := [(1, .int (iI (i + 1))), (0, .ref (am 0))]) B.1 B.2.1 dX12_findLeans_29 hl (k := 0) rfl (iI_add _ _) (by decide) rfl (fun ls hl => ?_)
          refine lv_goto (tgt := 2) B.1 B.2.1 dX12_findLeans_32 (by decide) ?_
          exact ih2 ((i + 1)) (by omega) (by omega) _ _ _ h (lv_sub hl [0, 1] rfl)
  exact loop2 (((289 - 0 : Int)).toNat + 1) 0 (by omega) (Nat.lt_succ_self _) _ _ _ h (lv_sub hl [0, 1] rfl)
abbrev r_c_X12_tight : Room := { frames := 5, cells := 0, slots := 0, locals := 128 }
set_option maxHeartbeats 4000000 in
set_option maxRecDepth 100000 in
theorem c_X12_tight (l : Launch) (D : va_G) (Zk : yK) (ca : Nat → ClassId) (T : Nat → Int → Int) (E : Nat → Int → Int) (am : Nat → Nat) (w : yW) (hM : MW ca T E am w)    : yC l D Zk ca yX12_tight cX12_tight 1 (some .int) r_c_X12_tight [.ref (am 0)] w (vI w (fun z => xr z)) := by
  refine yC.of2 "WindWordsModel" (by decide) rfl (Nat.le_of_ble_eq_true rfl) ?_
  intro p e s m args below meth c A ls Qf B hnm h hl hQ
  have hl : lv_has ls 1 [(0, .ref (am 0))] := hl
  have hs := pi_s (MW.pi hM)
  have hpe := pe_0 (MW.pe hM)
  refine lv_aload_n B.1 B.2.1 dX12_tight_0 rfl (lv_at hl 0 rfl) ?_
  refine y_cV B h kX12 50 (MW.f hM 0 _ rfl) k_X12_findLeans rfl (c_X12_findLeans l D Zk ca T E am _ hM   ) m_1723 rfl (by decide) hl.1 [] (Nat.le_of_ble_eq_true rfl) rfl dX12_tight_1 (fun r w1 hq H locs h => ?_)
  obtain ⟨rfl, rfl⟩ := hq
  show W p l e r_c_X12_tight s m args below meth c _ _ 0 0 Qf (F0 m 4 ls [])
  refine lv_aload_n B.1 B.2.1 dX12_tight_4 rfl (lv_at hl 0 rfl) ?_
  refine y_getG B h kX12 50 (MW.f hM 0 _ rfl) 57 (lo := 0) (hi := 1) rfl m_1318 (by decide) dX12_tight_5 (fun z1 z1a z1b => ?_)
  refine x_if_eq B (by omega) (tgt := 15) dX12_tight_8 (by decide) (fun c2 => ?_) (fun c2 => ?_)
  · refine x_iconst B dX12_tight_15 ?_
    refine y_ri B hQ h (by decide) dX12_tight_16 ?_
    exact ⟨rfl, _, rfl, (by first | omega | trivial | assumption)⟩
  · refine x_iconst B dX12_tight_11 ?_
    refine lv_goto (tgt := 16) B.1 B.2.1 dX12_tight_12 (by decide) ?_
    refine y_ri B hQ h (by decide) dX12_tight_16 ?_
    exact ⟨rfl, _, rfl, (by first | omega | trivial | assumption)⟩
abbrev r_c_X12_lean : Room := { frames := 5, cells := 0, slots := 0, locals := 128 }
set_option maxHeartbeats 4000000 in
set_option maxRecDepth 100000 in
theorem c_X12_lean (l : Launch) (D : va_G) (Zk : yK) (ca : Nat → ClassId) (T : Nat → Int → Int) (E : Nat → Int → Int) (am : Nat → Nat) (w : yW) (hM : MW ca T E am w) (o : Int) (what : Int)  (ho : xr o) (hwhat : xr what) : yC l D Zk ca yX12_lean cX12_lean 3 (some .int) r_c_X12_lean [.ref (am 0), .int (iI o), .int (iI what)] w (vI w (fun z => xr z)) := by
  refine yC.of2 "WindWordsModel" (by decide) rfl (Nat.le_of_ble_eq_true rfl) ?_
  intro p e s m args below meth c A ls Qf B hnm h hl hQ
  have hl : lv_has ls 3 [(0, .ref (am 0)), (1, .int (iI o)), (2, .int (iI what))] := hl
  have hs := pi_s (MW.pi hM)
  have hpe := pe_0 (MW.pe hM)
  refine lv_aload_n B.1 B.2.1 dX12_lean_0 rfl (lv_at hl 0 rfl) ?_
  refine lv_iload_n B.1 B.2.1 dX12_lean_1 rfl (lv_at hl 1 rfl) ?_
  refine y_cV B h kX12 50 (MW.f hM 0 _ rfl) k_X12_isOfficer rfl (c_X12_isOfficer l D Zk ca T E am _ hM o  (by omega)) m_1518 rfl (by decide) hl.1 [] (Nat.le_of_ble_eq_true rfl) rfl dX12_lean_2 (fun r w1 hq H locs h => ?_)
  obtain ⟨rfl, _, rfl, ⟨rfl, b1⟩ | ⟨rfl, b1⟩⟩ := hq
  · show W p l e r_c_X12_lean s m args below meth c _ _ 0 0 Qf (F0 m 5 ls [.int (iI 1)])
    refine x_if_eq B (by omega) (tgt := 17) dX12_lean_5 (by decide) (fun c2 => ?_) (fun c2 => ?_)
    · exact absurd c2 (by omega)
    · refine lv_iload_n B.1 B.2.1 dX12_lean_8 rfl (lv_at hl 2 rfl) ?_
      refine x_iconst B dX12_lean_9 ?_
      refine x_iconst B dX12_lean_10 ?_
      refine y_cS B h k_X12_within (c_X12_within l D Zk ca _ what 0 1  (by omega) (by omega) (by omega)) m_1515 rfl (by decide) hl.1 [] (Nat.le_of_ble_eq_true rfl) rfl dX12_lean_11 (fun r w1 hq H locs h => ?_)
      obtain ⟨rfl, _, rfl, ⟨rfl, b3⟩ | ⟨rfl, b3⟩⟩ := hq
      · show W p l e r_c_X12_lean s m args below meth c _ _ 0 0 Qf (F0 m 14 ls [.int (iI 1)])
        refine x_if_ne B (by omega) (tgt := 21) dX12_lean_14 (by decide) (fun c4 => ?_) (fun c4 => ?_)
        · refine lv_aload_n B.1 B.2.1 dX12_lean_21 rfl (lv_at hl 0 rfl) ?_
          refine y_cV B h kX12 50 (MW.f hM 0 _ rfl) k_X12_findLeans rfl (c_X12_findLeans l D Zk ca T E am _ hM   ) m_1723 rfl (by decide) hl.1 [] (Nat.le_of_ble_eq_true rfl) rfl dX12_lean_22 (fun r w1 hq H locs h => ?_)
          obtain ⟨rfl, rfl⟩ := hq
          show W p l e r_c_X12_lean s m args below meth c _ _ 0 0 Qf (F0 m 25 ls [])
          refine lv_aload_n B.1 B.2.1 dX12_lean_25 rfl (lv_at hl 0 rfl) ?_
          refine y_getG B h kX12 50 (MW.f hM 0 _ rfl) 57 (lo := 0) (hi := 1) rfl m_1318 (by decide) dX12_lean_26 (fun z5 z5a z5b => ?_)
          refine x_if_ne B (by omega) (tgt := 36) dX12_lean_29 (by decide) (fun c6 => ?_) (fun c6 => ?_)
          · refine lv_iload_n B.1 B.2.1 dX12_lean_36 rfl (lv_at hl 2 rfl) ?_
            refine x_if_ne B (by omega) (tgt := 48) dX12_lean_37 (by decide) (fun c7 => ?_) (fun c7 => ?_)
            · refine lv_aload_n B.1 B.2.1 dX12_lean_48 rfl (lv_at hl 0 rfl) ?_
              refine lv_iload_n B.1 B.2.1 dX12_lean_49 rfl (lv_at hl 1 rfl) ?_
              refine y_cV B h kX12 50 (MW.f hM 0 _ rfl) k_X12_leanMost rfl (c_X12_leanMost l D Zk ca T E am _ hM o  (by omega)) m_1771 rfl (by decide) hl.1 [] (Nat.le_of_ble_eq_true rfl) rfl dX12_lean_50 (fun r w1 hq H locs h => ?_)
              obtain ⟨rfl, z8, rfl, hz8⟩ := hq
              show W p l e r_c_X12_lean s m args below meth c _ _ 0 0 Qf (F0 m 53 ls [.int (iI z8)])
              refine y_ri B hQ h (by decide) dX12_lean_53 ?_
              exact ⟨rfl, _, rfl, (by first | omega | trivial | assumption)⟩
            · refine lv_aload_n B.1 B.2.1 dX12_lean_40 rfl (lv_at hl 0 rfl) ?_
              refine lv_iload_n B.1 B.2.1 dX12_lean_41 rfl (lv_at hl 1 rfl) ?_
              refine y_cV B h kX12 50 (MW.f hM 0 _ rfl) k_X12_leanLeast rfl (c_X12_leanLeast l D Zk ca T E am _ hM o  (by omega)) m_1767 rfl (by decide) hl.1 [] (Nat.le_of_ble_eq_true rfl) rfl dX12_lean_42 (fun r w1 hq H locs h => ?_)
              obtain ⟨rfl, z9, rfl, hz9⟩ := hq
              show W p l e r_c_X12_lean s m args below meth c _ _ 0 0 Qf (F0 m 45 ls [.int (iI z9)])
              refine lv_goto (tgt := 53) B.1 B.2.1 dX12_lean_45 (by decide) ?_
              refine y_ri B hQ h (by decide) dX12_lean_53 ?_
              exact ⟨rfl, _, rfl, (by first | omega | trivial | assumption)⟩
          · refine x_sipush B (by decide) dX12_lean_32 ?_
            refine y_ri B hQ h (by decide) dX12_lean_35 ?_
            exact ⟨rfl, _, rfl, (by first | omega | trivial | assumption)⟩
        · exact absurd c4 (by omega)
      · show W p l e r_c_X12_lean s m args below meth c _ _ 0 0 Qf (F0 m 14 ls [.int (iI 0)])
        refine x_if_ne B (by omega) (tgt := 21) dX12_lean_14 (by decide) (fun c10 => ?_) (fun c10 => ?_)
        · exact absurd c10 (by omega)
        · refine x_sipush B (by decide) dX12_lean_17 ?_
          refine y_ri B hQ h (by decide) dX12_lean_20 ?_
          exact ⟨rfl, _, rfl, (by first | omega | trivial | assumption)⟩
  · show W p l e r_c_X12_lean s m args below meth c _ _ 0 0 Qf (F0 m 5 ls [.int (iI 0)])
    refine x_if_eq B (by omega) (tgt := 17) dX12_lean_5 (by decide) (fun c11 => ?_) (fun c11 => ?_)
    · refine x_sipush B (by decide) dX12_lean_17 ?_
      refine y_ri B hQ h (by decide) dX12_lean_20 ?_
      exact ⟨rfl, _, rfl, (by first | omega | trivial | assumption)⟩
    · exact absurd c11 (by omega)
abbrev r_c_X12_withNumber : Room := { frames := 2, cells := 0, slots := 0, locals := 45 }
set_option maxHeartbeats 4000000 in
set_option maxRecDepth 100000 in
theorem c_X12_withNumber (l : Launch) (D : va_G) (Zk : yK) (ca : Nat → ClassId) (T : Nat → Int → Int) (E : Nat → Int → Int) (am : Nat → Nat) (w : yW) (hM : MW ca T E am w) (o : Int) (number : Int)  (ho : xr o) (hnumber : xr number) : yC l D Zk ca yX12_withNumber cX12_withNumber 5 (some .int) r_c_X12_withNumber [.ref (am 0), .int (iI o), .int (iI number)] w (vI w (fun z => 0 ≤ z ∧ z ≤ 300)) := by
  refine yC.of2 "WindWordsModel" (by decide) rfl (Nat.le_of_ble_eq_true rfl) ?_
  intro p e s m args below meth c A ls Qf B hnm h hl hQ
  have hl : lv_has ls 5 [(0, .ref (am 0)), (1, .int (iI o)), (2, .int (iI number))] := hl
  have hs := pi_s (MW.pi hM)
  have hpe := pe_0 (MW.pe hM)
  refine x_iconst B dX12_withNumber_0 ?_
  refine lv_istore_n (lv' := [(3, .int (iI 0)), (0, .ref (am 0)), (1, .int (iI o)), (2, .int (iI number))]) B.1 B.2.1 dX12_withNumber_1 rfl hl (by decide) rfl (fun ls hl => ?_)
  refine x_iconst B dX12_withNumber_2 ?_
  refine lv_istore (lv' := [(4, .int (iI 0)), (3, .int (iI 0)), (0, .ref (am 0)), (1, .int (iI o)), (2, .int (iI number))]) B.1 B.2.1 dX12_withNumber_3 hl (by decide) rfl (fun ls hl => ?_)
  have loop5 : ∀ (n5 : Nat) (n : Int) (k : Int), (0 ≤ n ∧ n ≤ k) → (0 ≤ k ∧ k ≤ 300) → ((300 - k : Int)).toNat < n5 → ∀ (H : Heap) (locs : List Loc) (ls : Array Slot), yH D Zk A s w H locs → lv_has ls 5 [(4, .int (iI k)), (3, .int (iI n)), (0, .ref (am 0)), (1, .int (iI o)), (2, .int (iI number))] → W p l e r_c_X12_withNumber s m args below meth c H locs 0 0 Qf (F0 m 5 ls []) := by
    intro n5
    induction n5 with
    | zero =>
      intro n k h0 h1 hm5 H locs ls h hl
      exact absurd hm5 (Nat.not_lt_zero _)
    | succ n5 ih5 =>
      intro n k h0 h1 hm5 H locs ls h hl
      refine lv_iload B.1 B.2.1 dX12_withNumber_5 (lv_at hl 0 rfl) ?_
      refine lv_aload_n B.1 B.2.1 dX12_withNumber_7 rfl (lv_at hl 2 rfl) ?_
      refine y_getX B h kX12 50 (MW.f hM 0 _ rfl) 4 (z := (T 0 2)) rfl m_1265 (by decide) dX12_withNumber_8 ?_
      refine x_icmp_ge B (by omega) (tgt := 62) dX12_withNumber_11 (by decide) (fun c1 => ?_) (fun c1 => ?_)
      · refine lv_iload_n B.1 B.2.1 dX12_withNumber_62 rfl (lv_at hl 1 rfl) ?_
        refine y_ri B hQ h (by decide) dX12_withNumber_63 ?_
        exact ⟨rfl, _, rfl, (by first | omega | trivial | assumption)⟩
      · refine lv_iload_n B.1 B.2.1 dX12_withNumber_14 rfl (lv_at hl 1 rfl) ?_
        refine lv_aload_n B.1 B.2.1 dX12_withNumber_15 rfl (lv_at hl 2 rfl) ?_
        refine lv_iload B.1 B.2.1 dX12_withNumber_16 (lv_at hl 0 rfl) ?_
        refine y_cV B h kX12 50 (MW.f hM 0 _ rfl) k_X12_isMan rfl (c_X12_isMan l D Zk ca T E am _ hM k  (by omega)) m_1728 rfl (by decide) hl.1 [.int (iI n)] (Nat.le_of_ble_eq_true rfl) rfl dX12_withNumber_18 (fun r w1 hq H locs h => ?_)
        obtain ⟨rfl, _, rfl, ⟨rfl, b2⟩ | ⟨rfl, b2⟩⟩ := hq
        · show W p l e r_c_X12_withNumber s m args below meth c _ _ 0 0 Qf (F0 m 21 ls [.int (iI 1), .int (iI n)])
          refine x_if_eq B (by omega) (tgt := 53) dX12_withNumber_21 (by decide) (fun c3 => ?_) (fun c3 => ?_)
          · exact absurd c3 (by omega)
          · refine lv_aload_n B.1 B.2.1 dX12_withNumber_24 rfl (lv_at hl 2 rfl) ?_
            refine lv_iload B.1 B.2.1 dX12_withNumber_25 (lv_at hl 0 rfl) ?_
            refine y_cV B h kX12 50 (MW.f hM 0 _ rfl) k_X12_writer rfl (c_X12_writer l D Zk ca T E am _ hM k  (by omega)) m_1736 rfl (by decide) hl.1 [.int (iI n)] (Nat.le_of_ble_eq_true rfl) rfl dX12_withNumber_27 (fun r w1 hq H locs h => ?_)
            obtain ⟨rfl, _, rfl, rfl⟩ := hq
            have tb4 := pi_3 (MW.pi hM) (1000 * T 4 k + T 5 k)
            show W p l e r_c_X12_withNumber s m args below meth c _ _ 0 0 Qf (F0 m 30 ls [.int (iI (T 3 (1000 * T 4 k + T 5 k))), .int (iI n)])
            refine lv_iload_n B.1 B.2.1 dX12_withNumber_30 rfl (lv_at hl 3 rfl) ?_
            refine x_icmp_ne B (by omega) (tgt := 53) dX12_withNumber_31 (by decide) (fun c5 => ?_) (fun c5 => ?_)
            · refine x_iconst B dX12_withNumber_53 ?_
              refine x_iadd B dX12_withNumber_54 ?_
              refine lv_istore_n (lv' := [(3, .int (iI (n + 0))), (4, .int (iI k)), (0, .ref (am 0)), (1, .int (iI o)), (2, .int (iI number))]) B.1 B.2.1 dX12_withNumber_55 rfl hl (by decide) rfl (fun ls hl => ?_)
              refine lv_iinc (v := iI (k + 1)) (lv' := [(4, .int (iI (k + 1))), (3, .int (iI (n + 0))), (0, .ref (am 0)), (1, .int (iI o)), (2, .int (iI number))]) B.1 B.2.1 dX12_withNumber_56 hl (k := 1) rfl (iI_add _ _) (by decide) rfl (fun ls hl => ?_)
              refine lv_goto (tgt := 5) B.1 B.2.1 dX12_withNumber_59 (by decide) ?_
              exact ih5 ((n + 0)) ((k + 1)) (by omega) (by omega) (by omega) _ _ _ h (lv_sub hl [0, 1, 2, 3, 4] rfl)
            · refine lv_iload_n B.1 B.2.1 dX12_withNumber_34 rfl (lv_at hl 4 rfl) ?_
              refine x_if_lt B (by omega) (tgt := 49) dX12_withNumber_35 (by decide) (fun c6 => ?_) (fun c6 => ?_)
              · refine x_iconst B dX12_withNumber_49 ?_
                refine lv_goto (tgt := 54) B.1 B.2.1 dX12_withNumber_50 (by decide) ?_
                refine x_iadd B dX12_withNumber_54 ?_
                refine lv_istore_n (lv' := [(3, .int (iI (n + 1))), (4, .int (iI k)), (0, .ref (am 0)), (1, .int (iI o)), (2, .int (iI number))]) B.1 B.2.1 dX12_withNumber_55 rfl hl (by decide) rfl (fun ls hl => ?_)
                refine lv_iinc (v := iI (k + 1)) (lv' := [(4, .int (iI (k + 1))), (3, .int (iI (n + 1))), (0, .ref (am 0)), (1, .int (iI o)), (2, .int (iI number))]) B.1 B.2.1 dX12_withNumber_56 hl (k := 1) rfl (iI_add _ _) (by decide) rfl (fun ls hl => ?_)
                refine lv_goto (tgt := 5) B.1 B.2.1 dX12_withNumber_59 (by decide) ?_
                exact ih5 ((n + 1)) ((k + 1)) (by omega) (by omega) (by omega) _ _ _ h (lv_sub hl [0, 1, 2, 3, 4] rfl)
              · refine lv_aload_n B.1 B.2.1 dX12_withNumber_38 rfl (lv_at hl 2 rfl) ?_
                refine y_getR B h kX12 50 (MW.f hM 0 _ rfl) 18 (b := am 13) rfl m_1279 (by decide) dX12_withNumber_39 ?_
                refine lv_iload B.1 B.2.1 dX12_withNumber_42 (lv_at hl 0 rfl) ?_
                refine y_ialdX B h 63 (MW.f hM 13 _ rfl) (by omega) dX12_withNumber_44 ?_
                refine x_iset (z := (T 8 k)) (by show iI (T 8 (((k : Int).toNat : Nat) : Int)) = _; rw [show ((((k : Int).toNat : Nat) : Int)) = k by omega]) ?_
                have tb7 := pi_8 (MW.pi hM) k
                have tb8 := pi_n (MW.pi hM) k
                refine lv_iload_n B.1 B.2.1 dX12_withNumber_45 rfl (lv_at hl 4 rfl) ?_
                refine x_icmp_ne B (by omega) (tgt := 53) dX12_withNumber_46 (by decide) (fun c9 => ?_) (fun c9 => ?_)
                · refine x_iconst B dX12_withNumber_53 ?_
                  refine x_iadd B dX12_withNumber_54 ?_
                  refine lv_istore_n (lv' := [(3, .int (iI (n + 0))), (4, .int (iI k)), (0, .ref (am 0)), (1, .int (iI o)), (2, .int (iI number))]) B.1 B.2.1 dX12_withNumber_55 rfl hl (by decide) rfl (fun ls hl => ?_)
                  refine lv_iinc (v := iI (k + 1)) (lv' := [(4, .int (iI (k + 1))), (3, .int (iI (n + 0))), (0, .ref (am 0)), (1, .int (iI o)), (2, .int (iI number))]) B.1 B.2.1 dX12_withNumber_56 hl (k := 1) rfl (iI_add _ _) (by decide) rfl (fun ls hl => ?_)
                  refine lv_goto (tgt := 5) B.1 B.2.1 dX12_withNumber_59 (by decide) ?_
                  exact ih5 ((n + 0)) ((k + 1)) (by omega) (by omega) (by omega) _ _ _ h (lv_sub hl [0, 1, 2, 3, 4] rfl)
                · refine x_iconst B dX12_withNumber_49 ?_
                  refine lv_goto (tgt := 54) B.1 B.2.1 dX12_withNumber_50 (by decide) ?_
                  refine x_iadd B dX12_withNumber_54 ?_
                  refine lv_istore_n (lv' := [(3, .int (iI (n + 1))), (4, .int (iI k)), (0, .ref (am 0)), (1, .int (iI o)), (2, .int (iI number))]) B.1 B.2.1 dX12_withNumber_55 rfl hl (by decide) rfl (fun ls hl => ?_)
                  refine lv_iinc (v := iI (k + 1)) (lv' := [(4, .int (iI (k + 1))), (3, .int (iI (n + 1))), (0, .ref (am 0)), (1, .int (iI o)), (2, .int (iI number))]) B.1 B.2.1 dX12_withNumber_56 hl (k := 1) rfl (iI_add _ _) (by decide) rfl (fun ls hl => ?_)
                  refine lv_goto (tgt := 5) B.1 B.2.1 dX12_withNumber_59 (by decide) ?_
                  exact ih5 ((n + 1)) ((k + 1)) (by omega) (by omega) (by omega) _ _ _ h (lv_sub hl [0, 1, 2, 3, 4] rfl)
        · show W p l e r_c_X12_withNumber s m args below meth c _ _ 0 0 Qf (F0 m 21 ls [.int (iI 0), .int (iI n)])
          refine x_if_eq B (by omega) (tgt := 53) dX12_withNumber_21 (by decide) (fun c10 => ?_) (fun c10 => ?_)
          · refine x_iconst B dX12_withNumber_53 ?_
            refine x_iadd B dX12_withNumber_54 ?_
            refine lv_istore_n (lv' := [(3, .int (iI (n + 0))), (4, .int (iI k)), (0, .ref (am 0)), (1, .int (iI o)), (2, .int (iI number))]) B.1 B.2.1 dX12_withNumber_55 rfl hl (by decide) rfl (fun ls hl => ?_)
            refine lv_iinc (v := iI (k + 1)) (lv' := [(4, .int (iI (k + 1))), (3, .int (iI (n + 0))), (0, .ref (am 0)), (1, .int (iI o)), (2, .int (iI number))]) B.1 B.2.1 dX12_withNumber_56 hl (k := 1) rfl (iI_add _ _) (by decide) rfl (fun ls hl => ?_)
            refine lv_goto (tgt := 5) B.1 B.2.1 dX12_withNumber_59 (by decide) ?_
            exact ih5 ((n + 0)) ((k + 1)) (by omega) (by omega) (by omega) _ _ _ h (lv_sub hl [0, 1, 2, 3, 4] rfl)
          · exact absurd c10 (by omega)
  exact loop5 (((300 - 0 : Int)).toNat + 1) 0 0 (by omega) (by omega) (Nat.lt_succ_self _) _ _ _ h (lv_sub hl [0, 1, 2, 3, 4] rfl)
abbrev r_c_X12_liked : Room := { frames := 3, cells := 0, slots := 0, locals := 69 }
set_option maxHeartbeats 4000000 in
set_option maxRecDepth 100000 in
theorem c_X12_liked (l : Launch) (D : va_G) (Zk : yK) (ca : Nat → ClassId) (T : Nat → Int → Int) (E : Nat → Int → Int) (am : Nat → Nat) (w : yW) (hM : MW ca T E am w) (o : Int) (number : Int) (what : Int)  (ho : xr o) (hnumber : xr number) (hwhat : xr what) : yC l D Zk ca yX12_liked cX12_liked 10 (some .int) r_c_X12_liked [.ref (am 0), .int (iI o), .int (iI number), .int (iI what)] w (vI w (fun z => xr z)) := by
  refine yC.of2 "WindWordsModel" (by decide) rfl (Nat.le_of_ble_eq_true rfl) ?_
  intro p e s m args below meth c A ls Qf B hnm h hl hQ
  have hl : lv_has ls 10 [(0, .ref (am 0)), (1, .int (iI o)), (2, .int (iI number)), (3, .int (iI what))] := hl
  have hs := pi_s (MW.pi hM)
  have hpe := pe_0 (MW.pe hM)
  refine lv_aload_n B.1 B.2.1 dX12_liked_0 rfl (lv_at hl 0 rfl) ?_
  refine lv_iload_n B.1 B.2.1 dX12_liked_1 rfl (lv_at hl 1 rfl) ?_
  refine y_cV B h kX12 50 (MW.f hM 0 _ rfl) k_X12_isOfficer rfl (c_X12_isOfficer l D Zk ca T E am _ hM o  (by omega)) m_1518 rfl (by decide) hl.1 [] (Nat.le_of_ble_eq_true rfl) rfl dX12_liked_2 (fun r w1 hq H locs h => ?_)
  obtain ⟨rfl, _, rfl, ⟨rfl, b1⟩ | ⟨rfl, b1⟩⟩ := hq
  · show W p l e r_c_X12_liked s m args below meth c _ _ 0 0 Qf (F0 m 5 ls [.int (iI 1)])
    refine x_if_eq B (by omega) (tgt := 27) dX12_liked_5 (by decide) (fun c2 => ?_) (fun c2 => ?_)
    · exact absurd c2 (by omega)
    · refine lv_iload_n B.1 B.2.1 dX12_liked_8 rfl (lv_at hl 2 rfl) ?_
      refine x_iconst B dX12_liked_9 ?_
      refine x_bipush B (by decide) dX12_liked_10 ?_
      refine y_cS B h k_X12_within (c_X12_within l D Zk ca _ number 1 11  (by omega) (by omega) (by omega)) m_1515 rfl (by decide) hl.1 [] (Nat.le_of_ble_eq_true rfl) rfl dX12_liked_12 (fun r w1 hq H locs h => ?_)
      obtain ⟨rfl, _, rfl, ⟨rfl, b3⟩ | ⟨rfl, b3⟩⟩ := hq
      · show W p l e r_c_X12_liked s m args below meth c _ _ 0 0 Qf (F0 m 15 ls [.int (iI 1)])
        refine x_if_eq B (by omega) (tgt := 27) dX12_liked_15 (by decide) (fun c4 => ?_) (fun c4 => ?_)
        · exact absurd c4 (by omega)
        · refine lv_iload_n B.1 B.2.1 dX12_liked_18 rfl (lv_at hl 3 rfl) ?_
          refine x_iconst B dX12_liked_19 ?_
          refine x_iconst B dX12_liked_20 ?_
          refine y_cS B h k_X12_within (c_X12_within l D Zk ca _ what 0 3  (by omega) (by omega) (by omega)) m_1515 rfl (by decide) hl.1 [] (Nat.le_of_ble_eq_true rfl) rfl dX12_liked_21 (fun r w1 hq H locs h => ?_)
          obtain ⟨rfl, _, rfl, ⟨rfl, b5⟩ | ⟨rfl, b5⟩⟩ := hq
          · show W p l e r_c_X12_liked s m args below meth c _ _ 0 0 Qf (F0 m 24 ls [.int (iI 1)])
            refine x_if_ne B (by omega) (tgt := 31) dX12_liked_24 (by decide) (fun c6 => ?_) (fun c6 => ?_)
            · refine lv_aload_n B.1 B.2.1 dX12_liked_31 rfl (lv_at hl 0 rfl) ?_
              refine lv_iload_n B.1 B.2.1 dX12_liked_32 rfl (lv_at hl 1 rfl) ?_
              refine lv_iload_n B.1 B.2.1 dX12_liked_33 rfl (lv_at hl 2 rfl) ?_
              refine y_cV B h kX12 50 (MW.f hM 0 _ rfl) k_X12_withNumber rfl (c_X12_withNumber l D Zk ca T E am _ hM o number  (by omega) (by omega)) m_1779 rfl (by decide) hl.1 [] (Nat.le_of_ble_eq_true rfl) rfl dX12_liked_34 (fun r w1 hq H locs h => ?_)
              obtain ⟨rfl, z7, rfl, hz7⟩ := hq
              show W p l e r_c_X12_liked s m args below meth c _ _ 0 0 Qf (F0 m 37 ls [.int (iI z7)])
              refine lv_istore (lv' := [(4, .int (iI z7)), (0, .ref (am 0)), (1, .int (iI o)), (2, .int (iI number)), (3, .int (iI what))]) B.1 B.2.1 dX12_liked_37 hl (by decide) rfl (fun ls hl => ?_)
              refine lv_aload_n B.1 B.2.1 dX12_liked_39 rfl (lv_at hl 1 rfl) ?_
              refine lv_iload_n B.1 B.2.1 dX12_liked_40 rfl (lv_at hl 2 rfl) ?_
              refine lv_iload_n B.1 B.2.1 dX12_liked_41 rfl (lv_at hl 3 rfl) ?_
              refine x_iconst B dX12_liked_42 ?_
              refine x_isub B dX12_liked_43 ?_
              refine y_cV B h kX12 50 (MW.f hM 0 _ rfl) k_X12_withNumber rfl (c_X12_withNumber l D Zk ca T E am _ hM o ((number - 1))  (by omega) (by omega)) m_1779 rfl (by decide) hl.1 [] (Nat.le_of_ble_eq_true rfl) rfl dX12_liked_44 (fun r w1 hq H locs h => ?_)
              obtain ⟨rfl, z8, rfl, hz8⟩ := hq
              show W p l e r_c_X12_liked s m args below meth c _ _ 0 0 Qf (F0 m 47 ls [.int (iI z8)])
              refine lv_aload_n B.1 B.2.1 dX12_liked_47 rfl (lv_at hl 1 rfl) ?_
              refine lv_iload_n B.1 B.2.1 dX12_liked_48 rfl (lv_at hl 2 rfl) ?_
              refine lv_iload_n B.1 B.2.1 dX12_liked_49 rfl (lv_at hl 3 rfl) ?_
              refine x_iconst B dX12_liked_50 ?_
              refine x_iadd B dX12_liked_51 ?_
              refine y_cV B h kX12 50 (MW.f hM 0 _ rfl) k_X12_withNumber rfl (c_X12_withNumber l D Zk ca T E am _ hM o ((number + 1))  (by omega) (by omega)) m_1779 rfl (by decide) hl.1 [.int (iI z8)] (Nat.le_of_ble_eq_true rfl) rfl dX12_liked_52 (fun r w1 hq H locs h => ?_)
              obtain ⟨rfl, z9, rfl, hz9⟩ := hq
              show W p l e r_c_X12_liked s m args below meth c _ _ 0 0 Qf (F0 m 55 ls [.int (iI z9), .int (iI z8)])
              refine x_iadd B dX12_liked_55 ?_
              refine lv_istore (lv' := [(5, .int (iI (z8 + z9))), (4, .int (iI z7)), (0, .ref (am 0)), (1, .int (iI o)), (2, .int (iI number)), (3, .int (iI what))]) B.1 B.2.1 dX12_liked_56 hl (by decide) rfl (fun ls hl => ?_)
              refine lv_iload_n B.1 B.2.1 dX12_liked_58 rfl (lv_at hl 5 rfl) ?_
              refine x_iconst B dX12_liked_59 ?_
              refine x_icmp_ge B (by omega) (tgt := 75) dX12_liked_60 (by decide) (fun c10 => ?_) (fun c10 => ?_)
              · refine lv_iload_n B.1 B.2.1 dX12_liked_75 rfl (lv_at hl 5 rfl) ?_
                refine x_iconst B dX12_liked_76 ?_
                refine x_icmp_ne B (by omega) (tgt := 106) dX12_liked_77 (by decide) (fun c11 => ?_) (fun c11 => ?_)
                · refine lv_aload_n B.1 B.2.1 dX12_liked_106 rfl (lv_at hl 2 rfl) ?_
                  refine lv_iload_n B.1 B.2.1 dX12_liked_107 rfl (lv_at hl 3 rfl) ?_
                  refine x_iconst B dX12_liked_108 ?_
                  refine y_cV B h kX12 50 (MW.f hM 0 _ rfl) k_X12_withNumber rfl (c_X12_withNumber l D Zk ca T E am _ hM o ((-1))  (by omega) (by omega)) m_1779 rfl (by decide) hl.1 [] (Nat.le_of_ble_eq_true rfl) rfl dX12_liked_109 (fun r w1 hq H locs h => ?_)
                  obtain ⟨rfl, z12, rfl, hz12⟩ := hq
                  show W p l e r_c_X12_liked s m args below meth c _ _ 0 0 Qf (F0 m 112 ls [.int (iI z12)])
                  refine lv_istore (lv' := [(6, .int (iI z12)), (5, .int (iI (z8 + z9))), (4, .int (iI z7)), (0, .ref (am 0)), (1, .int (iI o)), (2, .int (iI number)), (3, .int (iI what))]) B.1 B.2.1 dX12_liked_112 hl (by decide) rfl (fun ls hl => ?_)
                  refine lv_iload B.1 B.2.1 dX12_liked_114 (lv_at hl 2 rfl) ?_
                  refine x_if_gt B (by omega) (tgt := 124) dX12_liked_116 (by decide) (fun c13 => ?_) (fun c13 => ?_)
                  · refine x_iconst B dX12_liked_124 ?_
                    refine y_ri B hQ h (by decide) dX12_liked_125 ?_
                    exact ⟨rfl, _, rfl, (by first | omega | trivial | assumption)⟩
                  · refine lv_iload B.1 B.2.1 dX12_liked_119 (lv_at hl 0 rfl) ?_
                    refine x_if_ne B (by omega) (tgt := 126) dX12_liked_121 (by decide) (fun c14 => ?_) (fun c14 => ?_)
                    · refine x_ldc2 B m_1783 dX12_liked_126 ?_
                      refine lv_lstore (lv' := [(7, .long ((1000000000 : Int64))), (6, .int (iI z12)), (5, .int (iI (z8 + z9))), (4, .int (iI z7)), (0, .ref (am 0)), (1, .int (iI o)), (2, .int (iI number)), (3, .int (iI what))]) B.1 B.2.1 dX12_liked_129 hl (by decide) rfl (fun ls hl => ?_)
                      refine x_iconst B dX12_liked_131 ?_
                      refine lv_istore (lv' := [(9, .int (iI 0)), (7, .long ((1000000000 : Int64))), (6, .int (iI z12)), (5, .int (iI (z8 + z9))), (4, .int (iI z7)), (0, .ref (am 0)), (1, .int (iI o)), (2, .int (iI number)), (3, .int (iI what))]) B.1 B.2.1 dX12_liked_132 hl (by decide) rfl (fun ls hl => ?_)
                      have loop134 : ∀ (n134 : Nat) (v_ : Int64) (k : Int), (0 ≤ k ∧ k ≤ 300) → ((300 - k : Int)).toNat < n134 → ∀ (H : Heap) (locs : List Loc) (ls : Array Slot), yH D Zk A s w H locs → lv_has ls 10 [(9, .int (iI k)), (7, .long (v_)), (6, .int (iI z12)), (5, .int (iI (z8 + z9)))] → W p l e r_c_X12_liked s m args below meth c H locs 0 0 Qf (F0 m 134 ls []) := by
                        intro n134
                        induction n134 with
                        | zero =>
                          intro v_ k h1 hm134 H locs ls h hl
                          exact absurd hm134 (Nat.not_lt_zero _)
                        | succ n134 ih134 =>
                          intro v_ k h1 hm134 H locs ls h hl
                          refine lv_iload B.1 B.2.1 dX12_liked_134 (lv_at hl 0 rfl) ?_
                          refine lv_iload B.1 B.2.1 dX12_liked_136 (lv_at hl 2 rfl) ?_
                          refine x_icmp_ge B (by omega) (tgt := 166) dX12_liked_138 (by decide) (fun c15 => ?_) (fun c15 => ?_)
                          · refine lv_lload B.1 B.2.1 dX12_liked_166 (lv_at hl 1 rfl) ?_
                            refine lv_l2i B.1 B.2.1 dX12_liked_168 rfl ?_
                            refine x_name (fun z16 hz16 ez16 => ?_)
                            refine y_ri B hQ h (by decide) dX12_liked_169 ?_
                            exact ⟨rfl, _, rfl, (by first | omega | trivial | assumption)⟩
                          · refine lv_lload B.1 B.2.1 dX12_liked_141 (lv_at hl 1 rfl) ?_
                            refine x_iconst B dX12_liked_143 ?_
                            refine lv_iload B.1 B.2.1 dX12_liked_144 (lv_at hl 2 rfl) ?_
                            refine x_imul B dX12_liked_146 ?_
                            refine lv_iload B.1 B.2.1 dX12_liked_147 (lv_at hl 3 rfl) ?_
                            refine x_isub B dX12_liked_149 ?_
                            refine lv_i2l B.1 B.2.1 dX12_liked_150 rfl ?_
                            refine x_rawL (fun y17 => ?_)
                            refine lv_lmul B.1 B.2.1 dX12_liked_151 ?_
                            refine x_rawL (fun y18 => ?_)
                            refine x_iconst B dX12_liked_152 ?_
                            refine lv_iload B.1 B.2.1 dX12_liked_153 (lv_at hl 2 rfl) ?_
                            refine x_imul B dX12_liked_155 ?_
                            refine lv_i2l B.1 B.2.1 dX12_liked_156 rfl ?_
                            refine lv_ldiv B.1 B.2.1 dX12_liked_157 (i2l_ne (by omega)) ?_
                            refine x_rawL (fun y19 => ?_)
                            refine lv_lstore (lv' := [(7, .long (y19)), (9, .int (iI k)), (6, .int (iI z12)), (5, .int (iI (z8 + z9)))]) B.1 B.2.1 dX12_liked_158 hl (by decide) rfl (fun ls hl => ?_)
                            refine lv_iinc (v := iI (k + 1)) (lv' := [(9, .int (iI (k + 1))), (7, .long (y19)), (6, .int (iI z12)), (5, .int (iI (z8 + z9)))]) B.1 B.2.1 dX12_liked_160 hl (k := 1) rfl (iI_add _ _) (by decide) rfl (fun ls hl => ?_)
                            refine lv_goto (tgt := 134) B.1 B.2.1 dX12_liked_163 (by decide) ?_
                            exact ih134 y19 ((k + 1)) (by omega) (by omega) _ _ _ h (lv_sub hl [0, 1, 2, 3] rfl)
                      exact loop134 (((300 - 0 : Int)).toNat + 1) ((1000000000 : Int64)) 0 (by omega) (Nat.lt_succ_self _) _ _ _ h (lv_sub hl [0, 1, 2, 3] rfl)
                    · refine x_iconst B dX12_liked_124 ?_
                      refine y_ri B hQ h (by decide) dX12_liked_125 ?_
                      exact ⟨rfl, _, rfl, (by first | omega | trivial | assumption)⟩
                · refine x_iconst B dX12_liked_80 ?_
                  refine lv_iload B.1 B.2.1 dX12_liked_81 (lv_at hl 1 rfl) ?_
                  refine x_imul B dX12_liked_83 ?_
                  refine lv_iload B.1 B.2.1 dX12_liked_84 (lv_at hl 0 rfl) ?_
                  refine x_icmp_ge B (by omega) (tgt := 93) dX12_liked_86 (by decide) (fun c20 => ?_) (fun c20 => ?_)
                  · refine lv_iload B.1 B.2.1 dX12_liked_93 (lv_at hl 1 rfl) ?_
                    refine lv_iload B.1 B.2.1 dX12_liked_95 (lv_at hl 0 rfl) ?_
                    refine x_icmp_le B (by omega) (tgt := 104) dX12_liked_97 (by decide) (fun c21 => ?_) (fun c21 => ?_)
                    · refine x_iconst B dX12_liked_104 ?_
                      refine y_ri B hQ h (by decide) dX12_liked_105 ?_
                      exact ⟨rfl, _, rfl, (by first | omega | trivial | assumption)⟩
                    · refine x_iconst B dX12_liked_100 ?_
                      refine lv_goto (tgt := 105) B.1 B.2.1 dX12_liked_101 (by decide) ?_
                      refine y_ri B hQ h (by decide) dX12_liked_105 ?_
                      exact ⟨rfl, _, rfl, (by first | omega | trivial | assumption)⟩
                  · refine x_iconst B dX12_liked_89 ?_
                    refine lv_goto (tgt := 105) B.1 B.2.1 dX12_liked_90 (by decide) ?_
                    refine y_ri B hQ h (by decide) dX12_liked_105 ?_
                    exact ⟨rfl, _, rfl, (by first | omega | trivial | assumption)⟩
              · refine lv_iload_n B.1 B.2.1 dX12_liked_63 rfl (lv_at hl 5 rfl) ?_
                refine x_if_ne B (by omega) (tgt := 72) dX12_liked_64 (by decide) (fun c22 => ?_) (fun c22 => ?_)
                · refine lv_iload B.1 B.2.1 dX12_liked_72 (lv_at hl 0 rfl) ?_
                  refine y_ri B hQ h (by decide) dX12_liked_74 ?_
                  exact ⟨rfl, _, rfl, (by first | omega | trivial | assumption)⟩
                · refine lv_iload B.1 B.2.1 dX12_liked_67 (lv_at hl 1 rfl) ?_
                  refine lv_goto (tgt := 74) B.1 B.2.1 dX12_liked_69 (by decide) ?_
                  refine y_ri B hQ h (by decide) dX12_liked_74 ?_
                  exact ⟨rfl, _, rfl, (by first | omega | trivial | assumption)⟩
            · exact absurd c6 (by omega)
          · show W p l e r_c_X12_liked s m args below meth c _ _ 0 0 Qf (F0 m 24 ls [.int (iI 0)])
            refine x_if_ne B (by omega) (tgt := 31) dX12_liked_24 (by decide) (fun c23 => ?_) (fun c23 => ?_)
            · exact absurd c23 (by omega)
            · refine x_sipush B (by decide) dX12_liked_27 ?_
              refine y_ri B hQ h (by decide) dX12_liked_30 ?_
              exact ⟨rfl, _, rfl, (by first | omega | trivial | assumption)⟩
      · show W p l e r_c_X12_liked s m args below meth c _ _ 0 0 Qf (F0 m 15 ls [.int (iI 0)])
        refine x_if_eq B (by omega) (tgt := 27) dX12_liked_15 (by decide) (fun c24 => ?_) (fun c24 => ?_)
        · refine x_sipush B (by decide) dX12_liked_27 ?_
          refine y_ri B hQ h (by decide) dX12_liked_30 ?_
          exact ⟨rfl, _, rfl, (by first | omega | trivial | assumption)⟩
        · exact absurd c24 (by omega)
  · show W p l e r_c_X12_liked s m args below meth c _ _ 0 0 Qf (F0 m 5 ls [.int (iI 0)])
    refine x_if_eq B (by omega) (tgt := 27) dX12_liked_5 (by decide) (fun c25 => ?_) (fun c25 => ?_)
    · refine x_sipush B (by decide) dX12_liked_27 ?_
      refine y_ri B hQ h (by decide) dX12_liked_30 ?_
      exact ⟨rfl, _, rfl, (by first | omega | trivial | assumption)⟩
    · exact absurd c25 (by omega)
abbrev r_c_X12_ordersWith : Room := { frames := 0, cells := 0, slots := 0, locals := 0 }
set_option maxHeartbeats 4000000 in
set_option maxRecDepth 100000 in
theorem c_X12_ordersWith (l : Launch) (D : va_G) (Zk : yK) (ca : Nat → ClassId) (T : Nat → Int → Int) (E : Nat → Int → Int) (am : Nat → Nat) (w : yW) (hM : MW ca T E am w) (years : Int) (rising : Int)  (hyears : 0 ≤ years ∧ years ≤ 10) (hrising : 0 ≤ rising ∧ rising ≤ 100) : yC l D Zk ca yX12_ordersWith cX12_ordersWith 6 (some .long) r_c_X12_ordersWith [.ref (am 0), .int (iI years), .int (iI rising)] w (vL w (fun z => True)) := by
  refine yC.of2 "WindWordsModel" (by decide) rfl (Nat.le_of_ble_eq_true rfl) ?_
  intro p e s m args below meth c A ls Qf B hnm h hl hQ
  have hl : lv_has ls 6 [(0, .ref (am 0)), (1, .int (iI years)), (2, .int (iI rising))] := hl
  have hs := pi_s (MW.pi hM)
  have hpe := pe_0 (MW.pe hM)
  refine x_iconst B dX12_ordersWith_0 ?_
  refine lv_istore_n (lv' := [(3, .int (iI 0)), (0, .ref (am 0)), (1, .int (iI years)), (2, .int (iI rising))]) B.1 B.2.1 dX12_ordersWith_1 rfl hl (by decide) rfl (fun ls hl => ?_)
  have loop2 : ∀ (n2 : Nat) (k : Int), (0 ≤ k ∧ k ≤ 50) → ((50 - k : Int)).toNat < n2 → ∀ (H : Heap) (locs : List Loc) (ls : Array Slot), yH D Zk A s w H locs → lv_has ls 6 [(3, .int (iI k)), (0, .ref (am 0)), (1, .int (iI years)), (2, .int (iI rising))] → W p l e r_c_X12_ordersWith s m args below meth c H locs 0 0 Qf (F0 m 2 ls []) := by
    intro n2
    induction n2 with
    | zero =>
      intro k h0 hm2 H locs ls h hl
      exact absurd hm2 (Nat.not_lt_zero _)
    | succ n2 ih2 =>
      intro k h0 hm2 H locs ls h hl
      refine lv_iload_n B.1 B.2.1 dX12_ordersWith_2 rfl (lv_at hl 0 rfl) ?_
      refine x_bipush B (by decide) dX12_ordersWith_3 ?_
      refine x_icmp_ge B (by omega) (tgt := 29) dX12_ordersWith_5 (by decide) (fun c1 => ?_) (fun c1 => ?_)
      · refine x_iconst B dX12_ordersWith_29 ?_
        refine lv_istore_n (lv' := [(3, .int (iI 2)), (0, .ref (am 0)), (1, .int (iI years)), (2, .int (iI rising))]) B.1 B.2.1 dX12_ordersWith_30 rfl hl (by decide) rfl (fun ls hl => ?_)
        have loop31 : ∀ (n31 : Nat) (n : Int), (2 ≤ n ∧ n ≤ 11) → ((11 - n : Int)).toNat < n31 → ∀ (H : Heap) (locs : List Loc) (ls : Array Slot), yH D Zk A s w H locs → lv_has ls 6 [(3, .int (iI n)), (0, .ref (am 0)), (1, .int (iI years)), (2, .int (iI rising))] → W p l e r_c_X12_ordersWith s m args below meth c H locs 0 0 Qf (F0 m 31 ls []) := by
          intro n31
          induction n31 with
          | zero =>
            intro n h1 hm31 H locs ls h hl
            exact absurd hm31 (Nat.not_lt_zero _)
          | succ n31 ih31 =>
            intro n h1 hm31 H locs ls h hl
            refine lv_iload_n B.1 B.2.1 dX12_ordersWith_31 rfl (lv_at hl 0 rfl) ?_
            refine lv_iload_n B.1 B.2.1 dX12_ordersWith_32 rfl (lv_at hl 2 rfl) ?_
            refine x_icmp_gt B (by omega) (tgt := 138) dX12_ordersWith_33 (by decide) (fun c2 => ?_) (fun c2 => ?_)
            · refine lv_lconst (v := 0) B.1 B.2.1 dX12_ordersWith_138 (by decide) ?_
              refine lv_lstore_n (lv' := [(3, .long ((0 : Int64))), (0, .ref (am 0)), (1, .int (iI years)), (2, .int (iI rising))]) B.1 B.2.1 dX12_ordersWith_139 rfl hl (by decide) rfl (fun ls hl => ?_)
              refine lv_iload_n B.1 B.2.1 dX12_ordersWith_140 rfl (lv_at hl 3 rfl) ?_
              refine lv_istore (lv' := [(5, .int (iI rising)), (3, .long ((0 : Int64))), (0, .ref (am 0)), (1, .int (iI years)), (2, .int (iI rising))]) B.1 B.2.1 dX12_ordersWith_141 hl (by decide) rfl (fun ls hl => ?_)
              have loop143 : ∀ (n143 : Nat) (s_ : Int64) (k : Int), (0 ≤ k ∧ k ≤ 150) → ((50 - k : Int)).toNat < n143 → ∀ (H : Heap) (locs : List Loc) (ls : Array Slot), yH D Zk A s w H locs → lv_has ls 6 [(5, .int (iI k)), (3, .long (s_)), (0, .ref (am 0))] → W p l e r_c_X12_ordersWith s m args below meth c H locs 0 0 Qf (F0 m 143 ls []) := by
                intro n143
                induction n143 with
                | zero =>
                  intro s_ k h5 hm143 H locs ls h hl
                  exact absurd hm143 (Nat.not_lt_zero _)
                | succ n143 ih143 =>
                  intro s_ k h5 hm143 H locs ls h hl
                  refine lv_iload B.1 B.2.1 dX12_ordersWith_143 (lv_at hl 0 rfl) ?_
                  refine x_bipush B (by decide) dX12_ordersWith_145 ?_
                  refine x_icmp_ge B (by omega) (tgt := 166) dX12_ordersWith_147 (by decide) (fun c3 => ?_) (fun c3 => ?_)
                  · refine lv_lload_n B.1 B.2.1 dX12_ordersWith_166 rfl (lv_at hl 1 rfl) ?_
                    refine y_rl B hQ h (by decide) dX12_ordersWith_167 ?_
                    exact ⟨rfl, _, rfl, trivial⟩
                  · refine lv_lload_n B.1 B.2.1 dX12_ordersWith_150 rfl (lv_at hl 1 rfl) ?_
                    refine lv_aload_n B.1 B.2.1 dX12_ordersWith_151 rfl (lv_at hl 2 rfl) ?_
                    refine y_getR B h kX12 50 (MW.f hM 0 _ rfl) 61 (b := am 33) rfl m_1322 (by decide) dX12_ordersWith_152 ?_
                    refine lv_iload B.1 B.2.1 dX12_ordersWith_155 (lv_at hl 0 rfl) ?_
                    refine y_lald B h 83 (MW.f hM 33 _ rfl) (by omega) dX12_ordersWith_157 (fun fy4 hfy4 => ?_)
                    refine x_rawL (fun y4 => ?_)
                    refine lv_ladd B.1 B.2.1 dX12_ordersWith_158 ?_
                    refine x_rawL (fun y5 => ?_)
                    refine lv_lstore_n (lv' := [(3, .long (y5)), (5, .int (iI k)), (0, .ref (am 0))]) B.1 B.2.1 dX12_ordersWith_159 rfl hl (by decide) rfl (fun ls hl => ?_)
                    refine lv_iinc (v := iI (k + 1)) (lv' := [(5, .int (iI (k + 1))), (3, .long (y5)), (0, .ref (am 0))]) B.1 B.2.1 dX12_ordersWith_160 hl (k := 1) rfl (iI_add _ _) (by decide) rfl (fun ls hl => ?_)
                    refine lv_goto (tgt := 143) B.1 B.2.1 dX12_ordersWith_163 (by decide) ?_
                    exact ih143 y5 ((k + 1)) (by omega) (by omega) _ _ _ h (lv_sub hl [0, 1, 2] rfl)
              exact loop143 (((50 - rising : Int)).toNat + 1) ((0 : Int64)) rising (by omega) (Nat.lt_succ_self _) _ _ _ h (lv_sub hl [0, 1, 2] rfl)
            · refine x_iconst B dX12_ordersWith_36 ?_
              refine lv_istore (lv' := [(4, .int (iI 0)), (3, .int (iI n)), (0, .ref (am 0)), (1, .int (iI years)), (2, .int (iI rising))]) B.1 B.2.1 dX12_ordersWith_37 hl (by decide) rfl (fun ls hl => ?_)
              have loop39 : ∀ (n39 : Nat) (k : Int), (0 ≤ k ∧ k ≤ 50) → ((50 - k : Int)).toNat < n39 → ∀ (H : Heap) (locs : List Loc) (ls : Array Slot), yH D Zk A s w H locs → lv_has ls 6 [(4, .int (iI k)), (3, .int (iI n)), (0, .ref (am 0)), (1, .int (iI years)), (2, .int (iI rising))] → W p l e r_c_X12_ordersWith s m args below meth c H locs 0 0 Qf (F0 m 39 ls []) := by
                intro n39
                induction n39 with
                | zero =>
                  intro k h2 hm39 H locs ls h hl
                  exact absurd hm39 (Nat.not_lt_zero _)
                | succ n39 ih39 =>
                  intro k h2 hm39 H locs ls h hl
                  refine lv_iload B.1 B.2.1 dX12_ordersWith_39 (lv_at hl 0 rfl) ?_
                  refine x_bipush B (by decide) dX12_ordersWith_41 ?_
                  refine x_icmp_ge B (by omega) (tgt := 74) dX12_ordersWith_43 (by decide) (fun c6 => ?_) (fun c6 => ?_)
                  · refine x_iconst B dX12_ordersWith_74 ?_
                    refine lv_istore (lv' := [(4, .int (iI 0)), (3, .int (iI n)), (0, .ref (am 0)), (1, .int (iI years)), (2, .int (iI rising))]) B.1 B.2.1 dX12_ordersWith_75 hl (by decide) rfl (fun ls hl => ?_)
                    have loop77 : ∀ (n77 : Nat) (k : Int), (0 ≤ k ∧ k ≤ 50) → ((50 - k : Int)).toNat < n77 → ∀ (H : Heap) (locs : List Loc) (ls : Array Slot), yH D Zk A s w H locs → lv_has ls 6 [(4, .int (iI k)), (3, .int (iI n)), (0, .ref (am 0)), (1, .int (iI years)), (2, .int (iI rising))] → W p l e r_c_X12_ordersWith s m args below meth c H locs 0 0 Qf (F0 m 77 ls []) := by
                      intro n77
                      induction n77 with
                      | zero =>
                        intro k h3 hm77 H locs ls h hl
                        exact absurd hm77 (Nat.not_lt_zero _)
                      | succ n77 ih77 =>
                        intro k h3 hm77 H locs ls h hl
                        refine lv_iload B.1 B.2.1 dX12_ordersWith_77 (lv_at hl 0 rfl) ?_
                        refine x_bipush B (by decide) dX12_ordersWith_79 ?_
                        refine x_icmp_ge B (by omega) (tgt := 132) dX12_ordersWith_81 (by decide) (fun c7 => ?_) (fun c7 => ?_)
                        · refine lv_iinc (v := iI (n + 1)) (lv' := [(3, .int (iI (n + 1))), (4, .int (iI k)), (0, .ref (am 0)), (1, .int (iI years)), (2, .int (iI rising))]) B.1 B.2.1 dX12_ordersWith_132 hl (k := 1) rfl (iI_add _ _) (by decide) rfl (fun ls hl => ?_)
                          refine lv_goto (tgt := 31) B.1 B.2.1 dX12_ordersWith_135 (by decide) ?_
                          exact ih31 ((n + 1)) (by omega) (by omega) _ _ _ h (lv_sub hl [0, 2, 3, 4] rfl)
                        · refine x_iconst B dX12_ordersWith_84 ?_
                          refine lv_istore (lv' := [(5, .int (iI 0)), (4, .int (iI k)), (3, .int (iI n)), (0, .ref (am 0)), (1, .int (iI years)), (2, .int (iI rising))]) B.1 B.2.1 dX12_ordersWith_85 hl (by decide) rfl (fun ls hl => ?_)
                          have loop87 : ∀ (n87 : Nat) (m_ : Int), (0 ≤ m_ ∧ m_ ≤ k + 1) → ((51 - m_ : Int)).toNat < n87 → ∀ (H : Heap) (locs : List Loc) (ls : Array Slot), yH D Zk A s w H locs → lv_has ls 6 [(5, .int (iI m_)), (4, .int (iI k)), (3, .int (iI n)), (0, .ref (am 0)), (1, .int (iI years)), (2, .int (iI rising))] → W p l e r_c_X12_ordersWith s m args below meth c H locs 0 0 Qf (F0 m 87 ls []) := by
                            intro n87
                            induction n87 with
                            | zero =>
                              intro m_ h4 hm87 H locs ls h hl
                              exact absurd hm87 (Nat.not_lt_zero _)
                            | succ n87 ih87 =>
                              intro m_ h4 hm87 H locs ls h hl
                              refine lv_iload B.1 B.2.1 dX12_ordersWith_87 (lv_at hl 0 rfl) ?_
                              refine lv_iload_n B.1 B.2.1 dX12_ordersWith_89 rfl (lv_at hl 2 rfl) ?_
                              refine x_icmp_ge B (by omega) (tgt := 126) dX12_ordersWith_90 (by decide) (fun c8 => ?_) (fun c8 => ?_)
                              · refine lv_iinc (v := iI (k + 1)) (lv' := [(4, .int (iI (k + 1))), (5, .int (iI m_)), (3, .int (iI n)), (0, .ref (am 0)), (1, .int (iI years)), (2, .int (iI rising))]) B.1 B.2.1 dX12_ordersWith_126 hl (k := 1) rfl (iI_add _ _) (by decide) rfl (fun ls hl => ?_)
                                refine lv_goto (tgt := 77) B.1 B.2.1 dX12_ordersWith_129 (by decide) ?_
                                exact ih77 ((k + 1)) (by omega) (by omega) _ _ _ h (lv_sub hl [0, 2, 3, 4, 5] rfl)
                              · refine lv_iload B.1 B.2.1 dX12_ordersWith_93 (lv_at hl 0 rfl) ?_
                                refine lv_iload B.1 B.2.1 dX12_ordersWith_95 (lv_at hl 1 rfl) ?_
                                refine x_icmp_gt B (by omega) (tgt := 126) dX12_ordersWith_97 (by decide) (fun c9 => ?_) (fun c9 => ?_)
                                · refine lv_iinc (v := iI (k + 1)) (lv' := [(4, .int (iI (k + 1))), (5, .int (iI m_)), (3, .int (iI n)), (0, .ref (am 0)), (1, .int (iI years)), (2, .int (iI rising))]) B.1 B.2.1 dX12_ordersWith_126 hl (k := 1) rfl (iI_add _ _) (by decide) rfl (fun ls hl => ?_)
                                  refine lv_goto (tgt := 77) B.1 B.2.1 dX12_ordersWith_129 (by decide) ?_
                                  exact ih77 ((k + 1)) (by omega) (by omega) _ _ _ h (lv_sub hl [0, 2, 3, 4, 5] rfl)
                                · refine lv_aload_n B.1 B.2.1 dX12_ordersWith_100 rfl (lv_at hl 3 rfl) ?_
                                  refine y_getR B h kX12 50 (MW.f hM 0 _ rfl) 61 (b := am 33) rfl m_1322 (by decide) dX12_ordersWith_101 ?_
                                  refine lv_iload B.1 B.2.1 dX12_ordersWith_104 (lv_at hl 1 rfl) ?_
                                  refine lv_dup2_11 B.1 B.2.1 dX12_ordersWith_106 rfl rfl ?_
                                  refine y_lald B h 83 (MW.f hM 33 _ rfl) (by omega) dX12_ordersWith_107 (fun fy10 hfy10 => ?_)
                                  refine x_rawL (fun y10 => ?_)
                                  refine lv_aload_n B.1 B.2.1 dX12_ordersWith_108 rfl (lv_at hl 3 rfl) ?_
                                  refine y_getR B h kX12 50 (MW.f hM 0 _ rfl) 62 (b := am 34) rfl m_1323 (by decide) dX12_ordersWith_109 ?_
                                  refine lv_iload B.1 B.2.1 dX12_ordersWith_112 (lv_at hl 1 rfl) ?_
                                  refine lv_iload B.1 B.2.1 dX12_ordersWith_114 (lv_at hl 0 rfl) ?_
                                  refine x_isub B dX12_ordersWith_116 ?_
                                  refine y_lald B h 84 (MW.f hM 34 _ rfl) (by omega) dX12_ordersWith_117 (fun fy11 hfy11 => ?_)
                                  refine x_rawL (fun y11 => ?_)
                                  refine lv_ladd B.1 B.2.1 dX12_ordersWith_118 ?_
                                  refine x_rawL (fun y12 => ?_)
                                  refine y_last B h 83 (MW.f hM 33 _ rfl) (by omega) (P' := fun _ => True) (fun _ _ => trivial) dX12_ordersWith_119 (fun H locs h => ?_)
                                  rw [wu_same (MW.f hM 33 _ rfl)] at h
                                  refine lv_iinc (v := iI (m_ + 1)) (lv' := [(5, .int (iI (m_ + 1))), (4, .int (iI k)), (3, .int (iI n)), (0, .ref (am 0)), (1, .int (iI years)), (2, .int (iI rising))]) B.1 B.2.1 dX12_ordersWith_120 hl (k := 0) rfl (iI_add _ _) (by decide) rfl (fun ls hl => ?_)
                                  refine lv_goto (tgt := 87) B.1 B.2.1 dX12_ordersWith_123 (by decide) ?_
                                  exact ih87 ((m_ + 1)) (by omega) (by omega) _ _ _ h (lv_sub hl [0, 1, 2, 3, 4, 5] rfl)
                          exact loop87 (((51 - 0 : Int)).toNat + 1) 0 (by omega) (Nat.lt_succ_self _) _ _ _ h (lv_sub hl [0, 1, 2, 3, 4, 5] rfl)
                    exact loop77 (((50 - 0 : Int)).toNat + 1) 0 (by omega) (Nat.lt_succ_self _) _ _ _ h (lv_sub hl [0, 1, 2, 3, 4] rfl)
                  · refine lv_aload_n B.1 B.2.1 dX12_ordersWith_46 rfl (lv_at hl 2 rfl) ?_
                    refine y_getR B h kX12 50 (MW.f hM 0 _ rfl) 62 (b := am 34) rfl m_1323 (by decide) dX12_ordersWith_47 ?_
                    refine lv_iload B.1 B.2.1 dX12_ordersWith_50 (lv_at hl 0 rfl) ?_
                    refine lv_aload_n B.1 B.2.1 dX12_ordersWith_52 rfl (lv_at hl 2 rfl) ?_
                    refine y_getR B h kX12 50 (MW.f hM 0 _ rfl) 61 (b := am 33) rfl m_1322 (by decide) dX12_ordersWith_53 ?_
                    refine lv_iload B.1 B.2.1 dX12_ordersWith_56 (lv_at hl 0 rfl) ?_
                    refine y_lald B h 83 (MW.f hM 33 _ rfl) (by omega) dX12_ordersWith_58 (fun fy13 hfy13 => ?_)
                    refine x_rawL (fun y13 => ?_)
                    refine y_last B h 84 (MW.f hM 34 _ rfl) (by omega) (P' := fun _ => True) (fun _ _ => trivial) dX12_ordersWith_59 (fun H locs h => ?_)
                    rw [wu_same (MW.f hM 34 _ rfl)] at h
                    refine lv_aload_n B.1 B.2.1 dX12_ordersWith_60 rfl (lv_at hl 2 rfl) ?_
                    refine y_getR B h kX12 50 (MW.f hM 0 _ rfl) 61 (b := am 33) rfl m_1322 (by decide) dX12_ordersWith_61 ?_
                    refine lv_iload B.1 B.2.1 dX12_ordersWith_64 (lv_at hl 0 rfl) ?_
                    refine lv_lconst (v := 0) B.1 B.2.1 dX12_ordersWith_66 (by decide) ?_
                    refine y_last B h 83 (MW.f hM 33 _ rfl) (by omega) (P' := fun _ => True) (fun _ _ => trivial) dX12_ordersWith_67 (fun H locs h => ?_)
                    rw [wu_same (MW.f hM 33 _ rfl)] at h
                    refine lv_iinc (v := iI (k + 1)) (lv' := [(4, .int (iI (k + 1))), (3, .int (iI n)), (0, .ref (am 0)), (1, .int (iI years)), (2, .int (iI rising))]) B.1 B.2.1 dX12_ordersWith_68 hl (k := 0) rfl (iI_add _ _) (by decide) rfl (fun ls hl => ?_)
                    refine lv_goto (tgt := 39) B.1 B.2.1 dX12_ordersWith_71 (by decide) ?_
                    exact ih39 ((k + 1)) (by omega) (by omega) _ _ _ h (lv_sub hl [0, 1, 2, 3, 4] rfl)
              exact loop39 (((50 - 0 : Int)).toNat + 1) 0 (by omega) (Nat.lt_succ_self _) _ _ _ h (lv_sub hl [0, 1, 2, 3, 4] rfl)
        exact loop31 (((11 - 2 : Int)).toNat + 1) 2 (by omega) (Nat.lt_succ_self _) _ _ _ h (lv_sub hl [0, 1, 2, 3] rfl)
      · refine lv_aload_n B.1 B.2.1 dX12_ordersWith_8 rfl (lv_at hl 1 rfl) ?_
        refine y_getR B h kX12 50 (MW.f hM 0 _ rfl) 61 (b := am 33) rfl m_1322 (by decide) dX12_ordersWith_9 ?_
        refine lv_iload_n B.1 B.2.1 dX12_ordersWith_12 rfl (lv_at hl 0 rfl) ?_
        refine lv_iload_n B.1 B.2.1 dX12_ordersWith_13 rfl (lv_at hl 0 rfl) ?_
        refine x_if_ne B (by omega) (tgt := 21) dX12_ordersWith_14 (by decide) (fun c14 => ?_) (fun c14 => ?_)
        · refine lv_lconst (v := 0) B.1 B.2.1 dX12_ordersWith_21 (by decide) ?_
          refine y_last B h 83 (MW.f hM 33 _ rfl) (by omega) (P' := fun _ => True) (fun _ _ => trivial) dX12_ordersWith_22 (fun H locs h => ?_)
          rw [wu_same (MW.f hM 33 _ rfl)] at h
          refine lv_iinc (v := iI (k + 1)) (lv' := [(3, .int (iI (k + 1))), (0, .ref (am 0)), (1, .int (iI years)), (2, .int (iI rising))]) B.1 B.2.1 dX12_ordersWith_23 hl (k := 0) rfl (iI_add _ _) (by decide) rfl (fun ls hl => ?_)
          refine lv_goto (tgt := 2) B.1 B.2.1 dX12_ordersWith_26 (by decide) ?_
          exact ih2 ((k + 1)) (by omega) (by omega) _ _ _ h (lv_sub hl [0, 1, 2, 3] rfl)
        · refine lv_lconst (v := 1) B.1 B.2.1 dX12_ordersWith_17 (by decide) ?_
          refine lv_goto (tgt := 22) B.1 B.2.1 dX12_ordersWith_18 (by decide) ?_
          refine y_last B h 83 (MW.f hM 33 _ rfl) (by omega) (P' := fun _ => True) (fun _ _ => trivial) dX12_ordersWith_22 (fun H locs h => ?_)
          rw [wu_same (MW.f hM 33 _ rfl)] at h
          refine lv_iinc (v := iI (k + 1)) (lv' := [(3, .int (iI (k + 1))), (0, .ref (am 0)), (1, .int (iI years)), (2, .int (iI rising))]) B.1 B.2.1 dX12_ordersWith_23 hl (k := 0) rfl (iI_add _ _) (by decide) rfl (fun ls hl => ?_)
          refine lv_goto (tgt := 2) B.1 B.2.1 dX12_ordersWith_26 (by decide) ?_
          exact ih2 ((k + 1)) (by omega) (by omega) _ _ _ h (lv_sub hl [0, 1, 2, 3] rfl)
  exact loop2 (((50 - 0 : Int)).toNat + 1) 0 (by omega) (Nat.lt_succ_self _) _ _ _ h (lv_sub hl [0, 1, 2, 3] rfl)
abbrev r_c_X12_lateBy : Room := { frames := 3, cells := 0, slots := 0, locals := 79 }
set_option maxHeartbeats 4000000 in
set_option maxRecDepth 100000 in
theorem c_X12_lateBy (l : Launch) (D : va_G) (Zk : yK) (ca : Nat → ClassId) (T : Nat → Int → Int) (E : Nat → Int → Int) (am : Nat → Nat) (w : yW) (hM : MW ca T E am w) (lag : Int)  (hlag : 0 ≤ lag ∧ lag ≤ 9) : yC l D Zk ca yX12_lateBy cX12_lateBy 4 none r_c_X12_lateBy [.ref (am 0), .int (iI lag)] w (vV w) := by
  refine yC.of2 "WindWordsModel" (by decide) rfl (Nat.le_of_ble_eq_true rfl) ?_
  intro p e s m args below meth c A ls Qf B hnm h hl hQ
  have hl : lv_has ls 4 [(0, .ref (am 0)), (1, .int (iI lag))] := hl
  have hs := pi_s (MW.pi hM)
  have hpe := pe_0 (MW.pe hM)
  refine lv_aload_n B.1 B.2.1 dX12_lateBy_0 rfl (lv_at hl 0 rfl) ?_
  refine x_iconst B dX12_lateBy_1 ?_
  refine y_putS B h kX12 50 (MW.f hM 0 _ rfl) 64 (P := fG (-2147483648) 2147483647) rfl m_1325 (by decide) ⟨_, rfl, by omega, by omega⟩ rfl rfl rfl dX12_lateBy_2 (fun H locs h => ?_)
  refine lv_aload_n B.1 B.2.1 dX12_lateBy_5 rfl (lv_at hl 0 rfl) ?_
  refine x_iconst B dX12_lateBy_6 ?_
  refine y_putS B h kX12 50 (MW.f hM 0 _ rfl) 65 (P := fG (-2147483648) 2147483647) rfl m_1326 (by decide) ⟨_, rfl, by omega, by omega⟩ rfl rfl rfl dX12_lateBy_7 (fun H locs h => ?_)
  refine x_iconst B dX12_lateBy_10 ?_
  refine lv_istore_n (lv' := [(2, .int (iI 0)), (0, .ref (am 0)), (1, .int (iI lag))]) B.1 B.2.1 dX12_lateBy_11 rfl hl (by decide) rfl (fun ls hl => ?_)
  have loop12 : ∀ (n12 : Nat) (a : Int), (0 ≤ a ∧ a ≤ 300) → ((300 - a : Int)).toNat < n12 → ∀ (H : Heap) (locs : List Loc) (ls : Array Slot), yH D Zk A s w H locs → lv_has ls 4 [(2, .int (iI a)), (0, .ref (am 0)), (1, .int (iI lag))] → W p l e r_c_X12_lateBy s m args below meth c H locs 0 0 Qf (F0 m 12 ls []) := by
    intro n12
    induction n12 with
    | zero =>
      intro a h0 hm12 H locs ls h hl
      exact absurd hm12 (Nat.not_lt_zero _)
    | succ n12 ih12 =>
      intro a h0 hm12 H locs ls h hl
      refine lv_iload_n B.1 B.2.1 dX12_lateBy_12 rfl (lv_at hl 0 rfl) ?_
      refine lv_aload_n B.1 B.2.1 dX12_lateBy_13 rfl (lv_at hl 1 rfl) ?_
      refine y_getX B h kX12 50 (MW.f hM 0 _ rfl) 4 (z := (T 0 2)) rfl m_1265 (by decide) dX12_lateBy_14 ?_
      refine x_icmp_ge B (by omega) (tgt := 170) dX12_lateBy_17 (by decide) (fun c1 => ?_) (fun c1 => ?_)
      · refine y_rv B hQ h (by decide) dX12_lateBy_170 ?_
        exact ⟨rfl, rfl⟩
      · refine lv_aload_n B.1 B.2.1 dX12_lateBy_20 rfl (lv_at hl 1 rfl) ?_
        refine y_getR B h kX12 50 (MW.f hM 0 _ rfl) 17 (b := am 12) rfl m_1278 (by decide) dX12_lateBy_21 ?_
        refine lv_iload_n B.1 B.2.1 dX12_lateBy_24 rfl (lv_at hl 0 rfl) ?_
        refine y_ialdX B h 62 (MW.f hM 12 _ rfl) (by omega) dX12_lateBy_25 ?_
        refine x_iset (z := (T 7 a)) (by show iI (T 7 (((a : Int).toNat : Nat) : Int)) = _; rw [show ((((a : Int).toNat : Nat) : Int)) = a by omega]) ?_
        have tb2 := pi_7 (MW.pi hM) a
        refine x_iconst B dX12_lateBy_26 ?_
        refine x_icmp_ne B (by omega) (tgt := 164) dX12_lateBy_27 (by decide) (fun c3 => ?_) (fun c3 => ?_)
        · refine lv_iinc (v := iI (a + 1)) (lv' := [(2, .int (iI (a + 1))), (0, .ref (am 0)), (1, .int (iI lag))]) B.1 B.2.1 dX12_lateBy_164 hl (k := 0) rfl (iI_add _ _) (by decide) rfl (fun ls hl => ?_)
          refine lv_goto (tgt := 12) B.1 B.2.1 dX12_lateBy_167 (by decide) ?_
          exact ih12 ((a + 1)) (by omega) (by omega) _ _ _ h (lv_sub hl [0, 1, 2] rfl)
        · refine lv_aload_n B.1 B.2.1 dX12_lateBy_30 rfl (lv_at hl 1 rfl) ?_
          refine lv_iload_n B.1 B.2.1 dX12_lateBy_31 rfl (lv_at hl 0 rfl) ?_
          refine y_cV B h kX12 50 (MW.f hM 0 _ rfl) k_X12_isTrustedOne rfl (c_X12_isTrustedOne l D Zk ca T E am _ hM a  (by omega)) m_1732 rfl (by decide) hl.1 [] (Nat.le_of_ble_eq_true rfl) rfl dX12_lateBy_32 (fun r w1 hq H locs h => ?_)
          obtain ⟨rfl, _, rfl, ⟨rfl, b4⟩ | ⟨rfl, b4⟩⟩ := hq
          · show W p l e r_c_X12_lateBy s m args below meth c _ _ 0 0 Qf (F0 m 35 ls [.int (iI 1)])
            refine x_if_ne B (by omega) (tgt := 41) dX12_lateBy_35 (by decide) (fun c5 => ?_) (fun c5 => ?_)
            · refine x_iconst B dX12_lateBy_41 ?_
              refine lv_istore_n (lv' := [(3, .int (iI 0)), (2, .int (iI a)), (0, .ref (am 0)), (1, .int (iI lag))]) B.1 B.2.1 dX12_lateBy_42 rfl hl (by decide) rfl (fun ls hl => ?_)
              have loop43 : ∀ (n43 : Nat) (b : Int), (0 ≤ b ∧ b ≤ 300) → ((300 - b : Int)).toNat < n43 → ∀ (H : Heap) (locs : List Loc) (ls : Array Slot), yH D Zk A s w H locs → lv_has ls 4 [(3, .int (iI b)), (2, .int (iI a)), (0, .ref (am 0)), (1, .int (iI lag))] → W p l e r_c_X12_lateBy s m args below meth c H locs 0 0 Qf (F0 m 43 ls []) := by
                intro n43
                induction n43 with
                | zero =>
                  intro b h1 hm43 H locs ls h hl
                  exact absurd hm43 (Nat.not_lt_zero _)
                | succ n43 ih43 =>
                  intro b h1 hm43 H locs ls h hl
                  refine lv_iload_n B.1 B.2.1 dX12_lateBy_43 rfl (lv_at hl 0 rfl) ?_
                  refine lv_aload_n B.1 B.2.1 dX12_lateBy_44 rfl (lv_at hl 2 rfl) ?_
                  refine y_getX B h kX12 50 (MW.f hM 0 _ rfl) 4 (z := (T 0 2)) rfl m_1265 (by decide) dX12_lateBy_45 ?_
                  refine x_icmp_ge B (by omega) (tgt := 164) dX12_lateBy_48 (by decide) (fun c6 => ?_) (fun c6 => ?_)
                  · refine lv_iinc (v := iI (a + 1)) (lv' := [(2, .int (iI (a + 1))), (3, .int (iI b)), (0, .ref (am 0)), (1, .int (iI lag))]) B.1 B.2.1 dX12_lateBy_164 hl (k := 1) rfl (iI_add _ _) (by decide) rfl (fun ls hl => ?_)
                    refine lv_goto (tgt := 12) B.1 B.2.1 dX12_lateBy_167 (by decide) ?_
                    exact ih12 ((a + 1)) (by omega) (by omega) _ _ _ h (lv_sub hl [0, 2, 3] rfl)
                  · refine lv_aload_n B.1 B.2.1 dX12_lateBy_51 rfl (lv_at hl 2 rfl) ?_
                    refine y_getR B h kX12 50 (MW.f hM 0 _ rfl) 17 (b := am 12) rfl m_1278 (by decide) dX12_lateBy_52 ?_
                    refine lv_iload_n B.1 B.2.1 dX12_lateBy_55 rfl (lv_at hl 0 rfl) ?_
                    refine y_ialdX B h 62 (MW.f hM 12 _ rfl) (by omega) dX12_lateBy_56 ?_
                    refine x_iset (z := (T 7 b)) (by show iI (T 7 (((b : Int).toNat : Nat) : Int)) = _; rw [show ((((b : Int).toNat : Nat) : Int)) = b by omega]) ?_
                    have tb7 := pi_7 (MW.pi hM) b
                    refine x_iconst B dX12_lateBy_57 ?_
                    refine x_icmp_ne B (by omega) (tgt := 158) dX12_lateBy_58 (by decide) (fun c8 => ?_) (fun c8 => ?_)
                    · refine lv_iinc (v := iI (b + 1)) (lv' := [(3, .int (iI (b + 1))), (2, .int (iI a)), (0, .ref (am 0)), (1, .int (iI lag))]) B.1 B.2.1 dX12_lateBy_158 hl (k := 0) rfl (iI_add _ _) (by decide) rfl (fun ls hl => ?_)
                      refine lv_goto (tgt := 43) B.1 B.2.1 dX12_lateBy_161 (by decide) ?_
                      exact ih43 ((b + 1)) (by omega) (by omega) _ _ _ h (lv_sub hl [0, 1, 2, 3] rfl)
                    · refine lv_aload_n B.1 B.2.1 dX12_lateBy_61 rfl (lv_at hl 2 rfl) ?_
                      refine y_getR B h kX12 50 (MW.f hM 0 _ rfl) 16 (b := am 11) rfl m_1277 (by decide) dX12_lateBy_62 ?_
                      refine lv_iload_n B.1 B.2.1 dX12_lateBy_65 rfl (lv_at hl 0 rfl) ?_
                      refine y_ialdX B h 61 (MW.f hM 11 _ rfl) (by omega) dX12_lateBy_66 ?_
                      refine x_iset (z := (T 6 b)) (by show iI (T 6 (((b : Int).toNat : Nat) : Int)) = _; rw [show ((((b : Int).toNat : Nat) : Int)) = b by omega]) ?_
                      have tb9 := pi_6 (MW.pi hM) b
                      refine lv_aload_n B.1 B.2.1 dX12_lateBy_67 rfl (lv_at hl 2 rfl) ?_
                      refine y_getR B h kX12 50 (MW.f hM 0 _ rfl) 16 (b := am 11) rfl m_1277 (by decide) dX12_lateBy_68 ?_
                      refine lv_iload_n B.1 B.2.1 dX12_lateBy_71 rfl (lv_at hl 1 rfl) ?_
                      refine y_ialdX B h 61 (MW.f hM 11 _ rfl) (by omega) dX12_lateBy_72 ?_
                      refine x_iset (z := (T 6 a)) (by show iI (T 6 (((a : Int).toNat : Nat) : Int)) = _; rw [show ((((a : Int).toNat : Nat) : Int)) = a by omega]) ?_
                      have tb10 := pi_6 (MW.pi hM) a
                      refine x_icmp_ne B (by omega) (tgt := 158) dX12_lateBy_73 (by decide) (fun c11 => ?_) (fun c11 => ?_)
                      · refine lv_iinc (v := iI (b + 1)) (lv' := [(3, .int (iI (b + 1))), (2, .int (iI a)), (0, .ref (am 0)), (1, .int (iI lag))]) B.1 B.2.1 dX12_lateBy_158 hl (k := 0) rfl (iI_add _ _) (by decide) rfl (fun ls hl => ?_)
                        refine lv_goto (tgt := 43) B.1 B.2.1 dX12_lateBy_161 (by decide) ?_
                        exact ih43 ((b + 1)) (by omega) (by omega) _ _ _ h (lv_sub hl [0, 1, 2, 3] rfl)
                      · refine lv_aload_n B.1 B.2.1 dX12_lateBy_76 rfl (lv_at hl 2 rfl) ?_
                        refine y_getR B h kX12 50 (MW.f hM 0 _ rfl) 15 (b := am 10) rfl m_1276 (by decide) dX12_lateBy_77 ?_
                        refine lv_iload_n B.1 B.2.1 dX12_lateBy_80 rfl (lv_at hl 0 rfl) ?_
                        refine y_ialdX B h 60 (MW.f hM 10 _ rfl) (by omega) dX12_lateBy_81 ?_
                        refine x_iset (z := (T 5 b)) (by show iI (T 5 (((b : Int).toNat : Nat) : Int)) = _; rw [show ((((b : Int).toNat : Nat) : Int)) = b by omega]) ?_
                        have tb12 := pi_5 (MW.pi hM) b
                        refine lv_aload_n B.1 B.2.1 dX12_lateBy_82 rfl (lv_at hl 2 rfl) ?_
                        refine y_getR B h kX12 50 (MW.f hM 0 _ rfl) 15 (b := am 10) rfl m_1276 (by decide) dX12_lateBy_83 ?_
                        refine lv_iload_n B.1 B.2.1 dX12_lateBy_86 rfl (lv_at hl 1 rfl) ?_
                        refine y_ialdX B h 60 (MW.f hM 10 _ rfl) (by omega) dX12_lateBy_87 ?_
                        refine x_iset (z := (T 5 a)) (by show iI (T 5 (((a : Int).toNat : Nat) : Int)) = _; rw [show ((((a : Int).toNat : Nat) : Int)) = a by omega]) ?_
                        have tb13 := pi_5 (MW.pi hM) a
                        refine lv_iload_n B.1 B.2.1 dX12_lateBy_88 rfl (lv_at hl 3 rfl) ?_
                        refine x_isub B dX12_lateBy_89 ?_
                        refine x_icmp_eq B (by omega) (tgt := 96) dX12_lateBy_90 (by decide) (fun c14 => ?_) (fun c14 => ?_)
                        · refine lv_aload_n B.1 B.2.1 dX12_lateBy_96 rfl (lv_at hl 2 rfl) ?_
                          refine lv_dup B.1 B.2.1 dX12_lateBy_97 rfl ?_
                          refine y_getG B h kX12 50 (MW.f hM 0 _ rfl) 64 (lo := (-2147483648)) (hi := 2147483647) rfl m_1325 (by decide) dX12_lateBy_98 (fun z15 z15a z15b => ?_)
                          refine lv_aload_n B.1 B.2.1 dX12_lateBy_101 rfl (lv_at hl 2 rfl) ?_
                          refine y_getR B h kX12 50 (MW.f hM 0 _ rfl) 18 (b := am 13) rfl m_1279 (by decide) dX12_lateBy_102 ?_
                          refine lv_iload_n B.1 B.2.1 dX12_lateBy_105 rfl (lv_at hl 1 rfl) ?_
                          refine y_ialdX B h 63 (MW.f hM 13 _ rfl) (by omega) dX12_lateBy_106 ?_
                          refine x_iset (z := (T 8 a)) (by show iI (T 8 (((a : Int).toNat : Nat) : Int)) = _; rw [show ((((a : Int).toNat : Nat) : Int)) = a by omega]) ?_
                          have tb16 := pi_8 (MW.pi hM) a
                          have tb17 := pi_n (MW.pi hM) a
                          refine lv_aload_n B.1 B.2.1 dX12_lateBy_107 rfl (lv_at hl 2 rfl) ?_
                          refine x_iconst B dX12_lateBy_108 ?_
                          refine lv_aload_n B.1 B.2.1 dX12_lateBy_109 rfl (lv_at hl 2 rfl) ?_
                          refine y_getR B h kX12 50 (MW.f hM 0 _ rfl) 18 (b := am 13) rfl m_1279 (by decide) dX12_lateBy_110 ?_
                          refine lv_iload_n B.1 B.2.1 dX12_lateBy_113 rfl (lv_at hl 0 rfl) ?_
                          refine y_ialdX B h 63 (MW.f hM 13 _ rfl) (by omega) dX12_lateBy_114 ?_
                          refine x_iset (z := (T 8 b)) (by show iI (T 8 (((b : Int).toNat : Nat) : Int)) = _; rw [show ((((b : Int).toNat : Nat) : Int)) = b by omega]) ?_
                          have tb18 := pi_8 (MW.pi hM) b
                          have tb19 := pi_n (MW.pi hM) b
                          refine lv_aload_n B.1 B.2.1 dX12_lateBy_115 rfl (lv_at hl 2 rfl) ?_
                          refine y_getR B h kX12 50 (MW.f hM 0 _ rfl) 8 (b := am 3) rfl m_1269 (by decide) dX12_lateBy_116 ?_
                          refine lv_aload_n B.1 B.2.1 dX12_lateBy_119 rfl (lv_at hl 2 rfl) ?_
                          refine y_getR B h kX12 50 (MW.f hM 0 _ rfl) 14 (b := am 9) rfl m_1275 (by decide) dX12_lateBy_120 ?_
                          refine lv_iload_n B.1 B.2.1 dX12_lateBy_123 rfl (lv_at hl 1 rfl) ?_
                          refine y_ialdX B h 59 (MW.f hM 9 _ rfl) (by omega) dX12_lateBy_124 ?_
                          refine x_iset (z := (T 4 a)) (by show iI (T 4 (((a : Int).toNat : Nat) : Int)) = _; rw [show ((((a : Int).toNat : Nat) : Int)) = a by omega]) ?_
                          have tb20 := pi_4 (MW.pi hM) a
                          refine y_ialdX B h 53 (MW.f hM 3 _ rfl) (by omega) dX12_lateBy_125 ?_
                          refine x_iset (z := (T 1 ((T 4 a)))) (by show iI (T 1 ((((T 4 a) : Int).toNat : Nat) : Int)) = _; rw [show (((((T 4 a) : Int).toNat : Nat) : Int)) = (T 4 a) by omega]) ?_
                          have tb21 := pi_1 (MW.pi hM) ((T 4 a))
                          refine lv_aload_n B.1 B.2.1 dX12_lateBy_126 rfl (lv_at hl 2 rfl) ?_
                          refine y_getR B h kX12 50 (MW.f hM 0 _ rfl) 19 (b := am 14) rfl m_1280 (by decide) dX12_lateBy_127 ?_
                          refine lv_iload_n B.1 B.2.1 dX12_lateBy_130 rfl (lv_at hl 1 rfl) ?_
                          refine y_ialdX B h 64 (MW.f hM 14 _ rfl) (by omega) dX12_lateBy_131 ?_
                          refine x_iset (z := (T 9 a)) (by show iI (T 9 (((a : Int).toNat : Nat) : Int)) = _; rw [show ((((a : Int).toNat : Nat) : Int)) = a by omega]) ?_
                          have tb22 := pi_9 (MW.pi hM) a
                          refine lv_aload_n B.1 B.2.1 dX12_lateBy_132 rfl (lv_at hl 2 rfl) ?_
                          refine lv_iload_n B.1 B.2.1 dX12_lateBy_133 rfl (lv_at hl 1 rfl) ?_
                          refine y_cV B h kX12 50 (MW.f hM 0 _ rfl) k_X12_yearOf rfl (c_X12_yearOf l D Zk ca T E am _ hM a  (by omega)) m_1758 rfl (by decide) hl.1 [.int (iI (T 9 a)), .int (iI (T 1 ((T 4 a)))), .int (iI (T 8 b)), .int (iI 1), .ref (am 0), .int (iI (T 8 a)), .int (iI z15), .ref (am 0)] (Nat.le_of_ble_eq_true rfl) rfl dX12_lateBy_134 (fun r w1 hq H locs h => ?_)
                          obtain ⟨rfl, _, rfl, rfl⟩ := hq
                          show W p l e r_c_X12_lateBy s m args below meth c _ _ 0 0 Qf (F0 m 137 ls [.int (iI ((T 5 a) / 100)), .int (iI (T 9 a)), .int (iI (T 1 ((T 4 a)))), .int (iI (T 8 b)), .int (iI 1), .ref (am 0), .int (iI (T 8 a)), .int (iI z15), .ref (am 0)])
                          refine y_cV B h kX12 50 (MW.f hM 0 _ rfl) k_X12_readIn rfl (c_X12_readIn l D Zk ca T E am _ hM 1 ((T 8 b)) ((T 1 ((T 4 a)))) ((T 9 a)) (((T 5 a) / 100))  (by omega) (by omega) (by omega) (by omega) (by omega)) m_1663 rfl (by decide) hl.1 [.int (iI (T 8 a)), .int (iI z15), .ref (am 0)] (Nat.le_of_ble_eq_true rfl) rfl dX12_lateBy_137 (fun r w1 hq H locs h => ?_)
                          obtain ⟨rfl, z23, rfl, hz23⟩ := hq
                          show W p l e r_c_X12_lateBy s m args below meth c _ _ 0 0 Qf (F0 m 140 ls [.int (iI z23), .int (iI (T 8 a)), .int (iI z15), .ref (am 0)])
                          refine x_isub B dX12_lateBy_140 ?_
                          refine y_cS B h k_X12_abs (c_X12_abs l D Zk ca _ (((T 8 a) - z23))  (by omega)) m_1747 rfl (by decide) hl.1 [.int (iI z15), .ref (am 0)] (Nat.le_of_ble_eq_true rfl) rfl dX12_lateBy_141 (fun r w1 hq H locs h => ?_)
                          obtain ⟨rfl, z24, rfl, hz24⟩ := hq
                          show W p l e r_c_X12_lateBy s m args below meth c _ _ 0 0 Qf (F0 m 144 ls [.int (iI z24), .int (iI z15), .ref (am 0)])
                          refine x_iadd B dX12_lateBy_144 ?_
                          refine x_name (fun z25 hz25 ez25 => ?_)
                          refine y_putS B h kX12 50 (MW.f hM 0 _ rfl) 64 (P := fG (-2147483648) 2147483647) rfl m_1325 (by decide) ⟨_, rfl, by omega, by omega⟩ rfl rfl rfl dX12_lateBy_145 (fun H locs h => ?_)
                          refine lv_aload_n B.1 B.2.1 dX12_lateBy_148 rfl (lv_at hl 2 rfl) ?_
                          refine lv_dup B.1 B.2.1 dX12_lateBy_149 rfl ?_
                          refine y_getG B h kX12 50 (MW.f hM 0 _ rfl) 65 (lo := (-2147483648)) (hi := 2147483647) rfl m_1326 (by decide) dX12_lateBy_150 (fun z26 z26a z26b => ?_)
                          refine x_iconst B dX12_lateBy_153 ?_
                          refine x_iadd B dX12_lateBy_154 ?_
                          refine x_name (fun z27 hz27 ez27 => ?_)
                          refine y_putS B h kX12 50 (MW.f hM 0 _ rfl) 65 (P := fG (-2147483648) 2147483647) rfl m_1326 (by decide) ⟨_, rfl, by omega, by omega⟩ rfl rfl rfl dX12_lateBy_155 (fun H locs h => ?_)
                          refine lv_iinc (v := iI (b + 1)) (lv' := [(3, .int (iI (b + 1))), (2, .int (iI a)), (0, .ref (am 0)), (1, .int (iI lag))]) B.1 B.2.1 dX12_lateBy_158 hl (k := 0) rfl (iI_add _ _) (by decide) rfl (fun ls hl => ?_)
                          refine lv_goto (tgt := 43) B.1 B.2.1 dX12_lateBy_161 (by decide) ?_
                          exact ih43 ((b + 1)) (by omega) (by omega) _ _ _ h (lv_sub hl [0, 1, 2, 3] rfl)
                        · refine lv_goto (tgt := 158) B.1 B.2.1 dX12_lateBy_93 (by decide) ?_
                          refine lv_iinc (v := iI (b + 1)) (lv' := [(3, .int (iI (b + 1))), (2, .int (iI a)), (0, .ref (am 0)), (1, .int (iI lag))]) B.1 B.2.1 dX12_lateBy_158 hl (k := 0) rfl (iI_add _ _) (by decide) rfl (fun ls hl => ?_)
                          refine lv_goto (tgt := 43) B.1 B.2.1 dX12_lateBy_161 (by decide) ?_
                          exact ih43 ((b + 1)) (by omega) (by omega) _ _ _ h (lv_sub hl [0, 1, 2, 3] rfl)
              exact loop43 (((300 - 0 : Int)).toNat + 1) 0 (by omega) (Nat.lt_succ_self _) _ _ _ h (lv_sub hl [0, 1, 2, 3] rfl)
            · exact absurd c5 (by omega)
          · show W p l e r_c_X12_lateBy s m args below meth c _ _ 0 0 Qf (F0 m 35 ls [.int (iI 0)])
            refine x_if_ne B (by omega) (tgt := 41) dX12_lateBy_35 (by decide) (fun c28 => ?_) (fun c28 => ?_)
            · exact absurd c28 (by omega)
            · refine lv_goto (tgt := 164) B.1 B.2.1 dX12_lateBy_38 (by decide) ?_
              refine lv_iinc (v := iI (a + 1)) (lv' := [(2, .int (iI (a + 1))), (0, .ref (am 0)), (1, .int (iI lag))]) B.1 B.2.1 dX12_lateBy_164 hl (k := 0) rfl (iI_add _ _) (by decide) rfl (fun ls hl => ?_)
              refine lv_goto (tgt := 12) B.1 B.2.1 dX12_lateBy_167 (by decide) ?_
              exact ih12 ((a + 1)) (by omega) (by omega) _ _ _ h (lv_sub hl [0, 1, 2] rfl)
  exact loop12 (((300 - 0 : Int)).toNat + 1) 0 (by omega) (Nat.lt_succ_self _) _ _ _ h (lv_sub hl [0, 1, 2] rfl)
abbrev r_c_X12_late : Room := { frames := 4, cells := 0, slots := 0, locals := 102 }
set_option maxHeartbeats 4000000 in
set_option maxRecDepth 100000 in
theorem c_X12_late (l : Launch) (D : va_G) (Zk : yK) (ca : Nat → ClassId) (T : Nat → Int → Int) (E : Nat → Int → Int) (am : Nat → Nat) (w : yW) (hM : MW ca T E am w) (what : Int)  (hwhat : xr what) : yC l D Zk ca yX12_late cX12_late 6 (some .int) r_c_X12_late [.ref (am 0), .int (iI what)] w (vI w (fun z => xr z)) := by
  refine yC.of2 "WindWordsModel" (by decide) rfl (Nat.le_of_ble_eq_true rfl) ?_
  intro p e s m args below meth c A ls Qf B hnm h hl hQ
  have hl : lv_has ls 6 [(0, .ref (am 0)), (1, .int (iI what))] := hl
  have hs := pi_s (MW.pi hM)
  have hpe := pe_0 (MW.pe hM)
  refine lv_iload_n B.1 B.2.1 dX12_late_0 rfl (lv_at hl 1 rfl) ?_
  refine x_bipush B (by decide) dX12_late_1 ?_
  refine x_bipush B (by decide) dX12_late_3 ?_
  refine y_cS B h k_X12_within (c_X12_within l D Zk ca _ what 10 19  (by omega) (by omega) (by omega)) m_1515 rfl (by decide) hl.1 [] (Nat.le_of_ble_eq_true rfl) rfl dX12_late_5 (fun r w1 hq H locs h => ?_)
  obtain ⟨rfl, _, rfl, ⟨rfl, b1⟩ | ⟨rfl, b1⟩⟩ := hq
  · show W p l e r_c_X12_late s m args below meth c _ _ 0 0 Qf (F0 m 8 ls [.int (iI 1)])
    refine x_if_ne B (by omega) (tgt := 22) dX12_late_8 (by decide) (fun c2 => ?_) (fun c2 => ?_)
    · refine lv_aload_n B.1 B.2.1 dX12_late_22 rfl (lv_at hl 0 rfl) ?_
      refine lv_iload_n B.1 B.2.1 dX12_late_23 rfl (lv_at hl 1 rfl) ?_
      refine x_bipush B (by decide) dX12_late_24 ?_
      refine x_irem B (by omega) dX12_late_26 ?_
      refine y_cV B h kX12 50 (MW.f hM 0 _ rfl) k_X12_lateBy rfl (c_X12_lateBy l D Zk ca T E am _ hM ((what % 10))  (by omega)) m_1808 rfl (by decide) hl.1 [] (Nat.le_of_ble_eq_true rfl) rfl dX12_late_27 (fun r w1 hq H locs h => ?_)
      obtain ⟨rfl, rfl⟩ := hq
      show W p l e r_c_X12_late s m args below meth c _ _ 0 0 Qf (F0 m 30 ls [])
      refine lv_iload_n B.1 B.2.1 dX12_late_30 rfl (lv_at hl 1 rfl) ?_
      refine x_bipush B (by decide) dX12_late_31 ?_
      refine x_icmp_ge B (by omega) (tgt := 43) dX12_late_33 (by decide) (fun c3 => ?_) (fun c3 => ?_)
      · refine lv_aload_n B.1 B.2.1 dX12_late_43 rfl (lv_at hl 0 rfl) ?_
        refine y_getG B h kX12 50 (MW.f hM 0 _ rfl) 65 (lo := (-2147483648)) (hi := 2147483647) rfl m_1326 (by decide) dX12_late_44 (fun z4 z4a z4b => ?_)
        refine y_ri B hQ h (by decide) dX12_late_47 ?_
        exact ⟨rfl, _, rfl, (by first | omega | trivial | assumption)⟩
      · refine lv_aload_n B.1 B.2.1 dX12_late_36 rfl (lv_at hl 0 rfl) ?_
        refine y_getG B h kX12 50 (MW.f hM 0 _ rfl) 64 (lo := (-2147483648)) (hi := 2147483647) rfl m_1325 (by decide) dX12_late_37 (fun z5 z5a z5b => ?_)
        refine lv_goto (tgt := 47) B.1 B.2.1 dX12_late_40 (by decide) ?_
        refine y_ri B hQ h (by decide) dX12_late_47 ?_
        exact ⟨rfl, _, rfl, (by first | omega | trivial | assumption)⟩
    · exact absurd c2 (by omega)
  · show W p l e r_c_X12_late s m args below meth c _ _ 0 0 Qf (F0 m 8 ls [.int (iI 0)])
    refine x_if_ne B (by omega) (tgt := 22) dX12_late_8 (by decide) (fun c6 => ?_) (fun c6 => ?_)
    · exact absurd c6 (by omega)
    · refine lv_iload_n B.1 B.2.1 dX12_late_11 rfl (lv_at hl 1 rfl) ?_
      refine x_bipush B (by decide) dX12_late_12 ?_
      refine x_bipush B (by decide) dX12_late_14 ?_
      refine y_cS B h k_X12_within (c_X12_within l D Zk ca _ what 20 29  (by omega) (by omega) (by omega)) m_1515 rfl (by decide) hl.1 [] (Nat.le_of_ble_eq_true rfl) rfl dX12_late_16 (fun r w1 hq H locs h => ?_)
      obtain ⟨rfl, _, rfl, ⟨rfl, b7⟩ | ⟨rfl, b7⟩⟩ := hq
      · show W p l e r_c_X12_late s m args below meth c _ _ 0 0 Qf (F0 m 19 ls [.int (iI 1)])
        refine x_if_eq B (by omega) (tgt := 48) dX12_late_19 (by decide) (fun c8 => ?_) (fun c8 => ?_)
        · exact absurd c8 (by omega)
        · refine lv_aload_n B.1 B.2.1 dX12_late_22 rfl (lv_at hl 0 rfl) ?_
          refine lv_iload_n B.1 B.2.1 dX12_late_23 rfl (lv_at hl 1 rfl) ?_
          refine x_bipush B (by decide) dX12_late_24 ?_
          refine x_irem B (by omega) dX12_late_26 ?_
          refine y_cV B h kX12 50 (MW.f hM 0 _ rfl) k_X12_lateBy rfl (c_X12_lateBy l D Zk ca T E am _ hM ((what % 10))  (by omega)) m_1808 rfl (by decide) hl.1 [] (Nat.le_of_ble_eq_true rfl) rfl dX12_late_27 (fun r w1 hq H locs h => ?_)
          obtain ⟨rfl, rfl⟩ := hq
          show W p l e r_c_X12_late s m args below meth c _ _ 0 0 Qf (F0 m 30 ls [])
          refine lv_iload_n B.1 B.2.1 dX12_late_30 rfl (lv_at hl 1 rfl) ?_
          refine x_bipush B (by decide) dX12_late_31 ?_
          refine x_icmp_ge B (by omega) (tgt := 43) dX12_late_33 (by decide) (fun c9 => ?_) (fun c9 => ?_)
          · refine lv_aload_n B.1 B.2.1 dX12_late_43 rfl (lv_at hl 0 rfl) ?_
            refine y_getG B h kX12 50 (MW.f hM 0 _ rfl) 65 (lo := (-2147483648)) (hi := 2147483647) rfl m_1326 (by decide) dX12_late_44 (fun z10 z10a z10b => ?_)
            refine y_ri B hQ h (by decide) dX12_late_47 ?_
            exact ⟨rfl, _, rfl, (by first | omega | trivial | assumption)⟩
          · refine lv_aload_n B.1 B.2.1 dX12_late_36 rfl (lv_at hl 0 rfl) ?_
            refine y_getG B h kX12 50 (MW.f hM 0 _ rfl) 64 (lo := (-2147483648)) (hi := 2147483647) rfl m_1325 (by decide) dX12_late_37 (fun z11 z11a z11b => ?_)
            refine lv_goto (tgt := 47) B.1 B.2.1 dX12_late_40 (by decide) ?_
            refine y_ri B hQ h (by decide) dX12_late_47 ?_
            exact ⟨rfl, _, rfl, (by first | omega | trivial | assumption)⟩
      · show W p l e r_c_X12_late s m args below meth c _ _ 0 0 Qf (F0 m 19 ls [.int (iI 0)])
        refine x_if_eq B (by omega) (tgt := 48) dX12_late_19 (by decide) (fun c12 => ?_) (fun c12 => ?_)
        · refine lv_iload_n B.1 B.2.1 dX12_late_48 rfl (lv_at hl 1 rfl) ?_
          refine x_iconst B dX12_late_49 ?_
          refine x_iconst B dX12_late_50 ?_
          refine y_cS B h k_X12_within (c_X12_within l D Zk ca _ what 0 2  (by omega) (by omega) (by omega)) m_1515 rfl (by decide) hl.1 [] (Nat.le_of_ble_eq_true rfl) rfl dX12_late_51 (fun r w1 hq H locs h => ?_)
          obtain ⟨rfl, _, rfl, ⟨rfl, b13⟩ | ⟨rfl, b13⟩⟩ := hq
          · show W p l e r_c_X12_late s m args below meth c _ _ 0 0 Qf (F0 m 54 ls [.int (iI 1)])
            refine x_if_ne B (by omega) (tgt := 59) dX12_late_54 (by decide) (fun c14 => ?_) (fun c14 => ?_)
            · refine x_iconst B dX12_late_59 ?_
              refine lv_istore_n (lv' := [(2, .int (iI (-1))), (0, .ref (am 0)), (1, .int (iI what))]) B.1 B.2.1 dX12_late_60 rfl hl (by decide) rfl (fun ls hl => ?_)
              refine x_iconst B dX12_late_61 ?_
              refine lv_istore_n (lv' := [(3, .int (iI 0)), (2, .int (iI (-1))), (0, .ref (am 0)), (1, .int (iI what))]) B.1 B.2.1 dX12_late_62 rfl hl (by decide) rfl (fun ls hl => ?_)
              refine x_iconst B dX12_late_63 ?_
              refine lv_istore (lv' := [(4, .int (iI 0)), (3, .int (iI 0)), (2, .int (iI (-1))), (0, .ref (am 0)), (1, .int (iI what))]) B.1 B.2.1 dX12_late_64 hl (by decide) rfl (fun ls hl => ?_)
              refine x_iconst B dX12_late_66 ?_
              refine lv_istore (lv' := [(5, .int (iI 0)), (4, .int (iI 0)), (3, .int (iI 0)), (2, .int (iI (-1))), (0, .ref (am 0)), (1, .int (iI what))]) B.1 B.2.1 dX12_late_67 hl (by decide) rfl (fun ls hl => ?_)
              have loop69 : ∀ (n69 : Nat) (b : Int) (su : Int) (mn : Int) (lg : Int), (-1 ≤ b ∧ b ≤ 9) → (xr su) → (xr mn) → (0 ≤ lg ∧ lg ≤ 10) → ((10 - lg : Int)).toNat < n69 → ∀ (H : Heap) (locs : List Loc) (ls : Array Slot), yH D Zk A s w H locs → lv_has ls 6 [(5, .int (iI lg)), (4, .int (iI mn)), (3, .int (iI su)), (2, .int (iI b)), (0, .ref (am 0)), (1, .int (iI what))] → W p l e r_c_X12_late s m args below meth c H locs 0 0 Qf (F0 m 69 ls []) := by
                intro n69
                induction n69 with
                | zero =>
                  intro b su mn lg h0 h1 h2 h3 hm69 H locs ls h hl
                  exact absurd hm69 (Nat.not_lt_zero _)
                | succ n69 ih69 =>
                  intro b su mn lg h0 h1 h2 h3 hm69 H locs ls h hl
                  refine lv_iload B.1 B.2.1 dX12_late_69 (lv_at hl 0 rfl) ?_
                  refine x_bipush B (by decide) dX12_late_71 ?_
                  refine x_icmp_ge B (by omega) (tgt := 137) dX12_late_73 (by decide) (fun c15 => ?_) (fun c15 => ?_)
                  · refine lv_iload_n B.1 B.2.1 dX12_late_137 rfl (lv_at hl 3 rfl) ?_
                    refine x_if_ge B (by omega) (tgt := 145) dX12_late_138 (by decide) (fun c16 => ?_) (fun c16 => ?_)
                    · refine lv_iload_n B.1 B.2.1 dX12_late_145 rfl (lv_at hl 5 rfl) ?_
                      refine x_if_ne B (by omega) (tgt := 153) dX12_late_146 (by decide) (fun c17 => ?_) (fun c17 => ?_)
                      · refine lv_iload_n B.1 B.2.1 dX12_late_153 rfl (lv_at hl 5 rfl) ?_
                        refine x_iconst B dX12_late_154 ?_
                        refine x_icmp_ne B (by omega) (tgt := 162) dX12_late_155 (by decide) (fun c18 => ?_) (fun c18 => ?_)
                        · refine lv_iload B.1 B.2.1 dX12_late_162 (lv_at hl 1 rfl) ?_
                          refine y_ri B hQ h (by decide) dX12_late_164 ?_
                          exact ⟨rfl, _, rfl, (by first | omega | trivial | assumption)⟩
                        · refine lv_iload_n B.1 B.2.1 dX12_late_158 rfl (lv_at hl 2 rfl) ?_
                          refine lv_goto (tgt := 164) B.1 B.2.1 dX12_late_159 (by decide) ?_
                          refine y_ri B hQ h (by decide) dX12_late_164 ?_
                          exact ⟨rfl, _, rfl, (by first | omega | trivial | assumption)⟩
                      · refine lv_iload_n B.1 B.2.1 dX12_late_149 rfl (lv_at hl 3 rfl) ?_
                        refine lv_goto (tgt := 164) B.1 B.2.1 dX12_late_150 (by decide) ?_
                        refine y_ri B hQ h (by decide) dX12_late_164 ?_
                        exact ⟨rfl, _, rfl, (by first | omega | trivial | assumption)⟩
                    · refine x_iconst B dX12_late_141 ?_
                      refine lv_goto (tgt := 164) B.1 B.2.1 dX12_late_142 (by decide) ?_
                      refine y_ri B hQ h (by decide) dX12_late_164 ?_
                      exact ⟨rfl, _, rfl, (by first | omega | trivial | assumption)⟩
                  · refine lv_aload_n B.1 B.2.1 dX12_late_76 rfl (lv_at hl 4 rfl) ?_
                    refine lv_iload B.1 B.2.1 dX12_late_77 (lv_at hl 0 rfl) ?_
                    refine y_cV B h kX12 50 (MW.f hM 0 _ rfl) k_X12_lateBy rfl (c_X12_lateBy l D Zk ca T E am _ hM lg  (by omega)) m_1808 rfl (by decide) hl.1 [] (Nat.le_of_ble_eq_true rfl) rfl dX12_late_79 (fun r w1 hq H locs h => ?_)
                    obtain ⟨rfl, rfl⟩ := hq
                    show W p l e r_c_X12_late s m args below meth c _ _ 0 0 Qf (F0 m 82 ls [])
                    refine lv_aload_n B.1 B.2.1 dX12_late_82 rfl (lv_at hl 4 rfl) ?_
                    refine y_getG B h kX12 50 (MW.f hM 0 _ rfl) 65 (lo := (-2147483648)) (hi := 2147483647) rfl m_1326 (by decide) dX12_late_83 (fun z19 z19a z19b => ?_)
                    refine x_if_eq B (by omega) (tgt := 131) dX12_late_86 (by decide) (fun c20 => ?_) (fun c20 => ?_)
                    · refine lv_iinc (v := iI (lg + 1)) (lv' := [(5, .int (iI (lg + 1))), (4, .int (iI mn)), (3, .int (iI su)), (2, .int (iI b)), (0, .ref (am 0)), (1, .int (iI what))]) B.1 B.2.1 dX12_late_131 hl (k := 0) rfl (iI_add _ _) (by decide) rfl (fun ls hl => ?_)
                      refine lv_goto (tgt := 69) B.1 B.2.1 dX12_late_134 (by decide) ?_
                      exact ih69 b su mn ((lg + 1)) (by omega) (by omega) (by omega) (by omega) (by omega) _ _ _ h (lv_sub hl [0, 1, 2, 3, 4, 5] rfl)
                    · refine lv_iload_n B.1 B.2.1 dX12_late_89 rfl (lv_at hl 3 rfl) ?_
                      refine x_if_lt B (by omega) (tgt := 117) dX12_late_90 (by decide) (fun c21 => ?_) (fun c21 => ?_)
                      · refine lv_iload B.1 B.2.1 dX12_late_117 (lv_at hl 0 rfl) ?_
                        refine lv_istore_n (lv' := [(2, .int (iI lg)), (5, .int (iI lg)), (4, .int (iI mn)), (3, .int (iI su)), (0, .ref (am 0)), (1, .int (iI what))]) B.1 B.2.1 dX12_late_119 rfl hl (by decide) rfl (fun ls hl => ?_)
                        refine lv_aload_n B.1 B.2.1 dX12_late_120 rfl (lv_at hl 4 rfl) ?_
                        refine y_getG B h kX12 50 (MW.f hM 0 _ rfl) 64 (lo := (-2147483648)) (hi := 2147483647) rfl m_1325 (by decide) dX12_late_121 (fun z22 z22a z22b => ?_)
                        refine lv_istore_n (lv' := [(3, .int (iI z22)), (2, .int (iI lg)), (5, .int (iI lg)), (4, .int (iI mn)), (0, .ref (am 0)), (1, .int (iI what))]) B.1 B.2.1 dX12_late_124 rfl hl (by decide) rfl (fun ls hl => ?_)
                        refine lv_aload_n B.1 B.2.1 dX12_late_125 rfl (lv_at hl 4 rfl) ?_
                        refine y_getG B h kX12 50 (MW.f hM 0 _ rfl) 65 (lo := (-2147483648)) (hi := 2147483647) rfl m_1326 (by decide) dX12_late_126 (fun z23 z23a z23b => ?_)
                        refine lv_istore (lv' := [(4, .int (iI z23)), (3, .int (iI z22)), (2, .int (iI lg)), (5, .int (iI lg)), (0, .ref (am 0)), (1, .int (iI what))]) B.1 B.2.1 dX12_late_129 hl (by decide) rfl (fun ls hl => ?_)
                        refine lv_iinc (v := iI (lg + 1)) (lv' := [(5, .int (iI (lg + 1))), (4, .int (iI z23)), (3, .int (iI z22)), (2, .int (iI lg)), (0, .ref (am 0)), (1, .int (iI what))]) B.1 B.2.1 dX12_late_131 hl (k := 3) rfl (iI_add _ _) (by decide) rfl (fun ls hl => ?_)
                        refine lv_goto (tgt := 69) B.1 B.2.1 dX12_late_134 (by decide) ?_
                        exact ih69 lg z22 z23 ((lg + 1)) (by omega) (by omega) (by omega) (by omega) (by omega) _ _ _ h (lv_sub hl [0, 1, 2, 3, 4, 5] rfl)
                      · refine lv_aload_n B.1 B.2.1 dX12_late_93 rfl (lv_at hl 4 rfl) ?_
                        refine y_getG B h kX12 50 (MW.f hM 0 _ rfl) 64 (lo := (-2147483648)) (hi := 2147483647) rfl m_1325 (by decide) dX12_late_94 (fun z24 z24a z24b => ?_)
                        refine lv_i2l B.1 B.2.1 dX12_late_97 rfl ?_
                        refine x_rawL (fun y25 => ?_)
                        refine lv_iload B.1 B.2.1 dX12_late_98 (lv_at hl 1 rfl) ?_
                        refine lv_i2l B.1 B.2.1 dX12_late_100 rfl ?_
                        refine x_rawL (fun y26 => ?_)
                        refine lv_lmul B.1 B.2.1 dX12_late_101 ?_
                        refine x_rawL (fun y27 => ?_)
                        refine lv_iload_n B.1 B.2.1 dX12_late_102 rfl (lv_at hl 2 rfl) ?_
                        refine lv_i2l B.1 B.2.1 dX12_late_103 rfl ?_
                        refine x_rawL (fun y28 => ?_)
                        refine lv_aload_n B.1 B.2.1 dX12_late_104 rfl (lv_at hl 4 rfl) ?_
                        refine y_getG B h kX12 50 (MW.f hM 0 _ rfl) 65 (lo := (-2147483648)) (hi := 2147483647) rfl m_1326 (by decide) dX12_late_105 (fun z29 z29a z29b => ?_)
                        refine lv_i2l B.1 B.2.1 dX12_late_108 rfl ?_
                        refine x_rawL (fun y30 => ?_)
                        refine lv_lmul B.1 B.2.1 dX12_late_109 ?_
                        refine x_rawL (fun y31 => ?_)
                        refine W.lcmp B.1 B.2.1 dX12_late_110 ?_
                        refine x_name (fun z32 hz32 ez32 => ?_)
                        refine x_if_lt B (by omega) (tgt := 117) dX12_late_111 (by decide) (fun c33 => ?_) (fun c33 => ?_)
                        · refine lv_iload B.1 B.2.1 dX12_late_117 (lv_at hl 0 rfl) ?_
                          refine lv_istore_n (lv' := [(2, .int (iI lg)), (5, .int (iI lg)), (4, .int (iI mn)), (3, .int (iI su)), (0, .ref (am 0)), (1, .int (iI what))]) B.1 B.2.1 dX12_late_119 rfl hl (by decide) rfl (fun ls hl => ?_)
                          refine lv_aload_n B.1 B.2.1 dX12_late_120 rfl (lv_at hl 4 rfl) ?_
                          refine y_getG B h kX12 50 (MW.f hM 0 _ rfl) 64 (lo := (-2147483648)) (hi := 2147483647) rfl m_1325 (by decide) dX12_late_121 (fun z34 z34a z34b => ?_)
                          refine lv_istore_n (lv' := [(3, .int (iI z34)), (2, .int (iI lg)), (5, .int (iI lg)), (4, .int (iI mn)), (0, .ref (am 0)), (1, .int (iI what))]) B.1 B.2.1 dX12_late_124 rfl hl (by decide) rfl (fun ls hl => ?_)
                          refine lv_aload_n B.1 B.2.1 dX12_late_125 rfl (lv_at hl 4 rfl) ?_
                          refine y_getG B h kX12 50 (MW.f hM 0 _ rfl) 65 (lo := (-2147483648)) (hi := 2147483647) rfl m_1326 (by decide) dX12_late_126 (fun z35 z35a z35b => ?_)
                          refine lv_istore (lv' := [(4, .int (iI z35)), (3, .int (iI z34)), (2, .int (iI lg)), (5, .int (iI lg)), (0, .ref (am 0)), (1, .int (iI what))]) B.1 B.2.1 dX12_late_129 hl (by decide) rfl (fun ls hl => ?_)
                          refine lv_iinc (v := iI (lg + 1)) (lv' := [(5, .int (iI (lg + 1))), (4, .int (iI z35)), (3, .int (iI z34)), (2, .int (iI lg)), (0, .ref (am 0)), (1, .int (iI what))]) B.1 B.2.1 dX12_late_131 hl (k := 3) rfl (iI_add _ _) (by decide) rfl (fun ls hl => ?_)
                          refine lv_goto (tgt := 69) B.1 B.2.1 dX12_late_134 (by decide) ?_
                          exact ih69 lg z34 z35 ((lg + 1)) (by omega) (by omega) (by omega) (by omega) (by omega) _ _ _ h (lv_sub hl [0, 1, 2, 3, 4, 5] rfl)
                        · refine lv_goto (tgt := 131) B.1 B.2.1 dX12_late_114 (by decide) ?_
                          refine lv_iinc (v := iI (lg + 1)) (lv' := [(5, .int (iI (lg + 1))), (4, .int (iI mn)), (3, .int (iI su)), (2, .int (iI b)), (0, .ref (am 0)), (1, .int (iI what))]) B.1 B.2.1 dX12_late_131 hl (k := 0) rfl (iI_add _ _) (by decide) rfl (fun ls hl => ?_)
                          refine lv_goto (tgt := 69) B.1 B.2.1 dX12_late_134 (by decide) ?_
                          exact ih69 b su mn ((lg + 1)) (by omega) (by omega) (by omega) (by omega) (by omega) _ _ _ h (lv_sub hl [0, 1, 2, 3, 4, 5] rfl)
              exact loop69 (((10 - 0 : Int)).toNat + 1) ((-1)) 0 0 0 (by omega) (by omega) (by omega) (by omega) (Nat.lt_succ_self _) _ _ _ h (lv_sub hl [0, 1, 2, 3, 4, 5] rfl)
            · exact absurd c14 (by omega)
          · show W p l e r_c_X12_late s m args below meth c _ _ 0 0 Qf (F0 m 54 ls [.int (iI 0)])
            refine x_if_ne B (by omega) (tgt := 59) dX12_late_54 (by decide) (fun c36 => ?_) (fun c36 => ?_)
            · exact absurd c36 (by omega)
            · refine x_iconst B dX12_late_57 ?_
              refine y_ri B hQ h (by decide) dX12_late_58 ?_
              exact ⟨rfl, _, rfl, (by first | omega | trivial | assumption)⟩
        · exact absurd c12 (by omega)
abbrev r_c_X12_followed : Room := { frames := 2, cells := 0, slots := 0, locals := 45 }
set_option maxHeartbeats 4000000 in
set_option maxRecDepth 100000 in
theorem c_X12_followed (l : Launch) (D : va_G) (Zk : yK) (ca : Nat → ClassId) (T : Nat → Int → Int) (E : Nat → Int → Int) (am : Nat → Nat) (w : yW) (hM : MW ca T E am w) (k : Int)  (hk : 0 ≤ k ∧ k < T 0 2) : yC l D Zk ca yX12_followed cX12_followed 3 (some .int) r_c_X12_followed [.ref (am 0), .int (iI k)] w (vI w (fun z => z = -1 ∨ (0 ≤ z ∧ z < T 0 2))) := by
  refine yC.of2 "WindWordsModel" (by decide) rfl (Nat.le_of_ble_eq_true rfl) ?_
  intro p e s m args below meth c A ls Qf B hnm h hl hQ
  have hl : lv_has ls 3 [(0, .ref (am 0)), (1, .int (iI k))] := hl
  have hs := pi_s (MW.pi hM)
  have hpe := pe_0 (MW.pe hM)
  refine lv_aload_n B.1 B.2.1 dX12_followed_0 rfl (lv_at hl 0 rfl) ?_
  refine lv_iload_n B.1 B.2.1 dX12_followed_1 rfl (lv_at hl 1 rfl) ?_
  refine y_cV B h kX12 50 (MW.f hM 0 _ rfl) k_X12_isMan rfl (c_X12_isMan l D Zk ca T E am _ hM k  (by omega)) m_1728 rfl (by decide) hl.1 [] (Nat.le_of_ble_eq_true rfl) rfl dX12_followed_2 (fun r w1 hq H locs h => ?_)
  obtain ⟨rfl, _, rfl, ⟨rfl, b1⟩ | ⟨rfl, b1⟩⟩ := hq
  · show W p l e r_c_X12_followed s m args below meth c _ _ 0 0 Qf (F0 m 5 ls [.int (iI 1)])
    refine x_if_eq B (by omega) (tgt := 29) dX12_followed_5 (by decide) (fun c2 => ?_) (fun c2 => ?_)
    · exact absurd c2 (by omega)
    · refine lv_aload_n B.1 B.2.1 dX12_followed_8 rfl (lv_at hl 0 rfl) ?_
      refine lv_aload_n B.1 B.2.1 dX12_followed_9 rfl (lv_at hl 0 rfl) ?_
      refine y_getR B h kX12 50 (MW.f hM 0 _ rfl) 14 (b := am 9) rfl m_1275 (by decide) dX12_followed_10 ?_
      refine lv_iload_n B.1 B.2.1 dX12_followed_13 rfl (lv_at hl 1 rfl) ?_
      refine y_ialdX B h 59 (MW.f hM 9 _ rfl) (by omega) dX12_followed_14 ?_
      refine x_iset (z := (T 4 k)) (by show iI (T 4 (((k : Int).toNat : Nat) : Int)) = _; rw [show ((((k : Int).toNat : Nat) : Int)) = k by omega]) ?_
      have tb3 := pi_4 (MW.pi hM) k
      refine lv_aload_n B.1 B.2.1 dX12_followed_15 rfl (lv_at hl 0 rfl) ?_
      refine y_getR B h kX12 50 (MW.f hM 0 _ rfl) 15 (b := am 10) rfl m_1276 (by decide) dX12_followed_16 ?_
      refine lv_iload_n B.1 B.2.1 dX12_followed_19 rfl (lv_at hl 1 rfl) ?_
      refine y_ialdX B h 60 (MW.f hM 10 _ rfl) (by omega) dX12_followed_20 ?_
      refine x_iset (z := (T 5 k)) (by show iI (T 5 (((k : Int).toNat : Nat) : Int)) = _; rw [show ((((k : Int).toNat : Nat) : Int)) = k by omega]) ?_
      have tb4 := pi_5 (MW.pi hM) k
      refine x_iconst B dX12_followed_21 ?_
      refine x_isub B dX12_followed_22 ?_
      refine y_cV B h kX12 50 (MW.f hM 0 _ rfl) k_X12_readingOf rfl (c_X12_readingOf l D Zk ca T E am _ hM ((T 4 k)) (((T 5 k) - 1))  (by omega) (by omega)) m_1542 rfl (by decide) hl.1 [] (Nat.le_of_ble_eq_true rfl) rfl dX12_followed_23 (fun r w1 hq H locs h => ?_)
      obtain ⟨rfl, z5, rfl, hz5⟩ := hq
      show W p l e r_c_X12_followed s m args below meth c _ _ 0 0 Qf (F0 m 26 ls [.int (iI z5)])
      refine lv_goto (tgt := 30) B.1 B.2.1 dX12_followed_26 (by decide) ?_
      refine lv_istore_n (lv' := [(2, .int (iI z5)), (0, .ref (am 0)), (1, .int (iI k))]) B.1 B.2.1 dX12_followed_30 rfl hl (by decide) rfl (fun ls hl => ?_)
      refine lv_iload_n B.1 B.2.1 dX12_followed_31 rfl (lv_at hl 0 rfl) ?_
      refine x_if_lt B (by omega) (tgt := 60) dX12_followed_32 (by decide) (fun c6 => ?_) (fun c6 => ?_)
      · refine x_iconst B dX12_followed_60 ?_
        refine y_ri B hQ h (by decide) dX12_followed_61 ?_
        exact ⟨rfl, _, rfl, (by first | omega | trivial | assumption)⟩
      · refine lv_aload_n B.1 B.2.1 dX12_followed_35 rfl (lv_at hl 1 rfl) ?_
        refine lv_iload_n B.1 B.2.1 dX12_followed_36 rfl (lv_at hl 0 rfl) ?_
        refine y_cV B h kX12 50 (MW.f hM 0 _ rfl) k_X12_isMan rfl (c_X12_isMan l D Zk ca T E am _ hM z5  (by omega)) m_1728 rfl (by decide) hl.1 [] (Nat.le_of_ble_eq_true rfl) rfl dX12_followed_37 (fun r w1 hq H locs h => ?_)
        obtain ⟨rfl, _, rfl, ⟨rfl, b7⟩ | ⟨rfl, b7⟩⟩ := hq
        · show W p l e r_c_X12_followed s m args below meth c _ _ 0 0 Qf (F0 m 40 ls [.int (iI 1)])
          refine x_if_eq B (by omega) (tgt := 60) dX12_followed_40 (by decide) (fun c8 => ?_) (fun c8 => ?_)
          · exact absurd c8 (by omega)
          · refine lv_aload_n B.1 B.2.1 dX12_followed_43 rfl (lv_at hl 1 rfl) ?_
            refine lv_iload_n B.1 B.2.1 dX12_followed_44 rfl (lv_at hl 0 rfl) ?_
            refine y_cV B h kX12 50 (MW.f hM 0 _ rfl) k_X12_writer rfl (c_X12_writer l D Zk ca T E am _ hM z5  (by omega)) m_1736 rfl (by decide) hl.1 [] (Nat.le_of_ble_eq_true rfl) rfl dX12_followed_45 (fun r w1 hq H locs h => ?_)
            obtain ⟨rfl, _, rfl, rfl⟩ := hq
            have tb9 := pi_3 (MW.pi hM) (1000 * T 4 z5 + T 5 z5)
            show W p l e r_c_X12_followed s m args below meth c _ _ 0 0 Qf (F0 m 48 ls [.int (iI (T 3 (1000 * T 4 z5 + T 5 z5)))])
            refine lv_aload_n B.1 B.2.1 dX12_followed_48 rfl (lv_at hl 1 rfl) ?_
            refine lv_iload_n B.1 B.2.1 dX12_followed_49 rfl (lv_at hl 2 rfl) ?_
            refine y_cV B h kX12 50 (MW.f hM 0 _ rfl) k_X12_writer rfl (c_X12_writer l D Zk ca T E am _ hM k  (by omega)) m_1736 rfl (by decide) hl.1 [.int (iI (T 3 (1000 * T 4 z5 + T 5 z5)))] (Nat.le_of_ble_eq_true rfl) rfl dX12_followed_50 (fun r w1 hq H locs h => ?_)
            obtain ⟨rfl, _, rfl, rfl⟩ := hq
            have tb10 := pi_3 (MW.pi hM) (1000 * T 4 k + T 5 k)
            show W p l e r_c_X12_followed s m args below meth c _ _ 0 0 Qf (F0 m 53 ls [.int (iI (T 3 (1000 * T 4 k + T 5 k))), .int (iI (T 3 (1000 * T 4 z5 + T 5 z5)))])
            refine x_icmp_ne B (by omega) (tgt := 60) dX12_followed_53 (by decide) (fun c11 => ?_) (fun c11 => ?_)
            · refine x_iconst B dX12_followed_60 ?_
              refine y_ri B hQ h (by decide) dX12_followed_61 ?_
              exact ⟨rfl, _, rfl, (by first | omega | trivial | assumption)⟩
            · refine lv_iload_n B.1 B.2.1 dX12_followed_56 rfl (lv_at hl 0 rfl) ?_
              refine lv_goto (tgt := 61) B.1 B.2.1 dX12_followed_57 (by decide) ?_
              refine y_ri B hQ h (by decide) dX12_followed_61 ?_
              exact ⟨rfl, _, rfl, (by first | omega | trivial | assumption)⟩
        · show W p l e r_c_X12_followed s m args below meth c _ _ 0 0 Qf (F0 m 40 ls [.int (iI 0)])
          refine x_if_eq B (by omega) (tgt := 60) dX12_followed_40 (by decide) (fun c12 => ?_) (fun c12 => ?_)
          · refine x_iconst B dX12_followed_60 ?_
            refine y_ri B hQ h (by decide) dX12_followed_61 ?_
            exact ⟨rfl, _, rfl, (by first | omega | trivial | assumption)⟩
          · exact absurd c12 (by omega)
  · show W p l e r_c_X12_followed s m args below meth c _ _ 0 0 Qf (F0 m 5 ls [.int (iI 0)])
    refine x_if_eq B (by omega) (tgt := 29) dX12_followed_5 (by decide) (fun c13 => ?_) (fun c13 => ?_)
    · refine x_iconst B dX12_followed_29 ?_
      refine lv_istore_n (lv' := [(2, .int (iI (-1))), (0, .ref (am 0)), (1, .int (iI k))]) B.1 B.2.1 dX12_followed_30 rfl hl (by decide) rfl (fun ls hl => ?_)
      refine lv_iload_n B.1 B.2.1 dX12_followed_31 rfl (lv_at hl 0 rfl) ?_
      refine x_if_lt B (by omega) (tgt := 60) dX12_followed_32 (by decide) (fun c14 => ?_) (fun c14 => ?_)
      · refine x_iconst B dX12_followed_60 ?_
        refine y_ri B hQ h (by decide) dX12_followed_61 ?_
        exact ⟨rfl, _, rfl, (by first | omega | trivial | assumption)⟩
      · exact absurd c14 (by omega)
    · exact absurd c13 (by omega)
abbrev r_c_X12_isCopied : Room := { frames := 3, cells := 0, slots := 0, locals := 67 }
set_option maxHeartbeats 4000000 in
set_option maxRecDepth 100000 in
theorem c_X12_isCopied (l : Launch) (D : va_G) (Zk : yK) (ca : Nat → ClassId) (T : Nat → Int → Int) (E : Nat → Int → Int) (am : Nat → Nat) (w : yW) (hM : MW ca T E am w) (k : Int)  (hk : 0 ≤ k ∧ k < T 0 2) : yC l D Zk ca yX12_isCopied cX12_isCopied 7 (some .boolean) r_c_X12_isCopied [.ref (am 0), .int (iI k)] w (vI w (fun z => (z = 1 ∧ (True)) ∨ (z = 0 ∧ (True)))) := by
  refine yC.of2 "WindWordsModel" (by decide) rfl (Nat.le_of_ble_eq_true rfl) ?_
  intro p e s m args below meth c A ls Qf B hnm h hl hQ
  have hl : lv_has ls 7 [(0, .ref (am 0)), (1, .int (iI k))] := hl
  have hs := pi_s (MW.pi hM)
  have hpe := pe_0 (MW.pe hM)
  refine lv_aload_n B.1 B.2.1 dX12_isCopied_0 rfl (lv_at hl 0 rfl) ?_
  refine lv_iload_n B.1 B.2.1 dX12_isCopied_1 rfl (lv_at hl 1 rfl) ?_
  refine y_cV B h kX12 50 (MW.f hM 0 _ rfl) k_X12_followed rfl (c_X12_followed l D Zk ca T E am _ hM k  (by omega)) m_1820 rfl (by decide) hl.1 [] (Nat.le_of_ble_eq_true rfl) rfl dX12_isCopied_2 (fun r w1 hq H locs h => ?_)
  obtain ⟨rfl, z1, rfl, hz1⟩ := hq
  show W p l e r_c_X12_isCopied s m args below meth c _ _ 0 0 Qf (F0 m 5 ls [.int (iI z1)])
  refine lv_istore_n (lv' := [(2, .int (iI z1)), (0, .ref (am 0)), (1, .int (iI k))]) B.1 B.2.1 dX12_isCopied_5 rfl hl (by decide) rfl (fun ls hl => ?_)
  refine lv_iload_n B.1 B.2.1 dX12_isCopied_6 rfl (lv_at hl 0 rfl) ?_
  refine x_if_lt B (by omega) (tgt := 25) dX12_isCopied_7 (by decide) (fun c2 => ?_) (fun c2 => ?_)
  · refine x_iconst B dX12_isCopied_25 ?_
    refine y_rz B hQ h (by decide) (by decide) dX12_isCopied_26 ?_
    exact ⟨rfl, _, rfl, Or.inr ⟨rfl, (by first | omega | trivial | assumption)⟩⟩
  · refine lv_aload_n B.1 B.2.1 dX12_isCopied_10 rfl (lv_at hl 1 rfl) ?_
    refine y_getR B h kX12 50 (MW.f hM 0 _ rfl) 18 (b := am 13) rfl m_1279 (by decide) dX12_isCopied_11 ?_
    refine lv_iload_n B.1 B.2.1 dX12_isCopied_14 rfl (lv_at hl 0 rfl) ?_
    refine y_ialdX B h 63 (MW.f hM 13 _ rfl) (by omega) dX12_isCopied_15 ?_
    refine x_iset (z := (T 8 z1)) (by show iI (T 8 (((z1 : Int).toNat : Nat) : Int)) = _; rw [show ((((z1 : Int).toNat : Nat) : Int)) = z1 by omega]) ?_
    have tb3 := pi_8 (MW.pi hM) z1
    have tb4 := pi_n (MW.pi hM) z1
    refine lv_aload_n B.1 B.2.1 dX12_isCopied_16 rfl (lv_at hl 1 rfl) ?_
    refine y_getR B h kX12 50 (MW.f hM 0 _ rfl) 18 (b := am 13) rfl m_1279 (by decide) dX12_isCopied_17 ?_
    refine lv_iload_n B.1 B.2.1 dX12_isCopied_20 rfl (lv_at hl 2 rfl) ?_
    refine y_ialdX B h 63 (MW.f hM 13 _ rfl) (by omega) dX12_isCopied_21 ?_
    refine x_iset (z := (T 8 k)) (by show iI (T 8 (((k : Int).toNat : Nat) : Int)) = _; rw [show ((((k : Int).toNat : Nat) : Int)) = k by omega]) ?_
    have tb5 := pi_8 (MW.pi hM) k
    have tb6 := pi_n (MW.pi hM) k
    refine x_icmp_eq B (by omega) (tgt := 27) dX12_isCopied_22 (by decide) (fun c7 => ?_) (fun c7 => ?_)
    · refine x_iconst B dX12_isCopied_27 ?_
      refine lv_istore_n (lv' := [(3, .int (iI 0)), (2, .int (iI z1)), (0, .ref (am 0)), (1, .int (iI k))]) B.1 B.2.1 dX12_isCopied_28 rfl hl (by decide) rfl (fun ls hl => ?_)
      refine x_iconst B dX12_isCopied_29 ?_
      refine lv_istore (lv' := [(4, .int (iI 0)), (3, .int (iI 0)), (2, .int (iI z1)), (0, .ref (am 0)), (1, .int (iI k))]) B.1 B.2.1 dX12_isCopied_30 hl (by decide) rfl (fun ls hl => ?_)
      have loop32 : ∀ (n32 : Nat) (is : Int) (s_ : Int), (is = 0 ∨ is = 1) → (0 ≤ s_ ∧ s_ ≤ 12) → ((12 - s_ : Int)).toNat < n32 → ∀ (H : Heap) (locs : List Loc) (ls : Array Slot), yH D Zk A s w H locs → lv_has ls 7 [(4, .int (iI s_)), (3, .int (iI is)), (2, .int (iI z1)), (0, .ref (am 0)), (1, .int (iI k))] → W p l e r_c_X12_isCopied s m args below meth c H locs 0 0 Qf (F0 m 32 ls []) := by
        intro n32
        induction n32 with
        | zero =>
          intro is s_ h0 h1 hm32 H locs ls h hl
          exact absurd hm32 (Nat.not_lt_zero _)
        | succ n32 ih32 =>
          intro is s_ h0 h1 hm32 H locs ls h hl
          refine lv_iload B.1 B.2.1 dX12_isCopied_32 (lv_at hl 0 rfl) ?_
          refine lv_aload_n B.1 B.2.1 dX12_isCopied_34 rfl (lv_at hl 3 rfl) ?_
          refine y_getX B h kX12 50 (MW.f hM 0 _ rfl) 2 (z := (T 0 1)) rfl m_1263 (by decide) dX12_isCopied_35 ?_
          refine x_icmp_ge B (by omega) (tgt := 158) dX12_isCopied_38 (by decide) (fun c8 => ?_) (fun c8 => ?_)
          · refine lv_iload_n B.1 B.2.1 dX12_isCopied_158 rfl (lv_at hl 1 rfl) ?_
            refine y_rz B hQ h (by decide) (nz01 (by omega)) dX12_isCopied_159 ?_
            rcases (show is = 1 ∨ is = 0 by omega) with e9 | e9
            · exact ⟨rfl, _, rfl, Or.inl ⟨e9, (by first | omega | trivial | assumption)⟩⟩
            · exact ⟨rfl, _, rfl, Or.inr ⟨e9, (by first | omega | trivial | assumption)⟩⟩
          · refine lv_aload_n B.1 B.2.1 dX12_isCopied_41 rfl (lv_at hl 3 rfl) ?_
            refine lv_iload B.1 B.2.1 dX12_isCopied_42 (lv_at hl 0 rfl) ?_
            refine lv_aload_n B.1 B.2.1 dX12_isCopied_44 rfl (lv_at hl 3 rfl) ?_
            refine y_getR B h kX12 50 (MW.f hM 0 _ rfl) 15 (b := am 10) rfl m_1276 (by decide) dX12_isCopied_45 ?_
            refine lv_iload_n B.1 B.2.1 dX12_isCopied_48 rfl (lv_at hl 2 rfl) ?_
            refine y_ialdX B h 60 (MW.f hM 10 _ rfl) (by omega) dX12_isCopied_49 ?_
            refine x_iset (z := (T 5 z1)) (by show iI (T 5 (((z1 : Int).toNat : Nat) : Int)) = _; rw [show ((((z1 : Int).toNat : Nat) : Int)) = z1 by omega]) ?_
            have tb9 := pi_5 (MW.pi hM) z1
            refine y_cV B h kX12 50 (MW.f hM 0 _ rfl) k_X12_readingOf rfl (c_X12_readingOf l D Zk ca T E am _ hM s_ ((T 5 z1))  (by omega) (by omega)) m_1542 rfl (by decide) hl.1 [] (Nat.le_of_ble_eq_true rfl) rfl dX12_isCopied_50 (fun r w1 hq H locs h => ?_)
            obtain ⟨rfl, z10, rfl, hz10⟩ := hq
            show W p l e r_c_X12_isCopied s m args below meth c _ _ 0 0 Qf (F0 m 53 ls [.int (iI z10)])
            refine lv_istore (lv' := [(5, .int (iI z10)), (4, .int (iI s_)), (3, .int (iI is)), (2, .int (iI z1)), (0, .ref (am 0)), (1, .int (iI k))]) B.1 B.2.1 dX12_isCopied_53 hl (by decide) rfl (fun ls hl => ?_)
            refine lv_aload_n B.1 B.2.1 dX12_isCopied_55 rfl (lv_at hl 4 rfl) ?_
            refine lv_iload B.1 B.2.1 dX12_isCopied_56 (lv_at hl 1 rfl) ?_
            refine lv_aload_n B.1 B.2.1 dX12_isCopied_58 rfl (lv_at hl 4 rfl) ?_
            refine y_getR B h kX12 50 (MW.f hM 0 _ rfl) 15 (b := am 10) rfl m_1276 (by decide) dX12_isCopied_59 ?_
            refine lv_iload_n B.1 B.2.1 dX12_isCopied_62 rfl (lv_at hl 5 rfl) ?_
            refine y_ialdX B h 60 (MW.f hM 10 _ rfl) (by omega) dX12_isCopied_63 ?_
            refine x_iset (z := (T 5 k)) (by show iI (T 5 (((k : Int).toNat : Nat) : Int)) = _; rw [show ((((k : Int).toNat : Nat) : Int)) = k by omega]) ?_
            have tb11 := pi_5 (MW.pi hM) k
            refine y_cV B h kX12 50 (MW.f hM 0 _ rfl) k_X12_readingOf rfl (c_X12_readingOf l D Zk ca T E am _ hM s_ ((T 5 k))  (by omega) (by omega)) m_1542 rfl (by decide) hl.1 [] (Nat.le_of_ble_eq_true rfl) rfl dX12_isCopied_64 (fun r w1 hq H locs h => ?_)
            obtain ⟨rfl, z12, rfl, hz12⟩ := hq
            show W p l e r_c_X12_isCopied s m args below meth c _ _ 0 0 Qf (F0 m 67 ls [.int (iI z12)])
            refine lv_istore (lv' := [(6, .int (iI z12)), (5, .int (iI z10)), (4, .int (iI s_)), (3, .int (iI is)), (2, .int (iI z1)), (0, .ref (am 0)), (1, .int (iI k))]) B.1 B.2.1 dX12_isCopied_67 hl (by decide) rfl (fun ls hl => ?_)
            refine lv_iload B.1 B.2.1 dX12_isCopied_69 (lv_at hl 1 rfl) ?_
            refine x_if_lt B (by omega) (tgt := 152) dX12_isCopied_71 (by decide) (fun c13 => ?_) (fun c13 => ?_)
            · refine lv_iinc (v := iI (s_ + 1)) (lv' := [(4, .int (iI (s_ + 1))), (6, .int (iI z12)), (5, .int (iI z10)), (3, .int (iI is)), (2, .int (iI z1)), (0, .ref (am 0)), (1, .int (iI k))]) B.1 B.2.1 dX12_isCopied_152 hl (k := 2) rfl (iI_add _ _) (by decide) rfl (fun ls hl => ?_)
              refine lv_goto (tgt := 32) B.1 B.2.1 dX12_isCopied_155 (by decide) ?_
              exact ih32 is ((s_ + 1)) (by omega) (by omega) (by omega) _ _ _ h (lv_sub hl [0, 3, 4, 5, 6] rfl)
            · refine lv_iload B.1 B.2.1 dX12_isCopied_74 (lv_at hl 0 rfl) ?_
              refine x_if_lt B (by omega) (tgt := 152) dX12_isCopied_76 (by decide) (fun c14 => ?_) (fun c14 => ?_)
              · refine lv_iinc (v := iI (s_ + 1)) (lv' := [(4, .int (iI (s_ + 1))), (6, .int (iI z12)), (5, .int (iI z10)), (3, .int (iI is)), (2, .int (iI z1)), (0, .ref (am 0)), (1, .int (iI k))]) B.1 B.2.1 dX12_isCopied_152 hl (k := 2) rfl (iI_add _ _) (by decide) rfl (fun ls hl => ?_)
                refine lv_goto (tgt := 32) B.1 B.2.1 dX12_isCopied_155 (by decide) ?_
                exact ih32 is ((s_ + 1)) (by omega) (by omega) (by omega) _ _ _ h (lv_sub hl [0, 3, 4, 5, 6] rfl)
              · refine lv_aload_n B.1 B.2.1 dX12_isCopied_79 rfl (lv_at hl 5 rfl) ?_
                refine lv_iload B.1 B.2.1 dX12_isCopied_80 (lv_at hl 1 rfl) ?_
                refine y_cV B h kX12 50 (MW.f hM 0 _ rfl) k_X12_isMan rfl (c_X12_isMan l D Zk ca T E am _ hM z10  (by omega)) m_1728 rfl (by decide) hl.1 [] (Nat.le_of_ble_eq_true rfl) rfl dX12_isCopied_82 (fun r w1 hq H locs h => ?_)
                obtain ⟨rfl, _, rfl, ⟨rfl, b15⟩ | ⟨rfl, b15⟩⟩ := hq
                · show W p l e r_c_X12_isCopied s m args below meth c _ _ 0 0 Qf (F0 m 85 ls [.int (iI 1)])
                  refine x_if_eq B (by omega) (tgt := 152) dX12_isCopied_85 (by decide) (fun c16 => ?_) (fun c16 => ?_)
                  · exact absurd c16 (by omega)
                  · refine lv_aload_n B.1 B.2.1 dX12_isCopied_88 rfl (lv_at hl 5 rfl) ?_
                    refine lv_iload B.1 B.2.1 dX12_isCopied_89 (lv_at hl 0 rfl) ?_
                    refine y_cV B h kX12 50 (MW.f hM 0 _ rfl) k_X12_isMan rfl (c_X12_isMan l D Zk ca T E am _ hM z12  (by omega)) m_1728 rfl (by decide) hl.1 [] (Nat.le_of_ble_eq_true rfl) rfl dX12_isCopied_91 (fun r w1 hq H locs h => ?_)
                    obtain ⟨rfl, _, rfl, ⟨rfl, b17⟩ | ⟨rfl, b17⟩⟩ := hq
                    · show W p l e r_c_X12_isCopied s m args below meth c _ _ 0 0 Qf (F0 m 94 ls [.int (iI 1)])
                      refine x_if_eq B (by omega) (tgt := 152) dX12_isCopied_94 (by decide) (fun c18 => ?_) (fun c18 => ?_)
                      · exact absurd c18 (by omega)
                      · refine lv_aload_n B.1 B.2.1 dX12_isCopied_97 rfl (lv_at hl 5 rfl) ?_
                        refine lv_iload B.1 B.2.1 dX12_isCopied_98 (lv_at hl 1 rfl) ?_
                        refine lv_iload_n B.1 B.2.1 dX12_isCopied_100 rfl (lv_at hl 4 rfl) ?_
                        refine y_cV B h kX12 50 (MW.f hM 0 _ rfl) k_X12_areInSight rfl (c_X12_areInSight l D Zk ca T E am _ hM z10 z1  (by omega) (by omega)) m_1740 rfl (by decide) hl.1 [] (Nat.le_of_ble_eq_true rfl) rfl dX12_isCopied_101 (fun r w1 hq H locs h => ?_)
                        obtain ⟨rfl, _, rfl, ⟨rfl, b19⟩ | ⟨rfl, b19⟩⟩ := hq
                        · show W p l e r_c_X12_isCopied s m args below meth c _ _ 0 0 Qf (F0 m 104 ls [.int (iI 1)])
                          refine x_if_eq B (by omega) (tgt := 152) dX12_isCopied_104 (by decide) (fun c20 => ?_) (fun c20 => ?_)
                          · exact absurd c20 (by omega)
                          · refine lv_aload_n B.1 B.2.1 dX12_isCopied_107 rfl (lv_at hl 5 rfl) ?_
                            refine lv_iload B.1 B.2.1 dX12_isCopied_108 (lv_at hl 0 rfl) ?_
                            refine lv_iload_n B.1 B.2.1 dX12_isCopied_110 rfl (lv_at hl 6 rfl) ?_
                            refine y_cV B h kX12 50 (MW.f hM 0 _ rfl) k_X12_areInSight rfl (c_X12_areInSight l D Zk ca T E am _ hM z12 k  (by omega) (by omega)) m_1740 rfl (by decide) hl.1 [] (Nat.le_of_ble_eq_true rfl) rfl dX12_isCopied_111 (fun r w1 hq H locs h => ?_)
                            obtain ⟨rfl, _, rfl, ⟨rfl, b21⟩ | ⟨rfl, b21⟩⟩ := hq
                            · show W p l e r_c_X12_isCopied s m args below meth c _ _ 0 0 Qf (F0 m 114 ls [.int (iI 1)])
                              refine x_if_ne B (by omega) (tgt := 120) dX12_isCopied_114 (by decide) (fun c22 => ?_) (fun c22 => ?_)
                              · refine lv_iload_n B.1 B.2.1 dX12_isCopied_120 rfl (lv_at hl 3 rfl) ?_
                                refine x_if_ne B (by omega) (tgt := 146) dX12_isCopied_121 (by decide) (fun c23 => ?_) (fun c23 => ?_)
                                · refine x_iconst B dX12_isCopied_146 ?_
                                  refine lv_goto (tgt := 151) B.1 B.2.1 dX12_isCopied_147 (by decide) ?_
                                  refine lv_istore_n (lv' := [(3, .int (iI 1)), (6, .int (iI z12)), (5, .int (iI z10)), (4, .int (iI s_)), (2, .int (iI z1)), (0, .ref (am 0)), (1, .int (iI k))]) B.1 B.2.1 dX12_isCopied_151 rfl hl (by decide) rfl (fun ls hl => ?_)
                                  refine lv_iinc (v := iI (s_ + 1)) (lv' := [(4, .int (iI (s_ + 1))), (3, .int (iI 1)), (6, .int (iI z12)), (5, .int (iI z10)), (2, .int (iI z1)), (0, .ref (am 0)), (1, .int (iI k))]) B.1 B.2.1 dX12_isCopied_152 hl (k := 3) rfl (iI_add _ _) (by decide) rfl (fun ls hl => ?_)
                                  refine lv_goto (tgt := 32) B.1 B.2.1 dX12_isCopied_155 (by decide) ?_
                                  exact ih32 1 ((s_ + 1)) (by omega) (by omega) (by omega) _ _ _ h (lv_sub hl [0, 1, 4, 5, 6] rfl)
                                · refine lv_aload_n B.1 B.2.1 dX12_isCopied_124 rfl (lv_at hl 5 rfl) ?_
                                  refine y_getR B h kX12 50 (MW.f hM 0 _ rfl) 18 (b := am 13) rfl m_1279 (by decide) dX12_isCopied_125 ?_
                                  refine lv_iload B.1 B.2.1 dX12_isCopied_128 (lv_at hl 1 rfl) ?_
                                  refine y_ialdX B h 63 (MW.f hM 13 _ rfl) (by omega) dX12_isCopied_130 ?_
                                  refine x_iset (z := (T 8 z10)) (by show iI (T 8 (((z10 : Int).toNat : Nat) : Int)) = _; rw [show ((((z10 : Int).toNat : Nat) : Int)) = z10 by omega]) ?_
                                  have tb24 := pi_8 (MW.pi hM) z10
                                  have tb25 := pi_n (MW.pi hM) z10
                                  refine lv_aload_n B.1 B.2.1 dX12_isCopied_131 rfl (lv_at hl 5 rfl) ?_
                                  refine y_getR B h kX12 50 (MW.f hM 0 _ rfl) 18 (b := am 13) rfl m_1279 (by decide) dX12_isCopied_132 ?_
                                  refine lv_iload B.1 B.2.1 dX12_isCopied_135 (lv_at hl 0 rfl) ?_
                                  refine y_ialdX B h 63 (MW.f hM 13 _ rfl) (by omega) dX12_isCopied_137 ?_
                                  refine x_iset (z := (T 8 z12)) (by show iI (T 8 (((z12 : Int).toNat : Nat) : Int)) = _; rw [show ((((z12 : Int).toNat : Nat) : Int)) = z12 by omega]) ?_
                                  have tb26 := pi_8 (MW.pi hM) z12
                                  have tb27 := pi_n (MW.pi hM) z12
                                  refine x_isub B dX12_isCopied_138 ?_
                                  refine y_cS B h k_X12_abs (c_X12_abs l D Zk ca _ (((T 8 z10) - (T 8 z12)))  (by omega)) m_1747 rfl (by decide) hl.1 [] (Nat.le_of_ble_eq_true rfl) rfl dX12_isCopied_139 (fun r w1 hq H locs h => ?_)
                                  obtain ⟨rfl, z28, rfl, hz28⟩ := hq
                                  show W p l e r_c_X12_isCopied s m args below meth c _ _ 0 0 Qf (F0 m 142 ls [.int (iI z28)])
                                  refine x_iconst B dX12_isCopied_142 ?_
                                  refine x_icmp_lt B (by omega) (tgt := 150) dX12_isCopied_143 (by decide) (fun c29 => ?_) (fun c29 => ?_)
                                  · refine x_iconst B dX12_isCopied_150 ?_
                                    refine lv_istore_n (lv' := [(3, .int (iI 0)), (6, .int (iI z12)), (5, .int (iI z10)), (4, .int (iI s_)), (2, .int (iI z1)), (0, .ref (am 0)), (1, .int (iI k))]) B.1 B.2.1 dX12_isCopied_151 rfl hl (by decide) rfl (fun ls hl => ?_)
                                    refine lv_iinc (v := iI (s_ + 1)) (lv' := [(4, .int (iI (s_ + 1))), (3, .int (iI 0)), (6, .int (iI z12)), (5, .int (iI z10)), (2, .int (iI z1)), (0, .ref (am 0)), (1, .int (iI k))]) B.1 B.2.1 dX12_isCopied_152 hl (k := 3) rfl (iI_add _ _) (by decide) rfl (fun ls hl => ?_)
                                    refine lv_goto (tgt := 32) B.1 B.2.1 dX12_isCopied_155 (by decide) ?_
                                    exact ih32 0 ((s_ + 1)) (by omega) (by omega) (by omega) _ _ _ h (lv_sub hl [0, 1, 4, 5, 6] rfl)
                                  · refine x_iconst B dX12_isCopied_146 ?_
                                    refine lv_goto (tgt := 151) B.1 B.2.1 dX12_isCopied_147 (by decide) ?_
                                    refine lv_istore_n (lv' := [(3, .int (iI 1)), (6, .int (iI z12)), (5, .int (iI z10)), (4, .int (iI s_)), (2, .int (iI z1)), (0, .ref (am 0)), (1, .int (iI k))]) B.1 B.2.1 dX12_isCopied_151 rfl hl (by decide) rfl (fun ls hl => ?_)
                                    refine lv_iinc (v := iI (s_ + 1)) (lv' := [(4, .int (iI (s_ + 1))), (3, .int (iI 1)), (6, .int (iI z12)), (5, .int (iI z10)), (2, .int (iI z1)), (0, .ref (am 0)), (1, .int (iI k))]) B.1 B.2.1 dX12_isCopied_152 hl (k := 3) rfl (iI_add _ _) (by decide) rfl (fun ls hl => ?_)
                                    refine lv_goto (tgt := 32) B.1 B.2.1 dX12_isCopied_155 (by decide) ?_
                                    exact ih32 1 ((s_ + 1)) (by omega) (by omega) (by omega) _ _ _ h (lv_sub hl [0, 1, 4, 5, 6] rfl)
                              · exact absurd c22 (by omega)
                            · show W p l e r_c_X12_isCopied s m args below meth c _ _ 0 0 Qf (F0 m 114 ls [.int (iI 0)])
                              refine x_if_ne B (by omega) (tgt := 120) dX12_isCopied_114 (by decide) (fun c30 => ?_) (fun c30 => ?_)
                              · exact absurd c30 (by omega)
                              · refine lv_goto (tgt := 152) B.1 B.2.1 dX12_isCopied_117 (by decide) ?_
                                refine lv_iinc (v := iI (s_ + 1)) (lv' := [(4, .int (iI (s_ + 1))), (6, .int (iI z12)), (5, .int (iI z10)), (3, .int (iI is)), (2, .int (iI z1)), (0, .ref (am 0)), (1, .int (iI k))]) B.1 B.2.1 dX12_isCopied_152 hl (k := 2) rfl (iI_add _ _) (by decide) rfl (fun ls hl => ?_)
                                refine lv_goto (tgt := 32) B.1 B.2.1 dX12_isCopied_155 (by decide) ?_
                                exact ih32 is ((s_ + 1)) (by omega) (by omega) (by omega) _ _ _ h (lv_sub hl [0, 3, 4, 5, 6] rfl)
                        · show W p l e r_c_X12_isCopied s m args below meth c _ _ 0 0 Qf (F0 m 104 ls [.int (iI 0)])
                          refine x_if_eq B (by omega) (tgt := 152) dX12_isCopied_104 (by decide) (fun c31 => ?_) (fun c31 => ?_)
                          · refine lv_iinc (v := iI (s_ + 1)) (lv' := [(4, .int (iI (s_ + 1))), (6, .int (iI z12)), (5, .int (iI z10)), (3, .int (iI is)), (2, .int (iI z1)), (0, .ref (am 0)), (1, .int (iI k))]) B.1 B.2.1 dX12_isCopied_152 hl (k := 2) rfl (iI_add _ _) (by decide) rfl (fun ls hl => ?_)
                            refine lv_goto (tgt := 32) B.1 B.2.1 dX12_isCopied_155 (by decide) ?_
                            exact ih32 is ((s_ + 1)) (by omega) (by omega) (by omega) _ _ _ h (lv_sub hl [0, 3, 4, 5, 6] rfl)
                          · exact absurd c31 (by omega)
                    · show W p l e r_c_X12_isCopied s m args below meth c _ _ 0 0 Qf (F0 m 94 ls [.int (iI 0)])
                      refine x_if_eq B (by omega) (tgt := 152) dX12_isCopied_94 (by decide) (fun c32 => ?_) (fun c32 => ?_)
                      · refine lv_iinc (v := iI (s_ + 1)) (lv' := [(4, .int (iI (s_ + 1))), (6, .int (iI z12)), (5, .int (iI z10)), (3, .int (iI is)), (2, .int (iI z1)), (0, .ref (am 0)), (1, .int (iI k))]) B.1 B.2.1 dX12_isCopied_152 hl (k := 2) rfl (iI_add _ _) (by decide) rfl (fun ls hl => ?_)
                        refine lv_goto (tgt := 32) B.1 B.2.1 dX12_isCopied_155 (by decide) ?_
                        exact ih32 is ((s_ + 1)) (by omega) (by omega) (by omega) _ _ _ h (lv_sub hl [0, 3, 4, 5, 6] rfl)
                      · exact absurd c32 (by omega)
                · show W p l e r_c_X12_isCopied s m args below meth c _ _ 0 0 Qf (F0 m 85 ls [.int (iI 0)])
                  refine x_if_eq B (by omega) (tgt := 152) dX12_isCopied_85 (by decide) (fun c33 => ?_) (fun c33 => ?_)
                  · refine lv_iinc (v := iI (s_ + 1)) (lv' := [(4, .int (iI (s_ + 1))), (6, .int (iI z12)), (5, .int (iI z10)), (3, .int (iI is)), (2, .int (iI z1)), (0, .ref (am 0)), (1, .int (iI k))]) B.1 B.2.1 dX12_isCopied_152 hl (k := 2) rfl (iI_add _ _) (by decide) rfl (fun ls hl => ?_)
                    refine lv_goto (tgt := 32) B.1 B.2.1 dX12_isCopied_155 (by decide) ?_
                    exact ih32 is ((s_ + 1)) (by omega) (by omega) (by omega) _ _ _ h (lv_sub hl [0, 3, 4, 5, 6] rfl)
                  · exact absurd c33 (by omega)
      exact loop32 (((12 - 0 : Int)).toNat + 1) 0 0 (by omega) (by omega) (Nat.lt_succ_self _) _ _ _ h (lv_sub hl [0, 1, 2, 3, 4] rfl)
    · refine x_iconst B dX12_isCopied_25 ?_
      refine y_rz B hQ h (by decide) (by decide) dX12_isCopied_26 ?_
      exact ⟨rfl, _, rfl, Or.inr ⟨rfl, (by first | omega | trivial | assumption)⟩⟩
abbrev r_c_X12_reading : Room := { frames := 4, cells := 0, slots := 0, locals := 93 }
set_option maxHeartbeats 4000000 in
set_option maxRecDepth 100000 in
theorem c_X12_reading (l : Launch) (D : va_G) (Zk : yK) (ca : Nat → ClassId) (T : Nat → Int → Int) (E : Nat → Int → Int) (am : Nat → Nat) (w : yW) (hM : MW ca T E am w) (k : Int) (what : Int)  (hk : xr k) (hwhat : xr what) : yC l D Zk ca yX12_reading cX12_reading 3 (some .int) r_c_X12_reading [.ref (am 0), .int (iI k), .int (iI what)] w (vI w (fun z => xr z)) := by
  refine yC.of2 "WindWordsModel" (by decide) rfl (Nat.le_of_ble_eq_true rfl) ?_
  intro p e s m args below meth c A ls Qf B hnm h hl hQ
  have hl : lv_has ls 3 [(0, .ref (am 0)), (1, .int (iI k)), (2, .int (iI what))] := hl
  have hs := pi_s (MW.pi hM)
  have hpe := pe_0 (MW.pe hM)
  refine lv_iload_n B.1 B.2.1 dX12_reading_0 rfl (lv_at hl 1 rfl) ?_
  refine x_iconst B dX12_reading_1 ?_
  refine lv_aload_n B.1 B.2.1 dX12_reading_2 rfl (lv_at hl 0 rfl) ?_
  refine y_getX B h kX12 50 (MW.f hM 0 _ rfl) 4 (z := (T 0 2)) rfl m_1265 (by decide) dX12_reading_3 ?_
  refine x_iconst B dX12_reading_6 ?_
  refine x_isub B dX12_reading_7 ?_
  refine y_cS B h k_X12_within (c_X12_within l D Zk ca _ k 0 (((T 0 2) - 1))  (by omega) (by omega) (by omega)) m_1515 rfl (by decide) hl.1 [] (Nat.le_of_ble_eq_true rfl) rfl dX12_reading_8 (fun r w1 hq H locs h => ?_)
  obtain ⟨rfl, _, rfl, ⟨rfl, b1⟩ | ⟨rfl, b1⟩⟩ := hq
  · show W p l e r_c_X12_reading s m args below meth c _ _ 0 0 Qf (F0 m 11 ls [.int (iI 1)])
    refine x_if_eq B (by omega) (tgt := 24) dX12_reading_11 (by decide) (fun c2 => ?_) (fun c2 => ?_)
    · exact absurd c2 (by omega)
    · refine lv_iload_n B.1 B.2.1 dX12_reading_14 rfl (lv_at hl 2 rfl) ?_
      refine x_iconst B dX12_reading_15 ?_
      refine x_bipush B (by decide) dX12_reading_16 ?_
      refine y_cS B h k_X12_within (c_X12_within l D Zk ca _ what 0 8  (by omega) (by omega) (by omega)) m_1515 rfl (by decide) hl.1 [] (Nat.le_of_ble_eq_true rfl) rfl dX12_reading_18 (fun r w1 hq H locs h => ?_)
      obtain ⟨rfl, _, rfl, ⟨rfl, b3⟩ | ⟨rfl, b3⟩⟩ := hq
      · show W p l e r_c_X12_reading s m args below meth c _ _ 0 0 Qf (F0 m 21 ls [.int (iI 1)])
        refine x_if_ne B (by omega) (tgt := 26) dX12_reading_21 (by decide) (fun c4 => ?_) (fun c4 => ?_)
        · refine lv_iload_n B.1 B.2.1 dX12_reading_26 rfl (lv_at hl 2 rfl) ?_
          by_cases t5 : what = 0
          · refine x_tin B (tgt := 72) 0 (by omega) dX12_reading_27 rfl (by decide) ?_
            refine lv_aload_n B.1 B.2.1 dX12_reading_72 rfl (lv_at hl 0 rfl) ?_
            refine y_getR B h kX12 50 (MW.f hM 0 _ rfl) 14 (b := am 9) rfl m_1275 (by decide) dX12_reading_73 ?_
            refine lv_iload_n B.1 B.2.1 dX12_reading_76 rfl (lv_at hl 1 rfl) ?_
            refine y_ialdX B h 59 (MW.f hM 9 _ rfl) (by omega) dX12_reading_77 ?_
            refine x_iset (z := (T 4 k)) (by show iI (T 4 (((k : Int).toNat : Nat) : Int)) = _; rw [show ((((k : Int).toNat : Nat) : Int)) = k by omega]) ?_
            have tb6 := pi_4 (MW.pi hM) k
            refine y_ri B hQ h (by decide) dX12_reading_78 ?_
            exact ⟨rfl, _, rfl, (by first | omega | trivial | assumption)⟩
          by_cases t7 : what = 1
          · refine x_tin B (tgt := 79) 1 (by omega) dX12_reading_27 rfl (by decide) ?_
            refine lv_aload_n B.1 B.2.1 dX12_reading_79 rfl (lv_at hl 0 rfl) ?_
            refine y_getR B h kX12 50 (MW.f hM 0 _ rfl) 15 (b := am 10) rfl m_1276 (by decide) dX12_reading_80 ?_
            refine lv_iload_n B.1 B.2.1 dX12_reading_83 rfl (lv_at hl 1 rfl) ?_
            refine y_ialdX B h 60 (MW.f hM 10 _ rfl) (by omega) dX12_reading_84 ?_
            refine x_iset (z := (T 5 k)) (by show iI (T 5 (((k : Int).toNat : Nat) : Int)) = _; rw [show ((((k : Int).toNat : Nat) : Int)) = k by omega]) ?_
            have tb8 := pi_5 (MW.pi hM) k
            refine y_ri B hQ h (by decide) dX12_reading_85 ?_
            exact ⟨rfl, _, rfl, (by first | omega | trivial | assumption)⟩
          by_cases t9 : what = 2
          · refine x_tin B (tgt := 86) 2 (by omega) dX12_reading_27 rfl (by decide) ?_
            refine lv_aload_n B.1 B.2.1 dX12_reading_86 rfl (lv_at hl 0 rfl) ?_
            refine y_getR B h kX12 50 (MW.f hM 0 _ rfl) 16 (b := am 11) rfl m_1277 (by decide) dX12_reading_87 ?_
            refine lv_iload_n B.1 B.2.1 dX12_reading_90 rfl (lv_at hl 1 rfl) ?_
            refine y_ialdX B h 61 (MW.f hM 11 _ rfl) (by omega) dX12_reading_91 ?_
            refine x_iset (z := (T 6 k)) (by show iI (T 6 (((k : Int).toNat : Nat) : Int)) = _; rw [show ((((k : Int).toNat : Nat) : Int)) = k by omega]) ?_
            have tb10 := pi_6 (MW.pi hM) k
            refine y_ri B hQ h (by decide) dX12_reading_92 ?_
            exact ⟨rfl, _, rfl, (by first | omega | trivial | assumption)⟩
          by_cases t11 : what = 3
          · refine x_tin B (tgt := 93) 3 (by omega) dX12_reading_27 rfl (by decide) ?_
            refine lv_aload_n B.1 B.2.1 dX12_reading_93 rfl (lv_at hl 0 rfl) ?_
            refine y_getR B h kX12 50 (MW.f hM 0 _ rfl) 17 (b := am 12) rfl m_1278 (by decide) dX12_reading_94 ?_
            refine lv_iload_n B.1 B.2.1 dX12_reading_97 rfl (lv_at hl 1 rfl) ?_
            refine y_ialdX B h 62 (MW.f hM 12 _ rfl) (by omega) dX12_reading_98 ?_
            refine x_iset (z := (T 7 k)) (by show iI (T 7 (((k : Int).toNat : Nat) : Int)) = _; rw [show ((((k : Int).toNat : Nat) : Int)) = k by omega]) ?_
            have tb12 := pi_7 (MW.pi hM) k
            refine y_ri B hQ h (by decide) dX12_reading_99 ?_
            exact ⟨rfl, _, rfl, (by first | omega | trivial | assumption)⟩
          by_cases t13 : what = 4
          · refine x_tin B (tgt := 100) 4 (by omega) dX12_reading_27 rfl (by decide) ?_
            refine lv_aload_n B.1 B.2.1 dX12_reading_100 rfl (lv_at hl 0 rfl) ?_
            refine y_getR B h kX12 50 (MW.f hM 0 _ rfl) 18 (b := am 13) rfl m_1279 (by decide) dX12_reading_101 ?_
            refine lv_iload_n B.1 B.2.1 dX12_reading_104 rfl (lv_at hl 1 rfl) ?_
            refine y_ialdX B h 63 (MW.f hM 13 _ rfl) (by omega) dX12_reading_105 ?_
            refine x_iset (z := (T 8 k)) (by show iI (T 8 (((k : Int).toNat : Nat) : Int)) = _; rw [show ((((k : Int).toNat : Nat) : Int)) = k by omega]) ?_
            have tb14 := pi_8 (MW.pi hM) k
            have tb15 := pi_n (MW.pi hM) k
            refine y_ri B hQ h (by decide) dX12_reading_106 ?_
            exact ⟨rfl, _, rfl, (by first | omega | trivial | assumption)⟩
          by_cases t16 : what = 5
          · refine x_tin B (tgt := 107) 5 (by omega) dX12_reading_27 rfl (by decide) ?_
            refine lv_aload_n B.1 B.2.1 dX12_reading_107 rfl (lv_at hl 0 rfl) ?_
            refine y_getR B h kX12 50 (MW.f hM 0 _ rfl) 19 (b := am 14) rfl m_1280 (by decide) dX12_reading_108 ?_
            refine lv_iload_n B.1 B.2.1 dX12_reading_111 rfl (lv_at hl 1 rfl) ?_
            refine y_ialdX B h 64 (MW.f hM 14 _ rfl) (by omega) dX12_reading_112 ?_
            refine x_iset (z := (T 9 k)) (by show iI (T 9 (((k : Int).toNat : Nat) : Int)) = _; rw [show ((((k : Int).toNat : Nat) : Int)) = k by omega]) ?_
            have tb17 := pi_9 (MW.pi hM) k
            refine y_ri B hQ h (by decide) dX12_reading_113 ?_
            exact ⟨rfl, _, rfl, (by first | omega | trivial | assumption)⟩
          by_cases t18 : what = 6
          · refine x_tin B (tgt := 114) 6 (by omega) dX12_reading_27 rfl (by decide) ?_
            refine lv_aload_n B.1 B.2.1 dX12_reading_114 rfl (lv_at hl 0 rfl) ?_
            refine y_getR B h kX12 50 (MW.f hM 0 _ rfl) 20 (b := am 15) rfl m_1281 (by decide) dX12_reading_115 ?_
            refine lv_iload_n B.1 B.2.1 dX12_reading_118 rfl (lv_at hl 1 rfl) ?_
            refine y_ialdX B h 65 (MW.f hM 15 _ rfl) (by omega) dX12_reading_119 ?_
            refine x_iset (z := (T 10 k)) (by show iI (T 10 (((k : Int).toNat : Nat) : Int)) = _; rw [show ((((k : Int).toNat : Nat) : Int)) = k by omega]) ?_
            have tb19 := pi_10 (MW.pi hM) k
            refine y_ri B hQ h (by decide) dX12_reading_120 ?_
            exact ⟨rfl, _, rfl, (by first | omega | trivial | assumption)⟩
          by_cases t20 : what = 7
          · refine x_tin B (tgt := 121) 7 (by omega) dX12_reading_27 rfl (by decide) ?_
            refine lv_aload_n B.1 B.2.1 dX12_reading_121 rfl (lv_at hl 0 rfl) ?_
            refine lv_iload_n B.1 B.2.1 dX12_reading_122 rfl (lv_at hl 1 rfl) ?_
            refine y_cV B h kX12 50 (MW.f hM 0 _ rfl) k_X12_writer rfl (c_X12_writer l D Zk ca T E am _ hM k  (by omega)) m_1736 rfl (by decide) hl.1 [] (Nat.le_of_ble_eq_true rfl) rfl dX12_reading_123 (fun r w1 hq H locs h => ?_)
            obtain ⟨rfl, _, rfl, rfl⟩ := hq
            have tb21 := pi_3 (MW.pi hM) (1000 * T 4 k + T 5 k)
            show W p l e r_c_X12_reading s m args below meth c _ _ 0 0 Qf (F0 m 126 ls [.int (iI (T 3 (1000 * T 4 k + T 5 k)))])
            refine y_ri B hQ h (by decide) dX12_reading_126 ?_
            exact ⟨rfl, _, rfl, (by first | omega | trivial | assumption)⟩
          refine x_tout B (tgt := 127) (by omega) dX12_reading_27 (by decide) ?_
          refine lv_aload_n B.1 B.2.1 dX12_reading_127 rfl (lv_at hl 0 rfl) ?_
          refine lv_iload_n B.1 B.2.1 dX12_reading_128 rfl (lv_at hl 1 rfl) ?_
          refine y_cV B h kX12 50 (MW.f hM 0 _ rfl) k_X12_isCopied rfl (c_X12_isCopied l D Zk ca T E am _ hM k  (by omega)) m_1816 rfl (by decide) hl.1 [] (Nat.le_of_ble_eq_true rfl) rfl dX12_reading_129 (fun r w1 hq H locs h => ?_)
          obtain ⟨rfl, _, rfl, ⟨rfl, b22⟩ | ⟨rfl, b22⟩⟩ := hq
          · show W p l e r_c_X12_reading s m args below meth c _ _ 0 0 Qf (F0 m 132 ls [.int (iI 1)])
            refine x_if_eq B (by omega) (tgt := 139) dX12_reading_132 (by decide) (fun c23 => ?_) (fun c23 => ?_)
            · exact absurd c23 (by omega)
            · refine x_iconst B dX12_reading_135 ?_
              refine lv_goto (tgt := 140) B.1 B.2.1 dX12_reading_136 (by decide) ?_
              refine y_ri B hQ h (by decide) dX12_reading_140 ?_
              exact ⟨rfl, _, rfl, (by first | omega | trivial | assumption)⟩
          · show W p l e r_c_X12_reading s m args below meth c _ _ 0 0 Qf (F0 m 132 ls [.int (iI 0)])
            refine x_if_eq B (by omega) (tgt := 139) dX12_reading_132 (by decide) (fun c24 => ?_) (fun c24 => ?_)
            · refine x_iconst B dX12_reading_139 ?_
              refine y_ri B hQ h (by decide) dX12_reading_140 ?_
              exact ⟨rfl, _, rfl, (by first | omega | trivial | assumption)⟩
            · exact absurd c24 (by omega)
        · exact absurd c4 (by omega)
      · show W p l e r_c_X12_reading s m args below meth c _ _ 0 0 Qf (F0 m 21 ls [.int (iI 0)])
        refine x_if_ne B (by omega) (tgt := 26) dX12_reading_21 (by decide) (fun c25 => ?_) (fun c25 => ?_)
        · exact absurd c25 (by omega)
        · refine x_iconst B dX12_reading_24 ?_
          refine y_ri B hQ h (by decide) dX12_reading_25 ?_
          exact ⟨rfl, _, rfl, (by first | omega | trivial | assumption)⟩
  · show W p l e r_c_X12_reading s m args below meth c _ _ 0 0 Qf (F0 m 11 ls [.int (iI 0)])
    refine x_if_eq B (by omega) (tgt := 24) dX12_reading_11 (by decide) (fun c26 => ?_) (fun c26 => ?_)
    · refine x_iconst B dX12_reading_24 ?_
      refine y_ri B hQ h (by decide) dX12_reading_25 ?_
      exact ⟨rfl, _, rfl, (by first | omega | trivial | assumption)⟩
    · exact absurd c26 (by omega)
abbrev r_c_X12_copied : Room := { frames := 4, cells := 0, slots := 0, locals := 93 }
set_option maxHeartbeats 4000000 in
set_option maxRecDepth 100000 in
theorem c_X12_copied (l : Launch) (D : va_G) (Zk : yK) (ca : Nat → ClassId) (T : Nat → Int → Int) (E : Nat → Int → Int) (am : Nat → Nat) (w : yW) (hM : MW ca T E am w) (ship : Int) (what : Int)  (hship : xr ship) (hwhat : xr what) : yC l D Zk ca yX12_copied cX12_copied 6 (some .int) r_c_X12_copied [.ref (am 0), .int (iI ship), .int (iI what)] w (vI w (fun z => xr z)) := by
  refine yC.of2 "WindWordsModel" (by decide) rfl (Nat.le_of_ble_eq_true rfl) ?_
  intro p e s m args below meth c A ls Qf B hnm h hl hQ
  have hl : lv_has ls 6 [(0, .ref (am 0)), (1, .int (iI ship)), (2, .int (iI what))] := hl
  have hs := pi_s (MW.pi hM)
  have hpe := pe_0 (MW.pe hM)
  refine lv_aload_n B.1 B.2.1 dX12_copied_0 rfl (lv_at hl 0 rfl) ?_
  refine lv_iload_n B.1 B.2.1 dX12_copied_1 rfl (lv_at hl 1 rfl) ?_
  refine y_cV B h kX12 50 (MW.f hM 0 _ rfl) k_X12_isShip rfl (c_X12_isShip l D Zk ca T E am _ hM ship  (by omega)) m_1526 rfl (by decide) hl.1 [] (Nat.le_of_ble_eq_true rfl) rfl dX12_copied_2 (fun r w1 hq H locs h => ?_)
  obtain ⟨rfl, _, rfl, ⟨rfl, b1⟩ | ⟨rfl, b1⟩⟩ := hq
  · show W p l e r_c_X12_copied s m args below meth c _ _ 0 0 Qf (F0 m 5 ls [.int (iI 1)])
    refine x_if_eq B (by omega) (tgt := 17) dX12_copied_5 (by decide) (fun c2 => ?_) (fun c2 => ?_)
    · exact absurd c2 (by omega)
    · refine lv_iload_n B.1 B.2.1 dX12_copied_8 rfl (lv_at hl 2 rfl) ?_
      refine x_iconst B dX12_copied_9 ?_
      refine x_iconst B dX12_copied_10 ?_
      refine y_cS B h k_X12_within (c_X12_within l D Zk ca _ what 0 2  (by omega) (by omega) (by omega)) m_1515 rfl (by decide) hl.1 [] (Nat.le_of_ble_eq_true rfl) rfl dX12_copied_11 (fun r w1 hq H locs h => ?_)
      obtain ⟨rfl, _, rfl, ⟨rfl, b3⟩ | ⟨rfl, b3⟩⟩ := hq
      · show W p l e r_c_X12_copied s m args below meth c _ _ 0 0 Qf (F0 m 14 ls [.int (iI 1)])
        refine x_if_ne B (by omega) (tgt := 19) dX12_copied_14 (by decide) (fun c4 => ?_) (fun c4 => ?_)
        · refine x_iconst B dX12_copied_19 ?_
          refine lv_istore_n (lv' := [(3, .int (iI 0)), (0, .ref (am 0)), (1, .int (iI ship)), (2, .int (iI what))]) B.1 B.2.1 dX12_copied_20 rfl hl (by decide) rfl (fun ls hl => ?_)
          refine x_iconst B dX12_copied_21 ?_
          refine lv_istore (lv' := [(4, .int (iI 0)), (3, .int (iI 0)), (0, .ref (am 0)), (1, .int (iI ship)), (2, .int (iI what))]) B.1 B.2.1 dX12_copied_22 hl (by decide) rfl (fun ls hl => ?_)
          have loop24 : ∀ (n24 : Nat) (n : Int) (k : Int), (0 ≤ n ∧ n ≤ k) → (0 ≤ k ∧ k ≤ 300) → ((300 - k : Int)).toNat < n24 → ∀ (H : Heap) (locs : List Loc) (ls : Array Slot), yH D Zk A s w H locs → lv_has ls 6 [(4, .int (iI k)), (3, .int (iI n)), (0, .ref (am 0)), (1, .int (iI ship)), (2, .int (iI what))] → W p l e r_c_X12_copied s m args below meth c H locs 0 0 Qf (F0 m 24 ls []) := by
            intro n24
            induction n24 with
            | zero =>
              intro n k h0 h1 hm24 H locs ls h hl
              exact absurd hm24 (Nat.not_lt_zero _)
            | succ n24 ih24 =>
              intro n k h0 h1 hm24 H locs ls h hl
              refine lv_iload B.1 B.2.1 dX12_copied_24 (lv_at hl 0 rfl) ?_
              refine lv_aload_n B.1 B.2.1 dX12_copied_26 rfl (lv_at hl 2 rfl) ?_
              refine y_getX B h kX12 50 (MW.f hM 0 _ rfl) 4 (z := (T 0 2)) rfl m_1265 (by decide) dX12_copied_27 ?_
              refine x_icmp_ge B (by omega) (tgt := 118) dX12_copied_30 (by decide) (fun c5 => ?_) (fun c5 => ?_)
              · refine lv_iload_n B.1 B.2.1 dX12_copied_118 rfl (lv_at hl 1 rfl) ?_
                refine y_ri B hQ h (by decide) dX12_copied_119 ?_
                exact ⟨rfl, _, rfl, (by first | omega | trivial | assumption)⟩
              · refine lv_aload_n B.1 B.2.1 dX12_copied_33 rfl (lv_at hl 2 rfl) ?_
                refine y_getR B h kX12 50 (MW.f hM 0 _ rfl) 14 (b := am 9) rfl m_1275 (by decide) dX12_copied_34 ?_
                refine lv_iload B.1 B.2.1 dX12_copied_37 (lv_at hl 0 rfl) ?_
                refine y_ialdX B h 59 (MW.f hM 9 _ rfl) (by omega) dX12_copied_39 ?_
                refine x_iset (z := (T 4 k)) (by show iI (T 4 (((k : Int).toNat : Nat) : Int)) = _; rw [show ((((k : Int).toNat : Nat) : Int)) = k by omega]) ?_
                have tb6 := pi_4 (MW.pi hM) k
                refine lv_iload_n B.1 B.2.1 dX12_copied_40 rfl (lv_at hl 3 rfl) ?_
                refine x_icmp_ne B (by omega) (tgt := 53) dX12_copied_41 (by decide) (fun c7 => ?_) (fun c7 => ?_)
                · refine x_iconst B dX12_copied_53 ?_
                  refine lv_istore (lv' := [(5, .int (iI (-1))), (4, .int (iI k)), (3, .int (iI n)), (0, .ref (am 0)), (1, .int (iI ship)), (2, .int (iI what))]) B.1 B.2.1 dX12_copied_54 hl (by decide) rfl (fun ls hl => ?_)
                  refine lv_iload B.1 B.2.1 dX12_copied_56 (lv_at hl 0 rfl) ?_
                  refine x_if_ge B (by omega) (tgt := 64) dX12_copied_58 (by decide) (fun c8 => ?_) (fun c8 => ?_)
                  · exact absurd c8 (by omega)
                  · refine lv_goto (tgt := 112) B.1 B.2.1 dX12_copied_61 (by decide) ?_
                    refine lv_iinc (v := iI (k + 1)) (lv' := [(4, .int (iI (k + 1))), (5, .int (iI (-1))), (3, .int (iI n)), (0, .ref (am 0)), (1, .int (iI ship)), (2, .int (iI what))]) B.1 B.2.1 dX12_copied_112 hl (k := 1) rfl (iI_add _ _) (by decide) rfl (fun ls hl => ?_)
                    refine lv_goto (tgt := 24) B.1 B.2.1 dX12_copied_115 (by decide) ?_
                    exact ih24 n ((k + 1)) (by omega) (by omega) (by omega) _ _ _ h (lv_sub hl [0, 2, 3, 4, 5] rfl)
                · refine lv_aload_n B.1 B.2.1 dX12_copied_44 rfl (lv_at hl 2 rfl) ?_
                  refine lv_iload B.1 B.2.1 dX12_copied_45 (lv_at hl 0 rfl) ?_
                  refine y_cV B h kX12 50 (MW.f hM 0 _ rfl) k_X12_followed rfl (c_X12_followed l D Zk ca T E am _ hM k  (by omega)) m_1820 rfl (by decide) hl.1 [] (Nat.le_of_ble_eq_true rfl) rfl dX12_copied_47 (fun r w1 hq H locs h => ?_)
                  obtain ⟨rfl, z9, rfl, hz9⟩ := hq
                  show W p l e r_c_X12_copied s m args below meth c _ _ 0 0 Qf (F0 m 50 ls [.int (iI z9)])
                  refine lv_goto (tgt := 54) B.1 B.2.1 dX12_copied_50 (by decide) ?_
                  refine lv_istore (lv' := [(5, .int (iI z9)), (4, .int (iI k)), (3, .int (iI n)), (0, .ref (am 0)), (1, .int (iI ship)), (2, .int (iI what))]) B.1 B.2.1 dX12_copied_54 hl (by decide) rfl (fun ls hl => ?_)
                  refine lv_iload B.1 B.2.1 dX12_copied_56 (lv_at hl 0 rfl) ?_
                  refine x_if_ge B (by omega) (tgt := 64) dX12_copied_58 (by decide) (fun c10 => ?_) (fun c10 => ?_)
                  · refine lv_iload_n B.1 B.2.1 dX12_copied_64 rfl (lv_at hl 2 rfl) ?_
                    refine lv_iload_n B.1 B.2.1 dX12_copied_65 rfl (lv_at hl 5 rfl) ?_
                    refine x_if_eq B (by omega) (tgt := 105) dX12_copied_66 (by decide) (fun c11 => ?_) (fun c11 => ?_)
                    · refine x_iconst B dX12_copied_105 ?_
                      refine lv_goto (tgt := 110) B.1 B.2.1 dX12_copied_106 (by decide) ?_
                      refine x_iadd B dX12_copied_110 ?_
                      refine lv_istore_n (lv' := [(3, .int (iI (n + 1))), (5, .int (iI z9)), (4, .int (iI k)), (0, .ref (am 0)), (1, .int (iI ship)), (2, .int (iI what))]) B.1 B.2.1 dX12_copied_111 rfl hl (by decide) rfl (fun ls hl => ?_)
                      refine lv_iinc (v := iI (k + 1)) (lv' := [(4, .int (iI (k + 1))), (3, .int (iI (n + 1))), (5, .int (iI z9)), (0, .ref (am 0)), (1, .int (iI ship)), (2, .int (iI what))]) B.1 B.2.1 dX12_copied_112 hl (k := 2) rfl (iI_add _ _) (by decide) rfl (fun ls hl => ?_)
                      refine lv_goto (tgt := 24) B.1 B.2.1 dX12_copied_115 (by decide) ?_
                      exact ih24 ((n + 1)) ((k + 1)) (by omega) (by omega) (by omega) _ _ _ h (lv_sub hl [0, 1, 3, 4, 5] rfl)
                    · refine lv_iload_n B.1 B.2.1 dX12_copied_69 rfl (lv_at hl 5 rfl) ?_
                      refine x_iconst B dX12_copied_70 ?_
                      refine x_icmp_ne B (by omega) (tgt := 91) dX12_copied_71 (by decide) (fun c12 => ?_) (fun c12 => ?_)
                      · refine lv_iload_n B.1 B.2.1 dX12_copied_91 rfl (lv_at hl 5 rfl) ?_
                        refine x_iconst B dX12_copied_92 ?_
                        refine x_icmp_ne B (by omega) (tgt := 109) dX12_copied_93 (by decide) (fun c13 => ?_) (fun c13 => ?_)
                        · refine x_iconst B dX12_copied_109 ?_
                          refine x_iadd B dX12_copied_110 ?_
                          refine lv_istore_n (lv' := [(3, .int (iI (n + 0))), (5, .int (iI z9)), (4, .int (iI k)), (0, .ref (am 0)), (1, .int (iI ship)), (2, .int (iI what))]) B.1 B.2.1 dX12_copied_111 rfl hl (by decide) rfl (fun ls hl => ?_)
                          refine lv_iinc (v := iI (k + 1)) (lv' := [(4, .int (iI (k + 1))), (3, .int (iI (n + 0))), (5, .int (iI z9)), (0, .ref (am 0)), (1, .int (iI ship)), (2, .int (iI what))]) B.1 B.2.1 dX12_copied_112 hl (k := 2) rfl (iI_add _ _) (by decide) rfl (fun ls hl => ?_)
                          refine lv_goto (tgt := 24) B.1 B.2.1 dX12_copied_115 (by decide) ?_
                          exact ih24 ((n + 0)) ((k + 1)) (by omega) (by omega) (by omega) _ _ _ h (lv_sub hl [0, 1, 3, 4, 5] rfl)
                        · refine lv_aload_n B.1 B.2.1 dX12_copied_96 rfl (lv_at hl 3 rfl) ?_
                          refine lv_iload B.1 B.2.1 dX12_copied_97 (lv_at hl 1 rfl) ?_
                          refine y_cV B h kX12 50 (MW.f hM 0 _ rfl) k_X12_isCopied rfl (c_X12_isCopied l D Zk ca T E am _ hM k  (by omega)) m_1816 rfl (by decide) hl.1 [.int (iI n)] (Nat.le_of_ble_eq_true rfl) rfl dX12_copied_99 (fun r w1 hq H locs h => ?_)
                          obtain ⟨rfl, _, rfl, ⟨rfl, b14⟩ | ⟨rfl, b14⟩⟩ := hq
                          · show W p l e r_c_X12_copied s m args below meth c _ _ 0 0 Qf (F0 m 102 ls [.int (iI 1), .int (iI n)])
                            refine x_if_eq B (by omega) (tgt := 109) dX12_copied_102 (by decide) (fun c15 => ?_) (fun c15 => ?_)
                            · exact absurd c15 (by omega)
                            · refine x_iconst B dX12_copied_105 ?_
                              refine lv_goto (tgt := 110) B.1 B.2.1 dX12_copied_106 (by decide) ?_
                              refine x_iadd B dX12_copied_110 ?_
                              refine lv_istore_n (lv' := [(3, .int (iI (n + 1))), (5, .int (iI z9)), (4, .int (iI k)), (0, .ref (am 0)), (1, .int (iI ship)), (2, .int (iI what))]) B.1 B.2.1 dX12_copied_111 rfl hl (by decide) rfl (fun ls hl => ?_)
                              refine lv_iinc (v := iI (k + 1)) (lv' := [(4, .int (iI (k + 1))), (3, .int (iI (n + 1))), (5, .int (iI z9)), (0, .ref (am 0)), (1, .int (iI ship)), (2, .int (iI what))]) B.1 B.2.1 dX12_copied_112 hl (k := 2) rfl (iI_add _ _) (by decide) rfl (fun ls hl => ?_)
                              refine lv_goto (tgt := 24) B.1 B.2.1 dX12_copied_115 (by decide) ?_
                              exact ih24 ((n + 1)) ((k + 1)) (by omega) (by omega) (by omega) _ _ _ h (lv_sub hl [0, 1, 3, 4, 5] rfl)
                          · show W p l e r_c_X12_copied s m args below meth c _ _ 0 0 Qf (F0 m 102 ls [.int (iI 0), .int (iI n)])
                            refine x_if_eq B (by omega) (tgt := 109) dX12_copied_102 (by decide) (fun c16 => ?_) (fun c16 => ?_)
                            · refine x_iconst B dX12_copied_109 ?_
                              refine x_iadd B dX12_copied_110 ?_
                              refine lv_istore_n (lv' := [(3, .int (iI (n + 0))), (5, .int (iI z9)), (4, .int (iI k)), (0, .ref (am 0)), (1, .int (iI ship)), (2, .int (iI what))]) B.1 B.2.1 dX12_copied_111 rfl hl (by decide) rfl (fun ls hl => ?_)
                              refine lv_iinc (v := iI (k + 1)) (lv' := [(4, .int (iI (k + 1))), (3, .int (iI (n + 0))), (5, .int (iI z9)), (0, .ref (am 0)), (1, .int (iI ship)), (2, .int (iI what))]) B.1 B.2.1 dX12_copied_112 hl (k := 2) rfl (iI_add _ _) (by decide) rfl (fun ls hl => ?_)
                              refine lv_goto (tgt := 24) B.1 B.2.1 dX12_copied_115 (by decide) ?_
                              exact ih24 ((n + 0)) ((k + 1)) (by omega) (by omega) (by omega) _ _ _ h (lv_sub hl [0, 1, 3, 4, 5] rfl)
                            · exact absurd c16 (by omega)
                      · refine lv_aload_n B.1 B.2.1 dX12_copied_74 rfl (lv_at hl 3 rfl) ?_
                        refine y_getR B h kX12 50 (MW.f hM 0 _ rfl) 18 (b := am 13) rfl m_1279 (by decide) dX12_copied_75 ?_
                        refine lv_iload B.1 B.2.1 dX12_copied_78 (lv_at hl 0 rfl) ?_
                        refine y_ialdX B h 63 (MW.f hM 13 _ rfl) (by omega) dX12_copied_80 ?_
                        refine x_iset (z := (T 8 z9)) (by show iI (T 8 (((z9 : Int).toNat : Nat) : Int)) = _; rw [show ((((z9 : Int).toNat : Nat) : Int)) = z9 by omega]) ?_
                        have tb17 := pi_8 (MW.pi hM) z9
                        have tb18 := pi_n (MW.pi hM) z9
                        refine lv_aload_n B.1 B.2.1 dX12_copied_81 rfl (lv_at hl 3 rfl) ?_
                        refine y_getR B h kX12 50 (MW.f hM 0 _ rfl) 18 (b := am 13) rfl m_1279 (by decide) dX12_copied_82 ?_
                        refine lv_iload B.1 B.2.1 dX12_copied_85 (lv_at hl 1 rfl) ?_
                        refine y_ialdX B h 63 (MW.f hM 13 _ rfl) (by omega) dX12_copied_87 ?_
                        refine x_iset (z := (T 8 k)) (by show iI (T 8 (((k : Int).toNat : Nat) : Int)) = _; rw [show ((((k : Int).toNat : Nat) : Int)) = k by omega]) ?_
                        have tb19 := pi_8 (MW.pi hM) k
                        have tb20 := pi_n (MW.pi hM) k
                        refine x_icmp_eq B (by omega) (tgt := 105) dX12_copied_88 (by decide) (fun c21 => ?_) (fun c21 => ?_)
                        · refine x_iconst B dX12_copied_105 ?_
                          refine lv_goto (tgt := 110) B.1 B.2.1 dX12_copied_106 (by decide) ?_
                          refine x_iadd B dX12_copied_110 ?_
                          refine lv_istore_n (lv' := [(3, .int (iI (n + 1))), (5, .int (iI z9)), (4, .int (iI k)), (0, .ref (am 0)), (1, .int (iI ship)), (2, .int (iI what))]) B.1 B.2.1 dX12_copied_111 rfl hl (by decide) rfl (fun ls hl => ?_)
                          refine lv_iinc (v := iI (k + 1)) (lv' := [(4, .int (iI (k + 1))), (3, .int (iI (n + 1))), (5, .int (iI z9)), (0, .ref (am 0)), (1, .int (iI ship)), (2, .int (iI what))]) B.1 B.2.1 dX12_copied_112 hl (k := 2) rfl (iI_add _ _) (by decide) rfl (fun ls hl => ?_)
                          refine lv_goto (tgt := 24) B.1 B.2.1 dX12_copied_115 (by decide) ?_
                          exact ih24 ((n + 1)) ((k + 1)) (by omega) (by omega) (by omega) _ _ _ h (lv_sub hl [0, 1, 3, 4, 5] rfl)
                        · refine lv_iload_n B.1 B.2.1 dX12_copied_91 rfl (lv_at hl 5 rfl) ?_
                          refine x_iconst B dX12_copied_92 ?_
                          refine x_icmp_ne B (by omega) (tgt := 109) dX12_copied_93 (by decide) (fun c22 => ?_) (fun c22 => ?_)
                          · refine x_iconst B dX12_copied_109 ?_
                            refine x_iadd B dX12_copied_110 ?_
                            refine lv_istore_n (lv' := [(3, .int (iI (n + 0))), (5, .int (iI z9)), (4, .int (iI k)), (0, .ref (am 0)), (1, .int (iI ship)), (2, .int (iI what))]) B.1 B.2.1 dX12_copied_111 rfl hl (by decide) rfl (fun ls hl => ?_)
                            refine lv_iinc (v := iI (k + 1)) (lv' := [(4, .int (iI (k + 1))), (3, .int (iI (n + 0))), (5, .int (iI z9)), (0, .ref (am 0)), (1, .int (iI ship)), (2, .int (iI what))]) B.1 B.2.1 dX12_copied_112 hl (k := 2) rfl (iI_add _ _) (by decide) rfl (fun ls hl => ?_)
                            refine lv_goto (tgt := 24) B.1 B.2.1 dX12_copied_115 (by decide) ?_
                            exact ih24 ((n + 0)) ((k + 1)) (by omega) (by omega) (by omega) _ _ _ h (lv_sub hl [0, 1, 3, 4, 5] rfl)
                          · refine lv_aload_n B.1 B.2.1 dX12_copied_96 rfl (lv_at hl 3 rfl) ?_
                            refine lv_iload B.1 B.2.1 dX12_copied_97 (lv_at hl 1 rfl) ?_
                            refine y_cV B h kX12 50 (MW.f hM 0 _ rfl) k_X12_isCopied rfl (c_X12_isCopied l D Zk ca T E am _ hM k  (by omega)) m_1816 rfl (by decide) hl.1 [.int (iI n)] (Nat.le_of_ble_eq_true rfl) rfl dX12_copied_99 (fun r w1 hq H locs h => ?_)
                            obtain ⟨rfl, _, rfl, ⟨rfl, b23⟩ | ⟨rfl, b23⟩⟩ := hq
                            · show W p l e r_c_X12_copied s m args below meth c _ _ 0 0 Qf (F0 m 102 ls [.int (iI 1), .int (iI n)])
                              refine x_if_eq B (by omega) (tgt := 109) dX12_copied_102 (by decide) (fun c24 => ?_) (fun c24 => ?_)
                              · exact absurd c24 (by omega)
                              · refine x_iconst B dX12_copied_105 ?_
                                refine lv_goto (tgt := 110) B.1 B.2.1 dX12_copied_106 (by decide) ?_
                                refine x_iadd B dX12_copied_110 ?_
                                refine lv_istore_n (lv' := [(3, .int (iI (n + 1))), (5, .int (iI z9)), (4, .int (iI k)), (0, .ref (am 0)), (1, .int (iI ship)), (2, .int (iI what))]) B.1 B.2.1 dX12_copied_111 rfl hl (by decide) rfl (fun ls hl => ?_)
                                refine lv_iinc (v := iI (k + 1)) (lv' := [(4, .int (iI (k + 1))), (3, .int (iI (n + 1))), (5, .int (iI z9)), (0, .ref (am 0)), (1, .int (iI ship)), (2, .int (iI what))]) B.1 B.2.1 dX12_copied_112 hl (k := 2) rfl (iI_add _ _) (by decide) rfl (fun ls hl => ?_)
                                refine lv_goto (tgt := 24) B.1 B.2.1 dX12_copied_115 (by decide) ?_
                                exact ih24 ((n + 1)) ((k + 1)) (by omega) (by omega) (by omega) _ _ _ h (lv_sub hl [0, 1, 3, 4, 5] rfl)
                            · show W p l e r_c_X12_copied s m args below meth c _ _ 0 0 Qf (F0 m 102 ls [.int (iI 0), .int (iI n)])
                              refine x_if_eq B (by omega) (tgt := 109) dX12_copied_102 (by decide) (fun c25 => ?_) (fun c25 => ?_)
                              · refine x_iconst B dX12_copied_109 ?_
                                refine x_iadd B dX12_copied_110 ?_
                                refine lv_istore_n (lv' := [(3, .int (iI (n + 0))), (5, .int (iI z9)), (4, .int (iI k)), (0, .ref (am 0)), (1, .int (iI ship)), (2, .int (iI what))]) B.1 B.2.1 dX12_copied_111 rfl hl (by decide) rfl (fun ls hl => ?_)
                                refine lv_iinc (v := iI (k + 1)) (lv' := [(4, .int (iI (k + 1))), (3, .int (iI (n + 0))), (5, .int (iI z9)), (0, .ref (am 0)), (1, .int (iI ship)), (2, .int (iI what))]) B.1 B.2.1 dX12_copied_112 hl (k := 2) rfl (iI_add _ _) (by decide) rfl (fun ls hl => ?_)
                                refine lv_goto (tgt := 24) B.1 B.2.1 dX12_copied_115 (by decide) ?_
                                exact ih24 ((n + 0)) ((k + 1)) (by omega) (by omega) (by omega) _ _ _ h (lv_sub hl [0, 1, 3, 4, 5] rfl)
                              · exact absurd c25 (by omega)
                  · refine lv_goto (tgt := 112) B.1 B.2.1 dX12_copied_61 (by decide) ?_
                    refine lv_iinc (v := iI (k + 1)) (lv' := [(4, .int (iI (k + 1))), (5, .int (iI z9)), (3, .int (iI n)), (0, .ref (am 0)), (1, .int (iI ship)), (2, .int (iI what))]) B.1 B.2.1 dX12_copied_112 hl (k := 1) rfl (iI_add _ _) (by decide) rfl (fun ls hl => ?_)
                    refine lv_goto (tgt := 24) B.1 B.2.1 dX12_copied_115 (by decide) ?_
                    exact ih24 n ((k + 1)) (by omega) (by omega) (by omega) _ _ _ h (lv_sub hl [0, 2, 3, 4, 5] rfl)
          exact loop24 (((300 - 0 : Int)).toNat + 1) 0 0 (by omega) (by omega) (Nat.lt_succ_self _) _ _ _ h (lv_sub hl [0, 1, 2, 3, 4] rfl)
        · exact absurd c4 (by omega)
      · show W p l e r_c_X12_copied s m args below meth c _ _ 0 0 Qf (F0 m 14 ls [.int (iI 0)])
        refine x_if_ne B (by omega) (tgt := 19) dX12_copied_14 (by decide) (fun c26 => ?_) (fun c26 => ?_)
        · exact absurd c26 (by omega)
        · refine x_iconst B dX12_copied_17 ?_
          refine y_ri B hQ h (by decide) dX12_copied_18 ?_
          exact ⟨rfl, _, rfl, (by first | omega | trivial | assumption)⟩
  · show W p l e r_c_X12_copied s m args below meth c _ _ 0 0 Qf (F0 m 5 ls [.int (iI 0)])
    refine x_if_eq B (by omega) (tgt := 17) dX12_copied_5 (by decide) (fun c27 => ?_) (fun c27 => ?_)
    · refine x_iconst B dX12_copied_17 ?_
      refine y_ri B hQ h (by decide) dX12_copied_18 ?_
      exact ⟨rfl, _, rfl, (by first | omega | trivial | assumption)⟩
    · exact absurd c27 (by omega)
abbrev r_c_X12_find : Room := { frames := 4, cells := 0, slots := 0, locals := 93 }
set_option maxHeartbeats 4000000 in
set_option maxRecDepth 100000 in
theorem c_X12_find (l : Launch) (D : va_G) (Zk : yK) (ca : Nat → ClassId) (T : Nat → Int → Int) (E : Nat → Int → Int) (am : Nat → Nat) (w : yW) (hM : MW ca T E am w) (k : Int)  (hk : xr k) : yC l D Zk ca yX12_find cX12_find 4 (some .int) r_c_X12_find [.ref (am 0), .int (iI k)] w (vI w (fun z => xr z)) := by
  refine yC.of2 "WindWordsModel" (by decide) rfl (Nat.le_of_ble_eq_true rfl) ?_
  intro p e s m args below meth c A ls Qf B hnm h hl hQ
  have hl : lv_has ls 4 [(0, .ref (am 0)), (1, .int (iI k))] := hl
  have hs := pi_s (MW.pi hM)
  have hpe := pe_0 (MW.pe hM)
  refine lv_iload_n B.1 B.2.1 dX12_find_0 rfl (lv_at hl 1 rfl) ?_
  refine x_if_ge B (by omega) (tgt := 6) dX12_find_1 (by decide) (fun c1 => ?_) (fun c1 => ?_)
  · refine lv_iload_n B.1 B.2.1 dX12_find_6 rfl (lv_at hl 1 rfl) ?_
    refine lv_istore_n (lv' := [(2, .int (iI k)), (0, .ref (am 0)), (1, .int (iI k))]) B.1 B.2.1 dX12_find_7 rfl hl (by decide) rfl (fun ls hl => ?_)
    refine x_iconst B dX12_find_8 ?_
    refine lv_istore_n (lv' := [(3, .int (iI 0)), (2, .int (iI k)), (0, .ref (am 0)), (1, .int (iI k))]) B.1 B.2.1 dX12_find_9 rfl hl (by decide) rfl (fun ls hl => ?_)
    have loop10 : ∀ (n10 : Nat) (le : Int) (i : Int), (0 ≤ le) → (xr le) → (0 ≤ i ∧ i ≤ 300) → ((300 - i : Int)).toNat < n10 → ∀ (H : Heap) (locs : List Loc) (ls : Array Slot), yH D Zk A s w H locs → lv_has ls 4 [(3, .int (iI i)), (2, .int (iI le)), (0, .ref (am 0))] → W p l e r_c_X12_find s m args below meth c H locs 0 0 Qf (F0 m 10 ls []) := by
      intro n10
      induction n10 with
      | zero =>
        intro le i h0 h3 h1 hm10 H locs ls h hl
        exact absurd hm10 (Nat.not_lt_zero _)
      | succ n10 ih10 =>
        intro le i h0 h3 h1 hm10 H locs ls h hl
        refine lv_iload_n B.1 B.2.1 dX12_find_10 rfl (lv_at hl 0 rfl) ?_
        refine lv_aload_n B.1 B.2.1 dX12_find_11 rfl (lv_at hl 2 rfl) ?_
        refine y_getX B h kX12 50 (MW.f hM 0 _ rfl) 4 (z := (T 0 2)) rfl m_1265 (by decide) dX12_find_12 ?_
        refine x_icmp_ge B (by omega) (tgt := 44) dX12_find_15 (by decide) (fun c2 => ?_) (fun c2 => ?_)
        · refine x_iconst B dX12_find_44 ?_
          refine y_ri B hQ h (by decide) dX12_find_45 ?_
          exact ⟨rfl, _, rfl, (by first | omega | trivial | assumption)⟩
        · refine lv_aload_n B.1 B.2.1 dX12_find_18 rfl (lv_at hl 2 rfl) ?_
          refine lv_iload_n B.1 B.2.1 dX12_find_19 rfl (lv_at hl 0 rfl) ?_
          refine y_cV B h kX12 50 (MW.f hM 0 _ rfl) k_X12_isCopied rfl (c_X12_isCopied l D Zk ca T E am _ hM i  (by omega)) m_1816 rfl (by decide) hl.1 [] (Nat.le_of_ble_eq_true rfl) rfl dX12_find_20 (fun r w1 hq H locs h => ?_)
          obtain ⟨rfl, _, rfl, ⟨rfl, b3⟩ | ⟨rfl, b3⟩⟩ := hq
          · show W p l e r_c_X12_find s m args below meth c _ _ 0 0 Qf (F0 m 23 ls [.int (iI 1)])
            refine x_if_ne B (by omega) (tgt := 29) dX12_find_23 (by decide) (fun c4 => ?_) (fun c4 => ?_)
            · refine lv_iload_n B.1 B.2.1 dX12_find_29 rfl (lv_at hl 1 rfl) ?_
              refine x_if_ne B (by omega) (tgt := 35) dX12_find_30 (by decide) (fun c5 => ?_) (fun c5 => ?_)
              · refine lv_iinc (v := iI (le + (-1))) (lv' := [(2, .int (iI (le + (-1)))), (3, .int (iI i)), (0, .ref (am 0))]) B.1 B.2.1 dX12_find_35 hl (k := 1) rfl (iI_add _ _) (by decide) rfl (fun ls hl => ?_)
                refine lv_iinc (v := iI (i + 1)) (lv' := [(3, .int (iI (i + 1))), (2, .int (iI (le + (-1)))), (0, .ref (am 0))]) B.1 B.2.1 dX12_find_38 hl (k := 1) rfl (iI_add _ _) (by decide) rfl (fun ls hl => ?_)
                refine lv_goto (tgt := 10) B.1 B.2.1 dX12_find_41 (by decide) ?_
                exact ih10 ((le + (-1))) ((i + 1)) (by omega) (by omega) (by omega) (by omega) _ _ _ h (lv_sub hl [0, 1, 2] rfl)
              · refine lv_iload_n B.1 B.2.1 dX12_find_33 rfl (lv_at hl 0 rfl) ?_
                refine y_ri B hQ h (by decide) dX12_find_34 ?_
                exact ⟨rfl, _, rfl, (by first | omega | trivial | assumption)⟩
            · exact absurd c4 (by omega)
          · show W p l e r_c_X12_find s m args below meth c _ _ 0 0 Qf (F0 m 23 ls [.int (iI 0)])
            refine x_if_ne B (by omega) (tgt := 29) dX12_find_23 (by decide) (fun c6 => ?_) (fun c6 => ?_)
            · exact absurd c6 (by omega)
            · refine lv_goto (tgt := 38) B.1 B.2.1 dX12_find_26 (by decide) ?_
              refine lv_iinc (v := iI (i + 1)) (lv' := [(3, .int (iI (i + 1))), (2, .int (iI le)), (0, .ref (am 0))]) B.1 B.2.1 dX12_find_38 hl (k := 0) rfl (iI_add _ _) (by decide) rfl (fun ls hl => ?_)
              refine lv_goto (tgt := 10) B.1 B.2.1 dX12_find_41 (by decide) ?_
              exact ih10 le ((i + 1)) (by omega) (by omega) (by omega) (by omega) _ _ _ h (lv_sub hl [0, 1, 2] rfl)
    exact loop10 (((300 - 0 : Int)).toNat + 1) k 0 (by omega) (by omega) (by omega) (Nat.lt_succ_self _) _ _ _ h (lv_sub hl [0, 1, 2] rfl)
  · refine x_iconst B dX12_find_4 ?_
    refine y_ri B hQ h (by decide) dX12_find_5 ?_
    exact ⟨rfl, _, rfl, (by first | omega | trivial | assumption)⟩
abbrev r_c_X12_beside : Room := { frames := 3, cells := 0, slots := 0, locals := 65 }
set_option maxHeartbeats 4000000 in
set_option maxRecDepth 100000 in
theorem c_X12_beside (l : Launch) (D : va_G) (Zk : yK) (ca : Nat → ClassId) (T : Nat → Int → Int) (E : Nat → Int → Int) (am : Nat → Nat) (w : yW) (hM : MW ca T E am w) (k : Int)  (hk : 0 ≤ k ∧ k < T 0 2) : yC l D Zk ca yX12_beside cX12_beside 3 (some .int) r_c_X12_beside [.ref (am 0), .int (iI k)] w (vI w (fun z => z = -1 ∨ (0 ≤ z ∧ z < T 0 2))) := by
  refine yC.of2 "WindWordsModel" (by decide) rfl (Nat.le_of_ble_eq_true rfl) ?_
  intro p e s m args below meth c A ls Qf B hnm h hl hQ
  have hl : lv_has ls 3 [(0, .ref (am 0)), (1, .int (iI k))] := hl
  have hs := pi_s (MW.pi hM)
  have hpe := pe_0 (MW.pe hM)
  refine x_iconst B dX12_beside_0 ?_
  refine lv_istore_n (lv' := [(2, .int (iI 0)), (0, .ref (am 0)), (1, .int (iI k))]) B.1 B.2.1 dX12_beside_1 rfl hl (by decide) rfl (fun ls hl => ?_)
  have loop2 : ∀ (n2 : Nat) (b : Int), (0 ≤ b ∧ b ≤ 300) → ((300 - b : Int)).toNat < n2 → ∀ (H : Heap) (locs : List Loc) (ls : Array Slot), yH D Zk A s w H locs → lv_has ls 3 [(2, .int (iI b)), (0, .ref (am 0)), (1, .int (iI k))] → W p l e r_c_X12_beside s m args below meth c H locs 0 0 Qf (F0 m 2 ls []) := by
    intro n2
    induction n2 with
    | zero =>
      intro b h0 hm2 H locs ls h hl
      exact absurd hm2 (Nat.not_lt_zero _)
    | succ n2 ih2 =>
      intro b h0 hm2 H locs ls h hl
      refine lv_iload_n B.1 B.2.1 dX12_beside_2 rfl (lv_at hl 0 rfl) ?_
      refine lv_aload_n B.1 B.2.1 dX12_beside_3 rfl (lv_at hl 1 rfl) ?_
      refine y_getX B h kX12 50 (MW.f hM 0 _ rfl) 4 (z := (T 0 2)) rfl m_1265 (by decide) dX12_beside_4 ?_
      refine x_icmp_ge B (by omega) (tgt := 35) dX12_beside_7 (by decide) (fun c1 => ?_) (fun c1 => ?_)
      · refine x_iconst B dX12_beside_35 ?_
        refine y_ri B hQ h (by decide) dX12_beside_36 ?_
        exact ⟨rfl, _, rfl, (by first | omega | trivial | assumption)⟩
      · refine lv_aload_n B.1 B.2.1 dX12_beside_10 rfl (lv_at hl 1 rfl) ?_
        refine lv_iload_n B.1 B.2.1 dX12_beside_11 rfl (lv_at hl 0 rfl) ?_
        refine y_cV B h kX12 50 (MW.f hM 0 _ rfl) k_X12_isMan rfl (c_X12_isMan l D Zk ca T E am _ hM b  (by omega)) m_1728 rfl (by decide) hl.1 [] (Nat.le_of_ble_eq_true rfl) rfl dX12_beside_12 (fun r w1 hq H locs h => ?_)
        obtain ⟨rfl, _, rfl, ⟨rfl, b2⟩ | ⟨rfl, b2⟩⟩ := hq
        · show W p l e r_c_X12_beside s m args below meth c _ _ 0 0 Qf (F0 m 15 ls [.int (iI 1)])
          refine x_if_eq B (by omega) (tgt := 29) dX12_beside_15 (by decide) (fun c3 => ?_) (fun c3 => ?_)
          · exact absurd c3 (by omega)
          · refine lv_aload_n B.1 B.2.1 dX12_beside_18 rfl (lv_at hl 1 rfl) ?_
            refine lv_iload_n B.1 B.2.1 dX12_beside_19 rfl (lv_at hl 2 rfl) ?_
            refine lv_iload_n B.1 B.2.1 dX12_beside_20 rfl (lv_at hl 0 rfl) ?_
            refine y_cV B h kX12 50 (MW.f hM 0 _ rfl) k_X12_areInSight rfl (c_X12_areInSight l D Zk ca T E am _ hM k b  (by omega) (by omega)) m_1740 rfl (by decide) hl.1 [] (Nat.le_of_ble_eq_true rfl) rfl dX12_beside_21 (fun r w1 hq H locs h => ?_)
            obtain ⟨rfl, _, rfl, ⟨rfl, b4⟩ | ⟨rfl, b4⟩⟩ := hq
            · show W p l e r_c_X12_beside s m args below meth c _ _ 0 0 Qf (F0 m 24 ls [.int (iI 1)])
              refine x_if_eq B (by omega) (tgt := 29) dX12_beside_24 (by decide) (fun c5 => ?_) (fun c5 => ?_)
              · exact absurd c5 (by omega)
              · refine lv_iload_n B.1 B.2.1 dX12_beside_27 rfl (lv_at hl 0 rfl) ?_
                refine y_ri B hQ h (by decide) dX12_beside_28 ?_
                exact ⟨rfl, _, rfl, (by first | omega | trivial | assumption)⟩
            · show W p l e r_c_X12_beside s m args below meth c _ _ 0 0 Qf (F0 m 24 ls [.int (iI 0)])
              refine x_if_eq B (by omega) (tgt := 29) dX12_beside_24 (by decide) (fun c6 => ?_) (fun c6 => ?_)
              · refine lv_iinc (v := iI (b + 1)) (lv' := [(2, .int (iI (b + 1))), (0, .ref (am 0)), (1, .int (iI k))]) B.1 B.2.1 dX12_beside_29 hl (k := 0) rfl (iI_add _ _) (by decide) rfl (fun ls hl => ?_)
                refine lv_goto (tgt := 2) B.1 B.2.1 dX12_beside_32 (by decide) ?_
                exact ih2 ((b + 1)) (by omega) (by omega) _ _ _ h (lv_sub hl [0, 1, 2] rfl)
              · exact absurd c6 (by omega)
        · show W p l e r_c_X12_beside s m args below meth c _ _ 0 0 Qf (F0 m 15 ls [.int (iI 0)])
          refine x_if_eq B (by omega) (tgt := 29) dX12_beside_15 (by decide) (fun c7 => ?_) (fun c7 => ?_)
          · refine lv_iinc (v := iI (b + 1)) (lv' := [(2, .int (iI (b + 1))), (0, .ref (am 0)), (1, .int (iI k))]) B.1 B.2.1 dX12_beside_29 hl (k := 0) rfl (iI_add _ _) (by decide) rfl (fun ls hl => ?_)
            refine lv_goto (tgt := 2) B.1 B.2.1 dX12_beside_32 (by decide) ?_
            exact ih2 ((b + 1)) (by omega) (by omega) _ _ _ h (lv_sub hl [0, 1, 2] rfl)
          · exact absurd c7 (by omega)
  exact loop2 (((300 - 0 : Int)).toNat + 1) 0 (by omega) (Nat.lt_succ_self _) _ _ _ h (lv_sub hl [0, 1, 2] rfl)
abbrev r_c_X12_lead : Room := { frames := 0, cells := 0, slots := 0, locals := 0 }
set_option maxHeartbeats 4000000 in
set_option maxRecDepth 100000 in
theorem c_X12_lead (l : Launch) (D : va_G) (Zk : yK) (ca : Nat → ClassId) (w : yW) (ones : Int) (oneC : Int) (all : Int) (count : Int)  (hones : xr ones) (honeC : 0 ≤ oneC ∧ oneC ≤ 12) (hall : xr all) (hcount : 0 ≤ count ∧ count ≤ 12) : yC l D Zk ca yX12_lead cX12_lead 4 (some .int) r_c_X12_lead [.int (iI ones), .int (iI oneC), .int (iI all), .int (iI count)] w (vI w (fun z => xr z)) := by
  refine yC.of2 "WindWordsModel" (by decide) rfl (Nat.le_of_ble_eq_true rfl) ?_
  intro p e s m args below meth c A ls Qf B hnm h hl hQ
  have hl : lv_has ls 4 [(0, .int (iI ones)), (1, .int (iI oneC)), (2, .int (iI all)), (3, .int (iI count))] := hl
  refine lv_iload_n B.1 B.2.1 dX12_lead_0 rfl (lv_at hl 0 rfl) ?_
  refine lv_iload_n B.1 B.2.1 dX12_lead_1 rfl (lv_at hl 3 rfl) ?_
  refine lv_iload_n B.1 B.2.1 dX12_lead_2 rfl (lv_at hl 1 rfl) ?_
  refine x_isub B dX12_lead_3 ?_
  refine x_imul B dX12_lead_4 ?_
  refine x_name (fun z1 hz1 ez1 => ?_)
  refine lv_iload_n B.1 B.2.1 dX12_lead_5 rfl (lv_at hl 2 rfl) ?_
  refine lv_iload_n B.1 B.2.1 dX12_lead_6 rfl (lv_at hl 0 rfl) ?_
  refine x_isub B dX12_lead_7 ?_
  refine lv_iload_n B.1 B.2.1 dX12_lead_8 rfl (lv_at hl 1 rfl) ?_
  refine x_imul B dX12_lead_9 ?_
  refine x_name (fun z2 hz2 ez2 => ?_)
  refine x_isub B dX12_lead_10 ?_
  refine x_name (fun z3 hz3 ez3 => ?_)
  refine y_ri B hQ h (by decide) dX12_lead_11 ?_
  exact ⟨rfl, _, rfl, (by first | omega | trivial | assumption)⟩
abbrev r_c_X12_bitsOf : Room := { frames := 0, cells := 0, slots := 0, locals := 0 }
set_option maxHeartbeats 4000000 in
set_option maxRecDepth 100000 in
theorem c_X12_bitsOf (l : Launch) (D : va_G) (Zk : yK) (ca : Nat → ClassId) (w : yW) (v : Int)  (hv : xr v) : yC l D Zk ca yX12_bitsOf cX12_bitsOf 3 (some .int) r_c_X12_bitsOf [.int (iI v)] w (vI w (fun z => 0 ≤ z ∧ z ≤ 12)) := by
  refine yC.of2 "WindWordsModel" (by decide) rfl (Nat.le_of_ble_eq_true rfl) ?_
  intro p e s m args below meth c A ls Qf B hnm h hl hQ
  have hl : lv_has ls 3 [(0, .int (iI v))] := hl
  refine x_iconst B dX12_bitsOf_0 ?_
  refine lv_istore_n (lv' := [(1, .int (iI 0)), (0, .int (iI v))]) B.1 B.2.1 dX12_bitsOf_1 rfl hl (by decide) rfl (fun ls hl => ?_)
  refine x_iconst B dX12_bitsOf_2 ?_
  refine lv_istore_n (lv' := [(2, .int (iI 0)), (1, .int (iI 0)), (0, .int (iI v))]) B.1 B.2.1 dX12_bitsOf_3 rfl hl (by decide) rfl (fun ls hl => ?_)
  have loop4 : ∀ (n4 : Nat) (n : Int) (k : Int), (0 ≤ n ∧ n ≤ k) → (0 ≤ k ∧ k ≤ 12) → ((12 - k : Int)).toNat < n4 → ∀ (H : Heap) (locs : List Loc) (ls : Array Slot), yH D Zk A s w H locs → lv_has ls 3 [(2, .int (iI k)), (1, .int (iI n)), (0, .int (iI v))] → W p l e r_c_X12_bitsOf s m args below meth c H locs 0 0 Qf (F0 m 4 ls []) := by
    intro n4
    induction n4 with
    | zero =>
      intro n k h0 h1 hm4 H locs ls h hl
      exact absurd hm4 (Nat.not_lt_zero _)
    | succ n4 ih4 =>
      intro n k h0 h1 hm4 H locs ls h hl
      refine lv_iload_n B.1 B.2.1 dX12_bitsOf_4 rfl (lv_at hl 0 rfl) ?_
      refine x_bipush B (by decide) dX12_bitsOf_5 ?_
      refine x_icmp_ge B (by omega) (tgt := 24) dX12_bitsOf_7 (by decide) (fun c1 => ?_) (fun c1 => ?_)
      · refine lv_iload_n B.1 B.2.1 dX12_bitsOf_24 rfl (lv_at hl 1 rfl) ?_
        refine y_ri B hQ h (by decide) dX12_bitsOf_25 ?_
        exact ⟨rfl, _, rfl, (by first | omega | trivial | assumption)⟩
      · refine lv_iload_n B.1 B.2.1 dX12_bitsOf_10 rfl (lv_at hl 1 rfl) ?_
        refine lv_iload_n B.1 B.2.1 dX12_bitsOf_11 rfl (lv_at hl 2 rfl) ?_
        refine lv_iload_n B.1 B.2.1 dX12_bitsOf_12 rfl (lv_at hl 0 rfl) ?_
        refine lv_ishr B.1 B.2.1 dX12_bitsOf_13 ?_
        refine x_name (fun z2 hz2 ez2 => ?_)
        refine x_iconst B dX12_bitsOf_14 ?_
        refine lv_iand B.1 B.2.1 dX12_bitsOf_15 ?_
        obtain ⟨z3, z3a, z3b, ez3⟩ := and1_ex ((iI z2))
        refine x_iset ez3 ?_
        refine x_iadd B dX12_bitsOf_16 ?_
        refine lv_istore_n (lv' := [(1, .int (iI (n + z3))), (2, .int (iI k)), (0, .int (iI v))]) B.1 B.2.1 dX12_bitsOf_17 rfl hl (by decide) rfl (fun ls hl => ?_)
        refine lv_iinc (v := iI (k + 1)) (lv' := [(2, .int (iI (k + 1))), (1, .int (iI (n + z3))), (0, .int (iI v))]) B.1 B.2.1 dX12_bitsOf_18 hl (k := 1) rfl (iI_add _ _) (by decide) rfl (fun ls hl => ?_)
        refine lv_goto (tgt := 4) B.1 B.2.1 dX12_bitsOf_21 (by decide) ?_
        exact ih4 ((n + z3)) ((k + 1)) (by omega) (by omega) (by omega) _ _ _ h (lv_sub hl [0, 1, 2] rfl)
  exact loop4 (((12 - 0 : Int)).toNat + 1) 0 0 (by omega) (by omega) (Nat.lt_succ_self _) _ _ _ h (lv_sub hl [0, 1, 2] rfl)
abbrev r_c_X12_eight : Room := { frames := 3, cells := 0, slots := 0, locals := 65 }
set_option maxHeartbeats 4000000 in
set_option maxRecDepth 100000 in
theorem c_X12_eight (l : Launch) (D : va_G) (Zk : yK) (ca : Nat → ClassId) (T : Nat → Int → Int) (E : Nat → Int → Int) (am : Nat → Nat) (w : yW) (hM : MW ca T E am w) (line : Int) (wind : Int) (coin : Int) (what : Int)  (hline : xr line) (hwind : xr wind) (hcoin : xr coin) (hwhat : xr what) : yC l D Zk ca yX12_eight cX12_eight 10 (some .int) r_c_X12_eight [.ref (am 0), .int (iI line), .int (iI wind), .int (iI coin), .int (iI what)] w (vI w (fun z => xr z)) := by
  refine yC.of2 "WindWordsModel" (by decide) rfl (Nat.le_of_ble_eq_true rfl) ?_
  intro p e s m args below meth c A ls Qf B hnm h hl hQ
  have hl : lv_has ls 10 [(0, .ref (am 0)), (1, .int (iI line)), (2, .int (iI wind)), (3, .int (iI coin)), (4, .int (iI what))] := hl
  have hs := pi_s (MW.pi hM)
  have hpe := pe_0 (MW.pe hM)
  refine lv_iload_n B.1 B.2.1 dX12_eight_0 rfl (lv_at hl 1 rfl) ?_
  refine x_iconst B dX12_eight_1 ?_
  refine x_bipush B (by decide) dX12_eight_2 ?_
  refine y_cS B h k_X12_within (c_X12_within l D Zk ca _ line 0 12  (by omega) (by omega) (by omega)) m_1515 rfl (by decide) hl.1 [] (Nat.le_of_ble_eq_true rfl) rfl dX12_eight_4 (fun r w1 hq H locs h => ?_)
  obtain ⟨rfl, _, rfl, ⟨rfl, b1⟩ | ⟨rfl, b1⟩⟩ := hq
  · show W p l e r_c_X12_eight s m args below meth c _ _ 0 0 Qf (F0 m 7 ls [.int (iI 1)])
    refine x_if_eq B (by omega) (tgt := 41) dX12_eight_7 (by decide) (fun c2 => ?_) (fun c2 => ?_)
    · exact absurd c2 (by omega)
    · refine lv_iload_n B.1 B.2.1 dX12_eight_10 rfl (lv_at hl 2 rfl) ?_
      refine x_iconst B dX12_eight_11 ?_
      refine x_bipush B (by decide) dX12_eight_12 ?_
      refine y_cS B h k_X12_within (c_X12_within l D Zk ca _ wind 0 99  (by omega) (by omega) (by omega)) m_1515 rfl (by decide) hl.1 [] (Nat.le_of_ble_eq_true rfl) rfl dX12_eight_14 (fun r w1 hq H locs h => ?_)
      obtain ⟨rfl, _, rfl, ⟨rfl, b3⟩ | ⟨rfl, b3⟩⟩ := hq
      · show W p l e r_c_X12_eight s m args below meth c _ _ 0 0 Qf (F0 m 17 ls [.int (iI 1)])
        refine x_if_eq B (by omega) (tgt := 41) dX12_eight_17 (by decide) (fun c4 => ?_) (fun c4 => ?_)
        · exact absurd c4 (by omega)
        · refine lv_iload_n B.1 B.2.1 dX12_eight_20 rfl (lv_at hl 3 rfl) ?_
          refine x_iconst B dX12_eight_21 ?_
          refine x_sipush B (by decide) dX12_eight_22 ?_
          refine y_cS B h k_X12_within (c_X12_within l D Zk ca _ coin 0 9999  (by omega) (by omega) (by omega)) m_1515 rfl (by decide) hl.1 [] (Nat.le_of_ble_eq_true rfl) rfl dX12_eight_25 (fun r w1 hq H locs h => ?_)
          obtain ⟨rfl, _, rfl, ⟨rfl, b5⟩ | ⟨rfl, b5⟩⟩ := hq
          · show W p l e r_c_X12_eight s m args below meth c _ _ 0 0 Qf (F0 m 28 ls [.int (iI 1)])
            refine x_if_eq B (by omega) (tgt := 41) dX12_eight_28 (by decide) (fun c6 => ?_) (fun c6 => ?_)
            · exact absurd c6 (by omega)
            · refine lv_iload B.1 B.2.1 dX12_eight_31 (lv_at hl 4 rfl) ?_
              refine x_iconst B dX12_eight_33 ?_
              refine x_iconst B dX12_eight_34 ?_
              refine y_cS B h k_X12_within (c_X12_within l D Zk ca _ what 0 3  (by omega) (by omega) (by omega)) m_1515 rfl (by decide) hl.1 [] (Nat.le_of_ble_eq_true rfl) rfl dX12_eight_35 (fun r w1 hq H locs h => ?_)
              obtain ⟨rfl, _, rfl, ⟨rfl, b7⟩ | ⟨rfl, b7⟩⟩ := hq
              · show W p l e r_c_X12_eight s m args below meth c _ _ 0 0 Qf (F0 m 38 ls [.int (iI 1)])
                refine x_if_ne B (by omega) (tgt := 45) dX12_eight_38 (by decide) (fun c8 => ?_) (fun c8 => ?_)
                · refine x_iconst B dX12_eight_45 ?_
                  refine lv_istore (lv' := [(5, .int (iI 0)), (0, .ref (am 0)), (1, .int (iI line)), (2, .int (iI wind)), (3, .int (iI coin)), (4, .int (iI what))]) B.1 B.2.1 dX12_eight_46 hl (by decide) rfl (fun ls hl => ?_)
                  refine x_iconst B dX12_eight_48 ?_
                  refine lv_istore (lv' := [(6, .int (iI 0)), (5, .int (iI 0)), (0, .ref (am 0)), (1, .int (iI line)), (2, .int (iI wind)), (3, .int (iI coin)), (4, .int (iI what))]) B.1 B.2.1 dX12_eight_49 hl (by decide) rfl (fun ls hl => ?_)
                  refine x_iconst B dX12_eight_51 ?_
                  refine lv_istore (lv' := [(7, .int (iI 0)), (6, .int (iI 0)), (5, .int (iI 0)), (0, .ref (am 0)), (1, .int (iI line)), (2, .int (iI wind)), (3, .int (iI coin)), (4, .int (iI what))]) B.1 B.2.1 dX12_eight_52 hl (by decide) rfl (fun ls hl => ?_)
                  refine x_iconst B dX12_eight_54 ?_
                  refine lv_istore (lv' := [(8, .int (iI 0)), (7, .int (iI 0)), (6, .int (iI 0)), (5, .int (iI 0)), (0, .ref (am 0)), (1, .int (iI line)), (2, .int (iI wind)), (3, .int (iI coin)), (4, .int (iI what))]) B.1 B.2.1 dX12_eight_55 hl (by decide) rfl (fun ls hl => ?_)
                  have loop57 : ∀ (n57 : Nat) (cp : Int) (p_ : Int) (q_ : Int) (a : Int), (0 ≤ cp ∧ cp ≤ 300 * a) → (0 ≤ p_ ∧ p_ ≤ 300 * a) → (0 ≤ q_ ∧ q_ ≤ 300 * a) → (0 ≤ a ∧ a ≤ 300) → ((300 - a : Int)).toNat < n57 → ∀ (H : Heap) (locs : List Loc) (ls : Array Slot), yH D Zk A s w H locs → lv_has ls 10 [(8, .int (iI a)), (7, .int (iI q_)), (6, .int (iI p_)), (5, .int (iI cp)), (0, .ref (am 0)), (1, .int (iI line)), (2, .int (iI wind)), (3, .int (iI coin)), (4, .int (iI what))] → W p l e r_c_X12_eight s m args below meth c H locs 0 0 Qf (F0 m 57 ls []) := by
                    intro n57
                    induction n57 with
                    | zero =>
                      intro cp p_ q_ a h0 h1 h2 h3 hm57 H locs ls h hl
                      exact absurd hm57 (Nat.not_lt_zero _)
                    | succ n57 ih57 =>
                      intro cp p_ q_ a h0 h1 h2 h3 hm57 H locs ls h hl
                      refine lv_iload B.1 B.2.1 dX12_eight_57 (lv_at hl 0 rfl) ?_
                      refine lv_aload_n B.1 B.2.1 dX12_eight_59 rfl (lv_at hl 4 rfl) ?_
                      refine y_getX B h kX12 50 (MW.f hM 0 _ rfl) 4 (z := (T 0 2)) rfl m_1265 (by decide) dX12_eight_60 ?_
                      refine x_icmp_ge B (by omega) (tgt := 167) dX12_eight_63 (by decide) (fun c9 => ?_) (fun c9 => ?_)
                      · refine lv_iload B.1 B.2.1 dX12_eight_167 (lv_at hl 8 rfl) ?_
                        refine x_if_ne B (by omega) (tgt := 177) dX12_eight_169 (by decide) (fun c10 => ?_) (fun c10 => ?_)
                        · refine lv_iload B.1 B.2.1 dX12_eight_177 (lv_at hl 8 rfl) ?_
                          refine x_iconst B dX12_eight_179 ?_
                          refine x_icmp_ne B (by omega) (tgt := 188) dX12_eight_180 (by decide) (fun c11 => ?_) (fun c11 => ?_)
                          · refine lv_iload B.1 B.2.1 dX12_eight_188 (lv_at hl 8 rfl) ?_
                            refine x_iconst B dX12_eight_190 ?_
                            refine x_icmp_ne B (by omega) (tgt := 199) dX12_eight_191 (by decide) (fun c12 => ?_) (fun c12 => ?_)
                            · refine lv_iload_n B.1 B.2.1 dX12_eight_199 rfl (lv_at hl 7 rfl) ?_
                              refine lv_iload B.1 B.2.1 dX12_eight_200 (lv_at hl 2 rfl) ?_
                              refine lv_iload B.1 B.2.1 dX12_eight_202 (lv_at hl 1 rfl) ?_
                              refine x_isub B dX12_eight_204 ?_
                              refine x_imul B dX12_eight_205 ?_
                              refine x_name (fun z13 hz13 ez13 => ?_)
                              refine y_ri B hQ h (by decide) dX12_eight_206 ?_
                              exact ⟨rfl, _, rfl, (by first | omega | trivial | assumption)⟩
                            · refine lv_iload B.1 B.2.1 dX12_eight_194 (lv_at hl 1 rfl) ?_
                              refine lv_goto (tgt := 206) B.1 B.2.1 dX12_eight_196 (by decide) ?_
                              refine y_ri B hQ h (by decide) dX12_eight_206 ?_
                              exact ⟨rfl, _, rfl, (by first | omega | trivial | assumption)⟩
                          · refine lv_iload B.1 B.2.1 dX12_eight_183 (lv_at hl 2 rfl) ?_
                            refine lv_goto (tgt := 206) B.1 B.2.1 dX12_eight_185 (by decide) ?_
                            refine y_ri B hQ h (by decide) dX12_eight_206 ?_
                            exact ⟨rfl, _, rfl, (by first | omega | trivial | assumption)⟩
                        · refine lv_iload B.1 B.2.1 dX12_eight_172 (lv_at hl 3 rfl) ?_
                          refine lv_goto (tgt := 206) B.1 B.2.1 dX12_eight_174 (by decide) ?_
                          refine y_ri B hQ h (by decide) dX12_eight_206 ?_
                          exact ⟨rfl, _, rfl, (by first | omega | trivial | assumption)⟩
                      · refine x_iconst B dX12_eight_66 ?_
                        refine lv_istore (lv' := [(9, .int (iI 0)), (8, .int (iI a)), (7, .int (iI q_)), (6, .int (iI p_)), (5, .int (iI cp)), (0, .ref (am 0)), (1, .int (iI line)), (2, .int (iI wind)), (3, .int (iI coin)), (4, .int (iI what))]) B.1 B.2.1 dX12_eight_67 hl (by decide) rfl (fun ls hl => ?_)
                        have loop69 : ∀ (n69 : Nat) (cp : Int) (p_ : Int) (q_ : Int) (b : Int), (0 ≤ cp ∧ cp ≤ 300 * a + b) → (0 ≤ p_ ∧ p_ ≤ 300 * a + b) → (0 ≤ q_ ∧ q_ ≤ 300 * a + b) → (0 ≤ b ∧ b ≤ 300) → ((300 - b : Int)).toNat < n69 → ∀ (H : Heap) (locs : List Loc) (ls : Array Slot), yH D Zk A s w H locs → lv_has ls 10 [(9, .int (iI b)), (8, .int (iI a)), (7, .int (iI q_)), (6, .int (iI p_)), (5, .int (iI cp)), (0, .ref (am 0)), (1, .int (iI line)), (2, .int (iI wind)), (3, .int (iI coin)), (4, .int (iI what))] → W p l e r_c_X12_eight s m args below meth c H locs 0 0 Qf (F0 m 69 ls []) := by
                          intro n69
                          induction n69 with
                          | zero =>
                            intro cp p_ q_ b g0 g1 g2 g3 hm69 H locs ls h hl
                            exact absurd hm69 (Nat.not_lt_zero _)
                          | succ n69 ih69 =>
                            intro cp p_ q_ b g0 g1 g2 g3 hm69 H locs ls h hl
                            refine lv_iload B.1 B.2.1 dX12_eight_69 (lv_at hl 0 rfl) ?_
                            refine lv_aload_n B.1 B.2.1 dX12_eight_71 rfl (lv_at hl 5 rfl) ?_
                            refine y_getX B h kX12 50 (MW.f hM 0 _ rfl) 4 (z := (T 0 2)) rfl m_1265 (by decide) dX12_eight_72 ?_
                            refine x_icmp_ge B (by omega) (tgt := 161) dX12_eight_75 (by decide) (fun c14 => ?_) (fun c14 => ?_)
                            · refine lv_iinc (v := iI (a + 1)) (lv' := [(8, .int (iI (a + 1))), (9, .int (iI b)), (7, .int (iI q_)), (6, .int (iI p_)), (5, .int (iI cp)), (0, .ref (am 0)), (1, .int (iI line)), (2, .int (iI wind)), (3, .int (iI coin)), (4, .int (iI what))]) B.1 B.2.1 dX12_eight_161 hl (k := 1) rfl (iI_add _ _) (by decide) rfl (fun ls hl => ?_)
                              refine lv_goto (tgt := 57) B.1 B.2.1 dX12_eight_164 (by decide) ?_
                              exact ih57 cp p_ q_ ((a + 1)) (by omega) (by omega) (by omega) (by omega) (by omega) _ _ _ h (lv_sub hl [0, 2, 3, 4, 5, 6, 7, 8, 9] rfl)
                            · refine lv_aload_n B.1 B.2.1 dX12_eight_78 rfl (lv_at hl 5 rfl) ?_
                              refine lv_iload B.1 B.2.1 dX12_eight_79 (lv_at hl 1 rfl) ?_
                              refine y_cV B h kX12 50 (MW.f hM 0 _ rfl) k_X12_isMan rfl (c_X12_isMan l D Zk ca T E am _ hM a  (by omega)) m_1728 rfl (by decide) hl.1 [] (Nat.le_of_ble_eq_true rfl) rfl dX12_eight_81 (fun r w1 hq H locs h => ?_)
                              obtain ⟨rfl, _, rfl, ⟨rfl, b15⟩ | ⟨rfl, b15⟩⟩ := hq
                              · show W p l e r_c_X12_eight s m args below meth c _ _ 0 0 Qf (F0 m 84 ls [.int (iI 1)])
                                refine x_if_eq B (by omega) (tgt := 155) dX12_eight_84 (by decide) (fun c16 => ?_) (fun c16 => ?_)
                                · exact absurd c16 (by omega)
                                · refine lv_aload_n B.1 B.2.1 dX12_eight_87 rfl (lv_at hl 5 rfl) ?_
                                  refine lv_iload B.1 B.2.1 dX12_eight_88 (lv_at hl 0 rfl) ?_
                                  refine y_cV B h kX12 50 (MW.f hM 0 _ rfl) k_X12_isMan rfl (c_X12_isMan l D Zk ca T E am _ hM b  (by omega)) m_1728 rfl (by decide) hl.1 [] (Nat.le_of_ble_eq_true rfl) rfl dX12_eight_90 (fun r w1 hq H locs h => ?_)
                                  obtain ⟨rfl, _, rfl, ⟨rfl, b17⟩ | ⟨rfl, b17⟩⟩ := hq
                                  · show W p l e r_c_X12_eight s m args below meth c _ _ 0 0 Qf (F0 m 93 ls [.int (iI 1)])
                                    refine x_if_ne B (by omega) (tgt := 155) dX12_eight_93 (by decide) (fun c18 => ?_) (fun c18 => ?_)
                                    · refine lv_iinc (v := iI (b + 1)) (lv' := [(9, .int (iI (b + 1))), (8, .int (iI a)), (7, .int (iI q_)), (6, .int (iI p_)), (5, .int (iI cp)), (0, .ref (am 0)), (1, .int (iI line)), (2, .int (iI wind)), (3, .int (iI coin)), (4, .int (iI what))]) B.1 B.2.1 dX12_eight_155 hl (k := 0) rfl (iI_add _ _) (by decide) rfl (fun ls hl => ?_)
                                      refine lv_goto (tgt := 69) B.1 B.2.1 dX12_eight_158 (by decide) ?_
                                      exact ih69 cp p_ q_ ((b + 1)) (by omega) (by omega) (by omega) (by omega) (by omega) _ _ _ h (lv_sub hl [0, 1, 2, 3, 4, 5, 6, 7, 8, 9] rfl)
                                    · exact absurd c18 (by omega)
                                  · show W p l e r_c_X12_eight s m args below meth c _ _ 0 0 Qf (F0 m 93 ls [.int (iI 0)])
                                    refine x_if_ne B (by omega) (tgt := 155) dX12_eight_93 (by decide) (fun c19 => ?_) (fun c19 => ?_)
                                    · exact absurd c19 (by omega)
                                    · refine lv_aload_n B.1 B.2.1 dX12_eight_96 rfl (lv_at hl 5 rfl) ?_
                                      refine lv_iload B.1 B.2.1 dX12_eight_97 (lv_at hl 1 rfl) ?_
                                      refine lv_iload B.1 B.2.1 dX12_eight_99 (lv_at hl 0 rfl) ?_
                                      refine y_cV B h kX12 50 (MW.f hM 0 _ rfl) k_X12_areInSight rfl (c_X12_areInSight l D Zk ca T E am _ hM a b  (by omega) (by omega)) m_1740 rfl (by decide) hl.1 [] (Nat.le_of_ble_eq_true rfl) rfl dX12_eight_101 (fun r w1 hq H locs h => ?_)
                                      obtain ⟨rfl, _, rfl, ⟨rfl, b20⟩ | ⟨rfl, b20⟩⟩ := hq
                                      · show W p l e r_c_X12_eight s m args below meth c _ _ 0 0 Qf (F0 m 104 ls [.int (iI 1)])
                                        refine x_if_ne B (by omega) (tgt := 110) dX12_eight_104 (by decide) (fun c21 => ?_) (fun c21 => ?_)
                                        · refine lv_iinc (v := iI (cp + 1)) (lv' := [(5, .int (iI (cp + 1))), (9, .int (iI b)), (8, .int (iI a)), (7, .int (iI q_)), (6, .int (iI p_)), (0, .ref (am 0)), (1, .int (iI line)), (2, .int (iI wind)), (3, .int (iI coin)), (4, .int (iI what))]) B.1 B.2.1 dX12_eight_110 hl (k := 4) rfl (iI_add _ _) (by decide) rfl (fun ls hl => ?_)
                                          refine lv_iload B.1 B.2.1 dX12_eight_113 (lv_at hl 4 rfl) ?_
                                          refine lv_aload_n B.1 B.2.1 dX12_eight_115 rfl (lv_at hl 5 rfl) ?_
                                          refine y_getR B h kX12 50 (MW.f hM 0 _ rfl) 18 (b := am 13) rfl m_1279 (by decide) dX12_eight_116 ?_
                                          refine lv_iload B.1 B.2.1 dX12_eight_119 (lv_at hl 2 rfl) ?_
                                          refine y_ialdX B h 63 (MW.f hM 13 _ rfl) (by omega) dX12_eight_121 ?_
                                          refine x_iset (z := (T 8 a)) (by show iI (T 8 (((a : Int).toNat : Nat) : Int)) = _; rw [show ((((a : Int).toNat : Nat) : Int)) = a by omega]) ?_
                                          have tb22 := pi_8 (MW.pi hM) a
                                          have tb23 := pi_n (MW.pi hM) a
                                          refine lv_iload_n B.1 B.2.1 dX12_eight_122 rfl (lv_at hl 6 rfl) ?_
                                          refine x_icmp_lt B (by omega) (tgt := 130) dX12_eight_123 (by decide) (fun c24 => ?_) (fun c24 => ?_)
                                          · refine x_iconst B dX12_eight_130 ?_
                                            refine x_iadd B dX12_eight_131 ?_
                                            refine lv_istore (lv' := [(6, .int (iI (p_ + 0))), (5, .int (iI (cp + 1))), (9, .int (iI b)), (8, .int (iI a)), (7, .int (iI q_)), (0, .ref (am 0)), (1, .int (iI line)), (2, .int (iI wind)), (3, .int (iI coin)), (4, .int (iI what))]) B.1 B.2.1 dX12_eight_132 hl (by decide) rfl (fun ls hl => ?_)
                                            refine lv_iload B.1 B.2.1 dX12_eight_134 (lv_at hl 4 rfl) ?_
                                            refine lv_aload_n B.1 B.2.1 dX12_eight_136 rfl (lv_at hl 5 rfl) ?_
                                            refine y_getR B h kX12 50 (MW.f hM 0 _ rfl) 18 (b := am 13) rfl m_1279 (by decide) dX12_eight_137 ?_
                                            refine lv_iload B.1 B.2.1 dX12_eight_140 (lv_at hl 2 rfl) ?_
                                            refine y_ialdX B h 63 (MW.f hM 13 _ rfl) (by omega) dX12_eight_142 ?_
                                            refine x_iset (z := (T 8 b)) (by show iI (T 8 (((b : Int).toNat : Nat) : Int)) = _; rw [show ((((b : Int).toNat : Nat) : Int)) = b by omega]) ?_
                                            have tb25 := pi_8 (MW.pi hM) b
                                            have tb26 := pi_n (MW.pi hM) b
                                            refine lv_iload_n B.1 B.2.1 dX12_eight_143 rfl (lv_at hl 7 rfl) ?_
                                            refine x_icmp_lt B (by omega) (tgt := 151) dX12_eight_144 (by decide) (fun c27 => ?_) (fun c27 => ?_)
                                            · refine x_iconst B dX12_eight_151 ?_
                                              refine x_iadd B dX12_eight_152 ?_
                                              refine lv_istore (lv' := [(7, .int (iI (q_ + 0))), (6, .int (iI (p_ + 0))), (5, .int (iI (cp + 1))), (9, .int (iI b)), (8, .int (iI a)), (0, .ref (am 0)), (1, .int (iI line)), (2, .int (iI wind)), (3, .int (iI coin)), (4, .int (iI what))]) B.1 B.2.1 dX12_eight_153 hl (by decide) rfl (fun ls hl => ?_)
                                              refine lv_iinc (v := iI (b + 1)) (lv' := [(9, .int (iI (b + 1))), (7, .int (iI (q_ + 0))), (6, .int (iI (p_ + 0))), (5, .int (iI (cp + 1))), (8, .int (iI a)), (0, .ref (am 0)), (1, .int (iI line)), (2, .int (iI wind)), (3, .int (iI coin)), (4, .int (iI what))]) B.1 B.2.1 dX12_eight_155 hl (k := 3) rfl (iI_add _ _) (by decide) rfl (fun ls hl => ?_)
                                              refine lv_goto (tgt := 69) B.1 B.2.1 dX12_eight_158 (by decide) ?_
                                              exact ih69 ((cp + 1)) ((p_ + 0)) ((q_ + 0)) ((b + 1)) (by omega) (by omega) (by omega) (by omega) (by omega) _ _ _ h (lv_sub hl [0, 4, 1, 2, 3, 5, 6, 7, 8, 9] rfl)
                                            · refine x_iconst B dX12_eight_147 ?_
                                              refine lv_goto (tgt := 152) B.1 B.2.1 dX12_eight_148 (by decide) ?_
                                              refine x_iadd B dX12_eight_152 ?_
                                              refine lv_istore (lv' := [(7, .int (iI (q_ + 1))), (6, .int (iI (p_ + 0))), (5, .int (iI (cp + 1))), (9, .int (iI b)), (8, .int (iI a)), (0, .ref (am 0)), (1, .int (iI line)), (2, .int (iI wind)), (3, .int (iI coin)), (4, .int (iI what))]) B.1 B.2.1 dX12_eight_153 hl (by decide) rfl (fun ls hl => ?_)
                                              refine lv_iinc (v := iI (b + 1)) (lv' := [(9, .int (iI (b + 1))), (7, .int (iI (q_ + 1))), (6, .int (iI (p_ + 0))), (5, .int (iI (cp + 1))), (8, .int (iI a)), (0, .ref (am 0)), (1, .int (iI line)), (2, .int (iI wind)), (3, .int (iI coin)), (4, .int (iI what))]) B.1 B.2.1 dX12_eight_155 hl (k := 3) rfl (iI_add _ _) (by decide) rfl (fun ls hl => ?_)
                                              refine lv_goto (tgt := 69) B.1 B.2.1 dX12_eight_158 (by decide) ?_
                                              exact ih69 ((cp + 1)) ((p_ + 0)) ((q_ + 1)) ((b + 1)) (by omega) (by omega) (by omega) (by omega) (by omega) _ _ _ h (lv_sub hl [0, 4, 1, 2, 3, 5, 6, 7, 8, 9] rfl)
                                          · refine x_iconst B dX12_eight_126 ?_
                                            refine lv_goto (tgt := 131) B.1 B.2.1 dX12_eight_127 (by decide) ?_
                                            refine x_iadd B dX12_eight_131 ?_
                                            refine lv_istore (lv' := [(6, .int (iI (p_ + 1))), (5, .int (iI (cp + 1))), (9, .int (iI b)), (8, .int (iI a)), (7, .int (iI q_)), (0, .ref (am 0)), (1, .int (iI line)), (2, .int (iI wind)), (3, .int (iI coin)), (4, .int (iI what))]) B.1 B.2.1 dX12_eight_132 hl (by decide) rfl (fun ls hl => ?_)
                                            refine lv_iload B.1 B.2.1 dX12_eight_134 (lv_at hl 4 rfl) ?_
                                            refine lv_aload_n B.1 B.2.1 dX12_eight_136 rfl (lv_at hl 5 rfl) ?_
                                            refine y_getR B h kX12 50 (MW.f hM 0 _ rfl) 18 (b := am 13) rfl m_1279 (by decide) dX12_eight_137 ?_
                                            refine lv_iload B.1 B.2.1 dX12_eight_140 (lv_at hl 2 rfl) ?_
                                            refine y_ialdX B h 63 (MW.f hM 13 _ rfl) (by omega) dX12_eight_142 ?_
                                            refine x_iset (z := (T 8 b)) (by show iI (T 8 (((b : Int).toNat : Nat) : Int)) = _; rw [show ((((b : Int).toNat : Nat) : Int)) = b by omega]) ?_
                                            have tb28 := pi_8 (MW.pi hM) b
                                            have tb29 := pi_n (MW.pi hM) b
                                            refine lv_iload_n B.1 B.2.1 dX12_eight_143 rfl (lv_at hl 7 rfl) ?_
                                            refine x_icmp_lt B (by omega) (tgt := 151) dX12_eight_144 (by decide) (fun c30 => ?_) (fun c30 => ?_)
                                            · refine x_iconst B dX12_eight_151 ?_
                                              refine x_iadd B dX12_eight_152 ?_
                                              refine lv_istore (lv' := [(7, .int (iI (q_ + 0))), (6, .int (iI (p_ + 1))), (5, .int (iI (cp + 1))), (9, .int (iI b)), (8, .int (iI a)), (0, .ref (am 0)), (1, .int (iI line)), (2, .int (iI wind)), (3, .int (iI coin)), (4, .int (iI what))]) B.1 B.2.1 dX12_eight_153 hl (by decide) rfl (fun ls hl => ?_)
                                              refine lv_iinc (v := iI (b + 1)) (lv' := [(9, .int (iI (b + 1))), (7, .int (iI (q_ + 0))), (6, .int (iI (p_ + 1))), (5, .int (iI (cp + 1))), (8, .int (iI a)), (0, .ref (am 0)), (1, .int (iI line)), (2, .int (iI wind)), (3, .int (iI coin)), (4, .int (iI what))]) B.1 B.2.1 dX12_eight_155 hl (k := 3) rfl (iI_add _ _) (by decide) rfl (fun ls hl => ?_)
                                              refine lv_goto (tgt := 69) B.1 B.2.1 dX12_eight_158 (by decide) ?_
                                              exact ih69 ((cp + 1)) ((p_ + 1)) ((q_ + 0)) ((b + 1)) (by omega) (by omega) (by omega) (by omega) (by omega) _ _ _ h (lv_sub hl [0, 4, 1, 2, 3, 5, 6, 7, 8, 9] rfl)
                                            · refine x_iconst B dX12_eight_147 ?_
                                              refine lv_goto (tgt := 152) B.1 B.2.1 dX12_eight_148 (by decide) ?_
                                              refine x_iadd B dX12_eight_152 ?_
                                              refine lv_istore (lv' := [(7, .int (iI (q_ + 1))), (6, .int (iI (p_ + 1))), (5, .int (iI (cp + 1))), (9, .int (iI b)), (8, .int (iI a)), (0, .ref (am 0)), (1, .int (iI line)), (2, .int (iI wind)), (3, .int (iI coin)), (4, .int (iI what))]) B.1 B.2.1 dX12_eight_153 hl (by decide) rfl (fun ls hl => ?_)
                                              refine lv_iinc (v := iI (b + 1)) (lv' := [(9, .int (iI (b + 1))), (7, .int (iI (q_ + 1))), (6, .int (iI (p_ + 1))), (5, .int (iI (cp + 1))), (8, .int (iI a)), (0, .ref (am 0)), (1, .int (iI line)), (2, .int (iI wind)), (3, .int (iI coin)), (4, .int (iI what))]) B.1 B.2.1 dX12_eight_155 hl (k := 3) rfl (iI_add _ _) (by decide) rfl (fun ls hl => ?_)
                                              refine lv_goto (tgt := 69) B.1 B.2.1 dX12_eight_158 (by decide) ?_
                                              exact ih69 ((cp + 1)) ((p_ + 1)) ((q_ + 1)) ((b + 1)) (by omega) (by omega) (by omega) (by omega) (by omega) _ _ _ h (lv_sub hl [0, 4, 1, 2, 3, 5, 6, 7, 8, 9] rfl)
                                        · exact absurd c21 (by omega)
                                      · show W p l e r_c_X12_eight s m args below meth c _ _ 0 0 Qf (F0 m 104 ls [.int (iI 0)])
                                        refine x_if_ne B (by omega) (tgt := 110) dX12_eight_104 (by decide) (fun c31 => ?_) (fun c31 => ?_)
                                        · exact absurd c31 (by omega)
                                        · refine lv_goto (tgt := 155) B.1 B.2.1 dX12_eight_107 (by decide) ?_
                                          refine lv_iinc (v := iI (b + 1)) (lv' := [(9, .int (iI (b + 1))), (8, .int (iI a)), (7, .int (iI q_)), (6, .int (iI p_)), (5, .int (iI cp)), (0, .ref (am 0)), (1, .int (iI line)), (2, .int (iI wind)), (3, .int (iI coin)), (4, .int (iI what))]) B.1 B.2.1 dX12_eight_155 hl (k := 0) rfl (iI_add _ _) (by decide) rfl (fun ls hl => ?_)
                                          refine lv_goto (tgt := 69) B.1 B.2.1 dX12_eight_158 (by decide) ?_
                                          exact ih69 cp p_ q_ ((b + 1)) (by omega) (by omega) (by omega) (by omega) (by omega) _ _ _ h (lv_sub hl [0, 1, 2, 3, 4, 5, 6, 7, 8, 9] rfl)
                              · show W p l e r_c_X12_eight s m args below meth c _ _ 0 0 Qf (F0 m 84 ls [.int (iI 0)])
                                refine x_if_eq B (by omega) (tgt := 155) dX12_eight_84 (by decide) (fun c32 => ?_) (fun c32 => ?_)
                                · refine lv_iinc (v := iI (b + 1)) (lv' := [(9, .int (iI (b + 1))), (8, .int (iI a)), (7, .int (iI q_)), (6, .int (iI p_)), (5, .int (iI cp)), (0, .ref (am 0)), (1, .int (iI line)), (2, .int (iI wind)), (3, .int (iI coin)), (4, .int (iI what))]) B.1 B.2.1 dX12_eight_155 hl (k := 0) rfl (iI_add _ _) (by decide) rfl (fun ls hl => ?_)
                                  refine lv_goto (tgt := 69) B.1 B.2.1 dX12_eight_158 (by decide) ?_
                                  exact ih69 cp p_ q_ ((b + 1)) (by omega) (by omega) (by omega) (by omega) (by omega) _ _ _ h (lv_sub hl [0, 1, 2, 3, 4, 5, 6, 7, 8, 9] rfl)
                                · exact absurd c32 (by omega)
                        exact loop69 (((300 - 0 : Int)).toNat + 1) cp p_ q_ 0 (by omega) (by omega) (by omega) (by omega) (Nat.lt_succ_self _) _ _ _ h (lv_sub hl [0, 1, 2, 3, 4, 5, 6, 7, 8, 9] rfl)
                  exact loop57 (((300 - 0 : Int)).toNat + 1) 0 0 0 0 (by omega) (by omega) (by omega) (by omega) (Nat.lt_succ_self _) _ _ _ h (lv_sub hl [0, 1, 2, 3, 4, 5, 6, 7, 8] rfl)
                · exact absurd c8 (by omega)
              · show W p l e r_c_X12_eight s m args below meth c _ _ 0 0 Qf (F0 m 38 ls [.int (iI 0)])
                refine x_if_ne B (by omega) (tgt := 45) dX12_eight_38 (by decide) (fun c33 => ?_) (fun c33 => ?_)
                · exact absurd c33 (by omega)
                · refine x_ldcw B (z := (-1000000000)) m_1851 (by decide) dX12_eight_41 ?_
                  refine y_ri B hQ h (by decide) dX12_eight_44 ?_
                  exact ⟨rfl, _, rfl, (by first | omega | trivial | assumption)⟩
          · show W p l e r_c_X12_eight s m args below meth c _ _ 0 0 Qf (F0 m 28 ls [.int (iI 0)])
            refine x_if_eq B (by omega) (tgt := 41) dX12_eight_28 (by decide) (fun c34 => ?_) (fun c34 => ?_)
            · refine x_ldcw B (z := (-1000000000)) m_1851 (by decide) dX12_eight_41 ?_
              refine y_ri B hQ h (by decide) dX12_eight_44 ?_
              exact ⟨rfl, _, rfl, (by first | omega | trivial | assumption)⟩
            · exact absurd c34 (by omega)
      · show W p l e r_c_X12_eight s m args below meth c _ _ 0 0 Qf (F0 m 17 ls [.int (iI 0)])
        refine x_if_eq B (by omega) (tgt := 41) dX12_eight_17 (by decide) (fun c35 => ?_) (fun c35 => ?_)
        · refine x_ldcw B (z := (-1000000000)) m_1851 (by decide) dX12_eight_41 ?_
          refine y_ri B hQ h (by decide) dX12_eight_44 ?_
          exact ⟨rfl, _, rfl, (by first | omega | trivial | assumption)⟩
        · exact absurd c35 (by omega)
  · show W p l e r_c_X12_eight s m args below meth c _ _ 0 0 Qf (F0 m 7 ls [.int (iI 0)])
    refine x_if_eq B (by omega) (tgt := 41) dX12_eight_7 (by decide) (fun c36 => ?_) (fun c36 => ?_)
    · refine x_ldcw B (z := (-1000000000)) m_1851 (by decide) dX12_eight_41 ?_
      refine y_ri B hQ h (by decide) dX12_eight_44 ?_
      exact ⟨rfl, _, rfl, (by first | omega | trivial | assumption)⟩
    · exact absurd c36 (by omega)
abbrev r_c_X12_unlikeBy : Room := { frames := 4, cells := 0, slots := 0, locals := 105 }
set_option maxHeartbeats 4000000 in
set_option maxRecDepth 100000 in
theorem c_X12_unlikeBy (l : Launch) (D : va_G) (Zk : yK) (ca : Nat → ClassId) (T : Nat → Int → Int) (E : Nat → Int → Int) (am : Nat → Nat) (w : yW) (hM : MW ca T E am w) (sc : Int)  (hs2 : sc < 0 ∨ (0 ≤ sc ∧ sc < E 0 0)) (hsc : xr sc) : yC l D Zk ca yX12_unlikeBy cX12_unlikeBy 5 (some .int) r_c_X12_unlikeBy [.ref (am 0), .int (iI sc)] w (vI w (fun z => xr z)) := by
  refine yC.of2 "WindWordsModel" (by decide) rfl (Nat.le_of_ble_eq_true rfl) ?_
  intro p e s m args below meth c A ls Qf B hnm h hl hQ
  have hl : lv_has ls 5 [(0, .ref (am 0)), (1, .int (iI sc))] := hl
  have hs := pi_s (MW.pi hM)
  have hpe := pe_0 (MW.pe hM)
  refine x_iconst B dX12_unlikeBy_0 ?_
  refine lv_istore_n (lv' := [(2, .int (iI 0)), (0, .ref (am 0)), (1, .int (iI sc))]) B.1 B.2.1 dX12_unlikeBy_1 rfl hl (by decide) rfl (fun ls hl => ?_)
  have loop2 : ∀ (n2 : Nat) (k : Int), (0 ≤ k ∧ k ≤ 300) → ((300 - k : Int)).toNat < n2 → ∀ (H : Heap) (locs : List Loc) (ls : Array Slot), yH D Zk A s w H locs → lv_has ls 5 [(2, .int (iI k)), (0, .ref (am 0)), (1, .int (iI sc))] → W p l e r_c_X12_unlikeBy s m args below meth c H locs 0 0 Qf (F0 m 2 ls []) := by
    intro n2
    induction n2 with
    | zero =>
      intro k h0 hm2 H locs ls h hl
      exact absurd hm2 (Nat.not_lt_zero _)
    | succ n2 ih2 =>
      intro k h0 hm2 H locs ls h hl
      refine lv_iload_n B.1 B.2.1 dX12_unlikeBy_2 rfl (lv_at hl 0 rfl) ?_
      refine lv_aload_n B.1 B.2.1 dX12_unlikeBy_3 rfl (lv_at hl 1 rfl) ?_
      refine y_getX B h kX12 50 (MW.f hM 0 _ rfl) 4 (z := (T 0 2)) rfl m_1265 (by decide) dX12_unlikeBy_4 ?_
      refine x_icmp_ge B (by omega) (tgt := 68) dX12_unlikeBy_7 (by decide) (fun c1 => ?_) (fun c1 => ?_)
      · refine x_iconst B dX12_unlikeBy_68 ?_
        refine lv_istore_n (lv' := [(2, .int (iI 0)), (0, .ref (am 0)), (1, .int (iI sc))]) B.1 B.2.1 dX12_unlikeBy_69 rfl hl (by decide) rfl (fun ls hl => ?_)
        refine x_iconst B dX12_unlikeBy_70 ?_
        refine lv_istore_n (lv' := [(3, .int (iI 0)), (2, .int (iI 0)), (0, .ref (am 0)), (1, .int (iI sc))]) B.1 B.2.1 dX12_unlikeBy_71 rfl hl (by decide) rfl (fun ls hl => ?_)
        have loop72 : ∀ (n72 : Nat) (a : Int) (l2 : Int), (xr l2) → (0 ≤ a ∧ a ≤ 300) → ((300 - a : Int)).toNat < n72 → ∀ (H : Heap) (locs : List Loc) (ls : Array Slot), yH D Zk A s w H locs → lv_has ls 5 [(3, .int (iI a)), (2, .int (iI l2)), (0, .ref (am 0))] → W p l e r_c_X12_unlikeBy s m args below meth c H locs 0 0 Qf (F0 m 72 ls []) := by
          intro n72
          induction n72 with
          | zero =>
            intro a l2 xl2 h1 hm72 H locs ls h hl
            exact absurd hm72 (Nat.not_lt_zero _)
          | succ n72 ih72 =>
            intro a l2 xl2 h1 hm72 H locs ls h hl
            refine lv_iload_n B.1 B.2.1 dX12_unlikeBy_72 rfl (lv_at hl 0 rfl) ?_
            refine lv_aload_n B.1 B.2.1 dX12_unlikeBy_73 rfl (lv_at hl 2 rfl) ?_
            refine y_getX B h kX12 50 (MW.f hM 0 _ rfl) 4 (z := (T 0 2)) rfl m_1265 (by decide) dX12_unlikeBy_74 ?_
            refine x_icmp_ge B (by omega) (tgt := 155) dX12_unlikeBy_77 (by decide) (fun c2 => ?_) (fun c2 => ?_)
            · refine lv_iload_n B.1 B.2.1 dX12_unlikeBy_155 rfl (lv_at hl 1 rfl) ?_
              refine y_ri B hQ h (by decide) dX12_unlikeBy_156 ?_
              exact ⟨rfl, _, rfl, (by first | omega | trivial | assumption)⟩
            · refine lv_iload_n B.1 B.2.1 dX12_unlikeBy_80 rfl (lv_at hl 0 rfl) ?_
              refine x_iconst B dX12_unlikeBy_81 ?_
              refine x_iadd B dX12_unlikeBy_82 ?_
              refine lv_istore (lv' := [(4, .int (iI (a + 1))), (3, .int (iI a)), (2, .int (iI l2)), (0, .ref (am 0))]) B.1 B.2.1 dX12_unlikeBy_83 hl (by decide) rfl (fun ls hl => ?_)
              have loop85 : ∀ (n85 : Nat) (b : Int) (l2 : Int), (xr l2) → (a + 1 ≤ b ∧ b ≤ 301) → ((301 - b : Int)).toNat < n85 → ∀ (H : Heap) (locs : List Loc) (ls : Array Slot), yH D Zk A s w H locs → lv_has ls 5 [(4, .int (iI b)), (3, .int (iI a)), (2, .int (iI l2)), (0, .ref (am 0))] → W p l e r_c_X12_unlikeBy s m args below meth c H locs 0 0 Qf (F0 m 85 ls []) := by
                intro n85
                induction n85 with
                | zero =>
                  intro b l2 xl2 h2 hm85 H locs ls h hl
                  exact absurd hm85 (Nat.not_lt_zero _)
                | succ n85 ih85 =>
                  intro b l2 xl2 h2 hm85 H locs ls h hl
                  refine lv_iload B.1 B.2.1 dX12_unlikeBy_85 (lv_at hl 0 rfl) ?_
                  refine lv_aload_n B.1 B.2.1 dX12_unlikeBy_87 rfl (lv_at hl 3 rfl) ?_
                  refine y_getX B h kX12 50 (MW.f hM 0 _ rfl) 4 (z := (T 0 2)) rfl m_1265 (by decide) dX12_unlikeBy_88 ?_
                  refine x_icmp_ge B (by omega) (tgt := 149) dX12_unlikeBy_91 (by decide) (fun c3 => ?_) (fun c3 => ?_)
                  · refine lv_iinc (v := iI (a + 1)) (lv' := [(3, .int (iI (a + 1))), (4, .int (iI b)), (2, .int (iI l2)), (0, .ref (am 0))]) B.1 B.2.1 dX12_unlikeBy_149 hl (k := 1) rfl (iI_add _ _) (by decide) rfl (fun ls hl => ?_)
                    refine lv_goto (tgt := 72) B.1 B.2.1 dX12_unlikeBy_152 (by decide) ?_
                    exact ih72 ((a + 1)) l2 (by omega) (by omega) (by omega) _ _ _ h (lv_sub hl [0, 2, 3] rfl)
                  · refine lv_aload_n B.1 B.2.1 dX12_unlikeBy_94 rfl (lv_at hl 3 rfl) ?_
                    refine y_getR B h kX12 50 (MW.f hM 0 _ rfl) 68 (b := am 38) rfl m_1329 (by decide) dX12_unlikeBy_95 ?_
                    refine lv_iload_n B.1 B.2.1 dX12_unlikeBy_98 rfl (lv_at hl 1 rfl) ?_
                    refine y_ialdG B h 88 (MW.f hM 38 _ rfl) (by omega) dX12_unlikeBy_99 (fun z4 z4a z4b => ?_)
                    refine x_if_lt B (by omega) (tgt := 143) dX12_unlikeBy_100 (by decide) (fun c5 => ?_) (fun c5 => ?_)
                    · refine lv_iinc (v := iI (b + 1)) (lv' := [(4, .int (iI (b + 1))), (3, .int (iI a)), (2, .int (iI l2)), (0, .ref (am 0))]) B.1 B.2.1 dX12_unlikeBy_143 hl (k := 0) rfl (iI_add _ _) (by decide) rfl (fun ls hl => ?_)
                      refine lv_goto (tgt := 85) B.1 B.2.1 dX12_unlikeBy_146 (by decide) ?_
                      exact ih85 ((b + 1)) l2 (by omega) (by omega) (by omega) _ _ _ h (lv_sub hl [0, 1, 2, 3] rfl)
                    · refine lv_aload_n B.1 B.2.1 dX12_unlikeBy_103 rfl (lv_at hl 3 rfl) ?_
                      refine y_getR B h kX12 50 (MW.f hM 0 _ rfl) 68 (b := am 38) rfl m_1329 (by decide) dX12_unlikeBy_104 ?_
                      refine lv_iload B.1 B.2.1 dX12_unlikeBy_107 (lv_at hl 0 rfl) ?_
                      refine y_ialdG B h 88 (MW.f hM 38 _ rfl) (by omega) dX12_unlikeBy_109 (fun z6 z6a z6b => ?_)
                      refine x_if_lt B (by omega) (tgt := 143) dX12_unlikeBy_110 (by decide) (fun c7 => ?_) (fun c7 => ?_)
                      · refine lv_iinc (v := iI (b + 1)) (lv' := [(4, .int (iI (b + 1))), (3, .int (iI a)), (2, .int (iI l2)), (0, .ref (am 0))]) B.1 B.2.1 dX12_unlikeBy_143 hl (k := 0) rfl (iI_add _ _) (by decide) rfl (fun ls hl => ?_)
                        refine lv_goto (tgt := 85) B.1 B.2.1 dX12_unlikeBy_146 (by decide) ?_
                        exact ih85 ((b + 1)) l2 (by omega) (by omega) (by omega) _ _ _ h (lv_sub hl [0, 1, 2, 3] rfl)
                      · refine lv_aload_n B.1 B.2.1 dX12_unlikeBy_113 rfl (lv_at hl 3 rfl) ?_
                        refine lv_iload_n B.1 B.2.1 dX12_unlikeBy_114 rfl (lv_at hl 1 rfl) ?_
                        refine lv_iload B.1 B.2.1 dX12_unlikeBy_115 (lv_at hl 0 rfl) ?_
                        refine y_cV B h kX12 50 (MW.f hM 0 _ rfl) k_X12_areInSight rfl (c_X12_areInSight l D Zk ca T E am _ hM a b  (by omega) (by omega)) m_1740 rfl (by decide) hl.1 [] (Nat.le_of_ble_eq_true rfl) rfl dX12_unlikeBy_117 (fun r w1 hq H locs h => ?_)
                        obtain ⟨rfl, _, rfl, ⟨rfl, b8⟩ | ⟨rfl, b8⟩⟩ := hq
                        · show W p l e r_c_X12_unlikeBy s m args below meth c _ _ 0 0 Qf (F0 m 120 ls [.int (iI 1)])
                          refine x_if_eq B (by omega) (tgt := 143) dX12_unlikeBy_120 (by decide) (fun c9 => ?_) (fun c9 => ?_)
                          · exact absurd c9 (by omega)
                          · refine lv_iload_n B.1 B.2.1 dX12_unlikeBy_123 rfl (lv_at hl 2 rfl) ?_
                            refine lv_aload_n B.1 B.2.1 dX12_unlikeBy_124 rfl (lv_at hl 3 rfl) ?_
                            refine y_getR B h kX12 50 (MW.f hM 0 _ rfl) 68 (b := am 38) rfl m_1329 (by decide) dX12_unlikeBy_125 ?_
                            refine lv_iload_n B.1 B.2.1 dX12_unlikeBy_128 rfl (lv_at hl 1 rfl) ?_
                            refine y_ialdG B h 88 (MW.f hM 38 _ rfl) (by omega) dX12_unlikeBy_129 (fun z10 z10a z10b => ?_)
                            refine lv_aload_n B.1 B.2.1 dX12_unlikeBy_130 rfl (lv_at hl 3 rfl) ?_
                            refine y_getR B h kX12 50 (MW.f hM 0 _ rfl) 68 (b := am 38) rfl m_1329 (by decide) dX12_unlikeBy_131 ?_
                            refine lv_iload B.1 B.2.1 dX12_unlikeBy_134 (lv_at hl 0 rfl) ?_
                            refine y_ialdG B h 88 (MW.f hM 38 _ rfl) (by omega) dX12_unlikeBy_136 (fun z11 z11a z11b => ?_)
                            refine x_isub B dX12_unlikeBy_137 ?_
                            refine y_cS B h k_X12_abs (c_X12_abs l D Zk ca _ ((z10 - z11))  (by omega)) m_1747 rfl (by decide) hl.1 [.int (iI l2)] (Nat.le_of_ble_eq_true rfl) rfl dX12_unlikeBy_138 (fun r w1 hq H locs h => ?_)
                            obtain ⟨rfl, z12, rfl, hz12⟩ := hq
                            show W p l e r_c_X12_unlikeBy s m args below meth c _ _ 0 0 Qf (F0 m 141 ls [.int (iI z12), .int (iI l2)])
                            refine x_iadd B dX12_unlikeBy_141 ?_
                            refine x_name (fun z13 hz13 ez13 => ?_)
                            refine lv_istore_n (lv' := [(2, .int (iI z13)), (4, .int (iI b)), (3, .int (iI a)), (0, .ref (am 0))]) B.1 B.2.1 dX12_unlikeBy_142 rfl hl (by decide) rfl (fun ls hl => ?_)
                            refine lv_iinc (v := iI (b + 1)) (lv' := [(4, .int (iI (b + 1))), (2, .int (iI z13)), (3, .int (iI a)), (0, .ref (am 0))]) B.1 B.2.1 dX12_unlikeBy_143 hl (k := 1) rfl (iI_add _ _) (by decide) rfl (fun ls hl => ?_)
                            refine lv_goto (tgt := 85) B.1 B.2.1 dX12_unlikeBy_146 (by decide) ?_
                            exact ih85 ((b + 1)) z13 (by omega) (by omega) (by omega) _ _ _ h (lv_sub hl [0, 2, 1, 3] rfl)
                        · show W p l e r_c_X12_unlikeBy s m args below meth c _ _ 0 0 Qf (F0 m 120 ls [.int (iI 0)])
                          refine x_if_eq B (by omega) (tgt := 143) dX12_unlikeBy_120 (by decide) (fun c14 => ?_) (fun c14 => ?_)
                          · refine lv_iinc (v := iI (b + 1)) (lv' := [(4, .int (iI (b + 1))), (3, .int (iI a)), (2, .int (iI l2)), (0, .ref (am 0))]) B.1 B.2.1 dX12_unlikeBy_143 hl (k := 0) rfl (iI_add _ _) (by decide) rfl (fun ls hl => ?_)
                            refine lv_goto (tgt := 85) B.1 B.2.1 dX12_unlikeBy_146 (by decide) ?_
                            exact ih85 ((b + 1)) l2 (by omega) (by omega) (by omega) _ _ _ h (lv_sub hl [0, 1, 2, 3] rfl)
                          · exact absurd c14 (by omega)
              exact loop85 (((301 - ((a + 1)) : Int)).toNat + 1) ((a + 1)) l2 (by omega) (by omega) (Nat.lt_succ_self _) _ _ _ h (lv_sub hl [0, 1, 2, 3] rfl)
        exact loop72 (((300 - 0 : Int)).toNat + 1) 0 0 (by omega) (by omega) (Nat.lt_succ_self _) _ _ _ h (lv_sub hl [0, 1, 2] rfl)
      · refine lv_aload_n B.1 B.2.1 dX12_unlikeBy_10 rfl (lv_at hl 1 rfl) ?_
        refine y_getR B h kX12 50 (MW.f hM 0 _ rfl) 68 (b := am 38) rfl m_1329 (by decide) dX12_unlikeBy_11 ?_
        refine lv_iload_n B.1 B.2.1 dX12_unlikeBy_14 rfl (lv_at hl 0 rfl) ?_
        refine lv_aload_n B.1 B.2.1 dX12_unlikeBy_15 rfl (lv_at hl 1 rfl) ?_
        refine lv_iload_n B.1 B.2.1 dX12_unlikeBy_16 rfl (lv_at hl 0 rfl) ?_
        refine y_cV B h kX12 50 (MW.f hM 0 _ rfl) k_X12_isMan rfl (c_X12_isMan l D Zk ca T E am _ hM k  (by omega)) m_1728 rfl (by decide) hl.1 [.int (iI k), .ref (am 38)] (Nat.le_of_ble_eq_true rfl) rfl dX12_unlikeBy_17 (fun r w1 hq H locs h => ?_)
        obtain ⟨rfl, _, rfl, ⟨rfl, b15⟩ | ⟨rfl, b15⟩⟩ := hq
        · show W p l e r_c_X12_unlikeBy s m args below meth c _ _ 0 0 Qf (F0 m 20 ls [.int (iI 1), .int (iI k), .ref (am 38)])
          refine x_if_eq B (by omega) (tgt := 60) dX12_unlikeBy_20 (by decide) (fun c16 => ?_) (fun c16 => ?_)
          · exact absurd c16 (by omega)
          · refine lv_aload_n B.1 B.2.1 dX12_unlikeBy_23 rfl (lv_at hl 1 rfl) ?_
            refine lv_aload_n B.1 B.2.1 dX12_unlikeBy_24 rfl (lv_at hl 1 rfl) ?_
            refine y_getR B h kX12 50 (MW.f hM 0 _ rfl) 17 (b := am 12) rfl m_1278 (by decide) dX12_unlikeBy_25 ?_
            refine lv_iload_n B.1 B.2.1 dX12_unlikeBy_28 rfl (lv_at hl 0 rfl) ?_
            refine y_ialdX B h 62 (MW.f hM 12 _ rfl) (by omega) dX12_unlikeBy_29 ?_
            refine x_iset (z := (T 7 k)) (by show iI (T 7 (((k : Int).toNat : Nat) : Int)) = _; rw [show ((((k : Int).toNat : Nat) : Int)) = k by omega]) ?_
            have tb17 := pi_7 (MW.pi hM) k
            refine lv_aload_n B.1 B.2.1 dX12_unlikeBy_30 rfl (lv_at hl 1 rfl) ?_
            refine lv_iload_n B.1 B.2.1 dX12_unlikeBy_31 rfl (lv_at hl 0 rfl) ?_
            refine y_cV B h kX12 50 (MW.f hM 0 _ rfl) k_X12_yearOf rfl (c_X12_yearOf l D Zk ca T E am _ hM k  (by omega)) m_1758 rfl (by decide) hl.1 [.int (iI (T 7 k)), .ref (am 0), .int (iI k), .ref (am 38)] (Nat.le_of_ble_eq_true rfl) rfl dX12_unlikeBy_32 (fun r w1 hq H locs h => ?_)
            obtain ⟨rfl, _, rfl, rfl⟩ := hq
            have tb18 := pi_5 (MW.pi hM) k
            show W p l e r_c_X12_unlikeBy s m args below meth c _ _ 0 0 Qf (F0 m 35 ls [.int (iI ((T 5 k) / 100)), .int (iI (T 7 k)), .ref (am 0), .int (iI k), .ref (am 38)])
            refine lv_aload_n B.1 B.2.1 dX12_unlikeBy_35 rfl (lv_at hl 1 rfl) ?_
            refine y_getR B h kX12 50 (MW.f hM 0 _ rfl) 18 (b := am 13) rfl m_1279 (by decide) dX12_unlikeBy_36 ?_
            refine lv_iload_n B.1 B.2.1 dX12_unlikeBy_39 rfl (lv_at hl 0 rfl) ?_
            refine y_ialdX B h 63 (MW.f hM 13 _ rfl) (by omega) dX12_unlikeBy_40 ?_
            refine x_iset (z := (T 8 k)) (by show iI (T 8 (((k : Int).toNat : Nat) : Int)) = _; rw [show ((((k : Int).toNat : Nat) : Int)) = k by omega]) ?_
            have tb19 := pi_8 (MW.pi hM) k
            have tb20 := pi_n (MW.pi hM) k
            refine lv_iload_n B.1 B.2.1 dX12_unlikeBy_41 rfl (lv_at hl 2 rfl) ?_
            refine lv_aload_n B.1 B.2.1 dX12_unlikeBy_42 rfl (lv_at hl 1 rfl) ?_
            refine lv_iload_n B.1 B.2.1 dX12_unlikeBy_43 rfl (lv_at hl 0 rfl) ?_
            refine y_cV B h kX12 50 (MW.f hM 0 _ rfl) k_X12_yearOf rfl (c_X12_yearOf l D Zk ca T E am _ hM k  (by omega)) m_1758 rfl (by decide) hl.1 [.int (iI sc), .int (iI (T 8 k)), .int (iI ((T 5 k) / 100)), .int (iI (T 7 k)), .ref (am 0), .int (iI k), .ref (am 38)] (Nat.le_of_ble_eq_true rfl) rfl dX12_unlikeBy_44 (fun r w1 hq H locs h => ?_)
            obtain ⟨rfl, _, rfl, rfl⟩ := hq
            show W p l e r_c_X12_unlikeBy s m args below meth c _ _ 0 0 Qf (F0 m 47 ls [.int (iI ((T 5 k) / 100)), .int (iI sc), .int (iI (T 8 k)), .int (iI ((T 5 k) / 100)), .int (iI (T 7 k)), .ref (am 0), .int (iI k), .ref (am 38)])
            refine y_cV B h kX12 50 (MW.f hM 0 _ rfl) k_X12_turns rfl (c_X12_turns l D Zk ca T E am _ hM ((T 7 k)) (((T 5 k) / 100)) ((T 8 k)) sc (((T 5 k) / 100))  (by omega) (by omega) (by omega) (by omega) (by omega) (by omega)) m_1715 rfl (by decide) hl.1 [.int (iI k), .ref (am 38)] (Nat.le_of_ble_eq_true rfl) rfl dX12_unlikeBy_47 (fun r w1 hq H locs h => ?_)
            obtain ⟨rfl, _, rfl, ⟨rfl, b21⟩ | ⟨rfl, b21⟩⟩ := hq
            · show W p l e r_c_X12_unlikeBy s m args below meth c _ _ 0 0 Qf (F0 m 50 ls [.int (iI 1), .int (iI k), .ref (am 38)])
              refine x_if_eq B (by omega) (tgt := 60) dX12_unlikeBy_50 (by decide) (fun c22 => ?_) (fun c22 => ?_)
              · exact absurd c22 (by omega)
              · refine lv_aload_n B.1 B.2.1 dX12_unlikeBy_53 rfl (lv_at hl 1 rfl) ?_
                refine y_getG B h kX12 50 (MW.f hM 0 _ rfl) 54 (lo := 0) (hi := 12) rfl m_1315 (by decide) dX12_unlikeBy_54 (fun z23 z23a z23b => ?_)
                refine lv_goto (tgt := 61) B.1 B.2.1 dX12_unlikeBy_57 (by decide) ?_
                refine y_iastS B h 88 (MW.f hM 38 _ rfl) (by omega) (gG_upd (by omega)) dX12_unlikeBy_61 (fun H locs h => ?_)
                refine lv_iinc (v := iI (k + 1)) (lv' := [(2, .int (iI (k + 1))), (0, .ref (am 0)), (1, .int (iI sc))]) B.1 B.2.1 dX12_unlikeBy_62 hl (k := 0) rfl (iI_add _ _) (by decide) rfl (fun ls hl => ?_)
                refine lv_goto (tgt := 2) B.1 B.2.1 dX12_unlikeBy_65 (by decide) ?_
                exact ih2 ((k + 1)) (by omega) (by omega) _ _ _ h (lv_sub hl [0, 1, 2] rfl)
            · show W p l e r_c_X12_unlikeBy s m args below meth c _ _ 0 0 Qf (F0 m 50 ls [.int (iI 0), .int (iI k), .ref (am 38)])
              refine x_if_eq B (by omega) (tgt := 60) dX12_unlikeBy_50 (by decide) (fun c24 => ?_) (fun c24 => ?_)
              · refine x_iconst B dX12_unlikeBy_60 ?_
                refine y_iastS B h 88 (MW.f hM 38 _ rfl) (by omega) (gG_upd (by omega)) dX12_unlikeBy_61 (fun H locs h => ?_)
                refine lv_iinc (v := iI (k + 1)) (lv' := [(2, .int (iI (k + 1))), (0, .ref (am 0)), (1, .int (iI sc))]) B.1 B.2.1 dX12_unlikeBy_62 hl (k := 0) rfl (iI_add _ _) (by decide) rfl (fun ls hl => ?_)
                refine lv_goto (tgt := 2) B.1 B.2.1 dX12_unlikeBy_65 (by decide) ?_
                exact ih2 ((k + 1)) (by omega) (by omega) _ _ _ h (lv_sub hl [0, 1, 2] rfl)
              · exact absurd c24 (by omega)
        · show W p l e r_c_X12_unlikeBy s m args below meth c _ _ 0 0 Qf (F0 m 20 ls [.int (iI 0), .int (iI k), .ref (am 38)])
          refine x_if_eq B (by omega) (tgt := 60) dX12_unlikeBy_20 (by decide) (fun c25 => ?_) (fun c25 => ?_)
          · refine x_iconst B dX12_unlikeBy_60 ?_
            refine y_iastS B h 88 (MW.f hM 38 _ rfl) (by omega) (gG_upd (by omega)) dX12_unlikeBy_61 (fun H locs h => ?_)
            refine lv_iinc (v := iI (k + 1)) (lv' := [(2, .int (iI (k + 1))), (0, .ref (am 0)), (1, .int (iI sc))]) B.1 B.2.1 dX12_unlikeBy_62 hl (k := 0) rfl (iI_add _ _) (by decide) rfl (fun ls hl => ?_)
            refine lv_goto (tgt := 2) B.1 B.2.1 dX12_unlikeBy_65 (by decide) ?_
            exact ih2 ((k + 1)) (by omega) (by omega) _ _ _ h (lv_sub hl [0, 1, 2] rfl)
          · exact absurd c25 (by omega)
  exact loop2 (((300 - 0 : Int)).toNat + 1) 0 (by omega) (Nat.lt_succ_self _) _ _ _ h (lv_sub hl [0, 1, 2] rfl)
abbrev r_c_X12_alike : Room := { frames := 5, cells := 0, slots := 0, locals := 129 }
set_option maxHeartbeats 4000000 in
set_option maxRecDepth 100000 in
theorem c_X12_alike (l : Launch) (D : va_G) (Zk : yK) (ca : Nat → ClassId) (T : Nat → Int → Int) (E : Nat → Int → Int) (am : Nat → Nat) (w : yW) (hM : MW ca T E am w) (scale : Int)  (hscale : xr scale) : yC l D Zk ca yX12_alike cX12_alike 6 (some .int) r_c_X12_alike [.ref (am 0), .int (iI scale)] w (vI w (fun z => xr z)) := by
  refine yC.of2 "WindWordsModel" (by decide) rfl (Nat.le_of_ble_eq_true rfl) ?_
  intro p e s m args below meth c A ls Qf B hnm h hl hQ
  have hl : lv_has ls 6 [(0, .ref (am 0)), (1, .int (iI scale))] := hl
  have hs := pi_s (MW.pi hM)
  have hpe := pe_0 (MW.pe hM)
  refine lv_iload_n B.1 B.2.1 dX12_alike_0 rfl (lv_at hl 1 rfl) ?_
  refine x_iconst B dX12_alike_1 ?_
  refine lv_aload_n B.1 B.2.1 dX12_alike_2 rfl (lv_at hl 0 rfl) ?_
  refine y_getX B h kX12 50 (MW.f hM 0 _ rfl) 23 (z := (E 0 0)) rfl m_1284 (by decide) dX12_alike_3 ?_
  refine x_iconst B dX12_alike_6 ?_
  refine x_isub B dX12_alike_7 ?_
  refine y_cS B h k_X12_within (c_X12_within l D Zk ca _ scale 0 (((E 0 0) - 1))  (by omega) (by omega) (by omega)) m_1515 rfl (by decide) hl.1 [] (Nat.le_of_ble_eq_true rfl) rfl dX12_alike_8 (fun r w1 hq H locs h => ?_)
  obtain ⟨rfl, _, rfl, ⟨rfl, b1⟩ | ⟨rfl, b1⟩⟩ := hq
  · show W p l e r_c_X12_alike s m args below meth c _ _ 0 0 Qf (F0 m 11 ls [.int (iI 1)])
    refine x_if_eq B (by omega) (tgt := 20) dX12_alike_11 (by decide) (fun c2 => ?_) (fun c2 => ?_)
    · exact absurd c2 (by omega)
    · refine lv_aload_n B.1 B.2.1 dX12_alike_14 rfl (lv_at hl 0 rfl) ?_
      refine lv_iload_n B.1 B.2.1 dX12_alike_15 rfl (lv_at hl 1 rfl) ?_
      refine y_cV B h kX12 50 (MW.f hM 0 _ rfl) k_X12_unlikeBy rfl (c_X12_unlikeBy l D Zk ca T E am _ hM scale  (by omega) (by omega)) m_1856 rfl (by decide) hl.1 [] (Nat.le_of_ble_eq_true rfl) rfl dX12_alike_16 (fun r w1 hq H locs h => ?_)
      obtain ⟨rfl, z3, rfl, hz3⟩ := hq
      show W p l e r_c_X12_alike s m args below meth c _ _ 0 0 Qf (F0 m 19 ls [.int (iI z3)])
      refine y_ri B hQ h (by decide) dX12_alike_19 ?_
      exact ⟨rfl, _, rfl, (by first | omega | trivial | assumption)⟩
  · show W p l e r_c_X12_alike s m args below meth c _ _ 0 0 Qf (F0 m 11 ls [.int (iI 0)])
    refine x_if_eq B (by omega) (tgt := 20) dX12_alike_11 (by decide) (fun c4 => ?_) (fun c4 => ?_)
    · refine lv_iload_n B.1 B.2.1 dX12_alike_20 rfl (lv_at hl 1 rfl) ?_
      refine x_iconst B dX12_alike_21 ?_
      refine x_icmp_eq B (by omega) (tgt := 27) dX12_alike_22 (by decide) (fun c5 => ?_) (fun c5 => ?_)
      · refine x_iconst B dX12_alike_27 ?_
        refine lv_istore_n (lv' := [(2, .int (iI (-1))), (0, .ref (am 0)), (1, .int (iI scale))]) B.1 B.2.1 dX12_alike_28 rfl hl (by decide) rfl (fun ls hl => ?_)
        refine x_iconst B dX12_alike_29 ?_
        refine lv_istore_n (lv' := [(3, .int (iI 0)), (2, .int (iI (-1))), (0, .ref (am 0)), (1, .int (iI scale))]) B.1 B.2.1 dX12_alike_30 rfl hl (by decide) rfl (fun ls hl => ?_)
        refine x_iconst B dX12_alike_31 ?_
        refine lv_istore (lv' := [(4, .int (iI 0)), (3, .int (iI 0)), (2, .int (iI (-1))), (0, .ref (am 0)), (1, .int (iI scale))]) B.1 B.2.1 dX12_alike_32 hl (by decide) rfl (fun ls hl => ?_)
        have loop34 : ∀ (n34 : Nat) (b : Int) (su : Int) (s_ : Int), (-1 ≤ b ∧ b ≤ 8) → (xr su) → (0 ≤ s_ ∧ s_ ≤ 8) → ((8 - s_ : Int)).toNat < n34 → ∀ (H : Heap) (locs : List Loc) (ls : Array Slot), yH D Zk A s w H locs → lv_has ls 6 [(4, .int (iI s_)), (3, .int (iI su)), (2, .int (iI b)), (0, .ref (am 0))] → W p l e r_c_X12_alike s m args below meth c H locs 0 0 Qf (F0 m 34 ls []) := by
          intro n34
          induction n34 with
          | zero =>
            intro b su s_ h0 h1 h2 hm34 H locs ls h hl
            exact absurd hm34 (Nat.not_lt_zero _)
          | succ n34 ih34 =>
            intro b su s_ h0 h1 h2 hm34 H locs ls h hl
            refine lv_iload B.1 B.2.1 dX12_alike_34 (lv_at hl 0 rfl) ?_
            refine lv_aload_n B.1 B.2.1 dX12_alike_36 rfl (lv_at hl 3 rfl) ?_
            refine y_getX B h kX12 50 (MW.f hM 0 _ rfl) 23 (z := (E 0 0)) rfl m_1284 (by decide) dX12_alike_37 ?_
            refine x_icmp_ge B (by omega) (tgt := 76) dX12_alike_40 (by decide) (fun c6 => ?_) (fun c6 => ?_)
            · refine lv_iload_n B.1 B.2.1 dX12_alike_76 rfl (lv_at hl 2 rfl) ?_
              refine y_ri B hQ h (by decide) dX12_alike_77 ?_
              exact ⟨rfl, _, rfl, (by first | omega | trivial | assumption)⟩
            · refine lv_aload_n B.1 B.2.1 dX12_alike_43 rfl (lv_at hl 3 rfl) ?_
              refine lv_iload B.1 B.2.1 dX12_alike_44 (lv_at hl 0 rfl) ?_
              refine y_cV B h kX12 50 (MW.f hM 0 _ rfl) k_X12_unlikeBy rfl (c_X12_unlikeBy l D Zk ca T E am _ hM s_  (by omega) (by omega)) m_1856 rfl (by decide) hl.1 [] (Nat.le_of_ble_eq_true rfl) rfl dX12_alike_46 (fun r w1 hq H locs h => ?_)
              obtain ⟨rfl, z7, rfl, hz7⟩ := hq
              show W p l e r_c_X12_alike s m args below meth c _ _ 0 0 Qf (F0 m 49 ls [.int (iI z7)])
              refine lv_istore (lv' := [(5, .int (iI z7)), (4, .int (iI s_)), (3, .int (iI su)), (2, .int (iI b)), (0, .ref (am 0))]) B.1 B.2.1 dX12_alike_49 hl (by decide) rfl (fun ls hl => ?_)
              refine lv_iload_n B.1 B.2.1 dX12_alike_51 rfl (lv_at hl 3 rfl) ?_
              refine x_if_lt B (by omega) (tgt := 64) dX12_alike_52 (by decide) (fun c8 => ?_) (fun c8 => ?_)
              · refine lv_iload B.1 B.2.1 dX12_alike_64 (lv_at hl 1 rfl) ?_
                refine lv_istore_n (lv' := [(2, .int (iI s_)), (5, .int (iI z7)), (4, .int (iI s_)), (3, .int (iI su)), (0, .ref (am 0))]) B.1 B.2.1 dX12_alike_66 rfl hl (by decide) rfl (fun ls hl => ?_)
                refine lv_iload B.1 B.2.1 dX12_alike_67 (lv_at hl 1 rfl) ?_
                refine lv_istore_n (lv' := [(3, .int (iI z7)), (2, .int (iI s_)), (5, .int (iI z7)), (4, .int (iI s_)), (0, .ref (am 0))]) B.1 B.2.1 dX12_alike_69 rfl hl (by decide) rfl (fun ls hl => ?_)
                refine lv_iinc (v := iI (s_ + 1)) (lv' := [(4, .int (iI (s_ + 1))), (3, .int (iI z7)), (2, .int (iI s_)), (5, .int (iI z7)), (0, .ref (am 0))]) B.1 B.2.1 dX12_alike_70 hl (k := 3) rfl (iI_add _ _) (by decide) rfl (fun ls hl => ?_)
                refine lv_goto (tgt := 34) B.1 B.2.1 dX12_alike_73 (by decide) ?_
                exact ih34 s_ z7 ((s_ + 1)) (by omega) (by omega) (by omega) (by omega) _ _ _ h (lv_sub hl [0, 1, 2, 4] rfl)
              · refine lv_iload B.1 B.2.1 dX12_alike_55 (lv_at hl 0 rfl) ?_
                refine lv_iload_n B.1 B.2.1 dX12_alike_57 rfl (lv_at hl 2 rfl) ?_
                refine x_icmp_lt B (by omega) (tgt := 64) dX12_alike_58 (by decide) (fun c9 => ?_) (fun c9 => ?_)
                · refine lv_iload B.1 B.2.1 dX12_alike_64 (lv_at hl 1 rfl) ?_
                  refine lv_istore_n (lv' := [(2, .int (iI s_)), (5, .int (iI z7)), (4, .int (iI s_)), (3, .int (iI su)), (0, .ref (am 0))]) B.1 B.2.1 dX12_alike_66 rfl hl (by decide) rfl (fun ls hl => ?_)
                  refine lv_iload B.1 B.2.1 dX12_alike_67 (lv_at hl 1 rfl) ?_
                  refine lv_istore_n (lv' := [(3, .int (iI z7)), (2, .int (iI s_)), (5, .int (iI z7)), (4, .int (iI s_)), (0, .ref (am 0))]) B.1 B.2.1 dX12_alike_69 rfl hl (by decide) rfl (fun ls hl => ?_)
                  refine lv_iinc (v := iI (s_ + 1)) (lv' := [(4, .int (iI (s_ + 1))), (3, .int (iI z7)), (2, .int (iI s_)), (5, .int (iI z7)), (0, .ref (am 0))]) B.1 B.2.1 dX12_alike_70 hl (k := 3) rfl (iI_add _ _) (by decide) rfl (fun ls hl => ?_)
                  refine lv_goto (tgt := 34) B.1 B.2.1 dX12_alike_73 (by decide) ?_
                  exact ih34 s_ z7 ((s_ + 1)) (by omega) (by omega) (by omega) (by omega) _ _ _ h (lv_sub hl [0, 1, 2, 4] rfl)
                · refine lv_goto (tgt := 70) B.1 B.2.1 dX12_alike_61 (by decide) ?_
                  refine lv_iinc (v := iI (s_ + 1)) (lv' := [(4, .int (iI (s_ + 1))), (5, .int (iI z7)), (3, .int (iI su)), (2, .int (iI b)), (0, .ref (am 0))]) B.1 B.2.1 dX12_alike_70 hl (k := 1) rfl (iI_add _ _) (by decide) rfl (fun ls hl => ?_)
                  refine lv_goto (tgt := 34) B.1 B.2.1 dX12_alike_73 (by decide) ?_
                  exact ih34 b su ((s_ + 1)) (by omega) (by omega) (by omega) (by omega) _ _ _ h (lv_sub hl [0, 2, 3, 4] rfl)
        exact loop34 (((8 - 0 : Int)).toNat + 1) ((-1)) 0 0 (by omega) (by omega) (by omega) (Nat.lt_succ_self _) _ _ _ h (lv_sub hl [0, 1, 2, 3] rfl)
      · refine x_iconst B dX12_alike_25 ?_
        refine y_ri B hQ h (by decide) dX12_alike_26 ?_
        exact ⟨rfl, _, rfl, (by first | omega | trivial | assumption)⟩
    · exact absurd c4 (by omega)
abbrev r_c_X12_agrees : Room := { frames := 3, cells := 0, slots := 0, locals := 66 }
set_option maxHeartbeats 4000000 in
set_option maxRecDepth 100000 in
theorem c_X12_agrees (l : Launch) (D : va_G) (Zk : yK) (ca : Nat → ClassId) (T : Nat → Int → Int) (E : Nat → Int → Int) (am : Nat → Nat) (w : yW) (hM : MW ca T E am w) (v : Int) (ce : Int)  (hv : xr v) (hce : 0 ≤ ce ∧ ce ≤ 63) : yC l D Zk ca yX12_agrees cX12_agrees 5 (some .boolean) r_c_X12_agrees [.ref (am 0), .int (iI v), .int (iI ce)] w (vI w (fun z => (z = 1 ∧ (True)) ∨ (z = 0 ∧ (True)))) := by
  refine yC.of2 "WindWordsModel" (by decide) rfl (Nat.le_of_ble_eq_true rfl) ?_
  intro p e s m args below meth c A ls Qf B hnm h hl hQ
  have hl : lv_has ls 5 [(0, .ref (am 0)), (1, .int (iI v)), (2, .int (iI ce))] := hl
  have hs := pi_s (MW.pi hM)
  have hpe := pe_0 (MW.pe hM)
  refine x_iconst B dX12_agrees_0 ?_
  refine lv_istore_n (lv' := [(3, .int (iI 1)), (0, .ref (am 0)), (1, .int (iI v)), (2, .int (iI ce))]) B.1 B.2.1 dX12_agrees_1 rfl hl (by decide) rfl (fun ls hl => ?_)
  refine x_iconst B dX12_agrees_2 ?_
  refine lv_istore (lv' := [(4, .int (iI 0)), (3, .int (iI 1)), (0, .ref (am 0)), (1, .int (iI v)), (2, .int (iI ce))]) B.1 B.2.1 dX12_agrees_3 hl (by decide) rfl (fun ls hl => ?_)
  have loop5 : ∀ (n5 : Nat) (is : Int) (k : Int), (is = 0 ∨ is = 1) → (0 ≤ k ∧ k ≤ 300) → ((300 - k : Int)).toNat < n5 → ∀ (H : Heap) (locs : List Loc) (ls : Array Slot), yH D Zk A s w H locs → lv_has ls 5 [(4, .int (iI k)), (3, .int (iI is)), (0, .ref (am 0)), (1, .int (iI v)), (2, .int (iI ce))] → W p l e r_c_X12_agrees s m args below meth c H locs 0 0 Qf (F0 m 5 ls []) := by
    intro n5
    induction n5 with
    | zero =>
      intro is k h0 h1 hm5 H locs ls h hl
      exact absurd hm5 (Nat.not_lt_zero _)
    | succ n5 ih5 =>
      intro is k h0 h1 hm5 H locs ls h hl
      refine lv_iload B.1 B.2.1 dX12_agrees_5 (lv_at hl 0 rfl) ?_
      refine lv_aload_n B.1 B.2.1 dX12_agrees_7 rfl (lv_at hl 2 rfl) ?_
      refine y_getX B h kX12 50 (MW.f hM 0 _ rfl) 4 (z := (T 0 2)) rfl m_1265 (by decide) dX12_agrees_8 ?_
      refine x_icmp_ge B (by omega) (tgt := 107) dX12_agrees_11 (by decide) (fun c1 => ?_) (fun c1 => ?_)
      · refine lv_iload_n B.1 B.2.1 dX12_agrees_107 rfl (lv_at hl 1 rfl) ?_
        refine y_rz B hQ h (by decide) (nz01 (by omega)) dX12_agrees_108 ?_
        rcases (show is = 1 ∨ is = 0 by omega) with e9 | e9
        · exact ⟨rfl, _, rfl, Or.inl ⟨e9, (by first | omega | trivial | assumption)⟩⟩
        · exact ⟨rfl, _, rfl, Or.inr ⟨e9, (by first | omega | trivial | assumption)⟩⟩
      · refine lv_aload_n B.1 B.2.1 dX12_agrees_14 rfl (lv_at hl 2 rfl) ?_
        refine y_getR B h kX12 50 (MW.f hM 0 _ rfl) 15 (b := am 10) rfl m_1276 (by decide) dX12_agrees_15 ?_
        refine lv_iload B.1 B.2.1 dX12_agrees_18 (lv_at hl 0 rfl) ?_
        refine y_ialdX B h 60 (MW.f hM 10 _ rfl) (by omega) dX12_agrees_20 ?_
        refine x_iset (z := (T 5 k)) (by show iI (T 5 (((k : Int).toNat : Nat) : Int)) = _; rw [show ((((k : Int).toNat : Nat) : Int)) = k by omega]) ?_
        have tb2 := pi_5 (MW.pi hM) k
        refine lv_iload_n B.1 B.2.1 dX12_agrees_21 rfl (lv_at hl 3 rfl) ?_
        refine x_icmp_ne B (by omega) (tgt := 101) dX12_agrees_22 (by decide) (fun c3 => ?_) (fun c3 => ?_)
        · refine lv_iinc (v := iI (k + 1)) (lv' := [(4, .int (iI (k + 1))), (3, .int (iI is)), (0, .ref (am 0)), (1, .int (iI v)), (2, .int (iI ce))]) B.1 B.2.1 dX12_agrees_101 hl (k := 0) rfl (iI_add _ _) (by decide) rfl (fun ls hl => ?_)
          refine lv_goto (tgt := 5) B.1 B.2.1 dX12_agrees_104 (by decide) ?_
          exact ih5 is ((k + 1)) (by omega) (by omega) (by omega) _ _ _ h (lv_sub hl [0, 1, 2, 3, 4] rfl)
        · refine lv_aload_n B.1 B.2.1 dX12_agrees_25 rfl (lv_at hl 2 rfl) ?_
          refine lv_iload B.1 B.2.1 dX12_agrees_26 (lv_at hl 0 rfl) ?_
          refine y_cV B h kX12 50 (MW.f hM 0 _ rfl) k_X12_isMan rfl (c_X12_isMan l D Zk ca T E am _ hM k  (by omega)) m_1728 rfl (by decide) hl.1 [] (Nat.le_of_ble_eq_true rfl) rfl dX12_agrees_28 (fun r w1 hq H locs h => ?_)
          obtain ⟨rfl, _, rfl, ⟨rfl, b4⟩ | ⟨rfl, b4⟩⟩ := hq
          · show W p l e r_c_X12_agrees s m args below meth c _ _ 0 0 Qf (F0 m 31 ls [.int (iI 1)])
            refine x_if_eq B (by omega) (tgt := 101) dX12_agrees_31 (by decide) (fun c5 => ?_) (fun c5 => ?_)
            · exact absurd c5 (by omega)
            · refine lv_aload_n B.1 B.2.1 dX12_agrees_34 rfl (lv_at hl 2 rfl) ?_
              refine lv_iload B.1 B.2.1 dX12_agrees_35 (lv_at hl 0 rfl) ?_
              refine y_cV B h kX12 50 (MW.f hM 0 _ rfl) k_X12_isTrustedOne rfl (c_X12_isTrustedOne l D Zk ca T E am _ hM k  (by omega)) m_1732 rfl (by decide) hl.1 [] (Nat.le_of_ble_eq_true rfl) rfl dX12_agrees_37 (fun r w1 hq H locs h => ?_)
              obtain ⟨rfl, _, rfl, ⟨rfl, b6⟩ | ⟨rfl, b6⟩⟩ := hq
              · show W p l e r_c_X12_agrees s m args below meth c _ _ 0 0 Qf (F0 m 40 ls [.int (iI 1)])
                refine x_if_ne B (by omega) (tgt := 46) dX12_agrees_40 (by decide) (fun c7 => ?_) (fun c7 => ?_)
                · refine lv_iload_n B.1 B.2.1 dX12_agrees_46 rfl (lv_at hl 1 rfl) ?_
                  refine x_if_eq B (by omega) (tgt := 99) dX12_agrees_47 (by decide) (fun c8 => ?_) (fun c8 => ?_)
                  · refine x_iconst B dX12_agrees_99 ?_
                    refine lv_istore_n (lv' := [(3, .int (iI 0)), (4, .int (iI k)), (0, .ref (am 0)), (1, .int (iI v)), (2, .int (iI ce))]) B.1 B.2.1 dX12_agrees_100 rfl hl (by decide) rfl (fun ls hl => ?_)
                    refine lv_iinc (v := iI (k + 1)) (lv' := [(4, .int (iI (k + 1))), (3, .int (iI 0)), (0, .ref (am 0)), (1, .int (iI v)), (2, .int (iI ce))]) B.1 B.2.1 dX12_agrees_101 hl (k := 1) rfl (iI_add _ _) (by decide) rfl (fun ls hl => ?_)
                    refine lv_goto (tgt := 5) B.1 B.2.1 dX12_agrees_104 (by decide) ?_
                    exact ih5 0 ((k + 1)) (by omega) (by omega) (by omega) _ _ _ h (lv_sub hl [0, 1, 2, 3, 4] rfl)
                  · refine lv_aload_n B.1 B.2.1 dX12_agrees_50 rfl (lv_at hl 2 rfl) ?_
                    refine y_getR B h kX12 50 (MW.f hM 0 _ rfl) 16 (b := am 11) rfl m_1277 (by decide) dX12_agrees_51 ?_
                    refine lv_iload B.1 B.2.1 dX12_agrees_54 (lv_at hl 0 rfl) ?_
                    refine y_ialdX B h 61 (MW.f hM 11 _ rfl) (by omega) dX12_agrees_56 ?_
                    refine x_iset (z := (T 6 k)) (by show iI (T 6 (((k : Int).toNat : Nat) : Int)) = _; rw [show ((((k : Int).toNat : Nat) : Int)) = k by omega]) ?_
                    have tb9 := pi_6 (MW.pi hM) k
                    refine lv_iload_n B.1 B.2.1 dX12_agrees_57 rfl (lv_at hl 4 rfl) ?_
                    refine y_cS B h k_X12_far (c_X12_far l D Zk ca _ ((T 6 k)) ce  (by omega) (by omega)) m_1744 rfl (by decide) hl.1 [] (Nat.le_of_ble_eq_true rfl) rfl dX12_agrees_58 (fun r w1 hq H locs h => ?_)
                    obtain ⟨rfl, z10, rfl, hz10⟩ := hq
                    show W p l e r_c_X12_agrees s m args below meth c _ _ 0 0 Qf (F0 m 61 ls [.int (iI z10)])
                    refine lv_aload_n B.1 B.2.1 dX12_agrees_61 rfl (lv_at hl 2 rfl) ?_
                    refine y_getX B h kX12 50 (MW.f hM 0 _ rfl) 71 (z := (T 0 12)) rfl m_1332 (by decide) dX12_agrees_62 ?_
                    refine x_icmp_gt B (by omega) (tgt := 72) dX12_agrees_65 (by decide) (fun c11 => ?_) (fun c11 => ?_)
                    · refine x_iconst B dX12_agrees_72 ?_
                      refine lv_aload_n B.1 B.2.1 dX12_agrees_73 rfl (lv_at hl 2 rfl) ?_
                      refine y_getR B h kX12 50 (MW.f hM 0 _ rfl) 18 (b := am 13) rfl m_1279 (by decide) dX12_agrees_74 ?_
                      refine lv_iload B.1 B.2.1 dX12_agrees_77 (lv_at hl 0 rfl) ?_
                      refine y_ialdX B h 63 (MW.f hM 13 _ rfl) (by omega) dX12_agrees_79 ?_
                      refine x_iset (z := (T 8 k)) (by show iI (T 8 (((k : Int).toNat : Nat) : Int)) = _; rw [show ((((k : Int).toNat : Nat) : Int)) = k by omega]) ?_
                      have tb12 := pi_8 (MW.pi hM) k
                      have tb13 := pi_n (MW.pi hM) k
                      refine lv_aload_n B.1 B.2.1 dX12_agrees_80 rfl (lv_at hl 2 rfl) ?_
                      refine y_getX B h kX12 50 (MW.f hM 0 _ rfl) 72 (z := (T 0 13)) rfl m_1333 (by decide) dX12_agrees_81 ?_
                      refine x_icmp_lt B (by omega) (tgt := 91) dX12_agrees_84 (by decide) (fun c14 => ?_) (fun c14 => ?_)
                      · refine x_iconst B dX12_agrees_91 ?_
                        refine x_icmp_ne B (by omega) (tgt := 99) dX12_agrees_92 (by decide) (fun c15 => ?_) (fun c15 => ?_)
                        · exact absurd c15 (by omega)
                        · refine x_iconst B dX12_agrees_95 ?_
                          refine lv_goto (tgt := 100) B.1 B.2.1 dX12_agrees_96 (by decide) ?_
                          refine lv_istore_n (lv' := [(3, .int (iI 1)), (4, .int (iI k)), (0, .ref (am 0)), (1, .int (iI v)), (2, .int (iI ce))]) B.1 B.2.1 dX12_agrees_100 rfl hl (by decide) rfl (fun ls hl => ?_)
                          refine lv_iinc (v := iI (k + 1)) (lv' := [(4, .int (iI (k + 1))), (3, .int (iI 1)), (0, .ref (am 0)), (1, .int (iI v)), (2, .int (iI ce))]) B.1 B.2.1 dX12_agrees_101 hl (k := 1) rfl (iI_add _ _) (by decide) rfl (fun ls hl => ?_)
                          refine lv_goto (tgt := 5) B.1 B.2.1 dX12_agrees_104 (by decide) ?_
                          exact ih5 1 ((k + 1)) (by omega) (by omega) (by omega) _ _ _ h (lv_sub hl [0, 1, 2, 3, 4] rfl)
                      · refine x_iconst B dX12_agrees_87 ?_
                        refine lv_goto (tgt := 92) B.1 B.2.1 dX12_agrees_88 (by decide) ?_
                        refine x_icmp_ne B (by omega) (tgt := 99) dX12_agrees_92 (by decide) (fun c16 => ?_) (fun c16 => ?_)
                        · refine x_iconst B dX12_agrees_99 ?_
                          refine lv_istore_n (lv' := [(3, .int (iI 0)), (4, .int (iI k)), (0, .ref (am 0)), (1, .int (iI v)), (2, .int (iI ce))]) B.1 B.2.1 dX12_agrees_100 rfl hl (by decide) rfl (fun ls hl => ?_)
                          refine lv_iinc (v := iI (k + 1)) (lv' := [(4, .int (iI (k + 1))), (3, .int (iI 0)), (0, .ref (am 0)), (1, .int (iI v)), (2, .int (iI ce))]) B.1 B.2.1 dX12_agrees_101 hl (k := 1) rfl (iI_add _ _) (by decide) rfl (fun ls hl => ?_)
                          refine lv_goto (tgt := 5) B.1 B.2.1 dX12_agrees_104 (by decide) ?_
                          exact ih5 0 ((k + 1)) (by omega) (by omega) (by omega) _ _ _ h (lv_sub hl [0, 1, 2, 3, 4] rfl)
                        · exact absurd c16 (by omega)
                    · refine x_iconst B dX12_agrees_68 ?_
                      refine lv_goto (tgt := 73) B.1 B.2.1 dX12_agrees_69 (by decide) ?_
                      refine lv_aload_n B.1 B.2.1 dX12_agrees_73 rfl (lv_at hl 2 rfl) ?_
                      refine y_getR B h kX12 50 (MW.f hM 0 _ rfl) 18 (b := am 13) rfl m_1279 (by decide) dX12_agrees_74 ?_
                      refine lv_iload B.1 B.2.1 dX12_agrees_77 (lv_at hl 0 rfl) ?_
                      refine y_ialdX B h 63 (MW.f hM 13 _ rfl) (by omega) dX12_agrees_79 ?_
                      refine x_iset (z := (T 8 k)) (by show iI (T 8 (((k : Int).toNat : Nat) : Int)) = _; rw [show ((((k : Int).toNat : Nat) : Int)) = k by omega]) ?_
                      have tb17 := pi_8 (MW.pi hM) k
                      have tb18 := pi_n (MW.pi hM) k
                      refine lv_aload_n B.1 B.2.1 dX12_agrees_80 rfl (lv_at hl 2 rfl) ?_
                      refine y_getX B h kX12 50 (MW.f hM 0 _ rfl) 72 (z := (T 0 13)) rfl m_1333 (by decide) dX12_agrees_81 ?_
                      refine x_icmp_lt B (by omega) (tgt := 91) dX12_agrees_84 (by decide) (fun c19 => ?_) (fun c19 => ?_)
                      · refine x_iconst B dX12_agrees_91 ?_
                        refine x_icmp_ne B (by omega) (tgt := 99) dX12_agrees_92 (by decide) (fun c20 => ?_) (fun c20 => ?_)
                        · refine x_iconst B dX12_agrees_99 ?_
                          refine lv_istore_n (lv' := [(3, .int (iI 0)), (4, .int (iI k)), (0, .ref (am 0)), (1, .int (iI v)), (2, .int (iI ce))]) B.1 B.2.1 dX12_agrees_100 rfl hl (by decide) rfl (fun ls hl => ?_)
                          refine lv_iinc (v := iI (k + 1)) (lv' := [(4, .int (iI (k + 1))), (3, .int (iI 0)), (0, .ref (am 0)), (1, .int (iI v)), (2, .int (iI ce))]) B.1 B.2.1 dX12_agrees_101 hl (k := 1) rfl (iI_add _ _) (by decide) rfl (fun ls hl => ?_)
                          refine lv_goto (tgt := 5) B.1 B.2.1 dX12_agrees_104 (by decide) ?_
                          exact ih5 0 ((k + 1)) (by omega) (by omega) (by omega) _ _ _ h (lv_sub hl [0, 1, 2, 3, 4] rfl)
                        · exact absurd c20 (by omega)
                      · refine x_iconst B dX12_agrees_87 ?_
                        refine lv_goto (tgt := 92) B.1 B.2.1 dX12_agrees_88 (by decide) ?_
                        refine x_icmp_ne B (by omega) (tgt := 99) dX12_agrees_92 (by decide) (fun c21 => ?_) (fun c21 => ?_)
                        · exact absurd c21 (by omega)
                        · refine x_iconst B dX12_agrees_95 ?_
                          refine lv_goto (tgt := 100) B.1 B.2.1 dX12_agrees_96 (by decide) ?_
                          refine lv_istore_n (lv' := [(3, .int (iI 1)), (4, .int (iI k)), (0, .ref (am 0)), (1, .int (iI v)), (2, .int (iI ce))]) B.1 B.2.1 dX12_agrees_100 rfl hl (by decide) rfl (fun ls hl => ?_)
                          refine lv_iinc (v := iI (k + 1)) (lv' := [(4, .int (iI (k + 1))), (3, .int (iI 1)), (0, .ref (am 0)), (1, .int (iI v)), (2, .int (iI ce))]) B.1 B.2.1 dX12_agrees_101 hl (k := 1) rfl (iI_add _ _) (by decide) rfl (fun ls hl => ?_)
                          refine lv_goto (tgt := 5) B.1 B.2.1 dX12_agrees_104 (by decide) ?_
                          exact ih5 1 ((k + 1)) (by omega) (by omega) (by omega) _ _ _ h (lv_sub hl [0, 1, 2, 3, 4] rfl)
                · exact absurd c7 (by omega)
              · show W p l e r_c_X12_agrees s m args below meth c _ _ 0 0 Qf (F0 m 40 ls [.int (iI 0)])
                refine x_if_ne B (by omega) (tgt := 46) dX12_agrees_40 (by decide) (fun c22 => ?_) (fun c22 => ?_)
                · exact absurd c22 (by omega)
                · refine lv_goto (tgt := 101) B.1 B.2.1 dX12_agrees_43 (by decide) ?_
                  refine lv_iinc (v := iI (k + 1)) (lv' := [(4, .int (iI (k + 1))), (3, .int (iI is)), (0, .ref (am 0)), (1, .int (iI v)), (2, .int (iI ce))]) B.1 B.2.1 dX12_agrees_101 hl (k := 0) rfl (iI_add _ _) (by decide) rfl (fun ls hl => ?_)
                  refine lv_goto (tgt := 5) B.1 B.2.1 dX12_agrees_104 (by decide) ?_
                  exact ih5 is ((k + 1)) (by omega) (by omega) (by omega) _ _ _ h (lv_sub hl [0, 1, 2, 3, 4] rfl)
          · show W p l e r_c_X12_agrees s m args below meth c _ _ 0 0 Qf (F0 m 31 ls [.int (iI 0)])
            refine x_if_eq B (by omega) (tgt := 101) dX12_agrees_31 (by decide) (fun c23 => ?_) (fun c23 => ?_)
            · refine lv_iinc (v := iI (k + 1)) (lv' := [(4, .int (iI (k + 1))), (3, .int (iI is)), (0, .ref (am 0)), (1, .int (iI v)), (2, .int (iI ce))]) B.1 B.2.1 dX12_agrees_101 hl (k := 0) rfl (iI_add _ _) (by decide) rfl (fun ls hl => ?_)
              refine lv_goto (tgt := 5) B.1 B.2.1 dX12_agrees_104 (by decide) ?_
              exact ih5 is ((k + 1)) (by omega) (by omega) (by omega) _ _ _ h (lv_sub hl [0, 1, 2, 3, 4] rfl)
            · exact absurd c23 (by omega)
  exact loop5 (((300 - 0 : Int)).toNat + 1) 1 0 (by omega) (by omega) (Nat.lt_succ_self _) _ _ _ h (lv_sub hl [0, 1, 2, 3, 4] rfl)
abbrev r_c_X12_isNear : Room := { frames := 2, cells := 0, slots := 0, locals := 43 }
set_option maxHeartbeats 4000000 in
set_option maxRecDepth 100000 in
theorem c_X12_isNear (l : Launch) (D : va_G) (Zk : yK) (ca : Nat → ClassId) (T : Nat → Int → Int) (E : Nat → Int → Int) (am : Nat → Nat) (w : yW) (hM : MW ca T E am w) (v : Int) (ce : Int)  (hv2 : T 0 10 ≤ v ∧ v ≤ T 0 11 ∧ 0 ≤ T 0 10) (hv : xr v) (hce : 0 ≤ ce ∧ ce ≤ 63) : yC l D Zk ca yX12_isNear cX12_isNear 5 (some .boolean) r_c_X12_isNear [.ref (am 0), .int (iI v), .int (iI ce)] w (vI w (fun z => (z = 1 ∧ (True)) ∨ (z = 0 ∧ (True)))) := by
  refine yC.of2 "WindWordsModel" (by decide) rfl (Nat.le_of_ble_eq_true rfl) ?_
  intro p e s m args below meth c A ls Qf B hnm h hl hQ
  have hl : lv_has ls 5 [(0, .ref (am 0)), (1, .int (iI v)), (2, .int (iI ce))] := hl
  have hs := pi_s (MW.pi hM)
  have hpe := pe_0 (MW.pe hM)
  refine x_iconst B dX12_isNear_0 ?_
  refine lv_istore_n (lv' := [(3, .int (iI 0)), (0, .ref (am 0)), (1, .int (iI v)), (2, .int (iI ce))]) B.1 B.2.1 dX12_isNear_1 rfl hl (by decide) rfl (fun ls hl => ?_)
  refine x_iconst B dX12_isNear_2 ?_
  refine lv_istore (lv' := [(4, .int (iI 0)), (3, .int (iI 0)), (0, .ref (am 0)), (1, .int (iI v)), (2, .int (iI ce))]) B.1 B.2.1 dX12_isNear_3 hl (by decide) rfl (fun ls hl => ?_)
  have loop5 : ∀ (n5 : Nat) (is : Int) (k : Int), (is = 0 ∨ is = 1) → (0 ≤ k ∧ k ≤ 64) → ((64 - k : Int)).toNat < n5 → ∀ (H : Heap) (locs : List Loc) (ls : Array Slot), yH D Zk A s w H locs → lv_has ls 5 [(4, .int (iI k)), (3, .int (iI is)), (0, .ref (am 0)), (1, .int (iI v)), (2, .int (iI ce))] → W p l e r_c_X12_isNear s m args below meth c H locs 0 0 Qf (F0 m 5 ls []) := by
    intro n5
    induction n5 with
    | zero =>
      intro is k h0 h1 hm5 H locs ls h hl
      exact absurd hm5 (Nat.not_lt_zero _)
    | succ n5 ih5 =>
      intro is k h0 h1 hm5 H locs ls h hl
      refine lv_iload B.1 B.2.1 dX12_isNear_5 (lv_at hl 0 rfl) ?_
      refine x_bipush B (by decide) dX12_isNear_7 ?_
      refine x_icmp_ge B (by omega) (tgt := 58) dX12_isNear_9 (by decide) (fun c1 => ?_) (fun c1 => ?_)
      · refine lv_iload_n B.1 B.2.1 dX12_isNear_58 rfl (lv_at hl 1 rfl) ?_
        refine y_rz B hQ h (by decide) (nz01 (by omega)) dX12_isNear_59 ?_
        rcases (show is = 1 ∨ is = 0 by omega) with e9 | e9
        · exact ⟨rfl, _, rfl, Or.inl ⟨e9, (by first | omega | trivial | assumption)⟩⟩
        · exact ⟨rfl, _, rfl, Or.inr ⟨e9, (by first | omega | trivial | assumption)⟩⟩
      · refine lv_iload_n B.1 B.2.1 dX12_isNear_12 rfl (lv_at hl 1 rfl) ?_
        refine x_if_ne B (by omega) (tgt := 46) dX12_isNear_13 (by decide) (fun c2 => ?_) (fun c2 => ?_)
        · refine x_iconst B dX12_isNear_46 ?_
          refine lv_goto (tgt := 51) B.1 B.2.1 dX12_isNear_47 (by decide) ?_
          refine lv_istore_n (lv' := [(3, .int (iI 1)), (4, .int (iI k)), (0, .ref (am 0)), (1, .int (iI v)), (2, .int (iI ce))]) B.1 B.2.1 dX12_isNear_51 rfl hl (by decide) rfl (fun ls hl => ?_)
          refine lv_iinc (v := iI (k + 1)) (lv' := [(4, .int (iI (k + 1))), (3, .int (iI 1)), (0, .ref (am 0)), (1, .int (iI v)), (2, .int (iI ce))]) B.1 B.2.1 dX12_isNear_52 hl (k := 1) rfl (iI_add _ _) (by decide) rfl (fun ls hl => ?_)
          refine lv_goto (tgt := 5) B.1 B.2.1 dX12_isNear_55 (by decide) ?_
          exact ih5 1 ((k + 1)) (by omega) (by omega) (by omega) _ _ _ h (lv_sub hl [0, 1, 2, 3, 4] rfl)
        · refine lv_iload B.1 B.2.1 dX12_isNear_16 (lv_at hl 0 rfl) ?_
          refine lv_iload_n B.1 B.2.1 dX12_isNear_18 rfl (lv_at hl 4 rfl) ?_
          refine y_cS B h k_X12_far (c_X12_far l D Zk ca _ k ce  (by omega) (by omega)) m_1744 rfl (by decide) hl.1 [] (Nat.le_of_ble_eq_true rfl) rfl dX12_isNear_19 (fun r w1 hq H locs h => ?_)
          obtain ⟨rfl, z3, rfl, hz3⟩ := hq
          show W p l e r_c_X12_isNear s m args below meth c _ _ 0 0 Qf (F0 m 22 ls [.int (iI z3)])
          refine x_iconst B dX12_isNear_22 ?_
          refine x_icmp_gt B (by omega) (tgt := 50) dX12_isNear_23 (by decide) (fun c4 => ?_) (fun c4 => ?_)
          · refine x_iconst B dX12_isNear_50 ?_
            refine lv_istore_n (lv' := [(3, .int (iI 0)), (4, .int (iI k)), (0, .ref (am 0)), (1, .int (iI v)), (2, .int (iI ce))]) B.1 B.2.1 dX12_isNear_51 rfl hl (by decide) rfl (fun ls hl => ?_)
            refine lv_iinc (v := iI (k + 1)) (lv' := [(4, .int (iI (k + 1))), (3, .int (iI 0)), (0, .ref (am 0)), (1, .int (iI v)), (2, .int (iI ce))]) B.1 B.2.1 dX12_isNear_52 hl (k := 1) rfl (iI_add _ _) (by decide) rfl (fun ls hl => ?_)
            refine lv_goto (tgt := 5) B.1 B.2.1 dX12_isNear_55 (by decide) ?_
            exact ih5 0 ((k + 1)) (by omega) (by omega) (by omega) _ _ _ h (lv_sub hl [0, 1, 2, 3, 4] rfl)
          · refine lv_aload_n B.1 B.2.1 dX12_isNear_26 rfl (lv_at hl 2 rfl) ?_
            refine y_getR B h kX12 50 (MW.f hM 0 _ rfl) 73 (b := am 39) rfl m_1334 (by decide) dX12_isNear_27 ?_
            refine x_bipush B (by decide) dX12_isNear_30 ?_
            refine lv_iload_n B.1 B.2.1 dX12_isNear_32 rfl (lv_at hl 3 rfl) ?_
            refine lv_aload_n B.1 B.2.1 dX12_isNear_33 rfl (lv_at hl 2 rfl) ?_
            refine y_getX B h kX12 50 (MW.f hM 0 _ rfl) 69 (z := (T 0 10)) rfl m_1330 (by decide) dX12_isNear_34 ?_
            refine x_isub B dX12_isNear_37 ?_
            refine x_imul B dX12_isNear_38 ?_
            refine lv_iload B.1 B.2.1 dX12_isNear_39 (lv_at hl 0 rfl) ?_
            refine x_iadd B dX12_isNear_41 ?_
            refine y_zaldG B h 89 (MW.f hM 39 _ rfl) (by omega) dX12_isNear_42 (fun z5 z5a z5b => ?_)
            refine x_if_eq B (by omega) (tgt := 50) dX12_isNear_43 (by decide) (fun c6 => ?_) (fun c6 => ?_)
            · refine x_iconst B dX12_isNear_50 ?_
              refine lv_istore_n (lv' := [(3, .int (iI 0)), (4, .int (iI k)), (0, .ref (am 0)), (1, .int (iI v)), (2, .int (iI ce))]) B.1 B.2.1 dX12_isNear_51 rfl hl (by decide) rfl (fun ls hl => ?_)
              refine lv_iinc (v := iI (k + 1)) (lv' := [(4, .int (iI (k + 1))), (3, .int (iI 0)), (0, .ref (am 0)), (1, .int (iI v)), (2, .int (iI ce))]) B.1 B.2.1 dX12_isNear_52 hl (k := 1) rfl (iI_add _ _) (by decide) rfl (fun ls hl => ?_)
              refine lv_goto (tgt := 5) B.1 B.2.1 dX12_isNear_55 (by decide) ?_
              exact ih5 0 ((k + 1)) (by omega) (by omega) (by omega) _ _ _ h (lv_sub hl [0, 1, 2, 3, 4] rfl)
            · refine x_iconst B dX12_isNear_46 ?_
              refine lv_goto (tgt := 51) B.1 B.2.1 dX12_isNear_47 (by decide) ?_
              refine lv_istore_n (lv' := [(3, .int (iI 1)), (4, .int (iI k)), (0, .ref (am 0)), (1, .int (iI v)), (2, .int (iI ce))]) B.1 B.2.1 dX12_isNear_51 rfl hl (by decide) rfl (fun ls hl => ?_)
              refine lv_iinc (v := iI (k + 1)) (lv' := [(4, .int (iI (k + 1))), (3, .int (iI 1)), (0, .ref (am 0)), (1, .int (iI v)), (2, .int (iI ce))]) B.1 B.2.1 dX12_isNear_52 hl (k := 1) rfl (iI_add _ _) (by decide) rfl (fun ls hl => ?_)
              refine lv_goto (tgt := 5) B.1 B.2.1 dX12_isNear_55 (by decide) ?_
              exact ih5 1 ((k + 1)) (by omega) (by omega) (by omega) _ _ _ h (lv_sub hl [0, 1, 2, 3, 4] rfl)
  exact loop5 (((64 - 0 : Int)).toNat + 1) 0 0 (by omega) (by omega) (Nat.lt_succ_self _) _ _ _ h (lv_sub hl [0, 1, 2, 3, 4] rfl)
abbrev r_c_X12_findWays : Room := { frames := 4, cells := 0, slots := 0, locals := 90 }
set_option maxHeartbeats 4000000 in
set_option maxRecDepth 100000 in
theorem c_X12_findWays (l : Launch) (D : va_G) (Zk : yK) (ca : Nat → ClassId) (T : Nat → Int → Int) (E : Nat → Int → Int) (am : Nat → Nat) (w : yW) (hM : MW ca T E am w)   (hv2 : 0 ≤ T 0 10) : yC l D Zk ca yX12_findWays cX12_findWays 3 none r_c_X12_findWays [.ref (am 0)] w (vV w) := by
  refine yC.of2 "WindWordsModel" (by decide) rfl (Nat.le_of_ble_eq_true rfl) ?_
  intro p e s m args below meth c A ls Qf B hnm h hl hQ
  have hl : lv_has ls 3 [(0, .ref (am 0))] := hl
  have hs := pi_s (MW.pi hM)
  have hpe := pe_0 (MW.pe hM)
  refine lv_aload_n B.1 B.2.1 dX12_findWays_0 rfl (lv_at hl 0 rfl) ?_
  refine y_getX B h kX12 50 (MW.f hM 0 _ rfl) 69 (z := (T 0 10)) rfl m_1330 (by decide) dX12_findWays_1 ?_
  refine lv_istore_n (lv' := [(1, .int (iI (T 0 10))), (0, .ref (am 0))]) B.1 B.2.1 dX12_findWays_4 rfl hl (by decide) rfl (fun ls hl => ?_)
  have loop5 : ∀ (n5 : Nat) (v : Int), (T 0 10 ≤ v ∧ v ≤ T 0 11 + 1) → ((1001 - v : Int)).toNat < n5 → ∀ (H : Heap) (locs : List Loc) (ls : Array Slot), yH D Zk A s w H locs → lv_has ls 3 [(1, .int (iI v)), (0, .ref (am 0))] → W p l e r_c_X12_findWays s m args below meth c H locs 0 0 Qf (F0 m 5 ls []) := by
    intro n5
    induction n5 with
    | zero =>
      intro v h0 hm5 H locs ls h hl
      exact absurd hm5 (Nat.not_lt_zero _)
    | succ n5 ih5 =>
      intro v h0 hm5 H locs ls h hl
      refine lv_iload_n B.1 B.2.1 dX12_findWays_5 rfl (lv_at hl 0 rfl) ?_
      refine lv_aload_n B.1 B.2.1 dX12_findWays_6 rfl (lv_at hl 1 rfl) ?_
      refine y_getX B h kX12 50 (MW.f hM 0 _ rfl) 70 (z := (T 0 11)) rfl m_1331 (by decide) dX12_findWays_7 ?_
      refine x_icmp_gt B (by omega) (tgt := 82) dX12_findWays_10 (by decide) (fun c1 => ?_) (fun c1 => ?_)
      · refine lv_aload_n B.1 B.2.1 dX12_findWays_82 rfl (lv_at hl 1 rfl) ?_
        refine y_getX B h kX12 50 (MW.f hM 0 _ rfl) 70 (z := (T 0 11)) rfl m_1331 (by decide) dX12_findWays_83 ?_
        refine x_iconst B dX12_findWays_86 ?_
        refine x_isub B dX12_findWays_87 ?_
        refine lv_istore_n (lv' := [(1, .int (iI ((T 0 11) - 1))), (0, .ref (am 0))]) B.1 B.2.1 dX12_findWays_88 rfl hl (by decide) rfl (fun ls hl => ?_)
        have loop89 : ∀ (n89 : Nat) (v : Int), (T 0 10 - 1 ≤ v ∧ v ≤ T 0 11 - 1) → ((v + 1 : Int)).toNat < n89 → ∀ (H : Heap) (locs : List Loc) (ls : Array Slot), yH D Zk A s w H locs → lv_has ls 3 [(1, .int (iI v)), (0, .ref (am 0))] → W p l e r_c_X12_findWays s m args below meth c H locs 0 0 Qf (F0 m 89 ls []) := by
          intro n89
          induction n89 with
          | zero =>
            intro v h2 hm89 H locs ls h hl
            exact absurd hm89 (Nat.not_lt_zero _)
          | succ n89 ih89 =>
            intro v h2 hm89 H locs ls h hl
            refine lv_iload_n B.1 B.2.1 dX12_findWays_89 rfl (lv_at hl 0 rfl) ?_
            refine lv_aload_n B.1 B.2.1 dX12_findWays_90 rfl (lv_at hl 1 rfl) ?_
            refine y_getX B h kX12 50 (MW.f hM 0 _ rfl) 69 (z := (T 0 10)) rfl m_1330 (by decide) dX12_findWays_91 ?_
            refine x_icmp_lt B (by omega) (tgt := 168) dX12_findWays_94 (by decide) (fun c2 => ?_) (fun c2 => ?_)
            · refine y_rv B hQ h (by decide) dX12_findWays_168 ?_
              exact ⟨rfl, rfl⟩
            · refine x_iconst B dX12_findWays_97 ?_
              refine lv_istore_n (lv' := [(2, .int (iI 0)), (1, .int (iI v)), (0, .ref (am 0))]) B.1 B.2.1 dX12_findWays_98 rfl hl (by decide) rfl (fun ls hl => ?_)
              have loop99 : ∀ (n99 : Nat) (ce : Int), (0 ≤ ce ∧ ce ≤ 64) → ((64 - ce : Int)).toNat < n99 → ∀ (H : Heap) (locs : List Loc) (ls : Array Slot), yH D Zk A s w H locs → lv_has ls 3 [(2, .int (iI ce)), (1, .int (iI v)), (0, .ref (am 0))] → W p l e r_c_X12_findWays s m args below meth c H locs 0 0 Qf (F0 m 99 ls []) := by
                intro n99
                induction n99 with
                | zero =>
                  intro ce h3 hm99 H locs ls h hl
                  exact absurd hm99 (Nat.not_lt_zero _)
                | succ n99 ih99 =>
                  intro ce h3 hm99 H locs ls h hl
                  refine lv_iload_n B.1 B.2.1 dX12_findWays_99 rfl (lv_at hl 0 rfl) ?_
                  refine x_bipush B (by decide) dX12_findWays_100 ?_
                  refine x_icmp_ge B (by omega) (tgt := 162) dX12_findWays_102 (by decide) (fun c3 => ?_) (fun c3 => ?_)
                  · refine lv_iinc (v := iI (v + (-1))) (lv' := [(1, .int (iI (v + (-1)))), (2, .int (iI ce)), (0, .ref (am 0))]) B.1 B.2.1 dX12_findWays_162 hl (k := 1) rfl (iI_add _ _) (by decide) rfl (fun ls hl => ?_)
                    refine lv_goto (tgt := 89) B.1 B.2.1 dX12_findWays_165 (by decide) ?_
                    exact ih89 ((v + (-1))) (by omega) (by omega) _ _ _ h (lv_sub hl [0, 2] rfl)
                  · refine lv_aload_n B.1 B.2.1 dX12_findWays_105 rfl (lv_at hl 2 rfl) ?_
                    refine y_getR B h kX12 50 (MW.f hM 0 _ rfl) 73 (b := am 39) rfl m_1334 (by decide) dX12_findWays_106 ?_
                    refine x_bipush B (by decide) dX12_findWays_109 ?_
                    refine lv_iload_n B.1 B.2.1 dX12_findWays_111 rfl (lv_at hl 1 rfl) ?_
                    refine lv_aload_n B.1 B.2.1 dX12_findWays_112 rfl (lv_at hl 2 rfl) ?_
                    refine y_getX B h kX12 50 (MW.f hM 0 _ rfl) 69 (z := (T 0 10)) rfl m_1330 (by decide) dX12_findWays_113 ?_
                    refine x_isub B dX12_findWays_116 ?_
                    refine x_imul B dX12_findWays_117 ?_
                    refine lv_iload_n B.1 B.2.1 dX12_findWays_118 rfl (lv_at hl 0 rfl) ?_
                    refine x_iadd B dX12_findWays_119 ?_
                    refine lv_aload_n B.1 B.2.1 dX12_findWays_120 rfl (lv_at hl 2 rfl) ?_
                    refine y_getR B h kX12 50 (MW.f hM 0 _ rfl) 73 (b := am 39) rfl m_1334 (by decide) dX12_findWays_121 ?_
                    refine x_bipush B (by decide) dX12_findWays_124 ?_
                    refine lv_iload_n B.1 B.2.1 dX12_findWays_126 rfl (lv_at hl 1 rfl) ?_
                    refine lv_aload_n B.1 B.2.1 dX12_findWays_127 rfl (lv_at hl 2 rfl) ?_
                    refine y_getX B h kX12 50 (MW.f hM 0 _ rfl) 69 (z := (T 0 10)) rfl m_1330 (by decide) dX12_findWays_128 ?_
                    refine x_isub B dX12_findWays_131 ?_
                    refine x_imul B dX12_findWays_132 ?_
                    refine lv_iload_n B.1 B.2.1 dX12_findWays_133 rfl (lv_at hl 0 rfl) ?_
                    refine x_iadd B dX12_findWays_134 ?_
                    refine y_zaldG B h 89 (MW.f hM 39 _ rfl) (by omega) dX12_findWays_135 (fun z4 z4a z4b => ?_)
                    refine x_if_eq B (by omega) (tgt := 154) dX12_findWays_136 (by decide) (fun c5 => ?_) (fun c5 => ?_)
                    · refine x_iconst B dX12_findWays_154 ?_
                      refine y_zastS B h 89 (MW.f hM 39 _ rfl) (by omega) (gG_updZ (by omega)) dX12_findWays_155 (fun H locs h => ?_)
                      refine lv_iinc (v := iI (ce + 1)) (lv' := [(2, .int (iI (ce + 1))), (1, .int (iI v)), (0, .ref (am 0))]) B.1 B.2.1 dX12_findWays_156 hl (k := 0) rfl (iI_add _ _) (by decide) rfl (fun ls hl => ?_)
                      refine lv_goto (tgt := 99) B.1 B.2.1 dX12_findWays_159 (by decide) ?_
                      exact ih99 ((ce + 1)) (by omega) (by omega) _ _ _ h (lv_sub hl [0, 1, 2] rfl)
                    · refine lv_aload_n B.1 B.2.1 dX12_findWays_139 rfl (lv_at hl 2 rfl) ?_
                      refine lv_iload_n B.1 B.2.1 dX12_findWays_140 rfl (lv_at hl 1 rfl) ?_
                      refine x_iconst B dX12_findWays_141 ?_
                      refine x_iadd B dX12_findWays_142 ?_
                      refine lv_iload_n B.1 B.2.1 dX12_findWays_143 rfl (lv_at hl 0 rfl) ?_
                      refine y_cV B h kX12 50 (MW.f hM 0 _ rfl) k_X12_isNear rfl (c_X12_isNear l D Zk ca T E am _ hM ((v + 1)) ce  (by omega) (by omega) (by omega)) m_1872 rfl (by decide) hl.1 [.int (iI ((64 * (v - (T 0 10))) + ce)), .ref (am 39)] (Nat.le_of_ble_eq_true rfl) rfl dX12_findWays_144 (fun r w1 hq H locs h => ?_)
                      obtain ⟨rfl, _, rfl, ⟨rfl, b6⟩ | ⟨rfl, b6⟩⟩ := hq
                      · show W p l e r_c_X12_findWays s m args below meth c _ _ 0 0 Qf (F0 m 147 ls [.int (iI 1), .int (iI ((64 * (v - (T 0 10))) + ce)), .ref (am 39)])
                        refine x_if_eq B (by omega) (tgt := 154) dX12_findWays_147 (by decide) (fun c7 => ?_) (fun c7 => ?_)
                        · exact absurd c7 (by omega)
                        · refine x_iconst B dX12_findWays_150 ?_
                          refine lv_goto (tgt := 155) B.1 B.2.1 dX12_findWays_151 (by decide) ?_
                          refine y_zastS B h 89 (MW.f hM 39 _ rfl) (by omega) (gG_updZ (by omega)) dX12_findWays_155 (fun H locs h => ?_)
                          refine lv_iinc (v := iI (ce + 1)) (lv' := [(2, .int (iI (ce + 1))), (1, .int (iI v)), (0, .ref (am 0))]) B.1 B.2.1 dX12_findWays_156 hl (k := 0) rfl (iI_add _ _) (by decide) rfl (fun ls hl => ?_)
                          refine lv_goto (tgt := 99) B.1 B.2.1 dX12_findWays_159 (by decide) ?_
                          exact ih99 ((ce + 1)) (by omega) (by omega) _ _ _ h (lv_sub hl [0, 1, 2] rfl)
                      · show W p l e r_c_X12_findWays s m args below meth c _ _ 0 0 Qf (F0 m 147 ls [.int (iI 0), .int (iI ((64 * (v - (T 0 10))) + ce)), .ref (am 39)])
                        refine x_if_eq B (by omega) (tgt := 154) dX12_findWays_147 (by decide) (fun c8 => ?_) (fun c8 => ?_)
                        · refine x_iconst B dX12_findWays_154 ?_
                          refine y_zastS B h 89 (MW.f hM 39 _ rfl) (by omega) (gG_updZ (by omega)) dX12_findWays_155 (fun H locs h => ?_)
                          refine lv_iinc (v := iI (ce + 1)) (lv' := [(2, .int (iI (ce + 1))), (1, .int (iI v)), (0, .ref (am 0))]) B.1 B.2.1 dX12_findWays_156 hl (k := 0) rfl (iI_add _ _) (by decide) rfl (fun ls hl => ?_)
                          refine lv_goto (tgt := 99) B.1 B.2.1 dX12_findWays_159 (by decide) ?_
                          exact ih99 ((ce + 1)) (by omega) (by omega) _ _ _ h (lv_sub hl [0, 1, 2] rfl)
                        · exact absurd c8 (by omega)
              exact loop99 (((64 - 0 : Int)).toNat + 1) 0 (by omega) (Nat.lt_succ_self _) _ _ _ h (lv_sub hl [0, 1, 2] rfl)
        exact loop89 ((((((T 0 11) - 1)) + 1 : Int)).toNat + 1) (((T 0 11) - 1)) (by omega) (Nat.lt_succ_self _) _ _ _ h (lv_sub hl [0, 1] rfl)
      · refine x_iconst B dX12_findWays_13 ?_
        refine lv_istore_n (lv' := [(2, .int (iI 0)), (1, .int (iI v)), (0, .ref (am 0))]) B.1 B.2.1 dX12_findWays_14 rfl hl (by decide) rfl (fun ls hl => ?_)
        have loop15 : ∀ (n15 : Nat) (ce : Int), (0 ≤ ce ∧ ce ≤ 64) → ((64 - ce : Int)).toNat < n15 → ∀ (H : Heap) (locs : List Loc) (ls : Array Slot), yH D Zk A s w H locs → lv_has ls 3 [(2, .int (iI ce)), (1, .int (iI v)), (0, .ref (am 0))] → W p l e r_c_X12_findWays s m args below meth c H locs 0 0 Qf (F0 m 15 ls []) := by
          intro n15
          induction n15 with
          | zero =>
            intro ce h1 hm15 H locs ls h hl
            exact absurd hm15 (Nat.not_lt_zero _)
          | succ n15 ih15 =>
            intro ce h1 hm15 H locs ls h hl
            refine lv_iload_n B.1 B.2.1 dX12_findWays_15 rfl (lv_at hl 0 rfl) ?_
            refine x_bipush B (by decide) dX12_findWays_16 ?_
            refine x_icmp_ge B (by omega) (tgt := 76) dX12_findWays_18 (by decide) (fun c9 => ?_) (fun c9 => ?_)
            · refine lv_iinc (v := iI (v + 1)) (lv' := [(1, .int (iI (v + 1))), (2, .int (iI ce)), (0, .ref (am 0))]) B.1 B.2.1 dX12_findWays_76 hl (k := 1) rfl (iI_add _ _) (by decide) rfl (fun ls hl => ?_)
              refine lv_goto (tgt := 5) B.1 B.2.1 dX12_findWays_79 (by decide) ?_
              exact ih5 ((v + 1)) (by omega) (by omega) _ _ _ h (lv_sub hl [0, 2] rfl)
            · refine lv_aload_n B.1 B.2.1 dX12_findWays_21 rfl (lv_at hl 2 rfl) ?_
              refine y_getR B h kX12 50 (MW.f hM 0 _ rfl) 73 (b := am 39) rfl m_1334 (by decide) dX12_findWays_22 ?_
              refine x_bipush B (by decide) dX12_findWays_25 ?_
              refine lv_iload_n B.1 B.2.1 dX12_findWays_27 rfl (lv_at hl 1 rfl) ?_
              refine lv_aload_n B.1 B.2.1 dX12_findWays_28 rfl (lv_at hl 2 rfl) ?_
              refine y_getX B h kX12 50 (MW.f hM 0 _ rfl) 69 (z := (T 0 10)) rfl m_1330 (by decide) dX12_findWays_29 ?_
              refine x_isub B dX12_findWays_32 ?_
              refine x_imul B dX12_findWays_33 ?_
              refine lv_iload_n B.1 B.2.1 dX12_findWays_34 rfl (lv_at hl 0 rfl) ?_
              refine x_iadd B dX12_findWays_35 ?_
              refine lv_aload_n B.1 B.2.1 dX12_findWays_36 rfl (lv_at hl 2 rfl) ?_
              refine lv_iload_n B.1 B.2.1 dX12_findWays_37 rfl (lv_at hl 1 rfl) ?_
              refine lv_iload_n B.1 B.2.1 dX12_findWays_38 rfl (lv_at hl 0 rfl) ?_
              refine y_cV B h kX12 50 (MW.f hM 0 _ rfl) k_X12_agrees rfl (c_X12_agrees l D Zk ca T E am _ hM v ce  (by omega) (by omega)) m_1868 rfl (by decide) hl.1 [.int (iI ((64 * (v - (T 0 10))) + ce)), .ref (am 39)] (Nat.le_of_ble_eq_true rfl) rfl dX12_findWays_39 (fun r w1 hq H locs h => ?_)
              obtain ⟨rfl, _, rfl, ⟨rfl, b10⟩ | ⟨rfl, b10⟩⟩ := hq
              · show W p l e r_c_X12_findWays s m args below meth c _ _ 0 0 Qf (F0 m 42 ls [.int (iI 1), .int (iI ((64 * (v - (T 0 10))) + ce)), .ref (am 39)])
                refine x_if_eq B (by omega) (tgt := 68) dX12_findWays_42 (by decide) (fun c11 => ?_) (fun c11 => ?_)
                · exact absurd c11 (by omega)
                · refine lv_iload_n B.1 B.2.1 dX12_findWays_45 rfl (lv_at hl 1 rfl) ?_
                  refine lv_aload_n B.1 B.2.1 dX12_findWays_46 rfl (lv_at hl 2 rfl) ?_
                  refine y_getX B h kX12 50 (MW.f hM 0 _ rfl) 69 (z := (T 0 10)) rfl m_1330 (by decide) dX12_findWays_47 ?_
                  refine x_icmp_eq B (by omega) (tgt := 64) dX12_findWays_50 (by decide) (fun c12 => ?_) (fun c12 => ?_)
                  · refine x_iconst B dX12_findWays_64 ?_
                    refine lv_goto (tgt := 69) B.1 B.2.1 dX12_findWays_65 (by decide) ?_
                    refine y_zastS B h 89 (MW.f hM 39 _ rfl) (by omega) (gG_updZ (by omega)) dX12_findWays_69 (fun H locs h => ?_)
                    refine lv_iinc (v := iI (ce + 1)) (lv' := [(2, .int (iI (ce + 1))), (1, .int (iI v)), (0, .ref (am 0))]) B.1 B.2.1 dX12_findWays_70 hl (k := 0) rfl (iI_add _ _) (by decide) rfl (fun ls hl => ?_)
                    refine lv_goto (tgt := 15) B.1 B.2.1 dX12_findWays_73 (by decide) ?_
                    exact ih15 ((ce + 1)) (by omega) (by omega) _ _ _ h (lv_sub hl [0, 1, 2] rfl)
                  · refine lv_aload_n B.1 B.2.1 dX12_findWays_53 rfl (lv_at hl 2 rfl) ?_
                    refine lv_iload_n B.1 B.2.1 dX12_findWays_54 rfl (lv_at hl 1 rfl) ?_
                    refine x_iconst B dX12_findWays_55 ?_
                    refine x_isub B dX12_findWays_56 ?_
                    refine lv_iload_n B.1 B.2.1 dX12_findWays_57 rfl (lv_at hl 0 rfl) ?_
                    refine y_cV B h kX12 50 (MW.f hM 0 _ rfl) k_X12_isNear rfl (c_X12_isNear l D Zk ca T E am _ hM ((v - 1)) ce  (by omega) (by omega) (by omega)) m_1872 rfl (by decide) hl.1 [.int (iI ((64 * (v - (T 0 10))) + ce)), .ref (am 39)] (Nat.le_of_ble_eq_true rfl) rfl dX12_findWays_58 (fun r w1 hq H locs h => ?_)
                    obtain ⟨rfl, _, rfl, ⟨rfl, b13⟩ | ⟨rfl, b13⟩⟩ := hq
                    · show W p l e r_c_X12_findWays s m args below meth c _ _ 0 0 Qf (F0 m 61 ls [.int (iI 1), .int (iI ((64 * (v - (T 0 10))) + ce)), .ref (am 39)])
                      refine x_if_eq B (by omega) (tgt := 68) dX12_findWays_61 (by decide) (fun c14 => ?_) (fun c14 => ?_)
                      · exact absurd c14 (by omega)
                      · refine x_iconst B dX12_findWays_64 ?_
                        refine lv_goto (tgt := 69) B.1 B.2.1 dX12_findWays_65 (by decide) ?_
                        refine y_zastS B h 89 (MW.f hM 39 _ rfl) (by omega) (gG_updZ (by omega)) dX12_findWays_69 (fun H locs h => ?_)
                        refine lv_iinc (v := iI (ce + 1)) (lv' := [(2, .int (iI (ce + 1))), (1, .int (iI v)), (0, .ref (am 0))]) B.1 B.2.1 dX12_findWays_70 hl (k := 0) rfl (iI_add _ _) (by decide) rfl (fun ls hl => ?_)
                        refine lv_goto (tgt := 15) B.1 B.2.1 dX12_findWays_73 (by decide) ?_
                        exact ih15 ((ce + 1)) (by omega) (by omega) _ _ _ h (lv_sub hl [0, 1, 2] rfl)
                    · show W p l e r_c_X12_findWays s m args below meth c _ _ 0 0 Qf (F0 m 61 ls [.int (iI 0), .int (iI ((64 * (v - (T 0 10))) + ce)), .ref (am 39)])
                      refine x_if_eq B (by omega) (tgt := 68) dX12_findWays_61 (by decide) (fun c15 => ?_) (fun c15 => ?_)
                      · refine x_iconst B dX12_findWays_68 ?_
                        refine y_zastS B h 89 (MW.f hM 39 _ rfl) (by omega) (gG_updZ (by omega)) dX12_findWays_69 (fun H locs h => ?_)
                        refine lv_iinc (v := iI (ce + 1)) (lv' := [(2, .int (iI (ce + 1))), (1, .int (iI v)), (0, .ref (am 0))]) B.1 B.2.1 dX12_findWays_70 hl (k := 0) rfl (iI_add _ _) (by decide) rfl (fun ls hl => ?_)
                        refine lv_goto (tgt := 15) B.1 B.2.1 dX12_findWays_73 (by decide) ?_
                        exact ih15 ((ce + 1)) (by omega) (by omega) _ _ _ h (lv_sub hl [0, 1, 2] rfl)
                      · exact absurd c15 (by omega)
              · show W p l e r_c_X12_findWays s m args below meth c _ _ 0 0 Qf (F0 m 42 ls [.int (iI 0), .int (iI ((64 * (v - (T 0 10))) + ce)), .ref (am 39)])
                refine x_if_eq B (by omega) (tgt := 68) dX12_findWays_42 (by decide) (fun c16 => ?_) (fun c16 => ?_)
                · refine x_iconst B dX12_findWays_68 ?_
                  refine y_zastS B h 89 (MW.f hM 39 _ rfl) (by omega) (gG_updZ (by omega)) dX12_findWays_69 (fun H locs h => ?_)
                  refine lv_iinc (v := iI (ce + 1)) (lv' := [(2, .int (iI (ce + 1))), (1, .int (iI v)), (0, .ref (am 0))]) B.1 B.2.1 dX12_findWays_70 hl (k := 0) rfl (iI_add _ _) (by decide) rfl (fun ls hl => ?_)
                  refine lv_goto (tgt := 15) B.1 B.2.1 dX12_findWays_73 (by decide) ?_
                  exact ih15 ((ce + 1)) (by omega) (by omega) _ _ _ h (lv_sub hl [0, 1, 2] rfl)
                · exact absurd c16 (by omega)
        exact loop15 (((64 - 0 : Int)).toNat + 1) 0 (by omega) (Nat.lt_succ_self _) _ _ _ h (lv_sub hl [0, 1, 2] rfl)
  exact loop5 (((1001 - ((T 0 10)) : Int)).toNat + 1) ((T 0 10)) (by omega) (Nat.lt_succ_self _) _ _ _ h (lv_sub hl [0, 1] rfl)
abbrev r_c_X12_cellsOn : Room := { frames := 0, cells := 0, slots := 0, locals := 0 }
set_option maxHeartbeats 4000000 in
set_option maxRecDepth 100000 in
theorem c_X12_cellsOn (l : Launch) (D : va_G) (Zk : yK) (ca : Nat → ClassId) (T : Nat → Int → Int) (E : Nat → Int → Int) (am : Nat → Nat) (w : yW) (hM : MW ca T E am w) (v : Int)  (hv2 : T 0 10 ≤ v ∧ v ≤ T 0 11 ∧ 0 ≤ T 0 10) (hv : xr v) : yC l D Zk ca yX12_cellsOn cX12_cellsOn 4 (some .int) r_c_X12_cellsOn [.ref (am 0), .int (iI v)] w (vI w (fun z => 0 ≤ z ∧ z ≤ 64)) := by
  refine yC.of2 "WindWordsModel" (by decide) rfl (Nat.le_of_ble_eq_true rfl) ?_
  intro p e s m args below meth c A ls Qf B hnm h hl hQ
  have hl : lv_has ls 4 [(0, .ref (am 0)), (1, .int (iI v))] := hl
  have hs := pi_s (MW.pi hM)
  have hpe := pe_0 (MW.pe hM)
  refine x_iconst B dX12_cellsOn_0 ?_
  refine lv_istore_n (lv' := [(2, .int (iI 0)), (0, .ref (am 0)), (1, .int (iI v))]) B.1 B.2.1 dX12_cellsOn_1 rfl hl (by decide) rfl (fun ls hl => ?_)
  refine x_iconst B dX12_cellsOn_2 ?_
  refine lv_istore_n (lv' := [(3, .int (iI 0)), (2, .int (iI 0)), (0, .ref (am 0)), (1, .int (iI v))]) B.1 B.2.1 dX12_cellsOn_3 rfl hl (by decide) rfl (fun ls hl => ?_)
  have loop4 : ∀ (n4 : Nat) (n : Int) (k : Int), (0 ≤ n ∧ n ≤ k) → (0 ≤ k ∧ k ≤ 64) → ((64 - k : Int)).toNat < n4 → ∀ (H : Heap) (locs : List Loc) (ls : Array Slot), yH D Zk A s w H locs → lv_has ls 4 [(3, .int (iI k)), (2, .int (iI n)), (0, .ref (am 0)), (1, .int (iI v))] → W p l e r_c_X12_cellsOn s m args below meth c H locs 0 0 Qf (F0 m 4 ls []) := by
    intro n4
    induction n4 with
    | zero =>
      intro n k h0 h1 hm4 H locs ls h hl
      exact absurd hm4 (Nat.not_lt_zero _)
    | succ n4 ih4 =>
      intro n k h0 h1 hm4 H locs ls h hl
      refine lv_iload_n B.1 B.2.1 dX12_cellsOn_4 rfl (lv_at hl 0 rfl) ?_
      refine x_bipush B (by decide) dX12_cellsOn_5 ?_
      refine x_icmp_ge B (by omega) (tgt := 43) dX12_cellsOn_7 (by decide) (fun c1 => ?_) (fun c1 => ?_)
      · refine lv_iload_n B.1 B.2.1 dX12_cellsOn_43 rfl (lv_at hl 1 rfl) ?_
        refine y_ri B hQ h (by decide) dX12_cellsOn_44 ?_
        exact ⟨rfl, _, rfl, (by first | omega | trivial | assumption)⟩
      · refine lv_iload_n B.1 B.2.1 dX12_cellsOn_10 rfl (lv_at hl 1 rfl) ?_
        refine lv_aload_n B.1 B.2.1 dX12_cellsOn_11 rfl (lv_at hl 2 rfl) ?_
        refine y_getR B h kX12 50 (MW.f hM 0 _ rfl) 73 (b := am 39) rfl m_1334 (by decide) dX12_cellsOn_12 ?_
        refine x_bipush B (by decide) dX12_cellsOn_15 ?_
        refine lv_iload_n B.1 B.2.1 dX12_cellsOn_17 rfl (lv_at hl 3 rfl) ?_
        refine lv_aload_n B.1 B.2.1 dX12_cellsOn_18 rfl (lv_at hl 2 rfl) ?_
        refine y_getX B h kX12 50 (MW.f hM 0 _ rfl) 69 (z := (T 0 10)) rfl m_1330 (by decide) dX12_cellsOn_19 ?_
        refine x_isub B dX12_cellsOn_22 ?_
        refine x_imul B dX12_cellsOn_23 ?_
        refine lv_iload_n B.1 B.2.1 dX12_cellsOn_24 rfl (lv_at hl 0 rfl) ?_
        refine x_iadd B dX12_cellsOn_25 ?_
        refine y_zaldG B h 89 (MW.f hM 39 _ rfl) (by omega) dX12_cellsOn_26 (fun z2 z2a z2b => ?_)
        refine x_if_eq B (by omega) (tgt := 34) dX12_cellsOn_27 (by decide) (fun c3 => ?_) (fun c3 => ?_)
        · refine x_iconst B dX12_cellsOn_34 ?_
          refine x_iadd B dX12_cellsOn_35 ?_
          refine lv_istore_n (lv' := [(2, .int (iI (n + 0))), (3, .int (iI k)), (0, .ref (am 0)), (1, .int (iI v))]) B.1 B.2.1 dX12_cellsOn_36 rfl hl (by decide) rfl (fun ls hl => ?_)
          refine lv_iinc (v := iI (k + 1)) (lv' := [(3, .int (iI (k + 1))), (2, .int (iI (n + 0))), (0, .ref (am 0)), (1, .int (iI v))]) B.1 B.2.1 dX12_cellsOn_37 hl (k := 1) rfl (iI_add _ _) (by decide) rfl (fun ls hl => ?_)
          refine lv_goto (tgt := 4) B.1 B.2.1 dX12_cellsOn_40 (by decide) ?_
          exact ih4 ((n + 0)) ((k + 1)) (by omega) (by omega) (by omega) _ _ _ h (lv_sub hl [0, 1, 2, 3] rfl)
        · refine x_iconst B dX12_cellsOn_30 ?_
          refine lv_goto (tgt := 35) B.1 B.2.1 dX12_cellsOn_31 (by decide) ?_
          refine x_iadd B dX12_cellsOn_35 ?_
          refine lv_istore_n (lv' := [(2, .int (iI (n + 1))), (3, .int (iI k)), (0, .ref (am 0)), (1, .int (iI v))]) B.1 B.2.1 dX12_cellsOn_36 rfl hl (by decide) rfl (fun ls hl => ?_)
          refine lv_iinc (v := iI (k + 1)) (lv' := [(3, .int (iI (k + 1))), (2, .int (iI (n + 1))), (0, .ref (am 0)), (1, .int (iI v))]) B.1 B.2.1 dX12_cellsOn_37 hl (k := 1) rfl (iI_add _ _) (by decide) rfl (fun ls hl => ?_)
          refine lv_goto (tgt := 4) B.1 B.2.1 dX12_cellsOn_40 (by decide) ?_
          exact ih4 ((n + 1)) ((k + 1)) (by omega) (by omega) (by omega) _ _ _ h (lv_sub hl [0, 1, 2, 3] rfl)
  exact loop4 (((64 - 0 : Int)).toNat + 1) 0 0 (by omega) (by omega) (Nat.lt_succ_self _) _ _ _ h (lv_sub hl [0, 1, 2, 3] rfl)
abbrev r_c_X12_way : Room := { frames := 5, cells := 0, slots := 0, locals := 112 }
set_option maxHeartbeats 4000000 in
set_option maxRecDepth 100000 in
theorem c_X12_way (l : Launch) (D : va_G) (Zk : yK) (ca : Nat → ClassId) (T : Nat → Int → Int) (E : Nat → Int → Int) (am : Nat → Nat) (w : yW) (hM : MW ca T E am w) (watch : Int) (cell : Int)  (hwatch : xr watch) (hcell : xr cell) : yC l D Zk ca yX12_way cX12_way 3 (some .int) r_c_X12_way [.ref (am 0), .int (iI watch), .int (iI cell)] w (vI w (fun z => xr z)) := by
  refine yC.of2 "WindWordsModel" (by decide) rfl (Nat.le_of_ble_eq_true rfl) ?_
  intro p e s m args below meth c A ls Qf B hnm h hl hQ
  have hl : lv_has ls 3 [(0, .ref (am 0)), (1, .int (iI watch)), (2, .int (iI cell))] := hl
  have hs := pi_s (MW.pi hM)
  have hpe := pe_0 (MW.pe hM)
  refine lv_aload_n B.1 B.2.1 dX12_way_0 rfl (lv_at hl 0 rfl) ?_
  refine y_getX B h kX12 50 (MW.f hM 0 _ rfl) 69 (z := (T 0 10)) rfl m_1330 (by decide) dX12_way_1 ?_
  refine x_if_lt B (by omega) (tgt := 32) dX12_way_4 (by decide) (fun c1 => ?_) (fun c1 => ?_)
  · refine x_iconst B dX12_way_32 ?_
    refine y_ri B hQ h (by decide) dX12_way_33 ?_
    exact ⟨rfl, _, rfl, (by first | omega | trivial | assumption)⟩
  · refine lv_iload_n B.1 B.2.1 dX12_way_7 rfl (lv_at hl 1 rfl) ?_
    refine lv_aload_n B.1 B.2.1 dX12_way_8 rfl (lv_at hl 0 rfl) ?_
    refine y_getX B h kX12 50 (MW.f hM 0 _ rfl) 69 (z := (T 0 10)) rfl m_1330 (by decide) dX12_way_9 ?_
    refine lv_aload_n B.1 B.2.1 dX12_way_12 rfl (lv_at hl 0 rfl) ?_
    refine y_getX B h kX12 50 (MW.f hM 0 _ rfl) 70 (z := (T 0 11)) rfl m_1331 (by decide) dX12_way_13 ?_
    refine y_cS B h k_X12_within (c_X12_within l D Zk ca _ watch ((T 0 10)) ((T 0 11))  (by omega) (by omega) (by omega)) m_1515 rfl (by decide) hl.1 [] (Nat.le_of_ble_eq_true rfl) rfl dX12_way_16 (fun r w1 hq H locs h => ?_)
    obtain ⟨rfl, _, rfl, ⟨rfl, b2⟩ | ⟨rfl, b2⟩⟩ := hq
    · show W p l e r_c_X12_way s m args below meth c _ _ 0 0 Qf (F0 m 19 ls [.int (iI 1)])
      refine x_if_eq B (by omega) (tgt := 32) dX12_way_19 (by decide) (fun c3 => ?_) (fun c3 => ?_)
      · exact absurd c3 (by omega)
      · refine lv_iload_n B.1 B.2.1 dX12_way_22 rfl (lv_at hl 2 rfl) ?_
        refine x_iconst B dX12_way_23 ?_
        refine x_bipush B (by decide) dX12_way_24 ?_
        refine y_cS B h k_X12_within (c_X12_within l D Zk ca _ cell ((-1)) 63  (by omega) (by omega) (by omega)) m_1515 rfl (by decide) hl.1 [] (Nat.le_of_ble_eq_true rfl) rfl dX12_way_26 (fun r w1 hq H locs h => ?_)
        obtain ⟨rfl, _, rfl, ⟨rfl, b4⟩ | ⟨rfl, b4⟩⟩ := hq
        · show W p l e r_c_X12_way s m args below meth c _ _ 0 0 Qf (F0 m 29 ls [.int (iI 1)])
          refine x_if_ne B (by omega) (tgt := 34) dX12_way_29 (by decide) (fun c5 => ?_) (fun c5 => ?_)
          · refine lv_aload_n B.1 B.2.1 dX12_way_34 rfl (lv_at hl 0 rfl) ?_
            refine y_cV B h kX12 50 (MW.f hM 0 _ rfl) k_X12_findWays rfl (c_X12_findWays l D Zk ca T E am _ hM   (by omega)) m_1864 rfl (by decide) hl.1 [] (Nat.le_of_ble_eq_true rfl) rfl dX12_way_35 (fun r w1 hq H locs h => ?_)
            obtain ⟨rfl, rfl⟩ := hq
            show W p l e r_c_X12_way s m args below meth c _ _ 0 0 Qf (F0 m 38 ls [])
            refine lv_iload_n B.1 B.2.1 dX12_way_38 rfl (lv_at hl 2 rfl) ?_
            refine x_iconst B dX12_way_39 ?_
            refine x_icmp_ne B (by omega) (tgt := 51) dX12_way_40 (by decide) (fun c6 => ?_) (fun c6 => ?_)
            · refine lv_aload_n B.1 B.2.1 dX12_way_51 rfl (lv_at hl 0 rfl) ?_
              refine y_getR B h kX12 50 (MW.f hM 0 _ rfl) 73 (b := am 39) rfl m_1334 (by decide) dX12_way_52 ?_
              refine x_bipush B (by decide) dX12_way_55 ?_
              refine lv_iload_n B.1 B.2.1 dX12_way_57 rfl (lv_at hl 1 rfl) ?_
              refine lv_aload_n B.1 B.2.1 dX12_way_58 rfl (lv_at hl 0 rfl) ?_
              refine y_getX B h kX12 50 (MW.f hM 0 _ rfl) 69 (z := (T 0 10)) rfl m_1330 (by decide) dX12_way_59 ?_
              refine x_isub B dX12_way_62 ?_
              refine x_imul B dX12_way_63 ?_
              refine lv_iload_n B.1 B.2.1 dX12_way_64 rfl (lv_at hl 2 rfl) ?_
              refine x_iadd B dX12_way_65 ?_
              refine y_zaldG B h 89 (MW.f hM 39 _ rfl) (by omega) dX12_way_66 (fun z7 z7a z7b => ?_)
              refine x_if_eq B (by omega) (tgt := 74) dX12_way_67 (by decide) (fun c8 => ?_) (fun c8 => ?_)
              · refine x_iconst B dX12_way_74 ?_
                refine y_ri B hQ h (by decide) dX12_way_75 ?_
                exact ⟨rfl, _, rfl, (by first | omega | trivial | assumption)⟩
              · refine x_iconst B dX12_way_70 ?_
                refine lv_goto (tgt := 75) B.1 B.2.1 dX12_way_71 (by decide) ?_
                refine y_ri B hQ h (by decide) dX12_way_75 ?_
                exact ⟨rfl, _, rfl, (by first | omega | trivial | assumption)⟩
            · refine lv_aload_n B.1 B.2.1 dX12_way_43 rfl (lv_at hl 0 rfl) ?_
              refine lv_iload_n B.1 B.2.1 dX12_way_44 rfl (lv_at hl 1 rfl) ?_
              refine y_cV B h kX12 50 (MW.f hM 0 _ rfl) k_X12_cellsOn rfl (c_X12_cellsOn l D Zk ca T E am _ hM watch  (by omega) (by omega)) m_1876 rfl (by decide) hl.1 [] (Nat.le_of_ble_eq_true rfl) rfl dX12_way_45 (fun r w1 hq H locs h => ?_)
              obtain ⟨rfl, z9, rfl, hz9⟩ := hq
              show W p l e r_c_X12_way s m args below meth c _ _ 0 0 Qf (F0 m 48 ls [.int (iI z9)])
              refine lv_goto (tgt := 75) B.1 B.2.1 dX12_way_48 (by decide) ?_
              refine y_ri B hQ h (by decide) dX12_way_75 ?_
              exact ⟨rfl, _, rfl, (by first | omega | trivial | assumption)⟩
          · exact absurd c5 (by omega)
        · show W p l e r_c_X12_way s m args below meth c _ _ 0 0 Qf (F0 m 29 ls [.int (iI 0)])
          refine x_if_ne B (by omega) (tgt := 34) dX12_way_29 (by decide) (fun c10 => ?_) (fun c10 => ?_)
          · exact absurd c10 (by omega)
          · refine x_iconst B dX12_way_32 ?_
            refine y_ri B hQ h (by decide) dX12_way_33 ?_
            exact ⟨rfl, _, rfl, (by first | omega | trivial | assumption)⟩
    · show W p l e r_c_X12_way s m args below meth c _ _ 0 0 Qf (F0 m 19 ls [.int (iI 0)])
      refine x_if_eq B (by omega) (tgt := 32) dX12_way_19 (by decide) (fun c11 => ?_) (fun c11 => ?_)
      · refine x_iconst B dX12_way_32 ?_
        refine y_ri B hQ h (by decide) dX12_way_33 ?_
        exact ⟨rfl, _, rfl, (by first | omega | trivial | assumption)⟩
      · exact absurd c11 (by omega)
abbrev r_c_X12_trusted : Room := { frames := 0, cells := 0, slots := 0, locals := 0 }
set_option maxHeartbeats 4000000 in
set_option maxRecDepth 100000 in
theorem c_X12_trusted (l : Launch) (D : va_G) (Zk : yK) (ca : Nat → ClassId) (T : Nat → Int → Int) (E : Nat → Int → Int) (am : Nat → Nat) (w : yW) (hM : MW ca T E am w)    : yC l D Zk ca yX12_trusted cX12_trusted 3 (some .int) r_c_X12_trusted [.ref (am 0)] w (vI w (fun z => 0 ≤ z ∧ z ≤ 16)) := by
  refine yC.of2 "WindWordsModel" (by decide) rfl (Nat.le_of_ble_eq_true rfl) ?_
  intro p e s m args below meth c A ls Qf B hnm h hl hQ
  have hl : lv_has ls 3 [(0, .ref (am 0))] := hl
  have hs := pi_s (MW.pi hM)
  have hpe := pe_0 (MW.pe hM)
  refine x_iconst B dX12_trusted_0 ?_
  refine lv_istore_n (lv' := [(1, .int (iI 0)), (0, .ref (am 0))]) B.1 B.2.1 dX12_trusted_1 rfl hl (by decide) rfl (fun ls hl => ?_)
  refine x_iconst B dX12_trusted_2 ?_
  refine lv_istore_n (lv' := [(2, .int (iI 0)), (1, .int (iI 0)), (0, .ref (am 0))]) B.1 B.2.1 dX12_trusted_3 rfl hl (by decide) rfl (fun ls hl => ?_)
  have loop4 : ∀ (n4 : Nat) (n : Int) (k : Int), (0 ≤ n ∧ n ≤ k) → (0 ≤ k ∧ k ≤ 16) → ((16 - k : Int)).toNat < n4 → ∀ (H : Heap) (locs : List Loc) (ls : Array Slot), yH D Zk A s w H locs → lv_has ls 3 [(2, .int (iI k)), (1, .int (iI n)), (0, .ref (am 0))] → W p l e r_c_X12_trusted s m args below meth c H locs 0 0 Qf (F0 m 4 ls []) := by
    intro n4
    induction n4 with
    | zero =>
      intro n k h0 h1 hm4 H locs ls h hl
      exact absurd hm4 (Nat.not_lt_zero _)
    | succ n4 ih4 =>
      intro n k h0 h1 hm4 H locs ls h hl
      refine lv_iload_n B.1 B.2.1 dX12_trusted_4 rfl (lv_at hl 0 rfl) ?_
      refine lv_aload_n B.1 B.2.1 dX12_trusted_5 rfl (lv_at hl 2 rfl) ?_
      refine y_getX B h kX12 50 (MW.f hM 0 _ rfl) 1 (z := (T 0 0)) rfl m_1262 (by decide) dX12_trusted_6 ?_
      refine x_icmp_ge B (by omega) (tgt := 35) dX12_trusted_9 (by decide) (fun c1 => ?_) (fun c1 => ?_)
      · refine lv_iload_n B.1 B.2.1 dX12_trusted_35 rfl (lv_at hl 1 rfl) ?_
        refine y_ri B hQ h (by decide) dX12_trusted_36 ?_
        exact ⟨rfl, _, rfl, (by first | omega | trivial | assumption)⟩
      · refine lv_iload_n B.1 B.2.1 dX12_trusted_12 rfl (lv_at hl 1 rfl) ?_
        refine lv_aload_n B.1 B.2.1 dX12_trusted_13 rfl (lv_at hl 2 rfl) ?_
        refine y_getR B h kX12 50 (MW.f hM 0 _ rfl) 7 (b := am 2) rfl m_1268 (by decide) dX12_trusted_14 ?_
        refine lv_iload_n B.1 B.2.1 dX12_trusted_17 rfl (lv_at hl 0 rfl) ?_
        refine y_zaldG B h 52 (MW.f hM 2 _ rfl) (by omega) dX12_trusted_18 (fun z2 z2a z2b => ?_)
        refine x_if_eq B (by omega) (tgt := 26) dX12_trusted_19 (by decide) (fun c3 => ?_) (fun c3 => ?_)
        · refine x_iconst B dX12_trusted_26 ?_
          refine x_iadd B dX12_trusted_27 ?_
          refine lv_istore_n (lv' := [(1, .int (iI (n + 0))), (2, .int (iI k)), (0, .ref (am 0))]) B.1 B.2.1 dX12_trusted_28 rfl hl (by decide) rfl (fun ls hl => ?_)
          refine lv_iinc (v := iI (k + 1)) (lv' := [(2, .int (iI (k + 1))), (1, .int (iI (n + 0))), (0, .ref (am 0))]) B.1 B.2.1 dX12_trusted_29 hl (k := 1) rfl (iI_add _ _) (by decide) rfl (fun ls hl => ?_)
          refine lv_goto (tgt := 4) B.1 B.2.1 dX12_trusted_32 (by decide) ?_
          exact ih4 ((n + 0)) ((k + 1)) (by omega) (by omega) (by omega) _ _ _ h (lv_sub hl [0, 1, 2] rfl)
        · refine x_iconst B dX12_trusted_22 ?_
          refine lv_goto (tgt := 27) B.1 B.2.1 dX12_trusted_23 (by decide) ?_
          refine x_iadd B dX12_trusted_27 ?_
          refine lv_istore_n (lv' := [(1, .int (iI (n + 1))), (2, .int (iI k)), (0, .ref (am 0))]) B.1 B.2.1 dX12_trusted_28 rfl hl (by decide) rfl (fun ls hl => ?_)
          refine lv_iinc (v := iI (k + 1)) (lv' := [(2, .int (iI (k + 1))), (1, .int (iI (n + 1))), (0, .ref (am 0))]) B.1 B.2.1 dX12_trusted_29 hl (k := 1) rfl (iI_add _ _) (by decide) rfl (fun ls hl => ?_)
          refine lv_goto (tgt := 4) B.1 B.2.1 dX12_trusted_32 (by decide) ?_
          exact ih4 ((n + 1)) ((k + 1)) (by omega) (by omega) (by omega) _ _ _ h (lv_sub hl [0, 1, 2] rfl)
  exact loop4 (((16 - 0 : Int)).toNat + 1) 0 0 (by omega) (by omega) (Nat.lt_succ_self _) _ _ _ h (lv_sub hl [0, 1, 2] rfl)
abbrev r_c_X12_habitsInAll : Room := { frames := 0, cells := 0, slots := 0, locals := 0 }
set_option maxHeartbeats 4000000 in
set_option maxRecDepth 100000 in
theorem c_X12_habitsInAll (l : Launch) (D : va_G) (Zk : yK) (ca : Nat → ClassId) (T : Nat → Int → Int) (E : Nat → Int → Int) (am : Nat → Nat) (w : yW) (hM : MW ca T E am w)    : yC l D Zk ca yX12_habitsInAll cX12_habitsInAll 3 (some .int) r_c_X12_habitsInAll [.ref (am 0)] w (vI w (fun z => 0 ≤ z ∧ z ≤ 640)) := by
  refine yC.of2 "WindWordsModel" (by decide) rfl (Nat.le_of_ble_eq_true rfl) ?_
  intro p e s m args below meth c A ls Qf B hnm h hl hQ
  have hl : lv_has ls 3 [(0, .ref (am 0))] := hl
  have hs := pi_s (MW.pi hM)
  have hpe := pe_0 (MW.pe hM)
  refine x_iconst B dX12_habitsInAll_0 ?_
  refine lv_istore_n (lv' := [(1, .int (iI 0)), (0, .ref (am 0))]) B.1 B.2.1 dX12_habitsInAll_1 rfl hl (by decide) rfl (fun ls hl => ?_)
  refine x_iconst B dX12_habitsInAll_2 ?_
  refine lv_istore_n (lv' := [(2, .int (iI 0)), (1, .int (iI 0)), (0, .ref (am 0))]) B.1 B.2.1 dX12_habitsInAll_3 rfl hl (by decide) rfl (fun ls hl => ?_)
  have loop4 : ∀ (n4 : Nat) (n : Int) (k : Int), (0 ≤ n ∧ n ≤ 40 * k) → (0 ≤ k ∧ k ≤ 16) → ((16 - k : Int)).toNat < n4 → ∀ (H : Heap) (locs : List Loc) (ls : Array Slot), yH D Zk A s w H locs → lv_has ls 3 [(2, .int (iI k)), (1, .int (iI n)), (0, .ref (am 0))] → W p l e r_c_X12_habitsInAll s m args below meth c H locs 0 0 Qf (F0 m 4 ls []) := by
    intro n4
    induction n4 with
    | zero =>
      intro n k h0 h1 hm4 H locs ls h hl
      exact absurd hm4 (Nat.not_lt_zero _)
    | succ n4 ih4 =>
      intro n k h0 h1 hm4 H locs ls h hl
      refine lv_iload_n B.1 B.2.1 dX12_habitsInAll_4 rfl (lv_at hl 0 rfl) ?_
      refine lv_aload_n B.1 B.2.1 dX12_habitsInAll_5 rfl (lv_at hl 2 rfl) ?_
      refine y_getX B h kX12 50 (MW.f hM 0 _ rfl) 1 (z := (T 0 0)) rfl m_1262 (by decide) dX12_habitsInAll_6 ?_
      refine x_icmp_ge B (by omega) (tgt := 30) dX12_habitsInAll_9 (by decide) (fun c1 => ?_) (fun c1 => ?_)
      · refine lv_iload_n B.1 B.2.1 dX12_habitsInAll_30 rfl (lv_at hl 1 rfl) ?_
        refine y_ri B hQ h (by decide) dX12_habitsInAll_31 ?_
        exact ⟨rfl, _, rfl, (by first | omega | trivial | assumption)⟩
      · refine lv_iload_n B.1 B.2.1 dX12_habitsInAll_12 rfl (lv_at hl 1 rfl) ?_
        refine lv_aload_n B.1 B.2.1 dX12_habitsInAll_13 rfl (lv_at hl 2 rfl) ?_
        refine y_getR B h kX12 50 (MW.f hM 0 _ rfl) 21 (b := am 16) rfl m_1282 (by decide) dX12_habitsInAll_14 ?_
        refine x_bipush B (by decide) dX12_habitsInAll_17 ?_
        refine lv_iload_n B.1 B.2.1 dX12_habitsInAll_19 rfl (lv_at hl 0 rfl) ?_
        refine x_iadd B dX12_habitsInAll_20 ?_
        have eb2 := pe_1 (MW.pe hM) ((8 + k))
        refine y_ialdX B h 66 (MW.f hM 16 _ rfl) (by omega) dX12_habitsInAll_21 ?_
        refine x_iset (z := (E 1 ((8 + k)))) (by show iI (E 1 ((((8 + k) : Int).toNat : Nat) : Int)) = _; rw [show (((((8 + k) : Int).toNat : Nat) : Int)) = (8 + k) by omega]) ?_
        refine x_iadd B dX12_habitsInAll_22 ?_
        refine lv_istore_n (lv' := [(1, .int (iI (n + (E 1 ((8 + k)))))), (2, .int (iI k)), (0, .ref (am 0))]) B.1 B.2.1 dX12_habitsInAll_23 rfl hl (by decide) rfl (fun ls hl => ?_)
        refine lv_iinc (v := iI (k + 1)) (lv' := [(2, .int (iI (k + 1))), (1, .int (iI (n + (E 1 ((8 + k)))))), (0, .ref (am 0))]) B.1 B.2.1 dX12_habitsInAll_24 hl (k := 1) rfl (iI_add _ _) (by decide) rfl (fun ls hl => ?_)
        refine lv_goto (tgt := 4) B.1 B.2.1 dX12_habitsInAll_27 (by decide) ?_
        exact ih4 ((n + (E 1 ((8 + k))))) ((k + 1)) (by omega) (by omega) (by omega) _ _ _ h (lv_sub hl [0, 1, 2] rfl)
  exact loop4 (((16 - 0 : Int)).toNat + 1) 0 0 (by omega) (by omega) (Nat.lt_succ_self _) _ _ _ h (lv_sub hl [0, 1, 2] rfl)
abbrev r_c_X12_count : Room := { frames := 1, cells := 0, slots := 0, locals := 22 }
set_option maxHeartbeats 4000000 in
set_option maxRecDepth 100000 in
theorem c_X12_count (l : Launch) (D : va_G) (Zk : yK) (ca : Nat → ClassId) (T : Nat → Int → Int) (E : Nat → Int → Int) (am : Nat → Nat) (w : yW) (hM : MW ca T E am w) (what : Int)  (hwhat : xr what) : yC l D Zk ca yX12_count cX12_count 2 (some .int) r_c_X12_count [.ref (am 0), .int (iI what)] w (vI w (fun z => xr z)) := by
  refine yC.of2 "WindWordsModel" (by decide) rfl (Nat.le_of_ble_eq_true rfl) ?_
  intro p e s m args below meth c A ls Qf B hnm h hl hQ
  have hl : lv_has ls 2 [(0, .ref (am 0)), (1, .int (iI what))] := hl
  have hs := pi_s (MW.pi hM)
  have hpe := pe_0 (MW.pe hM)
  refine lv_iload_n B.1 B.2.1 dX12_count_0 rfl (lv_at hl 1 rfl) ?_
  by_cases t1 : what = 0
  · refine x_tin B (tgt := 72) 0 (by omega) dX12_count_1 rfl (by decide) ?_
    refine lv_aload_n B.1 B.2.1 dX12_count_72 rfl (lv_at hl 0 rfl) ?_
    refine y_getX B h kX12 50 (MW.f hM 0 _ rfl) 1 (z := (T 0 0)) rfl m_1262 (by decide) dX12_count_73 ?_
    refine y_ri B hQ h (by decide) dX12_count_76 ?_
    exact ⟨rfl, _, rfl, (by first | omega | trivial | assumption)⟩
  by_cases t2 : what = 1
  · refine x_tin B (tgt := 77) 1 (by omega) dX12_count_1 rfl (by decide) ?_
    refine lv_aload_n B.1 B.2.1 dX12_count_77 rfl (lv_at hl 0 rfl) ?_
    refine y_getX B h kX12 50 (MW.f hM 0 _ rfl) 2 (z := (T 0 1)) rfl m_1263 (by decide) dX12_count_78 ?_
    refine y_ri B hQ h (by decide) dX12_count_81 ?_
    exact ⟨rfl, _, rfl, (by first | omega | trivial | assumption)⟩
  by_cases t3 : what = 2
  · refine x_tin B (tgt := 82) 2 (by omega) dX12_count_1 rfl (by decide) ?_
    refine lv_aload_n B.1 B.2.1 dX12_count_82 rfl (lv_at hl 0 rfl) ?_
    refine y_getX B h kX12 50 (MW.f hM 0 _ rfl) 4 (z := (T 0 2)) rfl m_1265 (by decide) dX12_count_83 ?_
    refine y_ri B hQ h (by decide) dX12_count_86 ?_
    exact ⟨rfl, _, rfl, (by first | omega | trivial | assumption)⟩
  by_cases t4 : what = 3
  · refine x_tin B (tgt := 87) 3 (by omega) dX12_count_1 rfl (by decide) ?_
    refine lv_aload_n B.1 B.2.1 dX12_count_87 rfl (lv_at hl 0 rfl) ?_
    refine y_getX B h kX12 50 (MW.f hM 0 _ rfl) 23 (z := (E 0 0)) rfl m_1284 (by decide) dX12_count_88 ?_
    refine y_ri B hQ h (by decide) dX12_count_91 ?_
    exact ⟨rfl, _, rfl, (by first | omega | trivial | assumption)⟩
  by_cases t5 : what = 4
  · refine x_tin B (tgt := 92) 4 (by omega) dX12_count_1 rfl (by decide) ?_
    refine lv_aload_n B.1 B.2.1 dX12_count_92 rfl (lv_at hl 0 rfl) ?_
    refine y_getX B h kX12 50 (MW.f hM 0 _ rfl) 5 (z := (T 0 4)) rfl m_1266 (by decide) dX12_count_93 ?_
    refine y_ri B hQ h (by decide) dX12_count_96 ?_
    exact ⟨rfl, _, rfl, (by first | omega | trivial | assumption)⟩
  by_cases t6 : what = 5
  · refine x_tin B (tgt := 97) 5 (by omega) dX12_count_1 rfl (by decide) ?_
    refine lv_aload_n B.1 B.2.1 dX12_count_97 rfl (lv_at hl 0 rfl) ?_
    refine y_getX B h kX12 50 (MW.f hM 0 _ rfl) 6 (z := (T 0 5)) rfl m_1267 (by decide) dX12_count_98 ?_
    refine y_ri B hQ h (by decide) dX12_count_101 ?_
    exact ⟨rfl, _, rfl, (by first | omega | trivial | assumption)⟩
  by_cases t7 : what = 6
  · refine x_tin B (tgt := 102) 6 (by omega) dX12_count_1 rfl (by decide) ?_
    refine lv_aload_n B.1 B.2.1 dX12_count_102 rfl (lv_at hl 0 rfl) ?_
    refine y_getX B h kX12 50 (MW.f hM 0 _ rfl) 3 (z := (T 0 3)) rfl m_1264 (by decide) dX12_count_103 ?_
    refine y_ri B hQ h (by decide) dX12_count_106 ?_
    exact ⟨rfl, _, rfl, (by first | omega | trivial | assumption)⟩
  by_cases t8 : what = 7
  · refine x_tin B (tgt := 107) 7 (by omega) dX12_count_1 rfl (by decide) ?_
    refine lv_aload_n B.1 B.2.1 dX12_count_107 rfl (lv_at hl 0 rfl) ?_
    refine y_cV B h kX12 50 (MW.f hM 0 _ rfl) k_X12_trusted rfl (c_X12_trusted l D Zk ca T E am _ hM   ) m_1896 rfl (by decide) hl.1 [] (Nat.le_of_ble_eq_true rfl) rfl dX12_count_108 (fun r w1 hq H locs h => ?_)
    obtain ⟨rfl, z9, rfl, hz9⟩ := hq
    show W p l e r_c_X12_count s m args below meth c _ _ 0 0 Qf (F0 m 111 ls [.int (iI z9)])
    refine y_ri B hQ h (by decide) dX12_count_111 ?_
    exact ⟨rfl, _, rfl, (by first | omega | trivial | assumption)⟩
  by_cases t10 : what = 8
  · refine x_tin B (tgt := 112) 8 (by omega) dX12_count_1 rfl (by decide) ?_
    refine lv_aload_n B.1 B.2.1 dX12_count_112 rfl (lv_at hl 0 rfl) ?_
    refine y_getR B h kX12 50 (MW.f hM 0 _ rfl) 0 (b := am 1) rfl m_1261 (by decide) dX12_count_113 ?_
    refine x_iconst B dX12_count_116 ?_
    refine y_iald B h 51 (MW.f hM 1 _ rfl) (by omega) dX12_count_117 (fun fz11 hfz11 => ?_)
    refine x_name (fun z11 hz11 ez11 => ?_)
    refine y_ri B hQ h (by decide) dX12_count_118 ?_
    exact ⟨rfl, _, rfl, (by first | omega | trivial | assumption)⟩
  by_cases t12 : what = 9
  · refine x_tin B (tgt := 119) 9 (by omega) dX12_count_1 rfl (by decide) ?_
    refine lv_aload_n B.1 B.2.1 dX12_count_119 rfl (lv_at hl 0 rfl) ?_
    refine y_getR B h kX12 50 (MW.f hM 0 _ rfl) 0 (b := am 1) rfl m_1261 (by decide) dX12_count_120 ?_
    refine x_iconst B dX12_count_123 ?_
    refine y_iald B h 51 (MW.f hM 1 _ rfl) (by omega) dX12_count_124 (fun fz13 hfz13 => ?_)
    refine x_name (fun z13 hz13 ez13 => ?_)
    refine y_ri B hQ h (by decide) dX12_count_125 ?_
    exact ⟨rfl, _, rfl, (by first | omega | trivial | assumption)⟩
  by_cases t14 : what = 10
  · refine x_tin B (tgt := 126) 10 (by omega) dX12_count_1 rfl (by decide) ?_
    refine lv_aload_n B.1 B.2.1 dX12_count_126 rfl (lv_at hl 0 rfl) ?_
    refine y_getR B h kX12 50 (MW.f hM 0 _ rfl) 0 (b := am 1) rfl m_1261 (by decide) dX12_count_127 ?_
    refine x_iconst B dX12_count_130 ?_
    refine y_iald B h 51 (MW.f hM 1 _ rfl) (by omega) dX12_count_131 (fun fz15 hfz15 => ?_)
    refine x_name (fun z15 hz15 ez15 => ?_)
    refine y_ri B hQ h (by decide) dX12_count_132 ?_
    exact ⟨rfl, _, rfl, (by first | omega | trivial | assumption)⟩
  by_cases t16 : what = 11
  · refine x_tin B (tgt := 133) 11 (by omega) dX12_count_1 rfl (by decide) ?_
    refine lv_aload_n B.1 B.2.1 dX12_count_133 rfl (lv_at hl 0 rfl) ?_
    refine y_getX B h kX12 50 (MW.f hM 0 _ rfl) 74 (z := (T 0 6)) rfl m_1335 (by decide) dX12_count_134 ?_
    refine y_ri B hQ h (by decide) dX12_count_137 ?_
    exact ⟨rfl, _, rfl, (by first | omega | trivial | assumption)⟩
  by_cases t17 : what = 12
  · refine x_tin B (tgt := 138) 12 (by omega) dX12_count_1 rfl (by decide) ?_
    refine lv_aload_n B.1 B.2.1 dX12_count_138 rfl (lv_at hl 0 rfl) ?_
    refine y_getG B h kX12 50 (MW.f hM 0 _ rfl) 32 (lo := 0) (hi := 900) rfl m_1293 (by decide) dX12_count_139 (fun z18 z18a z18b => ?_)
    refine y_ri B hQ h (by decide) dX12_count_142 ?_
    exact ⟨rfl, _, rfl, (by first | omega | trivial | assumption)⟩
  by_cases t19 : what = 13
  · refine x_tin B (tgt := 143) 13 (by omega) dX12_count_1 rfl (by decide) ?_
    refine lv_aload_n B.1 B.2.1 dX12_count_143 rfl (lv_at hl 0 rfl) ?_
    refine y_cV B h kX12 50 (MW.f hM 0 _ rfl) k_X12_habitsInAll rfl (c_X12_habitsInAll l D Zk ca T E am _ hM   ) m_1900 rfl (by decide) hl.1 [] (Nat.le_of_ble_eq_true rfl) rfl dX12_count_144 (fun r w1 hq H locs h => ?_)
    obtain ⟨rfl, z20, rfl, hz20⟩ := hq
    show W p l e r_c_X12_count s m args below meth c _ _ 0 0 Qf (F0 m 147 ls [.int (iI z20)])
    refine y_ri B hQ h (by decide) dX12_count_147 ?_
    exact ⟨rfl, _, rfl, (by first | omega | trivial | assumption)⟩
  refine x_tout B (tgt := 148) (by omega) dX12_count_1 (by decide) ?_
  refine x_iconst B dX12_count_148 ?_
  refine y_ri B hQ h (by decide) dX12_count_149 ?_
  exact ⟨rfl, _, rfl, (by first | omega | trivial | assumption)⟩
abbrev r_c_X12_fault : Room := { frames := 0, cells := 0, slots := 0, locals := 0 }
set_option maxHeartbeats 4000000 in
set_option maxRecDepth 100000 in
theorem c_X12_fault (l : Launch) (D : va_G) (Zk : yK) (ca : Nat → ClassId) (T : Nat → Int → Int) (E : Nat → Int → Int) (am : Nat → Nat) (w : yW) (hM : MW ca T E am w)    : yC l D Zk ca yX12_fault cX12_fault 1 (some .int) r_c_X12_fault [.ref (am 0)] w (vI w (fun z => xr z)) := by
  refine yC.of2 "WindWordsModel" (by decide) rfl (Nat.le_of_ble_eq_true rfl) ?_
  intro p e s m args below meth c A ls Qf B hnm h hl hQ
  have hl : lv_has ls 1 [(0, .ref (am 0))] := hl
  have hs := pi_s (MW.pi hM)
  have hpe := pe_0 (MW.pe hM)
  refine lv_aload_n B.1 B.2.1 dX12_fault_0 rfl (lv_at hl 0 rfl) ?_
  refine y_getG B h kX12 50 (MW.f hM 0 _ rfl) 33 (lo := (-2147483648)) (hi := 2147483647) rfl m_1294 (by decide) dX12_fault_1 (fun z1 z1a z1b => ?_)
  refine y_ri B hQ h (by decide) dX12_fault_4 ?_
  exact ⟨rfl, _, rfl, (by first | omega | trivial | assumption)⟩
abbrev r_c_X12_run : Room := { frames := 4, cells := 0, slots := 0, locals := 104 }
set_option maxHeartbeats 4000000 in
set_option maxRecDepth 100000 in
theorem c_X12_run (l : Launch) (D : va_G) (Zk : yK) (ca : Nat → ClassId) (T : Nat → Int → Int) (E : Nat → Int → Int) (am : Nat → Nat) (w : yW) (hM : MW ca T E am w) (ship : Int) (watch : Int) (seed : Int) (n : Int) (number : Int)  (hship : xr ship) (hwatch : xr watch) (hseed : xr seed) (hn : xr n) (hnumber : xr number) : yC l D Zk ca yX12_run cX12_run 10 (some .int) r_c_X12_run [.ref (am 0), .int (iI ship), .int (iI watch), .int (iI seed), .int (iI n), .int (iI number)] w (vI w (fun z => xr z)) := by
  refine yC.of2 "WindWordsModel" (by decide) rfl (Nat.le_of_ble_eq_true rfl) ?_
  intro p e s m args below meth c A ls Qf B hnm h hl hQ
  have hl : lv_has ls 10 [(0, .ref (am 0)), (1, .int (iI ship)), (2, .int (iI watch)), (3, .int (iI seed)), (4, .int (iI n)), (5, .int (iI number))] := hl
  have hs := pi_s (MW.pi hM)
  have hpe := pe_0 (MW.pe hM)
  refine lv_aload_n B.1 B.2.1 dX12_run_0 rfl (lv_at hl 0 rfl) ?_
  refine lv_iload_n B.1 B.2.1 dX12_run_1 rfl (lv_at hl 1 rfl) ?_
  refine y_cV B h kX12 50 (MW.f hM 0 _ rfl) k_X12_isShip rfl (c_X12_isShip l D Zk ca T E am _ hM ship  (by omega)) m_1526 rfl (by decide) hl.1 [] (Nat.le_of_ble_eq_true rfl) rfl dX12_run_2 (fun r w1 hq H locs h => ?_)
  obtain ⟨rfl, _, rfl, ⟨rfl, b1⟩ | ⟨rfl, b1⟩⟩ := hq
  · show W p l e r_c_X12_run s m args below meth c _ _ 0 0 Qf (F0 m 5 ls [.int (iI 1)])
    refine x_if_eq B (by omega) (tgt := 53) dX12_run_5 (by decide) (fun c2 => ?_) (fun c2 => ?_)
    · exact absurd c2 (by omega)
    · refine lv_iload_n B.1 B.2.1 dX12_run_8 rfl (lv_at hl 2 rfl) ?_
      refine x_iconst B dX12_run_9 ?_
      refine x_sipush B (by decide) dX12_run_10 ?_
      refine y_cS B h k_X12_within (c_X12_within l D Zk ca _ watch 0 999  (by omega) (by omega) (by omega)) m_1515 rfl (by decide) hl.1 [] (Nat.le_of_ble_eq_true rfl) rfl dX12_run_13 (fun r w1 hq H locs h => ?_)
      obtain ⟨rfl, _, rfl, ⟨rfl, b3⟩ | ⟨rfl, b3⟩⟩ := hq
      · show W p l e r_c_X12_run s m args below meth c _ _ 0 0 Qf (F0 m 16 ls [.int (iI 1)])
        refine x_if_eq B (by omega) (tgt := 53) dX12_run_16 (by decide) (fun c4 => ?_) (fun c4 => ?_)
        · exact absurd c4 (by omega)
        · refine lv_iload_n B.1 B.2.1 dX12_run_19 rfl (lv_at hl 3 rfl) ?_
          refine x_iconst B dX12_run_20 ?_
          refine x_ldcw B (z := 999999999) m_1698 (by decide) dX12_run_21 ?_
          refine y_cS B h k_X12_within (c_X12_within l D Zk ca _ seed 0 999999999  (by omega) (by omega) (by omega)) m_1515 rfl (by decide) hl.1 [] (Nat.le_of_ble_eq_true rfl) rfl dX12_run_24 (fun r w1 hq H locs h => ?_)
          obtain ⟨rfl, _, rfl, ⟨rfl, b5⟩ | ⟨rfl, b5⟩⟩ := hq
          · show W p l e r_c_X12_run s m args below meth c _ _ 0 0 Qf (F0 m 27 ls [.int (iI 1)])
            refine x_if_eq B (by omega) (tgt := 53) dX12_run_27 (by decide) (fun c6 => ?_) (fun c6 => ?_)
            · exact absurd c6 (by omega)
            · refine lv_iload B.1 B.2.1 dX12_run_30 (lv_at hl 4 rfl) ?_
              refine x_iconst B dX12_run_32 ?_
              refine x_sipush B (by decide) dX12_run_33 ?_
              refine y_cS B h k_X12_within (c_X12_within l D Zk ca _ n 1 1000  (by omega) (by omega) (by omega)) m_1515 rfl (by decide) hl.1 [] (Nat.le_of_ble_eq_true rfl) rfl dX12_run_36 (fun r w1 hq H locs h => ?_)
              obtain ⟨rfl, _, rfl, ⟨rfl, b7⟩ | ⟨rfl, b7⟩⟩ := hq
              · show W p l e r_c_X12_run s m args below meth c _ _ 0 0 Qf (F0 m 39 ls [.int (iI 1)])
                refine x_if_eq B (by omega) (tgt := 53) dX12_run_39 (by decide) (fun c8 => ?_) (fun c8 => ?_)
                · exact absurd c8 (by omega)
                · refine lv_iload B.1 B.2.1 dX12_run_42 (lv_at hl 5 rfl) ?_
                  refine x_iconst B dX12_run_44 ?_
                  refine x_bipush B (by decide) dX12_run_45 ?_
                  refine y_cS B h k_X12_within (c_X12_within l D Zk ca _ number 0 12  (by omega) (by omega) (by omega)) m_1515 rfl (by decide) hl.1 [] (Nat.le_of_ble_eq_true rfl) rfl dX12_run_47 (fun r w1 hq H locs h => ?_)
                  obtain ⟨rfl, _, rfl, ⟨rfl, b9⟩ | ⟨rfl, b9⟩⟩ := hq
                  · show W p l e r_c_X12_run s m args below meth c _ _ 0 0 Qf (F0 m 50 ls [.int (iI 1)])
                    refine x_if_ne B (by omega) (tgt := 55) dX12_run_50 (by decide) (fun c10 => ?_) (fun c10 => ?_)
                    · refine lv_iload_n B.1 B.2.1 dX12_run_55 rfl (lv_at hl 3 rfl) ?_
                      refine lv_i2l B.1 B.2.1 dX12_run_56 rfl ?_
                      refine x_rawL (fun y11 => ?_)
                      refine lv_lstore (lv' := [(6, .long (y11)), (0, .ref (am 0)), (1, .int (iI ship)), (2, .int (iI watch)), (3, .int (iI seed)), (4, .int (iI n)), (5, .int (iI number))]) B.1 B.2.1 dX12_run_57 hl (by decide) rfl (fun ls hl => ?_)
                      refine x_iconst B dX12_run_59 ?_
                      refine lv_istore (lv' := [(8, .int (iI 0)), (6, .long (y11)), (0, .ref (am 0)), (1, .int (iI ship)), (2, .int (iI watch)), (3, .int (iI seed)), (4, .int (iI n)), (5, .int (iI number))]) B.1 B.2.1 dX12_run_60 hl (by decide) rfl (fun ls hl => ?_)
                      refine x_iconst B dX12_run_62 ?_
                      refine lv_istore (lv' := [(9, .int (iI 0)), (8, .int (iI 0)), (6, .long (y11)), (0, .ref (am 0)), (1, .int (iI ship)), (2, .int (iI watch)), (3, .int (iI seed)), (4, .int (iI n)), (5, .int (iI number))]) B.1 B.2.1 dX12_run_63 hl (by decide) rfl (fun ls hl => ?_)
                      have loop65 : ∀ (n65 : Nat) (z_ : Int64) (v : Int) (k : Int), (0 ≤ v ∧ v ≤ k) → (0 ≤ k ∧ k ≤ 1000) → ((1000 - k : Int)).toNat < n65 → ∀ (H : Heap) (locs : List Loc) (ls : Array Slot), yH D Zk A s w H locs → lv_has ls 10 [(9, .int (iI k)), (8, .int (iI v)), (6, .long (z_)), (0, .ref (am 0)), (1, .int (iI ship)), (2, .int (iI watch)), (4, .int (iI n)), (5, .int (iI number))] → W p l e r_c_X12_run s m args below meth c H locs 0 0 Qf (F0 m 65 ls []) := by
                        intro n65
                        induction n65 with
                        | zero =>
                          intro z_ v k h1 h2 hm65 H locs ls h hl
                          exact absurd hm65 (Nat.not_lt_zero _)
                        | succ n65 ih65 =>
                          intro z_ v k h1 h2 hm65 H locs ls h hl
                          refine lv_iload B.1 B.2.1 dX12_run_65 (lv_at hl 0 rfl) ?_
                          refine lv_iload B.1 B.2.1 dX12_run_67 (lv_at hl 6 rfl) ?_
                          refine x_icmp_ge B (by omega) (tgt := 123) dX12_run_69 (by decide) (fun c12 => ?_) (fun c12 => ?_)
                          · refine lv_iload B.1 B.2.1 dX12_run_123 (lv_at hl 1 rfl) ?_
                            refine y_ri B hQ h (by decide) dX12_run_125 ?_
                            exact ⟨rfl, _, rfl, (by first | omega | trivial | assumption)⟩
                          · refine lv_lload B.1 B.2.1 dX12_run_72 (lv_at hl 2 rfl) ?_
                            refine x_ldc2 B m_1699 dX12_run_74 ?_
                            refine lv_lmul B.1 B.2.1 dX12_run_77 ?_
                            refine x_rawL (fun y13 => ?_)
                            refine x_ldc2 B m_1700 dX12_run_78 ?_
                            refine lv_ladd B.1 B.2.1 dX12_run_81 ?_
                            refine x_rawL (fun y14 => ?_)
                            refine lv_lstore (lv' := [(6, .long (y14)), (9, .int (iI k)), (8, .int (iI v)), (0, .ref (am 0)), (1, .int (iI ship)), (2, .int (iI watch)), (4, .int (iI n)), (5, .int (iI number))]) B.1 B.2.1 dX12_run_82 hl (by decide) rfl (fun ls hl => ?_)
                            refine lv_iload B.1 B.2.1 dX12_run_84 (lv_at hl 2 rfl) ?_
                            refine lv_aload_n B.1 B.2.1 dX12_run_86 rfl (lv_at hl 3 rfl) ?_
                            refine lv_iload_n B.1 B.2.1 dX12_run_87 rfl (lv_at hl 4 rfl) ?_
                            refine lv_iload_n B.1 B.2.1 dX12_run_88 rfl (lv_at hl 5 rfl) ?_
                            refine x_iconst B dX12_run_89 ?_
                            refine lv_lload B.1 B.2.1 dX12_run_90 (lv_at hl 0 rfl) ?_
                            refine x_bipush B (by decide) dX12_run_92 ?_
                            refine lv_lushr B.1 B.2.1 dX12_run_94 rfl ?_
                            refine x_rawL (fun y15 => ?_)
                            refine x_ldc2 B m_1701 dX12_run_95 ?_
                            refine lv_lrem B.1 B.2.1 dX12_run_98 (by decide) ?_
                            refine x_rawL (fun y16 => ?_)
                            refine lv_l2i B.1 B.2.1 dX12_run_99 rfl ?_
                            refine x_name (fun z17 hz17 ez17 => ?_)
                            refine x_iconst B dX12_run_100 ?_
                            refine y_cV B h kX12 50 (MW.f hM 0 _ rfl) k_X12_blow rfl (c_X12_blow l D Zk ca T E am _ hM ship watch 0 z17 0  (by omega) (by omega) (by omega) (by omega) (by omega)) m_1702 rfl (by decide) hl.1 [.int (iI v)] (Nat.le_of_ble_eq_true rfl) rfl dX12_run_101 (fun r w1 hq H locs h => ?_)
                            obtain ⟨rfl, z18, rfl, hz18⟩ := hq
                            show W p l e r_c_X12_run s m args below meth c _ _ 0 0 Qf (F0 m 104 ls [.int (iI z18), .int (iI v)])
                            refine lv_iload B.1 B.2.1 dX12_run_104 (lv_at hl 7 rfl) ?_
                            refine x_icmp_ne B (by omega) (tgt := 113) dX12_run_106 (by decide) (fun c19 => ?_) (fun c19 => ?_)
                            · refine x_iconst B dX12_run_113 ?_
                              refine x_iadd B dX12_run_114 ?_
                              refine lv_istore (lv' := [(8, .int (iI (v + 0))), (6, .long (y14)), (9, .int (iI k)), (0, .ref (am 0)), (1, .int (iI ship)), (2, .int (iI watch)), (4, .int (iI n)), (5, .int (iI number))]) B.1 B.2.1 dX12_run_115 hl (by decide) rfl (fun ls hl => ?_)
                              refine lv_iinc (v := iI (k + 1)) (lv' := [(9, .int (iI (k + 1))), (8, .int (iI (v + 0))), (6, .long (y14)), (0, .ref (am 0)), (1, .int (iI ship)), (2, .int (iI watch)), (4, .int (iI n)), (5, .int (iI number))]) B.1 B.2.1 dX12_run_117 hl (k := 2) rfl (iI_add _ _) (by decide) rfl (fun ls hl => ?_)
                              refine lv_goto (tgt := 65) B.1 B.2.1 dX12_run_120 (by decide) ?_
                              exact ih65 y14 ((v + 0)) ((k + 1)) (by omega) (by omega) (by omega) _ _ _ h (lv_sub hl [0, 1, 2, 3, 4, 5, 6, 7] rfl)
                            · refine x_iconst B dX12_run_109 ?_
                              refine lv_goto (tgt := 114) B.1 B.2.1 dX12_run_110 (by decide) ?_
                              refine x_iadd B dX12_run_114 ?_
                              refine lv_istore (lv' := [(8, .int (iI (v + 1))), (6, .long (y14)), (9, .int (iI k)), (0, .ref (am 0)), (1, .int (iI ship)), (2, .int (iI watch)), (4, .int (iI n)), (5, .int (iI number))]) B.1 B.2.1 dX12_run_115 hl (by decide) rfl (fun ls hl => ?_)
                              refine lv_iinc (v := iI (k + 1)) (lv' := [(9, .int (iI (k + 1))), (8, .int (iI (v + 1))), (6, .long (y14)), (0, .ref (am 0)), (1, .int (iI ship)), (2, .int (iI watch)), (4, .int (iI n)), (5, .int (iI number))]) B.1 B.2.1 dX12_run_117 hl (k := 2) rfl (iI_add _ _) (by decide) rfl (fun ls hl => ?_)
                              refine lv_goto (tgt := 65) B.1 B.2.1 dX12_run_120 (by decide) ?_
                              exact ih65 y14 ((v + 1)) ((k + 1)) (by omega) (by omega) (by omega) _ _ _ h (lv_sub hl [0, 1, 2, 3, 4, 5, 6, 7] rfl)
                      exact loop65 (((1000 - 0 : Int)).toNat + 1) y11 0 0 (by omega) (by omega) (Nat.lt_succ_self _) _ _ _ h (lv_sub hl [0, 1, 2, 3, 4, 5, 7, 8] rfl)
                    · exact absurd c10 (by omega)
                  · show W p l e r_c_X12_run s m args below meth c _ _ 0 0 Qf (F0 m 50 ls [.int (iI 0)])
                    refine x_if_ne B (by omega) (tgt := 55) dX12_run_50 (by decide) (fun c20 => ?_) (fun c20 => ?_)
                    · exact absurd c20 (by omega)
                    · refine x_iconst B dX12_run_53 ?_
                      refine y_ri B hQ h (by decide) dX12_run_54 ?_
                      exact ⟨rfl, _, rfl, (by first | omega | trivial | assumption)⟩
              · show W p l e r_c_X12_run s m args below meth c _ _ 0 0 Qf (F0 m 39 ls [.int (iI 0)])
                refine x_if_eq B (by omega) (tgt := 53) dX12_run_39 (by decide) (fun c21 => ?_) (fun c21 => ?_)
                · refine x_iconst B dX12_run_53 ?_
                  refine y_ri B hQ h (by decide) dX12_run_54 ?_
                  exact ⟨rfl, _, rfl, (by first | omega | trivial | assumption)⟩
                · exact absurd c21 (by omega)
          · show W p l e r_c_X12_run s m args below meth c _ _ 0 0 Qf (F0 m 27 ls [.int (iI 0)])
            refine x_if_eq B (by omega) (tgt := 53) dX12_run_27 (by decide) (fun c22 => ?_) (fun c22 => ?_)
            · refine x_iconst B dX12_run_53 ?_
              refine y_ri B hQ h (by decide) dX12_run_54 ?_
              exact ⟨rfl, _, rfl, (by first | omega | trivial | assumption)⟩
            · exact absurd c22 (by omega)
      · show W p l e r_c_X12_run s m args below meth c _ _ 0 0 Qf (F0 m 16 ls [.int (iI 0)])
        refine x_if_eq B (by omega) (tgt := 53) dX12_run_16 (by decide) (fun c23 => ?_) (fun c23 => ?_)
        · refine x_iconst B dX12_run_53 ?_
          refine y_ri B hQ h (by decide) dX12_run_54 ?_
          exact ⟨rfl, _, rfl, (by first | omega | trivial | assumption)⟩
        · exact absurd c23 (by omega)
  · show W p l e r_c_X12_run s m args below meth c _ _ 0 0 Qf (F0 m 5 ls [.int (iI 0)])
    refine x_if_eq B (by omega) (tgt := 53) dX12_run_5 (by decide) (fun c24 => ?_) (fun c24 => ?_)
    · refine x_iconst B dX12_run_53 ?_
      refine y_ri B hQ h (by decide) dX12_run_54 ?_
      exact ⟨rfl, _, rfl, (by first | omega | trivial | assumption)⟩
    · exact absurd c24 (by omega)
abbrev r_c_X12_wished : Room := { frames := 4, cells := 0, slots := 0, locals := 87 }
set_option maxHeartbeats 4000000 in
set_option maxRecDepth 100000 in
theorem c_X12_wished (l : Launch) (D : va_G) (Zk : yK) (ca : Nat → ClassId) (T : Nat → Int → Int) (E : Nat → Int → Int) (am : Nat → Nat) (w : yW) (hM : MW ca T E am w) (o : Int) (what : Int)  (ho : xr o) (hwhat : xr what) : yC l D Zk ca yX12_wished cX12_wished 12 (some .int) r_c_X12_wished [.ref (am 0), .int (iI o), .int (iI what)] w (vI w (fun z => xr z)) := by
  refine yC.of2 "WindWordsModel" (by decide) rfl (Nat.le_of_ble_eq_true rfl) ?_
  intro p e s m args below meth c A ls Qf B hnm h hl hQ
  have hl : lv_has ls 12 [(0, .ref (am 0)), (1, .int (iI o)), (2, .int (iI what))] := hl
  have hs := pi_s (MW.pi hM)
  have hpe := pe_0 (MW.pe hM)
  refine lv_aload_n B.1 B.2.1 dX12_wished_0 rfl (lv_at hl 0 rfl) ?_
  refine lv_iload_n B.1 B.2.1 dX12_wished_1 rfl (lv_at hl 1 rfl) ?_
  refine y_cV B h kX12 50 (MW.f hM 0 _ rfl) k_X12_isOfficer rfl (c_X12_isOfficer l D Zk ca T E am _ hM o  (by omega)) m_1518 rfl (by decide) hl.1 [] (Nat.le_of_ble_eq_true rfl) rfl dX12_wished_2 (fun r w1 hq H locs h => ?_)
  obtain ⟨rfl, _, rfl, ⟨rfl, b1⟩ | ⟨rfl, b1⟩⟩ := hq
  · show W p l e r_c_X12_wished s m args below meth c _ _ 0 0 Qf (F0 m 5 ls [.int (iI 1)])
    refine x_if_eq B (by omega) (tgt := 17) dX12_wished_5 (by decide) (fun c2 => ?_) (fun c2 => ?_)
    · exact absurd c2 (by omega)
    · refine lv_iload_n B.1 B.2.1 dX12_wished_8 rfl (lv_at hl 2 rfl) ?_
      refine x_iconst B dX12_wished_9 ?_
      refine x_iconst B dX12_wished_10 ?_
      refine y_cS B h k_X12_within (c_X12_within l D Zk ca _ what 0 3  (by omega) (by omega) (by omega)) m_1515 rfl (by decide) hl.1 [] (Nat.le_of_ble_eq_true rfl) rfl dX12_wished_11 (fun r w1 hq H locs h => ?_)
      obtain ⟨rfl, _, rfl, ⟨rfl, b3⟩ | ⟨rfl, b3⟩⟩ := hq
      · show W p l e r_c_X12_wished s m args below meth c _ _ 0 0 Qf (F0 m 14 ls [.int (iI 1)])
        refine x_if_ne B (by omega) (tgt := 21) dX12_wished_14 (by decide) (fun c4 => ?_) (fun c4 => ?_)
        · refine x_iconst B dX12_wished_21 ?_
          refine lv_istore_n (lv' := [(3, .int (iI 0)), (0, .ref (am 0)), (1, .int (iI o)), (2, .int (iI what))]) B.1 B.2.1 dX12_wished_22 rfl hl (by decide) rfl (fun ls hl => ?_)
          refine x_iconst B dX12_wished_23 ?_
          refine lv_istore (lv' := [(4, .int (iI 0)), (3, .int (iI 0)), (0, .ref (am 0)), (1, .int (iI o)), (2, .int (iI what))]) B.1 B.2.1 dX12_wished_24 hl (by decide) rfl (fun ls hl => ?_)
          refine x_iconst B dX12_wished_26 ?_
          refine lv_istore (lv' := [(5, .int (iI 0)), (4, .int (iI 0)), (3, .int (iI 0)), (0, .ref (am 0)), (1, .int (iI o)), (2, .int (iI what))]) B.1 B.2.1 dX12_wished_27 hl (by decide) rfl (fun ls hl => ?_)
          refine x_iconst B dX12_wished_29 ?_
          refine lv_istore (lv' := [(6, .int (iI 0)), (5, .int (iI 0)), (4, .int (iI 0)), (3, .int (iI 0)), (0, .ref (am 0)), (1, .int (iI o)), (2, .int (iI what))]) B.1 B.2.1 dX12_wished_30 hl (by decide) rfl (fun ls hl => ?_)
          refine x_iconst B dX12_wished_32 ?_
          refine lv_istore (lv' := [(7, .int (iI 0)), (6, .int (iI 0)), (5, .int (iI 0)), (4, .int (iI 0)), (3, .int (iI 0)), (0, .ref (am 0)), (1, .int (iI o)), (2, .int (iI what))]) B.1 B.2.1 dX12_wished_33 hl (by decide) rfl (fun ls hl => ?_)
          have loop35 : ∀ (n35 : Nat) (n : Int) (pd : Int) (k : Int) (l5 : Int) (l6 : Int), (xr l5) → (xr l6) → (0 ≤ n ∧ n ≤ 12) → (0 ≤ pd ∧ pd ≤ n) → (0 ≤ k ∧ k ≤ 300) → ((300 - k : Int)).toNat < n35 → ∀ (H : Heap) (locs : List Loc) (ls : Array Slot), yH D Zk A s w H locs → lv_has ls 12 [(7, .int (iI k)), (6, .int (iI l6)), (5, .int (iI l5)), (4, .int (iI pd)), (3, .int (iI n)), (0, .ref (am 0)), (1, .int (iI o)), (2, .int (iI what))] → W p l e r_c_X12_wished s m args below meth c H locs 0 0 Qf (F0 m 35 ls []) := by
            intro n35
            induction n35 with
            | zero =>
              intro n pd k l5 l6 xl5 xl6 h0 h1 h2 hm35 H locs ls h hl
              exact absurd hm35 (Nat.not_lt_zero _)
            | succ n35 ih35 =>
              intro n pd k l5 l6 xl5 xl6 h0 h1 h2 hm35 H locs ls h hl
              refine lv_iload B.1 B.2.1 dX12_wished_35 (lv_at hl 0 rfl) ?_
              refine lv_aload_n B.1 B.2.1 dX12_wished_37 rfl (lv_at hl 5 rfl) ?_
              refine y_getX B h kX12 50 (MW.f hM 0 _ rfl) 4 (z := (T 0 2)) rfl m_1265 (by decide) dX12_wished_38 ?_
              refine x_icmp_ge B (by omega) (tgt := 174) dX12_wished_41 (by decide) (fun c5 => ?_) (fun c5 => ?_)
              · refine lv_iload B.1 B.2.1 dX12_wished_174 (lv_at hl 1 rfl) ?_
                refine lv_iload B.1 B.2.1 dX12_wished_176 (lv_at hl 3 rfl) ?_
                refine lv_iload B.1 B.2.1 dX12_wished_178 (lv_at hl 2 rfl) ?_
                refine lv_iload_n B.1 B.2.1 dX12_wished_180 rfl (lv_at hl 4 rfl) ?_
                refine y_cS B h k_X12_lead (c_X12_lead l D Zk ca _ l6 pd l5 n  (by omega) (by omega) (by omega) (by omega)) m_1841 rfl (by decide) hl.1 [] (Nat.le_of_ble_eq_true rfl) rfl dX12_wished_181 (fun r w1 hq H locs h => ?_)
                obtain ⟨rfl, z6, rfl, hz6⟩ := hq
                show W p l e r_c_X12_wished s m args below meth c _ _ 0 0 Qf (F0 m 184 ls [.int (iI z6)])
                refine lv_istore (lv' := [(7, .int (iI z6)), (6, .int (iI l6)), (5, .int (iI l5)), (4, .int (iI pd)), (3, .int (iI n)), (0, .ref (am 0)), (1, .int (iI o)), (2, .int (iI what))]) B.1 B.2.1 dX12_wished_184 hl (by decide) rfl (fun ls hl => ?_)
                refine lv_iload_n B.1 B.2.1 dX12_wished_186 rfl (lv_at hl 7 rfl) ?_
                refine x_iconst B dX12_wished_187 ?_
                refine x_icmp_le B (by omega) (tgt := 203) dX12_wished_188 (by decide) (fun c7 => ?_) (fun c7 => ?_)
                · refine x_iconst B dX12_wished_203 ?_
                  refine lv_istore (lv' := [(8, .int (iI 0)), (7, .int (iI z6)), (6, .int (iI l6)), (5, .int (iI l5)), (4, .int (iI pd)), (3, .int (iI n)), (0, .ref (am 0)), (1, .int (iI o)), (2, .int (iI what))]) B.1 B.2.1 dX12_wished_204 hl (by decide) rfl (fun ls hl => ?_)
                  refine x_iconst B dX12_wished_206 ?_
                  refine lv_istore (lv' := [(9, .int (iI 0)), (8, .int (iI 0)), (7, .int (iI z6)), (6, .int (iI l6)), (5, .int (iI l5)), (4, .int (iI pd)), (3, .int (iI n)), (0, .ref (am 0)), (1, .int (iI o)), (2, .int (iI what))]) B.1 B.2.1 dX12_wished_207 hl (by decide) rfl (fun ls hl => ?_)
                  have loop209 : ∀ (n209 : Nat) (wy : Int) (bt : Int), (0 ≤ wy ∧ wy ≤ bt) → (0 ≤ bt ∧ bt ≤ 2147483647) → ((2147483647 - bt : Int)).toNat < n209 → ∀ (H : Heap) (locs : List Loc) (ls : Array Slot), yH D Zk A s w H locs → lv_has ls 12 [(9, .int (iI bt)), (8, .int (iI wy)), (7, .int (iI z6)), (5, .int (iI l5)), (4, .int (iI pd)), (3, .int (iI n)), (0, .ref (am 0)), (2, .int (iI what))] → W p l e r_c_X12_wished s m args below meth c H locs 0 0 Qf (F0 m 209 ls []) := by
                    intro n209
                    induction n209 with
                    | zero =>
                      intro wy bt h3 h4 hm209 H locs ls h hl
                      exact absurd hm209 (Nat.not_lt_zero _)
                    | succ n209 ih209 =>
                      intro wy bt h3 h4 hm209 H locs ls h hl
                      refine lv_iload B.1 B.2.1 dX12_wished_209 (lv_at hl 0 rfl) ?_
                      refine x_iconst B dX12_wished_211 ?_
                      refine lv_iload_n B.1 B.2.1 dX12_wished_212 rfl (lv_at hl 5 rfl) ?_
                      refine lv_ishl B.1 B.2.1 dX12_wished_213 ?_
                      refine x_name (fun z8 hz8 ez8 => ?_)
                      refine x_icmp_ge B (by omega) (tgt := 311) dX12_wished_214 (by decide) (fun c9 => ?_) (fun c9 => ?_)
                      · refine lv_iload B.1 B.2.1 dX12_wished_311 (lv_at hl 1 rfl) ?_
                        refine y_ri B hQ h (by decide) dX12_wished_313 ?_
                        exact ⟨rfl, _, rfl, (by first | omega | trivial | assumption)⟩
                      · refine lv_iload B.1 B.2.1 dX12_wished_217 (lv_at hl 0 rfl) ?_
                        refine y_cS B h k_X12_bitsOf (c_X12_bitsOf l D Zk ca _ bt  (by omega)) m_1844 rfl (by decide) hl.1 [] (Nat.le_of_ble_eq_true rfl) rfl dX12_wished_219 (fun r w1 hq H locs h => ?_)
                        obtain ⟨rfl, z10, rfl, hz10⟩ := hq
                        show W p l e r_c_X12_wished s m args below meth c _ _ 0 0 Qf (F0 m 222 ls [.int (iI z10)])
                        refine lv_iload B.1 B.2.1 dX12_wished_222 (lv_at hl 4 rfl) ?_
                        refine x_icmp_eq B (by omega) (tgt := 230) dX12_wished_224 (by decide) (fun c11 => ?_) (fun c11 => ?_)
                        · refine x_iconst B dX12_wished_230 ?_
                          refine lv_istore (lv' := [(10, .int (iI 0)), (9, .int (iI bt)), (8, .int (iI wy)), (7, .int (iI z6)), (5, .int (iI l5)), (4, .int (iI pd)), (3, .int (iI n)), (0, .ref (am 0)), (2, .int (iI what))]) B.1 B.2.1 dX12_wished_231 hl (by decide) rfl (fun ls hl => ?_)
                          refine x_iconst B dX12_wished_233 ?_
                          refine lv_istore (lv' := [(11, .int (iI 0)), (10, .int (iI 0)), (9, .int (iI bt)), (8, .int (iI wy)), (7, .int (iI z6)), (5, .int (iI l5)), (4, .int (iI pd)), (3, .int (iI n)), (0, .ref (am 0)), (2, .int (iI what))]) B.1 B.2.1 dX12_wished_234 hl (by decide) rfl (fun ls hl => ?_)
                          have loop236 : ∀ (n236 : Nat) (k2 : Int) (l10 : Int), (xr l10) → (0 ≤ k2 ∧ k2 ≤ 12) → ((12 - k2 : Int)).toNat < n236 → ∀ (H : Heap) (locs : List Loc) (ls : Array Slot), yH D Zk A s w H locs → lv_has ls 12 [(11, .int (iI k2)), (10, .int (iI l10)), (9, .int (iI bt)), (8, .int (iI wy)), (7, .int (iI z6)), (5, .int (iI l5)), (4, .int (iI pd)), (3, .int (iI n)), (0, .ref (am 0)), (2, .int (iI what))] → W p l e r_c_X12_wished s m args below meth c H locs 0 0 Qf (F0 m 236 ls []) := by
                            intro n236
                            induction n236 with
                            | zero =>
                              intro k2 l10 xl10 h5 hm236 H locs ls h hl
                              exact absurd hm236 (Nat.not_lt_zero _)
                            | succ n236 ih236 =>
                              intro k2 l10 xl10 h5 hm236 H locs ls h hl
                              refine lv_iload B.1 B.2.1 dX12_wished_236 (lv_at hl 0 rfl) ?_
                              refine lv_iload_n B.1 B.2.1 dX12_wished_238 rfl (lv_at hl 7 rfl) ?_
                              refine x_icmp_ge B (by omega) (tgt := 275) dX12_wished_239 (by decide) (fun c12 => ?_) (fun c12 => ?_)
                              · refine lv_iload B.1 B.2.1 dX12_wished_275 (lv_at hl 3 rfl) ?_
                                refine lv_iload_n B.1 B.2.1 dX12_wished_277 rfl (lv_at hl 9 rfl) ?_
                                refine x_iconst B dX12_wished_278 ?_
                                refine x_icmp_eq B (by omega) (tgt := 297) dX12_wished_279 (by decide) (fun c13 => ?_) (fun c13 => ?_)
                                · refine x_iconst B dX12_wished_297 ?_
                                  refine lv_goto (tgt := 302) B.1 B.2.1 dX12_wished_298 (by decide) ?_
                                  refine x_iadd B dX12_wished_302 ?_
                                  refine lv_istore (lv' := [(8, .int (iI (wy + 1))), (11, .int (iI k2)), (10, .int (iI l10)), (9, .int (iI bt)), (7, .int (iI z6)), (5, .int (iI l5)), (4, .int (iI pd)), (3, .int (iI n)), (0, .ref (am 0)), (2, .int (iI what))]) B.1 B.2.1 dX12_wished_303 hl (by decide) rfl (fun ls hl => ?_)
                                  refine lv_iinc (v := iI (bt + 1)) (lv' := [(9, .int (iI (bt + 1))), (8, .int (iI (wy + 1))), (11, .int (iI k2)), (10, .int (iI l10)), (7, .int (iI z6)), (5, .int (iI l5)), (4, .int (iI pd)), (3, .int (iI n)), (0, .ref (am 0)), (2, .int (iI what))]) B.1 B.2.1 dX12_wished_305 hl (k := 3) rfl (iI_add _ _) (by decide) rfl (fun ls hl => ?_)
                                  refine lv_goto (tgt := 209) B.1 B.2.1 dX12_wished_308 (by decide) ?_
                                  exact ih209 ((wy + 1)) ((bt + 1)) (by omega) (by omega) (by omega) _ _ _ h (lv_sub hl [0, 1, 4, 5, 6, 7, 8, 9] rfl)
                                · refine lv_iload B.1 B.2.1 dX12_wished_282 (lv_at hl 1 rfl) ?_
                                  refine lv_iload B.1 B.2.1 dX12_wished_284 (lv_at hl 6 rfl) ?_
                                  refine lv_iload B.1 B.2.1 dX12_wished_286 (lv_at hl 5 rfl) ?_
                                  refine lv_iload_n B.1 B.2.1 dX12_wished_288 rfl (lv_at hl 7 rfl) ?_
                                  refine y_cS B h k_X12_lead (c_X12_lead l D Zk ca _ l10 pd l5 n  (by omega) (by omega) (by omega) (by omega)) m_1841 rfl (by decide) hl.1 [.int (iI wy)] (Nat.le_of_ble_eq_true rfl) rfl dX12_wished_289 (fun r w1 hq H locs h => ?_)
                                  obtain ⟨rfl, z14, rfl, hz14⟩ := hq
                                  show W p l e r_c_X12_wished s m args below meth c _ _ 0 0 Qf (F0 m 292 ls [.int (iI z14), .int (iI wy)])
                                  refine lv_iload B.1 B.2.1 dX12_wished_292 (lv_at hl 4 rfl) ?_
                                  refine x_icmp_lt B (by omega) (tgt := 301) dX12_wished_294 (by decide) (fun c15 => ?_) (fun c15 => ?_)
                                  · refine x_iconst B dX12_wished_301 ?_
                                    refine x_iadd B dX12_wished_302 ?_
                                    refine lv_istore (lv' := [(8, .int (iI (wy + 0))), (11, .int (iI k2)), (10, .int (iI l10)), (9, .int (iI bt)), (7, .int (iI z6)), (5, .int (iI l5)), (4, .int (iI pd)), (3, .int (iI n)), (0, .ref (am 0)), (2, .int (iI what))]) B.1 B.2.1 dX12_wished_303 hl (by decide) rfl (fun ls hl => ?_)
                                    refine lv_iinc (v := iI (bt + 1)) (lv' := [(9, .int (iI (bt + 1))), (8, .int (iI (wy + 0))), (11, .int (iI k2)), (10, .int (iI l10)), (7, .int (iI z6)), (5, .int (iI l5)), (4, .int (iI pd)), (3, .int (iI n)), (0, .ref (am 0)), (2, .int (iI what))]) B.1 B.2.1 dX12_wished_305 hl (k := 3) rfl (iI_add _ _) (by decide) rfl (fun ls hl => ?_)
                                    refine lv_goto (tgt := 209) B.1 B.2.1 dX12_wished_308 (by decide) ?_
                                    exact ih209 ((wy + 0)) ((bt + 1)) (by omega) (by omega) (by omega) _ _ _ h (lv_sub hl [0, 1, 4, 5, 6, 7, 8, 9] rfl)
                                  · refine x_iconst B dX12_wished_297 ?_
                                    refine lv_goto (tgt := 302) B.1 B.2.1 dX12_wished_298 (by decide) ?_
                                    refine x_iadd B dX12_wished_302 ?_
                                    refine lv_istore (lv' := [(8, .int (iI (wy + 1))), (11, .int (iI k2)), (10, .int (iI l10)), (9, .int (iI bt)), (7, .int (iI z6)), (5, .int (iI l5)), (4, .int (iI pd)), (3, .int (iI n)), (0, .ref (am 0)), (2, .int (iI what))]) B.1 B.2.1 dX12_wished_303 hl (by decide) rfl (fun ls hl => ?_)
                                    refine lv_iinc (v := iI (bt + 1)) (lv' := [(9, .int (iI (bt + 1))), (8, .int (iI (wy + 1))), (11, .int (iI k2)), (10, .int (iI l10)), (7, .int (iI z6)), (5, .int (iI l5)), (4, .int (iI pd)), (3, .int (iI n)), (0, .ref (am 0)), (2, .int (iI what))]) B.1 B.2.1 dX12_wished_305 hl (k := 3) rfl (iI_add _ _) (by decide) rfl (fun ls hl => ?_)
                                    refine lv_goto (tgt := 209) B.1 B.2.1 dX12_wished_308 (by decide) ?_
                                    exact ih209 ((wy + 1)) ((bt + 1)) (by omega) (by omega) (by omega) _ _ _ h (lv_sub hl [0, 1, 4, 5, 6, 7, 8, 9] rfl)
                              · refine lv_iload B.1 B.2.1 dX12_wished_242 (lv_at hl 1 rfl) ?_
                                refine lv_iload B.1 B.2.1 dX12_wished_244 (lv_at hl 2 rfl) ?_
                                refine lv_iload B.1 B.2.1 dX12_wished_246 (lv_at hl 0 rfl) ?_
                                refine lv_ishr B.1 B.2.1 dX12_wished_248 ?_
                                refine x_name (fun z16 hz16 ez16 => ?_)
                                refine x_iconst B dX12_wished_249 ?_
                                refine lv_iand B.1 B.2.1 dX12_wished_250 ?_
                                obtain ⟨z17, z17a, z17b, ez17⟩ := and1_ex ((iI z16))
                                refine x_iset ez17 ?_
                                refine x_iconst B dX12_wished_251 ?_
                                refine x_icmp_ne B (by omega) (tgt := 265) dX12_wished_252 (by decide) (fun c18 => ?_) (fun c18 => ?_)
                                · refine x_iconst B dX12_wished_265 ?_
                                  refine x_iadd B dX12_wished_266 ?_
                                  refine x_name (fun z19 hz19 ez19 => ?_)
                                  refine lv_istore (lv' := [(10, .int (iI z19)), (11, .int (iI k2)), (9, .int (iI bt)), (8, .int (iI wy)), (7, .int (iI z6)), (5, .int (iI l5)), (4, .int (iI pd)), (3, .int (iI n)), (0, .ref (am 0)), (2, .int (iI what))]) B.1 B.2.1 dX12_wished_267 hl (by decide) rfl (fun ls hl => ?_)
                                  refine lv_iinc (v := iI (k2 + 1)) (lv' := [(11, .int (iI (k2 + 1))), (10, .int (iI z19)), (9, .int (iI bt)), (8, .int (iI wy)), (7, .int (iI z6)), (5, .int (iI l5)), (4, .int (iI pd)), (3, .int (iI n)), (0, .ref (am 0)), (2, .int (iI what))]) B.1 B.2.1 dX12_wished_269 hl (k := 1) rfl (iI_add _ _) (by decide) rfl (fun ls hl => ?_)
                                  refine lv_goto (tgt := 236) B.1 B.2.1 dX12_wished_272 (by decide) ?_
                                  exact ih236 ((k2 + 1)) z19 (by omega) (by omega) (by omega) _ _ _ h (lv_sub hl [0, 1, 2, 3, 4, 5, 6, 7, 8, 9] rfl)
                                · refine lv_aload_n B.1 B.2.1 dX12_wished_255 rfl (lv_at hl 8 rfl) ?_
                                  refine y_getR B h kX12 50 (MW.f hM 0 _ rfl) 66 (b := am 36) rfl m_1327 (by decide) dX12_wished_256 ?_
                                  refine lv_iload B.1 B.2.1 dX12_wished_259 (lv_at hl 0 rfl) ?_
                                  refine y_iald B h 86 (MW.f hM 36 _ rfl) (by omega) dX12_wished_261 (fun fz20 hfz20 => ?_)
                                  refine x_name (fun z20 hz20 ez20 => ?_)
                                  refine lv_goto (tgt := 266) B.1 B.2.1 dX12_wished_262 (by decide) ?_
                                  refine x_iadd B dX12_wished_266 ?_
                                  refine x_name (fun z21 hz21 ez21 => ?_)
                                  refine lv_istore (lv' := [(10, .int (iI z21)), (11, .int (iI k2)), (9, .int (iI bt)), (8, .int (iI wy)), (7, .int (iI z6)), (5, .int (iI l5)), (4, .int (iI pd)), (3, .int (iI n)), (0, .ref (am 0)), (2, .int (iI what))]) B.1 B.2.1 dX12_wished_267 hl (by decide) rfl (fun ls hl => ?_)
                                  refine lv_iinc (v := iI (k2 + 1)) (lv' := [(11, .int (iI (k2 + 1))), (10, .int (iI z21)), (9, .int (iI bt)), (8, .int (iI wy)), (7, .int (iI z6)), (5, .int (iI l5)), (4, .int (iI pd)), (3, .int (iI n)), (0, .ref (am 0)), (2, .int (iI what))]) B.1 B.2.1 dX12_wished_269 hl (k := 1) rfl (iI_add _ _) (by decide) rfl (fun ls hl => ?_)
                                  refine lv_goto (tgt := 236) B.1 B.2.1 dX12_wished_272 (by decide) ?_
                                  exact ih236 ((k2 + 1)) z21 (by omega) (by omega) (by omega) _ _ _ h (lv_sub hl [0, 1, 2, 3, 4, 5, 6, 7, 8, 9] rfl)
                          exact loop236 (((12 - 0 : Int)).toNat + 1) 0 0 (by omega) (by omega) (Nat.lt_succ_self _) _ _ _ h (lv_sub hl [0, 1, 2, 3, 4, 5, 6, 7, 8, 9] rfl)
                        · refine lv_goto (tgt := 305) B.1 B.2.1 dX12_wished_227 (by decide) ?_
                          refine lv_iinc (v := iI (bt + 1)) (lv' := [(9, .int (iI (bt + 1))), (8, .int (iI wy)), (7, .int (iI z6)), (5, .int (iI l5)), (4, .int (iI pd)), (3, .int (iI n)), (0, .ref (am 0)), (2, .int (iI what))]) B.1 B.2.1 dX12_wished_305 hl (k := 0) rfl (iI_add _ _) (by decide) rfl (fun ls hl => ?_)
                          refine lv_goto (tgt := 209) B.1 B.2.1 dX12_wished_308 (by decide) ?_
                          exact ih209 wy ((bt + 1)) (by omega) (by omega) (by omega) _ _ _ h (lv_sub hl [0, 1, 2, 3, 4, 5, 6, 7] rfl)
                  exact loop209 (((2147483647 - 0 : Int)).toNat + 1) 0 0 (by omega) (by omega) (Nat.lt_succ_self _) _ _ _ h (lv_sub hl [0, 1, 2, 4, 5, 6, 7, 9] rfl)
                · refine lv_iload_n B.1 B.2.1 dX12_wished_191 rfl (lv_at hl 7 rfl) ?_
                  refine x_iconst B dX12_wished_192 ?_
                  refine x_icmp_ne B (by omega) (tgt := 201) dX12_wished_193 (by decide) (fun c22 => ?_) (fun c22 => ?_)
                  · refine lv_iload_n B.1 B.2.1 dX12_wished_201 rfl (lv_at hl 4 rfl) ?_
                    refine y_ri B hQ h (by decide) dX12_wished_202 ?_
                    exact ⟨rfl, _, rfl, (by first | omega | trivial | assumption)⟩
                  · refine lv_iload B.1 B.2.1 dX12_wished_196 (lv_at hl 0 rfl) ?_
                    refine lv_goto (tgt := 202) B.1 B.2.1 dX12_wished_198 (by decide) ?_
                    refine y_ri B hQ h (by decide) dX12_wished_202 ?_
                    exact ⟨rfl, _, rfl, (by first | omega | trivial | assumption)⟩
              · refine lv_iload_n B.1 B.2.1 dX12_wished_44 rfl (lv_at hl 4 rfl) ?_
                refine x_bipush B (by decide) dX12_wished_45 ?_
                refine x_icmp_ge B (by omega) (tgt := 174) dX12_wished_47 (by decide) (fun c23 => ?_) (fun c23 => ?_)
                · refine lv_iload B.1 B.2.1 dX12_wished_174 (lv_at hl 1 rfl) ?_
                  refine lv_iload B.1 B.2.1 dX12_wished_176 (lv_at hl 3 rfl) ?_
                  refine lv_iload B.1 B.2.1 dX12_wished_178 (lv_at hl 2 rfl) ?_
                  refine lv_iload_n B.1 B.2.1 dX12_wished_180 rfl (lv_at hl 4 rfl) ?_
                  refine y_cS B h k_X12_lead (c_X12_lead l D Zk ca _ l6 pd l5 n  (by omega) (by omega) (by omega) (by omega)) m_1841 rfl (by decide) hl.1 [] (Nat.le_of_ble_eq_true rfl) rfl dX12_wished_181 (fun r w1 hq H locs h => ?_)
                  obtain ⟨rfl, z24, rfl, hz24⟩ := hq
                  show W p l e r_c_X12_wished s m args below meth c _ _ 0 0 Qf (F0 m 184 ls [.int (iI z24)])
                  refine lv_istore (lv' := [(7, .int (iI z24)), (6, .int (iI l6)), (5, .int (iI l5)), (4, .int (iI pd)), (3, .int (iI n)), (0, .ref (am 0)), (1, .int (iI o)), (2, .int (iI what))]) B.1 B.2.1 dX12_wished_184 hl (by decide) rfl (fun ls hl => ?_)
                  refine lv_iload_n B.1 B.2.1 dX12_wished_186 rfl (lv_at hl 7 rfl) ?_
                  refine x_iconst B dX12_wished_187 ?_
                  refine x_icmp_le B (by omega) (tgt := 203) dX12_wished_188 (by decide) (fun c25 => ?_) (fun c25 => ?_)
                  · refine x_iconst B dX12_wished_203 ?_
                    refine lv_istore (lv' := [(8, .int (iI 0)), (7, .int (iI z24)), (6, .int (iI l6)), (5, .int (iI l5)), (4, .int (iI pd)), (3, .int (iI n)), (0, .ref (am 0)), (1, .int (iI o)), (2, .int (iI what))]) B.1 B.2.1 dX12_wished_204 hl (by decide) rfl (fun ls hl => ?_)
                    refine x_iconst B dX12_wished_206 ?_
                    refine lv_istore (lv' := [(9, .int (iI 0)), (8, .int (iI 0)), (7, .int (iI z24)), (6, .int (iI l6)), (5, .int (iI l5)), (4, .int (iI pd)), (3, .int (iI n)), (0, .ref (am 0)), (1, .int (iI o)), (2, .int (iI what))]) B.1 B.2.1 dX12_wished_207 hl (by decide) rfl (fun ls hl => ?_)
                    have loop209 : ∀ (n209 : Nat) (wy : Int) (bt : Int), (0 ≤ wy ∧ wy ≤ bt) → (0 ≤ bt ∧ bt ≤ 2147483647) → ((2147483647 - bt : Int)).toNat < n209 → ∀ (H : Heap) (locs : List Loc) (ls : Array Slot), yH D Zk A s w H locs → lv_has ls 12 [(9, .int (iI bt)), (8, .int (iI wy)), (7, .int (iI z24)), (5, .int (iI l5)), (4, .int (iI pd)), (3, .int (iI n)), (0, .ref (am 0)), (2, .int (iI what))] → W p l e r_c_X12_wished s m args below meth c H locs 0 0 Qf (F0 m 209 ls []) := by
                      intro n209
                      induction n209 with
                      | zero =>
                        intro wy bt h3 h4 hm209 H locs ls h hl
                        exact absurd hm209 (Nat.not_lt_zero _)
                      | succ n209 ih209 =>
                        intro wy bt h3 h4 hm209 H locs ls h hl
                        refine lv_iload B.1 B.2.1 dX12_wished_209 (lv_at hl 0 rfl) ?_
                        refine x_iconst B dX12_wished_211 ?_
                        refine lv_iload_n B.1 B.2.1 dX12_wished_212 rfl (lv_at hl 5 rfl) ?_
                        refine lv_ishl B.1 B.2.1 dX12_wished_213 ?_
                        refine x_name (fun z26 hz26 ez26 => ?_)
                        refine x_icmp_ge B (by omega) (tgt := 311) dX12_wished_214 (by decide) (fun c27 => ?_) (fun c27 => ?_)
                        · refine lv_iload B.1 B.2.1 dX12_wished_311 (lv_at hl 1 rfl) ?_
                          refine y_ri B hQ h (by decide) dX12_wished_313 ?_
                          exact ⟨rfl, _, rfl, (by first | omega | trivial | assumption)⟩
                        · refine lv_iload B.1 B.2.1 dX12_wished_217 (lv_at hl 0 rfl) ?_
                          refine y_cS B h k_X12_bitsOf (c_X12_bitsOf l D Zk ca _ bt  (by omega)) m_1844 rfl (by decide) hl.1 [] (Nat.le_of_ble_eq_true rfl) rfl dX12_wished_219 (fun r w1 hq H locs h => ?_)
                          obtain ⟨rfl, z28, rfl, hz28⟩ := hq
                          show W p l e r_c_X12_wished s m args below meth c _ _ 0 0 Qf (F0 m 222 ls [.int (iI z28)])
                          refine lv_iload B.1 B.2.1 dX12_wished_222 (lv_at hl 4 rfl) ?_
                          refine x_icmp_eq B (by omega) (tgt := 230) dX12_wished_224 (by decide) (fun c29 => ?_) (fun c29 => ?_)
                          · refine x_iconst B dX12_wished_230 ?_
                            refine lv_istore (lv' := [(10, .int (iI 0)), (9, .int (iI bt)), (8, .int (iI wy)), (7, .int (iI z24)), (5, .int (iI l5)), (4, .int (iI pd)), (3, .int (iI n)), (0, .ref (am 0)), (2, .int (iI what))]) B.1 B.2.1 dX12_wished_231 hl (by decide) rfl (fun ls hl => ?_)
                            refine x_iconst B dX12_wished_233 ?_
                            refine lv_istore (lv' := [(11, .int (iI 0)), (10, .int (iI 0)), (9, .int (iI bt)), (8, .int (iI wy)), (7, .int (iI z24)), (5, .int (iI l5)), (4, .int (iI pd)), (3, .int (iI n)), (0, .ref (am 0)), (2, .int (iI what))]) B.1 B.2.1 dX12_wished_234 hl (by decide) rfl (fun ls hl => ?_)
                            have loop236 : ∀ (n236 : Nat) (k2 : Int) (l10 : Int), (xr l10) → (0 ≤ k2 ∧ k2 ≤ 12) → ((12 - k2 : Int)).toNat < n236 → ∀ (H : Heap) (locs : List Loc) (ls : Array Slot), yH D Zk A s w H locs → lv_has ls 12 [(11, .int (iI k2)), (10, .int (iI l10)), (9, .int (iI bt)), (8, .int (iI wy)), (7, .int (iI z24)), (5, .int (iI l5)), (4, .int (iI pd)), (3, .int (iI n)), (0, .ref (am 0)), (2, .int (iI what))] → W p l e r_c_X12_wished s m args below meth c H locs 0 0 Qf (F0 m 236 ls []) := by
                              intro n236
                              induction n236 with
                              | zero =>
                                intro k2 l10 xl10 h5 hm236 H locs ls h hl
                                exact absurd hm236 (Nat.not_lt_zero _)
                              | succ n236 ih236 =>
                                intro k2 l10 xl10 h5 hm236 H locs ls h hl
                                refine lv_iload B.1 B.2.1 dX12_wished_236 (lv_at hl 0 rfl) ?_
                                refine lv_iload_n B.1 B.2.1 dX12_wished_238 rfl (lv_at hl 7 rfl) ?_
                                refine x_icmp_ge B (by omega) (tgt := 275) dX12_wished_239 (by decide) (fun c30 => ?_) (fun c30 => ?_)
                                · refine lv_iload B.1 B.2.1 dX12_wished_275 (lv_at hl 3 rfl) ?_
                                  refine lv_iload_n B.1 B.2.1 dX12_wished_277 rfl (lv_at hl 9 rfl) ?_
                                  refine x_iconst B dX12_wished_278 ?_
                                  refine x_icmp_eq B (by omega) (tgt := 297) dX12_wished_279 (by decide) (fun c31 => ?_) (fun c31 => ?_)
                                  · refine x_iconst B dX12_wished_297 ?_
                                    refine lv_goto (tgt := 302) B.1 B.2.1 dX12_wished_298 (by decide) ?_
                                    refine x_iadd B dX12_wished_302 ?_
                                    refine lv_istore (lv' := [(8, .int (iI (wy + 1))), (11, .int (iI k2)), (10, .int (iI l10)), (9, .int (iI bt)), (7, .int (iI z24)), (5, .int (iI l5)), (4, .int (iI pd)), (3, .int (iI n)), (0, .ref (am 0)), (2, .int (iI what))]) B.1 B.2.1 dX12_wished_303 hl (by decide) rfl (fun ls hl => ?_)
                                    refine lv_iinc (v := iI (bt + 1)) (lv' := [(9, .int (iI (bt + 1))), (8, .int (iI (wy + 1))), (11, .int (iI k2)), (10, .int (iI l10)), (7, .int (iI z24)), (5, .int (iI l5)), (4, .int (iI pd)), (3, .int (iI n)), (0, .ref (am 0)), (2, .int (iI what))]) B.1 B.2.1 dX12_wished_305 hl (k := 3) rfl (iI_add _ _) (by decide) rfl (fun ls hl => ?_)
                                    refine lv_goto (tgt := 209) B.1 B.2.1 dX12_wished_308 (by decide) ?_
                                    exact ih209 ((wy + 1)) ((bt + 1)) (by omega) (by omega) (by omega) _ _ _ h (lv_sub hl [0, 1, 4, 5, 6, 7, 8, 9] rfl)
                                  · refine lv_iload B.1 B.2.1 dX12_wished_282 (lv_at hl 1 rfl) ?_
                                    refine lv_iload B.1 B.2.1 dX12_wished_284 (lv_at hl 6 rfl) ?_
                                    refine lv_iload B.1 B.2.1 dX12_wished_286 (lv_at hl 5 rfl) ?_
                                    refine lv_iload_n B.1 B.2.1 dX12_wished_288 rfl (lv_at hl 7 rfl) ?_
                                    refine y_cS B h k_X12_lead (c_X12_lead l D Zk ca _ l10 pd l5 n  (by omega) (by omega) (by omega) (by omega)) m_1841 rfl (by decide) hl.1 [.int (iI wy)] (Nat.le_of_ble_eq_true rfl) rfl dX12_wished_289 (fun r w1 hq H locs h => ?_)
                                    obtain ⟨rfl, z32, rfl, hz32⟩ := hq
                                    show W p l e r_c_X12_wished s m args below meth c _ _ 0 0 Qf (F0 m 292 ls [.int (iI z32), .int (iI wy)])
                                    refine lv_iload B.1 B.2.1 dX12_wished_292 (lv_at hl 4 rfl) ?_
                                    refine x_icmp_lt B (by omega) (tgt := 301) dX12_wished_294 (by decide) (fun c33 => ?_) (fun c33 => ?_)
                                    · refine x_iconst B dX12_wished_301 ?_
                                      refine x_iadd B dX12_wished_302 ?_
                                      refine lv_istore (lv' := [(8, .int (iI (wy + 0))), (11, .int (iI k2)), (10, .int (iI l10)), (9, .int (iI bt)), (7, .int (iI z24)), (5, .int (iI l5)), (4, .int (iI pd)), (3, .int (iI n)), (0, .ref (am 0)), (2, .int (iI what))]) B.1 B.2.1 dX12_wished_303 hl (by decide) rfl (fun ls hl => ?_)
                                      refine lv_iinc (v := iI (bt + 1)) (lv' := [(9, .int (iI (bt + 1))), (8, .int (iI (wy + 0))), (11, .int (iI k2)), (10, .int (iI l10)), (7, .int (iI z24)), (5, .int (iI l5)), (4, .int (iI pd)), (3, .int (iI n)), (0, .ref (am 0)), (2, .int (iI what))]) B.1 B.2.1 dX12_wished_305 hl (k := 3) rfl (iI_add _ _) (by decide) rfl (fun ls hl => ?_)
                                      refine lv_goto (tgt := 209) B.1 B.2.1 dX12_wished_308 (by decide) ?_
                                      exact ih209 ((wy + 0)) ((bt + 1)) (by omega) (by omega) (by omega) _ _ _ h (lv_sub hl [0, 1, 4, 5, 6, 7, 8, 9] rfl)
                                    · refine x_iconst B dX12_wished_297 ?_
                                      refine lv_goto (tgt := 302) B.1 B.2.1 dX12_wished_298 (by decide) ?_
                                      refine x_iadd B dX12_wished_302 ?_
                                      refine lv_istore (lv' := [(8, .int (iI (wy + 1))), (11, .int (iI k2)), (10, .int (iI l10)), (9, .int (iI bt)), (7, .int (iI z24)), (5, .int (iI l5)), (4, .int (iI pd)), (3, .int (iI n)), (0, .ref (am 0)), (2, .int (iI what))]) B.1 B.2.1 dX12_wished_303 hl (by decide) rfl (fun ls hl => ?_)
                                      refine lv_iinc (v := iI (bt + 1)) (lv' := [(9, .int (iI (bt + 1))), (8, .int (iI (wy + 1))), (11, .int (iI k2)), (10, .int (iI l10)), (7, .int (iI z24)), (5, .int (iI l5)), (4, .int (iI pd)), (3, .int (iI n)), (0, .ref (am 0)), (2, .int (iI what))]) B.1 B.2.1 dX12_wished_305 hl (k := 3) rfl (iI_add _ _) (by decide) rfl (fun ls hl => ?_)
                                      refine lv_goto (tgt := 209) B.1 B.2.1 dX12_wished_308 (by decide) ?_
                                      exact ih209 ((wy + 1)) ((bt + 1)) (by omega) (by omega) (by omega) _ _ _ h (lv_sub hl [0, 1, 4, 5, 6, 7, 8, 9] rfl)
                                · refine lv_iload B.1 B.2.1 dX12_wished_242 (lv_at hl 1 rfl) ?_
                                  refine lv_iload B.1 B.2.1 dX12_wished_244 (lv_at hl 2 rfl) ?_
                                  refine lv_iload B.1 B.2.1 dX12_wished_246 (lv_at hl 0 rfl) ?_
                                  refine lv_ishr B.1 B.2.1 dX12_wished_248 ?_
                                  refine x_name (fun z34 hz34 ez34 => ?_)
                                  refine x_iconst B dX12_wished_249 ?_
                                  refine lv_iand B.1 B.2.1 dX12_wished_250 ?_
                                  obtain ⟨z35, z35a, z35b, ez35⟩ := and1_ex ((iI z34))
                                  refine x_iset ez35 ?_
                                  refine x_iconst B dX12_wished_251 ?_
                                  refine x_icmp_ne B (by omega) (tgt := 265) dX12_wished_252 (by decide) (fun c36 => ?_) (fun c36 => ?_)
                                  · refine x_iconst B dX12_wished_265 ?_
                                    refine x_iadd B dX12_wished_266 ?_
                                    refine x_name (fun z37 hz37 ez37 => ?_)
                                    refine lv_istore (lv' := [(10, .int (iI z37)), (11, .int (iI k2)), (9, .int (iI bt)), (8, .int (iI wy)), (7, .int (iI z24)), (5, .int (iI l5)), (4, .int (iI pd)), (3, .int (iI n)), (0, .ref (am 0)), (2, .int (iI what))]) B.1 B.2.1 dX12_wished_267 hl (by decide) rfl (fun ls hl => ?_)
                                    refine lv_iinc (v := iI (k2 + 1)) (lv' := [(11, .int (iI (k2 + 1))), (10, .int (iI z37)), (9, .int (iI bt)), (8, .int (iI wy)), (7, .int (iI z24)), (5, .int (iI l5)), (4, .int (iI pd)), (3, .int (iI n)), (0, .ref (am 0)), (2, .int (iI what))]) B.1 B.2.1 dX12_wished_269 hl (k := 1) rfl (iI_add _ _) (by decide) rfl (fun ls hl => ?_)
                                    refine lv_goto (tgt := 236) B.1 B.2.1 dX12_wished_272 (by decide) ?_
                                    exact ih236 ((k2 + 1)) z37 (by omega) (by omega) (by omega) _ _ _ h (lv_sub hl [0, 1, 2, 3, 4, 5, 6, 7, 8, 9] rfl)
                                  · refine lv_aload_n B.1 B.2.1 dX12_wished_255 rfl (lv_at hl 8 rfl) ?_
                                    refine y_getR B h kX12 50 (MW.f hM 0 _ rfl) 66 (b := am 36) rfl m_1327 (by decide) dX12_wished_256 ?_
                                    refine lv_iload B.1 B.2.1 dX12_wished_259 (lv_at hl 0 rfl) ?_
                                    refine y_iald B h 86 (MW.f hM 36 _ rfl) (by omega) dX12_wished_261 (fun fz38 hfz38 => ?_)
                                    refine x_name (fun z38 hz38 ez38 => ?_)
                                    refine lv_goto (tgt := 266) B.1 B.2.1 dX12_wished_262 (by decide) ?_
                                    refine x_iadd B dX12_wished_266 ?_
                                    refine x_name (fun z39 hz39 ez39 => ?_)
                                    refine lv_istore (lv' := [(10, .int (iI z39)), (11, .int (iI k2)), (9, .int (iI bt)), (8, .int (iI wy)), (7, .int (iI z24)), (5, .int (iI l5)), (4, .int (iI pd)), (3, .int (iI n)), (0, .ref (am 0)), (2, .int (iI what))]) B.1 B.2.1 dX12_wished_267 hl (by decide) rfl (fun ls hl => ?_)
                                    refine lv_iinc (v := iI (k2 + 1)) (lv' := [(11, .int (iI (k2 + 1))), (10, .int (iI z39)), (9, .int (iI bt)), (8, .int (iI wy)), (7, .int (iI z24)), (5, .int (iI l5)), (4, .int (iI pd)), (3, .int (iI n)), (0, .ref (am 0)), (2, .int (iI what))]) B.1 B.2.1 dX12_wished_269 hl (k := 1) rfl (iI_add _ _) (by decide) rfl (fun ls hl => ?_)
                                    refine lv_goto (tgt := 236) B.1 B.2.1 dX12_wished_272 (by decide) ?_
                                    exact ih236 ((k2 + 1)) z39 (by omega) (by omega) (by omega) _ _ _ h (lv_sub hl [0, 1, 2, 3, 4, 5, 6, 7, 8, 9] rfl)
                            exact loop236 (((12 - 0 : Int)).toNat + 1) 0 0 (by omega) (by omega) (Nat.lt_succ_self _) _ _ _ h (lv_sub hl [0, 1, 2, 3, 4, 5, 6, 7, 8, 9] rfl)
                          · refine lv_goto (tgt := 305) B.1 B.2.1 dX12_wished_227 (by decide) ?_
                            refine lv_iinc (v := iI (bt + 1)) (lv' := [(9, .int (iI (bt + 1))), (8, .int (iI wy)), (7, .int (iI z24)), (5, .int (iI l5)), (4, .int (iI pd)), (3, .int (iI n)), (0, .ref (am 0)), (2, .int (iI what))]) B.1 B.2.1 dX12_wished_305 hl (k := 0) rfl (iI_add _ _) (by decide) rfl (fun ls hl => ?_)
                            refine lv_goto (tgt := 209) B.1 B.2.1 dX12_wished_308 (by decide) ?_
                            exact ih209 wy ((bt + 1)) (by omega) (by omega) (by omega) _ _ _ h (lv_sub hl [0, 1, 2, 3, 4, 5, 6, 7] rfl)
                    exact loop209 (((2147483647 - 0 : Int)).toNat + 1) 0 0 (by omega) (by omega) (Nat.lt_succ_self _) _ _ _ h (lv_sub hl [0, 1, 2, 4, 5, 6, 7, 9] rfl)
                  · refine lv_iload_n B.1 B.2.1 dX12_wished_191 rfl (lv_at hl 7 rfl) ?_
                    refine x_iconst B dX12_wished_192 ?_
                    refine x_icmp_ne B (by omega) (tgt := 201) dX12_wished_193 (by decide) (fun c40 => ?_) (fun c40 => ?_)
                    · refine lv_iload_n B.1 B.2.1 dX12_wished_201 rfl (lv_at hl 4 rfl) ?_
                      refine y_ri B hQ h (by decide) dX12_wished_202 ?_
                      exact ⟨rfl, _, rfl, (by first | omega | trivial | assumption)⟩
                    · refine lv_iload B.1 B.2.1 dX12_wished_196 (lv_at hl 0 rfl) ?_
                      refine lv_goto (tgt := 202) B.1 B.2.1 dX12_wished_198 (by decide) ?_
                      refine y_ri B hQ h (by decide) dX12_wished_202 ?_
                      exact ⟨rfl, _, rfl, (by first | omega | trivial | assumption)⟩
                · refine lv_aload_n B.1 B.2.1 dX12_wished_50 rfl (lv_at hl 5 rfl) ?_
                  refine lv_iload B.1 B.2.1 dX12_wished_51 (lv_at hl 0 rfl) ?_
                  refine y_cV B h kX12 50 (MW.f hM 0 _ rfl) k_X12_isMan rfl (c_X12_isMan l D Zk ca T E am _ hM k  (by omega)) m_1728 rfl (by decide) hl.1 [] (Nat.le_of_ble_eq_true rfl) rfl dX12_wished_53 (fun r w1 hq H locs h => ?_)
                  obtain ⟨rfl, _, rfl, ⟨rfl, b41⟩ | ⟨rfl, b41⟩⟩ := hq
                  · show W p l e r_c_X12_wished s m args below meth c _ _ 0 0 Qf (F0 m 56 ls [.int (iI 1)])
                    refine x_if_eq B (by omega) (tgt := 78) dX12_wished_56 (by decide) (fun c42 => ?_) (fun c42 => ?_)
                    · exact absurd c42 (by omega)
                    · refine lv_aload_n B.1 B.2.1 dX12_wished_59 rfl (lv_at hl 5 rfl) ?_
                      refine lv_iload B.1 B.2.1 dX12_wished_60 (lv_at hl 0 rfl) ?_
                      refine y_cV B h kX12 50 (MW.f hM 0 _ rfl) k_X12_writer rfl (c_X12_writer l D Zk ca T E am _ hM k  (by omega)) m_1736 rfl (by decide) hl.1 [] (Nat.le_of_ble_eq_true rfl) rfl dX12_wished_62 (fun r w1 hq H locs h => ?_)
                      obtain ⟨rfl, _, rfl, rfl⟩ := hq
                      have tb43 := pi_3 (MW.pi hM) (1000 * T 4 k + T 5 k)
                      show W p l e r_c_X12_wished s m args below meth c _ _ 0 0 Qf (F0 m 65 ls [.int (iI (T 3 (1000 * T 4 k + T 5 k)))])
                      refine lv_iload_n B.1 B.2.1 dX12_wished_65 rfl (lv_at hl 6 rfl) ?_
                      refine x_icmp_ne B (by omega) (tgt := 78) dX12_wished_66 (by decide) (fun c44 => ?_) (fun c44 => ?_)
                      · refine x_iconst B dX12_wished_78 ?_
                        refine lv_istore (lv' := [(8, .int (iI (-1))), (7, .int (iI k)), (6, .int (iI l6)), (5, .int (iI l5)), (4, .int (iI pd)), (3, .int (iI n)), (0, .ref (am 0)), (1, .int (iI o)), (2, .int (iI what))]) B.1 B.2.1 dX12_wished_79 hl (by decide) rfl (fun ls hl => ?_)
                        refine lv_iload B.1 B.2.1 dX12_wished_81 (lv_at hl 0 rfl) ?_
                        refine x_if_ge B (by omega) (tgt := 89) dX12_wished_83 (by decide) (fun c45 => ?_) (fun c45 => ?_)
                        · exact absurd c45 (by omega)
                        · refine lv_goto (tgt := 168) B.1 B.2.1 dX12_wished_86 (by decide) ?_
                          refine lv_iinc (v := iI (k + 1)) (lv' := [(7, .int (iI (k + 1))), (8, .int (iI (-1))), (6, .int (iI l6)), (5, .int (iI l5)), (4, .int (iI pd)), (3, .int (iI n)), (0, .ref (am 0)), (1, .int (iI o)), (2, .int (iI what))]) B.1 B.2.1 dX12_wished_168 hl (k := 1) rfl (iI_add _ _) (by decide) rfl (fun ls hl => ?_)
                          refine lv_goto (tgt := 35) B.1 B.2.1 dX12_wished_171 (by decide) ?_
                          exact ih35 n pd ((k + 1)) l5 l6 (by omega) (by omega) (by omega) (by omega) (by omega) (by omega) _ _ _ h (lv_sub hl [0, 2, 3, 4, 5, 6, 7, 8] rfl)
                      · refine lv_aload_n B.1 B.2.1 dX12_wished_69 rfl (lv_at hl 5 rfl) ?_
                        refine lv_iload B.1 B.2.1 dX12_wished_70 (lv_at hl 0 rfl) ?_
                        refine y_cV B h kX12 50 (MW.f hM 0 _ rfl) k_X12_beside rfl (c_X12_beside l D Zk ca T E am _ hM k  (by omega)) m_1837 rfl (by decide) hl.1 [] (Nat.le_of_ble_eq_true rfl) rfl dX12_wished_72 (fun r w1 hq H locs h => ?_)
                        obtain ⟨rfl, z46, rfl, hz46⟩ := hq
                        show W p l e r_c_X12_wished s m args below meth c _ _ 0 0 Qf (F0 m 75 ls [.int (iI z46)])
                        refine lv_goto (tgt := 79) B.1 B.2.1 dX12_wished_75 (by decide) ?_
                        refine lv_istore (lv' := [(8, .int (iI z46)), (7, .int (iI k)), (6, .int (iI l6)), (5, .int (iI l5)), (4, .int (iI pd)), (3, .int (iI n)), (0, .ref (am 0)), (1, .int (iI o)), (2, .int (iI what))]) B.1 B.2.1 dX12_wished_79 hl (by decide) rfl (fun ls hl => ?_)
                        refine lv_iload B.1 B.2.1 dX12_wished_81 (lv_at hl 0 rfl) ?_
                        refine x_if_ge B (by omega) (tgt := 89) dX12_wished_83 (by decide) (fun c47 => ?_) (fun c47 => ?_)
                        · refine lv_aload_n B.1 B.2.1 dX12_wished_89 rfl (lv_at hl 6 rfl) ?_
                          refine y_getR B h kX12 50 (MW.f hM 0 _ rfl) 66 (b := am 36) rfl m_1327 (by decide) dX12_wished_90 ?_
                          refine lv_iload_n B.1 B.2.1 dX12_wished_93 rfl (lv_at hl 5 rfl) ?_
                          refine lv_aload_n B.1 B.2.1 dX12_wished_94 rfl (lv_at hl 6 rfl) ?_
                          refine y_getR B h kX12 50 (MW.f hM 0 _ rfl) 18 (b := am 13) rfl m_1279 (by decide) dX12_wished_95 ?_
                          refine lv_iload B.1 B.2.1 dX12_wished_98 (lv_at hl 1 rfl) ?_
                          refine y_ialdX B h 63 (MW.f hM 13 _ rfl) (by omega) dX12_wished_100 ?_
                          refine x_iset (z := (T 8 k)) (by show iI (T 8 (((k : Int).toNat : Nat) : Int)) = _; rw [show ((((k : Int).toNat : Nat) : Int)) = k by omega]) ?_
                          have tb48 := pi_8 (MW.pi hM) k
                          have tb49 := pi_n (MW.pi hM) k
                          refine lv_aload_n B.1 B.2.1 dX12_wished_101 rfl (lv_at hl 6 rfl) ?_
                          refine y_getR B h kX12 50 (MW.f hM 0 _ rfl) 18 (b := am 13) rfl m_1279 (by decide) dX12_wished_102 ?_
                          refine lv_iload B.1 B.2.1 dX12_wished_105 (lv_at hl 0 rfl) ?_
                          refine y_ialdX B h 63 (MW.f hM 13 _ rfl) (by omega) dX12_wished_107 ?_
                          refine x_iset (z := (T 8 z46)) (by show iI (T 8 (((z46 : Int).toNat : Nat) : Int)) = _; rw [show ((((z46 : Int).toNat : Nat) : Int)) = z46 by omega]) ?_
                          have tb50 := pi_8 (MW.pi hM) z46
                          have tb51 := pi_n (MW.pi hM) z46
                          refine x_isub B dX12_wished_108 ?_
                          refine x_name (fun z52 hz52 ez52 => ?_)
                          refine y_iastS B h 86 (MW.f hM 36 _ rfl) (by omega) (fun _ _ => trivial) dX12_wished_109 (fun H locs h => ?_)
                          refine lv_aload_n B.1 B.2.1 dX12_wished_110 rfl (lv_at hl 6 rfl) ?_
                          refine y_getR B h kX12 50 (MW.f hM 0 _ rfl) 67 (b := am 37) rfl m_1328 (by decide) dX12_wished_111 ?_
                          refine lv_iload_n B.1 B.2.1 dX12_wished_114 rfl (lv_at hl 5 rfl) ?_
                          refine lv_aload_n B.1 B.2.1 dX12_wished_115 rfl (lv_at hl 6 rfl) ?_
                          refine y_getR B h kX12 50 (MW.f hM 0 _ rfl) 20 (b := am 15) rfl m_1281 (by decide) dX12_wished_116 ?_
                          refine lv_iload B.1 B.2.1 dX12_wished_119 (lv_at hl 1 rfl) ?_
                          refine y_ialdX B h 65 (MW.f hM 15 _ rfl) (by omega) dX12_wished_121 ?_
                          refine x_iset (z := (T 10 k)) (by show iI (T 10 (((k : Int).toNat : Nat) : Int)) = _; rw [show ((((k : Int).toNat : Nat) : Int)) = k by omega]) ?_
                          have tb53 := pi_10 (MW.pi hM) k
                          refine x_if_le B (by omega) (tgt := 129) dX12_wished_122 (by decide) (fun c54 => ?_) (fun c54 => ?_)
                          · refine x_iconst B dX12_wished_129 ?_
                            refine y_zastS B h 87 (MW.f hM 37 _ rfl) (by omega) (gG_updZ (by omega)) dX12_wished_130 (fun H locs h => ?_)
                            refine lv_iload B.1 B.2.1 dX12_wished_131 (lv_at hl 3 rfl) ?_
                            refine lv_aload_n B.1 B.2.1 dX12_wished_133 rfl (lv_at hl 6 rfl) ?_
                            refine y_getR B h kX12 50 (MW.f hM 0 _ rfl) 66 (b := am 36) rfl m_1327 (by decide) dX12_wished_134 ?_
                            refine lv_iload_n B.1 B.2.1 dX12_wished_137 rfl (lv_at hl 5 rfl) ?_
                            refine y_iald B h 86 (MW.f hM 36 _ rfl) (by omega) dX12_wished_138 (fun fz55 hfz55 => ?_)
                            refine x_name (fun z55 hz55 ez55 => ?_)
                            refine x_iadd B dX12_wished_139 ?_
                            refine x_name (fun z56 hz56 ez56 => ?_)
                            refine lv_istore (lv' := [(5, .int (iI z56)), (8, .int (iI z46)), (7, .int (iI k)), (6, .int (iI l6)), (4, .int (iI pd)), (3, .int (iI n)), (0, .ref (am 0)), (1, .int (iI o)), (2, .int (iI what))]) B.1 B.2.1 dX12_wished_140 hl (by decide) rfl (fun ls hl => ?_)
                            refine lv_aload_n B.1 B.2.1 dX12_wished_142 rfl (lv_at hl 6 rfl) ?_
                            refine y_getR B h kX12 50 (MW.f hM 0 _ rfl) 67 (b := am 37) rfl m_1328 (by decide) dX12_wished_143 ?_
                            refine lv_iload_n B.1 B.2.1 dX12_wished_146 rfl (lv_at hl 5 rfl) ?_
                            refine y_zaldG B h 87 (MW.f hM 37 _ rfl) (by omega) dX12_wished_147 (fun z57 z57a z57b => ?_)
                            refine x_if_eq B (by omega) (tgt := 165) dX12_wished_148 (by decide) (fun c58 => ?_) (fun c58 => ?_)
                            · refine lv_iinc (v := iI (n + 1)) (lv' := [(3, .int (iI (n + 1))), (5, .int (iI z56)), (8, .int (iI z46)), (7, .int (iI k)), (6, .int (iI l6)), (4, .int (iI pd)), (0, .ref (am 0)), (1, .int (iI o)), (2, .int (iI what))]) B.1 B.2.1 dX12_wished_165 hl (k := 5) rfl (iI_add _ _) (by decide) rfl (fun ls hl => ?_)
                              refine lv_iinc (v := iI (k + 1)) (lv' := [(7, .int (iI (k + 1))), (3, .int (iI (n + 1))), (5, .int (iI z56)), (8, .int (iI z46)), (6, .int (iI l6)), (4, .int (iI pd)), (0, .ref (am 0)), (1, .int (iI o)), (2, .int (iI what))]) B.1 B.2.1 dX12_wished_168 hl (k := 3) rfl (iI_add _ _) (by decide) rfl (fun ls hl => ?_)
                              refine lv_goto (tgt := 35) B.1 B.2.1 dX12_wished_171 (by decide) ?_
                              exact ih35 ((n + 1)) pd ((k + 1)) z56 l6 (by omega) (by omega) (by omega) (by omega) (by omega) (by omega) _ _ _ h (lv_sub hl [0, 4, 2, 5, 1, 6, 7, 8] rfl)
                            · refine lv_iinc (v := iI (pd + 1)) (lv' := [(4, .int (iI (pd + 1))), (5, .int (iI z56)), (8, .int (iI z46)), (7, .int (iI k)), (6, .int (iI l6)), (3, .int (iI n)), (0, .ref (am 0)), (1, .int (iI o)), (2, .int (iI what))]) B.1 B.2.1 dX12_wished_151 hl (k := 4) rfl (iI_add _ _) (by decide) rfl (fun ls hl => ?_)
                              refine lv_iload B.1 B.2.1 dX12_wished_154 (lv_at hl 4 rfl) ?_
                              refine lv_aload_n B.1 B.2.1 dX12_wished_156 rfl (lv_at hl 6 rfl) ?_
                              refine y_getR B h kX12 50 (MW.f hM 0 _ rfl) 66 (b := am 36) rfl m_1327 (by decide) dX12_wished_157 ?_
                              refine lv_iload_n B.1 B.2.1 dX12_wished_160 rfl (lv_at hl 5 rfl) ?_
                              refine y_iald B h 86 (MW.f hM 36 _ rfl) (by omega) dX12_wished_161 (fun fz59 hfz59 => ?_)
                              refine x_name (fun z59 hz59 ez59 => ?_)
                              refine x_iadd B dX12_wished_162 ?_
                              refine x_name (fun z60 hz60 ez60 => ?_)
                              refine lv_istore (lv' := [(6, .int (iI z60)), (4, .int (iI (pd + 1))), (5, .int (iI z56)), (8, .int (iI z46)), (7, .int (iI k)), (3, .int (iI n)), (0, .ref (am 0)), (1, .int (iI o)), (2, .int (iI what))]) B.1 B.2.1 dX12_wished_163 hl (by decide) rfl (fun ls hl => ?_)
                              refine lv_iinc (v := iI (n + 1)) (lv' := [(3, .int (iI (n + 1))), (6, .int (iI z60)), (4, .int (iI (pd + 1))), (5, .int (iI z56)), (8, .int (iI z46)), (7, .int (iI k)), (0, .ref (am 0)), (1, .int (iI o)), (2, .int (iI what))]) B.1 B.2.1 dX12_wished_165 hl (k := 5) rfl (iI_add _ _) (by decide) rfl (fun ls hl => ?_)
                              refine lv_iinc (v := iI (k + 1)) (lv' := [(7, .int (iI (k + 1))), (3, .int (iI (n + 1))), (6, .int (iI z60)), (4, .int (iI (pd + 1))), (5, .int (iI z56)), (8, .int (iI z46)), (0, .ref (am 0)), (1, .int (iI o)), (2, .int (iI what))]) B.1 B.2.1 dX12_wished_168 hl (k := 5) rfl (iI_add _ _) (by decide) rfl (fun ls hl => ?_)
                              refine lv_goto (tgt := 35) B.1 B.2.1 dX12_wished_171 (by decide) ?_
                              exact ih35 ((n + 1)) ((pd + 1)) ((k + 1)) z56 z60 (by omega) (by omega) (by omega) (by omega) (by omega) (by omega) _ _ _ h (lv_sub hl [0, 2, 4, 3, 1, 6, 7, 8] rfl)
                          · refine x_iconst B dX12_wished_125 ?_
                            refine lv_goto (tgt := 130) B.1 B.2.1 dX12_wished_126 (by decide) ?_
                            refine y_zastS B h 87 (MW.f hM 37 _ rfl) (by omega) (gG_updZ (by omega)) dX12_wished_130 (fun H locs h => ?_)
                            refine lv_iload B.1 B.2.1 dX12_wished_131 (lv_at hl 3 rfl) ?_
                            refine lv_aload_n B.1 B.2.1 dX12_wished_133 rfl (lv_at hl 6 rfl) ?_
                            refine y_getR B h kX12 50 (MW.f hM 0 _ rfl) 66 (b := am 36) rfl m_1327 (by decide) dX12_wished_134 ?_
                            refine lv_iload_n B.1 B.2.1 dX12_wished_137 rfl (lv_at hl 5 rfl) ?_
                            refine y_iald B h 86 (MW.f hM 36 _ rfl) (by omega) dX12_wished_138 (fun fz61 hfz61 => ?_)
                            refine x_name (fun z61 hz61 ez61 => ?_)
                            refine x_iadd B dX12_wished_139 ?_
                            refine x_name (fun z62 hz62 ez62 => ?_)
                            refine lv_istore (lv' := [(5, .int (iI z62)), (8, .int (iI z46)), (7, .int (iI k)), (6, .int (iI l6)), (4, .int (iI pd)), (3, .int (iI n)), (0, .ref (am 0)), (1, .int (iI o)), (2, .int (iI what))]) B.1 B.2.1 dX12_wished_140 hl (by decide) rfl (fun ls hl => ?_)
                            refine lv_aload_n B.1 B.2.1 dX12_wished_142 rfl (lv_at hl 6 rfl) ?_
                            refine y_getR B h kX12 50 (MW.f hM 0 _ rfl) 67 (b := am 37) rfl m_1328 (by decide) dX12_wished_143 ?_
                            refine lv_iload_n B.1 B.2.1 dX12_wished_146 rfl (lv_at hl 5 rfl) ?_
                            refine y_zaldG B h 87 (MW.f hM 37 _ rfl) (by omega) dX12_wished_147 (fun z63 z63a z63b => ?_)
                            refine x_if_eq B (by omega) (tgt := 165) dX12_wished_148 (by decide) (fun c64 => ?_) (fun c64 => ?_)
                            · refine lv_iinc (v := iI (n + 1)) (lv' := [(3, .int (iI (n + 1))), (5, .int (iI z62)), (8, .int (iI z46)), (7, .int (iI k)), (6, .int (iI l6)), (4, .int (iI pd)), (0, .ref (am 0)), (1, .int (iI o)), (2, .int (iI what))]) B.1 B.2.1 dX12_wished_165 hl (k := 5) rfl (iI_add _ _) (by decide) rfl (fun ls hl => ?_)
                              refine lv_iinc (v := iI (k + 1)) (lv' := [(7, .int (iI (k + 1))), (3, .int (iI (n + 1))), (5, .int (iI z62)), (8, .int (iI z46)), (6, .int (iI l6)), (4, .int (iI pd)), (0, .ref (am 0)), (1, .int (iI o)), (2, .int (iI what))]) B.1 B.2.1 dX12_wished_168 hl (k := 3) rfl (iI_add _ _) (by decide) rfl (fun ls hl => ?_)
                              refine lv_goto (tgt := 35) B.1 B.2.1 dX12_wished_171 (by decide) ?_
                              exact ih35 ((n + 1)) pd ((k + 1)) z62 l6 (by omega) (by omega) (by omega) (by omega) (by omega) (by omega) _ _ _ h (lv_sub hl [0, 4, 2, 5, 1, 6, 7, 8] rfl)
                            · refine lv_iinc (v := iI (pd + 1)) (lv' := [(4, .int (iI (pd + 1))), (5, .int (iI z62)), (8, .int (iI z46)), (7, .int (iI k)), (6, .int (iI l6)), (3, .int (iI n)), (0, .ref (am 0)), (1, .int (iI o)), (2, .int (iI what))]) B.1 B.2.1 dX12_wished_151 hl (k := 4) rfl (iI_add _ _) (by decide) rfl (fun ls hl => ?_)
                              refine lv_iload B.1 B.2.1 dX12_wished_154 (lv_at hl 4 rfl) ?_
                              refine lv_aload_n B.1 B.2.1 dX12_wished_156 rfl (lv_at hl 6 rfl) ?_
                              refine y_getR B h kX12 50 (MW.f hM 0 _ rfl) 66 (b := am 36) rfl m_1327 (by decide) dX12_wished_157 ?_
                              refine lv_iload_n B.1 B.2.1 dX12_wished_160 rfl (lv_at hl 5 rfl) ?_
                              refine y_iald B h 86 (MW.f hM 36 _ rfl) (by omega) dX12_wished_161 (fun fz65 hfz65 => ?_)
                              refine x_name (fun z65 hz65 ez65 => ?_)
                              refine x_iadd B dX12_wished_162 ?_
                              refine x_name (fun z66 hz66 ez66 => ?_)
                              refine lv_istore (lv' := [(6, .int (iI z66)), (4, .int (iI (pd + 1))), (5, .int (iI z62)), (8, .int (iI z46)), (7, .int (iI k)), (3, .int (iI n)), (0, .ref (am 0)), (1, .int (iI o)), (2, .int (iI what))]) B.1 B.2.1 dX12_wished_163 hl (by decide) rfl (fun ls hl => ?_)
                              refine lv_iinc (v := iI (n + 1)) (lv' := [(3, .int (iI (n + 1))), (6, .int (iI z66)), (4, .int (iI (pd + 1))), (5, .int (iI z62)), (8, .int (iI z46)), (7, .int (iI k)), (0, .ref (am 0)), (1, .int (iI o)), (2, .int (iI what))]) B.1 B.2.1 dX12_wished_165 hl (k := 5) rfl (iI_add _ _) (by decide) rfl (fun ls hl => ?_)
                              refine lv_iinc (v := iI (k + 1)) (lv' := [(7, .int (iI (k + 1))), (3, .int (iI (n + 1))), (6, .int (iI z66)), (4, .int (iI (pd + 1))), (5, .int (iI z62)), (8, .int (iI z46)), (0, .ref (am 0)), (1, .int (iI o)), (2, .int (iI what))]) B.1 B.2.1 dX12_wished_168 hl (k := 5) rfl (iI_add _ _) (by decide) rfl (fun ls hl => ?_)
                              refine lv_goto (tgt := 35) B.1 B.2.1 dX12_wished_171 (by decide) ?_
                              exact ih35 ((n + 1)) ((pd + 1)) ((k + 1)) z62 z66 (by omega) (by omega) (by omega) (by omega) (by omega) (by omega) _ _ _ h (lv_sub hl [0, 2, 4, 3, 1, 6, 7, 8] rfl)
                        · refine lv_goto (tgt := 168) B.1 B.2.1 dX12_wished_86 (by decide) ?_
                          refine lv_iinc (v := iI (k + 1)) (lv' := [(7, .int (iI (k + 1))), (8, .int (iI z46)), (6, .int (iI l6)), (5, .int (iI l5)), (4, .int (iI pd)), (3, .int (iI n)), (0, .ref (am 0)), (1, .int (iI o)), (2, .int (iI what))]) B.1 B.2.1 dX12_wished_168 hl (k := 1) rfl (iI_add _ _) (by decide) rfl (fun ls hl => ?_)
                          refine lv_goto (tgt := 35) B.1 B.2.1 dX12_wished_171 (by decide) ?_
                          exact ih35 n pd ((k + 1)) l5 l6 (by omega) (by omega) (by omega) (by omega) (by omega) (by omega) _ _ _ h (lv_sub hl [0, 2, 3, 4, 5, 6, 7, 8] rfl)
                  · show W p l e r_c_X12_wished s m args below meth c _ _ 0 0 Qf (F0 m 56 ls [.int (iI 0)])
                    refine x_if_eq B (by omega) (tgt := 78) dX12_wished_56 (by decide) (fun c67 => ?_) (fun c67 => ?_)
                    · refine x_iconst B dX12_wished_78 ?_
                      refine lv_istore (lv' := [(8, .int (iI (-1))), (7, .int (iI k)), (6, .int (iI l6)), (5, .int (iI l5)), (4, .int (iI pd)), (3, .int (iI n)), (0, .ref (am 0)), (1, .int (iI o)), (2, .int (iI what))]) B.1 B.2.1 dX12_wished_79 hl (by decide) rfl (fun ls hl => ?_)
                      refine lv_iload B.1 B.2.1 dX12_wished_81 (lv_at hl 0 rfl) ?_
                      refine x_if_ge B (by omega) (tgt := 89) dX12_wished_83 (by decide) (fun c68 => ?_) (fun c68 => ?_)
                      · exact absurd c68 (by omega)
                      · refine lv_goto (tgt := 168) B.1 B.2.1 dX12_wished_86 (by decide) ?_
                        refine lv_iinc (v := iI (k + 1)) (lv' := [(7, .int (iI (k + 1))), (8, .int (iI (-1))), (6, .int (iI l6)), (5, .int (iI l5)), (4, .int (iI pd)), (3, .int (iI n)), (0, .ref (am 0)), (1, .int (iI o)), (2, .int (iI what))]) B.1 B.2.1 dX12_wished_168 hl (k := 1) rfl (iI_add _ _) (by decide) rfl (fun ls hl => ?_)
                        refine lv_goto (tgt := 35) B.1 B.2.1 dX12_wished_171 (by decide) ?_
                        exact ih35 n pd ((k + 1)) l5 l6 (by omega) (by omega) (by omega) (by omega) (by omega) (by omega) _ _ _ h (lv_sub hl [0, 2, 3, 4, 5, 6, 7, 8] rfl)
                    · exact absurd c67 (by omega)
          exact loop35 (((300 - 0 : Int)).toNat + 1) 0 0 0 0 0 (by omega) (by omega) (by omega) (by omega) (by omega) (Nat.lt_succ_self _) _ _ _ h (lv_sub hl [0, 1, 2, 3, 4, 5, 6, 7] rfl)
        · exact absurd c4 (by omega)
      · show W p l e r_c_X12_wished s m args below meth c _ _ 0 0 Qf (F0 m 14 ls [.int (iI 0)])
        refine x_if_ne B (by omega) (tgt := 21) dX12_wished_14 (by decide) (fun c69 => ?_) (fun c69 => ?_)
        · exact absurd c69 (by omega)
        · refine x_ldcw B (z := (-1000000)) m_1836 (by decide) dX12_wished_17 ?_
          refine y_ri B hQ h (by decide) dX12_wished_20 ?_
          exact ⟨rfl, _, rfl, (by first | omega | trivial | assumption)⟩
  · show W p l e r_c_X12_wished s m args below meth c _ _ 0 0 Qf (F0 m 5 ls [.int (iI 0)])
    refine x_if_eq B (by omega) (tgt := 17) dX12_wished_5 (by decide) (fun c70 => ?_) (fun c70 => ?_)
    · refine x_ldcw B (z := (-1000000)) m_1836 (by decide) dX12_wished_17 ?_
      refine y_ri B hQ h (by decide) dX12_wished_20 ?_
      exact ⟨rfl, _, rfl, (by first | omega | trivial | assumption)⟩
    · exact absurd c70 (by omega)
