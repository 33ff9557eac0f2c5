theorem k_X12_scaleFor : xMV yX12_scaleFor cX12_scaleFor 4 (some .int) 1 := ⟨m_1670, m_1669, m_62, m_104, ⟨by decide +kernel, by decide +kernel, by decide +kernel⟩⟩
theorem k_X12_readsBy : xMV yX12_readsBy cX12_readsBy 9 (some .int) 6 := ⟨m_1674, m_1673, m_63, m_104, ⟨by decide +kernel, by decide +kernel, by decide +kernel⟩⟩
theorem k_X12_readIn : xMV yX12_readIn cX12_readIn 6 (some .int) 5 := ⟨m_1666, m_1665, m_61, m_104, ⟨by decide +kernel, by decide +kernel, by decide +kernel⟩⟩
theorem k_X12_columns : xMV yX12_columns cX12_columns 7 none 4 := ⟨m_1710, m_1709, m_67, m_104, ⟨by decide +kernel, by decide +kernel, by decide +kernel⟩⟩
theorem k_X12_turns : xMV yX12_turns cX12_turns 7 (some .boolean) 5 := ⟨m_1718, m_1717, m_68, m_104, ⟨by decide +kernel, by decide +kernel, by decide +kernel⟩⟩
abbrev r_c_X12_scaleFor : Room := { frames := 0, cells := 0, slots := 0, locals := 0 }
set_option maxHeartbeats 4000000 in
set_option maxRecDepth 100000 in
theorem c_X12_scaleFor (l : Launch) (D : va_G) (ca : Nat → ClassId) (w : xW) (year : Int) (am : Nat → Nat) (f0 : w[0]? = some (am 0, xO 12 [fR (am 1), fX 0, fX 0, fX 0, fX 0, fX 1, fX 1, fR (am 2), fR (am 3), fR (am 4), fR (am 5), fR (am 6), fR (am 7), fR (am 8), fR (am 9), fR (am 10), fR (am 11), fR (am 12), fR (am 13), fR (am 14), fR (am 15), fR (am 16), fR (am 17), fX 0, fR (am 18), fR (am 19), fR (am 20), fR (am 21), fR (am 22), fR (am 23), fR (am 24), fR (am 25), fX 0, fX (-1), fG 0 0, fG 0 0, fG 0 0, fG 0 0, fG 0 0, fG 0 0, fG 0 0, fG 0 0, fL, fX 0, fR (am 26), fX 0, fX 0, fR (am 27), fR (am 28), fR (am 29), fR (am 30), fR (am 31), fX 0, fX 0, fX 0, fX 0, fR (am 32), fX 0, fX 0, fX 0, fX 0, fR (am 33), fR (am 34), fR (am 35), fX 0, fX 0, fR (am 36), fR (am 37), fR (am 38), fX (-1), fX 0, fX 0, fX 0, fR (am 39), fX 0, fR (am 40), fR (am 41), fR (am 42), fR (am 43), fR (am 44)])) (hyear : xr year) : xC l D ca yX12_scaleFor cX12_scaleFor 4 (some .int) r_c_X12_scaleFor [.ref (am 0), .int (iI year)] w (qI w (fun z => z = (-1))) := by
  refine xC.of2 "WindWordsModel" (by decide) rfl (Nat.le_of_ble_eq_true rfl) ?_
  intro p e s m args below meth c A ls Qf B hnm h hl hQ
  have hl : lv_has ls 4 [(0, .ref (am 0)), (1, .int (iI year))] := hl
  refine x_iconst B dX12_scaleFor_0 ?_
  refine lv_istore_n (lv' := [(2, .int (iI (-1))), (0, .ref (am 0)), (1, .int (iI year))]) B.1 B.2.1 dX12_scaleFor_1 rfl hl (by decide) rfl (fun ls hl => ?_)
  refine x_iconst B dX12_scaleFor_2 ?_
  refine lv_istore_n (lv' := [(3, .int (iI 0)), (2, .int (iI (-1))), (0, .ref (am 0)), (1, .int (iI year))]) B.1 B.2.1 dX12_scaleFor_3 rfl hl (by decide) rfl (fun ls hl => ?_)
  refine lv_iload_n B.1 B.2.1 dX12_scaleFor_4 rfl (lv_at hl 0 rfl) ?_
  refine lv_aload_n B.1 B.2.1 dX12_scaleFor_5 rfl (lv_at hl 2 rfl) ?_
  refine x_getX B h kX12 0 f0 23 (z := 0) rfl m_1284 (by decide) dX12_scaleFor_6 ?_
  refine x_icmp_ge B (by omega) (tgt := 49) dX12_scaleFor_9 (by decide) (fun c1 => ?_) (fun c1 => ?_)
  · refine lv_iload_n B.1 B.2.1 dX12_scaleFor_49 rfl (lv_at hl 1 rfl) ?_
    refine x_ri B hQ h (by decide) dX12_scaleFor_50 ?_
    exact ⟨rfl, _, rfl, by omega⟩
  · exact absurd c1 (by omega)
abbrev r_c_X12_readsBy : Room := { frames := 0, cells := 0, slots := 0, locals := 0 }
set_option maxHeartbeats 4000000 in
set_option maxRecDepth 100000 in
theorem c_X12_readsBy (l : Launch) (D : va_G) (ca : Nat → ClassId) (w : xW) (k : Int) (kind : Int) (wind : Int) (rg : Int) (depth : Int) (year : Int) (am : Nat → Nat) (f0 : w[0]? = some (am 0, xO 12 [fR (am 1), fX 0, fX 0, fX 0, fX 0, fX 1, fX 1, fR (am 2), fR (am 3), fR (am 4), fR (am 5), fR (am 6), fR (am 7), fR (am 8), fR (am 9), fR (am 10), fR (am 11), fR (am 12), fR (am 13), fR (am 14), fR (am 15), fR (am 16), fR (am 17), fX 0, fR (am 18), fR (am 19), fR (am 20), fR (am 21), fR (am 22), fR (am 23), fR (am 24), fR (am 25), fX 0, fX (-1), fG 0 0, fG 0 0, fG 0 0, fG 0 0, fG 0 0, fG 0 0, fG 0 0, fG 0 0, fL, fX 0, fR (am 26), fX 0, fX 0, fR (am 27), fR (am 28), fR (am 29), fR (am 30), fR (am 31), fX 0, fX 0, fX 0, fX 0, fR (am 32), fX 0, fX 0, fX 0, fX 0, fR (am 33), fR (am 34), fR (am 35), fX 0, fX 0, fR (am 36), fR (am 37), fR (am 38), fX (-1), fX 0, fX 0, fX 0, fR (am 39), fX 0, fR (am 40), fR (am 41), fR (am 42), fR (am 43), fR (am 44)])) (hk : k < 0) (hk2 : xr k) (hw : 0 ≤ wind ∧ wind ≤ 99) : xC l D ca yX12_readsBy cX12_readsBy 9 (some .int) r_c_X12_readsBy [.ref (am 0), .int (iI k), .int (iI kind), .int (iI wind), .int (iI rg), .int (iI depth), .int (iI year)] w (qI w (fun z => z = min 12 (wind / 8))) := by
  refine xC.of2 "WindWordsModel" (by decide) rfl (Nat.le_of_ble_eq_true rfl) ?_
  intro p e s m args below meth c A ls Qf B hnm h hl hQ
  have hl : lv_has ls 9 [(0, .ref (am 0)), (1, .int (iI k)), (2, .int (iI kind)), (3, .int (iI wind)), (4, .int (iI rg)), (5, .int (iI depth)), (6, .int (iI year))] := hl
  refine lv_iload_n B.1 B.2.1 dX12_readsBy_0 rfl (lv_at hl 1 rfl) ?_
  refine x_if_ge B (by omega) (tgt := 23) dX12_readsBy_1 (by decide) (fun c1 => ?_) (fun c1 => ?_)
  · exact absurd c1 (by omega)
  · refine lv_iload_n B.1 B.2.1 dX12_readsBy_4 rfl (lv_at hl 3 rfl) ?_
    refine x_bipush B (by decide) dX12_readsBy_5 ?_
    refine x_idiv B (by omega) dX12_readsBy_7 ?_
    refine x_bipush B (by decide) dX12_readsBy_8 ?_
    refine x_icmp_le B (by omega) (tgt := 18) dX12_readsBy_10 (by decide) (fun c2 => ?_) (fun c2 => ?_)
    · refine lv_iload_n B.1 B.2.1 dX12_readsBy_18 rfl (lv_at hl 3 rfl) ?_
      refine x_bipush B (by decide) dX12_readsBy_19 ?_
      refine x_idiv B (by omega) dX12_readsBy_21 ?_
      refine x_ri B hQ h (by decide) dX12_readsBy_22 ?_
      exact ⟨rfl, _, rfl, by omega⟩
    · refine x_bipush B (by decide) dX12_readsBy_13 ?_
      refine lv_goto (tgt := 22) B.1 B.2.1 dX12_readsBy_15 (by decide) ?_
      refine x_ri B hQ h (by decide) dX12_readsBy_22 ?_
      exact ⟨rfl, _, rfl, by omega⟩
abbrev r_c_X12_readIn : Room := { frames := 1, cells := 0, slots := 0, locals := 28 }
set_option maxHeartbeats 4000000 in
set_option maxRecDepth 100000 in
theorem c_X12_readIn (l : Launch) (D : va_G) (ca : Nat → ClassId) (w : xW) (kind : Int) (wind : Int) (rg : Int) (depth : Int) (year : Int) (am : Nat → Nat) (f0 : w[0]? = some (am 0, xO 12 [fR (am 1), fX 0, fX 0, fX 0, fX 0, fX 1, fX 1, fR (am 2), fR (am 3), fR (am 4), fR (am 5), fR (am 6), fR (am 7), fR (am 8), fR (am 9), fR (am 10), fR (am 11), fR (am 12), fR (am 13), fR (am 14), fR (am 15), fR (am 16), fR (am 17), fX 0, fR (am 18), fR (am 19), fR (am 20), fR (am 21), fR (am 22), fR (am 23), fR (am 24), fR (am 25), fX 0, fX (-1), fG 0 0, fG 0 0, fG 0 0, fG 0 0, fG 0 0, fG 0 0, fG 0 0, fG 0 0, fL, fX 0, fR (am 26), fX 0, fX 0, fR (am 27), fR (am 28), fR (am 29), fR (am 30), fR (am 31), fX 0, fX 0, fX 0, fX 0, fR (am 32), fX 0, fX 0, fX 0, fX 0, fR (am 33), fR (am 34), fR (am 35), fX 0, fX 0, fR (am 36), fR (am 37), fR (am 38), fX (-1), fX 0, fX 0, fX 0, fR (am 39), fX 0, fR (am 40), fR (am 41), fR (am 42), fR (am 43), fR (am 44)])) (hw : 0 ≤ wind ∧ wind ≤ 99) (hy : xr year) : xC l D ca yX12_readIn cX12_readIn 6 (some .int) r_c_X12_readIn [.ref (am 0), .int (iI kind), .int (iI wind), .int (iI rg), .int (iI depth), .int (iI year)] w (qI w (fun z => z = min 12 (wind / 8))) := by
  refine xC.of2 "WindWordsModel" (by decide) rfl (Nat.le_of_ble_eq_true rfl) ?_
  intro p e s m args below meth c A ls Qf B hnm h hl hQ
  have hl : lv_has ls 6 [(0, .ref (am 0)), (1, .int (iI kind)), (2, .int (iI wind)), (3, .int (iI rg)), (4, .int (iI depth)), (5, .int (iI year))] := hl
  refine lv_aload_n B.1 B.2.1 dX12_readIn_0 rfl (lv_at hl 0 rfl) ?_
  refine lv_aload_n B.1 B.2.1 dX12_readIn_1 rfl (lv_at hl 0 rfl) ?_
  refine lv_iload B.1 B.2.1 dX12_readIn_2 (lv_at hl 5 rfl) ?_
  refine x_cV B h kX12 0 f0 k_X12_scaleFor rfl (c_X12_scaleFor l D ca _ year am f0 (by omega)) m_1667 rfl (by decide) hl.1 [.ref (am 0)] (Nat.le_of_ble_eq_true rfl) rfl dX12_readIn_4 (fun r w1 hq H locs h => ?_)
  obtain ⟨rfl, _, rfl, rfl⟩ := hq
  show W p l e r_c_X12_readIn s m args below meth c H locs 0 0 Qf (F0 m 7 ls [.int (iI (-1)), .ref (am 0)])
  refine lv_iload_n B.1 B.2.1 dX12_readIn_7 rfl (lv_at hl 1 rfl) ?_
  refine lv_iload_n B.1 B.2.1 dX12_readIn_8 rfl (lv_at hl 2 rfl) ?_
  refine lv_iload_n B.1 B.2.1 dX12_readIn_9 rfl (lv_at hl 3 rfl) ?_
  refine lv_iload B.1 B.2.1 dX12_readIn_10 (lv_at hl 4 rfl) ?_
  refine lv_iload B.1 B.2.1 dX12_readIn_12 (lv_at hl 5 rfl) ?_
  refine x_cV B h kX12 0 f0 k_X12_readsBy rfl (c_X12_readsBy l D ca _ ((-1)) kind wind rg depth year am f0 (by omega) (by omega) (by omega)) m_1671 rfl (by decide) hl.1 [] (Nat.le_of_ble_eq_true rfl) rfl dX12_readIn_14 (fun r w1 hq H locs h => ?_)
  obtain ⟨rfl, _, rfl, rfl⟩ := hq
  show W p l e r_c_X12_readIn s m args below meth c H locs 0 0 Qf (F0 m 17 ls [.int (iI (min 12 (wind / 8)))])
  refine x_ri B hQ h (by decide) dX12_readIn_17 ?_
  exact ⟨rfl, _, rfl, by omega⟩
abbrev r_c_X12_reads_ : Room := { frames := 2, cells := 0, slots := 0, locals := 53 }
set_option maxHeartbeats 4000000 in
set_option maxRecDepth 100000 in
theorem c_X12_reads_ (l : Launch) (D : va_G) (ca : Nat → ClassId) (w : xW) (year : Int) (kind : Int) (wind : Int) (mix : Int) (am : Nat → Nat) (f0 : w[0]? = some (am 0, xO 12 [fR (am 1), fX 0, fX 0, fX 0, fX 0, fX 1, fX 1, fR (am 2), fR (am 3), fR (am 4), fR (am 5), fR (am 6), fR (am 7), fR (am 8), fR (am 9), fR (am 10), fR (am 11), fR (am 12), fR (am 13), fR (am 14), fR (am 15), fR (am 16), fR (am 17), fX 0, fR (am 18), fR (am 19), fR (am 20), fR (am 21), fR (am 22), fR (am 23), fR (am 24), fR (am 25), fX 0, fX (-1), fG 0 0, fG 0 0, fG 0 0, fG 0 0, fG 0 0, fG 0 0, fG 0 0, fG 0 0, fL, fX 0, fR (am 26), fX 0, fX 0, fR (am 27), fR (am 28), fR (am 29), fR (am 30), fR (am 31), fX 0, fX 0, fX 0, fX 0, fR (am 32), fX 0, fX 0, fX 0, fX 0, fR (am 33), fR (am 34), fR (am 35), fX 0, fX 0, fR (am 36), fR (am 37), fR (am 38), fX (-1), fX 0, fX 0, fX 0, fR (am 39), fX 0, fR (am 40), fR (am 41), fR (am 42), fR (am 43), fR (am 44)])) (hyear : xr year) (hkind : xr kind) (hwind : xr wind) (hmix : xr mix) : xC l D ca yX12_reads_ cX12_reads_ 5 (some .int) r_c_X12_reads_ [.ref (am 0), .int (iI year), .int (iI kind), .int (iI wind), .int (iI mix)] w (qIa (fun z => (((0 ≤ year ∧ year ≤ 9) ∧ (0 ≤ kind ∧ kind ≤ 2) ∧ (0 ≤ wind ∧ wind ≤ 99) ∧ (0 ≤ mix ∧ mix ≤ 39)) → z = min 12 (wind / 8)) ∧ (¬ ((0 ≤ year ∧ year ≤ 9) ∧ (0 ≤ kind ∧ kind ≤ 2) ∧ (0 ≤ wind ∧ wind ≤ 99) ∧ (0 ≤ mix ∧ mix ≤ 39)) → z = -1))) := by
  refine xC.of2 "WindWordsModel" (by decide) rfl (Nat.le_of_ble_eq_true rfl) ?_
  intro p e s m args below meth c A ls Qf B hnm h hl hQ
  have hl : lv_has ls 5 [(0, .ref (am 0)), (1, .int (iI year)), (2, .int (iI kind)), (3, .int (iI wind)), (4, .int (iI mix))] := hl
  refine lv_iload_n B.1 B.2.1 dX12_reads__0 rfl (lv_at hl 1 rfl) ?_
  refine x_iconst B dX12_reads__1 ?_
  refine x_bipush B (by decide) dX12_reads__2 ?_
  refine x_cS B h k_X12_within (c_X12_within l D ca _ year 0 9  (by omega) (by omega) (by omega)) m_1515 rfl (by decide) hl.1 [] (Nat.le_of_ble_eq_true rfl) rfl dX12_reads__4 (fun r w1 hq H locs h => ?_)
  obtain ⟨rfl, ⟨rfl, b1⟩ | ⟨rfl, b1⟩⟩ := hq
  · show W p l e r_c_X12_reads_ s m args below meth c H locs 0 0 Qf (F0 m 7 ls [.int (iI 1)])
    refine x_if_eq B (by omega) (tgt := 40) dX12_reads__7 (by decide) (fun c2 => ?_) (fun c2 => ?_)
    · exact absurd c2 (by omega)
    · refine lv_iload_n B.1 B.2.1 dX12_reads__10 rfl (lv_at hl 2 rfl) ?_
      refine x_iconst B dX12_reads__11 ?_
      refine x_iconst B dX12_reads__12 ?_
      refine x_cS B h k_X12_within (c_X12_within l D ca _ kind 0 2  (by omega) (by omega) (by omega)) m_1515 rfl (by decide) hl.1 [] (Nat.le_of_ble_eq_true rfl) rfl dX12_reads__13 (fun r w1 hq H locs h => ?_)
      obtain ⟨rfl, ⟨rfl, b3⟩ | ⟨rfl, b3⟩⟩ := hq
      · show W p l e r_c_X12_reads_ s m args below meth c H locs 0 0 Qf (F0 m 16 ls [.int (iI 1)])
        refine x_if_eq B (by omega) (tgt := 40) dX12_reads__16 (by decide) (fun c4 => ?_) (fun c4 => ?_)
        · exact absurd c4 (by omega)
        · refine lv_iload_n B.1 B.2.1 dX12_reads__19 rfl (lv_at hl 3 rfl) ?_
          refine x_iconst B dX12_reads__20 ?_
          refine x_bipush B (by decide) dX12_reads__21 ?_
          refine x_cS B h k_X12_within (c_X12_within l D ca _ wind 0 99  (by omega) (by omega) (by omega)) m_1515 rfl (by decide) hl.1 [] (Nat.le_of_ble_eq_true rfl) rfl dX12_reads__23 (fun r w1 hq H locs h => ?_)
          obtain ⟨rfl, ⟨rfl, b5⟩ | ⟨rfl, b5⟩⟩ := hq
          · show W p l e r_c_X12_reads_ s m args below meth c H locs 0 0 Qf (F0 m 26 ls [.int (iI 1)])
            refine x_if_eq B (by omega) (tgt := 40) dX12_reads__26 (by decide) (fun c6 => ?_) (fun c6 => ?_)
            · exact absurd c6 (by omega)
            · refine lv_iload B.1 B.2.1 dX12_reads__29 (lv_at hl 4 rfl) ?_
              refine x_iconst B dX12_reads__31 ?_
              refine x_bipush B (by decide) dX12_reads__32 ?_
              refine x_cS B h k_X12_within (c_X12_within l D ca _ mix 0 39  (by omega) (by omega) (by omega)) m_1515 rfl (by decide) hl.1 [] (Nat.le_of_ble_eq_true rfl) rfl dX12_reads__34 (fun r w1 hq H locs h => ?_)
              obtain ⟨rfl, ⟨rfl, b7⟩ | ⟨rfl, b7⟩⟩ := hq
              · show W p l e r_c_X12_reads_ s m args below meth c H locs 0 0 Qf (F0 m 37 ls [.int (iI 1)])
                refine x_if_ne B (by omega) (tgt := 42) dX12_reads__37 (by decide) (fun c8 => ?_) (fun c8 => ?_)
                · refine lv_aload_n B.1 B.2.1 dX12_reads__42 rfl (lv_at hl 0 rfl) ?_
                  refine lv_iload_n B.1 B.2.1 dX12_reads__43 rfl (lv_at hl 2 rfl) ?_
                  refine lv_iload_n B.1 B.2.1 dX12_reads__44 rfl (lv_at hl 3 rfl) ?_
                  refine lv_iload B.1 B.2.1 dX12_reads__45 (lv_at hl 4 rfl) ?_
                  refine x_bipush B (by decide) dX12_reads__47 ?_
                  refine x_idiv B (by omega) dX12_reads__49 ?_
                  refine lv_iload B.1 B.2.1 dX12_reads__50 (lv_at hl 4 rfl) ?_
                  refine x_bipush B (by decide) dX12_reads__52 ?_
                  refine x_irem B (by omega) dX12_reads__54 ?_
                  refine lv_iload_n B.1 B.2.1 dX12_reads__55 rfl (lv_at hl 1 rfl) ?_
                  refine x_cV B h kX12 0 f0 k_X12_readIn rfl (c_X12_readIn l D ca _ kind wind ((mix / 10)) ((mix % 10)) year am f0 (by omega) (by omega)) m_1663 rfl (by decide) hl.1 [] (Nat.le_of_ble_eq_true rfl) rfl dX12_reads__56 (fun r w1 hq H locs h => ?_)
                  obtain ⟨rfl, _, rfl, rfl⟩ := hq
                  show W p l e r_c_X12_reads_ s m args below meth c H locs 0 0 Qf (F0 m 59 ls [.int (iI (min 12 (wind / 8)))])
                  refine x_ri B hQ h (by decide) dX12_reads__59 ?_
                  exact ⟨_, rfl, by omega⟩
                · exact absurd c8 (by omega)
              · show W p l e r_c_X12_reads_ s m args below meth c H locs 0 0 Qf (F0 m 37 ls [.int (iI 0)])
                refine x_if_ne B (by omega) (tgt := 42) dX12_reads__37 (by decide) (fun c10 => ?_) (fun c10 => ?_)
                · exact absurd c10 (by omega)
                · refine x_iconst B dX12_reads__40 ?_
                  refine x_ri B hQ h (by decide) dX12_reads__41 ?_
                  exact ⟨_, rfl, by omega⟩
          · show W p l e r_c_X12_reads_ s m args below meth c H locs 0 0 Qf (F0 m 26 ls [.int (iI 0)])
            refine x_if_eq B (by omega) (tgt := 40) dX12_reads__26 (by decide) (fun c11 => ?_) (fun c11 => ?_)
            · refine x_iconst B dX12_reads__40 ?_
              refine x_ri B hQ h (by decide) dX12_reads__41 ?_
              exact ⟨_, rfl, by omega⟩
            · exact absurd c11 (by omega)
      · show W p l e r_c_X12_reads_ s m args below meth c H locs 0 0 Qf (F0 m 16 ls [.int (iI 0)])
        refine x_if_eq B (by omega) (tgt := 40) dX12_reads__16 (by decide) (fun c12 => ?_) (fun c12 => ?_)
        · refine x_iconst B dX12_reads__40 ?_
          refine x_ri B hQ h (by decide) dX12_reads__41 ?_
          exact ⟨_, rfl, by omega⟩
        · exact absurd c12 (by omega)
  · show W p l e r_c_X12_reads_ s m args below meth c H locs 0 0 Qf (F0 m 7 ls [.int (iI 0)])
    refine x_if_eq B (by omega) (tgt := 40) dX12_reads__7 (by decide) (fun c13 => ?_) (fun c13 => ?_)
    · refine x_iconst B dX12_reads__40 ?_
      refine x_ri B hQ h (by decide) dX12_reads__41 ?_
      exact ⟨_, rfl, by omega⟩
    · exact absurd c13 (by omega)
abbrev r_c_X12_blow : Room := { frames := 1, cells := 0, slots := 0, locals := 21 }
set_option maxHeartbeats 4000000 in
set_option maxRecDepth 100000 in
theorem c_X12_blow (l : Launch) (D : va_G) (ca : Nat → ClassId) (w : xW) (ship : Int) (watch : Int) (kind : Int) (wind : Int) (depth : Int) (am : Nat → Nat) (f0 : w[0]? = some (am 0, xO 12 [fR (am 1), fX 0, fX 0, fX 0, fX 0, fX 1, fX 1, fR (am 2), fR (am 3), fR (am 4), fR (am 5), fR (am 6), fR (am 7), fR (am 8), fR (am 9), fR (am 10), fR (am 11), fR (am 12), fR (am 13), fR (am 14), fR (am 15), fR (am 16), fR (am 17), fX 0, fR (am 18), fR (am 19), fR (am 20), fR (am 21), fR (am 22), fR (am 23), fR (am 24), fR (am 25), fX 0, fX (-1), fG 0 0, fG 0 0, fG 0 0, fG 0 0, fG 0 0, fG 0 0, fG 0 0, fG 0 0, fL, fX 0, fR (am 26), fX 0, fX 0, fR (am 27), fR (am 28), fR (am 29), fR (am 30), fR (am 31), fX 0, fX 0, fX 0, fX 0, fR (am 32), fX 0, fX 0, fX 0, fX 0, fR (am 33), fR (am 34), fR (am 35), fX 0, fX 0, fR (am 36), fR (am 37), fR (am 38), fX (-1), fX 0, fX 0, fX 0, fR (am 39), fX 0, fR (am 40), fR (am 41), fR (am 42), fR (am 43), fR (am 44)])) (hship : xr ship) (hwatch : xr watch) (hkind : xr kind) (hwind : xr wind) (hdepth : xr depth) : xC l D ca yX12_blow cX12_blow 6 (some .int) r_c_X12_blow [.ref (am 0), .int (iI ship), .int (iI watch), .int (iI kind), .int (iI wind), .int (iI depth)] w (qIa (fun z => z = -1)) := by
  refine xC.of2 "WindWordsModel" (by decide) rfl (Nat.le_of_ble_eq_true rfl) ?_
  intro p e s m args below meth c A ls Qf B hnm h hl hQ
  have hl : lv_has ls 6 [(0, .ref (am 0)), (1, .int (iI ship)), (2, .int (iI watch)), (3, .int (iI kind)), (4, .int (iI wind)), (5, .int (iI depth))] := hl
  refine lv_aload_n B.1 B.2.1 dX12_blow_0 rfl (lv_at hl 0 rfl) ?_
  refine lv_iload_n B.1 B.2.1 dX12_blow_1 rfl (lv_at hl 1 rfl) ?_
  refine x_cV B h kX12 0 f0 k_X12_isShip rfl (c_X12_isShip l D ca _ ship am f0 (by omega)) m_1526 rfl (by decide) hl.1 [] (Nat.le_of_ble_eq_true rfl) rfl dX12_blow_2 (fun r w1 hq H locs h => ?_)
  obtain ⟨rfl, ⟨rfl, b1⟩ | ⟨rfl, b1⟩⟩ := hq
  · exact b1.elim
  · show W p l e r_c_X12_blow s m args below meth c H locs 0 0 Qf (F0 m 5 ls [.int (iI 0)])
    refine x_if_eq B (by omega) (tgt := 50) dX12_blow_5 (by decide) (fun c2 => ?_) (fun c2 => ?_)
    · refine x_iconst B dX12_blow_50 ?_
      refine x_ri B hQ h (by decide) dX12_blow_51 ?_
      exact ⟨_, rfl, by omega⟩
    · exact absurd c2 (by omega)
abbrev r_c_X12_run : Room := { frames := 1, cells := 0, slots := 0, locals := 21 }
set_option maxHeartbeats 4000000 in
set_option maxRecDepth 100000 in
theorem c_X12_run (l : Launch) (D : va_G) (ca : Nat → ClassId) (w : xW) (ship : Int) (watch : Int) (seed : Int) (n : Int) (number : Int) (am : Nat → Nat) (f0 : w[0]? = some (am 0, xO 12 [fR (am 1), fX 0, fX 0, fX 0, fX 0, fX 1, fX 1, fR (am 2), fR (am 3), fR (am 4), fR (am 5), fR (am 6), fR (am 7), fR (am 8), fR (am 9), fR (am 10), fR (am 11), fR (am 12), fR (am 13), fR (am 14), fR (am 15), fR (am 16), fR (am 17), fX 0, fR (am 18), fR (am 19), fR (am 20), fR (am 21), fR (am 22), fR (am 23), fR (am 24), fR (am 25), fX 0, fX (-1), fG 0 0, fG 0 0, fG 0 0, fG 0 0, fG 0 0, fG 0 0, fG 0 0, fG 0 0, fL, fX 0, fR (am 26), fX 0, fX 0, fR (am 27), fR (am 28), fR (am 29), fR (am 30), fR (am 31), fX 0, fX 0, fX 0, fX 0, fR (am 32), fX 0, fX 0, fX 0, fX 0, fR (am 33), fR (am 34), fR (am 35), fX 0, fX 0, fR (am 36), fR (am 37), fR (am 38), fX (-1), fX 0, fX 0, fX 0, fR (am 39), fX 0, fR (am 40), fR (am 41), fR (am 42), fR (am 43), fR (am 44)])) (hship : xr ship) (hwatch : xr watch) (hseed : xr seed) (hn : xr n) (hnumber : xr number) : xC l D ca yX12_run cX12_run 10 (some .int) r_c_X12_run [.ref (am 0), .int (iI ship), .int (iI watch), .int (iI seed), .int (iI n), .int (iI number)] w (qIa (fun z => z = -1)) := by
  refine xC.of2 "WindWordsModel" (by decide) rfl (Nat.le_of_ble_eq_true rfl) ?_
  intro p e s m args below meth c A ls Qf B hnm h hl hQ
  have hl : lv_has ls 10 [(0, .ref (am 0)), (1, .int (iI ship)), (2, .int (iI watch)), (3, .int (iI seed)), (4, .int (iI n)), (5, .int (iI number))] := hl
  refine lv_aload_n B.1 B.2.1 dX12_run_0 rfl (lv_at hl 0 rfl) ?_
  refine lv_iload_n B.1 B.2.1 dX12_run_1 rfl (lv_at hl 1 rfl) ?_
  refine x_cV B h kX12 0 f0 k_X12_isShip rfl (c_X12_isShip l D ca _ ship am f0 (by omega)) m_1526 rfl (by decide) hl.1 [] (Nat.le_of_ble_eq_true rfl) rfl dX12_run_2 (fun r w1 hq H locs h => ?_)
  obtain ⟨rfl, ⟨rfl, b1⟩ | ⟨rfl, b1⟩⟩ := hq
  · exact b1.elim
  · show W p l e r_c_X12_run s m args below meth c H locs 0 0 Qf (F0 m 5 ls [.int (iI 0)])
    refine x_if_eq B (by omega) (tgt := 53) dX12_run_5 (by decide) (fun c2 => ?_) (fun c2 => ?_)
    · refine x_iconst B dX12_run_53 ?_
      refine x_ri B hQ h (by decide) dX12_run_54 ?_
      exact ⟨_, rfl, by omega⟩
    · exact absurd c2 (by omega)
abbrev r_c_X12_columns : Room := { frames := 2, cells := 0, slots := 0, locals := 53 }
set_option maxHeartbeats 4000000 in
set_option maxRecDepth 100000 in
theorem c_X12_columns (l : Launch) (D : va_G) (ca : Nat → ClassId) (w : xW) (year : Int) (kind : Int) (rg : Int) (depth : Int) (am : Nat → Nat) (f0 : w[0]? = some (am 0, xO 12 [fR (am 1), fX 0, fX 0, fX 0, fX 0, fX 1, fX 1, fR (am 2), fR (am 3), fR (am 4), fR (am 5), fR (am 6), fR (am 7), fR (am 8), fR (am 9), fR (am 10), fR (am 11), fR (am 12), fR (am 13), fR (am 14), fR (am 15), fR (am 16), fR (am 17), fX 0, fR (am 18), fR (am 19), fR (am 20), fR (am 21), fR (am 22), fR (am 23), fR (am 24), fR (am 25), fX 0, fX (-1), fG 0 0, fG 0 0, fG 0 0, fG 0 0, fG 0 0, fG 0 0, fG 0 0, fG 0 0, fL, fX 0, fR (am 26), fX 0, fX 0, fR (am 27), fR (am 28), fR (am 29), fR (am 30), fR (am 31), fX 0, fX 0, fX 0, fX 0, fR (am 32), fX 0, fX 0, fX 0, fX 0, fR (am 33), fR (am 34), fR (am 35), fX 0, fX 0, fR (am 36), fR (am 37), fR (am 38), fX (-1), fX 0, fX 0, fX 0, fR (am 39), fX 0, fR (am 40), fR (am 41), fR (am 42), fR (am 43), fR (am 44)])) (f29 : w[29]? = some (am 29, xAI (ca 0) 13 gA)) (f30 : w[30]? = some (am 30, xAI (ca 0) 13 gA)) (hyear : xr year) (hkind : xr kind) (hrg : xr rg) (hdepth : xr depth) : xC l D ca yX12_columns cX12_columns 7 none r_c_X12_columns [.ref (am 0), .int (iI year), .int (iI kind), .int (iI rg), .int (iI depth)] w (qV ((w.set 29 (am 29, xAI (ca 0) 13 (gP 13 ((gLe 100))))).set 30 (am 30, xAI (ca 0) 13 (gP 13 ((gGr 100)))))) := by
  refine xC.of2 "WindWordsModel" (by decide) rfl (Nat.le_of_ble_eq_true rfl) ?_
  intro p e s m args below meth c A ls Qf B hnm h hl hQ
  have hl : lv_has ls 7 [(0, .ref (am 0)), (1, .int (iI year)), (2, .int (iI kind)), (3, .int (iI rg)), (4, .int (iI depth))] := hl
  refine x_iconst B dX12_columns_0 ?_
  refine lv_istore (lv' := [(5, .int (iI 0)), (0, .ref (am 0)), (1, .int (iI year)), (2, .int (iI kind)), (3, .int (iI rg)), (4, .int (iI depth))]) B.1 B.2.1 dX12_columns_1 hl (by decide) rfl (fun ls hl => ?_)
  have h := xH.weak (P' := xAI (ca 0) 13 (gP 0 ((fun _ => -1)))) h f29 (fun e he => by obtain ⟨f, rfl, _⟩ := he; exact ⟨f, rfl, fun j hj => by omega⟩)
  have h : xH D A s.heap (w.set 29 (am 29, xAI (ca 0) 13 (gP 0 ((fun _ => -1))))) _ _ := h
  have h := xH.weak (P' := xAI (ca 0) 13 (gP 0 ((fun _ => -1)))) h (xset_ne f30 (by decide)) (fun e he => by obtain ⟨f, rfl, _⟩ := he; exact ⟨f, rfl, fun j hj => by omega⟩)
  have h : xH D A s.heap ((w.set 29 (am 29, xAI (ca 0) 13 (gP 0 ((fun _ => -1))))).set 30 (am 30, xAI (ca 0) 13 (gP 0 ((fun _ => -1))))) _ _ := h
  have loop3 : ∀ (n3 : Nat) (i : Int), (0 ≤ i ∧ i ≤ 13) → (13 - i : Int).toNat < n3 → ∀ (H : Heap) (locs : List Loc) (ls : Array Slot), xH D A s.heap (((w.set 29 (am 29, xAI (ca 0) 13 (gP i ((fun _ => -1))))).set 30 (am 30, xAI (ca 0) 13 (gP i ((fun _ => -1)))))) H locs → lv_has ls 7 [(0, .ref (am 0)), (1, .int (iI year)), (2, .int (iI kind)), (3, .int (iI rg)), (4, .int (iI depth)), (5, .int (iI i))] → W p l e r_c_X12_columns s m args below meth c H locs 0 0 Qf (F0 m 3 ls []) := by
    intro n3
    induction n3 with
    | zero =>
      intro i h0 hm3 H locs ls h hl
      exact absurd hm3 (Nat.not_lt_zero _)
    | succ n3 ih3 =>
      intro i h0 hm3 H locs ls h hl
      refine lv_iload B.1 B.2.1 dX12_columns_3 (lv_at hl 5 rfl) ?_
      refine x_bipush B (by decide) dX12_columns_5 ?_
      refine x_icmp_ge B (by omega) (tgt := 32) dX12_columns_7 (by decide) (fun c1 => ?_) (fun c1 => ?_)
      · have e9_i : 13 = i := by omega
        subst e9_i
        refine x_iconst B dX12_columns_32 ?_
        refine lv_istore (lv' := [(5, .int (iI 0)), (0, .ref (am 0)), (1, .int (iI year)), (2, .int (iI kind)), (3, .int (iI rg)), (4, .int (iI depth))]) B.1 B.2.1 dX12_columns_33 hl (by decide) rfl (fun ls hl => ?_)
        have h := xH.weak (P' := xAI (ca 0) 13 (gP 13 ((gLe 0)))) h (xset_ne (xset_eq f29) (by decide)) (fun e he => by obtain ⟨f, rfl, hf⟩ := he; exact ⟨f, rfl, gLe_0 _ hf⟩)
        have h : xH D A s.heap ((w.set 29 (am 29, xAI (ca 0) 13 (gP 13 ((gLe 0))))).set 30 (am 30, xAI (ca 0) 13 (gP 13 ((fun _ => -1))))) H locs := by rw [List.set_comm _ _ (show (30 : Nat) ≠ 29 by decide), List.set_set] at h; exact h
        have h := xH.weak (P' := xAI (ca 0) 13 (gP 13 ((gGr 0)))) h (xset_eq (xset_ne f30 (by decide))) (fun e he => by obtain ⟨f, rfl, hf⟩ := he; exact ⟨f, rfl, gGr_0 _ hf⟩)
        have h : xH D A s.heap ((w.set 29 (am 29, xAI (ca 0) 13 (gP 13 ((gLe 0))))).set 30 (am 30, xAI (ca 0) 13 (gP 13 ((gGr 0))))) H locs := by rw [List.set_set] at h; exact h
        have loop35 : ∀ (n35 : Nat) (i : Int), (0 ≤ i ∧ i ≤ 100) → (100 - i : Int).toNat < n35 → ∀ (H : Heap) (locs : List Loc) (ls : Array Slot), xH D A s.heap (((w.set 29 (am 29, xAI (ca 0) 13 (gP 13 ((gLe i))))).set 30 (am 30, xAI (ca 0) 13 (gP 13 ((gGr i)))))) H locs → lv_has ls 7 [(0, .ref (am 0)), (1, .int (iI year)), (2, .int (iI kind)), (3, .int (iI rg)), (4, .int (iI depth)), (5, .int (iI i))] → W p l e r_c_X12_columns s m args below meth c H locs 0 0 Qf (F0 m 35 ls []) := by
          intro n35
          induction n35 with
          | zero =>
            intro i h0 hm35 H locs ls h hl
            exact absurd hm35 (Nat.not_lt_zero _)
          | succ n35 ih35 =>
            intro i h0 hm35 H locs ls h hl
            refine lv_iload B.1 B.2.1 dX12_columns_35 (lv_at hl 5 rfl) ?_
            refine x_bipush B (by decide) dX12_columns_37 ?_
            refine x_icmp_ge B (by omega) (tgt := 89) dX12_columns_39 (by decide) (fun c2 => ?_) (fun c2 => ?_)
            · refine x_rv B hQ h (by decide) dX12_columns_89 ?_
              have e9 : i = 100 := by omega
              subst e9
              exact ⟨rfl, rfl⟩
            · refine lv_aload_n B.1 B.2.1 dX12_columns_42 rfl (lv_at hl 0 rfl) ?_
              refine lv_iload_n B.1 B.2.1 dX12_columns_43 rfl (lv_at hl 2 rfl) ?_
              refine lv_iload B.1 B.2.1 dX12_columns_44 (lv_at hl 5 rfl) ?_
              refine lv_iload_n B.1 B.2.1 dX12_columns_46 rfl (lv_at hl 3 rfl) ?_
              refine lv_iload B.1 B.2.1 dX12_columns_47 (lv_at hl 4 rfl) ?_
              refine lv_iload_n B.1 B.2.1 dX12_columns_49 rfl (lv_at hl 1 rfl) ?_
              refine x_cV B h kX12 0 (xset_ne (xset_ne f0 (by decide)) (by decide)) k_X12_readIn rfl (c_X12_readIn l D ca _ kind i rg depth year am (xset_ne (xset_ne f0 (by decide)) (by decide)) (by omega) (by omega)) m_1663 rfl (by decide) hl.1 [] (Nat.le_of_ble_eq_true rfl) rfl dX12_columns_50 (fun r w1 hq H locs h => ?_)
              obtain ⟨rfl, _, rfl, rfl⟩ := hq
              show W p l e r_c_X12_columns s m args below meth c H locs 0 0 Qf (F0 m 53 ls [.int (iI (min 12 (i / 8)))])
              refine lv_istore (lv' := [(6, .int (iI (min 12 (i / 8)))), (0, .ref (am 0)), (1, .int (iI year)), (2, .int (iI kind)), (3, .int (iI rg)), (4, .int (iI depth)), (5, .int (iI i))]) B.1 B.2.1 dX12_columns_53 hl (by decide) rfl (fun ls hl => ?_)
              refine lv_aload_n B.1 B.2.1 dX12_columns_55 rfl (lv_at hl 1 rfl) ?_
              refine x_getR B h kX12 0 (xset_ne (xset_ne f0 (by decide)) (by decide)) 49 (b := am 29) rfl m_1310 (by decide) dX12_columns_56 ?_
              refine lv_iload B.1 B.2.1 dX12_columns_59 (lv_at hl 0 rfl) ?_
              obtain ⟨g4, eg4, hg4⟩ := gLe_ex (i := i) (n := (min 12 (i / 8))) (by omega)
              refine x_ialdP B h 29 (xset_ne (xset_eq f29) (by decide)) (by omega) dX12_columns_61 (z := g4) eg4 ?_
              refine x_if_ge B (by omega) (tgt := 74) dX12_columns_62 (by decide) (fun c5 => ?_) (fun c5 => ?_)
              · have h := xH.weak (P' := xAI (ca 0) 13 (gP 13 ((gLe (i + 1))))) h (xset_ne (xset_eq f29) (by decide)) (fun e he => by obtain ⟨f, rfl, hf⟩ := he; exact ⟨f, rfl, gLe_keep (n := (min 12 (i / 8))) ⟨by omega, by omega, by omega⟩ _ hf⟩)
                have h : xH D A s.heap ((w.set 29 (am 29, xAI (ca 0) 13 (gP 13 ((gLe (i + 1)))))).set 30 (am 30, xAI (ca 0) 13 (gP 13 ((gGr i))))) H locs := by rw [List.set_comm _ _ (show (30 : Nat) ≠ 29 by decide), List.set_set] at h; exact h
                refine lv_aload_n B.1 B.2.1 dX12_columns_74 rfl (lv_at hl 1 rfl) ?_
                refine x_getR B h kX12 0 (xset_ne (xset_ne f0 (by decide)) (by decide)) 50 (b := am 30) rfl m_1311 (by decide) dX12_columns_75 ?_
                refine lv_iload B.1 B.2.1 dX12_columns_78 (lv_at hl 0 rfl) ?_
                refine lv_iload B.1 B.2.1 dX12_columns_80 (lv_at hl 6 rfl) ?_
                refine x_iast B h 30 (xset_eq (xset_ne f30 (by decide))) (by omega) (P' := gP 13 ((gGr (i + 1)))) (gGr_put ⟨by omega, by omega, by omega⟩) dX12_columns_82 (fun H locs h => ?_)
                have h : xH D A s.heap ((w.set 29 (am 29, xAI (ca 0) 13 (gP 13 ((gLe (i + 1)))))).set 30 (am 30, xAI (ca 0) 13 (gP 13 ((gGr (i + 1)))))) H locs := by rw [List.set_set] at h; exact h
                refine lv_iinc (v := iI (i + 1)) (lv' := [(5, .int (iI (i + 1))), (6, .int (iI (min 12 (i / 8)))), (0, .ref (am 0)), (1, .int (iI year)), (2, .int (iI kind)), (3, .int (iI rg)), (4, .int (iI depth))]) B.1 B.2.1 dX12_columns_83 hl (k := 6) rfl (iI_add _ _) (by decide) rfl (fun ls hl => ?_)
                refine lv_goto (tgt := 35) B.1 B.2.1 dX12_columns_86 (by decide) ?_
                exact ih35 ((i + 1)) (by omega) (by omega) _ _ _ h (lv_sub hl [2, 3, 4, 5, 6, 0] rfl)
              · refine lv_aload_n B.1 B.2.1 dX12_columns_65 rfl (lv_at hl 1 rfl) ?_
                refine x_getR B h kX12 0 (xset_ne (xset_ne f0 (by decide)) (by decide)) 49 (b := am 29) rfl m_1310 (by decide) dX12_columns_66 ?_
                refine lv_iload B.1 B.2.1 dX12_columns_69 (lv_at hl 0 rfl) ?_
                refine lv_iload B.1 B.2.1 dX12_columns_71 (lv_at hl 6 rfl) ?_
                refine x_iast B h 29 (xset_ne (xset_eq f29) (by decide)) (by omega) (P' := gP 13 ((gLe (i + 1)))) (gLe_put ⟨by omega, by omega, by omega⟩) dX12_columns_73 (fun H locs h => ?_)
                have h : xH D A s.heap ((w.set 29 (am 29, xAI (ca 0) 13 (gP 13 ((gLe (i + 1)))))).set 30 (am 30, xAI (ca 0) 13 (gP 13 ((gGr i))))) H locs := by rw [List.set_comm _ _ (show (30 : Nat) ≠ 29 by decide), List.set_set] at h; exact h
                refine lv_aload_n B.1 B.2.1 dX12_columns_74 rfl (lv_at hl 1 rfl) ?_
                refine x_getR B h kX12 0 (xset_ne (xset_ne f0 (by decide)) (by decide)) 50 (b := am 30) rfl m_1311 (by decide) dX12_columns_75 ?_
                refine lv_iload B.1 B.2.1 dX12_columns_78 (lv_at hl 0 rfl) ?_
                refine lv_iload B.1 B.2.1 dX12_columns_80 (lv_at hl 6 rfl) ?_
                refine x_iast B h 30 (xset_eq (xset_ne f30 (by decide))) (by omega) (P' := gP 13 ((gGr (i + 1)))) (gGr_put ⟨by omega, by omega, by omega⟩) dX12_columns_82 (fun H locs h => ?_)
                have h : xH D A s.heap ((w.set 29 (am 29, xAI (ca 0) 13 (gP 13 ((gLe (i + 1)))))).set 30 (am 30, xAI (ca 0) 13 (gP 13 ((gGr (i + 1)))))) H locs := by rw [List.set_set] at h; exact h
                refine lv_iinc (v := iI (i + 1)) (lv' := [(5, .int (iI (i + 1))), (6, .int (iI (min 12 (i / 8)))), (0, .ref (am 0)), (1, .int (iI year)), (2, .int (iI kind)), (3, .int (iI rg)), (4, .int (iI depth))]) B.1 B.2.1 dX12_columns_83 hl (k := 6) rfl (iI_add _ _) (by decide) rfl (fun ls hl => ?_)
                refine lv_goto (tgt := 35) B.1 B.2.1 dX12_columns_86 (by decide) ?_
                exact ih35 ((i + 1)) (by omega) (by omega) _ _ _ h (lv_sub hl [2, 3, 4, 5, 6, 0] rfl)
        exact loop35 ((100 - 0 : Int).toNat + 1) 0 (by omega) (Nat.lt_succ_self _) _ _ _ h (lv_sub hl [1, 2, 3, 4, 5, 0] rfl)
      · refine lv_aload_n B.1 B.2.1 dX12_columns_10 rfl (lv_at hl 0 rfl) ?_
        refine x_getR B h kX12 0 (xset_ne (xset_ne f0 (by decide)) (by decide)) 49 (b := am 29) rfl m_1310 (by decide) dX12_columns_11 ?_
        refine lv_iload B.1 B.2.1 dX12_columns_14 (lv_at hl 5 rfl) ?_
        refine x_iconst B dX12_columns_16 ?_
        refine x_iast B h 29 (xset_ne (xset_eq f29) (by decide)) (by omega) (P' := gP (i + 1) ((fun _ => -1))) (gP_next ⟨by omega, rfl⟩) dX12_columns_17 (fun H locs h => ?_)
        have h : xH D A s.heap ((w.set 29 (am 29, xAI (ca 0) 13 (gP (i + 1) ((fun _ => -1))))).set 30 (am 30, xAI (ca 0) 13 (gP i ((fun _ => -1))))) H locs := by rw [List.set_comm _ _ (show (30 : Nat) ≠ 29 by decide), List.set_set] at h; exact h
        refine lv_aload_n B.1 B.2.1 dX12_columns_18 rfl (lv_at hl 0 rfl) ?_
        refine x_getR B h kX12 0 (xset_ne (xset_ne f0 (by decide)) (by decide)) 50 (b := am 30) rfl m_1311 (by decide) dX12_columns_19 ?_
        refine lv_iload B.1 B.2.1 dX12_columns_22 (lv_at hl 5 rfl) ?_
        refine x_iconst B dX12_columns_24 ?_
        refine x_iast B h 30 (xset_eq (xset_ne f30 (by decide))) (by omega) (P' := gP (i + 1) ((fun _ => -1))) (gP_next ⟨by omega, rfl⟩) dX12_columns_25 (fun H locs h => ?_)
        have h : xH D A s.heap ((w.set 29 (am 29, xAI (ca 0) 13 (gP (i + 1) ((fun _ => -1))))).set 30 (am 30, xAI (ca 0) 13 (gP (i + 1) ((fun _ => -1))))) H locs := by rw [List.set_set] at h; exact h
        refine lv_iinc (v := iI (i + 1)) (lv' := [(5, .int (iI (i + 1))), (0, .ref (am 0)), (1, .int (iI year)), (2, .int (iI kind)), (3, .int (iI rg)), (4, .int (iI depth))]) B.1 B.2.1 dX12_columns_26 hl (k := 5) rfl (iI_add _ _) (by decide) rfl (fun ls hl => ?_)
        refine lv_goto (tgt := 3) B.1 B.2.1 dX12_columns_29 (by decide) ?_
        exact ih3 ((i + 1)) (by omega) (by omega) _ _ _ h (lv_sub hl [1, 2, 3, 4, 5, 0] rfl)
  exact loop3 ((13 - 0 : Int).toNat + 1) 0 (by omega) (Nat.lt_succ_self _) _ _ _ h (lv_sub hl [1, 2, 3, 4, 5, 0] rfl)
abbrev r_c_X12_column : Room := { frames := 3, cells := 0, slots := 0, locals := 79 }
set_option maxHeartbeats 4000000 in
set_option maxRecDepth 100000 in
theorem c_X12_column (l : Launch) (D : va_G) (ca : Nat → ClassId) (w : xW) (year : Int) (kind : Int) (mix : Int) (number : Int) (what : Int) (am : Nat → Nat) (f0 : w[0]? = some (am 0, xO 12 [fR (am 1), fX 0, fX 0, fX 0, fX 0, fX 1, fX 1, fR (am 2), fR (am 3), fR (am 4), fR (am 5), fR (am 6), fR (am 7), fR (am 8), fR (am 9), fR (am 10), fR (am 11), fR (am 12), fR (am 13), fR (am 14), fR (am 15), fR (am 16), fR (am 17), fX 0, fR (am 18), fR (am 19), fR (am 20), fR (am 21), fR (am 22), fR (am 23), fR (am 24), fR (am 25), fX 0, fX (-1), fG 0 0, fG 0 0, fG 0 0, fG 0 0, fG 0 0, fG 0 0, fG 0 0, fG 0 0, fL, fX 0, fR (am 26), fX 0, fX 0, fR (am 27), fR (am 28), fR (am 29), fR (am 30), fR (am 31), fX 0, fX 0, fX 0, fX 0, fR (am 32), fX 0, fX 0, fX 0, fX 0, fR (am 33), fR (am 34), fR (am 35), fX 0, fX 0, fR (am 36), fR (am 37), fR (am 38), fX (-1), fX 0, fX 0, fX 0, fR (am 39), fX 0, fR (am 40), fR (am 41), fR (am 42), fR (am 43), fR (am 44)])) (f29 : w[29]? = some (am 29, xAI (ca 0) 13 gA)) (f30 : w[30]? = some (am 30, xAI (ca 0) 13 gA)) (hyear : xr year) (hkind : xr kind) (hmix : xr mix) (hnumber : xr number) (hwhat : xr what) : xC l D ca yX12_column cX12_column 6 (some .int) r_c_X12_column [.ref (am 0), .int (iI year), .int (iI kind), .int (iI mix), .int (iI number), .int (iI what)] w (qIa (fun z => (((0 ≤ year ∧ year ≤ 9) ∧ (0 ≤ kind ∧ kind ≤ 2) ∧ (0 ≤ mix ∧ mix ≤ 39) ∧ (0 ≤ number ∧ number ≤ 12) ∧ 0 ≤ what ∧ what ≤ 1) → (what = 0 → z = 8 * number) ∧ (what ≠ 0 → z = min 99 (8 * number + 7))) ∧ (¬ ((0 ≤ year ∧ year ≤ 9) ∧ (0 ≤ kind ∧ kind ≤ 2) ∧ (0 ≤ mix ∧ mix ≤ 39) ∧ (0 ≤ number ∧ number ≤ 12) ∧ 0 ≤ what ∧ what ≤ 1) → z = -1))) := by
  refine xC.of2 "WindWordsModel" (by decide) rfl (Nat.le_of_ble_eq_true rfl) ?_
  intro p e s m args below meth c A ls Qf B hnm h hl hQ
  have hl : lv_has ls 6 [(0, .ref (am 0)), (1, .int (iI year)), (2, .int (iI kind)), (3, .int (iI mix)), (4, .int (iI number)), (5, .int (iI what))] := hl
  refine lv_iload_n B.1 B.2.1 dX12_column_0 rfl (lv_at hl 1 rfl) ?_
  refine x_iconst B dX12_column_1 ?_
  refine x_bipush B (by decide) dX12_column_2 ?_
  refine x_cS B h k_X12_within (c_X12_within l D ca _ year 0 9  (by omega) (by omega) (by omega)) m_1515 rfl (by decide) hl.1 [] (Nat.le_of_ble_eq_true rfl) rfl dX12_column_4 (fun r w1 hq H locs h => ?_)
  obtain ⟨rfl, ⟨rfl, b1⟩ | ⟨rfl, b1⟩⟩ := hq
  · show W p l e r_c_X12_column s m args below meth c H locs 0 0 Qf (F0 m 7 ls [.int (iI 1)])
    refine x_if_eq B (by omega) (tgt := 50) dX12_column_7 (by decide) (fun c2 => ?_) (fun c2 => ?_)
    · exact absurd c2 (by omega)
    · refine lv_iload_n B.1 B.2.1 dX12_column_10 rfl (lv_at hl 2 rfl) ?_
      refine x_iconst B dX12_column_11 ?_
      refine x_iconst B dX12_column_12 ?_
      refine x_cS B h k_X12_within (c_X12_within l D ca _ kind 0 2  (by omega) (by omega) (by omega)) m_1515 rfl (by decide) hl.1 [] (Nat.le_of_ble_eq_true rfl) rfl dX12_column_13 (fun r w1 hq H locs h => ?_)
      obtain ⟨rfl, ⟨rfl, b3⟩ | ⟨rfl, b3⟩⟩ := hq
      · show W p l e r_c_X12_column s m args below meth c H locs 0 0 Qf (F0 m 16 ls [.int (iI 1)])
        refine x_if_eq B (by omega) (tgt := 50) dX12_column_16 (by decide) (fun c4 => ?_) (fun c4 => ?_)
        · exact absurd c4 (by omega)
        · refine lv_iload_n B.1 B.2.1 dX12_column_19 rfl (lv_at hl 3 rfl) ?_
          refine x_iconst B dX12_column_20 ?_
          refine x_bipush B (by decide) dX12_column_21 ?_
          refine x_cS B h k_X12_within (c_X12_within l D ca _ mix 0 39  (by omega) (by omega) (by omega)) m_1515 rfl (by decide) hl.1 [] (Nat.le_of_ble_eq_true rfl) rfl dX12_column_23 (fun r w1 hq H locs h => ?_)
          obtain ⟨rfl, ⟨rfl, b5⟩ | ⟨rfl, b5⟩⟩ := hq
          · show W p l e r_c_X12_column s m args below meth c H locs 0 0 Qf (F0 m 26 ls [.int (iI 1)])
            refine x_if_eq B (by omega) (tgt := 50) dX12_column_26 (by decide) (fun c6 => ?_) (fun c6 => ?_)
            · exact absurd c6 (by omega)
            · refine lv_iload B.1 B.2.1 dX12_column_29 (lv_at hl 4 rfl) ?_
              refine x_iconst B dX12_column_31 ?_
              refine x_bipush B (by decide) dX12_column_32 ?_
              refine x_cS B h k_X12_within (c_X12_within l D ca _ number 0 12  (by omega) (by omega) (by omega)) m_1515 rfl (by decide) hl.1 [] (Nat.le_of_ble_eq_true rfl) rfl dX12_column_34 (fun r w1 hq H locs h => ?_)
              obtain ⟨rfl, ⟨rfl, b7⟩ | ⟨rfl, b7⟩⟩ := hq
              · show W p l e r_c_X12_column s m args below meth c H locs 0 0 Qf (F0 m 37 ls [.int (iI 1)])
                refine x_if_eq B (by omega) (tgt := 50) dX12_column_37 (by decide) (fun c8 => ?_) (fun c8 => ?_)
                · exact absurd c8 (by omega)
                · refine lv_iload B.1 B.2.1 dX12_column_40 (lv_at hl 5 rfl) ?_
                  refine x_iconst B dX12_column_42 ?_
                  refine x_iconst B dX12_column_43 ?_
                  refine x_cS B h k_X12_within (c_X12_within l D ca _ what 0 1  (by omega) (by omega) (by omega)) m_1515 rfl (by decide) hl.1 [] (Nat.le_of_ble_eq_true rfl) rfl dX12_column_44 (fun r w1 hq H locs h => ?_)
                  obtain ⟨rfl, ⟨rfl, b9⟩ | ⟨rfl, b9⟩⟩ := hq
                  · show W p l e r_c_X12_column s m args below meth c H locs 0 0 Qf (F0 m 47 ls [.int (iI 1)])
                    refine x_if_ne B (by omega) (tgt := 52) dX12_column_47 (by decide) (fun c10 => ?_) (fun c10 => ?_)
                    · refine lv_aload_n B.1 B.2.1 dX12_column_52 rfl (lv_at hl 0 rfl) ?_
                      refine lv_iload_n B.1 B.2.1 dX12_column_53 rfl (lv_at hl 1 rfl) ?_
                      refine lv_iload_n B.1 B.2.1 dX12_column_54 rfl (lv_at hl 2 rfl) ?_
                      refine lv_iload_n B.1 B.2.1 dX12_column_55 rfl (lv_at hl 3 rfl) ?_
                      refine x_bipush B (by decide) dX12_column_56 ?_
                      refine x_idiv B (by omega) dX12_column_58 ?_
                      refine lv_iload_n B.1 B.2.1 dX12_column_59 rfl (lv_at hl 3 rfl) ?_
                      refine x_bipush B (by decide) dX12_column_60 ?_
                      refine x_irem B (by omega) dX12_column_62 ?_
                      refine x_cV B h kX12 0 f0 k_X12_columns rfl (c_X12_columns l D ca _ year kind ((mix / 10)) ((mix % 10)) am f0 f29 f30 (by omega) (by omega) (by omega) (by omega)) m_1707 rfl (by decide) hl.1 [] (Nat.le_of_ble_eq_true rfl) rfl dX12_column_63 (fun r w1 hq H locs h => ?_)
                      obtain ⟨rfl, rfl⟩ := hq
                      show W p l e r_c_X12_column s m args below meth c H locs 0 0 Qf (F0 m 66 ls [])
                      have h : xH D A s.heap ((w.set 29 (am 29, xAI (ca 0) 13 (gP 13 ((gLe 100))))).set 30 (am 30, xAI (ca 0) 13 (gP 13 ((gGr 100))))) H locs := h
                      refine lv_iload B.1 B.2.1 dX12_column_66 (lv_at hl 5 rfl) ?_
                      refine x_if_ne B (by omega) (tgt := 81) dX12_column_68 (by decide) (fun c11 => ?_) (fun c11 => ?_)
                      · refine lv_aload_n B.1 B.2.1 dX12_column_81 rfl (lv_at hl 0 rfl) ?_
                        refine x_getR B h kX12 0 (xset_ne (xset_ne f0 (by decide)) (by decide)) 50 (b := am 30) rfl m_1311 (by decide) dX12_column_82 ?_
                        refine lv_iload B.1 B.2.1 dX12_column_85 (lv_at hl 4 rfl) ?_
                        obtain ⟨g12, eg12, hg12⟩ := gGr_ex (i := 100) (n := number) (by omega)
                        refine x_ialdP B h 30 (xset_eq (xset_ne f30 (by decide))) (by omega) dX12_column_87 (z := g12) eg12 ?_
                        refine x_ri B hQ h (by decide) dX12_column_88 ?_
                        exact ⟨_, rfl, by omega⟩
                      · refine lv_aload_n B.1 B.2.1 dX12_column_71 rfl (lv_at hl 0 rfl) ?_
                        refine x_getR B h kX12 0 (xset_ne (xset_ne f0 (by decide)) (by decide)) 49 (b := am 29) rfl m_1310 (by decide) dX12_column_72 ?_
                        refine lv_iload B.1 B.2.1 dX12_column_75 (lv_at hl 4 rfl) ?_
                        obtain ⟨g13, eg13, hg13⟩ := gLe_ex (i := 100) (n := number) (by omega)
                        refine x_ialdP B h 29 (xset_ne (xset_eq f29) (by decide)) (by omega) dX12_column_77 (z := g13) eg13 ?_
                        refine lv_goto (tgt := 88) B.1 B.2.1 dX12_column_78 (by decide) ?_
                        refine x_ri B hQ h (by decide) dX12_column_88 ?_
                        exact ⟨_, rfl, by omega⟩
                    · exact absurd c10 (by omega)
                  · show W p l e r_c_X12_column s m args below meth c H locs 0 0 Qf (F0 m 47 ls [.int (iI 0)])
                    refine x_if_ne B (by omega) (tgt := 52) dX12_column_47 (by decide) (fun c14 => ?_) (fun c14 => ?_)
                    · exact absurd c14 (by omega)
                    · refine x_iconst B dX12_column_50 ?_
                      refine x_ri B hQ h (by decide) dX12_column_51 ?_
                      exact ⟨_, rfl, by omega⟩
              · show W p l e r_c_X12_column s m args below meth c H locs 0 0 Qf (F0 m 37 ls [.int (iI 0)])
                refine x_if_eq B (by omega) (tgt := 50) dX12_column_37 (by decide) (fun c15 => ?_) (fun c15 => ?_)
                · refine x_iconst B dX12_column_50 ?_
                  refine x_ri B hQ h (by decide) dX12_column_51 ?_
                  exact ⟨_, rfl, by omega⟩
                · exact absurd c15 (by omega)
          · show W p l e r_c_X12_column s m args below meth c H locs 0 0 Qf (F0 m 26 ls [.int (iI 0)])
            refine x_if_eq B (by omega) (tgt := 50) dX12_column_26 (by decide) (fun c16 => ?_) (fun c16 => ?_)
            · refine x_iconst B dX12_column_50 ?_
              refine x_ri B hQ h (by decide) dX12_column_51 ?_
              exact ⟨_, rfl, by omega⟩
            · exact absurd c16 (by omega)
      · show W p l e r_c_X12_column s m args below meth c H locs 0 0 Qf (F0 m 16 ls [.int (iI 0)])
        refine x_if_eq B (by omega) (tgt := 50) dX12_column_16 (by decide) (fun c17 => ?_) (fun c17 => ?_)
        · refine x_iconst B dX12_column_50 ?_
          refine x_ri B hQ h (by decide) dX12_column_51 ?_
          exact ⟨_, rfl, by omega⟩
        · exact absurd c17 (by omega)
  · show W p l e r_c_X12_column s m args below meth c H locs 0 0 Qf (F0 m 7 ls [.int (iI 0)])
    refine x_if_eq B (by omega) (tgt := 50) dX12_column_7 (by decide) (fun c18 => ?_) (fun c18 => ?_)
    · refine x_iconst B dX12_column_50 ?_
      refine x_ri B hQ h (by decide) dX12_column_51 ?_
      exact ⟨_, rfl, by omega⟩
    · exact absurd c18 (by omega)
abbrev r_c_X12_scaleFor2 : Room := { frames := 0, cells := 0, slots := 0, locals := 0 }
set_option maxHeartbeats 4000000 in
set_option maxRecDepth 100000 in
theorem c_X12_scaleFor2 (l : Launch) (D : va_G) (ca : Nat → ClassId) (w : xW) (year : Int) (am : Nat → Nat) (tot : Int) (f0 : w[0]? = some (am 0, xO 12 [fR (am 1), fX 0, fX 0, fX 0, fX 0, fX 1, fX 1, fR (am 2), fR (am 3), fR (am 4), fR (am 5), fR (am 6), fR (am 7), fR (am 8), fR (am 9), fR (am 10), fR (am 11), fR (am 12), fR (am 13), fR (am 14), fR (am 15), fR (am 16), fR (am 17), fX 0, fR (am 18), fR (am 19), fR (am 20), fR (am 21), fR (am 22), fR (am 23), fR (am 24), fR (am 25), fX 0, fX (-1), fG 0 0, fG 0 0, fG 0 0, fG 0 0, fG 0 0, fG 0 0, fG 0 0, fG 0 0, fL, fX 0, fR (am 26), fX 0, fX 0, fR (am 27), fR (am 28), fR (am 29), fR (am 30), fR (am 31), fX 0, fX 0, fX 0, fX tot, fR (am 32), fX 0, fX 0, fX 0, fX 0, fR (am 33), fR (am 34), fR (am 35), fX 0, fX 0, fR (am 36), fR (am 37), fR (am 38), fX (-1), fX 0, fX 0, fX 0, fR (am 39), fX 0, fR (am 40), fR (am 41), fR (am 42), fR (am 43), fR (am 44)])) (hyear : xr year) : xC l D ca yX12_scaleFor cX12_scaleFor 4 (some .int) r_c_X12_scaleFor2 [.ref (am 0), .int (iI year)] w (qI w (fun z => z = (-1))) := by
  refine xC.of2 "WindWordsModel" (by decide) rfl (Nat.le_of_ble_eq_true rfl) ?_
  intro p e s m args below meth c A ls Qf B hnm h hl hQ
  have hl : lv_has ls 4 [(0, .ref (am 0)), (1, .int (iI year))] := hl
  refine x_iconst B dX12_scaleFor_0 ?_
  refine lv_istore_n (lv' := [(2, .int (iI (-1))), (0, .ref (am 0)), (1, .int (iI year))]) B.1 B.2.1 dX12_scaleFor_1 rfl hl (by decide) rfl (fun ls hl => ?_)
  refine x_iconst B dX12_scaleFor_2 ?_
  refine lv_istore_n (lv' := [(3, .int (iI 0)), (2, .int (iI (-1))), (0, .ref (am 0)), (1, .int (iI year))]) B.1 B.2.1 dX12_scaleFor_3 rfl hl (by decide) rfl (fun ls hl => ?_)
  refine lv_iload_n B.1 B.2.1 dX12_scaleFor_4 rfl (lv_at hl 0 rfl) ?_
  refine lv_aload_n B.1 B.2.1 dX12_scaleFor_5 rfl (lv_at hl 2 rfl) ?_
  refine x_getX B h kX12 0 f0 23 (z := 0) rfl m_1284 (by decide) dX12_scaleFor_6 ?_
  refine x_icmp_ge B (by omega) (tgt := 49) dX12_scaleFor_9 (by decide) (fun c1 => ?_) (fun c1 => ?_)
  · refine lv_iload_n B.1 B.2.1 dX12_scaleFor_49 rfl (lv_at hl 1 rfl) ?_
    refine x_ri B hQ h (by decide) dX12_scaleFor_50 ?_
    exact ⟨rfl, _, rfl, by omega⟩
  · exact absurd c1 (by omega)
abbrev r_c_X12_readsBy2 : Room := { frames := 0, cells := 0, slots := 0, locals := 0 }
set_option maxHeartbeats 4000000 in
set_option maxRecDepth 100000 in
theorem c_X12_readsBy2 (l : Launch) (D : va_G) (ca : Nat → ClassId) (w : xW) (k : Int) (kind : Int) (wind : Int) (rg : Int) (depth : Int) (year : Int) (am : Nat → Nat) (tot : Int) (f0 : w[0]? = some (am 0, xO 12 [fR (am 1), fX 0, fX 0, fX 0, fX 0, fX 1, fX 1, fR (am 2), fR (am 3), fR (am 4), fR (am 5), fR (am 6), fR (am 7), fR (am 8), fR (am 9), fR (am 10), fR (am 11), fR (am 12), fR (am 13), fR (am 14), fR (am 15), fR (am 16), fR (am 17), fX 0, fR (am 18), fR (am 19), fR (am 20), fR (am 21), fR (am 22), fR (am 23), fR (am 24), fR (am 25), fX 0, fX (-1), fG 0 0, fG 0 0, fG 0 0, fG 0 0, fG 0 0, fG 0 0, fG 0 0, fG 0 0, fL, fX 0, fR (am 26), fX 0, fX 0, fR (am 27), fR (am 28), fR (am 29), fR (am 30), fR (am 31), fX 0, fX 0, fX 0, fX tot, fR (am 32), fX 0, fX 0, fX 0, fX 0, fR (am 33), fR (am 34), fR (am 35), fX 0, fX 0, fR (am 36), fR (am 37), fR (am 38), fX (-1), fX 0, fX 0, fX 0, fR (am 39), fX 0, fR (am 40), fR (am 41), fR (am 42), fR (am 43), fR (am 44)])) (hk : k < 0) (hk2 : xr k) (hw : 0 ≤ wind ∧ wind ≤ 99) : xC l D ca yX12_readsBy cX12_readsBy 9 (some .int) r_c_X12_readsBy2 [.ref (am 0), .int (iI k), .int (iI kind), .int (iI wind), .int (iI rg), .int (iI depth), .int (iI year)] w (qI w (fun z => z = min 12 (wind / 8))) := by
  refine xC.of2 "WindWordsModel" (by decide) rfl (Nat.le_of_ble_eq_true rfl) ?_
  intro p e s m args below meth c A ls Qf B hnm h hl hQ
  have hl : lv_has ls 9 [(0, .ref (am 0)), (1, .int (iI k)), (2, .int (iI kind)), (3, .int (iI wind)), (4, .int (iI rg)), (5, .int (iI depth)), (6, .int (iI year))] := hl
  refine lv_iload_n B.1 B.2.1 dX12_readsBy_0 rfl (lv_at hl 1 rfl) ?_
  refine x_if_ge B (by omega) (tgt := 23) dX12_readsBy_1 (by decide) (fun c1 => ?_) (fun c1 => ?_)
  · exact absurd c1 (by omega)
  · refine lv_iload_n B.1 B.2.1 dX12_readsBy_4 rfl (lv_at hl 3 rfl) ?_
    refine x_bipush B (by decide) dX12_readsBy_5 ?_
    refine x_idiv B (by omega) dX12_readsBy_7 ?_
    refine x_bipush B (by decide) dX12_readsBy_8 ?_
    refine x_icmp_le B (by omega) (tgt := 18) dX12_readsBy_10 (by decide) (fun c2 => ?_) (fun c2 => ?_)
    · refine lv_iload_n B.1 B.2.1 dX12_readsBy_18 rfl (lv_at hl 3 rfl) ?_
      refine x_bipush B (by decide) dX12_readsBy_19 ?_
      refine x_idiv B (by omega) dX12_readsBy_21 ?_
      refine x_ri B hQ h (by decide) dX12_readsBy_22 ?_
      exact ⟨rfl, _, rfl, by omega⟩
    · refine x_bipush B (by decide) dX12_readsBy_13 ?_
      refine lv_goto (tgt := 22) B.1 B.2.1 dX12_readsBy_15 (by decide) ?_
      refine x_ri B hQ h (by decide) dX12_readsBy_22 ?_
      exact ⟨rfl, _, rfl, by omega⟩
abbrev r_c_X12_readIn2 : Room := { frames := 1, cells := 0, slots := 0, locals := 28 }
set_option maxHeartbeats 4000000 in
set_option maxRecDepth 100000 in
theorem c_X12_readIn2 (l : Launch) (D : va_G) (ca : Nat → ClassId) (w : xW) (kind : Int) (wind : Int) (rg : Int) (depth : Int) (year : Int) (am : Nat → Nat) (tot : Int) (f0 : w[0]? = some (am 0, xO 12 [fR (am 1), fX 0, fX 0, fX 0, fX 0, fX 1, fX 1, fR (am 2), fR (am 3), fR (am 4), fR (am 5), fR (am 6), fR (am 7), fR (am 8), fR (am 9), fR (am 10), fR (am 11), fR (am 12), fR (am 13), fR (am 14), fR (am 15), fR (am 16), fR (am 17), fX 0, fR (am 18), fR (am 19), fR (am 20), fR (am 21), fR (am 22), fR (am 23), fR (am 24), fR (am 25), fX 0, fX (-1), fG 0 0, fG 0 0, fG 0 0, fG 0 0, fG 0 0, fG 0 0, fG 0 0, fG 0 0, fL, fX 0, fR (am 26), fX 0, fX 0, fR (am 27), fR (am 28), fR (am 29), fR (am 30), fR (am 31), fX 0, fX 0, fX 0, fX tot, fR (am 32), fX 0, fX 0, fX 0, fX 0, fR (am 33), fR (am 34), fR (am 35), fX 0, fX 0, fR (am 36), fR (am 37), fR (am 38), fX (-1), fX 0, fX 0, fX 0, fR (am 39), fX 0, fR (am 40), fR (am 41), fR (am 42), fR (am 43), fR (am 44)])) (hw : 0 ≤ wind ∧ wind ≤ 99) (hy : xr year) : xC l D ca yX12_readIn cX12_readIn 6 (some .int) r_c_X12_readIn2 [.ref (am 0), .int (iI kind), .int (iI wind), .int (iI rg), .int (iI depth), .int (iI year)] w (qI w (fun z => z = min 12 (wind / 8))) := by
  refine xC.of2 "WindWordsModel" (by decide) rfl (Nat.le_of_ble_eq_true rfl) ?_
  intro p e s m args below meth c A ls Qf B hnm h hl hQ
  have hl : lv_has ls 6 [(0, .ref (am 0)), (1, .int (iI kind)), (2, .int (iI wind)), (3, .int (iI rg)), (4, .int (iI depth)), (5, .int (iI year))] := hl
  refine lv_aload_n B.1 B.2.1 dX12_readIn_0 rfl (lv_at hl 0 rfl) ?_
  refine lv_aload_n B.1 B.2.1 dX12_readIn_1 rfl (lv_at hl 0 rfl) ?_
  refine lv_iload B.1 B.2.1 dX12_readIn_2 (lv_at hl 5 rfl) ?_
  refine x_cV B h kX12 0 f0 k_X12_scaleFor rfl (c_X12_scaleFor2 l D ca _ year am tot f0 (by omega)) m_1667 rfl (by decide) hl.1 [.ref (am 0)] (Nat.le_of_ble_eq_true rfl) rfl dX12_readIn_4 (fun r w1 hq H locs h => ?_)
  obtain ⟨rfl, _, rfl, rfl⟩ := hq
  show W p l e r_c_X12_readIn2 s m args below meth c H locs 0 0 Qf (F0 m 7 ls [.int (iI (-1)), .ref (am 0)])
  refine lv_iload_n B.1 B.2.1 dX12_readIn_7 rfl (lv_at hl 1 rfl) ?_
  refine lv_iload_n B.1 B.2.1 dX12_readIn_8 rfl (lv_at hl 2 rfl) ?_
  refine lv_iload_n B.1 B.2.1 dX12_readIn_9 rfl (lv_at hl 3 rfl) ?_
  refine lv_iload B.1 B.2.1 dX12_readIn_10 (lv_at hl 4 rfl) ?_
  refine lv_iload B.1 B.2.1 dX12_readIn_12 (lv_at hl 5 rfl) ?_
  refine x_cV B h kX12 0 f0 k_X12_readsBy rfl (c_X12_readsBy2 l D ca _ ((-1)) kind wind rg depth year am tot f0 (by omega) (by omega) (by omega)) m_1671 rfl (by decide) hl.1 [] (Nat.le_of_ble_eq_true rfl) rfl dX12_readIn_14 (fun r w1 hq H locs h => ?_)
  obtain ⟨rfl, _, rfl, rfl⟩ := hq
  show W p l e r_c_X12_readIn2 s m args below meth c H locs 0 0 Qf (F0 m 17 ls [.int (iI (min 12 (wind / 8)))])
  refine x_ri B hQ h (by decide) dX12_readIn_17 ?_
  exact ⟨rfl, _, rfl, by omega⟩
abbrev r_c_X12_turns : Room := { frames := 2, cells := 0, slots := 0, locals := 53 }
set_option maxHeartbeats 4000000 in
set_option maxRecDepth 100000 in
theorem c_X12_turns (l : Launch) (D : va_G) (ca : Nat → ClassId) (w : xW) (kind : Int) (year : Int) (n : Int) (k : Int) (other : Int) (am : Nat → Nat) (f0 : w[0]? = some (am 0, xO 12 [fR (am 1), fX 0, fX 0, fX 0, fX 0, fX 1, fX 1, fR (am 2), fR (am 3), fR (am 4), fR (am 5), fR (am 6), fR (am 7), fR (am 8), fR (am 9), fR (am 10), fR (am 11), fR (am 12), fR (am 13), fR (am 14), fR (am 15), fR (am 16), fR (am 17), fX 0, fR (am 18), fR (am 19), fR (am 20), fR (am 21), fR (am 22), fR (am 23), fR (am 24), fR (am 25), fX 0, fX (-1), fG 0 0, fG 0 0, fG 0 0, fG 0 0, fG 0 0, fG 0 0, fG 0 0, fG 0 0, fL, fX 0, fR (am 26), fX 0, fX 0, fR (am 27), fR (am 28), fR (am 29), fR (am 30), fR (am 31), fX 0, fX 0, fX 0, fX 0, fR (am 32), fX 0, fX 0, fX 0, fX 0, fR (am 33), fR (am 34), fR (am 35), fX 0, fX 0, fR (am 36), fR (am 37), fR (am 38), fX (-1), fX 0, fX 0, fX 0, fR (am 39), fX 0, fR (am 40), fR (am 41), fR (am 42), fR (am 43), fR (am 44)])) (f31 : w[31]? = some (am 31, xAI (ca 0) 13 gA)) (hk : k < 0) (hk2 : xr k) (hy : xr year) (ho : xr other) (hki : xr kind) (hn : 0 ≤ n ∧ n ≤ 12) : xC l D ca yX12_turns cX12_turns 7 (some .boolean) r_c_X12_turns [.ref (am 0), .int (iI kind), .int (iI year), .int (iI n), .int (iI k), .int (iI other)] w (fun r w1 => r = some (.int (iI 1)) ∧ ∃ tot : Int, w1 = ((w.set 31 (am 31, xAI (ca 0) 13 (gP 13 ((gOne n tot))))).set 0 (am 0, xO 12 [fR (am 1), fX 0, fX 0, fX 0, fX 0, fX 1, fX 1, fR (am 2), fR (am 3), fR (am 4), fR (am 5), fR (am 6), fR (am 7), fR (am 8), fR (am 9), fR (am 10), fR (am 11), fR (am 12), fR (am 13), fR (am 14), fR (am 15), fR (am 16), fR (am 17), fX 0, fR (am 18), fR (am 19), fR (am 20), fR (am 21), fR (am 22), fR (am 23), fR (am 24), fR (am 25), fX 0, fX (-1), fG 0 0, fG 0 0, fG 0 0, fG 0 0, fG 0 0, fG 0 0, fG 0 0, fG 0 0, fL, fX 0, fR (am 26), fX 0, fX 0, fR (am 27), fR (am 28), fR (am 29), fR (am 30), fR (am 31), fX n, fX n, fX n, fX tot, fR (am 32), fX 0, fX 0, fX 0, fX 0, fR (am 33), fR (am 34), fR (am 35), fX 0, fX 0, fR (am 36), fR (am 37), fR (am 38), fX (-1), fX 0, fX 0, fX 0, fR (am 39), fX 0, fR (am 40), fR (am 41), fR (am 42), fR (am 43), fR (am 44)]))) := by
  refine xC.of2 "WindWordsModel" (by decide) rfl (Nat.le_of_ble_eq_true rfl) ?_
  intro p e s m args below meth c A ls Qf B hnm h hl hQ
  have hl : lv_has ls 7 [(0, .ref (am 0)), (1, .int (iI kind)), (2, .int (iI year)), (3, .int (iI n)), (4, .int (iI k)), (5, .int (iI other))] := hl
  refine x_iconst B dX12_turns_0 ?_
  refine lv_istore (lv' := [(6, .int (iI 0)), (0, .ref (am 0)), (1, .int (iI kind)), (2, .int (iI year)), (3, .int (iI n)), (4, .int (iI k)), (5, .int (iI other))]) B.1 B.2.1 dX12_turns_1 hl (by decide) rfl (fun ls hl => ?_)
  have h := xH.weak (P' := xAI (ca 0) 13 (gP 0 ((gOne n 0)))) h f31 (fun e he => by obtain ⟨f, rfl, _⟩ := he; exact ⟨f, rfl, fun j hj => by omega⟩)
  have h : xH D A s.heap (w.set 31 (am 31, xAI (ca 0) 13 (gP 0 ((gOne n 0))))) _ _ := h
  have loop3 : ∀ (n3 : Nat) (i : Int), (0 ≤ i ∧ i ≤ 13) → (13 - i : Int).toNat < n3 → ∀ (H : Heap) (locs : List Loc) (ls : Array Slot), xH D A s.heap ((w.set 31 (am 31, xAI (ca 0) 13 (gP i ((gOne n 0)))))) H locs → lv_has ls 7 [(0, .ref (am 0)), (1, .int (iI kind)), (2, .int (iI year)), (3, .int (iI n)), (4, .int (iI k)), (5, .int (iI other)), (6, .int (iI i))] → W p l e r_c_X12_turns s m args below meth c H locs 0 0 Qf (F0 m 3 ls []) := by
    intro n3
    induction n3 with
    | zero =>
      intro i h0 hm3 H locs ls h hl
      exact absurd hm3 (Nat.not_lt_zero _)
    | succ n3 ih3 =>
      intro i h0 hm3 H locs ls h hl
      refine lv_iload B.1 B.2.1 dX12_turns_3 (lv_at hl 6 rfl) ?_
      refine x_bipush B (by decide) dX12_turns_5 ?_
      refine x_icmp_ge B (by omega) (tgt := 24) dX12_turns_7 (by decide) (fun c1 => ?_) (fun c1 => ?_)
      · have e9_i : 13 = i := by omega
        subst e9_i
        refine lv_aload_n B.1 B.2.1 dX12_turns_24 rfl (lv_at hl 0 rfl) ?_
        refine x_iconst B dX12_turns_25 ?_
        refine x_putS B h kX12 0 (xset_ne f0 (by decide)) 55 (P := fX 0) rfl m_1316 (by decide) rfl rfl rfl rfl dX12_turns_26 (fun H locs h => ?_)
        refine x_iconst B dX12_turns_29 ?_
        refine lv_istore (lv' := [(6, .int (iI 0)), (0, .ref (am 0)), (1, .int (iI kind)), (2, .int (iI year)), (3, .int (iI n)), (4, .int (iI k)), (5, .int (iI other))]) B.1 B.2.1 dX12_turns_30 hl (by decide) rfl (fun ls hl => ?_)
        have h := xH.weak (P' := xAI (ca 0) 13 (gP 13 ((gOne n 0)))) h (xset_eq f31) (fun e he => he)
        have h : xH D A s.heap (w.set 31 (am 31, xAI (ca 0) 13 (gP 13 ((gOne n 0))))) H locs := by rw [List.set_set] at h; exact h
        have h := xH.weak (P' := xO 12 [fR (am 1), fX 0, fX 0, fX 0, fX 0, fX 1, fX 1, fR (am 2), fR (am 3), fR (am 4), fR (am 5), fR (am 6), fR (am 7), fR (am 8), fR (am 9), fR (am 10), fR (am 11), fR (am 12), fR (am 13), fR (am 14), fR (am 15), fR (am 16), fR (am 17), fX 0, fR (am 18), fR (am 19), fR (am 20), fR (am 21), fR (am 22), fR (am 23), fR (am 24), fR (am 25), fX 0, fX (-1), fG 0 0, fG 0 0, fG 0 0, fG 0 0, fG 0 0, fG 0 0, fG 0 0, fG 0 0, fL, fX 0, fR (am 26), fX 0, fX 0, fR (am 27), fR (am 28), fR (am 29), fR (am 30), fR (am 31), fX 0, fX 0, fX 0, fX 0, fR (am 32), fX 0, fX 0, fX 0, fX 0, fR (am 33), fR (am 34), fR (am 35), fX 0, fX 0, fR (am 36), fR (am 37), fR (am 38), fX (-1), fX 0, fX 0, fX 0, fR (am 39), fX 0, fR (am 40), fR (am 41), fR (am 42), fR (am 43), fR (am 44)]) h (xset_ne f0 (by decide)) (fun e he => he)
        have h : xH D A s.heap ((w.set 31 (am 31, xAI (ca 0) 13 (gP 13 ((gOne n 0))))).set 0 (am 0, xO 12 [fR (am 1), fX 0, fX 0, fX 0, fX 0, fX 1, fX 1, fR (am 2), fR (am 3), fR (am 4), fR (am 5), fR (am 6), fR (am 7), fR (am 8), fR (am 9), fR (am 10), fR (am 11), fR (am 12), fR (am 13), fR (am 14), fR (am 15), fR (am 16), fR (am 17), fX 0, fR (am 18), fR (am 19), fR (am 20), fR (am 21), fR (am 22), fR (am 23), fR (am 24), fR (am 25), fX 0, fX (-1), fG 0 0, fG 0 0, fG 0 0, fG 0 0, fG 0 0, fG 0 0, fG 0 0, fG 0 0, fL, fX 0, fR (am 26), fX 0, fX 0, fR (am 27), fR (am 28), fR (am 29), fR (am 30), fR (am 31), fX 0, fX 0, fX 0, fX 0, fR (am 32), fX 0, fX 0, fX 0, fX 0, fR (am 33), fR (am 34), fR (am 35), fX 0, fX 0, fR (am 36), fR (am 37), fR (am 38), fX (-1), fX 0, fX 0, fX 0, fR (am 39), fX 0, fR (am 40), fR (am 41), fR (am 42), fR (am 43), fR (am 44)])) _ _ := h
        have loop32 : ∀ (n32 : Nat) (i : Int) (tot : Int), (0 ≤ i ∧ i ≤ 100) → (0 ≤ tot ∧ tot ≤ i) → (8 * n < i → 1 ≤ tot) → (100 - i : Int).toNat < n32 → ∀ (H : Heap) (locs : List Loc) (ls : Array Slot), xH D A s.heap (((w.set 31 (am 31, xAI (ca 0) 13 (gP 13 ((gOne n tot))))).set 0 (am 0, xO 12 [fR (am 1), fX 0, fX 0, fX 0, fX 0, fX 1, fX 1, fR (am 2), fR (am 3), fR (am 4), fR (am 5), fR (am 6), fR (am 7), fR (am 8), fR (am 9), fR (am 10), fR (am 11), fR (am 12), fR (am 13), fR (am 14), fR (am 15), fR (am 16), fR (am 17), fX 0, fR (am 18), fR (am 19), fR (am 20), fR (am 21), fR (am 22), fR (am 23), fR (am 24), fR (am 25), fX 0, fX (-1), fG 0 0, fG 0 0, fG 0 0, fG 0 0, fG 0 0, fG 0 0, fG 0 0, fG 0 0, fL, fX 0, fR (am 26), fX 0, fX 0, fR (am 27), fR (am 28), fR (am 29), fR (am 30), fR (am 31), fX 0, fX 0, fX 0, fX tot, fR (am 32), fX 0, fX 0, fX 0, fX 0, fR (am 33), fR (am 34), fR (am 35), fX 0, fX 0, fR (am 36), fR (am 37), fR (am 38), fX (-1), fX 0, fX 0, fX 0, fR (am 39), fX 0, fR (am 40), fR (am 41), fR (am 42), fR (am 43), fR (am 44)]))) H locs → lv_has ls 7 [(0, .ref (am 0)), (1, .int (iI kind)), (2, .int (iI year)), (3, .int (iI n)), (4, .int (iI k)), (5, .int (iI other)), (6, .int (iI i))] → W p l e r_c_X12_turns s m args below meth c H locs 0 0 Qf (F0 m 32 ls []) := by
          intro n32
          induction n32 with
          | zero =>
            intro i tot h0 h1 h2 hm32 H locs ls h hl
            exact absurd hm32 (Nat.not_lt_zero _)
          | succ n32 ih32 =>
            intro i tot h0 h1 h2 hm32 H locs ls h hl
            refine lv_iload B.1 B.2.1 dX12_turns_32 (lv_at hl 6 rfl) ?_
            refine x_bipush B (by decide) dX12_turns_34 ?_
            refine x_icmp_ge B (by omega) (tgt := 94) dX12_turns_36 (by decide) (fun c2 => ?_) (fun c2 => ?_)
            · refine lv_aload_n B.1 B.2.1 dX12_turns_94 rfl (lv_at hl 0 rfl) ?_
              refine x_iconst B dX12_turns_95 ?_
              refine x_put B h kX12 0 (xset_eq (xset_ne f0 (by decide))) 52 (Nat.le_of_ble_eq_true rfl) (P' := fX (-1)) m_1313 (by decide) rfl rfl rfl rfl dX12_turns_96 (fun H locs h => ?_)
              have h : xH D A s.heap ((w.set 31 (am 31, xAI (ca 0) 13 (gP 13 ((gOne n tot))))).set 0 (am 0, xO 12 [fR (am 1), fX 0, fX 0, fX 0, fX 0, fX 1, fX 1, fR (am 2), fR (am 3), fR (am 4), fR (am 5), fR (am 6), fR (am 7), fR (am 8), fR (am 9), fR (am 10), fR (am 11), fR (am 12), fR (am 13), fR (am 14), fR (am 15), fR (am 16), fR (am 17), fX 0, fR (am 18), fR (am 19), fR (am 20), fR (am 21), fR (am 22), fR (am 23), fR (am 24), fR (am 25), fX 0, fX (-1), fG 0 0, fG 0 0, fG 0 0, fG 0 0, fG 0 0, fG 0 0, fG 0 0, fG 0 0, fL, fX 0, fR (am 26), fX 0, fX 0, fR (am 27), fR (am 28), fR (am 29), fR (am 30), fR (am 31), fX (-1), fX 0, fX 0, fX tot, fR (am 32), fX 0, fX 0, fX 0, fX 0, fR (am 33), fR (am 34), fR (am 35), fX 0, fX 0, fR (am 36), fR (am 37), fR (am 38), fX (-1), fX 0, fX 0, fX 0, fR (am 39), fX 0, fR (am 40), fR (am 41), fR (am 42), fR (am 43), fR (am 44)])) H locs := by rw [List.set_set] at h; exact h
              refine lv_aload_n B.1 B.2.1 dX12_turns_99 rfl (lv_at hl 0 rfl) ?_
              refine x_iconst B dX12_turns_100 ?_
              refine x_putS B h kX12 0 (xset_eq (xset_ne f0 (by decide))) 54 (P := fX 0) rfl m_1315 (by decide) rfl rfl rfl rfl dX12_turns_101 (fun H locs h => ?_)
              refine x_iconst B dX12_turns_104 ?_
              refine lv_istore (lv' := [(6, .int (iI 0)), (0, .ref (am 0)), (1, .int (iI kind)), (2, .int (iI year)), (3, .int (iI n)), (4, .int (iI k)), (5, .int (iI other))]) B.1 B.2.1 dX12_turns_105 hl (by decide) rfl (fun ls hl => ?_)
              have h := xH.weak (P' := xO 12 [fR (am 1), fX 0, fX 0, fX 0, fX 0, fX 1, fX 1, fR (am 2), fR (am 3), fR (am 4), fR (am 5), fR (am 6), fR (am 7), fR (am 8), fR (am 9), fR (am 10), fR (am 11), fR (am 12), fR (am 13), fR (am 14), fR (am 15), fR (am 16), fR (am 17), fX 0, fR (am 18), fR (am 19), fR (am 20), fR (am 21), fR (am 22), fR (am 23), fR (am 24), fR (am 25), fX 0, fX (-1), fG 0 0, fG 0 0, fG 0 0, fG 0 0, fG 0 0, fG 0 0, fG 0 0, fG 0 0, fL, fX 0, fR (am 26), fX 0, fX 0, fR (am 27), fR (am 28), fR (am 29), fR (am 30), fR (am 31), fX (-1), fX 0, fX 0, fX tot, fR (am 32), fX 0, fX 0, fX 0, fX 0, fR (am 33), fR (am 34), fR (am 35), fX 0, fX 0, fR (am 36), fR (am 37), fR (am 38), fX (-1), fX 0, fX 0, fX 0, fR (am 39), fX 0, fR (am 40), fR (am 41), fR (am 42), fR (am 43), fR (am 44)]) h (xset_eq (xset_ne f0 (by decide))) (fun e he => he)
              have h : xH D A s.heap ((w.set 31 (am 31, xAI (ca 0) 13 (gP 13 ((gOne n tot))))).set 0 (am 0, xO 12 [fR (am 1), fX 0, fX 0, fX 0, fX 0, fX 1, fX 1, fR (am 2), fR (am 3), fR (am 4), fR (am 5), fR (am 6), fR (am 7), fR (am 8), fR (am 9), fR (am 10), fR (am 11), fR (am 12), fR (am 13), fR (am 14), fR (am 15), fR (am 16), fR (am 17), fX 0, fR (am 18), fR (am 19), fR (am 20), fR (am 21), fR (am 22), fR (am 23), fR (am 24), fR (am 25), fX 0, fX (-1), fG 0 0, fG 0 0, fG 0 0, fG 0 0, fG 0 0, fG 0 0, fG 0 0, fG 0 0, fL, fX 0, fR (am 26), fX 0, fX 0, fR (am 27), fR (am 28), fR (am 29), fR (am 30), fR (am 31), fX (-1), fX 0, fX 0, fX tot, fR (am 32), fX 0, fX 0, fX 0, fX 0, fR (am 33), fR (am 34), fR (am 35), fX 0, fX 0, fR (am 36), fR (am 37), fR (am 38), fX (-1), fX 0, fX 0, fX 0, fR (am 39), fX 0, fR (am 40), fR (am 41), fR (am 42), fR (am 43), fR (am 44)])) H locs := by rw [List.set_set] at h; exact h
              have loop107 : ∀ (n107 : Nat) (i : Int) (le : Int) (gr : Int) (om : Int), (0 ≤ i ∧ i ≤ 13) → ((i ≤ n ∧ le = -1 ∧ om = 0) ∨ (n < i ∧ le = n ∧ gr = n ∧ om = n)) → (13 - i : Int).toNat < n107 → ∀ (H : Heap) (locs : List Loc) (ls : Array Slot), xH D A s.heap (((w.set 31 (am 31, xAI (ca 0) 13 (gP 13 ((gOne n tot))))).set 0 (am 0, xO 12 [fR (am 1), fX 0, fX 0, fX 0, fX 0, fX 1, fX 1, fR (am 2), fR (am 3), fR (am 4), fR (am 5), fR (am 6), fR (am 7), fR (am 8), fR (am 9), fR (am 10), fR (am 11), fR (am 12), fR (am 13), fR (am 14), fR (am 15), fR (am 16), fR (am 17), fX 0, fR (am 18), fR (am 19), fR (am 20), fR (am 21), fR (am 22), fR (am 23), fR (am 24), fR (am 25), fX 0, fX (-1), fG 0 0, fG 0 0, fG 0 0, fG 0 0, fG 0 0, fG 0 0, fG 0 0, fG 0 0, fL, fX 0, fR (am 26), fX 0, fX 0, fR (am 27), fR (am 28), fR (am 29), fR (am 30), fR (am 31), fX le, fX gr, fX om, fX tot, fR (am 32), fX 0, fX 0, fX 0, fX 0, fR (am 33), fR (am 34), fR (am 35), fX 0, fX 0, fR (am 36), fR (am 37), fR (am 38), fX (-1), fX 0, fX 0, fX 0, fR (am 39), fX 0, fR (am 40), fR (am 41), fR (am 42), fR (am 43), fR (am 44)]))) H locs → lv_has ls 7 [(0, .ref (am 0)), (1, .int (iI kind)), (2, .int (iI year)), (3, .int (iI n)), (4, .int (iI k)), (5, .int (iI other)), (6, .int (iI i))] → W p l e r_c_X12_turns s m args below meth c H locs 0 0 Qf (F0 m 107 ls []) := by
                intro n107
                induction n107 with
                | zero =>
                  intro i le gr om h0 h3 hm107 H locs ls h hl
                  exact absurd hm107 (Nat.not_lt_zero _)
                | succ n107 ih107 =>
                  intro i le gr om h0 h3 hm107 H locs ls h hl
                  refine lv_iload B.1 B.2.1 dX12_turns_107 (lv_at hl 6 rfl) ?_
                  refine x_bipush B (by decide) dX12_turns_109 ?_
                  refine x_icmp_ge B (by omega) (tgt := 177) dX12_turns_111 (by decide) (fun c3 => ?_) (fun c3 => ?_)
                  · have e9_le : n = le := by omega
                    subst e9_le
                    have e9_gr : n = gr := by omega
                    subst e9_gr
                    have e9_om : n = om := by omega
                    subst e9_om
                    refine lv_aload_n B.1 B.2.1 dX12_turns_177 rfl (lv_at hl 0 rfl) ?_
                    refine x_getX B h kX12 0 (xset_eq (xset_ne f0 (by decide))) 55 (z := tot) rfl m_1316 (by decide) dX12_turns_178 ?_
                    refine x_if_le B (by omega) (tgt := 188) dX12_turns_181 (by decide) (fun c4 => ?_) (fun c4 => ?_)
                    · exact absurd c4 (by omega)
                    · refine x_iconst B dX12_turns_184 ?_
                      refine lv_goto (tgt := 189) B.1 B.2.1 dX12_turns_185 (by decide) ?_
                      refine x_rz B hQ h (by decide) (by decide) dX12_turns_189 ?_
                      exact ⟨rfl, _, rfl⟩
                  · refine lv_aload_n B.1 B.2.1 dX12_turns_114 rfl (lv_at hl 0 rfl) ?_
                    refine x_getR B h kX12 0 (xset_eq (xset_ne f0 (by decide))) 51 (b := am 31) rfl m_1312 (by decide) dX12_turns_115 ?_
                    refine lv_iload B.1 B.2.1 dX12_turns_118 (lv_at hl 6 rfl) ?_
                    obtain ⟨g5, eg5, hg5⟩ := gOne_ex (n := n) (a := tot) (i := i) (by omega)
                    refine x_ialdP B h 31 (xset_ne (xset_eq f31) (by decide)) (by omega) dX12_turns_120 (z := g5) eg5 ?_
                    refine x_if_ne B (by omega) (tgt := 127) dX12_turns_121 (by decide) (fun c6 => ?_) (fun c6 => ?_)
                    · refine lv_aload_n B.1 B.2.1 dX12_turns_127 rfl (lv_at hl 0 rfl) ?_
                      refine x_getX B h kX12 0 (xset_eq (xset_ne f0 (by decide))) 52 (z := le) rfl m_1313 (by decide) dX12_turns_128 ?_
                      refine x_if_ge B (by omega) (tgt := 140) dX12_turns_131 (by decide) (fun c7 => ?_) (fun c7 => ?_)
                      · refine lv_aload_n B.1 B.2.1 dX12_turns_140 rfl (lv_at hl 0 rfl) ?_
                        refine lv_iload B.1 B.2.1 dX12_turns_141 (lv_at hl 6 rfl) ?_
                        refine x_put B h kX12 0 (xset_eq (xset_ne f0 (by decide))) 53 (Nat.le_of_ble_eq_true rfl) (P' := fX i) m_1314 (by decide) rfl rfl rfl rfl dX12_turns_143 (fun H locs h => ?_)
                        have h : xH D A s.heap ((w.set 31 (am 31, xAI (ca 0) 13 (gP 13 ((gOne n tot))))).set 0 (am 0, xO 12 [fR (am 1), fX 0, fX 0, fX 0, fX 0, fX 1, fX 1, fR (am 2), fR (am 3), fR (am 4), fR (am 5), fR (am 6), fR (am 7), fR (am 8), fR (am 9), fR (am 10), fR (am 11), fR (am 12), fR (am 13), fR (am 14), fR (am 15), fR (am 16), fR (am 17), fX 0, fR (am 18), fR (am 19), fR (am 20), fR (am 21), fR (am 22), fR (am 23), fR (am 24), fR (am 25), fX 0, fX (-1), fG 0 0, fG 0 0, fG 0 0, fG 0 0, fG 0 0, fG 0 0, fG 0 0, fG 0 0, fL, fX 0, fR (am 26), fX 0, fX 0, fR (am 27), fR (am 28), fR (am 29), fR (am 30), fR (am 31), fX le, fX i, fX om, fX tot, fR (am 32), fX 0, fX 0, fX 0, fX 0, fR (am 33), fR (am 34), fR (am 35), fX 0, fX 0, fR (am 36), fR (am 37), fR (am 38), fX (-1), fX 0, fX 0, fX 0, fR (am 39), fX 0, fR (am 40), fR (am 41), fR (am 42), fR (am 43), fR (am 44)])) H locs := by rw [List.set_set] at h; exact h
                        refine lv_aload_n B.1 B.2.1 dX12_turns_146 rfl (lv_at hl 0 rfl) ?_
                        refine x_getR B h kX12 0 (xset_eq (xset_ne f0 (by decide))) 51 (b := am 31) rfl m_1312 (by decide) dX12_turns_147 ?_
                        refine lv_iload B.1 B.2.1 dX12_turns_150 (lv_at hl 6 rfl) ?_
                        obtain ⟨g8, eg8, hg8⟩ := gOne_ex (n := n) (a := tot) (i := i) (by omega)
                        refine x_ialdP B h 31 (xset_ne (xset_eq f31) (by decide)) (by omega) dX12_turns_152 (z := g8) eg8 ?_
                        refine lv_aload_n B.1 B.2.1 dX12_turns_153 rfl (lv_at hl 0 rfl) ?_
                        refine x_getR B h kX12 0 (xset_eq (xset_ne f0 (by decide))) 51 (b := am 31) rfl m_1312 (by decide) dX12_turns_154 ?_
                        refine lv_aload_n B.1 B.2.1 dX12_turns_157 rfl (lv_at hl 0 rfl) ?_
                        refine x_getX B h kX12 0 (xset_eq (xset_ne f0 (by decide))) 54 (z := om) rfl m_1315 (by decide) dX12_turns_158 ?_
                        obtain ⟨g9, eg9, hg9⟩ := gOne_ex (n := n) (a := tot) (i := om) (by omega)
                        refine x_ialdP B h 31 (xset_ne (xset_eq f31) (by decide)) (by omega) dX12_turns_161 (z := g9) eg9 ?_
                        refine x_icmp_le B (by omega) (tgt := 171) dX12_turns_162 (by decide) (fun c10 => ?_) (fun c10 => ?_)
                        · refine lv_iinc (v := iI (i + 1)) (lv' := [(6, .int (iI (i + 1))), (0, .ref (am 0)), (1, .int (iI kind)), (2, .int (iI year)), (3, .int (iI n)), (4, .int (iI k)), (5, .int (iI other))]) B.1 B.2.1 dX12_turns_171 hl (k := 6) rfl (iI_add _ _) (by decide) rfl (fun ls hl => ?_)
                          refine lv_goto (tgt := 107) B.1 B.2.1 dX12_turns_174 (by decide) ?_
                          exact ih107 ((i + 1)) le i om (by omega) (by omega) (by omega) _ _ _ h (lv_sub hl [1, 2, 3, 4, 5, 6, 0] rfl)
                        · refine lv_aload_n B.1 B.2.1 dX12_turns_165 rfl (lv_at hl 0 rfl) ?_
                          refine lv_iload B.1 B.2.1 dX12_turns_166 (lv_at hl 6 rfl) ?_
                          refine x_put B h kX12 0 (xset_eq (xset_ne f0 (by decide))) 54 (Nat.le_of_ble_eq_true rfl) (P' := fX i) m_1315 (by decide) rfl rfl rfl rfl dX12_turns_168 (fun H locs h => ?_)
                          have h : xH D A s.heap ((w.set 31 (am 31, xAI (ca 0) 13 (gP 13 ((gOne n tot))))).set 0 (am 0, xO 12 [fR (am 1), fX 0, fX 0, fX 0, fX 0, fX 1, fX 1, fR (am 2), fR (am 3), fR (am 4), fR (am 5), fR (am 6), fR (am 7), fR (am 8), fR (am 9), fR (am 10), fR (am 11), fR (am 12), fR (am 13), fR (am 14), fR (am 15), fR (am 16), fR (am 17), fX 0, fR (am 18), fR (am 19), fR (am 20), fR (am 21), fR (am 22), fR (am 23), fR (am 24), fR (am 25), fX 0, fX (-1), fG 0 0, fG 0 0, fG 0 0, fG 0 0, fG 0 0, fG 0 0, fG 0 0, fG 0 0, fL, fX 0, fR (am 26), fX 0, fX 0, fR (am 27), fR (am 28), fR (am 29), fR (am 30), fR (am 31), fX le, fX i, fX i, fX tot, fR (am 32), fX 0, fX 0, fX 0, fX 0, fR (am 33), fR (am 34), fR (am 35), fX 0, fX 0, fR (am 36), fR (am 37), fR (am 38), fX (-1), fX 0, fX 0, fX 0, fR (am 39), fX 0, fR (am 40), fR (am 41), fR (am 42), fR (am 43), fR (am 44)])) H locs := by rw [List.set_set] at h; exact h
                          refine lv_iinc (v := iI (i + 1)) (lv' := [(6, .int (iI (i + 1))), (0, .ref (am 0)), (1, .int (iI kind)), (2, .int (iI year)), (3, .int (iI n)), (4, .int (iI k)), (5, .int (iI other))]) B.1 B.2.1 dX12_turns_171 hl (k := 6) rfl (iI_add _ _) (by decide) rfl (fun ls hl => ?_)
                          refine lv_goto (tgt := 107) B.1 B.2.1 dX12_turns_174 (by decide) ?_
                          exact ih107 ((i + 1)) le i i (by omega) (by omega) (by omega) _ _ _ h (lv_sub hl [1, 2, 3, 4, 5, 6, 0] rfl)
                      · refine lv_aload_n B.1 B.2.1 dX12_turns_134 rfl (lv_at hl 0 rfl) ?_
                        refine lv_iload B.1 B.2.1 dX12_turns_135 (lv_at hl 6 rfl) ?_
                        refine x_put B h kX12 0 (xset_eq (xset_ne f0 (by decide))) 52 (Nat.le_of_ble_eq_true rfl) (P' := fX i) m_1313 (by decide) rfl rfl rfl rfl dX12_turns_137 (fun H locs h => ?_)
                        have h : xH D A s.heap ((w.set 31 (am 31, xAI (ca 0) 13 (gP 13 ((gOne n tot))))).set 0 (am 0, xO 12 [fR (am 1), fX 0, fX 0, fX 0, fX 0, fX 1, fX 1, fR (am 2), fR (am 3), fR (am 4), fR (am 5), fR (am 6), fR (am 7), fR (am 8), fR (am 9), fR (am 10), fR (am 11), fR (am 12), fR (am 13), fR (am 14), fR (am 15), fR (am 16), fR (am 17), fX 0, fR (am 18), fR (am 19), fR (am 20), fR (am 21), fR (am 22), fR (am 23), fR (am 24), fR (am 25), fX 0, fX (-1), fG 0 0, fG 0 0, fG 0 0, fG 0 0, fG 0 0, fG 0 0, fG 0 0, fG 0 0, fL, fX 0, fR (am 26), fX 0, fX 0, fR (am 27), fR (am 28), fR (am 29), fR (am 30), fR (am 31), fX i, fX gr, fX om, fX tot, fR (am 32), fX 0, fX 0, fX 0, fX 0, fR (am 33), fR (am 34), fR (am 35), fX 0, fX 0, fR (am 36), fR (am 37), fR (am 38), fX (-1), fX 0, fX 0, fX 0, fR (am 39), fX 0, fR (am 40), fR (am 41), fR (am 42), fR (am 43), fR (am 44)])) H locs := by rw [List.set_set] at h; exact h
                        refine lv_aload_n B.1 B.2.1 dX12_turns_140 rfl (lv_at hl 0 rfl) ?_
                        refine lv_iload B.1 B.2.1 dX12_turns_141 (lv_at hl 6 rfl) ?_
                        refine x_put B h kX12 0 (xset_eq (xset_ne f0 (by decide))) 53 (Nat.le_of_ble_eq_true rfl) (P' := fX i) m_1314 (by decide) rfl rfl rfl rfl dX12_turns_143 (fun H locs h => ?_)
                        have h : xH D A s.heap ((w.set 31 (am 31, xAI (ca 0) 13 (gP 13 ((gOne n tot))))).set 0 (am 0, xO 12 [fR (am 1), fX 0, fX 0, fX 0, fX 0, fX 1, fX 1, fR (am 2), fR (am 3), fR (am 4), fR (am 5), fR (am 6), fR (am 7), fR (am 8), fR (am 9), fR (am 10), fR (am 11), fR (am 12), fR (am 13), fR (am 14), fR (am 15), fR (am 16), fR (am 17), fX 0, fR (am 18), fR (am 19), fR (am 20), fR (am 21), fR (am 22), fR (am 23), fR (am 24), fR (am 25), fX 0, fX (-1), fG 0 0, fG 0 0, fG 0 0, fG 0 0, fG 0 0, fG 0 0, fG 0 0, fG 0 0, fL, fX 0, fR (am 26), fX 0, fX 0, fR (am 27), fR (am 28), fR (am 29), fR (am 30), fR (am 31), fX i, fX i, fX om, fX tot, fR (am 32), fX 0, fX 0, fX 0, fX 0, fR (am 33), fR (am 34), fR (am 35), fX 0, fX 0, fR (am 36), fR (am 37), fR (am 38), fX (-1), fX 0, fX 0, fX 0, fR (am 39), fX 0, fR (am 40), fR (am 41), fR (am 42), fR (am 43), fR (am 44)])) H locs := by rw [List.set_set] at h; exact h
                        refine lv_aload_n B.1 B.2.1 dX12_turns_146 rfl (lv_at hl 0 rfl) ?_
                        refine x_getR B h kX12 0 (xset_eq (xset_ne f0 (by decide))) 51 (b := am 31) rfl m_1312 (by decide) dX12_turns_147 ?_
                        refine lv_iload B.1 B.2.1 dX12_turns_150 (lv_at hl 6 rfl) ?_
                        obtain ⟨g11, eg11, hg11⟩ := gOne_ex (n := n) (a := tot) (i := i) (by omega)
                        refine x_ialdP B h 31 (xset_ne (xset_eq f31) (by decide)) (by omega) dX12_turns_152 (z := g11) eg11 ?_
                        refine lv_aload_n B.1 B.2.1 dX12_turns_153 rfl (lv_at hl 0 rfl) ?_
                        refine x_getR B h kX12 0 (xset_eq (xset_ne f0 (by decide))) 51 (b := am 31) rfl m_1312 (by decide) dX12_turns_154 ?_
                        refine lv_aload_n B.1 B.2.1 dX12_turns_157 rfl (lv_at hl 0 rfl) ?_
                        refine x_getX B h kX12 0 (xset_eq (xset_ne f0 (by decide))) 54 (z := om) rfl m_1315 (by decide) dX12_turns_158 ?_
                        obtain ⟨g12, eg12, hg12⟩ := gOne_ex (n := n) (a := tot) (i := om) (by omega)
                        refine x_ialdP B h 31 (xset_ne (xset_eq f31) (by decide)) (by omega) dX12_turns_161 (z := g12) eg12 ?_
                        refine x_icmp_le B (by omega) (tgt := 171) dX12_turns_162 (by decide) (fun c13 => ?_) (fun c13 => ?_)
                        · refine lv_iinc (v := iI (i + 1)) (lv' := [(6, .int (iI (i + 1))), (0, .ref (am 0)), (1, .int (iI kind)), (2, .int (iI year)), (3, .int (iI n)), (4, .int (iI k)), (5, .int (iI other))]) B.1 B.2.1 dX12_turns_171 hl (k := 6) rfl (iI_add _ _) (by decide) rfl (fun ls hl => ?_)
                          refine lv_goto (tgt := 107) B.1 B.2.1 dX12_turns_174 (by decide) ?_
                          exact ih107 ((i + 1)) i i om (by omega) (by omega) (by omega) _ _ _ h (lv_sub hl [1, 2, 3, 4, 5, 6, 0] rfl)
                        · refine lv_aload_n B.1 B.2.1 dX12_turns_165 rfl (lv_at hl 0 rfl) ?_
                          refine lv_iload B.1 B.2.1 dX12_turns_166 (lv_at hl 6 rfl) ?_
                          refine x_put B h kX12 0 (xset_eq (xset_ne f0 (by decide))) 54 (Nat.le_of_ble_eq_true rfl) (P' := fX i) m_1315 (by decide) rfl rfl rfl rfl dX12_turns_168 (fun H locs h => ?_)
                          have h : xH D A s.heap ((w.set 31 (am 31, xAI (ca 0) 13 (gP 13 ((gOne n tot))))).set 0 (am 0, xO 12 [fR (am 1), fX 0, fX 0, fX 0, fX 0, fX 1, fX 1, fR (am 2), fR (am 3), fR (am 4), fR (am 5), fR (am 6), fR (am 7), fR (am 8), fR (am 9), fR (am 10), fR (am 11), fR (am 12), fR (am 13), fR (am 14), fR (am 15), fR (am 16), fR (am 17), fX 0, fR (am 18), fR (am 19), fR (am 20), fR (am 21), fR (am 22), fR (am 23), fR (am 24), fR (am 25), fX 0, fX (-1), fG 0 0, fG 0 0, fG 0 0, fG 0 0, fG 0 0, fG 0 0, fG 0 0, fG 0 0, fL, fX 0, fR (am 26), fX 0, fX 0, fR (am 27), fR (am 28), fR (am 29), fR (am 30), fR (am 31), fX i, fX i, fX i, fX tot, fR (am 32), fX 0, fX 0, fX 0, fX 0, fR (am 33), fR (am 34), fR (am 35), fX 0, fX 0, fR (am 36), fR (am 37), fR (am 38), fX (-1), fX 0, fX 0, fX 0, fR (am 39), fX 0, fR (am 40), fR (am 41), fR (am 42), fR (am 43), fR (am 44)])) H locs := by rw [List.set_set] at h; exact h
                          refine lv_iinc (v := iI (i + 1)) (lv' := [(6, .int (iI (i + 1))), (0, .ref (am 0)), (1, .int (iI kind)), (2, .int (iI year)), (3, .int (iI n)), (4, .int (iI k)), (5, .int (iI other))]) B.1 B.2.1 dX12_turns_171 hl (k := 6) rfl (iI_add _ _) (by decide) rfl (fun ls hl => ?_)
                          refine lv_goto (tgt := 107) B.1 B.2.1 dX12_turns_174 (by decide) ?_
                          exact ih107 ((i + 1)) i i i (by omega) (by omega) (by omega) _ _ _ h (lv_sub hl [1, 2, 3, 4, 5, 6, 0] rfl)
                    · refine lv_goto (tgt := 171) B.1 B.2.1 dX12_turns_124 (by decide) ?_
                      refine lv_iinc (v := iI (i + 1)) (lv' := [(6, .int (iI (i + 1))), (0, .ref (am 0)), (1, .int (iI kind)), (2, .int (iI year)), (3, .int (iI n)), (4, .int (iI k)), (5, .int (iI other))]) B.1 B.2.1 dX12_turns_171 hl (k := 6) rfl (iI_add _ _) (by decide) rfl (fun ls hl => ?_)
                      refine lv_goto (tgt := 107) B.1 B.2.1 dX12_turns_174 (by decide) ?_
                      exact ih107 ((i + 1)) le gr om (by omega) (by omega) (by omega) _ _ _ h (lv_sub hl [1, 2, 3, 4, 5, 6, 0] rfl)
              exact loop107 ((13 - 0 : Int).toNat + 1) 0 ((-1)) 0 0 (by omega) (by omega) (Nat.lt_succ_self _) _ _ _ h (lv_sub hl [1, 2, 3, 4, 5, 6, 0] rfl)
            · refine lv_aload_n B.1 B.2.1 dX12_turns_39 rfl (lv_at hl 0 rfl) ?_
              refine lv_iload_n B.1 B.2.1 dX12_turns_40 rfl (lv_at hl 1 rfl) ?_
              refine lv_iload B.1 B.2.1 dX12_turns_41 (lv_at hl 6 rfl) ?_
              refine x_iconst B dX12_turns_43 ?_
              refine x_iconst B dX12_turns_44 ?_
              refine lv_iload_n B.1 B.2.1 dX12_turns_45 rfl (lv_at hl 2 rfl) ?_
              refine x_cV B h kX12 0 (xset_eq (xset_ne f0 (by decide))) k_X12_readIn rfl (c_X12_readIn2 l D ca _ kind i 0 0 year am tot (xset_eq (xset_ne f0 (by decide))) (by omega) (by omega)) m_1663 rfl (by decide) hl.1 [] (Nat.le_of_ble_eq_true rfl) rfl dX12_turns_46 (fun r w1 hq H locs h => ?_)
              obtain ⟨rfl, _, rfl, rfl⟩ := hq
              show W p l e r_c_X12_turns s m args below meth c H locs 0 0 Qf (F0 m 49 ls [.int (iI (min 12 (i / 8)))])
              refine lv_iload_n B.1 B.2.1 dX12_turns_49 rfl (lv_at hl 3 rfl) ?_
              refine x_icmp_eq B (by omega) (tgt := 56) dX12_turns_50 (by decide) (fun c15 => ?_) (fun c15 => ?_)
              · refine lv_aload_n B.1 B.2.1 dX12_turns_56 rfl (lv_at hl 0 rfl) ?_
                refine x_getR B h kX12 0 (xset_eq (xset_ne f0 (by decide))) 51 (b := am 31) rfl m_1312 (by decide) dX12_turns_57 ?_
                refine lv_aload_n B.1 B.2.1 dX12_turns_60 rfl (lv_at hl 0 rfl) ?_
                refine lv_iload B.1 B.2.1 dX12_turns_61 (lv_at hl 4 rfl) ?_
                refine lv_iload_n B.1 B.2.1 dX12_turns_63 rfl (lv_at hl 1 rfl) ?_
                refine lv_iload B.1 B.2.1 dX12_turns_64 (lv_at hl 6 rfl) ?_
                refine x_iconst B dX12_turns_66 ?_
                refine x_iconst B dX12_turns_67 ?_
                refine lv_iload B.1 B.2.1 dX12_turns_68 (lv_at hl 5 rfl) ?_
                refine x_cV B h kX12 0 (xset_eq (xset_ne f0 (by decide))) k_X12_readsBy rfl (c_X12_readsBy2 l D ca _ k kind i 0 0 other am tot (xset_eq (xset_ne f0 (by decide))) (by omega) (by omega) (by omega)) m_1671 rfl (by decide) hl.1 [.ref (am 31)] (Nat.le_of_ble_eq_true rfl) rfl dX12_turns_70 (fun r w1 hq H locs h => ?_)
                obtain ⟨rfl, _, rfl, rfl⟩ := hq
                show W p l e r_c_X12_turns s m args below meth c H locs 0 0 Qf (F0 m 73 ls [.int (iI (min 12 (i / 8))), .ref (am 31)])
                refine lv_dup2_11 B.1 B.2.1 dX12_turns_73 rfl rfl ?_
                obtain ⟨g17, eg17, hg17⟩ := gOne_ex (n := n) (a := tot) (i := (min 12 (i / 8))) (by omega)
                refine x_ialdP B h 31 (xset_ne (xset_eq f31) (by decide)) (by omega) dX12_turns_74 (z := g17) eg17 ?_
                refine x_iconst B dX12_turns_75 ?_
                refine x_iadd B dX12_turns_76 ?_
                refine x_iast B h 31 (xset_ne (xset_eq f31) (by decide)) (by omega) (P' := gP 13 ((gOne n (tot + 1)))) (gOneP_upd ⟨by omega, by omega, by omega⟩) dX12_turns_77 (fun H locs h => ?_)
                have h : xH D A s.heap ((w.set 31 (am 31, xAI (ca 0) 13 (gP 13 ((gOne n (tot + 1)))))).set 0 (am 0, xO 12 [fR (am 1), fX 0, fX 0, fX 0, fX 0, fX 1, fX 1, fR (am 2), fR (am 3), fR (am 4), fR (am 5), fR (am 6), fR (am 7), fR (am 8), fR (am 9), fR (am 10), fR (am 11), fR (am 12), fR (am 13), fR (am 14), fR (am 15), fR (am 16), fR (am 17), fX 0, fR (am 18), fR (am 19), fR (am 20), fR (am 21), fR (am 22), fR (am 23), fR (am 24), fR (am 25), fX 0, fX (-1), fG 0 0, fG 0 0, fG 0 0, fG 0 0, fG 0 0, fG 0 0, fG 0 0, fG 0 0, fL, fX 0, fR (am 26), fX 0, fX 0, fR (am 27), fR (am 28), fR (am 29), fR (am 30), fR (am 31), fX 0, fX 0, fX 0, fX tot, fR (am 32), fX 0, fX 0, fX 0, fX 0, fR (am 33), fR (am 34), fR (am 35), fX 0, fX 0, fR (am 36), fR (am 37), fR (am 38), fX (-1), fX 0, fX 0, fX 0, fR (am 39), fX 0, fR (am 40), fR (am 41), fR (am 42), fR (am 43), fR (am 44)])) H locs := by rw [List.set_comm _ _ (show (0 : Nat) ≠ 31 by decide), List.set_set] at h; exact h
                refine lv_aload_n B.1 B.2.1 dX12_turns_78 rfl (lv_at hl 0 rfl) ?_
                refine lv_dup B.1 B.2.1 dX12_turns_79 rfl ?_
                refine x_getX B h kX12 0 (xset_eq (xset_ne f0 (by decide))) 55 (z := tot) rfl m_1316 (by decide) dX12_turns_80 ?_
                refine x_iconst B dX12_turns_83 ?_
                refine x_iadd B dX12_turns_84 ?_
                refine x_put B h kX12 0 (xset_eq (xset_ne f0 (by decide))) 55 (Nat.le_of_ble_eq_true rfl) (P' := fX (tot + 1)) m_1316 (by decide) rfl rfl rfl rfl dX12_turns_85 (fun H locs h => ?_)
                have h : xH D A s.heap ((w.set 31 (am 31, xAI (ca 0) 13 (gP 13 ((gOne n (tot + 1)))))).set 0 (am 0, xO 12 [fR (am 1), fX 0, fX 0, fX 0, fX 0, fX 1, fX 1, fR (am 2), fR (am 3), fR (am 4), fR (am 5), fR (am 6), fR (am 7), fR (am 8), fR (am 9), fR (am 10), fR (am 11), fR (am 12), fR (am 13), fR (am 14), fR (am 15), fR (am 16), fR (am 17), fX 0, fR (am 18), fR (am 19), fR (am 20), fR (am 21), fR (am 22), fR (am 23), fR (am 24), fR (am 25), fX 0, fX (-1), fG 0 0, fG 0 0, fG 0 0, fG 0 0, fG 0 0, fG 0 0, fG 0 0, fG 0 0, fL, fX 0, fR (am 26), fX 0, fX 0, fR (am 27), fR (am 28), fR (am 29), fR (am 30), fR (am 31), fX 0, fX 0, fX 0, fX (tot + 1), fR (am 32), fX 0, fX 0, fX 0, fX 0, fR (am 33), fR (am 34), fR (am 35), fX 0, fX 0, fR (am 36), fR (am 37), fR (am 38), fX (-1), fX 0, fX 0, fX 0, fR (am 39), fX 0, fR (am 40), fR (am 41), fR (am 42), fR (am 43), fR (am 44)])) H locs := by rw [List.set_set] at h; exact h
                refine lv_iinc (v := iI (i + 1)) (lv' := [(6, .int (iI (i + 1))), (0, .ref (am 0)), (1, .int (iI kind)), (2, .int (iI year)), (3, .int (iI n)), (4, .int (iI k)), (5, .int (iI other))]) B.1 B.2.1 dX12_turns_88 hl (k := 6) rfl (iI_add _ _) (by decide) rfl (fun ls hl => ?_)
                refine lv_goto (tgt := 32) B.1 B.2.1 dX12_turns_91 (by decide) ?_
                exact ih32 ((i + 1)) ((tot + 1)) (by omega) (by omega) (by omega) (by omega) _ _ _ h (lv_sub hl [1, 2, 3, 4, 5, 6, 0] rfl)
              · refine lv_goto (tgt := 88) B.1 B.2.1 dX12_turns_53 (by decide) ?_
                refine lv_iinc (v := iI (i + 1)) (lv' := [(6, .int (iI (i + 1))), (0, .ref (am 0)), (1, .int (iI kind)), (2, .int (iI year)), (3, .int (iI n)), (4, .int (iI k)), (5, .int (iI other))]) B.1 B.2.1 dX12_turns_88 hl (k := 6) rfl (iI_add _ _) (by decide) rfl (fun ls hl => ?_)
                refine lv_goto (tgt := 32) B.1 B.2.1 dX12_turns_91 (by decide) ?_
                exact ih32 ((i + 1)) tot (by omega) (by omega) (by omega) (by omega) _ _ _ h (lv_sub hl [1, 2, 3, 4, 5, 6, 0] rfl)
        exact loop32 ((100 - 0 : Int).toNat + 1) 0 0 (by omega) (by omega) (by omega) (Nat.lt_succ_self _) _ _ _ h (lv_sub hl [1, 2, 3, 4, 5, 6, 0] rfl)
      · refine lv_aload_n B.1 B.2.1 dX12_turns_10 rfl (lv_at hl 0 rfl) ?_
        refine x_getR B h kX12 0 (xset_ne f0 (by decide)) 51 (b := am 31) rfl m_1312 (by decide) dX12_turns_11 ?_
        refine lv_iload B.1 B.2.1 dX12_turns_14 (lv_at hl 6 rfl) ?_
        refine x_iconst B dX12_turns_16 ?_
        refine x_iast B h 31 (xset_eq f31) (by omega) (P' := gP (i + 1) ((gOne n 0))) (gP_next ⟨by omega, by rw [gOne_at (by omega)]; split <;> rfl⟩) dX12_turns_17 (fun H locs h => ?_)
        have h : xH D A s.heap (w.set 31 (am 31, xAI (ca 0) 13 (gP (i + 1) ((gOne n 0))))) H locs := by rw [List.set_set] at h; exact h
        refine lv_iinc (v := iI (i + 1)) (lv' := [(6, .int (iI (i + 1))), (0, .ref (am 0)), (1, .int (iI kind)), (2, .int (iI year)), (3, .int (iI n)), (4, .int (iI k)), (5, .int (iI other))]) B.1 B.2.1 dX12_turns_18 hl (k := 6) rfl (iI_add _ _) (by decide) rfl (fun ls hl => ?_)
        refine lv_goto (tgt := 3) B.1 B.2.1 dX12_turns_21 (by decide) ?_
        exact ih3 ((i + 1)) (by omega) (by omega) _ _ _ h (lv_sub hl [1, 2, 3, 4, 5, 6, 0] rfl)
  exact loop3 ((13 - 0 : Int).toNat + 1) 0 (by omega) (Nat.lt_succ_self _) _ _ _ h (lv_sub hl [1, 2, 3, 4, 5, 6, 0] rfl)
abbrev r_c_X12_turn : Room := { frames := 3, cells := 0, slots := 0, locals := 79 }
set_option maxHeartbeats 4000000 in
set_option maxRecDepth 100000 in
theorem c_X12_turn (l : Launch) (D : va_G) (ca : Nat → ClassId) (w : xW) (kind : Int) (year : Int) (number : Int) (other : Int) (what : Int) (am : Nat → Nat) (f0 : w[0]? = some (am 0, xO 12 [fR (am 1), fX 0, fX 0, fX 0, fX 0, fX 1, fX 1, fR (am 2), fR (am 3), fR (am 4), fR (am 5), fR (am 6), fR (am 7), fR (am 8), fR (am 9), fR (am 10), fR (am 11), fR (am 12), fR (am 13), fR (am 14), fR (am 15), fR (am 16), fR (am 17), fX 0, fR (am 18), fR (am 19), fR (am 20), fR (am 21), fR (am 22), fR (am 23), fR (am 24), fR (am 25), fX 0, fX (-1), fG 0 0, fG 0 0, fG 0 0, fG 0 0, fG 0 0, fG 0 0, fG 0 0, fG 0 0, fL, fX 0, fR (am 26), fX 0, fX 0, fR (am 27), fR (am 28), fR (am 29), fR (am 30), fR (am 31), fX 0, fX 0, fX 0, fX 0, fR (am 32), fX 0, fX 0, fX 0, fX 0, fR (am 33), fR (am 34), fR (am 35), fX 0, fX 0, fR (am 36), fR (am 37), fR (am 38), fX (-1), fX 0, fX 0, fX 0, fR (am 39), fX 0, fR (am 40), fR (am 41), fR (am 42), fR (am 43), fR (am 44)])) (f31 : w[31]? = some (am 31, xAI (ca 0) 13 gA)) (hkind : xr kind) (hyear : xr year) (hnumber : xr number) (hother : xr other) (hwhat : xr what) : xC l D ca yX12_turn cX12_turn 6 (some .int) r_c_X12_turn [.ref (am 0), .int (iI kind), .int (iI year), .int (iI number), .int (iI other), .int (iI what)] w (qIa (fun z => (((0 ≤ kind ∧ kind ≤ 2) ∧ (0 ≤ year ∧ year ≤ 9) ∧ (0 ≤ number ∧ number ≤ 12) ∧ (0 ≤ other ∧ other ≤ 9) ∧ 0 ≤ what ∧ what ≤ 3) → (what = 3 → z = 0) ∧ (what ≠ 3 → z = number)) ∧ (¬ ((0 ≤ kind ∧ kind ≤ 2) ∧ (0 ≤ year ∧ year ≤ 9) ∧ (0 ≤ number ∧ number ≤ 12) ∧ (0 ≤ other ∧ other ≤ 9) ∧ 0 ≤ what ∧ what ≤ 3) → z = -1))) := by
  refine xC.of2 "WindWordsModel" (by decide) rfl (Nat.le_of_ble_eq_true rfl) ?_
  intro p e s m args below meth c A ls Qf B hnm h hl hQ
  have hl : lv_has ls 6 [(0, .ref (am 0)), (1, .int (iI kind)), (2, .int (iI year)), (3, .int (iI number)), (4, .int (iI other)), (5, .int (iI what))] := hl
  refine lv_iload_n B.1 B.2.1 dX12_turn_0 rfl (lv_at hl 1 rfl) ?_
  refine x_iconst B dX12_turn_1 ?_
  refine x_iconst B dX12_turn_2 ?_
  refine x_cS B h k_X12_within (c_X12_within l D ca _ kind 0 2  (by omega) (by omega) (by omega)) m_1515 rfl (by decide) hl.1 [] (Nat.le_of_ble_eq_true rfl) rfl dX12_turn_3 (fun r w1 hq H locs h => ?_)
  obtain ⟨rfl, ⟨rfl, b1⟩ | ⟨rfl, b1⟩⟩ := hq
  · show W p l e r_c_X12_turn s m args below meth c H locs 0 0 Qf (F0 m 6 ls [.int (iI 1)])
    refine x_if_eq B (by omega) (tgt := 50) dX12_turn_6 (by decide) (fun c2 => ?_) (fun c2 => ?_)
    · exact absurd c2 (by omega)
    · refine lv_iload_n B.1 B.2.1 dX12_turn_9 rfl (lv_at hl 2 rfl) ?_
      refine x_iconst B dX12_turn_10 ?_
      refine x_bipush B (by decide) dX12_turn_11 ?_
      refine x_cS B h k_X12_within (c_X12_within l D ca _ year 0 9  (by omega) (by omega) (by omega)) m_1515 rfl (by decide) hl.1 [] (Nat.le_of_ble_eq_true rfl) rfl dX12_turn_13 (fun r w1 hq H locs h => ?_)
      obtain ⟨rfl, ⟨rfl, b3⟩ | ⟨rfl, b3⟩⟩ := hq
      · show W p l e r_c_X12_turn s m args below meth c H locs 0 0 Qf (F0 m 16 ls [.int (iI 1)])
        refine x_if_eq B (by omega) (tgt := 50) dX12_turn_16 (by decide) (fun c4 => ?_) (fun c4 => ?_)
        · exact absurd c4 (by omega)
        · refine lv_iload_n B.1 B.2.1 dX12_turn_19 rfl (lv_at hl 3 rfl) ?_
          refine x_iconst B dX12_turn_20 ?_
          refine x_bipush B (by decide) dX12_turn_21 ?_
          refine x_cS B h k_X12_within (c_X12_within l D ca _ number 0 12  (by omega) (by omega) (by omega)) m_1515 rfl (by decide) hl.1 [] (Nat.le_of_ble_eq_true rfl) rfl dX12_turn_23 (fun r w1 hq H locs h => ?_)
          obtain ⟨rfl, ⟨rfl, b5⟩ | ⟨rfl, b5⟩⟩ := hq
          · show W p l e r_c_X12_turn s m args below meth c H locs 0 0 Qf (F0 m 26 ls [.int (iI 1)])
            refine x_if_eq B (by omega) (tgt := 50) dX12_turn_26 (by decide) (fun c6 => ?_) (fun c6 => ?_)
            · exact absurd c6 (by omega)
            · refine lv_iload B.1 B.2.1 dX12_turn_29 (lv_at hl 4 rfl) ?_
              refine x_iconst B dX12_turn_31 ?_
              refine x_bipush B (by decide) dX12_turn_32 ?_
              refine x_cS B h k_X12_within (c_X12_within l D ca _ other 0 9  (by omega) (by omega) (by omega)) m_1515 rfl (by decide) hl.1 [] (Nat.le_of_ble_eq_true rfl) rfl dX12_turn_34 (fun r w1 hq H locs h => ?_)
              obtain ⟨rfl, ⟨rfl, b7⟩ | ⟨rfl, b7⟩⟩ := hq
              · show W p l e r_c_X12_turn s m args below meth c H locs 0 0 Qf (F0 m 37 ls [.int (iI 1)])
                refine x_if_eq B (by omega) (tgt := 50) dX12_turn_37 (by decide) (fun c8 => ?_) (fun c8 => ?_)
                · exact absurd c8 (by omega)
                · refine lv_iload B.1 B.2.1 dX12_turn_40 (lv_at hl 5 rfl) ?_
                  refine x_iconst B dX12_turn_42 ?_
                  refine x_iconst B dX12_turn_43 ?_
                  refine x_cS B h k_X12_within (c_X12_within l D ca _ what 0 3  (by omega) (by omega) (by omega)) m_1515 rfl (by decide) hl.1 [] (Nat.le_of_ble_eq_true rfl) rfl dX12_turn_44 (fun r w1 hq H locs h => ?_)
                  obtain ⟨rfl, ⟨rfl, b9⟩ | ⟨rfl, b9⟩⟩ := hq
                  · show W p l e r_c_X12_turn s m args below meth c H locs 0 0 Qf (F0 m 47 ls [.int (iI 1)])
                    refine x_if_ne B (by omega) (tgt := 52) dX12_turn_47 (by decide) (fun c10 => ?_) (fun c10 => ?_)
                    · refine lv_aload_n B.1 B.2.1 dX12_turn_52 rfl (lv_at hl 0 rfl) ?_
                      refine lv_iload_n B.1 B.2.1 dX12_turn_53 rfl (lv_at hl 1 rfl) ?_
                      refine lv_iload_n B.1 B.2.1 dX12_turn_54 rfl (lv_at hl 2 rfl) ?_
                      refine lv_iload_n B.1 B.2.1 dX12_turn_55 rfl (lv_at hl 3 rfl) ?_
                      refine lv_aload_n B.1 B.2.1 dX12_turn_56 rfl (lv_at hl 0 rfl) ?_
                      refine lv_iload B.1 B.2.1 dX12_turn_57 (lv_at hl 4 rfl) ?_
                      refine x_cV B h kX12 0 f0 k_X12_scaleFor rfl (c_X12_scaleFor l D ca _ other am f0 (by omega)) m_1667 rfl (by decide) hl.1 [.int (iI number), .int (iI year), .int (iI kind), .ref (am 0)] (Nat.le_of_ble_eq_true rfl) rfl dX12_turn_59 (fun r w1 hq H locs h => ?_)
                      obtain ⟨rfl, _, rfl, rfl⟩ := hq
                      show W p l e r_c_X12_turn s m args below meth c H locs 0 0 Qf (F0 m 62 ls [.int (iI (-1)), .int (iI number), .int (iI year), .int (iI kind), .ref (am 0)])
                      refine lv_iload B.1 B.2.1 dX12_turn_62 (lv_at hl 4 rfl) ?_
                      refine x_cV B h kX12 0 f0 k_X12_turns rfl (c_X12_turns l D ca _ kind year number ((-1)) other am f0 f31 (by omega) (by omega) (by omega) (by omega) (by omega) (by omega)) m_1715 rfl (by decide) hl.1 [] (Nat.le_of_ble_eq_true rfl) rfl dX12_turn_64 (fun r w1 hq H locs h => ?_)
                      obtain ⟨rfl, tot12, rfl⟩ := hq
                      show W p l e r_c_X12_turn s m args below meth c H locs 0 0 Qf (F0 m 67 ls [.int (iI 1)])
                      have h : xH D A s.heap ((w.set 31 (am 31, xAI (ca 0) 13 (gP 13 ((gOne number tot12))))).set 0 (am 0, xO 12 [fR (am 1), fX 0, fX 0, fX 0, fX 0, fX 1, fX 1, fR (am 2), fR (am 3), fR (am 4), fR (am 5), fR (am 6), fR (am 7), fR (am 8), fR (am 9), fR (am 10), fR (am 11), fR (am 12), fR (am 13), fR (am 14), fR (am 15), fR (am 16), fR (am 17), fX 0, fR (am 18), fR (am 19), fR (am 20), fR (am 21), fR (am 22), fR (am 23), fR (am 24), fR (am 25), fX 0, fX (-1), fG 0 0, fG 0 0, fG 0 0, fG 0 0, fG 0 0, fG 0 0, fG 0 0, fG 0 0, fL, fX 0, fR (am 26), fX 0, fX 0, fR (am 27), fR (am 28), fR (am 29), fR (am 30), fR (am 31), fX number, fX number, fX number, fX tot12, fR (am 32), fX 0, fX 0, fX 0, fX 0, fR (am 33), fR (am 34), fR (am 35), fX 0, fX 0, fR (am 36), fR (am 37), fR (am 38), fX (-1), fX 0, fX 0, fX 0, fR (am 39), fX 0, fR (am 40), fR (am 41), fR (am 42), fR (am 43), fR (am 44)])) H locs := h
                      refine x_if_ne B (by omega) (tgt := 72) dX12_turn_67 (by decide) (fun c13 => ?_) (fun c13 => ?_)
                      · refine lv_iload B.1 B.2.1 dX12_turn_72 (lv_at hl 5 rfl) ?_
                        refine x_if_ne B (by omega) (tgt := 84) dX12_turn_74 (by decide) (fun c14 => ?_) (fun c14 => ?_)
                        · refine lv_iload B.1 B.2.1 dX12_turn_84 (lv_at hl 5 rfl) ?_
                          refine x_iconst B dX12_turn_86 ?_
                          refine x_icmp_ne B (by omega) (tgt := 97) dX12_turn_87 (by decide) (fun c15 => ?_) (fun c15 => ?_)
                          · refine lv_iload B.1 B.2.1 dX12_turn_97 (lv_at hl 5 rfl) ?_
                            refine x_iconst B dX12_turn_99 ?_
                            refine x_icmp_ne B (by omega) (tgt := 110) dX12_turn_100 (by decide) (fun c16 => ?_) (fun c16 => ?_)
                            · refine lv_aload_n B.1 B.2.1 dX12_turn_110 rfl (lv_at hl 0 rfl) ?_
                              refine x_getX B h kX12 0 (xset_eq (xset_ne f0 (by decide))) 55 (z := tot12) rfl m_1316 (by decide) dX12_turn_111 ?_
                              refine lv_aload_n B.1 B.2.1 dX12_turn_114 rfl (lv_at hl 0 rfl) ?_
                              refine x_getR B h kX12 0 (xset_eq (xset_ne f0 (by decide))) 51 (b := am 31) rfl m_1312 (by decide) dX12_turn_115 ?_
                              refine lv_aload_n B.1 B.2.1 dX12_turn_118 rfl (lv_at hl 0 rfl) ?_
                              refine x_getX B h kX12 0 (xset_eq (xset_ne f0 (by decide))) 54 (z := number) rfl m_1315 (by decide) dX12_turn_119 ?_
                              obtain ⟨g17, eg17, hg17⟩ := gOne_ex (n := number) (a := tot12) (i := number) (by omega)
                              refine x_ialdP B h 31 (xset_ne (xset_eq f31) (by decide)) (by omega) dX12_turn_122 (z := g17) eg17 ?_
                              refine x_isub B dX12_turn_123 ?_
                              refine x_ri B hQ h (by decide) dX12_turn_124 ?_
                              exact ⟨_, rfl, by omega⟩
                            · refine lv_aload_n B.1 B.2.1 dX12_turn_103 rfl (lv_at hl 0 rfl) ?_
                              refine x_getX B h kX12 0 (xset_eq (xset_ne f0 (by decide))) 54 (z := number) rfl m_1315 (by decide) dX12_turn_104 ?_
                              refine lv_goto (tgt := 124) B.1 B.2.1 dX12_turn_107 (by decide) ?_
                              refine x_ri B hQ h (by decide) dX12_turn_124 ?_
                              exact ⟨_, rfl, by omega⟩
                          · refine lv_aload_n B.1 B.2.1 dX12_turn_90 rfl (lv_at hl 0 rfl) ?_
                            refine x_getX B h kX12 0 (xset_eq (xset_ne f0 (by decide))) 53 (z := number) rfl m_1314 (by decide) dX12_turn_91 ?_
                            refine lv_goto (tgt := 124) B.1 B.2.1 dX12_turn_94 (by decide) ?_
                            refine x_ri B hQ h (by decide) dX12_turn_124 ?_
                            exact ⟨_, rfl, by omega⟩
                        · refine lv_aload_n B.1 B.2.1 dX12_turn_77 rfl (lv_at hl 0 rfl) ?_
                          refine x_getX B h kX12 0 (xset_eq (xset_ne f0 (by decide))) 52 (z := number) rfl m_1313 (by decide) dX12_turn_78 ?_
                          refine lv_goto (tgt := 124) B.1 B.2.1 dX12_turn_81 (by decide) ?_
                          refine x_ri B hQ h (by decide) dX12_turn_124 ?_
                          exact ⟨_, rfl, by omega⟩
                      · exact absurd c13 (by omega)
                    · exact absurd c10 (by omega)
                  · show W p l e r_c_X12_turn s m args below meth c H locs 0 0 Qf (F0 m 47 ls [.int (iI 0)])
                    refine x_if_ne B (by omega) (tgt := 52) dX12_turn_47 (by decide) (fun c18 => ?_) (fun c18 => ?_)
                    · exact absurd c18 (by omega)
                    · refine x_iconst B dX12_turn_50 ?_
                      refine x_ri B hQ h (by decide) dX12_turn_51 ?_
                      exact ⟨_, rfl, by omega⟩
              · show W p l e r_c_X12_turn s m args below meth c H locs 0 0 Qf (F0 m 37 ls [.int (iI 0)])
                refine x_if_eq B (by omega) (tgt := 50) dX12_turn_37 (by decide) (fun c19 => ?_) (fun c19 => ?_)
                · refine x_iconst B dX12_turn_50 ?_
                  refine x_ri B hQ h (by decide) dX12_turn_51 ?_
                  exact ⟨_, rfl, by omega⟩
                · exact absurd c19 (by omega)
          · show W p l e r_c_X12_turn s m args below meth c H locs 0 0 Qf (F0 m 26 ls [.int (iI 0)])
            refine x_if_eq B (by omega) (tgt := 50) dX12_turn_26 (by decide) (fun c20 => ?_) (fun c20 => ?_)
            · refine x_iconst B dX12_turn_50 ?_
              refine x_ri B hQ h (by decide) dX12_turn_51 ?_
              exact ⟨_, rfl, by omega⟩
            · exact absurd c20 (by omega)
      · show W p l e r_c_X12_turn s m args below meth c H locs 0 0 Qf (F0 m 16 ls [.int (iI 0)])
        refine x_if_eq B (by omega) (tgt := 50) dX12_turn_16 (by decide) (fun c21 => ?_) (fun c21 => ?_)
        · refine x_iconst B dX12_turn_50 ?_
          refine x_ri B hQ h (by decide) dX12_turn_51 ?_
          exact ⟨_, rfl, by omega⟩
        · exact absurd c21 (by omega)
  · show W p l e r_c_X12_turn s m args below meth c H locs 0 0 Qf (F0 m 6 ls [.int (iI 0)])
    refine x_if_eq B (by omega) (tgt := 50) dX12_turn_6 (by decide) (fun c22 => ?_) (fun c22 => ?_)
    · refine x_iconst B dX12_turn_50 ?_
      refine x_ri B hQ h (by decide) dX12_turn_51 ?_
      exact ⟨_, rfl, by omega⟩
    · exact absurd c22 (by omega)
