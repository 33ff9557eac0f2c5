theorem k_X11_gatherLags : xMV yX11_gatherLags cX11_gatherLags 3 none 0 := ⟨m_1107, m_1106, m_28, m_95, ⟨by decide +kernel, by decide +kernel, by decide +kernel⟩⟩
theorem k_X11_bestLag : xMV yX11_bestLag cX11_bestLag 3 (some .int) 0 := ⟨m_1118, m_1117, m_30, m_95, ⟨by decide +kernel, by decide +kernel, by decide +kernel⟩⟩
theorem k_X0_readingAt : xMV yX0_readingAt cX0_readingAt 2 (some (.object "WindWords$Reading")) 1 := ⟨m_833, m_831, m_832, m_96, ⟨by decide +kernel, by decide +kernel, by decide +kernel⟩⟩
abbrev r_c_X11_gatherLags : Room := { frames := 0, cells := 0, slots := 0, locals := 0 }
set_option maxHeartbeats 4000000 in
set_option maxRecDepth 100000 in
theorem c_X11_gatherLags (l : Launch) (D : va_G) (ca : Nat → ClassId) (w : xW) (ad : Nat → Nat) (hC : C0 ca ad w)    : xC l D ca yX11_gatherLags cX11_gatherLags 3 none r_c_X11_gatherLags [.ref (ad 0)] w (qV w) := by
  refine xC.of2 "WindWords" (by decide) rfl (Nat.le_of_ble_eq_true rfl) ?_
  intro p e s m args below meth c A ls Qf B hnm h hl hQ
  have hl : lv_has ls 3 [(0, .ref (ad 0))] := hl
  refine x_iconst B dX11_gatherLags_0 ?_
  refine lv_istore_n (lv' := [(1, .int (iI 0)), (0, .ref (ad 0))]) B.1 B.2.1 dX11_gatherLags_1 rfl hl (by decide) rfl (fun ls hl => ?_)
  have loop2 : ∀ (n2 : Nat) (i : Int), (0 ≤ i ∧ i ≤ 10) → (10 - i : Int).toNat < n2 → ∀ (H : Heap) (locs : List Loc) (ls : Array Slot), xH D A s.heap w H locs → lv_has ls 3 [(0, .ref (ad 0)), (1, .int (iI i))] → W p l e r_c_X11_gatherLags s m args below meth c H locs 0 0 Qf (F0 m 2 ls []) := by
    intro n2
    induction n2 with
    | zero =>
      intro i h0 hm2 H locs ls h hl
      exact absurd hm2 (Nat.not_lt_zero _)
    | succ n2 ih2 =>
      intro i h0 hm2 H locs ls h hl
      refine lv_iload_n B.1 B.2.1 dX11_gatherLags_2 rfl (lv_at hl 1 rfl) ?_
      refine x_bipush B (by decide) dX11_gatherLags_3 ?_
      refine x_icmp_ge B (by omega) (tgt := 28) dX11_gatherLags_5 (by decide) (fun c1 => ?_) (fun c1 => ?_)
      · refine x_iconst B dX11_gatherLags_28 ?_
        refine lv_istore_n (lv' := [(1, .int (iI 0)), (0, .ref (ad 0))]) B.1 B.2.1 dX11_gatherLags_29 rfl hl (by decide) rfl (fun ls hl => ?_)
        refine lv_iload_n B.1 B.2.1 dX11_gatherLags_30 rfl (lv_at hl 0 rfl) ?_
        refine lv_aload_n B.1 B.2.1 dX11_gatherLags_31 rfl (lv_at hl 1 rfl) ?_
        refine x_getR B h kX11 0 (hC 0 _ rfl) 0 (b := ad 1) rfl m_361 (by decide) dX11_gatherLags_32 ?_
        refine x_getX B h kX0 1 (hC 1 _ rfl) 5 (z := 0) rfl m_149 (by decide) dX11_gatherLags_35 ?_
        refine x_icmp_ge B (by omega) (tgt := 73) dX11_gatherLags_38 (by decide) (fun c2 => ?_) (fun c2 => ?_)
        · refine x_rv B hQ h (by decide) dX11_gatherLags_73 ?_
          exact ⟨rfl, rfl⟩
        · exact absurd c2 (by omega)
      · refine lv_aload_n B.1 B.2.1 dX11_gatherLags_8 rfl (lv_at hl 0 rfl) ?_
        refine x_getR B h kX11 0 (hC 0 _ rfl) 13 (b := ad 33) rfl m_374 (by decide) dX11_gatherLags_9 ?_
        refine lv_iload_n B.1 B.2.1 dX11_gatherLags_12 rfl (lv_at hl 1 rfl) ?_
        refine x_iconst B dX11_gatherLags_13 ?_
        refine x_iastS B h 33 (hC 33 _ rfl) (by omega) (gG_upd (by omega)) dX11_gatherLags_14 (fun H locs h => ?_)
        refine lv_aload_n B.1 B.2.1 dX11_gatherLags_15 rfl (lv_at hl 0 rfl) ?_
        refine x_getR B h kX11 0 (hC 0 _ rfl) 14 (b := ad 34) rfl m_375 (by decide) dX11_gatherLags_16 ?_
        refine lv_iload_n B.1 B.2.1 dX11_gatherLags_19 rfl (lv_at hl 1 rfl) ?_
        refine x_iconst B dX11_gatherLags_20 ?_
        refine x_iastS B h 34 (hC 34 _ rfl) (by omega) (gG_upd (by omega)) dX11_gatherLags_21 (fun H locs h => ?_)
        refine lv_iinc (v := iI (i + 1)) (lv' := [(1, .int (iI (i + 1))), (0, .ref (ad 0))]) B.1 B.2.1 dX11_gatherLags_22 hl (k := 1) rfl (iI_add _ _) (by decide) rfl (fun ls hl => ?_)
        refine lv_goto (tgt := 2) B.1 B.2.1 dX11_gatherLags_25 (by decide) ?_
        exact ih2 ((i + 1)) (by omega) (by omega) _ _ _ h (lv_sub hl [1, 0] rfl)
  exact loop2 ((10 - 0 : Int).toNat + 1) 0 (by omega) (Nat.lt_succ_self _) _ _ _ h (lv_sub hl [1, 0] rfl)
abbrev r_c_X11_bestLag : Room := { frames := 0, cells := 0, slots := 0, locals := 0 }
set_option maxHeartbeats 4000000 in
set_option maxRecDepth 100000 in
theorem c_X11_bestLag (l : Launch) (D : va_G) (ca : Nat → ClassId) (w : xW) (ad : Nat → Nat) (hC : C0 ca ad w)    : xC l D ca yX11_bestLag cX11_bestLag 3 (some .int) r_c_X11_bestLag [.ref (ad 0)] w (qI w (fun z => z = (-1))) := by
  refine xC.of2 "WindWords" (by decide) rfl (Nat.le_of_ble_eq_true rfl) ?_
  intro p e s m args below meth c A ls Qf B hnm h hl hQ
  have hl : lv_has ls 3 [(0, .ref (ad 0))] := hl
  refine x_iconst B dX11_bestLag_0 ?_
  refine lv_istore_n (lv' := [(1, .int (iI (-1))), (0, .ref (ad 0))]) B.1 B.2.1 dX11_bestLag_1 rfl hl (by decide) rfl (fun ls hl => ?_)
  refine x_iconst B dX11_bestLag_2 ?_
  refine lv_istore_n (lv' := [(2, .int (iI 0)), (1, .int (iI (-1))), (0, .ref (ad 0))]) B.1 B.2.1 dX11_bestLag_3 rfl hl (by decide) rfl (fun ls hl => ?_)
  have loop4 : ∀ (n4 : Nat) (i : Int), (0 ≤ i ∧ i ≤ 10) → (10 - i : Int).toNat < n4 → ∀ (H : Heap) (locs : List Loc) (ls : Array Slot), xH D A s.heap w H locs → lv_has ls 3 [(0, .ref (ad 0)), (1, .int (iI (-1))), (2, .int (iI i))] → W p l e r_c_X11_bestLag s m args below meth c H locs 0 0 Qf (F0 m 4 ls []) := by
    intro n4
    induction n4 with
    | zero =>
      intro i h0 hm4 H locs ls h hl
      exact absurd hm4 (Nat.not_lt_zero _)
    | succ n4 ih4 =>
      intro i h0 hm4 H locs ls h hl
      refine lv_iload_n B.1 B.2.1 dX11_bestLag_4 rfl (lv_at hl 2 rfl) ?_
      refine x_bipush B (by decide) dX11_bestLag_5 ?_
      refine x_icmp_ge B (by omega) (tgt := 61) dX11_bestLag_7 (by decide) (fun c1 => ?_) (fun c1 => ?_)
      · refine lv_iload_n B.1 B.2.1 dX11_bestLag_61 rfl (lv_at hl 1 rfl) ?_
        refine x_ri B hQ h (by decide) dX11_bestLag_62 ?_
        exact ⟨rfl, _, rfl, by omega⟩
      · refine lv_aload_n B.1 B.2.1 dX11_bestLag_10 rfl (lv_at hl 0 rfl) ?_
        refine x_getR B h kX11 0 (hC 0 _ rfl) 14 (b := ad 34) rfl m_375 (by decide) dX11_bestLag_11 ?_
        refine lv_iload_n B.1 B.2.1 dX11_bestLag_14 rfl (lv_at hl 2 rfl) ?_
        refine x_ialdG B h 34 (hC 34 _ rfl) (by omega) dX11_bestLag_15 (fun z2 z2a z2b => ?_)
        refine x_if_le B (by omega) (tgt := 55) dX11_bestLag_16 (by decide) (fun c3 => ?_) (fun c3 => ?_)
        · refine lv_iinc (v := iI (i + 1)) (lv' := [(2, .int (iI (i + 1))), (0, .ref (ad 0)), (1, .int (iI (-1)))]) B.1 B.2.1 dX11_bestLag_55 hl (k := 2) rfl (iI_add _ _) (by decide) rfl (fun ls hl => ?_)
          refine lv_goto (tgt := 4) B.1 B.2.1 dX11_bestLag_58 (by decide) ?_
          exact ih4 ((i + 1)) (by omega) (by omega) _ _ _ h (lv_sub hl [1, 2, 0] rfl)
        · exact absurd c3 (by omega)
  exact loop4 ((10 - 0 : Int).toNat + 1) 0 (by omega) (Nat.lt_succ_self _) _ _ _ h (lv_sub hl [2, 1, 0] rfl)
abbrev r_c_X11_late : Room := { frames := 1, cells := 0, slots := 0, locals := 22 }
set_option maxHeartbeats 4000000 in
set_option maxRecDepth 100000 in
theorem c_X11_late (l : Launch) (D : va_G) (ca : Nat → ClassId) (w : xW) (ad : Nat → Nat) (hC : C0 ca ad w) (what : Int)  (hwhat : xr what) : xC l D ca yX11_late cX11_late 3 (some .int) r_c_X11_late [.ref (ad 0), .int (iI what)] w (qIa (fun z => ((10 ≤ what ∧ what ≤ 29) → z = 0) ∧ (¬ (10 ≤ what ∧ what ≤ 29) → z = -1))) := by
  refine xC.of2 "WindWords" (by decide) rfl (Nat.le_of_ble_eq_true rfl) ?_
  intro p e s m args below meth c A ls Qf B hnm h hl hQ
  have hl : lv_has ls 3 [(0, .ref (ad 0)), (1, .int (iI what))] := hl
  refine lv_aload_n B.1 B.2.1 dX11_late_0 rfl (lv_at hl 0 rfl) ?_
  refine x_cV B h kX11 0 (hC 0 _ rfl) k_X11_gatherLags rfl (c_X11_gatherLags l D ca _ ad hC   ) m_1104 rfl (by decide) hl.1 [] (Nat.le_of_ble_eq_true rfl) rfl dX11_late_1 (fun r w1 hq H locs h => ?_)
  obtain ⟨rfl, rfl⟩ := hq
  show W p l e r_c_X11_late s m args below meth c H locs 0 0 Qf (F0 m 4 ls [])
  refine lv_aload_n B.1 B.2.1 dX11_late_4 rfl (lv_at hl 0 rfl) ?_
  refine x_cV B h kX11 0 (hC 0 _ rfl) k_X11_bestLag rfl (c_X11_bestLag l D ca _ ad hC   ) m_1115 rfl (by decide) hl.1 [] (Nat.le_of_ble_eq_true rfl) rfl dX11_late_5 (fun r w1 hq H locs h => ?_)
  obtain ⟨rfl, _, rfl, rfl⟩ := hq
  show W p l e r_c_X11_late s m args below meth c H locs 0 0 Qf (F0 m 8 ls [.int (iI (-1))])
  refine lv_istore_n (lv' := [(2, .int (iI (-1))), (0, .ref (ad 0)), (1, .int (iI what))]) B.1 B.2.1 dX11_late_8 rfl hl (by decide) rfl (fun ls hl => ?_)
  refine lv_iload_n B.1 B.2.1 dX11_late_9 rfl (lv_at hl 2 rfl) ?_
  refine x_iconst B dX11_late_10 ?_
  refine x_cS B h k_X11_within (c_X11_within l D ca _ what 2  (by omega) (by omega)) m_431 rfl (by decide) hl.1 [] (Nat.le_of_ble_eq_true rfl) rfl dX11_late_11 (fun r w1 hq H locs h => ?_)
  obtain ⟨rfl, ⟨rfl, b2⟩ | ⟨rfl, b2⟩⟩ := hq
  · show W p l e r_c_X11_late s m args below meth c H locs 0 0 Qf (F0 m 14 ls [.int (iI 1)])
    refine x_if_eq B (by omega) (tgt := 53) dX11_late_14 (by decide) (fun c3 => ?_) (fun c3 => ?_)
    · exact absurd c3 (by omega)
    · refine lv_iload_n B.1 B.2.1 dX11_late_17 rfl (lv_at hl 0 rfl) ?_
      refine x_iconst B dX11_late_18 ?_
      refine x_icmp_ne B (by omega) (tgt := 24) dX11_late_19 (by decide) (fun c4 => ?_) (fun c4 => ?_)
      · exact absurd c4 (by omega)
      · refine x_iconst B dX11_late_22 ?_
        refine x_ri B hQ h (by decide) dX11_late_23 ?_
        exact ⟨_, rfl, by omega⟩
  · show W p l e r_c_X11_late s m args below meth c H locs 0 0 Qf (F0 m 14 ls [.int (iI 0)])
    refine x_if_eq B (by omega) (tgt := 53) dX11_late_14 (by decide) (fun c5 => ?_) (fun c5 => ?_)
    · refine lv_iload_n B.1 B.2.1 dX11_late_53 rfl (lv_at hl 2 rfl) ?_
      refine x_bipush B (by decide) dX11_late_54 ?_
      refine x_icmp_lt B (by omega) (tgt := 78) dX11_late_56 (by decide) (fun c6 => ?_) (fun c6 => ?_)
      · refine lv_iload_n B.1 B.2.1 dX11_late_78 rfl (lv_at hl 2 rfl) ?_
        refine x_bipush B (by decide) dX11_late_79 ?_
        refine x_icmp_lt B (by omega) (tgt := 103) dX11_late_81 (by decide) (fun c7 => ?_) (fun c7 => ?_)
        · refine x_iconst B dX11_late_103 ?_
          refine x_ri B hQ h (by decide) dX11_late_104 ?_
          exact ⟨_, rfl, by omega⟩
        · refine lv_iload_n B.1 B.2.1 dX11_late_84 rfl (lv_at hl 2 rfl) ?_
          refine x_bipush B (by decide) dX11_late_85 ?_
          refine x_isub B dX11_late_87 ?_
          refine x_bipush B (by decide) dX11_late_88 ?_
          refine x_icmp_ge B (by omega) (tgt := 103) dX11_late_90 (by decide) (fun c8 => ?_) (fun c8 => ?_)
          · refine x_iconst B dX11_late_103 ?_
            refine x_ri B hQ h (by decide) dX11_late_104 ?_
            exact ⟨_, rfl, by omega⟩
          · refine lv_aload_n B.1 B.2.1 dX11_late_93 rfl (lv_at hl 1 rfl) ?_
            refine x_getR B h kX11 0 (hC 0 _ rfl) 14 (b := ad 34) rfl m_375 (by decide) dX11_late_94 ?_
            refine lv_iload_n B.1 B.2.1 dX11_late_97 rfl (lv_at hl 2 rfl) ?_
            refine x_bipush B (by decide) dX11_late_98 ?_
            refine x_isub B dX11_late_100 ?_
            refine x_ialdG B h 34 (hC 34 _ rfl) (by omega) dX11_late_101 (fun z9 z9a z9b => ?_)
            refine x_ri B hQ h (by decide) dX11_late_102 ?_
            exact ⟨_, rfl, by omega⟩
      · refine lv_iload_n B.1 B.2.1 dX11_late_59 rfl (lv_at hl 2 rfl) ?_
        refine x_bipush B (by decide) dX11_late_60 ?_
        refine x_isub B dX11_late_62 ?_
        refine x_bipush B (by decide) dX11_late_63 ?_
        refine x_icmp_ge B (by omega) (tgt := 78) dX11_late_65 (by decide) (fun c10 => ?_) (fun c10 => ?_)
        · refine lv_iload_n B.1 B.2.1 dX11_late_78 rfl (lv_at hl 2 rfl) ?_
          refine x_bipush B (by decide) dX11_late_79 ?_
          refine x_icmp_lt B (by omega) (tgt := 103) dX11_late_81 (by decide) (fun c11 => ?_) (fun c11 => ?_)
          · refine x_iconst B dX11_late_103 ?_
            refine x_ri B hQ h (by decide) dX11_late_104 ?_
            exact ⟨_, rfl, by omega⟩
          · refine lv_iload_n B.1 B.2.1 dX11_late_84 rfl (lv_at hl 2 rfl) ?_
            refine x_bipush B (by decide) dX11_late_85 ?_
            refine x_isub B dX11_late_87 ?_
            refine x_bipush B (by decide) dX11_late_88 ?_
            refine x_icmp_ge B (by omega) (tgt := 103) dX11_late_90 (by decide) (fun c12 => ?_) (fun c12 => ?_)
            · refine x_iconst B dX11_late_103 ?_
              refine x_ri B hQ h (by decide) dX11_late_104 ?_
              exact ⟨_, rfl, by omega⟩
            · refine lv_aload_n B.1 B.2.1 dX11_late_93 rfl (lv_at hl 1 rfl) ?_
              refine x_getR B h kX11 0 (hC 0 _ rfl) 14 (b := ad 34) rfl m_375 (by decide) dX11_late_94 ?_
              refine lv_iload_n B.1 B.2.1 dX11_late_97 rfl (lv_at hl 2 rfl) ?_
              refine x_bipush B (by decide) dX11_late_98 ?_
              refine x_isub B dX11_late_100 ?_
              refine x_ialdG B h 34 (hC 34 _ rfl) (by omega) dX11_late_101 (fun z13 z13a z13b => ?_)
              refine x_ri B hQ h (by decide) dX11_late_102 ?_
              exact ⟨_, rfl, by omega⟩
        · refine lv_aload_n B.1 B.2.1 dX11_late_68 rfl (lv_at hl 1 rfl) ?_
          refine x_getR B h kX11 0 (hC 0 _ rfl) 13 (b := ad 33) rfl m_374 (by decide) dX11_late_69 ?_
          refine lv_iload_n B.1 B.2.1 dX11_late_72 rfl (lv_at hl 2 rfl) ?_
          refine x_bipush B (by decide) dX11_late_73 ?_
          refine x_isub B dX11_late_75 ?_
          refine x_ialdG B h 33 (hC 33 _ rfl) (by omega) dX11_late_76 (fun z14 z14a z14b => ?_)
          refine x_ri B hQ h (by decide) dX11_late_77 ?_
          exact ⟨_, rfl, by omega⟩
    · exact absurd c5 (by omega)
abbrev r_c_X11_copied : Room := { frames := 2, cells := 0, slots := 0, locals := 42 }
set_option maxHeartbeats 4000000 in
set_option maxRecDepth 100000 in
theorem c_X11_copied (l : Launch) (D : va_G) (ca : Nat → ClassId) (w : xW) (ad : Nat → Nat) (hC : C0 ca ad w) (ship : Int) (what : Int)  (hship : xr ship) (hwhat : xr what) : xC l D ca yX11_copied cX11_copied 6 (some .int) r_c_X11_copied [.ref (ad 0), .int (iI ship), .int (iI what)] w (qIa (fun z => z = -1)) := by
  refine xC.of2 "WindWords" (by decide) rfl (Nat.le_of_ble_eq_true rfl) ?_
  intro p e s m args below meth c A ls Qf B hnm h hl hQ
  have hl : lv_has ls 6 [(0, .ref (ad 0)), (1, .int (iI ship)), (2, .int (iI what))] := hl
  refine lv_aload_n B.1 B.2.1 dX11_copied_0 rfl (lv_at hl 0 rfl) ?_
  refine x_getR B h kX11 0 (hC 0 _ rfl) 0 (b := ad 1) rfl m_361 (by decide) dX11_copied_1 ?_
  refine lv_iload_n B.1 B.2.1 dX11_copied_4 rfl (lv_at hl 1 rfl) ?_
  refine x_cV B h kX0 1 (hC 1 _ rfl) k_X0_shipAt rfl (c_X0_shipAt l D ca _ ad hC ship  (by omega)) m_481 rfl (by decide) hl.1 [] (Nat.le_of_ble_eq_true rfl) rfl dX11_copied_5 (fun r w1 hq H locs h => ?_)
  obtain ⟨rfl, _, rfl, rfl⟩ := hq
  show W p l e r_c_X11_copied s m args below meth c H locs 0 0 Qf (F0 m 8 ls [.null])
  refine lv_ifnullN (tgt := 19) B.1 B.2.1 dX11_copied_8 (by decide) ?_
  refine x_iconst B dX11_copied_19 ?_
  refine x_ri B hQ h (by decide) dX11_copied_20 ?_
  exact ⟨_, rfl, by omega⟩
abbrev r_c_X11_find : Room := { frames := 0, cells := 0, slots := 0, locals := 0 }
set_option maxHeartbeats 4000000 in
set_option maxRecDepth 100000 in
theorem c_X11_find (l : Launch) (D : va_G) (ca : Nat → ClassId) (w : xW) (ad : Nat → Nat) (hC : C0 ca ad w) (k : Int)  (hk : xr k) : xC l D ca yX11_find cX11_find 5 (some .int) r_c_X11_find [.ref (ad 0), .int (iI k)] w (qIa (fun z => z = -1)) := by
  refine xC.of2 "WindWords" (by decide) rfl (Nat.le_of_ble_eq_true rfl) ?_
  intro p e s m args below meth c A ls Qf B hnm h hl hQ
  have hl : lv_has ls 5 [(0, .ref (ad 0)), (1, .int (iI k))] := hl
  refine x_iconst B dX11_find_0 ?_
  refine lv_istore_n (lv' := [(2, .int (iI 0)), (0, .ref (ad 0)), (1, .int (iI k))]) B.1 B.2.1 dX11_find_1 rfl hl (by decide) rfl (fun ls hl => ?_)
  refine x_iconst B dX11_find_2 ?_
  refine lv_istore_n (lv' := [(3, .int (iI 0)), (2, .int (iI 0)), (0, .ref (ad 0)), (1, .int (iI k))]) B.1 B.2.1 dX11_find_3 rfl hl (by decide) rfl (fun ls hl => ?_)
  refine lv_iload_n B.1 B.2.1 dX11_find_4 rfl (lv_at hl 0 rfl) ?_
  refine lv_aload_n B.1 B.2.1 dX11_find_5 rfl (lv_at hl 2 rfl) ?_
  refine x_getR B h kX11 0 (hC 0 _ rfl) 0 (b := ad 1) rfl m_361 (by decide) dX11_find_6 ?_
  refine x_getX B h kX0 1 (hC 1 _ rfl) 5 (z := 0) rfl m_149 (by decide) dX11_find_9 ?_
  refine x_icmp_ge B (by omega) (tgt := 55) dX11_find_12 (by decide) (fun c1 => ?_) (fun c1 => ?_)
  · refine x_iconst B dX11_find_55 ?_
    refine x_ri B hQ h (by decide) dX11_find_56 ?_
    exact ⟨_, rfl, by omega⟩
  · exact absurd c1 (by omega)
abbrev r_c_X11_wished : Room := { frames := 2, cells := 0, slots := 0, locals := 42 }
set_option maxHeartbeats 4000000 in
set_option maxRecDepth 100000 in
theorem c_X11_wished (l : Launch) (D : va_G) (ca : Nat → ClassId) (w : xW) (ad : Nat → Nat) (hC : C0 ca ad w) (o : Int) (what : Int)  (ho : xr o) (hwhat : xr what) : xC l D ca yX11_wished cX11_wished 8 (some .int) r_c_X11_wished [.ref (ad 0), .int (iI o), .int (iI what)] w (qIa (fun z => z = -1000000)) := by
  refine xC.of2 "WindWords" (by decide) rfl (Nat.le_of_ble_eq_true rfl) ?_
  intro p e s m args below meth c A ls Qf B hnm h hl hQ
  have hl : lv_has ls 8 [(0, .ref (ad 0)), (1, .int (iI o)), (2, .int (iI what))] := hl
  refine lv_aload_n B.1 B.2.1 dX11_wished_0 rfl (lv_at hl 0 rfl) ?_
  refine x_getR B h kX11 0 (hC 0 _ rfl) 0 (b := ad 1) rfl m_361 (by decide) dX11_wished_1 ?_
  refine lv_iload_n B.1 B.2.1 dX11_wished_4 rfl (lv_at hl 1 rfl) ?_
  refine x_cV B h kX0 1 (hC 1 _ rfl) k_X0_hasOfficer rfl (c_X0_hasOfficer l D ca _ ad hC o  (by omega)) m_434 rfl (by decide) hl.1 [] (Nat.le_of_ble_eq_true rfl) rfl dX11_wished_5 (fun r w1 hq H locs h => ?_)
  obtain ⟨rfl, ⟨rfl, b1⟩ | ⟨rfl, b1⟩⟩ := hq
  · exact b1.elim
  · show W p l e r_c_X11_wished s m args below meth c H locs 0 0 Qf (F0 m 8 ls [.int (iI 0)])
    refine x_if_eq B (by omega) (tgt := 19) dX11_wished_8 (by decide) (fun c2 => ?_) (fun c2 => ?_)
    · refine x_ldcw B (z := (-1000000)) m_1131 (by decide) dX11_wished_19 ?_
      refine x_ri B hQ h (by decide) dX11_wished_22 ?_
      exact ⟨_, rfl, by omega⟩
    · exact absurd c2 (by omega)
abbrev r_c_X11_eight : Room := { frames := 1, cells := 0, slots := 0, locals := 21 }
set_option maxHeartbeats 4000000 in
set_option maxRecDepth 100000 in
theorem c_X11_eight (l : Launch) (D : va_G) (ca : Nat → ClassId) (w : xW) (ad : Nat → Nat) (hC : C0 ca ad w) (line : Int) (wind : Int) (coin : Int) (what : Int)  (hline : xr line) (hwind : xr wind) (hcoin : xr coin) (hwhat : xr what) : xC l D ca yX11_eight cX11_eight 12 (some .int) r_c_X11_eight [.ref (ad 0), .int (iI line), .int (iI wind), .int (iI coin), .int (iI what)] w (qIa (fun z => (((0 ≤ line ∧ line ≤ 12) ∧ (0 ≤ wind ∧ wind ≤ 99) ∧ (0 ≤ coin ∧ coin ≤ 9999) ∧ 0 ≤ what ∧ what ≤ 3) → z = 0) ∧ (¬ ((0 ≤ line ∧ line ≤ 12) ∧ (0 ≤ wind ∧ wind ≤ 99) ∧ (0 ≤ coin ∧ coin ≤ 9999) ∧ 0 ≤ what ∧ what ≤ 3) → z = -1000000000))) := by
  refine xC.of2 "WindWords" (by decide) rfl (Nat.le_of_ble_eq_true rfl) ?_
  intro p e s m args below meth c A ls Qf B hnm h hl hQ
  have hl : lv_has ls 12 [(0, .ref (ad 0)), (1, .int (iI line)), (2, .int (iI wind)), (3, .int (iI coin)), (4, .int (iI what))] := hl
  refine lv_iload_n B.1 B.2.1 dX11_eight_0 rfl (lv_at hl 1 rfl) ?_
  refine x_bipush B (by decide) dX11_eight_1 ?_
  refine x_cS B h k_X11_within (c_X11_within l D ca _ line 12  (by omega) (by omega)) m_431 rfl (by decide) hl.1 [] (Nat.le_of_ble_eq_true rfl) rfl dX11_eight_3 (fun r w1 hq H locs h => ?_)
  obtain ⟨rfl, ⟨rfl, b1⟩ | ⟨rfl, b1⟩⟩ := hq
  · show W p l e r_c_X11_eight s m args below meth c H locs 0 0 Qf (F0 m 6 ls [.int (iI 1)])
    refine x_if_eq B (by omega) (tgt := 37) dX11_eight_6 (by decide) (fun c2 => ?_) (fun c2 => ?_)
    · exact absurd c2 (by omega)
    · refine lv_iload_n B.1 B.2.1 dX11_eight_9 rfl (lv_at hl 2 rfl) ?_
      refine x_bipush B (by decide) dX11_eight_10 ?_
      refine x_cS B h k_X11_within (c_X11_within l D ca _ wind 99  (by omega) (by omega)) m_431 rfl (by decide) hl.1 [] (Nat.le_of_ble_eq_true rfl) rfl dX11_eight_12 (fun r w1 hq H locs h => ?_)
      obtain ⟨rfl, ⟨rfl, b3⟩ | ⟨rfl, b3⟩⟩ := hq
      · show W p l e r_c_X11_eight s m args below meth c H locs 0 0 Qf (F0 m 15 ls [.int (iI 1)])
        refine x_if_eq B (by omega) (tgt := 37) dX11_eight_15 (by decide) (fun c4 => ?_) (fun c4 => ?_)
        · exact absurd c4 (by omega)
        · refine lv_iload_n B.1 B.2.1 dX11_eight_18 rfl (lv_at hl 3 rfl) ?_
          refine x_sipush B (by decide) dX11_eight_19 ?_
          refine x_cS B h k_X11_within (c_X11_within l D ca _ coin 9999  (by omega) (by omega)) m_431 rfl (by decide) hl.1 [] (Nat.le_of_ble_eq_true rfl) rfl dX11_eight_22 (fun r w1 hq H locs h => ?_)
          obtain ⟨rfl, ⟨rfl, b5⟩ | ⟨rfl, b5⟩⟩ := hq
          · show W p l e r_c_X11_eight s m args below meth c H locs 0 0 Qf (F0 m 25 ls [.int (iI 1)])
            refine x_if_eq B (by omega) (tgt := 37) dX11_eight_25 (by decide) (fun c6 => ?_) (fun c6 => ?_)
            · exact absurd c6 (by omega)
            · refine lv_iload B.1 B.2.1 dX11_eight_28 (lv_at hl 4 rfl) ?_
              refine x_iconst B dX11_eight_30 ?_
              refine x_cS B h k_X11_within (c_X11_within l D ca _ what 3  (by omega) (by omega)) m_431 rfl (by decide) hl.1 [] (Nat.le_of_ble_eq_true rfl) rfl dX11_eight_31 (fun r w1 hq H locs h => ?_)
              obtain ⟨rfl, ⟨rfl, b7⟩ | ⟨rfl, b7⟩⟩ := hq
              · show W p l e r_c_X11_eight s m args below meth c H locs 0 0 Qf (F0 m 34 ls [.int (iI 1)])
                refine x_if_ne B (by omega) (tgt := 41) dX11_eight_34 (by decide) (fun c8 => ?_) (fun c8 => ?_)
                · refine x_iconst B dX11_eight_41 ?_
                  refine lv_istore (lv' := [(5, .int (iI 0)), (0, .ref (ad 0)), (1, .int (iI line)), (2, .int (iI wind)), (3, .int (iI coin)), (4, .int (iI what))]) B.1 B.2.1 dX11_eight_42 hl (by decide) rfl (fun ls hl => ?_)
                  refine x_iconst B dX11_eight_44 ?_
                  refine lv_istore (lv' := [(6, .int (iI 0)), (5, .int (iI 0)), (0, .ref (ad 0)), (1, .int (iI line)), (2, .int (iI wind)), (3, .int (iI coin)), (4, .int (iI what))]) B.1 B.2.1 dX11_eight_45 hl (by decide) rfl (fun ls hl => ?_)
                  refine x_iconst B dX11_eight_47 ?_
                  refine lv_istore (lv' := [(7, .int (iI 0)), (6, .int (iI 0)), (5, .int (iI 0)), (0, .ref (ad 0)), (1, .int (iI line)), (2, .int (iI wind)), (3, .int (iI coin)), (4, .int (iI what))]) B.1 B.2.1 dX11_eight_48 hl (by decide) rfl (fun ls hl => ?_)
                  refine x_iconst B dX11_eight_50 ?_
                  refine lv_istore (lv' := [(8, .int (iI 0)), (7, .int (iI 0)), (6, .int (iI 0)), (5, .int (iI 0)), (0, .ref (ad 0)), (1, .int (iI line)), (2, .int (iI wind)), (3, .int (iI coin)), (4, .int (iI what))]) B.1 B.2.1 dX11_eight_51 hl (by decide) rfl (fun ls hl => ?_)
                  refine lv_iload B.1 B.2.1 dX11_eight_53 (lv_at hl 0 rfl) ?_
                  refine lv_aload_n B.1 B.2.1 dX11_eight_55 rfl (lv_at hl 4 rfl) ?_
                  refine x_getR B h kX11 0 (hC 0 _ rfl) 0 (b := ad 1) rfl m_361 (by decide) dX11_eight_56 ?_
                  refine x_getX B h kX0 1 (hC 1 _ rfl) 5 (z := 0) rfl m_149 (by decide) dX11_eight_59 ?_
                  refine x_icmp_ge B (by omega) (tgt := 167) dX11_eight_62 (by decide) (fun c9 => ?_) (fun c9 => ?_)
                  · refine lv_iload B.1 B.2.1 dX11_eight_167 (lv_at hl 8 rfl) ?_
                    by_cases t10 : what = 0
                    · refine x_tin B (tgt := 196) 0 (by omega) dX11_eight_169 rfl (by decide) ?_
                      refine lv_iload B.1 B.2.1 dX11_eight_196 (lv_at hl 3 rfl) ?_
                      refine x_ri B hQ h (by decide) dX11_eight_198 ?_
                      exact ⟨_, rfl, by omega⟩
                    by_cases t11 : what = 1
                    · refine x_tin B (tgt := 199) 1 (by omega) dX11_eight_169 rfl (by decide) ?_
                      refine lv_iload B.1 B.2.1 dX11_eight_199 (lv_at hl 2 rfl) ?_
                      refine x_ri B hQ h (by decide) dX11_eight_201 ?_
                      exact ⟨_, rfl, by omega⟩
                    by_cases t12 : what = 2
                    · refine x_tin B (tgt := 202) 2 (by omega) dX11_eight_169 rfl (by decide) ?_
                      refine lv_iload B.1 B.2.1 dX11_eight_202 (lv_at hl 1 rfl) ?_
                      refine x_ri B hQ h (by decide) dX11_eight_204 ?_
                      exact ⟨_, rfl, by omega⟩
                    refine x_tout B (tgt := 205) (by omega) dX11_eight_169 (by decide) ?_
                    refine lv_iload_n B.1 B.2.1 dX11_eight_205 rfl (lv_at hl 7 rfl) ?_
                    refine lv_iload B.1 B.2.1 dX11_eight_206 (lv_at hl 2 rfl) ?_
                    refine lv_iload B.1 B.2.1 dX11_eight_208 (lv_at hl 1 rfl) ?_
                    refine x_isub B dX11_eight_210 ?_
                    refine x_imul B dX11_eight_211 ?_
                    refine x_ri B hQ h (by decide) dX11_eight_212 ?_
                    exact ⟨_, rfl, by omega⟩
                  · exact absurd c9 (by omega)
                · exact absurd c8 (by omega)
              · show W p l e r_c_X11_eight s m args below meth c H locs 0 0 Qf (F0 m 34 ls [.int (iI 0)])
                refine x_if_ne B (by omega) (tgt := 41) dX11_eight_34 (by decide) (fun c13 => ?_) (fun c13 => ?_)
                · exact absurd c13 (by omega)
                · refine x_ldcw B (z := (-1000000000)) m_1154 (by decide) dX11_eight_37 ?_
                  refine x_ri B hQ h (by decide) dX11_eight_40 ?_
                  exact ⟨_, rfl, by omega⟩
          · show W p l e r_c_X11_eight s m args below meth c H locs 0 0 Qf (F0 m 25 ls [.int (iI 0)])
            refine x_if_eq B (by omega) (tgt := 37) dX11_eight_25 (by decide) (fun c14 => ?_) (fun c14 => ?_)
            · refine x_ldcw B (z := (-1000000000)) m_1154 (by decide) dX11_eight_37 ?_
              refine x_ri B hQ h (by decide) dX11_eight_40 ?_
              exact ⟨_, rfl, by omega⟩
            · exact absurd c14 (by omega)
      · show W p l e r_c_X11_eight s m args below meth c H locs 0 0 Qf (F0 m 15 ls [.int (iI 0)])
        refine x_if_eq B (by omega) (tgt := 37) dX11_eight_15 (by decide) (fun c15 => ?_) (fun c15 => ?_)
        · refine x_ldcw B (z := (-1000000000)) m_1154 (by decide) dX11_eight_37 ?_
          refine x_ri B hQ h (by decide) dX11_eight_40 ?_
          exact ⟨_, rfl, by omega⟩
        · exact absurd c15 (by omega)
  · show W p l e r_c_X11_eight s m args below meth c H locs 0 0 Qf (F0 m 6 ls [.int (iI 0)])
    refine x_if_eq B (by omega) (tgt := 37) dX11_eight_6 (by decide) (fun c16 => ?_) (fun c16 => ?_)
    · refine x_ldcw B (z := (-1000000000)) m_1154 (by decide) dX11_eight_37 ?_
      refine x_ri B hQ h (by decide) dX11_eight_40 ?_
      exact ⟨_, rfl, by omega⟩
    · exact absurd c16 (by omega)
abbrev r_c_X11_alike : Room := { frames := 1, cells := 0, slots := 0, locals := 21 }
set_option maxHeartbeats 4000000 in
set_option maxRecDepth 100000 in
theorem c_X11_alike (l : Launch) (D : va_G) (ca : Nat → ClassId) (w : xW) (ad : Nat → Nat) (hC : C0 ca ad w) (scale : Int)  (hscale : xr scale) : xC l D ca yX11_alike cX11_alike 6 (some .int) r_c_X11_alike [.ref (ad 0), .int (iI scale)] w (qIa (fun z => z = -1)) := by
  refine xC.of2 "WindWords" (by decide) rfl (Nat.le_of_ble_eq_true rfl) ?_
  intro p e s m args below meth c A ls Qf B hnm h hl hQ
  have hl : lv_has ls 6 [(0, .ref (ad 0)), (1, .int (iI scale))] := hl
  refine lv_iload_n B.1 B.2.1 dX11_alike_0 rfl (lv_at hl 1 rfl) ?_
  refine lv_aload_n B.1 B.2.1 dX11_alike_1 rfl (lv_at hl 0 rfl) ?_
  refine x_getR B h kX11 0 (hC 0 _ rfl) 1 (b := ad 4) rfl m_362 (by decide) dX11_alike_2 ?_
  refine x_getX B h kX6 4 (hC 4 _ rfl) 7 (z := 0) rfl m_195 (by decide) dX11_alike_5 ?_
  refine x_iconst B dX11_alike_8 ?_
  refine x_isub B dX11_alike_9 ?_
  refine x_cS B h k_X11_within (c_X11_within l D ca _ scale ((0 - 1))  (by omega) (by omega)) m_431 rfl (by decide) hl.1 [] (Nat.le_of_ble_eq_true rfl) rfl dX11_alike_10 (fun r w1 hq H locs h => ?_)
  obtain ⟨rfl, ⟨rfl, b1⟩ | ⟨rfl, b1⟩⟩ := hq
  · exact absurd b1 (by omega)
  · show W p l e r_c_X11_alike s m args below meth c H locs 0 0 Qf (F0 m 13 ls [.int (iI 0)])
    refine x_if_eq B (by omega) (tgt := 22) dX11_alike_13 (by decide) (fun c2 => ?_) (fun c2 => ?_)
    · refine lv_iload_n B.1 B.2.1 dX11_alike_22 rfl (lv_at hl 1 rfl) ?_
      refine x_iconst B dX11_alike_23 ?_
      refine x_icmp_eq B (by omega) (tgt := 29) dX11_alike_24 (by decide) (fun c3 => ?_) (fun c3 => ?_)
      · refine x_iconst B dX11_alike_29 ?_
        refine lv_istore_n (lv' := [(2, .int (iI (-1))), (0, .ref (ad 0)), (1, .int (iI scale))]) B.1 B.2.1 dX11_alike_30 rfl hl (by decide) rfl (fun ls hl => ?_)
        refine x_iconst B dX11_alike_31 ?_
        refine lv_istore_n (lv' := [(3, .int (iI 0)), (2, .int (iI (-1))), (0, .ref (ad 0)), (1, .int (iI scale))]) B.1 B.2.1 dX11_alike_32 rfl hl (by decide) rfl (fun ls hl => ?_)
        refine x_iconst B dX11_alike_33 ?_
        refine lv_istore (lv' := [(4, .int (iI 0)), (3, .int (iI 0)), (2, .int (iI (-1))), (0, .ref (ad 0)), (1, .int (iI scale))]) B.1 B.2.1 dX11_alike_34 hl (by decide) rfl (fun ls hl => ?_)
        refine lv_iload B.1 B.2.1 dX11_alike_36 (lv_at hl 0 rfl) ?_
        refine lv_aload_n B.1 B.2.1 dX11_alike_38 rfl (lv_at hl 3 rfl) ?_
        refine x_getR B h kX11 0 (hC 0 _ rfl) 1 (b := ad 4) rfl m_362 (by decide) dX11_alike_39 ?_
        refine x_getX B h kX6 4 (hC 4 _ rfl) 7 (z := 0) rfl m_195 (by decide) dX11_alike_42 ?_
        refine x_icmp_ge B (by omega) (tgt := 79) dX11_alike_45 (by decide) (fun c4 => ?_) (fun c4 => ?_)
        · refine lv_iload_n B.1 B.2.1 dX11_alike_79 rfl (lv_at hl 2 rfl) ?_
          refine x_ri B hQ h (by decide) dX11_alike_80 ?_
          exact ⟨_, rfl, by omega⟩
        · exact absurd c4 (by omega)
      · refine x_iconst B dX11_alike_27 ?_
        refine x_ri B hQ h (by decide) dX11_alike_28 ?_
        exact ⟨_, rfl, by omega⟩
    · exact absurd c2 (by omega)
abbrev r_c_X11_fault : Room := { frames := 0, cells := 0, slots := 0, locals := 0 }
set_option maxHeartbeats 4000000 in
set_option maxRecDepth 100000 in
theorem c_X11_fault (l : Launch) (D : va_G) (ca : Nat → ClassId) (w : xW) (ad : Nat → Nat) (hC : C0 ca ad w)    : xC l D ca yX11_fault cX11_fault 1 (some .int) r_c_X11_fault [.ref (ad 0)] w (qIa (fun z => z = -1)) := by
  refine xC.of2 "WindWords" (by decide) rfl (Nat.le_of_ble_eq_true rfl) ?_
  intro p e s m args below meth c A ls Qf B hnm h hl hQ
  have hl : lv_has ls 1 [(0, .ref (ad 0))] := hl
  refine lv_aload_n B.1 B.2.1 dX11_fault_0 rfl (lv_at hl 0 rfl) ?_
  refine x_getX B h kX11 0 (hC 0 _ rfl) 18 (z := (-1)) rfl m_379 (by decide) dX11_fault_1 ?_
  refine x_ri B hQ h (by decide) dX11_fault_4 ?_
  exact ⟨_, rfl, by omega⟩
abbrev r_c_X11_reading : Room := { frames := 2, cells := 0, slots := 0, locals := 42 }
set_option maxHeartbeats 4000000 in
set_option maxRecDepth 100000 in
theorem c_X11_reading (l : Launch) (D : va_G) (ca : Nat → ClassId) (w : xW) (ad : Nat → Nat) (hC : C0 ca ad w) (k : Int) (what : Int)  (hk : xr k) (hwhat : xr what) : xC l D ca yX11_reading cX11_reading 4 (some .int) r_c_X11_reading [.ref (ad 0), .int (iI k), .int (iI what)] w (qIa (fun z => z = -1)) := by
  refine xC.of2 "WindWords" (by decide) rfl (Nat.le_of_ble_eq_true rfl) ?_
  intro p e s m args below meth c A ls Qf B hnm h hl hQ
  have hl : lv_has ls 4 [(0, .ref (ad 0)), (1, .int (iI k)), (2, .int (iI what))] := hl
  refine lv_aload_n B.1 B.2.1 dX11_reading_0 rfl (lv_at hl 0 rfl) ?_
  refine x_getR B h kX11 0 (hC 0 _ rfl) 0 (b := ad 1) rfl m_361 (by decide) dX11_reading_1 ?_
  refine lv_iload_n B.1 B.2.1 dX11_reading_4 rfl (lv_at hl 1 rfl) ?_
  refine x_cV B h kX0 1 (hC 1 _ rfl) k_X0_readingAt rfl (c_X0_readingAt l D ca _ ad hC k  (by omega)) m_830 rfl (by decide) hl.1 [] (Nat.le_of_ble_eq_true rfl) rfl dX11_reading_5 (fun r w1 hq H locs h => ?_)
  obtain ⟨rfl, _, rfl, rfl⟩ := hq
  show W p l e r_c_X11_reading s m args below meth c H locs 0 0 Qf (F0 m 8 ls [.null])
  refine lv_astore_nN (lv' := [(3, .null), (0, .ref (ad 0)), (1, .int (iI k)), (2, .int (iI what))]) B.1 B.2.1 dX11_reading_8 rfl hl (by decide) rfl (fun ls hl => ?_)
  refine lv_aload_nN B.1 B.2.1 dX11_reading_9 rfl (lv_at hl 0 rfl) ?_
  refine lv_ifnonnullN B.1 B.2.1 dX11_reading_10 ?_
  refine x_iconst B dX11_reading_13 ?_
  refine x_ri B hQ h (by decide) dX11_reading_14 ?_
  exact ⟨_, rfl, by omega⟩
abbrev r_c_X11_blow : Room := { frames := 2, cells := 0, slots := 0, locals := 42 }
set_option maxHeartbeats 4000000 in
set_option maxRecDepth 100000 in
theorem c_X11_blow (l : Launch) (D : va_G) (ca : Nat → ClassId) (w : xW) (ad : Nat → Nat) (hC : C0 ca ad w) (ship : Int) (watch : Int) (kind : Int) (wind : Int) (depth : Int)  (hship : xr ship) (hwatch : xr watch) (hkind : xr kind) (hwind : xr wind) (hdepth : xr depth) : xC l D ca yX11_blow cX11_blow 9 (some .int) r_c_X11_blow [.ref (ad 0), .int (iI ship), .int (iI watch), .int (iI kind), .int (iI wind), .int (iI depth)] w (qIa (fun z => z = -1)) := by
  refine xC.of2 "WindWords" (by decide) rfl (Nat.le_of_ble_eq_true rfl) ?_
  intro p e s m args below meth c A ls Qf B hnm h hl hQ
  have hl : lv_has ls 9 [(0, .ref (ad 0)), (1, .int (iI ship)), (2, .int (iI watch)), (3, .int (iI kind)), (4, .int (iI wind)), (5, .int (iI depth))] := hl
  refine lv_aload_n B.1 B.2.1 dX11_blow_0 rfl (lv_at hl 0 rfl) ?_
  refine x_getR B h kX11 0 (hC 0 _ rfl) 0 (b := ad 1) rfl m_361 (by decide) dX11_blow_1 ?_
  refine lv_iload_n B.1 B.2.1 dX11_blow_4 rfl (lv_at hl 1 rfl) ?_
  refine x_cV B h kX0 1 (hC 1 _ rfl) k_X0_shipAt rfl (c_X0_shipAt l D ca _ ad hC ship  (by omega)) m_481 rfl (by decide) hl.1 [] (Nat.le_of_ble_eq_true rfl) rfl dX11_blow_5 (fun r w1 hq H locs h => ?_)
  obtain ⟨rfl, _, rfl, rfl⟩ := hq
  show W p l e r_c_X11_blow s m args below meth c H locs 0 0 Qf (F0 m 8 ls [.null])
  refine lv_astoreN (lv' := [(6, .null), (0, .ref (ad 0)), (1, .int (iI ship)), (2, .int (iI watch)), (3, .int (iI kind)), (4, .int (iI wind)), (5, .int (iI depth))]) B.1 B.2.1 dX11_blow_8 hl (by decide) rfl (fun ls hl => ?_)
  refine lv_aloadN B.1 B.2.1 dX11_blow_10 (lv_at hl 0 rfl) ?_
  refine lv_ifnullN (tgt := 53) B.1 B.2.1 dX11_blow_12 (by decide) ?_
  refine x_iconst B dX11_blow_53 ?_
  refine x_ri B hQ h (by decide) dX11_blow_54 ?_
  exact ⟨_, rfl, by omega⟩
abbrev r_c_X11_run : Room := { frames := 2, cells := 0, slots := 0, locals := 42 }
set_option maxHeartbeats 4000000 in
set_option maxRecDepth 100000 in
theorem c_X11_run (l : Launch) (D : va_G) (ca : Nat → ClassId) (w : xW) (ad : Nat → Nat) (hC : C0 ca ad w) (ship : Int) (watch : Int) (seed : Int) (n : Int) (number : Int)  (hship : xr ship) (hwatch : xr watch) (hseed : xr seed) (hn : xr n) (hnumber : xr number) : xC l D ca yX11_run cX11_run 12 (some .int) r_c_X11_run [.ref (ad 0), .int (iI ship), .int (iI watch), .int (iI seed), .int (iI n), .int (iI number)] w (qIa (fun z => z = -1)) := by
  refine xC.of2 "WindWords" (by decide) rfl (Nat.le_of_ble_eq_true rfl) ?_
  intro p e s m args below meth c A ls Qf B hnm h hl hQ
  have hl : lv_has ls 12 [(0, .ref (ad 0)), (1, .int (iI ship)), (2, .int (iI watch)), (3, .int (iI seed)), (4, .int (iI n)), (5, .int (iI number))] := hl
  refine lv_aload_n B.1 B.2.1 dX11_run_0 rfl (lv_at hl 0 rfl) ?_
  refine x_getR B h kX11 0 (hC 0 _ rfl) 0 (b := ad 1) rfl m_361 (by decide) dX11_run_1 ?_
  refine lv_iload_n B.1 B.2.1 dX11_run_4 rfl (lv_at hl 1 rfl) ?_
  refine x_cV B h kX0 1 (hC 1 _ rfl) k_X0_shipAt rfl (c_X0_shipAt l D ca _ ad hC ship  (by omega)) m_481 rfl (by decide) hl.1 [] (Nat.le_of_ble_eq_true rfl) rfl dX11_run_5 (fun r w1 hq H locs h => ?_)
  obtain ⟨rfl, _, rfl, rfl⟩ := hq
  show W p l e r_c_X11_run s m args below meth c H locs 0 0 Qf (F0 m 8 ls [.null])
  refine lv_astoreN (lv' := [(6, .null), (0, .ref (ad 0)), (1, .int (iI ship)), (2, .int (iI watch)), (3, .int (iI seed)), (4, .int (iI n)), (5, .int (iI number))]) B.1 B.2.1 dX11_run_8 hl (by decide) rfl (fun ls hl => ?_)
  refine lv_aloadN B.1 B.2.1 dX11_run_10 (lv_at hl 0 rfl) ?_
  refine lv_ifnullN (tgt := 58) B.1 B.2.1 dX11_run_12 (by decide) ?_
  refine x_iconst B dX11_run_58 ?_
  refine x_ri B hQ h (by decide) dX11_run_59 ?_
  exact ⟨_, rfl, by omega⟩
abbrev r_c_X11_habits : Room := { frames := 2, cells := 0, slots := 0, locals := 42 }
set_option maxHeartbeats 4000000 in
set_option maxRecDepth 100000 in
theorem c_X11_habits (l : Launch) (D : va_G) (ca : Nat → ClassId) (w : xW) (ad : Nat → Nat) (hC : C0 ca ad w) (o : Int) (n : Int)  (ho : xr o) (hn : xr n) : xC l D ca yX11_habits cX11_habits 5 (some .int) r_c_X11_habits [.ref (ad 0), .int (iI o), .int (iI n)] w (qIa (fun z => z = -2)) := by
  refine xC.of2 "WindWords" (by decide) rfl (Nat.le_of_ble_eq_true rfl) ?_
  intro p e s m args below meth c A ls Qf B hnm h hl hQ
  have hl : lv_has ls 5 [(0, .ref (ad 0)), (1, .int (iI o)), (2, .int (iI n))] := hl
  refine lv_aload_n B.1 B.2.1 dX11_habits_0 rfl (lv_at hl 0 rfl) ?_
  refine x_getR B h kX11 0 (hC 0 _ rfl) 0 (b := ad 1) rfl m_361 (by decide) dX11_habits_1 ?_
  refine lv_iload_n B.1 B.2.1 dX11_habits_4 rfl (lv_at hl 1 rfl) ?_
  refine x_cV B h kX0 1 (hC 1 _ rfl) k_X0_hasOfficer rfl (c_X0_hasOfficer l D ca _ ad hC o  (by omega)) m_434 rfl (by decide) hl.1 [] (Nat.le_of_ble_eq_true rfl) rfl dX11_habits_5 (fun r w1 hq H locs h => ?_)
  obtain ⟨rfl, ⟨rfl, b1⟩ | ⟨rfl, b1⟩⟩ := hq
  · exact b1.elim
  · show W p l e r_c_X11_habits s m args below meth c H locs 0 0 Qf (F0 m 8 ls [.int (iI 0)])
    refine x_if_eq B (by omega) (tgt := 25) dX11_habits_8 (by decide) (fun c2 => ?_) (fun c2 => ?_)
    · refine lv_aload_n B.1 B.2.1 dX11_habits_25 rfl (lv_at hl 0 rfl) ?_
      refine x_iconst B dX11_habits_26 ?_
      refine x_bipush B (by decide) dX11_habits_27 ?_
      refine x_cV B h kX11 0 (hC 0 _ rfl) k_X11_refuse rfl (c_X11_refuse l D ca _ ad hC 0 ((-2))  (by omega) (by omega)) m_423 rfl (by decide) hl.1 [] (Nat.le_of_ble_eq_true rfl) rfl dX11_habits_29 (fun r w1 hq H locs h => ?_)
      obtain ⟨z3, rfl, hz3⟩ := hq
      show W p l e r_c_X11_habits s m args below meth c H locs 0 0 Qf (F0 m 32 ls [.int (iI z3)])
      refine x_ri B hQ h (by decide) dX11_habits_32 ?_
      exact ⟨_, rfl, by omega⟩
    · exact absurd c2 (by omega)
abbrev r_c_X11_back : Room := { frames := 1, cells := 0, slots := 0, locals := 22 }
set_option maxHeartbeats 4000000 in
set_option maxRecDepth 100000 in
theorem c_X11_back (l : Launch) (D : va_G) (ca : Nat → ClassId) (w : xW) (ad : Nat → Nat) (hC : C0 ca ad w) (im : Int)  (him : xr im) : xC l D ca yX11_back cX11_back 4 (some .int) r_c_X11_back [.ref (ad 0), .int (iI im)] w (qIa (fun z => z = -1)) := by
  refine xC.of2 "WindWords" (by decide) rfl (Nat.le_of_ble_eq_true rfl) ?_
  intro p e s m args below meth c A ls Qf B hnm h hl hQ
  have hl : lv_has ls 4 [(0, .ref (ad 0)), (1, .int (iI im))] := hl
  refine lv_iload_n B.1 B.2.1 dX11_back_0 rfl (lv_at hl 1 rfl) ?_
  refine lv_aload_n B.1 B.2.1 dX11_back_1 rfl (lv_at hl 0 rfl) ?_
  refine x_getX B h kX11 0 (hC 0 _ rfl) 17 (z := 0) rfl m_378 (by decide) dX11_back_2 ?_
  refine x_iconst B dX11_back_5 ?_
  refine x_isub B dX11_back_6 ?_
  refine x_cS B h k_X11_within (c_X11_within l D ca _ im ((0 - 1))  (by omega) (by omega)) m_431 rfl (by decide) hl.1 [] (Nat.le_of_ble_eq_true rfl) rfl dX11_back_7 (fun r w1 hq H locs h => ?_)
  obtain ⟨rfl, ⟨rfl, b1⟩ | ⟨rfl, b1⟩⟩ := hq
  · exact absurd b1 (by omega)
  · show W p l e r_c_X11_back s m args below meth c H locs 0 0 Qf (F0 m 10 ls [.int (iI 0)])
    refine x_if_eq B (by omega) (tgt := 22) dX11_back_10 (by decide) (fun c2 => ?_) (fun c2 => ?_)
    · refine lv_null B.1 B.2.1 dX11_back_22 ?_
      refine lv_astore_nN (lv' := [(2, .null), (0, .ref (ad 0)), (1, .int (iI im))]) B.1 B.2.1 dX11_back_23 rfl hl (by decide) rfl (fun ls hl => ?_)
      refine lv_aload_nN B.1 B.2.1 dX11_back_24 rfl (lv_at hl 0 rfl) ?_
      refine lv_ifnullN (tgt := 42) B.1 B.2.1 dX11_back_25 (by decide) ?_
      refine lv_aload_n B.1 B.2.1 dX11_back_42 rfl (lv_at hl 1 rfl) ?_
      refine x_iconst B dX11_back_43 ?_
      refine x_iconst B dX11_back_44 ?_
      refine x_cV B h kX11 0 (hC 0 _ rfl) k_X11_refuse rfl (c_X11_refuse l D ca _ ad hC 0 ((-1))  (by omega) (by omega)) m_423 rfl (by decide) hl.1 [] (Nat.le_of_ble_eq_true rfl) rfl dX11_back_45 (fun r w1 hq H locs h => ?_)
      obtain ⟨z3, rfl, hz3⟩ := hq
      show W p l e r_c_X11_back s m args below meth c H locs 0 0 Qf (F0 m 48 ls [.int (iI z3)])
      refine x_ri B hQ h (by decide) dX11_back_48 ?_
      exact ⟨_, rfl, by omega⟩
    · exact absurd c2 (by omega)
