theorem k_J0_coder_7d493 : xMV yJ0_coder_7d493 cJ0_coder_7d493 1 (some .byte) 0 := ⟨m_624, m_622, m_623, m_108, ⟨by decide +kernel, by decide +kernel, by decide +kernel⟩⟩
theorem k_J3_checkIndex_8e157 : xMS yJ3_checkIndex_8e157 cJ3_checkIndex_8e157 3 (some .int) 3 := ⟨m_645, m_644, m_110, ⟨by decide +kernel, by decide +kernel, by decide +kernel⟩⟩
theorem k_J0_checkIndex_df160 : xMS yJ0_checkIndex_df160 cJ0_checkIndex_df160 2 none 2 := ⟨m_640, m_639, m_108, ⟨by decide +kernel, by decide +kernel, by decide +kernel⟩⟩
theorem k_J0_isLatin1_aae02 : xMV yJ0_isLatin1_aae02 cJ0_isLatin1_aae02 1 (some .boolean) 0 := ⟨m_634, m_632, m_633, m_108, ⟨by decide +kernel, by decide +kernel, by decide +kernel⟩⟩
theorem k_J1_charAt_3b067 : xMS yJ1_charAt_3b067 cJ1_charAt_3b067 2 (some .char) 2 := ⟨m_637, m_636, m_109, ⟨by decide +kernel, by decide +kernel, by decide +kernel⟩⟩
theorem k_J1_canEncode_9a6ad : xMS yJ1_canEncode_9a6ad cJ1_canEncode_9a6ad 1 (some .boolean) 1 := ⟨m_701, m_700, m_109, ⟨by decide +kernel, by decide +kernel, by decide +kernel⟩⟩
theorem k_J1_indexOfChar_4cfef : xMS yJ1_indexOfChar_4cfef cJ1_indexOfChar_4cfef 6 (some .int) 4 := ⟨m_706, m_705, m_109, ⟨by decide +kernel, by decide +kernel, by decide +kernel⟩⟩
theorem k_J0_length_8abf5 : xMV yJ0_length_8abf5 cJ0_length_8abf5 1 (some .int) 0 := ⟨m_620, m_618, m_619, m_108, ⟨by decide +kernel, by decide +kernel, by decide +kernel⟩⟩
theorem k_J1_indexOf_4cfef : xMS yJ1_indexOf_4cfef cJ1_indexOf_4cfef 4 (some .int) 4 := ⟨m_698, m_697, m_109, ⟨by decide +kernel, by decide +kernel, by decide +kernel⟩⟩
theorem k_J0_indexOf_7cf53 : xMV yJ0_indexOf_7cf53 cJ0_indexOf_7cf53 3 (some .int) 2 := ⟨m_694, m_692, m_693, m_108, ⟨by decide +kernel, by decide +kernel, by decide +kernel⟩⟩
abbrev r_c_J0_coder_7d493 : Room := { frames := 0, cells := 0, slots := 0, locals := 0 }
set_option maxHeartbeats 4000000 in
set_option maxRecDepth 100000 in
theorem c_J0_coder_7d493 (l : Launch) (D : va_G) (Zk : yK) (ca : Nat → ClassId) (w : yW) (i : Nat)  (hi : i < nYS) : yC l D Zk ca yJ0_coder_7d493 cJ0_coder_7d493 1 (some .byte) r_c_J0_coder_7d493 [.ref (Zk.1 i)] w (vI w (fun z => z = 0)) := by
  refine yC.of2 "java/lang/String" (by decide) rfl (Nat.le_of_ble_eq_true rfl) ?_
  intro p e s m args below meth c A ls Qf B hnm h hl hQ
  have hl : lv_has ls 1 [(0, .ref (Zk.1 i))] := hl
  have hlen := len_r i hi
  refine y_sCS B h m_625 dJ0_coder_7d493_0 ?_
  refine x_if_eq B (by omega) (tgt := 13) dJ0_coder_7d493_3 (by decide) (fun c1 => ?_) (fun c1 => ?_)
  · exact absurd c1 (by omega)
  · refine lv_aload_n B.1 B.2.1 dJ0_coder_7d493_6 rfl (lv_at hl 0 rfl) ?_
    refine y_sCod B h (by first | assumption | decide) m_1905 dJ0_coder_7d493_7 ?_
    refine lv_goto (tgt := 14) B.1 B.2.1 dJ0_coder_7d493_10 (by decide) ?_
    refine y_rn B hQ h (by decide) (by decide) dJ0_coder_7d493_14 ?_
    exact ⟨rfl, _, rfl, (by first | omega | trivial | assumption)⟩
abbrev r_c_J0_isLatin1_aae02 : Room := { frames := 0, cells := 0, slots := 0, locals := 0 }
set_option maxHeartbeats 4000000 in
set_option maxRecDepth 100000 in
theorem c_J0_isLatin1_aae02 (l : Launch) (D : va_G) (Zk : yK) (ca : Nat → ClassId) (w : yW) (i : Nat)  (hi : i < nYS) : yC l D Zk ca yJ0_isLatin1_aae02 cJ0_isLatin1_aae02 1 (some .boolean) r_c_J0_isLatin1_aae02 [.ref (Zk.1 i)] w (vI w (fun z => z = 1)) := by
  refine yC.of2 "java/lang/String" (by decide) rfl (Nat.le_of_ble_eq_true rfl) ?_
  intro p e s m args below meth c A ls Qf B hnm h hl hQ
  have hl : lv_has ls 1 [(0, .ref (Zk.1 i))] := hl
  have hlen := len_r i hi
  refine y_sCS B h m_625 dJ0_isLatin1_aae02_0 ?_
  refine x_if_eq B (by omega) (tgt := 17) dJ0_isLatin1_aae02_3 (by decide) (fun c1 => ?_) (fun c1 => ?_)
  · exact absurd c1 (by omega)
  · refine lv_aload_n B.1 B.2.1 dJ0_isLatin1_aae02_6 rfl (lv_at hl 0 rfl) ?_
    refine y_sCod B h (by first | assumption | decide) m_1905 dJ0_isLatin1_aae02_7 ?_
    refine x_if_ne B (by omega) (tgt := 17) dJ0_isLatin1_aae02_10 (by decide) (fun c2 => ?_) (fun c2 => ?_)
    · exact absurd c2 (by omega)
    · refine x_iconst B dJ0_isLatin1_aae02_13 ?_
      refine lv_goto (tgt := 18) B.1 B.2.1 dJ0_isLatin1_aae02_14 (by decide) ?_
      refine y_rz B hQ h (by decide) (by decide) dJ0_isLatin1_aae02_18 ?_
      exact ⟨rfl, _, rfl, (by first | omega | trivial | assumption)⟩
abbrev r_c_J0_length_8abf5 : Room := { frames := 1, cells := 0, slots := 0, locals := 20 }
set_option maxHeartbeats 4000000 in
set_option maxRecDepth 100000 in
theorem c_J0_length_8abf5 (l : Launch) (D : va_G) (Zk : yK) (ca : Nat → ClassId) (w : yW) (i : Nat)  (hi : i < nYS) : yC l D Zk ca yJ0_length_8abf5 cJ0_length_8abf5 1 (some .int) r_c_J0_length_8abf5 [.ref (Zk.1 i)] w (vI w (fun z => z = ((lenYS.getD i 0 : Nat) : Int))) := by
  refine yC.of2 "java/lang/String" (by decide) rfl (Nat.le_of_ble_eq_true rfl) ?_
  intro p e s m args below meth c A ls Qf B hnm h hl hQ
  have hl : lv_has ls 1 [(0, .ref (Zk.1 i))] := hl
  have hlen := len_r i hi
  refine lv_aload_n B.1 B.2.1 dJ0_length_8abf5_0 rfl (lv_at hl 0 rfl) ?_
  refine y_sVal B h (by first | assumption | decide) m_1904 dJ0_length_8abf5_1 ?_
  refine y_sLen B h (by first | assumption | decide) dJ0_length_8abf5_4 ?_
  refine lv_aload_n B.1 B.2.1 dJ0_length_8abf5_5 rfl (lv_at hl 0 rfl) ?_
  refine y_cVS B h (y_sCell h (by first | assumption | decide)) k_J0_coder_7d493 rfl (c_J0_coder_7d493 l D Zk ca _ i  (by first | assumption | decide)) m_621 rfl (by decide) hl.1 [.int (iI ((lenYS.getD i 0 : Nat) : Int))] (Nat.le_of_ble_eq_true rfl) rfl dJ0_length_8abf5_6 (fun r w1 hq H locs h => ?_)
  obtain ⟨rfl, _, rfl, rfl⟩ := hq
  show W p l e r_c_J0_length_8abf5 s m args below meth c _ _ 0 0 Qf (F0 m 9 ls [.int (iI 0), .int (iI ((lenYS.getD i 0 : Nat) : Int))])
  refine lv_ishr B.1 B.2.1 dJ0_length_8abf5_9 ?_
  refine x_iset (z := ((lenYS.getD i 0 : Nat) : Int)) (shr0 _) ?_
  refine y_ri B hQ h (by decide) dJ0_length_8abf5_10 ?_
  exact ⟨rfl, _, rfl, (by first | omega | trivial | assumption)⟩
abbrev r_c_J3_checkIndex_N : Room := { frames := 0, cells := 0, slots := 0, locals := 0 }
set_option maxHeartbeats 4000000 in
set_option maxRecDepth 100000 in
theorem c_J3_checkIndex_N (l : Launch) (D : va_G) (Zk : yK) (ca : Nat → ClassId) (w : yW) (ix : Int) (ln : Int)  (hix : 0 ≤ ix ∧ ix < ln) (hix : xr ix) (hln : xr ln) : yC l D Zk ca yJ3_checkIndex_8e157 cJ3_checkIndex_8e157 3 (some .int) r_c_J3_checkIndex_N [.int (iI ix), .int (iI ln), .null] w (vI w (fun z => z = ix)) := by
  refine yC.of2 "jdk/internal/util/Preconditions" (by decide) rfl (Nat.le_of_ble_eq_true rfl) ?_
  intro p e s m args below meth c A ls Qf B hnm h hl hQ
  have hl : lv_has ls 3 [(0, .int (iI ix)), (1, .int (iI ln)), (2, .null)] := hl
  refine lv_iload_n B.1 B.2.1 dJ3_checkIndex_8e157_0 rfl (lv_at hl 0 rfl) ?_
  refine x_if_lt B (by omega) (tgt := 9) dJ3_checkIndex_8e157_1 (by decide) (fun c1 => ?_) (fun c1 => ?_)
  · exact absurd c1 (by omega)
  · refine lv_iload_n B.1 B.2.1 dJ3_checkIndex_8e157_4 rfl (lv_at hl 0 rfl) ?_
    refine lv_iload_n B.1 B.2.1 dJ3_checkIndex_8e157_5 rfl (lv_at hl 1 rfl) ?_
    refine x_icmp_lt B (by omega) (tgt := 16) dJ3_checkIndex_8e157_6 (by decide) (fun c2 => ?_) (fun c2 => ?_)
    · refine lv_iload_n B.1 B.2.1 dJ3_checkIndex_8e157_16 rfl (lv_at hl 0 rfl) ?_
      refine y_ri B hQ h (by decide) dJ3_checkIndex_8e157_17 ?_
      exact ⟨rfl, _, rfl, (by first | omega | trivial | assumption)⟩
    · exact absurd c2 (by omega)
abbrev r_c_J3_checkIndex_R : Room := { frames := 0, cells := 0, slots := 0, locals := 0 }
set_option maxHeartbeats 4000000 in
set_option maxRecDepth 100000 in
theorem c_J3_checkIndex_R (l : Launch) (D : va_G) (Zk : yK) (ca : Nat → ClassId) (w : yW) (t : Nat) (ix : Int) (ln : Int)  (hix : 0 ≤ ix ∧ ix < ln) (hix : xr ix) (hln : xr ln) : yC l D Zk ca yJ3_checkIndex_8e157 cJ3_checkIndex_8e157 3 (some .int) r_c_J3_checkIndex_R [.int (iI ix), .int (iI ln), .ref t] w (vI w (fun z => z = ix)) := by
  refine yC.of2 "jdk/internal/util/Preconditions" (by decide) rfl (Nat.le_of_ble_eq_true rfl) ?_
  intro p e s m args below meth c A ls Qf B hnm h hl hQ
  have hl : lv_has ls 3 [(0, .int (iI ix)), (1, .int (iI ln)), (2, .ref t)] := hl
  refine lv_iload_n B.1 B.2.1 dJ3_checkIndex_8e157_0 rfl (lv_at hl 0 rfl) ?_
  refine x_if_lt B (by omega) (tgt := 9) dJ3_checkIndex_8e157_1 (by decide) (fun c1 => ?_) (fun c1 => ?_)
  · exact absurd c1 (by omega)
  · refine lv_iload_n B.1 B.2.1 dJ3_checkIndex_8e157_4 rfl (lv_at hl 0 rfl) ?_
    refine lv_iload_n B.1 B.2.1 dJ3_checkIndex_8e157_5 rfl (lv_at hl 1 rfl) ?_
    refine x_icmp_lt B (by omega) (tgt := 16) dJ3_checkIndex_8e157_6 (by decide) (fun c2 => ?_) (fun c2 => ?_)
    · refine lv_iload_n B.1 B.2.1 dJ3_checkIndex_8e157_16 rfl (lv_at hl 0 rfl) ?_
      refine y_ri B hQ h (by decide) dJ3_checkIndex_8e157_17 ?_
      exact ⟨rfl, _, rfl, (by first | omega | trivial | assumption)⟩
    · exact absurd c2 (by omega)
abbrev r_c_J0_checkIndex_df160 : Room := { frames := 1, cells := 0, slots := 0, locals := 22 }
set_option maxHeartbeats 4000000 in
set_option maxRecDepth 100000 in
theorem c_J0_checkIndex_df160 (l : Launch) (D : va_G) (Zk : yK) (ca : Nat → ClassId) (w : yW) (ix : Int) (ln : Int)  (hix : 0 ≤ ix ∧ ix < ln) (hix : xr ix) (hln : xr ln) : yC l D Zk ca yJ0_checkIndex_df160 cJ0_checkIndex_df160 2 none r_c_J0_checkIndex_df160 [.int (iI ix), .int (iI ln)] w (vV w) := by
  refine yC.of2 "java/lang/String" (by decide) rfl (Nat.le_of_ble_eq_true rfl) ?_
  intro p e s m args below meth c A ls Qf B hnm h hl hQ
  have hl : lv_has ls 2 [(0, .int (iI ix)), (1, .int (iI ln))] := hl
  refine lv_iload_n B.1 B.2.1 dJ0_checkIndex_df160_0 rfl (lv_at hl 0 rfl) ?_
  refine lv_iload_n B.1 B.2.1 dJ0_checkIndex_df160_1 rfl (lv_at hl 1 rfl) ?_
  refine y_sFm B h m_641 dJ0_checkIndex_df160_2 ?_ (fun t9 => ?_)
  · refine y_cS B h k_J3_checkIndex_8e157 (c_J3_checkIndex_N l D Zk ca _ ix ln  (by omega) (by omega) (by omega)) m_643 rfl (by decide) hl.1 [] (Nat.le_of_ble_eq_true rfl) rfl dJ0_checkIndex_df160_5 (fun r w1 hq H locs h => ?_)
    obtain ⟨rfl, z1, rfl, hz1⟩ := hq
    show W p l e r_c_J0_checkIndex_df160 s m args below meth c _ _ 0 0 Qf (F0 m 8 ls [.int (iI z1)])
    refine lv_pop B.1 B.2.1 dJ0_checkIndex_df160_8 rfl ?_
    refine y_rv B hQ h (by decide) dJ0_checkIndex_df160_9 ?_
    exact ⟨rfl, rfl⟩
  · refine y_cS B h k_J3_checkIndex_8e157 (c_J3_checkIndex_R l D Zk ca _ t9 ix ln  (by omega) (by omega) (by omega)) m_643 rfl (by decide) hl.1 [] (Nat.le_of_ble_eq_true rfl) rfl dJ0_checkIndex_df160_5 (fun r w1 hq H locs h => ?_)
    obtain ⟨rfl, z2, rfl, hz2⟩ := hq
    show W p l e r_c_J0_checkIndex_df160 s m args below meth c _ _ 0 0 Qf (F0 m 8 ls [.int (iI z2)])
    refine lv_pop B.1 B.2.1 dJ0_checkIndex_df160_8 rfl ?_
    refine y_rv B hQ h (by decide) dJ0_checkIndex_df160_9 ?_
    exact ⟨rfl, rfl⟩
abbrev r_c_J1_charAt_3b067 : Room := { frames := 2, cells := 0, slots := 0, locals := 43 }
set_option maxHeartbeats 4000000 in
set_option maxRecDepth 100000 in
theorem c_J1_charAt_3b067 (l : Launch) (D : va_G) (Zk : yK) (ca : Nat → ClassId) (w : yW) (i : Nat) (k : Int)  (hi : i < nYS) (hk2 : 0 ≤ k ∧ k < ((lenYS.getD i 0 : Nat) : Int)) (hk : xr k) : yC l D Zk ca yJ1_charAt_3b067 cJ1_charAt_3b067 2 (some .char) r_c_J1_charAt_3b067 [.ref (Zk.2.1 i), .int (iI k)] w (vI w (fun z => 0 ≤ z ∧ z ≤ 255)) := by
  refine yC.of2 "java/lang/StringLatin1" (by decide) rfl (Nat.le_of_ble_eq_true rfl) ?_
  intro p e s m args below meth c A ls Qf B hnm h hl hQ
  have hl : lv_has ls 2 [(0, .ref (Zk.2.1 i)), (1, .int (iI k))] := hl
  have hlen := len_r i hi
  refine lv_iload_n B.1 B.2.1 dJ1_charAt_3b067_0 rfl (lv_at hl 1 rfl) ?_
  refine lv_aload_n B.1 B.2.1 dJ1_charAt_3b067_1 rfl (lv_at hl 0 rfl) ?_
  refine y_sLen B h (by first | assumption | decide) dJ1_charAt_3b067_2 ?_
  refine y_cS B h k_J0_checkIndex_df160 (c_J0_checkIndex_df160 l D Zk ca _ k (((lenYS.getD i 0 : Nat) : Int))  (by omega) (by omega) (by omega)) m_638 rfl (by decide) hl.1 [] (Nat.le_of_ble_eq_true rfl) rfl dJ1_charAt_3b067_3 (fun r w1 hq H locs h => ?_)
  obtain ⟨rfl, rfl⟩ := hq
  show W p l e r_c_J1_charAt_3b067 s m args below meth c _ _ 0 0 Qf (F0 m 6 ls [])
  refine lv_aload_n B.1 B.2.1 dJ1_charAt_3b067_6 rfl (lv_at hl 0 rfl) ?_
  refine lv_iload_n B.1 B.2.1 dJ1_charAt_3b067_7 rfl (lv_at hl 1 rfl) ?_
  refine y_sLd B h (by first | assumption | decide) (by omega) dJ1_charAt_3b067_8 (fun y2 => ?_)
  refine x_name (fun z1 hz1 ez1 => ?_)
  refine x_sipush B (by decide) dJ1_charAt_3b067_9 ?_
  refine lv_iand B.1 B.2.1 dJ1_charAt_3b067_12 ?_
  obtain ⟨z3, z3a, z3b, ez3⟩ := and255_ex ((iI z1))
  refine x_iset ez3 ?_
  refine lv_i2c B.1 B.2.1 dJ1_charAt_3b067_13 rfl ?_
  refine x_iset (z := z3) (i2c_small (by omega)) ?_
  refine y_rn B hQ h (by decide) (nchr (by omega)) dJ1_charAt_3b067_14 ?_
  exact ⟨rfl, _, rfl, (by first | omega | trivial | assumption)⟩
abbrev r_c_J0_charAt_5068e : Room := { frames := 3, cells := 0, slots := 0, locals := 64 }
set_option maxHeartbeats 4000000 in
set_option maxRecDepth 100000 in
theorem c_J0_charAt_5068e (l : Launch) (D : va_G) (Zk : yK) (ca : Nat → ClassId) (w : yW) (i : Nat) (k : Int)  (hi : i < nYS) (hk2 : 0 ≤ k ∧ k < ((lenYS.getD i 0 : Nat) : Int)) (hk : xr k) : yC l D Zk ca yJ0_charAt_5068e cJ0_charAt_5068e 2 (some .char) r_c_J0_charAt_5068e [.ref (Zk.1 i), .int (iI k)] w (vI w (fun z => 0 ≤ z ∧ z ≤ 255)) := by
  refine yC.of2 "java/lang/String" (by decide) rfl (Nat.le_of_ble_eq_true rfl) ?_
  intro p e s m args below meth c A ls Qf B hnm h hl hQ
  have hl : lv_has ls 2 [(0, .ref (Zk.1 i)), (1, .int (iI k))] := hl
  have hlen := len_r i hi
  refine lv_aload_n B.1 B.2.1 dJ0_charAt_5068e_0 rfl (lv_at hl 0 rfl) ?_
  refine y_cVS B h (y_sCell h (by first | assumption | decide)) k_J0_isLatin1_aae02 rfl (c_J0_isLatin1_aae02 l D Zk ca _ i  (by first | assumption | decide)) m_631 rfl (by decide) hl.1 [] (Nat.le_of_ble_eq_true rfl) rfl dJ0_charAt_5068e_1 (fun r w1 hq H locs h => ?_)
  obtain ⟨rfl, _, rfl, rfl⟩ := hq
  show W p l e r_c_J0_charAt_5068e s m args below meth c _ _ 0 0 Qf (F0 m 4 ls [.int (iI 1)])
  refine x_if_eq B (by omega) (tgt := 16) dJ0_charAt_5068e_4 (by decide) (fun c1 => ?_) (fun c1 => ?_)
  · exact absurd c1 (by omega)
  · refine lv_aload_n B.1 B.2.1 dJ0_charAt_5068e_7 rfl (lv_at hl 0 rfl) ?_
    refine y_sVal B h (by first | assumption | decide) m_1904 dJ0_charAt_5068e_8 ?_
    refine lv_iload_n B.1 B.2.1 dJ0_charAt_5068e_11 rfl (lv_at hl 1 rfl) ?_
    refine y_cS B h k_J1_charAt_3b067 (c_J1_charAt_3b067 l D Zk ca _ i k  (by first | assumption | decide) (by omega) (by omega)) m_635 rfl (by decide) hl.1 [] (Nat.le_of_ble_eq_true rfl) rfl dJ0_charAt_5068e_12 (fun r w1 hq H locs h => ?_)
    obtain ⟨rfl, z2, rfl, hz2⟩ := hq
    show W p l e r_c_J0_charAt_5068e s m args below meth c _ _ 0 0 Qf (F0 m 15 ls [.int (iI z2)])
    refine y_rn B hQ h (by decide) (nchr (by omega)) dJ0_charAt_5068e_15 ?_
    exact ⟨rfl, _, rfl, (by first | omega | trivial | assumption)⟩
abbrev r_c_J1_canEncode_9a6ad : Room := { frames := 0, cells := 0, slots := 0, locals := 0 }
set_option maxHeartbeats 4000000 in
set_option maxRecDepth 100000 in
theorem c_J1_canEncode_9a6ad (l : Launch) (D : va_G) (Zk : yK) (ca : Nat → ClassId) (w : yW) (ch : Int)  (hch : xr ch) : yC l D Zk ca yJ1_canEncode_9a6ad cJ1_canEncode_9a6ad 1 (some .boolean) r_c_J1_canEncode_9a6ad [.int (iI ch)] w (vI w (fun z => (z = 1 ∧ (True)) ∨ (z = 0 ∧ (True)))) := by
  refine yC.of2 "java/lang/StringLatin1" (by decide) rfl (Nat.le_of_ble_eq_true rfl) ?_
  intro p e s m args below meth c A ls Qf B hnm h hl hQ
  have hl : lv_has ls 1 [(0, .int (iI ch))] := hl
  refine lv_iload_n B.1 B.2.1 dJ1_canEncode_9a6ad_0 rfl (lv_at hl 0 rfl) ?_
  refine x_if_lt B (by omega) (tgt := 15) dJ1_canEncode_9a6ad_1 (by decide) (fun c1 => ?_) (fun c1 => ?_)
  · refine x_iconst B dJ1_canEncode_9a6ad_15 ?_
    refine y_rz B hQ h (by decide) (by decide) dJ1_canEncode_9a6ad_16 ?_
    exact ⟨rfl, _, rfl, Or.inr ⟨rfl, (by first | omega | trivial | assumption)⟩⟩
  · refine lv_iload_n B.1 B.2.1 dJ1_canEncode_9a6ad_4 rfl (lv_at hl 0 rfl) ?_
    refine x_sipush B (by decide) dJ1_canEncode_9a6ad_5 ?_
    refine x_icmp_gt B (by omega) (tgt := 15) dJ1_canEncode_9a6ad_8 (by decide) (fun c2 => ?_) (fun c2 => ?_)
    · refine x_iconst B dJ1_canEncode_9a6ad_15 ?_
      refine y_rz B hQ h (by decide) (by decide) dJ1_canEncode_9a6ad_16 ?_
      exact ⟨rfl, _, rfl, Or.inr ⟨rfl, (by first | omega | trivial | assumption)⟩⟩
    · refine x_iconst B dJ1_canEncode_9a6ad_11 ?_
      refine lv_goto (tgt := 16) B.1 B.2.1 dJ1_canEncode_9a6ad_12 (by decide) ?_
      refine y_rz B hQ h (by decide) (by decide) dJ1_canEncode_9a6ad_16 ?_
      exact ⟨rfl, _, rfl, Or.inl ⟨rfl, (by first | omega | trivial | assumption)⟩⟩
abbrev r_c_J1_indexOfChar_4cfef : Room := { frames := 0, cells := 0, slots := 0, locals := 0 }
set_option maxHeartbeats 4000000 in
set_option maxRecDepth 100000 in
theorem c_J1_indexOfChar_4cfef (l : Launch) (D : va_G) (Zk : yK) (ca : Nat → ClassId) (w : yW) (i : Nat) (ch : Int) (fr : Int) (mx : Int)  (hi : i < nYS) (hf2 : 0 ≤ fr ∧ mx ≤ ((lenYS.getD i 0 : Nat) : Int)) (hch : xr ch) (hfr : xr fr) (hmx : xr mx) : yC l D Zk ca yJ1_indexOfChar_4cfef cJ1_indexOfChar_4cfef 6 (some .int) r_c_J1_indexOfChar_4cfef [.ref (Zk.2.1 i), .int (iI ch), .int (iI fr), .int (iI mx)] w (vI w (fun z => xr z)) := by
  refine yC.of2 "java/lang/StringLatin1" (by decide) rfl (Nat.le_of_ble_eq_true rfl) ?_
  intro p e s m args below meth c A ls Qf B hnm h hl hQ
  have hl : lv_has ls 6 [(0, .ref (Zk.2.1 i)), (1, .int (iI ch)), (2, .int (iI fr)), (3, .int (iI mx))] := hl
  have hlen := len_r i hi
  refine lv_iload_n B.1 B.2.1 dJ1_indexOfChar_4cfef_0 rfl (lv_at hl 1 rfl) ?_
  refine lv_i2b B.1 B.2.1 dJ1_indexOfChar_4cfef_1 rfl ?_
  refine x_name (fun z1 hz1 ez1 => ?_)
  refine lv_istore (lv' := [(4, .int (iI z1)), (0, .ref (Zk.2.1 i)), (1, .int (iI ch)), (2, .int (iI fr)), (3, .int (iI mx))]) B.1 B.2.1 dJ1_indexOfChar_4cfef_2 hl (by decide) rfl (fun ls hl => ?_)
  refine lv_iload_n B.1 B.2.1 dJ1_indexOfChar_4cfef_4 rfl (lv_at hl 3 rfl) ?_
  refine lv_istore (lv' := [(5, .int (iI fr)), (4, .int (iI z1)), (0, .ref (Zk.2.1 i)), (1, .int (iI ch)), (2, .int (iI fr)), (3, .int (iI mx))]) B.1 B.2.1 dJ1_indexOfChar_4cfef_5 hl (by decide) rfl (fun ls hl => ?_)
  have loop7 : ∀ (n7 : Nat) (k : Int), (0 ≤ k ∧ (k ≤ mx ∨ k = fr)) → ((mx - k : Int)).toNat < n7 → ∀ (H : Heap) (locs : List Loc) (ls : Array Slot), yH D Zk A s w H locs → lv_has ls 6 [(5, .int (iI k)), (4, .int (iI z1)), (0, .ref (Zk.2.1 i)), (3, .int (iI mx))] → W p l e r_c_J1_indexOfChar_4cfef s m args below meth c H locs 0 0 Qf (F0 m 7 ls []) := by
    intro n7
    induction n7 with
    | zero =>
      intro k hk0 hm7 H locs ls h hl
      exact absurd hm7 (Nat.not_lt_zero _)
    | succ n7 ih7 =>
      intro k hk0 hm7 H locs ls h hl
      refine lv_iload B.1 B.2.1 dJ1_indexOfChar_4cfef_7 (lv_at hl 0 rfl) ?_
      refine lv_iload_n B.1 B.2.1 dJ1_indexOfChar_4cfef_9 rfl (lv_at hl 3 rfl) ?_
      refine x_icmp_ge B (by omega) (tgt := 31) dJ1_indexOfChar_4cfef_10 (by decide) (fun c2 => ?_) (fun c2 => ?_)
      · refine x_iconst B dJ1_indexOfChar_4cfef_31 ?_
        refine y_ri B hQ h (by decide) dJ1_indexOfChar_4cfef_32 ?_
        exact ⟨rfl, _, rfl, (by first | omega | trivial | assumption)⟩
      · refine lv_aload_n B.1 B.2.1 dJ1_indexOfChar_4cfef_13 rfl (lv_at hl 2 rfl) ?_
        refine lv_iload B.1 B.2.1 dJ1_indexOfChar_4cfef_14 (lv_at hl 0 rfl) ?_
        refine y_sLd B h (by first | assumption | decide) (by omega) dJ1_indexOfChar_4cfef_16 (fun y4 => ?_)
        refine x_name (fun z3 hz3 ez3 => ?_)
        refine lv_iload B.1 B.2.1 dJ1_indexOfChar_4cfef_17 (lv_at hl 1 rfl) ?_
        refine x_icmp_ne B (by omega) (tgt := 25) dJ1_indexOfChar_4cfef_19 (by decide) (fun c5 => ?_) (fun c5 => ?_)
        · refine lv_iinc (v := iI (k + 1)) (lv' := [(5, .int (iI (k + 1))), (4, .int (iI z1)), (0, .ref (Zk.2.1 i)), (3, .int (iI mx))]) B.1 B.2.1 dJ1_indexOfChar_4cfef_25 hl (k := 0) rfl (iI_add _ _) (by decide) rfl (fun ls hl => ?_)
          refine lv_goto (tgt := 7) B.1 B.2.1 dJ1_indexOfChar_4cfef_28 (by decide) ?_
          exact ih7 ((k + 1)) (by omega) (by omega) _ _ _ h (lv_sub hl [0, 1, 2, 3] rfl)
        · refine lv_iload B.1 B.2.1 dJ1_indexOfChar_4cfef_22 (lv_at hl 0 rfl) ?_
          refine y_ri B hQ h (by decide) dJ1_indexOfChar_4cfef_24 ?_
          exact ⟨rfl, _, rfl, (by first | omega | trivial | assumption)⟩
  exact loop7 (((mx - fr : Int)).toNat + 1) fr (by omega) (Nat.lt_succ_self _) _ _ _ h (lv_sub hl [0, 1, 2, 5] rfl)
abbrev r_c_J1_indexOf_4cfef : Room := { frames := 1, cells := 0, slots := 0, locals := 25 }
set_option maxHeartbeats 4000000 in
set_option maxRecDepth 100000 in
theorem c_J1_indexOf_4cfef (l : Launch) (D : va_G) (Zk : yK) (ca : Nat → ClassId) (w : yW) (i : Nat) (ch : Int) (fr : Int) (mx : Int)  (hi : i < nYS) (hf2 : 0 ≤ fr ∧ fr ≤ 100) (hch : xr ch) (hfr : xr fr) (hmx : xr mx) : yC l D Zk ca yJ1_indexOf_4cfef cJ1_indexOf_4cfef 4 (some .int) r_c_J1_indexOf_4cfef [.ref (Zk.2.1 i), .int (iI ch), .int (iI fr), .int (iI mx)] w (vI w (fun z => xr z)) := by
  refine yC.of2 "java/lang/StringLatin1" (by decide) rfl (Nat.le_of_ble_eq_true rfl) ?_
  intro p e s m args below meth c A ls Qf B hnm h hl hQ
  have hl : lv_has ls 4 [(0, .ref (Zk.2.1 i)), (1, .int (iI ch)), (2, .int (iI fr)), (3, .int (iI mx))] := hl
  have hlen := len_r i hi
  refine lv_iload_n B.1 B.2.1 dJ1_indexOf_4cfef_0 rfl (lv_at hl 1 rfl) ?_
  refine y_cS B h k_J1_canEncode_9a6ad (c_J1_canEncode_9a6ad l D Zk ca _ ch  (by omega)) m_699 rfl (by decide) hl.1 [] (Nat.le_of_ble_eq_true rfl) rfl dJ1_indexOf_4cfef_1 (fun r w1 hq H locs h => ?_)
  obtain ⟨rfl, _, rfl, ⟨rfl, b1⟩ | ⟨rfl, b1⟩⟩ := hq
  · show W p l e r_c_J1_indexOf_4cfef s m args below meth c _ _ 0 0 Qf (F0 m 4 ls [.int (iI 1)])
    refine x_if_ne B (by omega) (tgt := 9) dJ1_indexOf_4cfef_4 (by decide) (fun c2 => ?_) (fun c2 => ?_)
    · refine lv_iload_n B.1 B.2.1 dJ1_indexOf_4cfef_9 rfl (lv_at hl 2 rfl) ?_
      refine x_iconst B dJ1_indexOf_4cfef_10 ?_
      refine x_max B (by omega) m_702 m_454 m_106 m_455 hl.1 (Nat.le_of_ble_eq_true rfl) (by decide) dJ1_indexOf_4cfef_11 ?_
      refine lv_istore_n (lv' := [(2, .int (iI (max fr 0))), (0, .ref (Zk.2.1 i)), (1, .int (iI ch)), (3, .int (iI mx))]) B.1 B.2.1 dJ1_indexOf_4cfef_14 rfl hl (by decide) rfl (fun ls hl => ?_)
      refine lv_iload_n B.1 B.2.1 dJ1_indexOf_4cfef_15 rfl (lv_at hl 3 rfl) ?_
      refine lv_aload_n B.1 B.2.1 dJ1_indexOf_4cfef_16 rfl (lv_at hl 1 rfl) ?_
      refine y_sLen B h (by first | assumption | decide) dJ1_indexOf_4cfef_17 ?_
      refine x_min B (by omega) m_703 m_586 m_106 m_587 hl.1 (Nat.le_of_ble_eq_true rfl) (by decide) dJ1_indexOf_4cfef_18 ?_
      refine lv_istore_n (lv' := [(3, .int (iI (min mx ((lenYS.getD i 0 : Nat) : Int)))), (2, .int (iI (max fr 0))), (0, .ref (Zk.2.1 i)), (1, .int (iI ch))]) B.1 B.2.1 dJ1_indexOf_4cfef_21 rfl hl (by decide) rfl (fun ls hl => ?_)
      refine lv_iload_n B.1 B.2.1 dJ1_indexOf_4cfef_22 rfl (lv_at hl 1 rfl) ?_
      refine lv_iload_n B.1 B.2.1 dJ1_indexOf_4cfef_23 rfl (lv_at hl 0 rfl) ?_
      refine x_icmp_lt B (by omega) (tgt := 29) dJ1_indexOf_4cfef_24 (by decide) (fun c3 => ?_) (fun c3 => ?_)
      · refine lv_aload_n B.1 B.2.1 dJ1_indexOf_4cfef_29 rfl (lv_at hl 2 rfl) ?_
        refine lv_iload_n B.1 B.2.1 dJ1_indexOf_4cfef_30 rfl (lv_at hl 3 rfl) ?_
        refine lv_iload_n B.1 B.2.1 dJ1_indexOf_4cfef_31 rfl (lv_at hl 1 rfl) ?_
        refine lv_iload_n B.1 B.2.1 dJ1_indexOf_4cfef_32 rfl (lv_at hl 0 rfl) ?_
        refine y_cS B h k_J1_indexOfChar_4cfef (c_J1_indexOfChar_4cfef l D Zk ca _ i ch ((max fr 0)) ((min mx ((lenYS.getD i 0 : Nat) : Int)))  (by first | assumption | decide) (by omega) (by omega) (by omega) (by omega)) m_704 rfl (by decide) hl.1 [] (Nat.le_of_ble_eq_true rfl) rfl dJ1_indexOf_4cfef_33 (fun r w1 hq H locs h => ?_)
        obtain ⟨rfl, z4, rfl, hz4⟩ := hq
        show W p l e r_c_J1_indexOf_4cfef s m args below meth c _ _ 0 0 Qf (F0 m 36 ls [.int (iI z4)])
        refine y_ri B hQ h (by decide) dJ1_indexOf_4cfef_36 ?_
        exact ⟨rfl, _, rfl, (by first | omega | trivial | assumption)⟩
      · refine x_iconst B dJ1_indexOf_4cfef_27 ?_
        refine y_ri B hQ h (by decide) dJ1_indexOf_4cfef_28 ?_
        exact ⟨rfl, _, rfl, (by first | omega | trivial | assumption)⟩
    · exact absurd c2 (by omega)
  · show W p l e r_c_J1_indexOf_4cfef s m args below meth c _ _ 0 0 Qf (F0 m 4 ls [.int (iI 0)])
    refine x_if_ne B (by omega) (tgt := 9) dJ1_indexOf_4cfef_4 (by decide) (fun c5 => ?_) (fun c5 => ?_)
    · exact absurd c5 (by omega)
    · refine x_iconst B dJ1_indexOf_4cfef_7 ?_
      refine y_ri B hQ h (by decide) dJ1_indexOf_4cfef_8 ?_
      exact ⟨rfl, _, rfl, (by first | omega | trivial | assumption)⟩
abbrev r_c_J0_indexOf_7cf53 : Room := { frames := 2, cells := 0, slots := 0, locals := 48 }
set_option maxHeartbeats 4000000 in
set_option maxRecDepth 100000 in
theorem c_J0_indexOf_7cf53 (l : Launch) (D : va_G) (Zk : yK) (ca : Nat → ClassId) (w : yW) (i : Nat) (ch : Int) (fr : Int)  (hi : i < nYS) (hf2 : 0 ≤ fr ∧ fr ≤ 100) (hch : xr ch) (hfr : xr fr) : yC l D Zk ca yJ0_indexOf_7cf53 cJ0_indexOf_7cf53 3 (some .int) r_c_J0_indexOf_7cf53 [.ref (Zk.1 i), .int (iI ch), .int (iI fr)] w (vI w (fun z => xr z)) := by
  refine yC.of2 "java/lang/String" (by decide) rfl (Nat.le_of_ble_eq_true rfl) ?_
  intro p e s m args below meth c A ls Qf B hnm h hl hQ
  have hl : lv_has ls 3 [(0, .ref (Zk.1 i)), (1, .int (iI ch)), (2, .int (iI fr))] := hl
  have hlen := len_r i hi
  refine lv_aload_n B.1 B.2.1 dJ0_indexOf_7cf53_0 rfl (lv_at hl 0 rfl) ?_
  refine y_cVS B h (y_sCell h (by first | assumption | decide)) k_J0_isLatin1_aae02 rfl (c_J0_isLatin1_aae02 l D Zk ca _ i  (by first | assumption | decide)) m_631 rfl (by decide) hl.1 [] (Nat.le_of_ble_eq_true rfl) rfl dJ0_indexOf_7cf53_1 (fun r w1 hq H locs h => ?_)
  obtain ⟨rfl, _, rfl, rfl⟩ := hq
  show W p l e r_c_J0_indexOf_7cf53 s m args below meth c _ _ 0 0 Qf (F0 m 4 ls [.int (iI 1)])
  refine x_if_eq B (by omega) (tgt := 23) dJ0_indexOf_7cf53_4 (by decide) (fun c1 => ?_) (fun c1 => ?_)
  · exact absurd c1 (by omega)
  · refine lv_aload_n B.1 B.2.1 dJ0_indexOf_7cf53_7 rfl (lv_at hl 0 rfl) ?_
    refine y_sVal B h (by first | assumption | decide) m_1904 dJ0_indexOf_7cf53_8 ?_
    refine lv_iload_n B.1 B.2.1 dJ0_indexOf_7cf53_11 rfl (lv_at hl 1 rfl) ?_
    refine lv_iload_n B.1 B.2.1 dJ0_indexOf_7cf53_12 rfl (lv_at hl 2 rfl) ?_
    refine lv_aload_n B.1 B.2.1 dJ0_indexOf_7cf53_13 rfl (lv_at hl 0 rfl) ?_
    refine y_cVS B h (y_sCell h (by first | assumption | decide)) k_J0_length_8abf5 rfl (c_J0_length_8abf5 l D Zk ca _ i  (by first | assumption | decide)) m_695 rfl (by decide) hl.1 [.int (iI fr), .int (iI ch), .ref (Zk.2.1 i)] (Nat.le_of_ble_eq_true rfl) rfl dJ0_indexOf_7cf53_14 (fun r w1 hq H locs h => ?_)
    obtain ⟨rfl, z2, rfl, hz2⟩ := hq
    show W p l e r_c_J0_indexOf_7cf53 s m args below meth c _ _ 0 0 Qf (F0 m 17 ls [.int (iI z2), .int (iI fr), .int (iI ch), .ref (Zk.2.1 i)])
    refine y_cS B h k_J1_indexOf_4cfef (c_J1_indexOf_4cfef l D Zk ca _ i ch fr z2  (by first | assumption | decide) (by omega) (by omega) (by omega) (by omega)) m_696 rfl (by decide) hl.1 [] (Nat.le_of_ble_eq_true rfl) rfl dJ0_indexOf_7cf53_17 (fun r w1 hq H locs h => ?_)
    obtain ⟨rfl, z3, rfl, hz3⟩ := hq
    show W p l e r_c_J0_indexOf_7cf53 s m args below meth c _ _ 0 0 Qf (F0 m 20 ls [.int (iI z3)])
    refine lv_goto (tgt := 36) B.1 B.2.1 dJ0_indexOf_7cf53_20 (by decide) ?_
    refine y_ri B hQ h (by decide) dJ0_indexOf_7cf53_36 ?_
    exact ⟨rfl, _, rfl, (by first | omega | trivial | assumption)⟩
abbrev r_c_J0_indexOf_0f7a4 : Room := { frames := 3, cells := 0, slots := 0, locals := 70 }
set_option maxHeartbeats 4000000 in
set_option maxRecDepth 100000 in
theorem c_J0_indexOf_0f7a4 (l : Launch) (D : va_G) (Zk : yK) (ca : Nat → ClassId) (w : yW) (i : Nat) (ch : Int)  (hi : i < nYS) (hch : xr ch) : yC l D Zk ca yJ0_indexOf_0f7a4 cJ0_indexOf_0f7a4 2 (some .int) r_c_J0_indexOf_0f7a4 [.ref (Zk.1 i), .int (iI ch)] w (vI w (fun z => xr z)) := by
  refine yC.of2 "java/lang/String" (by decide) rfl (Nat.le_of_ble_eq_true rfl) ?_
  intro p e s m args below meth c A ls Qf B hnm h hl hQ
  have hl : lv_has ls 2 [(0, .ref (Zk.1 i)), (1, .int (iI ch))] := hl
  have hlen := len_r i hi
  refine lv_aload_n B.1 B.2.1 dJ0_indexOf_0f7a4_0 rfl (lv_at hl 0 rfl) ?_
  refine lv_iload_n B.1 B.2.1 dJ0_indexOf_0f7a4_1 rfl (lv_at hl 1 rfl) ?_
  refine x_iconst B dJ0_indexOf_0f7a4_2 ?_
  refine y_cVS B h (y_sCell h (by first | assumption | decide)) k_J0_indexOf_7cf53 rfl (c_J0_indexOf_7cf53 l D Zk ca _ i ch 0  (by first | assumption | decide) (by omega) (by omega) (by omega)) m_691 rfl (by decide) hl.1 [] (Nat.le_of_ble_eq_true rfl) rfl dJ0_indexOf_0f7a4_3 (fun r w1 hq H locs h => ?_)
  obtain ⟨rfl, z1, rfl, hz1⟩ := hq
  show W p l e r_c_J0_indexOf_0f7a4 s m args below meth c _ _ 0 0 Qf (F0 m 6 ls [.int (iI z1)])
  refine y_ri B hQ h (by decide) dJ0_indexOf_0f7a4_6 ?_
  exact ⟨rfl, _, rfl, (by first | omega | trivial | assumption)⟩
