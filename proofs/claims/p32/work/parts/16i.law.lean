set_option maxHeartbeats 8000000 in
set_option maxRecDepth 100000 in
theorem law_c20 {p : Program} {l : Launch} {e : Env} {s : State} {m : MethodId} {below : List Frame} {meth : Method} {c : Code} {D : va_G} {Zk : yK} {ca : Nat → ClassId} {b L : Nat} {xs : Nat → Int32} (B : xB p s m #[Value.ref b] meth c D ca "WindWordsLaw" code 4 (some .boolean)) (hX : va_X b L xs s s.heap) (hbl : b < s.heap.size) {T : Nat → Int → Int} {G : Nat → Int → Nat} {u : Int} {E : Nat → Int → Int} {ad am : Nat → Nat} {w : yW} {H : Heap} {locs : List Loc} {ls : Array Slot} {cc ss : Nat} {i : Int} (hu0 : 0 ≤ u) (hC : CW ca T G u ad w) (hM : MW ca T E am w) (h : yH D Zk (fun q : Nat => s.heap.size ≤ q) s w H locs) (hi : 0 ≤ i ∧ i + 6 ≤ L ∧ L ≤ 3072) (hcc : cc ≤ 500000 ∧ ss ≤ 7000000) (hl : lv_has ls 4 [(0, .ref b), (1, .ref (ad 0)), (2, .ref (am 0)), (3, .int (iI i))]) (fin : (∀ (T : Nat → Int → Int) (G : Nat → Int → Nat) (u : Int) (E : Nat → Int → Int) (w : yW) (H : Heap) (locs : List Loc) (ls : Array Slot) (c2 s2 : Nat), 0 ≤ u → CW ca T G u ad w → MW ca T E am w → yH D Zk (fun q : Nat => s.heap.size ≤ q) s w H locs → lv_has ls 4 [(0, .ref b), (1, .ref (ad 0)), (2, .ref (am 0)), (3, .int (iI i))] → c2 ≤ cc + 20 → s2 ≤ ss + 3000 → W p l e room_1 s m #[Value.ref b] below meth c H locs c2 s2 (lw_Z below #[Value.ref b] s) (F0 m 1368 ls []))) : W p l e room_1 s m #[Value.ref b] below meth c H locs cc ss (lw_Z below #[Value.ref b] s) (F0 m 1012 ls []) := by
  have hbA : ¬ (fun q : Nat => s.heap.size ≤ q) b := Nat.not_le.mpr hbl
  have hs := pi_s (CW.pi hC)
  obtain ⟨x1, ex1⟩ : ∃ z : Int, z = (xs (i + 1).toNat).toInt := ⟨_, rfl⟩
  have hx1 : xr x1 := by rw [ex1]; exact iI_r _
  show W p l e room_1 s m #[Value.ref b] below meth c H locs (cc + 0) (ss + 0) (lw_Z below #[Value.ref b] s) (F0 m 1012 ls [])
  refine lv_aload_n B.1 B.2.1 dL_law_1012 rfl (lv_at hl 1 rfl) ?_
  refine lv_aload_n B.1 B.2.1 dL_law_1013 rfl (lv_at hl 0 rfl) ?_
  refine lv_iload_n B.1 B.2.1 dL_law_1014 rfl (lv_at hl 3 rfl) ?_
  refine x_iconst B dL_law_1015 ?_
  refine x_iadd B dL_law_1016 ?_
  refine y_sld B h hX hbl hbA ((i + 1)).toNat (by omega) dL_law_1017 ?_
  refine x_iset (z := x1) (by rw [ex1]) ?_
  refine y_cV B h kX11 0 (CW.f hC 0 _ rfl) k_X11_grew rfl (c_X11_grew l D Zk ca T G u ad _ hC x1  (by omega)) m_1082 rfl ⟨by decide, by show cc + 0 + 0 ≤ 600000 ∧ ss + 0 + 0 ≤ 7302250; omega⟩ hl.1 [] (Nat.le_of_ble_eq_true rfl) rfl dL_law_1018 (fun r w1 hq H locs h => ?_)
  obtain ⟨rfl, z6, rfl, hz6⟩ := hq
  show W p l e room_1 s m #[Value.ref b] below meth c _ _ (cc + 0) (ss + 0) (lw_Z below #[Value.ref b] s) (F0 m 1021 ls [.int (iI z6)])
  refine lv_pop B.1 B.2.1 dL_law_1021 rfl ?_
  refine lv_aload_n B.1 B.2.1 dL_law_1022 rfl (lv_at hl 2 rfl) ?_
  refine lv_aload_n B.1 B.2.1 dL_law_1023 rfl (lv_at hl 0 rfl) ?_
  refine lv_iload_n B.1 B.2.1 dL_law_1024 rfl (lv_at hl 3 rfl) ?_
  refine x_iconst B dL_law_1025 ?_
  refine x_iadd B dL_law_1026 ?_
  refine y_sld B h hX hbl hbA ((i + 1)).toNat (by omega) dL_law_1027 ?_
  refine x_iset (z := x1) (by rw [ex1]) ?_
  refine y_cV B h kX12 50 (MW.f hM 0 _ rfl) k_X12_grew rfl (c_X12_grew l D Zk ca T E am _ hM x1  (by omega)) m_1796 rfl ⟨by decide, by show cc + 0 + 0 ≤ 600000 ∧ ss + 0 + 0 ≤ 7302250; omega⟩ hl.1 [] (Nat.le_of_ble_eq_true rfl) rfl dL_law_1028 (fun r w7 hq H locs h => ?_)
  obtain ⟨z11, rfl, E12, hM9, ag10⟩ := hq
  have hC8 := CW.agree hC ag10
  show W p l e room_1 s m #[Value.ref b] below meth c _ _ (cc + 0) (ss + 0) (lw_Z below #[Value.ref b] s) (F0 m 1031 ls [.int (iI z11)])
  refine lv_pop B.1 B.2.1 dL_law_1031 rfl ?_
  refine lv_goto (tgt := 1368) B.1 B.2.1 dL_law_1032 (by decide) ?_
  exact fin T G u E12 w7 _ _ _ _ _ (by omega) hC8 hM9 h (lv_sub hl [0, 1, 2, 3] rfl) (by omega) (by omega)
set_option maxHeartbeats 8000000 in
set_option maxRecDepth 100000 in
theorem law_c21 {p : Program} {l : Launch} {e : Env} {s : State} {m : MethodId} {below : List Frame} {meth : Method} {c : Code} {D : va_G} {Zk : yK} {ca : Nat → ClassId} {b L : Nat} {xs : Nat → Int32} (B : xB p s m #[Value.ref b] meth c D ca "WindWordsLaw" code 4 (some .boolean)) (hX : va_X b L xs s s.heap) (hbl : b < s.heap.size) {T : Nat → Int → Int} {G : Nat → Int → Nat} {u : Int} {E : Nat → Int → Int} {ad am : Nat → Nat} {w : yW} {H : Heap} {locs : List Loc} {ls : Array Slot} {cc ss : Nat} {i : Int} (hu0 : 0 ≤ u) (hC : CW ca T G u ad w) (hM : MW ca T E am w) (h : yH D Zk (fun q : Nat => s.heap.size ≤ q) s w H locs) (hi : 0 ≤ i ∧ i + 6 ≤ L ∧ L ≤ 3072) (hcc : cc ≤ 500000 ∧ ss ≤ 7000000) (hl : lv_has ls 4 [(0, .ref b), (1, .ref (ad 0)), (2, .ref (am 0)), (3, .int (iI i))]) (fin : (∀ (T : Nat → Int → Int) (G : Nat → Int → Nat) (u : Int) (E : Nat → Int → Int) (w : yW) (H : Heap) (locs : List Loc) (ls : Array Slot) (c2 s2 : Nat), 0 ≤ u → CW ca T G u ad w → MW ca T E am w → yH D Zk (fun q : Nat => s.heap.size ≤ q) s w H locs → lv_has ls 4 [(0, .ref b), (1, .ref (ad 0)), (2, .ref (am 0)), (3, .int (iI i))] → c2 ≤ cc + 20 → s2 ≤ ss + 3000 → W p l e room_1 s m #[Value.ref b] below meth c H locs c2 s2 (lw_Z below #[Value.ref b] s) (F0 m 1368 ls []))) : W p l e room_1 s m #[Value.ref b] below meth c H locs cc ss (lw_Z below #[Value.ref b] s) (F0 m 1035 ls []) := by
  have hbA : ¬ (fun q : Nat => s.heap.size ≤ q) b := Nat.not_le.mpr hbl
  have hs := pi_s (CW.pi hC)
  obtain ⟨x1, ex1⟩ : ∃ z : Int, z = (xs (i + 1).toNat).toInt := ⟨_, rfl⟩
  have hx1 : xr x1 := by rw [ex1]; exact iI_r _
  show W p l e room_1 s m #[Value.ref b] below meth c H locs (cc + 0) (ss + 0) (lw_Z below #[Value.ref b] s) (F0 m 1035 ls [])
  refine lv_aload_n B.1 B.2.1 dL_law_1035 rfl (lv_at hl 1 rfl) ?_
  refine lv_aload_n B.1 B.2.1 dL_law_1036 rfl (lv_at hl 0 rfl) ?_
  refine lv_iload_n B.1 B.2.1 dL_law_1037 rfl (lv_at hl 3 rfl) ?_
  refine x_iconst B dL_law_1038 ?_
  refine x_iadd B dL_law_1039 ?_
  refine y_sld B h hX hbl hbA ((i + 1)).toNat (by omega) dL_law_1040 ?_
  refine x_iset (z := x1) (by rw [ex1]) ?_
  refine y_cV B h kX11 0 (CW.f hC 0 _ rfl) k_X11_late rfl (c_X11_late l D Zk ca T G u ad _ hC x1  (by omega)) m_1100 rfl ⟨by decide, by show cc + 0 + 0 ≤ 600000 ∧ ss + 0 + 0 ≤ 7302250; omega⟩ hl.1 [] (Nat.le_of_ble_eq_true rfl) rfl dL_law_1041 (fun r w1 hq H locs h => ?_)
  obtain ⟨rfl, z6, rfl, hz6⟩ := hq
  show W p l e room_1 s m #[Value.ref b] below meth c _ _ (cc + 0) (ss + 0) (lw_Z below #[Value.ref b] s) (F0 m 1044 ls [.int (iI z6)])
  refine lv_pop B.1 B.2.1 dL_law_1044 rfl ?_
  refine lv_aload_n B.1 B.2.1 dL_law_1045 rfl (lv_at hl 2 rfl) ?_
  refine lv_aload_n B.1 B.2.1 dL_law_1046 rfl (lv_at hl 0 rfl) ?_
  refine lv_iload_n B.1 B.2.1 dL_law_1047 rfl (lv_at hl 3 rfl) ?_
  refine x_iconst B dL_law_1048 ?_
  refine x_iadd B dL_law_1049 ?_
  refine y_sld B h hX hbl hbA ((i + 1)).toNat (by omega) dL_law_1050 ?_
  refine x_iset (z := x1) (by rw [ex1]) ?_
  refine y_cV B h kX12 50 (MW.f hM 0 _ rfl) k_X12_late rfl (c_X12_late l D Zk ca T E am _ hM x1  (by omega)) m_1804 rfl ⟨by decide, by show cc + 0 + 0 ≤ 600000 ∧ ss + 0 + 0 ≤ 7302250; omega⟩ hl.1 [] (Nat.le_of_ble_eq_true rfl) rfl dL_law_1051 (fun r w7 hq H locs h => ?_)
  obtain ⟨rfl, z12, rfl, hz12⟩ := hq
  show W p l e room_1 s m #[Value.ref b] below meth c _ _ (cc + 0) (ss + 0) (lw_Z below #[Value.ref b] s) (F0 m 1054 ls [.int (iI z12)])
  refine lv_pop B.1 B.2.1 dL_law_1054 rfl ?_
  refine lv_goto (tgt := 1368) B.1 B.2.1 dL_law_1055 (by decide) ?_
  exact fin T G u E w _ _ _ _ _ (by omega) hC hM h (lv_sub hl [0, 1, 2, 3] rfl) (by omega) (by omega)
set_option maxHeartbeats 8000000 in
set_option maxRecDepth 100000 in
theorem law_c22 {p : Program} {l : Launch} {e : Env} {s : State} {m : MethodId} {below : List Frame} {meth : Method} {c : Code} {D : va_G} {Zk : yK} {ca : Nat → ClassId} {b L : Nat} {xs : Nat → Int32} (B : xB p s m #[Value.ref b] meth c D ca "WindWordsLaw" code 4 (some .boolean)) (hX : va_X b L xs s s.heap) (hbl : b < s.heap.size) {T : Nat → Int → Int} {G : Nat → Int → Nat} {u : Int} {E : Nat → Int → Int} {ad am : Nat → Nat} {w : yW} {H : Heap} {locs : List Loc} {ls : Array Slot} {cc ss : Nat} {i : Int} (hu0 : 0 ≤ u) (hC : CW ca T G u ad w) (hM : MW ca T E am w) (h : yH D Zk (fun q : Nat => s.heap.size ≤ q) s w H locs) (hi : 0 ≤ i ∧ i + 6 ≤ L ∧ L ≤ 3072) (hcc : cc ≤ 500000 ∧ ss ≤ 7000000) (hl : lv_has ls 4 [(0, .ref b), (1, .ref (ad 0)), (2, .ref (am 0)), (3, .int (iI i))]) (fin : (∀ (T : Nat → Int → Int) (G : Nat → Int → Nat) (u : Int) (E : Nat → Int → Int) (w : yW) (H : Heap) (locs : List Loc) (ls : Array Slot) (c2 s2 : Nat), 0 ≤ u → CW ca T G u ad w → MW ca T E am w → yH D Zk (fun q : Nat => s.heap.size ≤ q) s w H locs → lv_has ls 4 [(0, .ref b), (1, .ref (ad 0)), (2, .ref (am 0)), (3, .int (iI i))] → c2 ≤ cc + 20 → s2 ≤ ss + 3000 → W p l e room_1 s m #[Value.ref b] below meth c H locs c2 s2 (lw_Z below #[Value.ref b] s) (F0 m 1368 ls []))) : W p l e room_1 s m #[Value.ref b] below meth c H locs cc ss (lw_Z below #[Value.ref b] s) (F0 m 1058 ls []) := by
  have hbA : ¬ (fun q : Nat => s.heap.size ≤ q) b := Nat.not_le.mpr hbl
  have hs := pi_s (CW.pi hC)
  obtain ⟨x1, ex1⟩ : ∃ z : Int, z = (xs (i + 1).toNat).toInt := ⟨_, rfl⟩
  have hx1 : xr x1 := by rw [ex1]; exact iI_r _
  obtain ⟨x2, ex2⟩ : ∃ z : Int, z = (xs (i + 2).toNat).toInt := ⟨_, rfl⟩
  have hx2 : xr x2 := by rw [ex2]; exact iI_r _
  show W p l e room_1 s m #[Value.ref b] below meth c H locs (cc + 0) (ss + 0) (lw_Z below #[Value.ref b] s) (F0 m 1058 ls [])
  refine lv_aload_n B.1 B.2.1 dL_law_1058 rfl (lv_at hl 1 rfl) ?_
  refine lv_aload_n B.1 B.2.1 dL_law_1059 rfl (lv_at hl 0 rfl) ?_
  refine lv_iload_n B.1 B.2.1 dL_law_1060 rfl (lv_at hl 3 rfl) ?_
  refine x_iconst B dL_law_1061 ?_
  refine x_iadd B dL_law_1062 ?_
  refine y_sld B h hX hbl hbA ((i + 1)).toNat (by omega) dL_law_1063 ?_
  refine x_iset (z := x1) (by rw [ex1]) ?_
  refine lv_aload_n B.1 B.2.1 dL_law_1064 rfl (lv_at hl 0 rfl) ?_
  refine lv_iload_n B.1 B.2.1 dL_law_1065 rfl (lv_at hl 3 rfl) ?_
  refine x_iconst B dL_law_1066 ?_
  refine x_iadd B dL_law_1067 ?_
  refine y_sld B h hX hbl hbA ((i + 2)).toNat (by omega) dL_law_1068 ?_
  refine x_iset (z := x2) (by rw [ex2]) ?_
  refine y_cV B h kX11 0 (CW.f hC 0 _ rfl) k_X11_copied rfl (c_X11_copied l D Zk ca T G u ad _ hC x1 x2  (by omega) (by omega)) m_1119 rfl ⟨by decide, by show cc + 0 + 0 ≤ 600000 ∧ ss + 0 + 0 ≤ 7302250; omega⟩ hl.1 [] (Nat.le_of_ble_eq_true rfl) rfl dL_law_1069 (fun r w1 hq H locs h => ?_)
  obtain ⟨rfl, z6, rfl, hz6⟩ := hq
  show W p l e room_1 s m #[Value.ref b] below meth c _ _ (cc + 0) (ss + 0) (lw_Z below #[Value.ref b] s) (F0 m 1072 ls [.int (iI z6)])
  refine lv_pop B.1 B.2.1 dL_law_1072 rfl ?_
  refine lv_aload_n B.1 B.2.1 dL_law_1073 rfl (lv_at hl 2 rfl) ?_
  refine lv_aload_n B.1 B.2.1 dL_law_1074 rfl (lv_at hl 0 rfl) ?_
  refine lv_iload_n B.1 B.2.1 dL_law_1075 rfl (lv_at hl 3 rfl) ?_
  refine x_iconst B dL_law_1076 ?_
  refine x_iadd B dL_law_1077 ?_
  refine y_sld B h hX hbl hbA ((i + 1)).toNat (by omega) dL_law_1078 ?_
  refine x_iset (z := x1) (by rw [ex1]) ?_
  refine lv_aload_n B.1 B.2.1 dL_law_1079 rfl (lv_at hl 0 rfl) ?_
  refine lv_iload_n B.1 B.2.1 dL_law_1080 rfl (lv_at hl 3 rfl) ?_
  refine x_iconst B dL_law_1081 ?_
  refine x_iadd B dL_law_1082 ?_
  refine y_sld B h hX hbl hbA ((i + 2)).toNat (by omega) dL_law_1083 ?_
  refine x_iset (z := x2) (by rw [ex2]) ?_
  refine y_cV B h kX12 50 (MW.f hM 0 _ rfl) k_X12_copied rfl (c_X12_copied l D Zk ca T E am _ hM x1 x2  (by omega) (by omega)) m_1824 rfl ⟨by decide, by show cc + 0 + 0 ≤ 600000 ∧ ss + 0 + 0 ≤ 7302250; omega⟩ hl.1 [] (Nat.le_of_ble_eq_true rfl) rfl dL_law_1084 (fun r w7 hq H locs h => ?_)
  obtain ⟨rfl, z12, rfl, hz12⟩ := hq
  show W p l e room_1 s m #[Value.ref b] below meth c _ _ (cc + 0) (ss + 0) (lw_Z below #[Value.ref b] s) (F0 m 1087 ls [.int (iI z12)])
  refine lv_pop B.1 B.2.1 dL_law_1087 rfl ?_
  refine lv_goto (tgt := 1368) B.1 B.2.1 dL_law_1088 (by decide) ?_
  exact fin T G u E w _ _ _ _ _ (by omega) hC hM h (lv_sub hl [0, 1, 2, 3] rfl) (by omega) (by omega)
set_option maxHeartbeats 8000000 in
set_option maxRecDepth 100000 in
theorem law_c23 {p : Program} {l : Launch} {e : Env} {s : State} {m : MethodId} {below : List Frame} {meth : Method} {c : Code} {D : va_G} {Zk : yK} {ca : Nat → ClassId} {b L : Nat} {xs : Nat → Int32} (B : xB p s m #[Value.ref b] meth c D ca "WindWordsLaw" code 4 (some .boolean)) (hX : va_X b L xs s s.heap) (hbl : b < s.heap.size) {T : Nat → Int → Int} {G : Nat → Int → Nat} {u : Int} {E : Nat → Int → Int} {ad am : Nat → Nat} {w : yW} {H : Heap} {locs : List Loc} {ls : Array Slot} {cc ss : Nat} {i : Int} (hu0 : 0 ≤ u) (hC : CW ca T G u ad w) (hM : MW ca T E am w) (h : yH D Zk (fun q : Nat => s.heap.size ≤ q) s w H locs) (hi : 0 ≤ i ∧ i + 6 ≤ L ∧ L ≤ 3072) (hcc : cc ≤ 500000 ∧ ss ≤ 7000000) (hl : lv_has ls 4 [(0, .ref b), (1, .ref (ad 0)), (2, .ref (am 0)), (3, .int (iI i))]) (fin : (∀ (T : Nat → Int → Int) (G : Nat → Int → Nat) (u : Int) (E : Nat → Int → Int) (w : yW) (H : Heap) (locs : List Loc) (ls : Array Slot) (c2 s2 : Nat), 0 ≤ u → CW ca T G u ad w → MW ca T E am w → yH D Zk (fun q : Nat => s.heap.size ≤ q) s w H locs → lv_has ls 4 [(0, .ref b), (1, .ref (ad 0)), (2, .ref (am 0)), (3, .int (iI i))] → c2 ≤ cc + 20 → s2 ≤ ss + 3000 → W p l e room_1 s m #[Value.ref b] below meth c H locs c2 s2 (lw_Z below #[Value.ref b] s) (F0 m 1368 ls []))) : W p l e room_1 s m #[Value.ref b] below meth c H locs cc ss (lw_Z below #[Value.ref b] s) (F0 m 1091 ls []) := by
  have hbA : ¬ (fun q : Nat => s.heap.size ≤ q) b := Nat.not_le.mpr hbl
  have hs := pi_s (CW.pi hC)
  obtain ⟨x1, ex1⟩ : ∃ z : Int, z = (xs (i + 1).toNat).toInt := ⟨_, rfl⟩
  have hx1 : xr x1 := by rw [ex1]; exact iI_r _
  show W p l e room_1 s m #[Value.ref b] below meth c H locs (cc + 0) (ss + 0) (lw_Z below #[Value.ref b] s) (F0 m 1091 ls [])
  refine lv_aload_n B.1 B.2.1 dL_law_1091 rfl (lv_at hl 1 rfl) ?_
  refine lv_aload_n B.1 B.2.1 dL_law_1092 rfl (lv_at hl 0 rfl) ?_
  refine lv_iload_n B.1 B.2.1 dL_law_1093 rfl (lv_at hl 3 rfl) ?_
  refine x_iconst B dL_law_1094 ?_
  refine x_iadd B dL_law_1095 ?_
  refine y_sld B h hX hbl hbA ((i + 1)).toNat (by omega) dL_law_1096 ?_
  refine x_iset (z := x1) (by rw [ex1]) ?_
  refine y_cV B h kX11 0 (CW.f hC 0 _ rfl) k_X11_find rfl (c_X11_find l D Zk ca T G u ad _ hC x1  (by omega)) m_1123 rfl ⟨by decide, by show cc + 0 + 0 ≤ 600000 ∧ ss + 0 + 0 ≤ 7302250; omega⟩ hl.1 [] (Nat.le_of_ble_eq_true rfl) rfl dL_law_1097 (fun r w1 hq H locs h => ?_)
  obtain ⟨rfl, z6, rfl, hz6⟩ := hq
  show W p l e room_1 s m #[Value.ref b] below meth c _ _ (cc + 0) (ss + 0) (lw_Z below #[Value.ref b] s) (F0 m 1100 ls [.int (iI z6)])
  refine lv_pop B.1 B.2.1 dL_law_1100 rfl ?_
  refine lv_aload_n B.1 B.2.1 dL_law_1101 rfl (lv_at hl 2 rfl) ?_
  refine lv_aload_n B.1 B.2.1 dL_law_1102 rfl (lv_at hl 0 rfl) ?_
  refine lv_iload_n B.1 B.2.1 dL_law_1103 rfl (lv_at hl 3 rfl) ?_
  refine x_iconst B dL_law_1104 ?_
  refine x_iadd B dL_law_1105 ?_
  refine y_sld B h hX hbl hbA ((i + 1)).toNat (by omega) dL_law_1106 ?_
  refine x_iset (z := x1) (by rw [ex1]) ?_
  refine y_cV B h kX12 50 (MW.f hM 0 _ rfl) k_X12_find rfl (c_X12_find l D Zk ca T E am _ hM x1  (by omega)) m_1828 rfl ⟨by decide, by show cc + 0 + 0 ≤ 600000 ∧ ss + 0 + 0 ≤ 7302250; omega⟩ hl.1 [] (Nat.le_of_ble_eq_true rfl) rfl dL_law_1107 (fun r w7 hq H locs h => ?_)
  obtain ⟨rfl, z12, rfl, hz12⟩ := hq
  show W p l e room_1 s m #[Value.ref b] below meth c _ _ (cc + 0) (ss + 0) (lw_Z below #[Value.ref b] s) (F0 m 1110 ls [.int (iI z12)])
  refine lv_pop B.1 B.2.1 dL_law_1110 rfl ?_
  refine lv_goto (tgt := 1368) B.1 B.2.1 dL_law_1111 (by decide) ?_
  exact fin T G u E w _ _ _ _ _ (by omega) hC hM h (lv_sub hl [0, 1, 2, 3] rfl) (by omega) (by omega)
set_option maxHeartbeats 8000000 in
set_option maxRecDepth 100000 in
theorem law_c24 {p : Program} {l : Launch} {e : Env} {s : State} {m : MethodId} {below : List Frame} {meth : Method} {c : Code} {D : va_G} {Zk : yK} {ca : Nat → ClassId} {b L : Nat} {xs : Nat → Int32} (B : xB p s m #[Value.ref b] meth c D ca "WindWordsLaw" code 4 (some .boolean)) (hX : va_X b L xs s s.heap) (hbl : b < s.heap.size) {T : Nat → Int → Int} {G : Nat → Int → Nat} {u : Int} {E : Nat → Int → Int} {ad am : Nat → Nat} {w : yW} {H : Heap} {locs : List Loc} {ls : Array Slot} {cc ss : Nat} {i : Int} (hu0 : 0 ≤ u) (hC : CW ca T G u ad w) (hM : MW ca T E am w) (h : yH D Zk (fun q : Nat => s.heap.size ≤ q) s w H locs) (hi : 0 ≤ i ∧ i + 6 ≤ L ∧ L ≤ 3072) (hcc : cc ≤ 500000 ∧ ss ≤ 7000000) (hl : lv_has ls 4 [(0, .ref b), (1, .ref (ad 0)), (2, .ref (am 0)), (3, .int (iI i))]) (fin : (∀ (T : Nat → Int → Int) (G : Nat → Int → Nat) (u : Int) (E : Nat → Int → Int) (w : yW) (H : Heap) (locs : List Loc) (ls : Array Slot) (c2 s2 : Nat), 0 ≤ u → CW ca T G u ad w → MW ca T E am w → yH D Zk (fun q : Nat => s.heap.size ≤ q) s w H locs → lv_has ls 4 [(0, .ref b), (1, .ref (ad 0)), (2, .ref (am 0)), (3, .int (iI i))] → c2 ≤ cc + 20 → s2 ≤ ss + 3000 → W p l e room_1 s m #[Value.ref b] below meth c H locs c2 s2 (lw_Z below #[Value.ref b] s) (F0 m 1368 ls []))) : W p l e room_1 s m #[Value.ref b] below meth c H locs cc ss (lw_Z below #[Value.ref b] s) (F0 m 1114 ls []) := by
  have hbA : ¬ (fun q : Nat => s.heap.size ≤ q) b := Nat.not_le.mpr hbl
  have hs := pi_s (CW.pi hC)
  obtain ⟨x1, ex1⟩ : ∃ z : Int, z = (xs (i + 1).toNat).toInt := ⟨_, rfl⟩
  have hx1 : xr x1 := by rw [ex1]; exact iI_r _
  obtain ⟨x2, ex2⟩ : ∃ z : Int, z = (xs (i + 2).toNat).toInt := ⟨_, rfl⟩
  have hx2 : xr x2 := by rw [ex2]; exact iI_r _
  show W p l e room_1 s m #[Value.ref b] below meth c H locs (cc + 0) (ss + 0) (lw_Z below #[Value.ref b] s) (F0 m 1114 ls [])
  refine lv_aload_n B.1 B.2.1 dL_law_1114 rfl (lv_at hl 1 rfl) ?_
  refine lv_aload_n B.1 B.2.1 dL_law_1115 rfl (lv_at hl 0 rfl) ?_
  refine lv_iload_n B.1 B.2.1 dL_law_1116 rfl (lv_at hl 3 rfl) ?_
  refine x_iconst B dL_law_1117 ?_
  refine x_iadd B dL_law_1118 ?_
  refine y_sld B h hX hbl hbA ((i + 1)).toNat (by omega) dL_law_1119 ?_
  refine x_iset (z := x1) (by rw [ex1]) ?_
  refine lv_aload_n B.1 B.2.1 dL_law_1120 rfl (lv_at hl 0 rfl) ?_
  refine lv_iload_n B.1 B.2.1 dL_law_1121 rfl (lv_at hl 3 rfl) ?_
  refine x_iconst B dL_law_1122 ?_
  refine x_iadd B dL_law_1123 ?_
  refine y_sld B h hX hbl hbA ((i + 2)).toNat (by omega) dL_law_1124 ?_
  refine x_iset (z := x2) (by rw [ex2]) ?_
  refine y_cV B h kX11 0 (CW.f hC 0 _ rfl) k_X11_wished rfl (c_X11_wished l D Zk ca T G u ad _ hC x1 x2  (by omega) (by omega)) m_1127 rfl ⟨by decide, by show cc + 0 + 0 ≤ 600000 ∧ ss + 0 + 0 ≤ 7302250; omega⟩ hl.1 [] (Nat.le_of_ble_eq_true rfl) rfl dL_law_1125 (fun r w1 hq H locs h => ?_)
  obtain ⟨rfl, z6, rfl, hz6⟩ := hq
  show W p l e room_1 s m #[Value.ref b] below meth c _ _ (cc + 0) (ss + 0) (lw_Z below #[Value.ref b] s) (F0 m 1128 ls [.int (iI z6)])
  refine lv_pop B.1 B.2.1 dL_law_1128 rfl ?_
  refine lv_aload_n B.1 B.2.1 dL_law_1129 rfl (lv_at hl 2 rfl) ?_
  refine lv_aload_n B.1 B.2.1 dL_law_1130 rfl (lv_at hl 0 rfl) ?_
  refine lv_iload_n B.1 B.2.1 dL_law_1131 rfl (lv_at hl 3 rfl) ?_
  refine x_iconst B dL_law_1132 ?_
  refine x_iadd B dL_law_1133 ?_
  refine y_sld B h hX hbl hbA ((i + 1)).toNat (by omega) dL_law_1134 ?_
  refine x_iset (z := x1) (by rw [ex1]) ?_
  refine lv_aload_n B.1 B.2.1 dL_law_1135 rfl (lv_at hl 0 rfl) ?_
  refine lv_iload_n B.1 B.2.1 dL_law_1136 rfl (lv_at hl 3 rfl) ?_
  refine x_iconst B dL_law_1137 ?_
  refine x_iadd B dL_law_1138 ?_
  refine y_sld B h hX hbl hbA ((i + 2)).toNat (by omega) dL_law_1139 ?_
  refine x_iset (z := x2) (by rw [ex2]) ?_
  refine y_cV B h kX12 50 (MW.f hM 0 _ rfl) k_X12_wished rfl (c_X12_wished l D Zk ca T E am _ hM x1 x2  (by omega) (by omega)) m_1832 rfl ⟨by decide, by show cc + 0 + 0 ≤ 600000 ∧ ss + 0 + 0 ≤ 7302250; omega⟩ hl.1 [] (Nat.le_of_ble_eq_true rfl) rfl dL_law_1140 (fun r w7 hq H locs h => ?_)
  obtain ⟨rfl, z12, rfl, hz12⟩ := hq
  show W p l e room_1 s m #[Value.ref b] below meth c _ _ (cc + 0) (ss + 0) (lw_Z below #[Value.ref b] s) (F0 m 1143 ls [.int (iI z12)])
  refine lv_pop B.1 B.2.1 dL_law_1143 rfl ?_
  refine lv_goto (tgt := 1368) B.1 B.2.1 dL_law_1144 (by decide) ?_
  exact fin T G u E w _ _ _ _ _ (by omega) hC hM h (lv_sub hl [0, 1, 2, 3] rfl) (by omega) (by omega)
set_option maxHeartbeats 8000000 in
set_option maxRecDepth 100000 in
theorem law_c25 {p : Program} {l : Launch} {e : Env} {s : State} {m : MethodId} {below : List Frame} {meth : Method} {c : Code} {D : va_G} {Zk : yK} {ca : Nat → ClassId} {b L : Nat} {xs : Nat → Int32} (B : xB p s m #[Value.ref b] meth c D ca "WindWordsLaw" code 4 (some .boolean)) (hX : va_X b L xs s s.heap) (hbl : b < s.heap.size) {T : Nat → Int → Int} {G : Nat → Int → Nat} {u : Int} {E : Nat → Int → Int} {ad am : Nat → Nat} {w : yW} {H : Heap} {locs : List Loc} {ls : Array Slot} {cc ss : Nat} {i : Int} (hu0 : 0 ≤ u) (hC : CW ca T G u ad w) (hM : MW ca T E am w) (h : yH D Zk (fun q : Nat => s.heap.size ≤ q) s w H locs) (hi : 0 ≤ i ∧ i + 6 ≤ L ∧ L ≤ 3072) (hcc : cc ≤ 500000 ∧ ss ≤ 7000000) (hl : lv_has ls 4 [(0, .ref b), (1, .ref (ad 0)), (2, .ref (am 0)), (3, .int (iI i))]) (fin : (∀ (T : Nat → Int → Int) (G : Nat → Int → Nat) (u : Int) (E : Nat → Int → Int) (w : yW) (H : Heap) (locs : List Loc) (ls : Array Slot) (c2 s2 : Nat), 0 ≤ u → CW ca T G u ad w → MW ca T E am w → yH D Zk (fun q : Nat => s.heap.size ≤ q) s w H locs → lv_has ls 4 [(0, .ref b), (1, .ref (ad 0)), (2, .ref (am 0)), (3, .int (iI i))] → c2 ≤ cc + 20 → s2 ≤ ss + 3000 → W p l e room_1 s m #[Value.ref b] below meth c H locs c2 s2 (lw_Z below #[Value.ref b] s) (F0 m 1368 ls []))) : W p l e room_1 s m #[Value.ref b] below meth c H locs cc ss (lw_Z below #[Value.ref b] s) (F0 m 1147 ls []) := by
  have hbA : ¬ (fun q : Nat => s.heap.size ≤ q) b := Nat.not_le.mpr hbl
  have hs := pi_s (CW.pi hC)
  obtain ⟨x1, ex1⟩ : ∃ z : Int, z = (xs (i + 1).toNat).toInt := ⟨_, rfl⟩
  have hx1 : xr x1 := by rw [ex1]; exact iI_r _
  obtain ⟨x2, ex2⟩ : ∃ z : Int, z = (xs (i + 2).toNat).toInt := ⟨_, rfl⟩
  have hx2 : xr x2 := by rw [ex2]; exact iI_r _
  obtain ⟨x3, ex3⟩ : ∃ z : Int, z = (xs (i + 3).toNat).toInt := ⟨_, rfl⟩
  have hx3 : xr x3 := by rw [ex3]; exact iI_r _
  obtain ⟨x4, ex4⟩ : ∃ z : Int, z = (xs (i + 4).toNat).toInt := ⟨_, rfl⟩
  have hx4 : xr x4 := by rw [ex4]; exact iI_r _
  show W p l e room_1 s m #[Value.ref b] below meth c H locs (cc + 0) (ss + 0) (lw_Z below #[Value.ref b] s) (F0 m 1147 ls [])
  refine lv_aload_n B.1 B.2.1 dL_law_1147 rfl (lv_at hl 1 rfl) ?_
  refine lv_aload_n B.1 B.2.1 dL_law_1148 rfl (lv_at hl 0 rfl) ?_
  refine lv_iload_n B.1 B.2.1 dL_law_1149 rfl (lv_at hl 3 rfl) ?_
  refine x_iconst B dL_law_1150 ?_
  refine x_iadd B dL_law_1151 ?_
  refine y_sld B h hX hbl hbA ((i + 1)).toNat (by omega) dL_law_1152 ?_
  refine x_iset (z := x1) (by rw [ex1]) ?_
  refine lv_aload_n B.1 B.2.1 dL_law_1153 rfl (lv_at hl 0 rfl) ?_
  refine lv_iload_n B.1 B.2.1 dL_law_1154 rfl (lv_at hl 3 rfl) ?_
  refine x_iconst B dL_law_1155 ?_
  refine x_iadd B dL_law_1156 ?_
  refine y_sld B h hX hbl hbA ((i + 2)).toNat (by omega) dL_law_1157 ?_
  refine x_iset (z := x2) (by rw [ex2]) ?_
  refine lv_aload_n B.1 B.2.1 dL_law_1158 rfl (lv_at hl 0 rfl) ?_
  refine lv_iload_n B.1 B.2.1 dL_law_1159 rfl (lv_at hl 3 rfl) ?_
  refine x_iconst B dL_law_1160 ?_
  refine x_iadd B dL_law_1161 ?_
  refine y_sld B h hX hbl hbA ((i + 3)).toNat (by omega) dL_law_1162 ?_
  refine x_iset (z := x3) (by rw [ex3]) ?_
  refine lv_aload_n B.1 B.2.1 dL_law_1163 rfl (lv_at hl 0 rfl) ?_
  refine lv_iload_n B.1 B.2.1 dL_law_1164 rfl (lv_at hl 3 rfl) ?_
  refine x_iconst B dL_law_1165 ?_
  refine x_iadd B dL_law_1166 ?_
  refine y_sld B h hX hbl hbA ((i + 4)).toNat (by omega) dL_law_1167 ?_
  refine x_iset (z := x4) (by rw [ex4]) ?_
  refine y_cV B h kX11 0 (CW.f hC 0 _ rfl) k_X11_eight rfl (c_X11_eight l D Zk ca T G u ad _ hC x1 x2 x3 x4  (by omega) (by omega) (by omega) (by omega)) m_1150 rfl ⟨by decide, by show cc + 0 + 0 ≤ 600000 ∧ ss + 0 + 0 ≤ 7302250; omega⟩ hl.1 [] (Nat.le_of_ble_eq_true rfl) rfl dL_law_1168 (fun r w1 hq H locs h => ?_)
  obtain ⟨rfl, z6, rfl, hz6⟩ := hq
  show W p l e room_1 s m #[Value.ref b] below meth c _ _ (cc + 0) (ss + 0) (lw_Z below #[Value.ref b] s) (F0 m 1171 ls [.int (iI z6)])
  refine lv_pop B.1 B.2.1 dL_law_1171 rfl ?_
  refine lv_aload_n B.1 B.2.1 dL_law_1172 rfl (lv_at hl 2 rfl) ?_
  refine lv_aload_n B.1 B.2.1 dL_law_1173 rfl (lv_at hl 0 rfl) ?_
  refine lv_iload_n B.1 B.2.1 dL_law_1174 rfl (lv_at hl 3 rfl) ?_
  refine x_iconst B dL_law_1175 ?_
  refine x_iadd B dL_law_1176 ?_
  refine y_sld B h hX hbl hbA ((i + 1)).toNat (by omega) dL_law_1177 ?_
  refine x_iset (z := x1) (by rw [ex1]) ?_
  refine lv_aload_n B.1 B.2.1 dL_law_1178 rfl (lv_at hl 0 rfl) ?_
  refine lv_iload_n B.1 B.2.1 dL_law_1179 rfl (lv_at hl 3 rfl) ?_
  refine x_iconst B dL_law_1180 ?_
  refine x_iadd B dL_law_1181 ?_
  refine y_sld B h hX hbl hbA ((i + 2)).toNat (by omega) dL_law_1182 ?_
  refine x_iset (z := x2) (by rw [ex2]) ?_
  refine lv_aload_n B.1 B.2.1 dL_law_1183 rfl (lv_at hl 0 rfl) ?_
  refine lv_iload_n B.1 B.2.1 dL_law_1184 rfl (lv_at hl 3 rfl) ?_
  refine x_iconst B dL_law_1185 ?_
  refine x_iadd B dL_law_1186 ?_
  refine y_sld B h hX hbl hbA ((i + 3)).toNat (by omega) dL_law_1187 ?_
  refine x_iset (z := x3) (by rw [ex3]) ?_
  refine lv_aload_n B.1 B.2.1 dL_law_1188 rfl (lv_at hl 0 rfl) ?_
  refine lv_iload_n B.1 B.2.1 dL_law_1189 rfl (lv_at hl 3 rfl) ?_
  refine x_iconst B dL_law_1190 ?_
  refine x_iadd B dL_law_1191 ?_
  refine y_sld B h hX hbl hbA ((i + 4)).toNat (by omega) dL_law_1192 ?_
  refine x_iset (z := x4) (by rw [ex4]) ?_
  refine y_cV B h kX12 50 (MW.f hM 0 _ rfl) k_X12_eight rfl (c_X12_eight l D Zk ca T E am _ hM x1 x2 x3 x4  (by omega) (by omega) (by omega) (by omega)) m_1847 rfl ⟨by decide, by show cc + 0 + 0 ≤ 600000 ∧ ss + 0 + 0 ≤ 7302250; omega⟩ hl.1 [] (Nat.le_of_ble_eq_true rfl) rfl dL_law_1193 (fun r w7 hq H locs h => ?_)
  obtain ⟨rfl, z12, rfl, hz12⟩ := hq
  show W p l e room_1 s m #[Value.ref b] below meth c _ _ (cc + 0) (ss + 0) (lw_Z below #[Value.ref b] s) (F0 m 1196 ls [.int (iI z12)])
  refine lv_pop B.1 B.2.1 dL_law_1196 rfl ?_
  refine lv_goto (tgt := 1368) B.1 B.2.1 dL_law_1197 (by decide) ?_
  exact fin T G u E w _ _ _ _ _ (by omega) hC hM h (lv_sub hl [0, 1, 2, 3] rfl) (by omega) (by omega)
