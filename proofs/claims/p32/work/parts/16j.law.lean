set_option maxHeartbeats 8000000 in
set_option maxRecDepth 100000 in
theorem law_c26 {p : Program} {l : Launch} {e : Env} {s : State} {m : MethodId} {below : List Frame} {meth : Method} {c : Code} {D : va_G} {Zk : yK} {ca : Nat → ClassId} {b L : Nat} {xs : Nat → Int32} (B : xB p s m #[Value.ref b] meth c D ca "WindWordsLaw" code 4 (some .boolean)) (hX : va_X b L xs s s.heap) (hbl : b < s.heap.size) {T : Nat → Int → Int} {G : Nat → Int → Nat} {u : Int} {E : Nat → Int → Int} {ad am : Nat → Nat} {w : yW} {H : Heap} {locs : List Loc} {ls : Array Slot} {cc ss : Nat} {i : Int} (hu0 : 0 ≤ u) (hC : CW ca T G u ad w) (hM : MW ca T E am w) (h : yH D Zk (fun q : Nat => s.heap.size ≤ q) s w H locs) (hi : 0 ≤ i ∧ i + 6 ≤ L ∧ L ≤ 3072) (hcc : cc ≤ 500000 ∧ ss ≤ 7000000) (hl : lv_has ls 4 [(0, .ref b), (1, .ref (ad 0)), (2, .ref (am 0)), (3, .int (iI i))]) (fin : (∀ (T : Nat → Int → Int) (G : Nat → Int → Nat) (u : Int) (E : Nat → Int → Int) (w : yW) (H : Heap) (locs : List Loc) (ls : Array Slot) (c2 s2 : Nat), 0 ≤ u → CW ca T G u ad w → MW ca T E am w → yH D Zk (fun q : Nat => s.heap.size ≤ q) s w H locs → lv_has ls 4 [(0, .ref b), (1, .ref (ad 0)), (2, .ref (am 0)), (3, .int (iI i))] → c2 ≤ cc + 20 → s2 ≤ ss + 3000 → W p l e room_1 s m #[Value.ref b] below meth c H locs c2 s2 (lw_Z below #[Value.ref b] s) (F0 m 1368 ls []))) : W p l e room_1 s m #[Value.ref b] below meth c H locs cc ss (lw_Z below #[Value.ref b] s) (F0 m 1200 ls []) := by
  have hbA : ¬ (fun q : Nat => s.heap.size ≤ q) b := Nat.not_le.mpr hbl
  have hs := pi_s (CW.pi hC)
  obtain ⟨x1, ex1⟩ : ∃ z : Int, z = (xs (i + 1).toNat).toInt := ⟨_, rfl⟩
  have hx1 : xr x1 := by rw [ex1]; exact iI_r _
  show W p l e room_1 s m #[Value.ref b] below meth c H locs (cc + 0) (ss + 0) (lw_Z below #[Value.ref b] s) (F0 m 1200 ls [])
  refine lv_aload_n B.1 B.2.1 dL_law_1200 rfl (lv_at hl 1 rfl) ?_
  refine lv_aload_n B.1 B.2.1 dL_law_1201 rfl (lv_at hl 0 rfl) ?_
  refine lv_iload_n B.1 B.2.1 dL_law_1202 rfl (lv_at hl 3 rfl) ?_
  refine x_iconst B dL_law_1203 ?_
  refine x_iadd B dL_law_1204 ?_
  refine y_sld B h hX hbl hbA ((i + 1)).toNat (by omega) dL_law_1205 ?_
  refine x_iset (z := x1) (by rw [ex1]) ?_
  refine y_cV B h kX11 0 (CW.f hC 0 _ rfl) k_X11_alike rfl (c_X11_alike l D Zk ca T G u ad _ hC x1  (by omega)) m_1156 rfl ⟨by decide, by show cc + 0 + 0 ≤ 600000 ∧ ss + 0 + 0 ≤ 7302250; omega⟩ hl.1 [] (Nat.le_of_ble_eq_true rfl) rfl dL_law_1206 (fun r w1 hq H locs h => ?_)
  obtain ⟨rfl, z6, rfl, hz6⟩ := hq
  show W p l e room_1 s m #[Value.ref b] below meth c _ _ (cc + 0) (ss + 0) (lw_Z below #[Value.ref b] s) (F0 m 1209 ls [.int (iI z6)])
  refine lv_pop B.1 B.2.1 dL_law_1209 rfl ?_
  refine lv_aload_n B.1 B.2.1 dL_law_1210 rfl (lv_at hl 2 rfl) ?_
  refine lv_aload_n B.1 B.2.1 dL_law_1211 rfl (lv_at hl 0 rfl) ?_
  refine lv_iload_n B.1 B.2.1 dL_law_1212 rfl (lv_at hl 3 rfl) ?_
  refine x_iconst B dL_law_1213 ?_
  refine x_iadd B dL_law_1214 ?_
  refine y_sld B h hX hbl hbA ((i + 1)).toNat (by omega) dL_law_1215 ?_
  refine x_iset (z := x1) (by rw [ex1]) ?_
  refine y_cV B h kX12 50 (MW.f hM 0 _ rfl) k_X12_alike rfl (c_X12_alike l D Zk ca T E am _ hM x1  (by omega)) m_1852 rfl ⟨by decide, by show cc + 0 + 0 ≤ 600000 ∧ ss + 0 + 0 ≤ 7302250; omega⟩ hl.1 [] (Nat.le_of_ble_eq_true rfl) rfl dL_law_1216 (fun r w7 hq H locs h => ?_)
  obtain ⟨rfl, z12, rfl, hz12⟩ := hq
  show W p l e room_1 s m #[Value.ref b] below meth c _ _ (cc + 0) (ss + 0) (lw_Z below #[Value.ref b] s) (F0 m 1219 ls [.int (iI z12)])
  refine lv_pop B.1 B.2.1 dL_law_1219 rfl ?_
  refine lv_goto (tgt := 1368) B.1 B.2.1 dL_law_1220 (by decide) ?_
  exact fin T G u E w _ _ _ _ _ (by omega) hC hM h (lv_sub hl [0, 1, 2, 3] rfl) (by omega) (by omega)
set_option maxHeartbeats 8000000 in
set_option maxRecDepth 100000 in
theorem law_c27 {p : Program} {l : Launch} {e : Env} {s : State} {m : MethodId} {below : List Frame} {meth : Method} {c : Code} {D : va_G} {Zk : yK} {ca : Nat → ClassId} {b L : Nat} {xs : Nat → Int32} (B : xB p s m #[Value.ref b] meth c D ca "WindWordsLaw" code 4 (some .boolean)) (hX : va_X b L xs s s.heap) (hbl : b < s.heap.size) {T : Nat → Int → Int} {G : Nat → Int → Nat} {u : Int} {E : Nat → Int → Int} {ad am : Nat → Nat} {w : yW} {H : Heap} {locs : List Loc} {ls : Array Slot} {cc ss : Nat} {i : Int} (hu0 : 0 ≤ u) (hC : CW ca T G u ad w) (hM : MW ca T E am w) (h : yH D Zk (fun q : Nat => s.heap.size ≤ q) s w H locs) (hi : 0 ≤ i ∧ i + 6 ≤ L ∧ L ≤ 3072) (hcc : cc ≤ 500000 ∧ ss ≤ 7000000) (hl : lv_has ls 4 [(0, .ref b), (1, .ref (ad 0)), (2, .ref (am 0)), (3, .int (iI i))]) (fin : (∀ (T : Nat → Int → Int) (G : Nat → Int → Nat) (u : Int) (E : Nat → Int → Int) (w : yW) (H : Heap) (locs : List Loc) (ls : Array Slot) (c2 s2 : Nat), 0 ≤ u → CW ca T G u ad w → MW ca T E am w → yH D Zk (fun q : Nat => s.heap.size ≤ q) s w H locs → lv_has ls 4 [(0, .ref b), (1, .ref (ad 0)), (2, .ref (am 0)), (3, .int (iI i))] → c2 ≤ cc + 20 → s2 ≤ ss + 3000 → W p l e room_1 s m #[Value.ref b] below meth c H locs c2 s2 (lw_Z below #[Value.ref b] s) (F0 m 1368 ls []))) : W p l e room_1 s m #[Value.ref b] below meth c H locs cc ss (lw_Z below #[Value.ref b] s) (F0 m 1223 ls []) := by
  have hbA : ¬ (fun q : Nat => s.heap.size ≤ q) b := Nat.not_le.mpr hbl
  have hs := pi_s (CW.pi hC)
  obtain ⟨x1, ex1⟩ : ∃ z : Int, z = (xs (i + 1).toNat).toInt := ⟨_, rfl⟩
  have hx1 : xr x1 := by rw [ex1]; exact iI_r _
  obtain ⟨x2, ex2⟩ : ∃ z : Int, z = (xs (i + 2).toNat).toInt := ⟨_, rfl⟩
  have hx2 : xr x2 := by rw [ex2]; exact iI_r _
  obtain ⟨x3, ex3⟩ : ∃ z : Int, z = (xs (i + 3).toNat).toInt := ⟨_, rfl⟩
  have hx3 : xr x3 := by rw [ex3]; exact iI_r _
  obtain ⟨x4, ex4⟩ : ∃ z : Int, z = (xs (i + 4).toNat).toInt := ⟨_, rfl⟩
  have hx4 : xr x4 := by rw [ex4]; exact iI_r _
  show W p l e room_1 s m #[Value.ref b] below meth c H locs (cc + 0) (ss + 0) (lw_Z below #[Value.ref b] s) (F0 m 1223 ls [])
  refine lv_aload_n B.1 B.2.1 dL_law_1223 rfl (lv_at hl 1 rfl) ?_
  refine lv_aload_n B.1 B.2.1 dL_law_1224 rfl (lv_at hl 0 rfl) ?_
  refine lv_iload_n B.1 B.2.1 dL_law_1225 rfl (lv_at hl 3 rfl) ?_
  refine x_iconst B dL_law_1226 ?_
  refine x_iadd B dL_law_1227 ?_
  refine y_sld B h hX hbl hbA ((i + 1)).toNat (by omega) dL_law_1228 ?_
  refine x_iset (z := x1) (by rw [ex1]) ?_
  refine lv_aload_n B.1 B.2.1 dL_law_1229 rfl (lv_at hl 0 rfl) ?_
  refine lv_iload_n B.1 B.2.1 dL_law_1230 rfl (lv_at hl 3 rfl) ?_
  refine x_iconst B dL_law_1231 ?_
  refine x_iadd B dL_law_1232 ?_
  refine y_sld B h hX hbl hbA ((i + 2)).toNat (by omega) dL_law_1233 ?_
  refine x_iset (z := x2) (by rw [ex2]) ?_
  refine lv_aload_n B.1 B.2.1 dL_law_1234 rfl (lv_at hl 0 rfl) ?_
  refine lv_iload_n B.1 B.2.1 dL_law_1235 rfl (lv_at hl 3 rfl) ?_
  refine x_iconst B dL_law_1236 ?_
  refine x_iadd B dL_law_1237 ?_
  refine y_sld B h hX hbl hbA ((i + 3)).toNat (by omega) dL_law_1238 ?_
  refine x_iset (z := x3) (by rw [ex3]) ?_
  refine lv_aload_n B.1 B.2.1 dL_law_1239 rfl (lv_at hl 0 rfl) ?_
  refine lv_iload_n B.1 B.2.1 dL_law_1240 rfl (lv_at hl 3 rfl) ?_
  refine x_iconst B dL_law_1241 ?_
  refine x_iadd B dL_law_1242 ?_
  refine y_sld B h hX hbl hbA ((i + 4)).toNat (by omega) dL_law_1243 ?_
  refine x_iset (z := x4) (by rw [ex4]) ?_
  refine y_cV B h kX11 0 (CW.f hC 0 _ rfl) k_X11_storm rfl (c_X11_storm l D Zk ca T G u ad _ hC x1 x2 x3 x4  (by omega) (by omega) (by omega) (by omega)) m_1164 rfl ⟨by decide, by show cc + 0 + 0 ≤ 600000 ∧ ss + 0 + 0 ≤ 7302250; omega⟩ hl.1 [] (Nat.le_of_ble_eq_true rfl) rfl dL_law_1244 (fun r w1 hq H locs h => ?_)
  obtain ⟨z5, rfl, hq⟩ := hq
  rcases hq with ⟨q6c0, q6z, hC2, ag4⟩ | ⟨q6n, q6z, q6w⟩
  · have hM3 := MW.agree hM ag4
    show W p l e room_1 s m #[Value.ref b] below meth c _ _ (cc + 0) (ss + 0) (lw_Z below #[Value.ref b] s) (F0 m 1247 ls [.int (iI z5)])
    refine lv_pop B.1 B.2.1 dL_law_1247 rfl ?_
    refine lv_aload_n B.1 B.2.1 dL_law_1248 rfl (lv_at hl 2 rfl) ?_
    refine lv_aload_n B.1 B.2.1 dL_law_1249 rfl (lv_at hl 0 rfl) ?_
    refine lv_iload_n B.1 B.2.1 dL_law_1250 rfl (lv_at hl 3 rfl) ?_
    refine x_iconst B dL_law_1251 ?_
    refine x_iadd B dL_law_1252 ?_
    refine y_sld B h hX hbl hbA ((i + 1)).toNat (by omega) dL_law_1253 ?_
    refine x_iset (z := x1) (by rw [ex1]) ?_
    refine lv_aload_n B.1 B.2.1 dL_law_1254 rfl (lv_at hl 0 rfl) ?_
    refine lv_iload_n B.1 B.2.1 dL_law_1255 rfl (lv_at hl 3 rfl) ?_
    refine x_iconst B dL_law_1256 ?_
    refine x_iadd B dL_law_1257 ?_
    refine y_sld B h hX hbl hbA ((i + 2)).toNat (by omega) dL_law_1258 ?_
    refine x_iset (z := x2) (by rw [ex2]) ?_
    refine lv_aload_n B.1 B.2.1 dL_law_1259 rfl (lv_at hl 0 rfl) ?_
    refine lv_iload_n B.1 B.2.1 dL_law_1260 rfl (lv_at hl 3 rfl) ?_
    refine x_iconst B dL_law_1261 ?_
    refine x_iadd B dL_law_1262 ?_
    refine y_sld B h hX hbl hbA ((i + 3)).toNat (by omega) dL_law_1263 ?_
    refine x_iset (z := x3) (by rw [ex3]) ?_
    refine lv_aload_n B.1 B.2.1 dL_law_1264 rfl (lv_at hl 0 rfl) ?_
    refine lv_iload_n B.1 B.2.1 dL_law_1265 rfl (lv_at hl 3 rfl) ?_
    refine x_iconst B dL_law_1266 ?_
    refine x_iadd B dL_law_1267 ?_
    refine y_sld B h hX hbl hbA ((i + 4)).toNat (by omega) dL_law_1268 ?_
    refine x_iset (z := x4) (by rw [ex4]) ?_
    refine y_cV B h kX12 50 (MW.f hM3 0 _ rfl) k_X12_storm rfl (c_X12_storm l D Zk ca T E am _ hM3 x1 x2 x3 x4  (by omega) (by omega) (by omega) (by omega)) m_1860 rfl ⟨by decide, by show cc + 0 + 0 ≤ 600000 ∧ ss + 0 + 0 ≤ 7302250; omega⟩ hl.1 [] (Nat.le_of_ble_eq_true rfl) rfl dL_law_1269 (fun r w7 hq H locs h => ?_)
    obtain ⟨z11, rfl, hq⟩ := hq
    rcases hq with ⟨q12c0, q12z, hM9, ag10⟩ | ⟨q12n, q12z, q12w⟩
    · have hC8 := CW.agree hC2 ag10
      show W p l e room_1 s m #[Value.ref b] below meth c _ _ (cc + 0) (ss + 0) (lw_Z below #[Value.ref b] s) (F0 m 1272 ls [.int (iI z11)])
      refine lv_pop B.1 B.2.1 dL_law_1272 rfl ?_
      refine lv_goto (tgt := 1368) B.1 B.2.1 dL_law_1273 (by decide) ?_
      exact fin (tStorm T x1 x2 x3 x4) G u E w7 _ _ _ _ _ (by omega) hC8 hM9 h (lv_sub hl [0, 1, 2, 3] rfl) (by omega) (by omega)
    · exfalso
      first | omega | exact q12n q6c0
  · rw [q6w] at h
    show W p l e room_1 s m #[Value.ref b] below meth c _ _ (cc + 0) (ss + 0) (lw_Z below #[Value.ref b] s) (F0 m 1247 ls [.int (iI z5)])
    refine lv_pop B.1 B.2.1 dL_law_1247 rfl ?_
    refine lv_aload_n B.1 B.2.1 dL_law_1248 rfl (lv_at hl 2 rfl) ?_
    refine lv_aload_n B.1 B.2.1 dL_law_1249 rfl (lv_at hl 0 rfl) ?_
    refine lv_iload_n B.1 B.2.1 dL_law_1250 rfl (lv_at hl 3 rfl) ?_
    refine x_iconst B dL_law_1251 ?_
    refine x_iadd B dL_law_1252 ?_
    refine y_sld B h hX hbl hbA ((i + 1)).toNat (by omega) dL_law_1253 ?_
    refine x_iset (z := x1) (by rw [ex1]) ?_
    refine lv_aload_n B.1 B.2.1 dL_law_1254 rfl (lv_at hl 0 rfl) ?_
    refine lv_iload_n B.1 B.2.1 dL_law_1255 rfl (lv_at hl 3 rfl) ?_
    refine x_iconst B dL_law_1256 ?_
    refine x_iadd B dL_law_1257 ?_
    refine y_sld B h hX hbl hbA ((i + 2)).toNat (by omega) dL_law_1258 ?_
    refine x_iset (z := x2) (by rw [ex2]) ?_
    refine lv_aload_n B.1 B.2.1 dL_law_1259 rfl (lv_at hl 0 rfl) ?_
    refine lv_iload_n B.1 B.2.1 dL_law_1260 rfl (lv_at hl 3 rfl) ?_
    refine x_iconst B dL_law_1261 ?_
    refine x_iadd B dL_law_1262 ?_
    refine y_sld B h hX hbl hbA ((i + 3)).toNat (by omega) dL_law_1263 ?_
    refine x_iset (z := x3) (by rw [ex3]) ?_
    refine lv_aload_n B.1 B.2.1 dL_law_1264 rfl (lv_at hl 0 rfl) ?_
    refine lv_iload_n B.1 B.2.1 dL_law_1265 rfl (lv_at hl 3 rfl) ?_
    refine x_iconst B dL_law_1266 ?_
    refine x_iadd B dL_law_1267 ?_
    refine y_sld B h hX hbl hbA ((i + 4)).toNat (by omega) dL_law_1268 ?_
    refine x_iset (z := x4) (by rw [ex4]) ?_
    refine y_cV B h kX12 50 (MW.f hM 0 _ rfl) k_X12_storm rfl (c_X12_storm l D Zk ca T E am _ hM x1 x2 x3 x4  (by omega) (by omega) (by omega) (by omega)) m_1860 rfl ⟨by decide, by show cc + 0 + 0 ≤ 600000 ∧ ss + 0 + 0 ≤ 7302250; omega⟩ hl.1 [] (Nat.le_of_ble_eq_true rfl) rfl dL_law_1269 (fun r w13 hq H locs h => ?_)
    obtain ⟨z17, rfl, hq⟩ := hq
    rcases hq with ⟨q18c0, q18z, hM15, ag16⟩ | ⟨q18n, q18z, q18w⟩
    · exfalso
      first | omega | exact q6n q18c0
    · rw [q18w] at h
      show W p l e room_1 s m #[Value.ref b] below meth c _ _ (cc + 0) (ss + 0) (lw_Z below #[Value.ref b] s) (F0 m 1272 ls [.int (iI z17)])
      refine lv_pop B.1 B.2.1 dL_law_1272 rfl ?_
      refine lv_goto (tgt := 1368) B.1 B.2.1 dL_law_1273 (by decide) ?_
      exact fin T G u E w _ _ _ _ _ (by omega) hC hM h (lv_sub hl [0, 1, 2, 3] rfl) (by omega) (by omega)
set_option maxHeartbeats 8000000 in
set_option maxRecDepth 100000 in
theorem law_c28 {p : Program} {l : Launch} {e : Env} {s : State} {m : MethodId} {below : List Frame} {meth : Method} {c : Code} {D : va_G} {Zk : yK} {ca : Nat → ClassId} {b L : Nat} {xs : Nat → Int32} (B : xB p s m #[Value.ref b] meth c D ca "WindWordsLaw" code 4 (some .boolean)) (hX : va_X b L xs s s.heap) (hbl : b < s.heap.size) {T : Nat → Int → Int} {G : Nat → Int → Nat} {u : Int} {E : Nat → Int → Int} {ad am : Nat → Nat} {w : yW} {H : Heap} {locs : List Loc} {ls : Array Slot} {cc ss : Nat} {i : Int} (hu0 : 0 ≤ u) (hC : CW ca T G u ad w) (hM : MW ca T E am w) (h : yH D Zk (fun q : Nat => s.heap.size ≤ q) s w H locs) (hi : 0 ≤ i ∧ i + 6 ≤ L ∧ L ≤ 3072) (hcc : cc ≤ 500000 ∧ ss ≤ 7000000) (hl : lv_has ls 4 [(0, .ref b), (1, .ref (ad 0)), (2, .ref (am 0)), (3, .int (iI i))]) (fin : (∀ (T : Nat → Int → Int) (G : Nat → Int → Nat) (u : Int) (E : Nat → Int → Int) (w : yW) (H : Heap) (locs : List Loc) (ls : Array Slot) (c2 s2 : Nat), 0 ≤ u → CW ca T G u ad w → MW ca T E am w → yH D Zk (fun q : Nat => s.heap.size ≤ q) s w H locs → lv_has ls 4 [(0, .ref b), (1, .ref (ad 0)), (2, .ref (am 0)), (3, .int (iI i))] → c2 ≤ cc + 20 → s2 ≤ ss + 3000 → W p l e room_1 s m #[Value.ref b] below meth c H locs c2 s2 (lw_Z below #[Value.ref b] s) (F0 m 1368 ls []))) : W p l e room_1 s m #[Value.ref b] below meth c H locs cc ss (lw_Z below #[Value.ref b] s) (F0 m 1276 ls []) := by
  have hbA : ¬ (fun q : Nat => s.heap.size ≤ q) b := Nat.not_le.mpr hbl
  have hs := pi_s (CW.pi hC)
  obtain ⟨x1, ex1⟩ : ∃ z : Int, z = (xs (i + 1).toNat).toInt := ⟨_, rfl⟩
  have hx1 : xr x1 := by rw [ex1]; exact iI_r _
  obtain ⟨x2, ex2⟩ : ∃ z : Int, z = (xs (i + 2).toNat).toInt := ⟨_, rfl⟩
  have hx2 : xr x2 := by rw [ex2]; exact iI_r _
  show W p l e room_1 s m #[Value.ref b] below meth c H locs (cc + 0) (ss + 0) (lw_Z below #[Value.ref b] s) (F0 m 1276 ls [])
  refine lv_aload_n B.1 B.2.1 dL_law_1276 rfl (lv_at hl 1 rfl) ?_
  refine lv_aload_n B.1 B.2.1 dL_law_1277 rfl (lv_at hl 0 rfl) ?_
  refine lv_iload_n B.1 B.2.1 dL_law_1278 rfl (lv_at hl 3 rfl) ?_
  refine x_iconst B dL_law_1279 ?_
  refine x_iadd B dL_law_1280 ?_
  refine y_sld B h hX hbl hbA ((i + 1)).toNat (by omega) dL_law_1281 ?_
  refine x_iset (z := x1) (by rw [ex1]) ?_
  refine lv_aload_n B.1 B.2.1 dL_law_1282 rfl (lv_at hl 0 rfl) ?_
  refine lv_iload_n B.1 B.2.1 dL_law_1283 rfl (lv_at hl 3 rfl) ?_
  refine x_iconst B dL_law_1284 ?_
  refine x_iadd B dL_law_1285 ?_
  refine y_sld B h hX hbl hbA ((i + 2)).toNat (by omega) dL_law_1286 ?_
  refine x_iset (z := x2) (by rw [ex2]) ?_
  refine y_cV B h kX11 0 (CW.f hC 0 _ rfl) k_X11_way rfl (c_X11_way l D Zk ca T G u ad _ hC x1 x2  (by omega) (by omega)) m_1200 rfl ⟨by decide, by show cc + 0 + 0 ≤ 600000 ∧ ss + 0 + 0 ≤ 7302250; omega⟩ hl.1 [] (Nat.le_of_ble_eq_true rfl) rfl dL_law_1287 (fun r w1 hq H locs h => ?_)
  obtain ⟨rfl, z6, rfl, hz6⟩ := hq
  show W p l e room_1 s m #[Value.ref b] below meth c _ _ (cc + 0) (ss + 0) (lw_Z below #[Value.ref b] s) (F0 m 1290 ls [.int (iI z6)])
  refine lv_pop B.1 B.2.1 dL_law_1290 rfl ?_
  refine lv_aload_n B.1 B.2.1 dL_law_1291 rfl (lv_at hl 2 rfl) ?_
  refine lv_aload_n B.1 B.2.1 dL_law_1292 rfl (lv_at hl 0 rfl) ?_
  refine lv_iload_n B.1 B.2.1 dL_law_1293 rfl (lv_at hl 3 rfl) ?_
  refine x_iconst B dL_law_1294 ?_
  refine x_iadd B dL_law_1295 ?_
  refine y_sld B h hX hbl hbA ((i + 1)).toNat (by omega) dL_law_1296 ?_
  refine x_iset (z := x1) (by rw [ex1]) ?_
  refine lv_aload_n B.1 B.2.1 dL_law_1297 rfl (lv_at hl 0 rfl) ?_
  refine lv_iload_n B.1 B.2.1 dL_law_1298 rfl (lv_at hl 3 rfl) ?_
  refine x_iconst B dL_law_1299 ?_
  refine x_iadd B dL_law_1300 ?_
  refine y_sld B h hX hbl hbA ((i + 2)).toNat (by omega) dL_law_1301 ?_
  refine x_iset (z := x2) (by rw [ex2]) ?_
  refine y_cV B h kX12 50 (MW.f hM 0 _ rfl) k_X12_way rfl (c_X12_way l D Zk ca T E am _ hM x1 x2  (by omega) (by omega)) m_1880 rfl ⟨by decide, by show cc + 0 + 0 ≤ 600000 ∧ ss + 0 + 0 ≤ 7302250; omega⟩ hl.1 [] (Nat.le_of_ble_eq_true rfl) rfl dL_law_1302 (fun r w7 hq H locs h => ?_)
  obtain ⟨rfl, z12, rfl, hz12⟩ := hq
  show W p l e room_1 s m #[Value.ref b] below meth c _ _ (cc + 0) (ss + 0) (lw_Z below #[Value.ref b] s) (F0 m 1305 ls [.int (iI z12)])
  refine lv_pop B.1 B.2.1 dL_law_1305 rfl ?_
  refine lv_goto (tgt := 1368) B.1 B.2.1 dL_law_1306 (by decide) ?_
  exact fin T G u E w _ _ _ _ _ (by omega) hC hM h (lv_sub hl [0, 1, 2, 3] rfl) (by omega) (by omega)
set_option maxHeartbeats 8000000 in
set_option maxRecDepth 100000 in
theorem law_c29 {p : Program} {l : Launch} {e : Env} {s : State} {m : MethodId} {below : List Frame} {meth : Method} {c : Code} {D : va_G} {Zk : yK} {ca : Nat → ClassId} {b L : Nat} {xs : Nat → Int32} (B : xB p s m #[Value.ref b] meth c D ca "WindWordsLaw" code 4 (some .boolean)) (hX : va_X b L xs s s.heap) (hbl : b < s.heap.size) {T : Nat → Int → Int} {G : Nat → Int → Nat} {u : Int} {E : Nat → Int → Int} {ad am : Nat → Nat} {w : yW} {H : Heap} {locs : List Loc} {ls : Array Slot} {cc ss : Nat} {i : Int} (hu0 : 0 ≤ u) (hC : CW ca T G u ad w) (hM : MW ca T E am w) (h : yH D Zk (fun q : Nat => s.heap.size ≤ q) s w H locs) (hi : 0 ≤ i ∧ i + 6 ≤ L ∧ L ≤ 3072) (hcc : cc ≤ 500000 ∧ ss ≤ 7000000) (hl : lv_has ls 4 [(0, .ref b), (1, .ref (ad 0)), (2, .ref (am 0)), (3, .int (iI i))]) (fin : (∀ (T : Nat → Int → Int) (G : Nat → Int → Nat) (u : Int) (E : Nat → Int → Int) (w : yW) (H : Heap) (locs : List Loc) (ls : Array Slot) (c2 s2 : Nat), 0 ≤ u → CW ca T G u ad w → MW ca T E am w → yH D Zk (fun q : Nat => s.heap.size ≤ q) s w H locs → lv_has ls 4 [(0, .ref b), (1, .ref (ad 0)), (2, .ref (am 0)), (3, .int (iI i))] → c2 ≤ cc + 20 → s2 ≤ ss + 3000 → W p l e room_1 s m #[Value.ref b] below meth c H locs c2 s2 (lw_Z below #[Value.ref b] s) (F0 m 1368 ls []))) : W p l e room_1 s m #[Value.ref b] below meth c H locs cc ss (lw_Z below #[Value.ref b] s) (F0 m 1309 ls []) := by
  have hbA : ¬ (fun q : Nat => s.heap.size ≤ q) b := Nat.not_le.mpr hbl
  have hs := pi_s (CW.pi hC)
  show W p l e room_1 s m #[Value.ref b] below meth c H locs (cc + 0) (ss + 0) (lw_Z below #[Value.ref b] s) (F0 m 1309 ls [])
  refine lv_aload_n B.1 B.2.1 dL_law_1309 rfl (lv_at hl 1 rfl) ?_
  refine y_cV B h kX11 0 (CW.f hC 0 _ rfl) k_X11_image rfl (c_X11_image l D Zk ca T G u ad _ hC   ) m_1211 rfl ⟨by decide, by show cc + 0 + 1 ≤ 600000 ∧ ss + 0 + 4 ≤ 7302250; omega⟩ hl.1 [] (Nat.le_of_ble_eq_true rfl) rfl dL_law_1310 (fun r w1 hq H locs h => ?_)
  obtain ⟨z5, rfl, hq⟩ := hq
  rcases hq with ⟨q6c0, q6z, G7, hC2, ag4⟩ | ⟨q6n, q6z, q6w⟩
  · have hM3 := MW.agree hM ag4
    show W p l e room_1 s m #[Value.ref b] below meth c _ _ (cc + 1) (ss + 4) (lw_Z below #[Value.ref b] s) (F0 m 1313 ls [.int (iI z5)])
    refine lv_pop B.1 B.2.1 dL_law_1313 rfl ?_
    refine lv_aload_n B.1 B.2.1 dL_law_1314 rfl (lv_at hl 2 rfl) ?_
    refine y_cV B h kX12 50 (MW.f hM3 0 _ rfl) k_X12_image rfl (c_X12_image l D Zk ca T E am _ hM3   ) m_1884 rfl ⟨by decide, by show cc + 1 + 0 ≤ 600000 ∧ ss + 4 + 0 ≤ 7302250; omega⟩ hl.1 [] (Nat.le_of_ble_eq_true rfl) rfl dL_law_1315 (fun r w8 hq H locs h => ?_)
    obtain ⟨z12, rfl, hq⟩ := hq
    rcases hq with ⟨q13c0, q13z, hM10, ag11⟩ | ⟨q13n, q13z, q13w⟩
    · have hC9 := CW.agree hC2 ag11
      show W p l e room_1 s m #[Value.ref b] below meth c _ _ (cc + 1) (ss + 4) (lw_Z below #[Value.ref b] s) (F0 m 1318 ls [.int (iI z12)])
      refine lv_pop B.1 B.2.1 dL_law_1318 rfl ?_
      refine lv_goto (tgt := 1368) B.1 B.2.1 dL_law_1319 (by decide) ?_
      exact fin (tImage T) G7 u E w8 _ _ _ _ _ (by omega) hC9 hM10 h (lv_sub hl [0, 1, 2, 3] rfl) (by omega) (by omega)
    · exfalso
      first | omega | exact q13n q6c0
  · rw [q6w] at h
    show W p l e room_1 s m #[Value.ref b] below meth c _ _ (cc + 1) (ss + 4) (lw_Z below #[Value.ref b] s) (F0 m 1313 ls [.int (iI z5)])
    refine lv_pop B.1 B.2.1 dL_law_1313 rfl ?_
    refine lv_aload_n B.1 B.2.1 dL_law_1314 rfl (lv_at hl 2 rfl) ?_
    refine y_cV B h kX12 50 (MW.f hM 0 _ rfl) k_X12_image rfl (c_X12_image l D Zk ca T E am _ hM   ) m_1884 rfl ⟨by decide, by show cc + 1 + 0 ≤ 600000 ∧ ss + 4 + 0 ≤ 7302250; omega⟩ hl.1 [] (Nat.le_of_ble_eq_true rfl) rfl dL_law_1315 (fun r w14 hq H locs h => ?_)
    obtain ⟨z18, rfl, hq⟩ := hq
    rcases hq with ⟨q19c0, q19z, hM16, ag17⟩ | ⟨q19n, q19z, q19w⟩
    · exfalso
      first | omega | exact q6n q19c0
    · rw [q19w] at h
      show W p l e room_1 s m #[Value.ref b] below meth c _ _ (cc + 1) (ss + 4) (lw_Z below #[Value.ref b] s) (F0 m 1318 ls [.int (iI z18)])
      refine lv_pop B.1 B.2.1 dL_law_1318 rfl ?_
      refine lv_goto (tgt := 1368) B.1 B.2.1 dL_law_1319 (by decide) ?_
      exact fin T G u E w _ _ _ _ _ (by omega) hC hM h (lv_sub hl [0, 1, 2, 3] rfl) (by omega) (by omega)
set_option maxHeartbeats 8000000 in
set_option maxRecDepth 100000 in
theorem law_c30 {p : Program} {l : Launch} {e : Env} {s : State} {m : MethodId} {below : List Frame} {meth : Method} {c : Code} {D : va_G} {Zk : yK} {ca : Nat → ClassId} {b L : Nat} {xs : Nat → Int32} (B : xB p s m #[Value.ref b] meth c D ca "WindWordsLaw" code 4 (some .boolean)) (hX : va_X b L xs s s.heap) (hbl : b < s.heap.size) {T : Nat → Int → Int} {G : Nat → Int → Nat} {u : Int} {E : Nat → Int → Int} {ad am : Nat → Nat} {w : yW} {H : Heap} {locs : List Loc} {ls : Array Slot} {cc ss : Nat} {i : Int} (hu0 : 0 ≤ u) (hC : CW ca T G u ad w) (hM : MW ca T E am w) (h : yH D Zk (fun q : Nat => s.heap.size ≤ q) s w H locs) (hi : 0 ≤ i ∧ i + 6 ≤ L ∧ L ≤ 3072) (hcc : cc ≤ 500000 ∧ ss ≤ 7000000) (hl : lv_has ls 4 [(0, .ref b), (1, .ref (ad 0)), (2, .ref (am 0)), (3, .int (iI i))]) (fin : (∀ (T : Nat → Int → Int) (G : Nat → Int → Nat) (u : Int) (E : Nat → Int → Int) (w : yW) (H : Heap) (locs : List Loc) (ls : Array Slot) (c2 s2 : Nat), 0 ≤ u → CW ca T G u ad w → MW ca T E am w → yH D Zk (fun q : Nat => s.heap.size ≤ q) s w H locs → lv_has ls 4 [(0, .ref b), (1, .ref (ad 0)), (2, .ref (am 0)), (3, .int (iI i))] → c2 ≤ cc + 20 → s2 ≤ ss + 3000 → W p l e room_1 s m #[Value.ref b] below meth c H locs c2 s2 (lw_Z below #[Value.ref b] s) (F0 m 1368 ls []))) : W p l e room_1 s m #[Value.ref b] below meth c H locs cc ss (lw_Z below #[Value.ref b] s) (F0 m 1322 ls []) := by
  have hbA : ¬ (fun q : Nat => s.heap.size ≤ q) b := Nat.not_le.mpr hbl
  have hs := pi_s (CW.pi hC)
  obtain ⟨x1, ex1⟩ : ∃ z : Int, z = (xs (i + 1).toNat).toInt := ⟨_, rfl⟩
  have hx1 : xr x1 := by rw [ex1]; exact iI_r _
  show W p l e room_1 s m #[Value.ref b] below meth c H locs (cc + 0) (ss + 0) (lw_Z below #[Value.ref b] s) (F0 m 1322 ls [])
  refine lv_aload_n B.1 B.2.1 dL_law_1322 rfl (lv_at hl 1 rfl) ?_
  refine lv_aload_n B.1 B.2.1 dL_law_1323 rfl (lv_at hl 0 rfl) ?_
  refine lv_iload_n B.1 B.2.1 dL_law_1324 rfl (lv_at hl 3 rfl) ?_
  refine x_iconst B dL_law_1325 ?_
  refine x_iadd B dL_law_1326 ?_
  refine y_sld B h hX hbl hbA ((i + 1)).toNat (by omega) dL_law_1327 ?_
  refine x_iset (z := x1) (by rw [ex1]) ?_
  refine y_cV B h kX11 0 (CW.f hC 0 _ rfl) k_X11_back rfl (c_X11_back l D Zk ca T G u ad _ hC x1  (by omega)) m_1237 rfl ⟨by decide, by show cc + 0 + 0 ≤ 600000 ∧ ss + 0 + 0 ≤ 7302250; omega⟩ hl.1 [] (Nat.le_of_ble_eq_true rfl) rfl dL_law_1328 (fun r w1 hq H locs h => ?_)
  obtain ⟨z5, rfl, hq⟩ := hq
  rcases hq with ⟨q6c0, q6z, hC2, ag4⟩ | ⟨q6n, q6z, q6w⟩
  · have hM3 := MW.agree hM ag4
    show W p l e room_1 s m #[Value.ref b] below meth c _ _ (cc + 0) (ss + 0) (lw_Z below #[Value.ref b] s) (F0 m 1331 ls [.int (iI z5)])
    refine lv_aload_n B.1 B.2.1 dL_law_1331 rfl (lv_at hl 2 rfl) ?_
    refine lv_aload_n B.1 B.2.1 dL_law_1332 rfl (lv_at hl 0 rfl) ?_
    refine lv_iload_n B.1 B.2.1 dL_law_1333 rfl (lv_at hl 3 rfl) ?_
    refine x_iconst B dL_law_1334 ?_
    refine x_iadd B dL_law_1335 ?_
    refine y_sld B h hX hbl hbA ((i + 1)).toNat (by omega) dL_law_1336 ?_
    refine x_iset (z := x1) (by rw [ex1]) ?_
    refine y_cV B h kX12 50 (MW.f hM3 0 _ rfl) k_X12_back rfl (c_X12_back l D Zk ca T E am _ hM3 x1  (by omega)) m_1888 rfl ⟨by decide, by show cc + 0 + 0 ≤ 600000 ∧ ss + 0 + 0 ≤ 7302250; omega⟩ hl.1 [.int (iI z5)] (Nat.le_of_ble_eq_true rfl) rfl dL_law_1337 (fun r w7 hq H locs h => ?_)
    obtain ⟨z11, rfl, hq⟩ := hq
    rcases hq with ⟨q12c0, q12z, hM9, ag10⟩ | ⟨q12n, q12z, q12w⟩
    · have hC8 := CW.agree hC2 ag10
      show W p l e room_1 s m #[Value.ref b] below meth c _ _ (cc + 0) (ss + 0) (lw_Z below #[Value.ref b] s) (F0 m 1340 ls [.int (iI z11), .int (iI z5)])
      have e9 := pi_11 (CW.pi hC) x1
      refine x_icmp_eq B (by omega) (tgt := 1368) dL_law_1340 (by decide) (fun c13 => ?_) (fun c13 => ?_)
      · exact fin (tBack T x1) G u E w7 _ _ _ _ _ (by omega) hC8 hM9 h (lv_sub hl [0, 1, 2, 3] rfl) (by omega) (by omega)
      · exfalso; omega
    · exfalso
      first | omega | exact q12n q6c0
  · rw [q6w] at h
    show W p l e room_1 s m #[Value.ref b] below meth c _ _ (cc + 0) (ss + 0) (lw_Z below #[Value.ref b] s) (F0 m 1331 ls [.int (iI z5)])
    refine lv_aload_n B.1 B.2.1 dL_law_1331 rfl (lv_at hl 2 rfl) ?_
    refine lv_aload_n B.1 B.2.1 dL_law_1332 rfl (lv_at hl 0 rfl) ?_
    refine lv_iload_n B.1 B.2.1 dL_law_1333 rfl (lv_at hl 3 rfl) ?_
    refine x_iconst B dL_law_1334 ?_
    refine x_iadd B dL_law_1335 ?_
    refine y_sld B h hX hbl hbA ((i + 1)).toNat (by omega) dL_law_1336 ?_
    refine x_iset (z := x1) (by rw [ex1]) ?_
    refine y_cV B h kX12 50 (MW.f hM 0 _ rfl) k_X12_back rfl (c_X12_back l D Zk ca T E am _ hM x1  (by omega)) m_1888 rfl ⟨by decide, by show cc + 0 + 0 ≤ 600000 ∧ ss + 0 + 0 ≤ 7302250; omega⟩ hl.1 [.int (iI z5)] (Nat.le_of_ble_eq_true rfl) rfl dL_law_1337 (fun r w14 hq H locs h => ?_)
    obtain ⟨z18, rfl, hq⟩ := hq
    rcases hq with ⟨q19c0, q19z, hM16, ag17⟩ | ⟨q19n, q19z, q19w⟩
    · exfalso
      first | omega | exact q6n q19c0
    · rw [q19w] at h
      show W p l e room_1 s m #[Value.ref b] below meth c _ _ (cc + 0) (ss + 0) (lw_Z below #[Value.ref b] s) (F0 m 1340 ls [.int (iI z18), .int (iI z5)])
      have e9 := pi_11 (CW.pi hC) x1
      refine x_icmp_eq B (by omega) (tgt := 1368) dL_law_1340 (by decide) (fun c20 => ?_) (fun c20 => ?_)
      · exact fin T G u E w _ _ _ _ _ (by omega) hC hM h (lv_sub hl [0, 1, 2, 3] rfl) (by omega) (by omega)
      · exfalso; omega
set_option maxHeartbeats 8000000 in
set_option maxRecDepth 100000 in
theorem law_c31 {p : Program} {l : Launch} {e : Env} {s : State} {m : MethodId} {below : List Frame} {meth : Method} {c : Code} {D : va_G} {Zk : yK} {ca : Nat → ClassId} {b L : Nat} {xs : Nat → Int32} (B : xB p s m #[Value.ref b] meth c D ca "WindWordsLaw" code 4 (some .boolean)) (hX : va_X b L xs s s.heap) (hbl : b < s.heap.size) {T : Nat → Int → Int} {G : Nat → Int → Nat} {u : Int} {E : Nat → Int → Int} {ad am : Nat → Nat} {w : yW} {H : Heap} {locs : List Loc} {ls : Array Slot} {cc ss : Nat} {i : Int} (hu0 : 0 ≤ u) (hC : CW ca T G u ad w) (hM : MW ca T E am w) (h : yH D Zk (fun q : Nat => s.heap.size ≤ q) s w H locs) (hi : 0 ≤ i ∧ i + 6 ≤ L ∧ L ≤ 3072) (hcc : cc ≤ 500000 ∧ ss ≤ 7000000) (hl : lv_has ls 4 [(0, .ref b), (1, .ref (ad 0)), (2, .ref (am 0)), (3, .int (iI i))]) (fin : (∀ (T : Nat → Int → Int) (G : Nat → Int → Nat) (u : Int) (E : Nat → Int → Int) (w : yW) (H : Heap) (locs : List Loc) (ls : Array Slot) (c2 s2 : Nat), 0 ≤ u → CW ca T G u ad w → MW ca T E am w → yH D Zk (fun q : Nat => s.heap.size ≤ q) s w H locs → lv_has ls 4 [(0, .ref b), (1, .ref (ad 0)), (2, .ref (am 0)), (3, .int (iI i))] → c2 ≤ cc + 20 → s2 ≤ ss + 3000 → W p l e room_1 s m #[Value.ref b] below meth c H locs c2 s2 (lw_Z below #[Value.ref b] s) (F0 m 1368 ls []))) : W p l e room_1 s m #[Value.ref b] below meth c H locs cc ss (lw_Z below #[Value.ref b] s) (F0 m 1345 ls []) := by
  have hbA : ¬ (fun q : Nat => s.heap.size ≤ q) b := Nat.not_le.mpr hbl
  have hs := pi_s (CW.pi hC)
  obtain ⟨x1, ex1⟩ : ∃ z : Int, z = (xs (i + 1).toNat).toInt := ⟨_, rfl⟩
  have hx1 : xr x1 := by rw [ex1]; exact iI_r _
  show W p l e room_1 s m #[Value.ref b] below meth c H locs (cc + 0) (ss + 0) (lw_Z below #[Value.ref b] s) (F0 m 1345 ls [])
  refine lv_aload_n B.1 B.2.1 dL_law_1345 rfl (lv_at hl 1 rfl) ?_
  refine lv_aload_n B.1 B.2.1 dL_law_1346 rfl (lv_at hl 0 rfl) ?_
  refine lv_iload_n B.1 B.2.1 dL_law_1347 rfl (lv_at hl 3 rfl) ?_
  refine x_iconst B dL_law_1348 ?_
  refine x_iadd B dL_law_1349 ?_
  refine y_sld B h hX hbl hbA ((i + 1)).toNat (by omega) dL_law_1350 ?_
  refine x_iset (z := x1) (by rw [ex1]) ?_
  refine y_cV B h kX11 0 (CW.f hC 0 _ rfl) k_X11_count rfl (c_X11_count l D Zk ca T G u ad _ hC x1  (by omega)) m_1247 rfl ⟨by decide, by show cc + 0 + 0 ≤ 600000 ∧ ss + 0 + 0 ≤ 7302250; omega⟩ hl.1 [] (Nat.le_of_ble_eq_true rfl) rfl dL_law_1351 (fun r w1 hq H locs h => ?_)
  obtain ⟨rfl, z6, rfl, hz6⟩ := hq
  show W p l e room_1 s m #[Value.ref b] below meth c _ _ (cc + 0) (ss + 0) (lw_Z below #[Value.ref b] s) (F0 m 1354 ls [.int (iI z6)])
  refine lv_pop B.1 B.2.1 dL_law_1354 rfl ?_
  refine lv_aload_n B.1 B.2.1 dL_law_1355 rfl (lv_at hl 2 rfl) ?_
  refine lv_aload_n B.1 B.2.1 dL_law_1356 rfl (lv_at hl 0 rfl) ?_
  refine lv_iload_n B.1 B.2.1 dL_law_1357 rfl (lv_at hl 3 rfl) ?_
  refine x_iconst B dL_law_1358 ?_
  refine x_iadd B dL_law_1359 ?_
  refine y_sld B h hX hbl hbA ((i + 1)).toNat (by omega) dL_law_1360 ?_
  refine x_iset (z := x1) (by rw [ex1]) ?_
  refine y_cV B h kX12 50 (MW.f hM 0 _ rfl) k_X12_count rfl (c_X12_count l D Zk ca T E am _ hM x1  (by omega)) m_1892 rfl ⟨by decide, by show cc + 0 + 0 ≤ 600000 ∧ ss + 0 + 0 ≤ 7302250; omega⟩ hl.1 [] (Nat.le_of_ble_eq_true rfl) rfl dL_law_1361 (fun r w7 hq H locs h => ?_)
  obtain ⟨rfl, z12, rfl, hz12⟩ := hq
  show W p l e room_1 s m #[Value.ref b] below meth c _ _ (cc + 0) (ss + 0) (lw_Z below #[Value.ref b] s) (F0 m 1364 ls [.int (iI z12)])
  refine lv_pop B.1 B.2.1 dL_law_1364 rfl ?_
  refine lv_goto (tgt := 1368) B.1 B.2.1 dL_law_1365 (by decide) ?_
  exact fin T G u E w _ _ _ _ _ (by omega) hC hM h (lv_sub hl [0, 1, 2, 3] rfl) (by omega) (by omega)
