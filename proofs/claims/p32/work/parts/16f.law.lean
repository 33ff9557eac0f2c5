set_option maxHeartbeats 8000000 in
set_option maxRecDepth 100000 in
theorem law_c4 {p : Program} {l : Launch} {e : Env} {s : State} {m : MethodId} {below : List Frame} {meth : Method} {c : Code} {D : va_G} {Zk : yK} {ca : Nat → ClassId} {b L : Nat} {xs : Nat → Int32} (B : xB p s m #[Value.ref b] meth c D ca "WindWordsLaw" code 4 (some .boolean)) (hX : va_X b L xs s s.heap) (hbl : b < s.heap.size) {T : Nat → Int → Int} {G : Nat → Int → Nat} {u : Int} {E : Nat → Int → Int} {ad am : Nat → Nat} {w : yW} {H : Heap} {locs : List Loc} {ls : Array Slot} {cc ss : Nat} {i : Int} (hu0 : 0 ≤ u) (hC : CW ca T G u ad w) (hM : MW ca T E am w) (h : yH D Zk (fun q : Nat => s.heap.size ≤ q) s w H locs) (hi : 0 ≤ i ∧ i + 6 ≤ L ∧ L ≤ 3072) (hcc : cc ≤ 500000 ∧ ss ≤ 7000000) (hl : lv_has ls 4 [(0, .ref b), (1, .ref (ad 0)), (2, .ref (am 0)), (3, .int (iI i))]) (fin : (∀ (T : Nat → Int → Int) (G : Nat → Int → Nat) (u : Int) (E : Nat → Int → Int) (w : yW) (H : Heap) (locs : List Loc) (ls : Array Slot) (c2 s2 : Nat), 0 ≤ u → CW ca T G u ad w → MW ca T E am w → yH D Zk (fun q : Nat => s.heap.size ≤ q) s w H locs → lv_has ls 4 [(0, .ref b), (1, .ref (ad 0)), (2, .ref (am 0)), (3, .int (iI i))] → c2 ≤ cc + 20 → s2 ≤ ss + 3000 → W p l e room_1 s m #[Value.ref b] below meth c H locs c2 s2 (lw_Z below #[Value.ref b] s) (F0 m 1368 ls []))) : W p l e room_1 s m #[Value.ref b] below meth c H locs cc ss (lw_Z below #[Value.ref b] s) (F0 m 314 ls []) := by
  have hbA : ¬ (fun q : Nat => s.heap.size ≤ q) b := Nat.not_le.mpr hbl
  have hs := pi_s (CW.pi hC)
  obtain ⟨x1, ex1⟩ : ∃ z : Int, z = (xs (i + 1).toNat).toInt := ⟨_, rfl⟩
  have hx1 : xr x1 := by rw [ex1]; exact iI_r _
  obtain ⟨x2, ex2⟩ : ∃ z : Int, z = (xs (i + 2).toNat).toInt := ⟨_, rfl⟩
  have hx2 : xr x2 := by rw [ex2]; exact iI_r _
  show W p l e room_1 s m #[Value.ref b] below meth c H locs (cc + 0) (ss + 0) (lw_Z below #[Value.ref b] s) (F0 m 314 ls [])
  refine lv_aload_n B.1 B.2.1 dL_law_314 rfl (lv_at hl 1 rfl) ?_
  refine lv_aload_n B.1 B.2.1 dL_law_315 rfl (lv_at hl 0 rfl) ?_
  refine lv_iload_n B.1 B.2.1 dL_law_316 rfl (lv_at hl 3 rfl) ?_
  refine x_iconst B dL_law_317 ?_
  refine x_iadd B dL_law_318 ?_
  refine y_sld B h hX hbl hbA ((i + 1)).toNat (by omega) dL_law_319 ?_
  refine x_iset (z := x1) (by rw [ex1]) ?_
  refine lv_aload_n B.1 B.2.1 dL_law_320 rfl (lv_at hl 0 rfl) ?_
  refine lv_iload_n B.1 B.2.1 dL_law_321 rfl (lv_at hl 3 rfl) ?_
  refine x_iconst B dL_law_322 ?_
  refine x_iadd B dL_law_323 ?_
  refine y_sld B h hX hbl hbA ((i + 2)).toNat (by omega) dL_law_324 ?_
  refine x_iset (z := x2) (by rw [ex2]) ?_
  refine y_cV B h kX11 0 (CW.f hC 0 _ rfl) k_X11_set rfl (c_X11_set l D Zk ca T G u ad _ hC x1 x2  (by omega) (by omega)) m_494 rfl ⟨by decide, by show cc + 0 + 0 ≤ 600000 ∧ ss + 0 + 0 ≤ 7302250; omega⟩ hl.1 [] (Nat.le_of_ble_eq_true rfl) rfl dL_law_325 (fun r w1 hq H locs h => ?_)
  obtain ⟨z5, rfl, hq⟩ := hq
  rcases hq with ⟨q6c0, q6z, hC2, ag4⟩ | ⟨q6n, q6z, q6w⟩
  · have hM3 := MW.agree hM ag4
    show W p l e room_1 s m #[Value.ref b] below meth c _ _ (cc + 0) (ss + 0) (lw_Z below #[Value.ref b] s) (F0 m 328 ls [.int (iI z5)])
    refine lv_pop B.1 B.2.1 dL_law_328 rfl ?_
    refine lv_aload_n B.1 B.2.1 dL_law_329 rfl (lv_at hl 2 rfl) ?_
    refine lv_aload_n B.1 B.2.1 dL_law_330 rfl (lv_at hl 0 rfl) ?_
    refine lv_iload_n B.1 B.2.1 dL_law_331 rfl (lv_at hl 3 rfl) ?_
    refine x_iconst B dL_law_332 ?_
    refine x_iadd B dL_law_333 ?_
    refine y_sld B h hX hbl hbA ((i + 1)).toNat (by omega) dL_law_334 ?_
    refine x_iset (z := x1) (by rw [ex1]) ?_
    refine lv_aload_n B.1 B.2.1 dL_law_335 rfl (lv_at hl 0 rfl) ?_
    refine lv_iload_n B.1 B.2.1 dL_law_336 rfl (lv_at hl 3 rfl) ?_
    refine x_iconst B dL_law_337 ?_
    refine x_iadd B dL_law_338 ?_
    refine y_sld B h hX hbl hbA ((i + 2)).toNat (by omega) dL_law_339 ?_
    refine x_iset (z := x2) (by rw [ex2]) ?_
    refine y_cV B h kX12 50 (MW.f hM3 0 _ rfl) k_X12_set rfl (c_X12_set l D Zk ca T E am _ hM3 x1 x2  (by omega) (by omega)) m_1534 rfl ⟨by decide, by show cc + 0 + 0 ≤ 600000 ∧ ss + 0 + 0 ≤ 7302250; omega⟩ hl.1 [] (Nat.le_of_ble_eq_true rfl) rfl dL_law_340 (fun r w7 hq H locs h => ?_)
    obtain ⟨z11, rfl, hq⟩ := hq
    rcases hq with ⟨q12c0, q12z, hM9, ag10⟩ | ⟨q12n, q12z, q12w⟩
    · have hC8 := CW.agree hC2 ag10
      show W p l e room_1 s m #[Value.ref b] below meth c _ _ (cc + 0) (ss + 0) (lw_Z below #[Value.ref b] s) (F0 m 343 ls [.int (iI z11)])
      refine lv_pop B.1 B.2.1 dL_law_343 rfl ?_
      refine lv_goto (tgt := 1368) B.1 B.2.1 dL_law_344 (by decide) ?_
      exact fin (tSet T x1 x2) G u E w7 _ _ _ _ _ (by omega) hC8 hM9 h (lv_sub hl [0, 1, 2, 3] rfl) (by omega) (by omega)
    · exfalso
      first | omega | exact q12n q6c0
  · rw [q6w] at h
    show W p l e room_1 s m #[Value.ref b] below meth c _ _ (cc + 0) (ss + 0) (lw_Z below #[Value.ref b] s) (F0 m 328 ls [.int (iI z5)])
    refine lv_pop B.1 B.2.1 dL_law_328 rfl ?_
    refine lv_aload_n B.1 B.2.1 dL_law_329 rfl (lv_at hl 2 rfl) ?_
    refine lv_aload_n B.1 B.2.1 dL_law_330 rfl (lv_at hl 0 rfl) ?_
    refine lv_iload_n B.1 B.2.1 dL_law_331 rfl (lv_at hl 3 rfl) ?_
    refine x_iconst B dL_law_332 ?_
    refine x_iadd B dL_law_333 ?_
    refine y_sld B h hX hbl hbA ((i + 1)).toNat (by omega) dL_law_334 ?_
    refine x_iset (z := x1) (by rw [ex1]) ?_
    refine lv_aload_n B.1 B.2.1 dL_law_335 rfl (lv_at hl 0 rfl) ?_
    refine lv_iload_n B.1 B.2.1 dL_law_336 rfl (lv_at hl 3 rfl) ?_
    refine x_iconst B dL_law_337 ?_
    refine x_iadd B dL_law_338 ?_
    refine y_sld B h hX hbl hbA ((i + 2)).toNat (by omega) dL_law_339 ?_
    refine x_iset (z := x2) (by rw [ex2]) ?_
    refine y_cV B h kX12 50 (MW.f hM 0 _ rfl) k_X12_set rfl (c_X12_set l D Zk ca T E am _ hM x1 x2  (by omega) (by omega)) m_1534 rfl ⟨by decide, by show cc + 0 + 0 ≤ 600000 ∧ ss + 0 + 0 ≤ 7302250; omega⟩ hl.1 [] (Nat.le_of_ble_eq_true rfl) rfl dL_law_340 (fun r w13 hq H locs h => ?_)
    obtain ⟨z17, rfl, hq⟩ := hq
    rcases hq with ⟨q18c0, q18z, hM15, ag16⟩ | ⟨q18n, q18z, q18w⟩
    · exfalso
      first | omega | exact q6n q18c0
    · rw [q18w] at h
      show W p l e room_1 s m #[Value.ref b] below meth c _ _ (cc + 0) (ss + 0) (lw_Z below #[Value.ref b] s) (F0 m 343 ls [.int (iI z17)])
      refine lv_pop B.1 B.2.1 dL_law_343 rfl ?_
      refine lv_goto (tgt := 1368) B.1 B.2.1 dL_law_344 (by decide) ?_
      exact fin T G u E w _ _ _ _ _ (by omega) hC hM h (lv_sub hl [0, 1, 2, 3] rfl) (by omega) (by omega)
set_option maxHeartbeats 8000000 in
set_option maxRecDepth 100000 in
theorem law_c5 {p : Program} {l : Launch} {e : Env} {s : State} {m : MethodId} {below : List Frame} {meth : Method} {c : Code} {D : va_G} {Zk : yK} {ca : Nat → ClassId} {b L : Nat} {xs : Nat → Int32} (B : xB p s m #[Value.ref b] meth c D ca "WindWordsLaw" code 4 (some .boolean)) (hX : va_X b L xs s s.heap) (hbl : b < s.heap.size) {T : Nat → Int → Int} {G : Nat → Int → Nat} {u : Int} {E : Nat → Int → Int} {ad am : Nat → Nat} {w : yW} {H : Heap} {locs : List Loc} {ls : Array Slot} {cc ss : Nat} {i : Int} (hu0 : 0 ≤ u) (hC : CW ca T G u ad w) (hM : MW ca T E am w) (h : yH D Zk (fun q : Nat => s.heap.size ≤ q) s w H locs) (hi : 0 ≤ i ∧ i + 6 ≤ L ∧ L ≤ 3072) (hcc : cc ≤ 500000 ∧ ss ≤ 7000000) (hl : lv_has ls 4 [(0, .ref b), (1, .ref (ad 0)), (2, .ref (am 0)), (3, .int (iI i))]) (fin : (∀ (T : Nat → Int → Int) (G : Nat → Int → Nat) (u : Int) (E : Nat → Int → Int) (w : yW) (H : Heap) (locs : List Loc) (ls : Array Slot) (c2 s2 : Nat), 0 ≤ u → CW ca T G u ad w → MW ca T E am w → yH D Zk (fun q : Nat => s.heap.size ≤ q) s w H locs → lv_has ls 4 [(0, .ref b), (1, .ref (ad 0)), (2, .ref (am 0)), (3, .int (iI i))] → c2 ≤ cc + 20 → s2 ≤ ss + 3000 → W p l e room_1 s m #[Value.ref b] below meth c H locs c2 s2 (lw_Z below #[Value.ref b] s) (F0 m 1368 ls []))) : W p l e room_1 s m #[Value.ref b] below meth c H locs cc ss (lw_Z below #[Value.ref b] s) (F0 m 347 ls []) := by
  have hbA : ¬ (fun q : Nat => s.heap.size ≤ q) b := Nat.not_le.mpr hbl
  have hs := pi_s (CW.pi hC)
  obtain ⟨x1, ex1⟩ : ∃ z : Int, z = (xs (i + 1).toNat).toInt := ⟨_, rfl⟩
  have hx1 : xr x1 := by rw [ex1]; exact iI_r _
  obtain ⟨x2, ex2⟩ : ∃ z : Int, z = (xs (i + 2).toNat).toInt := ⟨_, rfl⟩
  have hx2 : xr x2 := by rw [ex2]; exact iI_r _
  obtain ⟨x3, ex3⟩ : ∃ z : Int, z = (xs (i + 3).toNat).toInt := ⟨_, rfl⟩
  have hx3 : xr x3 := by rw [ex3]; exact iI_r _
  obtain ⟨x4, ex4⟩ : ∃ z : Int, z = (xs (i + 4).toNat).toInt := ⟨_, rfl⟩
  have hx4 : xr x4 := by rw [ex4]; exact iI_r _
  obtain ⟨x5, ex5⟩ : ∃ z : Int, z = (xs (i + 5).toNat).toInt := ⟨_, rfl⟩
  have hx5 : xr x5 := by rw [ex5]; exact iI_r _
  show W p l e room_1 s m #[Value.ref b] below meth c H locs (cc + 0) (ss + 0) (lw_Z below #[Value.ref b] s) (F0 m 347 ls [])
  refine lv_aload_n B.1 B.2.1 dL_law_347 rfl (lv_at hl 1 rfl) ?_
  refine lv_aload_n B.1 B.2.1 dL_law_348 rfl (lv_at hl 0 rfl) ?_
  refine lv_iload_n B.1 B.2.1 dL_law_349 rfl (lv_at hl 3 rfl) ?_
  refine x_iconst B dL_law_350 ?_
  refine x_iadd B dL_law_351 ?_
  refine y_sld B h hX hbl hbA ((i + 1)).toNat (by omega) dL_law_352 ?_
  refine x_iset (z := x1) (by rw [ex1]) ?_
  refine lv_aload_n B.1 B.2.1 dL_law_353 rfl (lv_at hl 0 rfl) ?_
  refine lv_iload_n B.1 B.2.1 dL_law_354 rfl (lv_at hl 3 rfl) ?_
  refine x_iconst B dL_law_355 ?_
  refine x_iadd B dL_law_356 ?_
  refine y_sld B h hX hbl hbA ((i + 2)).toNat (by omega) dL_law_357 ?_
  refine x_iset (z := x2) (by rw [ex2]) ?_
  refine lv_aload_n B.1 B.2.1 dL_law_358 rfl (lv_at hl 0 rfl) ?_
  refine lv_iload_n B.1 B.2.1 dL_law_359 rfl (lv_at hl 3 rfl) ?_
  refine x_iconst B dL_law_360 ?_
  refine x_iadd B dL_law_361 ?_
  refine y_sld B h hX hbl hbA ((i + 3)).toNat (by omega) dL_law_362 ?_
  refine x_iset (z := x3) (by rw [ex3]) ?_
  refine lv_aload_n B.1 B.2.1 dL_law_363 rfl (lv_at hl 0 rfl) ?_
  refine lv_iload_n B.1 B.2.1 dL_law_364 rfl (lv_at hl 3 rfl) ?_
  refine x_iconst B dL_law_365 ?_
  refine x_iadd B dL_law_366 ?_
  refine y_sld B h hX hbl hbA ((i + 4)).toNat (by omega) dL_law_367 ?_
  refine x_iset (z := x4) (by rw [ex4]) ?_
  refine lv_aload_n B.1 B.2.1 dL_law_368 rfl (lv_at hl 0 rfl) ?_
  refine lv_iload_n B.1 B.2.1 dL_law_369 rfl (lv_at hl 3 rfl) ?_
  refine x_iconst B dL_law_370 ?_
  refine x_iadd B dL_law_371 ?_
  refine y_sld B h hX hbl hbA ((i + 5)).toNat (by omega) dL_law_372 ?_
  refine x_iset (z := x5) (by rw [ex5]) ?_
  refine y_cV B h kX11 0 (CW.f hC 0 _ rfl) k_X11_read rfl (c_X11_read l D Zk ca T G u ad _ hC x1 x2 x3 x4 x5  (by omega) (by omega) (by omega) (by omega) (by omega)) m_498 rfl ⟨by decide, by show cc + 0 + 1 ≤ 600000 ∧ ss + 0 + 8 ≤ 7302250; omega⟩ hl.1 [] (Nat.le_of_ble_eq_true rfl) rfl dL_law_373 (fun r w1 hq H locs h => ?_)
  obtain ⟨z5, rfl, hq⟩ := hq
  rcases hq with ⟨q6c0, q6z, G7, hC2, ag4⟩ | ⟨q6n, q6z, q6w⟩
  · have hM3 := MW.agree hM ag4
    show W p l e room_1 s m #[Value.ref b] below meth c _ _ (cc + 1) (ss + 8) (lw_Z below #[Value.ref b] s) (F0 m 376 ls [.int (iI z5)])
    refine lv_pop B.1 B.2.1 dL_law_376 rfl ?_
    refine lv_aload_n B.1 B.2.1 dL_law_377 rfl (lv_at hl 2 rfl) ?_
    refine lv_aload_n B.1 B.2.1 dL_law_378 rfl (lv_at hl 0 rfl) ?_
    refine lv_iload_n B.1 B.2.1 dL_law_379 rfl (lv_at hl 3 rfl) ?_
    refine x_iconst B dL_law_380 ?_
    refine x_iadd B dL_law_381 ?_
    refine y_sld B h hX hbl hbA ((i + 1)).toNat (by omega) dL_law_382 ?_
    refine x_iset (z := x1) (by rw [ex1]) ?_
    refine lv_aload_n B.1 B.2.1 dL_law_383 rfl (lv_at hl 0 rfl) ?_
    refine lv_iload_n B.1 B.2.1 dL_law_384 rfl (lv_at hl 3 rfl) ?_
    refine x_iconst B dL_law_385 ?_
    refine x_iadd B dL_law_386 ?_
    refine y_sld B h hX hbl hbA ((i + 2)).toNat (by omega) dL_law_387 ?_
    refine x_iset (z := x2) (by rw [ex2]) ?_
    refine lv_aload_n B.1 B.2.1 dL_law_388 rfl (lv_at hl 0 rfl) ?_
    refine lv_iload_n B.1 B.2.1 dL_law_389 rfl (lv_at hl 3 rfl) ?_
    refine x_iconst B dL_law_390 ?_
    refine x_iadd B dL_law_391 ?_
    refine y_sld B h hX hbl hbA ((i + 3)).toNat (by omega) dL_law_392 ?_
    refine x_iset (z := x3) (by rw [ex3]) ?_
    refine lv_aload_n B.1 B.2.1 dL_law_393 rfl (lv_at hl 0 rfl) ?_
    refine lv_iload_n B.1 B.2.1 dL_law_394 rfl (lv_at hl 3 rfl) ?_
    refine x_iconst B dL_law_395 ?_
    refine x_iadd B dL_law_396 ?_
    refine y_sld B h hX hbl hbA ((i + 4)).toNat (by omega) dL_law_397 ?_
    refine x_iset (z := x4) (by rw [ex4]) ?_
    refine lv_aload_n B.1 B.2.1 dL_law_398 rfl (lv_at hl 0 rfl) ?_
    refine lv_iload_n B.1 B.2.1 dL_law_399 rfl (lv_at hl 3 rfl) ?_
    refine x_iconst B dL_law_400 ?_
    refine x_iadd B dL_law_401 ?_
    refine y_sld B h hX hbl hbA ((i + 5)).toNat (by omega) dL_law_402 ?_
    refine x_iset (z := x5) (by rw [ex5]) ?_
    refine y_cV B h kX12 50 (MW.f hM3 0 _ rfl) k_X12_read rfl (c_X12_read l D Zk ca T E am _ hM3 x1 x2 x3 x4 x5  (by omega) (by omega) (by omega) (by omega) (by omega)) m_1538 rfl ⟨by decide, by show cc + 1 + 0 ≤ 600000 ∧ ss + 8 + 0 ≤ 7302250; omega⟩ hl.1 [] (Nat.le_of_ble_eq_true rfl) rfl dL_law_403 (fun r w8 hq H locs h => ?_)
    obtain ⟨z12, rfl, hq⟩ := hq
    rcases hq with ⟨q13c0, q13z, hM10, ag11⟩ | ⟨q13n, q13z, q13w⟩
    · have hC9 := CW.agree hC2 ag11
      show W p l e room_1 s m #[Value.ref b] below meth c _ _ (cc + 1) (ss + 8) (lw_Z below #[Value.ref b] s) (F0 m 406 ls [.int (iI z12)])
      refine lv_pop B.1 B.2.1 dL_law_406 rfl ?_
      refine lv_goto (tgt := 1368) B.1 B.2.1 dL_law_407 (by decide) ?_
      exact fin (tRead T x1 x2 x3 x4 x5) G7 u E w8 _ _ _ _ _ (by omega) hC9 hM10 h (lv_sub hl [0, 1, 2, 3] rfl) (by omega) (by omega)
    · exfalso
      first | omega | exact q13n q6c0
  · rw [q6w] at h
    show W p l e room_1 s m #[Value.ref b] below meth c _ _ (cc + 1) (ss + 8) (lw_Z below #[Value.ref b] s) (F0 m 376 ls [.int (iI z5)])
    refine lv_pop B.1 B.2.1 dL_law_376 rfl ?_
    refine lv_aload_n B.1 B.2.1 dL_law_377 rfl (lv_at hl 2 rfl) ?_
    refine lv_aload_n B.1 B.2.1 dL_law_378 rfl (lv_at hl 0 rfl) ?_
    refine lv_iload_n B.1 B.2.1 dL_law_379 rfl (lv_at hl 3 rfl) ?_
    refine x_iconst B dL_law_380 ?_
    refine x_iadd B dL_law_381 ?_
    refine y_sld B h hX hbl hbA ((i + 1)).toNat (by omega) dL_law_382 ?_
    refine x_iset (z := x1) (by rw [ex1]) ?_
    refine lv_aload_n B.1 B.2.1 dL_law_383 rfl (lv_at hl 0 rfl) ?_
    refine lv_iload_n B.1 B.2.1 dL_law_384 rfl (lv_at hl 3 rfl) ?_
    refine x_iconst B dL_law_385 ?_
    refine x_iadd B dL_law_386 ?_
    refine y_sld B h hX hbl hbA ((i + 2)).toNat (by omega) dL_law_387 ?_
    refine x_iset (z := x2) (by rw [ex2]) ?_
    refine lv_aload_n B.1 B.2.1 dL_law_388 rfl (lv_at hl 0 rfl) ?_
    refine lv_iload_n B.1 B.2.1 dL_law_389 rfl (lv_at hl 3 rfl) ?_
    refine x_iconst B dL_law_390 ?_
    refine x_iadd B dL_law_391 ?_
    refine y_sld B h hX hbl hbA ((i + 3)).toNat (by omega) dL_law_392 ?_
    refine x_iset (z := x3) (by rw [ex3]) ?_
    refine lv_aload_n B.1 B.2.1 dL_law_393 rfl (lv_at hl 0 rfl) ?_
    refine lv_iload_n B.1 B.2.1 dL_law_394 rfl (lv_at hl 3 rfl) ?_
    refine x_iconst B dL_law_395 ?_
    refine x_iadd B dL_law_396 ?_
    refine y_sld B h hX hbl hbA ((i + 4)).toNat (by omega) dL_law_397 ?_
    refine x_iset (z := x4) (by rw [ex4]) ?_
    refine lv_aload_n B.1 B.2.1 dL_law_398 rfl (lv_at hl 0 rfl) ?_
    refine lv_iload_n B.1 B.2.1 dL_law_399 rfl (lv_at hl 3 rfl) ?_
    refine x_iconst B dL_law_400 ?_
    refine x_iadd B dL_law_401 ?_
    refine y_sld B h hX hbl hbA ((i + 5)).toNat (by omega) dL_law_402 ?_
    refine x_iset (z := x5) (by rw [ex5]) ?_
    refine y_cV B h kX12 50 (MW.f hM 0 _ rfl) k_X12_read rfl (c_X12_read l D Zk ca T E am _ hM x1 x2 x3 x4 x5  (by omega) (by omega) (by omega) (by omega) (by omega)) m_1538 rfl ⟨by decide, by show cc + 1 + 0 ≤ 600000 ∧ ss + 8 + 0 ≤ 7302250; omega⟩ hl.1 [] (Nat.le_of_ble_eq_true rfl) rfl dL_law_403 (fun r w14 hq H locs h => ?_)
    obtain ⟨z18, rfl, hq⟩ := hq
    rcases hq with ⟨q19c0, q19z, hM16, ag17⟩ | ⟨q19n, q19z, q19w⟩
    · exfalso
      first | omega | exact q6n q19c0
    · rw [q19w] at h
      show W p l e room_1 s m #[Value.ref b] below meth c _ _ (cc + 1) (ss + 8) (lw_Z below #[Value.ref b] s) (F0 m 406 ls [.int (iI z18)])
      refine lv_pop B.1 B.2.1 dL_law_406 rfl ?_
      refine lv_goto (tgt := 1368) B.1 B.2.1 dL_law_407 (by decide) ?_
      exact fin T G u E w _ _ _ _ _ (by omega) hC hM h (lv_sub hl [0, 1, 2, 3] rfl) (by omega) (by omega)
set_option maxHeartbeats 8000000 in
set_option maxRecDepth 100000 in
theorem law_c6 {p : Program} {l : Launch} {e : Env} {s : State} {m : MethodId} {below : List Frame} {meth : Method} {c : Code} {D : va_G} {Zk : yK} {ca : Nat → ClassId} {b L : Nat} {xs : Nat → Int32} (B : xB p s m #[Value.ref b] meth c D ca "WindWordsLaw" code 4 (some .boolean)) (hX : va_X b L xs s s.heap) (hbl : b < s.heap.size) {T : Nat → Int → Int} {G : Nat → Int → Nat} {u : Int} {E : Nat → Int → Int} {ad am : Nat → Nat} {w : yW} {H : Heap} {locs : List Loc} {ls : Array Slot} {cc ss : Nat} {i : Int} (hu0 : 0 ≤ u) (hC : CW ca T G u ad w) (hM : MW ca T E am w) (h : yH D Zk (fun q : Nat => s.heap.size ≤ q) s w H locs) (hi : 0 ≤ i ∧ i + 6 ≤ L ∧ L ≤ 3072) (hcc : cc ≤ 500000 ∧ ss ≤ 7000000) (hl : lv_has ls 4 [(0, .ref b), (1, .ref (ad 0)), (2, .ref (am 0)), (3, .int (iI i))]) (fin : (∀ (T : Nat → Int → Int) (G : Nat → Int → Nat) (u : Int) (E : Nat → Int → Int) (w : yW) (H : Heap) (locs : List Loc) (ls : Array Slot) (c2 s2 : Nat), 0 ≤ u → CW ca T G u ad w → MW ca T E am w → yH D Zk (fun q : Nat => s.heap.size ≤ q) s w H locs → lv_has ls 4 [(0, .ref b), (1, .ref (ad 0)), (2, .ref (am 0)), (3, .int (iI i))] → c2 ≤ cc + 20 → s2 ≤ ss + 3000 → W p l e room_1 s m #[Value.ref b] below meth c H locs c2 s2 (lw_Z below #[Value.ref b] s) (F0 m 1368 ls []))) : W p l e room_1 s m #[Value.ref b] below meth c H locs cc ss (lw_Z below #[Value.ref b] s) (F0 m 410 ls []) := by
  have hbA : ¬ (fun q : Nat => s.heap.size ≤ q) b := Nat.not_le.mpr hbl
  have hs := pi_s (CW.pi hC)
  obtain ⟨x1, ex1⟩ : ∃ z : Int, z = (xs (i + 1).toNat).toInt := ⟨_, rfl⟩
  have hx1 : xr x1 := by rw [ex1]; exact iI_r _
  obtain ⟨x2, ex2⟩ : ∃ z : Int, z = (xs (i + 2).toNat).toInt := ⟨_, rfl⟩
  have hx2 : xr x2 := by rw [ex2]; exact iI_r _
  obtain ⟨x3, ex3⟩ : ∃ z : Int, z = (xs (i + 3).toNat).toInt := ⟨_, rfl⟩
  have hx3 : xr x3 := by rw [ex3]; exact iI_r _
  obtain ⟨x4, ex4⟩ : ∃ z : Int, z = (xs (i + 4).toNat).toInt := ⟨_, rfl⟩
  have hx4 : xr x4 := by rw [ex4]; exact iI_r _
  obtain ⟨x5, ex5⟩ : ∃ z : Int, z = (xs (i + 5).toNat).toInt := ⟨_, rfl⟩
  have hx5 : xr x5 := by rw [ex5]; exact iI_r _
  show W p l e room_1 s m #[Value.ref b] below meth c H locs (cc + 0) (ss + 0) (lw_Z below #[Value.ref b] s) (F0 m 410 ls [])
  refine lv_aload_n B.1 B.2.1 dL_law_410 rfl (lv_at hl 1 rfl) ?_
  refine lv_aload_n B.1 B.2.1 dL_law_411 rfl (lv_at hl 0 rfl) ?_
  refine lv_iload_n B.1 B.2.1 dL_law_412 rfl (lv_at hl 3 rfl) ?_
  refine x_iconst B dL_law_413 ?_
  refine x_iadd B dL_law_414 ?_
  refine y_sld B h hX hbl hbA ((i + 1)).toNat (by omega) dL_law_415 ?_
  refine x_iset (z := x1) (by rw [ex1]) ?_
  refine lv_aload_n B.1 B.2.1 dL_law_416 rfl (lv_at hl 0 rfl) ?_
  refine lv_iload_n B.1 B.2.1 dL_law_417 rfl (lv_at hl 3 rfl) ?_
  refine x_iconst B dL_law_418 ?_
  refine x_iadd B dL_law_419 ?_
  refine y_sld B h hX hbl hbA ((i + 2)).toNat (by omega) dL_law_420 ?_
  refine x_iset (z := x2) (by rw [ex2]) ?_
  refine lv_aload_n B.1 B.2.1 dL_law_421 rfl (lv_at hl 0 rfl) ?_
  refine lv_iload_n B.1 B.2.1 dL_law_422 rfl (lv_at hl 3 rfl) ?_
  refine x_iconst B dL_law_423 ?_
  refine x_iadd B dL_law_424 ?_
  refine y_sld B h hX hbl hbA ((i + 3)).toNat (by omega) dL_law_425 ?_
  refine x_iset (z := x3) (by rw [ex3]) ?_
  refine lv_aload_n B.1 B.2.1 dL_law_426 rfl (lv_at hl 0 rfl) ?_
  refine lv_iload_n B.1 B.2.1 dL_law_427 rfl (lv_at hl 3 rfl) ?_
  refine x_iconst B dL_law_428 ?_
  refine x_iadd B dL_law_429 ?_
  refine y_sld B h hX hbl hbA ((i + 4)).toNat (by omega) dL_law_430 ?_
  refine x_iset (z := x4) (by rw [ex4]) ?_
  refine lv_aload_n B.1 B.2.1 dL_law_431 rfl (lv_at hl 0 rfl) ?_
  refine lv_iload_n B.1 B.2.1 dL_law_432 rfl (lv_at hl 3 rfl) ?_
  refine x_iconst B dL_law_433 ?_
  refine x_iadd B dL_law_434 ?_
  refine y_sld B h hX hbl hbA ((i + 5)).toNat (by omega) dL_law_435 ?_
  refine x_iset (z := x5) (by rw [ex5]) ?_
  refine y_cV B h kX11 0 (CW.f hC 0 _ rfl) k_X11_feed rfl (c_X11_feed l D Zk ca T G u ad _ hC (iI x1) (iI x2) (iI x3) (iI x4) (iI x5)  ) m_565 rfl ⟨by decide, by show cc + 0 + 0 ≤ 600000 ∧ ss + 0 + 0 ≤ 7302250; omega⟩ hl.1 [] (Nat.le_of_ble_eq_true rfl) rfl dL_law_436 (fun r w1 hq H locs h => ?_)
  obtain ⟨rfl, z6, rfl, hz6⟩ := hq
  show W p l e room_1 s m #[Value.ref b] below meth c _ _ (cc + 0) (ss + 0) (lw_Z below #[Value.ref b] s) (F0 m 439 ls [.int (iI z6)])
  refine lv_pop B.1 B.2.1 dL_law_439 rfl ?_
  refine lv_aload_n B.1 B.2.1 dL_law_440 rfl (lv_at hl 2 rfl) ?_
  refine lv_aload_n B.1 B.2.1 dL_law_441 rfl (lv_at hl 0 rfl) ?_
  refine lv_iload_n B.1 B.2.1 dL_law_442 rfl (lv_at hl 3 rfl) ?_
  refine x_iconst B dL_law_443 ?_
  refine x_iadd B dL_law_444 ?_
  refine y_sld B h hX hbl hbA ((i + 1)).toNat (by omega) dL_law_445 ?_
  refine x_iset (z := x1) (by rw [ex1]) ?_
  refine lv_aload_n B.1 B.2.1 dL_law_446 rfl (lv_at hl 0 rfl) ?_
  refine lv_iload_n B.1 B.2.1 dL_law_447 rfl (lv_at hl 3 rfl) ?_
  refine x_iconst B dL_law_448 ?_
  refine x_iadd B dL_law_449 ?_
  refine y_sld B h hX hbl hbA ((i + 2)).toNat (by omega) dL_law_450 ?_
  refine x_iset (z := x2) (by rw [ex2]) ?_
  refine lv_aload_n B.1 B.2.1 dL_law_451 rfl (lv_at hl 0 rfl) ?_
  refine lv_iload_n B.1 B.2.1 dL_law_452 rfl (lv_at hl 3 rfl) ?_
  refine x_iconst B dL_law_453 ?_
  refine x_iadd B dL_law_454 ?_
  refine y_sld B h hX hbl hbA ((i + 3)).toNat (by omega) dL_law_455 ?_
  refine x_iset (z := x3) (by rw [ex3]) ?_
  refine lv_aload_n B.1 B.2.1 dL_law_456 rfl (lv_at hl 0 rfl) ?_
  refine lv_iload_n B.1 B.2.1 dL_law_457 rfl (lv_at hl 3 rfl) ?_
  refine x_iconst B dL_law_458 ?_
  refine x_iadd B dL_law_459 ?_
  refine y_sld B h hX hbl hbA ((i + 4)).toNat (by omega) dL_law_460 ?_
  refine x_iset (z := x4) (by rw [ex4]) ?_
  refine lv_aload_n B.1 B.2.1 dL_law_461 rfl (lv_at hl 0 rfl) ?_
  refine lv_iload_n B.1 B.2.1 dL_law_462 rfl (lv_at hl 3 rfl) ?_
  refine x_iconst B dL_law_463 ?_
  refine x_iadd B dL_law_464 ?_
  refine y_sld B h hX hbl hbA ((i + 5)).toNat (by omega) dL_law_465 ?_
  refine x_iset (z := x5) (by rw [ex5]) ?_
  refine y_cV B h kX12 50 (MW.f hM 0 _ rfl) k_X12_feed rfl (c_X12_feed l D Zk ca T E am _ hM (iI x1) (iI x2) (iI x3) (iI x4) (iI x5)  ) m_1546 rfl ⟨by decide, by show cc + 0 + 0 ≤ 600000 ∧ ss + 0 + 0 ≤ 7302250; omega⟩ hl.1 [] (Nat.le_of_ble_eq_true rfl) rfl dL_law_466 (fun r w7 hq H locs h => ?_)
  obtain ⟨rfl, z12, rfl, hz12⟩ := hq
  show W p l e room_1 s m #[Value.ref b] below meth c _ _ (cc + 0) (ss + 0) (lw_Z below #[Value.ref b] s) (F0 m 469 ls [.int (iI z12)])
  refine lv_pop B.1 B.2.1 dL_law_469 rfl ?_
  refine lv_goto (tgt := 1368) B.1 B.2.1 dL_law_470 (by decide) ?_
  exact fin T G u E w _ _ _ _ _ (by omega) hC hM h (lv_sub hl [0, 1, 2, 3] rfl) (by omega) (by omega)
set_option maxHeartbeats 8000000 in
set_option maxRecDepth 100000 in
theorem law_c7 {p : Program} {l : Launch} {e : Env} {s : State} {m : MethodId} {below : List Frame} {meth : Method} {c : Code} {D : va_G} {Zk : yK} {ca : Nat → ClassId} {b L : Nat} {xs : Nat → Int32} (B : xB p s m #[Value.ref b] meth c D ca "WindWordsLaw" code 4 (some .boolean)) (hX : va_X b L xs s s.heap) (hbl : b < s.heap.size) {T : Nat → Int → Int} {G : Nat → Int → Nat} {u : Int} {E : Nat → Int → Int} {ad am : Nat → Nat} {w : yW} {H : Heap} {locs : List Loc} {ls : Array Slot} {cc ss : Nat} {i : Int} (hu0 : 0 ≤ u) (hC : CW ca T G u ad w) (hM : MW ca T E am w) (h : yH D Zk (fun q : Nat => s.heap.size ≤ q) s w H locs) (hi : 0 ≤ i ∧ i + 6 ≤ L ∧ L ≤ 3072) (hcc : cc ≤ 500000 ∧ ss ≤ 7000000) (hl : lv_has ls 4 [(0, .ref b), (1, .ref (ad 0)), (2, .ref (am 0)), (3, .int (iI i))]) (fin : (∀ (T : Nat → Int → Int) (G : Nat → Int → Nat) (u : Int) (E : Nat → Int → Int) (w : yW) (H : Heap) (locs : List Loc) (ls : Array Slot) (c2 s2 : Nat), 0 ≤ u → CW ca T G u ad w → MW ca T E am w → yH D Zk (fun q : Nat => s.heap.size ≤ q) s w H locs → lv_has ls 4 [(0, .ref b), (1, .ref (ad 0)), (2, .ref (am 0)), (3, .int (iI i))] → c2 ≤ cc + 20 → s2 ≤ ss + 3000 → W p l e room_1 s m #[Value.ref b] below meth c H locs c2 s2 (lw_Z below #[Value.ref b] s) (F0 m 1368 ls []))) : W p l e room_1 s m #[Value.ref b] below meth c H locs cc ss (lw_Z below #[Value.ref b] s) (F0 m 473 ls []) := by
  have hbA : ¬ (fun q : Nat => s.heap.size ≤ q) b := Nat.not_le.mpr hbl
  have hs := pi_s (CW.pi hC)
  obtain ⟨x1, ex1⟩ : ∃ z : Int, z = (xs (i + 1).toNat).toInt := ⟨_, rfl⟩
  have hx1 : xr x1 := by rw [ex1]; exact iI_r _
  obtain ⟨x2, ex2⟩ : ∃ z : Int, z = (xs (i + 2).toNat).toInt := ⟨_, rfl⟩
  have hx2 : xr x2 := by rw [ex2]; exact iI_r _
  show W p l e room_1 s m #[Value.ref b] below meth c H locs (cc + 0) (ss + 0) (lw_Z below #[Value.ref b] s) (F0 m 473 ls [])
  refine lv_aload_n B.1 B.2.1 dL_law_473 rfl (lv_at hl 1 rfl) ?_
  refine lv_aload_n B.1 B.2.1 dL_law_474 rfl (lv_at hl 0 rfl) ?_
  refine lv_iload_n B.1 B.2.1 dL_law_475 rfl (lv_at hl 3 rfl) ?_
  refine x_iconst B dL_law_476 ?_
  refine x_iadd B dL_law_477 ?_
  refine y_sld B h hX hbl hbA ((i + 1)).toNat (by omega) dL_law_478 ?_
  refine x_iset (z := x1) (by rw [ex1]) ?_
  refine lv_aload_n B.1 B.2.1 dL_law_479 rfl (lv_at hl 0 rfl) ?_
  refine lv_iload_n B.1 B.2.1 dL_law_480 rfl (lv_at hl 3 rfl) ?_
  refine x_iconst B dL_law_481 ?_
  refine x_iadd B dL_law_482 ?_
  refine y_sld B h hX hbl hbA ((i + 2)).toNat (by omega) dL_law_483 ?_
  refine x_iset (z := x2) (by rw [ex2]) ?_
  refine y_cV B h kX11 0 (CW.f hC 0 _ rfl) k_X11_scale rfl (c_X11_scale l D Zk ca T G u ad _ hC x1 x2  (by omega) (by omega) (by omega)) m_573 rfl ⟨by decide, by show cc + 0 + 6 ≤ 600000 ∧ ss + 0 + 618 ≤ 7302250; omega⟩ hl.1 [] (Nat.le_of_ble_eq_true rfl) rfl dL_law_484 (fun r w1 hq H locs h => ?_)
  obtain ⟨z5, rfl, G6, u7, huu7, hC2, ag4⟩ := hq
  have hM3 := MW.agree hM ag4
  show W p l e room_1 s m #[Value.ref b] below meth c _ _ (cc + 6) (ss + 618) (lw_Z below #[Value.ref b] s) (F0 m 487 ls [.int (iI z5)])
  refine lv_pop B.1 B.2.1 dL_law_487 rfl ?_
  refine lv_aload_n B.1 B.2.1 dL_law_488 rfl (lv_at hl 2 rfl) ?_
  refine lv_aload_n B.1 B.2.1 dL_law_489 rfl (lv_at hl 0 rfl) ?_
  refine lv_iload_n B.1 B.2.1 dL_law_490 rfl (lv_at hl 3 rfl) ?_
  refine x_iconst B dL_law_491 ?_
  refine x_iadd B dL_law_492 ?_
  refine y_sld B h hX hbl hbA ((i + 1)).toNat (by omega) dL_law_493 ?_
  refine x_iset (z := x1) (by rw [ex1]) ?_
  refine lv_aload_n B.1 B.2.1 dL_law_494 rfl (lv_at hl 0 rfl) ?_
  refine lv_iload_n B.1 B.2.1 dL_law_495 rfl (lv_at hl 3 rfl) ?_
  refine x_iconst B dL_law_496 ?_
  refine x_iadd B dL_law_497 ?_
  refine y_sld B h hX hbl hbA ((i + 2)).toNat (by omega) dL_law_498 ?_
  refine x_iset (z := x2) (by rw [ex2]) ?_
  refine y_cV B h kX12 50 (MW.f hM3 0 _ rfl) k_X12_scale rfl (c_X12_scale l D Zk ca T E am _ hM3 x1 x2  (by omega) (by omega)) m_1550 rfl ⟨by decide, by show cc + 6 + 0 ≤ 600000 ∧ ss + 618 + 0 ≤ 7302250; omega⟩ hl.1 [] (Nat.le_of_ble_eq_true rfl) rfl dL_law_499 (fun r w8 hq H locs h => ?_)
  obtain ⟨z12, rfl, E13, hM10, ag11⟩ := hq
  have hC9 := CW.agree hC2 ag11
  show W p l e room_1 s m #[Value.ref b] below meth c _ _ (cc + 6) (ss + 618) (lw_Z below #[Value.ref b] s) (F0 m 502 ls [.int (iI z12)])
  refine lv_pop B.1 B.2.1 dL_law_502 rfl ?_
  refine lv_goto (tgt := 1368) B.1 B.2.1 dL_law_503 (by decide) ?_
  exact fin T G6 u7 E13 w8 _ _ _ _ _ (by omega) hC9 hM10 h (lv_sub hl [0, 1, 2, 3] rfl) (by omega) (by omega)
