set_option maxHeartbeats 8000000 in
set_option maxRecDepth 100000 in
theorem law_c8 {p : Program} {l : Launch} {e : Env} {s : State} {m : MethodId} {below : List Frame} {meth : Method} {c : Code} {D : va_G} {Zk : yK} {ca : Nat → ClassId} {b L : Nat} {xs : Nat → Int32} (B : xB p s m #[Value.ref b] meth c D ca "WindWordsLaw" code 4 (some .boolean)) (hX : va_X b L xs s s.heap) (hbl : b < s.heap.size) {T : Nat → Int → Int} {G : Nat → Int → Nat} {u : Int} {E : Nat → Int → Int} {ad am : Nat → Nat} {w : yW} {H : Heap} {locs : List Loc} {ls : Array Slot} {cc ss : Nat} {i : Int} (hu0 : 0 ≤ u) (hC : CW ca T G u ad w) (hM : MW ca T E am w) (h : yH D Zk (fun q : Nat => s.heap.size ≤ q) s w H locs) (hi : 0 ≤ i ∧ i + 6 ≤ L ∧ L ≤ 3072) (hcc : cc ≤ 500000 ∧ ss ≤ 7000000) (hl : lv_has ls 4 [(0, .ref b), (1, .ref (ad 0)), (2, .ref (am 0)), (3, .int (iI i))]) (fin : (∀ (T : Nat → Int → Int) (G : Nat → Int → Nat) (u : Int) (E : Nat → Int → Int) (w : yW) (H : Heap) (locs : List Loc) (ls : Array Slot) (c2 s2 : Nat), 0 ≤ u → CW ca T G u ad w → MW ca T E am w → yH D Zk (fun q : Nat => s.heap.size ≤ q) s w H locs → lv_has ls 4 [(0, .ref b), (1, .ref (ad 0)), (2, .ref (am 0)), (3, .int (iI i))] → c2 ≤ cc + 20 → s2 ≤ ss + 3000 → W p l e room_1 s m #[Value.ref b] below meth c H locs c2 s2 (lw_Z below #[Value.ref b] s) (F0 m 1368 ls []))) : W p l e room_1 s m #[Value.ref b] below meth c H locs cc ss (lw_Z below #[Value.ref b] s) (F0 m 506 ls []) := by
  have hbA : ¬ (fun q : Nat => s.heap.size ≤ q) b := Nat.not_le.mpr hbl
  have hs := pi_s (CW.pi hC)
  obtain ⟨x1, ex1⟩ : ∃ z : Int, z = (xs (i + 1).toNat).toInt := ⟨_, rfl⟩
  have hx1 : xr x1 := by rw [ex1]; exact iI_r _
  obtain ⟨x2, ex2⟩ : ∃ z : Int, z = (xs (i + 2).toNat).toInt := ⟨_, rfl⟩
  have hx2 : xr x2 := by rw [ex2]; exact iI_r _
  show W p l e room_1 s m #[Value.ref b] below meth c H locs (cc + 0) (ss + 0) (lw_Z below #[Value.ref b] s) (F0 m 506 ls [])
  refine lv_aload_n B.1 B.2.1 dL_law_506 rfl (lv_at hl 1 rfl) ?_
  refine lv_aload_n B.1 B.2.1 dL_law_507 rfl (lv_at hl 0 rfl) ?_
  refine lv_iload_n B.1 B.2.1 dL_law_508 rfl (lv_at hl 3 rfl) ?_
  refine x_iconst B dL_law_509 ?_
  refine x_iadd B dL_law_510 ?_
  refine y_sld B h hX hbl hbA ((i + 1)).toNat (by omega) dL_law_511 ?_
  refine x_iset (z := x1) (by rw [ex1]) ?_
  refine lv_aload_n B.1 B.2.1 dL_law_512 rfl (lv_at hl 0 rfl) ?_
  refine lv_iload_n B.1 B.2.1 dL_law_513 rfl (lv_at hl 3 rfl) ?_
  refine x_iconst B dL_law_514 ?_
  refine x_iadd B dL_law_515 ?_
  refine y_sld B h hX hbl hbA ((i + 2)).toNat (by omega) dL_law_516 ?_
  refine x_iset (z := x2) (by rw [ex2]) ?_
  refine y_cV B h kX11 0 (CW.f hC 0 _ rfl) k_X11_habits rfl (c_X11_habits l D Zk ca T G u ad _ hC x1 x2  (by omega) (by omega) (by omega)) m_818 rfl ⟨by decide, by show cc + 0 + 6 ≤ 600000 ∧ ss + 0 + 618 ≤ 7302250; omega⟩ hl.1 [] (Nat.le_of_ble_eq_true rfl) rfl dL_law_517 (fun r w1 hq H locs h => ?_)
  obtain ⟨z5, rfl, G6, u7, huu7, hC2, ag4⟩ := hq
  have hM3 := MW.agree hM ag4
  show W p l e room_1 s m #[Value.ref b] below meth c _ _ (cc + 6) (ss + 618) (lw_Z below #[Value.ref b] s) (F0 m 520 ls [.int (iI z5)])
  refine lv_pop B.1 B.2.1 dL_law_520 rfl ?_
  refine lv_aload_n B.1 B.2.1 dL_law_521 rfl (lv_at hl 2 rfl) ?_
  refine lv_aload_n B.1 B.2.1 dL_law_522 rfl (lv_at hl 0 rfl) ?_
  refine lv_iload_n B.1 B.2.1 dL_law_523 rfl (lv_at hl 3 rfl) ?_
  refine x_iconst B dL_law_524 ?_
  refine x_iadd B dL_law_525 ?_
  refine y_sld B h hX hbl hbA ((i + 1)).toNat (by omega) dL_law_526 ?_
  refine x_iset (z := x1) (by rw [ex1]) ?_
  refine lv_aload_n B.1 B.2.1 dL_law_527 rfl (lv_at hl 0 rfl) ?_
  refine lv_iload_n B.1 B.2.1 dL_law_528 rfl (lv_at hl 3 rfl) ?_
  refine x_iconst B dL_law_529 ?_
  refine x_iadd B dL_law_530 ?_
  refine y_sld B h hX hbl hbA ((i + 2)).toNat (by omega) dL_law_531 ?_
  refine x_iset (z := x2) (by rw [ex2]) ?_
  refine y_cV B h kX12 50 (MW.f hM3 0 _ rfl) k_X12_habits rfl (c_X12_habits l D Zk ca T E am _ hM3 x1 x2  (by omega) (by omega)) m_1651 rfl ⟨by decide, by show cc + 6 + 0 ≤ 600000 ∧ ss + 618 + 0 ≤ 7302250; omega⟩ hl.1 [] (Nat.le_of_ble_eq_true rfl) rfl dL_law_532 (fun r w8 hq H locs h => ?_)
  obtain ⟨z12, rfl, E13, hM10, ag11⟩ := hq
  have hC9 := CW.agree hC2 ag11
  show W p l e room_1 s m #[Value.ref b] below meth c _ _ (cc + 6) (ss + 618) (lw_Z below #[Value.ref b] s) (F0 m 535 ls [.int (iI z12)])
  refine lv_pop B.1 B.2.1 dL_law_535 rfl ?_
  refine lv_goto (tgt := 1368) B.1 B.2.1 dL_law_536 (by decide) ?_
  exact fin T G6 u7 E13 w8 _ _ _ _ _ (by omega) hC9 hM10 h (lv_sub hl [0, 1, 2, 3] rfl) (by omega) (by omega)
set_option maxHeartbeats 8000000 in
set_option maxRecDepth 100000 in
theorem law_c9 {p : Program} {l : Launch} {e : Env} {s : State} {m : MethodId} {below : List Frame} {meth : Method} {c : Code} {D : va_G} {Zk : yK} {ca : Nat → ClassId} {b L : Nat} {xs : Nat → Int32} (B : xB p s m #[Value.ref b] meth c D ca "WindWordsLaw" code 4 (some .boolean)) (hX : va_X b L xs s s.heap) (hbl : b < s.heap.size) {T : Nat → Int → Int} {G : Nat → Int → Nat} {u : Int} {E : Nat → Int → Int} {ad am : Nat → Nat} {w : yW} {H : Heap} {locs : List Loc} {ls : Array Slot} {cc ss : Nat} {i : Int} (hu0 : 0 ≤ u) (hC : CW ca T G u ad w) (hM : MW ca T E am w) (h : yH D Zk (fun q : Nat => s.heap.size ≤ q) s w H locs) (hi : 0 ≤ i ∧ i + 6 ≤ L ∧ L ≤ 3072) (hcc : cc ≤ 500000 ∧ ss ≤ 7000000) (hl : lv_has ls 4 [(0, .ref b), (1, .ref (ad 0)), (2, .ref (am 0)), (3, .int (iI i))]) (fin : (∀ (T : Nat → Int → Int) (G : Nat → Int → Nat) (u : Int) (E : Nat → Int → Int) (w : yW) (H : Heap) (locs : List Loc) (ls : Array Slot) (c2 s2 : Nat), 0 ≤ u → CW ca T G u ad w → MW ca T E am w → yH D Zk (fun q : Nat => s.heap.size ≤ q) s w H locs → lv_has ls 4 [(0, .ref b), (1, .ref (ad 0)), (2, .ref (am 0)), (3, .int (iI i))] → c2 ≤ cc + 20 → s2 ≤ ss + 3000 → W p l e room_1 s m #[Value.ref b] below meth c H locs c2 s2 (lw_Z below #[Value.ref b] s) (F0 m 1368 ls []))) : W p l e room_1 s m #[Value.ref b] below meth c H locs cc ss (lw_Z below #[Value.ref b] s) (F0 m 539 ls []) := by
  have hbA : ¬ (fun q : Nat => s.heap.size ≤ q) b := Nat.not_le.mpr hbl
  have hs := pi_s (CW.pi hC)
  show W p l e room_1 s m #[Value.ref b] below meth c H locs (cc + 0) (ss + 0) (lw_Z below #[Value.ref b] s) (F0 m 539 ls [])
  refine lv_aload_n B.1 B.2.1 dL_law_539 rfl (lv_at hl 1 rfl) ?_
  refine y_cV B h kX11 0 (CW.f hC 0 _ rfl) k_X11_fault rfl (c_X11_fault l D Zk ca T G u ad _ hC   ) m_822 rfl ⟨by decide, by show cc + 0 + 0 ≤ 600000 ∧ ss + 0 + 0 ≤ 7302250; omega⟩ hl.1 [] (Nat.le_of_ble_eq_true rfl) rfl dL_law_540 (fun r w1 hq H locs h => ?_)
  obtain ⟨rfl, z6, rfl, hz6⟩ := hq
  show W p l e room_1 s m #[Value.ref b] below meth c _ _ (cc + 0) (ss + 0) (lw_Z below #[Value.ref b] s) (F0 m 543 ls [.int (iI z6)])
  refine lv_pop B.1 B.2.1 dL_law_543 rfl ?_
  refine lv_aload_n B.1 B.2.1 dL_law_544 rfl (lv_at hl 2 rfl) ?_
  refine y_cV B h kX12 50 (MW.f hM 0 _ rfl) k_X12_fault rfl (c_X12_fault l D Zk ca T E am _ hM   ) m_1655 rfl ⟨by decide, by show cc + 0 + 0 ≤ 600000 ∧ ss + 0 + 0 ≤ 7302250; omega⟩ hl.1 [] (Nat.le_of_ble_eq_true rfl) rfl dL_law_545 (fun r w7 hq H locs h => ?_)
  obtain ⟨rfl, z12, rfl, hz12⟩ := hq
  show W p l e room_1 s m #[Value.ref b] below meth c _ _ (cc + 0) (ss + 0) (lw_Z below #[Value.ref b] s) (F0 m 548 ls [.int (iI z12)])
  refine lv_pop B.1 B.2.1 dL_law_548 rfl ?_
  refine lv_goto (tgt := 1368) B.1 B.2.1 dL_law_549 (by decide) ?_
  exact fin T G u E w _ _ _ _ _ (by omega) hC hM h (lv_sub hl [0, 1, 2, 3] rfl) (by omega) (by omega)
set_option maxHeartbeats 8000000 in
set_option maxRecDepth 100000 in
theorem law_c10 {p : Program} {l : Launch} {e : Env} {s : State} {m : MethodId} {below : List Frame} {meth : Method} {c : Code} {D : va_G} {Zk : yK} {ca : Nat → ClassId} {b L : Nat} {xs : Nat → Int32} (B : xB p s m #[Value.ref b] meth c D ca "WindWordsLaw" code 4 (some .boolean)) (hX : va_X b L xs s s.heap) (hbl : b < s.heap.size) {T : Nat → Int → Int} {G : Nat → Int → Nat} {u : Int} {E : Nat → Int → Int} {ad am : Nat → Nat} {w : yW} {H : Heap} {locs : List Loc} {ls : Array Slot} {cc ss : Nat} {i : Int} (hu0 : 0 ≤ u) (hC : CW ca T G u ad w) (hM : MW ca T E am w) (h : yH D Zk (fun q : Nat => s.heap.size ≤ q) s w H locs) (hi : 0 ≤ i ∧ i + 6 ≤ L ∧ L ≤ 3072) (hcc : cc ≤ 500000 ∧ ss ≤ 7000000) (hl : lv_has ls 4 [(0, .ref b), (1, .ref (ad 0)), (2, .ref (am 0)), (3, .int (iI i))]) (fin : (∀ (T : Nat → Int → Int) (G : Nat → Int → Nat) (u : Int) (E : Nat → Int → Int) (w : yW) (H : Heap) (locs : List Loc) (ls : Array Slot) (c2 s2 : Nat), 0 ≤ u → CW ca T G u ad w → MW ca T E am w → yH D Zk (fun q : Nat => s.heap.size ≤ q) s w H locs → lv_has ls 4 [(0, .ref b), (1, .ref (ad 0)), (2, .ref (am 0)), (3, .int (iI i))] → c2 ≤ cc + 20 → s2 ≤ ss + 3000 → W p l e room_1 s m #[Value.ref b] below meth c H locs c2 s2 (lw_Z below #[Value.ref b] s) (F0 m 1368 ls []))) : W p l e room_1 s m #[Value.ref b] below meth c H locs cc ss (lw_Z below #[Value.ref b] s) (F0 m 552 ls []) := by
  have hbA : ¬ (fun q : Nat => s.heap.size ≤ q) b := Nat.not_le.mpr hbl
  have hs := pi_s (CW.pi hC)
  obtain ⟨x1, ex1⟩ : ∃ z : Int, z = (xs (i + 1).toNat).toInt := ⟨_, rfl⟩
  have hx1 : xr x1 := by rw [ex1]; exact iI_r _
  obtain ⟨x2, ex2⟩ : ∃ z : Int, z = (xs (i + 2).toNat).toInt := ⟨_, rfl⟩
  have hx2 : xr x2 := by rw [ex2]; exact iI_r _
  show W p l e room_1 s m #[Value.ref b] below meth c H locs (cc + 0) (ss + 0) (lw_Z below #[Value.ref b] s) (F0 m 552 ls [])
  refine lv_aload_n B.1 B.2.1 dL_law_552 rfl (lv_at hl 1 rfl) ?_
  refine lv_aload_n B.1 B.2.1 dL_law_553 rfl (lv_at hl 0 rfl) ?_
  refine lv_iload_n B.1 B.2.1 dL_law_554 rfl (lv_at hl 3 rfl) ?_
  refine x_iconst B dL_law_555 ?_
  refine x_iadd B dL_law_556 ?_
  refine y_sld B h hX hbl hbA ((i + 1)).toNat (by omega) dL_law_557 ?_
  refine x_iset (z := x1) (by rw [ex1]) ?_
  refine lv_aload_n B.1 B.2.1 dL_law_558 rfl (lv_at hl 0 rfl) ?_
  refine lv_iload_n B.1 B.2.1 dL_law_559 rfl (lv_at hl 3 rfl) ?_
  refine x_iconst B dL_law_560 ?_
  refine x_iadd B dL_law_561 ?_
  refine y_sld B h hX hbl hbA ((i + 2)).toNat (by omega) dL_law_562 ?_
  refine x_iset (z := x2) (by rw [ex2]) ?_
  refine y_cV B h kX11 0 (CW.f hC 0 _ rfl) k_X11_reading rfl (c_X11_reading l D Zk ca T G u ad _ hC x1 x2  (by omega) (by omega)) m_826 rfl ⟨by decide, by show cc + 0 + 0 ≤ 600000 ∧ ss + 0 + 0 ≤ 7302250; omega⟩ hl.1 [] (Nat.le_of_ble_eq_true rfl) rfl dL_law_563 (fun r w1 hq H locs h => ?_)
  obtain ⟨rfl, z6, rfl, hz6⟩ := hq
  show W p l e room_1 s m #[Value.ref b] below meth c _ _ (cc + 0) (ss + 0) (lw_Z below #[Value.ref b] s) (F0 m 566 ls [.int (iI z6)])
  refine lv_pop B.1 B.2.1 dL_law_566 rfl ?_
  refine lv_aload_n B.1 B.2.1 dL_law_567 rfl (lv_at hl 2 rfl) ?_
  refine lv_aload_n B.1 B.2.1 dL_law_568 rfl (lv_at hl 0 rfl) ?_
  refine lv_iload_n B.1 B.2.1 dL_law_569 rfl (lv_at hl 3 rfl) ?_
  refine x_iconst B dL_law_570 ?_
  refine x_iadd B dL_law_571 ?_
  refine y_sld B h hX hbl hbA ((i + 1)).toNat (by omega) dL_law_572 ?_
  refine x_iset (z := x1) (by rw [ex1]) ?_
  refine lv_aload_n B.1 B.2.1 dL_law_573 rfl (lv_at hl 0 rfl) ?_
  refine lv_iload_n B.1 B.2.1 dL_law_574 rfl (lv_at hl 3 rfl) ?_
  refine x_iconst B dL_law_575 ?_
  refine x_iadd B dL_law_576 ?_
  refine y_sld B h hX hbl hbA ((i + 2)).toNat (by omega) dL_law_577 ?_
  refine x_iset (z := x2) (by rw [ex2]) ?_
  refine y_cV B h kX12 50 (MW.f hM 0 _ rfl) k_X12_reading rfl (c_X12_reading l D Zk ca T E am _ hM x1 x2  (by omega) (by omega)) m_1812 rfl ⟨by decide, by show cc + 0 + 0 ≤ 600000 ∧ ss + 0 + 0 ≤ 7302250; omega⟩ hl.1 [] (Nat.le_of_ble_eq_true rfl) rfl dL_law_578 (fun r w7 hq H locs h => ?_)
  obtain ⟨rfl, z12, rfl, hz12⟩ := hq
  show W p l e room_1 s m #[Value.ref b] below meth c _ _ (cc + 0) (ss + 0) (lw_Z below #[Value.ref b] s) (F0 m 581 ls [.int (iI z12)])
  refine lv_pop B.1 B.2.1 dL_law_581 rfl ?_
  refine lv_goto (tgt := 1368) B.1 B.2.1 dL_law_582 (by decide) ?_
  exact fin T G u E w _ _ _ _ _ (by omega) hC hM h (lv_sub hl [0, 1, 2, 3] rfl) (by omega) (by omega)
set_option maxHeartbeats 8000000 in
set_option maxRecDepth 100000 in
theorem law_c11 {p : Program} {l : Launch} {e : Env} {s : State} {m : MethodId} {below : List Frame} {meth : Method} {c : Code} {D : va_G} {Zk : yK} {ca : Nat → ClassId} {b L : Nat} {xs : Nat → Int32} (B : xB p s m #[Value.ref b] meth c D ca "WindWordsLaw" code 4 (some .boolean)) (hX : va_X b L xs s s.heap) (hbl : b < s.heap.size) {T : Nat → Int → Int} {G : Nat → Int → Nat} {u : Int} {E : Nat → Int → Int} {ad am : Nat → Nat} {w : yW} {H : Heap} {locs : List Loc} {ls : Array Slot} {cc ss : Nat} {i : Int} (hu0 : 0 ≤ u) (hC : CW ca T G u ad w) (hM : MW ca T E am w) (h : yH D Zk (fun q : Nat => s.heap.size ≤ q) s w H locs) (hi : 0 ≤ i ∧ i + 6 ≤ L ∧ L ≤ 3072) (hcc : cc ≤ 500000 ∧ ss ≤ 7000000) (hl : lv_has ls 4 [(0, .ref b), (1, .ref (ad 0)), (2, .ref (am 0)), (3, .int (iI i))]) (fin : (∀ (T : Nat → Int → Int) (G : Nat → Int → Nat) (u : Int) (E : Nat → Int → Int) (w : yW) (H : Heap) (locs : List Loc) (ls : Array Slot) (c2 s2 : Nat), 0 ≤ u → CW ca T G u ad w → MW ca T E am w → yH D Zk (fun q : Nat => s.heap.size ≤ q) s w H locs → lv_has ls 4 [(0, .ref b), (1, .ref (ad 0)), (2, .ref (am 0)), (3, .int (iI i))] → c2 ≤ cc + 20 → s2 ≤ ss + 3000 → W p l e room_1 s m #[Value.ref b] below meth c H locs c2 s2 (lw_Z below #[Value.ref b] s) (F0 m 1368 ls []))) : W p l e room_1 s m #[Value.ref b] below meth c H locs cc ss (lw_Z below #[Value.ref b] s) (F0 m 585 ls []) := by
  have hbA : ¬ (fun q : Nat => s.heap.size ≤ q) b := Nat.not_le.mpr hbl
  have hs := pi_s (CW.pi hC)
  obtain ⟨x1, ex1⟩ : ∃ z : Int, z = (xs (i + 1).toNat).toInt := ⟨_, rfl⟩
  have hx1 : xr x1 := by rw [ex1]; exact iI_r _
  obtain ⟨x2, ex2⟩ : ∃ z : Int, z = (xs (i + 2).toNat).toInt := ⟨_, rfl⟩
  have hx2 : xr x2 := by rw [ex2]; exact iI_r _
  obtain ⟨x3, ex3⟩ : ∃ z : Int, z = (xs (i + 3).toNat).toInt := ⟨_, rfl⟩
  have hx3 : xr x3 := by rw [ex3]; exact iI_r _
  obtain ⟨x4, ex4⟩ : ∃ z : Int, z = (xs (i + 4).toNat).toInt := ⟨_, rfl⟩
  have hx4 : xr x4 := by rw [ex4]; exact iI_r _
  show W p l e room_1 s m #[Value.ref b] below meth c H locs (cc + 0) (ss + 0) (lw_Z below #[Value.ref b] s) (F0 m 585 ls [])
  refine lv_aload_n B.1 B.2.1 dL_law_585 rfl (lv_at hl 1 rfl) ?_
  refine lv_aload_n B.1 B.2.1 dL_law_586 rfl (lv_at hl 0 rfl) ?_
  refine lv_iload_n B.1 B.2.1 dL_law_587 rfl (lv_at hl 3 rfl) ?_
  refine x_iconst B dL_law_588 ?_
  refine x_iadd B dL_law_589 ?_
  refine y_sld B h hX hbl hbA ((i + 1)).toNat (by omega) dL_law_590 ?_
  refine x_iset (z := x1) (by rw [ex1]) ?_
  refine lv_aload_n B.1 B.2.1 dL_law_591 rfl (lv_at hl 0 rfl) ?_
  refine lv_iload_n B.1 B.2.1 dL_law_592 rfl (lv_at hl 3 rfl) ?_
  refine x_iconst B dL_law_593 ?_
  refine x_iadd B dL_law_594 ?_
  refine y_sld B h hX hbl hbA ((i + 2)).toNat (by omega) dL_law_595 ?_
  refine x_iset (z := x2) (by rw [ex2]) ?_
  refine lv_aload_n B.1 B.2.1 dL_law_596 rfl (lv_at hl 0 rfl) ?_
  refine lv_iload_n B.1 B.2.1 dL_law_597 rfl (lv_at hl 3 rfl) ?_
  refine x_iconst B dL_law_598 ?_
  refine x_iadd B dL_law_599 ?_
  refine y_sld B h hX hbl hbA ((i + 3)).toNat (by omega) dL_law_600 ?_
  refine x_iset (z := x3) (by rw [ex3]) ?_
  refine lv_aload_n B.1 B.2.1 dL_law_601 rfl (lv_at hl 0 rfl) ?_
  refine lv_iload_n B.1 B.2.1 dL_law_602 rfl (lv_at hl 3 rfl) ?_
  refine x_iconst B dL_law_603 ?_
  refine x_iadd B dL_law_604 ?_
  refine y_sld B h hX hbl hbA ((i + 4)).toNat (by omega) dL_law_605 ?_
  refine x_iset (z := x4) (by rw [ex4]) ?_
  refine y_cV B h kX11 0 (CW.f hC 0 _ rfl) k_X11_reads rfl (c_X11_reads l D Zk ca T G u ad _ hC x1 x2 x3 x4  (by omega) (by omega) (by omega) (by omega)) m_874 rfl ⟨by decide, by show cc + 0 + 0 ≤ 600000 ∧ ss + 0 + 0 ≤ 7302250; omega⟩ hl.1 [] (Nat.le_of_ble_eq_true rfl) rfl dL_law_606 (fun r w1 hq H locs h => ?_)
  obtain ⟨rfl, z6, rfl, hz6⟩ := hq
  show W p l e room_1 s m #[Value.ref b] below meth c _ _ (cc + 0) (ss + 0) (lw_Z below #[Value.ref b] s) (F0 m 609 ls [.int (iI z6)])
  refine lv_pop B.1 B.2.1 dL_law_609 rfl ?_
  refine lv_aload_n B.1 B.2.1 dL_law_610 rfl (lv_at hl 2 rfl) ?_
  refine lv_aload_n B.1 B.2.1 dL_law_611 rfl (lv_at hl 0 rfl) ?_
  refine lv_iload_n B.1 B.2.1 dL_law_612 rfl (lv_at hl 3 rfl) ?_
  refine x_iconst B dL_law_613 ?_
  refine x_iadd B dL_law_614 ?_
  refine y_sld B h hX hbl hbA ((i + 1)).toNat (by omega) dL_law_615 ?_
  refine x_iset (z := x1) (by rw [ex1]) ?_
  refine lv_aload_n B.1 B.2.1 dL_law_616 rfl (lv_at hl 0 rfl) ?_
  refine lv_iload_n B.1 B.2.1 dL_law_617 rfl (lv_at hl 3 rfl) ?_
  refine x_iconst B dL_law_618 ?_
  refine x_iadd B dL_law_619 ?_
  refine y_sld B h hX hbl hbA ((i + 2)).toNat (by omega) dL_law_620 ?_
  refine x_iset (z := x2) (by rw [ex2]) ?_
  refine lv_aload_n B.1 B.2.1 dL_law_621 rfl (lv_at hl 0 rfl) ?_
  refine lv_iload_n B.1 B.2.1 dL_law_622 rfl (lv_at hl 3 rfl) ?_
  refine x_iconst B dL_law_623 ?_
  refine x_iadd B dL_law_624 ?_
  refine y_sld B h hX hbl hbA ((i + 3)).toNat (by omega) dL_law_625 ?_
  refine x_iset (z := x3) (by rw [ex3]) ?_
  refine lv_aload_n B.1 B.2.1 dL_law_626 rfl (lv_at hl 0 rfl) ?_
  refine lv_iload_n B.1 B.2.1 dL_law_627 rfl (lv_at hl 3 rfl) ?_
  refine x_iconst B dL_law_628 ?_
  refine x_iadd B dL_law_629 ?_
  refine y_sld B h hX hbl hbA ((i + 4)).toNat (by omega) dL_law_630 ?_
  refine x_iset (z := x4) (by rw [ex4]) ?_
  refine y_cV B h kX12 50 (MW.f hM 0 _ rfl) k_X12_reads_ rfl (c_X12_reads_ l D Zk ca T E am _ hM x1 x2 x3 x4  (by omega) (by omega) (by omega) (by omega)) m_1659 rfl ⟨by decide, by show cc + 0 + 0 ≤ 600000 ∧ ss + 0 + 0 ≤ 7302250; omega⟩ hl.1 [] (Nat.le_of_ble_eq_true rfl) rfl dL_law_631 (fun r w7 hq H locs h => ?_)
  obtain ⟨rfl, z12, rfl, hz12⟩ := hq
  show W p l e room_1 s m #[Value.ref b] below meth c _ _ (cc + 0) (ss + 0) (lw_Z below #[Value.ref b] s) (F0 m 634 ls [.int (iI z12)])
  refine lv_pop B.1 B.2.1 dL_law_634 rfl ?_
  refine lv_goto (tgt := 1368) B.1 B.2.1 dL_law_635 (by decide) ?_
  exact fin T G u E w _ _ _ _ _ (by omega) hC hM h (lv_sub hl [0, 1, 2, 3] rfl) (by omega) (by omega)
set_option maxHeartbeats 8000000 in
set_option maxRecDepth 100000 in
theorem law_c12 {p : Program} {l : Launch} {e : Env} {s : State} {m : MethodId} {below : List Frame} {meth : Method} {c : Code} {D : va_G} {Zk : yK} {ca : Nat → ClassId} {b L : Nat} {xs : Nat → Int32} (B : xB p s m #[Value.ref b] meth c D ca "WindWordsLaw" code 4 (some .boolean)) (hX : va_X b L xs s s.heap) (hbl : b < s.heap.size) {T : Nat → Int → Int} {G : Nat → Int → Nat} {u : Int} {E : Nat → Int → Int} {ad am : Nat → Nat} {w : yW} {H : Heap} {locs : List Loc} {ls : Array Slot} {cc ss : Nat} {i : Int} (hu0 : 0 ≤ u) (hC : CW ca T G u ad w) (hM : MW ca T E am w) (h : yH D Zk (fun q : Nat => s.heap.size ≤ q) s w H locs) (hi : 0 ≤ i ∧ i + 6 ≤ L ∧ L ≤ 3072) (hcc : cc ≤ 500000 ∧ ss ≤ 7000000) (hl : lv_has ls 4 [(0, .ref b), (1, .ref (ad 0)), (2, .ref (am 0)), (3, .int (iI i))]) (fin : (∀ (T : Nat → Int → Int) (G : Nat → Int → Nat) (u : Int) (E : Nat → Int → Int) (w : yW) (H : Heap) (locs : List Loc) (ls : Array Slot) (c2 s2 : Nat), 0 ≤ u → CW ca T G u ad w → MW ca T E am w → yH D Zk (fun q : Nat => s.heap.size ≤ q) s w H locs → lv_has ls 4 [(0, .ref b), (1, .ref (ad 0)), (2, .ref (am 0)), (3, .int (iI i))] → c2 ≤ cc + 20 → s2 ≤ ss + 3000 → W p l e room_1 s m #[Value.ref b] below meth c H locs c2 s2 (lw_Z below #[Value.ref b] s) (F0 m 1368 ls []))) : W p l e room_1 s m #[Value.ref b] below meth c H locs cc ss (lw_Z below #[Value.ref b] s) (F0 m 638 ls []) := by
  have hbA : ¬ (fun q : Nat => s.heap.size ≤ q) b := Nat.not_le.mpr hbl
  have hs := pi_s (CW.pi hC)
  obtain ⟨x1, ex1⟩ : ∃ z : Int, z = (xs (i + 1).toNat).toInt := ⟨_, rfl⟩
  have hx1 : xr x1 := by rw [ex1]; exact iI_r _
  obtain ⟨x2, ex2⟩ : ∃ z : Int, z = (xs (i + 2).toNat).toInt := ⟨_, rfl⟩
  have hx2 : xr x2 := by rw [ex2]; exact iI_r _
  obtain ⟨x3, ex3⟩ : ∃ z : Int, z = (xs (i + 3).toNat).toInt := ⟨_, rfl⟩
  have hx3 : xr x3 := by rw [ex3]; exact iI_r _
  obtain ⟨x4, ex4⟩ : ∃ z : Int, z = (xs (i + 4).toNat).toInt := ⟨_, rfl⟩
  have hx4 : xr x4 := by rw [ex4]; exact iI_r _
  obtain ⟨x5, ex5⟩ : ∃ z : Int, z = (xs (i + 5).toNat).toInt := ⟨_, rfl⟩
  have hx5 : xr x5 := by rw [ex5]; exact iI_r _
  show W p l e room_1 s m #[Value.ref b] below meth c H locs (cc + 0) (ss + 0) (lw_Z below #[Value.ref b] s) (F0 m 638 ls [])
  refine lv_aload_n B.1 B.2.1 dL_law_638 rfl (lv_at hl 1 rfl) ?_
  refine lv_aload_n B.1 B.2.1 dL_law_639 rfl (lv_at hl 0 rfl) ?_
  refine lv_iload_n B.1 B.2.1 dL_law_640 rfl (lv_at hl 3 rfl) ?_
  refine x_iconst B dL_law_641 ?_
  refine x_iadd B dL_law_642 ?_
  refine y_sld B h hX hbl hbA ((i + 1)).toNat (by omega) dL_law_643 ?_
  refine x_iset (z := x1) (by rw [ex1]) ?_
  refine lv_aload_n B.1 B.2.1 dL_law_644 rfl (lv_at hl 0 rfl) ?_
  refine lv_iload_n B.1 B.2.1 dL_law_645 rfl (lv_at hl 3 rfl) ?_
  refine x_iconst B dL_law_646 ?_
  refine x_iadd B dL_law_647 ?_
  refine y_sld B h hX hbl hbA ((i + 2)).toNat (by omega) dL_law_648 ?_
  refine x_iset (z := x2) (by rw [ex2]) ?_
  refine lv_aload_n B.1 B.2.1 dL_law_649 rfl (lv_at hl 0 rfl) ?_
  refine lv_iload_n B.1 B.2.1 dL_law_650 rfl (lv_at hl 3 rfl) ?_
  refine x_iconst B dL_law_651 ?_
  refine x_iadd B dL_law_652 ?_
  refine y_sld B h hX hbl hbA ((i + 3)).toNat (by omega) dL_law_653 ?_
  refine x_iset (z := x3) (by rw [ex3]) ?_
  refine lv_aload_n B.1 B.2.1 dL_law_654 rfl (lv_at hl 0 rfl) ?_
  refine lv_iload_n B.1 B.2.1 dL_law_655 rfl (lv_at hl 3 rfl) ?_
  refine x_iconst B dL_law_656 ?_
  refine x_iadd B dL_law_657 ?_
  refine y_sld B h hX hbl hbA ((i + 4)).toNat (by omega) dL_law_658 ?_
  refine x_iset (z := x4) (by rw [ex4]) ?_
  refine lv_aload_n B.1 B.2.1 dL_law_659 rfl (lv_at hl 0 rfl) ?_
  refine lv_iload_n B.1 B.2.1 dL_law_660 rfl (lv_at hl 3 rfl) ?_
  refine x_iconst B dL_law_661 ?_
  refine x_iadd B dL_law_662 ?_
  refine y_sld B h hX hbl hbA ((i + 5)).toNat (by omega) dL_law_663 ?_
  refine x_iset (z := x5) (by rw [ex5]) ?_
  refine y_cV B h kX11 0 (CW.f hC 0 _ rfl) k_X11_blow rfl (c_X11_blow l D Zk ca T G u ad _ hC x1 x2 x3 x4 x5  (by omega) (by omega) (by omega) (by omega) (by omega)) m_908 rfl ⟨by decide, by show cc + 0 + 0 ≤ 600000 ∧ ss + 0 + 0 ≤ 7302250; omega⟩ hl.1 [] (Nat.le_of_ble_eq_true rfl) rfl dL_law_664 (fun r w1 hq H locs h => ?_)
  obtain ⟨rfl, z6, rfl, hz6⟩ := hq
  show W p l e room_1 s m #[Value.ref b] below meth c _ _ (cc + 0) (ss + 0) (lw_Z below #[Value.ref b] s) (F0 m 667 ls [.int (iI z6)])
  refine lv_pop B.1 B.2.1 dL_law_667 rfl ?_
  refine lv_aload_n B.1 B.2.1 dL_law_668 rfl (lv_at hl 2 rfl) ?_
  refine lv_aload_n B.1 B.2.1 dL_law_669 rfl (lv_at hl 0 rfl) ?_
  refine lv_iload_n B.1 B.2.1 dL_law_670 rfl (lv_at hl 3 rfl) ?_
  refine x_iconst B dL_law_671 ?_
  refine x_iadd B dL_law_672 ?_
  refine y_sld B h hX hbl hbA ((i + 1)).toNat (by omega) dL_law_673 ?_
  refine x_iset (z := x1) (by rw [ex1]) ?_
  refine lv_aload_n B.1 B.2.1 dL_law_674 rfl (lv_at hl 0 rfl) ?_
  refine lv_iload_n B.1 B.2.1 dL_law_675 rfl (lv_at hl 3 rfl) ?_
  refine x_iconst B dL_law_676 ?_
  refine x_iadd B dL_law_677 ?_
  refine y_sld B h hX hbl hbA ((i + 2)).toNat (by omega) dL_law_678 ?_
  refine x_iset (z := x2) (by rw [ex2]) ?_
  refine lv_aload_n B.1 B.2.1 dL_law_679 rfl (lv_at hl 0 rfl) ?_
  refine lv_iload_n B.1 B.2.1 dL_law_680 rfl (lv_at hl 3 rfl) ?_
  refine x_iconst B dL_law_681 ?_
  refine x_iadd B dL_law_682 ?_
  refine y_sld B h hX hbl hbA ((i + 3)).toNat (by omega) dL_law_683 ?_
  refine x_iset (z := x3) (by rw [ex3]) ?_
  refine lv_aload_n B.1 B.2.1 dL_law_684 rfl (lv_at hl 0 rfl) ?_
  refine lv_iload_n B.1 B.2.1 dL_law_685 rfl (lv_at hl 3 rfl) ?_
  refine x_iconst B dL_law_686 ?_
  refine x_iadd B dL_law_687 ?_
  refine y_sld B h hX hbl hbA ((i + 4)).toNat (by omega) dL_law_688 ?_
  refine x_iset (z := x4) (by rw [ex4]) ?_
  refine lv_aload_n B.1 B.2.1 dL_law_689 rfl (lv_at hl 0 rfl) ?_
  refine lv_iload_n B.1 B.2.1 dL_law_690 rfl (lv_at hl 3 rfl) ?_
  refine x_iconst B dL_law_691 ?_
  refine x_iadd B dL_law_692 ?_
  refine y_sld B h hX hbl hbA ((i + 5)).toNat (by omega) dL_law_693 ?_
  refine x_iset (z := x5) (by rw [ex5]) ?_
  refine y_cV B h kX12 50 (MW.f hM 0 _ rfl) k_X12_blow rfl (c_X12_blow l D Zk ca T E am _ hM x1 x2 x3 x4 x5  (by omega) (by omega) (by omega) (by omega) (by omega)) m_1679 rfl ⟨by decide, by show cc + 0 + 0 ≤ 600000 ∧ ss + 0 + 0 ≤ 7302250; omega⟩ hl.1 [] (Nat.le_of_ble_eq_true rfl) rfl dL_law_694 (fun r w7 hq H locs h => ?_)
  obtain ⟨rfl, z12, rfl, hz12⟩ := hq
  show W p l e room_1 s m #[Value.ref b] below meth c _ _ (cc + 0) (ss + 0) (lw_Z below #[Value.ref b] s) (F0 m 697 ls [.int (iI z12)])
  refine lv_pop B.1 B.2.1 dL_law_697 rfl ?_
  refine lv_goto (tgt := 1368) B.1 B.2.1 dL_law_698 (by decide) ?_
  exact fin T G u E w _ _ _ _ _ (by omega) hC hM h (lv_sub hl [0, 1, 2, 3] rfl) (by omega) (by omega)
set_option maxHeartbeats 8000000 in
set_option maxRecDepth 100000 in
theorem law_c13 {p : Program} {l : Launch} {e : Env} {s : State} {m : MethodId} {below : List Frame} {meth : Method} {c : Code} {D : va_G} {Zk : yK} {ca : Nat → ClassId} {b L : Nat} {xs : Nat → Int32} (B : xB p s m #[Value.ref b] meth c D ca "WindWordsLaw" code 4 (some .boolean)) (hX : va_X b L xs s s.heap) (hbl : b < s.heap.size) {T : Nat → Int → Int} {G : Nat → Int → Nat} {u : Int} {E : Nat → Int → Int} {ad am : Nat → Nat} {w : yW} {H : Heap} {locs : List Loc} {ls : Array Slot} {cc ss : Nat} {i : Int} (hu0 : 0 ≤ u) (hC : CW ca T G u ad w) (hM : MW ca T E am w) (h : yH D Zk (fun q : Nat => s.heap.size ≤ q) s w H locs) (hi : 0 ≤ i ∧ i + 6 ≤ L ∧ L ≤ 3072) (hcc : cc ≤ 500000 ∧ ss ≤ 7000000) (hl : lv_has ls 4 [(0, .ref b), (1, .ref (ad 0)), (2, .ref (am 0)), (3, .int (iI i))]) (fin : (∀ (T : Nat → Int → Int) (G : Nat → Int → Nat) (u : Int) (E : Nat → Int → Int) (w : yW) (H : Heap) (locs : List Loc) (ls : Array Slot) (c2 s2 : Nat), 0 ≤ u → CW ca T G u ad w → MW ca T E am w → yH D Zk (fun q : Nat => s.heap.size ≤ q) s w H locs → lv_has ls 4 [(0, .ref b), (1, .ref (ad 0)), (2, .ref (am 0)), (3, .int (iI i))] → c2 ≤ cc + 20 → s2 ≤ ss + 3000 → W p l e room_1 s m #[Value.ref b] below meth c H locs c2 s2 (lw_Z below #[Value.ref b] s) (F0 m 1368 ls []))) : W p l e room_1 s m #[Value.ref b] below meth c H locs cc ss (lw_Z below #[Value.ref b] s) (F0 m 701 ls []) := by
  have hbA : ¬ (fun q : Nat => s.heap.size ≤ q) b := Nat.not_le.mpr hbl
  have hs := pi_s (CW.pi hC)
  obtain ⟨x1, ex1⟩ : ∃ z : Int, z = (xs (i + 1).toNat).toInt := ⟨_, rfl⟩
  have hx1 : xr x1 := by rw [ex1]; exact iI_r _
  obtain ⟨x2, ex2⟩ : ∃ z : Int, z = (xs (i + 2).toNat).toInt := ⟨_, rfl⟩
  have hx2 : xr x2 := by rw [ex2]; exact iI_r _
  obtain ⟨x3, ex3⟩ : ∃ z : Int, z = (xs (i + 3).toNat).toInt := ⟨_, rfl⟩
  have hx3 : xr x3 := by rw [ex3]; exact iI_r _
  obtain ⟨x4, ex4⟩ : ∃ z : Int, z = (xs (i + 4).toNat).toInt := ⟨_, rfl⟩
  have hx4 : xr x4 := by rw [ex4]; exact iI_r _
  obtain ⟨x5, ex5⟩ : ∃ z : Int, z = (xs (i + 5).toNat).toInt := ⟨_, rfl⟩
  have hx5 : xr x5 := by rw [ex5]; exact iI_r _
  show W p l e room_1 s m #[Value.ref b] below meth c H locs (cc + 0) (ss + 0) (lw_Z below #[Value.ref b] s) (F0 m 701 ls [])
  refine lv_aload_n B.1 B.2.1 dL_law_701 rfl (lv_at hl 1 rfl) ?_
  refine lv_aload_n B.1 B.2.1 dL_law_702 rfl (lv_at hl 0 rfl) ?_
  refine lv_iload_n B.1 B.2.1 dL_law_703 rfl (lv_at hl 3 rfl) ?_
  refine x_iconst B dL_law_704 ?_
  refine x_iadd B dL_law_705 ?_
  refine y_sld B h hX hbl hbA ((i + 1)).toNat (by omega) dL_law_706 ?_
  refine x_iset (z := x1) (by rw [ex1]) ?_
  refine lv_aload_n B.1 B.2.1 dL_law_707 rfl (lv_at hl 0 rfl) ?_
  refine lv_iload_n B.1 B.2.1 dL_law_708 rfl (lv_at hl 3 rfl) ?_
  refine x_iconst B dL_law_709 ?_
  refine x_iadd B dL_law_710 ?_
  refine y_sld B h hX hbl hbA ((i + 2)).toNat (by omega) dL_law_711 ?_
  refine x_iset (z := x2) (by rw [ex2]) ?_
  refine lv_aload_n B.1 B.2.1 dL_law_712 rfl (lv_at hl 0 rfl) ?_
  refine lv_iload_n B.1 B.2.1 dL_law_713 rfl (lv_at hl 3 rfl) ?_
  refine x_iconst B dL_law_714 ?_
  refine x_iadd B dL_law_715 ?_
  refine y_sld B h hX hbl hbA ((i + 3)).toNat (by omega) dL_law_716 ?_
  refine x_iset (z := x3) (by rw [ex3]) ?_
  refine lv_aload_n B.1 B.2.1 dL_law_717 rfl (lv_at hl 0 rfl) ?_
  refine lv_iload_n B.1 B.2.1 dL_law_718 rfl (lv_at hl 3 rfl) ?_
  refine x_iconst B dL_law_719 ?_
  refine x_iadd B dL_law_720 ?_
  refine y_sld B h hX hbl hbA ((i + 4)).toNat (by omega) dL_law_721 ?_
  refine x_iset (z := x4) (by rw [ex4]) ?_
  refine lv_aload_n B.1 B.2.1 dL_law_722 rfl (lv_at hl 0 rfl) ?_
  refine lv_iload_n B.1 B.2.1 dL_law_723 rfl (lv_at hl 3 rfl) ?_
  refine x_iconst B dL_law_724 ?_
  refine x_iadd B dL_law_725 ?_
  refine y_sld B h hX hbl hbA ((i + 5)).toNat (by omega) dL_law_726 ?_
  refine x_iset (z := x5) (by rw [ex5]) ?_
  refine y_cV B h kX11 0 (CW.f hC 0 _ rfl) k_X11_run rfl (c_X11_run l D Zk ca T G u ad _ hC x1 x2 x3 x4 x5  (by omega) (by omega) (by omega) (by omega) (by omega)) m_925 rfl ⟨by decide, by show cc + 0 + 0 ≤ 600000 ∧ ss + 0 + 0 ≤ 7302250; omega⟩ hl.1 [] (Nat.le_of_ble_eq_true rfl) rfl dL_law_727 (fun r w1 hq H locs h => ?_)
  obtain ⟨rfl, z6, rfl, hz6⟩ := hq
  show W p l e room_1 s m #[Value.ref b] below meth c _ _ (cc + 0) (ss + 0) (lw_Z below #[Value.ref b] s) (F0 m 730 ls [.int (iI z6)])
  refine lv_pop B.1 B.2.1 dL_law_730 rfl ?_
  refine lv_aload_n B.1 B.2.1 dL_law_731 rfl (lv_at hl 2 rfl) ?_
  refine lv_aload_n B.1 B.2.1 dL_law_732 rfl (lv_at hl 0 rfl) ?_
  refine lv_iload_n B.1 B.2.1 dL_law_733 rfl (lv_at hl 3 rfl) ?_
  refine x_iconst B dL_law_734 ?_
  refine x_iadd B dL_law_735 ?_
  refine y_sld B h hX hbl hbA ((i + 1)).toNat (by omega) dL_law_736 ?_
  refine x_iset (z := x1) (by rw [ex1]) ?_
  refine lv_aload_n B.1 B.2.1 dL_law_737 rfl (lv_at hl 0 rfl) ?_
  refine lv_iload_n B.1 B.2.1 dL_law_738 rfl (lv_at hl 3 rfl) ?_
  refine x_iconst B dL_law_739 ?_
  refine x_iadd B dL_law_740 ?_
  refine y_sld B h hX hbl hbA ((i + 2)).toNat (by omega) dL_law_741 ?_
  refine x_iset (z := x2) (by rw [ex2]) ?_
  refine lv_aload_n B.1 B.2.1 dL_law_742 rfl (lv_at hl 0 rfl) ?_
  refine lv_iload_n B.1 B.2.1 dL_law_743 rfl (lv_at hl 3 rfl) ?_
  refine x_iconst B dL_law_744 ?_
  refine x_iadd B dL_law_745 ?_
  refine y_sld B h hX hbl hbA ((i + 3)).toNat (by omega) dL_law_746 ?_
  refine x_iset (z := x3) (by rw [ex3]) ?_
  refine lv_aload_n B.1 B.2.1 dL_law_747 rfl (lv_at hl 0 rfl) ?_
  refine lv_iload_n B.1 B.2.1 dL_law_748 rfl (lv_at hl 3 rfl) ?_
  refine x_iconst B dL_law_749 ?_
  refine x_iadd B dL_law_750 ?_
  refine y_sld B h hX hbl hbA ((i + 4)).toNat (by omega) dL_law_751 ?_
  refine x_iset (z := x4) (by rw [ex4]) ?_
  refine lv_aload_n B.1 B.2.1 dL_law_752 rfl (lv_at hl 0 rfl) ?_
  refine lv_iload_n B.1 B.2.1 dL_law_753 rfl (lv_at hl 3 rfl) ?_
  refine x_iconst B dL_law_754 ?_
  refine x_iadd B dL_law_755 ?_
  refine y_sld B h hX hbl hbA ((i + 5)).toNat (by omega) dL_law_756 ?_
  refine x_iset (z := x5) (by rw [ex5]) ?_
  refine y_cV B h kX12 50 (MW.f hM 0 _ rfl) k_X12_run rfl (c_X12_run l D Zk ca T E am _ hM x1 x2 x3 x4 x5  (by omega) (by omega) (by omega) (by omega) (by omega)) m_1694 rfl ⟨by decide, by show cc + 0 + 0 ≤ 600000 ∧ ss + 0 + 0 ≤ 7302250; omega⟩ hl.1 [] (Nat.le_of_ble_eq_true rfl) rfl dL_law_757 (fun r w7 hq H locs h => ?_)
  obtain ⟨rfl, z12, rfl, hz12⟩ := hq
  show W p l e room_1 s m #[Value.ref b] below meth c _ _ (cc + 0) (ss + 0) (lw_Z below #[Value.ref b] s) (F0 m 760 ls [.int (iI z12)])
  refine lv_pop B.1 B.2.1 dL_law_760 rfl ?_
  refine lv_goto (tgt := 1368) B.1 B.2.1 dL_law_761 (by decide) ?_
  exact fin T G u E w _ _ _ _ _ (by omega) hC hM h (lv_sub hl [0, 1, 2, 3] rfl) (by omega) (by omega)
