set_option maxHeartbeats 8000000 in
set_option maxRecDepth 100000 in
theorem law_c14 {p : Program} {l : Launch} {e : Env} {s : State} {m : MethodId} {below : List Frame} {meth : Method} {c : Code} {D : va_G} {Zk : yK} {ca : Nat → ClassId} {b L : Nat} {xs : Nat → Int32} (B : xB p s m #[Value.ref b] meth c D ca "WindWordsLaw" code 4 (some .boolean)) (hX : va_X b L xs s s.heap) (hbl : b < s.heap.size) {T : Nat → Int → Int} {G : Nat → Int → Nat} {u : Int} {E : Nat → Int → Int} {ad am : Nat → Nat} {w : yW} {H : Heap} {locs : List Loc} {ls : Array Slot} {cc ss : Nat} {i : Int} (hu0 : 0 ≤ u) (hC : CW ca T G u ad w) (hM : MW ca T E am w) (h : yH D Zk (fun q : Nat => s.heap.size ≤ q) s w H locs) (hi : 0 ≤ i ∧ i + 6 ≤ L ∧ L ≤ 3072) (hcc : cc ≤ 500000 ∧ ss ≤ 7000000) (hl : lv_has ls 4 [(0, .ref b), (1, .ref (ad 0)), (2, .ref (am 0)), (3, .int (iI i))]) (fin : (∀ (T : Nat → Int → Int) (G : Nat → Int → Nat) (u : Int) (E : Nat → Int → Int) (w : yW) (H : Heap) (locs : List Loc) (ls : Array Slot) (c2 s2 : Nat), 0 ≤ u → CW ca T G u ad w → MW ca T E am w → yH D Zk (fun q : Nat => s.heap.size ≤ q) s w H locs → lv_has ls 4 [(0, .ref b), (1, .ref (ad 0)), (2, .ref (am 0)), (3, .int (iI i))] → c2 ≤ cc + 20 → s2 ≤ ss + 3000 → W p l e room_1 s m #[Value.ref b] below meth c H locs c2 s2 (lw_Z below #[Value.ref b] s) (F0 m 1368 ls []))) : W p l e room_1 s m #[Value.ref b] below meth c H locs cc ss (lw_Z below #[Value.ref b] s) (F0 m 764 ls []) := by
  have hbA : ¬ (fun q : Nat => s.heap.size ≤ q) b := Nat.not_le.mpr hbl
  have hs := pi_s (CW.pi hC)
  obtain ⟨x1, ex1⟩ : ∃ z : Int, z = (xs (i + 1).toNat).toInt := ⟨_, rfl⟩
  have hx1 : xr x1 := by rw [ex1]; exact iI_r _
  obtain ⟨x2, ex2⟩ : ∃ z : Int, z = (xs (i + 2).toNat).toInt := ⟨_, rfl⟩
  have hx2 : xr x2 := by rw [ex2]; exact iI_r _
  obtain ⟨x3, ex3⟩ : ∃ z : Int, z = (xs (i + 3).toNat).toInt := ⟨_, rfl⟩
  have hx3 : xr x3 := by rw [ex3]; exact iI_r _
  obtain ⟨x4, ex4⟩ : ∃ z : Int, z = (xs (i + 4).toNat).toInt := ⟨_, rfl⟩
  have hx4 : xr x4 := by rw [ex4]; exact iI_r _
  obtain ⟨x5, ex5⟩ : ∃ z : Int, z = (xs (i + 5).toNat).toInt := ⟨_, rfl⟩
  have hx5 : xr x5 := by rw [ex5]; exact iI_r _
  show W p l e room_1 s m #[Value.ref b] below meth c H locs (cc + 0) (ss + 0) (lw_Z below #[Value.ref b] s) (F0 m 764 ls [])
  refine lv_aload_n B.1 B.2.1 dL_law_764 rfl (lv_at hl 1 rfl) ?_
  refine lv_aload_n B.1 B.2.1 dL_law_765 rfl (lv_at hl 0 rfl) ?_
  refine lv_iload_n B.1 B.2.1 dL_law_766 rfl (lv_at hl 3 rfl) ?_
  refine x_iconst B dL_law_767 ?_
  refine x_iadd B dL_law_768 ?_
  refine y_sld B h hX hbl hbA ((i + 1)).toNat (by omega) dL_law_769 ?_
  refine x_iset (z := x1) (by rw [ex1]) ?_
  refine lv_aload_n B.1 B.2.1 dL_law_770 rfl (lv_at hl 0 rfl) ?_
  refine lv_iload_n B.1 B.2.1 dL_law_771 rfl (lv_at hl 3 rfl) ?_
  refine x_iconst B dL_law_772 ?_
  refine x_iadd B dL_law_773 ?_
  refine y_sld B h hX hbl hbA ((i + 2)).toNat (by omega) dL_law_774 ?_
  refine x_iset (z := x2) (by rw [ex2]) ?_
  refine lv_aload_n B.1 B.2.1 dL_law_775 rfl (lv_at hl 0 rfl) ?_
  refine lv_iload_n B.1 B.2.1 dL_law_776 rfl (lv_at hl 3 rfl) ?_
  refine x_iconst B dL_law_777 ?_
  refine x_iadd B dL_law_778 ?_
  refine y_sld B h hX hbl hbA ((i + 3)).toNat (by omega) dL_law_779 ?_
  refine x_iset (z := x3) (by rw [ex3]) ?_
  refine lv_aload_n B.1 B.2.1 dL_law_780 rfl (lv_at hl 0 rfl) ?_
  refine lv_iload_n B.1 B.2.1 dL_law_781 rfl (lv_at hl 3 rfl) ?_
  refine x_iconst B dL_law_782 ?_
  refine x_iadd B dL_law_783 ?_
  refine y_sld B h hX hbl hbA ((i + 4)).toNat (by omega) dL_law_784 ?_
  refine x_iset (z := x4) (by rw [ex4]) ?_
  refine lv_aload_n B.1 B.2.1 dL_law_785 rfl (lv_at hl 0 rfl) ?_
  refine lv_iload_n B.1 B.2.1 dL_law_786 rfl (lv_at hl 3 rfl) ?_
  refine x_iconst B dL_law_787 ?_
  refine x_iadd B dL_law_788 ?_
  refine y_sld B h hX hbl hbA ((i + 5)).toNat (by omega) dL_law_789 ?_
  refine x_iset (z := x5) (by rw [ex5]) ?_
  refine y_cV B h kX11 0 (CW.f hC 0 _ rfl) k_X11_column rfl (c_X11_column l D Zk ca T G u ad _ hC x1 x2 x3 x4 x5  (by omega) (by omega) (by omega) (by omega) (by omega)) m_943 rfl ⟨by decide, by show cc + 0 + 0 ≤ 600000 ∧ ss + 0 + 0 ≤ 7302250; omega⟩ hl.1 [] (Nat.le_of_ble_eq_true rfl) rfl dL_law_790 (fun r w1 hq H locs h => ?_)
  obtain ⟨rfl, z6, rfl, hz6⟩ := hq
  show W p l e room_1 s m #[Value.ref b] below meth c _ _ (cc + 0) (ss + 0) (lw_Z below #[Value.ref b] s) (F0 m 793 ls [.int (iI z6)])
  refine lv_pop B.1 B.2.1 dL_law_793 rfl ?_
  refine lv_aload_n B.1 B.2.1 dL_law_794 rfl (lv_at hl 2 rfl) ?_
  refine lv_aload_n B.1 B.2.1 dL_law_795 rfl (lv_at hl 0 rfl) ?_
  refine lv_iload_n B.1 B.2.1 dL_law_796 rfl (lv_at hl 3 rfl) ?_
  refine x_iconst B dL_law_797 ?_
  refine x_iadd B dL_law_798 ?_
  refine y_sld B h hX hbl hbA ((i + 1)).toNat (by omega) dL_law_799 ?_
  refine x_iset (z := x1) (by rw [ex1]) ?_
  refine lv_aload_n B.1 B.2.1 dL_law_800 rfl (lv_at hl 0 rfl) ?_
  refine lv_iload_n B.1 B.2.1 dL_law_801 rfl (lv_at hl 3 rfl) ?_
  refine x_iconst B dL_law_802 ?_
  refine x_iadd B dL_law_803 ?_
  refine y_sld B h hX hbl hbA ((i + 2)).toNat (by omega) dL_law_804 ?_
  refine x_iset (z := x2) (by rw [ex2]) ?_
  refine lv_aload_n B.1 B.2.1 dL_law_805 rfl (lv_at hl 0 rfl) ?_
  refine lv_iload_n B.1 B.2.1 dL_law_806 rfl (lv_at hl 3 rfl) ?_
  refine x_iconst B dL_law_807 ?_
  refine x_iadd B dL_law_808 ?_
  refine y_sld B h hX hbl hbA ((i + 3)).toNat (by omega) dL_law_809 ?_
  refine x_iset (z := x3) (by rw [ex3]) ?_
  refine lv_aload_n B.1 B.2.1 dL_law_810 rfl (lv_at hl 0 rfl) ?_
  refine lv_iload_n B.1 B.2.1 dL_law_811 rfl (lv_at hl 3 rfl) ?_
  refine x_iconst B dL_law_812 ?_
  refine x_iadd B dL_law_813 ?_
  refine y_sld B h hX hbl hbA ((i + 4)).toNat (by omega) dL_law_814 ?_
  refine x_iset (z := x4) (by rw [ex4]) ?_
  refine lv_aload_n B.1 B.2.1 dL_law_815 rfl (lv_at hl 0 rfl) ?_
  refine lv_iload_n B.1 B.2.1 dL_law_816 rfl (lv_at hl 3 rfl) ?_
  refine x_iconst B dL_law_817 ?_
  refine x_iadd B dL_law_818 ?_
  refine y_sld B h hX hbl hbA ((i + 5)).toNat (by omega) dL_law_819 ?_
  refine x_iset (z := x5) (by rw [ex5]) ?_
  refine y_cV B h kX12 50 (MW.f hM 0 _ rfl) k_X12_column rfl (c_X12_column l D Zk ca T E am _ hM x1 x2 x3 x4 x5  (by omega) (by omega) (by omega) (by omega) (by omega)) m_1703 rfl ⟨by decide, by show cc + 0 + 0 ≤ 600000 ∧ ss + 0 + 0 ≤ 7302250; omega⟩ hl.1 [] (Nat.le_of_ble_eq_true rfl) rfl dL_law_820 (fun r w7 hq H locs h => ?_)
  obtain ⟨rfl, z12, rfl, hz12⟩ := hq
  show W p l e room_1 s m #[Value.ref b] below meth c _ _ (cc + 0) (ss + 0) (lw_Z below #[Value.ref b] s) (F0 m 823 ls [.int (iI z12)])
  refine lv_pop B.1 B.2.1 dL_law_823 rfl ?_
  refine lv_goto (tgt := 1368) B.1 B.2.1 dL_law_824 (by decide) ?_
  exact fin T G u E w _ _ _ _ _ (by omega) hC hM h (lv_sub hl [0, 1, 2, 3] rfl) (by omega) (by omega)
set_option maxHeartbeats 8000000 in
set_option maxRecDepth 100000 in
theorem law_c15 {p : Program} {l : Launch} {e : Env} {s : State} {m : MethodId} {below : List Frame} {meth : Method} {c : Code} {D : va_G} {Zk : yK} {ca : Nat → ClassId} {b L : Nat} {xs : Nat → Int32} (B : xB p s m #[Value.ref b] meth c D ca "WindWordsLaw" code 4 (some .boolean)) (hX : va_X b L xs s s.heap) (hbl : b < s.heap.size) {T : Nat → Int → Int} {G : Nat → Int → Nat} {u : Int} {E : Nat → Int → Int} {ad am : Nat → Nat} {w : yW} {H : Heap} {locs : List Loc} {ls : Array Slot} {cc ss : Nat} {i : Int} (hu0 : 0 ≤ u) (hC : CW ca T G u ad w) (hM : MW ca T E am w) (h : yH D Zk (fun q : Nat => s.heap.size ≤ q) s w H locs) (hi : 0 ≤ i ∧ i + 6 ≤ L ∧ L ≤ 3072) (hcc : cc ≤ 500000 ∧ ss ≤ 7000000) (hl : lv_has ls 4 [(0, .ref b), (1, .ref (ad 0)), (2, .ref (am 0)), (3, .int (iI i))]) (fin : (∀ (T : Nat → Int → Int) (G : Nat → Int → Nat) (u : Int) (E : Nat → Int → Int) (w : yW) (H : Heap) (locs : List Loc) (ls : Array Slot) (c2 s2 : Nat), 0 ≤ u → CW ca T G u ad w → MW ca T E am w → yH D Zk (fun q : Nat => s.heap.size ≤ q) s w H locs → lv_has ls 4 [(0, .ref b), (1, .ref (ad 0)), (2, .ref (am 0)), (3, .int (iI i))] → c2 ≤ cc + 20 → s2 ≤ ss + 3000 → W p l e room_1 s m #[Value.ref b] below meth c H locs c2 s2 (lw_Z below #[Value.ref b] s) (F0 m 1368 ls []))) : W p l e room_1 s m #[Value.ref b] below meth c H locs cc ss (lw_Z below #[Value.ref b] s) (F0 m 827 ls []) := by
  have hbA : ¬ (fun q : Nat => s.heap.size ≤ q) b := Nat.not_le.mpr hbl
  have hs := pi_s (CW.pi hC)
  obtain ⟨x1, ex1⟩ : ∃ z : Int, z = (xs (i + 1).toNat).toInt := ⟨_, rfl⟩
  have hx1 : xr x1 := by rw [ex1]; exact iI_r _
  obtain ⟨x2, ex2⟩ : ∃ z : Int, z = (xs (i + 2).toNat).toInt := ⟨_, rfl⟩
  have hx2 : xr x2 := by rw [ex2]; exact iI_r _
  obtain ⟨x3, ex3⟩ : ∃ z : Int, z = (xs (i + 3).toNat).toInt := ⟨_, rfl⟩
  have hx3 : xr x3 := by rw [ex3]; exact iI_r _
  obtain ⟨x4, ex4⟩ : ∃ z : Int, z = (xs (i + 4).toNat).toInt := ⟨_, rfl⟩
  have hx4 : xr x4 := by rw [ex4]; exact iI_r _
  obtain ⟨x5, ex5⟩ : ∃ z : Int, z = (xs (i + 5).toNat).toInt := ⟨_, rfl⟩
  have hx5 : xr x5 := by rw [ex5]; exact iI_r _
  show W p l e room_1 s m #[Value.ref b] below meth c H locs (cc + 0) (ss + 0) (lw_Z below #[Value.ref b] s) (F0 m 827 ls [])
  refine lv_aload_n B.1 B.2.1 dL_law_827 rfl (lv_at hl 1 rfl) ?_
  refine lv_aload_n B.1 B.2.1 dL_law_828 rfl (lv_at hl 0 rfl) ?_
  refine lv_iload_n B.1 B.2.1 dL_law_829 rfl (lv_at hl 3 rfl) ?_
  refine x_iconst B dL_law_830 ?_
  refine x_iadd B dL_law_831 ?_
  refine y_sld B h hX hbl hbA ((i + 1)).toNat (by omega) dL_law_832 ?_
  refine x_iset (z := x1) (by rw [ex1]) ?_
  refine lv_aload_n B.1 B.2.1 dL_law_833 rfl (lv_at hl 0 rfl) ?_
  refine lv_iload_n B.1 B.2.1 dL_law_834 rfl (lv_at hl 3 rfl) ?_
  refine x_iconst B dL_law_835 ?_
  refine x_iadd B dL_law_836 ?_
  refine y_sld B h hX hbl hbA ((i + 2)).toNat (by omega) dL_law_837 ?_
  refine x_iset (z := x2) (by rw [ex2]) ?_
  refine lv_aload_n B.1 B.2.1 dL_law_838 rfl (lv_at hl 0 rfl) ?_
  refine lv_iload_n B.1 B.2.1 dL_law_839 rfl (lv_at hl 3 rfl) ?_
  refine x_iconst B dL_law_840 ?_
  refine x_iadd B dL_law_841 ?_
  refine y_sld B h hX hbl hbA ((i + 3)).toNat (by omega) dL_law_842 ?_
  refine x_iset (z := x3) (by rw [ex3]) ?_
  refine lv_aload_n B.1 B.2.1 dL_law_843 rfl (lv_at hl 0 rfl) ?_
  refine lv_iload_n B.1 B.2.1 dL_law_844 rfl (lv_at hl 3 rfl) ?_
  refine x_iconst B dL_law_845 ?_
  refine x_iadd B dL_law_846 ?_
  refine y_sld B h hX hbl hbA ((i + 4)).toNat (by omega) dL_law_847 ?_
  refine x_iset (z := x4) (by rw [ex4]) ?_
  refine lv_aload_n B.1 B.2.1 dL_law_848 rfl (lv_at hl 0 rfl) ?_
  refine lv_iload_n B.1 B.2.1 dL_law_849 rfl (lv_at hl 3 rfl) ?_
  refine x_iconst B dL_law_850 ?_
  refine x_iadd B dL_law_851 ?_
  refine y_sld B h hX hbl hbA ((i + 5)).toNat (by omega) dL_law_852 ?_
  refine x_iset (z := x5) (by rw [ex5]) ?_
  refine y_cV B h kX11 0 (CW.f hC 0 _ rfl) k_X11_turn rfl (c_X11_turn l D Zk ca T G u ad _ hC x1 x2 x3 x4 x5  (by omega) (by omega) (by omega) (by omega) (by omega)) m_953 rfl ⟨by decide, by show cc + 0 + 0 ≤ 600000 ∧ ss + 0 + 0 ≤ 7302250; omega⟩ hl.1 [] (Nat.le_of_ble_eq_true rfl) rfl dL_law_853 (fun r w1 hq H locs h => ?_)
  obtain ⟨rfl, z6, rfl, hz6⟩ := hq
  show W p l e room_1 s m #[Value.ref b] below meth c _ _ (cc + 0) (ss + 0) (lw_Z below #[Value.ref b] s) (F0 m 856 ls [.int (iI z6)])
  refine lv_pop B.1 B.2.1 dL_law_856 rfl ?_
  refine lv_aload_n B.1 B.2.1 dL_law_857 rfl (lv_at hl 2 rfl) ?_
  refine lv_aload_n B.1 B.2.1 dL_law_858 rfl (lv_at hl 0 rfl) ?_
  refine lv_iload_n B.1 B.2.1 dL_law_859 rfl (lv_at hl 3 rfl) ?_
  refine x_iconst B dL_law_860 ?_
  refine x_iadd B dL_law_861 ?_
  refine y_sld B h hX hbl hbA ((i + 1)).toNat (by omega) dL_law_862 ?_
  refine x_iset (z := x1) (by rw [ex1]) ?_
  refine lv_aload_n B.1 B.2.1 dL_law_863 rfl (lv_at hl 0 rfl) ?_
  refine lv_iload_n B.1 B.2.1 dL_law_864 rfl (lv_at hl 3 rfl) ?_
  refine x_iconst B dL_law_865 ?_
  refine x_iadd B dL_law_866 ?_
  refine y_sld B h hX hbl hbA ((i + 2)).toNat (by omega) dL_law_867 ?_
  refine x_iset (z := x2) (by rw [ex2]) ?_
  refine lv_aload_n B.1 B.2.1 dL_law_868 rfl (lv_at hl 0 rfl) ?_
  refine lv_iload_n B.1 B.2.1 dL_law_869 rfl (lv_at hl 3 rfl) ?_
  refine x_iconst B dL_law_870 ?_
  refine x_iadd B dL_law_871 ?_
  refine y_sld B h hX hbl hbA ((i + 3)).toNat (by omega) dL_law_872 ?_
  refine x_iset (z := x3) (by rw [ex3]) ?_
  refine lv_aload_n B.1 B.2.1 dL_law_873 rfl (lv_at hl 0 rfl) ?_
  refine lv_iload_n B.1 B.2.1 dL_law_874 rfl (lv_at hl 3 rfl) ?_
  refine x_iconst B dL_law_875 ?_
  refine x_iadd B dL_law_876 ?_
  refine y_sld B h hX hbl hbA ((i + 4)).toNat (by omega) dL_law_877 ?_
  refine x_iset (z := x4) (by rw [ex4]) ?_
  refine lv_aload_n B.1 B.2.1 dL_law_878 rfl (lv_at hl 0 rfl) ?_
  refine lv_iload_n B.1 B.2.1 dL_law_879 rfl (lv_at hl 3 rfl) ?_
  refine x_iconst B dL_law_880 ?_
  refine x_iadd B dL_law_881 ?_
  refine y_sld B h hX hbl hbA ((i + 5)).toNat (by omega) dL_law_882 ?_
  refine x_iset (z := x5) (by rw [ex5]) ?_
  refine y_cV B h kX12 50 (MW.f hM 0 _ rfl) k_X12_turn rfl (c_X12_turn l D Zk ca T E am _ hM x1 x2 x3 x4 x5  (by omega) (by omega) (by omega) (by omega) (by omega)) m_1711 rfl ⟨by decide, by show cc + 0 + 0 ≤ 600000 ∧ ss + 0 + 0 ≤ 7302250; omega⟩ hl.1 [] (Nat.le_of_ble_eq_true rfl) rfl dL_law_883 (fun r w7 hq H locs h => ?_)
  obtain ⟨rfl, z12, rfl, hz12⟩ := hq
  show W p l e room_1 s m #[Value.ref b] below meth c _ _ (cc + 0) (ss + 0) (lw_Z below #[Value.ref b] s) (F0 m 886 ls [.int (iI z12)])
  refine lv_pop B.1 B.2.1 dL_law_886 rfl ?_
  refine lv_goto (tgt := 1368) B.1 B.2.1 dL_law_887 (by decide) ?_
  exact fin T G u E w _ _ _ _ _ (by omega) hC hM h (lv_sub hl [0, 1, 2, 3] rfl) (by omega) (by omega)
set_option maxHeartbeats 8000000 in
set_option maxRecDepth 100000 in
theorem law_c16 {p : Program} {l : Launch} {e : Env} {s : State} {m : MethodId} {below : List Frame} {meth : Method} {c : Code} {D : va_G} {Zk : yK} {ca : Nat → ClassId} {b L : Nat} {xs : Nat → Int32} (B : xB p s m #[Value.ref b] meth c D ca "WindWordsLaw" code 4 (some .boolean)) (hX : va_X b L xs s s.heap) (hbl : b < s.heap.size) {T : Nat → Int → Int} {G : Nat → Int → Nat} {u : Int} {E : Nat → Int → Int} {ad am : Nat → Nat} {w : yW} {H : Heap} {locs : List Loc} {ls : Array Slot} {cc ss : Nat} {i : Int} (hu0 : 0 ≤ u) (hC : CW ca T G u ad w) (hM : MW ca T E am w) (h : yH D Zk (fun q : Nat => s.heap.size ≤ q) s w H locs) (hi : 0 ≤ i ∧ i + 6 ≤ L ∧ L ≤ 3072) (hcc : cc ≤ 500000 ∧ ss ≤ 7000000) (hl : lv_has ls 4 [(0, .ref b), (1, .ref (ad 0)), (2, .ref (am 0)), (3, .int (iI i))]) (fin : (∀ (T : Nat → Int → Int) (G : Nat → Int → Nat) (u : Int) (E : Nat → Int → Int) (w : yW) (H : Heap) (locs : List Loc) (ls : Array Slot) (c2 s2 : Nat), 0 ≤ u → CW ca T G u ad w → MW ca T E am w → yH D Zk (fun q : Nat => s.heap.size ≤ q) s w H locs → lv_has ls 4 [(0, .ref b), (1, .ref (ad 0)), (2, .ref (am 0)), (3, .int (iI i))] → c2 ≤ cc + 20 → s2 ≤ ss + 3000 → W p l e room_1 s m #[Value.ref b] below meth c H locs c2 s2 (lw_Z below #[Value.ref b] s) (F0 m 1368 ls []))) : W p l e room_1 s m #[Value.ref b] below meth c H locs cc ss (lw_Z below #[Value.ref b] s) (F0 m 890 ls []) := by
  have hbA : ¬ (fun q : Nat => s.heap.size ≤ q) b := Nat.not_le.mpr hbl
  have hs := pi_s (CW.pi hC)
  show W p l e room_1 s m #[Value.ref b] below meth c H locs (cc + 0) (ss + 0) (lw_Z below #[Value.ref b] s) (F0 m 890 ls [])
  refine lv_aload_n B.1 B.2.1 dL_law_890 rfl (lv_at hl 1 rfl) ?_
  refine y_cV B h kX11 0 (CW.f hC 0 _ rfl) k_X11_tight rfl (c_X11_tight l D Zk ca T G u ad _ hC   ) m_967 rfl ⟨by decide, by show cc + 0 + 0 ≤ 600000 ∧ ss + 0 + 0 ≤ 7302250; omega⟩ hl.1 [] (Nat.le_of_ble_eq_true rfl) rfl dL_law_891 (fun r w1 hq H locs h => ?_)
  obtain ⟨rfl, z6, rfl, hz6⟩ := hq
  show W p l e room_1 s m #[Value.ref b] below meth c _ _ (cc + 0) (ss + 0) (lw_Z below #[Value.ref b] s) (F0 m 894 ls [.int (iI z6)])
  refine lv_pop B.1 B.2.1 dL_law_894 rfl ?_
  refine lv_aload_n B.1 B.2.1 dL_law_895 rfl (lv_at hl 2 rfl) ?_
  refine y_cV B h kX12 50 (MW.f hM 0 _ rfl) k_X12_tight rfl (c_X12_tight l D Zk ca T E am _ hM   ) m_1719 rfl ⟨by decide, by show cc + 0 + 0 ≤ 600000 ∧ ss + 0 + 0 ≤ 7302250; omega⟩ hl.1 [] (Nat.le_of_ble_eq_true rfl) rfl dL_law_896 (fun r w7 hq H locs h => ?_)
  obtain ⟨rfl, z12, rfl, hz12⟩ := hq
  show W p l e room_1 s m #[Value.ref b] below meth c _ _ (cc + 0) (ss + 0) (lw_Z below #[Value.ref b] s) (F0 m 899 ls [.int (iI z12)])
  refine lv_pop B.1 B.2.1 dL_law_899 rfl ?_
  refine lv_goto (tgt := 1368) B.1 B.2.1 dL_law_900 (by decide) ?_
  exact fin T G u E w _ _ _ _ _ (by omega) hC hM h (lv_sub hl [0, 1, 2, 3] rfl) (by omega) (by omega)
set_option maxHeartbeats 8000000 in
set_option maxRecDepth 100000 in
theorem law_c17 {p : Program} {l : Launch} {e : Env} {s : State} {m : MethodId} {below : List Frame} {meth : Method} {c : Code} {D : va_G} {Zk : yK} {ca : Nat → ClassId} {b L : Nat} {xs : Nat → Int32} (B : xB p s m #[Value.ref b] meth c D ca "WindWordsLaw" code 4 (some .boolean)) (hX : va_X b L xs s s.heap) (hbl : b < s.heap.size) {T : Nat → Int → Int} {G : Nat → Int → Nat} {u : Int} {E : Nat → Int → Int} {ad am : Nat → Nat} {w : yW} {H : Heap} {locs : List Loc} {ls : Array Slot} {cc ss : Nat} {i : Int} (hu0 : 0 ≤ u) (hC : CW ca T G u ad w) (hM : MW ca T E am w) (h : yH D Zk (fun q : Nat => s.heap.size ≤ q) s w H locs) (hi : 0 ≤ i ∧ i + 6 ≤ L ∧ L ≤ 3072) (hcc : cc ≤ 500000 ∧ ss ≤ 7000000) (hl : lv_has ls 4 [(0, .ref b), (1, .ref (ad 0)), (2, .ref (am 0)), (3, .int (iI i))]) (fin : (∀ (T : Nat → Int → Int) (G : Nat → Int → Nat) (u : Int) (E : Nat → Int → Int) (w : yW) (H : Heap) (locs : List Loc) (ls : Array Slot) (c2 s2 : Nat), 0 ≤ u → CW ca T G u ad w → MW ca T E am w → yH D Zk (fun q : Nat => s.heap.size ≤ q) s w H locs → lv_has ls 4 [(0, .ref b), (1, .ref (ad 0)), (2, .ref (am 0)), (3, .int (iI i))] → c2 ≤ cc + 20 → s2 ≤ ss + 3000 → W p l e room_1 s m #[Value.ref b] below meth c H locs c2 s2 (lw_Z below #[Value.ref b] s) (F0 m 1368 ls []))) : W p l e room_1 s m #[Value.ref b] below meth c H locs cc ss (lw_Z below #[Value.ref b] s) (F0 m 903 ls []) := by
  have hbA : ¬ (fun q : Nat => s.heap.size ≤ q) b := Nat.not_le.mpr hbl
  have hs := pi_s (CW.pi hC)
  obtain ⟨x1, ex1⟩ : ∃ z : Int, z = (xs (i + 1).toNat).toInt := ⟨_, rfl⟩
  have hx1 : xr x1 := by rw [ex1]; exact iI_r _
  obtain ⟨x2, ex2⟩ : ∃ z : Int, z = (xs (i + 2).toNat).toInt := ⟨_, rfl⟩
  have hx2 : xr x2 := by rw [ex2]; exact iI_r _
  show W p l e room_1 s m #[Value.ref b] below meth c H locs (cc + 0) (ss + 0) (lw_Z below #[Value.ref b] s) (F0 m 903 ls [])
  refine lv_aload_n B.1 B.2.1 dL_law_903 rfl (lv_at hl 1 rfl) ?_
  refine lv_aload_n B.1 B.2.1 dL_law_904 rfl (lv_at hl 0 rfl) ?_
  refine lv_iload_n B.1 B.2.1 dL_law_905 rfl (lv_at hl 3 rfl) ?_
  refine x_iconst B dL_law_906 ?_
  refine x_iadd B dL_law_907 ?_
  refine y_sld B h hX hbl hbA ((i + 1)).toNat (by omega) dL_law_908 ?_
  refine x_iset (z := x1) (by rw [ex1]) ?_
  refine lv_aload_n B.1 B.2.1 dL_law_909 rfl (lv_at hl 0 rfl) ?_
  refine lv_iload_n B.1 B.2.1 dL_law_910 rfl (lv_at hl 3 rfl) ?_
  refine x_iconst B dL_law_911 ?_
  refine x_iadd B dL_law_912 ?_
  refine y_sld B h hX hbl hbA ((i + 2)).toNat (by omega) dL_law_913 ?_
  refine x_iset (z := x2) (by rw [ex2]) ?_
  refine y_cV B h kX11 0 (CW.f hC 0 _ rfl) k_X11_lean rfl (c_X11_lean l D Zk ca T G u ad _ hC x1 x2  (by omega) (by omega)) m_1030 rfl ⟨by decide, by show cc + 0 + 0 ≤ 600000 ∧ ss + 0 + 0 ≤ 7302250; omega⟩ hl.1 [] (Nat.le_of_ble_eq_true rfl) rfl dL_law_914 (fun r w1 hq H locs h => ?_)
  obtain ⟨rfl, z6, rfl, hz6⟩ := hq
  show W p l e room_1 s m #[Value.ref b] below meth c _ _ (cc + 0) (ss + 0) (lw_Z below #[Value.ref b] s) (F0 m 917 ls [.int (iI z6)])
  refine lv_pop B.1 B.2.1 dL_law_917 rfl ?_
  refine lv_aload_n B.1 B.2.1 dL_law_918 rfl (lv_at hl 2 rfl) ?_
  refine lv_aload_n B.1 B.2.1 dL_law_919 rfl (lv_at hl 0 rfl) ?_
  refine lv_iload_n B.1 B.2.1 dL_law_920 rfl (lv_at hl 3 rfl) ?_
  refine x_iconst B dL_law_921 ?_
  refine x_iadd B dL_law_922 ?_
  refine y_sld B h hX hbl hbA ((i + 1)).toNat (by omega) dL_law_923 ?_
  refine x_iset (z := x1) (by rw [ex1]) ?_
  refine lv_aload_n B.1 B.2.1 dL_law_924 rfl (lv_at hl 0 rfl) ?_
  refine lv_iload_n B.1 B.2.1 dL_law_925 rfl (lv_at hl 3 rfl) ?_
  refine x_iconst B dL_law_926 ?_
  refine x_iadd B dL_law_927 ?_
  refine y_sld B h hX hbl hbA ((i + 2)).toNat (by omega) dL_law_928 ?_
  refine x_iset (z := x2) (by rw [ex2]) ?_
  refine y_cV B h kX12 50 (MW.f hM 0 _ rfl) k_X12_lean rfl (c_X12_lean l D Zk ca T E am _ hM x1 x2  (by omega) (by omega)) m_1763 rfl ⟨by decide, by show cc + 0 + 0 ≤ 600000 ∧ ss + 0 + 0 ≤ 7302250; omega⟩ hl.1 [] (Nat.le_of_ble_eq_true rfl) rfl dL_law_929 (fun r w7 hq H locs h => ?_)
  obtain ⟨rfl, z12, rfl, hz12⟩ := hq
  show W p l e room_1 s m #[Value.ref b] below meth c _ _ (cc + 0) (ss + 0) (lw_Z below #[Value.ref b] s) (F0 m 932 ls [.int (iI z12)])
  refine lv_pop B.1 B.2.1 dL_law_932 rfl ?_
  refine lv_goto (tgt := 1368) B.1 B.2.1 dL_law_933 (by decide) ?_
  exact fin T G u E w _ _ _ _ _ (by omega) hC hM h (lv_sub hl [0, 1, 2, 3] rfl) (by omega) (by omega)
set_option maxHeartbeats 8000000 in
set_option maxRecDepth 100000 in
theorem law_c18 {p : Program} {l : Launch} {e : Env} {s : State} {m : MethodId} {below : List Frame} {meth : Method} {c : Code} {D : va_G} {Zk : yK} {ca : Nat → ClassId} {b L : Nat} {xs : Nat → Int32} (B : xB p s m #[Value.ref b] meth c D ca "WindWordsLaw" code 4 (some .boolean)) (hX : va_X b L xs s s.heap) (hbl : b < s.heap.size) {T : Nat → Int → Int} {G : Nat → Int → Nat} {u : Int} {E : Nat → Int → Int} {ad am : Nat → Nat} {w : yW} {H : Heap} {locs : List Loc} {ls : Array Slot} {cc ss : Nat} {i : Int} (hu0 : 0 ≤ u) (hC : CW ca T G u ad w) (hM : MW ca T E am w) (h : yH D Zk (fun q : Nat => s.heap.size ≤ q) s w H locs) (hi : 0 ≤ i ∧ i + 6 ≤ L ∧ L ≤ 3072) (hcc : cc ≤ 500000 ∧ ss ≤ 7000000) (hl : lv_has ls 4 [(0, .ref b), (1, .ref (ad 0)), (2, .ref (am 0)), (3, .int (iI i))]) (fin : (∀ (T : Nat → Int → Int) (G : Nat → Int → Nat) (u : Int) (E : Nat → Int → Int) (w : yW) (H : Heap) (locs : List Loc) (ls : Array Slot) (c2 s2 : Nat), 0 ≤ u → CW ca T G u ad w → MW ca T E am w → yH D Zk (fun q : Nat => s.heap.size ≤ q) s w H locs → lv_has ls 4 [(0, .ref b), (1, .ref (ad 0)), (2, .ref (am 0)), (3, .int (iI i))] → c2 ≤ cc + 20 → s2 ≤ ss + 3000 → W p l e room_1 s m #[Value.ref b] below meth c H locs c2 s2 (lw_Z below #[Value.ref b] s) (F0 m 1368 ls []))) : W p l e room_1 s m #[Value.ref b] below meth c H locs cc ss (lw_Z below #[Value.ref b] s) (F0 m 936 ls []) := by
  have hbA : ¬ (fun q : Nat => s.heap.size ≤ q) b := Nat.not_le.mpr hbl
  have hs := pi_s (CW.pi hC)
  obtain ⟨x1, ex1⟩ : ∃ z : Int, z = (xs (i + 1).toNat).toInt := ⟨_, rfl⟩
  have hx1 : xr x1 := by rw [ex1]; exact iI_r _
  obtain ⟨x2, ex2⟩ : ∃ z : Int, z = (xs (i + 2).toNat).toInt := ⟨_, rfl⟩
  have hx2 : xr x2 := by rw [ex2]; exact iI_r _
  obtain ⟨x3, ex3⟩ : ∃ z : Int, z = (xs (i + 3).toNat).toInt := ⟨_, rfl⟩
  have hx3 : xr x3 := by rw [ex3]; exact iI_r _
  show W p l e room_1 s m #[Value.ref b] below meth c H locs (cc + 0) (ss + 0) (lw_Z below #[Value.ref b] s) (F0 m 936 ls [])
  refine lv_aload_n B.1 B.2.1 dL_law_936 rfl (lv_at hl 1 rfl) ?_
  refine lv_aload_n B.1 B.2.1 dL_law_937 rfl (lv_at hl 0 rfl) ?_
  refine lv_iload_n B.1 B.2.1 dL_law_938 rfl (lv_at hl 3 rfl) ?_
  refine x_iconst B dL_law_939 ?_
  refine x_iadd B dL_law_940 ?_
  refine y_sld B h hX hbl hbA ((i + 1)).toNat (by omega) dL_law_941 ?_
  refine x_iset (z := x1) (by rw [ex1]) ?_
  refine lv_aload_n B.1 B.2.1 dL_law_942 rfl (lv_at hl 0 rfl) ?_
  refine lv_iload_n B.1 B.2.1 dL_law_943 rfl (lv_at hl 3 rfl) ?_
  refine x_iconst B dL_law_944 ?_
  refine x_iadd B dL_law_945 ?_
  refine y_sld B h hX hbl hbA ((i + 2)).toNat (by omega) dL_law_946 ?_
  refine x_iset (z := x2) (by rw [ex2]) ?_
  refine lv_aload_n B.1 B.2.1 dL_law_947 rfl (lv_at hl 0 rfl) ?_
  refine lv_iload_n B.1 B.2.1 dL_law_948 rfl (lv_at hl 3 rfl) ?_
  refine x_iconst B dL_law_949 ?_
  refine x_iadd B dL_law_950 ?_
  refine y_sld B h hX hbl hbA ((i + 3)).toNat (by omega) dL_law_951 ?_
  refine x_iset (z := x3) (by rw [ex3]) ?_
  refine y_cV B h kX11 0 (CW.f hC 0 _ rfl) k_X11_liked rfl (c_X11_liked l D Zk ca T G u ad _ hC x1 x2 x3  (by omega) (by omega) (by omega)) m_1042 rfl ⟨by decide, by show cc + 0 + 0 ≤ 600000 ∧ ss + 0 + 0 ≤ 7302250; omega⟩ hl.1 [] (Nat.le_of_ble_eq_true rfl) rfl dL_law_952 (fun r w1 hq H locs h => ?_)
  obtain ⟨rfl, z6, rfl, hz6⟩ := hq
  show W p l e room_1 s m #[Value.ref b] below meth c _ _ (cc + 0) (ss + 0) (lw_Z below #[Value.ref b] s) (F0 m 955 ls [.int (iI z6)])
  refine lv_pop B.1 B.2.1 dL_law_955 rfl ?_
  refine lv_aload_n B.1 B.2.1 dL_law_956 rfl (lv_at hl 2 rfl) ?_
  refine lv_aload_n B.1 B.2.1 dL_law_957 rfl (lv_at hl 0 rfl) ?_
  refine lv_iload_n B.1 B.2.1 dL_law_958 rfl (lv_at hl 3 rfl) ?_
  refine x_iconst B dL_law_959 ?_
  refine x_iadd B dL_law_960 ?_
  refine y_sld B h hX hbl hbA ((i + 1)).toNat (by omega) dL_law_961 ?_
  refine x_iset (z := x1) (by rw [ex1]) ?_
  refine lv_aload_n B.1 B.2.1 dL_law_962 rfl (lv_at hl 0 rfl) ?_
  refine lv_iload_n B.1 B.2.1 dL_law_963 rfl (lv_at hl 3 rfl) ?_
  refine x_iconst B dL_law_964 ?_
  refine x_iadd B dL_law_965 ?_
  refine y_sld B h hX hbl hbA ((i + 2)).toNat (by omega) dL_law_966 ?_
  refine x_iset (z := x2) (by rw [ex2]) ?_
  refine lv_aload_n B.1 B.2.1 dL_law_967 rfl (lv_at hl 0 rfl) ?_
  refine lv_iload_n B.1 B.2.1 dL_law_968 rfl (lv_at hl 3 rfl) ?_
  refine x_iconst B dL_law_969 ?_
  refine x_iadd B dL_law_970 ?_
  refine y_sld B h hX hbl hbA ((i + 3)).toNat (by omega) dL_law_971 ?_
  refine x_iset (z := x3) (by rw [ex3]) ?_
  refine y_cV B h kX12 50 (MW.f hM 0 _ rfl) k_X12_liked rfl (c_X12_liked l D Zk ca T E am _ hM x1 x2 x3  (by omega) (by omega) (by omega)) m_1775 rfl ⟨by decide, by show cc + 0 + 0 ≤ 600000 ∧ ss + 0 + 0 ≤ 7302250; omega⟩ hl.1 [] (Nat.le_of_ble_eq_true rfl) rfl dL_law_972 (fun r w7 hq H locs h => ?_)
  obtain ⟨rfl, z12, rfl, hz12⟩ := hq
  show W p l e room_1 s m #[Value.ref b] below meth c _ _ (cc + 0) (ss + 0) (lw_Z below #[Value.ref b] s) (F0 m 975 ls [.int (iI z12)])
  refine lv_pop B.1 B.2.1 dL_law_975 rfl ?_
  refine lv_goto (tgt := 1368) B.1 B.2.1 dL_law_976 (by decide) ?_
  exact fin T G u E w _ _ _ _ _ (by omega) hC hM h (lv_sub hl [0, 1, 2, 3] rfl) (by omega) (by omega)
set_option maxHeartbeats 8000000 in
set_option maxRecDepth 100000 in
theorem law_c19 {p : Program} {l : Launch} {e : Env} {s : State} {m : MethodId} {below : List Frame} {meth : Method} {c : Code} {D : va_G} {Zk : yK} {ca : Nat → ClassId} {b L : Nat} {xs : Nat → Int32} (B : xB p s m #[Value.ref b] meth c D ca "WindWordsLaw" code 4 (some .boolean)) (hX : va_X b L xs s s.heap) (hbl : b < s.heap.size) {T : Nat → Int → Int} {G : Nat → Int → Nat} {u : Int} {E : Nat → Int → Int} {ad am : Nat → Nat} {w : yW} {H : Heap} {locs : List Loc} {ls : Array Slot} {cc ss : Nat} {i : Int} (hu0 : 0 ≤ u) (hC : CW ca T G u ad w) (hM : MW ca T E am w) (h : yH D Zk (fun q : Nat => s.heap.size ≤ q) s w H locs) (hi : 0 ≤ i ∧ i + 6 ≤ L ∧ L ≤ 3072) (hcc : cc ≤ 500000 ∧ ss ≤ 7000000) (hl : lv_has ls 4 [(0, .ref b), (1, .ref (ad 0)), (2, .ref (am 0)), (3, .int (iI i))]) (fin : (∀ (T : Nat → Int → Int) (G : Nat → Int → Nat) (u : Int) (E : Nat → Int → Int) (w : yW) (H : Heap) (locs : List Loc) (ls : Array Slot) (c2 s2 : Nat), 0 ≤ u → CW ca T G u ad w → MW ca T E am w → yH D Zk (fun q : Nat => s.heap.size ≤ q) s w H locs → lv_has ls 4 [(0, .ref b), (1, .ref (ad 0)), (2, .ref (am 0)), (3, .int (iI i))] → c2 ≤ cc + 20 → s2 ≤ ss + 3000 → W p l e room_1 s m #[Value.ref b] below meth c H locs c2 s2 (lw_Z below #[Value.ref b] s) (F0 m 1368 ls []))) : W p l e room_1 s m #[Value.ref b] below meth c H locs cc ss (lw_Z below #[Value.ref b] s) (F0 m 979 ls []) := by
  have hbA : ¬ (fun q : Nat => s.heap.size ≤ q) b := Nat.not_le.mpr hbl
  have hs := pi_s (CW.pi hC)
  obtain ⟨x1, ex1⟩ : ∃ z : Int, z = (xs (i + 1).toNat).toInt := ⟨_, rfl⟩
  have hx1 : xr x1 := by rw [ex1]; exact iI_r _
  obtain ⟨x2, ex2⟩ : ∃ z : Int, z = (xs (i + 2).toNat).toInt := ⟨_, rfl⟩
  have hx2 : xr x2 := by rw [ex2]; exact iI_r _
  show W p l e room_1 s m #[Value.ref b] below meth c H locs (cc + 0) (ss + 0) (lw_Z below #[Value.ref b] s) (F0 m 979 ls [])
  refine lv_aload_n B.1 B.2.1 dL_law_979 rfl (lv_at hl 1 rfl) ?_
  refine lv_aload_n B.1 B.2.1 dL_law_980 rfl (lv_at hl 0 rfl) ?_
  refine lv_iload_n B.1 B.2.1 dL_law_981 rfl (lv_at hl 3 rfl) ?_
  refine x_iconst B dL_law_982 ?_
  refine x_iadd B dL_law_983 ?_
  refine y_sld B h hX hbl hbA ((i + 1)).toNat (by omega) dL_law_984 ?_
  refine x_iset (z := x1) (by rw [ex1]) ?_
  refine lv_aload_n B.1 B.2.1 dL_law_985 rfl (lv_at hl 0 rfl) ?_
  refine lv_iload_n B.1 B.2.1 dL_law_986 rfl (lv_at hl 3 rfl) ?_
  refine x_iconst B dL_law_987 ?_
  refine x_iadd B dL_law_988 ?_
  refine y_sld B h hX hbl hbA ((i + 2)).toNat (by omega) dL_law_989 ?_
  refine x_iset (z := x2) (by rw [ex2]) ?_
  refine y_cV B h kX11 0 (CW.f hC 0 _ rfl) k_X11_wind rfl (c_X11_wind l D Zk ca T G u ad _ hC x1 x2  (by omega) (by omega)) m_1055 rfl ⟨by decide, by show cc + 0 + 0 ≤ 600000 ∧ ss + 0 + 0 ≤ 7302250; omega⟩ hl.1 [] (Nat.le_of_ble_eq_true rfl) rfl dL_law_990 (fun r w1 hq H locs h => ?_)
  obtain ⟨rfl, z6, rfl, hz6⟩ := hq
  show W p l e room_1 s m #[Value.ref b] below meth c _ _ (cc + 0) (ss + 0) (lw_Z below #[Value.ref b] s) (F0 m 993 ls [.int (iI z6)])
  refine lv_pop B.1 B.2.1 dL_law_993 rfl ?_
  refine lv_aload_n B.1 B.2.1 dL_law_994 rfl (lv_at hl 2 rfl) ?_
  refine lv_aload_n B.1 B.2.1 dL_law_995 rfl (lv_at hl 0 rfl) ?_
  refine lv_iload_n B.1 B.2.1 dL_law_996 rfl (lv_at hl 3 rfl) ?_
  refine x_iconst B dL_law_997 ?_
  refine x_iadd B dL_law_998 ?_
  refine y_sld B h hX hbl hbA ((i + 1)).toNat (by omega) dL_law_999 ?_
  refine x_iset (z := x1) (by rw [ex1]) ?_
  refine lv_aload_n B.1 B.2.1 dL_law_1000 rfl (lv_at hl 0 rfl) ?_
  refine lv_iload_n B.1 B.2.1 dL_law_1001 rfl (lv_at hl 3 rfl) ?_
  refine x_iconst B dL_law_1002 ?_
  refine x_iadd B dL_law_1003 ?_
  refine y_sld B h hX hbl hbA ((i + 2)).toNat (by omega) dL_law_1004 ?_
  refine x_iset (z := x2) (by rw [ex2]) ?_
  refine y_cV B h kX12 50 (MW.f hM 0 _ rfl) k_X12_wind rfl (c_X12_wind l D Zk ca T E am _ hM x1 x2  (by omega) (by omega)) m_1784 rfl ⟨by decide, by show cc + 0 + 0 ≤ 600000 ∧ ss + 0 + 0 ≤ 7302250; omega⟩ hl.1 [] (Nat.le_of_ble_eq_true rfl) rfl dL_law_1005 (fun r w7 hq H locs h => ?_)
  obtain ⟨z11, rfl, E12, hM9, ag10⟩ := hq
  have hC8 := CW.agree hC ag10
  show W p l e room_1 s m #[Value.ref b] below meth c _ _ (cc + 0) (ss + 0) (lw_Z below #[Value.ref b] s) (F0 m 1008 ls [.int (iI z11)])
  refine lv_pop B.1 B.2.1 dL_law_1008 rfl ?_
  refine lv_goto (tgt := 1368) B.1 B.2.1 dL_law_1009 (by decide) ?_
  exact fin T G u E12 w7 _ _ _ _ _ (by omega) hC8 hM9 h (lv_sub hl [0, 1, 2, 3] rfl) (by omega) (by omega)
