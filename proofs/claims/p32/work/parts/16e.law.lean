theorem k_X11_officer : xMV yX11_officer cX11_officer 1 (some .int) 0 := ⟨m_422, m_420, m_421, m_95, ⟨by decide +kernel, by decide +kernel, by decide +kernel⟩⟩
theorem k_X12_officer : xMV yX12_officer cX12_officer 1 (some .int) 0 := ⟨m_1506, m_1504, m_1505, m_104, ⟨by decide +kernel, by decide +kernel, by decide +kernel⟩⟩
theorem k_X11_ship : xMV yX11_ship cX11_ship 3 (some .int) 2 := ⟨m_430, m_428, m_429, m_95, ⟨by decide +kernel, by decide +kernel, by decide +kernel⟩⟩
theorem k_X12_ship : xMV yX12_ship cX12_ship 3 (some .int) 2 := ⟨m_1514, m_1512, m_1513, m_104, ⟨by decide +kernel, by decide +kernel, by decide +kernel⟩⟩
theorem k_X11_signs : xMV yX11_signs cX11_signs 5 (some .int) 3 := ⟨m_480, m_478, m_479, m_95, ⟨by decide +kernel, by decide +kernel, by decide +kernel⟩⟩
theorem k_X12_signs : xMV yX12_signs cX12_signs 4 (some .int) 3 := ⟨m_1525, m_1523, m_1524, m_104, ⟨by decide +kernel, by decide +kernel, by decide +kernel⟩⟩
theorem k_X11_trust : xMV yX11_trust cX11_trust 3 (some .boolean) 2 := ⟨m_489, m_487, m_488, m_95, ⟨by decide +kernel, by decide +kernel, by decide +kernel⟩⟩
theorem k_X12_trust : xMV yX12_trust cX12_trust 3 (some .boolean) 2 := ⟨m_1533, m_1531, m_1532, m_104, ⟨by decide +kernel, by decide +kernel, by decide +kernel⟩⟩
theorem k_X11_set : xMV yX11_set cX11_set 3 (some .boolean) 2 := ⟨m_497, m_495, m_496, m_95, ⟨by decide +kernel, by decide +kernel, by decide +kernel⟩⟩
theorem k_X12_set : xMV yX12_set cX12_set 3 (some .boolean) 2 := ⟨m_1537, m_1535, m_1536, m_104, ⟨by decide +kernel, by decide +kernel, by decide +kernel⟩⟩
theorem k_X11_read : xMV yX11_read cX11_read 7 (some .int) 5 := ⟨m_501, m_499, m_500, m_95, ⟨by decide +kernel, by decide +kernel, by decide +kernel⟩⟩
theorem k_X12_read : xMV yX12_read cX12_read 6 (some .int) 5 := ⟨m_1541, m_1539, m_1540, m_104, ⟨by decide +kernel, by decide +kernel, by decide +kernel⟩⟩
theorem k_X11_feed : xMV yX11_feed cX11_feed 6 (some .int) 5 := ⟨m_568, m_566, m_567, m_95, ⟨by decide +kernel, by decide +kernel, by decide +kernel⟩⟩
theorem k_X12_feed : xMV yX12_feed cX12_feed 8 (some .int) 5 := ⟨m_1549, m_1547, m_1548, m_104, ⟨by decide +kernel, by decide +kernel, by decide +kernel⟩⟩
theorem k_X11_scale : xMV yX11_scale cX11_scale 4 (some .int) 2 := ⟨m_576, m_574, m_575, m_95, ⟨by decide +kernel, by decide +kernel, by decide +kernel⟩⟩
theorem k_X12_scale : xMV yX12_scale cX12_scale 3 (some .int) 2 := ⟨m_1553, m_1551, m_1552, m_104, ⟨by decide +kernel, by decide +kernel, by decide +kernel⟩⟩
theorem k_X11_habits : xMV yX11_habits cX11_habits 5 (some .int) 2 := ⟨m_821, m_819, m_820, m_95, ⟨by decide +kernel, by decide +kernel, by decide +kernel⟩⟩
theorem k_X12_habits : xMV yX12_habits cX12_habits 5 (some .int) 2 := ⟨m_1654, m_1652, m_1653, m_104, ⟨by decide +kernel, by decide +kernel, by decide +kernel⟩⟩
theorem k_X11_fault : xMV yX11_fault cX11_fault 1 (some .int) 0 := ⟨m_825, m_823, m_824, m_95, ⟨by decide +kernel, by decide +kernel, by decide +kernel⟩⟩
theorem k_X12_fault : xMV yX12_fault cX12_fault 1 (some .int) 0 := ⟨m_1658, m_1656, m_1657, m_104, ⟨by decide +kernel, by decide +kernel, by decide +kernel⟩⟩
theorem k_X11_reading : xMV yX11_reading cX11_reading 4 (some .int) 2 := ⟨m_829, m_827, m_828, m_95, ⟨by decide +kernel, by decide +kernel, by decide +kernel⟩⟩
theorem k_X12_reading : xMV yX12_reading cX12_reading 3 (some .int) 2 := ⟨m_1815, m_1813, m_1814, m_104, ⟨by decide +kernel, by decide +kernel, by decide +kernel⟩⟩
theorem k_X11_reads : xMV yX11_reads cX11_reads 5 (some .int) 4 := ⟨m_877, m_875, m_876, m_95, ⟨by decide +kernel, by decide +kernel, by decide +kernel⟩⟩
theorem k_X12_reads_ : xMV yX12_reads_ cX12_reads_ 5 (some .int) 4 := ⟨m_1662, m_1660, m_1661, m_104, ⟨by decide +kernel, by decide +kernel, by decide +kernel⟩⟩
theorem k_X11_blow : xMV yX11_blow cX11_blow 9 (some .int) 5 := ⟨m_911, m_909, m_910, m_95, ⟨by decide +kernel, by decide +kernel, by decide +kernel⟩⟩
theorem k_X11_run : xMV yX11_run cX11_run 12 (some .int) 5 := ⟨m_928, m_926, m_927, m_95, ⟨by decide +kernel, by decide +kernel, by decide +kernel⟩⟩
theorem k_X12_run : xMV yX12_run cX12_run 10 (some .int) 5 := ⟨m_1697, m_1695, m_1696, m_104, ⟨by decide +kernel, by decide +kernel, by decide +kernel⟩⟩
theorem k_X11_column : xMV yX11_column cX11_column 6 (some .int) 5 := ⟨m_946, m_944, m_945, m_95, ⟨by decide +kernel, by decide +kernel, by decide +kernel⟩⟩
theorem k_X12_column : xMV yX12_column cX12_column 6 (some .int) 5 := ⟨m_1706, m_1704, m_1705, m_104, ⟨by decide +kernel, by decide +kernel, by decide +kernel⟩⟩
theorem k_X11_turn : xMV yX11_turn cX11_turn 6 (some .int) 5 := ⟨m_956, m_954, m_955, m_95, ⟨by decide +kernel, by decide +kernel, by decide +kernel⟩⟩
theorem k_X12_turn : xMV yX12_turn cX12_turn 6 (some .int) 5 := ⟨m_1714, m_1712, m_1713, m_104, ⟨by decide +kernel, by decide +kernel, by decide +kernel⟩⟩
theorem k_X11_tight : xMV yX11_tight cX11_tight 1 (some .int) 0 := ⟨m_970, m_968, m_969, m_95, ⟨by decide +kernel, by decide +kernel, by decide +kernel⟩⟩
theorem k_X12_tight : xMV yX12_tight cX12_tight 1 (some .int) 0 := ⟨m_1722, m_1720, m_1721, m_104, ⟨by decide +kernel, by decide +kernel, by decide +kernel⟩⟩
theorem k_X11_lean : xMV yX11_lean cX11_lean 3 (some .int) 2 := ⟨m_1033, m_1031, m_1032, m_95, ⟨by decide +kernel, by decide +kernel, by decide +kernel⟩⟩
theorem k_X12_lean : xMV yX12_lean cX12_lean 3 (some .int) 2 := ⟨m_1766, m_1764, m_1765, m_104, ⟨by decide +kernel, by decide +kernel, by decide +kernel⟩⟩
theorem k_X11_liked : xMV yX11_liked cX11_liked 6 (some .int) 3 := ⟨m_1045, m_1043, m_1044, m_95, ⟨by decide +kernel, by decide +kernel, by decide +kernel⟩⟩
theorem k_X12_liked : xMV yX12_liked cX12_liked 10 (some .int) 3 := ⟨m_1778, m_1776, m_1777, m_104, ⟨by decide +kernel, by decide +kernel, by decide +kernel⟩⟩
theorem k_X11_wind : xMV yX11_wind cX11_wind 3 (some .int) 2 := ⟨m_1058, m_1056, m_1057, m_95, ⟨by decide +kernel, by decide +kernel, by decide +kernel⟩⟩
theorem k_X12_wind : xMV yX12_wind cX12_wind 3 (some .int) 2 := ⟨m_1787, m_1785, m_1786, m_104, ⟨by decide +kernel, by decide +kernel, by decide +kernel⟩⟩
theorem k_X11_grew : xMV yX11_grew cX11_grew 2 (some .int) 1 := ⟨m_1085, m_1083, m_1084, m_95, ⟨by decide +kernel, by decide +kernel, by decide +kernel⟩⟩
theorem k_X12_grew : xMV yX12_grew cX12_grew 6 (some .int) 1 := ⟨m_1799, m_1797, m_1798, m_104, ⟨by decide +kernel, by decide +kernel, by decide +kernel⟩⟩
theorem k_X11_late : xMV yX11_late cX11_late 3 (some .int) 1 := ⟨m_1103, m_1101, m_1102, m_95, ⟨by decide +kernel, by decide +kernel, by decide +kernel⟩⟩
theorem k_X12_late : xMV yX12_late cX12_late 6 (some .int) 1 := ⟨m_1807, m_1805, m_1806, m_104, ⟨by decide +kernel, by decide +kernel, by decide +kernel⟩⟩
theorem k_X11_copied : xMV yX11_copied cX11_copied 6 (some .int) 2 := ⟨m_1122, m_1120, m_1121, m_95, ⟨by decide +kernel, by decide +kernel, by decide +kernel⟩⟩
theorem k_X12_copied : xMV yX12_copied cX12_copied 6 (some .int) 2 := ⟨m_1827, m_1825, m_1826, m_104, ⟨by decide +kernel, by decide +kernel, by decide +kernel⟩⟩
theorem k_X11_find : xMV yX11_find cX11_find 5 (some .int) 1 := ⟨m_1126, m_1124, m_1125, m_95, ⟨by decide +kernel, by decide +kernel, by decide +kernel⟩⟩
theorem k_X12_find : xMV yX12_find cX12_find 4 (some .int) 1 := ⟨m_1831, m_1829, m_1830, m_104, ⟨by decide +kernel, by decide +kernel, by decide +kernel⟩⟩
theorem k_X11_wished : xMV yX11_wished cX11_wished 8 (some .int) 2 := ⟨m_1130, m_1128, m_1129, m_95, ⟨by decide +kernel, by decide +kernel, by decide +kernel⟩⟩
theorem k_X12_wished : xMV yX12_wished cX12_wished 12 (some .int) 2 := ⟨m_1835, m_1833, m_1834, m_104, ⟨by decide +kernel, by decide +kernel, by decide +kernel⟩⟩
theorem k_X11_eight : xMV yX11_eight cX11_eight 12 (some .int) 4 := ⟨m_1153, m_1151, m_1152, m_95, ⟨by decide +kernel, by decide +kernel, by decide +kernel⟩⟩
theorem k_X12_eight : xMV yX12_eight cX12_eight 10 (some .int) 4 := ⟨m_1850, m_1848, m_1849, m_104, ⟨by decide +kernel, by decide +kernel, by decide +kernel⟩⟩
theorem k_X11_alike : xMV yX11_alike cX11_alike 6 (some .int) 1 := ⟨m_1159, m_1157, m_1158, m_95, ⟨by decide +kernel, by decide +kernel, by decide +kernel⟩⟩
theorem k_X12_alike : xMV yX12_alike cX12_alike 6 (some .int) 1 := ⟨m_1855, m_1853, m_1854, m_104, ⟨by decide +kernel, by decide +kernel, by decide +kernel⟩⟩
theorem k_X11_storm : xMV yX11_storm cX11_storm 5 (some .int) 4 := ⟨m_1167, m_1165, m_1166, m_95, ⟨by decide +kernel, by decide +kernel, by decide +kernel⟩⟩
theorem k_X12_storm : xMV yX12_storm cX12_storm 5 (some .int) 4 := ⟨m_1863, m_1861, m_1862, m_104, ⟨by decide +kernel, by decide +kernel, by decide +kernel⟩⟩
theorem k_X11_way : xMV yX11_way cX11_way 5 (some .int) 2 := ⟨m_1203, m_1201, m_1202, m_95, ⟨by decide +kernel, by decide +kernel, by decide +kernel⟩⟩
theorem k_X12_way : xMV yX12_way cX12_way 3 (some .int) 2 := ⟨m_1883, m_1881, m_1882, m_104, ⟨by decide +kernel, by decide +kernel, by decide +kernel⟩⟩
theorem k_X11_image : xMV yX11_image cX11_image 1 (some .int) 0 := ⟨m_1214, m_1212, m_1213, m_95, ⟨by decide +kernel, by decide +kernel, by decide +kernel⟩⟩
theorem k_X12_image : xMV yX12_image cX12_image 2 (some .int) 0 := ⟨m_1887, m_1885, m_1886, m_104, ⟨by decide +kernel, by decide +kernel, by decide +kernel⟩⟩
theorem k_X11_back : xMV yX11_back cX11_back 4 (some .int) 1 := ⟨m_1240, m_1238, m_1239, m_95, ⟨by decide +kernel, by decide +kernel, by decide +kernel⟩⟩
theorem k_X12_back : xMV yX12_back cX12_back 4 (some .int) 1 := ⟨m_1891, m_1889, m_1890, m_104, ⟨by decide +kernel, by decide +kernel, by decide +kernel⟩⟩
theorem k_X11_count : xMV yX11_count cX11_count 2 (some .int) 1 := ⟨m_1250, m_1248, m_1249, m_95, ⟨by decide +kernel, by decide +kernel, by decide +kernel⟩⟩
theorem k_X12_count : xMV yX12_count cX12_count 2 (some .int) 1 := ⟨m_1895, m_1893, m_1894, m_104, ⟨by decide +kernel, by decide +kernel, by decide +kernel⟩⟩
set_option maxHeartbeats 8000000 in
set_option maxRecDepth 100000 in
theorem law_c0 {p : Program} {l : Launch} {e : Env} {s : State} {m : MethodId} {below : List Frame} {meth : Method} {c : Code} {D : va_G} {Zk : yK} {ca : Nat → ClassId} {b L : Nat} {xs : Nat → Int32} (B : xB p s m #[Value.ref b] meth c D ca "WindWordsLaw" code 4 (some .boolean)) (hX : va_X b L xs s s.heap) (hbl : b < s.heap.size) {T : Nat → Int → Int} {G : Nat → Int → Nat} {u : Int} {E : Nat → Int → Int} {ad am : Nat → Nat} {w : yW} {H : Heap} {locs : List Loc} {ls : Array Slot} {cc ss : Nat} {i : Int} (hu0 : 0 ≤ u) (hC : CW ca T G u ad w) (hM : MW ca T E am w) (h : yH D Zk (fun q : Nat => s.heap.size ≤ q) s w H locs) (hi : 0 ≤ i ∧ i + 6 ≤ L ∧ L ≤ 3072) (hcc : cc ≤ 500000 ∧ ss ≤ 7000000) (hl : lv_has ls 4 [(0, .ref b), (1, .ref (ad 0)), (2, .ref (am 0)), (3, .int (iI i))]) (fin : (∀ (T : Nat → Int → Int) (G : Nat → Int → Nat) (u : Int) (E : Nat → Int → Int) (w : yW) (H : Heap) (locs : List Loc) (ls : Array Slot) (c2 s2 : Nat), 0 ≤ u → CW ca T G u ad w → MW ca T E am w → yH D Zk (fun q : Nat => s.heap.size ≤ q) s w H locs → lv_has ls 4 [(0, .ref b), (1, .ref (ad 0)), (2, .ref (am 0)), (3, .int (iI i))] → c2 ≤ cc + 20 → s2 ≤ ss + 3000 → W p l e room_1 s m #[Value.ref b] below meth c H locs c2 s2 (lw_Z below #[Value.ref b] s) (F0 m 1368 ls []))) : W p l e room_1 s m #[Value.ref b] below meth c H locs cc ss (lw_Z below #[Value.ref b] s) (F0 m 176 ls []) := by
  have hbA : ¬ (fun q : Nat => s.heap.size ≤ q) b := Nat.not_le.mpr hbl
  have hs := pi_s (CW.pi hC)
  show W p l e room_1 s m #[Value.ref b] below meth c H locs (cc + 0) (ss + 0) (lw_Z below #[Value.ref b] s) (F0 m 176 ls [])
  refine lv_aload_n B.1 B.2.1 dL_law_176 rfl (lv_at hl 1 rfl) ?_
  refine y_cV B h kX11 0 (CW.f hC 0 _ rfl) k_X11_officer rfl (c_X11_officer l D Zk ca T G u ad _ hC   ) m_419 rfl ⟨by decide, by show cc + 0 + 0 ≤ 600000 ∧ ss + 0 + 0 ≤ 7302250; omega⟩ hl.1 [] (Nat.le_of_ble_eq_true rfl) rfl dL_law_177 (fun r w1 hq H locs h => ?_)
  obtain ⟨z5, rfl, hq⟩ := hq
  rcases hq with ⟨q6c0, q6z, hC2, ag4⟩ | ⟨q6n, q6z, q6w⟩
  · have hM3 := MW.agree hM ag4
    show W p l e room_1 s m #[Value.ref b] below meth c _ _ (cc + 0) (ss + 0) (lw_Z below #[Value.ref b] s) (F0 m 180 ls [.int (iI z5)])
    refine lv_pop B.1 B.2.1 dL_law_180 rfl ?_
    refine lv_aload_n B.1 B.2.1 dL_law_181 rfl (lv_at hl 2 rfl) ?_
    refine y_cV B h kX12 50 (MW.f hM3 0 _ rfl) k_X12_officer rfl (c_X12_officer l D Zk ca T E am _ hM3   ) m_1503 rfl ⟨by decide, by show cc + 0 + 0 ≤ 600000 ∧ ss + 0 + 0 ≤ 7302250; omega⟩ hl.1 [] (Nat.le_of_ble_eq_true rfl) rfl dL_law_182 (fun r w7 hq H locs h => ?_)
    obtain ⟨z11, rfl, hq⟩ := hq
    rcases hq with ⟨q12c0, q12z, hM9, ag10⟩ | ⟨q12n, q12z, q12w⟩
    · have hC8 := CW.agree hC2 ag10
      show W p l e room_1 s m #[Value.ref b] below meth c _ _ (cc + 0) (ss + 0) (lw_Z below #[Value.ref b] s) (F0 m 185 ls [.int (iI z11)])
      refine lv_pop B.1 B.2.1 dL_law_185 rfl ?_
      refine lv_goto (tgt := 1368) B.1 B.2.1 dL_law_186 (by decide) ?_
      exact fin (tOff T) G u E w7 _ _ _ _ _ (by omega) hC8 hM9 h (lv_sub hl [0, 1, 2, 3] rfl) (by omega) (by omega)
    · exfalso
      first | omega | exact q12n q6c0
  · rw [q6w] at h
    show W p l e room_1 s m #[Value.ref b] below meth c _ _ (cc + 0) (ss + 0) (lw_Z below #[Value.ref b] s) (F0 m 180 ls [.int (iI z5)])
    refine lv_pop B.1 B.2.1 dL_law_180 rfl ?_
    refine lv_aload_n B.1 B.2.1 dL_law_181 rfl (lv_at hl 2 rfl) ?_
    refine y_cV B h kX12 50 (MW.f hM 0 _ rfl) k_X12_officer rfl (c_X12_officer l D Zk ca T E am _ hM   ) m_1503 rfl ⟨by decide, by show cc + 0 + 0 ≤ 600000 ∧ ss + 0 + 0 ≤ 7302250; omega⟩ hl.1 [] (Nat.le_of_ble_eq_true rfl) rfl dL_law_182 (fun r w13 hq H locs h => ?_)
    obtain ⟨z17, rfl, hq⟩ := hq
    rcases hq with ⟨q18c0, q18z, hM15, ag16⟩ | ⟨q18n, q18z, q18w⟩
    · exfalso
      first | omega | exact q6n q18c0
    · rw [q18w] at h
      show W p l e room_1 s m #[Value.ref b] below meth c _ _ (cc + 0) (ss + 0) (lw_Z below #[Value.ref b] s) (F0 m 185 ls [.int (iI z17)])
      refine lv_pop B.1 B.2.1 dL_law_185 rfl ?_
      refine lv_goto (tgt := 1368) B.1 B.2.1 dL_law_186 (by decide) ?_
      exact fin T G u E w _ _ _ _ _ (by omega) hC hM h (lv_sub hl [0, 1, 2, 3] rfl) (by omega) (by omega)
set_option maxHeartbeats 8000000 in
set_option maxRecDepth 100000 in
theorem law_c1 {p : Program} {l : Launch} {e : Env} {s : State} {m : MethodId} {below : List Frame} {meth : Method} {c : Code} {D : va_G} {Zk : yK} {ca : Nat → ClassId} {b L : Nat} {xs : Nat → Int32} (B : xB p s m #[Value.ref b] meth c D ca "WindWordsLaw" code 4 (some .boolean)) (hX : va_X b L xs s s.heap) (hbl : b < s.heap.size) {T : Nat → Int → Int} {G : Nat → Int → Nat} {u : Int} {E : Nat → Int → Int} {ad am : Nat → Nat} {w : yW} {H : Heap} {locs : List Loc} {ls : Array Slot} {cc ss : Nat} {i : Int} (hu0 : 0 ≤ u) (hC : CW ca T G u ad w) (hM : MW ca T E am w) (h : yH D Zk (fun q : Nat => s.heap.size ≤ q) s w H locs) (hi : 0 ≤ i ∧ i + 6 ≤ L ∧ L ≤ 3072) (hcc : cc ≤ 500000 ∧ ss ≤ 7000000) (hl : lv_has ls 4 [(0, .ref b), (1, .ref (ad 0)), (2, .ref (am 0)), (3, .int (iI i))]) (fin : (∀ (T : Nat → Int → Int) (G : Nat → Int → Nat) (u : Int) (E : Nat → Int → Int) (w : yW) (H : Heap) (locs : List Loc) (ls : Array Slot) (c2 s2 : Nat), 0 ≤ u → CW ca T G u ad w → MW ca T E am w → yH D Zk (fun q : Nat => s.heap.size ≤ q) s w H locs → lv_has ls 4 [(0, .ref b), (1, .ref (ad 0)), (2, .ref (am 0)), (3, .int (iI i))] → c2 ≤ cc + 20 → s2 ≤ ss + 3000 → W p l e room_1 s m #[Value.ref b] below meth c H locs c2 s2 (lw_Z below #[Value.ref b] s) (F0 m 1368 ls []))) : W p l e room_1 s m #[Value.ref b] below meth c H locs cc ss (lw_Z below #[Value.ref b] s) (F0 m 189 ls []) := by
  have hbA : ¬ (fun q : Nat => s.heap.size ≤ q) b := Nat.not_le.mpr hbl
  have hs := pi_s (CW.pi hC)
  obtain ⟨x1, ex1⟩ : ∃ z : Int, z = (xs (i + 1).toNat).toInt := ⟨_, rfl⟩
  have hx1 : xr x1 := by rw [ex1]; exact iI_r _
  obtain ⟨x2, ex2⟩ : ∃ z : Int, z = (xs (i + 2).toNat).toInt := ⟨_, rfl⟩
  have hx2 : xr x2 := by rw [ex2]; exact iI_r _
  show W p l e room_1 s m #[Value.ref b] below meth c H locs (cc + 0) (ss + 0) (lw_Z below #[Value.ref b] s) (F0 m 189 ls [])
  refine lv_aload_n B.1 B.2.1 dL_law_189 rfl (lv_at hl 1 rfl) ?_
  refine lv_aload_n B.1 B.2.1 dL_law_190 rfl (lv_at hl 0 rfl) ?_
  refine lv_iload_n B.1 B.2.1 dL_law_191 rfl (lv_at hl 3 rfl) ?_
  refine x_iconst B dL_law_192 ?_
  refine x_iadd B dL_law_193 ?_
  refine y_sld B h hX hbl hbA ((i + 1)).toNat (by omega) dL_law_194 ?_
  refine x_iset (z := x1) (by rw [ex1]) ?_
  refine lv_aload_n B.1 B.2.1 dL_law_195 rfl (lv_at hl 0 rfl) ?_
  refine lv_iload_n B.1 B.2.1 dL_law_196 rfl (lv_at hl 3 rfl) ?_
  refine x_iconst B dL_law_197 ?_
  refine x_iadd B dL_law_198 ?_
  refine y_sld B h hX hbl hbA ((i + 2)).toNat (by omega) dL_law_199 ?_
  refine x_iset (z := x2) (by rw [ex2]) ?_
  refine y_cV B h kX11 0 (CW.f hC 0 _ rfl) k_X11_ship rfl (c_X11_ship l D Zk ca T G u ad _ hC x1 x2  (by omega) (by omega)) m_427 rfl ⟨by decide, by show cc + 0 + 3 ≤ 600000 ∧ ss + 0 + 2005 ≤ 7302250; omega⟩ hl.1 [] (Nat.le_of_ble_eq_true rfl) rfl dL_law_200 (fun r w1 hq H locs h => ?_)
  obtain ⟨z5, rfl, hq⟩ := hq
  rcases hq with ⟨q6c0, q6c1, q6z, G7, hC2, ag4⟩ | ⟨q6n, q6z, q6w⟩
  · have hM3 := MW.agree hM ag4
    show W p l e room_1 s m #[Value.ref b] below meth c _ _ (cc + 3) (ss + 2005) (lw_Z below #[Value.ref b] s) (F0 m 203 ls [.int (iI z5)])
    refine lv_pop B.1 B.2.1 dL_law_203 rfl ?_
    refine lv_aload_n B.1 B.2.1 dL_law_204 rfl (lv_at hl 2 rfl) ?_
    refine lv_aload_n B.1 B.2.1 dL_law_205 rfl (lv_at hl 0 rfl) ?_
    refine lv_iload_n B.1 B.2.1 dL_law_206 rfl (lv_at hl 3 rfl) ?_
    refine x_iconst B dL_law_207 ?_
    refine x_iadd B dL_law_208 ?_
    refine y_sld B h hX hbl hbA ((i + 1)).toNat (by omega) dL_law_209 ?_
    refine x_iset (z := x1) (by rw [ex1]) ?_
    refine lv_aload_n B.1 B.2.1 dL_law_210 rfl (lv_at hl 0 rfl) ?_
    refine lv_iload_n B.1 B.2.1 dL_law_211 rfl (lv_at hl 3 rfl) ?_
    refine x_iconst B dL_law_212 ?_
    refine x_iadd B dL_law_213 ?_
    refine y_sld B h hX hbl hbA ((i + 2)).toNat (by omega) dL_law_214 ?_
    refine x_iset (z := x2) (by rw [ex2]) ?_
    refine y_cV B h kX12 50 (MW.f hM3 0 _ rfl) k_X12_ship rfl (c_X12_ship l D Zk ca T E am _ hM3 x1 x2  (by omega) (by omega)) m_1511 rfl ⟨by decide, by show cc + 3 + 0 ≤ 600000 ∧ ss + 2005 + 0 ≤ 7302250; omega⟩ hl.1 [] (Nat.le_of_ble_eq_true rfl) rfl dL_law_215 (fun r w8 hq H locs h => ?_)
    obtain ⟨z12, rfl, hq⟩ := hq
    rcases hq with ⟨q13c0, q13c1, q13z, hM10, ag11⟩ | ⟨q13n, q13z, q13w⟩
    · have hC9 := CW.agree hC2 ag11
      show W p l e room_1 s m #[Value.ref b] below meth c _ _ (cc + 3) (ss + 2005) (lw_Z below #[Value.ref b] s) (F0 m 218 ls [.int (iI z12)])
      refine lv_pop B.1 B.2.1 dL_law_218 rfl ?_
      refine lv_goto (tgt := 1368) B.1 B.2.1 dL_law_219 (by decide) ?_
      exact fin (tShip T x1 x2) G7 u E w8 _ _ _ _ _ (by omega) hC9 hM10 h (lv_sub hl [0, 1, 2, 3] rfl) (by omega) (by omega)
    · exfalso
      first | omega | exact q13n ⟨q6c0, q6c1⟩
  · rw [q6w] at h
    show W p l e room_1 s m #[Value.ref b] below meth c _ _ (cc + 3) (ss + 2005) (lw_Z below #[Value.ref b] s) (F0 m 203 ls [.int (iI z5)])
    refine lv_pop B.1 B.2.1 dL_law_203 rfl ?_
    refine lv_aload_n B.1 B.2.1 dL_law_204 rfl (lv_at hl 2 rfl) ?_
    refine lv_aload_n B.1 B.2.1 dL_law_205 rfl (lv_at hl 0 rfl) ?_
    refine lv_iload_n B.1 B.2.1 dL_law_206 rfl (lv_at hl 3 rfl) ?_
    refine x_iconst B dL_law_207 ?_
    refine x_iadd B dL_law_208 ?_
    refine y_sld B h hX hbl hbA ((i + 1)).toNat (by omega) dL_law_209 ?_
    refine x_iset (z := x1) (by rw [ex1]) ?_
    refine lv_aload_n B.1 B.2.1 dL_law_210 rfl (lv_at hl 0 rfl) ?_
    refine lv_iload_n B.1 B.2.1 dL_law_211 rfl (lv_at hl 3 rfl) ?_
    refine x_iconst B dL_law_212 ?_
    refine x_iadd B dL_law_213 ?_
    refine y_sld B h hX hbl hbA ((i + 2)).toNat (by omega) dL_law_214 ?_
    refine x_iset (z := x2) (by rw [ex2]) ?_
    refine y_cV B h kX12 50 (MW.f hM 0 _ rfl) k_X12_ship rfl (c_X12_ship l D Zk ca T E am _ hM x1 x2  (by omega) (by omega)) m_1511 rfl ⟨by decide, by show cc + 3 + 0 ≤ 600000 ∧ ss + 2005 + 0 ≤ 7302250; omega⟩ hl.1 [] (Nat.le_of_ble_eq_true rfl) rfl dL_law_215 (fun r w14 hq H locs h => ?_)
    obtain ⟨z18, rfl, hq⟩ := hq
    rcases hq with ⟨q19c0, q19c1, q19z, hM16, ag17⟩ | ⟨q19n, q19z, q19w⟩
    · exfalso
      first | omega | exact q6n ⟨q19c0, q19c1⟩
    · rw [q19w] at h
      show W p l e room_1 s m #[Value.ref b] below meth c _ _ (cc + 3) (ss + 2005) (lw_Z below #[Value.ref b] s) (F0 m 218 ls [.int (iI z18)])
      refine lv_pop B.1 B.2.1 dL_law_218 rfl ?_
      refine lv_goto (tgt := 1368) B.1 B.2.1 dL_law_219 (by decide) ?_
      exact fin T G u E w _ _ _ _ _ (by omega) hC hM h (lv_sub hl [0, 1, 2, 3] rfl) (by omega) (by omega)
set_option maxHeartbeats 8000000 in
set_option maxRecDepth 100000 in
theorem law_c2 {p : Program} {l : Launch} {e : Env} {s : State} {m : MethodId} {below : List Frame} {meth : Method} {c : Code} {D : va_G} {Zk : yK} {ca : Nat → ClassId} {b L : Nat} {xs : Nat → Int32} (B : xB p s m #[Value.ref b] meth c D ca "WindWordsLaw" code 4 (some .boolean)) (hX : va_X b L xs s s.heap) (hbl : b < s.heap.size) {T : Nat → Int → Int} {G : Nat → Int → Nat} {u : Int} {E : Nat → Int → Int} {ad am : Nat → Nat} {w : yW} {H : Heap} {locs : List Loc} {ls : Array Slot} {cc ss : Nat} {i : Int} (hu0 : 0 ≤ u) (hC : CW ca T G u ad w) (hM : MW ca T E am w) (h : yH D Zk (fun q : Nat => s.heap.size ≤ q) s w H locs) (hi : 0 ≤ i ∧ i + 6 ≤ L ∧ L ≤ 3072) (hcc : cc ≤ 500000 ∧ ss ≤ 7000000) (hl : lv_has ls 4 [(0, .ref b), (1, .ref (ad 0)), (2, .ref (am 0)), (3, .int (iI i))]) (fin : (∀ (T : Nat → Int → Int) (G : Nat → Int → Nat) (u : Int) (E : Nat → Int → Int) (w : yW) (H : Heap) (locs : List Loc) (ls : Array Slot) (c2 s2 : Nat), 0 ≤ u → CW ca T G u ad w → MW ca T E am w → yH D Zk (fun q : Nat => s.heap.size ≤ q) s w H locs → lv_has ls 4 [(0, .ref b), (1, .ref (ad 0)), (2, .ref (am 0)), (3, .int (iI i))] → c2 ≤ cc + 20 → s2 ≤ ss + 3000 → W p l e room_1 s m #[Value.ref b] below meth c H locs c2 s2 (lw_Z below #[Value.ref b] s) (F0 m 1368 ls []))) : W p l e room_1 s m #[Value.ref b] below meth c H locs cc ss (lw_Z below #[Value.ref b] s) (F0 m 222 ls []) := by
  have hbA : ¬ (fun q : Nat => s.heap.size ≤ q) b := Nat.not_le.mpr hbl
  have hs := pi_s (CW.pi hC)
  obtain ⟨x1, ex1⟩ : ∃ z : Int, z = (xs (i + 1).toNat).toInt := ⟨_, rfl⟩
  have hx1 : xr x1 := by rw [ex1]; exact iI_r _
  obtain ⟨x2, ex2⟩ : ∃ z : Int, z = (xs (i + 2).toNat).toInt := ⟨_, rfl⟩
  have hx2 : xr x2 := by rw [ex2]; exact iI_r _
  obtain ⟨x3, ex3⟩ : ∃ z : Int, z = (xs (i + 3).toNat).toInt := ⟨_, rfl⟩
  have hx3 : xr x3 := by rw [ex3]; exact iI_r _
  show W p l e room_1 s m #[Value.ref b] below meth c H locs (cc + 0) (ss + 0) (lw_Z below #[Value.ref b] s) (F0 m 222 ls [])
  refine lv_aload_n B.1 B.2.1 dL_law_222 rfl (lv_at hl 1 rfl) ?_
  refine lv_aload_n B.1 B.2.1 dL_law_223 rfl (lv_at hl 0 rfl) ?_
  refine lv_iload_n B.1 B.2.1 dL_law_224 rfl (lv_at hl 3 rfl) ?_
  refine x_iconst B dL_law_225 ?_
  refine x_iadd B dL_law_226 ?_
  refine y_sld B h hX hbl hbA ((i + 1)).toNat (by omega) dL_law_227 ?_
  refine x_iset (z := x1) (by rw [ex1]) ?_
  refine lv_aload_n B.1 B.2.1 dL_law_228 rfl (lv_at hl 0 rfl) ?_
  refine lv_iload_n B.1 B.2.1 dL_law_229 rfl (lv_at hl 3 rfl) ?_
  refine x_iconst B dL_law_230 ?_
  refine x_iadd B dL_law_231 ?_
  refine y_sld B h hX hbl hbA ((i + 2)).toNat (by omega) dL_law_232 ?_
  refine x_iset (z := x2) (by rw [ex2]) ?_
  refine lv_aload_n B.1 B.2.1 dL_law_233 rfl (lv_at hl 0 rfl) ?_
  refine lv_iload_n B.1 B.2.1 dL_law_234 rfl (lv_at hl 3 rfl) ?_
  refine x_iconst B dL_law_235 ?_
  refine x_iadd B dL_law_236 ?_
  refine y_sld B h hX hbl hbA ((i + 3)).toNat (by omega) dL_law_237 ?_
  refine x_iset (z := x3) (by rw [ex3]) ?_
  refine y_cV B h kX11 0 (CW.f hC 0 _ rfl) k_X11_signs rfl (c_X11_signs l D Zk ca T G u ad _ hC x1 x2 x3  (by omega) (by omega) (by omega)) m_477 rfl ⟨by decide, by show cc + 0 + 0 ≤ 600000 ∧ ss + 0 + 0 ≤ 7302250; omega⟩ hl.1 [] (Nat.le_of_ble_eq_true rfl) rfl dL_law_238 (fun r w1 hq H locs h => ?_)
  obtain ⟨z5, rfl, hq⟩ := hq
  rcases hq with ⟨q6c0, q6c1, q6z, hC2, ag4⟩ | ⟨q6n, q6z, q6w⟩
  · have hM3 := MW.agree hM ag4
    show W p l e room_1 s m #[Value.ref b] below meth c _ _ (cc + 0) (ss + 0) (lw_Z below #[Value.ref b] s) (F0 m 241 ls [.int (iI z5)])
    refine lv_pop B.1 B.2.1 dL_law_241 rfl ?_
    refine lv_aload_n B.1 B.2.1 dL_law_242 rfl (lv_at hl 2 rfl) ?_
    refine lv_aload_n B.1 B.2.1 dL_law_243 rfl (lv_at hl 0 rfl) ?_
    refine lv_iload_n B.1 B.2.1 dL_law_244 rfl (lv_at hl 3 rfl) ?_
    refine x_iconst B dL_law_245 ?_
    refine x_iadd B dL_law_246 ?_
    refine y_sld B h hX hbl hbA ((i + 1)).toNat (by omega) dL_law_247 ?_
    refine x_iset (z := x1) (by rw [ex1]) ?_
    refine lv_aload_n B.1 B.2.1 dL_law_248 rfl (lv_at hl 0 rfl) ?_
    refine lv_iload_n B.1 B.2.1 dL_law_249 rfl (lv_at hl 3 rfl) ?_
    refine x_iconst B dL_law_250 ?_
    refine x_iadd B dL_law_251 ?_
    refine y_sld B h hX hbl hbA ((i + 2)).toNat (by omega) dL_law_252 ?_
    refine x_iset (z := x2) (by rw [ex2]) ?_
    refine lv_aload_n B.1 B.2.1 dL_law_253 rfl (lv_at hl 0 rfl) ?_
    refine lv_iload_n B.1 B.2.1 dL_law_254 rfl (lv_at hl 3 rfl) ?_
    refine x_iconst B dL_law_255 ?_
    refine x_iadd B dL_law_256 ?_
    refine y_sld B h hX hbl hbA ((i + 3)).toNat (by omega) dL_law_257 ?_
    refine x_iset (z := x3) (by rw [ex3]) ?_
    refine y_cV B h kX12 50 (MW.f hM3 0 _ rfl) k_X12_signs rfl (c_X12_signs l D Zk ca T E am _ hM3 x1 x2 x3  (by omega) (by omega) (by omega)) m_1522 rfl ⟨by decide, by show cc + 0 + 0 ≤ 600000 ∧ ss + 0 + 0 ≤ 7302250; omega⟩ hl.1 [] (Nat.le_of_ble_eq_true rfl) rfl dL_law_258 (fun r w7 hq H locs h => ?_)
    obtain ⟨z11, rfl, hq⟩ := hq
    rcases hq with ⟨q12c0, q12c1, q12z, hM9, ag10⟩ | ⟨q12n, q12z, q12w⟩
    · have hC8 := CW.agree hC2 ag10
      show W p l e room_1 s m #[Value.ref b] below meth c _ _ (cc + 0) (ss + 0) (lw_Z below #[Value.ref b] s) (F0 m 261 ls [.int (iI z11)])
      refine lv_pop B.1 B.2.1 dL_law_261 rfl ?_
      refine lv_goto (tgt := 1368) B.1 B.2.1 dL_law_262 (by decide) ?_
      exact fin (tSigns T x1 x2 x3) G u E w7 _ _ _ _ _ (by omega) hC8 hM9 h (lv_sub hl [0, 1, 2, 3] rfl) (by omega) (by omega)
    · exfalso
      first | omega | exact q12n ⟨q6c0, q6c1⟩
  · rw [q6w] at h
    show W p l e room_1 s m #[Value.ref b] below meth c _ _ (cc + 0) (ss + 0) (lw_Z below #[Value.ref b] s) (F0 m 241 ls [.int (iI z5)])
    refine lv_pop B.1 B.2.1 dL_law_241 rfl ?_
    refine lv_aload_n B.1 B.2.1 dL_law_242 rfl (lv_at hl 2 rfl) ?_
    refine lv_aload_n B.1 B.2.1 dL_law_243 rfl (lv_at hl 0 rfl) ?_
    refine lv_iload_n B.1 B.2.1 dL_law_244 rfl (lv_at hl 3 rfl) ?_
    refine x_iconst B dL_law_245 ?_
    refine x_iadd B dL_law_246 ?_
    refine y_sld B h hX hbl hbA ((i + 1)).toNat (by omega) dL_law_247 ?_
    refine x_iset (z := x1) (by rw [ex1]) ?_
    refine lv_aload_n B.1 B.2.1 dL_law_248 rfl (lv_at hl 0 rfl) ?_
    refine lv_iload_n B.1 B.2.1 dL_law_249 rfl (lv_at hl 3 rfl) ?_
    refine x_iconst B dL_law_250 ?_
    refine x_iadd B dL_law_251 ?_
    refine y_sld B h hX hbl hbA ((i + 2)).toNat (by omega) dL_law_252 ?_
    refine x_iset (z := x2) (by rw [ex2]) ?_
    refine lv_aload_n B.1 B.2.1 dL_law_253 rfl (lv_at hl 0 rfl) ?_
    refine lv_iload_n B.1 B.2.1 dL_law_254 rfl (lv_at hl 3 rfl) ?_
    refine x_iconst B dL_law_255 ?_
    refine x_iadd B dL_law_256 ?_
    refine y_sld B h hX hbl hbA ((i + 3)).toNat (by omega) dL_law_257 ?_
    refine x_iset (z := x3) (by rw [ex3]) ?_
    refine y_cV B h kX12 50 (MW.f hM 0 _ rfl) k_X12_signs rfl (c_X12_signs l D Zk ca T E am _ hM x1 x2 x3  (by omega) (by omega) (by omega)) m_1522 rfl ⟨by decide, by show cc + 0 + 0 ≤ 600000 ∧ ss + 0 + 0 ≤ 7302250; omega⟩ hl.1 [] (Nat.le_of_ble_eq_true rfl) rfl dL_law_258 (fun r w13 hq H locs h => ?_)
    obtain ⟨z17, rfl, hq⟩ := hq
    rcases hq with ⟨q18c0, q18c1, q18z, hM15, ag16⟩ | ⟨q18n, q18z, q18w⟩
    · exfalso
      first | omega | exact q6n ⟨q18c0, q18c1⟩
    · rw [q18w] at h
      show W p l e room_1 s m #[Value.ref b] below meth c _ _ (cc + 0) (ss + 0) (lw_Z below #[Value.ref b] s) (F0 m 261 ls [.int (iI z17)])
      refine lv_pop B.1 B.2.1 dL_law_261 rfl ?_
      refine lv_goto (tgt := 1368) B.1 B.2.1 dL_law_262 (by decide) ?_
      exact fin T G u E w _ _ _ _ _ (by omega) hC hM h (lv_sub hl [0, 1, 2, 3] rfl) (by omega) (by omega)
set_option maxHeartbeats 8000000 in
set_option maxRecDepth 100000 in
theorem law_c3 {p : Program} {l : Launch} {e : Env} {s : State} {m : MethodId} {below : List Frame} {meth : Method} {c : Code} {D : va_G} {Zk : yK} {ca : Nat → ClassId} {b L : Nat} {xs : Nat → Int32} (B : xB p s m #[Value.ref b] meth c D ca "WindWordsLaw" code 4 (some .boolean)) (hX : va_X b L xs s s.heap) (hbl : b < s.heap.size) {T : Nat → Int → Int} {G : Nat → Int → Nat} {u : Int} {E : Nat → Int → Int} {ad am : Nat → Nat} {w : yW} {H : Heap} {locs : List Loc} {ls : Array Slot} {cc ss : Nat} {i : Int} (hu0 : 0 ≤ u) (hC : CW ca T G u ad w) (hM : MW ca T E am w) (h : yH D Zk (fun q : Nat => s.heap.size ≤ q) s w H locs) (hi : 0 ≤ i ∧ i + 6 ≤ L ∧ L ≤ 3072) (hcc : cc ≤ 500000 ∧ ss ≤ 7000000) (hl : lv_has ls 4 [(0, .ref b), (1, .ref (ad 0)), (2, .ref (am 0)), (3, .int (iI i))]) (fin : (∀ (T : Nat → Int → Int) (G : Nat → Int → Nat) (u : Int) (E : Nat → Int → Int) (w : yW) (H : Heap) (locs : List Loc) (ls : Array Slot) (c2 s2 : Nat), 0 ≤ u → CW ca T G u ad w → MW ca T E am w → yH D Zk (fun q : Nat => s.heap.size ≤ q) s w H locs → lv_has ls 4 [(0, .ref b), (1, .ref (ad 0)), (2, .ref (am 0)), (3, .int (iI i))] → c2 ≤ cc + 20 → s2 ≤ ss + 3000 → W p l e room_1 s m #[Value.ref b] below meth c H locs c2 s2 (lw_Z below #[Value.ref b] s) (F0 m 1368 ls []))) : W p l e room_1 s m #[Value.ref b] below meth c H locs cc ss (lw_Z below #[Value.ref b] s) (F0 m 265 ls []) := by
  have hbA : ¬ (fun q : Nat => s.heap.size ≤ q) b := Nat.not_le.mpr hbl
  have hs := pi_s (CW.pi hC)
  obtain ⟨x1, ex1⟩ : ∃ z : Int, z = (xs (i + 1).toNat).toInt := ⟨_, rfl⟩
  have hx1 : xr x1 := by rw [ex1]; exact iI_r _
  obtain ⟨x2, ex2⟩ : ∃ z : Int, z = (xs (i + 2).toNat).toInt := ⟨_, rfl⟩
  have hx2 : xr x2 := by rw [ex2]; exact iI_r _
  show W p l e room_1 s m #[Value.ref b] below meth c H locs (cc + 0) (ss + 0) (lw_Z below #[Value.ref b] s) (F0 m 265 ls [])
  refine lv_aload_n B.1 B.2.1 dL_law_265 rfl (lv_at hl 1 rfl) ?_
  refine lv_aload_n B.1 B.2.1 dL_law_266 rfl (lv_at hl 0 rfl) ?_
  refine lv_iload_n B.1 B.2.1 dL_law_267 rfl (lv_at hl 3 rfl) ?_
  refine x_iconst B dL_law_268 ?_
  refine x_iadd B dL_law_269 ?_
  refine y_sld B h hX hbl hbA ((i + 1)).toNat (by omega) dL_law_270 ?_
  refine x_iset (z := x1) (by rw [ex1]) ?_
  refine lv_aload_n B.1 B.2.1 dL_law_271 rfl (lv_at hl 0 rfl) ?_
  refine lv_iload_n B.1 B.2.1 dL_law_272 rfl (lv_at hl 3 rfl) ?_
  refine x_iconst B dL_law_273 ?_
  refine x_iadd B dL_law_274 ?_
  refine y_sld B h hX hbl hbA ((i + 2)).toNat (by omega) dL_law_275 ?_
  refine x_iset (z := x2) (by rw [ex2]) ?_
  refine x_if_eq B (by omega) (tgt := 283) dL_law_276 (by decide) (fun c1 => ?_) (fun c1 => ?_)
  · refine x_iconst B dL_law_283 ?_
    refine y_cV B h kX11 0 (CW.f hC 0 _ rfl) k_X11_trust rfl (c_X11_trust l D Zk ca T G u ad _ hC x1 0  (by omega) (by omega)) m_486 rfl ⟨by decide, by show cc + 0 + 0 ≤ 600000 ∧ ss + 0 + 0 ≤ 7302250; omega⟩ hl.1 [] (Nat.le_of_ble_eq_true rfl) rfl dL_law_284 (fun r w2 hq H locs h => ?_)
    obtain ⟨rfl, _, rfl, ⟨rfl, b7⟩ | ⟨rfl, b7⟩⟩ := hq
    · show W p l e room_1 s m #[Value.ref b] below meth c _ _ (cc + 0) (ss + 0) (lw_Z below #[Value.ref b] s) (F0 m 287 ls [.int (iI 1)])
      refine lv_pop B.1 B.2.1 dL_law_287 rfl ?_
      refine lv_aload_n B.1 B.2.1 dL_law_288 rfl (lv_at hl 2 rfl) ?_
      refine lv_aload_n B.1 B.2.1 dL_law_289 rfl (lv_at hl 0 rfl) ?_
      refine lv_iload_n B.1 B.2.1 dL_law_290 rfl (lv_at hl 3 rfl) ?_
      refine x_iconst B dL_law_291 ?_
      refine x_iadd B dL_law_292 ?_
      refine y_sld B h hX hbl hbA ((i + 1)).toNat (by omega) dL_law_293 ?_
      refine x_iset (z := x1) (by rw [ex1]) ?_
      refine lv_aload_n B.1 B.2.1 dL_law_294 rfl (lv_at hl 0 rfl) ?_
      refine lv_iload_n B.1 B.2.1 dL_law_295 rfl (lv_at hl 3 rfl) ?_
      refine x_iconst B dL_law_296 ?_
      refine x_iadd B dL_law_297 ?_
      refine y_sld B h hX hbl hbA ((i + 2)).toNat (by omega) dL_law_298 ?_
      refine x_iset (z := x2) (by rw [ex2]) ?_
      refine x_if_eq B (by omega) (tgt := 306) dL_law_299 (by decide) (fun c8 => ?_) (fun c8 => ?_)
      · refine x_iconst B dL_law_306 ?_
        refine y_cV B h kX12 50 (MW.f hM 0 _ rfl) k_X12_trust rfl (c_X12_trust l D Zk ca T E am _ hM x1 0  (by omega) (by omega)) m_1530 rfl ⟨by decide, by show cc + 0 + 0 ≤ 600000 ∧ ss + 0 + 0 ≤ 7302250; omega⟩ hl.1 [] (Nat.le_of_ble_eq_true rfl) rfl dL_law_307 (fun r w9 hq H locs h => ?_)
        obtain ⟨rfl, _, rfl, ⟨rfl, b14⟩ | ⟨rfl, b14⟩⟩ := hq
        · show W p l e room_1 s m #[Value.ref b] below meth c _ _ (cc + 0) (ss + 0) (lw_Z below #[Value.ref b] s) (F0 m 310 ls [.int (iI 1)])
          refine lv_pop B.1 B.2.1 dL_law_310 rfl ?_
          refine lv_goto (tgt := 1368) B.1 B.2.1 dL_law_311 (by decide) ?_
          exact fin T G u E w _ _ _ _ _ (by omega) hC hM h (lv_sub hl [0, 1, 2, 3] rfl) (by omega) (by omega)
        · show W p l e room_1 s m #[Value.ref b] below meth c _ _ (cc + 0) (ss + 0) (lw_Z below #[Value.ref b] s) (F0 m 310 ls [.int (iI 0)])
          refine lv_pop B.1 B.2.1 dL_law_310 rfl ?_
          refine lv_goto (tgt := 1368) B.1 B.2.1 dL_law_311 (by decide) ?_
          exact fin T G u E w _ _ _ _ _ (by omega) hC hM h (lv_sub hl [0, 1, 2, 3] rfl) (by omega) (by omega)
      · refine x_iconst B dL_law_302 ?_
        refine lv_goto (tgt := 307) B.1 B.2.1 dL_law_303 (by decide) ?_
        refine y_cV B h kX12 50 (MW.f hM 0 _ rfl) k_X12_trust rfl (c_X12_trust l D Zk ca T E am _ hM x1 1  (by omega) (by omega)) m_1530 rfl ⟨by decide, by show cc + 0 + 0 ≤ 600000 ∧ ss + 0 + 0 ≤ 7302250; omega⟩ hl.1 [] (Nat.le_of_ble_eq_true rfl) rfl dL_law_307 (fun r w15 hq H locs h => ?_)
        obtain ⟨rfl, _, rfl, ⟨rfl, b20⟩ | ⟨rfl, b20⟩⟩ := hq
        · show W p l e room_1 s m #[Value.ref b] below meth c _ _ (cc + 0) (ss + 0) (lw_Z below #[Value.ref b] s) (F0 m 310 ls [.int (iI 1)])
          refine lv_pop B.1 B.2.1 dL_law_310 rfl ?_
          refine lv_goto (tgt := 1368) B.1 B.2.1 dL_law_311 (by decide) ?_
          exact fin T G u E w _ _ _ _ _ (by omega) hC hM h (lv_sub hl [0, 1, 2, 3] rfl) (by omega) (by omega)
        · show W p l e room_1 s m #[Value.ref b] below meth c _ _ (cc + 0) (ss + 0) (lw_Z below #[Value.ref b] s) (F0 m 310 ls [.int (iI 0)])
          refine lv_pop B.1 B.2.1 dL_law_310 rfl ?_
          refine lv_goto (tgt := 1368) B.1 B.2.1 dL_law_311 (by decide) ?_
          exact fin T G u E w _ _ _ _ _ (by omega) hC hM h (lv_sub hl [0, 1, 2, 3] rfl) (by omega) (by omega)
    · show W p l e room_1 s m #[Value.ref b] below meth c _ _ (cc + 0) (ss + 0) (lw_Z below #[Value.ref b] s) (F0 m 287 ls [.int (iI 0)])
      refine lv_pop B.1 B.2.1 dL_law_287 rfl ?_
      refine lv_aload_n B.1 B.2.1 dL_law_288 rfl (lv_at hl 2 rfl) ?_
      refine lv_aload_n B.1 B.2.1 dL_law_289 rfl (lv_at hl 0 rfl) ?_
      refine lv_iload_n B.1 B.2.1 dL_law_290 rfl (lv_at hl 3 rfl) ?_
      refine x_iconst B dL_law_291 ?_
      refine x_iadd B dL_law_292 ?_
      refine y_sld B h hX hbl hbA ((i + 1)).toNat (by omega) dL_law_293 ?_
      refine x_iset (z := x1) (by rw [ex1]) ?_
      refine lv_aload_n B.1 B.2.1 dL_law_294 rfl (lv_at hl 0 rfl) ?_
      refine lv_iload_n B.1 B.2.1 dL_law_295 rfl (lv_at hl 3 rfl) ?_
      refine x_iconst B dL_law_296 ?_
      refine x_iadd B dL_law_297 ?_
      refine y_sld B h hX hbl hbA ((i + 2)).toNat (by omega) dL_law_298 ?_
      refine x_iset (z := x2) (by rw [ex2]) ?_
      refine x_if_eq B (by omega) (tgt := 306) dL_law_299 (by decide) (fun c21 => ?_) (fun c21 => ?_)
      · refine x_iconst B dL_law_306 ?_
        refine y_cV B h kX12 50 (MW.f hM 0 _ rfl) k_X12_trust rfl (c_X12_trust l D Zk ca T E am _ hM x1 0  (by omega) (by omega)) m_1530 rfl ⟨by decide, by show cc + 0 + 0 ≤ 600000 ∧ ss + 0 + 0 ≤ 7302250; omega⟩ hl.1 [] (Nat.le_of_ble_eq_true rfl) rfl dL_law_307 (fun r w22 hq H locs h => ?_)
        obtain ⟨rfl, _, rfl, ⟨rfl, b27⟩ | ⟨rfl, b27⟩⟩ := hq
        · show W p l e room_1 s m #[Value.ref b] below meth c _ _ (cc + 0) (ss + 0) (lw_Z below #[Value.ref b] s) (F0 m 310 ls [.int (iI 1)])
          refine lv_pop B.1 B.2.1 dL_law_310 rfl ?_
          refine lv_goto (tgt := 1368) B.1 B.2.1 dL_law_311 (by decide) ?_
          exact fin T G u E w _ _ _ _ _ (by omega) hC hM h (lv_sub hl [0, 1, 2, 3] rfl) (by omega) (by omega)
        · show W p l e room_1 s m #[Value.ref b] below meth c _ _ (cc + 0) (ss + 0) (lw_Z below #[Value.ref b] s) (F0 m 310 ls [.int (iI 0)])
          refine lv_pop B.1 B.2.1 dL_law_310 rfl ?_
          refine lv_goto (tgt := 1368) B.1 B.2.1 dL_law_311 (by decide) ?_
          exact fin T G u E w _ _ _ _ _ (by omega) hC hM h (lv_sub hl [0, 1, 2, 3] rfl) (by omega) (by omega)
      · refine x_iconst B dL_law_302 ?_
        refine lv_goto (tgt := 307) B.1 B.2.1 dL_law_303 (by decide) ?_
        refine y_cV B h kX12 50 (MW.f hM 0 _ rfl) k_X12_trust rfl (c_X12_trust l D Zk ca T E am _ hM x1 1  (by omega) (by omega)) m_1530 rfl ⟨by decide, by show cc + 0 + 0 ≤ 600000 ∧ ss + 0 + 0 ≤ 7302250; omega⟩ hl.1 [] (Nat.le_of_ble_eq_true rfl) rfl dL_law_307 (fun r w28 hq H locs h => ?_)
        obtain ⟨rfl, _, rfl, ⟨rfl, b33⟩ | ⟨rfl, b33⟩⟩ := hq
        · show W p l e room_1 s m #[Value.ref b] below meth c _ _ (cc + 0) (ss + 0) (lw_Z below #[Value.ref b] s) (F0 m 310 ls [.int (iI 1)])
          refine lv_pop B.1 B.2.1 dL_law_310 rfl ?_
          refine lv_goto (tgt := 1368) B.1 B.2.1 dL_law_311 (by decide) ?_
          exact fin T G u E w _ _ _ _ _ (by omega) hC hM h (lv_sub hl [0, 1, 2, 3] rfl) (by omega) (by omega)
        · show W p l e room_1 s m #[Value.ref b] below meth c _ _ (cc + 0) (ss + 0) (lw_Z below #[Value.ref b] s) (F0 m 310 ls [.int (iI 0)])
          refine lv_pop B.1 B.2.1 dL_law_310 rfl ?_
          refine lv_goto (tgt := 1368) B.1 B.2.1 dL_law_311 (by decide) ?_
          exact fin T G u E w _ _ _ _ _ (by omega) hC hM h (lv_sub hl [0, 1, 2, 3] rfl) (by omega) (by omega)
  · refine x_iconst B dL_law_279 ?_
    refine lv_goto (tgt := 284) B.1 B.2.1 dL_law_280 (by decide) ?_
    refine y_cV B h kX11 0 (CW.f hC 0 _ rfl) k_X11_trust rfl (c_X11_trust l D Zk ca T G u ad _ hC x1 1  (by omega) (by omega)) m_486 rfl ⟨by decide, by show cc + 0 + 0 ≤ 600000 ∧ ss + 0 + 0 ≤ 7302250; omega⟩ hl.1 [] (Nat.le_of_ble_eq_true rfl) rfl dL_law_284 (fun r w34 hq H locs h => ?_)
    obtain ⟨rfl, _, rfl, ⟨rfl, b39⟩ | ⟨rfl, b39⟩⟩ := hq
    · show W p l e room_1 s m #[Value.ref b] below meth c _ _ (cc + 0) (ss + 0) (lw_Z below #[Value.ref b] s) (F0 m 287 ls [.int (iI 1)])
      refine lv_pop B.1 B.2.1 dL_law_287 rfl ?_
      refine lv_aload_n B.1 B.2.1 dL_law_288 rfl (lv_at hl 2 rfl) ?_
      refine lv_aload_n B.1 B.2.1 dL_law_289 rfl (lv_at hl 0 rfl) ?_
      refine lv_iload_n B.1 B.2.1 dL_law_290 rfl (lv_at hl 3 rfl) ?_
      refine x_iconst B dL_law_291 ?_
      refine x_iadd B dL_law_292 ?_
      refine y_sld B h hX hbl hbA ((i + 1)).toNat (by omega) dL_law_293 ?_
      refine x_iset (z := x1) (by rw [ex1]) ?_
      refine lv_aload_n B.1 B.2.1 dL_law_294 rfl (lv_at hl 0 rfl) ?_
      refine lv_iload_n B.1 B.2.1 dL_law_295 rfl (lv_at hl 3 rfl) ?_
      refine x_iconst B dL_law_296 ?_
      refine x_iadd B dL_law_297 ?_
      refine y_sld B h hX hbl hbA ((i + 2)).toNat (by omega) dL_law_298 ?_
      refine x_iset (z := x2) (by rw [ex2]) ?_
      refine x_if_eq B (by omega) (tgt := 306) dL_law_299 (by decide) (fun c40 => ?_) (fun c40 => ?_)
      · refine x_iconst B dL_law_306 ?_
        refine y_cV B h kX12 50 (MW.f hM 0 _ rfl) k_X12_trust rfl (c_X12_trust l D Zk ca T E am _ hM x1 0  (by omega) (by omega)) m_1530 rfl ⟨by decide, by show cc + 0 + 0 ≤ 600000 ∧ ss + 0 + 0 ≤ 7302250; omega⟩ hl.1 [] (Nat.le_of_ble_eq_true rfl) rfl dL_law_307 (fun r w41 hq H locs h => ?_)
        obtain ⟨rfl, _, rfl, ⟨rfl, b46⟩ | ⟨rfl, b46⟩⟩ := hq
        · show W p l e room_1 s m #[Value.ref b] below meth c _ _ (cc + 0) (ss + 0) (lw_Z below #[Value.ref b] s) (F0 m 310 ls [.int (iI 1)])
          refine lv_pop B.1 B.2.1 dL_law_310 rfl ?_
          refine lv_goto (tgt := 1368) B.1 B.2.1 dL_law_311 (by decide) ?_
          exact fin T G u E w _ _ _ _ _ (by omega) hC hM h (lv_sub hl [0, 1, 2, 3] rfl) (by omega) (by omega)
        · show W p l e room_1 s m #[Value.ref b] below meth c _ _ (cc + 0) (ss + 0) (lw_Z below #[Value.ref b] s) (F0 m 310 ls [.int (iI 0)])
          refine lv_pop B.1 B.2.1 dL_law_310 rfl ?_
          refine lv_goto (tgt := 1368) B.1 B.2.1 dL_law_311 (by decide) ?_
          exact fin T G u E w _ _ _ _ _ (by omega) hC hM h (lv_sub hl [0, 1, 2, 3] rfl) (by omega) (by omega)
      · refine x_iconst B dL_law_302 ?_
        refine lv_goto (tgt := 307) B.1 B.2.1 dL_law_303 (by decide) ?_
        refine y_cV B h kX12 50 (MW.f hM 0 _ rfl) k_X12_trust rfl (c_X12_trust l D Zk ca T E am _ hM x1 1  (by omega) (by omega)) m_1530 rfl ⟨by decide, by show cc + 0 + 0 ≤ 600000 ∧ ss + 0 + 0 ≤ 7302250; omega⟩ hl.1 [] (Nat.le_of_ble_eq_true rfl) rfl dL_law_307 (fun r w47 hq H locs h => ?_)
        obtain ⟨rfl, _, rfl, ⟨rfl, b52⟩ | ⟨rfl, b52⟩⟩ := hq
        · show W p l e room_1 s m #[Value.ref b] below meth c _ _ (cc + 0) (ss + 0) (lw_Z below #[Value.ref b] s) (F0 m 310 ls [.int (iI 1)])
          refine lv_pop B.1 B.2.1 dL_law_310 rfl ?_
          refine lv_goto (tgt := 1368) B.1 B.2.1 dL_law_311 (by decide) ?_
          exact fin T G u E w _ _ _ _ _ (by omega) hC hM h (lv_sub hl [0, 1, 2, 3] rfl) (by omega) (by omega)
        · show W p l e room_1 s m #[Value.ref b] below meth c _ _ (cc + 0) (ss + 0) (lw_Z below #[Value.ref b] s) (F0 m 310 ls [.int (iI 0)])
          refine lv_pop B.1 B.2.1 dL_law_310 rfl ?_
          refine lv_goto (tgt := 1368) B.1 B.2.1 dL_law_311 (by decide) ?_
          exact fin T G u E w _ _ _ _ _ (by omega) hC hM h (lv_sub hl [0, 1, 2, 3] rfl) (by omega) (by omega)
    · show W p l e room_1 s m #[Value.ref b] below meth c _ _ (cc + 0) (ss + 0) (lw_Z below #[Value.ref b] s) (F0 m 287 ls [.int (iI 0)])
      refine lv_pop B.1 B.2.1 dL_law_287 rfl ?_
      refine lv_aload_n B.1 B.2.1 dL_law_288 rfl (lv_at hl 2 rfl) ?_
      refine lv_aload_n B.1 B.2.1 dL_law_289 rfl (lv_at hl 0 rfl) ?_
      refine lv_iload_n B.1 B.2.1 dL_law_290 rfl (lv_at hl 3 rfl) ?_
      refine x_iconst B dL_law_291 ?_
      refine x_iadd B dL_law_292 ?_
      refine y_sld B h hX hbl hbA ((i + 1)).toNat (by omega) dL_law_293 ?_
      refine x_iset (z := x1) (by rw [ex1]) ?_
      refine lv_aload_n B.1 B.2.1 dL_law_294 rfl (lv_at hl 0 rfl) ?_
      refine lv_iload_n B.1 B.2.1 dL_law_295 rfl (lv_at hl 3 rfl) ?_
      refine x_iconst B dL_law_296 ?_
      refine x_iadd B dL_law_297 ?_
      refine y_sld B h hX hbl hbA ((i + 2)).toNat (by omega) dL_law_298 ?_
      refine x_iset (z := x2) (by rw [ex2]) ?_
      refine x_if_eq B (by omega) (tgt := 306) dL_law_299 (by decide) (fun c53 => ?_) (fun c53 => ?_)
      · refine x_iconst B dL_law_306 ?_
        refine y_cV B h kX12 50 (MW.f hM 0 _ rfl) k_X12_trust rfl (c_X12_trust l D Zk ca T E am _ hM x1 0  (by omega) (by omega)) m_1530 rfl ⟨by decide, by show cc + 0 + 0 ≤ 600000 ∧ ss + 0 + 0 ≤ 7302250; omega⟩ hl.1 [] (Nat.le_of_ble_eq_true rfl) rfl dL_law_307 (fun r w54 hq H locs h => ?_)
        obtain ⟨rfl, _, rfl, ⟨rfl, b59⟩ | ⟨rfl, b59⟩⟩ := hq
        · show W p l e room_1 s m #[Value.ref b] below meth c _ _ (cc + 0) (ss + 0) (lw_Z below #[Value.ref b] s) (F0 m 310 ls [.int (iI 1)])
          refine lv_pop B.1 B.2.1 dL_law_310 rfl ?_
          refine lv_goto (tgt := 1368) B.1 B.2.1 dL_law_311 (by decide) ?_
          exact fin T G u E w _ _ _ _ _ (by omega) hC hM h (lv_sub hl [0, 1, 2, 3] rfl) (by omega) (by omega)
        · show W p l e room_1 s m #[Value.ref b] below meth c _ _ (cc + 0) (ss + 0) (lw_Z below #[Value.ref b] s) (F0 m 310 ls [.int (iI 0)])
          refine lv_pop B.1 B.2.1 dL_law_310 rfl ?_
          refine lv_goto (tgt := 1368) B.1 B.2.1 dL_law_311 (by decide) ?_
          exact fin T G u E w _ _ _ _ _ (by omega) hC hM h (lv_sub hl [0, 1, 2, 3] rfl) (by omega) (by omega)
      · refine x_iconst B dL_law_302 ?_
        refine lv_goto (tgt := 307) B.1 B.2.1 dL_law_303 (by decide) ?_
        refine y_cV B h kX12 50 (MW.f hM 0 _ rfl) k_X12_trust rfl (c_X12_trust l D Zk ca T E am _ hM x1 1  (by omega) (by omega)) m_1530 rfl ⟨by decide, by show cc + 0 + 0 ≤ 600000 ∧ ss + 0 + 0 ≤ 7302250; omega⟩ hl.1 [] (Nat.le_of_ble_eq_true rfl) rfl dL_law_307 (fun r w60 hq H locs h => ?_)
        obtain ⟨rfl, _, rfl, ⟨rfl, b65⟩ | ⟨rfl, b65⟩⟩ := hq
        · show W p l e room_1 s m #[Value.ref b] below meth c _ _ (cc + 0) (ss + 0) (lw_Z below #[Value.ref b] s) (F0 m 310 ls [.int (iI 1)])
          refine lv_pop B.1 B.2.1 dL_law_310 rfl ?_
          refine lv_goto (tgt := 1368) B.1 B.2.1 dL_law_311 (by decide) ?_
          exact fin T G u E w _ _ _ _ _ (by omega) hC hM h (lv_sub hl [0, 1, 2, 3] rfl) (by omega) (by omega)
        · show W p l e room_1 s m #[Value.ref b] below meth c _ _ (cc + 0) (ss + 0) (lw_Z below #[Value.ref b] s) (F0 m 310 ls [.int (iI 0)])
          refine lv_pop B.1 B.2.1 dL_law_310 rfl ?_
          refine lv_goto (tgt := 1368) B.1 B.2.1 dL_law_311 (by decide) ?_
          exact fin T G u E w _ _ _ _ _ (by omega) hC hM h (lv_sub hl [0, 1, 2, 3] rfl) (by omega) (by omega)
