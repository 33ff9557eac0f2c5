theorem k_X11_officer : xMV yX11_officer cX11_officer 1 (some .int) 0 := ⟨m_422, m_420, m_421, m_95, ⟨by decide +kernel, by decide +kernel, by decide +kernel⟩⟩
theorem k_X12_officer : xMV yX12_officer cX12_officer 1 (some .int) 0 := ⟨m_1506, m_1504, m_1505, m_104, ⟨by decide +kernel, by decide +kernel, by decide +kernel⟩⟩
theorem k_X11_ship : xMV yX11_ship cX11_ship 3 (some .int) 2 := ⟨m_430, m_428, m_429, m_95, ⟨by decide +kernel, by decide +kernel, by decide +kernel⟩⟩
theorem k_X12_ship : xMV yX12_ship cX12_ship 3 (some .int) 2 := ⟨m_1514, m_1512, m_1513, m_104, ⟨by decide +kernel, by decide +kernel, by decide +kernel⟩⟩
theorem k_X11_signs : xMV yX11_signs cX11_signs 5 (some .int) 3 := ⟨m_480, m_478, m_479, m_95, ⟨by decide +kernel, by decide +kernel, by decide +kernel⟩⟩
theorem k_X12_signs : xMV yX12_signs cX12_signs 4 (some .int) 3 := ⟨m_1525, m_1523, m_1524, m_104, ⟨by decide +kernel, by decide +kernel, by decide +kernel⟩⟩
theorem k_X11_trust : xMV yX11_trust cX11_trust 3 (some .boolean) 2 := ⟨m_489, m_487, m_488, m_95, ⟨by decide +kernel, by decide +kernel, by decide +kernel⟩⟩
theorem k_X12_trust : xMV yX12_trust cX12_trust 3 (some .boolean) 2 := ⟨m_1533, m_1531, m_1532, m_104, ⟨by decide +kernel, by decide +kernel, by decide +kernel⟩⟩
theorem k_X11_set : xMV yX11_set cX11_set 3 (some .boolean) 2 := ⟨m_497, m_495, m_496, m_95, ⟨by decide +kernel, by decide +kernel, by decide +kernel⟩⟩
theorem k_X12_set : xMV yX12_set cX12_set 3 (some .boolean) 2 := ⟨m_1537, m_1535, m_1536, m_104, ⟨by decide +kernel, by decide +kernel, by decide +kernel⟩⟩
theorem k_X11_read : xMV yX11_read cX11_read 7 (some .int) 5 := ⟨m_501, m_499, m_500, m_95, ⟨by decide +kernel, by decide +kernel, by decide +kernel⟩⟩
theorem k_X12_read : xMV yX12_read cX12_read 6 (some .int) 5 := ⟨m_1541, m_1539, m_1540, m_104, ⟨by decide +kernel, by decide +kernel, by decide +kernel⟩⟩
theorem k_X11_feed : xMV yX11_feed cX11_feed 6 (some .int) 5 := ⟨m_568, m_566, m_567, m_95, ⟨by decide +kernel, by decide +kernel, by decide +kernel⟩⟩
theorem k_X12_feed : xMV yX12_feed cX12_feed 8 (some .int) 5 := ⟨m_1549, m_1547, m_1548, m_104, ⟨by decide +kernel, by decide +kernel, by decide +kernel⟩⟩
theorem k_X11_scale : xMV yX11_scale cX11_scale 4 (some .int) 2 := ⟨m_576, m_574, m_575, m_95, ⟨by decide +kernel, by decide +kernel, by decide +kernel⟩⟩
theorem k_X12_scale : xMV yX12_scale cX12_scale 3 (some .int) 2 := ⟨m_1553, m_1551, m_1552, m_104, ⟨by decide +kernel, by decide +kernel, by decide +kernel⟩⟩
theorem k_X11_habits : xMV yX11_habits cX11_habits 5 (some .int) 2 := ⟨m_821, m_819, m_820, m_95, ⟨by decide +kernel, by decide +kernel, by decide +kernel⟩⟩
theorem k_X12_habits : xMV yX12_habits cX12_habits 5 (some .int) 2 := ⟨m_1654, m_1652, m_1653, m_104, ⟨by decide +kernel, by decide +kernel, by decide +kernel⟩⟩
theorem k_X11_fault : xMV yX11_fault cX11_fault 1 (some .int) 0 := ⟨m_825, m_823, m_824, m_95, ⟨by decide +kernel, by decide +kernel, by decide +kernel⟩⟩
theorem k_X12_fault : xMV yX12_fault cX12_fault 1 (some .int) 0 := ⟨m_1658, m_1656, m_1657, m_104, ⟨by decide +kernel, by decide +kernel, by decide +kernel⟩⟩
theorem k_X11_reading : xMV yX11_reading cX11_reading 4 (some .int) 2 := ⟨m_829, m_827, m_828, m_95, ⟨by decide +kernel, by decide +kernel, by decide +kernel⟩⟩
theorem k_X12_reading : xMV yX12_reading cX12_reading 3 (some .int) 2 := ⟨m_1815, m_1813, m_1814, m_104, ⟨by decide +kernel, by decide +kernel, by decide +kernel⟩⟩
theorem k_X11_reads : xMV yX11_reads cX11_reads 5 (some .int) 4 := ⟨m_877, m_875, m_876, m_95, ⟨by decide +kernel, by decide +kernel, by decide +kernel⟩⟩
theorem k_X12_reads_ : xMV yX12_reads_ cX12_reads_ 5 (some .int) 4 := ⟨m_1662, m_1660, m_1661, m_104, ⟨by decide +kernel, by decide +kernel, by decide +kernel⟩⟩
theorem k_X11_blow : xMV yX11_blow cX11_blow 9 (some .int) 5 := ⟨m_911, m_909, m_910, m_95, ⟨by decide +kernel, by decide +kernel, by decide +kernel⟩⟩
theorem k_X12_blow : xMV yX12_blow cX12_blow 6 (some .int) 5 := ⟨m_1682, m_1680, m_1681, m_104, ⟨by decide +kernel, by decide +kernel, by decide +kernel⟩⟩
theorem k_X11_run : xMV yX11_run cX11_run 12 (some .int) 5 := ⟨m_928, m_926, m_927, m_95, ⟨by decide +kernel, by decide +kernel, by decide +kernel⟩⟩
theorem k_X12_run : xMV yX12_run cX12_run 10 (some .int) 5 := ⟨m_1697, m_1695, m_1696, m_104, ⟨by decide +kernel, by decide +kernel, by decide +kernel⟩⟩
theorem k_X11_column : xMV yX11_column cX11_column 6 (some .int) 5 := ⟨m_946, m_944, m_945, m_95, ⟨by decide +kernel, by decide +kernel, by decide +kernel⟩⟩
theorem k_X12_column : xMV yX12_column cX12_column 6 (some .int) 5 := ⟨m_1706, m_1704, m_1705, m_104, ⟨by decide +kernel, by decide +kernel, by decide +kernel⟩⟩
theorem k_X11_turn : xMV yX11_turn cX11_turn 6 (some .int) 5 := ⟨m_956, m_954, m_955, m_95, ⟨by decide +kernel, by decide +kernel, by decide +kernel⟩⟩
theorem k_X12_turn : xMV yX12_turn cX12_turn 6 (some .int) 5 := ⟨m_1714, m_1712, m_1713, m_104, ⟨by decide +kernel, by decide +kernel, by decide +kernel⟩⟩
theorem k_X11_tight : xMV yX11_tight cX11_tight 1 (some .int) 0 := ⟨m_970, m_968, m_969, m_95, ⟨by decide +kernel, by decide +kernel, by decide +kernel⟩⟩
theorem k_X12_tight : xMV yX12_tight cX12_tight 1 (some .int) 0 := ⟨m_1722, m_1720, m_1721, m_104, ⟨by decide +kernel, by decide +kernel, by decide +kernel⟩⟩
theorem k_X11_lean : xMV yX11_lean cX11_lean 3 (some .int) 2 := ⟨m_1033, m_1031, m_1032, m_95, ⟨by decide +kernel, by decide +kernel, by decide +kernel⟩⟩
theorem k_X12_lean : xMV yX12_lean cX12_lean 3 (some .int) 2 := ⟨m_1766, m_1764, m_1765, m_104, ⟨by decide +kernel, by decide +kernel, by decide +kernel⟩⟩
theorem k_X11_liked : xMV yX11_liked cX11_liked 6 (some .int) 3 := ⟨m_1045, m_1043, m_1044, m_95, ⟨by decide +kernel, by decide +kernel, by decide +kernel⟩⟩
theorem k_X12_liked : xMV yX12_liked cX12_liked 10 (some .int) 3 := ⟨m_1778, m_1776, m_1777, m_104, ⟨by decide +kernel, by decide +kernel, by decide +kernel⟩⟩
theorem k_X11_wind : xMV yX11_wind cX11_wind 3 (some .int) 2 := ⟨m_1058, m_1056, m_1057, m_95, ⟨by decide +kernel, by decide +kernel, by decide +kernel⟩⟩
theorem k_X12_wind : xMV yX12_wind cX12_wind 3 (some .int) 2 := ⟨m_1787, m_1785, m_1786, m_104, ⟨by decide +kernel, by decide +kernel, by decide +kernel⟩⟩
theorem k_X11_grew : xMV yX11_grew cX11_grew 2 (some .int) 1 := ⟨m_1085, m_1083, m_1084, m_95, ⟨by decide +kernel, by decide +kernel, by decide +kernel⟩⟩
theorem k_X12_grew : xMV yX12_grew cX12_grew 6 (some .int) 1 := ⟨m_1799, m_1797, m_1798, m_104, ⟨by decide +kernel, by decide +kernel, by decide +kernel⟩⟩
theorem k_X11_late : xMV yX11_late cX11_late 3 (some .int) 1 := ⟨m_1103, m_1101, m_1102, m_95, ⟨by decide +kernel, by decide +kernel, by decide +kernel⟩⟩
theorem k_X12_late : xMV yX12_late cX12_late 6 (some .int) 1 := ⟨m_1807, m_1805, m_1806, m_104, ⟨by decide +kernel, by decide +kernel, by decide +kernel⟩⟩
theorem k_X11_copied : xMV yX11_copied cX11_copied 6 (some .int) 2 := ⟨m_1122, m_1120, m_1121, m_95, ⟨by decide +kernel, by decide +kernel, by decide +kernel⟩⟩
theorem k_X12_copied : xMV yX12_copied cX12_copied 6 (some .int) 2 := ⟨m_1827, m_1825, m_1826, m_104, ⟨by decide +kernel, by decide +kernel, by decide +kernel⟩⟩
theorem k_X11_find : xMV yX11_find cX11_find 5 (some .int) 1 := ⟨m_1126, m_1124, m_1125, m_95, ⟨by decide +kernel, by decide +kernel, by decide +kernel⟩⟩
theorem k_X12_find : xMV yX12_find cX12_find 4 (some .int) 1 := ⟨m_1831, m_1829, m_1830, m_104, ⟨by decide +kernel, by decide +kernel, by decide +kernel⟩⟩
theorem k_X11_wished : xMV yX11_wished cX11_wished 8 (some .int) 2 := ⟨m_1130, m_1128, m_1129, m_95, ⟨by decide +kernel, by decide +kernel, by decide +kernel⟩⟩
theorem k_X12_wished : xMV yX12_wished cX12_wished 12 (some .int) 2 := ⟨m_1835, m_1833, m_1834, m_104, ⟨by decide +kernel, by decide +kernel, by decide +kernel⟩⟩
theorem k_X11_eight : xMV yX11_eight cX11_eight 12 (some .int) 4 := ⟨m_1153, m_1151, m_1152, m_95, ⟨by decide +kernel, by decide +kernel, by decide +kernel⟩⟩
theorem k_X12_eight : xMV yX12_eight cX12_eight 10 (some .int) 4 := ⟨m_1850, m_1848, m_1849, m_104, ⟨by decide +kernel, by decide +kernel, by decide +kernel⟩⟩
theorem k_X11_alike : xMV yX11_alike cX11_alike 6 (some .int) 1 := ⟨m_1159, m_1157, m_1158, m_95, ⟨by decide +kernel, by decide +kernel, by decide +kernel⟩⟩
theorem k_X12_alike : xMV yX12_alike cX12_alike 6 (some .int) 1 := ⟨m_1855, m_1853, m_1854, m_104, ⟨by decide +kernel, by decide +kernel, by decide +kernel⟩⟩
theorem k_X11_storm : xMV yX11_storm cX11_storm 5 (some .int) 4 := ⟨m_1167, m_1165, m_1166, m_95, ⟨by decide +kernel, by decide +kernel, by decide +kernel⟩⟩
theorem k_X12_storm : xMV yX12_storm cX12_storm 5 (some .int) 4 := ⟨m_1863, m_1861, m_1862, m_104, ⟨by decide +kernel, by decide +kernel, by decide +kernel⟩⟩
theorem k_X11_way : xMV yX11_way cX11_way 5 (some .int) 2 := ⟨m_1203, m_1201, m_1202, m_95, ⟨by decide +kernel, by decide +kernel, by decide +kernel⟩⟩
theorem k_X12_way : xMV yX12_way cX12_way 3 (some .int) 2 := ⟨m_1883, m_1881, m_1882, m_104, ⟨by decide +kernel, by decide +kernel, by decide +kernel⟩⟩
theorem k_X11_image : xMV yX11_image cX11_image 1 (some .int) 0 := ⟨m_1214, m_1212, m_1213, m_95, ⟨by decide +kernel, by decide +kernel, by decide +kernel⟩⟩
theorem k_X12_image : xMV yX12_image cX12_image 2 (some .int) 0 := ⟨m_1887, m_1885, m_1886, m_104, ⟨by decide +kernel, by decide +kernel, by decide +kernel⟩⟩
theorem k_X11_back : xMV yX11_back cX11_back 4 (some .int) 1 := ⟨m_1240, m_1238, m_1239, m_95, ⟨by decide +kernel, by decide +kernel, by decide +kernel⟩⟩
theorem k_X12_back : xMV yX12_back cX12_back 4 (some .int) 1 := ⟨m_1891, m_1889, m_1890, m_104, ⟨by decide +kernel, by decide +kernel, by decide +kernel⟩⟩
theorem k_X11_count : xMV yX11_count cX11_count 2 (some .int) 1 := ⟨m_1250, m_1248, m_1249, m_95, ⟨by decide +kernel, by decide +kernel, by decide +kernel⟩⟩
theorem k_X12_count : xMV yX12_count cX12_count 2 (some .int) 1 := ⟨m_1895, m_1893, m_1894, m_104, ⟨by decide +kernel, by decide +kernel, by decide +kernel⟩⟩
theorem law_end {p : Program} {l : Launch} {e : Env} {s : State} {m : MethodId} {below : List Frame} {meth : Method} {c : Code} {D : va_G} {ca : Nat → ClassId} {b L : Nat} {xs : Nat → Int32} (B : xB p s m #[Value.ref b] meth c D ca "WindWordsLaw" code 4 (some .boolean)) (hX : va_X b L xs s s.heap) (hbl : b < s.heap.size) (hb : c.code = code) (hr : meth.sig.returnType = ret) {w : xW} {H : Heap} {locs : List Loc} {cells slots : Nat} (h : xH D (fun q : Nat => s.heap.size ≤ q) s.heap w H locs) (hc : cells ≤ 600000 ∧ slots ≤ 7302250) {ls : Array Slot} : W p l e room_1 s m #[Value.ref b] below meth c H locs cells slots (lw_Z below #[Value.ref b] s) (F0 m 1374 ls []) := by
  refine x_iconst B dL_law_1374 ?_
  refine va_forget (fun q hq => h.2.2.1.2.2 q hq) ?_
  refine W.widen (k := 600000) (n := 7302250) hc.1 hc.2 ?_
  exact lw_ret B.1 hb hr B.2.2.2.2.2.2.1 dL_law_1375
set_option maxHeartbeats 16000000 in
set_option maxRecDepth 100000 in
theorem law_body {p : Program} {l : Launch} {e : Env} {s : State} {m : MethodId} {below : List Frame} {meth : Method} {c : Code} {D : va_G} {ca : Nat → ClassId} {b L : Nat} {xs : Nat → Int32} (B : xB p s m #[Value.ref b] meth c D ca "WindWordsLaw" code 4 (some .boolean)) (hX : va_X b L xs s s.heap) (hbl : b < s.heap.size) (hL : L = 6) (hb : c.code = code) (hr : meth.sig.returnType = ret) (ad am : Nat → Nat) {H : Heap} {locs : List Loc} (h : xH D (fun q : Nat => s.heap.size ≤ q) s.heap (cW0 ca ad ++ cM0 ca am) H locs) {ls : Array Slot} (hl : lv_has ls 4 [(0, .ref b), (1, .ref (ad 0)), (2, .ref (am 0)), (3, .int (iI 0))]) : W p l e room_1 s m #[Value.ref b] below meth c H locs 87 35823 (lw_Z below #[Value.ref b] s) (F0 m 27 ls []) := by
  have bx1 : xr (xs 1).toInt := iI_r _
  have bx2 : xr (xs 2).toInt := iI_r _
  have bx3 : xr (xs 3).toInt := iI_r _
  have bx4 : xr (xs 4).toInt := iI_r _
  have bx5 : xr (xs 5).toInt := iI_r _
  have hbA : ¬ (fun q : Nat => s.heap.size ≤ q) b := Nat.not_le.mpr hbl
  have fin : ∀ (w : xW) (H : Heap) (locs : List Loc) (ls : Array Slot), xH D (fun q : Nat => s.heap.size ≤ q) s.heap w H locs → lv_has ls 4 [(0, .ref b), (3, .int (iI 0))] → ∀ {cells slots : Nat}, cells ≤ 600000 → slots ≤ 7302250 → W p l e room_1 s m #[Value.ref b] below meth c H locs cells slots (lw_Z below #[Value.ref b] s) (F0 m 1368 ls []) := by
    intro w H locs ls h hl cells slots hc1 hc2
    refine lv_iinc (v := iI (0 + 6)) (lv' := [(3, .int (iI (0 + 6))), (0, .ref b)]) B.1 B.2.1 dL_law_1368 hl (k := 1) rfl (iI_add _ _) (by decide) rfl (fun ls hl => ?_)
    refine lv_goto (tgt := 18) B.1 B.2.1 dL_law_1371 (by decide) ?_
    refine lv_iload_n B.1 B.2.1 dL_law_18 rfl (lv_at hl 0 rfl) ?_
    refine lv_aload_n B.1 B.2.1 dL_law_19 rfl (lv_at hl 1 rfl) ?_
    refine x_slen B h hX hbl hbA dL_law_20 ?_
    refine x_bipush B (by decide) dL_law_21 ?_
    refine x_isub B dL_law_23 ?_
    refine x_icmp_gt B (by omega) (tgt := 1374) dL_law_24 (by decide) (fun c1 => ?_) (fun c1 => ?_)
    · exact law_end B hX hbl hb hr h ⟨hc1, hc2⟩
    · exact absurd c1 (by omega)
  refine lv_aload_n B.1 B.2.1 dL_law_27 rfl (lv_at hl 0 rfl) ?_
  refine lv_iload_n B.1 B.2.1 dL_law_28 rfl (lv_at hl 3 rfl) ?_
  refine x_sld B h hX hbl hbA 0 (by omega) dL_law_29 ?_
  refine x_bipush B (by decide) dL_law_30 ?_
  refine lv_iand B.1 B.2.1 dL_law_32 ?_
  refine x_name (fun sw hsw esw => ?_)
  by_cases t0 : sw = 0
  · refine x_tin B (tgt := 176) 0 (by omega) dL_law_33 rfl (by decide) ?_
    skip
    refine lv_aload_n B.1 B.2.1 dL_law_176 rfl (lv_at hl 1 rfl) ?_
    refine x_cVF (wa := cW0 ca ad) B h kX11 0 (a := ad 0) rfl k_X11_officer rfl (c_X11_officer l D ca _ ad (fun k x hk => hk)  ) m_419 rfl (by decide) hl.1 [] (Nat.le_of_ble_eq_true rfl) rfl dL_law_177 (fun r w1 hq H locs h => ?_)
    obtain ⟨zx, rfl, hzx⟩ := hq
    show W p l e room_1 s m #[Value.ref b] below meth c H locs 87 35823 (lw_Z below #[Value.ref b] s) (F0 m 180 ls [.int (iI zx)])
    refine lv_aload_n B.1 B.2.1 dL_law_180 rfl (lv_at hl 2 rfl) ?_
    have h := xH.swap h
    refine x_cVF (wa := cM0 ca am) B h kX12 0 (a := am 0) rfl k_X12_officer rfl (c_X12_officer l D ca _ am rfl rfl rfl ) m_1503 rfl (by decide) hl.1 [.int (iI zx)] (Nat.le_of_ble_eq_true rfl) rfl dL_law_181 (fun r w1 hq H locs h => ?_)
    obtain ⟨zm, rfl, hzm⟩ := hq
    show W p l e room_1 s m #[Value.ref b] below meth c H locs 87 35823 (lw_Z below #[Value.ref b] s) (F0 m 184 ls [.int (iI zm), .int (iI zx)])
    have heq : zx = zm := by
      omega
    have hr : xr zx ∧ xr zm := by
      omega
    refine x_icmp_eq B hr (tgt := 1368) dL_law_184 (by decide) (fun cq => ?_) (fun cq => ?_)
    · exact fin _ _ _ _ h (lv_sub hl [0, 3] rfl) (by decide) (by decide)
    · exact absurd heq cq
  by_cases t1 : sw = 1
  · refine x_tin B (tgt := 189) 1 (by omega) dL_law_33 rfl (by decide) ?_
    skip
    refine lv_aload_n B.1 B.2.1 dL_law_189 rfl (lv_at hl 1 rfl) ?_
    refine lv_aload_n B.1 B.2.1 dL_law_190 rfl (lv_at hl 0 rfl) ?_
    refine lv_iload_n B.1 B.2.1 dL_law_191 rfl (lv_at hl 3 rfl) ?_
    refine x_iconst B dL_law_192 ?_
    refine x_iadd B dL_law_193 ?_
    refine x_sld B h hX hbl hbA 1 (by omega) dL_law_194 ?_
    refine lv_aload_n B.1 B.2.1 dL_law_195 rfl (lv_at hl 0 rfl) ?_
    refine lv_iload_n B.1 B.2.1 dL_law_196 rfl (lv_at hl 3 rfl) ?_
    refine x_iconst B dL_law_197 ?_
    refine x_iadd B dL_law_198 ?_
    refine x_sld B h hX hbl hbA 2 (by omega) dL_law_199 ?_
    refine x_cVF (wa := cW0 ca ad) B h kX11 0 (a := ad 0) rfl k_X11_ship rfl (c_X11_ship l D ca _ ad (fun k x hk => hk) ((xs 1).toInt) ((xs 2).toInt) (by omega) (by omega)) m_427 rfl (by decide) hl.1 [] (Nat.le_of_ble_eq_true rfl) rfl dL_law_200 (fun r w1 hq H locs h => ?_)
    obtain ⟨zx, rfl, hzx⟩ := hq
    show W p l e room_1 s m #[Value.ref b] below meth c H locs 87 35823 (lw_Z below #[Value.ref b] s) (F0 m 203 ls [.int (iI zx)])
    refine lv_aload_n B.1 B.2.1 dL_law_203 rfl (lv_at hl 2 rfl) ?_
    refine lv_aload_n B.1 B.2.1 dL_law_204 rfl (lv_at hl 0 rfl) ?_
    refine lv_iload_n B.1 B.2.1 dL_law_205 rfl (lv_at hl 3 rfl) ?_
    refine x_iconst B dL_law_206 ?_
    refine x_iadd B dL_law_207 ?_
    refine x_sld B h hX hbl hbA 1 (by omega) dL_law_208 ?_
    refine lv_aload_n B.1 B.2.1 dL_law_209 rfl (lv_at hl 0 rfl) ?_
    refine lv_iload_n B.1 B.2.1 dL_law_210 rfl (lv_at hl 3 rfl) ?_
    refine x_iconst B dL_law_211 ?_
    refine x_iadd B dL_law_212 ?_
    refine x_sld B h hX hbl hbA 2 (by omega) dL_law_213 ?_
    have h := xH.swap h
    refine x_cVF (wa := cM0 ca am) B h kX12 0 (a := am 0) rfl k_X12_ship rfl (c_X12_ship l D ca _ ((xs 1).toInt) ((xs 2).toInt) am rfl rfl (by omega) (by omega)) m_1511 rfl (by decide) hl.1 [.int (iI zx)] (Nat.le_of_ble_eq_true rfl) rfl dL_law_214 (fun r w1 hq H locs h => ?_)
    obtain ⟨zm, rfl, hzm⟩ := hq
    show W p l e room_1 s m #[Value.ref b] below meth c H locs 87 35823 (lw_Z below #[Value.ref b] s) (F0 m 217 ls [.int (iI zm), .int (iI zx)])
    have heq : zx = zm := by
      omega
    have hr : xr zx ∧ xr zm := by
      omega
    refine x_icmp_eq B hr (tgt := 1368) dL_law_217 (by decide) (fun cq => ?_) (fun cq => ?_)
    · exact fin _ _ _ _ h (lv_sub hl [0, 3] rfl) (by decide) (by decide)
    · exact absurd heq cq
  by_cases t2 : sw = 2
  · refine x_tin B (tgt := 222) 2 (by omega) dL_law_33 rfl (by decide) ?_
    skip
    refine lv_aload_n B.1 B.2.1 dL_law_222 rfl (lv_at hl 1 rfl) ?_
    refine lv_aload_n B.1 B.2.1 dL_law_223 rfl (lv_at hl 0 rfl) ?_
    refine lv_iload_n B.1 B.2.1 dL_law_224 rfl (lv_at hl 3 rfl) ?_
    refine x_iconst B dL_law_225 ?_
    refine x_iadd B dL_law_226 ?_
    refine x_sld B h hX hbl hbA 1 (by omega) dL_law_227 ?_
    refine lv_aload_n B.1 B.2.1 dL_law_228 rfl (lv_at hl 0 rfl) ?_
    refine lv_iload_n B.1 B.2.1 dL_law_229 rfl (lv_at hl 3 rfl) ?_
    refine x_iconst B dL_law_230 ?_
    refine x_iadd B dL_law_231 ?_
    refine x_sld B h hX hbl hbA 2 (by omega) dL_law_232 ?_
    refine lv_aload_n B.1 B.2.1 dL_law_233 rfl (lv_at hl 0 rfl) ?_
    refine lv_iload_n B.1 B.2.1 dL_law_234 rfl (lv_at hl 3 rfl) ?_
    refine x_iconst B dL_law_235 ?_
    refine x_iadd B dL_law_236 ?_
    refine x_sld B h hX hbl hbA 3 (by omega) dL_law_237 ?_
    refine x_cVF (wa := cW0 ca ad) B h kX11 0 (a := ad 0) rfl k_X11_signs rfl (c_X11_signs l D ca _ ad (fun k x hk => hk) ((xs 1).toInt) ((xs 2).toInt) ((xs 3).toInt) (by omega) (by omega) (by omega)) m_477 rfl (by decide) hl.1 [] (Nat.le_of_ble_eq_true rfl) rfl dL_law_238 (fun r w1 hq H locs h => ?_)
    obtain ⟨zx, rfl, hzx⟩ := hq
    show W p l e room_1 s m #[Value.ref b] below meth c H locs 87 35823 (lw_Z below #[Value.ref b] s) (F0 m 241 ls [.int (iI zx)])
    refine lv_aload_n B.1 B.2.1 dL_law_241 rfl (lv_at hl 2 rfl) ?_
    refine lv_aload_n B.1 B.2.1 dL_law_242 rfl (lv_at hl 0 rfl) ?_
    refine lv_iload_n B.1 B.2.1 dL_law_243 rfl (lv_at hl 3 rfl) ?_
    refine x_iconst B dL_law_244 ?_
    refine x_iadd B dL_law_245 ?_
    refine x_sld B h hX hbl hbA 1 (by omega) dL_law_246 ?_
    refine lv_aload_n B.1 B.2.1 dL_law_247 rfl (lv_at hl 0 rfl) ?_
    refine lv_iload_n B.1 B.2.1 dL_law_248 rfl (lv_at hl 3 rfl) ?_
    refine x_iconst B dL_law_249 ?_
    refine x_iadd B dL_law_250 ?_
    refine x_sld B h hX hbl hbA 2 (by omega) dL_law_251 ?_
    refine lv_aload_n B.1 B.2.1 dL_law_252 rfl (lv_at hl 0 rfl) ?_
    refine lv_iload_n B.1 B.2.1 dL_law_253 rfl (lv_at hl 3 rfl) ?_
    refine x_iconst B dL_law_254 ?_
    refine x_iadd B dL_law_255 ?_
    refine x_sld B h hX hbl hbA 3 (by omega) dL_law_256 ?_
    have h := xH.swap h
    refine x_cVF (wa := cM0 ca am) B h kX12 0 (a := am 0) rfl k_X12_signs rfl (c_X12_signs l D ca _ ((xs 1).toInt) ((xs 2).toInt) ((xs 3).toInt) am rfl rfl (by omega) (by omega) (by omega)) m_1522 rfl (by decide) hl.1 [.int (iI zx)] (Nat.le_of_ble_eq_true rfl) rfl dL_law_257 (fun r w1 hq H locs h => ?_)
    obtain ⟨zm, rfl, hzm⟩ := hq
    show W p l e room_1 s m #[Value.ref b] below meth c H locs 87 35823 (lw_Z below #[Value.ref b] s) (F0 m 260 ls [.int (iI zm), .int (iI zx)])
    have heq : zx = zm := by
      omega
    have hr : xr zx ∧ xr zm := by
      omega
    refine x_icmp_eq B hr (tgt := 1368) dL_law_260 (by decide) (fun cq => ?_) (fun cq => ?_)
    · exact fin _ _ _ _ h (lv_sub hl [0, 3] rfl) (by decide) (by decide)
    · exact absurd heq cq
  by_cases t3 : sw = 3
  · refine x_tin B (tgt := 265) 3 (by omega) dL_law_33 rfl (by decide) ?_
    skip
    refine lv_aload_n B.1 B.2.1 dL_law_265 rfl (lv_at hl 1 rfl) ?_
    refine lv_aload_n B.1 B.2.1 dL_law_266 rfl (lv_at hl 0 rfl) ?_
    refine lv_iload_n B.1 B.2.1 dL_law_267 rfl (lv_at hl 3 rfl) ?_
    refine x_iconst B dL_law_268 ?_
    refine x_iadd B dL_law_269 ?_
    refine x_sld B h hX hbl hbA 1 (by omega) dL_law_270 ?_
    refine lv_aload_n B.1 B.2.1 dL_law_271 rfl (lv_at hl 0 rfl) ?_
    refine lv_iload_n B.1 B.2.1 dL_law_272 rfl (lv_at hl 3 rfl) ?_
    refine x_iconst B dL_law_273 ?_
    refine x_iadd B dL_law_274 ?_
    refine x_sld B h hX hbl hbA 2 (by omega) dL_law_275 ?_
    refine x_if_eq B (by omega) (tgt := 283) dL_law_276 (by decide) (fun c1 => ?_) (fun c1 => ?_)
    · refine x_iconst B dL_law_283 ?_
      refine x_cVF (wa := cW0 ca ad) B h kX11 0 (a := ad 0) rfl k_X11_trust rfl (c_X11_trust l D ca _ ad (fun k x hk => hk) ((xs 1).toInt) (iI 0) (by omega)) m_486 rfl (by decide) hl.1 [] (Nat.le_of_ble_eq_true rfl) rfl dL_law_284 (fun r w1 hq H locs h => ?_)
      rcases hq with ⟨rfl, hx⟩ | ⟨rfl, hx⟩
      · show W p l e room_1 s m #[Value.ref b] below meth c H locs 87 35823 (lw_Z below #[Value.ref b] s) (F0 m 287 ls [.int (iI 1)])
        refine lv_aload_n B.1 B.2.1 dL_law_287 rfl (lv_at hl 2 rfl) ?_
        refine lv_aload_n B.1 B.2.1 dL_law_288 rfl (lv_at hl 0 rfl) ?_
        refine lv_iload_n B.1 B.2.1 dL_law_289 rfl (lv_at hl 3 rfl) ?_
        refine x_iconst B dL_law_290 ?_
        refine x_iadd B dL_law_291 ?_
        refine x_sld B h hX hbl hbA 1 (by omega) dL_law_292 ?_
        refine lv_aload_n B.1 B.2.1 dL_law_293 rfl (lv_at hl 0 rfl) ?_
        refine lv_iload_n B.1 B.2.1 dL_law_294 rfl (lv_at hl 3 rfl) ?_
        refine x_iconst B dL_law_295 ?_
        refine x_iadd B dL_law_296 ?_
        refine x_sld B h hX hbl hbA 2 (by omega) dL_law_297 ?_
        refine x_if_eq B (by omega) (tgt := 305) dL_law_298 (by decide) (fun c2 => ?_) (fun c2 => ?_)
        · refine x_iconst B dL_law_305 ?_
          have h := xH.swap h
          refine x_cVF (wa := cM0 ca am) B h kX12 0 (a := am 0) rfl k_X12_trust rfl (c_X12_trust l D ca _ ((xs 1).toInt) am (iI 0) rfl rfl (by omega)) m_1530 rfl (by decide) hl.1 [.int (iI 1)] (Nat.le_of_ble_eq_true rfl) rfl dL_law_306 (fun r w1 hq H locs h => ?_)
          rcases hq with ⟨rfl, hm⟩ | ⟨rfl, hm⟩
          · show W p l e room_1 s m #[Value.ref b] below meth c H locs 87 35823 (lw_Z below #[Value.ref b] s) (F0 m 309 ls [.int (iI 1), .int (iI 1)])
            refine x_icmp_eq B (by omega) (tgt := 1368) dL_law_309 (by decide) (fun cq => ?_) (fun cq => ?_)
            · exact fin _ _ _ _ h (lv_sub hl [0, 3] rfl) (by decide) (by decide)
            · exact absurd rfl cq
          · show W p l e room_1 s m #[Value.ref b] below meth c H locs 87 35823 (lw_Z below #[Value.ref b] s) (F0 m 309 ls [.int (iI 0), .int (iI 1)])
            refine x_icmp_eq B (by omega) (tgt := 1368) dL_law_309 (by decide) (fun cq => ?_) (fun cq => ?_)
            · exact absurd cq (by decide)
            · exact absurd hx hm
        · refine x_iconst B dL_law_301 ?_
          refine lv_goto (tgt := 306) B.1 B.2.1 dL_law_302 (by decide) ?_
          have h := xH.swap h
          refine x_cVF (wa := cM0 ca am) B h kX12 0 (a := am 0) rfl k_X12_trust rfl (c_X12_trust l D ca _ ((xs 1).toInt) am (iI 1) rfl rfl (by omega)) m_1530 rfl (by decide) hl.1 [.int (iI 1)] (Nat.le_of_ble_eq_true rfl) rfl dL_law_306 (fun r w1 hq H locs h => ?_)
          rcases hq with ⟨rfl, hm⟩ | ⟨rfl, hm⟩
          · show W p l e room_1 s m #[Value.ref b] below meth c H locs 87 35823 (lw_Z below #[Value.ref b] s) (F0 m 309 ls [.int (iI 1), .int (iI 1)])
            refine x_icmp_eq B (by omega) (tgt := 1368) dL_law_309 (by decide) (fun cq => ?_) (fun cq => ?_)
            · exact fin _ _ _ _ h (lv_sub hl [0, 3] rfl) (by decide) (by decide)
            · exact absurd rfl cq
          · show W p l e room_1 s m #[Value.ref b] below meth c H locs 87 35823 (lw_Z below #[Value.ref b] s) (F0 m 309 ls [.int (iI 0), .int (iI 1)])
            refine x_icmp_eq B (by omega) (tgt := 1368) dL_law_309 (by decide) (fun cq => ?_) (fun cq => ?_)
            · exact absurd cq (by decide)
            · exact absurd hx hm
      · show W p l e room_1 s m #[Value.ref b] below meth c H locs 87 35823 (lw_Z below #[Value.ref b] s) (F0 m 287 ls [.int (iI 0)])
        refine lv_aload_n B.1 B.2.1 dL_law_287 rfl (lv_at hl 2 rfl) ?_
        refine lv_aload_n B.1 B.2.1 dL_law_288 rfl (lv_at hl 0 rfl) ?_
        refine lv_iload_n B.1 B.2.1 dL_law_289 rfl (lv_at hl 3 rfl) ?_
        refine x_iconst B dL_law_290 ?_
        refine x_iadd B dL_law_291 ?_
        refine x_sld B h hX hbl hbA 1 (by omega) dL_law_292 ?_
        refine lv_aload_n B.1 B.2.1 dL_law_293 rfl (lv_at hl 0 rfl) ?_
        refine lv_iload_n B.1 B.2.1 dL_law_294 rfl (lv_at hl 3 rfl) ?_
        refine x_iconst B dL_law_295 ?_
        refine x_iadd B dL_law_296 ?_
        refine x_sld B h hX hbl hbA 2 (by omega) dL_law_297 ?_
        refine x_if_eq B (by omega) (tgt := 305) dL_law_298 (by decide) (fun c3 => ?_) (fun c3 => ?_)
        · refine x_iconst B dL_law_305 ?_
          have h := xH.swap h
          refine x_cVF (wa := cM0 ca am) B h kX12 0 (a := am 0) rfl k_X12_trust rfl (c_X12_trust l D ca _ ((xs 1).toInt) am (iI 0) rfl rfl (by omega)) m_1530 rfl (by decide) hl.1 [.int (iI 0)] (Nat.le_of_ble_eq_true rfl) rfl dL_law_306 (fun r w1 hq H locs h => ?_)
          rcases hq with ⟨rfl, hm⟩ | ⟨rfl, hm⟩
          · show W p l e room_1 s m #[Value.ref b] below meth c H locs 87 35823 (lw_Z below #[Value.ref b] s) (F0 m 309 ls [.int (iI 1), .int (iI 0)])
            refine x_icmp_eq B (by omega) (tgt := 1368) dL_law_309 (by decide) (fun cq => ?_) (fun cq => ?_)
            · exact absurd cq (by decide)
            · exact absurd hm hx
          · show W p l e room_1 s m #[Value.ref b] below meth c H locs 87 35823 (lw_Z below #[Value.ref b] s) (F0 m 309 ls [.int (iI 0), .int (iI 0)])
            refine x_icmp_eq B (by omega) (tgt := 1368) dL_law_309 (by decide) (fun cq => ?_) (fun cq => ?_)
            · exact fin _ _ _ _ h (lv_sub hl [0, 3] rfl) (by decide) (by decide)
            · exact absurd rfl cq
        · refine x_iconst B dL_law_301 ?_
          refine lv_goto (tgt := 306) B.1 B.2.1 dL_law_302 (by decide) ?_
          have h := xH.swap h
          refine x_cVF (wa := cM0 ca am) B h kX12 0 (a := am 0) rfl k_X12_trust rfl (c_X12_trust l D ca _ ((xs 1).toInt) am (iI 1) rfl rfl (by omega)) m_1530 rfl (by decide) hl.1 [.int (iI 0)] (Nat.le_of_ble_eq_true rfl) rfl dL_law_306 (fun r w1 hq H locs h => ?_)
          rcases hq with ⟨rfl, hm⟩ | ⟨rfl, hm⟩
          · show W p l e room_1 s m #[Value.ref b] below meth c H locs 87 35823 (lw_Z below #[Value.ref b] s) (F0 m 309 ls [.int (iI 1), .int (iI 0)])
            refine x_icmp_eq B (by omega) (tgt := 1368) dL_law_309 (by decide) (fun cq => ?_) (fun cq => ?_)
            · exact absurd cq (by decide)
            · exact absurd hm hx
          · show W p l e room_1 s m #[Value.ref b] below meth c H locs 87 35823 (lw_Z below #[Value.ref b] s) (F0 m 309 ls [.int (iI 0), .int (iI 0)])
            refine x_icmp_eq B (by omega) (tgt := 1368) dL_law_309 (by decide) (fun cq => ?_) (fun cq => ?_)
            · exact fin _ _ _ _ h (lv_sub hl [0, 3] rfl) (by decide) (by decide)
            · exact absurd rfl cq
    · refine x_iconst B dL_law_279 ?_
      refine lv_goto (tgt := 284) B.1 B.2.1 dL_law_280 (by decide) ?_
      refine x_cVF (wa := cW0 ca ad) B h kX11 0 (a := ad 0) rfl k_X11_trust rfl (c_X11_trust l D ca _ ad (fun k x hk => hk) ((xs 1).toInt) (iI 1) (by omega)) m_486 rfl (by decide) hl.1 [] (Nat.le_of_ble_eq_true rfl) rfl dL_law_284 (fun r w1 hq H locs h => ?_)
      rcases hq with ⟨rfl, hx⟩ | ⟨rfl, hx⟩
      · show W p l e room_1 s m #[Value.ref b] below meth c H locs 87 35823 (lw_Z below #[Value.ref b] s) (F0 m 287 ls [.int (iI 1)])
        refine lv_aload_n B.1 B.2.1 dL_law_287 rfl (lv_at hl 2 rfl) ?_
        refine lv_aload_n B.1 B.2.1 dL_law_288 rfl (lv_at hl 0 rfl) ?_
        refine lv_iload_n B.1 B.2.1 dL_law_289 rfl (lv_at hl 3 rfl) ?_
        refine x_iconst B dL_law_290 ?_
        refine x_iadd B dL_law_291 ?_
        refine x_sld B h hX hbl hbA 1 (by omega) dL_law_292 ?_
        refine lv_aload_n B.1 B.2.1 dL_law_293 rfl (lv_at hl 0 rfl) ?_
        refine lv_iload_n B.1 B.2.1 dL_law_294 rfl (lv_at hl 3 rfl) ?_
        refine x_iconst B dL_law_295 ?_
        refine x_iadd B dL_law_296 ?_
        refine x_sld B h hX hbl hbA 2 (by omega) dL_law_297 ?_
        refine x_if_eq B (by omega) (tgt := 305) dL_law_298 (by decide) (fun c4 => ?_) (fun c4 => ?_)
        · refine x_iconst B dL_law_305 ?_
          have h := xH.swap h
          refine x_cVF (wa := cM0 ca am) B h kX12 0 (a := am 0) rfl k_X12_trust rfl (c_X12_trust l D ca _ ((xs 1).toInt) am (iI 0) rfl rfl (by omega)) m_1530 rfl (by decide) hl.1 [.int (iI 1)] (Nat.le_of_ble_eq_true rfl) rfl dL_law_306 (fun r w1 hq H locs h => ?_)
          rcases hq with ⟨rfl, hm⟩ | ⟨rfl, hm⟩
          · show W p l e room_1 s m #[Value.ref b] below meth c H locs 87 35823 (lw_Z below #[Value.ref b] s) (F0 m 309 ls [.int (iI 1), .int (iI 1)])
            refine x_icmp_eq B (by omega) (tgt := 1368) dL_law_309 (by decide) (fun cq => ?_) (fun cq => ?_)
            · exact fin _ _ _ _ h (lv_sub hl [0, 3] rfl) (by decide) (by decide)
            · exact absurd rfl cq
          · show W p l e room_1 s m #[Value.ref b] below meth c H locs 87 35823 (lw_Z below #[Value.ref b] s) (F0 m 309 ls [.int (iI 0), .int (iI 1)])
            refine x_icmp_eq B (by omega) (tgt := 1368) dL_law_309 (by decide) (fun cq => ?_) (fun cq => ?_)
            · exact absurd cq (by decide)
            · exact absurd hx hm
        · refine x_iconst B dL_law_301 ?_
          refine lv_goto (tgt := 306) B.1 B.2.1 dL_law_302 (by decide) ?_
          have h := xH.swap h
          refine x_cVF (wa := cM0 ca am) B h kX12 0 (a := am 0) rfl k_X12_trust rfl (c_X12_trust l D ca _ ((xs 1).toInt) am (iI 1) rfl rfl (by omega)) m_1530 rfl (by decide) hl.1 [.int (iI 1)] (Nat.le_of_ble_eq_true rfl) rfl dL_law_306 (fun r w1 hq H locs h => ?_)
          rcases hq with ⟨rfl, hm⟩ | ⟨rfl, hm⟩
          · show W p l e room_1 s m #[Value.ref b] below meth c H locs 87 35823 (lw_Z below #[Value.ref b] s) (F0 m 309 ls [.int (iI 1), .int (iI 1)])
            refine x_icmp_eq B (by omega) (tgt := 1368) dL_law_309 (by decide) (fun cq => ?_) (fun cq => ?_)
            · exact fin _ _ _ _ h (lv_sub hl [0, 3] rfl) (by decide) (by decide)
            · exact absurd rfl cq
          · show W p l e room_1 s m #[Value.ref b] below meth c H locs 87 35823 (lw_Z below #[Value.ref b] s) (F0 m 309 ls [.int (iI 0), .int (iI 1)])
            refine x_icmp_eq B (by omega) (tgt := 1368) dL_law_309 (by decide) (fun cq => ?_) (fun cq => ?_)
            · exact absurd cq (by decide)
            · exact absurd hx hm
      · show W p l e room_1 s m #[Value.ref b] below meth c H locs 87 35823 (lw_Z below #[Value.ref b] s) (F0 m 287 ls [.int (iI 0)])
        refine lv_aload_n B.1 B.2.1 dL_law_287 rfl (lv_at hl 2 rfl) ?_
        refine lv_aload_n B.1 B.2.1 dL_law_288 rfl (lv_at hl 0 rfl) ?_
        refine lv_iload_n B.1 B.2.1 dL_law_289 rfl (lv_at hl 3 rfl) ?_
        refine x_iconst B dL_law_290 ?_
        refine x_iadd B dL_law_291 ?_
        refine x_sld B h hX hbl hbA 1 (by omega) dL_law_292 ?_
        refine lv_aload_n B.1 B.2.1 dL_law_293 rfl (lv_at hl 0 rfl) ?_
        refine lv_iload_n B.1 B.2.1 dL_law_294 rfl (lv_at hl 3 rfl) ?_
        refine x_iconst B dL_law_295 ?_
        refine x_iadd B dL_law_296 ?_
        refine x_sld B h hX hbl hbA 2 (by omega) dL_law_297 ?_
        refine x_if_eq B (by omega) (tgt := 305) dL_law_298 (by decide) (fun c5 => ?_) (fun c5 => ?_)
        · refine x_iconst B dL_law_305 ?_
          have h := xH.swap h
          refine x_cVF (wa := cM0 ca am) B h kX12 0 (a := am 0) rfl k_X12_trust rfl (c_X12_trust l D ca _ ((xs 1).toInt) am (iI 0) rfl rfl (by omega)) m_1530 rfl (by decide) hl.1 [.int (iI 0)] (Nat.le_of_ble_eq_true rfl) rfl dL_law_306 (fun r w1 hq H locs h => ?_)
          rcases hq with ⟨rfl, hm⟩ | ⟨rfl, hm⟩
          · show W p l e room_1 s m #[Value.ref b] below meth c H locs 87 35823 (lw_Z below #[Value.ref b] s) (F0 m 309 ls [.int (iI 1), .int (iI 0)])
            refine x_icmp_eq B (by omega) (tgt := 1368) dL_law_309 (by decide) (fun cq => ?_) (fun cq => ?_)
            · exact absurd cq (by decide)
            · exact absurd hm hx
          · show W p l e room_1 s m #[Value.ref b] below meth c H locs 87 35823 (lw_Z below #[Value.ref b] s) (F0 m 309 ls [.int (iI 0), .int (iI 0)])
            refine x_icmp_eq B (by omega) (tgt := 1368) dL_law_309 (by decide) (fun cq => ?_) (fun cq => ?_)
            · exact fin _ _ _ _ h (lv_sub hl [0, 3] rfl) (by decide) (by decide)
            · exact absurd rfl cq
        · refine x_iconst B dL_law_301 ?_
          refine lv_goto (tgt := 306) B.1 B.2.1 dL_law_302 (by decide) ?_
          have h := xH.swap h
          refine x_cVF (wa := cM0 ca am) B h kX12 0 (a := am 0) rfl k_X12_trust rfl (c_X12_trust l D ca _ ((xs 1).toInt) am (iI 1) rfl rfl (by omega)) m_1530 rfl (by decide) hl.1 [.int (iI 0)] (Nat.le_of_ble_eq_true rfl) rfl dL_law_306 (fun r w1 hq H locs h => ?_)
          rcases hq with ⟨rfl, hm⟩ | ⟨rfl, hm⟩
          · show W p l e room_1 s m #[Value.ref b] below meth c H locs 87 35823 (lw_Z below #[Value.ref b] s) (F0 m 309 ls [.int (iI 1), .int (iI 0)])
            refine x_icmp_eq B (by omega) (tgt := 1368) dL_law_309 (by decide) (fun cq => ?_) (fun cq => ?_)
            · exact absurd cq (by decide)
            · exact absurd hm hx
          · show W p l e room_1 s m #[Value.ref b] below meth c H locs 87 35823 (lw_Z below #[Value.ref b] s) (F0 m 309 ls [.int (iI 0), .int (iI 0)])
            refine x_icmp_eq B (by omega) (tgt := 1368) dL_law_309 (by decide) (fun cq => ?_) (fun cq => ?_)
            · exact fin _ _ _ _ h (lv_sub hl [0, 3] rfl) (by decide) (by decide)
            · exact absurd rfl cq
  by_cases t4 : sw = 4
  · refine x_tin B (tgt := 314) 4 (by omega) dL_law_33 rfl (by decide) ?_
    skip
    refine lv_aload_n B.1 B.2.1 dL_law_314 rfl (lv_at hl 1 rfl) ?_
    refine lv_aload_n B.1 B.2.1 dL_law_315 rfl (lv_at hl 0 rfl) ?_
    refine lv_iload_n B.1 B.2.1 dL_law_316 rfl (lv_at hl 3 rfl) ?_
    refine x_iconst B dL_law_317 ?_
    refine x_iadd B dL_law_318 ?_
    refine x_sld B h hX hbl hbA 1 (by omega) dL_law_319 ?_
    refine lv_aload_n B.1 B.2.1 dL_law_320 rfl (lv_at hl 0 rfl) ?_
    refine lv_iload_n B.1 B.2.1 dL_law_321 rfl (lv_at hl 3 rfl) ?_
    refine x_iconst B dL_law_322 ?_
    refine x_iadd B dL_law_323 ?_
    refine x_sld B h hX hbl hbA 2 (by omega) dL_law_324 ?_
    refine x_cVF (wa := cW0 ca ad) B h kX11 0 (a := ad 0) rfl k_X11_set rfl (c_X11_set l D ca _ ad (fun k x hk => hk) ((xs 1).toInt) ((xs 2).toInt) (by omega) (by omega)) m_494 rfl (by decide) hl.1 [] (Nat.le_of_ble_eq_true rfl) rfl dL_law_325 (fun r w1 hq H locs h => ?_)
    rcases hq with ⟨rfl, hx⟩ | ⟨rfl, hx⟩
    · show W p l e room_1 s m #[Value.ref b] below meth c H locs 87 35823 (lw_Z below #[Value.ref b] s) (F0 m 328 ls [.int (iI 1)])
      refine lv_aload_n B.1 B.2.1 dL_law_328 rfl (lv_at hl 2 rfl) ?_
      refine lv_aload_n B.1 B.2.1 dL_law_329 rfl (lv_at hl 0 rfl) ?_
      refine lv_iload_n B.1 B.2.1 dL_law_330 rfl (lv_at hl 3 rfl) ?_
      refine x_iconst B dL_law_331 ?_
      refine x_iadd B dL_law_332 ?_
      refine x_sld B h hX hbl hbA 1 (by omega) dL_law_333 ?_
      refine lv_aload_n B.1 B.2.1 dL_law_334 rfl (lv_at hl 0 rfl) ?_
      refine lv_iload_n B.1 B.2.1 dL_law_335 rfl (lv_at hl 3 rfl) ?_
      refine x_iconst B dL_law_336 ?_
      refine x_iadd B dL_law_337 ?_
      refine x_sld B h hX hbl hbA 2 (by omega) dL_law_338 ?_
      have h := xH.swap h
      refine x_cVF (wa := cM0 ca am) B h kX12 0 (a := am 0) rfl k_X12_set rfl (c_X12_set l D ca _ ((xs 1).toInt) ((xs 2).toInt) am rfl rfl (by omega) (by omega)) m_1534 rfl (by decide) hl.1 [.int (iI 1)] (Nat.le_of_ble_eq_true rfl) rfl dL_law_339 (fun r w1 hq H locs h => ?_)
      rcases hq with ⟨rfl, hm⟩ | ⟨rfl, hm⟩
      · show W p l e room_1 s m #[Value.ref b] below meth c H locs 87 35823 (lw_Z below #[Value.ref b] s) (F0 m 342 ls [.int (iI 1), .int (iI 1)])
        refine x_icmp_eq B (by omega) (tgt := 1368) dL_law_342 (by decide) (fun cq => ?_) (fun cq => ?_)
        · exact fin _ _ _ _ h (lv_sub hl [0, 3] rfl) (by decide) (by decide)
        · exact absurd rfl cq
      · show W p l e room_1 s m #[Value.ref b] below meth c H locs 87 35823 (lw_Z below #[Value.ref b] s) (F0 m 342 ls [.int (iI 0), .int (iI 1)])
        refine x_icmp_eq B (by omega) (tgt := 1368) dL_law_342 (by decide) (fun cq => ?_) (fun cq => ?_)
        · exact absurd cq (by decide)
        · exact absurd hx hm
    · show W p l e room_1 s m #[Value.ref b] below meth c H locs 87 35823 (lw_Z below #[Value.ref b] s) (F0 m 328 ls [.int (iI 0)])
      refine lv_aload_n B.1 B.2.1 dL_law_328 rfl (lv_at hl 2 rfl) ?_
      refine lv_aload_n B.1 B.2.1 dL_law_329 rfl (lv_at hl 0 rfl) ?_
      refine lv_iload_n B.1 B.2.1 dL_law_330 rfl (lv_at hl 3 rfl) ?_
      refine x_iconst B dL_law_331 ?_
      refine x_iadd B dL_law_332 ?_
      refine x_sld B h hX hbl hbA 1 (by omega) dL_law_333 ?_
      refine lv_aload_n B.1 B.2.1 dL_law_334 rfl (lv_at hl 0 rfl) ?_
      refine lv_iload_n B.1 B.2.1 dL_law_335 rfl (lv_at hl 3 rfl) ?_
      refine x_iconst B dL_law_336 ?_
      refine x_iadd B dL_law_337 ?_
      refine x_sld B h hX hbl hbA 2 (by omega) dL_law_338 ?_
      have h := xH.swap h
      refine x_cVF (wa := cM0 ca am) B h kX12 0 (a := am 0) rfl k_X12_set rfl (c_X12_set l D ca _ ((xs 1).toInt) ((xs 2).toInt) am rfl rfl (by omega) (by omega)) m_1534 rfl (by decide) hl.1 [.int (iI 0)] (Nat.le_of_ble_eq_true rfl) rfl dL_law_339 (fun r w1 hq H locs h => ?_)
      rcases hq with ⟨rfl, hm⟩ | ⟨rfl, hm⟩
      · show W p l e room_1 s m #[Value.ref b] below meth c H locs 87 35823 (lw_Z below #[Value.ref b] s) (F0 m 342 ls [.int (iI 1), .int (iI 0)])
        refine x_icmp_eq B (by omega) (tgt := 1368) dL_law_342 (by decide) (fun cq => ?_) (fun cq => ?_)
        · exact absurd cq (by decide)
        · exact absurd hm hx
      · show W p l e room_1 s m #[Value.ref b] below meth c H locs 87 35823 (lw_Z below #[Value.ref b] s) (F0 m 342 ls [.int (iI 0), .int (iI 0)])
        refine x_icmp_eq B (by omega) (tgt := 1368) dL_law_342 (by decide) (fun cq => ?_) (fun cq => ?_)
        · exact fin _ _ _ _ h (lv_sub hl [0, 3] rfl) (by decide) (by decide)
        · exact absurd rfl cq
  by_cases t5 : sw = 5
  · refine x_tin B (tgt := 347) 5 (by omega) dL_law_33 rfl (by decide) ?_
    skip
    refine lv_aload_n B.1 B.2.1 dL_law_347 rfl (lv_at hl 1 rfl) ?_
    refine lv_aload_n B.1 B.2.1 dL_law_348 rfl (lv_at hl 0 rfl) ?_
    refine lv_iload_n B.1 B.2.1 dL_law_349 rfl (lv_at hl 3 rfl) ?_
    refine x_iconst B dL_law_350 ?_
    refine x_iadd B dL_law_351 ?_
    refine x_sld B h hX hbl hbA 1 (by omega) dL_law_352 ?_
    refine lv_aload_n B.1 B.2.1 dL_law_353 rfl (lv_at hl 0 rfl) ?_
    refine lv_iload_n B.1 B.2.1 dL_law_354 rfl (lv_at hl 3 rfl) ?_
    refine x_iconst B dL_law_355 ?_
    refine x_iadd B dL_law_356 ?_
    refine x_sld B h hX hbl hbA 2 (by omega) dL_law_357 ?_
    refine lv_aload_n B.1 B.2.1 dL_law_358 rfl (lv_at hl 0 rfl) ?_
    refine lv_iload_n B.1 B.2.1 dL_law_359 rfl (lv_at hl 3 rfl) ?_
    refine x_iconst B dL_law_360 ?_
    refine x_iadd B dL_law_361 ?_
    refine x_sld B h hX hbl hbA 3 (by omega) dL_law_362 ?_
    refine lv_aload_n B.1 B.2.1 dL_law_363 rfl (lv_at hl 0 rfl) ?_
    refine lv_iload_n B.1 B.2.1 dL_law_364 rfl (lv_at hl 3 rfl) ?_
    refine x_iconst B dL_law_365 ?_
    refine x_iadd B dL_law_366 ?_
    refine x_sld B h hX hbl hbA 4 (by omega) dL_law_367 ?_
    refine lv_aload_n B.1 B.2.1 dL_law_368 rfl (lv_at hl 0 rfl) ?_
    refine lv_iload_n B.1 B.2.1 dL_law_369 rfl (lv_at hl 3 rfl) ?_
    refine x_iconst B dL_law_370 ?_
    refine x_iadd B dL_law_371 ?_
    refine x_sld B h hX hbl hbA 5 (by omega) dL_law_372 ?_
    refine x_cVF (wa := cW0 ca ad) B h kX11 0 (a := ad 0) rfl k_X11_read rfl (c_X11_read l D ca _ ad (fun k x hk => hk) ((xs 1).toInt) ((xs 2).toInt) ((xs 3).toInt) ((xs 4).toInt) ((xs 5).toInt) (by omega) (by omega) (by omega) (by omega) (by omega)) m_498 rfl (by decide) hl.1 [] (Nat.le_of_ble_eq_true rfl) rfl dL_law_373 (fun r w1 hq H locs h => ?_)
    obtain ⟨zx, rfl, hzx⟩ := hq
    show W p l e room_1 s m #[Value.ref b] below meth c H locs 87 35823 (lw_Z below #[Value.ref b] s) (F0 m 376 ls [.int (iI zx)])
    refine lv_aload_n B.1 B.2.1 dL_law_376 rfl (lv_at hl 2 rfl) ?_
    refine lv_aload_n B.1 B.2.1 dL_law_377 rfl (lv_at hl 0 rfl) ?_
    refine lv_iload_n B.1 B.2.1 dL_law_378 rfl (lv_at hl 3 rfl) ?_
    refine x_iconst B dL_law_379 ?_
    refine x_iadd B dL_law_380 ?_
    refine x_sld B h hX hbl hbA 1 (by omega) dL_law_381 ?_
    refine lv_aload_n B.1 B.2.1 dL_law_382 rfl (lv_at hl 0 rfl) ?_
    refine lv_iload_n B.1 B.2.1 dL_law_383 rfl (lv_at hl 3 rfl) ?_
    refine x_iconst B dL_law_384 ?_
    refine x_iadd B dL_law_385 ?_
    refine x_sld B h hX hbl hbA 2 (by omega) dL_law_386 ?_
    refine lv_aload_n B.1 B.2.1 dL_law_387 rfl (lv_at hl 0 rfl) ?_
    refine lv_iload_n B.1 B.2.1 dL_law_388 rfl (lv_at hl 3 rfl) ?_
    refine x_iconst B dL_law_389 ?_
    refine x_iadd B dL_law_390 ?_
    refine x_sld B h hX hbl hbA 3 (by omega) dL_law_391 ?_
    refine lv_aload_n B.1 B.2.1 dL_law_392 rfl (lv_at hl 0 rfl) ?_
    refine lv_iload_n B.1 B.2.1 dL_law_393 rfl (lv_at hl 3 rfl) ?_
    refine x_iconst B dL_law_394 ?_
    refine x_iadd B dL_law_395 ?_
    refine x_sld B h hX hbl hbA 4 (by omega) dL_law_396 ?_
    refine lv_aload_n B.1 B.2.1 dL_law_397 rfl (lv_at hl 0 rfl) ?_
    refine lv_iload_n B.1 B.2.1 dL_law_398 rfl (lv_at hl 3 rfl) ?_
    refine x_iconst B dL_law_399 ?_
    refine x_iadd B dL_law_400 ?_
    refine x_sld B h hX hbl hbA 5 (by omega) dL_law_401 ?_
    have h := xH.swap h
    refine x_cVF (wa := cM0 ca am) B h kX12 0 (a := am 0) rfl k_X12_read rfl (c_X12_read l D ca _ ((xs 1).toInt) ((xs 2).toInt) ((xs 3).toInt) ((xs 4).toInt) ((xs 5).toInt) am rfl rfl (by omega) (by omega) (by omega) (by omega) (by omega)) m_1538 rfl (by decide) hl.1 [.int (iI zx)] (Nat.le_of_ble_eq_true rfl) rfl dL_law_402 (fun r w1 hq H locs h => ?_)
    obtain ⟨zm, rfl, hzm⟩ := hq
    show W p l e room_1 s m #[Value.ref b] below meth c H locs 87 35823 (lw_Z below #[Value.ref b] s) (F0 m 405 ls [.int (iI zm), .int (iI zx)])
    have heq : zx = zm := by
      omega
    have hr : xr zx ∧ xr zm := by
      omega
    refine x_icmp_eq B hr (tgt := 1368) dL_law_405 (by decide) (fun cq => ?_) (fun cq => ?_)
    · exact fin _ _ _ _ h (lv_sub hl [0, 3] rfl) (by decide) (by decide)
    · exact absurd heq cq
  by_cases t6 : sw = 6
  · refine x_tin B (tgt := 410) 6 (by omega) dL_law_33 rfl (by decide) ?_
    skip
    refine lv_aload_n B.1 B.2.1 dL_law_410 rfl (lv_at hl 1 rfl) ?_
    refine lv_aload_n B.1 B.2.1 dL_law_411 rfl (lv_at hl 0 rfl) ?_
    refine lv_iload_n B.1 B.2.1 dL_law_412 rfl (lv_at hl 3 rfl) ?_
    refine x_iconst B dL_law_413 ?_
    refine x_iadd B dL_law_414 ?_
    refine x_sld B h hX hbl hbA 1 (by omega) dL_law_415 ?_
    refine lv_aload_n B.1 B.2.1 dL_law_416 rfl (lv_at hl 0 rfl) ?_
    refine lv_iload_n B.1 B.2.1 dL_law_417 rfl (lv_at hl 3 rfl) ?_
    refine x_iconst B dL_law_418 ?_
    refine x_iadd B dL_law_419 ?_
    refine x_sld B h hX hbl hbA 2 (by omega) dL_law_420 ?_
    refine lv_aload_n B.1 B.2.1 dL_law_421 rfl (lv_at hl 0 rfl) ?_
    refine lv_iload_n B.1 B.2.1 dL_law_422 rfl (lv_at hl 3 rfl) ?_
    refine x_iconst B dL_law_423 ?_
    refine x_iadd B dL_law_424 ?_
    refine x_sld B h hX hbl hbA 3 (by omega) dL_law_425 ?_
    refine lv_aload_n B.1 B.2.1 dL_law_426 rfl (lv_at hl 0 rfl) ?_
    refine lv_iload_n B.1 B.2.1 dL_law_427 rfl (lv_at hl 3 rfl) ?_
    refine x_iconst B dL_law_428 ?_
    refine x_iadd B dL_law_429 ?_
    refine x_sld B h hX hbl hbA 4 (by omega) dL_law_430 ?_
    refine lv_aload_n B.1 B.2.1 dL_law_431 rfl (lv_at hl 0 rfl) ?_
    refine lv_iload_n B.1 B.2.1 dL_law_432 rfl (lv_at hl 3 rfl) ?_
    refine x_iconst B dL_law_433 ?_
    refine x_iadd B dL_law_434 ?_
    refine x_sld B h hX hbl hbA 5 (by omega) dL_law_435 ?_
    refine x_cVF (wa := cW0 ca ad) B h kX11 0 (a := ad 0) rfl k_X11_feed rfl (c_X11_feed l D ca _ ad (fun k x hk => hk) (iI (xs 1).toInt) (iI (xs 2).toInt) (iI (xs 3).toInt) (iI (xs 4).toInt) (iI (xs 5).toInt) ) m_565 rfl (by decide) hl.1 [] (Nat.le_of_ble_eq_true rfl) rfl dL_law_436 (fun r w1 hq H locs h => ?_)
    obtain ⟨zx, rfl, hzx⟩ := hq
    show W p l e room_1 s m #[Value.ref b] below meth c H locs 87 35823 (lw_Z below #[Value.ref b] s) (F0 m 439 ls [.int (iI zx)])
    refine lv_aload_n B.1 B.2.1 dL_law_439 rfl (lv_at hl 2 rfl) ?_
    refine lv_aload_n B.1 B.2.1 dL_law_440 rfl (lv_at hl 0 rfl) ?_
    refine lv_iload_n B.1 B.2.1 dL_law_441 rfl (lv_at hl 3 rfl) ?_
    refine x_iconst B dL_law_442 ?_
    refine x_iadd B dL_law_443 ?_
    refine x_sld B h hX hbl hbA 1 (by omega) dL_law_444 ?_
    refine lv_aload_n B.1 B.2.1 dL_law_445 rfl (lv_at hl 0 rfl) ?_
    refine lv_iload_n B.1 B.2.1 dL_law_446 rfl (lv_at hl 3 rfl) ?_
    refine x_iconst B dL_law_447 ?_
    refine x_iadd B dL_law_448 ?_
    refine x_sld B h hX hbl hbA 2 (by omega) dL_law_449 ?_
    refine lv_aload_n B.1 B.2.1 dL_law_450 rfl (lv_at hl 0 rfl) ?_
    refine lv_iload_n B.1 B.2.1 dL_law_451 rfl (lv_at hl 3 rfl) ?_
    refine x_iconst B dL_law_452 ?_
    refine x_iadd B dL_law_453 ?_
    refine x_sld B h hX hbl hbA 3 (by omega) dL_law_454 ?_
    refine lv_aload_n B.1 B.2.1 dL_law_455 rfl (lv_at hl 0 rfl) ?_
    refine lv_iload_n B.1 B.2.1 dL_law_456 rfl (lv_at hl 3 rfl) ?_
    refine x_iconst B dL_law_457 ?_
    refine x_iadd B dL_law_458 ?_
    refine x_sld B h hX hbl hbA 4 (by omega) dL_law_459 ?_
    refine lv_aload_n B.1 B.2.1 dL_law_460 rfl (lv_at hl 0 rfl) ?_
    refine lv_iload_n B.1 B.2.1 dL_law_461 rfl (lv_at hl 3 rfl) ?_
    refine x_iconst B dL_law_462 ?_
    refine x_iadd B dL_law_463 ?_
    refine x_sld B h hX hbl hbA 5 (by omega) dL_law_464 ?_
    have h := xH.swap h
    refine x_cVF (wa := cM0 ca am) B h kX12 0 (a := am 0) rfl k_X12_feed rfl (c_X12_feed l D ca _ am (iI (xs 1).toInt) (iI (xs 2).toInt) (iI (xs 3).toInt) (iI (xs 4).toInt) (iI (xs 5).toInt) rfl rfl ) m_1546 rfl (by decide) hl.1 [.int (iI zx)] (Nat.le_of_ble_eq_true rfl) rfl dL_law_465 (fun r w1 hq H locs h => ?_)
    obtain ⟨zm, rfl, hzm⟩ := hq
    show W p l e room_1 s m #[Value.ref b] below meth c H locs 87 35823 (lw_Z below #[Value.ref b] s) (F0 m 468 ls [.int (iI zm), .int (iI zx)])
    have heq : zx = zm := by
      omega
    have hr : xr zx ∧ xr zm := by
      omega
    refine x_icmp_eq B hr (tgt := 1368) dL_law_468 (by decide) (fun cq => ?_) (fun cq => ?_)
    · exact fin _ _ _ _ h (lv_sub hl [0, 3] rfl) (by decide) (by decide)
    · exact absurd heq cq
  by_cases t7 : sw = 7
  · refine x_tin B (tgt := 473) 7 (by omega) dL_law_33 rfl (by decide) ?_
    skip
    refine lv_aload_n B.1 B.2.1 dL_law_473 rfl (lv_at hl 1 rfl) ?_
    refine lv_aload_n B.1 B.2.1 dL_law_474 rfl (lv_at hl 0 rfl) ?_
    refine lv_iload_n B.1 B.2.1 dL_law_475 rfl (lv_at hl 3 rfl) ?_
    refine x_iconst B dL_law_476 ?_
    refine x_iadd B dL_law_477 ?_
    refine x_sld B h hX hbl hbA 1 (by omega) dL_law_478 ?_
    refine lv_aload_n B.1 B.2.1 dL_law_479 rfl (lv_at hl 0 rfl) ?_
    refine lv_iload_n B.1 B.2.1 dL_law_480 rfl (lv_at hl 3 rfl) ?_
    refine x_iconst B dL_law_481 ?_
    refine x_iadd B dL_law_482 ?_
    refine x_sld B h hX hbl hbA 2 (by omega) dL_law_483 ?_
    refine x_cVF (wa := cW0 ca ad) B h kX11 0 (a := ad 0) rfl k_X11_scale rfl (c_X11_scale l D ca _ ad (fun k x hk => hk) ((xs 1).toInt) ((xs 2).toInt) (by omega) (by omega)) m_573 rfl (by decide) hl.1 [] (Nat.le_of_ble_eq_true rfl) rfl dL_law_484 (fun r w1 hq H locs h => ?_)
    obtain ⟨zx, rfl, hzx⟩ := hq
    show W p l e room_1 s m #[Value.ref b] below meth c H locs 93 36441 (lw_Z below #[Value.ref b] s) (F0 m 487 ls [.int (iI zx)])
    refine lv_aload_n B.1 B.2.1 dL_law_487 rfl (lv_at hl 2 rfl) ?_
    refine lv_aload_n B.1 B.2.1 dL_law_488 rfl (lv_at hl 0 rfl) ?_
    refine lv_iload_n B.1 B.2.1 dL_law_489 rfl (lv_at hl 3 rfl) ?_
    refine x_iconst B dL_law_490 ?_
    refine x_iadd B dL_law_491 ?_
    refine x_sld B h hX hbl hbA 1 (by omega) dL_law_492 ?_
    refine lv_aload_n B.1 B.2.1 dL_law_493 rfl (lv_at hl 0 rfl) ?_
    refine lv_iload_n B.1 B.2.1 dL_law_494 rfl (lv_at hl 3 rfl) ?_
    refine x_iconst B dL_law_495 ?_
    refine x_iadd B dL_law_496 ?_
    refine x_sld B h hX hbl hbA 2 (by omega) dL_law_497 ?_
    have h := xH.swap h
    refine x_cVF (wa := cM0 ca am) B h kX12 0 (a := am 0) rfl k_X12_scale rfl (c_X12_scale l D ca _ ((xs 1).toInt) ((xs 2).toInt) am rfl rfl rfl rfl (by omega) (by omega)) m_1550 rfl (by decide) hl.1 [.int (iI zx)] (Nat.le_of_ble_eq_true rfl) rfl dL_law_498 (fun r w1 hq H locs h => ?_)
    obtain ⟨zm, rfl, hzm⟩ := hq
    show W p l e room_1 s m #[Value.ref b] below meth c H locs 93 36441 (lw_Z below #[Value.ref b] s) (F0 m 501 ls [.int (iI zm), .int (iI zx)])
    have heq : zx = zm := by
      by_cases hC : (((xs 1).toInt) = 0 ∧ 0 ≤ ((xs 2).toInt) ∧ ((xs 2).toInt) ≤ 9)
      · have a := hzx.1 hC; have b := hzm.1 hC; omega
      · have a := hzx.2 hC; have b := hzm.2 hC; omega
    have hr : xr zx ∧ xr zm := by
      by_cases hC : (((xs 1).toInt) = 0 ∧ 0 ≤ ((xs 2).toInt) ∧ ((xs 2).toInt) ≤ 9)
      · have a := hzx.1 hC; have b := hzm.1 hC; omega
      · have a := hzx.2 hC; have b := hzm.2 hC; omega
    refine x_icmp_eq B hr (tgt := 1368) dL_law_501 (by decide) (fun cq => ?_) (fun cq => ?_)
    · exact fin _ _ _ _ h (lv_sub hl [0, 3] rfl) (by decide) (by decide)
    · exact absurd heq cq
  by_cases t8 : sw = 8
  · refine x_tin B (tgt := 506) 8 (by omega) dL_law_33 rfl (by decide) ?_
    skip
    refine lv_aload_n B.1 B.2.1 dL_law_506 rfl (lv_at hl 1 rfl) ?_
    refine lv_aload_n B.1 B.2.1 dL_law_507 rfl (lv_at hl 0 rfl) ?_
    refine lv_iload_n B.1 B.2.1 dL_law_508 rfl (lv_at hl 3 rfl) ?_
    refine x_iconst B dL_law_509 ?_
    refine x_iadd B dL_law_510 ?_
    refine x_sld B h hX hbl hbA 1 (by omega) dL_law_511 ?_
    refine lv_aload_n B.1 B.2.1 dL_law_512 rfl (lv_at hl 0 rfl) ?_
    refine lv_iload_n B.1 B.2.1 dL_law_513 rfl (lv_at hl 3 rfl) ?_
    refine x_iconst B dL_law_514 ?_
    refine x_iadd B dL_law_515 ?_
    refine x_sld B h hX hbl hbA 2 (by omega) dL_law_516 ?_
    refine x_cVF (wa := cW0 ca ad) B h kX11 0 (a := ad 0) rfl k_X11_habits rfl (c_X11_habits l D ca _ ad (fun k x hk => hk) ((xs 1).toInt) ((xs 2).toInt) (by omega) (by omega)) m_818 rfl (by decide) hl.1 [] (Nat.le_of_ble_eq_true rfl) rfl dL_law_517 (fun r w1 hq H locs h => ?_)
    obtain ⟨zx, rfl, hzx⟩ := hq
    show W p l e room_1 s m #[Value.ref b] below meth c H locs 87 35823 (lw_Z below #[Value.ref b] s) (F0 m 520 ls [.int (iI zx)])
    refine lv_aload_n B.1 B.2.1 dL_law_520 rfl (lv_at hl 2 rfl) ?_
    refine lv_aload_n B.1 B.2.1 dL_law_521 rfl (lv_at hl 0 rfl) ?_
    refine lv_iload_n B.1 B.2.1 dL_law_522 rfl (lv_at hl 3 rfl) ?_
    refine x_iconst B dL_law_523 ?_
    refine x_iadd B dL_law_524 ?_
    refine x_sld B h hX hbl hbA 1 (by omega) dL_law_525 ?_
    refine lv_aload_n B.1 B.2.1 dL_law_526 rfl (lv_at hl 0 rfl) ?_
    refine lv_iload_n B.1 B.2.1 dL_law_527 rfl (lv_at hl 3 rfl) ?_
    refine x_iconst B dL_law_528 ?_
    refine x_iadd B dL_law_529 ?_
    refine x_sld B h hX hbl hbA 2 (by omega) dL_law_530 ?_
    have h := xH.swap h
    refine x_cVF (wa := cM0 ca am) B h kX12 0 (a := am 0) rfl k_X12_habits rfl (c_X12_habits l D ca _ ((xs 1).toInt) ((xs 2).toInt) am rfl rfl (by omega) (by omega)) m_1651 rfl (by decide) hl.1 [.int (iI zx)] (Nat.le_of_ble_eq_true rfl) rfl dL_law_531 (fun r w1 hq H locs h => ?_)
    obtain ⟨zm, rfl, hzm⟩ := hq
    show W p l e room_1 s m #[Value.ref b] below meth c H locs 87 35823 (lw_Z below #[Value.ref b] s) (F0 m 534 ls [.int (iI zm), .int (iI zx)])
    have heq : zx = zm := by
      omega
    have hr : xr zx ∧ xr zm := by
      omega
    refine x_icmp_eq B hr (tgt := 1368) dL_law_534 (by decide) (fun cq => ?_) (fun cq => ?_)
    · exact fin _ _ _ _ h (lv_sub hl [0, 3] rfl) (by decide) (by decide)
    · exact absurd heq cq
  by_cases t9 : sw = 9
  · refine x_tin B (tgt := 539) 9 (by omega) dL_law_33 rfl (by decide) ?_
    skip
    refine lv_aload_n B.1 B.2.1 dL_law_539 rfl (lv_at hl 1 rfl) ?_
    refine x_cVF (wa := cW0 ca ad) B h kX11 0 (a := ad 0) rfl k_X11_fault rfl (c_X11_fault l D ca _ ad (fun k x hk => hk)  ) m_822 rfl (by decide) hl.1 [] (Nat.le_of_ble_eq_true rfl) rfl dL_law_540 (fun r w1 hq H locs h => ?_)
    obtain ⟨zx, rfl, hzx⟩ := hq
    show W p l e room_1 s m #[Value.ref b] below meth c H locs 87 35823 (lw_Z below #[Value.ref b] s) (F0 m 543 ls [.int (iI zx)])
    refine lv_aload_n B.1 B.2.1 dL_law_543 rfl (lv_at hl 2 rfl) ?_
    have h := xH.swap h
    refine x_cVF (wa := cM0 ca am) B h kX12 0 (a := am 0) rfl k_X12_fault rfl (c_X12_fault l D ca _ am rfl ) m_1655 rfl (by decide) hl.1 [.int (iI zx)] (Nat.le_of_ble_eq_true rfl) rfl dL_law_544 (fun r w1 hq H locs h => ?_)
    obtain ⟨zm, rfl, hzm⟩ := hq
    show W p l e room_1 s m #[Value.ref b] below meth c H locs 87 35823 (lw_Z below #[Value.ref b] s) (F0 m 547 ls [.int (iI zm), .int (iI zx)])
    have heq : zx = zm := by
      omega
    have hr : xr zx ∧ xr zm := by
      omega
    refine x_icmp_eq B hr (tgt := 1368) dL_law_547 (by decide) (fun cq => ?_) (fun cq => ?_)
    · exact fin _ _ _ _ h (lv_sub hl [0, 3] rfl) (by decide) (by decide)
    · exact absurd heq cq
  by_cases t10 : sw = 10
  · refine x_tin B (tgt := 552) 10 (by omega) dL_law_33 rfl (by decide) ?_
    skip
    refine lv_aload_n B.1 B.2.1 dL_law_552 rfl (lv_at hl 1 rfl) ?_
    refine lv_aload_n B.1 B.2.1 dL_law_553 rfl (lv_at hl 0 rfl) ?_
    refine lv_iload_n B.1 B.2.1 dL_law_554 rfl (lv_at hl 3 rfl) ?_
    refine x_iconst B dL_law_555 ?_
    refine x_iadd B dL_law_556 ?_
    refine x_sld B h hX hbl hbA 1 (by omega) dL_law_557 ?_
    refine lv_aload_n B.1 B.2.1 dL_law_558 rfl (lv_at hl 0 rfl) ?_
    refine lv_iload_n B.1 B.2.1 dL_law_559 rfl (lv_at hl 3 rfl) ?_
    refine x_iconst B dL_law_560 ?_
    refine x_iadd B dL_law_561 ?_
    refine x_sld B h hX hbl hbA 2 (by omega) dL_law_562 ?_
    refine x_cVF (wa := cW0 ca ad) B h kX11 0 (a := ad 0) rfl k_X11_reading rfl (c_X11_reading l D ca _ ad (fun k x hk => hk) ((xs 1).toInt) ((xs 2).toInt) (by omega) (by omega)) m_826 rfl (by decide) hl.1 [] (Nat.le_of_ble_eq_true rfl) rfl dL_law_563 (fun r w1 hq H locs h => ?_)
    obtain ⟨zx, rfl, hzx⟩ := hq
    show W p l e room_1 s m #[Value.ref b] below meth c H locs 87 35823 (lw_Z below #[Value.ref b] s) (F0 m 566 ls [.int (iI zx)])
    refine lv_aload_n B.1 B.2.1 dL_law_566 rfl (lv_at hl 2 rfl) ?_
    refine lv_aload_n B.1 B.2.1 dL_law_567 rfl (lv_at hl 0 rfl) ?_
    refine lv_iload_n B.1 B.2.1 dL_law_568 rfl (lv_at hl 3 rfl) ?_
    refine x_iconst B dL_law_569 ?_
    refine x_iadd B dL_law_570 ?_
    refine x_sld B h hX hbl hbA 1 (by omega) dL_law_571 ?_
    refine lv_aload_n B.1 B.2.1 dL_law_572 rfl (lv_at hl 0 rfl) ?_
    refine lv_iload_n B.1 B.2.1 dL_law_573 rfl (lv_at hl 3 rfl) ?_
    refine x_iconst B dL_law_574 ?_
    refine x_iadd B dL_law_575 ?_
    refine x_sld B h hX hbl hbA 2 (by omega) dL_law_576 ?_
    have h := xH.swap h
    refine x_cVF (wa := cM0 ca am) B h kX12 0 (a := am 0) rfl k_X12_reading rfl (c_X12_reading l D ca _ ((xs 1).toInt) ((xs 2).toInt) am rfl (by omega) (by omega)) m_1812 rfl (by decide) hl.1 [.int (iI zx)] (Nat.le_of_ble_eq_true rfl) rfl dL_law_577 (fun r w1 hq H locs h => ?_)
    obtain ⟨zm, rfl, hzm⟩ := hq
    show W p l e room_1 s m #[Value.ref b] below meth c H locs 87 35823 (lw_Z below #[Value.ref b] s) (F0 m 580 ls [.int (iI zm), .int (iI zx)])
    have heq : zx = zm := by
      omega
    have hr : xr zx ∧ xr zm := by
      omega
    refine x_icmp_eq B hr (tgt := 1368) dL_law_580 (by decide) (fun cq => ?_) (fun cq => ?_)
    · exact fin _ _ _ _ h (lv_sub hl [0, 3] rfl) (by decide) (by decide)
    · exact absurd heq cq
  by_cases t11 : sw = 11
  · refine x_tin B (tgt := 585) 11 (by omega) dL_law_33 rfl (by decide) ?_
    skip
    refine lv_aload_n B.1 B.2.1 dL_law_585 rfl (lv_at hl 1 rfl) ?_
    refine lv_aload_n B.1 B.2.1 dL_law_586 rfl (lv_at hl 0 rfl) ?_
    refine lv_iload_n B.1 B.2.1 dL_law_587 rfl (lv_at hl 3 rfl) ?_
    refine x_iconst B dL_law_588 ?_
    refine x_iadd B dL_law_589 ?_
    refine x_sld B h hX hbl hbA 1 (by omega) dL_law_590 ?_
    refine lv_aload_n B.1 B.2.1 dL_law_591 rfl (lv_at hl 0 rfl) ?_
    refine lv_iload_n B.1 B.2.1 dL_law_592 rfl (lv_at hl 3 rfl) ?_
    refine x_iconst B dL_law_593 ?_
    refine x_iadd B dL_law_594 ?_
    refine x_sld B h hX hbl hbA 2 (by omega) dL_law_595 ?_
    refine lv_aload_n B.1 B.2.1 dL_law_596 rfl (lv_at hl 0 rfl) ?_
    refine lv_iload_n B.1 B.2.1 dL_law_597 rfl (lv_at hl 3 rfl) ?_
    refine x_iconst B dL_law_598 ?_
    refine x_iadd B dL_law_599 ?_
    refine x_sld B h hX hbl hbA 3 (by omega) dL_law_600 ?_
    refine lv_aload_n B.1 B.2.1 dL_law_601 rfl (lv_at hl 0 rfl) ?_
    refine lv_iload_n B.1 B.2.1 dL_law_602 rfl (lv_at hl 3 rfl) ?_
    refine x_iconst B dL_law_603 ?_
    refine x_iadd B dL_law_604 ?_
    refine x_sld B h hX hbl hbA 4 (by omega) dL_law_605 ?_
    refine x_cVF (wa := cW0 ca ad) B h kX11 0 (a := ad 0) rfl k_X11_reads rfl (c_X11_reads l D ca _ ad (fun k x hk => hk) ((xs 1).toInt) ((xs 2).toInt) ((xs 3).toInt) ((xs 4).toInt) (by omega) (by omega) (by omega) (by omega)) m_874 rfl (by decide) hl.1 [] (Nat.le_of_ble_eq_true rfl) rfl dL_law_606 (fun r w1 hq H locs h => ?_)
    obtain ⟨zx, rfl, hzx⟩ := hq
    show W p l e room_1 s m #[Value.ref b] below meth c H locs 87 35823 (lw_Z below #[Value.ref b] s) (F0 m 609 ls [.int (iI zx)])
    refine lv_aload_n B.1 B.2.1 dL_law_609 rfl (lv_at hl 2 rfl) ?_
    refine lv_aload_n B.1 B.2.1 dL_law_610 rfl (lv_at hl 0 rfl) ?_
    refine lv_iload_n B.1 B.2.1 dL_law_611 rfl (lv_at hl 3 rfl) ?_
    refine x_iconst B dL_law_612 ?_
    refine x_iadd B dL_law_613 ?_
    refine x_sld B h hX hbl hbA 1 (by omega) dL_law_614 ?_
    refine lv_aload_n B.1 B.2.1 dL_law_615 rfl (lv_at hl 0 rfl) ?_
    refine lv_iload_n B.1 B.2.1 dL_law_616 rfl (lv_at hl 3 rfl) ?_
    refine x_iconst B dL_law_617 ?_
    refine x_iadd B dL_law_618 ?_
    refine x_sld B h hX hbl hbA 2 (by omega) dL_law_619 ?_
    refine lv_aload_n B.1 B.2.1 dL_law_620 rfl (lv_at hl 0 rfl) ?_
    refine lv_iload_n B.1 B.2.1 dL_law_621 rfl (lv_at hl 3 rfl) ?_
    refine x_iconst B dL_law_622 ?_
    refine x_iadd B dL_law_623 ?_
    refine x_sld B h hX hbl hbA 3 (by omega) dL_law_624 ?_
    refine lv_aload_n B.1 B.2.1 dL_law_625 rfl (lv_at hl 0 rfl) ?_
    refine lv_iload_n B.1 B.2.1 dL_law_626 rfl (lv_at hl 3 rfl) ?_
    refine x_iconst B dL_law_627 ?_
    refine x_iadd B dL_law_628 ?_
    refine x_sld B h hX hbl hbA 4 (by omega) dL_law_629 ?_
    have h := xH.swap h
    refine x_cVF (wa := cM0 ca am) B h kX12 0 (a := am 0) rfl k_X12_reads_ rfl (c_X12_reads_ l D ca _ ((xs 1).toInt) ((xs 2).toInt) ((xs 3).toInt) ((xs 4).toInt) am rfl (by omega) (by omega) (by omega) (by omega)) m_1659 rfl (by decide) hl.1 [.int (iI zx)] (Nat.le_of_ble_eq_true rfl) rfl dL_law_630 (fun r w1 hq H locs h => ?_)
    obtain ⟨zm, rfl, hzm⟩ := hq
    show W p l e room_1 s m #[Value.ref b] below meth c H locs 87 35823 (lw_Z below #[Value.ref b] s) (F0 m 633 ls [.int (iI zm), .int (iI zx)])
    have heq : zx = zm := by
      by_cases hC : ((0 ≤ ((xs 1).toInt) ∧ ((xs 1).toInt) ≤ 9) ∧ (0 ≤ ((xs 2).toInt) ∧ ((xs 2).toInt) ≤ 2) ∧ (0 ≤ ((xs 3).toInt) ∧ ((xs 3).toInt) ≤ 99) ∧ (0 ≤ ((xs 4).toInt) ∧ ((xs 4).toInt) ≤ 39))
      · have a := hzx.1 hC; have b := hzm.1 hC; omega
      · have a := hzx.2 hC; have b := hzm.2 hC; omega
    have hr : xr zx ∧ xr zm := by
      by_cases hC : ((0 ≤ ((xs 1).toInt) ∧ ((xs 1).toInt) ≤ 9) ∧ (0 ≤ ((xs 2).toInt) ∧ ((xs 2).toInt) ≤ 2) ∧ (0 ≤ ((xs 3).toInt) ∧ ((xs 3).toInt) ≤ 99) ∧ (0 ≤ ((xs 4).toInt) ∧ ((xs 4).toInt) ≤ 39))
      · have a := hzx.1 hC; have b := hzm.1 hC; omega
      · have a := hzx.2 hC; have b := hzm.2 hC; omega
    refine x_icmp_eq B hr (tgt := 1368) dL_law_633 (by decide) (fun cq => ?_) (fun cq => ?_)
    · exact fin _ _ _ _ h (lv_sub hl [0, 3] rfl) (by decide) (by decide)
    · exact absurd heq cq
  by_cases t12 : sw = 12
  · refine x_tin B (tgt := 638) 12 (by omega) dL_law_33 rfl (by decide) ?_
    skip
    refine lv_aload_n B.1 B.2.1 dL_law_638 rfl (lv_at hl 1 rfl) ?_
    refine lv_aload_n B.1 B.2.1 dL_law_639 rfl (lv_at hl 0 rfl) ?_
    refine lv_iload_n B.1 B.2.1 dL_law_640 rfl (lv_at hl 3 rfl) ?_
    refine x_iconst B dL_law_641 ?_
    refine x_iadd B dL_law_642 ?_
    refine x_sld B h hX hbl hbA 1 (by omega) dL_law_643 ?_
    refine lv_aload_n B.1 B.2.1 dL_law_644 rfl (lv_at hl 0 rfl) ?_
    refine lv_iload_n B.1 B.2.1 dL_law_645 rfl (lv_at hl 3 rfl) ?_
    refine x_iconst B dL_law_646 ?_
    refine x_iadd B dL_law_647 ?_
    refine x_sld B h hX hbl hbA 2 (by omega) dL_law_648 ?_
    refine lv_aload_n B.1 B.2.1 dL_law_649 rfl (lv_at hl 0 rfl) ?_
    refine lv_iload_n B.1 B.2.1 dL_law_650 rfl (lv_at hl 3 rfl) ?_
    refine x_iconst B dL_law_651 ?_
    refine x_iadd B dL_law_652 ?_
    refine x_sld B h hX hbl hbA 3 (by omega) dL_law_653 ?_
    refine lv_aload_n B.1 B.2.1 dL_law_654 rfl (lv_at hl 0 rfl) ?_
    refine lv_iload_n B.1 B.2.1 dL_law_655 rfl (lv_at hl 3 rfl) ?_
    refine x_iconst B dL_law_656 ?_
    refine x_iadd B dL_law_657 ?_
    refine x_sld B h hX hbl hbA 4 (by omega) dL_law_658 ?_
    refine lv_aload_n B.1 B.2.1 dL_law_659 rfl (lv_at hl 0 rfl) ?_
    refine lv_iload_n B.1 B.2.1 dL_law_660 rfl (lv_at hl 3 rfl) ?_
    refine x_iconst B dL_law_661 ?_
    refine x_iadd B dL_law_662 ?_
    refine x_sld B h hX hbl hbA 5 (by omega) dL_law_663 ?_
    refine x_cVF (wa := cW0 ca ad) B h kX11 0 (a := ad 0) rfl k_X11_blow rfl (c_X11_blow l D ca _ ad (fun k x hk => hk) ((xs 1).toInt) ((xs 2).toInt) ((xs 3).toInt) ((xs 4).toInt) ((xs 5).toInt) (by omega) (by omega) (by omega) (by omega) (by omega)) m_908 rfl (by decide) hl.1 [] (Nat.le_of_ble_eq_true rfl) rfl dL_law_664 (fun r w1 hq H locs h => ?_)
    obtain ⟨zx, rfl, hzx⟩ := hq
    show W p l e room_1 s m #[Value.ref b] below meth c H locs 87 35823 (lw_Z below #[Value.ref b] s) (F0 m 667 ls [.int (iI zx)])
    refine lv_aload_n B.1 B.2.1 dL_law_667 rfl (lv_at hl 2 rfl) ?_
    refine lv_aload_n B.1 B.2.1 dL_law_668 rfl (lv_at hl 0 rfl) ?_
    refine lv_iload_n B.1 B.2.1 dL_law_669 rfl (lv_at hl 3 rfl) ?_
    refine x_iconst B dL_law_670 ?_
    refine x_iadd B dL_law_671 ?_
    refine x_sld B h hX hbl hbA 1 (by omega) dL_law_672 ?_
    refine lv_aload_n B.1 B.2.1 dL_law_673 rfl (lv_at hl 0 rfl) ?_
    refine lv_iload_n B.1 B.2.1 dL_law_674 rfl (lv_at hl 3 rfl) ?_
    refine x_iconst B dL_law_675 ?_
    refine x_iadd B dL_law_676 ?_
    refine x_sld B h hX hbl hbA 2 (by omega) dL_law_677 ?_
    refine lv_aload_n B.1 B.2.1 dL_law_678 rfl (lv_at hl 0 rfl) ?_
    refine lv_iload_n B.1 B.2.1 dL_law_679 rfl (lv_at hl 3 rfl) ?_
    refine x_iconst B dL_law_680 ?_
    refine x_iadd B dL_law_681 ?_
    refine x_sld B h hX hbl hbA 3 (by omega) dL_law_682 ?_
    refine lv_aload_n B.1 B.2.1 dL_law_683 rfl (lv_at hl 0 rfl) ?_
    refine lv_iload_n B.1 B.2.1 dL_law_684 rfl (lv_at hl 3 rfl) ?_
    refine x_iconst B dL_law_685 ?_
    refine x_iadd B dL_law_686 ?_
    refine x_sld B h hX hbl hbA 4 (by omega) dL_law_687 ?_
    refine lv_aload_n B.1 B.2.1 dL_law_688 rfl (lv_at hl 0 rfl) ?_
    refine lv_iload_n B.1 B.2.1 dL_law_689 rfl (lv_at hl 3 rfl) ?_
    refine x_iconst B dL_law_690 ?_
    refine x_iadd B dL_law_691 ?_
    refine x_sld B h hX hbl hbA 5 (by omega) dL_law_692 ?_
    have h := xH.swap h
    refine x_cVF (wa := cM0 ca am) B h kX12 0 (a := am 0) rfl k_X12_blow rfl (c_X12_blow l D ca _ ((xs 1).toInt) ((xs 2).toInt) ((xs 3).toInt) ((xs 4).toInt) ((xs 5).toInt) am rfl (by omega) (by omega) (by omega) (by omega) (by omega)) m_1679 rfl (by decide) hl.1 [.int (iI zx)] (Nat.le_of_ble_eq_true rfl) rfl dL_law_693 (fun r w1 hq H locs h => ?_)
    obtain ⟨zm, rfl, hzm⟩ := hq
    show W p l e room_1 s m #[Value.ref b] below meth c H locs 87 35823 (lw_Z below #[Value.ref b] s) (F0 m 696 ls [.int (iI zm), .int (iI zx)])
    have heq : zx = zm := by
      omega
    have hr : xr zx ∧ xr zm := by
      omega
    refine x_icmp_eq B hr (tgt := 1368) dL_law_696 (by decide) (fun cq => ?_) (fun cq => ?_)
    · exact fin _ _ _ _ h (lv_sub hl [0, 3] rfl) (by decide) (by decide)
    · exact absurd heq cq
  by_cases t13 : sw = 13
  · refine x_tin B (tgt := 701) 13 (by omega) dL_law_33 rfl (by decide) ?_
    skip
    refine lv_aload_n B.1 B.2.1 dL_law_701 rfl (lv_at hl 1 rfl) ?_
    refine lv_aload_n B.1 B.2.1 dL_law_702 rfl (lv_at hl 0 rfl) ?_
    refine lv_iload_n B.1 B.2.1 dL_law_703 rfl (lv_at hl 3 rfl) ?_
    refine x_iconst B dL_law_704 ?_
    refine x_iadd B dL_law_705 ?_
    refine x_sld B h hX hbl hbA 1 (by omega) dL_law_706 ?_
    refine lv_aload_n B.1 B.2.1 dL_law_707 rfl (lv_at hl 0 rfl) ?_
    refine lv_iload_n B.1 B.2.1 dL_law_708 rfl (lv_at hl 3 rfl) ?_
    refine x_iconst B dL_law_709 ?_
    refine x_iadd B dL_law_710 ?_
    refine x_sld B h hX hbl hbA 2 (by omega) dL_law_711 ?_
    refine lv_aload_n B.1 B.2.1 dL_law_712 rfl (lv_at hl 0 rfl) ?_
    refine lv_iload_n B.1 B.2.1 dL_law_713 rfl (lv_at hl 3 rfl) ?_
    refine x_iconst B dL_law_714 ?_
    refine x_iadd B dL_law_715 ?_
    refine x_sld B h hX hbl hbA 3 (by omega) dL_law_716 ?_
    refine lv_aload_n B.1 B.2.1 dL_law_717 rfl (lv_at hl 0 rfl) ?_
    refine lv_iload_n B.1 B.2.1 dL_law_718 rfl (lv_at hl 3 rfl) ?_
    refine x_iconst B dL_law_719 ?_
    refine x_iadd B dL_law_720 ?_
    refine x_sld B h hX hbl hbA 4 (by omega) dL_law_721 ?_
    refine lv_aload_n B.1 B.2.1 dL_law_722 rfl (lv_at hl 0 rfl) ?_
    refine lv_iload_n B.1 B.2.1 dL_law_723 rfl (lv_at hl 3 rfl) ?_
    refine x_iconst B dL_law_724 ?_
    refine x_iadd B dL_law_725 ?_
    refine x_sld B h hX hbl hbA 5 (by omega) dL_law_726 ?_
    refine x_cVF (wa := cW0 ca ad) B h kX11 0 (a := ad 0) rfl k_X11_run rfl (c_X11_run l D ca _ ad (fun k x hk => hk) ((xs 1).toInt) ((xs 2).toInt) ((xs 3).toInt) ((xs 4).toInt) ((xs 5).toInt) (by omega) (by omega) (by omega) (by omega) (by omega)) m_925 rfl (by decide) hl.1 [] (Nat.le_of_ble_eq_true rfl) rfl dL_law_727 (fun r w1 hq H locs h => ?_)
    obtain ⟨zx, rfl, hzx⟩ := hq
    show W p l e room_1 s m #[Value.ref b] below meth c H locs 87 35823 (lw_Z below #[Value.ref b] s) (F0 m 730 ls [.int (iI zx)])
    refine lv_aload_n B.1 B.2.1 dL_law_730 rfl (lv_at hl 2 rfl) ?_
    refine lv_aload_n B.1 B.2.1 dL_law_731 rfl (lv_at hl 0 rfl) ?_
    refine lv_iload_n B.1 B.2.1 dL_law_732 rfl (lv_at hl 3 rfl) ?_
    refine x_iconst B dL_law_733 ?_
    refine x_iadd B dL_law_734 ?_
    refine x_sld B h hX hbl hbA 1 (by omega) dL_law_735 ?_
    refine lv_aload_n B.1 B.2.1 dL_law_736 rfl (lv_at hl 0 rfl) ?_
    refine lv_iload_n B.1 B.2.1 dL_law_737 rfl (lv_at hl 3 rfl) ?_
    refine x_iconst B dL_law_738 ?_
    refine x_iadd B dL_law_739 ?_
    refine x_sld B h hX hbl hbA 2 (by omega) dL_law_740 ?_
    refine lv_aload_n B.1 B.2.1 dL_law_741 rfl (lv_at hl 0 rfl) ?_
    refine lv_iload_n B.1 B.2.1 dL_law_742 rfl (lv_at hl 3 rfl) ?_
    refine x_iconst B dL_law_743 ?_
    refine x_iadd B dL_law_744 ?_
    refine x_sld B h hX hbl hbA 3 (by omega) dL_law_745 ?_
    refine lv_aload_n B.1 B.2.1 dL_law_746 rfl (lv_at hl 0 rfl) ?_
    refine lv_iload_n B.1 B.2.1 dL_law_747 rfl (lv_at hl 3 rfl) ?_
    refine x_iconst B dL_law_748 ?_
    refine x_iadd B dL_law_749 ?_
    refine x_sld B h hX hbl hbA 4 (by omega) dL_law_750 ?_
    refine lv_aload_n B.1 B.2.1 dL_law_751 rfl (lv_at hl 0 rfl) ?_
    refine lv_iload_n B.1 B.2.1 dL_law_752 rfl (lv_at hl 3 rfl) ?_
    refine x_iconst B dL_law_753 ?_
    refine x_iadd B dL_law_754 ?_
    refine x_sld B h hX hbl hbA 5 (by omega) dL_law_755 ?_
    have h := xH.swap h
    refine x_cVF (wa := cM0 ca am) B h kX12 0 (a := am 0) rfl k_X12_run rfl (c_X12_run l D ca _ ((xs 1).toInt) ((xs 2).toInt) ((xs 3).toInt) ((xs 4).toInt) ((xs 5).toInt) am rfl (by omega) (by omega) (by omega) (by omega) (by omega)) m_1694 rfl (by decide) hl.1 [.int (iI zx)] (Nat.le_of_ble_eq_true rfl) rfl dL_law_756 (fun r w1 hq H locs h => ?_)
    obtain ⟨zm, rfl, hzm⟩ := hq
    show W p l e room_1 s m #[Value.ref b] below meth c H locs 87 35823 (lw_Z below #[Value.ref b] s) (F0 m 759 ls [.int (iI zm), .int (iI zx)])
    have heq : zx = zm := by
      omega
    have hr : xr zx ∧ xr zm := by
      omega
    refine x_icmp_eq B hr (tgt := 1368) dL_law_759 (by decide) (fun cq => ?_) (fun cq => ?_)
    · exact fin _ _ _ _ h (lv_sub hl [0, 3] rfl) (by decide) (by decide)
    · exact absurd heq cq
  by_cases t14 : sw = 14
  · refine x_tin B (tgt := 764) 14 (by omega) dL_law_33 rfl (by decide) ?_
    skip
    refine lv_aload_n B.1 B.2.1 dL_law_764 rfl (lv_at hl 1 rfl) ?_
    refine lv_aload_n B.1 B.2.1 dL_law_765 rfl (lv_at hl 0 rfl) ?_
    refine lv_iload_n B.1 B.2.1 dL_law_766 rfl (lv_at hl 3 rfl) ?_
    refine x_iconst B dL_law_767 ?_
    refine x_iadd B dL_law_768 ?_
    refine x_sld B h hX hbl hbA 1 (by omega) dL_law_769 ?_
    refine lv_aload_n B.1 B.2.1 dL_law_770 rfl (lv_at hl 0 rfl) ?_
    refine lv_iload_n B.1 B.2.1 dL_law_771 rfl (lv_at hl 3 rfl) ?_
    refine x_iconst B dL_law_772 ?_
    refine x_iadd B dL_law_773 ?_
    refine x_sld B h hX hbl hbA 2 (by omega) dL_law_774 ?_
    refine lv_aload_n B.1 B.2.1 dL_law_775 rfl (lv_at hl 0 rfl) ?_
    refine lv_iload_n B.1 B.2.1 dL_law_776 rfl (lv_at hl 3 rfl) ?_
    refine x_iconst B dL_law_777 ?_
    refine x_iadd B dL_law_778 ?_
    refine x_sld B h hX hbl hbA 3 (by omega) dL_law_779 ?_
    refine lv_aload_n B.1 B.2.1 dL_law_780 rfl (lv_at hl 0 rfl) ?_
    refine lv_iload_n B.1 B.2.1 dL_law_781 rfl (lv_at hl 3 rfl) ?_
    refine x_iconst B dL_law_782 ?_
    refine x_iadd B dL_law_783 ?_
    refine x_sld B h hX hbl hbA 4 (by omega) dL_law_784 ?_
    refine lv_aload_n B.1 B.2.1 dL_law_785 rfl (lv_at hl 0 rfl) ?_
    refine lv_iload_n B.1 B.2.1 dL_law_786 rfl (lv_at hl 3 rfl) ?_
    refine x_iconst B dL_law_787 ?_
    refine x_iadd B dL_law_788 ?_
    refine x_sld B h hX hbl hbA 5 (by omega) dL_law_789 ?_
    refine x_cVF (wa := cW0 ca ad) B h kX11 0 (a := ad 0) rfl k_X11_column rfl (c_X11_column l D ca _ ad (fun k x hk => hk) ((xs 1).toInt) ((xs 2).toInt) ((xs 3).toInt) ((xs 4).toInt) ((xs 5).toInt) (by omega) (by omega) (by omega) (by omega) (by omega)) m_943 rfl (by decide) hl.1 [] (Nat.le_of_ble_eq_true rfl) rfl dL_law_790 (fun r w1 hq H locs h => ?_)
    obtain ⟨zx, rfl, hzx⟩ := hq
    show W p l e room_1 s m #[Value.ref b] below meth c H locs 87 35823 (lw_Z below #[Value.ref b] s) (F0 m 793 ls [.int (iI zx)])
    refine lv_aload_n B.1 B.2.1 dL_law_793 rfl (lv_at hl 2 rfl) ?_
    refine lv_aload_n B.1 B.2.1 dL_law_794 rfl (lv_at hl 0 rfl) ?_
    refine lv_iload_n B.1 B.2.1 dL_law_795 rfl (lv_at hl 3 rfl) ?_
    refine x_iconst B dL_law_796 ?_
    refine x_iadd B dL_law_797 ?_
    refine x_sld B h hX hbl hbA 1 (by omega) dL_law_798 ?_
    refine lv_aload_n B.1 B.2.1 dL_law_799 rfl (lv_at hl 0 rfl) ?_
    refine lv_iload_n B.1 B.2.1 dL_law_800 rfl (lv_at hl 3 rfl) ?_
    refine x_iconst B dL_law_801 ?_
    refine x_iadd B dL_law_802 ?_
    refine x_sld B h hX hbl hbA 2 (by omega) dL_law_803 ?_
    refine lv_aload_n B.1 B.2.1 dL_law_804 rfl (lv_at hl 0 rfl) ?_
    refine lv_iload_n B.1 B.2.1 dL_law_805 rfl (lv_at hl 3 rfl) ?_
    refine x_iconst B dL_law_806 ?_
    refine x_iadd B dL_law_807 ?_
    refine x_sld B h hX hbl hbA 3 (by omega) dL_law_808 ?_
    refine lv_aload_n B.1 B.2.1 dL_law_809 rfl (lv_at hl 0 rfl) ?_
    refine lv_iload_n B.1 B.2.1 dL_law_810 rfl (lv_at hl 3 rfl) ?_
    refine x_iconst B dL_law_811 ?_
    refine x_iadd B dL_law_812 ?_
    refine x_sld B h hX hbl hbA 4 (by omega) dL_law_813 ?_
    refine lv_aload_n B.1 B.2.1 dL_law_814 rfl (lv_at hl 0 rfl) ?_
    refine lv_iload_n B.1 B.2.1 dL_law_815 rfl (lv_at hl 3 rfl) ?_
    refine x_iconst B dL_law_816 ?_
    refine x_iadd B dL_law_817 ?_
    refine x_sld B h hX hbl hbA 5 (by omega) dL_law_818 ?_
    have h := xH.swap h
    refine x_cVF (wa := cM0 ca am) B h kX12 0 (a := am 0) rfl k_X12_column rfl (c_X12_column l D ca _ ((xs 1).toInt) ((xs 2).toInt) ((xs 3).toInt) ((xs 4).toInt) ((xs 5).toInt) am rfl rfl rfl (by omega) (by omega) (by omega) (by omega) (by omega)) m_1703 rfl (by decide) hl.1 [.int (iI zx)] (Nat.le_of_ble_eq_true rfl) rfl dL_law_819 (fun r w1 hq H locs h => ?_)
    obtain ⟨zm, rfl, hzm⟩ := hq
    show W p l e room_1 s m #[Value.ref b] below meth c H locs 87 35823 (lw_Z below #[Value.ref b] s) (F0 m 822 ls [.int (iI zm), .int (iI zx)])
    have heq : zx = zm := by
      omega
    have hr : xr zx ∧ xr zm := by
      omega
    refine x_icmp_eq B hr (tgt := 1368) dL_law_822 (by decide) (fun cq => ?_) (fun cq => ?_)
    · exact fin _ _ _ _ h (lv_sub hl [0, 3] rfl) (by decide) (by decide)
    · exact absurd heq cq
  by_cases t15 : sw = 15
  · refine x_tin B (tgt := 827) 15 (by omega) dL_law_33 rfl (by decide) ?_
    skip
    refine lv_aload_n B.1 B.2.1 dL_law_827 rfl (lv_at hl 1 rfl) ?_
    refine lv_aload_n B.1 B.2.1 dL_law_828 rfl (lv_at hl 0 rfl) ?_
    refine lv_iload_n B.1 B.2.1 dL_law_829 rfl (lv_at hl 3 rfl) ?_
    refine x_iconst B dL_law_830 ?_
    refine x_iadd B dL_law_831 ?_
    refine x_sld B h hX hbl hbA 1 (by omega) dL_law_832 ?_
    refine lv_aload_n B.1 B.2.1 dL_law_833 rfl (lv_at hl 0 rfl) ?_
    refine lv_iload_n B.1 B.2.1 dL_law_834 rfl (lv_at hl 3 rfl) ?_
    refine x_iconst B dL_law_835 ?_
    refine x_iadd B dL_law_836 ?_
    refine x_sld B h hX hbl hbA 2 (by omega) dL_law_837 ?_
    refine lv_aload_n B.1 B.2.1 dL_law_838 rfl (lv_at hl 0 rfl) ?_
    refine lv_iload_n B.1 B.2.1 dL_law_839 rfl (lv_at hl 3 rfl) ?_
    refine x_iconst B dL_law_840 ?_
    refine x_iadd B dL_law_841 ?_
    refine x_sld B h hX hbl hbA 3 (by omega) dL_law_842 ?_
    refine lv_aload_n B.1 B.2.1 dL_law_843 rfl (lv_at hl 0 rfl) ?_
    refine lv_iload_n B.1 B.2.1 dL_law_844 rfl (lv_at hl 3 rfl) ?_
    refine x_iconst B dL_law_845 ?_
    refine x_iadd B dL_law_846 ?_
    refine x_sld B h hX hbl hbA 4 (by omega) dL_law_847 ?_
    refine lv_aload_n B.1 B.2.1 dL_law_848 rfl (lv_at hl 0 rfl) ?_
    refine lv_iload_n B.1 B.2.1 dL_law_849 rfl (lv_at hl 3 rfl) ?_
    refine x_iconst B dL_law_850 ?_
    refine x_iadd B dL_law_851 ?_
    refine x_sld B h hX hbl hbA 5 (by omega) dL_law_852 ?_
    refine x_cVF (wa := cW0 ca ad) B h kX11 0 (a := ad 0) rfl k_X11_turn rfl (c_X11_turn l D ca _ ad (fun k x hk => hk) ((xs 1).toInt) ((xs 2).toInt) ((xs 3).toInt) ((xs 4).toInt) ((xs 5).toInt) (by omega) (by omega) (by omega) (by omega) (by omega)) m_953 rfl (by decide) hl.1 [] (Nat.le_of_ble_eq_true rfl) rfl dL_law_853 (fun r w1 hq H locs h => ?_)
    obtain ⟨zx, rfl, hzx⟩ := hq
    show W p l e room_1 s m #[Value.ref b] below meth c H locs 87 35823 (lw_Z below #[Value.ref b] s) (F0 m 856 ls [.int (iI zx)])
    refine lv_aload_n B.1 B.2.1 dL_law_856 rfl (lv_at hl 2 rfl) ?_
    refine lv_aload_n B.1 B.2.1 dL_law_857 rfl (lv_at hl 0 rfl) ?_
    refine lv_iload_n B.1 B.2.1 dL_law_858 rfl (lv_at hl 3 rfl) ?_
    refine x_iconst B dL_law_859 ?_
    refine x_iadd B dL_law_860 ?_
    refine x_sld B h hX hbl hbA 1 (by omega) dL_law_861 ?_
    refine lv_aload_n B.1 B.2.1 dL_law_862 rfl (lv_at hl 0 rfl) ?_
    refine lv_iload_n B.1 B.2.1 dL_law_863 rfl (lv_at hl 3 rfl) ?_
    refine x_iconst B dL_law_864 ?_
    refine x_iadd B dL_law_865 ?_
    refine x_sld B h hX hbl hbA 2 (by omega) dL_law_866 ?_
    refine lv_aload_n B.1 B.2.1 dL_law_867 rfl (lv_at hl 0 rfl) ?_
    refine lv_iload_n B.1 B.2.1 dL_law_868 rfl (lv_at hl 3 rfl) ?_
    refine x_iconst B dL_law_869 ?_
    refine x_iadd B dL_law_870 ?_
    refine x_sld B h hX hbl hbA 3 (by omega) dL_law_871 ?_
    refine lv_aload_n B.1 B.2.1 dL_law_872 rfl (lv_at hl 0 rfl) ?_
    refine lv_iload_n B.1 B.2.1 dL_law_873 rfl (lv_at hl 3 rfl) ?_
    refine x_iconst B dL_law_874 ?_
    refine x_iadd B dL_law_875 ?_
    refine x_sld B h hX hbl hbA 4 (by omega) dL_law_876 ?_
    refine lv_aload_n B.1 B.2.1 dL_law_877 rfl (lv_at hl 0 rfl) ?_
    refine lv_iload_n B.1 B.2.1 dL_law_878 rfl (lv_at hl 3 rfl) ?_
    refine x_iconst B dL_law_879 ?_
    refine x_iadd B dL_law_880 ?_
    refine x_sld B h hX hbl hbA 5 (by omega) dL_law_881 ?_
    have h := xH.swap h
    refine x_cVF (wa := cM0 ca am) B h kX12 0 (a := am 0) rfl k_X12_turn rfl (c_X12_turn l D ca _ ((xs 1).toInt) ((xs 2).toInt) ((xs 3).toInt) ((xs 4).toInt) ((xs 5).toInt) am rfl rfl (by omega) (by omega) (by omega) (by omega) (by omega)) m_1711 rfl (by decide) hl.1 [.int (iI zx)] (Nat.le_of_ble_eq_true rfl) rfl dL_law_882 (fun r w1 hq H locs h => ?_)
    obtain ⟨zm, rfl, hzm⟩ := hq
    show W p l e room_1 s m #[Value.ref b] below meth c H locs 87 35823 (lw_Z below #[Value.ref b] s) (F0 m 885 ls [.int (iI zm), .int (iI zx)])
    have heq : zx = zm := by
      omega
    have hr : xr zx ∧ xr zm := by
      omega
    refine x_icmp_eq B hr (tgt := 1368) dL_law_885 (by decide) (fun cq => ?_) (fun cq => ?_)
    · exact fin _ _ _ _ h (lv_sub hl [0, 3] rfl) (by decide) (by decide)
    · exact absurd heq cq
  by_cases t16 : sw = 16
  · refine x_tin B (tgt := 890) 16 (by omega) dL_law_33 rfl (by decide) ?_
    skip
    refine lv_aload_n B.1 B.2.1 dL_law_890 rfl (lv_at hl 1 rfl) ?_
    refine x_cVF (wa := cW0 ca ad) B h kX11 0 (a := ad 0) rfl k_X11_tight rfl (c_X11_tight l D ca _ ad (fun k x hk => hk)  ) m_967 rfl (by decide) hl.1 [] (Nat.le_of_ble_eq_true rfl) rfl dL_law_891 (fun r w1 hq H locs h => ?_)
    obtain ⟨zx, rfl, hzx⟩ := hq
    show W p l e room_1 s m #[Value.ref b] below meth c H locs 87 35823 (lw_Z below #[Value.ref b] s) (F0 m 894 ls [.int (iI zx)])
    refine lv_aload_n B.1 B.2.1 dL_law_894 rfl (lv_at hl 2 rfl) ?_
    have h := xH.swap h
    refine x_cVF (wa := cM0 ca am) B h kX12 0 (a := am 0) rfl k_X12_tight rfl (c_X12_tight l D ca _ am rfl rfl ) m_1719 rfl (by decide) hl.1 [.int (iI zx)] (Nat.le_of_ble_eq_true rfl) rfl dL_law_895 (fun r w1 hq H locs h => ?_)
    obtain ⟨zm, rfl, hzm⟩ := hq
    show W p l e room_1 s m #[Value.ref b] below meth c H locs 87 35823 (lw_Z below #[Value.ref b] s) (F0 m 898 ls [.int (iI zm), .int (iI zx)])
    have heq : zx = zm := by
      omega
    have hr : xr zx ∧ xr zm := by
      omega
    refine x_icmp_eq B hr (tgt := 1368) dL_law_898 (by decide) (fun cq => ?_) (fun cq => ?_)
    · exact fin _ _ _ _ h (lv_sub hl [0, 3] rfl) (by decide) (by decide)
    · exact absurd heq cq
  by_cases t17 : sw = 17
  · refine x_tin B (tgt := 903) 17 (by omega) dL_law_33 rfl (by decide) ?_
    skip
    refine lv_aload_n B.1 B.2.1 dL_law_903 rfl (lv_at hl 1 rfl) ?_
    refine lv_aload_n B.1 B.2.1 dL_law_904 rfl (lv_at hl 0 rfl) ?_
    refine lv_iload_n B.1 B.2.1 dL_law_905 rfl (lv_at hl 3 rfl) ?_
    refine x_iconst B dL_law_906 ?_
    refine x_iadd B dL_law_907 ?_
    refine x_sld B h hX hbl hbA 1 (by omega) dL_law_908 ?_
    refine lv_aload_n B.1 B.2.1 dL_law_909 rfl (lv_at hl 0 rfl) ?_
    refine lv_iload_n B.1 B.2.1 dL_law_910 rfl (lv_at hl 3 rfl) ?_
    refine x_iconst B dL_law_911 ?_
    refine x_iadd B dL_law_912 ?_
    refine x_sld B h hX hbl hbA 2 (by omega) dL_law_913 ?_
    refine x_cVF (wa := cW0 ca ad) B h kX11 0 (a := ad 0) rfl k_X11_lean rfl (c_X11_lean l D ca _ ad (fun k x hk => hk) ((xs 1).toInt) ((xs 2).toInt) (by omega) (by omega)) m_1030 rfl (by decide) hl.1 [] (Nat.le_of_ble_eq_true rfl) rfl dL_law_914 (fun r w1 hq H locs h => ?_)
    obtain ⟨zx, rfl, hzx⟩ := hq
    show W p l e room_1 s m #[Value.ref b] below meth c H locs 87 35823 (lw_Z below #[Value.ref b] s) (F0 m 917 ls [.int (iI zx)])
    refine lv_aload_n B.1 B.2.1 dL_law_917 rfl (lv_at hl 2 rfl) ?_
    refine lv_aload_n B.1 B.2.1 dL_law_918 rfl (lv_at hl 0 rfl) ?_
    refine lv_iload_n B.1 B.2.1 dL_law_919 rfl (lv_at hl 3 rfl) ?_
    refine x_iconst B dL_law_920 ?_
    refine x_iadd B dL_law_921 ?_
    refine x_sld B h hX hbl hbA 1 (by omega) dL_law_922 ?_
    refine lv_aload_n B.1 B.2.1 dL_law_923 rfl (lv_at hl 0 rfl) ?_
    refine lv_iload_n B.1 B.2.1 dL_law_924 rfl (lv_at hl 3 rfl) ?_
    refine x_iconst B dL_law_925 ?_
    refine x_iadd B dL_law_926 ?_
    refine x_sld B h hX hbl hbA 2 (by omega) dL_law_927 ?_
    have h := xH.swap h
    refine x_cVF (wa := cM0 ca am) B h kX12 0 (a := am 0) rfl k_X12_lean rfl (c_X12_lean l D ca _ ((xs 1).toInt) ((xs 2).toInt) am rfl (by omega) (by omega)) m_1763 rfl (by decide) hl.1 [.int (iI zx)] (Nat.le_of_ble_eq_true rfl) rfl dL_law_928 (fun r w1 hq H locs h => ?_)
    obtain ⟨zm, rfl, hzm⟩ := hq
    show W p l e room_1 s m #[Value.ref b] below meth c H locs 87 35823 (lw_Z below #[Value.ref b] s) (F0 m 931 ls [.int (iI zm), .int (iI zx)])
    have heq : zx = zm := by
      omega
    have hr : xr zx ∧ xr zm := by
      omega
    refine x_icmp_eq B hr (tgt := 1368) dL_law_931 (by decide) (fun cq => ?_) (fun cq => ?_)
    · exact fin _ _ _ _ h (lv_sub hl [0, 3] rfl) (by decide) (by decide)
    · exact absurd heq cq
  by_cases t18 : sw = 18
  · refine x_tin B (tgt := 936) 18 (by omega) dL_law_33 rfl (by decide) ?_
    skip
    refine lv_aload_n B.1 B.2.1 dL_law_936 rfl (lv_at hl 1 rfl) ?_
    refine lv_aload_n B.1 B.2.1 dL_law_937 rfl (lv_at hl 0 rfl) ?_
    refine lv_iload_n B.1 B.2.1 dL_law_938 rfl (lv_at hl 3 rfl) ?_
    refine x_iconst B dL_law_939 ?_
    refine x_iadd B dL_law_940 ?_
    refine x_sld B h hX hbl hbA 1 (by omega) dL_law_941 ?_
    refine lv_aload_n B.1 B.2.1 dL_law_942 rfl (lv_at hl 0 rfl) ?_
    refine lv_iload_n B.1 B.2.1 dL_law_943 rfl (lv_at hl 3 rfl) ?_
    refine x_iconst B dL_law_944 ?_
    refine x_iadd B dL_law_945 ?_
    refine x_sld B h hX hbl hbA 2 (by omega) dL_law_946 ?_
    refine lv_aload_n B.1 B.2.1 dL_law_947 rfl (lv_at hl 0 rfl) ?_
    refine lv_iload_n B.1 B.2.1 dL_law_948 rfl (lv_at hl 3 rfl) ?_
    refine x_iconst B dL_law_949 ?_
    refine x_iadd B dL_law_950 ?_
    refine x_sld B h hX hbl hbA 3 (by omega) dL_law_951 ?_
    refine x_cVF (wa := cW0 ca ad) B h kX11 0 (a := ad 0) rfl k_X11_liked rfl (c_X11_liked l D ca _ ad (fun k x hk => hk) ((xs 1).toInt) ((xs 2).toInt) ((xs 3).toInt) (by omega) (by omega) (by omega)) m_1042 rfl (by decide) hl.1 [] (Nat.le_of_ble_eq_true rfl) rfl dL_law_952 (fun r w1 hq H locs h => ?_)
    obtain ⟨zx, rfl, hzx⟩ := hq
    show W p l e room_1 s m #[Value.ref b] below meth c H locs 87 35823 (lw_Z below #[Value.ref b] s) (F0 m 955 ls [.int (iI zx)])
    refine lv_aload_n B.1 B.2.1 dL_law_955 rfl (lv_at hl 2 rfl) ?_
    refine lv_aload_n B.1 B.2.1 dL_law_956 rfl (lv_at hl 0 rfl) ?_
    refine lv_iload_n B.1 B.2.1 dL_law_957 rfl (lv_at hl 3 rfl) ?_
    refine x_iconst B dL_law_958 ?_
    refine x_iadd B dL_law_959 ?_
    refine x_sld B h hX hbl hbA 1 (by omega) dL_law_960 ?_
    refine lv_aload_n B.1 B.2.1 dL_law_961 rfl (lv_at hl 0 rfl) ?_
    refine lv_iload_n B.1 B.2.1 dL_law_962 rfl (lv_at hl 3 rfl) ?_
    refine x_iconst B dL_law_963 ?_
    refine x_iadd B dL_law_964 ?_
    refine x_sld B h hX hbl hbA 2 (by omega) dL_law_965 ?_
    refine lv_aload_n B.1 B.2.1 dL_law_966 rfl (lv_at hl 0 rfl) ?_
    refine lv_iload_n B.1 B.2.1 dL_law_967 rfl (lv_at hl 3 rfl) ?_
    refine x_iconst B dL_law_968 ?_
    refine x_iadd B dL_law_969 ?_
    refine x_sld B h hX hbl hbA 3 (by omega) dL_law_970 ?_
    have h := xH.swap h
    refine x_cVF (wa := cM0 ca am) B h kX12 0 (a := am 0) rfl k_X12_liked rfl (c_X12_liked l D ca _ ((xs 1).toInt) ((xs 2).toInt) ((xs 3).toInt) am rfl (by omega) (by omega) (by omega)) m_1775 rfl (by decide) hl.1 [.int (iI zx)] (Nat.le_of_ble_eq_true rfl) rfl dL_law_971 (fun r w1 hq H locs h => ?_)
    obtain ⟨zm, rfl, hzm⟩ := hq
    show W p l e room_1 s m #[Value.ref b] below meth c H locs 87 35823 (lw_Z below #[Value.ref b] s) (F0 m 974 ls [.int (iI zm), .int (iI zx)])
    have heq : zx = zm := by
      omega
    have hr : xr zx ∧ xr zm := by
      omega
    refine x_icmp_eq B hr (tgt := 1368) dL_law_974 (by decide) (fun cq => ?_) (fun cq => ?_)
    · exact fin _ _ _ _ h (lv_sub hl [0, 3] rfl) (by decide) (by decide)
    · exact absurd heq cq
  by_cases t19 : sw = 19
  · refine x_tin B (tgt := 979) 19 (by omega) dL_law_33 rfl (by decide) ?_
    skip
    refine lv_aload_n B.1 B.2.1 dL_law_979 rfl (lv_at hl 1 rfl) ?_
    refine lv_aload_n B.1 B.2.1 dL_law_980 rfl (lv_at hl 0 rfl) ?_
    refine lv_iload_n B.1 B.2.1 dL_law_981 rfl (lv_at hl 3 rfl) ?_
    refine x_iconst B dL_law_982 ?_
    refine x_iadd B dL_law_983 ?_
    refine x_sld B h hX hbl hbA 1 (by omega) dL_law_984 ?_
    refine lv_aload_n B.1 B.2.1 dL_law_985 rfl (lv_at hl 0 rfl) ?_
    refine lv_iload_n B.1 B.2.1 dL_law_986 rfl (lv_at hl 3 rfl) ?_
    refine x_iconst B dL_law_987 ?_
    refine x_iadd B dL_law_988 ?_
    refine x_sld B h hX hbl hbA 2 (by omega) dL_law_989 ?_
    refine x_cVF (wa := cW0 ca ad) B h kX11 0 (a := ad 0) rfl k_X11_wind rfl (c_X11_wind l D ca _ ad (fun k x hk => hk) ((xs 1).toInt) ((xs 2).toInt) (by omega) (by omega)) m_1055 rfl (by decide) hl.1 [] (Nat.le_of_ble_eq_true rfl) rfl dL_law_990 (fun r w1 hq H locs h => ?_)
    obtain ⟨zx, rfl, hzx⟩ := hq
    show W p l e room_1 s m #[Value.ref b] below meth c H locs 87 35823 (lw_Z below #[Value.ref b] s) (F0 m 993 ls [.int (iI zx)])
    refine lv_aload_n B.1 B.2.1 dL_law_993 rfl (lv_at hl 2 rfl) ?_
    refine lv_aload_n B.1 B.2.1 dL_law_994 rfl (lv_at hl 0 rfl) ?_
    refine lv_iload_n B.1 B.2.1 dL_law_995 rfl (lv_at hl 3 rfl) ?_
    refine x_iconst B dL_law_996 ?_
    refine x_iadd B dL_law_997 ?_
    refine x_sld B h hX hbl hbA 1 (by omega) dL_law_998 ?_
    refine lv_aload_n B.1 B.2.1 dL_law_999 rfl (lv_at hl 0 rfl) ?_
    refine lv_iload_n B.1 B.2.1 dL_law_1000 rfl (lv_at hl 3 rfl) ?_
    refine x_iconst B dL_law_1001 ?_
    refine x_iadd B dL_law_1002 ?_
    refine x_sld B h hX hbl hbA 2 (by omega) dL_law_1003 ?_
    have h := xH.swap h
    refine x_cVF (wa := cM0 ca am) B h kX12 0 (a := am 0) rfl k_X12_wind rfl (c_X12_wind l D ca _ ((xs 1).toInt) ((xs 2).toInt) am rfl rfl (by omega) (by omega)) m_1784 rfl (by decide) hl.1 [.int (iI zx)] (Nat.le_of_ble_eq_true rfl) rfl dL_law_1004 (fun r w1 hq H locs h => ?_)
    obtain ⟨zm, rfl, hzm⟩ := hq
    show W p l e room_1 s m #[Value.ref b] below meth c H locs 87 35823 (lw_Z below #[Value.ref b] s) (F0 m 1007 ls [.int (iI zm), .int (iI zx)])
    have heq : zx = zm := by
      by_cases hC : ((0 ≤ ((xs 1).toInt) ∧ ((xs 1).toInt) ≤ 9) ∧ ((xs 2).toInt) = 0)
      · have a := hzx.1 hC; have b := hzm.1 hC; omega
      · have a := hzx.2 hC; have b := hzm.2 hC; omega
    have hr : xr zx ∧ xr zm := by
      by_cases hC : ((0 ≤ ((xs 1).toInt) ∧ ((xs 1).toInt) ≤ 9) ∧ ((xs 2).toInt) = 0)
      · have a := hzx.1 hC; have b := hzm.1 hC; omega
      · have a := hzx.2 hC; have b := hzm.2 hC; omega
    refine x_icmp_eq B hr (tgt := 1368) dL_law_1007 (by decide) (fun cq => ?_) (fun cq => ?_)
    · exact fin _ _ _ _ h (lv_sub hl [0, 3] rfl) (by decide) (by decide)
    · exact absurd heq cq
  by_cases t20 : sw = 20
  · refine x_tin B (tgt := 1012) 20 (by omega) dL_law_33 rfl (by decide) ?_
    skip
    refine lv_aload_n B.1 B.2.1 dL_law_1012 rfl (lv_at hl 1 rfl) ?_
    refine lv_aload_n B.1 B.2.1 dL_law_1013 rfl (lv_at hl 0 rfl) ?_
    refine lv_iload_n B.1 B.2.1 dL_law_1014 rfl (lv_at hl 3 rfl) ?_
    refine x_iconst B dL_law_1015 ?_
    refine x_iadd B dL_law_1016 ?_
    refine x_sld B h hX hbl hbA 1 (by omega) dL_law_1017 ?_
    refine x_cVF (wa := cW0 ca ad) B h kX11 0 (a := ad 0) rfl k_X11_grew rfl (c_X11_grew l D ca _ ad (fun k x hk => hk) ((xs 1).toInt) (by omega)) m_1082 rfl (by decide) hl.1 [] (Nat.le_of_ble_eq_true rfl) rfl dL_law_1018 (fun r w1 hq H locs h => ?_)
    obtain ⟨zx, rfl, hzx⟩ := hq
    show W p l e room_1 s m #[Value.ref b] below meth c H locs 87 35823 (lw_Z below #[Value.ref b] s) (F0 m 1021 ls [.int (iI zx)])
    refine lv_aload_n B.1 B.2.1 dL_law_1021 rfl (lv_at hl 2 rfl) ?_
    refine lv_aload_n B.1 B.2.1 dL_law_1022 rfl (lv_at hl 0 rfl) ?_
    refine lv_iload_n B.1 B.2.1 dL_law_1023 rfl (lv_at hl 3 rfl) ?_
    refine x_iconst B dL_law_1024 ?_
    refine x_iadd B dL_law_1025 ?_
    refine x_sld B h hX hbl hbA 1 (by omega) dL_law_1026 ?_
    have h := xH.swap h
    refine x_cVF (wa := cM0 ca am) B h kX12 0 (a := am 0) rfl k_X12_grew rfl (c_X12_grew l D ca _ ((xs 1).toInt) am rfl rfl rfl rfl (by omega)) m_1796 rfl (by decide) hl.1 [.int (iI zx)] (Nat.le_of_ble_eq_true rfl) rfl dL_law_1027 (fun r w1 hq H locs h => ?_)
    obtain ⟨zm, rfl, hzm⟩ := hq
    show W p l e room_1 s m #[Value.ref b] below meth c H locs 87 35823 (lw_Z below #[Value.ref b] s) (F0 m 1030 ls [.int (iI zm), .int (iI zx)])
    have heq : zx = zm := by
      omega
    have hr : xr zx ∧ xr zm := by
      omega
    refine x_icmp_eq B hr (tgt := 1368) dL_law_1030 (by decide) (fun cq => ?_) (fun cq => ?_)
    · exact fin _ _ _ _ h (lv_sub hl [0, 3] rfl) (by decide) (by decide)
    · exact absurd heq cq
  by_cases t21 : sw = 21
  · refine x_tin B (tgt := 1035) 21 (by omega) dL_law_33 rfl (by decide) ?_
    skip
    refine lv_aload_n B.1 B.2.1 dL_law_1035 rfl (lv_at hl 1 rfl) ?_
    refine lv_aload_n B.1 B.2.1 dL_law_1036 rfl (lv_at hl 0 rfl) ?_
    refine lv_iload_n B.1 B.2.1 dL_law_1037 rfl (lv_at hl 3 rfl) ?_
    refine x_iconst B dL_law_1038 ?_
    refine x_iadd B dL_law_1039 ?_
    refine x_sld B h hX hbl hbA 1 (by omega) dL_law_1040 ?_
    refine x_cVF (wa := cW0 ca ad) B h kX11 0 (a := ad 0) rfl k_X11_late rfl (c_X11_late l D ca _ ad (fun k x hk => hk) ((xs 1).toInt) (by omega)) m_1100 rfl (by decide) hl.1 [] (Nat.le_of_ble_eq_true rfl) rfl dL_law_1041 (fun r w1 hq H locs h => ?_)
    obtain ⟨zx, rfl, hzx⟩ := hq
    show W p l e room_1 s m #[Value.ref b] below meth c H locs 87 35823 (lw_Z below #[Value.ref b] s) (F0 m 1044 ls [.int (iI zx)])
    refine lv_aload_n B.1 B.2.1 dL_law_1044 rfl (lv_at hl 2 rfl) ?_
    refine lv_aload_n B.1 B.2.1 dL_law_1045 rfl (lv_at hl 0 rfl) ?_
    refine lv_iload_n B.1 B.2.1 dL_law_1046 rfl (lv_at hl 3 rfl) ?_
    refine x_iconst B dL_law_1047 ?_
    refine x_iadd B dL_law_1048 ?_
    refine x_sld B h hX hbl hbA 1 (by omega) dL_law_1049 ?_
    have h := xH.swap h
    refine x_cVF (wa := cM0 ca am) B h kX12 0 (a := am 0) rfl k_X12_late rfl (c_X12_late l D ca _ ((xs 1).toInt) am rfl (by omega)) m_1804 rfl (by decide) hl.1 [.int (iI zx)] (Nat.le_of_ble_eq_true rfl) rfl dL_law_1050 (fun r w1 hq H locs h => ?_)
    obtain ⟨zm, rfl, hzm⟩ := hq
    show W p l e room_1 s m #[Value.ref b] below meth c H locs 87 35823 (lw_Z below #[Value.ref b] s) (F0 m 1053 ls [.int (iI zm), .int (iI zx)])
    have heq : zx = zm := by
      by_cases hC : (10 ≤ ((xs 1).toInt) ∧ ((xs 1).toInt) ≤ 29)
      · have a := hzx.1 hC; have b := hzm.1 hC; omega
      · have a := hzx.2 hC; have b := hzm.2 hC; omega
    have hr : xr zx ∧ xr zm := by
      by_cases hC : (10 ≤ ((xs 1).toInt) ∧ ((xs 1).toInt) ≤ 29)
      · have a := hzx.1 hC; have b := hzm.1 hC; omega
      · have a := hzx.2 hC; have b := hzm.2 hC; omega
    refine x_icmp_eq B hr (tgt := 1368) dL_law_1053 (by decide) (fun cq => ?_) (fun cq => ?_)
    · exact fin _ _ _ _ h (lv_sub hl [0, 3] rfl) (by decide) (by decide)
    · exact absurd heq cq
  by_cases t22 : sw = 22
  · refine x_tin B (tgt := 1058) 22 (by omega) dL_law_33 rfl (by decide) ?_
    skip
    refine lv_aload_n B.1 B.2.1 dL_law_1058 rfl (lv_at hl 1 rfl) ?_
    refine lv_aload_n B.1 B.2.1 dL_law_1059 rfl (lv_at hl 0 rfl) ?_
    refine lv_iload_n B.1 B.2.1 dL_law_1060 rfl (lv_at hl 3 rfl) ?_
    refine x_iconst B dL_law_1061 ?_
    refine x_iadd B dL_law_1062 ?_
    refine x_sld B h hX hbl hbA 1 (by omega) dL_law_1063 ?_
    refine lv_aload_n B.1 B.2.1 dL_law_1064 rfl (lv_at hl 0 rfl) ?_
    refine lv_iload_n B.1 B.2.1 dL_law_1065 rfl (lv_at hl 3 rfl) ?_
    refine x_iconst B dL_law_1066 ?_
    refine x_iadd B dL_law_1067 ?_
    refine x_sld B h hX hbl hbA 2 (by omega) dL_law_1068 ?_
    refine x_cVF (wa := cW0 ca ad) B h kX11 0 (a := ad 0) rfl k_X11_copied rfl (c_X11_copied l D ca _ ad (fun k x hk => hk) ((xs 1).toInt) ((xs 2).toInt) (by omega) (by omega)) m_1119 rfl (by decide) hl.1 [] (Nat.le_of_ble_eq_true rfl) rfl dL_law_1069 (fun r w1 hq H locs h => ?_)
    obtain ⟨zx, rfl, hzx⟩ := hq
    show W p l e room_1 s m #[Value.ref b] below meth c H locs 87 35823 (lw_Z below #[Value.ref b] s) (F0 m 1072 ls [.int (iI zx)])
    refine lv_aload_n B.1 B.2.1 dL_law_1072 rfl (lv_at hl 2 rfl) ?_
    refine lv_aload_n B.1 B.2.1 dL_law_1073 rfl (lv_at hl 0 rfl) ?_
    refine lv_iload_n B.1 B.2.1 dL_law_1074 rfl (lv_at hl 3 rfl) ?_
    refine x_iconst B dL_law_1075 ?_
    refine x_iadd B dL_law_1076 ?_
    refine x_sld B h hX hbl hbA 1 (by omega) dL_law_1077 ?_
    refine lv_aload_n B.1 B.2.1 dL_law_1078 rfl (lv_at hl 0 rfl) ?_
    refine lv_iload_n B.1 B.2.1 dL_law_1079 rfl (lv_at hl 3 rfl) ?_
    refine x_iconst B dL_law_1080 ?_
    refine x_iadd B dL_law_1081 ?_
    refine x_sld B h hX hbl hbA 2 (by omega) dL_law_1082 ?_
    have h := xH.swap h
    refine x_cVF (wa := cM0 ca am) B h kX12 0 (a := am 0) rfl k_X12_copied rfl (c_X12_copied l D ca _ ((xs 1).toInt) ((xs 2).toInt) am rfl (by omega) (by omega)) m_1824 rfl (by decide) hl.1 [.int (iI zx)] (Nat.le_of_ble_eq_true rfl) rfl dL_law_1083 (fun r w1 hq H locs h => ?_)
    obtain ⟨zm, rfl, hzm⟩ := hq
    show W p l e room_1 s m #[Value.ref b] below meth c H locs 87 35823 (lw_Z below #[Value.ref b] s) (F0 m 1086 ls [.int (iI zm), .int (iI zx)])
    have heq : zx = zm := by
      omega
    have hr : xr zx ∧ xr zm := by
      omega
    refine x_icmp_eq B hr (tgt := 1368) dL_law_1086 (by decide) (fun cq => ?_) (fun cq => ?_)
    · exact fin _ _ _ _ h (lv_sub hl [0, 3] rfl) (by decide) (by decide)
    · exact absurd heq cq
  by_cases t23 : sw = 23
  · refine x_tin B (tgt := 1091) 23 (by omega) dL_law_33 rfl (by decide) ?_
    skip
    refine lv_aload_n B.1 B.2.1 dL_law_1091 rfl (lv_at hl 1 rfl) ?_
    refine lv_aload_n B.1 B.2.1 dL_law_1092 rfl (lv_at hl 0 rfl) ?_
    refine lv_iload_n B.1 B.2.1 dL_law_1093 rfl (lv_at hl 3 rfl) ?_
    refine x_iconst B dL_law_1094 ?_
    refine x_iadd B dL_law_1095 ?_
    refine x_sld B h hX hbl hbA 1 (by omega) dL_law_1096 ?_
    refine x_cVF (wa := cW0 ca ad) B h kX11 0 (a := ad 0) rfl k_X11_find rfl (c_X11_find l D ca _ ad (fun k x hk => hk) ((xs 1).toInt) (by omega)) m_1123 rfl (by decide) hl.1 [] (Nat.le_of_ble_eq_true rfl) rfl dL_law_1097 (fun r w1 hq H locs h => ?_)
    obtain ⟨zx, rfl, hzx⟩ := hq
    show W p l e room_1 s m #[Value.ref b] below meth c H locs 87 35823 (lw_Z below #[Value.ref b] s) (F0 m 1100 ls [.int (iI zx)])
    refine lv_aload_n B.1 B.2.1 dL_law_1100 rfl (lv_at hl 2 rfl) ?_
    refine lv_aload_n B.1 B.2.1 dL_law_1101 rfl (lv_at hl 0 rfl) ?_
    refine lv_iload_n B.1 B.2.1 dL_law_1102 rfl (lv_at hl 3 rfl) ?_
    refine x_iconst B dL_law_1103 ?_
    refine x_iadd B dL_law_1104 ?_
    refine x_sld B h hX hbl hbA 1 (by omega) dL_law_1105 ?_
    have h := xH.swap h
    refine x_cVF (wa := cM0 ca am) B h kX12 0 (a := am 0) rfl k_X12_find rfl (c_X12_find l D ca _ ((xs 1).toInt) am rfl (by omega)) m_1828 rfl (by decide) hl.1 [.int (iI zx)] (Nat.le_of_ble_eq_true rfl) rfl dL_law_1106 (fun r w1 hq H locs h => ?_)
    obtain ⟨zm, rfl, hzm⟩ := hq
    show W p l e room_1 s m #[Value.ref b] below meth c H locs 87 35823 (lw_Z below #[Value.ref b] s) (F0 m 1109 ls [.int (iI zm), .int (iI zx)])
    have heq : zx = zm := by
      omega
    have hr : xr zx ∧ xr zm := by
      omega
    refine x_icmp_eq B hr (tgt := 1368) dL_law_1109 (by decide) (fun cq => ?_) (fun cq => ?_)
    · exact fin _ _ _ _ h (lv_sub hl [0, 3] rfl) (by decide) (by decide)
    · exact absurd heq cq
  by_cases t24 : sw = 24
  · refine x_tin B (tgt := 1114) 24 (by omega) dL_law_33 rfl (by decide) ?_
    skip
    refine lv_aload_n B.1 B.2.1 dL_law_1114 rfl (lv_at hl 1 rfl) ?_
    refine lv_aload_n B.1 B.2.1 dL_law_1115 rfl (lv_at hl 0 rfl) ?_
    refine lv_iload_n B.1 B.2.1 dL_law_1116 rfl (lv_at hl 3 rfl) ?_
    refine x_iconst B dL_law_1117 ?_
    refine x_iadd B dL_law_1118 ?_
    refine x_sld B h hX hbl hbA 1 (by omega) dL_law_1119 ?_
    refine lv_aload_n B.1 B.2.1 dL_law_1120 rfl (lv_at hl 0 rfl) ?_
    refine lv_iload_n B.1 B.2.1 dL_law_1121 rfl (lv_at hl 3 rfl) ?_
    refine x_iconst B dL_law_1122 ?_
    refine x_iadd B dL_law_1123 ?_
    refine x_sld B h hX hbl hbA 2 (by omega) dL_law_1124 ?_
    refine x_cVF (wa := cW0 ca ad) B h kX11 0 (a := ad 0) rfl k_X11_wished rfl (c_X11_wished l D ca _ ad (fun k x hk => hk) ((xs 1).toInt) ((xs 2).toInt) (by omega) (by omega)) m_1127 rfl (by decide) hl.1 [] (Nat.le_of_ble_eq_true rfl) rfl dL_law_1125 (fun r w1 hq H locs h => ?_)
    obtain ⟨zx, rfl, hzx⟩ := hq
    show W p l e room_1 s m #[Value.ref b] below meth c H locs 87 35823 (lw_Z below #[Value.ref b] s) (F0 m 1128 ls [.int (iI zx)])
    refine lv_aload_n B.1 B.2.1 dL_law_1128 rfl (lv_at hl 2 rfl) ?_
    refine lv_aload_n B.1 B.2.1 dL_law_1129 rfl (lv_at hl 0 rfl) ?_
    refine lv_iload_n B.1 B.2.1 dL_law_1130 rfl (lv_at hl 3 rfl) ?_
    refine x_iconst B dL_law_1131 ?_
    refine x_iadd B dL_law_1132 ?_
    refine x_sld B h hX hbl hbA 1 (by omega) dL_law_1133 ?_
    refine lv_aload_n B.1 B.2.1 dL_law_1134 rfl (lv_at hl 0 rfl) ?_
    refine lv_iload_n B.1 B.2.1 dL_law_1135 rfl (lv_at hl 3 rfl) ?_
    refine x_iconst B dL_law_1136 ?_
    refine x_iadd B dL_law_1137 ?_
    refine x_sld B h hX hbl hbA 2 (by omega) dL_law_1138 ?_
    have h := xH.swap h
    refine x_cVF (wa := cM0 ca am) B h kX12 0 (a := am 0) rfl k_X12_wished rfl (c_X12_wished l D ca _ ((xs 1).toInt) ((xs 2).toInt) am rfl (by omega) (by omega)) m_1832 rfl (by decide) hl.1 [.int (iI zx)] (Nat.le_of_ble_eq_true rfl) rfl dL_law_1139 (fun r w1 hq H locs h => ?_)
    obtain ⟨zm, rfl, hzm⟩ := hq
    show W p l e room_1 s m #[Value.ref b] below meth c H locs 87 35823 (lw_Z below #[Value.ref b] s) (F0 m 1142 ls [.int (iI zm), .int (iI zx)])
    have heq : zx = zm := by
      omega
    have hr : xr zx ∧ xr zm := by
      omega
    refine x_icmp_eq B hr (tgt := 1368) dL_law_1142 (by decide) (fun cq => ?_) (fun cq => ?_)
    · exact fin _ _ _ _ h (lv_sub hl [0, 3] rfl) (by decide) (by decide)
    · exact absurd heq cq
  by_cases t25 : sw = 25
  · refine x_tin B (tgt := 1147) 25 (by omega) dL_law_33 rfl (by decide) ?_
    skip
    refine lv_aload_n B.1 B.2.1 dL_law_1147 rfl (lv_at hl 1 rfl) ?_
    refine lv_aload_n B.1 B.2.1 dL_law_1148 rfl (lv_at hl 0 rfl) ?_
    refine lv_iload_n B.1 B.2.1 dL_law_1149 rfl (lv_at hl 3 rfl) ?_
    refine x_iconst B dL_law_1150 ?_
    refine x_iadd B dL_law_1151 ?_
    refine x_sld B h hX hbl hbA 1 (by omega) dL_law_1152 ?_
    refine lv_aload_n B.1 B.2.1 dL_law_1153 rfl (lv_at hl 0 rfl) ?_
    refine lv_iload_n B.1 B.2.1 dL_law_1154 rfl (lv_at hl 3 rfl) ?_
    refine x_iconst B dL_law_1155 ?_
    refine x_iadd B dL_law_1156 ?_
    refine x_sld B h hX hbl hbA 2 (by omega) dL_law_1157 ?_
    refine lv_aload_n B.1 B.2.1 dL_law_1158 rfl (lv_at hl 0 rfl) ?_
    refine lv_iload_n B.1 B.2.1 dL_law_1159 rfl (lv_at hl 3 rfl) ?_
    refine x_iconst B dL_law_1160 ?_
    refine x_iadd B dL_law_1161 ?_
    refine x_sld B h hX hbl hbA 3 (by omega) dL_law_1162 ?_
    refine lv_aload_n B.1 B.2.1 dL_law_1163 rfl (lv_at hl 0 rfl) ?_
    refine lv_iload_n B.1 B.2.1 dL_law_1164 rfl (lv_at hl 3 rfl) ?_
    refine x_iconst B dL_law_1165 ?_
    refine x_iadd B dL_law_1166 ?_
    refine x_sld B h hX hbl hbA 4 (by omega) dL_law_1167 ?_
    refine x_cVF (wa := cW0 ca ad) B h kX11 0 (a := ad 0) rfl k_X11_eight rfl (c_X11_eight l D ca _ ad (fun k x hk => hk) ((xs 1).toInt) ((xs 2).toInt) ((xs 3).toInt) ((xs 4).toInt) (by omega) (by omega) (by omega) (by omega)) m_1150 rfl (by decide) hl.1 [] (Nat.le_of_ble_eq_true rfl) rfl dL_law_1168 (fun r w1 hq H locs h => ?_)
    obtain ⟨zx, rfl, hzx⟩ := hq
    show W p l e room_1 s m #[Value.ref b] below meth c H locs 87 35823 (lw_Z below #[Value.ref b] s) (F0 m 1171 ls [.int (iI zx)])
    refine lv_aload_n B.1 B.2.1 dL_law_1171 rfl (lv_at hl 2 rfl) ?_
    refine lv_aload_n B.1 B.2.1 dL_law_1172 rfl (lv_at hl 0 rfl) ?_
    refine lv_iload_n B.1 B.2.1 dL_law_1173 rfl (lv_at hl 3 rfl) ?_
    refine x_iconst B dL_law_1174 ?_
    refine x_iadd B dL_law_1175 ?_
    refine x_sld B h hX hbl hbA 1 (by omega) dL_law_1176 ?_
    refine lv_aload_n B.1 B.2.1 dL_law_1177 rfl (lv_at hl 0 rfl) ?_
    refine lv_iload_n B.1 B.2.1 dL_law_1178 rfl (lv_at hl 3 rfl) ?_
    refine x_iconst B dL_law_1179 ?_
    refine x_iadd B dL_law_1180 ?_
    refine x_sld B h hX hbl hbA 2 (by omega) dL_law_1181 ?_
    refine lv_aload_n B.1 B.2.1 dL_law_1182 rfl (lv_at hl 0 rfl) ?_
    refine lv_iload_n B.1 B.2.1 dL_law_1183 rfl (lv_at hl 3 rfl) ?_
    refine x_iconst B dL_law_1184 ?_
    refine x_iadd B dL_law_1185 ?_
    refine x_sld B h hX hbl hbA 3 (by omega) dL_law_1186 ?_
    refine lv_aload_n B.1 B.2.1 dL_law_1187 rfl (lv_at hl 0 rfl) ?_
    refine lv_iload_n B.1 B.2.1 dL_law_1188 rfl (lv_at hl 3 rfl) ?_
    refine x_iconst B dL_law_1189 ?_
    refine x_iadd B dL_law_1190 ?_
    refine x_sld B h hX hbl hbA 4 (by omega) dL_law_1191 ?_
    have h := xH.swap h
    refine x_cVF (wa := cM0 ca am) B h kX12 0 (a := am 0) rfl k_X12_eight rfl (c_X12_eight l D ca _ ((xs 1).toInt) ((xs 2).toInt) ((xs 3).toInt) ((xs 4).toInt) am rfl (by omega) (by omega) (by omega) (by omega)) m_1847 rfl (by decide) hl.1 [.int (iI zx)] (Nat.le_of_ble_eq_true rfl) rfl dL_law_1192 (fun r w1 hq H locs h => ?_)
    obtain ⟨zm, rfl, hzm⟩ := hq
    show W p l e room_1 s m #[Value.ref b] below meth c H locs 87 35823 (lw_Z below #[Value.ref b] s) (F0 m 1195 ls [.int (iI zm), .int (iI zx)])
    have heq : zx = zm := by
      by_cases hC : ((0 ≤ ((xs 1).toInt) ∧ ((xs 1).toInt) ≤ 12) ∧ (0 ≤ ((xs 2).toInt) ∧ ((xs 2).toInt) ≤ 99) ∧ (0 ≤ ((xs 3).toInt) ∧ ((xs 3).toInt) ≤ 9999) ∧ 0 ≤ ((xs 4).toInt) ∧ ((xs 4).toInt) ≤ 3)
      · have a := hzx.1 hC; have b := hzm.1 hC; omega
      · have a := hzx.2 hC; have b := hzm.2 hC; omega
    have hr : xr zx ∧ xr zm := by
      by_cases hC : ((0 ≤ ((xs 1).toInt) ∧ ((xs 1).toInt) ≤ 12) ∧ (0 ≤ ((xs 2).toInt) ∧ ((xs 2).toInt) ≤ 99) ∧ (0 ≤ ((xs 3).toInt) ∧ ((xs 3).toInt) ≤ 9999) ∧ 0 ≤ ((xs 4).toInt) ∧ ((xs 4).toInt) ≤ 3)
      · have a := hzx.1 hC; have b := hzm.1 hC; omega
      · have a := hzx.2 hC; have b := hzm.2 hC; omega
    refine x_icmp_eq B hr (tgt := 1368) dL_law_1195 (by decide) (fun cq => ?_) (fun cq => ?_)
    · exact fin _ _ _ _ h (lv_sub hl [0, 3] rfl) (by decide) (by decide)
    · exact absurd heq cq
  by_cases t26 : sw = 26
  · refine x_tin B (tgt := 1200) 26 (by omega) dL_law_33 rfl (by decide) ?_
    skip
    refine lv_aload_n B.1 B.2.1 dL_law_1200 rfl (lv_at hl 1 rfl) ?_
    refine lv_aload_n B.1 B.2.1 dL_law_1201 rfl (lv_at hl 0 rfl) ?_
    refine lv_iload_n B.1 B.2.1 dL_law_1202 rfl (lv_at hl 3 rfl) ?_
    refine x_iconst B dL_law_1203 ?_
    refine x_iadd B dL_law_1204 ?_
    refine x_sld B h hX hbl hbA 1 (by omega) dL_law_1205 ?_
    refine x_cVF (wa := cW0 ca ad) B h kX11 0 (a := ad 0) rfl k_X11_alike rfl (c_X11_alike l D ca _ ad (fun k x hk => hk) ((xs 1).toInt) (by omega)) m_1156 rfl (by decide) hl.1 [] (Nat.le_of_ble_eq_true rfl) rfl dL_law_1206 (fun r w1 hq H locs h => ?_)
    obtain ⟨zx, rfl, hzx⟩ := hq
    show W p l e room_1 s m #[Value.ref b] below meth c H locs 87 35823 (lw_Z below #[Value.ref b] s) (F0 m 1209 ls [.int (iI zx)])
    refine lv_aload_n B.1 B.2.1 dL_law_1209 rfl (lv_at hl 2 rfl) ?_
    refine lv_aload_n B.1 B.2.1 dL_law_1210 rfl (lv_at hl 0 rfl) ?_
    refine lv_iload_n B.1 B.2.1 dL_law_1211 rfl (lv_at hl 3 rfl) ?_
    refine x_iconst B dL_law_1212 ?_
    refine x_iadd B dL_law_1213 ?_
    refine x_sld B h hX hbl hbA 1 (by omega) dL_law_1214 ?_
    have h := xH.swap h
    refine x_cVF (wa := cM0 ca am) B h kX12 0 (a := am 0) rfl k_X12_alike rfl (c_X12_alike l D ca _ ((xs 1).toInt) am rfl (by omega)) m_1852 rfl (by decide) hl.1 [.int (iI zx)] (Nat.le_of_ble_eq_true rfl) rfl dL_law_1215 (fun r w1 hq H locs h => ?_)
    obtain ⟨zm, rfl, hzm⟩ := hq
    show W p l e room_1 s m #[Value.ref b] below meth c H locs 87 35823 (lw_Z below #[Value.ref b] s) (F0 m 1218 ls [.int (iI zm), .int (iI zx)])
    have heq : zx = zm := by
      omega
    have hr : xr zx ∧ xr zm := by
      omega
    refine x_icmp_eq B hr (tgt := 1368) dL_law_1218 (by decide) (fun cq => ?_) (fun cq => ?_)
    · exact fin _ _ _ _ h (lv_sub hl [0, 3] rfl) (by decide) (by decide)
    · exact absurd heq cq
  by_cases t27 : sw = 27
  · refine x_tin B (tgt := 1223) 27 (by omega) dL_law_33 rfl (by decide) ?_
    skip
    refine lv_aload_n B.1 B.2.1 dL_law_1223 rfl (lv_at hl 1 rfl) ?_
    refine lv_aload_n B.1 B.2.1 dL_law_1224 rfl (lv_at hl 0 rfl) ?_
    refine lv_iload_n B.1 B.2.1 dL_law_1225 rfl (lv_at hl 3 rfl) ?_
    refine x_iconst B dL_law_1226 ?_
    refine x_iadd B dL_law_1227 ?_
    refine x_sld B h hX hbl hbA 1 (by omega) dL_law_1228 ?_
    refine lv_aload_n B.1 B.2.1 dL_law_1229 rfl (lv_at hl 0 rfl) ?_
    refine lv_iload_n B.1 B.2.1 dL_law_1230 rfl (lv_at hl 3 rfl) ?_
    refine x_iconst B dL_law_1231 ?_
    refine x_iadd B dL_law_1232 ?_
    refine x_sld B h hX hbl hbA 2 (by omega) dL_law_1233 ?_
    refine lv_aload_n B.1 B.2.1 dL_law_1234 rfl (lv_at hl 0 rfl) ?_
    refine lv_iload_n B.1 B.2.1 dL_law_1235 rfl (lv_at hl 3 rfl) ?_
    refine x_iconst B dL_law_1236 ?_
    refine x_iadd B dL_law_1237 ?_
    refine x_sld B h hX hbl hbA 3 (by omega) dL_law_1238 ?_
    refine lv_aload_n B.1 B.2.1 dL_law_1239 rfl (lv_at hl 0 rfl) ?_
    refine lv_iload_n B.1 B.2.1 dL_law_1240 rfl (lv_at hl 3 rfl) ?_
    refine x_iconst B dL_law_1241 ?_
    refine x_iadd B dL_law_1242 ?_
    refine x_sld B h hX hbl hbA 4 (by omega) dL_law_1243 ?_
    refine x_cVF (wa := cW0 ca ad) B h kX11 0 (a := ad 0) rfl k_X11_storm rfl (c_X11_storm l D ca _ ad (fun k x hk => hk) ((xs 1).toInt) ((xs 2).toInt) ((xs 3).toInt) ((xs 4).toInt) (by omega) (by omega) (by omega) (by omega)) m_1164 rfl (by decide) hl.1 [] (Nat.le_of_ble_eq_true rfl) rfl dL_law_1244 (fun r w1 hq H locs h => ?_)
    obtain ⟨zx, rfl, hzx⟩ := hq
    show W p l e room_1 s m #[Value.ref b] below meth c H locs 87 35823 (lw_Z below #[Value.ref b] s) (F0 m 1247 ls [.int (iI zx)])
    refine lv_aload_n B.1 B.2.1 dL_law_1247 rfl (lv_at hl 2 rfl) ?_
    refine lv_aload_n B.1 B.2.1 dL_law_1248 rfl (lv_at hl 0 rfl) ?_
    refine lv_iload_n B.1 B.2.1 dL_law_1249 rfl (lv_at hl 3 rfl) ?_
    refine x_iconst B dL_law_1250 ?_
    refine x_iadd B dL_law_1251 ?_
    refine x_sld B h hX hbl hbA 1 (by omega) dL_law_1252 ?_
    refine lv_aload_n B.1 B.2.1 dL_law_1253 rfl (lv_at hl 0 rfl) ?_
    refine lv_iload_n B.1 B.2.1 dL_law_1254 rfl (lv_at hl 3 rfl) ?_
    refine x_iconst B dL_law_1255 ?_
    refine x_iadd B dL_law_1256 ?_
    refine x_sld B h hX hbl hbA 2 (by omega) dL_law_1257 ?_
    refine lv_aload_n B.1 B.2.1 dL_law_1258 rfl (lv_at hl 0 rfl) ?_
    refine lv_iload_n B.1 B.2.1 dL_law_1259 rfl (lv_at hl 3 rfl) ?_
    refine x_iconst B dL_law_1260 ?_
    refine x_iadd B dL_law_1261 ?_
    refine x_sld B h hX hbl hbA 3 (by omega) dL_law_1262 ?_
    refine lv_aload_n B.1 B.2.1 dL_law_1263 rfl (lv_at hl 0 rfl) ?_
    refine lv_iload_n B.1 B.2.1 dL_law_1264 rfl (lv_at hl 3 rfl) ?_
    refine x_iconst B dL_law_1265 ?_
    refine x_iadd B dL_law_1266 ?_
    refine x_sld B h hX hbl hbA 4 (by omega) dL_law_1267 ?_
    have h := xH.swap h
    refine x_cVF (wa := cM0 ca am) B h kX12 0 (a := am 0) rfl k_X12_storm rfl (c_X12_storm l D ca _ ((xs 1).toInt) ((xs 2).toInt) ((xs 3).toInt) ((xs 4).toInt) am rfl rfl (by omega) (by omega) (by omega) (by omega)) m_1860 rfl (by decide) hl.1 [.int (iI zx)] (Nat.le_of_ble_eq_true rfl) rfl dL_law_1268 (fun r w1 hq H locs h => ?_)
    obtain ⟨zm, rfl, hzm⟩ := hq
    show W p l e room_1 s m #[Value.ref b] below meth c H locs 87 35823 (lw_Z below #[Value.ref b] s) (F0 m 1271 ls [.int (iI zm), .int (iI zx)])
    have heq : zx = zm := by
      by_cases hC : ((0 ≤ ((xs 1).toInt) ∧ ((xs 1).toInt) ≤ 999) ∧ (0 ≤ ((xs 2).toInt) ∧ ((xs 2).toInt) ≤ 999) ∧ ((xs 1).toInt) ≤ ((xs 2).toInt) ∧ ((xs 2).toInt) - ((xs 1).toInt) < 60 ∧ (0 ≤ ((xs 3).toInt) ∧ ((xs 3).toInt) ≤ 7) ∧ 0 ≤ ((xs 4).toInt) ∧ ((xs 4).toInt) ≤ 12)
      · have a := hzx.1 hC; have b := hzm.1 hC; omega
      · have a := hzx.2 hC; have b := hzm.2 hC; omega
    have hr : xr zx ∧ xr zm := by
      by_cases hC : ((0 ≤ ((xs 1).toInt) ∧ ((xs 1).toInt) ≤ 999) ∧ (0 ≤ ((xs 2).toInt) ∧ ((xs 2).toInt) ≤ 999) ∧ ((xs 1).toInt) ≤ ((xs 2).toInt) ∧ ((xs 2).toInt) - ((xs 1).toInt) < 60 ∧ (0 ≤ ((xs 3).toInt) ∧ ((xs 3).toInt) ≤ 7) ∧ 0 ≤ ((xs 4).toInt) ∧ ((xs 4).toInt) ≤ 12)
      · have a := hzx.1 hC; have b := hzm.1 hC; omega
      · have a := hzx.2 hC; have b := hzm.2 hC; omega
    refine x_icmp_eq B hr (tgt := 1368) dL_law_1271 (by decide) (fun cq => ?_) (fun cq => ?_)
    · exact fin _ _ _ _ h (lv_sub hl [0, 3] rfl) (by decide) (by decide)
    · exact absurd heq cq
  by_cases t28 : sw = 28
  · refine x_tin B (tgt := 1276) 28 (by omega) dL_law_33 rfl (by decide) ?_
    skip
    refine lv_aload_n B.1 B.2.1 dL_law_1276 rfl (lv_at hl 1 rfl) ?_
    refine lv_aload_n B.1 B.2.1 dL_law_1277 rfl (lv_at hl 0 rfl) ?_
    refine lv_iload_n B.1 B.2.1 dL_law_1278 rfl (lv_at hl 3 rfl) ?_
    refine x_iconst B dL_law_1279 ?_
    refine x_iadd B dL_law_1280 ?_
    refine x_sld B h hX hbl hbA 1 (by omega) dL_law_1281 ?_
    refine lv_aload_n B.1 B.2.1 dL_law_1282 rfl (lv_at hl 0 rfl) ?_
    refine lv_iload_n B.1 B.2.1 dL_law_1283 rfl (lv_at hl 3 rfl) ?_
    refine x_iconst B dL_law_1284 ?_
    refine x_iadd B dL_law_1285 ?_
    refine x_sld B h hX hbl hbA 2 (by omega) dL_law_1286 ?_
    refine x_cVF (wa := cW0 ca ad) B h kX11 0 (a := ad 0) rfl k_X11_way rfl (c_X11_way l D ca _ ad (fun k x hk => hk) ((xs 1).toInt) ((xs 2).toInt) (by omega) (by omega)) m_1200 rfl (by decide) hl.1 [] (Nat.le_of_ble_eq_true rfl) rfl dL_law_1287 (fun r w1 hq H locs h => ?_)
    obtain ⟨zx, rfl, hzx⟩ := hq
    show W p l e room_1 s m #[Value.ref b] below meth c H locs 87 35823 (lw_Z below #[Value.ref b] s) (F0 m 1290 ls [.int (iI zx)])
    refine lv_aload_n B.1 B.2.1 dL_law_1290 rfl (lv_at hl 2 rfl) ?_
    refine lv_aload_n B.1 B.2.1 dL_law_1291 rfl (lv_at hl 0 rfl) ?_
    refine lv_iload_n B.1 B.2.1 dL_law_1292 rfl (lv_at hl 3 rfl) ?_
    refine x_iconst B dL_law_1293 ?_
    refine x_iadd B dL_law_1294 ?_
    refine x_sld B h hX hbl hbA 1 (by omega) dL_law_1295 ?_
    refine lv_aload_n B.1 B.2.1 dL_law_1296 rfl (lv_at hl 0 rfl) ?_
    refine lv_iload_n B.1 B.2.1 dL_law_1297 rfl (lv_at hl 3 rfl) ?_
    refine x_iconst B dL_law_1298 ?_
    refine x_iadd B dL_law_1299 ?_
    refine x_sld B h hX hbl hbA 2 (by omega) dL_law_1300 ?_
    have h := xH.swap h
    refine x_cVF (wa := cM0 ca am) B h kX12 0 (a := am 0) rfl k_X12_way rfl (c_X12_way l D ca _ ((xs 1).toInt) ((xs 2).toInt) am rfl (by omega) (by omega)) m_1880 rfl (by decide) hl.1 [.int (iI zx)] (Nat.le_of_ble_eq_true rfl) rfl dL_law_1301 (fun r w1 hq H locs h => ?_)
    obtain ⟨zm, rfl, hzm⟩ := hq
    show W p l e room_1 s m #[Value.ref b] below meth c H locs 87 35823 (lw_Z below #[Value.ref b] s) (F0 m 1304 ls [.int (iI zm), .int (iI zx)])
    have heq : zx = zm := by
      omega
    have hr : xr zx ∧ xr zm := by
      omega
    refine x_icmp_eq B hr (tgt := 1368) dL_law_1304 (by decide) (fun cq => ?_) (fun cq => ?_)
    · exact fin _ _ _ _ h (lv_sub hl [0, 3] rfl) (by decide) (by decide)
    · exact absurd heq cq
  by_cases t29 : sw = 29
  · refine x_tin B (tgt := 1309) 29 (by omega) dL_law_33 rfl (by decide) ?_
    skip
    refine lv_aload_n B.1 B.2.1 dL_law_1309 rfl (lv_at hl 1 rfl) ?_
    refine x_cVF (wa := cW0 ca ad) B h kX11 0 (a := ad 0) rfl k_X11_image rfl (c_X11_image l D ca _ ad (fun k x hk => hk)  ) m_1211 rfl (by decide) hl.1 [] (Nat.le_of_ble_eq_true rfl) rfl dL_law_1310 (fun r w1 hq H locs h => ?_)
    obtain ⟨zx, rfl, hzx⟩ := hq
    show W p l e room_1 s m #[Value.ref b] below meth c H locs 88 35827 (lw_Z below #[Value.ref b] s) (F0 m 1313 ls [.int (iI zx)])
    refine lv_aload_n B.1 B.2.1 dL_law_1313 rfl (lv_at hl 2 rfl) ?_
    have h := xH.swap h
    refine x_cVF (wa := cM0 ca am) B h kX12 0 (a := am 0) rfl k_X12_image rfl (c_X12_image l D ca _ am rfl rfl rfl rfl rfl rfl ) m_1884 rfl (by decide) hl.1 [.int (iI zx)] (Nat.le_of_ble_eq_true rfl) rfl dL_law_1314 (fun r w1 hq H locs h => ?_)
    obtain ⟨zm, rfl, hzm⟩ := hq
    show W p l e room_1 s m #[Value.ref b] below meth c H locs 88 35827 (lw_Z below #[Value.ref b] s) (F0 m 1317 ls [.int (iI zm), .int (iI zx)])
    have heq : zx = zm := by
      omega
    have hr : xr zx ∧ xr zm := by
      omega
    refine x_icmp_eq B hr (tgt := 1368) dL_law_1317 (by decide) (fun cq => ?_) (fun cq => ?_)
    · exact fin _ _ _ _ h (lv_sub hl [0, 3] rfl) (by decide) (by decide)
    · exact absurd heq cq
  by_cases t30 : sw = 30
  · refine x_tin B (tgt := 1322) 30 (by omega) dL_law_33 rfl (by decide) ?_
    skip
    refine lv_aload_n B.1 B.2.1 dL_law_1322 rfl (lv_at hl 1 rfl) ?_
    refine lv_aload_n B.1 B.2.1 dL_law_1323 rfl (lv_at hl 0 rfl) ?_
    refine lv_iload_n B.1 B.2.1 dL_law_1324 rfl (lv_at hl 3 rfl) ?_
    refine x_iconst B dL_law_1325 ?_
    refine x_iadd B dL_law_1326 ?_
    refine x_sld B h hX hbl hbA 1 (by omega) dL_law_1327 ?_
    refine x_cVF (wa := cW0 ca ad) B h kX11 0 (a := ad 0) rfl k_X11_back rfl (c_X11_back l D ca _ ad (fun k x hk => hk) ((xs 1).toInt) (by omega)) m_1237 rfl (by decide) hl.1 [] (Nat.le_of_ble_eq_true rfl) rfl dL_law_1328 (fun r w1 hq H locs h => ?_)
    obtain ⟨zx, rfl, hzx⟩ := hq
    show W p l e room_1 s m #[Value.ref b] below meth c H locs 87 35823 (lw_Z below #[Value.ref b] s) (F0 m 1331 ls [.int (iI zx)])
    refine lv_aload_n B.1 B.2.1 dL_law_1331 rfl (lv_at hl 2 rfl) ?_
    refine lv_aload_n B.1 B.2.1 dL_law_1332 rfl (lv_at hl 0 rfl) ?_
    refine lv_iload_n B.1 B.2.1 dL_law_1333 rfl (lv_at hl 3 rfl) ?_
    refine x_iconst B dL_law_1334 ?_
    refine x_iadd B dL_law_1335 ?_
    refine x_sld B h hX hbl hbA 1 (by omega) dL_law_1336 ?_
    have h := xH.swap h
    refine x_cVF (wa := cM0 ca am) B h kX12 0 (a := am 0) rfl k_X12_back rfl (c_X12_back l D ca _ ((xs 1).toInt) am rfl rfl (by omega)) m_1888 rfl (by decide) hl.1 [.int (iI zx)] (Nat.le_of_ble_eq_true rfl) rfl dL_law_1337 (fun r w1 hq H locs h => ?_)
    obtain ⟨zm, rfl, hzm⟩ := hq
    show W p l e room_1 s m #[Value.ref b] below meth c H locs 87 35823 (lw_Z below #[Value.ref b] s) (F0 m 1340 ls [.int (iI zm), .int (iI zx)])
    have heq : zx = zm := by
      omega
    have hr : xr zx ∧ xr zm := by
      omega
    refine x_icmp_eq B hr (tgt := 1368) dL_law_1340 (by decide) (fun cq => ?_) (fun cq => ?_)
    · exact fin _ _ _ _ h (lv_sub hl [0, 3] rfl) (by decide) (by decide)
    · exact absurd heq cq
  by_cases t31 : sw = 31
  · refine x_tin B (tgt := 1345) 31 (by omega) dL_law_33 rfl (by decide) ?_
    skip
    refine lv_aload_n B.1 B.2.1 dL_law_1345 rfl (lv_at hl 1 rfl) ?_
    refine lv_aload_n B.1 B.2.1 dL_law_1346 rfl (lv_at hl 0 rfl) ?_
    refine lv_iload_n B.1 B.2.1 dL_law_1347 rfl (lv_at hl 3 rfl) ?_
    refine x_iconst B dL_law_1348 ?_
    refine x_iadd B dL_law_1349 ?_
    refine x_sld B h hX hbl hbA 1 (by omega) dL_law_1350 ?_
    refine x_cVF (wa := cW0 ca ad) B h kX11 0 (a := ad 0) rfl k_X11_count rfl (c_X11_count l D ca _ ad (fun k x hk => hk) ((xs 1).toInt) (by omega)) m_1247 rfl (by decide) hl.1 [] (Nat.le_of_ble_eq_true rfl) rfl dL_law_1351 (fun r w1 hq H locs h => ?_)
    obtain ⟨zx, rfl, hzx⟩ := hq
    show W p l e room_1 s m #[Value.ref b] below meth c H locs 87 35823 (lw_Z below #[Value.ref b] s) (F0 m 1354 ls [.int (iI zx)])
    refine lv_aload_n B.1 B.2.1 dL_law_1354 rfl (lv_at hl 2 rfl) ?_
    refine lv_aload_n B.1 B.2.1 dL_law_1355 rfl (lv_at hl 0 rfl) ?_
    refine lv_iload_n B.1 B.2.1 dL_law_1356 rfl (lv_at hl 3 rfl) ?_
    refine x_iconst B dL_law_1357 ?_
    refine x_iadd B dL_law_1358 ?_
    refine x_sld B h hX hbl hbA 1 (by omega) dL_law_1359 ?_
    have h := xH.swap h
    refine x_cVF (wa := cM0 ca am) B h kX12 0 (a := am 0) rfl k_X12_count rfl (c_X12_count l D ca _ ((xs 1).toInt) am rfl rfl (by omega)) m_1892 rfl (by decide) hl.1 [.int (iI zx)] (Nat.le_of_ble_eq_true rfl) rfl dL_law_1360 (fun r w1 hq H locs h => ?_)
    obtain ⟨zm, rfl, hzm⟩ := hq
    show W p l e room_1 s m #[Value.ref b] below meth c H locs 87 35823 (lw_Z below #[Value.ref b] s) (F0 m 1363 ls [.int (iI zm), .int (iI zx)])
    have heq : zx = zm := by
      omega
    have hr : xr zx ∧ xr zm := by
      omega
    refine x_icmp_eq B hr (tgt := 1368) dL_law_1363 (by decide) (fun cq => ?_) (fun cq => ?_)
    · exact fin _ _ _ _ h (lv_sub hl [0, 3] rfl) (by decide) (by decide)
    · exact absurd heq cq
  refine x_tout B (tgt := 1368) (by omega) dL_law_33 (by decide) ?_
  exact fin _ _ _ _ h (lv_sub hl [0, 3] rfl) (by decide) (by decide)
