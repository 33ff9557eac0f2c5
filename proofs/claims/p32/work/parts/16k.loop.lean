theorem law_end {p : Program} {l : Launch} {e : Env} {s : State} {m : MethodId} {below : List Frame} {meth : Method} {c : Code} {D : va_G} {Zk : yK} {ca : Nat → ClassId} {b L : Nat} {xs : Nat → Int32} (B : xB p s m #[Value.ref b] meth c D ca "WindWordsLaw" code 4 (some .boolean)) (hX : va_X b L xs s s.heap) (hbl : b < s.heap.size) (hb : c.code = code) (hr : meth.sig.returnType = ret) {w : yW} {H : Heap} {locs : List Loc} {cells slots : Nat} (h : yH D Zk (fun q : Nat => s.heap.size ≤ q) s w H locs) (hc : cells ≤ 600000 ∧ slots ≤ 7302250) {ls : Array Slot} : W p l e room_1 s m #[Value.ref b] below meth c H locs cells slots (lw_Z below #[Value.ref b] s) (F0 m 1374 ls []) := by
  refine x_iconst B dL_law_1374 ?_
  refine va_forget (fun q hq => h.2.2.1.2.2 q hq) ?_
  refine W.widen (k := 600000) (n := 7302250) hc.1 hc.2 ?_
  exact lw_ret B.1 hb hr B.2.2.2.2.2.2.1 dL_law_1375
set_option maxHeartbeats 8000000 in
set_option maxRecDepth 100000 in
theorem law_loop {p : Program} {l : Launch} {e : Env} {s : State} {m : MethodId} {below : List Frame} {meth : Method} {c : Code} {D : va_G} {Zk : yK} {ca : Nat → ClassId} {b L : Nat} {xs : Nat → Int32} (B : xB p s m #[Value.ref b] meth c D ca "WindWordsLaw" code 4 (some .boolean)) (hX : va_X b L xs s s.heap) (hbl : b < s.heap.size) (hb : c.code = code) (hr : meth.sig.returnType = ret) (hL : L ≤ 3072) {ad am : Nat → Nat} : ∀ (n : Nat) (T : Nat → Int → Int) (G : Nat → Int → Nat) (u : Int) (E : Nat → Int → Int) (w : yW) (H : Heap) (locs : List Loc) (ls : Array Slot) (cc ss : Nat) (i : Int), ((L : Int) - i).toNat < n → 0 ≤ u → CW ca T G u ad w → MW ca T E am w → yH D Zk (fun q : Nat => s.heap.size ≤ q) s w H locs → 0 ≤ i ∧ i ≤ L → (cc : Int) ≤ 100 + 4 * i ∧ (ss : Int) ≤ 40000 + 500 * i → lv_has ls 4 [(0, .ref b), (1, .ref (ad 0)), (2, .ref (am 0)), (3, .int (iI i))] → W p l e room_1 s m #[Value.ref b] below meth c H locs cc ss (lw_Z below #[Value.ref b] s) (F0 m 18 ls []) := by
  intro n
  induction n with
  | zero => intro T G u E w H locs ls cc ss i hn; exact absurd hn (Nat.not_lt_zero _)
  | succ n ih =>
    intro T G u E w H locs ls cc ss i hn hu0 hC hM h hi hcs hl
    have hbA : ¬ (fun q : Nat => s.heap.size ≤ q) b := Nat.not_le.mpr hbl
    refine lv_iload_n B.1 B.2.1 dL_law_18 rfl (lv_at hl 3 rfl) ?_
    refine lv_aload_n B.1 B.2.1 dL_law_19 rfl (lv_at hl 0 rfl) ?_
    refine y_slen B h hX hbl hbA dL_law_20 ?_
    refine x_bipush B (by decide) dL_law_21 ?_
    refine x_isub B dL_law_23 ?_
    refine x_icmp_gt B (by omega) (tgt := 1374) dL_law_24 (by decide) (fun c1 => ?_) (fun c1 => ?_)
    · exact law_end B hX hbl hb hr h (by omega)
    · have fin : (∀ (T : Nat → Int → Int) (G : Nat → Int → Nat) (u : Int) (E : Nat → Int → Int) (w : yW) (H : Heap) (locs : List Loc) (ls : Array Slot) (c2 s2 : Nat), 0 ≤ u → CW ca T G u ad w → MW ca T E am w → yH D Zk (fun q : Nat => s.heap.size ≤ q) s w H locs → lv_has ls 4 [(0, .ref b), (1, .ref (ad 0)), (2, .ref (am 0)), (3, .int (iI i))] → c2 ≤ cc + 20 → s2 ≤ ss + 3000 → W p l e room_1 s m #[Value.ref b] below meth c H locs c2 s2 (lw_Z below #[Value.ref b] s) (F0 m 1368 ls [])) := by
        intro T G u E w H locs ls c2 s2 hu0 hC hM h hl hc2 hs2
        refine lv_iinc (v := iI (i + 6)) (lv' := [(3, .int (iI (i + 6))), (0, .ref b), (1, .ref (ad 0)), (2, .ref (am 0))]) B.1 B.2.1 dL_law_1368 hl (k := 3) rfl (iI_add _ _) (by decide) rfl (fun ls hl => ?_)
        refine lv_goto (tgt := 18) B.1 B.2.1 dL_law_1371 (by decide) ?_
        exact ih T G u E w H locs ls c2 s2 (i + 6) (by omega) hu0 hC hM h (by omega) (by omega) (lv_sub hl [1, 2, 3, 0] rfl)
      refine lv_aload_n B.1 B.2.1 dL_law_27 rfl (lv_at hl 0 rfl) ?_
      refine lv_iload_n B.1 B.2.1 dL_law_28 rfl (lv_at hl 3 rfl) ?_
      refine y_sld B h hX hbl hbA i.toNat (by omega) dL_law_29 ?_
      refine x_bipush B (by decide) dL_law_30 ?_
      refine lv_iand B.1 B.2.1 dL_law_32 ?_
      refine x_name (fun sw hsw esw => ?_)
      by_cases t0 : sw = 0
      · refine x_tin B (tgt := 176) 0 (by omega) dL_law_33 rfl (by decide) ?_
        exact law_c0 B hX hbl hu0 hC hM h (by omega) (by omega) hl fin
      by_cases t1 : sw = 1
      · refine x_tin B (tgt := 189) 1 (by omega) dL_law_33 rfl (by decide) ?_
        exact law_c1 B hX hbl hu0 hC hM h (by omega) (by omega) hl fin
      by_cases t2 : sw = 2
      · refine x_tin B (tgt := 222) 2 (by omega) dL_law_33 rfl (by decide) ?_
        exact law_c2 B hX hbl hu0 hC hM h (by omega) (by omega) hl fin
      by_cases t3 : sw = 3
      · refine x_tin B (tgt := 265) 3 (by omega) dL_law_33 rfl (by decide) ?_
        exact law_c3 B hX hbl hu0 hC hM h (by omega) (by omega) hl fin
      by_cases t4 : sw = 4
      · refine x_tin B (tgt := 314) 4 (by omega) dL_law_33 rfl (by decide) ?_
        exact law_c4 B hX hbl hu0 hC hM h (by omega) (by omega) hl fin
      by_cases t5 : sw = 5
      · refine x_tin B (tgt := 347) 5 (by omega) dL_law_33 rfl (by decide) ?_
        exact law_c5 B hX hbl hu0 hC hM h (by omega) (by omega) hl fin
      by_cases t6 : sw = 6
      · refine x_tin B (tgt := 410) 6 (by omega) dL_law_33 rfl (by decide) ?_
        exact law_c6 B hX hbl hu0 hC hM h (by omega) (by omega) hl fin
      by_cases t7 : sw = 7
      · refine x_tin B (tgt := 473) 7 (by omega) dL_law_33 rfl (by decide) ?_
        exact law_c7 B hX hbl hu0 hC hM h (by omega) (by omega) hl fin
      by_cases t8 : sw = 8
      · refine x_tin B (tgt := 506) 8 (by omega) dL_law_33 rfl (by decide) ?_
        exact law_c8 B hX hbl hu0 hC hM h (by omega) (by omega) hl fin
      by_cases t9 : sw = 9
      · refine x_tin B (tgt := 539) 9 (by omega) dL_law_33 rfl (by decide) ?_
        exact law_c9 B hX hbl hu0 hC hM h (by omega) (by omega) hl fin
      by_cases t10 : sw = 10
      · refine x_tin B (tgt := 552) 10 (by omega) dL_law_33 rfl (by decide) ?_
        exact law_c10 B hX hbl hu0 hC hM h (by omega) (by omega) hl fin
      by_cases t11 : sw = 11
      · refine x_tin B (tgt := 585) 11 (by omega) dL_law_33 rfl (by decide) ?_
        exact law_c11 B hX hbl hu0 hC hM h (by omega) (by omega) hl fin
      by_cases t12 : sw = 12
      · refine x_tin B (tgt := 638) 12 (by omega) dL_law_33 rfl (by decide) ?_
        exact law_c12 B hX hbl hu0 hC hM h (by omega) (by omega) hl fin
      by_cases t13 : sw = 13
      · refine x_tin B (tgt := 701) 13 (by omega) dL_law_33 rfl (by decide) ?_
        exact law_c13 B hX hbl hu0 hC hM h (by omega) (by omega) hl fin
      by_cases t14 : sw = 14
      · refine x_tin B (tgt := 764) 14 (by omega) dL_law_33 rfl (by decide) ?_
        exact law_c14 B hX hbl hu0 hC hM h (by omega) (by omega) hl fin
      by_cases t15 : sw = 15
      · refine x_tin B (tgt := 827) 15 (by omega) dL_law_33 rfl (by decide) ?_
        exact law_c15 B hX hbl hu0 hC hM h (by omega) (by omega) hl fin
      by_cases t16 : sw = 16
      · refine x_tin B (tgt := 890) 16 (by omega) dL_law_33 rfl (by decide) ?_
        exact law_c16 B hX hbl hu0 hC hM h (by omega) (by omega) hl fin
      by_cases t17 : sw = 17
      · refine x_tin B (tgt := 903) 17 (by omega) dL_law_33 rfl (by decide) ?_
        exact law_c17 B hX hbl hu0 hC hM h (by omega) (by omega) hl fin
      by_cases t18 : sw = 18
      · refine x_tin B (tgt := 936) 18 (by omega) dL_law_33 rfl (by decide) ?_
        exact law_c18 B hX hbl hu0 hC hM h (by omega) (by omega) hl fin
      by_cases t19 : sw = 19
      · refine x_tin B (tgt := 979) 19 (by omega) dL_law_33 rfl (by decide) ?_
        exact law_c19 B hX hbl hu0 hC hM h (by omega) (by omega) hl fin
      by_cases t20 : sw = 20
      · refine x_tin B (tgt := 1012) 20 (by omega) dL_law_33 rfl (by decide) ?_
        exact law_c20 B hX hbl hu0 hC hM h (by omega) (by omega) hl fin
      by_cases t21 : sw = 21
      · refine x_tin B (tgt := 1035) 21 (by omega) dL_law_33 rfl (by decide) ?_
        exact law_c21 B hX hbl hu0 hC hM h (by omega) (by omega) hl fin
      by_cases t22 : sw = 22
      · refine x_tin B (tgt := 1058) 22 (by omega) dL_law_33 rfl (by decide) ?_
        exact law_c22 B hX hbl hu0 hC hM h (by omega) (by omega) hl fin
      by_cases t23 : sw = 23
      · refine x_tin B (tgt := 1091) 23 (by omega) dL_law_33 rfl (by decide) ?_
        exact law_c23 B hX hbl hu0 hC hM h (by omega) (by omega) hl fin
      by_cases t24 : sw = 24
      · refine x_tin B (tgt := 1114) 24 (by omega) dL_law_33 rfl (by decide) ?_
        exact law_c24 B hX hbl hu0 hC hM h (by omega) (by omega) hl fin
      by_cases t25 : sw = 25
      · refine x_tin B (tgt := 1147) 25 (by omega) dL_law_33 rfl (by decide) ?_
        exact law_c25 B hX hbl hu0 hC hM h (by omega) (by omega) hl fin
      by_cases t26 : sw = 26
      · refine x_tin B (tgt := 1200) 26 (by omega) dL_law_33 rfl (by decide) ?_
        exact law_c26 B hX hbl hu0 hC hM h (by omega) (by omega) hl fin
      by_cases t27 : sw = 27
      · refine x_tin B (tgt := 1223) 27 (by omega) dL_law_33 rfl (by decide) ?_
        exact law_c27 B hX hbl hu0 hC hM h (by omega) (by omega) hl fin
      by_cases t28 : sw = 28
      · refine x_tin B (tgt := 1276) 28 (by omega) dL_law_33 rfl (by decide) ?_
        exact law_c28 B hX hbl hu0 hC hM h (by omega) (by omega) hl fin
      by_cases t29 : sw = 29
      · refine x_tin B (tgt := 1309) 29 (by omega) dL_law_33 rfl (by decide) ?_
        exact law_c29 B hX hbl hu0 hC hM h (by omega) (by omega) hl fin
      by_cases t30 : sw = 30
      · refine x_tin B (tgt := 1322) 30 (by omega) dL_law_33 rfl (by decide) ?_
        exact law_c30 B hX hbl hu0 hC hM h (by omega) (by omega) hl fin
      by_cases t31 : sw = 31
      · refine x_tin B (tgt := 1345) 31 (by omega) dL_law_33 rfl (by decide) ?_
        exact law_c31 B hX hbl hu0 hC hM h (by omega) (by omega) hl fin
      refine x_tout B (tgt := 1368) (by omega) dL_law_33 (by decide) ?_
      exact fin T G u E w H locs ls cc ss hu0 hC hM h hl (by omega) (by omega)
