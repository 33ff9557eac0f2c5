theorem AGM.tr {w w1 w2 : yW} (h : AGM w w1) (h2 : AGM w1 w2) : AGM w w2 := fun k hk => (h2 k hk).trans (h k hk)
theorem k_X12_windOf : xMV yX12_windOf cX12_windOf 8 none 1 := ⟨m_1795, m_1794, m_81, m_104, ⟨by decide +kernel, by decide +kernel, by decide +kernel⟩⟩
theorem k_X12_sumsOf : xMV yX12_sumsOf cX12_sumsOf 3 none 1 := ⟨m_1791, m_1790, m_80, m_104, ⟨by decide +kernel, by decide +kernel, by decide +kernel⟩⟩
theorem k_X12_ordersWith : xMV yX12_ordersWith cX12_ordersWith 6 (some .long) 2 := ⟨m_1803, m_1802, m_82, m_104, ⟨by decide +kernel, by decide +kernel, by decide +kernel⟩⟩
abbrev r_c_X12_windOf : Room := { frames := 4, cells := 0, slots := 0, locals := 105 }
set_option maxHeartbeats 4000000 in
set_option maxRecDepth 100000 in
theorem c_X12_windOf (l : Launch) (D : va_G) (Zk : yK) (ca : Nat → ClassId) (T : Nat → Int → Int) (E : Nat → Int → Int) (am : Nat → Nat) (w : yW) (hM : MW ca T E am w) (k : Int)  (hk : 0 ≤ k ∧ k < T 0 2) (hwc : 0 ≤ E 0 5 ∧ E 0 5 ≤ 300) : yC l D Zk ca yX12_windOf cX12_windOf 8 none r_c_X12_windOf [.ref (am 0), .int (iI k)] w (fun r w1 => r = none ∧ ∃ E9 : Nat → Int → Int, MW ca T E9 am w1 ∧ AGM w w1 ∧ (E9 0 5 = E 0 5 ∨ E9 0 5 = E 0 5 + 1)) := by
  refine yC.of2 "WindWordsModel" (by decide) rfl (Nat.le_of_ble_eq_true rfl) ?_
  intro p e s m args below meth c A ls Qf B hnm h hl hQ
  have hl : lv_has ls 8 [(0, .ref (am 0)), (1, .int (iI k))] := hl
  have hs := pi_s (MW.pi hM)
  have hpe := pe_0 (MW.pe hM)
  refine lv_aload_n B.1 B.2.1 dX12_windOf_0 rfl (lv_at hl 0 rfl) ?_
  refine lv_iload_n B.1 B.2.1 dX12_windOf_1 rfl (lv_at hl 1 rfl) ?_
  refine y_cV B h kX12 50 (MW.f hM 0 _ rfl) k_X12_writer rfl (c_X12_writer l D Zk ca T E am _ hM k  (by omega)) m_1736 rfl (by decide) hl.1 [] (Nat.le_of_ble_eq_true rfl) rfl dX12_windOf_2 (fun r w1 hq H locs h => ?_)
  obtain ⟨rfl, _, rfl, rfl⟩ := hq
  have tb1 := pi_3 (MW.pi hM) (1000 * T 4 k + T 5 k)
  show W p l e r_c_X12_windOf s m args below meth c _ _ 0 0 Qf (F0 m 5 ls [.int (iI (T 3 (1000 * T 4 k + T 5 k)))])
  refine lv_istore_n (lv' := [(2, .int (iI (T 3 (1000 * T 4 k + T 5 k)))), (0, .ref (am 0)), (1, .int (iI k))]) B.1 B.2.1 dX12_windOf_5 rfl hl (by decide) rfl (fun ls hl => ?_)
  refine lv_aload_n B.1 B.2.1 dX12_windOf_6 rfl (lv_at hl 1 rfl) ?_
  refine lv_iload_n B.1 B.2.1 dX12_windOf_7 rfl (lv_at hl 0 rfl) ?_
  refine y_cV B h kX12 50 (MW.f hM 0 _ rfl) k_X12_leanLeast rfl (c_X12_leanLeast l D Zk ca T E am _ hM ((T 3 (1000 * T 4 k + T 5 k)))  (by omega)) m_1767 rfl (by decide) hl.1 [] (Nat.le_of_ble_eq_true rfl) rfl dX12_windOf_8 (fun r w1 hq H locs h => ?_)
  obtain ⟨rfl, z2, rfl, hz2⟩ := hq
  show W p l e r_c_X12_windOf s m args below meth c _ _ 0 0 Qf (F0 m 11 ls [.int (iI z2)])
  refine lv_istore_n (lv' := [(3, .int (iI z2)), (2, .int (iI (T 3 (1000 * T 4 k + T 5 k)))), (0, .ref (am 0)), (1, .int (iI k))]) B.1 B.2.1 dX12_windOf_11 rfl hl (by decide) rfl (fun ls hl => ?_)
  refine lv_aload_n B.1 B.2.1 dX12_windOf_12 rfl (lv_at hl 2 rfl) ?_
  refine lv_iload_n B.1 B.2.1 dX12_windOf_13 rfl (lv_at hl 1 rfl) ?_
  refine y_cV B h kX12 50 (MW.f hM 0 _ rfl) k_X12_leanMost rfl (c_X12_leanMost l D Zk ca T E am _ hM ((T 3 (1000 * T 4 k + T 5 k)))  (by omega)) m_1771 rfl (by decide) hl.1 [] (Nat.le_of_ble_eq_true rfl) rfl dX12_windOf_14 (fun r w1 hq H locs h => ?_)
  obtain ⟨rfl, z3, rfl, hz3⟩ := hq
  show W p l e r_c_X12_windOf s m args below meth c _ _ 0 0 Qf (F0 m 17 ls [.int (iI z3)])
  refine lv_istore (lv' := [(4, .int (iI z3)), (3, .int (iI z2)), (2, .int (iI (T 3 (1000 * T 4 k + T 5 k)))), (0, .ref (am 0)), (1, .int (iI k))]) B.1 B.2.1 dX12_windOf_17 hl (by decide) rfl (fun ls hl => ?_)
  refine lv_iload_n B.1 B.2.1 dX12_windOf_19 rfl (lv_at hl 1 rfl) ?_
  refine x_sipush B (by decide) dX12_windOf_20 ?_
  refine x_icmp_le B (by omega) (tgt := 34) dX12_windOf_23 (by decide) (fun c4 => ?_) (fun c4 => ?_)
  · refine y_rv B hQ h (by decide) dX12_windOf_34 ?_
    exact ⟨rfl, E, hM, fun k h1 => rfl, Or.inl rfl⟩
  · refine lv_iload B.1 B.2.1 dX12_windOf_26 (lv_at hl 0 rfl) ?_
    refine x_sipush B (by decide) dX12_windOf_28 ?_
    refine x_icmp_lt B (by omega) (tgt := 35) dX12_windOf_31 (by decide) (fun c5 => ?_) (fun c5 => ?_)
    · refine lv_aload_n B.1 B.2.1 dX12_windOf_35 rfl (lv_at hl 3 rfl) ?_
      refine lv_aload_n B.1 B.2.1 dX12_windOf_36 rfl (lv_at hl 3 rfl) ?_
      refine lv_iload_n B.1 B.2.1 dX12_windOf_37 rfl (lv_at hl 4 rfl) ?_
      refine y_cV B h kX12 50 (MW.f hM 0 _ rfl) k_X12_yearOf rfl (c_X12_yearOf l D Zk ca T E am _ hM k  (by omega)) m_1758 rfl (by decide) hl.1 [.ref (am 0)] (Nat.le_of_ble_eq_true rfl) rfl dX12_windOf_38 (fun r w1 hq H locs h => ?_)
      obtain ⟨rfl, _, rfl, rfl⟩ := hq
      have tb6 := pi_5 (MW.pi hM) k
      show W p l e r_c_X12_windOf s m args below meth c _ _ 0 0 Qf (F0 m 41 ls [.int (iI ((T 5 k) / 100)), .ref (am 0)])
      refine lv_aload_n B.1 B.2.1 dX12_windOf_41 rfl (lv_at hl 3 rfl) ?_
      refine y_getR B h kX12 50 (MW.f hM 0 _ rfl) 17 (b := am 12) rfl m_1278 (by decide) dX12_windOf_42 ?_
      refine lv_iload_n B.1 B.2.1 dX12_windOf_45 rfl (lv_at hl 4 rfl) ?_
      refine y_ialdX B h 62 (MW.f hM 12 _ rfl) (by omega) dX12_windOf_46 ?_
      refine x_iset (z := (T 7 k)) (by show iI (T 7 (((k : Int).toNat : Nat) : Int)) = _; rw [show ((((k : Int).toNat : Nat) : Int)) = k by omega]) ?_
      have tb7 := pi_7 (MW.pi hM) k
      refine lv_aload_n B.1 B.2.1 dX12_windOf_47 rfl (lv_at hl 3 rfl) ?_
      refine y_getR B h kX12 50 (MW.f hM 0 _ rfl) 8 (b := am 3) rfl m_1269 (by decide) dX12_windOf_48 ?_
      refine lv_aload_n B.1 B.2.1 dX12_windOf_51 rfl (lv_at hl 3 rfl) ?_
      refine y_getR B h kX12 50 (MW.f hM 0 _ rfl) 14 (b := am 9) rfl m_1275 (by decide) dX12_windOf_52 ?_
      refine lv_iload_n B.1 B.2.1 dX12_windOf_55 rfl (lv_at hl 4 rfl) ?_
      refine y_ialdX B h 59 (MW.f hM 9 _ rfl) (by omega) dX12_windOf_56 ?_
      refine x_iset (z := (T 4 k)) (by show iI (T 4 (((k : Int).toNat : Nat) : Int)) = _; rw [show ((((k : Int).toNat : Nat) : Int)) = k by omega]) ?_
      have tb8 := pi_4 (MW.pi hM) k
      refine y_ialdX B h 53 (MW.f hM 3 _ rfl) (by omega) dX12_windOf_57 ?_
      refine x_iset (z := (T 1 ((T 4 k)))) (by show iI (T 1 ((((T 4 k) : Int).toNat : Nat) : Int)) = _; rw [show (((((T 4 k) : Int).toNat : Nat) : Int)) = (T 4 k) by omega]) ?_
      have tb9 := pi_1 (MW.pi hM) ((T 4 k))
      refine lv_aload_n B.1 B.2.1 dX12_windOf_58 rfl (lv_at hl 3 rfl) ?_
      refine y_getR B h kX12 50 (MW.f hM 0 _ rfl) 19 (b := am 14) rfl m_1280 (by decide) dX12_windOf_59 ?_
      refine lv_iload_n B.1 B.2.1 dX12_windOf_62 rfl (lv_at hl 4 rfl) ?_
      refine y_ialdX B h 64 (MW.f hM 14 _ rfl) (by omega) dX12_windOf_63 ?_
      refine x_iset (z := (T 9 k)) (by show iI (T 9 (((k : Int).toNat : Nat) : Int)) = _; rw [show ((((k : Int).toNat : Nat) : Int)) = k by omega]) ?_
      have tb10 := pi_9 (MW.pi hM) k
      refine y_cV B h kX12 50 (MW.f hM 0 _ rfl) k_X12_columns rfl (c_X12_columns l D Zk ca T E am _ hM (((T 5 k) / 100)) ((T 7 k)) ((T 1 ((T 4 k)))) ((T 9 k))  (by omega) (by omega) (by omega) (by omega)) m_1707 rfl (by decide) hl.1 [] (Nat.le_of_ble_eq_true rfl) rfl dX12_windOf_64 (fun r w1 hq H locs h => ?_)
      obtain ⟨rfl, rfl⟩ := hq
      show W p l e r_c_X12_windOf s m args below meth c _ _ 0 0 Qf (F0 m 67 ls [])
      refine x_iconst B dX12_windOf_67 ?_
      refine lv_istore (lv' := [(5, .int (iI (-1))), (4, .int (iI z3)), (3, .int (iI z2)), (2, .int (iI (T 3 (1000 * T 4 k + T 5 k)))), (0, .ref (am 0)), (1, .int (iI k))]) B.1 B.2.1 dX12_windOf_68 hl (by decide) rfl (fun ls hl => ?_)
      refine x_iconst B dX12_windOf_70 ?_
      refine lv_istore (lv' := [(6, .int (iI (-1))), (5, .int (iI (-1))), (4, .int (iI z3)), (3, .int (iI z2)), (2, .int (iI (T 3 (1000 * T 4 k + T 5 k)))), (0, .ref (am 0)), (1, .int (iI k))]) B.1 B.2.1 dX12_windOf_71 hl (by decide) rfl (fun ls hl => ?_)
      refine lv_aload_n B.1 B.2.1 dX12_windOf_73 rfl (lv_at hl 5 rfl) ?_
      refine y_getR B h kX12 50 (MW.f hM 0 _ rfl) 18 (b := am 13) rfl m_1279 (by decide) dX12_windOf_74 ?_
      refine lv_iload_n B.1 B.2.1 dX12_windOf_77 rfl (lv_at hl 6 rfl) ?_
      refine y_ialdX B h 63 (MW.f hM 13 _ rfl) (by omega) dX12_windOf_78 ?_
      refine x_iset (z := (T 8 k)) (by show iI (T 8 (((k : Int).toNat : Nat) : Int)) = _; rw [show ((((k : Int).toNat : Nat) : Int)) = k by omega]) ?_
      have tb11 := pi_8 (MW.pi hM) k
      have tb12 := pi_n (MW.pi hM) k
      refine lv_iload B.1 B.2.1 dX12_windOf_79 (lv_at hl 2 rfl) ?_
      refine x_isub B dX12_windOf_81 ?_
      refine x_name (fun z13 hz13 ez13 => ?_)
      refine y_cS B h k_X12_held (c_X12_held l D Zk ca _ z13  (by omega)) m_1691 rfl (by decide) hl.1 [] (Nat.le_of_ble_eq_true rfl) rfl dX12_windOf_82 (fun r w1 hq H locs h => ?_)
      obtain ⟨rfl, z14, rfl, hz14⟩ := hq
      show W p l e r_c_X12_windOf s m args below meth c _ _ 0 0 Qf (F0 m 85 ls [.int (iI z14)])
      refine lv_istore (lv' := [(7, .int (iI z14)), (6, .int (iI (-1))), (5, .int (iI (-1))), (4, .int (iI z3)), (3, .int (iI z2)), (2, .int (iI (T 3 (1000 * T 4 k + T 5 k)))), (0, .ref (am 0)), (1, .int (iI k))]) B.1 B.2.1 dX12_windOf_85 hl (by decide) rfl (fun ls hl => ?_)
      have loop87 : ∀ (n87 : Nat) (wa : Int) (wb9 : Int) (n : Int), (xr wa ∧ xr wb9) → (0 ≤ n ∧ n ≤ 13) → ((13 - n : Int)).toNat < n87 → ∀ (H : Heap) (locs : List Loc) (ls : Array Slot), yH D Zk A s w H locs → lv_has ls 8 [(7, .int (iI n)), (6, .int (iI wb9)), (5, .int (iI wa)), (3, .int (iI z2)), (0, .ref (am 0)), (1, .int (iI k))] → W p l e r_c_X12_windOf s m args below meth c H locs 0 0 Qf (F0 m 87 ls []) := by
        intro n87
        induction n87 with
        | zero =>
          intro wa wb9 n h0 h1 hm87 H locs ls h hl
          exact absurd hm87 (Nat.not_lt_zero _)
        | succ n87 ih87 =>
          intro wa wb9 n h0 h1 hm87 H locs ls h hl
          refine lv_iload B.1 B.2.1 dX12_windOf_87 (lv_at hl 0 rfl) ?_
          refine lv_aload_n B.1 B.2.1 dX12_windOf_89 rfl (lv_at hl 4 rfl) ?_
          refine y_getR B h kX12 50 (MW.f hM 0 _ rfl) 18 (b := am 13) rfl m_1279 (by decide) dX12_windOf_90 ?_
          refine lv_iload_n B.1 B.2.1 dX12_windOf_93 rfl (lv_at hl 5 rfl) ?_
          refine y_ialdX B h 63 (MW.f hM 13 _ rfl) (by omega) dX12_windOf_94 ?_
          refine x_iset (z := (T 8 k)) (by show iI (T 8 (((k : Int).toNat : Nat) : Int)) = _; rw [show ((((k : Int).toNat : Nat) : Int)) = k by omega]) ?_
          refine lv_iload_n B.1 B.2.1 dX12_windOf_95 rfl (lv_at hl 3 rfl) ?_
          refine x_isub B dX12_windOf_96 ?_
          refine x_name (fun z15 hz15 ez15 => ?_)
          refine y_cS B h k_X12_held (c_X12_held l D Zk ca _ z15  (by omega)) m_1691 rfl (by decide) hl.1 [.int (iI n)] (Nat.le_of_ble_eq_true rfl) rfl dX12_windOf_97 (fun r w1 hq H locs h => ?_)
          obtain ⟨rfl, z16, rfl, hz16⟩ := hq
          show W p l e r_c_X12_windOf s m args below meth c _ _ 0 0 Qf (F0 m 100 ls [.int (iI z16), .int (iI n)])
          refine x_icmp_gt B (by omega) (tgt := 179) dX12_windOf_100 (by decide) (fun c17 => ?_) (fun c17 => ?_)
          · refine lv_iload B.1 B.2.1 dX12_windOf_179 (lv_at hl 2 rfl) ?_
            refine x_if_ge B (by omega) (tgt := 185) dX12_windOf_181 (by decide) (fun c18 => ?_) (fun c18 => ?_)
            · refine lv_aload_n B.1 B.2.1 dX12_windOf_185 rfl (lv_at hl 4 rfl) ?_
              refine lv_dup B.1 B.2.1 dX12_windOf_186 rfl ?_
              refine y_getX B h kX12 50 (MW.f hM 0 _ rfl) 58 (z := (E 0 5)) rfl m_1319 (by decide) dX12_windOf_187 ?_
              refine x_iconst B dX12_windOf_190 ?_
              refine x_iadd B dX12_windOf_191 ?_
              refine y_put B h kX12 50 (MW.f hM 0 _ rfl) 58 (Nat.le_of_ble_eq_true rfl) (P' := fX ((E 0 5) + 1)) m_1319 (by decide) rfl rfl rfl rfl dX12_windOf_192 (fun H locs h => ?_)
              have h : yH D Zk A s ((wu w 50 (am 0, mO am T (fX (E 0 0)) (fG 0 900) (fG (-2147483648) 2147483647) (fG 0 900) (fG 0 900) (fG 0 900) (fG (-2147483648) 2147483647) (fG (-2147483648) 2147483647) (fG 0 24) (fG 0 41) (fG 0 319) fL (fG 0 1) (fG 0 48) (fG 0 9) (fX ((E 0 5) + 1))))) _ _ := h
              refine lv_aload_n B.1 B.2.1 dX12_windOf_195 rfl (lv_at hl 4 rfl) ?_
              refine lv_dup B.1 B.2.1 dX12_windOf_196 rfl ?_
              refine y_getG B h kX12 50 wu_eq 59 (lo := (-2147483648)) (hi := 2147483647) rfl m_1320 (by decide) dX12_windOf_197 (fun z19 z19a z19b => ?_)
              refine lv_iload B.1 B.2.1 dX12_windOf_200 (lv_at hl 2 rfl) ?_
              refine x_iadd B dX12_windOf_202 ?_
              refine x_name (fun z20 hz20 ez20 => ?_)
              refine y_putS B h kX12 50 wu_eq 59 (P := fG (-2147483648) 2147483647) rfl m_1320 (by decide) ⟨_, rfl, by omega, by omega⟩ rfl rfl rfl dX12_windOf_203 (fun H locs h => ?_)
              refine lv_aload_n B.1 B.2.1 dX12_windOf_206 rfl (lv_at hl 4 rfl) ?_
              refine lv_dup B.1 B.2.1 dX12_windOf_207 rfl ?_
              refine y_getG B h kX12 50 wu_eq 60 (lo := (-2147483648)) (hi := 2147483647) rfl m_1321 (by decide) dX12_windOf_208 (fun z21 z21a z21b => ?_)
              refine lv_iload B.1 B.2.1 dX12_windOf_211 (lv_at hl 1 rfl) ?_
              refine x_iadd B dX12_windOf_213 ?_
              refine x_name (fun z22 hz22 ez22 => ?_)
              refine y_putS B h kX12 50 wu_eq 60 (P := fG (-2147483648) 2147483647) rfl m_1321 (by decide) ⟨_, rfl, by omega, by omega⟩ rfl rfl rfl dX12_windOf_214 (fun H locs h => ?_)
              refine y_rv B hQ h (by decide) dX12_windOf_217 ?_
              exact ⟨rfl, _, MW.wc hM, fun k h1 => by rw [wu_ne (by omega)], Or.inr (if_pos ⟨rfl, rfl⟩)⟩
            · refine y_rv B hQ h (by decide) dX12_windOf_184 ?_
              exact ⟨rfl, E, hM, fun k h1 => rfl, Or.inl rfl⟩
          · refine lv_aload_n B.1 B.2.1 dX12_windOf_103 rfl (lv_at hl 4 rfl) ?_
            refine y_getR B h kX12 50 (MW.f hM 0 _ rfl) 49 (b := am 29) rfl m_1310 (by decide) dX12_windOf_104 ?_
            refine lv_iload B.1 B.2.1 dX12_windOf_107 (lv_at hl 0 rfl) ?_
            refine y_iald B h 79 (MW.f hM 29 _ rfl) (by omega) dX12_windOf_109 (fun fz23 hfz23 => ?_)
            refine x_name (fun z23 hz23 ez23 => ?_)
            refine x_if_ge B (by omega) (tgt := 116) dX12_windOf_110 (by decide) (fun c24 => ?_) (fun c24 => ?_)
            · refine lv_iload B.1 B.2.1 dX12_windOf_116 (lv_at hl 2 rfl) ?_
              refine x_if_lt B (by omega) (tgt := 133) dX12_windOf_118 (by decide) (fun c25 => ?_) (fun c25 => ?_)
              · refine lv_aload_n B.1 B.2.1 dX12_windOf_133 rfl (lv_at hl 4 rfl) ?_
                refine y_getR B h kX12 50 (MW.f hM 0 _ rfl) 49 (b := am 29) rfl m_1310 (by decide) dX12_windOf_134 ?_
                refine lv_iload B.1 B.2.1 dX12_windOf_137 (lv_at hl 0 rfl) ?_
                refine y_iald B h 79 (MW.f hM 29 _ rfl) (by omega) dX12_windOf_139 (fun fz26 hfz26 => ?_)
                refine x_name (fun z26 hz26 ez26 => ?_)
                refine lv_goto (tgt := 145) B.1 B.2.1 dX12_windOf_140 (by decide) ?_
                refine lv_istore (lv' := [(5, .int (iI z26)), (7, .int (iI n)), (6, .int (iI wb9)), (3, .int (iI z2)), (0, .ref (am 0)), (1, .int (iI k))]) B.1 B.2.1 dX12_windOf_145 hl (by decide) rfl (fun ls hl => ?_)
                refine lv_aload_n B.1 B.2.1 dX12_windOf_147 rfl (lv_at hl 4 rfl) ?_
                refine y_getR B h kX12 50 (MW.f hM 0 _ rfl) 50 (b := am 30) rfl m_1311 (by decide) dX12_windOf_148 ?_
                refine lv_iload B.1 B.2.1 dX12_windOf_151 (lv_at hl 1 rfl) ?_
                refine y_iald B h 80 (MW.f hM 30 _ rfl) (by omega) dX12_windOf_153 (fun fz27 hfz27 => ?_)
                refine x_name (fun z27 hz27 ez27 => ?_)
                refine lv_iload B.1 B.2.1 dX12_windOf_154 (lv_at hl 2 rfl) ?_
                refine x_icmp_le B (by omega) (tgt := 169) dX12_windOf_156 (by decide) (fun c28 => ?_) (fun c28 => ?_)
                · refine lv_iload B.1 B.2.1 dX12_windOf_169 (lv_at hl 2 rfl) ?_
                  refine lv_istore (lv' := [(6, .int (iI wb9)), (5, .int (iI z26)), (7, .int (iI n)), (3, .int (iI z2)), (0, .ref (am 0)), (1, .int (iI k))]) B.1 B.2.1 dX12_windOf_171 hl (by decide) rfl (fun ls hl => ?_)
                  refine lv_iinc (v := iI (n + 1)) (lv' := [(7, .int (iI (n + 1))), (6, .int (iI wb9)), (5, .int (iI z26)), (3, .int (iI z2)), (0, .ref (am 0)), (1, .int (iI k))]) B.1 B.2.1 dX12_windOf_173 hl (k := 2) rfl (iI_add _ _) (by decide) rfl (fun ls hl => ?_)
                  refine lv_goto (tgt := 87) B.1 B.2.1 dX12_windOf_176 (by decide) ?_
                  exact ih87 z26 wb9 ((n + 1)) (by omega) (by omega) (by omega) _ _ _ h (lv_sub hl [0, 1, 2, 3, 4, 5] rfl)
                · refine lv_aload_n B.1 B.2.1 dX12_windOf_159 rfl (lv_at hl 4 rfl) ?_
                  refine y_getR B h kX12 50 (MW.f hM 0 _ rfl) 50 (b := am 30) rfl m_1311 (by decide) dX12_windOf_160 ?_
                  refine lv_iload B.1 B.2.1 dX12_windOf_163 (lv_at hl 1 rfl) ?_
                  refine y_iald B h 80 (MW.f hM 30 _ rfl) (by omega) dX12_windOf_165 (fun fz29 hfz29 => ?_)
                  refine x_name (fun z29 hz29 ez29 => ?_)
                  refine lv_goto (tgt := 171) B.1 B.2.1 dX12_windOf_166 (by decide) ?_
                  refine lv_istore (lv' := [(6, .int (iI z29)), (5, .int (iI z26)), (7, .int (iI n)), (3, .int (iI z2)), (0, .ref (am 0)), (1, .int (iI k))]) B.1 B.2.1 dX12_windOf_171 hl (by decide) rfl (fun ls hl => ?_)
                  refine lv_iinc (v := iI (n + 1)) (lv' := [(7, .int (iI (n + 1))), (6, .int (iI z29)), (5, .int (iI z26)), (3, .int (iI z2)), (0, .ref (am 0)), (1, .int (iI k))]) B.1 B.2.1 dX12_windOf_173 hl (k := 2) rfl (iI_add _ _) (by decide) rfl (fun ls hl => ?_)
                  refine lv_goto (tgt := 87) B.1 B.2.1 dX12_windOf_176 (by decide) ?_
                  exact ih87 z26 z29 ((n + 1)) (by omega) (by omega) (by omega) _ _ _ h (lv_sub hl [0, 1, 2, 3, 4, 5] rfl)
              · refine lv_aload_n B.1 B.2.1 dX12_windOf_121 rfl (lv_at hl 4 rfl) ?_
                refine y_getR B h kX12 50 (MW.f hM 0 _ rfl) 49 (b := am 29) rfl m_1310 (by decide) dX12_windOf_122 ?_
                refine lv_iload B.1 B.2.1 dX12_windOf_125 (lv_at hl 0 rfl) ?_
                refine y_iald B h 79 (MW.f hM 29 _ rfl) (by omega) dX12_windOf_127 (fun fz30 hfz30 => ?_)
                refine x_name (fun z30 hz30 ez30 => ?_)
                refine lv_iload B.1 B.2.1 dX12_windOf_128 (lv_at hl 2 rfl) ?_
                refine x_icmp_ge B (by omega) (tgt := 143) dX12_windOf_130 (by decide) (fun c31 => ?_) (fun c31 => ?_)
                · refine lv_iload B.1 B.2.1 dX12_windOf_143 (lv_at hl 2 rfl) ?_
                  refine lv_istore (lv' := [(5, .int (iI wa)), (7, .int (iI n)), (6, .int (iI wb9)), (3, .int (iI z2)), (0, .ref (am 0)), (1, .int (iI k))]) B.1 B.2.1 dX12_windOf_145 hl (by decide) rfl (fun ls hl => ?_)
                  refine lv_aload_n B.1 B.2.1 dX12_windOf_147 rfl (lv_at hl 4 rfl) ?_
                  refine y_getR B h kX12 50 (MW.f hM 0 _ rfl) 50 (b := am 30) rfl m_1311 (by decide) dX12_windOf_148 ?_
                  refine lv_iload B.1 B.2.1 dX12_windOf_151 (lv_at hl 1 rfl) ?_
                  refine y_iald B h 80 (MW.f hM 30 _ rfl) (by omega) dX12_windOf_153 (fun fz32 hfz32 => ?_)
                  refine x_name (fun z32 hz32 ez32 => ?_)
                  refine lv_iload B.1 B.2.1 dX12_windOf_154 (lv_at hl 2 rfl) ?_
                  refine x_icmp_le B (by omega) (tgt := 169) dX12_windOf_156 (by decide) (fun c33 => ?_) (fun c33 => ?_)
                  · refine lv_iload B.1 B.2.1 dX12_windOf_169 (lv_at hl 2 rfl) ?_
                    refine lv_istore (lv' := [(6, .int (iI wb9)), (5, .int (iI wa)), (7, .int (iI n)), (3, .int (iI z2)), (0, .ref (am 0)), (1, .int (iI k))]) B.1 B.2.1 dX12_windOf_171 hl (by decide) rfl (fun ls hl => ?_)
                    refine lv_iinc (v := iI (n + 1)) (lv' := [(7, .int (iI (n + 1))), (6, .int (iI wb9)), (5, .int (iI wa)), (3, .int (iI z2)), (0, .ref (am 0)), (1, .int (iI k))]) B.1 B.2.1 dX12_windOf_173 hl (k := 2) rfl (iI_add _ _) (by decide) rfl (fun ls hl => ?_)
                    refine lv_goto (tgt := 87) B.1 B.2.1 dX12_windOf_176 (by decide) ?_
                    exact ih87 wa wb9 ((n + 1)) (by omega) (by omega) (by omega) _ _ _ h (lv_sub hl [0, 1, 2, 3, 4, 5] rfl)
                  · refine lv_aload_n B.1 B.2.1 dX12_windOf_159 rfl (lv_at hl 4 rfl) ?_
                    refine y_getR B h kX12 50 (MW.f hM 0 _ rfl) 50 (b := am 30) rfl m_1311 (by decide) dX12_windOf_160 ?_
                    refine lv_iload B.1 B.2.1 dX12_windOf_163 (lv_at hl 1 rfl) ?_
                    refine y_iald B h 80 (MW.f hM 30 _ rfl) (by omega) dX12_windOf_165 (fun fz34 hfz34 => ?_)
                    refine x_name (fun z34 hz34 ez34 => ?_)
                    refine lv_goto (tgt := 171) B.1 B.2.1 dX12_windOf_166 (by decide) ?_
                    refine lv_istore (lv' := [(6, .int (iI z34)), (5, .int (iI wa)), (7, .int (iI n)), (3, .int (iI z2)), (0, .ref (am 0)), (1, .int (iI k))]) B.1 B.2.1 dX12_windOf_171 hl (by decide) rfl (fun ls hl => ?_)
                    refine lv_iinc (v := iI (n + 1)) (lv' := [(7, .int (iI (n + 1))), (6, .int (iI z34)), (5, .int (iI wa)), (3, .int (iI z2)), (0, .ref (am 0)), (1, .int (iI k))]) B.1 B.2.1 dX12_windOf_173 hl (k := 2) rfl (iI_add _ _) (by decide) rfl (fun ls hl => ?_)
                    refine lv_goto (tgt := 87) B.1 B.2.1 dX12_windOf_176 (by decide) ?_
                    exact ih87 wa z34 ((n + 1)) (by omega) (by omega) (by omega) _ _ _ h (lv_sub hl [0, 1, 2, 3, 4, 5] rfl)
                · refine lv_aload_n B.1 B.2.1 dX12_windOf_133 rfl (lv_at hl 4 rfl) ?_
                  refine y_getR B h kX12 50 (MW.f hM 0 _ rfl) 49 (b := am 29) rfl m_1310 (by decide) dX12_windOf_134 ?_
                  refine lv_iload B.1 B.2.1 dX12_windOf_137 (lv_at hl 0 rfl) ?_
                  refine y_iald B h 79 (MW.f hM 29 _ rfl) (by omega) dX12_windOf_139 (fun fz35 hfz35 => ?_)
                  refine x_name (fun z35 hz35 ez35 => ?_)
                  refine lv_goto (tgt := 145) B.1 B.2.1 dX12_windOf_140 (by decide) ?_
                  refine lv_istore (lv' := [(5, .int (iI z35)), (7, .int (iI n)), (6, .int (iI wb9)), (3, .int (iI z2)), (0, .ref (am 0)), (1, .int (iI k))]) B.1 B.2.1 dX12_windOf_145 hl (by decide) rfl (fun ls hl => ?_)
                  refine lv_aload_n B.1 B.2.1 dX12_windOf_147 rfl (lv_at hl 4 rfl) ?_
                  refine y_getR B h kX12 50 (MW.f hM 0 _ rfl) 50 (b := am 30) rfl m_1311 (by decide) dX12_windOf_148 ?_
                  refine lv_iload B.1 B.2.1 dX12_windOf_151 (lv_at hl 1 rfl) ?_
                  refine y_iald B h 80 (MW.f hM 30 _ rfl) (by omega) dX12_windOf_153 (fun fz36 hfz36 => ?_)
                  refine x_name (fun z36 hz36 ez36 => ?_)
                  refine lv_iload B.1 B.2.1 dX12_windOf_154 (lv_at hl 2 rfl) ?_
                  refine x_icmp_le B (by omega) (tgt := 169) dX12_windOf_156 (by decide) (fun c37 => ?_) (fun c37 => ?_)
                  · refine lv_iload B.1 B.2.1 dX12_windOf_169 (lv_at hl 2 rfl) ?_
                    refine lv_istore (lv' := [(6, .int (iI wb9)), (5, .int (iI z35)), (7, .int (iI n)), (3, .int (iI z2)), (0, .ref (am 0)), (1, .int (iI k))]) B.1 B.2.1 dX12_windOf_171 hl (by decide) rfl (fun ls hl => ?_)
                    refine lv_iinc (v := iI (n + 1)) (lv' := [(7, .int (iI (n + 1))), (6, .int (iI wb9)), (5, .int (iI z35)), (3, .int (iI z2)), (0, .ref (am 0)), (1, .int (iI k))]) B.1 B.2.1 dX12_windOf_173 hl (k := 2) rfl (iI_add _ _) (by decide) rfl (fun ls hl => ?_)
                    refine lv_goto (tgt := 87) B.1 B.2.1 dX12_windOf_176 (by decide) ?_
                    exact ih87 z35 wb9 ((n + 1)) (by omega) (by omega) (by omega) _ _ _ h (lv_sub hl [0, 1, 2, 3, 4, 5] rfl)
                  · refine lv_aload_n B.1 B.2.1 dX12_windOf_159 rfl (lv_at hl 4 rfl) ?_
                    refine y_getR B h kX12 50 (MW.f hM 0 _ rfl) 50 (b := am 30) rfl m_1311 (by decide) dX12_windOf_160 ?_
                    refine lv_iload B.1 B.2.1 dX12_windOf_163 (lv_at hl 1 rfl) ?_
                    refine y_iald B h 80 (MW.f hM 30 _ rfl) (by omega) dX12_windOf_165 (fun fz38 hfz38 => ?_)
                    refine x_name (fun z38 hz38 ez38 => ?_)
                    refine lv_goto (tgt := 171) B.1 B.2.1 dX12_windOf_166 (by decide) ?_
                    refine lv_istore (lv' := [(6, .int (iI z38)), (5, .int (iI z35)), (7, .int (iI n)), (3, .int (iI z2)), (0, .ref (am 0)), (1, .int (iI k))]) B.1 B.2.1 dX12_windOf_171 hl (by decide) rfl (fun ls hl => ?_)
                    refine lv_iinc (v := iI (n + 1)) (lv' := [(7, .int (iI (n + 1))), (6, .int (iI z38)), (5, .int (iI z35)), (3, .int (iI z2)), (0, .ref (am 0)), (1, .int (iI k))]) B.1 B.2.1 dX12_windOf_173 hl (k := 2) rfl (iI_add _ _) (by decide) rfl (fun ls hl => ?_)
                    refine lv_goto (tgt := 87) B.1 B.2.1 dX12_windOf_176 (by decide) ?_
                    exact ih87 z35 z38 ((n + 1)) (by omega) (by omega) (by omega) _ _ _ h (lv_sub hl [0, 1, 2, 3, 4, 5] rfl)
            · refine lv_goto (tgt := 173) B.1 B.2.1 dX12_windOf_113 (by decide) ?_
              refine lv_iinc (v := iI (n + 1)) (lv' := [(7, .int (iI (n + 1))), (6, .int (iI wb9)), (5, .int (iI wa)), (3, .int (iI z2)), (0, .ref (am 0)), (1, .int (iI k))]) B.1 B.2.1 dX12_windOf_173 hl (k := 0) rfl (iI_add _ _) (by decide) rfl (fun ls hl => ?_)
              refine lv_goto (tgt := 87) B.1 B.2.1 dX12_windOf_176 (by decide) ?_
              exact ih87 wa wb9 ((n + 1)) (by omega) (by omega) (by omega) _ _ _ h (lv_sub hl [0, 1, 2, 3, 4, 5] rfl)
      exact loop87 (((13 - z14 : Int)).toNat + 1) ((-1)) ((-1)) z14 (by omega) (by omega) (Nat.lt_succ_self _) _ _ _ h (lv_sub hl [0, 1, 2, 4, 6, 7] rfl)
    · refine y_rv B hQ h (by decide) dX12_windOf_34 ?_
      exact ⟨rfl, E, hM, fun k h1 => rfl, Or.inl rfl⟩
abbrev r_c_X12_sumsOf : Room := { frames := 5, cells := 0, slots := 0, locals := 132 }
set_option maxHeartbeats 4000000 in
set_option maxRecDepth 100000 in
theorem c_X12_sumsOf (l : Launch) (D : va_G) (Zk : yK) (ca : Nat → ClassId) (T : Nat → Int → Int) (E : Nat → Int → Int) (am : Nat → Nat) (w : yW) (hM : MW ca T E am w) (year : Int)  (hyear : xr year) : yC l D Zk ca yX12_sumsOf cX12_sumsOf 3 none r_c_X12_sumsOf [.ref (am 0), .int (iI year)] w (fun r w1 => r = none ∧ ∃ E9 : Nat → Int → Int, MW ca T E9 am w1 ∧ AGM w w1 ∧ (0 ≤ E9 0 5 ∧ E9 0 5 ≤ 300)) := by
  refine yC.of2 "WindWordsModel" (by decide) rfl (Nat.le_of_ble_eq_true rfl) ?_
  intro p e s m args below meth c A ls Qf B hnm h hl hQ
  have hl : lv_has ls 3 [(0, .ref (am 0)), (1, .int (iI year))] := hl
  have hs := pi_s (MW.pi hM)
  have hpe := pe_0 (MW.pe hM)
  refine lv_aload_n B.1 B.2.1 dX12_sumsOf_0 rfl (lv_at hl 0 rfl) ?_
  refine x_iconst B dX12_sumsOf_1 ?_
  refine y_put B h kX12 50 (MW.f hM 0 _ rfl) 58 (Nat.le_of_ble_eq_true rfl) (P' := fX 0) m_1319 (by decide) rfl rfl rfl rfl dX12_sumsOf_2 (fun H locs h => ?_)
  have h : yH D Zk A s ((wu w 50 (am 0, mO am T (fX (E 0 0)) (fG 0 900) (fG (-2147483648) 2147483647) (fG 0 900) (fG 0 900) (fG 0 900) (fG (-2147483648) 2147483647) (fG (-2147483648) 2147483647) (fG 0 24) (fG 0 41) (fG 0 319) fL (fG 0 1) (fG 0 48) (fG 0 9) (fX 0)))) _ _ := h
  refine lv_aload_n B.1 B.2.1 dX12_sumsOf_5 rfl (lv_at hl 0 rfl) ?_
  refine x_iconst B dX12_sumsOf_6 ?_
  refine y_putS B h kX12 50 wu_eq 59 (P := fG (-2147483648) 2147483647) rfl m_1320 (by decide) ⟨_, rfl, by omega, by omega⟩ rfl rfl rfl dX12_sumsOf_7 (fun H locs h => ?_)
  refine lv_aload_n B.1 B.2.1 dX12_sumsOf_10 rfl (lv_at hl 0 rfl) ?_
  refine x_iconst B dX12_sumsOf_11 ?_
  refine y_putS B h kX12 50 wu_eq 60 (P := fG (-2147483648) 2147483647) rfl m_1321 (by decide) ⟨_, rfl, by omega, by omega⟩ rfl rfl rfl dX12_sumsOf_12 (fun H locs h => ?_)
  refine x_iconst B dX12_sumsOf_15 ?_
  refine lv_istore_n (lv' := [(2, .int (iI 0)), (0, .ref (am 0)), (1, .int (iI year))]) B.1 B.2.1 dX12_sumsOf_16 rfl hl (by decide) rfl (fun ls hl => ?_)
  have loop17 : ∀ (n17 : Nat) (k : Int) (E9 : Nat → Int → Int) (w9 : yW), (0 ≤ k ∧ k ≤ T 0 2) → (0 ≤ E9 0 5 ∧ E9 0 5 ≤ k) → (MW ca T E9 am w9 ∧ AGM w w9) → ((T 0 2 - k : Int)).toNat < n17 → ∀ (H : Heap) (locs : List Loc) (ls : Array Slot), yH D Zk A s w9 H locs → lv_has ls 3 [(2, .int (iI k)), (0, .ref (am 0)), (1, .int (iI year))] → W p l e r_c_X12_sumsOf s m args below meth c H locs 0 0 Qf (F0 m 17 ls []) := by
    intro n17
    induction n17 with
    | zero =>
      intro k E9 w9 h0 hc9 hW hm17 H locs ls h hl
      exact absurd hm17 (Nat.not_lt_zero _)
    | succ n17 ih17 =>
      intro k E9 w9 h0 hc9 hW hm17 H locs ls h hl
      refine lv_iload_n B.1 B.2.1 dX12_sumsOf_17 rfl (lv_at hl 0 rfl) ?_
      refine lv_aload_n B.1 B.2.1 dX12_sumsOf_18 rfl (lv_at hl 1 rfl) ?_
      refine y_getX B h kX12 50 (MW.f hW.1 0 _ rfl) 4 (z := (T 0 2)) rfl m_1265 (by decide) dX12_sumsOf_19 ?_
      refine x_icmp_ge B (by omega) (tgt := 61) dX12_sumsOf_22 (by decide) (fun c1 => ?_) (fun c1 => ?_)
      · refine y_rv B hQ h (by decide) dX12_sumsOf_61 ?_
        exact ⟨rfl, E9, hW.1, hW.2, by omega⟩
      · refine lv_aload_n B.1 B.2.1 dX12_sumsOf_25 rfl (lv_at hl 1 rfl) ?_
        refine lv_iload_n B.1 B.2.1 dX12_sumsOf_26 rfl (lv_at hl 0 rfl) ?_
        refine y_cV B h kX12 50 (MW.f hW.1 0 _ rfl) k_X12_isMan rfl (c_X12_isMan l D Zk ca T E9 am _ hW.1 k  (by omega)) m_1728 rfl (by decide) hl.1 [] (Nat.le_of_ble_eq_true rfl) rfl dX12_sumsOf_27 (fun r w1 hq H locs h => ?_)
        obtain ⟨rfl, _, rfl, ⟨rfl, b2⟩ | ⟨rfl, b2⟩⟩ := hq
        · show W p l e r_c_X12_sumsOf s m args below meth c _ _ 0 0 Qf (F0 m 30 ls [.int (iI 1)])
          refine x_if_eq B (by omega) (tgt := 55) dX12_sumsOf_30 (by decide) (fun c3 => ?_) (fun c3 => ?_)
          · exact absurd c3 (by omega)
          · refine lv_aload_n B.1 B.2.1 dX12_sumsOf_33 rfl (lv_at hl 1 rfl) ?_
            refine lv_iload_n B.1 B.2.1 dX12_sumsOf_34 rfl (lv_at hl 0 rfl) ?_
            refine y_cV B h kX12 50 (MW.f hW.1 0 _ rfl) k_X12_yearOf rfl (c_X12_yearOf l D Zk ca T E9 am _ hW.1 k  (by omega)) m_1758 rfl (by decide) hl.1 [] (Nat.le_of_ble_eq_true rfl) rfl dX12_sumsOf_35 (fun r w1 hq H locs h => ?_)
            obtain ⟨rfl, _, rfl, rfl⟩ := hq
            have tb4 := pi_5 (MW.pi hW.1) k
            show W p l e r_c_X12_sumsOf s m args below meth c _ _ 0 0 Qf (F0 m 38 ls [.int (iI ((T 5 k) / 100))])
            refine lv_iload_n B.1 B.2.1 dX12_sumsOf_38 rfl (lv_at hl 2 rfl) ?_
            refine x_icmp_ne B (by omega) (tgt := 55) dX12_sumsOf_39 (by decide) (fun c5 => ?_) (fun c5 => ?_)
            · refine lv_iinc (v := iI (k + 1)) (lv' := [(2, .int (iI (k + 1))), (0, .ref (am 0)), (1, .int (iI year))]) B.1 B.2.1 dX12_sumsOf_55 hl (k := 0) rfl (iI_add _ _) (by decide) rfl (fun ls hl => ?_)
              refine lv_goto (tgt := 17) B.1 B.2.1 dX12_sumsOf_58 (by decide) ?_
              exact ih17 ((k + 1)) E9 w9 (by omega) (by omega) ⟨hW.1, hW.2⟩ (by omega) _ _ _ h (lv_sub hl [0, 1, 2] rfl)
            · refine lv_aload_n B.1 B.2.1 dX12_sumsOf_42 rfl (lv_at hl 1 rfl) ?_
              refine lv_iload_n B.1 B.2.1 dX12_sumsOf_43 rfl (lv_at hl 0 rfl) ?_
              refine y_cV B h kX12 50 (MW.f hW.1 0 _ rfl) k_X12_isTrustedOne rfl (c_X12_isTrustedOne l D Zk ca T E9 am _ hW.1 k  (by omega)) m_1732 rfl (by decide) hl.1 [] (Nat.le_of_ble_eq_true rfl) rfl dX12_sumsOf_44 (fun r w1 hq H locs h => ?_)
              obtain ⟨rfl, _, rfl, ⟨rfl, b6⟩ | ⟨rfl, b6⟩⟩ := hq
              · show W p l e r_c_X12_sumsOf s m args below meth c _ _ 0 0 Qf (F0 m 47 ls [.int (iI 1)])
                refine x_if_eq B (by omega) (tgt := 55) dX12_sumsOf_47 (by decide) (fun c7 => ?_) (fun c7 => ?_)
                · exact absurd c7 (by omega)
                · refine lv_aload_n B.1 B.2.1 dX12_sumsOf_50 rfl (lv_at hl 1 rfl) ?_
                  refine lv_iload_n B.1 B.2.1 dX12_sumsOf_51 rfl (lv_at hl 0 rfl) ?_
                  refine y_cV B h kX12 50 (MW.f hW.1 0 _ rfl) k_X12_windOf rfl (c_X12_windOf l D Zk ca T E9 am _ hW.1 k  (by omega) (by omega)) m_1792 rfl (by decide) hl.1 [] (Nat.le_of_ble_eq_true rfl) rfl dX12_sumsOf_52 (fun r w1 hq H locs h => ?_)
                  obtain ⟨rfl, E8, hM8, hag8, hx8⟩ := hq
                  show W p l e r_c_X12_sumsOf s m args below meth c _ _ 0 0 Qf (F0 m 55 ls [])
                  refine lv_iinc (v := iI (k + 1)) (lv' := [(2, .int (iI (k + 1))), (0, .ref (am 0)), (1, .int (iI year))]) B.1 B.2.1 dX12_sumsOf_55 hl (k := 0) rfl (iI_add _ _) (by decide) rfl (fun ls hl => ?_)
                  refine lv_goto (tgt := 17) B.1 B.2.1 dX12_sumsOf_58 (by decide) ?_
                  exact ih17 ((k + 1)) E8 w1 (by omega) (by have q9 := hx8; omega) ⟨hM8, (AGM.tr hW.2 hag8)⟩ (by omega) _ _ _ h (lv_sub hl [0, 1, 2] rfl)
              · show W p l e r_c_X12_sumsOf s m args below meth c _ _ 0 0 Qf (F0 m 47 ls [.int (iI 0)])
                refine x_if_eq B (by omega) (tgt := 55) dX12_sumsOf_47 (by decide) (fun c9 => ?_) (fun c9 => ?_)
                · refine lv_iinc (v := iI (k + 1)) (lv' := [(2, .int (iI (k + 1))), (0, .ref (am 0)), (1, .int (iI year))]) B.1 B.2.1 dX12_sumsOf_55 hl (k := 0) rfl (iI_add _ _) (by decide) rfl (fun ls hl => ?_)
                  refine lv_goto (tgt := 17) B.1 B.2.1 dX12_sumsOf_58 (by decide) ?_
                  exact ih17 ((k + 1)) E9 w9 (by omega) (by omega) ⟨hW.1, hW.2⟩ (by omega) _ _ _ h (lv_sub hl [0, 1, 2] rfl)
                · exact absurd c9 (by omega)
        · show W p l e r_c_X12_sumsOf s m args below meth c _ _ 0 0 Qf (F0 m 30 ls [.int (iI 0)])
          refine x_if_eq B (by omega) (tgt := 55) dX12_sumsOf_30 (by decide) (fun c10 => ?_) (fun c10 => ?_)
          · refine lv_iinc (v := iI (k + 1)) (lv' := [(2, .int (iI (k + 1))), (0, .ref (am 0)), (1, .int (iI year))]) B.1 B.2.1 dX12_sumsOf_55 hl (k := 0) rfl (iI_add _ _) (by decide) rfl (fun ls hl => ?_)
            refine lv_goto (tgt := 17) B.1 B.2.1 dX12_sumsOf_58 (by decide) ?_
            exact ih17 ((k + 1)) E9 w9 (by omega) (by omega) ⟨hW.1, hW.2⟩ (by omega) _ _ _ h (lv_sub hl [0, 1, 2] rfl)
          · exact absurd c10 (by omega)
  exact loop17 (((T 0 2 - 0 : Int)).toNat + 1) 0 ((eu E 5 0)) ((wu w 50 (am 0, mO am T (fX (E 0 0)) (fG 0 900) (fG (-2147483648) 2147483647) (fG 0 900) (fG 0 900) (fG 0 900) (fG (-2147483648) 2147483647) (fG (-2147483648) 2147483647) (fG 0 24) (fG 0 41) (fG 0 319) fL (fG 0 1) (fG 0 48) (fG 0 9) (fX 0)))) (by omega) (by have q9 : eu E 5 0 0 5 = 0 := if_pos ⟨rfl, rfl⟩; omega) ⟨MW.wc hM, fun k h1 => by rw [wu_ne (by omega)]⟩ (Nat.lt_succ_self _) _ _ _ h (lv_sub hl [0, 1, 2] rfl)
abbrev r_c_X12_wind : Room := { frames := 6, cells := 0, slots := 0, locals := 154 }
set_option maxHeartbeats 4000000 in
set_option maxRecDepth 100000 in
theorem c_X12_wind (l : Launch) (D : va_G) (Zk : yK) (ca : Nat → ClassId) (T : Nat → Int → Int) (E : Nat → Int → Int) (am : Nat → Nat) (w : yW) (hM : MW ca T E am w) (year : Int) (what : Int)  (hyear : xr year) (hwhat : xr what) : yC l D Zk ca yX12_wind cX12_wind 3 (some .int) r_c_X12_wind [.ref (am 0), .int (iI year), .int (iI what)] w (fun r w1 => ∃ z : Int, r = some (.int (iI z)) ∧ ∃ E9 : Nat → Int → Int, MW ca T E9 am w1 ∧ AGM w w1) := by
  refine yC.of2 "WindWordsModel" (by decide) rfl (Nat.le_of_ble_eq_true rfl) ?_
  intro p e s m args below meth c A ls Qf B hnm h hl hQ
  have hl : lv_has ls 3 [(0, .ref (am 0)), (1, .int (iI year)), (2, .int (iI what))] := hl
  have hs := pi_s (MW.pi hM)
  have hpe := pe_0 (MW.pe hM)
  refine lv_iload_n B.1 B.2.1 dX12_wind_0 rfl (lv_at hl 1 rfl) ?_
  refine x_iconst B dX12_wind_1 ?_
  refine x_bipush B (by decide) dX12_wind_2 ?_
  refine y_cS B h k_X12_within (c_X12_within l D Zk ca _ year 0 9  (by omega) (by omega) (by omega)) m_1515 rfl (by decide) hl.1 [] (Nat.le_of_ble_eq_true rfl) rfl dX12_wind_4 (fun r w1 hq H locs h => ?_)
  obtain ⟨rfl, _, rfl, ⟨rfl, b1⟩ | ⟨rfl, b1⟩⟩ := hq
  · show W p l e r_c_X12_wind s m args below meth c _ _ 0 0 Qf (F0 m 7 ls [.int (iI 1)])
    refine x_if_eq B (by omega) (tgt := 19) dX12_wind_7 (by decide) (fun c2 => ?_) (fun c2 => ?_)
    · exact absurd c2 (by omega)
    · refine lv_iload_n B.1 B.2.1 dX12_wind_10 rfl (lv_at hl 2 rfl) ?_
      refine x_iconst B dX12_wind_11 ?_
      refine x_iconst B dX12_wind_12 ?_
      refine y_cS B h k_X12_within (c_X12_within l D Zk ca _ what 0 2  (by omega) (by omega) (by omega)) m_1515 rfl (by decide) hl.1 [] (Nat.le_of_ble_eq_true rfl) rfl dX12_wind_13 (fun r w1 hq H locs h => ?_)
      obtain ⟨rfl, _, rfl, ⟨rfl, b3⟩ | ⟨rfl, b3⟩⟩ := hq
      · show W p l e r_c_X12_wind s m args below meth c _ _ 0 0 Qf (F0 m 16 ls [.int (iI 1)])
        refine x_if_ne B (by omega) (tgt := 21) dX12_wind_16 (by decide) (fun c4 => ?_) (fun c4 => ?_)
        · refine lv_aload_n B.1 B.2.1 dX12_wind_21 rfl (lv_at hl 0 rfl) ?_
          refine y_cV B h kX12 50 (MW.f hM 0 _ rfl) k_X12_findLeans rfl (c_X12_findLeans l D Zk ca T E am _ hM   ) m_1723 rfl (by decide) hl.1 [] (Nat.le_of_ble_eq_true rfl) rfl dX12_wind_22 (fun r w1 hq H locs h => ?_)
          obtain ⟨rfl, rfl⟩ := hq
          show W p l e r_c_X12_wind s m args below meth c _ _ 0 0 Qf (F0 m 25 ls [])
          refine lv_aload_n B.1 B.2.1 dX12_wind_25 rfl (lv_at hl 0 rfl) ?_
          refine y_getG B h kX12 50 (MW.f hM 0 _ rfl) 57 (lo := 0) (hi := 1) rfl m_1318 (by decide) dX12_wind_26 (fun z5 z5a z5b => ?_)
          refine x_if_ne B (by omega) (tgt := 34) dX12_wind_29 (by decide) (fun c6 => ?_) (fun c6 => ?_)
          · refine lv_aload_n B.1 B.2.1 dX12_wind_34 rfl (lv_at hl 0 rfl) ?_
            refine lv_iload_n B.1 B.2.1 dX12_wind_35 rfl (lv_at hl 1 rfl) ?_
            refine y_cV B h kX12 50 (MW.f hM 0 _ rfl) k_X12_sumsOf rfl (c_X12_sumsOf l D Zk ca T E am _ hM year  (by omega)) m_1788 rfl (by decide) hl.1 [] (Nat.le_of_ble_eq_true rfl) rfl dX12_wind_36 (fun r w1 hq H locs h => ?_)
            obtain ⟨rfl, E7, hM7, hag7, hx7⟩ := hq
            show W p l e r_c_X12_wind s m args below meth c _ _ 0 0 Qf (F0 m 39 ls [])
            refine lv_iload_n B.1 B.2.1 dX12_wind_39 rfl (lv_at hl 2 rfl) ?_
            refine x_if_ne B (by omega) (tgt := 48) dX12_wind_40 (by decide) (fun c8 => ?_) (fun c8 => ?_)
            · refine lv_aload_n B.1 B.2.1 dX12_wind_48 rfl (lv_at hl 0 rfl) ?_
              refine y_getX B h kX12 50 (MW.f hM7 0 _ rfl) 58 (z := (E7 0 5)) rfl m_1319 (by decide) dX12_wind_49 ?_
              refine x_if_ne B (by omega) (tgt := 59) dX12_wind_52 (by decide) (fun c9 => ?_) (fun c9 => ?_)
              · refine lv_iload_n B.1 B.2.1 dX12_wind_59 rfl (lv_at hl 2 rfl) ?_
                refine x_iconst B dX12_wind_60 ?_
                refine x_icmp_ne B (by omega) (tgt := 71) dX12_wind_61 (by decide) (fun c10 => ?_) (fun c10 => ?_)
                · refine lv_aload_n B.1 B.2.1 dX12_wind_71 rfl (lv_at hl 0 rfl) ?_
                  refine y_getG B h kX12 50 (MW.f hM7 0 _ rfl) 60 (lo := (-2147483648)) (hi := 2147483647) rfl m_1321 (by decide) dX12_wind_72 (fun z11 z11a z11b => ?_)
                  refine lv_aload_n B.1 B.2.1 dX12_wind_75 rfl (lv_at hl 0 rfl) ?_
                  refine y_getX B h kX12 50 (MW.f hM7 0 _ rfl) 58 (z := (E7 0 5)) rfl m_1319 (by decide) dX12_wind_76 ?_
                  refine lv_idiv B.1 B.2.1 dX12_wind_79 (iI_ne0 (by omega)) ?_
                  refine x_name (fun z12 hz12 ez12 => ?_)
                  refine y_ri B hQ h (by decide) dX12_wind_80 ?_
                  exact ⟨_, rfl, E7, hM7, hag7⟩
                · refine lv_aload_n B.1 B.2.1 dX12_wind_64 rfl (lv_at hl 0 rfl) ?_
                  refine y_getG B h kX12 50 (MW.f hM7 0 _ rfl) 59 (lo := (-2147483648)) (hi := 2147483647) rfl m_1320 (by decide) dX12_wind_65 (fun z13 z13a z13b => ?_)
                  refine lv_goto (tgt := 75) B.1 B.2.1 dX12_wind_68 (by decide) ?_
                  refine lv_aload_n B.1 B.2.1 dX12_wind_75 rfl (lv_at hl 0 rfl) ?_
                  refine y_getX B h kX12 50 (MW.f hM7 0 _ rfl) 58 (z := (E7 0 5)) rfl m_1319 (by decide) dX12_wind_76 ?_
                  refine lv_idiv B.1 B.2.1 dX12_wind_79 (iI_ne0 (by omega)) ?_
                  refine x_name (fun z14 hz14 ez14 => ?_)
                  refine y_ri B hQ h (by decide) dX12_wind_80 ?_
                  exact ⟨_, rfl, E7, hM7, hag7⟩
              · refine x_iconst B dX12_wind_55 ?_
                refine lv_goto (tgt := 80) B.1 B.2.1 dX12_wind_56 (by decide) ?_
                refine y_ri B hQ h (by decide) dX12_wind_80 ?_
                exact ⟨_, rfl, E7, hM7, hag7⟩
            · refine lv_aload_n B.1 B.2.1 dX12_wind_43 rfl (lv_at hl 0 rfl) ?_
              refine y_getX B h kX12 50 (MW.f hM7 0 _ rfl) 58 (z := (E7 0 5)) rfl m_1319 (by decide) dX12_wind_44 ?_
              refine y_ri B hQ h (by decide) dX12_wind_47 ?_
              exact ⟨_, rfl, E7, hM7, hag7⟩
          · refine x_iconst B dX12_wind_32 ?_
            refine y_ri B hQ h (by decide) dX12_wind_33 ?_
            exact ⟨_, rfl, E, hM, fun k h1 => rfl⟩
        · exact absurd c4 (by omega)
      · show W p l e r_c_X12_wind s m args below meth c _ _ 0 0 Qf (F0 m 16 ls [.int (iI 0)])
        refine x_if_ne B (by omega) (tgt := 21) dX12_wind_16 (by decide) (fun c15 => ?_) (fun c15 => ?_)
        · exact absurd c15 (by omega)
        · refine x_iconst B dX12_wind_19 ?_
          refine y_ri B hQ h (by decide) dX12_wind_20 ?_
          exact ⟨_, rfl, E, hM, fun k h1 => rfl⟩
  · show W p l e r_c_X12_wind s m args below meth c _ _ 0 0 Qf (F0 m 7 ls [.int (iI 0)])
    refine x_if_eq B (by omega) (tgt := 19) dX12_wind_7 (by decide) (fun c16 => ?_) (fun c16 => ?_)
    · refine x_iconst B dX12_wind_19 ?_
      refine y_ri B hQ h (by decide) dX12_wind_20 ?_
      exact ⟨_, rfl, E, hM, fun k h1 => rfl⟩
    · exact absurd c16 (by omega)
abbrev r_c_X12_grew : Room := { frames := 6, cells := 0, slots := 0, locals := 154 }
set_option maxHeartbeats 4000000 in
set_option maxRecDepth 100000 in
theorem c_X12_grew (l : Launch) (D : va_G) (Zk : yK) (ca : Nat → ClassId) (T : Nat → Int → Int) (E : Nat → Int → Int) (am : Nat → Nat) (w : yW) (hM : MW ca T E am w) (what : Int)  (hwhat : xr what) : yC l D Zk ca yX12_grew cX12_grew 6 (some .int) r_c_X12_grew [.ref (am 0), .int (iI what)] w (fun r w1 => ∃ z : Int, r = some (.int (iI z)) ∧ ∃ E9 : Nat → Int → Int, MW ca T E9 am w1 ∧ AGM w w1) := by
  refine yC.of2 "WindWordsModel" (by decide) rfl (Nat.le_of_ble_eq_true rfl) ?_
  intro p e s m args below meth c A ls Qf B hnm h hl hQ
  have hl : lv_has ls 6 [(0, .ref (am 0)), (1, .int (iI what))] := hl
  have hs := pi_s (MW.pi hM)
  have hpe := pe_0 (MW.pe hM)
  refine lv_iload_n B.1 B.2.1 dX12_grew_0 rfl (lv_at hl 1 rfl) ?_
  refine x_iconst B dX12_grew_1 ?_
  refine x_iconst B dX12_grew_2 ?_
  refine y_cS B h k_X12_within (c_X12_within l D Zk ca _ what 0 3  (by omega) (by omega) (by omega)) m_1515 rfl (by decide) hl.1 [] (Nat.le_of_ble_eq_true rfl) rfl dX12_grew_3 (fun r w1 hq H locs h => ?_)
  obtain ⟨rfl, _, rfl, ⟨rfl, b1⟩ | ⟨rfl, b1⟩⟩ := hq
  · show W p l e r_c_X12_grew s m args below meth c _ _ 0 0 Qf (F0 m 6 ls [.int (iI 1)])
    refine x_if_ne B (by omega) (tgt := 11) dX12_grew_6 (by decide) (fun c2 => ?_) (fun c2 => ?_)
    · refine lv_aload_n B.1 B.2.1 dX12_grew_11 rfl (lv_at hl 0 rfl) ?_
      refine y_cV B h kX12 50 (MW.f hM 0 _ rfl) k_X12_findLeans rfl (c_X12_findLeans l D Zk ca T E am _ hM   ) m_1723 rfl (by decide) hl.1 [] (Nat.le_of_ble_eq_true rfl) rfl dX12_grew_12 (fun r w1 hq H locs h => ?_)
      obtain ⟨rfl, rfl⟩ := hq
      show W p l e r_c_X12_grew s m args below meth c _ _ 0 0 Qf (F0 m 15 ls [])
      refine lv_aload_n B.1 B.2.1 dX12_grew_15 rfl (lv_at hl 0 rfl) ?_
      refine y_getG B h kX12 50 (MW.f hM 0 _ rfl) 57 (lo := 0) (hi := 1) rfl m_1318 (by decide) dX12_grew_16 (fun z3 z3a z3b => ?_)
      refine x_if_ne B (by omega) (tgt := 24) dX12_grew_19 (by decide) (fun c4 => ?_) (fun c4 => ?_)
      · refine x_iconst B dX12_grew_24 ?_
        refine lv_istore_n (lv' := [(2, .int (iI 0)), (0, .ref (am 0)), (1, .int (iI what))]) B.1 B.2.1 dX12_grew_25 rfl hl (by decide) rfl (fun ls hl => ?_)
        refine x_iconst B dX12_grew_26 ?_
        refine lv_istore_n (lv' := [(3, .int (iI 0)), (2, .int (iI 0)), (0, .ref (am 0)), (1, .int (iI what))]) B.1 B.2.1 dX12_grew_27 rfl hl (by decide) rfl (fun ls hl => ?_)
        have loop28 : ∀ (n28 : Nat) (n : Int) (y : Int) (E9 : Nat → Int → Int) (w9 : yW), (0 ≤ n ∧ n ≤ y) → (0 ≤ y ∧ y ≤ 10) → (MW ca T E9 am w9 ∧ AGM w w9) → ((10 - y : Int)).toNat < n28 → ∀ (H : Heap) (locs : List Loc) (ls : Array Slot), yH D Zk A s w9 H locs → lv_has ls 6 [(3, .int (iI y)), (2, .int (iI n)), (0, .ref (am 0)), (1, .int (iI what))] → W p l e r_c_X12_grew s m args below meth c H locs 0 0 Qf (F0 m 28 ls []) := by
          intro n28
          induction n28 with
          | zero =>
            intro n y E9 w9 h0 h1 hW hm28 H locs ls h hl
            exact absurd hm28 (Nat.not_lt_zero _)
          | succ n28 ih28 =>
            intro n y E9 w9 h0 h1 hW hm28 H locs ls h hl
            refine lv_iload_n B.1 B.2.1 dX12_grew_28 rfl (lv_at hl 0 rfl) ?_
            refine x_bipush B (by decide) dX12_grew_29 ?_
            refine x_icmp_ge B (by omega) (tgt := 84) dX12_grew_31 (by decide) (fun c5 => ?_) (fun c5 => ?_)
            · refine x_iconst B dX12_grew_84 ?_
              refine lv_istore_n (lv' := [(3, .int (iI 0)), (2, .int (iI n)), (0, .ref (am 0)), (1, .int (iI what))]) B.1 B.2.1 dX12_grew_85 rfl hl (by decide) rfl (fun ls hl => ?_)
              refine x_iconst B dX12_grew_86 ?_
              refine lv_istore (lv' := [(4, .int (iI 0)), (3, .int (iI 0)), (2, .int (iI n)), (0, .ref (am 0)), (1, .int (iI what))]) B.1 B.2.1 dX12_grew_87 hl (by decide) rfl (fun ls hl => ?_)
              have loop89 : ∀ (n89 : Nat) (ri : Int) (a : Int), (0 ≤ ri ∧ ri ≤ 10 * a) → (0 ≤ a ∧ a ≤ 10) → ((10 - a : Int)).toNat < n89 → ∀ (H : Heap) (locs : List Loc) (ls : Array Slot), yH D Zk A s w9 H locs → lv_has ls 6 [(4, .int (iI a)), (3, .int (iI ri)), (2, .int (iI n)), (0, .ref (am 0)), (1, .int (iI what))] → W p l e r_c_X12_grew s m args below meth c H locs 0 0 Qf (F0 m 89 ls []) := by
                intro n89
                induction n89 with
                | zero =>
                  intro ri a h2 h3 hm89 H locs ls h hl
                  exact absurd hm89 (Nat.not_lt_zero _)
                | succ n89 ih89 =>
                  intro ri a h2 h3 hm89 H locs ls h hl
                  refine lv_iload B.1 B.2.1 dX12_grew_89 (lv_at hl 0 rfl) ?_
                  refine lv_iload_n B.1 B.2.1 dX12_grew_91 rfl (lv_at hl 2 rfl) ?_
                  refine x_icmp_ge B (by omega) (tgt := 144) dX12_grew_92 (by decide) (fun c6 => ?_) (fun c6 => ?_)
                  · refine lv_iload_n B.1 B.2.1 dX12_grew_144 rfl (lv_at hl 4 rfl) ?_
                    refine x_if_ne B (by omega) (tgt := 152) dX12_grew_145 (by decide) (fun c7 => ?_) (fun c7 => ?_)
                    · refine lv_iload_n B.1 B.2.1 dX12_grew_152 rfl (lv_at hl 4 rfl) ?_
                      refine x_iconst B dX12_grew_153 ?_
                      refine x_icmp_ne B (by omega) (tgt := 161) dX12_grew_154 (by decide) (fun c8 => ?_) (fun c8 => ?_)
                      · refine lv_aload_n B.1 B.2.1 dX12_grew_161 rfl (lv_at hl 3 rfl) ?_
                        refine lv_iload_n B.1 B.2.1 dX12_grew_162 rfl (lv_at hl 2 rfl) ?_
                        refine lv_iload_n B.1 B.2.1 dX12_grew_163 rfl (lv_at hl 4 rfl) ?_
                        refine x_iconst B dX12_grew_164 ?_
                        refine x_icmp_ne B (by omega) (tgt := 172) dX12_grew_165 (by decide) (fun c9 => ?_) (fun c9 => ?_)
                        · refine x_iconst B dX12_grew_172 ?_
                          refine y_cV B h kX12 50 (MW.f hW.1 0 _ rfl) k_X12_ordersWith rfl (c_X12_ordersWith l D Zk ca T E9 am _ hW.1 n 0  (by omega) (by omega)) m_1800 rfl (by decide) hl.1 [] (Nat.le_of_ble_eq_true rfl) rfl dX12_grew_173 (fun r w1 hq H locs h => ?_)
                          obtain ⟨rfl, y10, rfl, hy10⟩ := hq
                          show W p l e r_c_X12_grew s m args below meth c _ _ 0 0 Qf (F0 m 176 ls [.long (y10)])
                          refine lv_l2i B.1 B.2.1 dX12_grew_176 rfl ?_
                          refine x_name (fun z11 hz11 ez11 => ?_)
                          refine y_ri B hQ h (by decide) dX12_grew_177 ?_
                          exact ⟨_, rfl, E9, hW.1, hW.2⟩
                        · refine lv_iload_n B.1 B.2.1 dX12_grew_168 rfl (lv_at hl 1 rfl) ?_
                          refine lv_goto (tgt := 173) B.1 B.2.1 dX12_grew_169 (by decide) ?_
                          refine y_cV B h kX12 50 (MW.f hW.1 0 _ rfl) k_X12_ordersWith rfl (c_X12_ordersWith l D Zk ca T E9 am _ hW.1 n ri  (by omega) (by omega)) m_1800 rfl (by decide) hl.1 [] (Nat.le_of_ble_eq_true rfl) rfl dX12_grew_173 (fun r w1 hq H locs h => ?_)
                          obtain ⟨rfl, y12, rfl, hy12⟩ := hq
                          show W p l e r_c_X12_grew s m args below meth c _ _ 0 0 Qf (F0 m 176 ls [.long (y12)])
                          refine lv_l2i B.1 B.2.1 dX12_grew_176 rfl ?_
                          refine x_name (fun z13 hz13 ez13 => ?_)
                          refine y_ri B hQ h (by decide) dX12_grew_177 ?_
                          exact ⟨_, rfl, E9, hW.1, hW.2⟩
                      · refine lv_iload_n B.1 B.2.1 dX12_grew_157 rfl (lv_at hl 2 rfl) ?_
                        refine lv_goto (tgt := 177) B.1 B.2.1 dX12_grew_158 (by decide) ?_
                        refine y_ri B hQ h (by decide) dX12_grew_177 ?_
                        exact ⟨_, rfl, E9, hW.1, hW.2⟩
                    · refine lv_iload_n B.1 B.2.1 dX12_grew_148 rfl (lv_at hl 1 rfl) ?_
                      refine lv_goto (tgt := 177) B.1 B.2.1 dX12_grew_149 (by decide) ?_
                      refine y_ri B hQ h (by decide) dX12_grew_177 ?_
                      exact ⟨_, rfl, E9, hW.1, hW.2⟩
                  · refine lv_iload B.1 B.2.1 dX12_grew_95 (lv_at hl 0 rfl) ?_
                    refine x_iconst B dX12_grew_97 ?_
                    refine x_iadd B dX12_grew_98 ?_
                    refine lv_istore (lv' := [(5, .int (iI (a + 1))), (4, .int (iI a)), (3, .int (iI ri)), (2, .int (iI n)), (0, .ref (am 0)), (1, .int (iI what))]) B.1 B.2.1 dX12_grew_99 hl (by decide) rfl (fun ls hl => ?_)
                    have loop101 : ∀ (n101 : Nat) (ri : Int) (b : Int), (0 ≤ ri ∧ ri ≤ 10 * a + b) → (0 ≤ b ∧ b ≤ 10) → ((10 - b : Int)).toNat < n101 → ∀ (H : Heap) (locs : List Loc) (ls : Array Slot), yH D Zk A s w9 H locs → lv_has ls 6 [(5, .int (iI b)), (4, .int (iI a)), (3, .int (iI ri)), (2, .int (iI n)), (0, .ref (am 0)), (1, .int (iI what))] → W p l e r_c_X12_grew s m args below meth c H locs 0 0 Qf (F0 m 101 ls []) := by
                      intro n101
                      induction n101 with
                      | zero =>
                        intro ri b h4 h5 hm101 H locs ls h hl
                        exact absurd hm101 (Nat.not_lt_zero _)
                      | succ n101 ih101 =>
                        intro ri b h4 h5 hm101 H locs ls h hl
                        refine lv_iload B.1 B.2.1 dX12_grew_101 (lv_at hl 0 rfl) ?_
                        refine lv_iload_n B.1 B.2.1 dX12_grew_103 rfl (lv_at hl 3 rfl) ?_
                        refine x_icmp_ge B (by omega) (tgt := 138) dX12_grew_104 (by decide) (fun c14 => ?_) (fun c14 => ?_)
                        · refine lv_iinc (v := iI (a + 1)) (lv' := [(4, .int (iI (a + 1))), (5, .int (iI b)), (3, .int (iI ri)), (2, .int (iI n)), (0, .ref (am 0)), (1, .int (iI what))]) B.1 B.2.1 dX12_grew_138 hl (k := 1) rfl (iI_add _ _) (by decide) rfl (fun ls hl => ?_)
                          refine lv_goto (tgt := 89) B.1 B.2.1 dX12_grew_141 (by decide) ?_
                          exact ih89 ri ((a + 1)) (by omega) (by omega) (by omega) _ _ _ h (lv_sub hl [0, 2, 3, 4, 5] rfl)
                        · refine lv_iload_n B.1 B.2.1 dX12_grew_107 rfl (lv_at hl 2 rfl) ?_
                          refine lv_aload_n B.1 B.2.1 dX12_grew_108 rfl (lv_at hl 4 rfl) ?_
                          refine y_getR B h kX12 50 (MW.f hW.1 0 _ rfl) 63 (b := am 35) rfl m_1324 (by decide) dX12_grew_109 ?_
                          refine lv_iload B.1 B.2.1 dX12_grew_112 (lv_at hl 0 rfl) ?_
                          refine y_iald B h 85 (MW.f hW.1 35 _ rfl) (by omega) dX12_grew_114 (fun fz15 hfz15 => ?_)
                          refine x_name (fun z15 hz15 ez15 => ?_)
                          refine lv_aload_n B.1 B.2.1 dX12_grew_115 rfl (lv_at hl 4 rfl) ?_
                          refine y_getR B h kX12 50 (MW.f hW.1 0 _ rfl) 63 (b := am 35) rfl m_1324 (by decide) dX12_grew_116 ?_
                          refine lv_iload B.1 B.2.1 dX12_grew_119 (lv_at hl 1 rfl) ?_
                          refine y_iald B h 85 (MW.f hW.1 35 _ rfl) (by omega) dX12_grew_121 (fun fz16 hfz16 => ?_)
                          refine x_name (fun z16 hz16 ez16 => ?_)
                          refine x_icmp_le B (by omega) (tgt := 129) dX12_grew_122 (by decide) (fun c17 => ?_) (fun c17 => ?_)
                          · refine x_iconst B dX12_grew_129 ?_
                            refine x_iadd B dX12_grew_130 ?_
                            refine lv_istore_n (lv' := [(3, .int (iI (ri + 0))), (5, .int (iI b)), (4, .int (iI a)), (2, .int (iI n)), (0, .ref (am 0)), (1, .int (iI what))]) B.1 B.2.1 dX12_grew_131 rfl hl (by decide) rfl (fun ls hl => ?_)
                            refine lv_iinc (v := iI (b + 1)) (lv' := [(5, .int (iI (b + 1))), (3, .int (iI (ri + 0))), (4, .int (iI a)), (2, .int (iI n)), (0, .ref (am 0)), (1, .int (iI what))]) B.1 B.2.1 dX12_grew_132 hl (k := 1) rfl (iI_add _ _) (by decide) rfl (fun ls hl => ?_)
                            refine lv_goto (tgt := 101) B.1 B.2.1 dX12_grew_135 (by decide) ?_
                            exact ih101 ((ri + 0)) ((b + 1)) (by omega) (by omega) (by omega) _ _ _ h (lv_sub hl [0, 2, 1, 3, 4, 5] rfl)
                          · refine x_iconst B dX12_grew_125 ?_
                            refine lv_goto (tgt := 130) B.1 B.2.1 dX12_grew_126 (by decide) ?_
                            refine x_iadd B dX12_grew_130 ?_
                            refine lv_istore_n (lv' := [(3, .int (iI (ri + 1))), (5, .int (iI b)), (4, .int (iI a)), (2, .int (iI n)), (0, .ref (am 0)), (1, .int (iI what))]) B.1 B.2.1 dX12_grew_131 rfl hl (by decide) rfl (fun ls hl => ?_)
                            refine lv_iinc (v := iI (b + 1)) (lv' := [(5, .int (iI (b + 1))), (3, .int (iI (ri + 1))), (4, .int (iI a)), (2, .int (iI n)), (0, .ref (am 0)), (1, .int (iI what))]) B.1 B.2.1 dX12_grew_132 hl (k := 1) rfl (iI_add _ _) (by decide) rfl (fun ls hl => ?_)
                            refine lv_goto (tgt := 101) B.1 B.2.1 dX12_grew_135 (by decide) ?_
                            exact ih101 ((ri + 1)) ((b + 1)) (by omega) (by omega) (by omega) _ _ _ h (lv_sub hl [0, 2, 1, 3, 4, 5] rfl)
                    exact loop101 (((10 - ((a + 1)) : Int)).toNat + 1) ri ((a + 1)) (by omega) (by omega) (Nat.lt_succ_self _) _ _ _ h (lv_sub hl [0, 1, 2, 3, 4, 5] rfl)
              exact loop89 (((10 - 0 : Int)).toNat + 1) 0 0 (by omega) (by omega) (Nat.lt_succ_self _) _ _ _ h (lv_sub hl [0, 1, 2, 3, 4] rfl)
            · refine lv_aload_n B.1 B.2.1 dX12_grew_34 rfl (lv_at hl 2 rfl) ?_
              refine lv_iload_n B.1 B.2.1 dX12_grew_35 rfl (lv_at hl 0 rfl) ?_
              refine y_cV B h kX12 50 (MW.f hW.1 0 _ rfl) k_X12_sumsOf rfl (c_X12_sumsOf l D Zk ca T E9 am _ hW.1 y  (by omega)) m_1788 rfl (by decide) hl.1 [] (Nat.le_of_ble_eq_true rfl) rfl dX12_grew_36 (fun r w1 hq H locs h => ?_)
              obtain ⟨rfl, E18, hM18, hag18, hx18⟩ := hq
              show W p l e r_c_X12_grew s m args below meth c _ _ 0 0 Qf (F0 m 39 ls [])
              refine lv_aload_n B.1 B.2.1 dX12_grew_39 rfl (lv_at hl 2 rfl) ?_
              refine y_getX B h kX12 50 (MW.f hM18 0 _ rfl) 58 (z := (E18 0 5)) rfl m_1319 (by decide) dX12_grew_40 ?_
              refine x_if_ne B (by omega) (tgt := 49) dX12_grew_43 (by decide) (fun c19 => ?_) (fun c19 => ?_)
              · refine lv_aload_n B.1 B.2.1 dX12_grew_49 rfl (lv_at hl 2 rfl) ?_
                refine y_getR B h kX12 50 (MW.f hM18 0 _ rfl) 63 (b := am 35) rfl m_1324 (by decide) dX12_grew_50 ?_
                refine lv_iload_n B.1 B.2.1 dX12_grew_53 rfl (lv_at hl 1 rfl) ?_
                refine lv_aload_n B.1 B.2.1 dX12_grew_54 rfl (lv_at hl 2 rfl) ?_
                refine y_getG B h kX12 50 (MW.f hM18 0 _ rfl) 59 (lo := (-2147483648)) (hi := 2147483647) rfl m_1320 (by decide) dX12_grew_55 (fun z20 z20a z20b => ?_)
                refine lv_aload_n B.1 B.2.1 dX12_grew_58 rfl (lv_at hl 2 rfl) ?_
                refine y_getG B h kX12 50 (MW.f hM18 0 _ rfl) 60 (lo := (-2147483648)) (hi := 2147483647) rfl m_1321 (by decide) dX12_grew_59 (fun z21 z21a z21b => ?_)
                refine x_iadd B dX12_grew_62 ?_
                refine x_name (fun z22 hz22 ez22 => ?_)
                refine x_sipush B (by decide) dX12_grew_63 ?_
                refine x_imul B dX12_grew_66 ?_
                refine x_name (fun z23 hz23 ez23 => ?_)
                refine x_iconst B dX12_grew_67 ?_
                refine lv_aload_n B.1 B.2.1 dX12_grew_68 rfl (lv_at hl 2 rfl) ?_
                refine y_getX B h kX12 50 (MW.f hM18 0 _ rfl) 58 (z := (E18 0 5)) rfl m_1319 (by decide) dX12_grew_69 ?_
                refine x_imul B dX12_grew_72 ?_
                refine lv_idiv B.1 B.2.1 dX12_grew_73 (iI_ne0 (by omega)) ?_
                refine x_name (fun z24 hz24 ez24 => ?_)
                refine y_iastS B h 85 (MW.f hM18 35 _ rfl) (by omega) (fun _ _ => trivial) dX12_grew_74 (fun H locs h => ?_)
                refine lv_iinc (v := iI (n + 1)) (lv' := [(2, .int (iI (n + 1))), (3, .int (iI y)), (0, .ref (am 0)), (1, .int (iI what))]) B.1 B.2.1 dX12_grew_75 hl (k := 1) rfl (iI_add _ _) (by decide) rfl (fun ls hl => ?_)
                refine lv_iinc (v := iI (y + 1)) (lv' := [(3, .int (iI (y + 1))), (2, .int (iI (n + 1))), (0, .ref (am 0)), (1, .int (iI what))]) B.1 B.2.1 dX12_grew_78 hl (k := 1) rfl (iI_add _ _) (by decide) rfl (fun ls hl => ?_)
                refine lv_goto (tgt := 28) B.1 B.2.1 dX12_grew_81 (by decide) ?_
                exact ih28 ((n + 1)) ((y + 1)) E18 w1 (by omega) (by omega) ⟨hM18, (AGM.tr hW.2 hag18)⟩ (by omega) _ _ _ h (lv_sub hl [0, 1, 2, 3] rfl)
              · refine lv_goto (tgt := 78) B.1 B.2.1 dX12_grew_46 (by decide) ?_
                refine lv_iinc (v := iI (y + 1)) (lv' := [(3, .int (iI (y + 1))), (2, .int (iI n)), (0, .ref (am 0)), (1, .int (iI what))]) B.1 B.2.1 dX12_grew_78 hl (k := 0) rfl (iI_add _ _) (by decide) rfl (fun ls hl => ?_)
                refine lv_goto (tgt := 28) B.1 B.2.1 dX12_grew_81 (by decide) ?_
                exact ih28 n ((y + 1)) E18 w1 (by omega) (by omega) ⟨hM18, (AGM.tr hW.2 hag18)⟩ (by omega) _ _ _ h (lv_sub hl [0, 1, 2, 3] rfl)
        exact loop28 (((10 - 0 : Int)).toNat + 1) 0 0 E w (by omega) (by omega) ⟨hM, (fun k h1 => rfl)⟩ (Nat.lt_succ_self _) _ _ _ h (lv_sub hl [0, 1, 2, 3] rfl)
      · refine x_iconst B dX12_grew_22 ?_
        refine y_ri B hQ h (by decide) dX12_grew_23 ?_
        exact ⟨_, rfl, E, hM, fun k h1 => rfl⟩
    · exact absurd c2 (by omega)
  · show W p l e r_c_X12_grew s m args below meth c _ _ 0 0 Qf (F0 m 6 ls [.int (iI 0)])
    refine x_if_ne B (by omega) (tgt := 11) dX12_grew_6 (by decide) (fun c25 => ?_) (fun c25 => ?_)
    · exact absurd c25 (by omega)
    · refine x_iconst B dX12_grew_9 ?_
      refine y_ri B hQ h (by decide) dX12_grew_10 ?_
      exact ⟨_, rfl, E, hM, fun k h1 => rfl⟩
