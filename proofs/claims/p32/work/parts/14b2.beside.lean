theorem k_X0_shipAt : xMV yX0_shipAt cX0_shipAt 2 (some (.object "WindWords$Ship")) 1 := ⟨m_484, m_482, m_483, m_96, ⟨by decide +kernel, by decide +kernel, by decide +kernel⟩⟩
theorem k_X7_readingOn : xMV yX7_readingOn cX7_readingOn 2 (some (.object "WindWords$Reading")) 1 := ⟨m_505, m_503, m_504, m_105, ⟨by decide +kernel, by decide +kernel, by decide +kernel⟩⟩
theorem k_X11_far : xMS yX11_far cX11_far 2 (some .int) 2 := ⟨m_868, m_867, m_95, ⟨by decide +kernel, by decide +kernel, by decide +kernel⟩⟩
theorem k_X0_beside : xMV yX0_beside cX0_beside 5 (some (.object "WindWords$Reading")) 2 := ⟨m_863, m_862, m_16, m_96, ⟨by decide +kernel, by decide +kernel, by decide +kernel⟩⟩
abbrev r_c_X7_readingOn : Room := { frames := 1, cells := 0, slots := 0, locals := 21 }
set_option maxHeartbeats 4000000 in
set_option maxRecDepth 100000 in
theorem c_X7_readingOn (l : Launch) (D : va_G) (Zk : yK) (ca : Nat → ClassId) (T : Nat → Int → Int) (G : Nat → Int → Nat) (u : Int) (ad : Nat → Nat) (w : yW) (hC : CW ca T G u ad w) (sh : Int) (v : Int)  (hsh : 0 ≤ sh ∧ sh < T 0 1) (hv : xr v) : yC l D Zk ca yX7_readingOn cX7_readingOn 2 (some (.object "WindWords$Reading")) r_c_X7_readingOn [.ref (G 1 sh), .int (iI v)] w (vQ w (fun q => (q = none ∧ ∀ j : Int, 0 ≤ j ∧ j < T 0 2 → ¬ (T 4 j = sh ∧ T 5 j = v)) ∨ ∃ k : Int, q = some (G 4 k) ∧ (0 ≤ k ∧ k < T 0 2) ∧ T 4 k = sh ∧ T 5 k = v)) := by
  refine yC.of2 "WindWords$Ship" (by decide) rfl (Nat.le_of_ble_eq_true rfl) ?_
  intro p e s m args below meth c A ls Qf B hnm h hl hQ
  have hl : lv_has ls 2 [(0, .ref (G 1 sh)), (1, .int (iI v))] := hl
  have hs := pi_s (CW.pi hC)
  have fo1 := CW.sh hC sh (by omega)
  refine lv_iload_n B.1 B.2.1 dX7_readingOn_0 rfl (lv_at hl 1 rfl) ?_
  refine x_sipush B (by decide) dX7_readingOn_1 ?_
  refine y_cSN (host := "WindWords") B h k_X11_within (c_X11_within l D Zk ca _ v 999  (by omega) (by omega)) (by decide) rfl (by decide) hl.1 [] (Nat.le_of_ble_eq_true rfl) rfl dX7_readingOn_4 (fun r w1 hq H locs h => ?_)
  obtain ⟨rfl, _, rfl, ⟨rfl, b2⟩ | ⟨rfl, b2⟩⟩ := hq
  · show W p l e r_c_X7_readingOn s m args below meth c _ _ 0 0 Qf (F0 m 7 ls [.int (iI 1)])
    refine x_if_eq B (by omega) (tgt := 19) dX7_readingOn_7 (by decide) (fun c3 => ?_) (fun c3 => ?_)
    · exact absurd c3 (by omega)
    · refine lv_aload_n B.1 B.2.1 dX7_readingOn_10 rfl (lv_at hl 0 rfl) ?_
      refine y_getR B h kX7 (1000 + 16 * sh.toNat + 1) fo1.1 3 (b := G 3 sh) rfl m_463 (by decide) dX7_readingOn_11 ?_
      refine lv_iload_n B.1 B.2.1 dX7_readingOn_14 rfl (lv_at hl 1 rfl) ?_
      refine y_qald B h (1000 + 16 * sh.toNat + 3) 5 rfl fo1.2.2 (by omega) dX7_readingOn_15 (fun f5 hf4 => ?_)
      rcases hf4 (v) (by omega) with ⟨e6, ne6⟩ | ⟨k7, rk7, pk7, qk7, e6⟩
      · rw [e6]
        show W p l e r_c_X7_readingOn s m args below meth c _ _ 0 0 Qf (F0 m 16 ls [.null])
        refine lv_goto (tgt := 20) B.1 B.2.1 dX7_readingOn_16 (by decide) ?_
        refine y_ra (r := none) B hQ h (by decide) dX7_readingOn_20 ?_
        exact ⟨rfl, _, rfl, Or.inl ⟨rfl, by first | assumption | (intro j hj hh; have := pi_5 (CW.pi hC) j; omega)⟩⟩
      · rw [e6]
        have fo8 := CW.rd hC k7 (by omega)
        show W p l e r_c_X7_readingOn s m args below meth c _ _ 0 0 Qf (F0 m 16 ls [.ref (G 4 k7)])
        refine lv_goto (tgt := 20) B.1 B.2.1 dX7_readingOn_16 (by decide) ?_
        refine y_ra (r := (some (G 4 k7))) B hQ h (by decide) dX7_readingOn_20 ?_
        exact ⟨rfl, _, rfl, Or.inr ⟨k7, rfl, ⟨by assumption, by assumption, by assumption⟩⟩⟩
  · show W p l e r_c_X7_readingOn s m args below meth c _ _ 0 0 Qf (F0 m 7 ls [.int (iI 0)])
    refine x_if_eq B (by omega) (tgt := 19) dX7_readingOn_7 (by decide) (fun c9 => ?_) (fun c9 => ?_)
    · refine lv_null B.1 B.2.1 dX7_readingOn_19 ?_
      refine y_ra (r := none) B hQ h (by decide) dX7_readingOn_20 ?_
      exact ⟨rfl, _, rfl, Or.inl ⟨rfl, by first | assumption | (intro j hj hh; have := pi_5 (CW.pi hC) j; omega)⟩⟩
    · exact absurd c9 (by omega)
abbrev r_c_X0_beside : Room := { frames := 2, cells := 0, slots := 0, locals := 42 }
set_option maxHeartbeats 4000000 in
set_option maxRecDepth 100000 in
theorem c_X0_beside (l : Launch) (D : va_G) (Zk : yK) (ca : Nat → ClassId) (T : Nat → Int → Int) (G : Nat → Int → Nat) (u : Int) (ad : Nat → Nat) (w : yW) (hC : CW ca T G u ad w) (k : Int) (sh : Int)  (hk : 0 ≤ k ∧ k < T 0 2) (hsh : xr sh) : yC l D Zk ca yX0_beside cX0_beside 5 (some (.object "WindWords$Reading")) r_c_X0_beside [.ref (ad 1), .ref (G 4 k), .int (iI sh)] w (vQ w (fun q => (q = none ∧ ∀ j : Int, 0 ≤ j ∧ j < T 0 2 → ¬ (T 4 j = sh ∧ SEE T k j)) ∨ ∃ j : Int, q = some (G 4 j) ∧ (0 ≤ j ∧ j < T 0 2) ∧ T 4 j = sh ∧ SEE T k j)) := by
  refine yC.of2 "WindWords$Fleet" (by decide) rfl (Nat.le_of_ble_eq_true rfl) ?_
  intro p e s m args below meth c A ls Qf B hnm h hl hQ
  have hl : lv_has ls 5 [(0, .ref (ad 1)), (1, .ref (G 4 k)), (2, .int (iI sh))] := hl
  have hs := pi_s (CW.pi hC)
  have fo1 := CW.rd hC k (by omega)
  refine lv_aload_n B.1 B.2.1 dX0_beside_0 rfl (lv_at hl 0 rfl) ?_
  refine lv_iload_n B.1 B.2.1 dX0_beside_1 rfl (lv_at hl 2 rfl) ?_
  refine y_cV B h kX0 1 (CW.f hC 1 _ rfl) k_X0_shipAt rfl (c_X0_shipAt l D Zk ca T G u ad _ hC sh  (by omega)) m_864 rfl (by decide) hl.1 [] (Nat.le_of_ble_eq_true rfl) rfl dX0_beside_2 (fun r w1 hq H locs h => ?_)
  obtain ⟨rfl, _, rfl, ⟨rfl, q2⟩ | ⟨rfl, q2⟩⟩ := hq
  · show W p l e r_c_X0_beside s m args below meth c _ _ 0 0 Qf (F0 m 5 ls [.null])
    refine lv_astore_nN (lv' := [(3, .null), (0, .ref (ad 1)), (1, .ref (G 4 k)), (2, .int (iI sh))]) B.1 B.2.1 dX0_beside_5 rfl hl (by decide) rfl (fun ls hl => ?_)
    refine lv_aload_n B.1 B.2.1 dX0_beside_6 rfl (lv_at hl 2 rfl) ?_
    refine lv_ifnull B.1 B.2.1 dX0_beside_7 ?_
    refine lv_aload_nN B.1 B.2.1 dX0_beside_10 rfl (lv_at hl 0 rfl) ?_
    refine lv_ifnullN (tgt := 25) B.1 B.2.1 dX0_beside_11 (by decide) ?_
    refine lv_null B.1 B.2.1 dX0_beside_25 ?_
    refine y_ra (r := none) B hQ h (by decide) dX0_beside_26 ?_
    refine ⟨rfl, _, rfl, Or.inl ⟨rfl, ?_⟩⟩
    intro j hj hh
    first
      | (have a1 := pi_4 (CW.pi hC) j; have a2 := pi_in (CW.pi hC) j hj; omega)
      | (exact absurd ⟨hh.1, hh.2.1⟩ (‹∀ j : Int, 0 ≤ j ∧ j < T 0 2 → ¬ (T 4 j = sh ∧ T 5 j = T 5 k)› j hj))
      | (exact absurd ⟨hh.1, hh.2.1⟩ (‹∀ j : Int, 0 ≤ j ∧ j < T 0 2 → ¬ (T 4 j = sh ∧ SEE T k j)› j hj))
  · have fo3 := CW.sh hC sh (by omega)
    show W p l e r_c_X0_beside s m args below meth c _ _ 0 0 Qf (F0 m 5 ls [.ref (G 1 sh)])
    refine lv_astore_n (lv' := [(3, .ref (G 1 sh)), (0, .ref (ad 1)), (1, .ref (G 4 k)), (2, .int (iI sh))]) B.1 B.2.1 dX0_beside_5 rfl hl (by decide) rfl (fun ls hl => ?_)
    refine lv_aload_n B.1 B.2.1 dX0_beside_6 rfl (lv_at hl 2 rfl) ?_
    refine lv_ifnull B.1 B.2.1 dX0_beside_7 ?_
    refine lv_aload_n B.1 B.2.1 dX0_beside_10 rfl (lv_at hl 0 rfl) ?_
    refine lv_ifnull B.1 B.2.1 dX0_beside_11 ?_
    refine lv_aload_n B.1 B.2.1 dX0_beside_14 rfl (lv_at hl 2 rfl) ?_
    refine y_getR B h kX4 (1000 + 16 * k.toNat + 4) fo1 0 (b := G 1 (T 4 k)) rfl m_514 (by decide) dX0_beside_15 ?_
    have tb4 := pi_4 (CW.pi hC) k
    have pn5 := pi_in (CW.pi hC) k (by omega)
    have fo6 := CW.sh hC (T 4 k) (by omega)
    refine y_getX B h kX7 (1000 + 16 * ((T 4 k)).toNat + 1) fo6.1 0 (z := (T 4 k)) rfl m_457 (by decide) dX0_beside_18 ?_
    refine lv_iload_n B.1 B.2.1 dX0_beside_21 rfl (lv_at hl 3 rfl) ?_
    refine x_icmp_ne B (by omega) (tgt := 27) dX0_beside_22 (by decide) (fun c7 => ?_) (fun c7 => ?_)
    · refine lv_aload_n B.1 B.2.1 dX0_beside_27 rfl (lv_at hl 0 rfl) ?_
      refine lv_aload_n B.1 B.2.1 dX0_beside_28 rfl (lv_at hl 2 rfl) ?_
      refine y_getX B h kX4 (1000 + 16 * k.toNat + 4) fo1 1 (z := (T 5 k)) rfl m_518 (by decide) dX0_beside_29 ?_
      have tb8 := pi_5 (CW.pi hC) k
      refine y_cV B h kX7 (1000 + 16 * sh.toNat + 1) fo3.1 k_X7_readingOn rfl (c_X7_readingOn l D Zk ca T G u ad _ hC sh ((T 5 k))  (by omega) (by omega)) m_865 rfl (by decide) hl.1 [] (Nat.le_of_ble_eq_true rfl) rfl dX0_beside_32 (fun r w1 hq H locs h => ?_)
      obtain ⟨rfl, _, rfl, ⟨rfl, q9⟩ | ⟨k10, rfl, q9⟩⟩ := hq
      · show W p l e r_c_X0_beside s m args below meth c _ _ 0 0 Qf (F0 m 35 ls [.null])
        refine lv_astoreN (lv' := [(4, .null), (3, .ref (G 1 sh)), (0, .ref (ad 1)), (1, .ref (G 4 k)), (2, .int (iI sh))]) B.1 B.2.1 dX0_beside_35 hl (by decide) rfl (fun ls hl => ?_)
        refine lv_aloadN B.1 B.2.1 dX0_beside_37 (lv_at hl 0 rfl) ?_
        refine lv_ifnullN (tgt := 66) B.1 B.2.1 dX0_beside_39 (by decide) ?_
        refine lv_null B.1 B.2.1 dX0_beside_66 ?_
        refine y_ra (r := none) B hQ h (by decide) dX0_beside_67 ?_
        refine ⟨rfl, _, rfl, Or.inl ⟨rfl, ?_⟩⟩
        intro j hj hh
        first
          | (have a1 := pi_4 (CW.pi hC) j; have a2 := pi_in (CW.pi hC) j hj; omega)
          | (exact absurd ⟨hh.1, hh.2.1⟩ (‹∀ j : Int, 0 ≤ j ∧ j < T 0 2 → ¬ (T 4 j = sh ∧ T 5 j = T 5 k)› j hj))
          | (exact absurd ⟨hh.1, hh.2.1⟩ (‹∀ j : Int, 0 ≤ j ∧ j < T 0 2 → ¬ (T 4 j = sh ∧ SEE T k j)› j hj))
      · have fo11 := CW.rd hC k10 (by omega)
        show W p l e r_c_X0_beside s m args below meth c _ _ 0 0 Qf (F0 m 35 ls [.ref (G 4 k10)])
        refine lv_astore (lv' := [(4, .ref (G 4 k10)), (3, .ref (G 1 sh)), (0, .ref (ad 1)), (1, .ref (G 4 k)), (2, .int (iI sh))]) B.1 B.2.1 dX0_beside_35 hl (by decide) rfl (fun ls hl => ?_)
        refine lv_aload B.1 B.2.1 dX0_beside_37 (lv_at hl 0 rfl) ?_
        refine lv_ifnull B.1 B.2.1 dX0_beside_39 ?_
        refine lv_aload_n B.1 B.2.1 dX0_beside_42 rfl (lv_at hl 3 rfl) ?_
        refine y_getX B h kX4 (1000 + 16 * k.toNat + 4) fo1 2 (z := (T 6 k)) rfl m_522 (by decide) dX0_beside_43 ?_
        have tb12 := pi_6 (CW.pi hC) k
        refine lv_aload B.1 B.2.1 dX0_beside_46 (lv_at hl 0 rfl) ?_
        refine y_getX B h kX4 (1000 + 16 * k10.toNat + 4) fo11 2 (z := (T 6 k10)) rfl m_522 (by decide) dX0_beside_48 ?_
        have tb13 := pi_6 (CW.pi hC) k10
        refine y_cSN (host := "WindWords") B h k_X11_far (c_X11_far l D Zk ca _ ((T 6 k)) ((T 6 k10))  (by omega) (by omega)) (by decide) rfl (by decide) hl.1 [] (Nat.le_of_ble_eq_true rfl) rfl dX0_beside_51 (fun r w1 hq H locs h => ?_)
        obtain ⟨rfl, z14, rfl, hz14⟩ := hq
        show W p l e r_c_X0_beside s m args below meth c _ _ 0 0 Qf (F0 m 54 ls [.int (iI z14)])
        refine lv_aload_n B.1 B.2.1 dX0_beside_54 rfl (lv_at hl 2 rfl) ?_
        refine y_getX B h kX0 1 (CW.f hC 1 _ rfl) 7 (z := (T 0 4)) rfl m_153 (by decide) dX0_beside_55 ?_
        refine x_icmp_gt B (by omega) (tgt := 66) dX0_beside_58 (by decide) (fun c15 => ?_) (fun c15 => ?_)
        · refine lv_null B.1 B.2.1 dX0_beside_66 ?_
          refine y_ra (r := none) B hQ h (by decide) dX0_beside_67 ?_
          refine ⟨rfl, _, rfl, Or.inl ⟨rfl, ?_⟩⟩
          intro j hj hh
          first
            | (have a1 := pi_4 (CW.pi hC) j; have a2 := pi_in (CW.pi hC) j hj; omega)
            | (exact absurd ⟨hh.1, hh.2.1⟩ (‹∀ j : Int, 0 ≤ j ∧ j < T 0 2 → ¬ (T 4 j = sh ∧ T 5 j = T 5 k)› j hj))
            | (exact absurd ⟨hh.1, hh.2.1⟩ (‹∀ j : Int, 0 ≤ j ∧ j < T 0 2 → ¬ (T 4 j = sh ∧ SEE T k j)› j hj))
            | (have e9 := pi_un (CW.pi hC) (j := j) (k := k10) hj (by omega) (by omega) (by omega); rw [e9] at hh; omega)
        · refine lv_aload B.1 B.2.1 dX0_beside_61 (lv_at hl 0 rfl) ?_
          refine lv_goto (tgt := 67) B.1 B.2.1 dX0_beside_63 (by decide) ?_
          refine y_ra (r := (some (G 4 k10))) B hQ h (by decide) dX0_beside_67 ?_
          exact ⟨rfl, _, rfl, Or.inr ⟨k10, rfl, by omega, by omega, ⟨by omega, by omega, by omega⟩⟩⟩
    · refine lv_null B.1 B.2.1 dX0_beside_25 ?_
      refine y_ra (r := none) B hQ h (by decide) dX0_beside_26 ?_
      refine ⟨rfl, _, rfl, Or.inl ⟨rfl, ?_⟩⟩
      intro j hj hh
      first
        | (have a1 := pi_4 (CW.pi hC) j; have a2 := pi_in (CW.pi hC) j hj; omega)
        | (exact absurd ⟨hh.1, hh.2.1⟩ (‹∀ j : Int, 0 ≤ j ∧ j < T 0 2 → ¬ (T 4 j = sh ∧ T 5 j = T 5 k)› j hj))
        | (exact absurd ⟨hh.1, hh.2.1⟩ (‹∀ j : Int, 0 ≤ j ∧ j < T 0 2 → ¬ (T 4 j = sh ∧ SEE T k j)› j hj))
abbrev r_c_X0_beside_N : Room := { frames := 2, cells := 0, slots := 0, locals := 42 }
set_option maxHeartbeats 4000000 in
set_option maxRecDepth 100000 in
theorem c_X0_beside_N (l : Launch) (D : va_G) (Zk : yK) (ca : Nat → ClassId) (T : Nat → Int → Int) (G : Nat → Int → Nat) (u : Int) (ad : Nat → Nat) (w : yW) (hC : CW ca T G u ad w) (sh : Int)  (hsh : xr sh) : yC l D Zk ca yX0_beside cX0_beside 5 (some (.object "WindWords$Reading")) r_c_X0_beside_N [.ref (ad 1), .null, .int (iI sh)] w (vQ w (fun q => q = none)) := by
  refine yC.of2 "WindWords$Fleet" (by decide) rfl (Nat.le_of_ble_eq_true rfl) ?_
  intro p e s m args below meth c A ls Qf B hnm h hl hQ
  have hl : lv_has ls 5 [(0, .ref (ad 1)), (1, .null), (2, .int (iI sh))] := hl
  have hs := pi_s (CW.pi hC)
  refine lv_aload_n B.1 B.2.1 dX0_beside_0 rfl (lv_at hl 0 rfl) ?_
  refine lv_iload_n B.1 B.2.1 dX0_beside_1 rfl (lv_at hl 2 rfl) ?_
  refine y_cV B h kX0 1 (CW.f hC 1 _ rfl) k_X0_shipAt rfl (c_X0_shipAt l D Zk ca T G u ad _ hC sh  (by omega)) m_864 rfl (by decide) hl.1 [] (Nat.le_of_ble_eq_true rfl) rfl dX0_beside_2 (fun r w1 hq H locs h => ?_)
  obtain ⟨rfl, _, rfl, ⟨rfl, q1⟩ | ⟨rfl, q1⟩⟩ := hq
  · show W p l e r_c_X0_beside_N s m args below meth c _ _ 0 0 Qf (F0 m 5 ls [.null])
    refine lv_astore_nN (lv' := [(3, .null), (0, .ref (ad 1)), (1, .null), (2, .int (iI sh))]) B.1 B.2.1 dX0_beside_5 rfl hl (by decide) rfl (fun ls hl => ?_)
    refine lv_aload_nN B.1 B.2.1 dX0_beside_6 rfl (lv_at hl 2 rfl) ?_
    refine lv_ifnullN (tgt := 25) B.1 B.2.1 dX0_beside_7 (by decide) ?_
    refine lv_null B.1 B.2.1 dX0_beside_25 ?_
    refine y_ra (r := none) B hQ h (by decide) dX0_beside_26 ?_
    exact ⟨rfl, _, rfl, rfl⟩
  · have fo2 := CW.sh hC sh (by omega)
    show W p l e r_c_X0_beside_N s m args below meth c _ _ 0 0 Qf (F0 m 5 ls [.ref (G 1 sh)])
    refine lv_astore_n (lv' := [(3, .ref (G 1 sh)), (0, .ref (ad 1)), (1, .null), (2, .int (iI sh))]) B.1 B.2.1 dX0_beside_5 rfl hl (by decide) rfl (fun ls hl => ?_)
    refine lv_aload_nN B.1 B.2.1 dX0_beside_6 rfl (lv_at hl 2 rfl) ?_
    refine lv_ifnullN (tgt := 25) B.1 B.2.1 dX0_beside_7 (by decide) ?_
    refine lv_null B.1 B.2.1 dX0_beside_25 ?_
    refine y_ra (r := none) B hQ h (by decide) dX0_beside_26 ?_
    exact ⟨rfl, _, rfl, rfl⟩
abbrev r_c_X0_mansBeside : Room := { frames := 3, cells := 0, slots := 0, locals := 66 }
set_option maxHeartbeats 4000000 in
set_option maxRecDepth 100000 in
theorem c_X0_mansBeside (l : Launch) (D : va_G) (Zk : yK) (ca : Nat → ClassId) (T : Nat → Int → Int) (G : Nat → Int → Nat) (u : Int) (ad : Nat → Nat) (w : yW) (hC : CW ca T G u ad w) (k : Int) (sh : Int)  (hk : 0 ≤ k ∧ k < T 0 2) (hsh : xr sh) : yC l D Zk ca yX0_mansBeside cX0_mansBeside 4 (some (.object "WindWords$Reading")) r_c_X0_mansBeside [.ref (ad 1), .ref (G 4 k), .int (iI sh)] w (vQ w (fun q => (q = none ∧ ∀ j : Int, 0 ≤ j ∧ j < T 0 2 → ¬ (T 4 j = sh ∧ SEE T k j ∧ T 7 j ≠ 3)) ∨ ∃ j : Int, q = some (G 4 j) ∧ (0 ≤ j ∧ j < T 0 2) ∧ T 4 j = sh ∧ SEE T k j ∧ T 7 j ≠ 3)) := by
  refine yC.of2 "WindWords$Fleet" (by decide) rfl (Nat.le_of_ble_eq_true rfl) ?_
  intro p e s m args below meth c A ls Qf B hnm h hl hQ
  have hl : lv_has ls 4 [(0, .ref (ad 1)), (1, .ref (G 4 k)), (2, .int (iI sh))] := hl
  have hs := pi_s (CW.pi hC)
  have fo1 := CW.rd hC k (by omega)
  refine lv_aload_n B.1 B.2.1 dX0_mansBeside_0 rfl (lv_at hl 0 rfl) ?_
  refine lv_aload_n B.1 B.2.1 dX0_mansBeside_1 rfl (lv_at hl 1 rfl) ?_
  refine lv_iload_n B.1 B.2.1 dX0_mansBeside_2 rfl (lv_at hl 2 rfl) ?_
  refine y_cV B h kX0 1 (CW.f hC 1 _ rfl) k_X0_beside rfl (c_X0_beside l D Zk ca T G u ad _ hC k sh  (by omega) (by omega)) m_860 rfl (by decide) hl.1 [] (Nat.le_of_ble_eq_true rfl) rfl dX0_mansBeside_3 (fun r w1 hq H locs h => ?_)
  obtain ⟨rfl, _, rfl, ⟨rfl, q2⟩ | ⟨k3, rfl, q2⟩⟩ := hq
  · show W p l e r_c_X0_mansBeside s m args below meth c _ _ 0 0 Qf (F0 m 6 ls [.null])
    refine lv_astore_nN (lv' := [(3, .null), (0, .ref (ad 1)), (1, .ref (G 4 k)), (2, .int (iI sh))]) B.1 B.2.1 dX0_mansBeside_6 rfl hl (by decide) rfl (fun ls hl => ?_)
    refine lv_aload_nN B.1 B.2.1 dX0_mansBeside_7 rfl (lv_at hl 0 rfl) ?_
    refine lv_ifnullN (tgt := 22) B.1 B.2.1 dX0_mansBeside_8 (by decide) ?_
    refine lv_null B.1 B.2.1 dX0_mansBeside_22 ?_
    refine y_ra (r := none) B hQ h (by decide) dX0_mansBeside_23 ?_
    refine ⟨rfl, _, rfl, Or.inl ⟨rfl, ?_⟩⟩
    intro j hj hh
    first
      | (have a1 := pi_4 (CW.pi hC) j; have a2 := pi_in (CW.pi hC) j hj; omega)
      | (exact absurd ⟨hh.1, hh.2.1⟩ (‹∀ j : Int, 0 ≤ j ∧ j < T 0 2 → ¬ (T 4 j = sh ∧ T 5 j = T 5 k)› j hj))
      | (exact absurd ⟨hh.1, hh.2.1⟩ (‹∀ j : Int, 0 ≤ j ∧ j < T 0 2 → ¬ (T 4 j = sh ∧ SEE T k j)› j hj))
  · have fo4 := CW.rd hC k3 (by omega)
    show W p l e r_c_X0_mansBeside s m args below meth c _ _ 0 0 Qf (F0 m 6 ls [.ref (G 4 k3)])
    refine lv_astore_n (lv' := [(3, .ref (G 4 k3)), (0, .ref (ad 1)), (1, .ref (G 4 k)), (2, .int (iI sh))]) B.1 B.2.1 dX0_mansBeside_6 rfl hl (by decide) rfl (fun ls hl => ?_)
    refine lv_aload_n B.1 B.2.1 dX0_mansBeside_7 rfl (lv_at hl 0 rfl) ?_
    refine lv_ifnull B.1 B.2.1 dX0_mansBeside_8 ?_
    refine lv_aload_n B.1 B.2.1 dX0_mansBeside_11 rfl (lv_at hl 0 rfl) ?_
    refine y_cV B h kX4 (1000 + 16 * k3.toNat + 4) fo4 k_X4_isMans rfl (c_X4_isMans l D Zk ca T G u ad _ hC k3  (by omega)) m_873 rfl (by decide) hl.1 [] (Nat.le_of_ble_eq_true rfl) rfl dX0_mansBeside_12 (fun r w1 hq H locs h => ?_)
    obtain ⟨rfl, _, rfl, ⟨rfl, b5⟩ | ⟨rfl, b5⟩⟩ := hq
    · show W p l e r_c_X0_mansBeside s m args below meth c _ _ 0 0 Qf (F0 m 15 ls [.int (iI 1)])
      refine x_if_eq B (by omega) (tgt := 22) dX0_mansBeside_15 (by decide) (fun c6 => ?_) (fun c6 => ?_)
      · exact absurd c6 (by omega)
      · refine lv_aload_n B.1 B.2.1 dX0_mansBeside_18 rfl (lv_at hl 0 rfl) ?_
        refine lv_goto (tgt := 23) B.1 B.2.1 dX0_mansBeside_19 (by decide) ?_
        refine y_ra (r := (some (G 4 k3))) B hQ h (by decide) dX0_mansBeside_23 ?_
        exact ⟨rfl, _, rfl, Or.inr ⟨k3, rfl, by omega, by omega, ⟨by omega, by omega, by omega⟩, by omega⟩⟩
    · show W p l e r_c_X0_mansBeside s m args below meth c _ _ 0 0 Qf (F0 m 15 ls [.int (iI 0)])
      refine x_if_eq B (by omega) (tgt := 22) dX0_mansBeside_15 (by decide) (fun c7 => ?_) (fun c7 => ?_)
      · refine lv_null B.1 B.2.1 dX0_mansBeside_22 ?_
        refine y_ra (r := none) B hQ h (by decide) dX0_mansBeside_23 ?_
        refine ⟨rfl, _, rfl, Or.inl ⟨rfl, ?_⟩⟩
        intro j hj hh
        first
          | (have a1 := pi_4 (CW.pi hC) j; have a2 := pi_in (CW.pi hC) j hj; omega)
          | (exact absurd ⟨hh.1, hh.2.1⟩ (‹∀ j : Int, 0 ≤ j ∧ j < T 0 2 → ¬ (T 4 j = sh ∧ T 5 j = T 5 k)› j hj))
          | (exact absurd ⟨hh.1, hh.2.1⟩ (‹∀ j : Int, 0 ≤ j ∧ j < T 0 2 → ¬ (T 4 j = sh ∧ SEE T k j)› j hj))
          | (have e9 := pi_un (CW.pi hC) (j := j) (k := k3) hj (by omega) (by omega) (by omega); rw [e9] at hh; omega)
      · exact absurd c7 (by omega)
abbrev r_c_X0_mansBeside_N : Room := { frames := 3, cells := 0, slots := 0, locals := 66 }
set_option maxHeartbeats 4000000 in
set_option maxRecDepth 100000 in
theorem c_X0_mansBeside_N (l : Launch) (D : va_G) (Zk : yK) (ca : Nat → ClassId) (T : Nat → Int → Int) (G : Nat → Int → Nat) (u : Int) (ad : Nat → Nat) (w : yW) (hC : CW ca T G u ad w) (sh : Int)  (hsh : xr sh) : yC l D Zk ca yX0_mansBeside cX0_mansBeside 4 (some (.object "WindWords$Reading")) r_c_X0_mansBeside_N [.ref (ad 1), .null, .int (iI sh)] w (vQ w (fun q => q = none)) := by
  refine yC.of2 "WindWords$Fleet" (by decide) rfl (Nat.le_of_ble_eq_true rfl) ?_
  intro p e s m args below meth c A ls Qf B hnm h hl hQ
  have hl : lv_has ls 4 [(0, .ref (ad 1)), (1, .null), (2, .int (iI sh))] := hl
  have hs := pi_s (CW.pi hC)
  refine lv_aload_n B.1 B.2.1 dX0_mansBeside_0 rfl (lv_at hl 0 rfl) ?_
  refine lv_aload_nN B.1 B.2.1 dX0_mansBeside_1 rfl (lv_at hl 1 rfl) ?_
  refine lv_iload_n B.1 B.2.1 dX0_mansBeside_2 rfl (lv_at hl 2 rfl) ?_
  refine y_cV B h kX0 1 (CW.f hC 1 _ rfl) k_X0_beside rfl (c_X0_beside_N l D Zk ca T G u ad _ hC sh  (by omega)) m_860 rfl (by decide) hl.1 [] (Nat.le_of_ble_eq_true rfl) rfl dX0_mansBeside_3 (fun r w1 hq H locs h => ?_)
  obtain ⟨rfl, _, rfl, rfl⟩ := hq
  show W p l e r_c_X0_mansBeside_N s m args below meth c _ _ 0 0 Qf (F0 m 6 ls [.null])
  refine lv_astore_nN (lv' := [(3, .null), (0, .ref (ad 1)), (1, .null), (2, .int (iI sh))]) B.1 B.2.1 dX0_mansBeside_6 rfl hl (by decide) rfl (fun ls hl => ?_)
  refine lv_aload_nN B.1 B.2.1 dX0_mansBeside_7 rfl (lv_at hl 0 rfl) ?_
  refine lv_ifnullN (tgt := 22) B.1 B.2.1 dX0_mansBeside_8 (by decide) ?_
  refine lv_null B.1 B.2.1 dX0_mansBeside_22 ?_
  refine y_ra (r := none) B hQ h (by decide) dX0_mansBeside_23 ?_
  exact ⟨rfl, _, rfl, rfl⟩
abbrev r_c_X0_cupBeside : Room := { frames := 3, cells := 0, slots := 0, locals := 66 }
set_option maxHeartbeats 4000000 in
set_option maxRecDepth 100000 in
theorem c_X0_cupBeside (l : Launch) (D : va_G) (Zk : yK) (ca : Nat → ClassId) (T : Nat → Int → Int) (G : Nat → Int → Nat) (u : Int) (ad : Nat → Nat) (w : yW) (hC : CW ca T G u ad w) (k : Int) (sh : Int)  (hk : 0 ≤ k ∧ k < T 0 2) (hsh : xr sh) : yC l D Zk ca yX0_cupBeside cX0_cupBeside 4 (some (.object "WindWords$Reading")) r_c_X0_cupBeside [.ref (ad 1), .ref (G 4 k), .int (iI sh)] w (vQ w (fun q => (q = none ∧ ∀ j : Int, 0 ≤ j ∧ j < T 0 2 → ¬ (T 4 j = sh ∧ SEE T k j ∧ T 7 j = 3)) ∨ ∃ j : Int, q = some (G 4 j) ∧ (0 ≤ j ∧ j < T 0 2) ∧ T 4 j = sh ∧ SEE T k j ∧ T 7 j = 3)) := by
  refine yC.of2 "WindWords$Fleet" (by decide) rfl (Nat.le_of_ble_eq_true rfl) ?_
  intro p e s m args below meth c A ls Qf B hnm h hl hQ
  have hl : lv_has ls 4 [(0, .ref (ad 1)), (1, .ref (G 4 k)), (2, .int (iI sh))] := hl
  have hs := pi_s (CW.pi hC)
  have fo1 := CW.rd hC k (by omega)
  refine lv_aload_n B.1 B.2.1 dX0_cupBeside_0 rfl (lv_at hl 0 rfl) ?_
  refine lv_aload_n B.1 B.2.1 dX0_cupBeside_1 rfl (lv_at hl 1 rfl) ?_
  refine lv_iload_n B.1 B.2.1 dX0_cupBeside_2 rfl (lv_at hl 2 rfl) ?_
  refine y_cV B h kX0 1 (CW.f hC 1 _ rfl) k_X0_beside rfl (c_X0_beside l D Zk ca T G u ad _ hC k sh  (by omega) (by omega)) m_860 rfl (by decide) hl.1 [] (Nat.le_of_ble_eq_true rfl) rfl dX0_cupBeside_3 (fun r w1 hq H locs h => ?_)
  obtain ⟨rfl, _, rfl, ⟨rfl, q2⟩ | ⟨k3, rfl, q2⟩⟩ := hq
  · show W p l e r_c_X0_cupBeside s m args below meth c _ _ 0 0 Qf (F0 m 6 ls [.null])
    refine lv_astore_nN (lv' := [(3, .null), (0, .ref (ad 1)), (1, .ref (G 4 k)), (2, .int (iI sh))]) B.1 B.2.1 dX0_cupBeside_6 rfl hl (by decide) rfl (fun ls hl => ?_)
    refine lv_aload_nN B.1 B.2.1 dX0_cupBeside_7 rfl (lv_at hl 0 rfl) ?_
    refine lv_ifnullN (tgt := 22) B.1 B.2.1 dX0_cupBeside_8 (by decide) ?_
    refine lv_null B.1 B.2.1 dX0_cupBeside_22 ?_
    refine y_ra (r := none) B hQ h (by decide) dX0_cupBeside_23 ?_
    refine ⟨rfl, _, rfl, Or.inl ⟨rfl, ?_⟩⟩
    intro j hj hh
    first
      | (have a1 := pi_4 (CW.pi hC) j; have a2 := pi_in (CW.pi hC) j hj; omega)
      | (exact absurd ⟨hh.1, hh.2.1⟩ (‹∀ j : Int, 0 ≤ j ∧ j < T 0 2 → ¬ (T 4 j = sh ∧ T 5 j = T 5 k)› j hj))
      | (exact absurd ⟨hh.1, hh.2.1⟩ (‹∀ j : Int, 0 ≤ j ∧ j < T 0 2 → ¬ (T 4 j = sh ∧ SEE T k j)› j hj))
  · have fo4 := CW.rd hC k3 (by omega)
    show W p l e r_c_X0_cupBeside s m args below meth c _ _ 0 0 Qf (F0 m 6 ls [.ref (G 4 k3)])
    refine lv_astore_n (lv' := [(3, .ref (G 4 k3)), (0, .ref (ad 1)), (1, .ref (G 4 k)), (2, .int (iI sh))]) B.1 B.2.1 dX0_cupBeside_6 rfl hl (by decide) rfl (fun ls hl => ?_)
    refine lv_aload_n B.1 B.2.1 dX0_cupBeside_7 rfl (lv_at hl 0 rfl) ?_
    refine lv_ifnull B.1 B.2.1 dX0_cupBeside_8 ?_
    refine lv_aload_n B.1 B.2.1 dX0_cupBeside_11 rfl (lv_at hl 0 rfl) ?_
    refine y_cV B h kX4 (1000 + 16 * k3.toNat + 4) fo4 k_X4_isMans rfl (c_X4_isMans l D Zk ca T G u ad _ hC k3  (by omega)) m_873 rfl (by decide) hl.1 [] (Nat.le_of_ble_eq_true rfl) rfl dX0_cupBeside_12 (fun r w1 hq H locs h => ?_)
    obtain ⟨rfl, _, rfl, ⟨rfl, b5⟩ | ⟨rfl, b5⟩⟩ := hq
    · show W p l e r_c_X0_cupBeside s m args below meth c _ _ 0 0 Qf (F0 m 15 ls [.int (iI 1)])
      refine x_if_ne B (by omega) (tgt := 22) dX0_cupBeside_15 (by decide) (fun c6 => ?_) (fun c6 => ?_)
      · refine lv_null B.1 B.2.1 dX0_cupBeside_22 ?_
        refine y_ra (r := none) B hQ h (by decide) dX0_cupBeside_23 ?_
        refine ⟨rfl, _, rfl, Or.inl ⟨rfl, ?_⟩⟩
        intro j hj hh
        first
          | (have a1 := pi_4 (CW.pi hC) j; have a2 := pi_in (CW.pi hC) j hj; omega)
          | (exact absurd ⟨hh.1, hh.2.1⟩ (‹∀ j : Int, 0 ≤ j ∧ j < T 0 2 → ¬ (T 4 j = sh ∧ T 5 j = T 5 k)› j hj))
          | (exact absurd ⟨hh.1, hh.2.1⟩ (‹∀ j : Int, 0 ≤ j ∧ j < T 0 2 → ¬ (T 4 j = sh ∧ SEE T k j)› j hj))
          | (have e9 := pi_un (CW.pi hC) (j := j) (k := k3) hj (by omega) (by omega) (by omega); rw [e9] at hh; omega)
      · exact absurd c6 (by omega)
    · show W p l e r_c_X0_cupBeside s m args below meth c _ _ 0 0 Qf (F0 m 15 ls [.int (iI 0)])
      refine x_if_ne B (by omega) (tgt := 22) dX0_cupBeside_15 (by decide) (fun c7 => ?_) (fun c7 => ?_)
      · exact absurd c7 (by omega)
      · refine lv_aload_n B.1 B.2.1 dX0_cupBeside_18 rfl (lv_at hl 0 rfl) ?_
        refine lv_goto (tgt := 23) B.1 B.2.1 dX0_cupBeside_19 (by decide) ?_
        refine y_ra (r := (some (G 4 k3))) B hQ h (by decide) dX0_cupBeside_23 ?_
        exact ⟨rfl, _, rfl, Or.inr ⟨k3, rfl, by omega, by omega, ⟨by omega, by omega, by omega⟩, by omega⟩⟩
abbrev r_c_X0_cupBeside_N : Room := { frames := 3, cells := 0, slots := 0, locals := 66 }
set_option maxHeartbeats 4000000 in
set_option maxRecDepth 100000 in
theorem c_X0_cupBeside_N (l : Launch) (D : va_G) (Zk : yK) (ca : Nat → ClassId) (T : Nat → Int → Int) (G : Nat → Int → Nat) (u : Int) (ad : Nat → Nat) (w : yW) (hC : CW ca T G u ad w) (sh : Int)  (hsh : xr sh) : yC l D Zk ca yX0_cupBeside cX0_cupBeside 4 (some (.object "WindWords$Reading")) r_c_X0_cupBeside_N [.ref (ad 1), .null, .int (iI sh)] w (vQ w (fun q => q = none)) := by
  refine yC.of2 "WindWords$Fleet" (by decide) rfl (Nat.le_of_ble_eq_true rfl) ?_
  intro p e s m args below meth c A ls Qf B hnm h hl hQ
  have hl : lv_has ls 4 [(0, .ref (ad 1)), (1, .null), (2, .int (iI sh))] := hl
  have hs := pi_s (CW.pi hC)
  refine lv_aload_n B.1 B.2.1 dX0_cupBeside_0 rfl (lv_at hl 0 rfl) ?_
  refine lv_aload_nN B.1 B.2.1 dX0_cupBeside_1 rfl (lv_at hl 1 rfl) ?_
  refine lv_iload_n B.1 B.2.1 dX0_cupBeside_2 rfl (lv_at hl 2 rfl) ?_
  refine y_cV B h kX0 1 (CW.f hC 1 _ rfl) k_X0_beside rfl (c_X0_beside_N l D Zk ca T G u ad _ hC sh  (by omega)) m_860 rfl (by decide) hl.1 [] (Nat.le_of_ble_eq_true rfl) rfl dX0_cupBeside_3 (fun r w1 hq H locs h => ?_)
  obtain ⟨rfl, _, rfl, rfl⟩ := hq
  show W p l e r_c_X0_cupBeside_N s m args below meth c _ _ 0 0 Qf (F0 m 6 ls [.null])
  refine lv_astore_nN (lv' := [(3, .null), (0, .ref (ad 1)), (1, .null), (2, .int (iI sh))]) B.1 B.2.1 dX0_cupBeside_6 rfl hl (by decide) rfl (fun ls hl => ?_)
  refine lv_aload_nN B.1 B.2.1 dX0_cupBeside_7 rfl (lv_at hl 0 rfl) ?_
  refine lv_ifnullN (tgt := 22) B.1 B.2.1 dX0_cupBeside_8 (by decide) ?_
  refine lv_null B.1 B.2.1 dX0_cupBeside_22 ?_
  refine y_ra (r := none) B hQ h (by decide) dX0_cupBeside_23 ?_
  exact ⟨rfl, _, rfl, rfl⟩
