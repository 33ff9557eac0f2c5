theorem k_X9_codeAt : xMV yX9_codeAt cX9_codeAt 2 (some .int) 1 := ⟨m_757, m_755, m_756, m_101, ⟨by decide +kernel, by decide +kernel, by decide +kernel⟩⟩
theorem k_X9_widthAt : xMV yX9_widthAt cX9_widthAt 2 (some .int) 1 := ⟨m_789, m_787, m_788, m_101, ⟨by decide +kernel, by decide +kernel, by decide +kernel⟩⟩
theorem k_X1_numberUpTo : xMV yX1_numberUpTo cX1_numberUpTo 3 (some .int) 2 := ⟨m_761, m_760, m_6, m_102, ⟨by decide +kernel, by decide +kernel, by decide +kernel⟩⟩
theorem k_X5_comparison : xMS yX5_comparison cX5_comparison 3 (some .int) 3 := ⟨m_792, m_791, m_103, ⟨by decide +kernel, by decide +kernel, by decide +kernel⟩⟩
theorem k_X5_addStep : xMV yX5_addStep cX5_addStep 2 none 1 := ⟨m_796, m_794, m_795, m_103, ⟨by decide +kernel, by decide +kernel, by decide +kernel⟩⟩
theorem k_X1_takes : xMV yX1_takes cX1_takes 4 (some .boolean) 2 := ⟨m_765, m_764, m_7, m_102, ⟨by decide +kernel, by decide +kernel, by decide +kernel⟩⟩
abbrev r_c_X1_takes : Room := { frames := 0, cells := 0, slots := 0, locals := 0 }
set_option maxHeartbeats 4000000 in
set_option maxRecDepth 100000 in
theorem c_X1_takes (l : Launch) (D : va_G) (Zk : yK) (ca : Nat → ClassId) (T : Nat → Int → Int) (G : Nat → Int → Nat) (u : Int) (ad : Nat → Nat) (w : yW) (hC : CW ca T G u ad w) (code : Int)  (hcode : xr code) : yC l D Zk ca yX1_takes cX1_takes 4 (some .boolean) r_c_X1_takes [.ref (ad 26), .ref (ad 20), .int (iI code)] w (vI w (fun z => (z = 1 ∧ (True)) ∨ (z = 0 ∧ (True)))) := by
  refine yC.of2 "WindWords$Grammar" (by decide) rfl (Nat.le_of_ble_eq_true rfl) ?_
  intro p e s m args below meth c A ls Qf B hnm h hl hQ
  have hl : lv_has ls 4 [(0, .ref (ad 26)), (1, .ref (ad 20)), (2, .int (iI code))] := hl
  have hs := pi_s (CW.pi hC)
  refine lv_aload_n B.1 B.2.1 dX1_takes_0 rfl (lv_at hl 0 rfl) ?_
  obtain ⟨z1, z1a, z1b, h⟩ := yH.pin h (CW.f hC 26 _ rfl) 1 (lo := 0) (hi := 900) rfl
  have h : yH D Zk A s ((wu w 26 (ad 26, xO 1 [fG 0 1, fX z1]))) _ _ := h
  refine y_getX B h kX1 26 wu_eq 1 (z := z1) rfl m_324 (by decide) dX1_takes_1 ?_
  refine lv_aload_n B.1 B.2.1 dX1_takes_4 rfl (lv_at hl 1 rfl) ?_
  obtain ⟨z2, z2a, z2b, h⟩ := yH.pin h (wu_at (CW.f hC 20 _ rfl) (by decide)) 1 (lo := 0) (hi := 900) rfl
  have h : yH D Zk A s ((wu (wu w 26 (ad 26, xO 1 [fG 0 1, fX z1])) 20 (ad 20, xO 9 [fG 0 900, fX z2, fR (ad 21), fR (ad 22), fR (ad 23), fR (ad 24), fR (ad 25), fG 0 900]))) _ _ := h
  refine y_getX B h kX9 20 wu_eq 1 (z := z2) rfl m_291 (by decide) dX1_takes_5 ?_
  refine x_icmp_ge B (by omega) (tgt := 28) dX1_takes_8 (by decide) (fun c3 => ?_) (fun c3 => ?_)
  · refine x_iconst B dX1_takes_28 ?_
    refine lv_istore_n (lv' := [(3, .int (iI 0)), (0, .ref (ad 26)), (1, .ref (ad 20)), (2, .int (iI code))]) B.1 B.2.1 dX1_takes_29 rfl hl (by decide) rfl (fun ls hl => ?_)
    refine lv_aload_n B.1 B.2.1 dX1_takes_30 rfl (lv_at hl 1 rfl) ?_
    refine lv_dup B.1 B.2.1 dX1_takes_31 rfl ?_
    refine y_getX B h kX1 26 (wu_at wu_eq (by decide)) 1 (z := z1) rfl m_324 (by decide) dX1_takes_32 ?_
    refine lv_iload_n B.1 B.2.1 dX1_takes_35 rfl (lv_at hl 0 rfl) ?_
    refine x_if_eq B (by omega) (tgt := 43) dX1_takes_36 (by decide) (fun c4 => ?_) (fun c4 => ?_)
    · refine x_iconst B dX1_takes_43 ?_
      refine x_iadd B dX1_takes_44 ?_
      rw [wu_comm (show (26 : Nat) ≠ 20 by decide)] at h
      have h : yH D Zk A s ((wu (wu w 20 (ad 20, xO 9 [fG 0 900, fX z2, fR (ad 21), fR (ad 22), fR (ad 23), fR (ad 24), fR (ad 25), fG 0 900])) 26 (ad 26, xO 1 [fG 0 1, fX z1]))) _ _ := h
      refine y_put B h kX1 26 wu_eq 1 (Nat.le_of_ble_eq_true rfl) (P' := fX (z1 + 0)) m_324 (by decide) rfl rfl rfl rfl dX1_takes_45 (fun H locs h => ?_)
      rw [wu_wu] at h
      have h : yH D Zk A s ((wu (wu w 20 (ad 20, xO 9 [fG 0 900, fX z2, fR (ad 21), fR (ad 22), fR (ad 23), fR (ad 24), fR (ad 25), fG 0 900])) 26 (ad 26, xO 1 [fG 0 1, fX (z1 + 0)]))) _ _ := h
      refine lv_iload_n B.1 B.2.1 dX1_takes_48 rfl (lv_at hl 0 rfl) ?_
      have h : yH D Zk A s ((wu w 20 (ad 20, xO 9 [fG 0 900, fX z2, fR (ad 21), fR (ad 22), fR (ad 23), fR (ad 24), fR (ad 25), fG 0 900]))) _ _ := yH.unpin h (wu_at (CW.f hC 26 _ rfl) (by decide)) (xO_le (fLe_cons (fun _ x => x) (fLe_cons (fX_G (by omega)) fLe_nil)))
      have h : yH D Zk A s w _ _ := yH.unpin h (CW.f hC 20 _ rfl) (xO_le (fLe_cons (fun _ x => x) (fLe_cons (fX_G (by omega)) (fLe_cons (fun _ x => x) (fLe_cons (fun _ x => x) (fLe_cons (fun _ x => x) (fLe_cons (fun _ x => x) (fLe_cons (fun _ x => x) (fLe_cons (fun _ x => x) fLe_nil)))))))))
      refine y_rz B hQ h (by decide) (by decide) dX1_takes_49 ?_
      exact ⟨rfl, _, rfl, Or.inr ⟨rfl, (by first | omega | trivial | assumption)⟩⟩
    · exact absurd c4 (by omega)
  · refine lv_aload_n B.1 B.2.1 dX1_takes_11 rfl (lv_at hl 1 rfl) ?_
    refine y_getN (host := "WindWords") B h kX9 20 wu_eq 3 (P := fR (ad 22)) rfl (by decide) (by decide) dX1_takes_12 (fun v5 hv5 => ?_)
    cases hv5
    refine lv_aload_n B.1 B.2.1 dX1_takes_15 rfl (lv_at hl 0 rfl) ?_
    refine y_getX B h kX1 26 (wu_at wu_eq (by decide)) 1 (z := z1) rfl m_324 (by decide) dX1_takes_16 ?_
    refine y_ialdG B h 22 (wu_at (wu_at (CW.f hC 22 _ rfl) (by decide)) (by decide)) (by omega) dX1_takes_19 (fun z6 z6a z6b => ?_)
    refine lv_iload_n B.1 B.2.1 dX1_takes_20 rfl (lv_at hl 2 rfl) ?_
    refine x_icmp_ne B (by omega) (tgt := 28) dX1_takes_21 (by decide) (fun c7 => ?_) (fun c7 => ?_)
    · refine x_iconst B dX1_takes_28 ?_
      refine lv_istore_n (lv' := [(3, .int (iI 0)), (0, .ref (ad 26)), (1, .ref (ad 20)), (2, .int (iI code))]) B.1 B.2.1 dX1_takes_29 rfl hl (by decide) rfl (fun ls hl => ?_)
      refine lv_aload_n B.1 B.2.1 dX1_takes_30 rfl (lv_at hl 1 rfl) ?_
      refine lv_dup B.1 B.2.1 dX1_takes_31 rfl ?_
      refine y_getX B h kX1 26 (wu_at wu_eq (by decide)) 1 (z := z1) rfl m_324 (by decide) dX1_takes_32 ?_
      refine lv_iload_n B.1 B.2.1 dX1_takes_35 rfl (lv_at hl 0 rfl) ?_
      refine x_if_eq B (by omega) (tgt := 43) dX1_takes_36 (by decide) (fun c8 => ?_) (fun c8 => ?_)
      · refine x_iconst B dX1_takes_43 ?_
        refine x_iadd B dX1_takes_44 ?_
        rw [wu_comm (show (26 : Nat) ≠ 20 by decide)] at h
        have h : yH D Zk A s ((wu (wu w 20 (ad 20, xO 9 [fG 0 900, fX z2, fR (ad 21), fR (ad 22), fR (ad 23), fR (ad 24), fR (ad 25), fG 0 900])) 26 (ad 26, xO 1 [fG 0 1, fX z1]))) _ _ := h
        refine y_put B h kX1 26 wu_eq 1 (Nat.le_of_ble_eq_true rfl) (P' := fX (z1 + 0)) m_324 (by decide) rfl rfl rfl rfl dX1_takes_45 (fun H locs h => ?_)
        rw [wu_wu] at h
        have h : yH D Zk A s ((wu (wu w 20 (ad 20, xO 9 [fG 0 900, fX z2, fR (ad 21), fR (ad 22), fR (ad 23), fR (ad 24), fR (ad 25), fG 0 900])) 26 (ad 26, xO 1 [fG 0 1, fX (z1 + 0)]))) _ _ := h
        refine lv_iload_n B.1 B.2.1 dX1_takes_48 rfl (lv_at hl 0 rfl) ?_
        have h : yH D Zk A s ((wu w 20 (ad 20, xO 9 [fG 0 900, fX z2, fR (ad 21), fR (ad 22), fR (ad 23), fR (ad 24), fR (ad 25), fG 0 900]))) _ _ := yH.unpin h (wu_at (CW.f hC 26 _ rfl) (by decide)) (xO_le (fLe_cons (fun _ x => x) (fLe_cons (fX_G (by omega)) fLe_nil)))
        have h : yH D Zk A s w _ _ := yH.unpin h (CW.f hC 20 _ rfl) (xO_le (fLe_cons (fun _ x => x) (fLe_cons (fX_G (by omega)) (fLe_cons (fun _ x => x) (fLe_cons (fun _ x => x) (fLe_cons (fun _ x => x) (fLe_cons (fun _ x => x) (fLe_cons (fun _ x => x) (fLe_cons (fun _ x => x) fLe_nil)))))))))
        refine y_rz B hQ h (by decide) (by decide) dX1_takes_49 ?_
        exact ⟨rfl, _, rfl, Or.inr ⟨rfl, (by first | omega | trivial | assumption)⟩⟩
      · exact absurd c8 (by omega)
    · refine x_iconst B dX1_takes_24 ?_
      refine lv_goto (tgt := 29) B.1 B.2.1 dX1_takes_25 (by decide) ?_
      refine lv_istore_n (lv' := [(3, .int (iI 1)), (0, .ref (ad 26)), (1, .ref (ad 20)), (2, .int (iI code))]) B.1 B.2.1 dX1_takes_29 rfl hl (by decide) rfl (fun ls hl => ?_)
      refine lv_aload_n B.1 B.2.1 dX1_takes_30 rfl (lv_at hl 1 rfl) ?_
      refine lv_dup B.1 B.2.1 dX1_takes_31 rfl ?_
      refine y_getX B h kX1 26 (wu_at wu_eq (by decide)) 1 (z := z1) rfl m_324 (by decide) dX1_takes_32 ?_
      refine lv_iload_n B.1 B.2.1 dX1_takes_35 rfl (lv_at hl 0 rfl) ?_
      refine x_if_eq B (by omega) (tgt := 43) dX1_takes_36 (by decide) (fun c9 => ?_) (fun c9 => ?_)
      · exact absurd c9 (by omega)
      · refine x_iconst B dX1_takes_39 ?_
        refine lv_goto (tgt := 44) B.1 B.2.1 dX1_takes_40 (by decide) ?_
        refine x_iadd B dX1_takes_44 ?_
        rw [wu_comm (show (26 : Nat) ≠ 20 by decide)] at h
        have h : yH D Zk A s ((wu (wu w 20 (ad 20, xO 9 [fG 0 900, fX z2, fR (ad 21), fR (ad 22), fR (ad 23), fR (ad 24), fR (ad 25), fG 0 900])) 26 (ad 26, xO 1 [fG 0 1, fX z1]))) _ _ := h
        refine y_put B h kX1 26 wu_eq 1 (Nat.le_of_ble_eq_true rfl) (P' := fX (z1 + 1)) m_324 (by decide) rfl rfl rfl rfl dX1_takes_45 (fun H locs h => ?_)
        rw [wu_wu] at h
        have h : yH D Zk A s ((wu (wu w 20 (ad 20, xO 9 [fG 0 900, fX z2, fR (ad 21), fR (ad 22), fR (ad 23), fR (ad 24), fR (ad 25), fG 0 900])) 26 (ad 26, xO 1 [fG 0 1, fX (z1 + 1)]))) _ _ := h
        refine lv_iload_n B.1 B.2.1 dX1_takes_48 rfl (lv_at hl 0 rfl) ?_
        have h : yH D Zk A s ((wu w 20 (ad 20, xO 9 [fG 0 900, fX z2, fR (ad 21), fR (ad 22), fR (ad 23), fR (ad 24), fR (ad 25), fG 0 900]))) _ _ := yH.unpin h (wu_at (CW.f hC 26 _ rfl) (by decide)) (xO_le (fLe_cons (fun _ x => x) (fLe_cons (fX_G (by omega)) fLe_nil)))
        have h : yH D Zk A s w _ _ := yH.unpin h (CW.f hC 20 _ rfl) (xO_le (fLe_cons (fun _ x => x) (fLe_cons (fX_G (by omega)) (fLe_cons (fun _ x => x) (fLe_cons (fun _ x => x) (fLe_cons (fun _ x => x) (fLe_cons (fun _ x => x) (fLe_cons (fun _ x => x) (fLe_cons (fun _ x => x) fLe_nil)))))))))
        refine y_rz B hQ h (by decide) (by decide) dX1_takes_49 ?_
        exact ⟨rfl, _, rfl, Or.inl ⟨rfl, (by first | omega | trivial | assumption)⟩⟩
abbrev r_c_X1_numberUpTo : Room := { frames := 0, cells := 0, slots := 0, locals := 0 }
set_option maxHeartbeats 4000000 in
set_option maxRecDepth 100000 in
theorem c_X1_numberUpTo (l : Launch) (D : va_G) (Zk : yK) (ca : Nat → ClassId) (T : Nat → Int → Int) (G : Nat → Int → Nat) (u : Int) (ad : Nat → Nat) (w : yW) (hC : CW ca T G u ad w) (most : Int)  (hmost : 0 ≤ most ∧ most ≤ 9999) : yC l D Zk ca yX1_numberUpTo cX1_numberUpTo 3 (some .int) r_c_X1_numberUpTo [.ref (ad 26), .ref (ad 20), .int (iI most)] w (vI w (fun z => z = -1 ∨ (0 ≤ z ∧ z ≤ most))) := by
  refine yC.of2 "WindWords$Grammar" (by decide) rfl (Nat.le_of_ble_eq_true rfl) ?_
  intro p e s m args below meth c A ls Qf B hnm h hl hQ
  have hl : lv_has ls 3 [(0, .ref (ad 26)), (1, .ref (ad 20)), (2, .int (iI most))] := hl
  have hs := pi_s (CW.pi hC)
  refine lv_aload_n B.1 B.2.1 dX1_numberUpTo_0 rfl (lv_at hl 0 rfl) ?_
  obtain ⟨z1, z1a, z1b, h⟩ := yH.pin h (CW.f hC 26 _ rfl) 1 (lo := 0) (hi := 900) rfl
  have h : yH D Zk A s ((wu w 26 (ad 26, xO 1 [fG 0 1, fX z1]))) _ _ := h
  refine y_getX B h kX1 26 wu_eq 1 (z := z1) rfl m_324 (by decide) dX1_numberUpTo_1 ?_
  refine lv_aload_n B.1 B.2.1 dX1_numberUpTo_4 rfl (lv_at hl 1 rfl) ?_
  obtain ⟨z2, z2a, z2b, h⟩ := yH.pin h (wu_at (CW.f hC 20 _ rfl) (by decide)) 1 (lo := 0) (hi := 900) rfl
  have h : yH D Zk A s ((wu (wu w 26 (ad 26, xO 1 [fG 0 1, fX z1])) 20 (ad 20, xO 9 [fG 0 900, fX z2, fR (ad 21), fR (ad 22), fR (ad 23), fR (ad 24), fR (ad 25), fG 0 900]))) _ _ := h
  refine y_getX B h kX9 20 wu_eq 1 (z := z2) rfl m_291 (by decide) dX1_numberUpTo_5 ?_
  refine x_icmp_ge B (by omega) (tgt := 37) dX1_numberUpTo_8 (by decide) (fun c3 => ?_) (fun c3 => ?_)
  · refine x_iconst B dX1_numberUpTo_37 ?_
    have h : yH D Zk A s ((wu w 26 (ad 26, xO 1 [fG 0 1, fX z1]))) _ _ := yH.unpin h (wu_at (CW.f hC 20 _ rfl) (by decide)) (xO_le (fLe_cons (fun _ x => x) (fLe_cons (fX_G (by omega)) (fLe_cons (fun _ x => x) (fLe_cons (fun _ x => x) (fLe_cons (fun _ x => x) (fLe_cons (fun _ x => x) (fLe_cons (fun _ x => x) (fLe_cons (fun _ x => x) fLe_nil)))))))))
    have h : yH D Zk A s w _ _ := yH.unpin h (CW.f hC 26 _ rfl) (xO_le (fLe_cons (fun _ x => x) (fLe_cons (fX_G (by omega)) fLe_nil)))
    refine y_ri B hQ h (by decide) dX1_numberUpTo_38 ?_
    exact ⟨rfl, _, rfl, (by first | omega | trivial | assumption)⟩
  · refine lv_aload_n B.1 B.2.1 dX1_numberUpTo_11 rfl (lv_at hl 1 rfl) ?_
    refine y_getN (host := "WindWords") B h kX9 20 wu_eq 3 (P := fR (ad 22)) rfl (by decide) (by decide) dX1_numberUpTo_12 (fun v4 hv4 => ?_)
    cases hv4
    refine lv_aload_n B.1 B.2.1 dX1_numberUpTo_15 rfl (lv_at hl 0 rfl) ?_
    refine y_getX B h kX1 26 (wu_at wu_eq (by decide)) 1 (z := z1) rfl m_324 (by decide) dX1_numberUpTo_16 ?_
    refine y_ialdG B h 22 (wu_at (wu_at (CW.f hC 22 _ rfl) (by decide)) (by decide)) (by omega) dX1_numberUpTo_19 (fun z5 z5a z5b => ?_)
    refine x_iconst B dX1_numberUpTo_20 ?_
    refine x_icmp_ne B (by omega) (tgt := 37) dX1_numberUpTo_21 (by decide) (fun c6 => ?_) (fun c6 => ?_)
    · refine x_iconst B dX1_numberUpTo_37 ?_
      have h : yH D Zk A s ((wu w 26 (ad 26, xO 1 [fG 0 1, fX z1]))) _ _ := yH.unpin h (wu_at (CW.f hC 20 _ rfl) (by decide)) (xO_le (fLe_cons (fun _ x => x) (fLe_cons (fX_G (by omega)) (fLe_cons (fun _ x => x) (fLe_cons (fun _ x => x) (fLe_cons (fun _ x => x) (fLe_cons (fun _ x => x) (fLe_cons (fun _ x => x) (fLe_cons (fun _ x => x) fLe_nil)))))))))
      have h : yH D Zk A s w _ _ := yH.unpin h (CW.f hC 26 _ rfl) (xO_le (fLe_cons (fun _ x => x) (fLe_cons (fX_G (by omega)) fLe_nil)))
      refine y_ri B hQ h (by decide) dX1_numberUpTo_38 ?_
      exact ⟨rfl, _, rfl, (by first | omega | trivial | assumption)⟩
    · refine lv_aload_n B.1 B.2.1 dX1_numberUpTo_24 rfl (lv_at hl 1 rfl) ?_
      refine y_getN (host := "WindWords") B h kX9 20 wu_eq 6 (P := fR (ad 25)) rfl (by decide) (by decide) dX1_numberUpTo_25 (fun v7 hv7 => ?_)
      cases hv7
      refine lv_aload_n B.1 B.2.1 dX1_numberUpTo_28 rfl (lv_at hl 0 rfl) ?_
      refine y_getX B h kX1 26 (wu_at wu_eq (by decide)) 1 (z := z1) rfl m_324 (by decide) dX1_numberUpTo_29 ?_
      obtain ⟨g8, hg8, h⟩ := yH.pinG h (wu_at (wu_at (CW.f hC 25 _ rfl) (by decide)) (by decide))
      have h : yH D Zk A s ((wu (wu (wu w 26 (ad 26, xO 1 [fG 0 1, fX z1])) 20 (ad 20, xO 9 [fG 0 900, fX z2, fR (ad 21), fR (ad 22), fR (ad 23), fR (ad 24), fR (ad 25), fG 0 900])) 25 (ad 25, xAI (ca 0) 900 (gX 900 g8)))) _ _ := h
      have gb9 := hg8 (z1).toNat (by omega)
      refine y_ialdX B h 25 wu_eq (by omega) dX1_numberUpTo_32 ?_
      refine lv_iload_n B.1 B.2.1 dX1_numberUpTo_33 rfl (lv_at hl 2 rfl) ?_
      refine x_icmp_le B (by omega) (tgt := 39) dX1_numberUpTo_34 (by decide) (fun c10 => ?_) (fun c10 => ?_)
      · refine lv_aload_n B.1 B.2.1 dX1_numberUpTo_39 rfl (lv_at hl 0 rfl) ?_
        refine lv_dup B.1 B.2.1 dX1_numberUpTo_40 rfl ?_
        refine y_getX B h kX1 26 (wu_at (wu_at wu_eq (by decide)) (by decide)) 1 (z := z1) rfl m_324 (by decide) dX1_numberUpTo_41 ?_
        refine x_iconst B dX1_numberUpTo_44 ?_
        refine x_iadd B dX1_numberUpTo_45 ?_
        rw [wu_comm (show (26 : Nat) ≠ 20 by decide), wu_comm (show (26 : Nat) ≠ 25 by decide)] at h
        have h : yH D Zk A s ((wu (wu (wu w 20 (ad 20, xO 9 [fG 0 900, fX z2, fR (ad 21), fR (ad 22), fR (ad 23), fR (ad 24), fR (ad 25), fG 0 900])) 25 (ad 25, xAI (ca 0) 900 (gX 900 g8))) 26 (ad 26, xO 1 [fG 0 1, fX z1]))) _ _ := h
        refine y_put B h kX1 26 wu_eq 1 (Nat.le_of_ble_eq_true rfl) (P' := fX (z1 + 1)) m_324 (by decide) rfl rfl rfl rfl dX1_numberUpTo_46 (fun H locs h => ?_)
        rw [wu_wu] at h
        have h : yH D Zk A s ((wu (wu (wu w 20 (ad 20, xO 9 [fG 0 900, fX z2, fR (ad 21), fR (ad 22), fR (ad 23), fR (ad 24), fR (ad 25), fG 0 900])) 25 (ad 25, xAI (ca 0) 900 (gX 900 g8))) 26 (ad 26, xO 1 [fG 0 1, fX (z1 + 1)]))) _ _ := h
        refine lv_aload_n B.1 B.2.1 dX1_numberUpTo_49 rfl (lv_at hl 1 rfl) ?_
        refine y_getN (host := "WindWords") B h kX9 20 (wu_at (wu_at wu_eq (by decide)) (by decide)) 6 (P := fR (ad 25)) rfl (by decide) (by decide) dX1_numberUpTo_50 (fun v11 hv11 => ?_)
        cases hv11
        refine lv_aload_n B.1 B.2.1 dX1_numberUpTo_53 rfl (lv_at hl 0 rfl) ?_
        refine y_getX B h kX1 26 wu_eq 1 (z := (z1 + 1)) rfl m_324 (by decide) dX1_numberUpTo_54 ?_
        refine x_iconst B dX1_numberUpTo_57 ?_
        refine x_isub B dX1_numberUpTo_58 ?_
        refine x_iset (z := z1) (congrArg iI (by omega)) ?_
        have gb12 := hg8 (z1).toNat (by omega)
        refine y_ialdX B h 25 (wu_at wu_eq (by decide)) (by omega) dX1_numberUpTo_59 ?_
        have h : yH D Zk A s ((wu (wu w 20 (ad 20, xO 9 [fG 0 900, fX z2, fR (ad 21), fR (ad 22), fR (ad 23), fR (ad 24), fR (ad 25), fG 0 900])) 25 (ad 25, xAI (ca 0) 900 (gX 900 g8)))) _ _ := yH.unpin h (wu_at (wu_at (CW.f hC 26 _ rfl) (by decide)) (by decide)) (xO_le (fLe_cons (fun _ x => x) (fLe_cons (fX_G (by omega)) fLe_nil)))
        have h : yH D Zk A s ((wu w 20 (ad 20, xO 9 [fG 0 900, fX z2, fR (ad 21), fR (ad 22), fR (ad 23), fR (ad 24), fR (ad 25), fG 0 900]))) _ _ := yH.unpin h (wu_at (CW.f hC 25 _ rfl) (by decide)) (xAI_XG hg8)
        have h : yH D Zk A s w _ _ := yH.unpin h (CW.f hC 20 _ rfl) (xO_le (fLe_cons (fun _ x => x) (fLe_cons (fX_G (by omega)) (fLe_cons (fun _ x => x) (fLe_cons (fun _ x => x) (fLe_cons (fun _ x => x) (fLe_cons (fun _ x => x) (fLe_cons (fun _ x => x) (fLe_cons (fun _ x => x) fLe_nil)))))))))
        refine y_ri B hQ h (by decide) dX1_numberUpTo_60 ?_
        exact ⟨rfl, _, rfl, (by first | omega | trivial | assumption)⟩
      · refine x_iconst B dX1_numberUpTo_37 ?_
        have h : yH D Zk A s ((wu (wu w 26 (ad 26, xO 1 [fG 0 1, fX z1])) 20 (ad 20, xO 9 [fG 0 900, fX z2, fR (ad 21), fR (ad 22), fR (ad 23), fR (ad 24), fR (ad 25), fG 0 900]))) _ _ := yH.unpin h (wu_at (wu_at (CW.f hC 25 _ rfl) (by decide)) (by decide)) (xAI_XG hg8)
        have h : yH D Zk A s ((wu w 26 (ad 26, xO 1 [fG 0 1, fX z1]))) _ _ := yH.unpin h (wu_at (CW.f hC 20 _ rfl) (by decide)) (xO_le (fLe_cons (fun _ x => x) (fLe_cons (fX_G (by omega)) (fLe_cons (fun _ x => x) (fLe_cons (fun _ x => x) (fLe_cons (fun _ x => x) (fLe_cons (fun _ x => x) (fLe_cons (fun _ x => x) (fLe_cons (fun _ x => x) fLe_nil)))))))))
        have h : yH D Zk A s w _ _ := yH.unpin h (CW.f hC 26 _ rfl) (xO_le (fLe_cons (fun _ x => x) (fLe_cons (fX_G (by omega)) fLe_nil)))
        refine y_ri B hQ h (by decide) dX1_numberUpTo_38 ?_
        exact ⟨rfl, _, rfl, (by first | omega | trivial | assumption)⟩
abbrev r_c_X1_takesComparison : Room := { frames := 1, cells := 0, slots := 0, locals := 23 }
set_option maxHeartbeats 4000000 in
set_option maxRecDepth 100000 in
theorem c_X1_takesComparison (l : Launch) (D : va_G) (Zk : yK) (ca : Nat → ClassId) (T : Nat → Int → Int) (G : Nat → Int → Nat) (u : Int) (ad : Nat → Nat) (w : yW) (hC : CW ca T G u ad w) (j : Int)  (hj : 0 ≤ j ∧ j < u) : yC l D Zk ca yX1_takesComparison cX1_takesComparison 7 (some .boolean) r_c_X1_takesComparison [.ref (ad 26), .ref (ad 20), .ref (G 6 j)] w (vI w (fun z => (z = 1 ∧ (True)) ∨ (z = 0 ∧ (True)))) := by
  refine yC.of2 "WindWords$Grammar" (by decide) rfl (Nat.le_of_ble_eq_true rfl) ?_
  intro p e s m args below meth c A ls Qf B hnm h hl hQ
  have hl : lv_has ls 7 [(0, .ref (ad 26)), (1, .ref (ad 20)), (2, .ref (G 6 j))] := hl
  have hs := pi_s (CW.pi hC)
  have fo1 := CW.ru hC j (by omega)
  refine lv_aload_n B.1 B.2.1 dX1_takesComparison_0 rfl (lv_at hl 1 rfl) ?_
  refine lv_aload_n B.1 B.2.1 dX1_takesComparison_1 rfl (lv_at hl 0 rfl) ?_
  obtain ⟨z2, z2a, z2b, h⟩ := yH.pin h (CW.f hC 26 _ rfl) 1 (lo := 0) (hi := 900) rfl
  have h : yH D Zk A s ((wu w 26 (ad 26, xO 1 [fG 0 1, fX z2]))) _ _ := h
  refine y_getX B h kX1 26 wu_eq 1 (z := z2) rfl m_324 (by decide) dX1_takesComparison_2 ?_
  refine y_cV B h kX9 20 (wu_at (CW.f hC 20 _ rfl) (by decide)) k_X9_codeAt rfl (c_X9_codeAt l D Zk ca _ z2 (fG 0 900) (fR (ad 21)) (fR (ad 23)) (fR (ad 24)) (fR (ad 25)) (fG 0 900) (ad 20) 20 (ad 22) 22 (wu_at (CW.f hC 20 _ rfl) (by decide)) (wu_at (CW.f hC 22 _ rfl) (by decide)) (by omega)) m_754 rfl (by decide) hl.1 [] (Nat.le_of_ble_eq_true rfl) rfl dX1_takesComparison_5 (fun r w1 hq H locs h => ?_)
  obtain ⟨rfl, z3, rfl, hz3⟩ := hq
  show W p l e r_c_X1_takesComparison s m args below meth c _ _ 0 0 Qf (F0 m 8 ls [.int (iI z3)])
  refine x_sipush B (by decide) dX1_takesComparison_8 ?_
  refine x_isub B dX1_takesComparison_11 ?_
  refine lv_istore_n (lv' := [(3, .int (iI (z3 - 210))), (0, .ref (ad 26)), (1, .ref (ad 20)), (2, .ref (G 6 j))]) B.1 B.2.1 dX1_takesComparison_12 rfl hl (by decide) rfl (fun ls hl => ?_)
  have join68 : ∀ (kn : Int), (kn = 0 ∨ (kn = 1 ∧ 0 ≤ (z3 - 210) ∧ (z3 - 210) ≤ 4)) → ∀ (H : Heap) (locs : List Loc) (ls : Array Slot), yH D Zk A s ((wu w 26 (ad 26, xO 1 [fG 0 1, fX z2]))) H locs → lv_has ls 7 [(4, .int (iI kn)), (3, .int (iI (z3 - 210))), (0, .ref (ad 26)), (1, .ref (ad 20)), (2, .ref (G 6 j))] → W p l e r_c_X1_takesComparison s m args below meth c H locs 0 0 Qf (F0 m 68 ls []) := by
    intro kn hk H locs ls h hl
    refine lv_iload B.1 B.2.1 dX1_takesComparison_68 (lv_at hl 0 rfl) ?_
    refine x_if_ne B (by omega) (tgt := 75) dX1_takesComparison_70 (by decide) (fun c4 => ?_) (fun c4 => ?_)
    · refine lv_aload_n B.1 B.2.1 dX1_takesComparison_75 rfl (lv_at hl 2 rfl) ?_
      refine lv_dup B.1 B.2.1 dX1_takesComparison_76 rfl ?_
      refine y_getX B h kX1 26 wu_eq 1 (z := z2) rfl m_324 (by decide) dX1_takesComparison_77 ?_
      refine x_iconst B dX1_takesComparison_80 ?_
      refine x_iadd B dX1_takesComparison_81 ?_
      refine y_put B h kX1 26 wu_eq 1 (Nat.le_of_ble_eq_true rfl) (P' := fX (z2 + 1)) m_324 (by decide) rfl rfl rfl rfl dX1_takesComparison_82 (fun H locs h => ?_)
      rw [wu_wu] at h
      have h : yH D Zk A s ((wu w 26 (ad 26, xO 1 [fG 0 1, fX (z2 + 1)]))) _ _ := h
      refine lv_aload_n B.1 B.2.1 dX1_takesComparison_85 rfl (lv_at hl 3 rfl) ?_
      refine lv_aload_n B.1 B.2.1 dX1_takesComparison_86 rfl (lv_at hl 2 rfl) ?_
      refine y_getX B h kX1 26 wu_eq 1 (z := (z2 + 1)) rfl m_324 (by decide) dX1_takesComparison_87 ?_
      refine y_cV B h kX9 20 (wu_at (CW.f hC 20 _ rfl) (by decide)) k_X9_codeAt rfl (c_X9_codeAt l D Zk ca _ ((z2 + 1)) (fG 0 900) (fR (ad 21)) (fR (ad 23)) (fR (ad 24)) (fR (ad 25)) (fG 0 900) (ad 20) 20 (ad 22) 22 (wu_at (CW.f hC 20 _ rfl) (by decide)) (wu_at (CW.f hC 22 _ rfl) (by decide)) (by omega)) m_754 rfl (by decide) hl.1 [] (Nat.le_of_ble_eq_true rfl) rfl dX1_takesComparison_90 (fun r w1 hq H locs h => ?_)
      obtain ⟨rfl, z5, rfl, hz5⟩ := hq
      show W p l e r_c_X1_takesComparison s m args below meth c _ _ 0 0 Qf (F0 m 93 ls [.int (iI z5)])
      refine lv_istore (lv' := [(5, .int (iI z5)), (4, .int (iI kn)), (3, .int (iI (z3 - 210))), (0, .ref (ad 26)), (1, .ref (ad 20)), (2, .ref (G 6 j))]) B.1 B.2.1 dX1_takesComparison_93 hl (by decide) rfl (fun ls hl => ?_)
      have h : yH D Zk A s w _ _ := yH.unpin h (CW.f hC 26 _ rfl) (xO_le (fLe_cons (fun _ x => x) (fLe_cons (fX_G (by omega)) fLe_nil)))
      have join127 : ∀ (_ : Unit), ∀ (H : Heap) (locs : List Loc) (ls : Array Slot), yH D Zk A s w H locs → lv_has ls 7 [(5, .int (iI z5)), (3, .int (iI (z3 - 210))), (0, .ref (ad 26)), (1, .ref (ad 20)), (2, .ref (G 6 j))] → W p l e r_c_X1_takesComparison s m args below meth c H locs 0 0 Qf (F0 m 127 ls []) := by
        intro _  H locs ls h hl
        refine lv_aload_n B.1 B.2.1 dX1_takesComparison_127 rfl (lv_at hl 3 rfl) ?_
        refine lv_aload_n B.1 B.2.1 dX1_takesComparison_128 rfl (lv_at hl 2 rfl) ?_
        obtain ⟨z6, z6a, z6b, h⟩ := yH.pin h (CW.f hC 26 _ rfl) 1 (lo := 0) (hi := 900) rfl
        have h : yH D Zk A s ((wu w 26 (ad 26, xO 1 [fG 0 1, fX z6]))) _ _ := h
        refine y_getX B h kX1 26 wu_eq 1 (z := z6) rfl m_324 (by decide) dX1_takesComparison_129 ?_
        refine y_cV B h kX9 20 (wu_at (CW.f hC 20 _ rfl) (by decide)) k_X9_widthAt rfl (c_X9_widthAt l D Zk ca _ z6 (fG 0 900) (fR (ad 21)) (fR (ad 22)) (fR (ad 23)) (fR (ad 25)) (fG 0 900) (ad 20) 20 (ad 24) 24 (wu_at (CW.f hC 20 _ rfl) (by decide)) (wu_at (CW.f hC 24 _ rfl) (by decide)) (by omega)) m_786 rfl (by decide) hl.1 [] (Nat.le_of_ble_eq_true rfl) rfl dX1_takesComparison_132 (fun r w1 hq H locs h => ?_)
        obtain ⟨rfl, z7, rfl, hz7⟩ := hq
        show W p l e r_c_X1_takesComparison s m args below meth c _ _ 0 0 Qf (F0 m 135 ls [.int (iI z7)])
        refine x_iconst B dX1_takesComparison_135 ?_
        refine x_icmp_le B (by omega) (tgt := 143) dX1_takesComparison_136 (by decide) (fun c8 => ?_) (fun c8 => ?_)
        · refine lv_aload_n B.1 B.2.1 dX1_takesComparison_143 rfl (lv_at hl 2 rfl) ?_
          refine lv_aload_n B.1 B.2.1 dX1_takesComparison_144 rfl (lv_at hl 3 rfl) ?_
          refine x_sipush B (by decide) dX1_takesComparison_145 ?_
          have h : yH D Zk A s w _ _ := yH.unpin h (CW.f hC 26 _ rfl) (xO_le (fLe_cons (fun _ x => x) (fLe_cons (fX_G (by omega)) fLe_nil)))
          refine y_cV B h kX1 26 (CW.f hC 26 _ rfl) k_X1_numberUpTo rfl (c_X1_numberUpTo l D Zk ca T G u ad _ hC 9999  (by omega)) m_758 rfl (by decide) hl.1 [] (Nat.le_of_ble_eq_true rfl) rfl dX1_takesComparison_148 (fun r w1 hq H locs h => ?_)
          obtain ⟨rfl, z9, rfl, hz9⟩ := hq
          show W p l e r_c_X1_takesComparison s m args below meth c _ _ 0 0 Qf (F0 m 151 ls [.int (iI z9)])
          refine lv_istore (lv' := [(6, .int (iI z9)), (5, .int (iI z5)), (3, .int (iI (z3 - 210))), (0, .ref (ad 26)), (1, .ref (ad 20)), (2, .ref (G 6 j))]) B.1 B.2.1 dX1_takesComparison_151 hl (by decide) rfl (fun ls hl => ?_)
          refine lv_iload B.1 B.2.1 dX1_takesComparison_153 (lv_at hl 0 rfl) ?_
          refine x_iconst B dX1_takesComparison_155 ?_
          refine x_icmp_ne B (by omega) (tgt := 161) dX1_takesComparison_156 (by decide) (fun c10 => ?_) (fun c10 => ?_)
          · refine lv_aload_n B.1 B.2.1 dX1_takesComparison_161 rfl (lv_at hl 5 rfl) ?_
            refine lv_iload_n B.1 B.2.1 dX1_takesComparison_162 rfl (lv_at hl 2 rfl) ?_
            refine lv_iload B.1 B.2.1 dX1_takesComparison_163 (lv_at hl 1 rfl) ?_
            refine lv_iload B.1 B.2.1 dX1_takesComparison_165 (lv_at hl 0 rfl) ?_
            refine y_cS B h k_X5_comparison (c_X5_comparison l D Zk ca _ ((z3 - 210)) z5 z9  (by omega) (by omega) (by omega)) m_790 rfl (by decide) hl.1 [.ref (G 6 j)] (Nat.le_of_ble_eq_true rfl) rfl dX1_takesComparison_167 (fun r w1 hq H locs h => ?_)
            obtain ⟨rfl, z11, rfl, hz11⟩ := hq
            show W p l e r_c_X1_takesComparison s m args below meth c _ _ 0 0 Qf (F0 m 170 ls [.int (iI z11), .ref (G 6 j)])
            refine y_cV B h kX5 (1000 + 16 * j.toNat + 6) fo1.1 k_X5_addStep rfl (c_X5_addStep l D Zk ca T G u ad _ hC j z11  (by omega) (by omega)) m_793 rfl (by decide) hl.1 [] (Nat.le_of_ble_eq_true rfl) rfl dX1_takesComparison_170 (fun r w1 hq H locs h => ?_)
            obtain ⟨rfl, rfl⟩ := hq
            show W p l e r_c_X1_takesComparison s m args below meth c _ _ 0 0 Qf (F0 m 173 ls [])
            refine x_iconst B dX1_takesComparison_173 ?_
            refine y_rz B hQ h (by decide) (by decide) dX1_takesComparison_174 ?_
            exact ⟨rfl, _, rfl, Or.inl ⟨rfl, (by first | omega | trivial | assumption)⟩⟩
          · refine x_iconst B dX1_takesComparison_159 ?_
            refine y_rz B hQ h (by decide) (by decide) dX1_takesComparison_160 ?_
            exact ⟨rfl, _, rfl, Or.inr ⟨rfl, (by first | omega | trivial | assumption)⟩⟩
        · refine x_iconst B dX1_takesComparison_139 ?_
          refine lv_goto (tgt := 151) B.1 B.2.1 dX1_takesComparison_140 (by decide) ?_
          refine lv_istore (lv' := [(6, .int (iI (-1))), (5, .int (iI z5)), (3, .int (iI (z3 - 210))), (0, .ref (ad 26)), (1, .ref (ad 20)), (2, .ref (G 6 j))]) B.1 B.2.1 dX1_takesComparison_151 hl (by decide) rfl (fun ls hl => ?_)
          refine lv_iload B.1 B.2.1 dX1_takesComparison_153 (lv_at hl 0 rfl) ?_
          refine x_iconst B dX1_takesComparison_155 ?_
          refine x_icmp_ne B (by omega) (tgt := 161) dX1_takesComparison_156 (by decide) (fun c12 => ?_) (fun c12 => ?_)
          · exact absurd c12 (by omega)
          · refine x_iconst B dX1_takesComparison_159 ?_
            have h : yH D Zk A s w _ _ := yH.unpin h (CW.f hC 26 _ rfl) (xO_le (fLe_cons (fun _ x => x) (fLe_cons (fX_G (by omega)) fLe_nil)))
            refine y_rz B hQ h (by decide) (by decide) dX1_takesComparison_160 ?_
            exact ⟨rfl, _, rfl, Or.inr ⟨rfl, (by first | omega | trivial | assumption)⟩⟩
      refine lv_aload_n B.1 B.2.1 dX1_takesComparison_95 rfl (lv_at hl 3 rfl) ?_
      refine lv_aload_n B.1 B.2.1 dX1_takesComparison_96 rfl (lv_at hl 4 rfl) ?_
      refine x_bipush B (by decide) dX1_takesComparison_97 ?_
      refine y_cV B h kX1 26 (CW.f hC 26 _ rfl) k_X1_takes rfl (c_X1_takes l D Zk ca T G u ad _ hC 60  (by omega)) m_762 rfl (by decide) hl.1 [] (Nat.le_of_ble_eq_true rfl) rfl dX1_takesComparison_99 (fun r w1 hq H locs h => ?_)
      obtain ⟨rfl, _, rfl, ⟨rfl, b13⟩ | ⟨rfl, b13⟩⟩ := hq
      · show W p l e r_c_X1_takesComparison s m args below meth c _ _ 0 0 Qf (F0 m 102 ls [.int (iI 1)])
        refine x_if_ne B (by omega) (tgt := 127) dX1_takesComparison_102 (by decide) (fun c14 => ?_) (fun c14 => ?_)
        · exact join127 ()  _ _ _ h (lv_sub hl [0, 2, 3, 4, 5] rfl)
        · exact absurd c14 (by omega)
      · show W p l e r_c_X1_takesComparison s m args below meth c _ _ 0 0 Qf (F0 m 102 ls [.int (iI 0)])
        refine x_if_ne B (by omega) (tgt := 127) dX1_takesComparison_102 (by decide) (fun c15 => ?_) (fun c15 => ?_)
        · exact absurd c15 (by omega)
        · refine lv_aload_n B.1 B.2.1 dX1_takesComparison_105 rfl (lv_at hl 3 rfl) ?_
          refine lv_aload_n B.1 B.2.1 dX1_takesComparison_106 rfl (lv_at hl 4 rfl) ?_
          refine x_bipush B (by decide) dX1_takesComparison_107 ?_
          refine y_cV B h kX1 26 (CW.f hC 26 _ rfl) k_X1_takes rfl (c_X1_takes l D Zk ca T G u ad _ hC 62  (by omega)) m_762 rfl (by decide) hl.1 [] (Nat.le_of_ble_eq_true rfl) rfl dX1_takesComparison_109 (fun r w1 hq H locs h => ?_)
          obtain ⟨rfl, _, rfl, ⟨rfl, b16⟩ | ⟨rfl, b16⟩⟩ := hq
          · show W p l e r_c_X1_takesComparison s m args below meth c _ _ 0 0 Qf (F0 m 112 ls [.int (iI 1)])
            refine x_if_ne B (by omega) (tgt := 127) dX1_takesComparison_112 (by decide) (fun c17 => ?_) (fun c17 => ?_)
            · exact join127 ()  _ _ _ h (lv_sub hl [0, 2, 3, 4, 5] rfl)
            · exact absurd c17 (by omega)
          · show W p l e r_c_X1_takesComparison s m args below meth c _ _ 0 0 Qf (F0 m 112 ls [.int (iI 0)])
            refine x_if_ne B (by omega) (tgt := 127) dX1_takesComparison_112 (by decide) (fun c18 => ?_) (fun c18 => ?_)
            · exact absurd c18 (by omega)
            · refine lv_aload_n B.1 B.2.1 dX1_takesComparison_115 rfl (lv_at hl 3 rfl) ?_
              refine lv_aload_n B.1 B.2.1 dX1_takesComparison_116 rfl (lv_at hl 4 rfl) ?_
              refine x_bipush B (by decide) dX1_takesComparison_117 ?_
              refine y_cV B h kX1 26 (CW.f hC 26 _ rfl) k_X1_takes rfl (c_X1_takes l D Zk ca T G u ad _ hC 61  (by omega)) m_762 rfl (by decide) hl.1 [] (Nat.le_of_ble_eq_true rfl) rfl dX1_takesComparison_119 (fun r w1 hq H locs h => ?_)
              obtain ⟨rfl, _, rfl, ⟨rfl, b19⟩ | ⟨rfl, b19⟩⟩ := hq
              · show W p l e r_c_X1_takesComparison s m args below meth c _ _ 0 0 Qf (F0 m 122 ls [.int (iI 1)])
                refine x_if_ne B (by omega) (tgt := 127) dX1_takesComparison_122 (by decide) (fun c20 => ?_) (fun c20 => ?_)
                · exact join127 ()  _ _ _ h (lv_sub hl [0, 2, 3, 4, 5] rfl)
                · exact absurd c20 (by omega)
              · show W p l e r_c_X1_takesComparison s m args below meth c _ _ 0 0 Qf (F0 m 122 ls [.int (iI 0)])
                refine x_if_ne B (by omega) (tgt := 127) dX1_takesComparison_122 (by decide) (fun c21 => ?_) (fun c21 => ?_)
                · exact absurd c21 (by omega)
                · refine x_iconst B dX1_takesComparison_125 ?_
                  refine y_rz B hQ h (by decide) (by decide) dX1_takesComparison_126 ?_
                  exact ⟨rfl, _, rfl, Or.inr ⟨rfl, (by first | omega | trivial | assumption)⟩⟩
    · refine x_iconst B dX1_takesComparison_73 ?_
      have h : yH D Zk A s w _ _ := yH.unpin h (CW.f hC 26 _ rfl) (xO_le (fLe_cons (fun _ x => x) (fLe_cons (fX_G (by omega)) fLe_nil)))
      refine y_rz B hQ h (by decide) (by decide) dX1_takesComparison_74 ?_
      exact ⟨rfl, _, rfl, Or.inr ⟨rfl, (by first | omega | trivial | assumption)⟩⟩
  refine lv_aload_n B.1 B.2.1 dX1_takesComparison_13 rfl (lv_at hl 1 rfl) ?_
  refine y_getG B h kX1 26 wu_eq 0 (lo := 0) (hi := 1) rfl m_323 (by decide) dX1_takesComparison_14 (fun z22 z22a z22b => ?_)
  refine x_if_eq B (by omega) (tgt := 42) dX1_takesComparison_17 (by decide) (fun c23 => ?_) (fun c23 => ?_)
  · refine lv_iload_n B.1 B.2.1 dX1_takesComparison_42 rfl (lv_at hl 0 rfl) ?_
    refine x_iconst B dX1_takesComparison_43 ?_
    refine x_icmp_eq B (by omega) (tgt := 61) dX1_takesComparison_44 (by decide) (fun c24 => ?_) (fun c24 => ?_)
    · refine x_iconst B dX1_takesComparison_61 ?_
      refine lv_goto (tgt := 66) B.1 B.2.1 dX1_takesComparison_62 (by decide) ?_
      refine lv_istore (lv' := [(4, .int (iI 1)), (3, .int (iI (z3 - 210))), (0, .ref (ad 26)), (1, .ref (ad 20)), (2, .ref (G 6 j))]) B.1 B.2.1 dX1_takesComparison_66 hl (by decide) rfl (fun ls hl => ?_)
      exact join68 1 (by omega) _ _ _ h (lv_sub hl [0, 1, 2, 3, 4] rfl)
    · refine lv_iload_n B.1 B.2.1 dX1_takesComparison_47 rfl (lv_at hl 0 rfl) ?_
      refine x_if_eq B (by omega) (tgt := 61) dX1_takesComparison_48 (by decide) (fun c25 => ?_) (fun c25 => ?_)
      · refine x_iconst B dX1_takesComparison_61 ?_
        refine lv_goto (tgt := 66) B.1 B.2.1 dX1_takesComparison_62 (by decide) ?_
        refine lv_istore (lv' := [(4, .int (iI 1)), (3, .int (iI (z3 - 210))), (0, .ref (ad 26)), (1, .ref (ad 20)), (2, .ref (G 6 j))]) B.1 B.2.1 dX1_takesComparison_66 hl (by decide) rfl (fun ls hl => ?_)
        exact join68 1 (by omega) _ _ _ h (lv_sub hl [0, 1, 2, 3, 4] rfl)
      · refine lv_iload_n B.1 B.2.1 dX1_takesComparison_51 rfl (lv_at hl 0 rfl) ?_
        refine x_iconst B dX1_takesComparison_52 ?_
        refine x_icmp_eq B (by omega) (tgt := 61) dX1_takesComparison_53 (by decide) (fun c26 => ?_) (fun c26 => ?_)
        · refine x_iconst B dX1_takesComparison_61 ?_
          refine lv_goto (tgt := 66) B.1 B.2.1 dX1_takesComparison_62 (by decide) ?_
          refine lv_istore (lv' := [(4, .int (iI 1)), (3, .int (iI (z3 - 210))), (0, .ref (ad 26)), (1, .ref (ad 20)), (2, .ref (G 6 j))]) B.1 B.2.1 dX1_takesComparison_66 hl (by decide) rfl (fun ls hl => ?_)
          exact join68 1 (by omega) _ _ _ h (lv_sub hl [0, 1, 2, 3, 4] rfl)
        · refine lv_iload_n B.1 B.2.1 dX1_takesComparison_56 rfl (lv_at hl 0 rfl) ?_
          refine x_iconst B dX1_takesComparison_57 ?_
          refine x_icmp_ne B (by omega) (tgt := 65) dX1_takesComparison_58 (by decide) (fun c27 => ?_) (fun c27 => ?_)
          · refine x_iconst B dX1_takesComparison_65 ?_
            refine lv_istore (lv' := [(4, .int (iI 0)), (3, .int (iI (z3 - 210))), (0, .ref (ad 26)), (1, .ref (ad 20)), (2, .ref (G 6 j))]) B.1 B.2.1 dX1_takesComparison_66 hl (by decide) rfl (fun ls hl => ?_)
            exact join68 0 (by omega) _ _ _ h (lv_sub hl [0, 1, 2, 3, 4] rfl)
          · refine x_iconst B dX1_takesComparison_61 ?_
            refine lv_goto (tgt := 66) B.1 B.2.1 dX1_takesComparison_62 (by decide) ?_
            refine lv_istore (lv' := [(4, .int (iI 1)), (3, .int (iI (z3 - 210))), (0, .ref (ad 26)), (1, .ref (ad 20)), (2, .ref (G 6 j))]) B.1 B.2.1 dX1_takesComparison_66 hl (by decide) rfl (fun ls hl => ?_)
            exact join68 1 (by omega) _ _ _ h (lv_sub hl [0, 1, 2, 3, 4] rfl)
  · refine lv_iload_n B.1 B.2.1 dX1_takesComparison_20 rfl (lv_at hl 0 rfl) ?_
    refine x_if_eq B (by omega) (tgt := 34) dX1_takesComparison_21 (by decide) (fun c28 => ?_) (fun c28 => ?_)
    · refine x_iconst B dX1_takesComparison_34 ?_
      refine lv_goto (tgt := 66) B.1 B.2.1 dX1_takesComparison_35 (by decide) ?_
      refine lv_istore (lv' := [(4, .int (iI 1)), (3, .int (iI (z3 - 210))), (0, .ref (ad 26)), (1, .ref (ad 20)), (2, .ref (G 6 j))]) B.1 B.2.1 dX1_takesComparison_66 hl (by decide) rfl (fun ls hl => ?_)
      exact join68 1 (by omega) _ _ _ h (lv_sub hl [0, 1, 2, 3, 4] rfl)
    · refine lv_iload_n B.1 B.2.1 dX1_takesComparison_24 rfl (lv_at hl 0 rfl) ?_
      refine x_iconst B dX1_takesComparison_25 ?_
      refine x_icmp_eq B (by omega) (tgt := 34) dX1_takesComparison_26 (by decide) (fun c29 => ?_) (fun c29 => ?_)
      · refine x_iconst B dX1_takesComparison_34 ?_
        refine lv_goto (tgt := 66) B.1 B.2.1 dX1_takesComparison_35 (by decide) ?_
        refine lv_istore (lv' := [(4, .int (iI 1)), (3, .int (iI (z3 - 210))), (0, .ref (ad 26)), (1, .ref (ad 20)), (2, .ref (G 6 j))]) B.1 B.2.1 dX1_takesComparison_66 hl (by decide) rfl (fun ls hl => ?_)
        exact join68 1 (by omega) _ _ _ h (lv_sub hl [0, 1, 2, 3, 4] rfl)
      · refine lv_iload_n B.1 B.2.1 dX1_takesComparison_29 rfl (lv_at hl 0 rfl) ?_
        refine x_iconst B dX1_takesComparison_30 ?_
        refine x_icmp_ne B (by omega) (tgt := 38) dX1_takesComparison_31 (by decide) (fun c30 => ?_) (fun c30 => ?_)
        · refine x_iconst B dX1_takesComparison_38 ?_
          refine lv_goto (tgt := 66) B.1 B.2.1 dX1_takesComparison_39 (by decide) ?_
          refine lv_istore (lv' := [(4, .int (iI 0)), (3, .int (iI (z3 - 210))), (0, .ref (ad 26)), (1, .ref (ad 20)), (2, .ref (G 6 j))]) B.1 B.2.1 dX1_takesComparison_66 hl (by decide) rfl (fun ls hl => ?_)
          exact join68 0 (by omega) _ _ _ h (lv_sub hl [0, 1, 2, 3, 4] rfl)
        · refine x_iconst B dX1_takesComparison_34 ?_
          refine lv_goto (tgt := 66) B.1 B.2.1 dX1_takesComparison_35 (by decide) ?_
          refine lv_istore (lv' := [(4, .int (iI 1)), (3, .int (iI (z3 - 210))), (0, .ref (ad 26)), (1, .ref (ad 20)), (2, .ref (G 6 j))]) B.1 B.2.1 dX1_takesComparison_66 hl (by decide) rfl (fun ls hl => ?_)
          exact join68 1 (by omega) _ _ _ h (lv_sub hl [0, 1, 2, 3, 4] rfl)
