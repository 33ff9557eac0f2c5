
abbrev r_c_X9_put : Room := { frames := 0, cells := 0, slots := 0, locals := 0 }
set_option maxHeartbeats 4000000 in
set_option maxRecDepth 100000 in
theorem c_X9_put (l : Launch) (D : va_G) (Zk : yK) (ca : Nat → ClassId) (T : Nat → Int → Int) (G : Nat → Int → Nat) (u : Int) (ad : Nat → Nat) (w : yW) (hC : CW ca T G u ad w) (four : Int32)   : yC l D Zk ca yX9_put cX9_put 3 none r_c_X9_put [.ref (ad 20), .int (four)] w (vV w) := by
  refine yC.of2 "WindWords$Tape" (by decide) rfl (Nat.le_of_ble_eq_true rfl) ?_
  intro p e s m args below meth c A ls Qf B hnm h hl hQ
  have hl : lv_has ls 3 [(0, .ref (ad 20)), (1, .int (four))] := hl
  have hs := pi_s (CW.pi hC)
  refine x_bipush B (by decide) dX9_put_0 ?_
  refine lv_istore_n (lv' := [(2, .int (iI 24)), (0, .ref (ad 20)), (1, .int (four))]) B.1 B.2.1 dX9_put_2 rfl hl (by decide) rfl (fun ls hl => ?_)
  have loop3 : ∀ (n3 : Nat) (sh : Int), (-8 ≤ sh ∧ sh ≤ 24) → ((sh + 8 : Int)).toNat < n3 → ∀ (H : Heap) (locs : List Loc) (ls : Array Slot), yH D Zk A s w H locs → lv_has ls 3 [(2, .int (iI sh)), (0, .ref (ad 20)), (1, .int (four))] → W p l e r_c_X9_put s m args below meth c H locs 0 0 Qf (F0 m 3 ls []) := by
    intro n3
    induction n3 with
    | zero =>
      intro sh h0 hm3 H locs ls h hl
      exact absurd hm3 (Nat.not_lt_zero _)
    | succ n3 ih3 =>
      intro sh h0 hm3 H locs ls h hl
      refine lv_iload_n B.1 B.2.1 dX9_put_3 rfl (lv_at hl 0 rfl) ?_
      refine x_if_lt B (by omega) (tgt := 49) dX9_put_4 (by decide) (fun c1 => ?_) (fun c1 => ?_)
      · refine y_rv B hQ h (by decide) dX9_put_49 ?_
        exact ⟨rfl, rfl⟩
      · refine lv_aload_n B.1 B.2.1 dX9_put_7 rfl (lv_at hl 1 rfl) ?_
        obtain ⟨z2, z2a, z2b, h⟩ := yH.pin h (CW.f hC 20 _ rfl) 0 (lo := 0) (hi := 900) rfl
        have h : yH D Zk A s ((wu w 20 (ad 20, xO 9 [fX z2, fG 0 900, fR (ad 21), fR (ad 22), fR (ad 23), fR (ad 24), fR (ad 25), fG 0 900]))) _ _ := h
        refine y_getX B h kX9 20 wu_eq 0 (z := z2) rfl m_288 (by decide) dX9_put_8 ?_
        refine x_sipush B (by decide) dX9_put_11 ?_
        refine x_icmp_ge B (by omega) (tgt := 49) dX9_put_14 (by decide) (fun c3 => ?_) (fun c3 => ?_)
        · have h : yH D Zk A s w _ _ := yH.unpin h (CW.f hC 20 _ rfl) (xO_le (fLe_cons (fX_G (by omega)) (fLe_cons (fun _ x => x) (fLe_cons (fun _ x => x) (fLe_cons (fun _ x => x) (fLe_cons (fun _ x => x) (fLe_cons (fun _ x => x) (fLe_cons (fun _ x => x) (fLe_cons (fun _ x => x) fLe_nil)))))))))
          refine y_rv B hQ h (by decide) dX9_put_49 ?_
          exact ⟨rfl, rfl⟩
        · refine lv_aload_n B.1 B.2.1 dX9_put_17 rfl (lv_at hl 1 rfl) ?_
          refine y_getR B h kX9 20 wu_eq 2 (b := ad 21) rfl m_292 (by decide) dX9_put_18 ?_
          refine lv_aload_n B.1 B.2.1 dX9_put_21 rfl (lv_at hl 1 rfl) ?_
          refine y_getX B h kX9 20 wu_eq 0 (z := z2) rfl m_288 (by decide) dX9_put_22 ?_
          refine lv_iload_n B.1 B.2.1 dX9_put_25 rfl (lv_at hl 2 rfl) ?_
          refine lv_iload_n B.1 B.2.1 dX9_put_26 rfl (lv_at hl 0 rfl) ?_
          refine lv_iushr B.1 B.2.1 dX9_put_27 rfl ?_
          refine x_name (fun z4 hz4 ez4 => ?_)
          refine x_sipush B (by decide) dX9_put_28 ?_
          refine lv_iand B.1 B.2.1 dX9_put_31 ?_
          obtain ⟨z5, z5a, z5b, ez5⟩ := and255_ex ((iI z4))
          refine x_iset ez5 ?_
          refine y_iastS B h 21 (wu_at (CW.f hC 21 _ rfl) (by decide)) (by omega) (gG_upd (by omega)) dX9_put_32 (fun H locs h => ?_)
          refine lv_aload_n B.1 B.2.1 dX9_put_33 rfl (lv_at hl 1 rfl) ?_
          refine lv_dup B.1 B.2.1 dX9_put_34 rfl ?_
          refine y_getX B h kX9 20 wu_eq 0 (z := z2) rfl m_288 (by decide) dX9_put_35 ?_
          refine x_iconst B dX9_put_38 ?_
          refine x_iadd B dX9_put_39 ?_
          refine y_put B h kX9 20 wu_eq 0 (Nat.le_of_ble_eq_true rfl) (P' := fX (z2 + 1)) m_288 (by decide) rfl rfl rfl rfl dX9_put_40 (fun H locs h => ?_)
          rw [wu_wu] at h
          have h : yH D Zk A s ((wu w 20 (ad 20, xO 9 [fX (z2 + 1), fG 0 900, fR (ad 21), fR (ad 22), fR (ad 23), fR (ad 24), fR (ad 25), fG 0 900]))) _ _ := h
          refine lv_iinc (v := iI (sh + (-8))) (lv' := [(2, .int (iI (sh + (-8)))), (0, .ref (ad 20)), (1, .int (four))]) B.1 B.2.1 dX9_put_43 hl (k := 0) rfl (iI_add _ _) (by decide) rfl (fun ls hl => ?_)
          refine lv_goto (tgt := 3) B.1 B.2.1 dX9_put_46 (by decide) ?_
          have h : yH D Zk A s w _ _ := yH.unpin h (CW.f hC 20 _ rfl) (xO_le (fLe_cons (fX_G (by omega)) (fLe_cons (fun _ x => x) (fLe_cons (fun _ x => x) (fLe_cons (fun _ x => x) (fLe_cons (fun _ x => x) (fLe_cons (fun _ x => x) (fLe_cons (fun _ x => x) (fLe_cons (fun _ x => x) fLe_nil)))))))))
          exact ih3 ((sh + (-8))) (by omega) (by omega) _ _ _ h (lv_sub hl [0, 1, 2] rfl)
  exact loop3 (((24 + 8 : Int)).toNat + 1) 24 (by omega) (Nat.lt_succ_self _) _ _ _ h (lv_sub hl [0, 1, 2] rfl)
abbrev r_c_X9_isBlank : Room := { frames := 0, cells := 0, slots := 0, locals := 0 }
set_option maxHeartbeats 4000000 in
set_option maxRecDepth 100000 in
theorem c_X9_isBlank (l : Launch) (D : va_G) (Zk : yK) (ca : Nat → ClassId) (w : yW) (b : Int)  (hb : xr b) : yC l D Zk ca yX9_isBlank cX9_isBlank 1 (some .boolean) r_c_X9_isBlank [.int (iI b)] w (vI w (fun z => (z = 1 ∧ (True)) ∨ (z = 0 ∧ (True)))) := by
  refine yC.of2 "WindWords$Tape" (by decide) rfl (Nat.le_of_ble_eq_true rfl) ?_
  intro p e s m args below meth c A ls Qf B hnm h hl hQ
  have hl : lv_has ls 1 [(0, .int (iI b))] := hl
  refine lv_iload_n B.1 B.2.1 dX9_isBlank_0 rfl (lv_at hl 0 rfl) ?_
  refine x_bipush B (by decide) dX9_isBlank_1 ?_
  refine x_icmp_eq B (by omega) (tgt := 12) dX9_isBlank_3 (by decide) (fun c1 => ?_) (fun c1 => ?_)
  · refine x_iconst B dX9_isBlank_12 ?_
    refine lv_goto (tgt := 17) B.1 B.2.1 dX9_isBlank_13 (by decide) ?_
    refine y_rz B hQ h (by decide) (by decide) dX9_isBlank_17 ?_
    exact ⟨rfl, _, rfl, Or.inl ⟨rfl, (by first | omega | trivial | assumption)⟩⟩
  · refine lv_iload_n B.1 B.2.1 dX9_isBlank_6 rfl (lv_at hl 0 rfl) ?_
    refine x_bipush B (by decide) dX9_isBlank_7 ?_
    refine x_icmp_ne B (by omega) (tgt := 16) dX9_isBlank_9 (by decide) (fun c2 => ?_) (fun c2 => ?_)
    · refine x_iconst B dX9_isBlank_16 ?_
      refine y_rz B hQ h (by decide) (by decide) dX9_isBlank_17 ?_
      exact ⟨rfl, _, rfl, Or.inr ⟨rfl, (by first | omega | trivial | assumption)⟩⟩
    · refine x_iconst B dX9_isBlank_12 ?_
      refine lv_goto (tgt := 17) B.1 B.2.1 dX9_isBlank_13 (by decide) ?_
      refine y_rz B hQ h (by decide) (by decide) dX9_isBlank_17 ?_
      exact ⟨rfl, _, rfl, Or.inl ⟨rfl, (by first | omega | trivial | assumption)⟩⟩
abbrev r_c_X9_isDigit : Room := { frames := 0, cells := 0, slots := 0, locals := 0 }
set_option maxHeartbeats 4000000 in
set_option maxRecDepth 100000 in
theorem c_X9_isDigit (l : Launch) (D : va_G) (Zk : yK) (ca : Nat → ClassId) (w : yW) (b : Int)  (hb : xr b) : yC l D Zk ca yX9_isDigit cX9_isDigit 1 (some .boolean) r_c_X9_isDigit [.int (iI b)] w (vI w (fun z => (z = 1 ∧ (48 ≤ b ∧ b ≤ 57)) ∨ (z = 0 ∧ (¬ (48 ≤ b ∧ b ≤ 57))))) := by
  refine yC.of2 "WindWords$Tape" (by decide) rfl (Nat.le_of_ble_eq_true rfl) ?_
  intro p e s m args below meth c A ls Qf B hnm h hl hQ
  have hl : lv_has ls 1 [(0, .int (iI b))] := hl
  refine lv_iload_n B.1 B.2.1 dX9_isDigit_0 rfl (lv_at hl 0 rfl) ?_
  refine x_bipush B (by decide) dX9_isDigit_1 ?_
  refine x_icmp_lt B (by omega) (tgt := 16) dX9_isDigit_3 (by decide) (fun c1 => ?_) (fun c1 => ?_)
  · refine x_iconst B dX9_isDigit_16 ?_
    refine y_rz B hQ h (by decide) (by decide) dX9_isDigit_17 ?_
    exact ⟨rfl, _, rfl, Or.inr ⟨rfl, (by first | omega | trivial | assumption)⟩⟩
  · refine lv_iload_n B.1 B.2.1 dX9_isDigit_6 rfl (lv_at hl 0 rfl) ?_
    refine x_bipush B (by decide) dX9_isDigit_7 ?_
    refine x_icmp_gt B (by omega) (tgt := 16) dX9_isDigit_9 (by decide) (fun c2 => ?_) (fun c2 => ?_)
    · refine x_iconst B dX9_isDigit_16 ?_
      refine y_rz B hQ h (by decide) (by decide) dX9_isDigit_17 ?_
      exact ⟨rfl, _, rfl, Or.inr ⟨rfl, (by first | omega | trivial | assumption)⟩⟩
    · refine x_iconst B dX9_isDigit_12 ?_
      refine lv_goto (tgt := 17) B.1 B.2.1 dX9_isDigit_13 (by decide) ?_
      refine y_rz B hQ h (by decide) (by decide) dX9_isDigit_17 ?_
      exact ⟨rfl, _, rfl, Or.inl ⟨rfl, (by first | omega | trivial | assumption)⟩⟩
abbrev r_c_X9_isLetter : Room := { frames := 0, cells := 0, slots := 0, locals := 0 }
set_option maxHeartbeats 4000000 in
set_option maxRecDepth 100000 in
theorem c_X9_isLetter (l : Launch) (D : va_G) (Zk : yK) (ca : Nat → ClassId) (w : yW) (b : Int)  (hb : xr b) : yC l D Zk ca yX9_isLetter cX9_isLetter 1 (some .boolean) r_c_X9_isLetter [.int (iI b)] w (vI w (fun z => (z = 1 ∧ (True)) ∨ (z = 0 ∧ (True)))) := by
  refine yC.of2 "WindWords$Tape" (by decide) rfl (Nat.le_of_ble_eq_true rfl) ?_
  intro p e s m args below meth c A ls Qf B hnm h hl hQ
  have hl : lv_has ls 1 [(0, .int (iI b))] := hl
  refine lv_iload_n B.1 B.2.1 dX9_isLetter_0 rfl (lv_at hl 0 rfl) ?_
  refine x_bipush B (by decide) dX9_isLetter_1 ?_
  refine x_icmp_lt B (by omega) (tgt := 16) dX9_isLetter_3 (by decide) (fun c1 => ?_) (fun c1 => ?_)
  · refine x_iconst B dX9_isLetter_16 ?_
    refine y_rz B hQ h (by decide) (by decide) dX9_isLetter_17 ?_
    exact ⟨rfl, _, rfl, Or.inr ⟨rfl, (by first | omega | trivial | assumption)⟩⟩
  · refine lv_iload_n B.1 B.2.1 dX9_isLetter_6 rfl (lv_at hl 0 rfl) ?_
    refine x_bipush B (by decide) dX9_isLetter_7 ?_
    refine x_icmp_gt B (by omega) (tgt := 16) dX9_isLetter_9 (by decide) (fun c2 => ?_) (fun c2 => ?_)
    · refine x_iconst B dX9_isLetter_16 ?_
      refine y_rz B hQ h (by decide) (by decide) dX9_isLetter_17 ?_
      exact ⟨rfl, _, rfl, Or.inr ⟨rfl, (by first | omega | trivial | assumption)⟩⟩
    · refine x_iconst B dX9_isLetter_12 ?_
      refine lv_goto (tgt := 17) B.1 B.2.1 dX9_isLetter_13 (by decide) ?_
      refine y_rz B hQ h (by decide) (by decide) dX9_isLetter_17 ?_
      exact ⟨rfl, _, rfl, Or.inl ⟨rfl, (by first | omega | trivial | assumption)⟩⟩
abbrev r_c_X9_placeAt : Room := { frames := 0, cells := 0, slots := 0, locals := 0 }
set_option maxHeartbeats 4000000 in
set_option maxRecDepth 100000 in
theorem c_X9_placeAt (l : Launch) (D : va_G) (Zk : yK) (ca : Nat → ClassId) (T : Nat → Int → Int) (G : Nat → Int → Nat) (u : Int) (ad : Nat → Nat) (w : yW) (hC : CW ca T G u ad w) (k : Int)  (hk : xr k) : yC l D Zk ca yX9_placeAt cX9_placeAt 2 (some .int) r_c_X9_placeAt [.ref (ad 20), .int (iI k)] w (vI w (fun z => xr z)) := by
  refine yC.of2 "WindWords$Tape" (by decide) rfl (Nat.le_of_ble_eq_true rfl) ?_
  intro p e s m args below meth c A ls Qf B hnm h hl hQ
  have hl : lv_has ls 2 [(0, .ref (ad 20)), (1, .int (iI k))] := hl
  have hs := pi_s (CW.pi hC)
  refine lv_iload_n B.1 B.2.1 dX9_placeAt_0 rfl (lv_at hl 1 rfl) ?_
  refine x_if_lt B (by omega) (tgt := 21) dX9_placeAt_1 (by decide) (fun c1 => ?_) (fun c1 => ?_)
  · refine lv_aload_n B.1 B.2.1 dX9_placeAt_21 rfl (lv_at hl 0 rfl) ?_
    refine y_getG B h kX9 20 (CW.f hC 20 _ rfl) 7 (lo := 0) (hi := 900) rfl m_299 (by decide) dX9_placeAt_22 (fun z2 z2a z2b => ?_)
    refine y_ri B hQ h (by decide) dX9_placeAt_25 ?_
    exact ⟨rfl, _, rfl, (by first | omega | trivial | assumption)⟩
  · refine lv_iload_n B.1 B.2.1 dX9_placeAt_4 rfl (lv_at hl 1 rfl) ?_
    refine lv_aload_n B.1 B.2.1 dX9_placeAt_5 rfl (lv_at hl 0 rfl) ?_
    refine y_getG B h kX9 20 (CW.f hC 20 _ rfl) 1 (lo := 0) (hi := 900) rfl m_290 (by decide) dX9_placeAt_6 (fun z3 z3a z3b => ?_)
    refine x_icmp_ge B (by omega) (tgt := 21) dX9_placeAt_9 (by decide) (fun c4 => ?_) (fun c4 => ?_)
    · refine lv_aload_n B.1 B.2.1 dX9_placeAt_21 rfl (lv_at hl 0 rfl) ?_
      refine y_getG B h kX9 20 (CW.f hC 20 _ rfl) 7 (lo := 0) (hi := 900) rfl m_299 (by decide) dX9_placeAt_22 (fun z5 z5a z5b => ?_)
      refine y_ri B hQ h (by decide) dX9_placeAt_25 ?_
      exact ⟨rfl, _, rfl, (by first | omega | trivial | assumption)⟩
    · refine lv_aload_n B.1 B.2.1 dX9_placeAt_12 rfl (lv_at hl 0 rfl) ?_
      refine y_getR B h kX9 20 (CW.f hC 20 _ rfl) 4 (b := ad 23) rfl m_295 (by decide) dX9_placeAt_13 ?_
      refine lv_iload_n B.1 B.2.1 dX9_placeAt_16 rfl (lv_at hl 1 rfl) ?_
      refine y_iald B h 23 (CW.f hC 23 _ rfl) (by omega) dX9_placeAt_17 (fun fz6 hfz6 => ?_)
      refine x_name (fun z6 hz6 ez6 => ?_)
      refine lv_goto (tgt := 25) B.1 B.2.1 dX9_placeAt_18 (by decide) ?_
      refine y_ri B hQ h (by decide) dX9_placeAt_25 ?_
      exact ⟨rfl, _, rfl, (by first | omega | trivial | assumption)⟩
abbrev r_c_X9_codeAt : Room := { frames := 0, cells := 0, slots := 0, locals := 0 }
set_option maxHeartbeats 4000000 in
set_option maxRecDepth 100000 in
theorem c_X9_codeAt (l : Launch) (D : va_G) (Zk : yK) (ca : Nat → ClassId) (w : yW) (k : Int) (P0 : fP) (P2 : fP) (P4 : fP) (P5 : fP) (P6 : fP) (P7 : fP) (at_ : Nat) (it_ : Nat) (acd : Nat) (icd : Nat) (ft_ : w it_ = some (at_, xO 9 [P0, fG 0 900, P2, fR acd, P4, P5, P6, P7])) (fcd : w icd = some (acd, xAI (ca 0) 900 (gG 900 0 255))) (hk : xr k) : yC l D Zk ca yX9_codeAt cX9_codeAt 2 (some .int) r_c_X9_codeAt [.ref at_, .int (iI k)] w (vI w (fun z => (0 ≤ z ∧ z ≤ 255) ∧ (z = 0 ∨ (0 ≤ k ∧ k < 900)))) := by
  refine yC.of2 "WindWords$Tape" (by decide) rfl (Nat.le_of_ble_eq_true rfl) ?_
  intro p e s m args below meth c A ls Qf B hnm h hl hQ
  have hl : lv_has ls 2 [(0, .ref at_), (1, .int (iI k))] := hl
  refine lv_iload_n B.1 B.2.1 dX9_codeAt_0 rfl (lv_at hl 1 rfl) ?_
  refine x_if_lt B (by omega) (tgt := 21) dX9_codeAt_1 (by decide) (fun c1 => ?_) (fun c1 => ?_)
  · refine x_iconst B dX9_codeAt_21 ?_
    refine y_ri B hQ h (by decide) dX9_codeAt_22 ?_
    exact ⟨rfl, _, rfl, (by first | omega | trivial | assumption)⟩
  · refine lv_iload_n B.1 B.2.1 dX9_codeAt_4 rfl (lv_at hl 1 rfl) ?_
    refine lv_aload_n B.1 B.2.1 dX9_codeAt_5 rfl (lv_at hl 0 rfl) ?_
    refine y_getG B h kX9 it_ ft_ 1 (lo := 0) (hi := 900) rfl m_290 (by decide) dX9_codeAt_6 (fun z2 z2a z2b => ?_)
    refine x_icmp_ge B (by omega) (tgt := 21) dX9_codeAt_9 (by decide) (fun c3 => ?_) (fun c3 => ?_)
    · refine x_iconst B dX9_codeAt_21 ?_
      refine y_ri B hQ h (by decide) dX9_codeAt_22 ?_
      exact ⟨rfl, _, rfl, (by first | omega | trivial | assumption)⟩
    · refine lv_aload_n B.1 B.2.1 dX9_codeAt_12 rfl (lv_at hl 0 rfl) ?_
      refine y_getR B h kX9 it_ ft_ 3 (b := acd) rfl m_293 (by decide) dX9_codeAt_13 ?_
      refine lv_iload_n B.1 B.2.1 dX9_codeAt_16 rfl (lv_at hl 1 rfl) ?_
      refine y_ialdG B h icd fcd (by omega) dX9_codeAt_17 (fun z4 z4a z4b => ?_)
      refine lv_goto (tgt := 22) B.1 B.2.1 dX9_codeAt_18 (by decide) ?_
      refine y_ri B hQ h (by decide) dX9_codeAt_22 ?_
      exact ⟨rfl, _, rfl, (by first | omega | trivial | assumption)⟩
abbrev r_c_X9_widthAt : Room := { frames := 0, cells := 0, slots := 0, locals := 0 }
set_option maxHeartbeats 4000000 in
set_option maxRecDepth 100000 in
theorem c_X9_widthAt (l : Launch) (D : va_G) (Zk : yK) (ca : Nat → ClassId) (w : yW) (k : Int) (P0 : fP) (P2 : fP) (P3 : fP) (P4 : fP) (P6 : fP) (P7 : fP) (at_ : Nat) (it_ : Nat) (awd : Nat) (iwd : Nat) (ft_ : w it_ = some (at_, xO 9 [P0, fG 0 900, P2, P3, P4, fR awd, P6, P7])) (fwd : w iwd = some (awd, xAI (ca 0) 900 gA)) (hk : xr k) : yC l D Zk ca yX9_widthAt cX9_widthAt 2 (some .int) r_c_X9_widthAt [.ref at_, .int (iI k)] w (vI w (fun z => xr z)) := by
  refine yC.of2 "WindWords$Tape" (by decide) rfl (Nat.le_of_ble_eq_true rfl) ?_
  intro p e s m args below meth c A ls Qf B hnm h hl hQ
  have hl : lv_has ls 2 [(0, .ref at_), (1, .int (iI k))] := hl
  refine lv_iload_n B.1 B.2.1 dX9_widthAt_0 rfl (lv_at hl 1 rfl) ?_
  refine x_if_lt B (by omega) (tgt := 21) dX9_widthAt_1 (by decide) (fun c1 => ?_) (fun c1 => ?_)
  · refine x_iconst B dX9_widthAt_21 ?_
    refine y_ri B hQ h (by decide) dX9_widthAt_22 ?_
    exact ⟨rfl, _, rfl, (by first | omega | trivial | assumption)⟩
  · refine lv_iload_n B.1 B.2.1 dX9_widthAt_4 rfl (lv_at hl 1 rfl) ?_
    refine lv_aload_n B.1 B.2.1 dX9_widthAt_5 rfl (lv_at hl 0 rfl) ?_
    refine y_getG B h kX9 it_ ft_ 1 (lo := 0) (hi := 900) rfl m_290 (by decide) dX9_widthAt_6 (fun z2 z2a z2b => ?_)
    refine x_icmp_ge B (by omega) (tgt := 21) dX9_widthAt_9 (by decide) (fun c3 => ?_) (fun c3 => ?_)
    · refine x_iconst B dX9_widthAt_21 ?_
      refine y_ri B hQ h (by decide) dX9_widthAt_22 ?_
      exact ⟨rfl, _, rfl, (by first | omega | trivial | assumption)⟩
    · refine lv_aload_n B.1 B.2.1 dX9_widthAt_12 rfl (lv_at hl 0 rfl) ?_
      refine y_getR B h kX9 it_ ft_ 5 (b := awd) rfl m_296 (by decide) dX9_widthAt_13 ?_
      refine lv_iload_n B.1 B.2.1 dX9_widthAt_16 rfl (lv_at hl 1 rfl) ?_
      refine y_iald B h iwd fwd (by omega) dX9_widthAt_17 (fun fz4 hfz4 => ?_)
      refine x_name (fun z4 hz4 ez4 => ?_)
      refine lv_goto (tgt := 22) B.1 B.2.1 dX9_widthAt_18 (by decide) ?_
      refine y_ri B hQ h (by decide) dX9_widthAt_22 ?_
      exact ⟨rfl, _, rfl, (by first | omega | trivial | assumption)⟩
