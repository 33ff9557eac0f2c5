
abbrev r_c_X0_init : Room := { frames := 1, cells := 2, slots := 312, locals := 20 }
set_option maxHeartbeats 4000000 in
set_option maxRecDepth 100000 in
theorem c_X0_init (l : Launch) (D : va_G) (ca : Nat → ClassId) (w : xW) (aq : Nat) (iq : Nat) (fq : w[iq]? = some (aq, xO 0 [fN, fN, fX 0, fX 0, fX 0, fX 0, fX 0, fX 0, fX 0]))  : xC l D ca yX0_init cX0_init 1 none r_c_X0_init [.ref aq] w (fun r w1 => r = none ∧ ∃ q1 q2 : Nat, w1 = ((((w ++ [(q1, xAQ (ca 4) 12 (fun f => f = fun _ => none))]).set iq (aq, xO 0 [fR q1, fN, fX 0, fX 0, fX 0, fX 0, fX 0, fX 0, fX 0])) ++ [(q2, xAQ (ca 5) 300 (fun f => f = fun _ => none))]).set iq (aq, xO 0 [fR q1, fR q2, fX 0, fX 0, fX 0, fX 0, fX 0, fX 1, fX 1]))) := by
  refine xC.of2 "WindWords$Fleet" (by decide) rfl (Nat.le_of_ble_eq_true rfl) ?_
  intro p e s m args below meth c A ls Qf B hnm h hl hQ
  have hl : lv_has ls 1 [(0, .ref aq)] := hl
  refine lv_aload_n B.1 B.2.1 dX0_init_0 rfl (lv_at hl 0 rfl) ?_
  refine x_obj B m_129 m_122 m_123 hl.1 (Nat.le_of_ble_eq_true rfl) (by decide) dX0_init_1 ?_
  refine lv_aload_n B.1 B.2.1 dX0_init_4 rfl (lv_at hl 0 rfl) ?_
  refine x_bipush B (by decide) dX0_init_5 ?_
  refine x_anew B h 4 rfl (by decide) m_130 (N := 12) (by omega) (by decide) (by decide) dX0_init_7 (fun q1 H h => ?_)
  refine x_putF B h kX0 iq (xapp_l fq) 0 (Nat.le_of_ble_eq_true rfl) (P' := fR q1) m_134 (by decide) rfl rfl hnm rfl rfl rfl dX0_init_10 (fun H locs h => ?_)
  refine lv_aload_n B.1 B.2.1 dX0_init_13 rfl (lv_at hl 0 rfl) ?_
  refine x_sipush B (by decide) dX0_init_14 ?_
  refine x_anew B h 5 rfl (by decide) m_132 (N := 300) (by omega) (by decide) (by decide) dX0_init_17 (fun q2 H h => ?_)
  refine x_putF B h kX0 iq (xapp_l (xset_eq (xapp_l fq))) 1 (Nat.le_of_ble_eq_true rfl) (P' := fR q2) m_135 (by decide) rfl rfl hnm rfl rfl rfl dX0_init_20 (fun H locs h => ?_)
  refine lv_aload_n B.1 B.2.1 dX0_init_23 rfl (lv_at hl 0 rfl) ?_
  refine x_iconst B dX0_init_24 ?_
  refine x_putS B h kX0 iq (xset_eq (xapp_l (xset_eq (xapp_l fq)))) 2 (P := fX 0) rfl m_136 (by decide) rfl rfl rfl rfl dX0_init_25 (fun H locs h => ?_)
  refine lv_aload_n B.1 B.2.1 dX0_init_28 rfl (lv_at hl 0 rfl) ?_
  refine x_iconst B dX0_init_29 ?_
  refine x_putS B h kX0 iq (xset_eq (xapp_l (xset_eq (xapp_l fq)))) 3 (P := fX 0) rfl m_139 (by decide) rfl rfl rfl rfl dX0_init_30 (fun H locs h => ?_)
  refine lv_aload_n B.1 B.2.1 dX0_init_33 rfl (lv_at hl 0 rfl) ?_
  refine x_iconst B dX0_init_34 ?_
  refine x_putS B h kX0 iq (xset_eq (xapp_l (xset_eq (xapp_l fq)))) 4 (P := fX 0) rfl m_141 (by decide) rfl rfl rfl rfl dX0_init_35 (fun H locs h => ?_)
  refine lv_aload_n B.1 B.2.1 dX0_init_38 rfl (lv_at hl 0 rfl) ?_
  refine x_iconst B dX0_init_39 ?_
  refine x_putS B h kX0 iq (xset_eq (xapp_l (xset_eq (xapp_l fq)))) 5 (P := fX 0) rfl m_145 (by decide) rfl rfl rfl rfl dX0_init_40 (fun H locs h => ?_)
  refine lv_aload_n B.1 B.2.1 dX0_init_43 rfl (lv_at hl 0 rfl) ?_
  refine x_iconst B dX0_init_44 ?_
  refine x_putS B h kX0 iq (xset_eq (xapp_l (xset_eq (xapp_l fq)))) 6 (P := fX 0) rfl m_150 (by decide) rfl rfl rfl rfl dX0_init_45 (fun H locs h => ?_)
  refine lv_aload_n B.1 B.2.1 dX0_init_48 rfl (lv_at hl 0 rfl) ?_
  refine x_iconst B dX0_init_49 ?_
  refine x_put B h kX0 iq (xset_eq (xapp_l (xset_eq (xapp_l fq)))) 7 (Nat.le_of_ble_eq_true rfl) (P' := fX 1) m_153 (by decide) rfl rfl rfl rfl dX0_init_50 (fun H locs h => ?_)
  rw [List.set_set] at h
  refine lv_aload_n B.1 B.2.1 dX0_init_53 rfl (lv_at hl 0 rfl) ?_
  refine x_iconst B dX0_init_54 ?_
  refine x_put B h kX0 iq (xset_eq (xapp_l (xset_eq (xapp_l fq)))) 8 (Nat.le_of_ble_eq_true rfl) (P' := fX 1) m_156 (by decide) rfl rfl rfl rfl dX0_init_55 (fun H locs h => ?_)
  rw [List.set_set] at h
  refine x_rv B hQ h (by decide) dX0_init_58 ?_
  exact ⟨rfl, q1, q2, rfl⟩
abbrev r_c_X6_init : Room := { frames := 1, cells := 7, slots := 238, locals := 20 }
set_option maxHeartbeats 4000000 in
set_option maxRecDepth 100000 in
theorem c_X6_init (l : Launch) (D : va_G) (ca : Nat → ClassId) (w : xW) (aq : Nat) (iq : Nat) (fq : w[iq]? = some (aq, xO 6 [fN, fN, fN, fN, fN, fN, fN, fX 0]))  : xC l D ca yX6_init cX6_init 1 none r_c_X6_init [.ref aq] w (fun r w1 => r = none ∧ ∃ q1 q2 q3 q4 q5 q6 q7 : Nat, w1 = ((((((((((((((w ++ [(q1, xAQ (ca 6) 8 (fun f => f = fun _ => none))]).set iq (aq, xO 6 [fR q1, fN, fN, fN, fN, fN, fN, fX 0])) ++ [(q2, xAI (ca 0) 8 (gX 8 (fun _ => 0)))]).set iq (aq, xO 6 [fR q1, fR q2, fN, fN, fN, fN, fN, fX 0])) ++ [(q3, xAI (ca 0) 5 (gX 5 (fun _ => 0)))]).set iq (aq, xO 6 [fR q1, fR q2, fR q3, fN, fN, fN, fN, fX 0])) ++ [(q4, xAI (ca 0) 100 (gX 100 (fun _ => 0)))]).set iq (aq, xO 6 [fR q1, fR q2, fR q3, fR q4, fN, fN, fN, fX 0])) ++ [(q5, xAI (ca 0) 100 (gX 100 (fun _ => 0)))]).set iq (aq, xO 6 [fR q1, fR q2, fR q3, fR q4, fR q5, fN, fN, fX 0])) ++ [(q6, xAI (ca 0) 13 (gX 13 (fun _ => 0)))]).set iq (aq, xO 6 [fR q1, fR q2, fR q3, fR q4, fR q5, fR q6, fN, fX 0])) ++ [(q7, xAI (ca 0) 4 (gX 4 (fun _ => 0)))]).set iq (aq, xO 6 [fR q1, fR q2, fR q3, fR q4, fR q5, fR q6, fR q7, fX 0]))) := by
  refine xC.of2 "WindWords$Scales" (by decide) rfl (Nat.le_of_ble_eq_true rfl) ?_
  intro p e s m args below meth c A ls Qf B hnm h hl hQ
  have hl : lv_has ls 1 [(0, .ref aq)] := hl
  refine lv_aload_n B.1 B.2.1 dX6_init_0 rfl (lv_at hl 0 rfl) ?_
  refine x_obj B m_183 m_122 m_123 hl.1 (Nat.le_of_ble_eq_true rfl) (by decide) dX6_init_1 ?_
  refine lv_aload_n B.1 B.2.1 dX6_init_4 rfl (lv_at hl 0 rfl) ?_
  refine x_bipush B (by decide) dX6_init_5 ?_
  refine x_anew B h 6 rfl (by decide) m_184 (N := 8) (by omega) (by decide) (by decide) dX6_init_7 (fun q1 H h => ?_)
  refine x_putF B h kX6 iq (xapp_l fq) 0 (Nat.le_of_ble_eq_true rfl) (P' := fR q1) m_186 (by decide) rfl rfl hnm rfl rfl rfl dX6_init_10 (fun H locs h => ?_)
  refine lv_aload_n B.1 B.2.1 dX6_init_13 rfl (lv_at hl 0 rfl) ?_
  refine x_bipush B (by decide) dX6_init_14 ?_
  refine x_newaI B h (N := 8) (by omega) (by decide) m_213 (by decide) dX6_init_16 (fun q2 H h => ?_)
  refine x_putF B h kX6 iq (xapp_l (xset_eq (xapp_l fq))) 1 (Nat.le_of_ble_eq_true rfl) (P' := fR q2) m_187 (by decide) rfl rfl hnm rfl rfl rfl dX6_init_18 (fun H locs h => ?_)
  refine lv_aload_n B.1 B.2.1 dX6_init_21 rfl (lv_at hl 0 rfl) ?_
  refine x_iconst B dX6_init_22 ?_
  refine x_newaI B h (N := 5) (by omega) (by decide) m_213 (by decide) dX6_init_23 (fun q3 H h => ?_)
  refine x_putF B h kX6 iq (xapp_l (xset_eq (xapp_l (xset_eq (xapp_l fq))))) 2 (Nat.le_of_ble_eq_true rfl) (P' := fR q3) m_188 (by decide) rfl rfl hnm rfl rfl rfl dX6_init_25 (fun H locs h => ?_)
  refine lv_aload_n B.1 B.2.1 dX6_init_28 rfl (lv_at hl 0 rfl) ?_
  refine x_bipush B (by decide) dX6_init_29 ?_
  refine x_newaI B h (N := 100) (by omega) (by decide) m_213 (by decide) dX6_init_31 (fun q4 H h => ?_)
  refine x_putF B h kX6 iq (xapp_l (xset_eq (xapp_l (xset_eq (xapp_l (xset_eq (xapp_l fq))))))) 3 (Nat.le_of_ble_eq_true rfl) (P' := fR q4) m_189 (by decide) rfl rfl hnm rfl rfl rfl dX6_init_33 (fun H locs h => ?_)
  refine lv_aload_n B.1 B.2.1 dX6_init_36 rfl (lv_at hl 0 rfl) ?_
  refine x_bipush B (by decide) dX6_init_37 ?_
  refine x_newaI B h (N := 100) (by omega) (by decide) m_213 (by decide) dX6_init_39 (fun q5 H h => ?_)
  refine x_putF B h kX6 iq (xapp_l (xset_eq (xapp_l (xset_eq (xapp_l (xset_eq (xapp_l (xset_eq (xapp_l fq))))))))) 4 (Nat.le_of_ble_eq_true rfl) (P' := fR q5) m_190 (by decide) rfl rfl hnm rfl rfl rfl dX6_init_41 (fun H locs h => ?_)
  refine lv_aload_n B.1 B.2.1 dX6_init_44 rfl (lv_at hl 0 rfl) ?_
  refine x_bipush B (by decide) dX6_init_45 ?_
  refine x_newaI B h (N := 13) (by omega) (by decide) m_213 (by decide) dX6_init_47 (fun q6 H h => ?_)
  refine x_putF B h kX6 iq (xapp_l (xset_eq (xapp_l (xset_eq (xapp_l (xset_eq (xapp_l (xset_eq (xapp_l (xset_eq (xapp_l fq))))))))))) 5 (Nat.le_of_ble_eq_true rfl) (P' := fR q6) m_191 (by decide) rfl rfl hnm rfl rfl rfl dX6_init_49 (fun H locs h => ?_)
  refine lv_aload_n B.1 B.2.1 dX6_init_52 rfl (lv_at hl 0 rfl) ?_
  refine x_iconst B dX6_init_53 ?_
  refine x_newaI B h (N := 4) (by omega) (by decide) m_213 (by decide) dX6_init_54 (fun q7 H h => ?_)
  refine x_putF B h kX6 iq (xapp_l (xset_eq (xapp_l (xset_eq (xapp_l (xset_eq (xapp_l (xset_eq (xapp_l (xset_eq (xapp_l (xset_eq (xapp_l fq))))))))))))) 6 (Nat.le_of_ble_eq_true rfl) (P' := fR q7) m_192 (by decide) rfl rfl hnm rfl rfl rfl dX6_init_56 (fun H locs h => ?_)
  refine lv_aload_n B.1 B.2.1 dX6_init_59 rfl (lv_at hl 0 rfl) ?_
  refine x_iconst B dX6_init_60 ?_
  refine x_putS B h kX6 iq (xset_eq (xapp_l (xset_eq (xapp_l (xset_eq (xapp_l (xset_eq (xapp_l (xset_eq (xapp_l (xset_eq (xapp_l (xset_eq (xapp_l fq)))))))))))))) 7 (P := fX 0) rfl m_194 (by decide) rfl rfl rfl rfl dX6_init_61 (fun H locs h => ?_)
  refine x_rv B hQ h (by decide) dX6_init_64 ?_
  exact ⟨rfl, q1, q2, q3, q4, q5, q6, q7, rfl⟩
abbrev r_c_X3_init : Room := { frames := 1, cells := 1, slots := 289, locals := 20 }
set_option maxHeartbeats 4000000 in
set_option maxRecDepth 100000 in
theorem c_X3_init (l : Launch) (D : va_G) (ca : Nat → ClassId) (w : xW) (aq : Nat) (iq : Nat) (fq : w[iq]? = some (aq, xO 3 [fN]))  : xC l D ca yX3_init cX3_init 1 none r_c_X3_init [.ref aq] w (fun r w1 => r = none ∧ ∃ q1 : Nat, w1 = ((w ++ [(q1, xAI (ca 0) 289 (gX 289 (fun _ => 0)))]).set iq (aq, xO 3 [fR q1]))) := by
  refine xC.of2 "WindWords$Leans" (by decide) rfl (Nat.le_of_ble_eq_true rfl) ?_
  intro p e s m args below meth c A ls Qf B hnm h hl hQ
  have hl : lv_has ls 1 [(0, .ref aq)] := hl
  refine lv_aload_n B.1 B.2.1 dX3_init_0 rfl (lv_at hl 0 rfl) ?_
  refine x_obj B m_219 m_122 m_123 hl.1 (Nat.le_of_ble_eq_true rfl) (by decide) dX3_init_1 ?_
  refine lv_aload_n B.1 B.2.1 dX3_init_4 rfl (lv_at hl 0 rfl) ?_
  refine x_sipush B (by decide) dX3_init_5 ?_
  refine x_newaI B h (N := 289) (by omega) (by decide) m_213 (by decide) dX3_init_8 (fun q1 H h => ?_)
  refine x_putF B h kX3 iq (xapp_l fq) 0 (Nat.le_of_ble_eq_true rfl) (P' := fR q1) m_220 (by decide) rfl rfl hnm rfl rfl rfl dX3_init_10 (fun H locs h => ?_)
  refine x_rv B hQ h (by decide) dX3_init_13 ?_
  exact ⟨rfl, q1, rfl⟩
abbrev r_c_X10_init : Room := { frames := 1, cells := 3, slots := 156, locals := 20 }
set_option maxHeartbeats 4000000 in
set_option maxRecDepth 100000 in
theorem c_X10_init (l : Launch) (D : va_G) (ca : Nat → ClassId) (w : xW) (aq : Nat) (iq : Nat) (fq : w[iq]? = some (aq, xO 10 [fN, fN, fN, fX 0, fX 0, fX 0, fX 0]))  : xC l D ca yX10_init cX10_init 1 none r_c_X10_init [.ref aq] w (fun r w1 => r = none ∧ ∃ q1 q2 q3 : Nat, w1 = ((((((w ++ [(q1, xAI (ca 0) 100 (gX 100 (fun _ => 0)))]).set iq (aq, xO 10 [fR q1, fN, fN, fX 0, fX 0, fX 0, fX 0])) ++ [(q2, xAI (ca 0) 10 (gX 10 (fun _ => 0)))]).set iq (aq, xO 10 [fR q1, fR q2, fN, fX 0, fX 0, fX 0, fX 0])) ++ [(q3, xAI (ca 0) 46 (gX 46 (fun _ => 0)))]).set iq (aq, xO 10 [fR q1, fR q2, fR q3, fX 0, fX 0, fX 0, fX 0]))) := by
  refine xC.of2 "WindWords$Winds" (by decide) rfl (Nat.le_of_ble_eq_true rfl) ?_
  intro p e s m args below meth c A ls Qf B hnm h hl hQ
  have hl : lv_has ls 1 [(0, .ref aq)] := hl
  refine lv_aload_n B.1 B.2.1 dX10_init_0 rfl (lv_at hl 0 rfl) ?_
  refine x_obj B m_229 m_122 m_123 hl.1 (Nat.le_of_ble_eq_true rfl) (by decide) dX10_init_1 ?_
  refine lv_aload_n B.1 B.2.1 dX10_init_4 rfl (lv_at hl 0 rfl) ?_
  refine x_bipush B (by decide) dX10_init_5 ?_
  refine x_newaI B h (N := 100) (by omega) (by decide) m_213 (by decide) dX10_init_7 (fun q1 H h => ?_)
  refine x_putF B h kX10 iq (xapp_l fq) 0 (Nat.le_of_ble_eq_true rfl) (P' := fR q1) m_230 (by decide) rfl rfl hnm rfl rfl rfl dX10_init_9 (fun H locs h => ?_)
  refine lv_aload_n B.1 B.2.1 dX10_init_12 rfl (lv_at hl 0 rfl) ?_
  refine x_bipush B (by decide) dX10_init_13 ?_
  refine x_newaI B h (N := 10) (by omega) (by decide) m_213 (by decide) dX10_init_15 (fun q2 H h => ?_)
  refine x_putF B h kX10 iq (xapp_l (xset_eq (xapp_l fq))) 1 (Nat.le_of_ble_eq_true rfl) (P' := fR q2) m_231 (by decide) rfl rfl hnm rfl rfl rfl dX10_init_17 (fun H locs h => ?_)
  refine lv_aload_n B.1 B.2.1 dX10_init_20 rfl (lv_at hl 0 rfl) ?_
  refine x_bipush B (by decide) dX10_init_21 ?_
  refine x_newaI B h (N := 46) (by omega) (by decide) m_213 (by decide) dX10_init_23 (fun q3 H h => ?_)
  refine x_putF B h kX10 iq (xapp_l (xset_eq (xapp_l (xset_eq (xapp_l fq))))) 2 (Nat.le_of_ble_eq_true rfl) (P' := fR q3) m_232 (by decide) rfl rfl hnm rfl rfl rfl dX10_init_25 (fun H locs h => ?_)
  refine lv_aload_n B.1 B.2.1 dX10_init_28 rfl (lv_at hl 0 rfl) ?_
  refine x_iconst B dX10_init_29 ?_
  refine x_putS B h kX10 iq (xset_eq (xapp_l (xset_eq (xapp_l (xset_eq (xapp_l fq)))))) 3 (P := fX 0) rfl m_233 (by decide) rfl rfl rfl rfl dX10_init_30 (fun H locs h => ?_)
  refine lv_aload_n B.1 B.2.1 dX10_init_33 rfl (lv_at hl 0 rfl) ?_
  refine x_iconst B dX10_init_34 ?_
  refine x_putS B h kX10 iq (xset_eq (xapp_l (xset_eq (xapp_l (xset_eq (xapp_l fq)))))) 4 (P := fX 0) rfl m_235 (by decide) rfl rfl rfl rfl dX10_init_35 (fun H locs h => ?_)
  refine lv_aload_n B.1 B.2.1 dX10_init_38 rfl (lv_at hl 0 rfl) ?_
  refine x_iconst B dX10_init_39 ?_
  refine x_putS B h kX10 iq (xset_eq (xapp_l (xset_eq (xapp_l (xset_eq (xapp_l fq)))))) 5 (P := fX 0) rfl m_237 (by decide) rfl rfl rfl rfl dX10_init_40 (fun H locs h => ?_)
  refine lv_aload_n B.1 B.2.1 dX10_init_43 rfl (lv_at hl 0 rfl) ?_
  refine x_iconst B dX10_init_44 ?_
  refine x_putS B h kX10 iq (xset_eq (xapp_l (xset_eq (xapp_l (xset_eq (xapp_l fq)))))) 6 (P := fX 0) rfl m_239 (by decide) rfl rfl rfl rfl dX10_init_45 (fun H locs h => ?_)
  refine x_rv B hQ h (by decide) dX10_init_48 ?_
  exact ⟨rfl, q1, q2, q3, rfl⟩
abbrev r_c_X8_init : Room := { frames := 1, cells := 1, slots := 60, locals := 20 }
set_option maxHeartbeats 4000000 in
set_option maxRecDepth 100000 in
theorem c_X8_init (l : Launch) (D : va_G) (ca : Nat → ClassId) (w : xW) (aq : Nat) (iq : Nat) (fq : w[iq]? = some (aq, xO 8 [fN, fX 0, fX 0, fX 0, fX 0, fX 0]))  : xC l D ca yX8_init cX8_init 1 none r_c_X8_init [.ref aq] w (fun r w1 => r = none ∧ ∃ q1 : Nat, w1 = ((w ++ [(q1, xAL (ca 1) 60 (fun f => f = fun _ => 0))]).set iq (aq, xO 8 [fR q1, fX 0, fX 0, fX 0, fX 0, fX 0]))) := by
  refine xC.of2 "WindWords$Storm" (by decide) rfl (Nat.le_of_ble_eq_true rfl) ?_
  intro p e s m args below meth c A ls Qf B hnm h hl hQ
  have hl : lv_has ls 1 [(0, .ref aq)] := hl
  refine lv_aload_n B.1 B.2.1 dX8_init_0 rfl (lv_at hl 0 rfl) ?_
  refine x_obj B m_261 m_122 m_123 hl.1 (Nat.le_of_ble_eq_true rfl) (by decide) dX8_init_1 ?_
  refine lv_aload_n B.1 B.2.1 dX8_init_4 rfl (lv_at hl 0 rfl) ?_
  refine x_bipush B (by decide) dX8_init_5 ?_
  refine x_newaL B h (N := 60) (by omega) (by decide) m_281 (by decide) dX8_init_7 (fun q1 H h => ?_)
  refine x_putF B h kX8 iq (xapp_l fq) 0 (Nat.le_of_ble_eq_true rfl) (P' := fR q1) m_262 (by decide) rfl rfl hnm rfl rfl rfl dX8_init_9 (fun H locs h => ?_)
  refine lv_aload_n B.1 B.2.1 dX8_init_12 rfl (lv_at hl 0 rfl) ?_
  refine x_iconst B dX8_init_13 ?_
  refine x_putS B h kX8 iq (xset_eq (xapp_l fq)) 1 (P := fX 0) rfl m_263 (by decide) rfl rfl rfl rfl dX8_init_14 (fun H locs h => ?_)
  refine lv_aload_n B.1 B.2.1 dX8_init_17 rfl (lv_at hl 0 rfl) ?_
  refine x_iconst B dX8_init_18 ?_
  refine x_putS B h kX8 iq (xset_eq (xapp_l fq)) 2 (P := fX 0) rfl m_264 (by decide) rfl rfl rfl rfl dX8_init_19 (fun H locs h => ?_)
  refine lv_aload_n B.1 B.2.1 dX8_init_22 rfl (lv_at hl 0 rfl) ?_
  refine x_iconst B dX8_init_23 ?_
  refine x_putS B h kX8 iq (xset_eq (xapp_l fq)) 3 (P := fX 0) rfl m_265 (by decide) rfl rfl rfl rfl dX8_init_24 (fun H locs h => ?_)
  refine lv_aload_n B.1 B.2.1 dX8_init_27 rfl (lv_at hl 0 rfl) ?_
  refine x_iconst B dX8_init_28 ?_
  refine x_putS B h kX8 iq (xset_eq (xapp_l fq)) 4 (P := fX 0) rfl m_266 (by decide) rfl rfl rfl rfl dX8_init_29 (fun H locs h => ?_)
  refine lv_aload_n B.1 B.2.1 dX8_init_32 rfl (lv_at hl 0 rfl) ?_
  refine x_iconst B dX8_init_33 ?_
  refine x_putS B h kX8 iq (xset_eq (xapp_l fq)) 5 (P := fX 0) rfl m_267 (by decide) rfl rfl rfl rfl dX8_init_34 (fun H locs h => ?_)
  refine x_rv B hQ h (by decide) dX8_init_37 ?_
  exact ⟨rfl, q1, rfl⟩
abbrev r_c_X9_init : Room := { frames := 1, cells := 5, slots := 4500, locals := 20 }
set_option maxHeartbeats 4000000 in
set_option maxRecDepth 100000 in
theorem c_X9_init (l : Launch) (D : va_G) (ca : Nat → ClassId) (w : xW) (aq : Nat) (iq : Nat) (fq : w[iq]? = some (aq, xO 9 [fX 0, fX 0, fN, fN, fN, fN, fN, fX 0]))  : xC l D ca yX9_init cX9_init 1 none r_c_X9_init [.ref aq] w (fun r w1 => r = none ∧ ∃ q1 q2 q3 q4 q5 : Nat, w1 = ((((((((((w ++ [(q1, xAI (ca 0) 900 (gX 900 (fun _ => 0)))]).set iq (aq, xO 9 [fX 0, fX 0, fR q1, fN, fN, fN, fN, fX 0])) ++ [(q2, xAI (ca 0) 900 (gX 900 (fun _ => 0)))]).set iq (aq, xO 9 [fX 0, fX 0, fR q1, fR q2, fN, fN, fN, fX 0])) ++ [(q3, xAI (ca 0) 900 (gX 900 (fun _ => 0)))]).set iq (aq, xO 9 [fX 0, fX 0, fR q1, fR q2, fR q3, fN, fN, fX 0])) ++ [(q4, xAI (ca 0) 900 (gX 900 (fun _ => 0)))]).set iq (aq, xO 9 [fX 0, fX 0, fR q1, fR q2, fR q3, fR q4, fN, fX 0])) ++ [(q5, xAI (ca 0) 900 (gX 900 (fun _ => 0)))]).set iq (aq, xO 9 [fX 0, fX 0, fR q1, fR q2, fR q3, fR q4, fR q5, fX 0]))) := by
  refine xC.of2 "WindWords$Tape" (by decide) rfl (Nat.le_of_ble_eq_true rfl) ?_
  intro p e s m args below meth c A ls Qf B hnm h hl hQ
  have hl : lv_has ls 1 [(0, .ref aq)] := hl
  refine lv_aload_n B.1 B.2.1 dX9_init_0 rfl (lv_at hl 0 rfl) ?_
  refine x_obj B m_287 m_122 m_123 hl.1 (Nat.le_of_ble_eq_true rfl) (by decide) dX9_init_1 ?_
  refine lv_aload_n B.1 B.2.1 dX9_init_4 rfl (lv_at hl 0 rfl) ?_
  refine x_iconst B dX9_init_5 ?_
  refine x_putS B h kX9 iq fq 0 (P := fX 0) rfl m_288 (by decide) rfl rfl rfl rfl dX9_init_6 (fun H locs h => ?_)
  refine lv_aload_n B.1 B.2.1 dX9_init_9 rfl (lv_at hl 0 rfl) ?_
  refine x_iconst B dX9_init_10 ?_
  refine x_putS B h kX9 iq fq 1 (P := fX 0) rfl m_290 (by decide) rfl rfl rfl rfl dX9_init_11 (fun H locs h => ?_)
  refine lv_aload_n B.1 B.2.1 dX9_init_14 rfl (lv_at hl 0 rfl) ?_
  refine x_sipush B (by decide) dX9_init_15 ?_
  refine x_newaI B h (N := 900) (by omega) (by decide) m_213 (by decide) dX9_init_18 (fun q1 H h => ?_)
  refine x_putF B h kX9 iq (xapp_l fq) 2 (Nat.le_of_ble_eq_true rfl) (P' := fR q1) m_292 (by decide) rfl rfl hnm rfl rfl rfl dX9_init_20 (fun H locs h => ?_)
  refine lv_aload_n B.1 B.2.1 dX9_init_23 rfl (lv_at hl 0 rfl) ?_
  refine x_sipush B (by decide) dX9_init_24 ?_
  refine x_newaI B h (N := 900) (by omega) (by decide) m_213 (by decide) dX9_init_27 (fun q2 H h => ?_)
  refine x_putF B h kX9 iq (xapp_l (xset_eq (xapp_l fq))) 3 (Nat.le_of_ble_eq_true rfl) (P' := fR q2) m_293 (by decide) rfl rfl hnm rfl rfl rfl dX9_init_29 (fun H locs h => ?_)
  refine lv_aload_n B.1 B.2.1 dX9_init_32 rfl (lv_at hl 0 rfl) ?_
  refine x_sipush B (by decide) dX9_init_33 ?_
  refine x_newaI B h (N := 900) (by omega) (by decide) m_213 (by decide) dX9_init_36 (fun q3 H h => ?_)
  refine x_putF B h kX9 iq (xapp_l (xset_eq (xapp_l (xset_eq (xapp_l fq))))) 4 (Nat.le_of_ble_eq_true rfl) (P' := fR q3) m_295 (by decide) rfl rfl hnm rfl rfl rfl dX9_init_38 (fun H locs h => ?_)
  refine lv_aload_n B.1 B.2.1 dX9_init_41 rfl (lv_at hl 0 rfl) ?_
  refine x_sipush B (by decide) dX9_init_42 ?_
  refine x_newaI B h (N := 900) (by omega) (by decide) m_213 (by decide) dX9_init_45 (fun q4 H h => ?_)
  refine x_putF B h kX9 iq (xapp_l (xset_eq (xapp_l (xset_eq (xapp_l (xset_eq (xapp_l fq))))))) 5 (Nat.le_of_ble_eq_true rfl) (P' := fR q4) m_296 (by decide) rfl rfl hnm rfl rfl rfl dX9_init_47 (fun H locs h => ?_)
  refine lv_aload_n B.1 B.2.1 dX9_init_50 rfl (lv_at hl 0 rfl) ?_
  refine x_sipush B (by decide) dX9_init_51 ?_
  refine x_newaI B h (N := 900) (by omega) (by decide) m_213 (by decide) dX9_init_54 (fun q5 H h => ?_)
  refine x_putF B h kX9 iq (xapp_l (xset_eq (xapp_l (xset_eq (xapp_l (xset_eq (xapp_l (xset_eq (xapp_l fq))))))))) 6 (Nat.le_of_ble_eq_true rfl) (P' := fR q5) m_297 (by decide) rfl rfl hnm rfl rfl rfl dX9_init_56 (fun H locs h => ?_)
  refine lv_aload_n B.1 B.2.1 dX9_init_59 rfl (lv_at hl 0 rfl) ?_
  refine x_iconst B dX9_init_60 ?_
  refine x_putS B h kX9 iq (xset_eq (xapp_l (xset_eq (xapp_l (xset_eq (xapp_l (xset_eq (xapp_l (xset_eq (xapp_l fq)))))))))) 7 (P := fX 0) rfl m_299 (by decide) rfl rfl rfl rfl dX9_init_61 (fun H locs h => ?_)
  refine x_rv B hQ h (by decide) dX9_init_64 ?_
  exact ⟨rfl, q1, q2, q3, q4, q5, rfl⟩
abbrev r_c_X1_init : Room := { frames := 1, cells := 0, slots := 0, locals := 20 }
set_option maxHeartbeats 4000000 in
set_option maxRecDepth 100000 in
theorem c_X1_init (l : Launch) (D : va_G) (ca : Nat → ClassId) (w : xW) (aq : Nat) (iq : Nat) (fq : w[iq]? = some (aq, xO 1 [fX 0, fX 0]))  : xC l D ca yX1_init cX1_init 1 none r_c_X1_init [.ref aq] w (fun r w1 => r = none ∧ w1 = w) := by
  refine xC.of2 "WindWords$Grammar" (by decide) rfl (Nat.le_of_ble_eq_true rfl) ?_
  intro p e s m args below meth c A ls Qf B hnm h hl hQ
  have hl : lv_has ls 1 [(0, .ref aq)] := hl
  refine lv_aload_n B.1 B.2.1 dX1_init_0 rfl (lv_at hl 0 rfl) ?_
  refine x_obj B m_322 m_122 m_123 hl.1 (Nat.le_of_ble_eq_true rfl) (by decide) dX1_init_1 ?_
  refine lv_aload_n B.1 B.2.1 dX1_init_4 rfl (lv_at hl 0 rfl) ?_
  refine x_iconst B dX1_init_5 ?_
  refine x_putS B h kX1 iq fq 0 (P := fX 0) rfl m_323 (by decide) rfl rfl rfl rfl dX1_init_6 (fun H locs h => ?_)
  refine lv_aload_n B.1 B.2.1 dX1_init_9 rfl (lv_at hl 0 rfl) ?_
  refine x_iconst B dX1_init_10 ?_
  refine x_putS B h kX1 iq fq 1 (P := fX 0) rfl m_324 (by decide) rfl rfl rfl rfl dX1_init_11 (fun H locs h => ?_)
  refine x_rv B hQ h (by decide) dX1_init_14 ?_
  exact ⟨rfl, rfl⟩
abbrev r_c_X5_init : Room := { frames := 1, cells := 5, slots := 611, locals := 20 }
set_option maxHeartbeats 4000000 in
set_option maxRecDepth 100000 in
theorem c_X5_init (l : Launch) (D : va_G) (ca : Nat → ClassId) (w : xW) (aq : Nat) (iq : Nat) (fq : w[iq]? = some (aq, xO 5 [fN, fN, fN, fN, fN, fX 0, fX 0]))  : xC l D ca yX5_init cX5_init 1 none r_c_X5_init [.ref aq] w (fun r w1 => r = none ∧ ∃ q1 q2 q3 q4 q5 : Nat, w1 = ((((((((((w ++ [(q1, xAI (ca 0) 40 (gX 40 (fun _ => 0)))]).set iq (aq, xO 5 [fR q1, fN, fN, fN, fN, fX 0, fX 0])) ++ [(q2, xAI (ca 0) 40 (gX 40 (fun _ => 0)))]).set iq (aq, xO 5 [fR q1, fR q2, fN, fN, fN, fX 0, fX 0])) ++ [(q3, xAI (ca 0) 40 (gX 40 (fun _ => 0)))]).set iq (aq, xO 5 [fR q1, fR q2, fR q3, fN, fN, fX 0, fX 0])) ++ [(q4, xAI (ca 0) 41 (gX 41 (fun _ => 0)))]).set iq (aq, xO 5 [fR q1, fR q2, fR q3, fR q4, fN, fX 0, fX 0])) ++ [(q5, xAI (ca 0) 450 (gX 450 (fun _ => 0)))]).set iq (aq, xO 5 [fR q1, fR q2, fR q3, fR q4, fR q5, fX 0, fX 0]))) := by
  refine xC.of2 "WindWords$Rules" (by decide) rfl (Nat.le_of_ble_eq_true rfl) ?_
  intro p e s m args below meth c A ls Qf B hnm h hl hQ
  have hl : lv_has ls 1 [(0, .ref aq)] := hl
  refine lv_aload_n B.1 B.2.1 dX5_init_0 rfl (lv_at hl 0 rfl) ?_
  refine x_obj B m_337 m_122 m_123 hl.1 (Nat.le_of_ble_eq_true rfl) (by decide) dX5_init_1 ?_
  refine lv_aload_n B.1 B.2.1 dX5_init_4 rfl (lv_at hl 0 rfl) ?_
  refine x_bipush B (by decide) dX5_init_5 ?_
  refine x_newaI B h (N := 40) (by omega) (by decide) m_213 (by decide) dX5_init_7 (fun q1 H h => ?_)
  refine x_putF B h kX5 iq (xapp_l fq) 0 (Nat.le_of_ble_eq_true rfl) (P' := fR q1) m_338 (by decide) rfl rfl hnm rfl rfl rfl dX5_init_9 (fun H locs h => ?_)
  refine lv_aload_n B.1 B.2.1 dX5_init_12 rfl (lv_at hl 0 rfl) ?_
  refine x_bipush B (by decide) dX5_init_13 ?_
  refine x_newaI B h (N := 40) (by omega) (by decide) m_213 (by decide) dX5_init_15 (fun q2 H h => ?_)
  refine x_putF B h kX5 iq (xapp_l (xset_eq (xapp_l fq))) 1 (Nat.le_of_ble_eq_true rfl) (P' := fR q2) m_339 (by decide) rfl rfl hnm rfl rfl rfl dX5_init_17 (fun H locs h => ?_)
  refine lv_aload_n B.1 B.2.1 dX5_init_20 rfl (lv_at hl 0 rfl) ?_
  refine x_bipush B (by decide) dX5_init_21 ?_
  refine x_newaI B h (N := 40) (by omega) (by decide) m_213 (by decide) dX5_init_23 (fun q3 H h => ?_)
  refine x_putF B h kX5 iq (xapp_l (xset_eq (xapp_l (xset_eq (xapp_l fq))))) 2 (Nat.le_of_ble_eq_true rfl) (P' := fR q3) m_340 (by decide) rfl rfl hnm rfl rfl rfl dX5_init_25 (fun H locs h => ?_)
  refine lv_aload_n B.1 B.2.1 dX5_init_28 rfl (lv_at hl 0 rfl) ?_
  refine x_bipush B (by decide) dX5_init_29 ?_
  refine x_newaI B h (N := 41) (by omega) (by decide) m_213 (by decide) dX5_init_31 (fun q4 H h => ?_)
  refine x_putF B h kX5 iq (xapp_l (xset_eq (xapp_l (xset_eq (xapp_l (xset_eq (xapp_l fq))))))) 3 (Nat.le_of_ble_eq_true rfl) (P' := fR q4) m_341 (by decide) rfl rfl hnm rfl rfl rfl dX5_init_33 (fun H locs h => ?_)
  refine lv_aload_n B.1 B.2.1 dX5_init_36 rfl (lv_at hl 0 rfl) ?_
  refine x_sipush B (by decide) dX5_init_37 ?_
  refine x_newaI B h (N := 450) (by omega) (by decide) m_213 (by decide) dX5_init_40 (fun q5 H h => ?_)
  refine x_putF B h kX5 iq (xapp_l (xset_eq (xapp_l (xset_eq (xapp_l (xset_eq (xapp_l (xset_eq (xapp_l fq))))))))) 4 (Nat.le_of_ble_eq_true rfl) (P' := fR q5) m_342 (by decide) rfl rfl hnm rfl rfl rfl dX5_init_42 (fun H locs h => ?_)
  refine lv_aload_n B.1 B.2.1 dX5_init_45 rfl (lv_at hl 0 rfl) ?_
  refine x_iconst B dX5_init_46 ?_
  refine x_putS B h kX5 iq (xset_eq (xapp_l (xset_eq (xapp_l (xset_eq (xapp_l (xset_eq (xapp_l (xset_eq (xapp_l fq)))))))))) 5 (P := fX 0) rfl m_343 (by decide) rfl rfl rfl rfl dX5_init_47 (fun H locs h => ?_)
  refine lv_aload_n B.1 B.2.1 dX5_init_50 rfl (lv_at hl 0 rfl) ?_
  refine x_iconst B dX5_init_51 ?_
  refine x_putS B h kX5 iq (xset_eq (xapp_l (xset_eq (xapp_l (xset_eq (xapp_l (xset_eq (xapp_l (xset_eq (xapp_l fq)))))))))) 6 (P := fX 0) rfl m_345 (by decide) rfl rfl rfl rfl dX5_init_52 (fun H locs h => ?_)
  refine x_rv B hQ h (by decide) dX5_init_55 ?_
  exact ⟨rfl, q1, q2, q3, q4, q5, rfl⟩
abbrev r_c_X2_init : Room := { frames := 1, cells := 0, slots := 0, locals := 20 }
set_option maxHeartbeats 4000000 in
set_option maxRecDepth 100000 in
theorem c_X2_init (l : Launch) (D : va_G) (ca : Nat → ClassId) (w : xW) (aq : Nat) (iq : Nat) (afl : Nat) (ifl : Nat) (ad : Nat → Nat) (fq : w[iq]? = some (aq, xO 2 [fX 0, fX 0, fX 0, fX 0])) (ffl : w[ifl]? = some (afl, xO 0 [fR (ad 2), fR (ad 3), fX 0, fX 0, fX 0, fX 0, fX 0, fX 1, fX 1])) (hne : iq ≠ ifl) : xC l D ca yX2_init cX2_init 2 none r_c_X2_init [.ref aq, .ref afl] w (fun r w1 => r = none ∧ w1 = (w.set iq (aq, xO 2 [fX 0, fX 0, fX 1, fX 1]))) := by
  refine xC.of2 "WindWords$Image" (by decide) rfl (Nat.le_of_ble_eq_true rfl) ?_
  intro p e s m args below meth c A ls Qf B hnm h hl hQ
  have hl : lv_has ls 2 [(0, .ref aq), (1, .ref afl)] := hl
  refine lv_aload_n B.1 B.2.1 dX2_init_0 rfl (lv_at hl 0 rfl) ?_
  refine x_obj B m_1219 m_122 m_123 hl.1 (Nat.le_of_ble_eq_true rfl) (by decide) dX2_init_1 ?_
  refine lv_aload_n B.1 B.2.1 dX2_init_4 rfl (lv_at hl 0 rfl) ?_
  refine lv_aload_n B.1 B.2.1 dX2_init_5 rfl (lv_at hl 1 rfl) ?_
  refine x_getX B h kX0 ifl ffl 5 (z := 0) rfl m_144 (by decide) dX2_init_6 ?_
  refine x_putF B h kX2 iq fq 0 (Nat.le_of_ble_eq_true rfl) (P' := fX 0) m_1220 (by decide) rfl rfl hnm rfl rfl rfl dX2_init_9 (fun H locs h => ?_)
  have h : xH D A s.heap (w.set iq (aq, xO 2 [fX 0, fX 0, fX 0, fX 0])) H locs := h
  refine lv_aload_n B.1 B.2.1 dX2_init_12 rfl (lv_at hl 0 rfl) ?_
  refine lv_aload_n B.1 B.2.1 dX2_init_13 rfl (lv_at hl 1 rfl) ?_
  refine x_getX B h kX0 ifl (xset_ne ffl (by omega)) 3 (z := 0) rfl m_138 (by decide) dX2_init_14 ?_
  refine x_putF B h kX2 iq (xset_eq fq) 1 (Nat.le_of_ble_eq_true rfl) (P' := fX 0) m_1222 (by decide) rfl rfl hnm rfl rfl rfl dX2_init_17 (fun H locs h => ?_)
  have h : xH D A s.heap (w.set iq (aq, xO 2 [fX 0, fX 0, fX 0, fX 0])) H locs := by rw [List.set_set] at h; exact h
  refine lv_aload_n B.1 B.2.1 dX2_init_20 rfl (lv_at hl 0 rfl) ?_
  refine lv_aload_n B.1 B.2.1 dX2_init_21 rfl (lv_at hl 1 rfl) ?_
  refine x_getX B h kX0 ifl (xset_ne ffl (by omega)) 7 (z := 1) rfl m_152 (by decide) dX2_init_22 ?_
  refine x_putF B h kX2 iq (xset_eq fq) 2 (Nat.le_of_ble_eq_true rfl) (P' := fX 1) m_1224 (by decide) rfl rfl hnm rfl rfl rfl dX2_init_25 (fun H locs h => ?_)
  have h : xH D A s.heap (w.set iq (aq, xO 2 [fX 0, fX 0, fX 1, fX 0])) H locs := by rw [List.set_set] at h; exact h
  refine lv_aload_n B.1 B.2.1 dX2_init_28 rfl (lv_at hl 0 rfl) ?_
  refine lv_aload_n B.1 B.2.1 dX2_init_29 rfl (lv_at hl 1 rfl) ?_
  refine x_getX B h kX0 ifl (xset_ne ffl (by omega)) 8 (z := 1) rfl m_155 (by decide) dX2_init_30 ?_
  refine x_putF B h kX2 iq (xset_eq fq) 3 (Nat.le_of_ble_eq_true rfl) (P' := fX 1) m_1226 (by decide) rfl rfl hnm rfl rfl rfl dX2_init_33 (fun H locs h => ?_)
  have h : xH D A s.heap (w.set iq (aq, xO 2 [fX 0, fX 0, fX 1, fX 1])) H locs := by rw [List.set_set] at h; exact h
  refine x_rv B hQ h (by decide) dX2_init_36 ?_
  exact ⟨rfl, rfl⟩
