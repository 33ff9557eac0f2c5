theorem k_J0_charAt_5068e : xMV yJ0_charAt_5068e cJ0_charAt_5068e 2 (some .char) 1 := ⟨m_630, m_628, m_629, m_108, ⟨by decide +kernel, by decide +kernel, by decide +kernel⟩⟩
theorem k_X9_binderName : xMS yX9_binderName cX9_binderName 1 (some (.object "java/lang/String")) 1 := ⟨m_675, m_674, m_101, ⟨by decide +kernel, by decide +kernel, by decide +kernel⟩⟩
theorem k_X9_isWord : xMV yX9_isWord cX9_isWord 5 (some .boolean) 3 := ⟨m_616, m_615, m_4, m_101, ⟨by decide +kernel, by decide +kernel, by decide +kernel⟩⟩
theorem k_X9_askedName : xMS yX9_askedName cX9_askedName 1 (some (.object "java/lang/String")) 1 := ⟨m_667, m_666, m_101, ⟨by decide +kernel, by decide +kernel, by decide +kernel⟩⟩
theorem k_X9_kindName : xMS yX9_kindName cX9_kindName 1 (some (.object "java/lang/String")) 1 := ⟨m_609, m_608, m_101, ⟨by decide +kernel, by decide +kernel, by decide +kernel⟩⟩
theorem k_X9_isDigit : xMS yX9_isDigit cX9_isDigit 1 (some .boolean) 1 := ⟨m_598, m_597, m_101, ⟨by decide +kernel, by decide +kernel, by decide +kernel⟩⟩
theorem k_X9_isLetter : xMS yX9_isLetter cX9_isLetter 1 (some .boolean) 1 := ⟨m_602, m_601, m_101, ⟨by decide +kernel, by decide +kernel, by decide +kernel⟩⟩
theorem k_X9_wordCode : xMV yX9_wordCode cX9_wordCode 4 (some .int) 2 := ⟨m_606, m_605, m_3, m_101, ⟨by decide +kernel, by decide +kernel, by decide +kernel⟩⟩
theorem k_J0_indexOf_0f7a4 : xMV yJ0_indexOf_0f7a4 cJ0_indexOf_0f7a4 2 (some .int) 1 := ⟨m_690, m_688, m_689, m_108, ⟨by decide +kernel, by decide +kernel, by decide +kernel⟩⟩
theorem k_X9_isBlank : xMS yX9_isBlank cX9_isBlank 1 (some .boolean) 1 := ⟨m_591, m_590, m_101, ⟨by decide +kernel, by decide +kernel, by decide +kernel⟩⟩
theorem k_X9_take : xMV yX9_take cX9_take 5 (some .int) 2 := ⟨m_595, m_594, m_2, m_101, ⟨by decide +kernel, by decide +kernel, by decide +kernel⟩⟩
abbrev r_c_X9_kindName : Room := { frames := 0, cells := 0, slots := 0, locals := 0 }
set_option maxHeartbeats 4000000 in
set_option maxRecDepth 100000 in
theorem c_X9_kindName (l : Launch) (D : va_G) (Zk : yK) (ca : Nat → ClassId) (w : yW) (k : Int)  (hk : xr k) : yC l D Zk ca yX9_kindName cX9_kindName 1 (some (.object "java/lang/String")) r_c_X9_kindName [.int (iI k)] w (fun r w1 => w = w1 ∧ ∃ i : Nat, i < nYS ∧ r = some (va_rf (some (Zk.1 i)))) := by
  refine yC.of2 "WindWords$Tape" (by decide) rfl (Nat.le_of_ble_eq_true rfl) ?_
  intro p e s m args below meth c A ls Qf B hnm h hl hQ
  have hl : lv_has ls 1 [(0, .int (iI k))] := hl
  refine lv_iload_n B.1 B.2.1 dX9_kindName_0 rfl (lv_at hl 0 rfl) ?_
  by_cases t1 : k = 0
  · refine y_look B (tgt := 28) (by omega) dX9_kindName_1 (by decide) (by rw [t1]) (by decide) ?_
    refine y_sLdc B h 0 (by decide) rfl dX9_kindName_28 ?_
    refine y_ra (r := (some (Zk.1 0))) B hQ h (by decide) dX9_kindName_30 ?_
    exact ⟨rfl, 0, by decide, rfl⟩
  by_cases t2 : k = 1
  · refine y_look B (tgt := 31) (by omega) dX9_kindName_1 (by decide) (by rw [t2]) (by decide) ?_
    refine y_sLdc B h 1 (by decide) rfl dX9_kindName_31 ?_
    refine y_ra (r := (some (Zk.1 1))) B hQ h (by decide) dX9_kindName_33 ?_
    exact ⟨rfl, 1, by decide, rfl⟩
  refine y_look B (tgt := 34) (off := 33) (by omega) dX9_kindName_1 (by decide) (by show (if (0 : Int) = k then 27 else (if (1 : Int) = k then 30 else 33)) = 33; rw [if_neg (by omega), if_neg (by omega)]) (by decide) ?_
  refine y_sLdc B h 2 (by decide) rfl dX9_kindName_34 ?_
  refine y_ra (r := (some (Zk.1 2))) B hQ h (by decide) dX9_kindName_36 ?_
  exact ⟨rfl, 2, by decide, rfl⟩
abbrev r_c_X9_askedName : Room := { frames := 0, cells := 0, slots := 0, locals := 0 }
set_option maxHeartbeats 4000000 in
set_option maxRecDepth 100000 in
theorem c_X9_askedName (l : Launch) (D : va_G) (Zk : yK) (ca : Nat → ClassId) (w : yW) (k : Int)  (hk : xr k) : yC l D Zk ca yX9_askedName cX9_askedName 1 (some (.object "java/lang/String")) r_c_X9_askedName [.int (iI k)] w (fun r w1 => w = w1 ∧ ∃ i : Nat, i < nYS ∧ r = some (va_rf (some (Zk.1 i)))) := by
  refine yC.of2 "WindWords$Tape" (by decide) rfl (Nat.le_of_ble_eq_true rfl) ?_
  intro p e s m args below meth c A ls Qf B hnm h hl hQ
  have hl : lv_has ls 1 [(0, .int (iI k))] := hl
  refine lv_iload_n B.1 B.2.1 dX9_askedName_0 rfl (lv_at hl 0 rfl) ?_
  by_cases t1 : k = 0
  · refine x_tin B (tgt := 32) 0 (by omega) dX9_askedName_1 rfl (by decide) ?_
    refine y_sLdc B h 3 (by decide) rfl dX9_askedName_32 ?_
    refine y_ra (r := (some (Zk.1 3))) B hQ h (by decide) dX9_askedName_34 ?_
    exact ⟨rfl, 3, by decide, rfl⟩
  by_cases t2 : k = 1
  · refine x_tin B (tgt := 35) 1 (by omega) dX9_askedName_1 rfl (by decide) ?_
    refine y_sLdc B h 4 (by decide) rfl dX9_askedName_35 ?_
    refine y_ra (r := (some (Zk.1 4))) B hQ h (by decide) dX9_askedName_37 ?_
    exact ⟨rfl, 4, by decide, rfl⟩
  by_cases t3 : k = 2
  · refine x_tin B (tgt := 38) 2 (by omega) dX9_askedName_1 rfl (by decide) ?_
    refine y_sLdc B h 5 (by decide) rfl dX9_askedName_38 ?_
    refine y_ra (r := (some (Zk.1 5))) B hQ h (by decide) dX9_askedName_40 ?_
    exact ⟨rfl, 5, by decide, rfl⟩
  by_cases t4 : k = 3
  · refine x_tin B (tgt := 41) 3 (by omega) dX9_askedName_1 rfl (by decide) ?_
    refine y_sLdc B h 6 (by decide) rfl dX9_askedName_41 ?_
    refine y_ra (r := (some (Zk.1 6))) B hQ h (by decide) dX9_askedName_43 ?_
    exact ⟨rfl, 6, by decide, rfl⟩
  refine x_tout B (tgt := 44) (by omega) dX9_askedName_1 (by decide) ?_
  refine y_sLdc B h 7 (by decide) rfl dX9_askedName_44 ?_
  refine y_ra (r := (some (Zk.1 7))) B hQ h (by decide) dX9_askedName_46 ?_
  exact ⟨rfl, 7, by decide, rfl⟩
abbrev r_c_X9_binderName : Room := { frames := 0, cells := 0, slots := 0, locals := 0 }
set_option maxHeartbeats 4000000 in
set_option maxRecDepth 100000 in
theorem c_X9_binderName (l : Launch) (D : va_G) (Zk : yK) (ca : Nat → ClassId) (w : yW) (k : Int)  (hk : xr k) : yC l D Zk ca yX9_binderName cX9_binderName 1 (some (.object "java/lang/String")) r_c_X9_binderName [.int (iI k)] w (fun r w1 => w = w1 ∧ ∃ i : Nat, i < nYS ∧ r = some (va_rf (some (Zk.1 i)))) := by
  refine yC.of2 "WindWords$Tape" (by decide) rfl (Nat.le_of_ble_eq_true rfl) ?_
  intro p e s m args below meth c A ls Qf B hnm h hl hQ
  have hl : lv_has ls 1 [(0, .int (iI k))] := hl
  refine lv_iload_n B.1 B.2.1 dX9_binderName_0 rfl (lv_at hl 0 rfl) ?_
  by_cases t1 : k = 220
  · refine x_tin B (tgt := 52) 0 (by omega) dX9_binderName_1 rfl (by decide) ?_
    refine y_sLdc B h 8 (by decide) rfl dX9_binderName_52 ?_
    refine y_ra (r := (some (Zk.1 8))) B hQ h (by decide) dX9_binderName_54 ?_
    exact ⟨rfl, 8, by decide, rfl⟩
  by_cases t2 : k = 221
  · refine x_tin B (tgt := 55) 1 (by omega) dX9_binderName_1 rfl (by decide) ?_
    refine y_sLdc B h 9 (by decide) rfl dX9_binderName_55 ?_
    refine y_ra (r := (some (Zk.1 9))) B hQ h (by decide) dX9_binderName_57 ?_
    exact ⟨rfl, 9, by decide, rfl⟩
  by_cases t3 : k = 222
  · refine x_tin B (tgt := 58) 2 (by omega) dX9_binderName_1 rfl (by decide) ?_
    refine y_sLdc B h 10 (by decide) rfl dX9_binderName_58 ?_
    refine y_ra (r := (some (Zk.1 10))) B hQ h (by decide) dX9_binderName_60 ?_
    exact ⟨rfl, 10, by decide, rfl⟩
  by_cases t4 : k = 223
  · refine x_tin B (tgt := 61) 3 (by omega) dX9_binderName_1 rfl (by decide) ?_
    refine y_sLdc B h 11 (by decide) rfl dX9_binderName_61 ?_
    refine y_ra (r := (some (Zk.1 11))) B hQ h (by decide) dX9_binderName_63 ?_
    exact ⟨rfl, 11, by decide, rfl⟩
  by_cases t5 : k = 224
  · refine x_tin B (tgt := 64) 4 (by omega) dX9_binderName_1 rfl (by decide) ?_
    refine y_sLdc B h 12 (by decide) rfl dX9_binderName_64 ?_
    refine y_ra (r := (some (Zk.1 12))) B hQ h (by decide) dX9_binderName_66 ?_
    exact ⟨rfl, 12, by decide, rfl⟩
  by_cases t6 : k = 225
  · refine x_tin B (tgt := 67) 5 (by omega) dX9_binderName_1 rfl (by decide) ?_
    refine y_sLdc B h 13 (by decide) rfl dX9_binderName_67 ?_
    refine y_ra (r := (some (Zk.1 13))) B hQ h (by decide) dX9_binderName_69 ?_
    exact ⟨rfl, 13, by decide, rfl⟩
  by_cases t7 : k = 226
  · refine x_tin B (tgt := 70) 6 (by omega) dX9_binderName_1 rfl (by decide) ?_
    refine y_sLdc B h 14 (by decide) rfl dX9_binderName_70 ?_
    refine y_ra (r := (some (Zk.1 14))) B hQ h (by decide) dX9_binderName_72 ?_
    exact ⟨rfl, 14, by decide, rfl⟩
  by_cases t8 : k = 227
  · refine x_tin B (tgt := 73) 7 (by omega) dX9_binderName_1 rfl (by decide) ?_
    refine y_sLdc B h 15 (by decide) rfl dX9_binderName_73 ?_
    refine y_ra (r := (some (Zk.1 15))) B hQ h (by decide) dX9_binderName_75 ?_
    exact ⟨rfl, 15, by decide, rfl⟩
  by_cases t9 : k = 228
  · refine x_tin B (tgt := 76) 8 (by omega) dX9_binderName_1 rfl (by decide) ?_
    refine y_sLdc B h 16 (by decide) rfl dX9_binderName_76 ?_
    refine y_ra (r := (some (Zk.1 16))) B hQ h (by decide) dX9_binderName_78 ?_
    exact ⟨rfl, 16, by decide, rfl⟩
  refine x_tout B (tgt := 79) (by omega) dX9_binderName_1 (by decide) ?_
  refine y_sLdc B h 17 (by decide) rfl dX9_binderName_79 ?_
  refine y_ra (r := (some (Zk.1 17))) B hQ h (by decide) dX9_binderName_81 ?_
  exact ⟨rfl, 17, by decide, rfl⟩
abbrev r_c_X9_isWord : Room := { frames := 4, cells := 0, slots := 0, locals := 85 }
set_option maxHeartbeats 4000000 in
set_option maxRecDepth 100000 in
theorem c_X9_isWord (l : Launch) (D : va_G) (Zk : yK) (ca : Nat → ClassId) (w : yW) (P1 : fP) (P3 : fP) (P4 : fP) (P5 : fP) (P6 : fP) (P7 : fP) (at9 : Nat) (it9 : Nat) (abt : Nat) (ibt : Nat) (i : Nat) (at_ : Int) (ln : Int) (ft9 : w it9 = some (at9, xO 9 [fG 0 900, P1, fR abt, P3, P4, P5, P6, P7])) (fbt : w ibt = some (abt, xAI (ca 0) 900 (gG 900 0 255))) (hi : i < nYS) (hat_ : 0 ≤ at_ ∧ at_ ≤ 899) (hln : 0 ≤ ln ∧ ln ≤ 900) : yC l D Zk ca yX9_isWord cX9_isWord 5 (some .boolean) r_c_X9_isWord [.ref at9, .int (iI at_), .int (iI ln), .ref (Zk.1 i)] w (vI w (fun z => (z = 1 ∧ (True)) ∨ (z = 0 ∧ (True)))) := by
  refine yC.of2 "WindWords$Tape" (by decide) rfl (Nat.le_of_ble_eq_true rfl) ?_
  intro p e s m args below meth c A ls Qf B hnm h hl hQ
  have hl : lv_has ls 5 [(0, .ref at9), (1, .int (iI at_)), (2, .int (iI ln)), (3, .ref (Zk.1 i))] := hl
  have hlen := len_r i hi
  refine lv_aload_n B.1 B.2.1 dX9_isWord_0 rfl (lv_at hl 3 rfl) ?_
  refine y_cVS B h (y_sCell h (by first | assumption | decide)) k_J0_length_8abf5 rfl (c_J0_length_8abf5 l D Zk ca _ i  (by first | assumption | decide)) m_617 rfl (by decide) hl.1 [] (Nat.le_of_ble_eq_true rfl) rfl dX9_isWord_1 (fun r w1 hq H locs h => ?_)
  obtain ⟨rfl, z1, rfl, hz1⟩ := hq
  show W p l e r_c_X9_isWord s m args below meth c _ _ 0 0 Qf (F0 m 4 ls [.int (iI z1)])
  refine lv_iload_n B.1 B.2.1 dX9_isWord_4 rfl (lv_at hl 2 rfl) ?_
  refine x_icmp_ne B (by omega) (tgt := 18) dX9_isWord_5 (by decide) (fun c2 => ?_) (fun c2 => ?_)
  · refine x_iconst B dX9_isWord_18 ?_
    refine y_rz B hQ h (by decide) (by decide) dX9_isWord_19 ?_
    exact ⟨rfl, _, rfl, Or.inr ⟨rfl, (by first | omega | trivial | assumption)⟩⟩
  · refine lv_iload_n B.1 B.2.1 dX9_isWord_8 rfl (lv_at hl 1 rfl) ?_
    refine lv_iload_n B.1 B.2.1 dX9_isWord_9 rfl (lv_at hl 2 rfl) ?_
    refine x_iadd B dX9_isWord_10 ?_
    refine lv_aload_n B.1 B.2.1 dX9_isWord_11 rfl (lv_at hl 0 rfl) ?_
    refine y_getG B h kX9 it9 ft9 0 (lo := 0) (hi := 900) rfl m_288 (by decide) dX9_isWord_12 (fun z3 z3a z3b => ?_)
    refine x_icmp_le B (by omega) (tgt := 20) dX9_isWord_15 (by decide) (fun c4 => ?_) (fun c4 => ?_)
    · refine x_iconst B dX9_isWord_20 ?_
      refine lv_istore (lv' := [(4, .int (iI 0)), (0, .ref at9), (1, .int (iI at_)), (2, .int (iI ln)), (3, .ref (Zk.1 i))]) B.1 B.2.1 dX9_isWord_21 hl (by decide) rfl (fun ls hl => ?_)
      have loop23 : ∀ (n23 : Nat) (k : Int), (0 ≤ k ∧ k ≤ ln) → ((ln - k : Int)).toNat < n23 → ∀ (H : Heap) (locs : List Loc) (ls : Array Slot), yH D Zk A s w H locs → lv_has ls 5 [(4, .int (iI k)), (0, .ref at9), (1, .int (iI at_)), (2, .int (iI ln)), (3, .ref (Zk.1 i))] → W p l e r_c_X9_isWord s m args below meth c H locs 0 0 Qf (F0 m 23 ls []) := by
        intro n23
        induction n23 with
        | zero =>
          intro k hk hm23 H locs ls h hl
          exact absurd hm23 (Nat.not_lt_zero _)
        | succ n23 ih23 =>
          intro k hk hm23 H locs ls h hl
          refine lv_iload B.1 B.2.1 dX9_isWord_23 (lv_at hl 0 rfl) ?_
          refine lv_iload_n B.1 B.2.1 dX9_isWord_25 rfl (lv_at hl 3 rfl) ?_
          refine x_icmp_ge B (by omega) (tgt := 55) dX9_isWord_26 (by decide) (fun c5 => ?_) (fun c5 => ?_)
          · refine x_iconst B dX9_isWord_55 ?_
            refine y_rz B hQ h (by decide) (by decide) dX9_isWord_56 ?_
            exact ⟨rfl, _, rfl, Or.inl ⟨rfl, (by first | omega | trivial | assumption)⟩⟩
          · refine lv_aload_n B.1 B.2.1 dX9_isWord_29 rfl (lv_at hl 1 rfl) ?_
            refine y_getR B h kX9 it9 ft9 2 (b := abt) rfl m_292 (by decide) dX9_isWord_30 ?_
            refine lv_iload_n B.1 B.2.1 dX9_isWord_33 rfl (lv_at hl 2 rfl) ?_
            refine lv_iload B.1 B.2.1 dX9_isWord_34 (lv_at hl 0 rfl) ?_
            refine x_iadd B dX9_isWord_36 ?_
            refine y_ialdG B h ibt fbt (by omega) dX9_isWord_37 (fun z6 z6a z6b => ?_)
            refine lv_aload_n B.1 B.2.1 dX9_isWord_38 rfl (lv_at hl 4 rfl) ?_
            refine lv_iload B.1 B.2.1 dX9_isWord_39 (lv_at hl 0 rfl) ?_
            refine y_cVS B h (y_sCell h (by first | assumption | decide)) k_J0_charAt_5068e rfl (c_J0_charAt_5068e l D Zk ca _ i k  (by first | assumption | decide) (by omega) (by omega)) m_627 rfl (by decide) hl.1 [.int (iI z6)] (Nat.le_of_ble_eq_true rfl) rfl dX9_isWord_41 (fun r w1 hq H locs h => ?_)
            obtain ⟨rfl, z7, rfl, hz7⟩ := hq
            show W p l e r_c_X9_isWord s m args below meth c _ _ 0 0 Qf (F0 m 44 ls [.int (iI z7), .int (iI z6)])
            refine x_icmp_eq B (by omega) (tgt := 49) dX9_isWord_44 (by decide) (fun c8 => ?_) (fun c8 => ?_)
            · refine lv_iinc (v := iI (k + 1)) (lv' := [(4, .int (iI (k + 1))), (0, .ref at9), (1, .int (iI at_)), (2, .int (iI ln)), (3, .ref (Zk.1 i))]) B.1 B.2.1 dX9_isWord_49 hl (k := 0) rfl (iI_add _ _) (by decide) rfl (fun ls hl => ?_)
              refine lv_goto (tgt := 23) B.1 B.2.1 dX9_isWord_52 (by decide) ?_
              exact ih23 ((k + 1)) (by omega) (by omega) _ _ _ h (lv_sub hl [0, 1, 2, 3, 4] rfl)
            · refine x_iconst B dX9_isWord_47 ?_
              refine y_rz B hQ h (by decide) (by decide) dX9_isWord_48 ?_
              exact ⟨rfl, _, rfl, Or.inr ⟨rfl, (by first | omega | trivial | assumption)⟩⟩
      exact loop23 (((ln - 0 : Int)).toNat + 1) 0 (by omega) (Nat.lt_succ_self _) _ _ _ h (lv_sub hl [0, 1, 2, 3, 4] rfl)
    · refine x_iconst B dX9_isWord_18 ?_
      refine y_rz B hQ h (by decide) (by decide) dX9_isWord_19 ?_
      exact ⟨rfl, _, rfl, Or.inr ⟨rfl, (by first | omega | trivial | assumption)⟩⟩
abbrev r_c_X9_wordCode : Room := { frames := 5, cells := 0, slots := 0, locals := 109 }
set_option maxHeartbeats 4000000 in
set_option maxRecDepth 100000 in
theorem c_X9_wordCode (l : Launch) (D : va_G) (Zk : yK) (ca : Nat → ClassId) (w : yW) (P1 : fP) (P3 : fP) (P4 : fP) (P5 : fP) (P6 : fP) (P7 : fP) (at9 : Nat) (it9 : Nat) (abt : Nat) (ibt : Nat) (at_ : Int) (ln : Int) (ft9 : w it9 = some (at9, xO 9 [fG 0 900, P1, fR abt, P3, P4, P5, P6, P7])) (fbt : w ibt = some (abt, xAI (ca 0) 900 (gG 900 0 255))) (hat_ : 0 ≤ at_ ∧ at_ ≤ 899) (hln : 0 ≤ ln ∧ ln ≤ 900) : yC l D Zk ca yX9_wordCode cX9_wordCode 4 (some .int) r_c_X9_wordCode [.ref at9, .int (iI at_), .int (iI ln)] w (vI w (fun z => 1 ≤ z ∧ z ≤ 229)) := by
  refine yC.of2 "WindWords$Tape" (by decide) rfl (Nat.le_of_ble_eq_true rfl) ?_
  intro p e s m args below meth c A ls Qf B hnm h hl hQ
  have hl : lv_has ls 4 [(0, .ref at9), (1, .int (iI at_)), (2, .int (iI ln))] := hl
  refine x_iconst B dX9_wordCode_0 ?_
  refine lv_istore_n (lv' := [(3, .int (iI 0)), (0, .ref at9), (1, .int (iI at_)), (2, .int (iI ln))]) B.1 B.2.1 dX9_wordCode_1 rfl hl (by decide) rfl (fun ls hl => ?_)
  have loop2 : ∀ (n2 : Nat) (k : Int), (0 ≤ k ∧ k ≤ 3) → ((3 - k : Int)).toNat < n2 → ∀ (H : Heap) (locs : List Loc) (ls : Array Slot), yH D Zk A s w H locs → lv_has ls 4 [(3, .int (iI k)), (0, .ref at9), (1, .int (iI at_)), (2, .int (iI ln))] → W p l e r_c_X9_wordCode s m args below meth c H locs 0 0 Qf (F0 m 2 ls []) := by
    intro n2
    induction n2 with
    | zero =>
      intro k hk hm2 H locs ls h hl
      exact absurd hm2 (Nat.not_lt_zero _)
    | succ n2 ih2 =>
      intro k hk hm2 H locs ls h hl
      refine lv_iload_n B.1 B.2.1 dX9_wordCode_2 rfl (lv_at hl 0 rfl) ?_
      refine x_iconst B dX9_wordCode_3 ?_
      refine x_icmp_gt B (by omega) (tgt := 32) dX9_wordCode_4 (by decide) (fun c1 => ?_) (fun c1 => ?_)
      · refine x_iconst B dX9_wordCode_32 ?_
        refine lv_istore_n (lv' := [(3, .int (iI 0)), (0, .ref at9), (1, .int (iI at_)), (2, .int (iI ln))]) B.1 B.2.1 dX9_wordCode_33 rfl hl (by decide) rfl (fun ls hl => ?_)
        have loop34 : ∀ (n34 : Nat) (k : Int), (0 ≤ k ∧ k ≤ 5) → ((5 - k : Int)).toNat < n34 → ∀ (H : Heap) (locs : List Loc) (ls : Array Slot), yH D Zk A s w H locs → lv_has ls 4 [(3, .int (iI k)), (0, .ref at9), (1, .int (iI at_)), (2, .int (iI ln))] → W p l e r_c_X9_wordCode s m args below meth c H locs 0 0 Qf (F0 m 34 ls []) := by
          intro n34
          induction n34 with
          | zero =>
            intro k hk hm34 H locs ls h hl
            exact absurd hm34 (Nat.not_lt_zero _)
          | succ n34 ih34 =>
            intro k hk hm34 H locs ls h hl
            refine lv_iload_n B.1 B.2.1 dX9_wordCode_34 rfl (lv_at hl 0 rfl) ?_
            refine x_iconst B dX9_wordCode_35 ?_
            refine x_icmp_ge B (by omega) (tgt := 64) dX9_wordCode_36 (by decide) (fun c2 => ?_) (fun c2 => ?_)
            · refine x_sipush B (by decide) dX9_wordCode_64 ?_
              refine lv_istore_n (lv' := [(3, .int (iI 220)), (0, .ref at9), (1, .int (iI at_)), (2, .int (iI ln))]) B.1 B.2.1 dX9_wordCode_67 rfl hl (by decide) rfl (fun ls hl => ?_)
              have loop68 : ∀ (n68 : Nat) (k : Int), (220 ≤ k ∧ k ≤ 230) → ((230 - k : Int)).toNat < n68 → ∀ (H : Heap) (locs : List Loc) (ls : Array Slot), yH D Zk A s w H locs → lv_has ls 4 [(3, .int (iI k)), (0, .ref at9), (1, .int (iI at_)), (2, .int (iI ln))] → W p l e r_c_X9_wordCode s m args below meth c H locs 0 0 Qf (F0 m 68 ls []) := by
                intro n68
                induction n68 with
                | zero =>
                  intro k hk hm68 H locs ls h hl
                  exact absurd hm68 (Nat.not_lt_zero _)
                | succ n68 ih68 =>
                  intro k hk hm68 H locs ls h hl
                  refine lv_iload_n B.1 B.2.1 dX9_wordCode_68 rfl (lv_at hl 0 rfl) ?_
                  refine x_sipush B (by decide) dX9_wordCode_69 ?_
                  refine x_icmp_gt B (by omega) (tgt := 96) dX9_wordCode_72 (by decide) (fun c3 => ?_) (fun c3 => ?_)
                  · refine x_iconst B dX9_wordCode_96 ?_
                    refine y_ri B hQ h (by decide) dX9_wordCode_97 ?_
                    exact ⟨rfl, _, rfl, (by first | omega | trivial | assumption)⟩
                  · refine lv_aload_n B.1 B.2.1 dX9_wordCode_75 rfl (lv_at hl 1 rfl) ?_
                    refine lv_iload_n B.1 B.2.1 dX9_wordCode_76 rfl (lv_at hl 2 rfl) ?_
                    refine lv_iload_n B.1 B.2.1 dX9_wordCode_77 rfl (lv_at hl 3 rfl) ?_
                    refine lv_iload_n B.1 B.2.1 dX9_wordCode_78 rfl (lv_at hl 0 rfl) ?_
                    refine y_cS B h k_X9_binderName (c_X9_binderName l D Zk ca _ k  (by omega)) m_673 rfl (by decide) hl.1 [.int (iI ln), .int (iI at_), .ref at9] (Nat.le_of_ble_eq_true rfl) rfl dX9_wordCode_79 (fun r w1 hq H locs h => ?_)
                    obtain ⟨rfl, i4, hi4, rfl⟩ := hq
                    show W p l e r_c_X9_wordCode s m args below meth c _ _ 0 0 Qf (F0 m 82 ls [.ref (Zk.1 i4), .int (iI ln), .int (iI at_), .ref at9])
                    refine y_cV B h kX9 it9 ft9 k_X9_isWord rfl (c_X9_isWord l D Zk ca _ P1 P3 P4 P5 P6 P7 at9 it9 abt ibt i4 at_ ln ft9 fbt (by first | assumption | decide) (by omega) (by omega)) m_613 rfl (by decide) hl.1 [] (Nat.le_of_ble_eq_true rfl) rfl dX9_wordCode_82 (fun r w1 hq H locs h => ?_)
                    obtain ⟨rfl, _, rfl, ⟨rfl, b5⟩ | ⟨rfl, b5⟩⟩ := hq
                    · show W p l e r_c_X9_wordCode s m args below meth c _ _ 0 0 Qf (F0 m 85 ls [.int (iI 1)])
                      refine x_if_eq B (by omega) (tgt := 90) dX9_wordCode_85 (by decide) (fun c6 => ?_) (fun c6 => ?_)
                      · exact absurd c6 (by omega)
                      · refine lv_iload_n B.1 B.2.1 dX9_wordCode_88 rfl (lv_at hl 0 rfl) ?_
                        refine y_ri B hQ h (by decide) dX9_wordCode_89 ?_
                        exact ⟨rfl, _, rfl, (by first | omega | trivial | assumption)⟩
                    · show W p l e r_c_X9_wordCode s m args below meth c _ _ 0 0 Qf (F0 m 85 ls [.int (iI 0)])
                      refine x_if_eq B (by omega) (tgt := 90) dX9_wordCode_85 (by decide) (fun c7 => ?_) (fun c7 => ?_)
                      · refine lv_iinc (v := iI (k + 1)) (lv' := [(3, .int (iI (k + 1))), (0, .ref at9), (1, .int (iI at_)), (2, .int (iI ln))]) B.1 B.2.1 dX9_wordCode_90 hl (k := 0) rfl (iI_add _ _) (by decide) rfl (fun ls hl => ?_)
                        refine lv_goto (tgt := 68) B.1 B.2.1 dX9_wordCode_93 (by decide) ?_
                        exact ih68 ((k + 1)) (by omega) (by omega) _ _ _ h (lv_sub hl [0, 1, 2, 3] rfl)
                      · exact absurd c7 (by omega)
              exact loop68 (((230 - 220 : Int)).toNat + 1) 220 (by omega) (Nat.lt_succ_self _) _ _ _ h (lv_sub hl [0, 1, 2, 3] rfl)
            · refine lv_aload_n B.1 B.2.1 dX9_wordCode_39 rfl (lv_at hl 1 rfl) ?_
              refine lv_iload_n B.1 B.2.1 dX9_wordCode_40 rfl (lv_at hl 2 rfl) ?_
              refine lv_iload_n B.1 B.2.1 dX9_wordCode_41 rfl (lv_at hl 3 rfl) ?_
              refine lv_iload_n B.1 B.2.1 dX9_wordCode_42 rfl (lv_at hl 0 rfl) ?_
              refine y_cS B h k_X9_askedName (c_X9_askedName l D Zk ca _ k  (by omega)) m_665 rfl (by decide) hl.1 [.int (iI ln), .int (iI at_), .ref at9] (Nat.le_of_ble_eq_true rfl) rfl dX9_wordCode_43 (fun r w1 hq H locs h => ?_)
              obtain ⟨rfl, i8, hi8, rfl⟩ := hq
              show W p l e r_c_X9_wordCode s m args below meth c _ _ 0 0 Qf (F0 m 46 ls [.ref (Zk.1 i8), .int (iI ln), .int (iI at_), .ref at9])
              refine y_cV B h kX9 it9 ft9 k_X9_isWord rfl (c_X9_isWord l D Zk ca _ P1 P3 P4 P5 P6 P7 at9 it9 abt ibt i8 at_ ln ft9 fbt (by first | assumption | decide) (by omega) (by omega)) m_613 rfl (by decide) hl.1 [] (Nat.le_of_ble_eq_true rfl) rfl dX9_wordCode_46 (fun r w1 hq H locs h => ?_)
              obtain ⟨rfl, _, rfl, ⟨rfl, b9⟩ | ⟨rfl, b9⟩⟩ := hq
              · show W p l e r_c_X9_wordCode s m args below meth c _ _ 0 0 Qf (F0 m 49 ls [.int (iI 1)])
                refine x_if_eq B (by omega) (tgt := 58) dX9_wordCode_49 (by decide) (fun c10 => ?_) (fun c10 => ?_)
                · exact absurd c10 (by omega)
                · refine x_sipush B (by decide) dX9_wordCode_52 ?_
                  refine lv_iload_n B.1 B.2.1 dX9_wordCode_55 rfl (lv_at hl 0 rfl) ?_
                  refine x_iadd B dX9_wordCode_56 ?_
                  refine y_ri B hQ h (by decide) dX9_wordCode_57 ?_
                  exact ⟨rfl, _, rfl, (by first | omega | trivial | assumption)⟩
              · show W p l e r_c_X9_wordCode s m args below meth c _ _ 0 0 Qf (F0 m 49 ls [.int (iI 0)])
                refine x_if_eq B (by omega) (tgt := 58) dX9_wordCode_49 (by decide) (fun c11 => ?_) (fun c11 => ?_)
                · refine lv_iinc (v := iI (k + 1)) (lv' := [(3, .int (iI (k + 1))), (0, .ref at9), (1, .int (iI at_)), (2, .int (iI ln))]) B.1 B.2.1 dX9_wordCode_58 hl (k := 0) rfl (iI_add _ _) (by decide) rfl (fun ls hl => ?_)
                  refine lv_goto (tgt := 34) B.1 B.2.1 dX9_wordCode_61 (by decide) ?_
                  exact ih34 ((k + 1)) (by omega) (by omega) _ _ _ h (lv_sub hl [0, 1, 2, 3] rfl)
                · exact absurd c11 (by omega)
        exact loop34 (((5 - 0 : Int)).toNat + 1) 0 (by omega) (Nat.lt_succ_self _) _ _ _ h (lv_sub hl [0, 1, 2, 3] rfl)
      · refine lv_aload_n B.1 B.2.1 dX9_wordCode_7 rfl (lv_at hl 1 rfl) ?_
        refine lv_iload_n B.1 B.2.1 dX9_wordCode_8 rfl (lv_at hl 2 rfl) ?_
        refine lv_iload_n B.1 B.2.1 dX9_wordCode_9 rfl (lv_at hl 3 rfl) ?_
        refine lv_iload_n B.1 B.2.1 dX9_wordCode_10 rfl (lv_at hl 0 rfl) ?_
        refine y_cS B h k_X9_kindName (c_X9_kindName l D Zk ca _ k  (by omega)) m_607 rfl (by decide) hl.1 [.int (iI ln), .int (iI at_), .ref at9] (Nat.le_of_ble_eq_true rfl) rfl dX9_wordCode_11 (fun r w1 hq H locs h => ?_)
        obtain ⟨rfl, i12, hi12, rfl⟩ := hq
        show W p l e r_c_X9_wordCode s m args below meth c _ _ 0 0 Qf (F0 m 14 ls [.ref (Zk.1 i12), .int (iI ln), .int (iI at_), .ref at9])
        refine y_cV B h kX9 it9 ft9 k_X9_isWord rfl (c_X9_isWord l D Zk ca _ P1 P3 P4 P5 P6 P7 at9 it9 abt ibt i12 at_ ln ft9 fbt (by first | assumption | decide) (by omega) (by omega)) m_613 rfl (by decide) hl.1 [] (Nat.le_of_ble_eq_true rfl) rfl dX9_wordCode_14 (fun r w1 hq H locs h => ?_)
        obtain ⟨rfl, _, rfl, ⟨rfl, b13⟩ | ⟨rfl, b13⟩⟩ := hq
        · show W p l e r_c_X9_wordCode s m args below meth c _ _ 0 0 Qf (F0 m 17 ls [.int (iI 1)])
          refine x_if_eq B (by omega) (tgt := 26) dX9_wordCode_17 (by decide) (fun c14 => ?_) (fun c14 => ?_)
          · exact absurd c14 (by omega)
          · refine x_sipush B (by decide) dX9_wordCode_20 ?_
            refine lv_iload_n B.1 B.2.1 dX9_wordCode_23 rfl (lv_at hl 0 rfl) ?_
            refine x_iadd B dX9_wordCode_24 ?_
            refine y_ri B hQ h (by decide) dX9_wordCode_25 ?_
            exact ⟨rfl, _, rfl, (by first | omega | trivial | assumption)⟩
        · show W p l e r_c_X9_wordCode s m args below meth c _ _ 0 0 Qf (F0 m 17 ls [.int (iI 0)])
          refine x_if_eq B (by omega) (tgt := 26) dX9_wordCode_17 (by decide) (fun c15 => ?_) (fun c15 => ?_)
          · refine lv_iinc (v := iI (k + 1)) (lv' := [(3, .int (iI (k + 1))), (0, .ref at9), (1, .int (iI at_)), (2, .int (iI ln))]) B.1 B.2.1 dX9_wordCode_26 hl (k := 0) rfl (iI_add _ _) (by decide) rfl (fun ls hl => ?_)
            refine lv_goto (tgt := 2) B.1 B.2.1 dX9_wordCode_29 (by decide) ?_
            exact ih2 ((k + 1)) (by omega) (by omega) _ _ _ h (lv_sub hl [0, 1, 2, 3] rfl)
          · exact absurd c15 (by omega)
  exact loop2 (((3 - 0 : Int)).toNat + 1) 0 (by omega) (Nat.lt_succ_self _) _ _ _ h (lv_sub hl [0, 1, 2, 3] rfl)
abbrev r_c_X9_take : Room := { frames := 6, cells := 0, slots := 0, locals := 132 }
set_option maxHeartbeats 4000000 in
set_option maxRecDepth 100000 in
theorem c_X9_take (l : Launch) (D : va_G) (Zk : yK) (ca : Nat → ClassId) (T : Nat → Int → Int) (G : Nat → Int → Nat) (u : Int) (ad : Nat → Nat) (w : yW) (hC : CW ca T G u ad w) (at_ : Int) (en : Int)  (hae : at_ < en) (hat_ : 0 ≤ at_ ∧ at_ ≤ 899) (hen : 1 ≤ en ∧ en ≤ 900) : yC l D Zk ca yX9_take cX9_take 5 (some .int) r_c_X9_take [.ref (ad 20), .int (iI at_), .int (iI en)] w (vI w (fun z => 0 ≤ z ∧ z ≤ 900)) := by
  refine yC.of2 "WindWords$Tape" (by decide) rfl (Nat.le_of_ble_eq_true rfl) ?_
  intro p e s m args below meth c A ls Qf B hnm h hl hQ
  have hl : lv_has ls 5 [(0, .ref (ad 20)), (1, .int (iI at_)), (2, .int (iI en))] := hl
  have hs := pi_s (CW.pi hC)
  refine lv_aload_n B.1 B.2.1 dX9_take_0 rfl (lv_at hl 0 rfl) ?_
  obtain ⟨z1, z1a, z1b, h⟩ := yH.pin h (CW.f hC 20 _ rfl) 1 (lo := 0) (hi := 900) rfl
  have h : yH D Zk A s ((wu w 20 (ad 20, xO 9 [fG 0 900, fX z1, fR (ad 21), fR (ad 22), fR (ad 23), fR (ad 24), fR (ad 25), fG 0 900]))) _ _ := h
  refine y_getX B h kX9 20 wu_eq 1 (z := z1) rfl m_290 (by decide) dX9_take_1 ?_
  refine x_sipush B (by decide) dX9_take_4 ?_
  refine x_icmp_lt B (by omega) (tgt := 12) dX9_take_7 (by decide) (fun c2 => ?_) (fun c2 => ?_)
  · have join189 : ∀ (bh : Int) (nu : Int), (at_ + 1 ≤ bh ∧ bh ≤ en) → (0 ≤ nu ∧ nu ≤ 100000) → ∀ (H : Heap) (locs : List Loc) (ls : Array Slot), yH D Zk A s ((wu w 20 (ad 20, xO 9 [fG 0 900, fX z1, fR (ad 21), fR (ad 22), fR (ad 23), fR (ad 24), fR (ad 25), fG 0 900]))) H locs → lv_has ls 5 [(3, .int (iI bh)), (4, .int (iI nu)), (0, .ref (ad 20)), (1, .int (iI at_))] → W p l e r_c_X9_take s m args below meth c H locs 0 0 Qf (F0 m 189 ls []) := by
      intro bh nu h1 h2 H locs ls h hl
      refine lv_aload_n B.1 B.2.1 dX9_take_189 rfl (lv_at hl 2 rfl) ?_
      refine y_getR B h kX9 20 wu_eq 4 (b := ad 23) rfl m_295 (by decide) dX9_take_190 ?_
      refine lv_aload_n B.1 B.2.1 dX9_take_193 rfl (lv_at hl 2 rfl) ?_
      refine y_getX B h kX9 20 wu_eq 1 (z := z1) rfl m_290 (by decide) dX9_take_194 ?_
      refine lv_iload_n B.1 B.2.1 dX9_take_197 rfl (lv_at hl 3 rfl) ?_
      refine y_iastS B h 23 (wu_at (CW.f hC 23 _ rfl) (by decide)) (by omega) (fun _ _ => trivial) dX9_take_198 (fun H locs h => ?_)
      refine lv_aload_n B.1 B.2.1 dX9_take_199 rfl (lv_at hl 2 rfl) ?_
      refine y_getR B h kX9 20 wu_eq 5 (b := ad 24) rfl m_296 (by decide) dX9_take_200 ?_
      refine lv_aload_n B.1 B.2.1 dX9_take_203 rfl (lv_at hl 2 rfl) ?_
      refine y_getX B h kX9 20 wu_eq 1 (z := z1) rfl m_290 (by decide) dX9_take_204 ?_
      refine lv_iload_n B.1 B.2.1 dX9_take_207 rfl (lv_at hl 0 rfl) ?_
      refine lv_iload_n B.1 B.2.1 dX9_take_208 rfl (lv_at hl 3 rfl) ?_
      refine x_isub B dX9_take_209 ?_
      refine y_iastS B h 24 (wu_at (CW.f hC 24 _ rfl) (by decide)) (by omega) (fun _ _ => trivial) dX9_take_210 (fun H locs h => ?_)
      refine lv_aload_n B.1 B.2.1 dX9_take_211 rfl (lv_at hl 2 rfl) ?_
      refine y_getR B h kX9 20 wu_eq 6 (b := ad 25) rfl m_297 (by decide) dX9_take_212 ?_
      refine lv_aload_n B.1 B.2.1 dX9_take_215 rfl (lv_at hl 2 rfl) ?_
      refine y_getX B h kX9 20 wu_eq 1 (z := z1) rfl m_290 (by decide) dX9_take_216 ?_
      refine lv_iload B.1 B.2.1 dX9_take_219 (lv_at hl 1 rfl) ?_
      refine y_iastS B h 25 (wu_at (CW.f hC 25 _ rfl) (by decide)) (by omega) (gG_upd (by omega)) dX9_take_221 (fun H locs h => ?_)
      refine lv_aload_n B.1 B.2.1 dX9_take_222 rfl (lv_at hl 2 rfl) ?_
      refine lv_dup B.1 B.2.1 dX9_take_223 rfl ?_
      refine y_getX B h kX9 20 wu_eq 1 (z := z1) rfl m_290 (by decide) dX9_take_224 ?_
      refine x_iconst B dX9_take_227 ?_
      refine x_iadd B dX9_take_228 ?_
      refine y_put B h kX9 20 wu_eq 1 (Nat.le_of_ble_eq_true rfl) (P' := fX (z1 + 1)) m_290 (by decide) rfl rfl rfl rfl dX9_take_229 (fun H locs h => ?_)
      rw [wu_wu] at h
      have h : yH D Zk A s ((wu w 20 (ad 20, xO 9 [fG 0 900, fX (z1 + 1), fR (ad 21), fR (ad 22), fR (ad 23), fR (ad 24), fR (ad 25), fG 0 900]))) _ _ := h
      refine lv_iload_n B.1 B.2.1 dX9_take_232 rfl (lv_at hl 0 rfl) ?_
      have h : yH D Zk A s w _ _ := yH.unpin h (CW.f hC 20 _ rfl) (xO_le (fLe_cons (fun _ x => x) (fLe_cons (fX_G (by omega)) (fLe_cons (fun _ x => x) (fLe_cons (fun _ x => x) (fLe_cons (fun _ x => x) (fLe_cons (fun _ x => x) (fLe_cons (fun _ x => x) (fLe_cons (fun _ x => x) fLe_nil)))))))))
      refine y_ri B hQ h (by decide) dX9_take_233 ?_
      exact ⟨rfl, _, rfl, (by first | omega | trivial | assumption)⟩
    refine lv_iload_n B.1 B.2.1 dX9_take_12 rfl (lv_at hl 1 rfl) ?_
    refine x_iconst B dX9_take_13 ?_
    refine x_iadd B dX9_take_14 ?_
    refine lv_istore_n (lv' := [(3, .int (iI (at_ + 1))), (0, .ref (ad 20)), (1, .int (iI at_)), (2, .int (iI en))]) B.1 B.2.1 dX9_take_15 rfl hl (by decide) rfl (fun ls hl => ?_)
    refine x_iconst B dX9_take_16 ?_
    refine lv_istore (lv' := [(4, .int (iI 0)), (3, .int (iI (at_ + 1))), (0, .ref (ad 20)), (1, .int (iI at_)), (2, .int (iI en))]) B.1 B.2.1 dX9_take_17 hl (by decide) rfl (fun ls hl => ?_)
    refine lv_aload_n B.1 B.2.1 dX9_take_19 rfl (lv_at hl 2 rfl) ?_
    refine y_getR B h kX9 20 wu_eq 2 (b := ad 21) rfl m_292 (by decide) dX9_take_20 ?_
    refine lv_iload_n B.1 B.2.1 dX9_take_23 rfl (lv_at hl 3 rfl) ?_
    obtain ⟨g3, hg3, h⟩ := yH.pinG h (wu_at (CW.f hC 21 _ rfl) (by decide))
    have h : yH D Zk A s ((wu (wu w 20 (ad 20, xO 9 [fG 0 900, fX z1, fR (ad 21), fR (ad 22), fR (ad 23), fR (ad 24), fR (ad 25), fG 0 900])) 21 (ad 21, xAI (ca 0) 900 (gX 900 g3)))) _ _ := h
    have gb4 := hg3 (at_).toNat (by omega)
    refine y_ialdX B h 21 wu_eq (by omega) dX9_take_24 ?_
    refine y_cS B h k_X9_isDigit (c_X9_isDigit l D Zk ca _ ((g3 (at_).toNat))  (by omega)) m_596 rfl (by decide) hl.1 [] (Nat.le_of_ble_eq_true rfl) rfl dX9_take_25 (fun r w1 hq H locs h => ?_)
    obtain ⟨rfl, _, rfl, ⟨rfl, b5⟩ | ⟨rfl, b5⟩⟩ := hq
    · show W p l e r_c_X9_take s m args below meth c _ _ 0 0 Qf (F0 m 28 ls [.int (iI 1)])
      refine x_if_eq B (by omega) (tgt := 100) dX9_take_28 (by decide) (fun c6 => ?_) (fun c6 => ?_)
      · exact absurd c6 (by omega)
      · refine lv_aload_n B.1 B.2.1 dX9_take_31 rfl (lv_at hl 2 rfl) ?_
        refine y_getR B h kX9 20 (wu_at wu_eq (by decide)) 2 (b := ad 21) rfl m_292 (by decide) dX9_take_32 ?_
        refine lv_iload_n B.1 B.2.1 dX9_take_35 rfl (lv_at hl 3 rfl) ?_
        have gb7 := hg3 (at_).toNat (by omega)
        refine y_ialdX B h 21 wu_eq (by omega) dX9_take_36 ?_
        refine x_bipush B (by decide) dX9_take_37 ?_
        refine x_isub B dX9_take_39 ?_
        refine lv_istore (lv' := [(4, .int (iI ((g3 (at_).toNat) - 48))), (3, .int (iI (at_ + 1))), (0, .ref (ad 20)), (1, .int (iI at_)), (2, .int (iI en))]) B.1 B.2.1 dX9_take_40 hl (by decide) rfl (fun ls hl => ?_)
        have h : yH D Zk A s ((wu w 20 (ad 20, xO 9 [fG 0 900, fX z1, fR (ad 21), fR (ad 22), fR (ad 23), fR (ad 24), fR (ad 25), fG 0 900]))) _ _ := yH.unpin h (wu_at (CW.f hC 21 _ rfl) (by decide)) (xAI_XG hg3)
        have loop42 : ∀ (n42 : Nat) (bh : Int) (nu : Int), (at_ + 1 ≤ bh ∧ bh ≤ en) → (0 ≤ nu ∧ nu ≤ 100000) → ((en - bh : Int)).toNat < n42 → ∀ (H : Heap) (locs : List Loc) (ls : Array Slot), yH D Zk A s ((wu w 20 (ad 20, xO 9 [fG 0 900, fX z1, fR (ad 21), fR (ad 22), fR (ad 23), fR (ad 24), fR (ad 25), fG 0 900]))) H locs → lv_has ls 5 [(4, .int (iI nu)), (3, .int (iI bh)), (0, .ref (ad 20)), (1, .int (iI at_)), (2, .int (iI en))] → W p l e r_c_X9_take s m args below meth c H locs 0 0 Qf (F0 m 42 ls []) := by
          intro n42
          induction n42 with
          | zero =>
            intro bh nu h1 h2 hm42 H locs ls h hl
            exact absurd hm42 (Nat.not_lt_zero _)
          | succ n42 ih42 =>
            intro bh nu h1 h2 hm42 H locs ls h hl
            refine lv_iload_n B.1 B.2.1 dX9_take_42 rfl (lv_at hl 1 rfl) ?_
            refine lv_iload_n B.1 B.2.1 dX9_take_43 rfl (lv_at hl 4 rfl) ?_
            refine x_icmp_ge B (by omega) (tgt := 87) dX9_take_44 (by decide) (fun c8 => ?_) (fun c8 => ?_)
            · refine lv_aload_n B.1 B.2.1 dX9_take_87 rfl (lv_at hl 2 rfl) ?_
              refine y_getR B h kX9 20 wu_eq 3 (b := ad 22) rfl m_293 (by decide) dX9_take_88 ?_
              refine lv_aload_n B.1 B.2.1 dX9_take_91 rfl (lv_at hl 2 rfl) ?_
              refine y_getX B h kX9 20 wu_eq 1 (z := z1) rfl m_290 (by decide) dX9_take_92 ?_
              refine x_iconst B dX9_take_95 ?_
              refine y_iastS B h 22 (wu_at (CW.f hC 22 _ rfl) (by decide)) (by omega) (gG_upd (by omega)) dX9_take_96 (fun H locs h => ?_)
              refine lv_goto (tgt := 189) B.1 B.2.1 dX9_take_97 (by decide) ?_
              exact join189 bh nu (by omega) (by omega) _ _ _ h (lv_sub hl [1, 0, 2, 3] rfl)
            · refine lv_aload_n B.1 B.2.1 dX9_take_47 rfl (lv_at hl 2 rfl) ?_
              refine y_getR B h kX9 20 wu_eq 2 (b := ad 21) rfl m_292 (by decide) dX9_take_48 ?_
              refine lv_iload_n B.1 B.2.1 dX9_take_51 rfl (lv_at hl 1 rfl) ?_
              obtain ⟨g9, hg9, h⟩ := yH.pinG h (wu_at (CW.f hC 21 _ rfl) (by decide))
              have h : yH D Zk A s ((wu (wu w 20 (ad 20, xO 9 [fG 0 900, fX z1, fR (ad 21), fR (ad 22), fR (ad 23), fR (ad 24), fR (ad 25), fG 0 900])) 21 (ad 21, xAI (ca 0) 900 (gX 900 g9)))) _ _ := h
              have gb10 := hg9 (bh).toNat (by omega)
              refine y_ialdX B h 21 wu_eq (by omega) dX9_take_52 ?_
              refine y_cS B h k_X9_isDigit (c_X9_isDigit l D Zk ca _ ((g9 (bh).toNat))  (by omega)) m_596 rfl (by decide) hl.1 [] (Nat.le_of_ble_eq_true rfl) rfl dX9_take_53 (fun r w1 hq H locs h => ?_)
              obtain ⟨rfl, _, rfl, ⟨rfl, b11⟩ | ⟨rfl, b11⟩⟩ := hq
              · show W p l e r_c_X9_take s m args below meth c _ _ 0 0 Qf (F0 m 56 ls [.int (iI 1)])
                refine x_if_eq B (by omega) (tgt := 87) dX9_take_56 (by decide) (fun c12 => ?_) (fun c12 => ?_)
                · exact absurd c12 (by omega)
                · refine x_ldc B (z := 100000) m_599 (by decide) dX9_take_59 ?_
                  refine x_bipush B (by decide) dX9_take_61 ?_
                  refine lv_iload B.1 B.2.1 dX9_take_63 (lv_at hl 0 rfl) ?_
                  refine x_imul B dX9_take_65 ?_
                  refine lv_aload_n B.1 B.2.1 dX9_take_66 rfl (lv_at hl 2 rfl) ?_
                  refine y_getR B h kX9 20 (wu_at wu_eq (by decide)) 2 (b := ad 21) rfl m_292 (by decide) dX9_take_67 ?_
                  refine lv_iload_n B.1 B.2.1 dX9_take_70 rfl (lv_at hl 1 rfl) ?_
                  have gb13 := hg9 (bh).toNat (by omega)
                  refine y_ialdX B h 21 wu_eq (by omega) dX9_take_71 ?_
                  refine x_iadd B dX9_take_72 ?_
                  refine x_bipush B (by decide) dX9_take_73 ?_
                  refine x_isub B dX9_take_75 ?_
                  refine x_min B (by omega) m_585 m_586 m_106 m_587 hl.1 (Nat.le_of_ble_eq_true rfl) (by decide) dX9_take_76 ?_
                  refine lv_istore (lv' := [(4, .int (iI (min 100000 (((10 * nu) + (g9 (bh).toNat)) - 48)))), (3, .int (iI bh)), (0, .ref (ad 20)), (1, .int (iI at_)), (2, .int (iI en))]) B.1 B.2.1 dX9_take_79 hl (by decide) rfl (fun ls hl => ?_)
                  refine lv_iinc (v := iI (bh + 1)) (lv' := [(3, .int (iI (bh + 1))), (4, .int (iI (min 100000 (((10 * nu) + (g9 (bh).toNat)) - 48)))), (0, .ref (ad 20)), (1, .int (iI at_)), (2, .int (iI en))]) B.1 B.2.1 dX9_take_81 hl (k := 1) rfl (iI_add _ _) (by decide) rfl (fun ls hl => ?_)
                  refine lv_goto (tgt := 42) B.1 B.2.1 dX9_take_84 (by decide) ?_
                  have h : yH D Zk A s ((wu w 20 (ad 20, xO 9 [fG 0 900, fX z1, fR (ad 21), fR (ad 22), fR (ad 23), fR (ad 24), fR (ad 25), fG 0 900]))) _ _ := yH.unpin h (wu_at (CW.f hC 21 _ rfl) (by decide)) (xAI_XG hg9)
                  exact ih42 ((bh + 1)) ((min 100000 (((10 * nu) + (g9 (bh).toNat)) - 48))) (by omega) (by omega) (by omega) _ _ _ h (lv_sub hl [1, 0, 2, 3, 4] rfl)
              · show W p l e r_c_X9_take s m args below meth c _ _ 0 0 Qf (F0 m 56 ls [.int (iI 0)])
                refine x_if_eq B (by omega) (tgt := 87) dX9_take_56 (by decide) (fun c14 => ?_) (fun c14 => ?_)
                · refine lv_aload_n B.1 B.2.1 dX9_take_87 rfl (lv_at hl 2 rfl) ?_
                  refine y_getR B h kX9 20 (wu_at wu_eq (by decide)) 3 (b := ad 22) rfl m_293 (by decide) dX9_take_88 ?_
                  refine lv_aload_n B.1 B.2.1 dX9_take_91 rfl (lv_at hl 2 rfl) ?_
                  refine y_getX B h kX9 20 (wu_at wu_eq (by decide)) 1 (z := z1) rfl m_290 (by decide) dX9_take_92 ?_
                  refine x_iconst B dX9_take_95 ?_
                  refine y_iastS B h 22 (wu_at (wu_at (CW.f hC 22 _ rfl) (by decide)) (by decide)) (by omega) (gG_upd (by omega)) dX9_take_96 (fun H locs h => ?_)
                  refine lv_goto (tgt := 189) B.1 B.2.1 dX9_take_97 (by decide) ?_
                  have h : yH D Zk A s ((wu w 20 (ad 20, xO 9 [fG 0 900, fX z1, fR (ad 21), fR (ad 22), fR (ad 23), fR (ad 24), fR (ad 25), fG 0 900]))) _ _ := yH.unpin h (wu_at (CW.f hC 21 _ rfl) (by decide)) (xAI_XG hg9)
                  exact join189 bh nu (by omega) (by omega) _ _ _ h (lv_sub hl [1, 0, 2, 3] rfl)
                · exact absurd c14 (by omega)
        exact loop42 (((en - ((at_ + 1)) : Int)).toNat + 1) ((at_ + 1)) (((g3 (at_).toNat) - 48)) (by omega) (by omega) (Nat.lt_succ_self _) _ _ _ h (lv_sub hl [0, 1, 2, 3, 4] rfl)
    · show W p l e r_c_X9_take s m args below meth c _ _ 0 0 Qf (F0 m 28 ls [.int (iI 0)])
      refine x_if_eq B (by omega) (tgt := 100) dX9_take_28 (by decide) (fun c15 => ?_) (fun c15 => ?_)
      · refine lv_aload_n B.1 B.2.1 dX9_take_100 rfl (lv_at hl 2 rfl) ?_
        refine y_getR B h kX9 20 (wu_at wu_eq (by decide)) 2 (b := ad 21) rfl m_292 (by decide) dX9_take_101 ?_
        refine lv_iload_n B.1 B.2.1 dX9_take_104 rfl (lv_at hl 3 rfl) ?_
        have gb16 := hg3 (at_).toNat (by omega)
        refine y_ialdX B h 21 wu_eq (by omega) dX9_take_105 ?_
        refine y_cS B h k_X9_isLetter (c_X9_isLetter l D Zk ca _ ((g3 (at_).toNat))  (by omega)) m_600 rfl (by decide) hl.1 [] (Nat.le_of_ble_eq_true rfl) rfl dX9_take_106 (fun r w1 hq H locs h => ?_)
        obtain ⟨rfl, _, rfl, ⟨rfl, b17⟩ | ⟨rfl, b17⟩⟩ := hq
        · show W p l e r_c_X9_take s m args below meth c _ _ 0 0 Qf (F0 m 109 ls [.int (iI 1)])
          refine x_if_eq B (by omega) (tgt := 155) dX9_take_109 (by decide) (fun c18 => ?_) (fun c18 => ?_)
          · exact absurd c18 (by omega)
          · have h : yH D Zk A s ((wu w 20 (ad 20, xO 9 [fG 0 900, fX z1, fR (ad 21), fR (ad 22), fR (ad 23), fR (ad 24), fR (ad 25), fG 0 900]))) _ _ := yH.unpin h (wu_at (CW.f hC 21 _ rfl) (by decide)) (xAI_XG hg3)
            have loop112 : ∀ (n112 : Nat) (bh : Int), (at_ + 1 ≤ bh ∧ bh ≤ en) → ((en - bh : Int)).toNat < n112 → ∀ (H : Heap) (locs : List Loc) (ls : Array Slot), yH D Zk A s ((wu w 20 (ad 20, xO 9 [fG 0 900, fX z1, fR (ad 21), fR (ad 22), fR (ad 23), fR (ad 24), fR (ad 25), fG 0 900]))) H locs → lv_has ls 5 [(4, .int (iI 0)), (3, .int (iI bh)), (0, .ref (ad 20)), (1, .int (iI at_)), (2, .int (iI en))] → W p l e r_c_X9_take s m args below meth c H locs 0 0 Qf (F0 m 112 ls []) := by
              intro n112
              induction n112 with
              | zero =>
                intro bh h1 hm112 H locs ls h hl
                exact absurd hm112 (Nat.not_lt_zero _)
              | succ n112 ih112 =>
                intro bh h1 hm112 H locs ls h hl
                refine lv_iload_n B.1 B.2.1 dX9_take_112 rfl (lv_at hl 1 rfl) ?_
                refine lv_iload_n B.1 B.2.1 dX9_take_113 rfl (lv_at hl 4 rfl) ?_
                refine x_icmp_ge B (by omega) (tgt := 135) dX9_take_114 (by decide) (fun c19 => ?_) (fun c19 => ?_)
                · refine lv_aload_n B.1 B.2.1 dX9_take_135 rfl (lv_at hl 2 rfl) ?_
                  refine y_getR B h kX9 20 wu_eq 3 (b := ad 22) rfl m_293 (by decide) dX9_take_136 ?_
                  refine lv_aload_n B.1 B.2.1 dX9_take_139 rfl (lv_at hl 2 rfl) ?_
                  refine y_getX B h kX9 20 wu_eq 1 (z := z1) rfl m_290 (by decide) dX9_take_140 ?_
                  refine lv_aload_n B.1 B.2.1 dX9_take_143 rfl (lv_at hl 2 rfl) ?_
                  refine lv_iload_n B.1 B.2.1 dX9_take_144 rfl (lv_at hl 3 rfl) ?_
                  refine lv_iload_n B.1 B.2.1 dX9_take_145 rfl (lv_at hl 1 rfl) ?_
                  refine lv_iload_n B.1 B.2.1 dX9_take_146 rfl (lv_at hl 3 rfl) ?_
                  refine x_isub B dX9_take_147 ?_
                  refine y_cV B h kX9 20 wu_eq k_X9_wordCode rfl (c_X9_wordCode l D Zk ca _ (fX z1) (fR (ad 22)) (fR (ad 23)) (fR (ad 24)) (fR (ad 25)) (fG 0 900) (ad 20) 20 (ad 21) 21 at_ ((bh - at_)) wu_eq (wu_at (CW.f hC 21 _ rfl) (by decide)) (by omega) (by omega)) m_603 rfl (by decide) hl.1 [.int (iI z1), .ref (ad 22)] (Nat.le_of_ble_eq_true rfl) rfl dX9_take_148 (fun r w1 hq H locs h => ?_)
                  obtain ⟨rfl, z20, rfl, hz20⟩ := hq
                  show W p l e r_c_X9_take s m args below meth c _ _ 0 0 Qf (F0 m 151 ls [.int (iI z20), .int (iI z1), .ref (ad 22)])
                  refine y_iastS B h 22 (wu_at (CW.f hC 22 _ rfl) (by decide)) (by omega) (gG_upd (by omega)) dX9_take_151 (fun H locs h => ?_)
                  refine lv_goto (tgt := 189) B.1 B.2.1 dX9_take_152 (by decide) ?_
                  exact join189 bh 0 (by omega) (by omega) _ _ _ h (lv_sub hl [1, 0, 2, 3] rfl)
                · refine lv_aload_n B.1 B.2.1 dX9_take_117 rfl (lv_at hl 2 rfl) ?_
                  refine y_getR B h kX9 20 wu_eq 2 (b := ad 21) rfl m_292 (by decide) dX9_take_118 ?_
                  refine lv_iload_n B.1 B.2.1 dX9_take_121 rfl (lv_at hl 1 rfl) ?_
                  obtain ⟨g21, hg21, h⟩ := yH.pinG h (wu_at (CW.f hC 21 _ rfl) (by decide))
                  have h : yH D Zk A s ((wu (wu w 20 (ad 20, xO 9 [fG 0 900, fX z1, fR (ad 21), fR (ad 22), fR (ad 23), fR (ad 24), fR (ad 25), fG 0 900])) 21 (ad 21, xAI (ca 0) 900 (gX 900 g21)))) _ _ := h
                  have gb22 := hg21 (bh).toNat (by omega)
                  refine y_ialdX B h 21 wu_eq (by omega) dX9_take_122 ?_
                  refine y_cS B h k_X9_isLetter (c_X9_isLetter l D Zk ca _ ((g21 (bh).toNat))  (by omega)) m_600 rfl (by decide) hl.1 [] (Nat.le_of_ble_eq_true rfl) rfl dX9_take_123 (fun r w1 hq H locs h => ?_)
                  obtain ⟨rfl, _, rfl, ⟨rfl, b23⟩ | ⟨rfl, b23⟩⟩ := hq
                  · show W p l e r_c_X9_take s m args below meth c _ _ 0 0 Qf (F0 m 126 ls [.int (iI 1)])
                    refine x_if_eq B (by omega) (tgt := 135) dX9_take_126 (by decide) (fun c24 => ?_) (fun c24 => ?_)
                    · exact absurd c24 (by omega)
                    · refine lv_iinc (v := iI (bh + 1)) (lv' := [(3, .int (iI (bh + 1))), (4, .int (iI 0)), (0, .ref (ad 20)), (1, .int (iI at_)), (2, .int (iI en))]) B.1 B.2.1 dX9_take_129 hl (k := 1) rfl (iI_add _ _) (by decide) rfl (fun ls hl => ?_)
                      refine lv_goto (tgt := 112) B.1 B.2.1 dX9_take_132 (by decide) ?_
                      have h : yH D Zk A s ((wu w 20 (ad 20, xO 9 [fG 0 900, fX z1, fR (ad 21), fR (ad 22), fR (ad 23), fR (ad 24), fR (ad 25), fG 0 900]))) _ _ := yH.unpin h (wu_at (CW.f hC 21 _ rfl) (by decide)) (xAI_XG hg21)
                      exact ih112 ((bh + 1)) (by omega) (by omega) _ _ _ h (lv_sub hl [1, 0, 2, 3, 4] rfl)
                  · show W p l e r_c_X9_take s m args below meth c _ _ 0 0 Qf (F0 m 126 ls [.int (iI 0)])
                    refine x_if_eq B (by omega) (tgt := 135) dX9_take_126 (by decide) (fun c25 => ?_) (fun c25 => ?_)
                    · refine lv_aload_n B.1 B.2.1 dX9_take_135 rfl (lv_at hl 2 rfl) ?_
                      refine y_getR B h kX9 20 (wu_at wu_eq (by decide)) 3 (b := ad 22) rfl m_293 (by decide) dX9_take_136 ?_
                      refine lv_aload_n B.1 B.2.1 dX9_take_139 rfl (lv_at hl 2 rfl) ?_
                      refine y_getX B h kX9 20 (wu_at wu_eq (by decide)) 1 (z := z1) rfl m_290 (by decide) dX9_take_140 ?_
                      refine lv_aload_n B.1 B.2.1 dX9_take_143 rfl (lv_at hl 2 rfl) ?_
                      refine lv_iload_n B.1 B.2.1 dX9_take_144 rfl (lv_at hl 3 rfl) ?_
                      refine lv_iload_n B.1 B.2.1 dX9_take_145 rfl (lv_at hl 1 rfl) ?_
                      refine lv_iload_n B.1 B.2.1 dX9_take_146 rfl (lv_at hl 3 rfl) ?_
                      refine x_isub B dX9_take_147 ?_
                      have h : yH D Zk A s ((wu w 20 (ad 20, xO 9 [fG 0 900, fX z1, fR (ad 21), fR (ad 22), fR (ad 23), fR (ad 24), fR (ad 25), fG 0 900]))) _ _ := yH.unpin h (wu_at (CW.f hC 21 _ rfl) (by decide)) (xAI_XG hg21)
                      refine y_cV B h kX9 20 wu_eq k_X9_wordCode rfl (c_X9_wordCode l D Zk ca _ (fX z1) (fR (ad 22)) (fR (ad 23)) (fR (ad 24)) (fR (ad 25)) (fG 0 900) (ad 20) 20 (ad 21) 21 at_ ((bh - at_)) wu_eq (wu_at (CW.f hC 21 _ rfl) (by decide)) (by omega) (by omega)) m_603 rfl (by decide) hl.1 [.int (iI z1), .ref (ad 22)] (Nat.le_of_ble_eq_true rfl) rfl dX9_take_148 (fun r w1 hq H locs h => ?_)
                      obtain ⟨rfl, z26, rfl, hz26⟩ := hq
                      show W p l e r_c_X9_take s m args below meth c _ _ 0 0 Qf (F0 m 151 ls [.int (iI z26), .int (iI z1), .ref (ad 22)])
                      refine y_iastS B h 22 (wu_at (CW.f hC 22 _ rfl) (by decide)) (by omega) (gG_upd (by omega)) dX9_take_151 (fun H locs h => ?_)
                      refine lv_goto (tgt := 189) B.1 B.2.1 dX9_take_152 (by decide) ?_
                      exact join189 bh 0 (by omega) (by omega) _ _ _ h (lv_sub hl [1, 0, 2, 3] rfl)
                    · exact absurd c25 (by omega)
            exact loop112 (((en - ((at_ + 1)) : Int)).toNat + 1) ((at_ + 1)) (by omega) (Nat.lt_succ_self _) _ _ _ h (lv_sub hl [0, 1, 2, 3, 4] rfl)
        · show W p l e r_c_X9_take s m args below meth c _ _ 0 0 Qf (F0 m 109 ls [.int (iI 0)])
          refine x_if_eq B (by omega) (tgt := 155) dX9_take_109 (by decide) (fun c27 => ?_) (fun c27 => ?_)
          · refine lv_aload_n B.1 B.2.1 dX9_take_155 rfl (lv_at hl 2 rfl) ?_
            refine y_getR B h kX9 20 (wu_at wu_eq (by decide)) 3 (b := ad 22) rfl m_293 (by decide) dX9_take_156 ?_
            refine lv_aload_n B.1 B.2.1 dX9_take_159 rfl (lv_at hl 2 rfl) ?_
            refine y_getX B h kX9 20 (wu_at wu_eq (by decide)) 1 (z := z1) rfl m_290 (by decide) dX9_take_160 ?_
            refine y_sLdc B h 18 (by decide) rfl dX9_take_163 ?_
            refine lv_aload_n B.1 B.2.1 dX9_take_165 rfl (lv_at hl 2 rfl) ?_
            refine y_getR B h kX9 20 (wu_at wu_eq (by decide)) 2 (b := ad 21) rfl m_292 (by decide) dX9_take_166 ?_
            refine lv_iload_n B.1 B.2.1 dX9_take_169 rfl (lv_at hl 3 rfl) ?_
            have gb28 := hg3 (at_).toNat (by omega)
            refine y_ialdX B h 21 wu_eq (by omega) dX9_take_170 ?_
            refine lv_i2c B.1 B.2.1 dX9_take_171 rfl ?_
            refine x_name (fun z29 hz29 ez29 => ?_)
            refine y_cVS B h (y_sCell h (by first | assumption | decide)) k_J0_indexOf_0f7a4 rfl (c_J0_indexOf_0f7a4 l D Zk ca _ 18 z29  (by first | assumption | decide) (by omega)) m_687 rfl (by decide) hl.1 [.int (iI z1), .ref (ad 22)] (Nat.le_of_ble_eq_true rfl) rfl dX9_take_172 (fun r w1 hq H locs h => ?_)
            obtain ⟨rfl, z30, rfl, hz30⟩ := hq
            show W p l e r_c_X9_take s m args below meth c _ _ 0 0 Qf (F0 m 175 ls [.int (iI z30), .int (iI z1), .ref (ad 22)])
            refine x_if_lt B (by omega) (tgt := 187) dX9_take_175 (by decide) (fun c31 => ?_) (fun c31 => ?_)
            · refine x_iconst B dX9_take_187 ?_
              refine y_iastS B h 22 (wu_at (wu_at (CW.f hC 22 _ rfl) (by decide)) (by decide)) (by omega) (gG_upd (by omega)) dX9_take_188 (fun H locs h => ?_)
              have h : yH D Zk A s ((wu w 20 (ad 20, xO 9 [fG 0 900, fX z1, fR (ad 21), fR (ad 22), fR (ad 23), fR (ad 24), fR (ad 25), fG 0 900]))) _ _ := yH.unpin h (wu_at (CW.f hC 21 _ rfl) (by decide)) (xAI_XG hg3)
              exact join189 ((at_ + 1)) 0 (by omega) (by omega) _ _ _ h (lv_sub hl [1, 0, 2, 3] rfl)
            · refine lv_aload_n B.1 B.2.1 dX9_take_178 rfl (lv_at hl 2 rfl) ?_
              refine y_getR B h kX9 20 (wu_at wu_eq (by decide)) 2 (b := ad 21) rfl m_292 (by decide) dX9_take_179 ?_
              refine lv_iload_n B.1 B.2.1 dX9_take_182 rfl (lv_at hl 3 rfl) ?_
              have gb32 := hg3 (at_).toNat (by omega)
              refine y_ialdX B h 21 wu_eq (by omega) dX9_take_183 ?_
              refine lv_goto (tgt := 188) B.1 B.2.1 dX9_take_184 (by decide) ?_
              refine y_iastS B h 22 (wu_at (wu_at (CW.f hC 22 _ rfl) (by decide)) (by decide)) (by omega) (gG_upd (by omega)) dX9_take_188 (fun H locs h => ?_)
              have h : yH D Zk A s ((wu w 20 (ad 20, xO 9 [fG 0 900, fX z1, fR (ad 21), fR (ad 22), fR (ad 23), fR (ad 24), fR (ad 25), fG 0 900]))) _ _ := yH.unpin h (wu_at (CW.f hC 21 _ rfl) (by decide)) (xAI_XG hg3)
              exact join189 ((at_ + 1)) 0 (by omega) (by omega) _ _ _ h (lv_sub hl [1, 0, 2, 3] rfl)
          · exact absurd c27 (by omega)
      · exact absurd c15 (by omega)
  · refine lv_iload_n B.1 B.2.1 dX9_take_10 rfl (lv_at hl 2 rfl) ?_
    have h : yH D Zk A s w _ _ := yH.unpin h (CW.f hC 20 _ rfl) (xO_le (fLe_cons (fun _ x => x) (fLe_cons (fX_G (by omega)) (fLe_cons (fun _ x => x) (fLe_cons (fun _ x => x) (fLe_cons (fun _ x => x) (fLe_cons (fun _ x => x) (fLe_cons (fun _ x => x) (fLe_cons (fun _ x => x) fLe_nil)))))))))
    refine y_ri B hQ h (by decide) dX9_take_11 ?_
    exact ⟨rfl, _, rfl, (by first | omega | trivial | assumption)⟩
abbrev r_c_X9_split : Room := { frames := 7, cells := 0, slots := 0, locals := 156 }
set_option maxHeartbeats 4000000 in
set_option maxRecDepth 100000 in
theorem c_X9_split (l : Launch) (D : va_G) (Zk : yK) (ca : Nat → ClassId) (T : Nat → Int → Int) (G : Nat → Int → Nat) (u : Int) (ad : Nat → Nat) (w : yW) (hC : CW ca T G u ad w) (n : Int)  (hn : xr n) : yC l D Zk ca yX9_split cX9_split 4 none r_c_X9_split [.ref (ad 20), .int (iI n)] w (vV w) := by
  refine yC.of2 "WindWords$Tape" (by decide) rfl (Nat.le_of_ble_eq_true rfl) ?_
  intro p e s m args below meth c A ls Qf B hnm h hl hQ
  have hl : lv_has ls 4 [(0, .ref (ad 20)), (1, .int (iI n))] := hl
  have hs := pi_s (CW.pi hC)
  refine lv_aload_n B.1 B.2.1 dX9_split_0 rfl (lv_at hl 0 rfl) ?_
  refine x_iconst B dX9_split_1 ?_
  refine lv_iload_n B.1 B.2.1 dX9_split_2 rfl (lv_at hl 1 rfl) ?_
  refine lv_aload_n B.1 B.2.1 dX9_split_3 rfl (lv_at hl 0 rfl) ?_
  refine y_getG B h kX9 20 (CW.f hC 20 _ rfl) 0 (lo := 0) (hi := 900) rfl m_288 (by decide) dX9_split_4 (fun z1 z1a z1b => ?_)
  refine x_min B (by omega) m_585 m_586 m_106 m_587 hl.1 (Nat.le_of_ble_eq_true rfl) (by decide) dX9_split_7 ?_
  refine x_max B (by omega) m_588 m_454 m_106 m_455 hl.1 (Nat.le_of_ble_eq_true rfl) (by decide) dX9_split_10 ?_
  refine y_put B h kX9 20 (CW.f hC 20 _ rfl) 7 (Nat.le_of_ble_eq_true rfl) (P' := fX (max 0 (min n z1))) m_299 (by decide) rfl rfl rfl rfl dX9_split_13 (fun H locs h => ?_)
  have h : yH D Zk A s ((wu w 20 (ad 20, xO 9 [fG 0 900, fG 0 900, fR (ad 21), fR (ad 22), fR (ad 23), fR (ad 24), fR (ad 25), fX (max 0 (min n z1))]))) _ _ := h
  refine lv_aload_n B.1 B.2.1 dX9_split_16 rfl (lv_at hl 0 rfl) ?_
  refine x_iconst B dX9_split_17 ?_
  refine y_putS B h kX9 20 wu_eq 1 (P := fG 0 900) rfl m_290 (by decide) ⟨_, rfl, by omega, by omega⟩ rfl rfl rfl dX9_split_18 (fun H locs h => ?_)
  refine x_iconst B dX9_split_21 ?_
  refine lv_istore_n (lv' := [(2, .int (iI 0)), (0, .ref (ad 20)), (1, .int (iI n))]) B.1 B.2.1 dX9_split_22 rfl hl (by decide) rfl (fun ls hl => ?_)
  refine x_iconst B dX9_split_23 ?_
  refine lv_istore_n (lv' := [(3, .int (iI 0)), (2, .int (iI 0)), (0, .ref (ad 20)), (1, .int (iI n))]) B.1 B.2.1 dX9_split_24 rfl hl (by decide) rfl (fun ls hl => ?_)
  have h : yH D Zk A s w _ _ := yH.unpin h (CW.f hC 20 _ rfl) (xO_le (fLe_cons (fun _ x => x) (fLe_cons (fun _ x => x) (fLe_cons (fun _ x => x) (fLe_cons (fun _ x => x) (fLe_cons (fun _ x => x) (fLe_cons (fun _ x => x) (fLe_cons (fun _ x => x) (fLe_cons (fX_G (by omega)) fLe_nil)))))))))
  have loop25 : ∀ (n25 : Nat) (a : Int) (k : Int), (0 ≤ a ∧ a ≤ 900) → (0 ≤ k ∧ k ≤ 900) → ((900 - k : Int)).toNat < n25 → ∀ (H : Heap) (locs : List Loc) (ls : Array Slot), yH D Zk A s w H locs → lv_has ls 4 [(3, .int (iI k)), (2, .int (iI a)), (0, .ref (ad 20))] → W p l e r_c_X9_split s m args below meth c H locs 0 0 Qf (F0 m 25 ls []) := by
    intro n25
    induction n25 with
    | zero =>
      intro a k h1 h2 hm25 H locs ls h hl
      exact absurd hm25 (Nat.not_lt_zero _)
    | succ n25 ih25 =>
      intro a k h1 h2 hm25 H locs ls h hl
      refine lv_iload_n B.1 B.2.1 dX9_split_25 rfl (lv_at hl 0 rfl) ?_
      refine x_sipush B (by decide) dX9_split_26 ?_
      refine x_icmp_ge B (by omega) (tgt := 74) dX9_split_29 (by decide) (fun c2 => ?_) (fun c2 => ?_)
      · refine y_rv B hQ h (by decide) dX9_split_74 ?_
        exact ⟨rfl, rfl⟩
      · refine lv_iload_n B.1 B.2.1 dX9_split_32 rfl (lv_at hl 1 rfl) ?_
        refine lv_aload_n B.1 B.2.1 dX9_split_33 rfl (lv_at hl 2 rfl) ?_
        obtain ⟨z3, z3a, z3b, h⟩ := yH.pin h (CW.f hC 20 _ rfl) 7 (lo := 0) (hi := 900) rfl
        have h : yH D Zk A s ((wu w 20 (ad 20, xO 9 [fG 0 900, fG 0 900, fR (ad 21), fR (ad 22), fR (ad 23), fR (ad 24), fR (ad 25), fX z3]))) _ _ := h
        refine y_getX B h kX9 20 wu_eq 7 (z := z3) rfl m_299 (by decide) dX9_split_34 ?_
        refine x_icmp_ge B (by omega) (tgt := 74) dX9_split_37 (by decide) (fun c4 => ?_) (fun c4 => ?_)
        · have h : yH D Zk A s w _ _ := yH.unpin h (CW.f hC 20 _ rfl) (xO_le (fLe_cons (fun _ x => x) (fLe_cons (fun _ x => x) (fLe_cons (fun _ x => x) (fLe_cons (fun _ x => x) (fLe_cons (fun _ x => x) (fLe_cons (fun _ x => x) (fLe_cons (fun _ x => x) (fLe_cons (fX_G (by omega)) fLe_nil)))))))))
          refine y_rv B hQ h (by decide) dX9_split_74 ?_
          exact ⟨rfl, rfl⟩
        · refine lv_aload_n B.1 B.2.1 dX9_split_40 rfl (lv_at hl 2 rfl) ?_
          refine y_getR B h kX9 20 wu_eq 2 (b := ad 21) rfl m_292 (by decide) dX9_split_41 ?_
          refine lv_iload_n B.1 B.2.1 dX9_split_44 rfl (lv_at hl 1 rfl) ?_
          refine y_ialdG B h 21 (wu_at (CW.f hC 21 _ rfl) (by decide)) (by omega) dX9_split_45 (fun z5 z5a z5b => ?_)
          refine y_cS B h k_X9_isBlank (c_X9_isBlank l D Zk ca _ z5  (by omega)) m_589 rfl (by decide) hl.1 [] (Nat.le_of_ble_eq_true rfl) rfl dX9_split_46 (fun r w1 hq H locs h => ?_)
          obtain ⟨rfl, _, rfl, ⟨rfl, b6⟩ | ⟨rfl, b6⟩⟩ := hq
          · show W p l e r_c_X9_split s m args below meth c _ _ 0 0 Qf (F0 m 49 ls [.int (iI 1)])
            refine x_if_eq B (by omega) (tgt := 58) dX9_split_49 (by decide) (fun c7 => ?_) (fun c7 => ?_)
            · exact absurd c7 (by omega)
            · refine lv_iload_n B.1 B.2.1 dX9_split_52 rfl (lv_at hl 1 rfl) ?_
              refine x_iconst B dX9_split_53 ?_
              refine x_iadd B dX9_split_54 ?_
              refine lv_goto (tgt := 67) B.1 B.2.1 dX9_split_55 (by decide) ?_
              refine lv_istore_n (lv' := [(2, .int (iI (a + 1))), (3, .int (iI k)), (0, .ref (ad 20))]) B.1 B.2.1 dX9_split_67 rfl hl (by decide) rfl (fun ls hl => ?_)
              refine lv_iinc (v := iI (k + 1)) (lv' := [(3, .int (iI (k + 1))), (2, .int (iI (a + 1))), (0, .ref (ad 20))]) B.1 B.2.1 dX9_split_68 hl (k := 1) rfl (iI_add _ _) (by decide) rfl (fun ls hl => ?_)
              refine lv_goto (tgt := 25) B.1 B.2.1 dX9_split_71 (by decide) ?_
              have h : yH D Zk A s w _ _ := yH.unpin h (CW.f hC 20 _ rfl) (xO_le (fLe_cons (fun _ x => x) (fLe_cons (fun _ x => x) (fLe_cons (fun _ x => x) (fLe_cons (fun _ x => x) (fLe_cons (fun _ x => x) (fLe_cons (fun _ x => x) (fLe_cons (fun _ x => x) (fLe_cons (fX_G (by omega)) fLe_nil)))))))))
              exact ih25 ((a + 1)) ((k + 1)) (by omega) (by omega) (by omega) _ _ _ h (lv_sub hl [0, 1, 2] rfl)
          · show W p l e r_c_X9_split s m args below meth c _ _ 0 0 Qf (F0 m 49 ls [.int (iI 0)])
            refine x_if_eq B (by omega) (tgt := 58) dX9_split_49 (by decide) (fun c8 => ?_) (fun c8 => ?_)
            · refine lv_aload_n B.1 B.2.1 dX9_split_58 rfl (lv_at hl 2 rfl) ?_
              refine lv_iload_n B.1 B.2.1 dX9_split_59 rfl (lv_at hl 1 rfl) ?_
              refine lv_aload_n B.1 B.2.1 dX9_split_60 rfl (lv_at hl 2 rfl) ?_
              refine y_getX B h kX9 20 wu_eq 7 (z := z3) rfl m_299 (by decide) dX9_split_61 ?_
              have h : yH D Zk A s w _ _ := yH.unpin h (CW.f hC 20 _ rfl) (xO_le (fLe_cons (fun _ x => x) (fLe_cons (fun _ x => x) (fLe_cons (fun _ x => x) (fLe_cons (fun _ x => x) (fLe_cons (fun _ x => x) (fLe_cons (fun _ x => x) (fLe_cons (fun _ x => x) (fLe_cons (fX_G (by omega)) fLe_nil)))))))))
              refine y_cV B h kX9 20 (CW.f hC 20 _ rfl) k_X9_take rfl (c_X9_take l D Zk ca T G u ad _ hC a z3  (by omega) (by omega) (by omega)) m_592 rfl (by decide) hl.1 [] (Nat.le_of_ble_eq_true rfl) rfl dX9_split_64 (fun r w1 hq H locs h => ?_)
              obtain ⟨rfl, z9, rfl, hz9⟩ := hq
              show W p l e r_c_X9_split s m args below meth c _ _ 0 0 Qf (F0 m 67 ls [.int (iI z9)])
              refine lv_istore_n (lv' := [(2, .int (iI z9)), (3, .int (iI k)), (0, .ref (ad 20))]) B.1 B.2.1 dX9_split_67 rfl hl (by decide) rfl (fun ls hl => ?_)
              refine lv_iinc (v := iI (k + 1)) (lv' := [(3, .int (iI (k + 1))), (2, .int (iI z9)), (0, .ref (ad 20))]) B.1 B.2.1 dX9_split_68 hl (k := 1) rfl (iI_add _ _) (by decide) rfl (fun ls hl => ?_)
              refine lv_goto (tgt := 25) B.1 B.2.1 dX9_split_71 (by decide) ?_
              exact ih25 z9 ((k + 1)) (by omega) (by omega) (by omega) _ _ _ h (lv_sub hl [0, 1, 2] rfl)
            · exact absurd c8 (by omega)
  exact loop25 (((900 - 0 : Int)).toNat + 1) 0 0 (by omega) (by omega) (Nat.lt_succ_self _) _ _ _ h (lv_sub hl [0, 1, 2] rfl)
