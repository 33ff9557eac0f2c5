theorem k_X11_init : xMI yX11_init cX11_init 1 0 := ⟨m_120, m_119, rfl, m_95, ⟨by decide +kernel, by decide +kernel, by decide +kernel⟩⟩
theorem k_X12_init : xMI yX12_init cX12_init 1 0 := ⟨m_1259, m_1258, rfl, m_104, ⟨by decide +kernel, by decide +kernel, by decide +kernel⟩⟩
set_option maxHeartbeats 16000000 in
set_option maxRecDepth 100000 in
theorem whole_start {p : Program} {e : Env} {s : State} {m : MethodId} {below : List Frame} {meth : Method} {c : Code} (l : Launch) (hflags : l.flags = flags0) {b L : Nat} {xs : Nat → Int32} (hL : L ≤ 6) (hC : lw_At p s m meth c b L xs) : W p l e room_1 s m #[Value.ref b] below meth c s.heap [] 0 0 (lw_Z below #[Value.ref b] s) (entryFrame m ([Value.ref b] : List Value).toArray 4) := by
  obtain ⟨hx, hb, hr, hml, hown, hts, hX, hbl, hlocks, hgv⟩ := hC
  have hAW : ∀ w ∈ AW, w.before #[Value.ref b] s = true := fun w hw => hts w (AW_in hw)
  obtain ⟨cc0, sl0, kn0⟩ := xKn hAW kX0 m_125
  obtain ⟨cc1, sl1, kn1⟩ := xKn hAW kX1 m_318
  obtain ⟨cc2, sl2, kn2⟩ := xKn hAW kX2 m_1215
  obtain ⟨cc3, sl3, kn3⟩ := xKn hAW kX3 m_215
  obtain ⟨cc4, sl4, kn4⟩ := xKn hAW kX4 m_508
  obtain ⟨cc5, sl5, kn5⟩ := xKn hAW kX5 m_333
  obtain ⟨cc6, sl6, kn6⟩ := xKn hAW kX6 m_179
  obtain ⟨cc7, sl7, kn7⟩ := xKn hAW kX7 m_443
  obtain ⟨cc8, sl8, kn8⟩ := xKn hAW kX8 m_257
  obtain ⟨cc9, sl9, kn9⟩ := xKn hAW kX9 m_283
  obtain ⟨cc10, sl10, kn10⟩ := xKn hAW kX10 m_225
  obtain ⟨cc11, sl11, kn11⟩ := xKn hAW kX11 m_117
  obtain ⟨cc12, sl12, kn12⟩ := xKn hAW kX12 m_1256
  obtain ⟨ar0, hA0, hR0⟩ := xRA_prim (ty := .int) (fun C q => by cases q) (hAW _ m_213)
  obtain ⟨ar1, hA1, hR1⟩ := xRA_prim (ty := .long) (fun C q => by cases q) (hAW _ m_281)
  obtain ⟨ar2, hA2, hR2⟩ := xRA_prim (ty := .boolean) (fun C q => by cases q) (hAW _ m_1502)
  obtain ⟨ar3, hA3, hR3⟩ := xRA_prim (ty := .byte) (fun C q => by cases q) (hAW _ m_817)
  have ao0 : va_AO "WindWords$Ship" s := va_AO.of (hts (.arrayOver (.object "WindWords$Ship")) (List.mem_of_getElem? (i := 131) (by decide +kernel)))
  obtain ⟨ar4, hA4, hR4⟩ := xRA_obj ao0
  have ao1 : va_AO "WindWords$Reading" s := va_AO.of (hts (.arrayOver (.object "WindWords$Reading")) (List.mem_of_getElem? (i := 133) (by decide +kernel)))
  obtain ⟨ar5, hA5, hR5⟩ := xRA_obj ao1
  have ao2 : va_AO "WindWords$Rules" s := va_AO.of (hts (.arrayOver (.object "WindWords$Rules")) (List.mem_of_getElem? (i := 185) (by decide +kernel)))
  obtain ⟨ar6, hA6, hR6⟩ := xRA_obj ao2
  have ao3 : va_AO "WindWords$Image" s := va_AO.of (hts (.arrayOver (.object "WindWords$Image")) (List.mem_of_getElem? (i := 332) (by decide +kernel)))
  obtain ⟨ar7, hA7, hR7⟩ := xRA_obj ao3
  obtain ⟨D, hD⟩ : ∃ D : va_G, (u_Kn s RX0 TX0 9 (D.1 0) (D.2 0) ∧ u_Kn s RX1 TX1 2 (D.1 1) (D.2 1) ∧ u_Kn s RX2 TX2 4 (D.1 2) (D.2 2) ∧ u_Kn s RX3 TX3 1 (D.1 3) (D.2 3) ∧ u_Kn s RX4 TX4 8 (D.1 4) (D.2 4) ∧ u_Kn s RX5 TX5 7 (D.1 5) (D.2 5) ∧ u_Kn s RX6 TX6 8 (D.1 6) (D.2 6) ∧ u_Kn s RX7 TX7 5 (D.1 7) (D.2 7) ∧ u_Kn s RX8 TX8 6 (D.1 8) (D.2 8) ∧ u_Kn s RX9 TX9 8 (D.1 9) (D.2 9) ∧ u_Kn s RX10 TX10 7 (D.1 10) (D.2 10) ∧ u_Kn s RX11 TX11 19 (D.1 11) (D.2 11) ∧ u_Kn s RX12 TX12 80 (D.1 12) (D.2 12)) := ⟨(fun k => ([cc0, cc1, cc2, cc3, cc4, cc5, cc6, cc7, cc8, cc9, cc10, cc11, cc12] : List ClassId).getD k cc0, fun k => ([sl0, sl1, sl2, sl3, sl4, sl5, sl6, sl7, sl8, sl9, sl10, sl11, sl12] : List (Nat → Nat)).getD k sl0), kn0, kn1, kn2, kn3, kn4, kn5, kn6, kn7, kn8, kn9, kn10, kn11, kn12⟩
  obtain ⟨kd0, kd1, kd2, kd3, kd4, kd5, kd6, kd7, kd8, kd9, kd10, kd11, kd12⟩ := hD
  obtain ⟨ca, hca⟩ : ∃ ca : Nat → ClassId, ((ArrOfT s (ca 0) (.int) ∧ va_RA s (ca 0) (.int)) ∧ (ArrOfT s (ca 1) (.long) ∧ va_RA s (ca 1) (.long)) ∧ (ArrOfT s (ca 2) (.boolean) ∧ va_RA s (ca 2) (.boolean)) ∧ (ArrOfT s (ca 3) (.byte) ∧ va_RA s (ca 3) (.byte)) ∧ (ArrOfT s (ca 4) (.object "WindWords$Ship") ∧ va_RA s (ca 4) (.object "WindWords$Ship")) ∧ (ArrOfT s (ca 5) (.object "WindWords$Reading") ∧ va_RA s (ca 5) (.object "WindWords$Reading")) ∧ (ArrOfT s (ca 6) (.object "WindWords$Rules") ∧ va_RA s (ca 6) (.object "WindWords$Rules")) ∧ (ArrOfT s (ca 7) (.object "WindWords$Image") ∧ va_RA s (ca 7) (.object "WindWords$Image"))) := ⟨fun k => ([ar0, ar1, ar2, ar3, ar4, ar5, ar6, ar7] : List ClassId).getD k ar0, ⟨hA0, hR0⟩, ⟨hA1, hR1⟩, ⟨hA2, hR2⟩, ⟨hA3, hR3⟩, ⟨hA4, hR4⟩, ⟨hA5, hR5⟩, ⟨hA6, hR6⟩, ⟨hA7, hR7⟩⟩
  obtain ⟨kc0, kc1, kc2, kc3, kc4, kc5, kc6, kc7⟩ := hca
  have hK : va_K D vwCl (xT ca) s := by
    refine ⟨fun k q hq => ?_, fun k q hq => ?_⟩
    · match k, hq with
      | 0, hq => cases hq; exact kd0
      | 1, hq => cases hq; exact kd1
      | 2, hq => cases hq; exact kd2
      | 3, hq => cases hq; exact kd3
      | 4, hq => cases hq; exact kd4
      | 5, hq => cases hq; exact kd5
      | 6, hq => cases hq; exact kd6
      | 7, hq => cases hq; exact kd7
      | 8, hq => cases hq; exact kd8
      | 9, hq => cases hq; exact kd9
      | 10, hq => cases hq; exact kd10
      | 11, hq => cases hq; exact kd11
      | 12, hq => cases hq; exact kd12
      | k + 13, hq => simp [vwCl] at hq
    · match k, hq with
      | 0, hq => cases hq; exact kc0
      | 1, hq => cases hq; exact kc1
      | 2, hq => cases hq; exact kc2
      | 3, hq => cases hq; exact kc3
      | 4, hq => cases hq; exact kc4
      | 5, hq => cases hq; exact kc5
      | 6, hq => cases hq; exact kc6
      | 7, hq => cases hq; exact kc7
      | k + 8, hq => simp [xT] at hq
  have hNM : ∀ q ∈ xNM, va_Nw (.methodLinkNest q.1 q.2.1 q.2.2.1 q.2.2.2) s := by
    unfold xNM
    exact List.forall_mem_cons.mpr ⟨va_Nw.of rfl (hts _ (List.mem_of_getElem? (i := 126) (by decide +kernel))), List.forall_mem_cons.mpr ⟨va_Nw.of rfl (hts _ (List.mem_of_getElem? (i := 180) (by decide +kernel))), List.forall_mem_cons.mpr ⟨va_Nw.of rfl (hts _ (List.mem_of_getElem? (i := 216) (by decide +kernel))), List.forall_mem_cons.mpr ⟨va_Nw.of rfl (hts _ (List.mem_of_getElem? (i := 226) (by decide +kernel))), List.forall_mem_cons.mpr ⟨va_Nw.of rfl (hts _ (List.mem_of_getElem? (i := 258) (by decide +kernel))), List.forall_mem_cons.mpr ⟨va_Nw.of rfl (hts _ (List.mem_of_getElem? (i := 284) (by decide +kernel))), List.forall_mem_cons.mpr ⟨va_Nw.of rfl (hts _ (List.mem_of_getElem? (i := 319) (by decide +kernel))), List.forall_mem_cons.mpr ⟨va_Nw.of rfl (hts _ (List.mem_of_getElem? (i := 334) (by decide +kernel))), List.forall_mem_cons.mpr ⟨va_Nw.of rfl (hts _ (List.mem_of_getElem? (i := 438) (by decide +kernel))), List.forall_mem_cons.mpr ⟨va_Nw.of rfl (hts _ (List.mem_of_getElem? (i := 506) (by decide +kernel))), List.forall_mem_cons.mpr ⟨va_Nw.of rfl (hts _ (List.mem_of_getElem? (i := 866) (by decide +kernel))), List.forall_mem_cons.mpr ⟨va_Nw.of rfl (hts _ (List.mem_of_getElem? (i := 890) (by decide +kernel))), List.forall_mem_cons.mpr ⟨va_Nw.of rfl (hts _ (List.mem_of_getElem? (i := 921) (by decide +kernel))), List.forall_mem_cons.mpr ⟨va_Nw.of rfl (hts _ (List.mem_of_getElem? (i := 938) (by decide +kernel))), List.forall_mem_cons.mpr ⟨va_Nw.of rfl (hts _ (List.mem_of_getElem? (i := 1002) (by decide +kernel))), List.forall_mem_cons.mpr ⟨va_Nw.of rfl (hts _ (List.mem_of_getElem? (i := 1075) (by decide +kernel))), List.forall_mem_cons.mpr ⟨va_Nw.of rfl (hts _ (List.mem_of_getElem? (i := 1080) (by decide +kernel))), List.forall_mem_cons.mpr ⟨va_Nw.of rfl (hts _ (List.mem_of_getElem? (i := 1081) (by decide +kernel))), fun _ h => absurd h List.not_mem_nil⟩⟩⟩⟩⟩⟩⟩⟩⟩⟩⟩⟩⟩⟩⟩⟩⟩⟩
  have hNF : ∀ q ∈ xNF, va_Nw (.fieldLinkNest q.1 q.2.1 q.2.2.1 q.2.2.2.1 q.2.2.2.2.1 q.2.2.2.2.2) s := by
    unfold xNF
    exact List.forall_mem_cons.mpr ⟨va_Nw.of rfl (hts _ (List.mem_of_getElem? (i := 294) (by decide +kernel))), List.forall_mem_cons.mpr ⟨va_Nw.of rfl (hts _ (List.mem_of_getElem? (i := 298) (by decide +kernel))), fun _ h => absurd h List.not_mem_nil⟩⟩
  have hNO : ∀ C ∈ xNO, va_AO C s := by
    unfold xNO
    exact List.forall_mem_cons.mpr ⟨ao0, List.forall_mem_cons.mpr ⟨ao1, List.forall_mem_cons.mpr ⟨ao2, List.forall_mem_cons.mpr ⟨ao3, fun _ h => absurd h List.not_mem_nil⟩⟩⟩⟩
  have B : xB p s m #[Value.ref b] meth c D ca "WindWordsLaw" code 4 (some .boolean) := ⟨hx, hb, hml, hown, hAW, ⟨hK, hNM, hNF, hNO⟩, hlocks, hr⟩
  have h := xH.start (D := D) (H0 := s.heap)
  have hbA : ¬ (fun q : Nat => s.heap.size ≤ q) b := Nat.not_le.mpr hbl
  have hl := lv_entry ([.ref b]) (n := 4) (Nat.le_of_ble_eq_true rfl)
  rw [lg_entry_eq]
  generalize (lg_sl ([.ref b]) ++ List.replicate (4 - (lg_sl ([.ref b])).length) Slot.unset).toArray = ls at hl ⊢
  have hl : lv_has ls 4 [(0, .ref b)] := hl
  refine x_new B h kX11 m_116 m_117 m_95 [fN, fN, fN, fN, fN, fN, fN, fN, fN, fN, fN, fN, fN, fN, fN, fN, fN, fX 0, fX 0] rfl ⟨rfl, rfl, rfl, rfl, rfl, rfl, rfl, rfl, rfl, rfl, rfl, rfl, rfl, rfl, rfl, rfl, rfl, rfl, rfl, trivial⟩ (by decide) dL_law_0 (fun q0 H h => ?_)
  have h : xH D (fun q : Nat => s.heap.size ≤ q) s.heap [(q0, xO 11 [fN, fN, fN, fN, fN, fN, fN, fN, fN, fN, fN, fN, fN, fN, fN, fN, fN, fX 0, fX 0])] H [] := h
  refine lv_dup B.1 B.2.1 dL_law_3 rfl ?_
  refine x_cI0 B h k_X11_init (c_X11_init l D ca q0) m_118 rfl (by decide) hl.1 [.ref q0] (Nat.le_of_ble_eq_true rfl) rfl dL_law_4 (fun r w1 hq H locs h => ?_)
  obtain ⟨rfl, x1, x2, x3, x4, x5, x6, x7, x8, x9, x10, x11, x12, x13, x14, x15, x16, x17, x18, x19, x20, x21, x22, x23, x24, x25, x26, x27, x28, x29, x30, x31, x32, x33, x34, x35, x36, x37, x38, x39, x40, x41, rfl⟩ := hq
  obtain ⟨ad, rfl, rfl, rfl, rfl, rfl, rfl, rfl, rfl, rfl, rfl, rfl, rfl, rfl, rfl, rfl, rfl, rfl, rfl, rfl, rfl, rfl, rfl, rfl, rfl, rfl, rfl, rfl, rfl, rfl, rfl, rfl, rfl, rfl, rfl, rfl, rfl, rfl, rfl, rfl, rfl, rfl, rfl⟩ : ∃ ad : Nat → Nat, ad 0 = q0 ∧ ad 1 = x1 ∧ ad 2 = x2 ∧ ad 3 = x3 ∧ ad 4 = x4 ∧ ad 5 = x5 ∧ ad 6 = x6 ∧ ad 7 = x7 ∧ ad 8 = x8 ∧ ad 9 = x9 ∧ ad 10 = x10 ∧ ad 11 = x11 ∧ ad 12 = x12 ∧ ad 13 = x13 ∧ ad 14 = x14 ∧ ad 15 = x15 ∧ ad 16 = x16 ∧ ad 17 = x17 ∧ ad 18 = x18 ∧ ad 19 = x19 ∧ ad 20 = x20 ∧ ad 21 = x21 ∧ ad 22 = x22 ∧ ad 23 = x23 ∧ ad 24 = x24 ∧ ad 25 = x25 ∧ ad 26 = x26 ∧ ad 27 = x27 ∧ ad 28 = x28 ∧ ad 29 = x29 ∧ ad 30 = x30 ∧ ad 31 = x31 ∧ ad 32 = x32 ∧ ad 33 = x33 ∧ ad 34 = x34 ∧ ad 35 = x35 ∧ ad 36 = x36 ∧ ad 37 = x37 ∧ ad 38 = x38 ∧ ad 39 = x39 ∧ ad 40 = x40 ∧ ad 41 = x41 := ⟨fun k => ([q0, x1, x2, x3, x4, x5, x6, x7, x8, x9, x10, x11, x12, x13, x14, x15, x16, x17, x18, x19, x20, x21, x22, x23, x24, x25, x26, x27, x28, x29, x30, x31, x32, x33, x34, x35, x36, x37, x38, x39, x40, x41] : List Nat).getD k 0, rfl, rfl, rfl, rfl, rfl, rfl, rfl, rfl, rfl, rfl, rfl, rfl, rfl, rfl, rfl, rfl, rfl, rfl, rfl, rfl, rfl, rfl, rfl, rfl, rfl, rfl, rfl, rfl, rfl, rfl, rfl, rfl, rfl, rfl, rfl, rfl, rfl, rfl, rfl, rfl, rfl, rfl⟩
  have h : xH D (fun q : Nat => s.heap.size ≤ q) s.heap (cW0 ca ad) H locs := xH.mono h (xLe_cons rfl (fun _ h => h) (xLe_cons rfl (fun _ h => h) (xLe_cons rfl (fun _ h => h) (xLe_cons rfl (fun _ h => h) (xLe_cons rfl (fun _ h => h) (xLe_cons rfl (fun _ h => h) (xLe_cons rfl xAI_any (xLe_cons rfl xAI_any (xLe_cons rfl xAI_any (xLe_cons rfl xAI_any (xLe_cons rfl xAI_any (xLe_cons rfl (fun _ h => h) (xLe_cons rfl (fun _ h => h) (xLe_cons rfl (xAI_G0 (by omega)) (xLe_cons rfl (fun _ h => h) (xLe_cons rfl xAI_any (xLe_cons rfl xAI_any (xLe_cons rfl xAI_any (xLe_cons rfl (fun _ h => h) (xLe_cons rfl xAL_any (xLe_cons rfl (xO_le (fLe_cons (fun _ h => h) (fLe_cons (fX_G (by omega)) (fLe_cons (fun _ h => h) (fLe_cons (fun _ h => h) (fLe_cons (fun _ h => h) (fLe_cons (fun _ h => h) (fLe_cons (fun _ h => h) (fLe_cons (fX_G (by omega)) fLe_nil))))))))) (xLe_cons rfl xAI_any (xLe_cons rfl xAI_any (xLe_cons rfl xAI_any (xLe_cons rfl xAI_any (xLe_cons rfl xAI_any (xLe_cons rfl (xO_le (fLe_cons (fX_G (by omega)) (fLe_cons (fX_G (by omega)) fLe_nil))) (xLe_cons rfl (fun _ h => h) (xLe_cons rfl (fun _ h => h) (xLe_cons rfl (fun _ h => h) (xLe_cons rfl xAI_any (xLe_cons rfl xAI_any (xLe_cons rfl xAI_any (xLe_cons rfl (xAI_G0 (by omega)) (xLe_cons rfl (xAI_G0 (by omega)) (xLe_cons rfl xAI_any (xLe_cons rfl (xO_le (fLe_cons (fun _ h => h) (fLe_cons (fun _ h => h) (fLe_cons (fun _ h => h) (fLe_cons (fun _ h => h) (fLe_cons (fun _ h => h) (fLe_cons (fX_G (by omega)) (fLe_cons (fX_G (by omega)) fLe_nil)))))))) (xLe_cons rfl xAI_any (xLe_cons rfl xAI_any (xLe_cons rfl xAI_any (xLe_cons rfl xAI_any (xLe_cons rfl xAI_any xLe_nil))))))))))))))))))))))))))))))))))))))))))
  show W p l e room_1 s m #[Value.ref b] below meth c H locs 42 6693 (lw_Z below #[Value.ref b] s) (F0 m 7 ls [.ref (ad 0)])
  refine lv_astore_n (lv' := [(1, .ref (ad 0)), (0, .ref b)]) B.1 B.2.1 dL_law_7 rfl hl (by decide) rfl (fun ls hl => ?_)
  refine x_new B h kX12 m_1255 m_1256 m_104 [fN, fX 0, fX 0, fX 0, fX 0, fX 0, fX 0, fN, fN, fN, fN, fN, fN, fN, fN, fN, fN, fN, fN, fN, fN, fN, fN, fX 0, fN, fN, fN, fN, fN, fN, fN, fN, fX 0, fX 0, fX 0, fX 0, fX 0, fX 0, fX 0, fX 0, fX 0, fX 0, fL, fX 0, fN, fX 0, fX 0, fN, fN, fN, fN, fN, fX 0, fX 0, fX 0, fX 0, fN, fX 0, fX 0, fX 0, fX 0, fN, fN, fN, fX 0, fX 0, fN, fN, fN, fX 0, fX 0, fX 0, fX 0, fN, fX 0, fN, fN, fN, fN, fN] rfl ⟨rfl, rfl, rfl, rfl, rfl, rfl, rfl, rfl, rfl, rfl, rfl, rfl, rfl, rfl, rfl, rfl, rfl, rfl, rfl, rfl, rfl, rfl, rfl, rfl, rfl, rfl, rfl, rfl, rfl, rfl, rfl, rfl, rfl, rfl, rfl, rfl, rfl, rfl, rfl, rfl, rfl, rfl, ⟨_, rfl⟩, rfl, rfl, rfl, rfl, rfl, rfl, rfl, rfl, rfl, rfl, rfl, rfl, rfl, rfl, rfl, rfl, rfl, rfl, rfl, rfl, rfl, rfl, rfl, rfl, rfl, rfl, rfl, rfl, rfl, rfl, rfl, rfl, rfl, rfl, rfl, rfl, rfl, trivial⟩ (by decide) dL_law_8 (fun q0 H h => ?_)
  have h := xH.swap h
  refine lv_dup B.1 B.2.1 dL_law_11 rfl ?_
  refine x_cI (wa := [(q0, xO 12 [fN, fX 0, fX 0, fX 0, fX 0, fX 0, fX 0, fN, fN, fN, fN, fN, fN, fN, fN, fN, fN, fN, fN, fN, fN, fN, fN, fX 0, fN, fN, fN, fN, fN, fN, fN, fN, fX 0, fX 0, fX 0, fX 0, fX 0, fX 0, fX 0, fX 0, fX 0, fX 0, fL, fX 0, fN, fX 0, fX 0, fN, fN, fN, fN, fN, fX 0, fX 0, fX 0, fX 0, fN, fX 0, fX 0, fX 0, fX 0, fN, fN, fN, fX 0, fX 0, fN, fN, fN, fX 0, fX 0, fX 0, fX 0, fN, fX 0, fN, fN, fN, fN, fN])]) B h k_X12_init (c_X12_init l D ca q0) m_1257 rfl (by decide) hl.1 [.ref q0] (Nat.le_of_ble_eq_true rfl) rfl dL_law_12 (fun r w1 hq H locs h => ?_)
  obtain ⟨rfl, y1, y2, y3, y4, y5, y6, y7, y8, y9, y10, y11, y12, y13, y14, y15, y16, y17, y18, y19, y20, y21, y22, y23, y24, y25, y26, y27, y28, y29, y30, y31, y32, y33, y34, y35, y36, y37, y38, y39, y40, y41, y42, y43, y44, rfl⟩ := hq
  obtain ⟨am, rfl, rfl, rfl, rfl, rfl, rfl, rfl, rfl, rfl, rfl, rfl, rfl, rfl, rfl, rfl, rfl, rfl, rfl, rfl, rfl, rfl, rfl, rfl, rfl, rfl, rfl, rfl, rfl, rfl, rfl, rfl, rfl, rfl, rfl, rfl, rfl, rfl, rfl, rfl, rfl, rfl, rfl, rfl, rfl, rfl⟩ : ∃ am : Nat → Nat, am 0 = q0 ∧ am 1 = y1 ∧ am 2 = y2 ∧ am 3 = y3 ∧ am 4 = y4 ∧ am 5 = y5 ∧ am 6 = y6 ∧ am 7 = y7 ∧ am 8 = y8 ∧ am 9 = y9 ∧ am 10 = y10 ∧ am 11 = y11 ∧ am 12 = y12 ∧ am 13 = y13 ∧ am 14 = y14 ∧ am 15 = y15 ∧ am 16 = y16 ∧ am 17 = y17 ∧ am 18 = y18 ∧ am 19 = y19 ∧ am 20 = y20 ∧ am 21 = y21 ∧ am 22 = y22 ∧ am 23 = y23 ∧ am 24 = y24 ∧ am 25 = y25 ∧ am 26 = y26 ∧ am 27 = y27 ∧ am 28 = y28 ∧ am 29 = y29 ∧ am 30 = y30 ∧ am 31 = y31 ∧ am 32 = y32 ∧ am 33 = y33 ∧ am 34 = y34 ∧ am 35 = y35 ∧ am 36 = y36 ∧ am 37 = y37 ∧ am 38 = y38 ∧ am 39 = y39 ∧ am 40 = y40 ∧ am 41 = y41 ∧ am 42 = y42 ∧ am 43 = y43 ∧ am 44 = y44 := ⟨fun k => ([q0, y1, y2, y3, y4, y5, y6, y7, y8, y9, y10, y11, y12, y13, y14, y15, y16, y17, y18, y19, y20, y21, y22, y23, y24, y25, y26, y27, y28, y29, y30, y31, y32, y33, y34, y35, y36, y37, y38, y39, y40, y41, y42, y43, y44] : List Nat).getD k 0, rfl, rfl, rfl, rfl, rfl, rfl, rfl, rfl, rfl, rfl, rfl, rfl, rfl, rfl, rfl, rfl, rfl, rfl, rfl, rfl, rfl, rfl, rfl, rfl, rfl, rfl, rfl, rfl, rfl, rfl, rfl, rfl, rfl, rfl, rfl, rfl, rfl, rfl, rfl, rfl, rfl, rfl, rfl, rfl, rfl⟩
  have h : xH D (fun q : Nat => s.heap.size ≤ q) s.heap (cM0 ca am ++ cW0 ca ad) H locs := xH.mono h (xLe_app (xLe_cons rfl (xO_le (fLe_cons (fun _ h => h) (fLe_cons (fun _ h => h) (fLe_cons (fun _ h => h) (fLe_cons (fun _ h => h) (fLe_cons (fun _ h => h) (fLe_cons (fun _ h => h) (fLe_cons (fun _ h => h) (fLe_cons (fun _ h => h) (fLe_cons (fun _ h => h) (fLe_cons (fun _ h => h) (fLe_cons (fun _ h => h) (fLe_cons (fun _ h => h) (fLe_cons (fun _ h => h) (fLe_cons (fun _ h => h) (fLe_cons (fun _ h => h) (fLe_cons (fun _ h => h) (fLe_cons (fun _ h => h) (fLe_cons (fun _ h => h) (fLe_cons (fun _ h => h) (fLe_cons (fun _ h => h) (fLe_cons (fun _ h => h) (fLe_cons (fun _ h => h) (fLe_cons (fun _ h => h) (fLe_cons (fun _ h => h) (fLe_cons (fun _ h => h) (fLe_cons (fun _ h => h) (fLe_cons (fun _ h => h) (fLe_cons (fun _ h => h) (fLe_cons (fun _ h => h) (fLe_cons (fun _ h => h) (fLe_cons (fun _ h => h) (fLe_cons (fun _ h => h) (fLe_cons (fun _ h => h) (fLe_cons (fun _ h => h) (fLe_cons (fX_G (by omega)) (fLe_cons (fX_G (by omega)) (fLe_cons (fX_G (by omega)) (fLe_cons (fX_G (by omega)) (fLe_cons (fX_G (by omega)) (fLe_cons (fX_G (by omega)) (fLe_cons (fX_G (by omega)) (fLe_cons (fX_G (by omega)) (fLe_cons (fun _ h => h) (fLe_cons (fun _ h => h) (fLe_cons (fun _ h => h) (fLe_cons (fun _ h => h) (fLe_cons (fun _ h => h) (fLe_cons (fun _ h => h) (fLe_cons (fun _ h => h) (fLe_cons (fun _ h => h) (fLe_cons (fun _ h => h) (fLe_cons (fun _ h => h) (fLe_cons (fun _ h => h) (fLe_cons (fun _ h => h) (fLe_cons (fun _ h => h) (fLe_cons (fun _ h => h) (fLe_cons (fun _ h => h) (fLe_cons (fun _ h => h) (fLe_cons (fun _ h => h) (fLe_cons (fun _ h => h) (fLe_cons (fun _ h => h) (fLe_cons (fun _ h => h) (fLe_cons (fun _ h => h) (fLe_cons (fun _ h => h) (fLe_cons (fun _ h => h) (fLe_cons (fun _ h => h) (fLe_cons (fun _ h => h) (fLe_cons (fun _ h => h) (fLe_cons (fun _ h => h) (fLe_cons (fun _ h => h) (fLe_cons (fun _ h => h) (fLe_cons (fun _ h => h) (fLe_cons (fun _ h => h) (fLe_cons (fun _ h => h) (fLe_cons (fun _ h => h) (fLe_cons (fun _ h => h) (fLe_cons (fun _ h => h) (fLe_cons (fun _ h => h) (fLe_cons (fun _ h => h) (fLe_cons (fun _ h => h) fLe_nil))))))))))))))))))))))))))))))))))))))))))))))))))))))))))))))))))))))))))))))))) (xLe_cons rfl (fun _ h => h) (xLe_cons rfl xAI_any (xLe_cons rfl xAI_any (xLe_cons rfl xAI_any (xLe_cons rfl xAI_any (xLe_cons rfl xAI_any (xLe_cons rfl xAI_any (xLe_cons rfl xAI_any (xLe_cons rfl xAI_any (xLe_cons rfl xAI_any (xLe_cons rfl xAI_any (xLe_cons rfl xAI_any (xLe_cons rfl xAI_any (xLe_cons rfl xAI_any (xLe_cons rfl xAI_any (xLe_cons rfl xAI_any (xLe_cons rfl xAI_any (xLe_cons rfl xAI_any (xLe_cons rfl xAI_any (xLe_cons rfl xAI_any (xLe_cons rfl xAI_any (xLe_cons rfl xAI_any (xLe_cons rfl xAI_any (xLe_cons rfl xAI_any (xLe_cons rfl xAI_any (xLe_cons rfl xAI_any (xLe_cons rfl xAI_any (xLe_cons rfl xAI_any (xLe_cons rfl xAI_any (xLe_cons rfl xAI_any (xLe_cons rfl xAI_any (xLe_cons rfl (xAI_G0 (by omega)) (xLe_cons rfl xAL_any (xLe_cons rfl xAL_any (xLe_cons rfl xAI_any (xLe_cons rfl xAI_any (xLe_cons rfl xAI_any (xLe_cons rfl xAI_any (xLe_cons rfl xAI_any (xLe_cons rfl xAI_any (xLe_cons rfl xAI_any (xLe_cons rfl xAI_any (xLe_cons rfl xAI_any (xLe_cons rfl xAI_any xLe_nil))))))))))))))))))))))))))))))))))))))))))))) (xLe_rf _))
  have h := xH.swap h
  show W p l e room_1 s m #[Value.ref b] below meth c H locs 87 35823 (lw_Z below #[Value.ref b] s) (F0 m 15 ls [.ref (am 0)])
  refine lv_astore_n (lv' := [(2, .ref (am 0)), (1, .ref (ad 0)), (0, .ref b)]) B.1 B.2.1 dL_law_15 rfl hl (by decide) rfl (fun ls hl => ?_)
  refine x_iconst B dL_law_16 ?_
  refine lv_istore_n (lv' := [(3, .int (iI 0)), (2, .ref (am 0)), (1, .ref (ad 0)), (0, .ref b)]) B.1 B.2.1 dL_law_17 rfl hl (by decide) rfl (fun ls hl => ?_)
  refine lv_iload_n B.1 B.2.1 dL_law_18 rfl (lv_at hl 0 rfl) ?_
  refine lv_aload_n B.1 B.2.1 dL_law_19 rfl (lv_at hl 3 rfl) ?_
  refine x_slen B h hX hbl hbA dL_law_20 ?_
  refine x_bipush B (by decide) dL_law_21 ?_
  refine x_isub B dL_law_23 ?_
  refine x_icmp_gt B (by omega) (tgt := 1374) dL_law_24 (by decide) (fun c1 => ?_) (fun c1 => ?_)
  · exact law_end B hX hbl hb hr h (by decide)
  · exact law_body B hX hbl (by omega) hb hr ad am h (lv_sub hl [3, 2, 1, 0] rfl)
