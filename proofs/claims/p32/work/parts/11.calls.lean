section XCALL
variable {p : Program} {l : Launch} {e : Env} {R : Room} {s : State} {m : MethodId} {args : Array Value} {below : List Frame} {meth : Method} {c : Code} {H : Heap} {locs : List Loc} {cells slots : Nat} {Q : State → Prop}
variable {cc : ByteArray} {nL : Nat} {rt : Option FieldType} {own : String} {D : va_G} {ca : Nat → ClassId} {A : Nat → Prop} {H0 : Heap} {w : xW} {pc : Nat} {ls : Array Slot} {rest : List Value}
/-! making objects and arrays -/
def xDef (ty : Nat → FieldType) : Nat → List fP → Prop
  | _, [] => True
  | k, P :: t => P (defaultValue (ty k)) ∧ xDef ty (k + 1) t
theorem xDef_at (ty : Nat → FieldType) : ∀ (ps : List fP) (j : Nat), xDef ty j ps → ∀ (k : Nat) (P : fP), ps[k]? = some P → P (defaultValue (ty (j + k)))
  | [], _, _, k, P, hk => by simp at hk
  | P0 :: t, j, h, 0, P, hk => by
    simp at hk
    subst hk
    exact h.1
  | P0 :: t, j, h, k + 1, P, hk => by
    have := xDef_at ty t (j + 1) h.2 k P (by simpa using hk)
    rw [show j + (k + 1) = (j + 1) + k by omega]
    exact this
theorem x_new (B : xB p s m args meth c D ca own cc nL rt) (h : xH D A H0 w H locs) {ci N : Nat} {C : String} {T : u_T} {ty : Nat → FieldType} (K : xK1 ci C T N ty) {index : Nat} (hcl : Cond.classLink own index C ∈ AW) (hinst : Cond.instantiable C N ∈ AW) (hini : Cond.initialized C ∈ AW) (ps : List fP) (hlen : ps.length = N) (hps : xDef ty 0 ps) (hcells : cells + 1 ≤ R.cells ∧ slots + N ≤ R.slots)
    (d : decode cc pc = .ok (.new index, 3)) (kk : ∀ (q : Nat) (H1 : Heap), xH D A H0 (w ++ [(q, xO ci ps)]) H1 locs → W p l e R s m args below meth c H1 locs (cells + 1) (slots + N) Q (F0 m (pc + 3) ls (.ref q :: rest))) : W p l e R s m args below meth c H locs cells slots Q (F0 m pc ls rest) := by
  have hKn := B.2.2.2.2.2.1.1.1 ci _ K.1
  have hts := B.2.2.2.2.1
  refine W.newcK B.1 B.2.1 B.2.2.2.1 (hts _ hcl) (hts _ hinst) (hts _ hini) rfl d hcells.1 hcells.2 hKn.2.1 rfl fun H1 kC hkC e1 z1 o1 => ?_
  refine kk H.size H1 (h.push (e := .inr (ci, (List.range N).map (fun j => defaultValue (ty j)))) ⟨_, K.1, (u_born ty hts K.2.1 hKn hkC e1 K.2.2.1).to (fun j hj => ?_)⟩ ⟨_, rfl, ?_, ?_⟩ z1 o1)
  · show _ = List.getD _ _ _
    simp [List.getD, hj]
  · simp [hlen]
  · intro k v P hv hP
    have hk : k < N := by rw [← hlen]; exact (List.getElem?_eq_some_iff.mp hP).1
    have := xDef_at ty ps 0 hps k P hP
    simp [hk] at hv
    rw [← hv]
    simpa using this
theorem xArr {ca : Nat → ClassId} {D : va_G} {s : State} (hE : xE D ca s) (t0 : Nat) {ty : FieldType} (ht : (xT ca)[t0]? = some (ca t0, ty)) (hno : ∀ C, ty ≠ .object C) {cA : ClassId} (h : s.vm.findClass ("[" ++ ty.toString) = some cA) : cA = ca t0 := by
  have h2 := (hE.1.2 t0 _ ht).2
  unfold va_RA at h2
  cases ty with
  | object C => exact absurd rfl (hno C)
  | _ => exact Option.some.inj (h.symm.trans h2)
theorem x_newa (B : xB p s m args meth c D ca own cc nL rt) (h : xH D A H0 w H locs) (t0 : Nat) {atype : ArrayType} {ty : FieldType} (hty : newarray.typeOf atype = ty) (ht : (xT ca)[t0]? = some (ca t0, ty)) (hno : ∀ C, ty ≠ .object C) (harr : Cond.arrayClass ty ∈ AW) {n : Int} {N : Nat} (hn : xr n ∧ n = N) (hb : N * componentBytes ty ≤ 536870912) (P : xPd) {a0 : vp_A} (ha : ∀ cA : ClassId, vp_cell cA a0 = arrV cA N (fun _ => defaultValue ty)) (hP : P (.inl (ca t0, a0))) (hcells : cells + 1 ≤ R.cells ∧ slots + N ≤ R.slots)
    (d : decode cc pc = .ok (.newarray atype, 2)) (kk : ∀ (q : Nat) (H1 : Heap), xH D A H0 (w ++ [(q, P)]) H1 locs → W p l e R s m args below meth c H1 locs (cells + 1) (slots + N) Q (F0 m (pc + 2) ls (.ref q :: rest))) : W p l e R s m args below meth c H locs cells slots Q (F0 m pc ls (.int (iI n) :: rest)) := by
  subst hty
  refine va_newaK B.1 B.2.1 (B.2.2.2.2.1 _ harr) rfl d rfl (n := iI n) (N := N) (fun q => ?_) ?_ hb hcells.1 hcells.2 rfl fun H1 cA e1 z1 o1 hAr hNm => ?_
  · have := (iI_lt ⟨hn.1, (by omega : xr 0)⟩).mp q
    omega
  · rw [iI_clamp hn.1]; omega
  · have hc := xArr B.2.2.2.2.2.1 t0 ht hno hNm
    subst hc
    exact kk H.size H1 (h.push (e := .inl (ca t0, a0)) (show H1[H.size]? = some (vp_cell _ _) by rw [ha]; exact e1) hP z1 o1)
theorem x_newaI (B : xB p s m args meth c D ca own cc nL rt) (h : xH D A H0 w H locs) {n : Int} {N : Nat} (hn : xr n ∧ n = N) (hb : N * 4 ≤ 536870912) (harr : Cond.arrayClass .int ∈ AW) (hcells : cells + 1 ≤ R.cells ∧ slots + N ≤ R.slots) (d : decode cc pc = .ok (.newarray .int, 2)) (kk : ∀ (q : Nat) (H1 : Heap), xH D A H0 (w ++ [(q, xAI (ca 0) N (gX N (fun _ => 0)))]) H1 locs → W p l e R s m args below meth c H1 locs (cells + 1) (slots + N) Q (F0 m (pc + 2) ls (.ref q :: rest))) : W p l e R s m args below meth c H locs cells slots Q (F0 m pc ls (.int (iI n) :: rest)) :=
  x_newa B h 0 (atype := .int) (ty := .int) rfl rfl (fun C q => by cases q) harr hn hb _ (a0 := (N, .inl (fun _ => 0))) (fun cA => rfl) ⟨_, rfl, fun j hj => rfl⟩ hcells d kk
theorem x_newaZ (B : xB p s m args meth c D ca own cc nL rt) (h : xH D A H0 w H locs) {n : Int} {N : Nat} (hn : xr n ∧ n = N) (hb : N * 1 ≤ 536870912) (harr : Cond.arrayClass .boolean ∈ AW) (hcells : cells + 1 ≤ R.cells ∧ slots + N ≤ R.slots) (d : decode cc pc = .ok (.newarray .boolean, 2)) (kk : ∀ (q : Nat) (H1 : Heap), xH D A H0 (w ++ [(q, xAI (ca 2) N (gX N (fun _ => 0)))]) H1 locs → W p l e R s m args below meth c H1 locs (cells + 1) (slots + N) Q (F0 m (pc + 2) ls (.ref q :: rest))) : W p l e R s m args below meth c H locs cells slots Q (F0 m pc ls (.int (iI n) :: rest)) :=
  x_newa B h 2 (atype := .boolean) (ty := .boolean) rfl rfl (fun C q => by cases q) harr hn hb _ (a0 := (N, .inl (fun _ => 0))) (fun cA => rfl) ⟨_, rfl, fun j hj => rfl⟩ hcells d kk
theorem x_newaB (B : xB p s m args meth c D ca own cc nL rt) (h : xH D A H0 w H locs) {n : Int} {N : Nat} (hn : xr n ∧ n = N) (hb : N * 1 ≤ 536870912) (harr : Cond.arrayClass .byte ∈ AW) (hcells : cells + 1 ≤ R.cells ∧ slots + N ≤ R.slots) (d : decode cc pc = .ok (.newarray .byte, 2)) (kk : ∀ (q : Nat) (H1 : Heap), xH D A H0 (w ++ [(q, xAI (ca 3) N (gX N (fun _ => 0)))]) H1 locs → W p l e R s m args below meth c H1 locs (cells + 1) (slots + N) Q (F0 m (pc + 2) ls (.ref q :: rest))) : W p l e R s m args below meth c H locs cells slots Q (F0 m pc ls (.int (iI n) :: rest)) :=
  x_newa B h 3 (atype := .byte) (ty := .byte) rfl rfl (fun C q => by cases q) harr hn hb _ (a0 := (N, .inl (fun _ => 0))) (fun cA => rfl) ⟨_, rfl, fun j hj => rfl⟩ hcells d kk
theorem x_newaL (B : xB p s m args meth c D ca own cc nL rt) (h : xH D A H0 w H locs) {n : Int} {N : Nat} (hn : xr n ∧ n = N) (hb : N * 8 ≤ 536870912) (harr : Cond.arrayClass .long ∈ AW) (hcells : cells + 1 ≤ R.cells ∧ slots + N ≤ R.slots) (d : decode cc pc = .ok (.newarray .long, 2)) (kk : ∀ (q : Nat) (H1 : Heap), xH D A H0 (w ++ [(q, xAL (ca 1) N (fun f => f = fun _ => 0))]) H1 locs → W p l e R s m args below meth c H1 locs (cells + 1) (slots + N) Q (F0 m (pc + 2) ls (.ref q :: rest))) : W p l e R s m args below meth c H locs cells slots Q (F0 m pc ls (.int (iI n) :: rest)) :=
  x_newa B h 1 (atype := .long) (ty := .long) rfl rfl (fun C q => by cases q) harr hn hb _ (a0 := (N, .inr (.inl (fun _ => 0)))) (fun cA => rfl) ⟨_, rfl, rfl⟩ hcells d kk
theorem x_anew (B : xB p s m args meth c D ca own cc nL rt) (h : xH D A H0 w H locs) (t0 : Nat) {C : String} (ht : (xT ca)[t0]? = some (ca t0, .object C)) (hC : C ∈ xNO) {index : Nat} (hcl : Cond.classLink own index C ∈ AW) {n : Int} {N : Nat} (hn : xr n ∧ n = N) (hb : N * 4 ≤ 536870912) (hcells : cells + 1 ≤ R.cells ∧ slots + N ≤ R.slots)
    (d : decode cc pc = .ok (.anewarray index, 3)) (kk : ∀ (q : Nat) (H1 : Heap), xH D A H0 (w ++ [(q, xAQ (ca t0) N (fun f => f = fun _ => none))]) H1 locs → W p l e R s m args below meth c H1 locs (cells + 1) (slots + N) Q (F0 m (pc + 3) ls (.ref q :: rest))) : W p l e R s m args below meth c H locs cells slots Q (F0 m pc ls (.int (iI n) :: rest)) := by
  have hN : (iI n).toNatClampNeg = N := by rw [iI_clamp hn.1]; omega
  subst hN
  refine W.anew B.1 B.2.1 B.2.2.2.1 (B.2.2.2.2.1 _ hcl) (va_AO.use (B.2.2.2.2.2.1.2.2.2 _ hC)) rfl d rfl (fun q => ?_) hb hcells.1 hcells.2 fun cA kA comp f1 f2 f3 f4 => ?_
  · have := (iI_lt ⟨hn.1, (by omega : xr 0)⟩).mp q
    omega
  · obtain ⟨kA2, comp2, k1, k2, k3, k4⟩ := (B.2.2.2.2.2.1.1.2 t0 _ ht).2
    have hc : cA = ca t0 := Option.some.inj (f1.symm.trans k4)
    subst hc
    refine kk H.size _ (h.push (e := .inl (ca t0, (iI n).toNatClampNeg, .inr (.inr (.inr (.inr (fun _ => none)))))) ?_ ⟨_, rfl, rfl⟩ ?_ ?_)
    · show (H.push _)[H.size]? = some (vp_cell _ _)
      rw [vp_cell_q, Array.getElem?_push_size]
      exact congrArg some (arrV_new _ _ _)
    · rw [Array.size_push]
    · intro q hq
      rw [Array.getElem?_push, if_neg (Nat.ne_of_lt hq)]
/-! returns -/
theorem xQ.of {w0 w1 : xW} {Qc : Option Value → xW → Prop} {v : Option Value} (h : xH D A s.heap w1 H locs) (hA : A = xA w0 s.heap.size) (hq : Qc v w1) : ∀ t : State, t.heap = H → s.WarmedH t.vm → xQ D w0 s.heap.size Qc args s (.returned v) t := fun t ht _ => by
  subst hA
  exact ⟨⟨v, w1, rfl, hq, by rw [ht]; exact h.1, h.2.1, h.2.2.2.1⟩, h.2.2.1.F ht⟩
theorem x_iret (B : xB p s m args meth c D ca own cc nL (some .int)) {w0 w1 : xW} {Qc : Option Value → xW → Prop} {v : Int32} (h : xH D A s.heap w1 H locs) (hA : A = xA w0 s.heap.size) (hq : Qc (some (.int v)) w1) {k n : Nat} (h1 : cells ≤ k) (h2 : slots ≤ n) (d : decode cc pc = .ok (.ireturn, 1)) : W p l e R s m args below meth c H locs cells slots (MQ below (xQ D w0 s.heap.size Qc) args s k n A) (F0 m pc ls [.int v]) :=
  W.widen h1 h2 (W.iret B.1 B.2.1 B.2.2.2.2.2.2.2 (xQ.of h hA hq) h.2.2.1.2.2 d B.2.2.2.2.2.2.1)
theorem x_zret (B : xB p s m args meth c D ca own cc nL (some .boolean)) {w0 w1 : xW} {Qc : Option Value → xW → Prop} {v : Int32} (hv : narrow .boolean (.int v) = .int v) (h : xH D A s.heap w1 H locs) (hA : A = xA w0 s.heap.size) (hq : Qc (some (.int v)) w1) {k n : Nat} (h1 : cells ≤ k) (h2 : slots ≤ n) (d : decode cc pc = .ok (.ireturn, 1)) : W p l e R s m args below meth c H locs cells slots (MQ below (xQ D w0 s.heap.size Qc) args s k n A) (F0 m pc ls [.int v]) :=
  W.widen h1 h2 (W.zret B.1 B.2.1 B.2.2.2.2.2.2.2 hv (xQ.of h hA hq) h.2.2.1.2.2 d B.2.2.2.2.2.2.1)
theorem x_lret (B : xB p s m args meth c D ca own cc nL (some .long)) {w0 w1 : xW} {Qc : Option Value → xW → Prop} {v : Int64} (h : xH D A s.heap w1 H locs) (hA : A = xA w0 s.heap.size) (hq : Qc (some (.long v)) w1) {k n : Nat} (h1 : cells ≤ k) (h2 : slots ≤ n) (d : decode cc pc = .ok (.lreturn, 1)) : W p l e R s m args below meth c H locs cells slots (MQ below (xQ D w0 s.heap.size Qc) args s k n A) (F0 m pc ls [.long v]) :=
  W.widen h1 h2 (W.lret B.1 B.2.1 B.2.2.2.2.2.2.2 (xQ.of h hA hq) h.2.2.1.2.2 d B.2.2.2.2.2.2.1)
theorem x_aret {C : String} (B : xB p s m args meth c D ca own cc nL (some (.object C))) {w0 w1 : xW} {Qc : Option Value → xW → Prop} {r : Option Nat} (h : xH D A s.heap w1 H locs) (hA : A = xA w0 s.heap.size) (hq : Qc (some (va_rf r)) w1) {k n : Nat} (h1 : cells ≤ k) (h2 : slots ≤ n) (d : decode cc pc = .ok (.areturn, 1)) : W p l e R s m args below meth c H locs cells slots (MQ below (xQ D w0 s.heap.size Qc) args s k n A) (F0 m pc ls [va_rf r]) :=
  W.widen h1 h2 (W.aret B.1 B.2.1 B.2.2.2.2.2.2.2 (Or.inl ⟨_, rfl⟩) (by cases r with | none => exact Or.inl rfl | some a => exact Or.inr ⟨a, rfl⟩) (xQ.of h hA hq) h.2.2.1.2.2 d B.2.2.2.2.2.2.1)
theorem x_vret (B : xB p s m args meth c D ca own cc nL none) {w0 w1 : xW} {Qc : Option Value → xW → Prop} (h : xH D A s.heap w1 H locs) (hA : A = xA w0 s.heap.size) (hq : Qc none w1) {k n : Nat} (h1 : cells ≤ k) (h2 : slots ≤ n) (d : decode cc pc = .ok (.return_, 1)) : W p l e R s m args below meth c H locs cells slots (MQ below (xQ D w0 s.heap.size Qc) args s k n A) (F0 m pc ls []) :=
  W.widen h1 h2 (W.vret B.1 B.2.1 B.2.2.2.2.2.2.2 (xQ.of h hA hq) h.2.2.1.2.2 d B.2.2.2.2.2.2.1)
/-! calls: the callee's world wa, the rest wb -/
theorem xGood {y : MethodName} {cy : ByteArray} {maxL : Nat} {ret : Option FieldType} (h : Cond.code y cy maxL ret ∈ AW) : GoodIn AW (Cond.code y cy maxL ret :: AW) := fun w hw => by
  have hm : w ∈ AW := by
    rcases List.mem_cons.mp hw with rfl | h1
    · exact h
    · exact h1
  exact ⟨hm, good_of_word (AW_good hm)⟩
theorem xBlind {av : List Value} {w : xW} {sz : Nat} : FrameBlind (va_Pc av (fun U => U.heap.size = sz ∧ xP D w U.heap ∧ xN w ∧ xE D ca U)) := fun a U g mk h => ⟨h.1, h.2.1, h.2.2.1, h.2.2.2.1, h.2.2.2.2.call a g mk⟩
theorem xPreS {av : List Value} {wa wb : xW} (B : xB p s m args meth c D ca own cc nL rt) (h : xH D A H0 (wa ++ wb) H locs) : PreS s H (va_Pc av (fun U => U.heap.size = H.size ∧ xP D wa U.heap ∧ xN wa ∧ xE D ca U)) av :=
  ⟨xBlind, fun U hU hW => ⟨rfl, by rw [hU], by rw [hU]; exact fun k q hk => h.1 k q (xapp_l hk), fun i j x y hi hj => h.2.1 i j x y (xapp_l hi) (xapp_l hj), B.2.2.2.2.2.1.warm hW⟩⟩
theorem x_run {wa wb : xW} {mc ms : Nat} {st0 : List Value} {Qc : Option Value → xW → Prop} {a : Array Value} (hr : va_Run p l e R s m args below meth c H locs cells slots mc ms (F0 m pc ls st0) rest (xQ D wa H.size Qc a) (xA wa H.size)) (h : xH D A H0 (wa ++ wb) H locs)
    (kk : ∀ (r : Option Value) (w1 : xW), Qc r w1 → ∀ (H1 : Heap) (locs1 : List Loc), xH D A H0 (w1 ++ wb) H1 locs1 → W p l e R s m args below meth c H1 locs1 (cells + mc) (slots + ms) Q (F0 m (pc + 3) ls (r.toList ++ rest))) : W p l e R s m args below meth c H locs cells slots Q (F0 m pc ls st0) := by
  obtain ⟨h1, h2, h3, h4, h5⟩ := h
  have wbn : ∀ (k : Nat) (q : Nat × xPd), wb[k]? = some q → (wa ++ wb)[wa.length + k]? = some q := fun k q hk => by
    rw [List.getElem?_append_right (by omega), show wa.length + k - wa.length = k by omega, hk]
  have apart : ∀ (k : Nat) (q : Nat × xPd), wb[k]? = some q → q.1 < H.size ∧ ¬ xA wa H.size q.1 := by
    intro k q hk
    have hlt := h1.lt (wbn k q hk)
    refine ⟨hlt, fun hx => ?_⟩
    rcases hx with ⟨j, P, hj⟩ | hx
    · have := h2 _ _ _ _ (wbn k q hk) (xapp_l hj) rfl
      have hjl := (List.getElem?_eq_some_iff.mp hj).1
      omega
    · omega
  have inA : ∀ q : Nat, xA wa H.size q → A q := by
    intro q hq
    rcases hq with ⟨j, P, hj⟩ | hq
    · exact h4 j (q, P) (xapp_l hj)
    · exact h5 q (Nat.le_trans h3.1 hq)
  intro T hT X
  obtain ⟨v, st₀, t, T', L, h0, X', hL, e1, e2, ⟨⟨r, w1, hv, hq, hP1, hN1, hA1⟩, hz, hk⟩, st⟩ := hr T hT X
  have hv : v = r := Outcome.returned.inj hv
  subst hv
  rw [h0] at hz hk
  have splitw : ∀ (k : Nat) (q : Nat × xPd), (w1 ++ wb)[k]? = some q → (w1[k]? = some q ∧ k < w1.length) ∨ (wb[k - w1.length]? = some q ∧ w1.length ≤ k) := by
    intro k q hk9
    by_cases hl : k < w1.length
    · rw [List.getElem?_append_left hl] at hk9; exact Or.inl ⟨hk9, hl⟩
    · rw [List.getElem?_append_right (by omega)] at hk9; exact Or.inr ⟨hk9, by omega⟩
  have hx : xH D A H0 (w1 ++ wb) T'.heap (locs ++ L) := by
    refine ⟨fun k q hq9 => ?_, fun i j x y hi hj hxy => ?_, ⟨Nat.le_trans h3.1 (by rw [e1]; exact hz), fun q g1 g2 => ?_, fun q hq9 => ?_⟩, fun k q hq9 => ?_, h5⟩
    · rw [e1]
      rcases splitw k q hq9 with ⟨hq9, -⟩ | ⟨hq9, -⟩
      · exact hP1 k q hq9
      · obtain ⟨g1, g2⟩ := apart _ q hq9
        obtain ⟨e9, f1, f2⟩ := h1 _ q (wbn _ q hq9)
        exact ⟨e9, f1.kept (hk q.1 g1 g2), f2⟩
    · rcases splitw i x hi with ⟨hi, li⟩ | ⟨hi, li⟩ <;> rcases splitw j y hj with ⟨hj, lj⟩ | ⟨hj, lj⟩
      · exact hN1 i j x y hi hj hxy
      · exact absurd (hxy ▸ hA1 i x hi) (apart _ y hj).2
      · exact absurd (hxy ▸ hA1 j y hj : xA wa H.size x.1) (apart _ x hi).2
      · have := h2 _ _ _ _ (wbn _ x hi) (wbn _ y hj) hxy
        omega
    · rw [e1, hk q (Nat.lt_of_lt_of_le g1 h3.1) (fun z => g2 (inA q z))]
      exact h3.2.1 q g1 g2
    · rcases List.mem_append.mp hq9 with h9 | h9
      · exact h3.2.2 q h9
      · exact inA _ (hL q h9)
    · rcases splitw k q hq9 with ⟨hq9, -⟩ | ⟨hq9, -⟩
      · exact inA _ (hA1 k q hq9)
      · exact h4 _ q (wbn _ q hq9)
  obtain ⟨t2, a1, b1⟩ := kk v w1 hq T'.heap (locs ++ L) hx T' rfl X'
  exact ⟨t2, st t2 a1, b1⟩
def xDesc (y : MethodName) (n : Nat) : Prop := y.cls ≠ "java/lang/invoke/MethodHandle" ∧ y.cls ≠ "java/lang/invoke/VarHandle" ∧ (parseMethodDescriptor y.desc).map (fun d => d.parameters.length) = some n
/-- a static method, of any class of ours -/
theorem x_callS (B : xB p s m args meth c D ca own cc nL rt) {wa wb : xW} (h : xH D A H0 (wa ++ wb) H locs) {y : MethodName} {cy : ByteArray} {maxL : Nat} {ret : Option FieldType} {rm : Room} {av : List Value} {Qc : Option Value → xW → Prop} (hM : xC l D ca y cy maxL ret rm av wa Qc) {index n : Nat} (hc : Cond.code y cy maxL ret ∈ AW) (hl : Cond.methodLink own index y ∈ AW) (hst : Cond.static y ∈ AW) (hini : Cond.initialized y.cls ∈ AW) (hd : xDesc y n) (hn : av.length = n) (hR : rm.frames + 1 ≤ R.frames ∧ 8 + (maxL + 11) + rm.locals ≤ R.locals) (hf : cells + rm.cells ≤ R.cells ∧ slots + rm.slots ≤ R.slots) (hsz : ls.size = nL) (hW : (rest.map fun v => v.category).sum ≤ 8) {st0 : List Value} (hst0 : st0 = av.reverse ++ rest)
    (d : decode cc pc = .ok (.invokestatic index, 3)) (kk : ∀ (r : Option Value) (w1 : xW), Qc r w1 → ∀ (H1 : Heap) (locs1 : List Loc), xH D A H0 (w1 ++ wb) H1 locs1 → W p l e R s m args below meth c H1 locs1 (cells + rm.cells) (slots + rm.slots) Q (F0 m (pc + 3) ls (r.toList ++ rest))) : W p l e R s m args below meth c H locs cells slots Q (F0 m pc ls st0) := by
  have hts := B.2.2.2.2.1
  refine x_run (va_runS (As := av) (rest := rest) ⟨B.1, B.2.1, B.2.2.1, B.2.2.2.1, hts⟩ (hM H.size) ⟨callB_of n hts (xGood hc) rfl rfl rfl (hts _ hini) (hts _ hl) hd hR, hts _ hst⟩ (xPreS B h) rfl hn hsz hst0 (by show 2 * 0 + _ ≤ 8; omega) d hf) h kk
/-- a private static method of a nest mate -/
theorem x_callSN (B : xB p s m args meth c D ca own cc nL rt) {wa wb : xW} (h : xH D A H0 (wa ++ wb) H locs) {y : MethodName} {cy : ByteArray} {maxL : Nat} {ret : Option FieldType} {rm : Room} {av : List Value} {Qc : Option Value → xW → Prop} (hM : xC l D ca y cy maxL ret rm av wa Qc) {index n : Nat} {host : String} (hc : Cond.code y cy maxL ret ∈ AW) (hl : (own, index, y, host) ∈ xNM) (hst : Cond.static y ∈ AW) (hini : Cond.initialized y.cls ∈ AW) (hd : xDesc y n) (hn : av.length = n) (hR : rm.frames + 1 ≤ R.frames ∧ 8 + (maxL + 11) + rm.locals ≤ R.locals) (hf : cells + rm.cells ≤ R.cells ∧ slots + rm.slots ≤ R.slots) (hsz : ls.size = nL) (hW : (rest.map fun v => v.category).sum ≤ 8) {st0 : List Value} (hst0 : st0 = av.reverse ++ rest)
    (d : decode cc pc = .ok (.invokestatic index, 3)) (kk : ∀ (r : Option Value) (w1 : xW), Qc r w1 → ∀ (H1 : Heap) (locs1 : List Loc), xH D A H0 (w1 ++ wb) H1 locs1 → W p l e R s m args below meth c H1 locs1 (cells + rm.cells) (slots + rm.slots) Q (F0 m (pc + 3) ls (r.toList ++ rest))) : W p l e R s m args below meth c H locs cells slots Q (F0 m pc ls st0) := by
  have hts := B.2.2.2.2.1
  refine x_run (va_runSN (As := av) (rest := rest) (host := host) ⟨B.1, B.2.1, B.2.2.1, B.2.2.2.1, hts⟩ (hM H.size) ⟨va_cnB n hts (xGood hc) rfl rfl rfl (B.2.2.2.2.2.1.2.1 _ hl) (hts _ hini) hd hR, hts _ hst, trivial⟩ (xPreS B h) rfl hn hsz hst0 (by show 2 * 0 + _ ≤ 8; omega) d hf) h kk
theorem xRecv (B : xB p s m args meth c D ca own cc nL rt) (h : xH D A H0 w H locs) {ci N : Nat} {C : String} {T : u_T} {ty : Nat → FieldType} (K : xK1 ci C T N ty) (q0 : Nat) {a : Nat} {ps : List fP} (hq : w[q0]? = some (a, xO ci ps)) : ∃ cell : Cell, H[a]? = some cell ∧ cell.vm.isStatics = false ∧ s.vm.findClass C = some cell.cls := by
  obtain ⟨e1, h1, vs, rfl, hlen, hP⟩ := h.1 q0 _ hq
  exact va_recv B.2.2.2.2.2.1.1 (xone h1) (ci := ci) (q := (C, T, N)) (q0 := 0) K.1 rfl
/-- a method of an object -/
theorem x_callV (B : xB p s m args meth c D ca own cc nL rt) {wa wb : xW} (h : xH D A H0 (wa ++ wb) H locs) {ci N : Nat} {C : String} {T : u_T} {ty : Nat → FieldType} (K : xK1 ci C T N ty) (q0 : Nat) {a : Nat} {ps : List fP} (hq : (wa ++ wb)[q0]? = some (a, xO ci ps)) {y : MethodName} {cy : ByteArray} {maxL : Nat} {ret : Option FieldType} {rm : Room} {av : List Value} {Qc : Option Value → xW → Prop} (hM : xC l D ca y cy maxL ret rm (.ref a :: av) wa Qc) {index n : Nat} (hC : y.cls = C) (hc : Cond.code y cy maxL ret ∈ AW) (hl : Cond.methodLink own index y ∈ AW) (hin : Cond.instanceMethod y ∈ AW) (hse : Cond.selects C y y ∈ AW) (hini : Cond.initialized C ∈ AW) (hd : xDesc y n) (hn : av.length = n) (hR : rm.frames + 1 ≤ R.frames ∧ 8 + (maxL + 11) + rm.locals ≤ R.locals) (hf : cells + rm.cells ≤ R.cells ∧ slots + rm.slots ≤ R.slots) (hsz : ls.size = nL) (hW : (rest.map fun v => v.category).sum ≤ 8) {st0 : List Value} (hst0 : st0 = av.reverse ++ .ref a :: rest)
    (d : decode cc pc = .ok (.invokevirtual index, 3)) (kk : ∀ (r : Option Value) (w1 : xW), Qc r w1 → ∀ (H1 : Heap) (locs1 : List Loc), xH D A H0 (w1 ++ wb) H1 locs1 → W p l e R s m args below meth c H1 locs1 (cells + rm.cells) (slots + rm.slots) Q (F0 m (pc + 3) ls (r.toList ++ rest))) : W p l e R s m args below meth c H locs cells slots Q (F0 m pc ls st0) := by
  have hts := B.2.2.2.2.1
  subst hC
  have hp := xPreS (av := .ref a :: av) B h
  refine x_run (va_runV (As := av) (rest := rest) (b := a) ⟨B.1, B.2.1, B.2.2.1, B.2.2.2.1, hts⟩ (hM H.size) ⟨callB_of n hts (xGood hc) rfl rfl rfl (hts _ hini) (hts _ hl) hd hR, hts _ hin, hts _ hse⟩ ⟨hp.1, xRecv B h K q0 hq, hp.2⟩ rfl hn hsz hst0 (by show 2 * 0 + _ ≤ 8; omega) d hf) h kk
/-- a constructor -/
theorem x_callI (B : xB p s m args meth c D ca own cc nL rt) {wa wb : xW} (h : xH D A H0 (wa ++ wb) H locs) {a : Nat} {y : MethodName} {cy : ByteArray} {maxL : Nat} {rm : Room} {av : List Value} {Qc : Option Value → xW → Prop} (hM : xC l D ca y cy maxL none rm (.ref a :: av) wa Qc) {index n : Nat} (hy : y.name = "<init>") (hc : Cond.code y cy maxL none ∈ AW) (hl : Cond.methodLink own index y ∈ AW) (hin : Cond.instanceMethod y ∈ AW) (hini : Cond.initialized y.cls ∈ AW) (hd : xDesc y n) (hn : av.length = n) (hR : rm.frames + 1 ≤ R.frames ∧ 8 + (maxL + 11) + rm.locals ≤ R.locals) (hf : cells + rm.cells ≤ R.cells ∧ slots + rm.slots ≤ R.slots) (hsz : ls.size = nL) (hW : (rest.map fun v => v.category).sum ≤ 8) {st0 : List Value} (hst0 : st0 = av.reverse ++ .ref a :: rest)
    (d : decode cc pc = .ok (.invokespecial index, 3)) (kk : ∀ (r : Option Value) (w1 : xW), Qc r w1 → ∀ (H1 : Heap) (locs1 : List Loc), xH D A H0 (w1 ++ wb) H1 locs1 → W p l e R s m args below meth c H1 locs1 (cells + rm.cells) (slots + rm.slots) Q (F0 m (pc + 3) ls (r.toList ++ rest))) : W p l e R s m args below meth c H locs cells slots Q (F0 m pc ls st0) := by
  have hts := B.2.2.2.2.1
  refine x_run (va_runI (As := av) (rest := rest) (b := a) ⟨B.1, B.2.1, B.2.2.1, B.2.2.2.1, hts⟩ (hM H.size) ⟨callB_of n hts (xGood hc) rfl rfl rfl (hts _ hini) (hts _ hl) hd hR, hy, hts _ hin⟩ (xPreS (av := .ref a :: av) B h) rfl hn hsz hst0 (by show 2 * 0 + _ ≤ 8; omega) d hf) h kk
/-- a private constructor of a nest mate -/
theorem x_callIN (B : xB p s m args meth c D ca own cc nL rt) {wa wb : xW} (h : xH D A H0 (wa ++ wb) H locs) {a : Nat} {y : MethodName} {cy : ByteArray} {maxL : Nat} {rm : Room} {av : List Value} {Qc : Option Value → xW → Prop} (hM : xC l D ca y cy maxL none rm (.ref a :: av) wa Qc) {index n : Nat} {host : String} (hy : y.name = "<init>") (hc : Cond.code y cy maxL none ∈ AW) (hl : (own, index, y, host) ∈ xNM) (hin : Cond.instanceMethod y ∈ AW) (hini : Cond.initialized y.cls ∈ AW) (hd : xDesc y n) (hn : av.length = n) (hR : rm.frames + 1 ≤ R.frames ∧ 8 + (maxL + 11) + rm.locals ≤ R.locals) (hf : cells + rm.cells ≤ R.cells ∧ slots + rm.slots ≤ R.slots) (hsz : ls.size = nL) (hW : (rest.map fun v => v.category).sum ≤ 8) {st0 : List Value} (hst0 : st0 = av.reverse ++ .ref a :: rest)
    (d : decode cc pc = .ok (.invokespecial index, 3)) (kk : ∀ (r : Option Value) (w1 : xW), Qc r w1 → ∀ (H1 : Heap) (locs1 : List Loc), xH D A H0 (w1 ++ wb) H1 locs1 → W p l e R s m args below meth c H1 locs1 (cells + rm.cells) (slots + rm.slots) Q (F0 m (pc + 3) ls (r.toList ++ rest))) : W p l e R s m args below meth c H locs cells slots Q (F0 m pc ls st0) := by
  have hts := B.2.2.2.2.1
  refine x_run (va_runIN (As := av) (rest := rest) (b := a) (host := host) ⟨B.1, B.2.1, B.2.2.1, B.2.2.2.1, hts⟩ (hM H.size) ⟨va_cnB n hts (xGood hc) rfl rfl rfl (B.2.2.2.2.2.1.2.1 _ hl) (hts _ hini) hd hR, hy, hts _ hin⟩ (xPreS (av := .ref a :: av) B h) rfl hn hsz hst0 (by show 2 * 0 + _ ≤ 8; omega) d hf) h kk
/-- Object's own constructor -/
theorem x_obj (B : xB p s m args meth c D ca own cc nL rt) {a idx : Nat} (hl : Cond.methodLink own idx Lib.objectInit ∈ AW) (hin : Cond.instanceMethod Lib.objectInit ∈ AW) (hc : Cond.code Lib.objectInit ⟨#[0xb1]⟩ 1 none ∈ AW) (hsz : ls.size = nL) (hW : (rest.map fun v => v.category).sum ≤ 8) (hR : 1 ≤ R.frames ∧ 20 ≤ R.locals) (d : decode cc pc = .ok (.invokespecial idx, 3))
    (k : W p l e R s m args below meth c H locs cells slots Q (F0 m (pc + 3) ls rest)) : W p l e R s m args below meth c H locs cells slots Q (F0 m pc ls (.ref a :: rest)) := by
  have hts := B.2.2.2.2.1
  exact W.objInit B.1 B.2.1 B.2.2.2.1 (hts _ hl) (hts _ hin) (hts _ hc) rfl (by rw [B.2.2.1]; exact hsz) rfl d hR.1 (by show 2 * 0 + _ + 12 ≤ _; omega) k
end XCALL
