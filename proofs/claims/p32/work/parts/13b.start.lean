/-! worlds side by side, seen by less; what the tables give at the start -/
theorem xH.swap {D : va_G} {A : Nat → Prop} {H0 H : Heap} {w1 w2 : xW} {locs : List Loc} (h : xH D A H0 (w1 ++ w2) H locs) : xH D A H0 (w2 ++ w1) H locs := by
  obtain ⟨h1, h2, h3, h4, h5⟩ := h
  have key : ∀ (k : Nat) (q : Nat × xPd), (w2 ++ w1)[k]? = some q → (w1 ++ w2)[if k < w2.length then w1.length + k else k - w2.length]? = some q := by
    intro k q hk
    by_cases hl : k < w2.length
    · rw [if_pos hl, List.getElem?_append_right (by omega), show w1.length + k - w1.length = k by omega]
      rw [List.getElem?_append_left hl] at hk
      exact hk
    · rw [if_neg hl]
      rw [List.getElem?_append_right (by omega)] at hk
      have := (List.getElem?_eq_some_iff.mp hk).1
      rw [List.getElem?_append_left (by omega)]
      exact hk
  have len : ∀ (k : Nat) (q : Nat × xPd), (w2 ++ w1)[k]? = some q → k < w2.length + w1.length := fun k q hk => by
    have := (List.getElem?_eq_some_iff.mp hk).1
    rwa [List.length_append] at this
  refine ⟨fun k q hk => h1 _ q (key k q hk), fun i j p q hi hj hpq => ?_, h3, fun k q hk => h4 _ q (key k q hk), h5⟩
  have h9 := h2 _ _ p q (key i p hi) (key j q hj) hpq
  have li := len i p hi
  have lj := len j q hj
  by_cases a : i < w2.length <;> by_cases b : j < w2.length
  · rw [if_pos a, if_pos b] at h9; omega
  · rw [if_pos a, if_neg b] at h9; omega
  · rw [if_neg a, if_pos b] at h9; omega
  · rw [if_neg a, if_neg b] at h9; omega
def xLe : xW → xW → Prop
  | [], [] => True
  | x :: t, y :: u => (x.1 = y.1 ∧ ∀ e : va_E, x.2 e → y.2 e) ∧ xLe t u
  | _, _ => False
theorem xLe_at : ∀ (w v : xW), xLe w v → ∀ (k : Nat) (q : Nat × xPd), v[k]? = some q → ∃ p : Nat × xPd, w[k]? = some p ∧ p.1 = q.1 ∧ ∀ e : va_E, p.2 e → q.2 e
  | [], [], _, k, q, hk => by simp at hk
  | x :: t, y :: u, h, 0, q, hk => by
    simp at hk
    subst hk
    exact ⟨x, rfl, h.1.1, h.1.2⟩
  | x :: t, y :: u, h, k + 1, q, hk => by
    obtain ⟨p, h1, h2⟩ := xLe_at t u h.2 k q (by simpa using hk)
    exact ⟨p, by simpa using h1, h2⟩
  | [], y :: u, h, k, q, hk => by cases h
  | x :: t, [], h, k, q, hk => by cases h
theorem xH.mono {D : va_G} {A : Nat → Prop} {H0 H : Heap} {w v : xW} {locs : List Loc} (h : xH D A H0 w H locs) (hl : xLe w v) : xH D A H0 v H locs := by
  obtain ⟨h1, h2, h3, h4, h5⟩ := h
  refine ⟨fun k q hk => ?_, fun i j p q hi hj hpq => ?_, h3, fun k q hk => ?_, h5⟩
  · obtain ⟨p, g1, g2, g3⟩ := xLe_at w v hl k q hk
    obtain ⟨e, f1, f2⟩ := h1 k p g1
    exact ⟨e, by rw [← g2]; exact f1, g3 e f2⟩
  · obtain ⟨p', g1, g2, -⟩ := xLe_at w v hl i p hi
    obtain ⟨q', k1, k2, -⟩ := xLe_at w v hl j q hj
    exact h2 i j p' q' g1 k1 (by rw [g2, k2, hpq])
  · obtain ⟨p, g1, g2, -⟩ := xLe_at w v hl k q hk
    rw [← g2]; exact h4 k p g1
theorem xLe_app : ∀ {w v w2 v2 : xW}, xLe w v → xLe w2 v2 → xLe (w ++ w2) (v ++ v2)
  | [], [], _, _, _, h => h
  | x :: t, y :: u, w2, v2, h, h2 => ⟨h.1, xLe_app (w := t) (v := u) h.2 h2⟩
  | [], y :: u, _, _, h, _ => by cases h
  | x :: t, [], _, _, h, _ => by cases h
theorem xLe_rf : ∀ w : xW, xLe w w
  | [] => trivial
  | x :: t => ⟨⟨rfl, fun _ h => h⟩, xLe_rf t⟩
/-- fields seen by less -/
def fLe : List fP → List fP → Prop
  | [], [] => True
  | P :: t, Q :: u => (∀ v : Value, P v → Q v) ∧ fLe t u
  | _, _ => False
theorem fLe_at : ∀ (ps qs : List fP), fLe ps qs → ps.length = qs.length ∧ ∀ (k : Nat) (P Q : fP), ps[k]? = some P → qs[k]? = some Q → ∀ v : Value, P v → Q v
  | [], [], _ => ⟨rfl, fun k P Q hk _ => by simp at hk⟩
  | P :: t, Q :: u, h => by
    obtain ⟨h1, h2⟩ := fLe_at t u h.2
    refine ⟨by simp [h1], fun k P' Q' hk hq => ?_⟩
    match k, hk, hq with
    | 0, hk, hq =>
      simp at hk hq
      subst hk; subst hq
      exact h.1
    | k + 1, hk, hq => exact h2 k P' Q' (by simpa using hk) (by simpa using hq)
  | [], Q :: u, h => by cases h
  | P :: t, [], h => by cases h
theorem xO_le {ci : Nat} {ps qs : List fP} (h : fLe ps qs) : ∀ e : va_E, xO ci ps e → xO ci qs e := fun e he => by
  obtain ⟨vs, rfl, hl, hv⟩ := he
  obtain ⟨h1, h2⟩ := fLe_at ps qs h
  refine ⟨vs, rfl, by rw [hl, h1], fun k v Q hk hq => ?_⟩
  have hkl : k < ps.length := by rw [h1]; exact (List.getElem?_eq_some_iff.mp hq).1
  exact h2 k _ Q (List.getElem?_eq_getElem hkl) hq v (hv k v _ hk (List.getElem?_eq_getElem hkl))
theorem xAI_any {cA : ClassId} {n : Nat} {P : (Nat → Int32) → Prop} : ∀ e : va_E, xAI cA n P e → xAI cA n gA e := fun e he => by
  obtain ⟨f, rfl, -⟩ := he; exact ⟨f, rfl, trivial⟩
theorem xAL_any {cA : ClassId} {n : Nat} {P : (Nat → Int64) → Prop} : ∀ e : va_E, xAL cA n P e → xAL cA n (fun _ => True) e := fun e he => by
  obtain ⟨f, rfl, -⟩ := he; exact ⟨f, rfl, trivial⟩
theorem xAI_G0 {cA : ClassId} {n : Nat} {lo hi : Int} (h : lo ≤ 0 ∧ 0 ≤ hi) : ∀ e : va_E, xAI cA n (gX n (fun _ => 0)) e → xAI cA n (gG n lo hi) e := fun e he => by
  obtain ⟨f, rfl, hf⟩ := he; exact ⟨f, rfl, fun j hj => ⟨0, hf j hj, h.1, h.2⟩⟩
theorem fX_G {z lo hi : Int} (h : lo ≤ z ∧ z ≤ hi) : ∀ v : Value, fX z v → fG lo hi v := fun v hv => ⟨z, hv, h.1, h.2⟩
theorem fL_L : ∀ v : Value, fL v → fL v := fun _ h => h
theorem xRA_prim {s : State} {ty : FieldType} (hno : ∀ C, ty ≠ .object C) {args : Array Value} (h : (Cond.arrayClass ty).before args s = true) : ∃ cA : ClassId, ArrOfT s cA ty ∧ va_RA s cA ty := by
  obtain ⟨cA, kA, comp, h1, h2, h3⟩ := Cond.arrayClass_spec h
  refine ⟨cA, fun n z => ⟨fun k h => (by cases h), kA, h2, comp, h3⟩, ?_⟩
  unfold va_RA
  cases ty with
  | object C => exact absurd rfl (hno C)
  | _ => exact h1
theorem xRA_obj {s : State} {C : String} (h : va_AO C s) : ∃ cA : ClassId, ArrOfT s cA (.object C) ∧ va_RA s cA (.object C) := by
  obtain ⟨comp, c, k, h1, h2, h3, h4, h5⟩ := Cond.arrayOver_spec h
  exact ⟨c, fun n z => ⟨fun k h => (by cases h), k, h3, comp, h4⟩, k, comp, h3, h4, h1, h5⟩
theorem xKn {s : State} {args : Array Value} (hA : ∀ w ∈ AW, w.before args s = true) {ci N n : Nat} {C : String} {T : u_T} {ty : Nat → FieldType} (K : xK1 ci C T N ty) (hi : Cond.instantiable C n ∈ AW) : ∃ (cC : ClassId) (iS : Nat → Nat), u_Kn s C T N cC iS := u_known hA K.2.1 (hA _ hi)
/-- the law reads its script -/
theorem x_sld {p : Program} {l : Launch} {e : Env} {R : Room} {s : State} {m : MethodId} {args : Array Value} {below : List Frame} {meth : Method} {c : Code} {H : Heap} {locs : List Loc} {cells slots : Nat} {Qf : State → Prop} {cc : ByteArray} {nL : Nat} {rt : Option FieldType} {own : String} {D : va_G} {ca : Nat → ClassId} {A : Nat → Prop} {w : xW} {pc : Nat} {ls : Array Slot} {rest : List Value}
    (B : xB p s m args meth c D ca own cc nL rt) (h : xH D A s.heap w H locs) {b L : Nat} {xs : Nat → Int32} (hX : va_X b L xs s s.heap) (hbl : b < s.heap.size) (hbA : ¬ A b) {i : Int} (k : Nat) (hi : xr i ∧ i = k ∧ k < L) (d : decode cc pc = .ok (.iaload, 1)) (kk : W p l e R s m args below meth c H locs cells slots Qf (F0 m (pc + 1) ls (.int (iI (xs k).toInt) :: rest))) : W p l e R s m args below meth c H locs cells slots Qf (F0 m pc ls (.int (iI i) :: .ref b :: rest)) := by
  refine va_sld B.1 B.2.1 hX hbl hbA h.2.2.1 ((iI_in hi.1).mpr (by omega)) d ?_
  rw [iI_clamp hi.1, show i.toNat = k by omega, iI_of (xs k)]
  exact kk
theorem x_slen {p : Program} {l : Launch} {e : Env} {R : Room} {s : State} {m : MethodId} {args : Array Value} {below : List Frame} {meth : Method} {c : Code} {H : Heap} {locs : List Loc} {cells slots : Nat} {Qf : State → Prop} {cc : ByteArray} {nL : Nat} {rt : Option FieldType} {own : String} {D : va_G} {ca : Nat → ClassId} {A : Nat → Prop} {w : xW} {pc : Nat} {ls : Array Slot} {rest : List Value}
    (B : xB p s m args meth c D ca own cc nL rt) (h : xH D A s.heap w H locs) {b L : Nat} {xs : Nat → Int32} (hX : va_X b L xs s s.heap) (hbl : b < s.heap.size) (hbA : ¬ A b) (d : decode cc pc = .ok (.arraylength, 1)) (kk : W p l e R s m args below meth c H locs cells slots Qf (F0 m (pc + 1) ls (.int (iI (L : Int)) :: rest))) : W p l e R s m args below meth c H locs cells slots Qf (F0 m pc ls (.ref b :: rest)) :=
  va_slen B.1 B.2.1 hX hbl hbA h.2.2.1 d kk
section XW2
variable {p : Program} {l : Launch} {e : Env} {R : Room} {s : State} {m : MethodId} {args : Array Value} {below : List Frame} {meth : Method} {c : Code} {H : Heap} {locs : List Loc} {cells slots : Nat} {Qf : State → Prop}
variable {cc : ByteArray} {nL : Nat} {rt : Option FieldType} {own : String} {D : va_G} {ca : Nat → ClassId} {A : Nat → Prop} {H0 : Heap} {w : xW} {pc : Nat} {ls : Array Slot} {rest : List Value}
theorem x_cI0 (B : xB p s m args meth c D ca own cc nL rt) (h : xH D A H0 w H locs) {a : Nat} {y : MethodName} {cy : ByteArray} {maxL n : Nat} (M : xMI y cy maxL n) {rm : Room} {av : List Value} {Qc : Option Value → xW → Prop} (hM : xC l D ca y cy maxL none rm (.ref a :: av) w Qc) {index : Nat} (hl : Cond.methodLink own index y ∈ AW) (hn : av.length = n) (hR : xRoom rm R maxL cells slots) (hsz : ls.size = nL) {st0 : List Value} (rest : List Value) (hW : (rest.map fun v => v.category).sum ≤ 8) (hst0 : st0 = av.reverse ++ .ref a :: rest)
    (d : decode cc pc = .ok (.invokespecial index, 3)) (kk : ∀ (r : Option Value) (w1 : xW), Qc r w1 → ∀ (H1 : Heap) (locs1 : List Loc), xH D A H0 w1 H1 locs1 → W p l e R s m args below meth c H1 locs1 (cells + rm.cells) (slots + rm.slots) Qf (F0 m (pc + 3) ls (r.toList ++ rest))) : W p l e R s m args below meth c H locs cells slots Qf (F0 m pc ls st0) :=
  x_cI (wb := []) B (by rw [List.append_nil]; exact h) M hM hl hn hR hsz rest hW hst0 d (fun r w1 hq H1 locs1 h1 => kk r w1 hq H1 locs1 (by rw [List.append_nil] at h1; exact h1))
theorem x_cIN0 (B : xB p s m args meth c D ca own cc nL rt) (h : xH D A H0 w H locs) {a : Nat} {y : MethodName} {cy : ByteArray} {maxL n : Nat} (M : xMI y cy maxL n) {rm : Room} {av : List Value} {Qc : Option Value → xW → Prop} (hM : xC l D ca y cy maxL none rm (.ref a :: av) w Qc) {index : Nat} {host : String} (hl : (own, index, y, host) ∈ xNM) (hn : av.length = n) (hR : xRoom rm R maxL cells slots) (hsz : ls.size = nL) {st0 : List Value} (rest : List Value) (hW : (rest.map fun v => v.category).sum ≤ 8) (hst0 : st0 = av.reverse ++ .ref a :: rest)
    (d : decode cc pc = .ok (.invokespecial index, 3)) (kk : ∀ (r : Option Value) (w1 : xW), Qc r w1 → ∀ (H1 : Heap) (locs1 : List Loc), xH D A H0 w1 H1 locs1 → W p l e R s m args below meth c H1 locs1 (cells + rm.cells) (slots + rm.slots) Qf (F0 m (pc + 3) ls (r.toList ++ rest))) : W p l e R s m args below meth c H locs cells slots Qf (F0 m pc ls st0) :=
  x_cIN (wb := []) B (by rw [List.append_nil]; exact h) M hM hl hn hR hsz rest hW hst0 d (fun r w1 hq H1 locs1 h1 => kk r w1 hq H1 locs1 (by rw [List.append_nil] at h1; exact h1))
/-- a call by one that holds more: the callee's world wa, the rest wb as it was -/
theorem x_cVF (B : xB p s m args meth c D ca own cc nL rt) {wa wb : xW} (h : xH D A H0 (wa ++ wb) H locs) {ci N : Nat} {C : String} {T : u_T} {ty : Nat → FieldType} (K : xK1 ci C T N ty) (q0 : Nat) {a : Nat} {ps : List fP} (hq : wa[q0]? = some (a, xO ci ps)) {y : MethodName} {cy : ByteArray} {maxL n : Nat} {ret : Option FieldType} (M : xMV y cy maxL ret n) (hC : y.cls = C) {rm : Room} {av : List Value} {Qc : Option Value → xW → Prop} (hM : xC l D ca y cy maxL ret rm (.ref a :: av) wa Qc) {index : Nat} (hl : Cond.methodLink own index y ∈ AW) (hn : av.length = n) (hR : xRoom rm R maxL cells slots) (hsz : ls.size = nL) {st0 : List Value} (rest : List Value) (hW : (rest.map fun v => v.category).sum ≤ 8) (hst0 : st0 = av.reverse ++ .ref a :: rest)
    (d : decode cc pc = .ok (.invokevirtual index, 3)) (kk : ∀ (r : Option Value) (w1 : xW), Qc r w1 → ∀ (H1 : Heap) (locs1 : List Loc), xH D A H0 (w1 ++ wb) H1 locs1 → W p l e R s m args below meth c H1 locs1 (cells + rm.cells) (slots + rm.slots) Qf (F0 m (pc + 3) ls (r.toList ++ rest))) : W p l e R s m args below meth c H locs cells slots Qf (F0 m pc ls st0) := by
  subst hC
  exact x_callV B h K q0 (xapp_l hq) hM rfl M.1 hl M.2.1 M.2.2.1 M.2.2.2.1 M.2.2.2.2 hn hR.1 hR.2 hsz hW hst0 d kk
end XW2
theorem xLe_cons {x y : Nat × xPd} {t u : xW} (a : x.1 = y.1) (b : ∀ e : va_E, x.2 e → y.2 e) (c : xLe t u) : xLe (x :: t) (y :: u) := ⟨⟨a, b⟩, c⟩
theorem xLe_nil : xLe [] [] := trivial
theorem fLe_cons {P Q : fP} {t u : List fP} (a : ∀ v : Value, P v → Q v) (c : fLe t u) : fLe (P :: t) (Q :: u) := ⟨a, c⟩
theorem fLe_nil : fLe [] [] := trivial
theorem xH.start {D : va_G} {H0 : Heap} : xH D (fun q : Nat => H0.size ≤ q) H0 [] H0 [] :=
  ⟨fun k q h => by simp at h, fun i j p q h => by simp at h, va_S.rf, fun k q h => by simp at h, fun q h => h⟩
