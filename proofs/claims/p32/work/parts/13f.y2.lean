section YHEAP
variable {p : Program} {l : Launch} {e : Env} {R : Room} {s : State} {m : MethodId} {args : Array Value} {below : List Frame} {meth : Method} {c : Code} {H : Heap} {locs : List Loc} {cells slots : Nat} {Q : State → Prop}
variable {cc : ByteArray} {nL : Nat} {rt : Option FieldType} {own : String} {D : va_G} {Zk : yK} {ca : Nat → ClassId} {A : Nat → Prop} {w : yW} {pc : Nat} {ls : Array Slot} {rest : List Value}
theorem y_get (B : xB p s m args meth c D ca own cc nL rt) (h : yH D Zk A s w H locs) {ci N : Nat} {C : String} {T : u_T} {ty : Nat → FieldType} (K : xK1 ci C T N ty) (q0 : Nat) {a : Nat} {ps : List fP} (hq : w q0 = some (a, xO ci ps)) (k : Nat) {P : fP} (hp : ps[k]? = some P) {index : Nat} (hl : Cond.fieldLink own index (T k).1 (T k).2.1 (T k).2.2.1 ∈ AW) (hk : k < N)
    (d : decode cc pc = .ok (.getfield index, 3)) (kk : ∀ v : Value, P v → W p l e R s m args below meth c H locs cells slots Q (F0 m (pc + 3) ls (v :: rest))) : W p l e R s m args below meth c H locs cells slots Q (F0 m pc ls (.ref a :: rest)) := by
  obtain ⟨e1, h1, vs, rfl, hlen, hP⟩ := h.1 q0 _ hq
  have hkl : k < vs.length := by rw [hlen]; exact (List.getElem?_eq_some_iff.mp hp).1
  exact va_get B.1 B.2.1 B.2.2.2.2.1 K.2.1 B.2.2.2.1 B.2.2.2.2.2.1.1 (xone h1) 0 rfl K.1 k hk (B.2.2.2.2.1 _ hl) (fun _ h9 => h9) (List.getElem?_eq_getElem hkl) d (kk _ (hP k _ P (List.getElem?_eq_getElem hkl) hp))
theorem y_getR (B : xB p s m args meth c D ca own cc nL rt) (h : yH D Zk A s w H locs) {ci N : Nat} {C : String} {T : u_T} {ty : Nat → FieldType} (K : xK1 ci C T N ty) (q0 : Nat) {a : Nat} {ps : List fP} (hq : w q0 = some (a, xO ci ps)) (k : Nat) {b : Nat} (hp : ps[k]? = some (fR b)) {index : Nat} (hl : Cond.fieldLink own index (T k).1 (T k).2.1 (T k).2.2.1 ∈ AW) (hk : k < N) (d : decode cc pc = .ok (.getfield index, 3)) (kk : W p l e R s m args below meth c H locs cells slots Q (F0 m (pc + 3) ls (.ref b :: rest))) : W p l e R s m args below meth c H locs cells slots Q (F0 m pc ls (.ref a :: rest)) := y_get B h K q0 hq k hp hl hk d (fun v hv => by cases hv; exact kk)
theorem y_getX (B : xB p s m args meth c D ca own cc nL rt) (h : yH D Zk A s w H locs) {ci N : Nat} {C : String} {T : u_T} {ty : Nat → FieldType} (K : xK1 ci C T N ty) (q0 : Nat) {a : Nat} {ps : List fP} (hq : w q0 = some (a, xO ci ps)) (k : Nat) {z : Int} (hp : ps[k]? = some (fX z)) {index : Nat} (hl : Cond.fieldLink own index (T k).1 (T k).2.1 (T k).2.2.1 ∈ AW) (hk : k < N) (d : decode cc pc = .ok (.getfield index, 3)) (kk : W p l e R s m args below meth c H locs cells slots Q (F0 m (pc + 3) ls (.int (iI z) :: rest))) : W p l e R s m args below meth c H locs cells slots Q (F0 m pc ls (.ref a :: rest)) := y_get B h K q0 hq k hp hl hk d (fun v hv => by cases hv; exact kk)
theorem y_getG (B : xB p s m args meth c D ca own cc nL rt) (h : yH D Zk A s w H locs) {ci N : Nat} {C : String} {T : u_T} {ty : Nat → FieldType} (K : xK1 ci C T N ty) (q0 : Nat) {a : Nat} {ps : List fP} (hq : w q0 = some (a, xO ci ps)) (k : Nat) {lo hi : Int} (hp : ps[k]? = some (fG lo hi)) {index : Nat} (hl : Cond.fieldLink own index (T k).1 (T k).2.1 (T k).2.2.1 ∈ AW) (hk : k < N) (d : decode cc pc = .ok (.getfield index, 3)) (kk : ∀ z : Int, lo ≤ z → z ≤ hi → W p l e R s m args below meth c H locs cells slots Q (F0 m (pc + 3) ls (.int (iI z) :: rest))) : W p l e R s m args below meth c H locs cells slots Q (F0 m pc ls (.ref a :: rest)) := y_get B h K q0 hq k hp hl hk d (fun v hv => by obtain ⟨z, rfl, z1, z2⟩ := hv; exact kk z z1 z2)
theorem y_getN (B : xB p s m args meth c D ca own cc nL rt) (h : yH D Zk A s w H locs) {ci N : Nat} {C : String} {T : u_T} {ty : Nat → FieldType} (K : xK1 ci C T N ty) (q0 : Nat) {a : Nat} {ps : List fP} (hq : w q0 = some (a, xO ci ps)) (k : Nat) {P : fP} (hp : ps[k]? = some P) {index : Nat} {host : String} (hl : (own, index, (T k).1, (T k).2.1, (T k).2.2.1, host) ∈ xNF) (hk : k < N)
    (d : decode cc pc = .ok (.getfield index, 3)) (kk : ∀ v : Value, P v → W p l e R s m args below meth c H locs cells slots Q (F0 m (pc + 3) ls (v :: rest))) : W p l e R s m args below meth c H locs cells slots Q (F0 m pc ls (.ref a :: rest)) := by
  obtain ⟨e1, h1, vs, rfl, hlen, hP⟩ := h.1 q0 _ hq
  have hkl : k < vs.length := by rw [hlen]; exact (List.getElem?_eq_some_iff.mp hp).1
  exact va_getN (host := host) B.1 B.2.1 B.2.2.2.2.1 K.2.1 B.2.2.2.1 B.2.2.2.2.2.1.1 (xone h1) 0 rfl K.1 k hk (va_Nw.use rfl (B.2.2.2.2.2.1.2.2.1 _ hl)) (fun _ h9 => h9) (List.getElem?_eq_getElem hkl) d (kk _ (hP k _ P (List.getElem?_eq_getElem hkl) hp))
theorem y_put (B : xB p s m args meth c D ca own cc nL rt) (h : yH D Zk A s w H locs) {ci N : Nat} {C : String} {T : u_T} {ty : Nat → FieldType} (K : xK1 ci C T N ty) (q0 : Nat) {a : Nat} {ps : List fP} (hq : w q0 = some (a, xO ci ps)) (k : Nat) (hps : k < ps.length) {P' : fP} {v : Value} {index : Nat} (hl : Cond.fieldLink own index (T k).1 (T k).2.1 (T k).2.2.1 ∈ AW) (hk : k < N) (hpv : P' v) (hfin : (T k).2.2.2 = false) (hn : narrow (ty k) v = v) (hfit : fits (ty k) v = true)
    (d : decode cc pc = .ok (.putfield index, 3)) (kk : ∀ (H1 : Heap) (locs1 : List Loc), yH D Zk A s (wu w q0 (a, xO ci (ps.set k P'))) H1 locs1 → W p l e R s m args below meth c H1 locs1 cells slots Q (F0 m (pc + 3) ls (rest))) : W p l e R s m args below meth c H locs cells slots Q (F0 m pc ls (v :: .ref a :: rest)) := by
  obtain ⟨e1, h1, vs, rfl, hlen, hP⟩ := h.1 q0 _ hq
  have hkl : k < vs.length := by rw [hlen]; exact hps
  have hap := va_apart (own := own) B.2.2.2.2.1 K.2.1 ty K.2.2.1 K.2.2.2 B.2.2.2.2.2.1.1 K.1
  obtain ⟨r, h3, cell, q1, q2, q3, q4⟩ := h1
  have hr : r = (C, T, N) := Option.some.inj (h3.symm.trans K.1)
  subst hr
  obtain ⟨hS, hfc, kC, hkC, hkind⟩ := B.2.2.2.2.2.1.1.1 ci _ K.1
  obtain ⟨cf, kf, fi, f, hi, hsl⟩ := hS k hk
  have hlay := B.2.2.2.2.1 _ (K.2.1 _ (u_in_lay hk))
  unfold u_lay at hlay
  rw [if_neg (by rw [hfin]; decide)] at hlay
  have hst := (u_facts hfc hkC (u_lays B.2.2.2.2.1 K.2.1 hk) hi).1
  have h6 := u_store hfc hkC hkind hlay hi (K.2.2.1 k hk) hn hfit
  refine W.putK B.1 B.2.1 (f := f) ⟨B.2.2.2.1, B.2.2.2.2.1 _ hl, ⟨_, _, _, hi⟩, hst⟩ (by rw [q2]; exact h6) q1 q3 (by rw [hsl]; exact k2_hasslot (q4 k hk)) rfl rfl d fun H' e1 e2 e3 => ?_
  rw [hsl] at e1 ⊢
  refine kk H' _ (h.put hq (e' := .inr (ci, vs.set k v)) ⟨_, K.1, t_OB.to (V := updV (vp_V vs) k v) ⟨_, e1, q2, q3, t_set q4 hap hk v⟩ (fun j _ => vp_updV_set hkl v j)⟩ ⟨vs.set k v, rfl, ?_, ?_⟩ e2 e3)
  · rw [List.length_set, List.length_set, hlen]
  · intro k' v' P1 hv' hP1
    by_cases hkk : k' = k
    · subst hkk
      rw [List.getElem?_set_self hkl] at hv'
      rw [List.getElem?_set_self hps] at hP1
      cases hv'; cases hP1
      exact hpv
    · rw [List.getElem?_set_ne (Ne.symm hkk)] at hv' hP1
      exact hP k' v' P1 hv' hP1
theorem y_putF (B : xB p s m args meth c D ca own cc nL rt) (h : yH D Zk A s w H locs) {ci N : Nat} {C : String} {T : u_T} {ty : Nat → FieldType} (K : xK1 ci C T N ty) (q0 : Nat) {a : Nat} {ps : List fP} (hq : w q0 = some (a, xO ci ps)) (k : Nat) (hps : k < ps.length) {P' : fP} {v : Value} {index : Nat} (hl : Cond.fieldLink own index (T k).1 (T k).2.1 (T k).2.2.1 ∈ AW) (hk : k < N) (hpv : P' v) (hfin : (T k).2.2.2 = true) (hin2 : meth.name = "<init>") (hdecl : (T k).1 = own) (hn : narrow (ty k) v = v) (hfit : fits (ty k) v = true)
    (d : decode cc pc = .ok (.putfield index, 3)) (kk : ∀ (H1 : Heap) (locs1 : List Loc), yH D Zk A s (wu w q0 (a, xO ci (ps.set k P'))) H1 locs1 → W p l e R s m args below meth c H1 locs1 cells slots Q (F0 m (pc + 3) ls (rest))) : W p l e R s m args below meth c H locs cells slots Q (F0 m pc ls (v :: .ref a :: rest)) := by
  obtain ⟨e1, h1, vs, rfl, hlen, hP⟩ := h.1 q0 _ hq
  have hkl : k < vs.length := by rw [hlen]; exact hps
  have hap := va_apart (own := own) B.2.2.2.2.1 K.2.1 ty K.2.2.1 K.2.2.2 B.2.2.2.2.2.1.1 K.1
  obtain ⟨r, h3, cell, q1, q2, q3, q4⟩ := h1
  have hr : r = (C, T, N) := Option.some.inj (h3.symm.trans K.1)
  subst hr
  obtain ⟨hS, hfc, kC, hkC, hkind⟩ := B.2.2.2.2.2.1.1.1 ci _ K.1
  obtain ⟨cf, kf, fi, f, hi, hsl⟩ := hS k hk
  have hlay := B.2.2.2.2.1 _ (K.2.1 _ (u_in_lay hk))
  unfold u_lay at hlay
  rw [if_pos hfin] at hlay
  have hst := (u_facts hfc hkC (u_lays B.2.2.2.2.1 K.2.1 hk) hi).1
  have hcf : m.cls = cf := by
    obtain ⟨_, _, c', _, _, _, -, -, hf', -, -, -, hown2, -⟩ := Cond.laysFinal_spec hlay
    have e1 : c' = cf := by have := hi.symm.trans hf'; simp at this; exact this.1.symm
    rw [hdecl] at hown2
    rw [← e1]; exact Option.some.inj (B.2.2.2.1.symm.trans hown2)
  have h6 := u_fits hfc hkC hkind (Or.inr hlay) hi (K.2.2.1 k hk) hn hfit
  refine W.putFinK B.1 B.2.1 B.2.2.2.1 (B.2.2.2.2.1 _ hl) hi hst hcf hin2 (by rw [q2]; exact h6) q1 q3 (by rw [hsl]; exact k2_hasslot (q4 k hk)) rfl rfl d fun H' e1 e2 e3 => ?_
  rw [hsl] at e1 ⊢
  refine kk H' _ (h.put hq (e' := .inr (ci, vs.set k v)) ⟨_, K.1, t_OB.to (V := updV (vp_V vs) k v) ⟨_, e1, q2, q3, t_set q4 hap hk v⟩ (fun j _ => vp_updV_set hkl v j)⟩ ⟨vs.set k v, rfl, ?_, ?_⟩ e2 e3)
  · rw [List.length_set, List.length_set, hlen]
  · intro k' v' P1 hv' hP1
    by_cases hkk : k' = k
    · subst hkk
      rw [List.getElem?_set_self hkl] at hv'
      rw [List.getElem?_set_self hps] at hP1
      cases hv'; cases hP1
      exact hpv
    · rw [List.getElem?_set_ne (Ne.symm hkk)] at hv' hP1
      exact hP k' v' P1 hv' hP1
theorem y_putS (B : xB p s m args meth c D ca own cc nL rt) (h : yH D Zk A s w H locs) {ci N : Nat} {C : String} {T : u_T} {ty : Nat → FieldType} (K : xK1 ci C T N ty) (q0 : Nat) {a : Nat} {ps : List fP} (hq : w q0 = some (a, xO ci ps)) (k : Nat) {P : fP} (hp : ps[k]? = some P) {v : Value} {index : Nat} (hl : Cond.fieldLink own index (T k).1 (T k).2.1 (T k).2.2.1 ∈ AW) (hk : k < N) (hpv : P v) (hfin : (T k).2.2.2 = false) (hn : narrow (ty k) v = v) (hfit : fits (ty k) v = true)
    (d : decode cc pc = .ok (.putfield index, 3)) (kk : ∀ (H1 : Heap) (locs1 : List Loc), yH D Zk A s w H1 locs1 → W p l e R s m args below meth c H1 locs1 cells slots Q (F0 m (pc + 3) ls (rest))) : W p l e R s m args below meth c H locs cells slots Q (F0 m pc ls (v :: .ref a :: rest)) :=
  y_put B h K q0 hq k (List.getElem?_eq_some_iff.mp hp).1 (P' := P) hl hk hpv hfin hn hfit d (fun H1 locs1 h1 => by
    have e1 : ps.set k P = ps := by
      apply List.ext_getElem?
      intro j
      by_cases hj : j = k
      · subst hj; rw [List.getElem?_set_self (List.getElem?_eq_some_iff.mp hp).1, hp]
      · rw [List.getElem?_set_ne (Ne.symm hj)]
    rw [e1, wu_same hq] at h1
    exact kk H1 locs1 h1)
theorem y_iald (B : xB p s m args meth c D ca own cc nL rt) (h : yH D Zk A s w H locs) (q0 : Nat) {a n : Nat} {P : (Nat → Int32) → Prop} (hq : w q0 = some (a, xAI (ca 0) n P)) {i : Int} (hi : xr i ∧ 0 ≤ i ∧ i < n) (d : decode cc pc = .ok (.iaload, 1)) (kk : ∀ f : Nat → Int32, P f → W p l e R s m args below meth c H locs cells slots Q (F0 m (pc + 1) ls (.int (f i.toNat) :: rest))) : W p l e R s m args below meth c H locs cells slots Q (F0 m pc ls (.int (iI i) :: .ref a :: rest)) := by
  obtain ⟨e1, h1, f, rfl, hP⟩ := h.1 q0 _ hq
  exact va_iald (t0 := 0) B.1 B.2.1 B.2.2.2.2.2.1.1 (xone h1) 0 rfl rfl ((iI_in hi.1).mpr hi.2) d (by rw [iI_clamp hi.1]; exact kk f hP)
theorem y_ialdG (B : xB p s m args meth c D ca own cc nL rt) (h : yH D Zk A s w H locs) (q0 : Nat) {a n : Nat} {lo hi2 : Int} (hq : w q0 = some (a, xAI (ca 0) n (gG n lo hi2))) {i : Int} (hi : xr i ∧ 0 ≤ i ∧ i < n) (d : decode cc pc = .ok (.iaload, 1)) (kk : ∀ z : Int, lo ≤ z → z ≤ hi2 → W p l e R s m args below meth c H locs cells slots Q (F0 m (pc + 1) ls (.int (iI z) :: rest))) : W p l e R s m args below meth c H locs cells slots Q (F0 m pc ls (.int (iI i) :: .ref a :: rest)) := y_iald B h q0 hq hi d (fun f hf => by obtain ⟨z, e, z1, z2⟩ := hf i.toNat (by omega); rw [e]; exact kk z z1 z2)
theorem y_ialdX (B : xB p s m args meth c D ca own cc nL rt) (h : yH D Zk A s w H locs) (q0 : Nat) {a n : Nat} {g : Nat → Int} (hq : w q0 = some (a, xAI (ca 0) n (gX n g))) {i : Int} (hi : xr i ∧ 0 ≤ i ∧ i < n) (d : decode cc pc = .ok (.iaload, 1)) (kk : W p l e R s m args below meth c H locs cells slots Q (F0 m (pc + 1) ls (.int (iI (g i.toNat)) :: rest))) : W p l e R s m args below meth c H locs cells slots Q (F0 m pc ls (.int (iI i) :: .ref a :: rest)) := y_iald B h q0 hq hi d (fun f hf => by rw [hf i.toNat (by omega)]; exact kk)
theorem y_zald (B : xB p s m args meth c D ca own cc nL rt) (h : yH D Zk A s w H locs) (q0 : Nat) {a n : Nat} {P : (Nat → Int32) → Prop} (hq : w q0 = some (a, xAI (ca 2) n P)) {i : Int} (hi : xr i ∧ 0 ≤ i ∧ i < n) (d : decode cc pc = .ok (.baload, 1)) (kk : ∀ f : Nat → Int32, P f → W p l e R s m args below meth c H locs cells slots Q (F0 m (pc + 1) ls (.int (f i.toNat) :: rest))) : W p l e R s m args below meth c H locs cells slots Q (F0 m pc ls (.int (iI i) :: .ref a :: rest)) := by
  obtain ⟨e1, h1, f, rfl, hP⟩ := h.1 q0 _ hq
  exact va_zald (t0 := 2) B.1 B.2.1 B.2.2.2.2.2.1.1 (xone h1) 0 rfl rfl ((iI_in hi.1).mpr hi.2) d (by rw [iI_clamp hi.1]; exact kk f hP)
theorem y_zaldG (B : xB p s m args meth c D ca own cc nL rt) (h : yH D Zk A s w H locs) (q0 : Nat) {a n : Nat} {lo hi2 : Int} (hq : w q0 = some (a, xAI (ca 2) n (gG n lo hi2))) {i : Int} (hi : xr i ∧ 0 ≤ i ∧ i < n) (d : decode cc pc = .ok (.baload, 1)) (kk : ∀ z : Int, lo ≤ z → z ≤ hi2 → W p l e R s m args below meth c H locs cells slots Q (F0 m (pc + 1) ls (.int (iI z) :: rest))) : W p l e R s m args below meth c H locs cells slots Q (F0 m pc ls (.int (iI i) :: .ref a :: rest)) := y_zald B h q0 hq hi d (fun f hf => by obtain ⟨z, e, z1, z2⟩ := hf i.toNat (by omega); rw [e]; exact kk z z1 z2)
theorem y_zaldX (B : xB p s m args meth c D ca own cc nL rt) (h : yH D Zk A s w H locs) (q0 : Nat) {a n : Nat} {g : Nat → Int} (hq : w q0 = some (a, xAI (ca 2) n (gX n g))) {i : Int} (hi : xr i ∧ 0 ≤ i ∧ i < n) (d : decode cc pc = .ok (.baload, 1)) (kk : W p l e R s m args below meth c H locs cells slots Q (F0 m (pc + 1) ls (.int (iI (g i.toNat)) :: rest))) : W p l e R s m args below meth c H locs cells slots Q (F0 m pc ls (.int (iI i) :: .ref a :: rest)) := y_zald B h q0 hq hi d (fun f hf => by rw [hf i.toNat (by omega)]; exact kk)
theorem y_bald (B : xB p s m args meth c D ca own cc nL rt) (h : yH D Zk A s w H locs) (q0 : Nat) {a n : Nat} {P : (Nat → Int32) → Prop} (hq : w q0 = some (a, xAI (ca 3) n P)) {i : Int} (hi : xr i ∧ 0 ≤ i ∧ i < n) (d : decode cc pc = .ok (.baload, 1)) (kk : ∀ f : Nat → Int32, P f → W p l e R s m args below meth c H locs cells slots Q (F0 m (pc + 1) ls (.int (f i.toNat) :: rest))) : W p l e R s m args below meth c H locs cells slots Q (F0 m pc ls (.int (iI i) :: .ref a :: rest)) := by
  obtain ⟨e1, h1, f, rfl, hP⟩ := h.1 q0 _ hq
  exact va_bald (t0 := 3) B.1 B.2.1 B.2.2.2.2.2.1.1 (xone h1) 0 rfl rfl ((iI_in hi.1).mpr hi.2) d (by rw [iI_clamp hi.1]; exact kk f hP)
theorem y_baldG (B : xB p s m args meth c D ca own cc nL rt) (h : yH D Zk A s w H locs) (q0 : Nat) {a n : Nat} {lo hi2 : Int} (hq : w q0 = some (a, xAI (ca 3) n (gG n lo hi2))) {i : Int} (hi : xr i ∧ 0 ≤ i ∧ i < n) (d : decode cc pc = .ok (.baload, 1)) (kk : ∀ z : Int, lo ≤ z → z ≤ hi2 → W p l e R s m args below meth c H locs cells slots Q (F0 m (pc + 1) ls (.int (iI z) :: rest))) : W p l e R s m args below meth c H locs cells slots Q (F0 m pc ls (.int (iI i) :: .ref a :: rest)) := y_bald B h q0 hq hi d (fun f hf => by obtain ⟨z, e, z1, z2⟩ := hf i.toNat (by omega); rw [e]; exact kk z z1 z2)
theorem y_baldX (B : xB p s m args meth c D ca own cc nL rt) (h : yH D Zk A s w H locs) (q0 : Nat) {a n : Nat} {g : Nat → Int} (hq : w q0 = some (a, xAI (ca 3) n (gX n g))) {i : Int} (hi : xr i ∧ 0 ≤ i ∧ i < n) (d : decode cc pc = .ok (.baload, 1)) (kk : W p l e R s m args below meth c H locs cells slots Q (F0 m (pc + 1) ls (.int (iI (g i.toNat)) :: rest))) : W p l e R s m args below meth c H locs cells slots Q (F0 m pc ls (.int (iI i) :: .ref a :: rest)) := y_bald B h q0 hq hi d (fun f hf => by rw [hf i.toNat (by omega)]; exact kk)
theorem y_lald (B : xB p s m args meth c D ca own cc nL rt) (h : yH D Zk A s w H locs) (q0 : Nat) {a n : Nat} {P : (Nat → Int64) → Prop} (hq : w q0 = some (a, xAL (ca 1) n P)) {i : Int} (hi : xr i ∧ 0 ≤ i ∧ i < n) (d : decode cc pc = .ok (.laload, 1)) (kk : ∀ f : Nat → Int64, P f → W p l e R s m args below meth c H locs cells slots Q (F0 m (pc + 1) ls (.long (f i.toNat) :: rest))) : W p l e R s m args below meth c H locs cells slots Q (F0 m pc ls (.int (iI i) :: .ref a :: rest)) := by
  obtain ⟨e1, h1, f, rfl, hP⟩ := h.1 q0 _ hq
  exact va_lald (t0 := 1) B.1 B.2.1 B.2.2.2.2.2.1.1 (xone h1) 0 rfl rfl ((iI_in hi.1).mpr hi.2) d (by rw [iI_clamp hi.1]; exact kk f hP)
theorem y_qald (B : xB p s m args meth c D ca own cc nL rt) (h : yH D Zk A s w H locs) (q0 t0 : Nat) {C : String} (ht : (xT ca)[t0]? = some (ca t0, .object C)) {a n : Nat} {P : (Nat → Option Nat) → Prop} (hq : w q0 = some (a, xAQ (ca t0) n P)) {i : Int} (hi : xr i ∧ 0 ≤ i ∧ i < n) (d : decode cc pc = .ok (.aaload, 1)) (kk : ∀ f : Nat → Option Nat, P f → W p l e R s m args below meth c H locs cells slots Q (F0 m (pc + 1) ls (va_rf (f i.toNat) :: rest))) : W p l e R s m args below meth c H locs cells slots Q (F0 m pc ls (.int (iI i) :: .ref a :: rest)) := by
  obtain ⟨e1, h1, f, rfl, hP⟩ := h.1 q0 _ hq
  exact va_aldq (t0 := t0) B.1 B.2.1 B.2.2.2.2.2.1.1 (xone h1) 0 rfl ht ((iI_in hi.1).mpr hi.2) d (by rw [iI_clamp hi.1]; exact kk f hP)
theorem y_iast (B : xB p s m args meth c D ca own cc nL rt) (h : yH D Zk A s w H locs) (q0 : Nat) {a n : Nat} {P : (Nat → Int32) → Prop} (hq : w q0 = some (a, xAI (ca 0) n P)) {i : Int} (hi : xr i ∧ 0 ≤ i ∧ i < n) {x : Int32} {P' : (Nat → Int32) → Prop} (hp : ∀ f : Nat → Int32, P f → P' (upd f i.toNat x)) (d : decode cc pc = .ok (.iastore, 1)) (kk : ∀ (H1 : Heap) (locs1 : List Loc), yH D Zk A s (wu w q0 (a, xAI (ca 0) n P')) H1 locs1 → W p l e R s m args below meth c H1 locs1 cells slots Q (F0 m (pc + 1) ls (rest))) : W p l e R s m args below meth c H locs cells slots Q (F0 m pc ls (.int x :: .int (iI i) :: .ref a :: rest)) := by
  obtain ⟨e1, h1, f, rfl, hP⟩ := h.1 q0 _ hq
  have hiN : i.toNat < n := by omega
  refine W.iast B.1 B.2.1 h1 ((B.2.2.2.2.2.1.1.2 0 _ rfl).1 n (fun j => .int (f j))) (fun q => by cases q) (by show ¬ (iI i < 0 ∨ (arrV _ _ _).slots.size ≤ _); rw [arrV_size]; exact (iI_in hi.1).mpr hi.2) rfl rfl d fun H1 e9 z oq => ?_
  rw [iI_clamp hi.1] at e9 ⊢
  refine kk H1 _ (h.put hq (e' := .inl (ca 0, n, .inl (upd f i.toNat x))) ?_ ⟨_, rfl, hp f hP⟩ z oq)
  show H1[a]? = some (vp_cell _ _)
  rw [e9]
  rw [vp_cell_i, vp_cell_i, arrV_store]
  congr 2
  funext q
  by_cases hq9 : q = i.toNat
  · subst hq9
    simp [updV, upd]
    try rfl
  · simp [updV, upd, hq9]
theorem y_iastS (B : xB p s m args meth c D ca own cc nL rt) (h : yH D Zk A s w H locs) (q0 : Nat) {a n : Nat} {P : (Nat → Int32) → Prop} (hq : w q0 = some (a, xAI (ca 0) n P)) {i : Int} (hi : xr i ∧ 0 ≤ i ∧ i < n) {x : Int32} (hp : ∀ f : Nat → Int32, P f → P (upd f i.toNat x)) (d : decode cc pc = .ok (.iastore, 1)) (kk : ∀ (H1 : Heap) (locs1 : List Loc), yH D Zk A s w H1 locs1 → W p l e R s m args below meth c H1 locs1 cells slots Q (F0 m (pc + 1) ls (rest))) : W p l e R s m args below meth c H locs cells slots Q (F0 m pc ls (.int x :: .int (iI i) :: .ref a :: rest)) := y_iast B h q0 hq hi hp d (fun H1 locs1 h1 => kk H1 locs1 (by rw [wu_same hq] at h1; exact h1))
theorem y_zast (B : xB p s m args meth c D ca own cc nL rt) (h : yH D Zk A s w H locs) (q0 : Nat) {a n : Nat} {P : (Nat → Int32) → Prop} (hq : w q0 = some (a, xAI (ca 2) n P)) {i : Int} (hi : xr i ∧ 0 ≤ i ∧ i < n) {x : Int32} {P' : (Nat → Int32) → Prop} (hp : ∀ f : Nat → Int32, P f → P' (upd f i.toNat (vp_nar .boolean x))) (d : decode cc pc = .ok (.bastore, 1)) (kk : ∀ (H1 : Heap) (locs1 : List Loc), yH D Zk A s (wu w q0 (a, xAI (ca 2) n P')) H1 locs1 → W p l e R s m args below meth c H1 locs1 cells slots Q (F0 m (pc + 1) ls (rest))) : W p l e R s m args below meth c H locs cells slots Q (F0 m pc ls (.int x :: .int (iI i) :: .ref a :: rest)) := by
  obtain ⟨e1, h1, f, rfl, hP⟩ := h.1 q0 _ hq
  have hiN : i.toNat < n := by omega
  refine W.zast B.1 B.2.1 h1 ((B.2.2.2.2.2.1.1.2 2 _ rfl).1 n (fun j => .int (f j))) (fun q => by cases q) (by show ¬ (iI i < 0 ∨ (arrV _ _ _).slots.size ≤ _); rw [arrV_size]; exact (iI_in hi.1).mpr hi.2) rfl rfl d fun H1 e9 z oq => ?_
  rw [iI_clamp hi.1] at e9 ⊢
  refine kk H1 _ (h.put hq (e' := .inl (ca 2, n, .inl (upd f i.toNat (vp_nar .boolean x)))) ?_ ⟨_, rfl, hp f hP⟩ z oq)
  show H1[a]? = some (vp_cell _ _)
  rw [e9]
  rw [vp_cell_i, vp_cell_i, arrV_store]
  congr 2
  funext q
  by_cases hq9 : q = i.toNat
  · subst hq9
    simp [updV, upd, vp_nar]
    try rfl
  · simp [updV, upd, hq9]
theorem y_zastS (B : xB p s m args meth c D ca own cc nL rt) (h : yH D Zk A s w H locs) (q0 : Nat) {a n : Nat} {P : (Nat → Int32) → Prop} (hq : w q0 = some (a, xAI (ca 2) n P)) {i : Int} (hi : xr i ∧ 0 ≤ i ∧ i < n) {x : Int32} (hp : ∀ f : Nat → Int32, P f → P (upd f i.toNat (vp_nar .boolean x))) (d : decode cc pc = .ok (.bastore, 1)) (kk : ∀ (H1 : Heap) (locs1 : List Loc), yH D Zk A s w H1 locs1 → W p l e R s m args below meth c H1 locs1 cells slots Q (F0 m (pc + 1) ls (rest))) : W p l e R s m args below meth c H locs cells slots Q (F0 m pc ls (.int x :: .int (iI i) :: .ref a :: rest)) := y_zast B h q0 hq hi hp d (fun H1 locs1 h1 => kk H1 locs1 (by rw [wu_same hq] at h1; exact h1))
theorem y_bast (B : xB p s m args meth c D ca own cc nL rt) (h : yH D Zk A s w H locs) (q0 : Nat) {a n : Nat} {P : (Nat → Int32) → Prop} (hq : w q0 = some (a, xAI (ca 3) n P)) {i : Int} (hi : xr i ∧ 0 ≤ i ∧ i < n) {x : Int32} {P' : (Nat → Int32) → Prop} (hp : ∀ f : Nat → Int32, P f → P' (upd f i.toNat (vp_nar .byte x))) (d : decode cc pc = .ok (.bastore, 1)) (kk : ∀ (H1 : Heap) (locs1 : List Loc), yH D Zk A s (wu w q0 (a, xAI (ca 3) n P')) H1 locs1 → W p l e R s m args below meth c H1 locs1 cells slots Q (F0 m (pc + 1) ls (rest))) : W p l e R s m args below meth c H locs cells slots Q (F0 m pc ls (.int x :: .int (iI i) :: .ref a :: rest)) := by
  obtain ⟨e1, h1, f, rfl, hP⟩ := h.1 q0 _ hq
  have hiN : i.toNat < n := by omega
  refine W.bast B.1 B.2.1 h1 ((B.2.2.2.2.2.1.1.2 3 _ rfl).1 n (fun j => .int (f j))) (fun q => by cases q) (by show ¬ (iI i < 0 ∨ (arrV _ _ _).slots.size ≤ _); rw [arrV_size]; exact (iI_in hi.1).mpr hi.2) rfl rfl d fun H1 e9 z oq => ?_
  rw [iI_clamp hi.1] at e9 ⊢
  refine kk H1 _ (h.put hq (e' := .inl (ca 3, n, .inl (upd f i.toNat (vp_nar .byte x)))) ?_ ⟨_, rfl, hp f hP⟩ z oq)
  show H1[a]? = some (vp_cell _ _)
  rw [e9]
  rw [vp_cell_i, vp_cell_i, arrV_store]
  congr 2
  funext q
  by_cases hq9 : q = i.toNat
  · subst hq9
    simp [updV, upd, vp_nar]
    try rfl
  · simp [updV, upd, hq9]
theorem y_bastS (B : xB p s m args meth c D ca own cc nL rt) (h : yH D Zk A s w H locs) (q0 : Nat) {a n : Nat} {P : (Nat → Int32) → Prop} (hq : w q0 = some (a, xAI (ca 3) n P)) {i : Int} (hi : xr i ∧ 0 ≤ i ∧ i < n) {x : Int32} (hp : ∀ f : Nat → Int32, P f → P (upd f i.toNat (vp_nar .byte x))) (d : decode cc pc = .ok (.bastore, 1)) (kk : ∀ (H1 : Heap) (locs1 : List Loc), yH D Zk A s w H1 locs1 → W p l e R s m args below meth c H1 locs1 cells slots Q (F0 m (pc + 1) ls (rest))) : W p l e R s m args below meth c H locs cells slots Q (F0 m pc ls (.int x :: .int (iI i) :: .ref a :: rest)) := y_bast B h q0 hq hi hp d (fun H1 locs1 h1 => kk H1 locs1 (by rw [wu_same hq] at h1; exact h1))
end YHEAP

section YCALL
variable {p : Program} {l : Launch} {e : Env} {R : Room} {s : State} {m : MethodId} {args : Array Value} {below : List Frame} {meth : Method} {c : Code} {H : Heap} {locs : List Loc} {cells slots : Nat} {Q : State → Prop}
variable {cc : ByteArray} {nL : Nat} {rt : Option FieldType} {own : String} {D : va_G} {Zk : yK} {ca : Nat → ClassId} {A : Nat → Prop} {w : yW} {pc : Nat} {ls : Array Slot} {rest : List Value}
/-! making objects and arrays -/
theorem y_new (nm : Nat) (B : xB p s m args meth c D ca own cc nL rt) (h : yH D Zk A s w H locs) {ci N : Nat} {C : String} {T : u_T} {ty : Nat → FieldType} (K : xK1 ci C T N ty) {index : Nat} (hcl : Cond.classLink own index C ∈ AW) (hinst : Cond.instantiable C N ∈ AW) (hini : Cond.initialized C ∈ AW) (ps : List fP) (hlen : ps.length = N) (hps : xDef ty 0 ps) (hcells : cells + 1 ≤ R.cells ∧ slots + N ≤ R.slots)
    (d : decode cc pc = .ok (.new index, 3)) (kk : ∀ (q : Nat) (H1 : Heap), yH D Zk A s (wu w nm (q, xO ci ps)) H1 locs → W p l e R s m args below meth c H1 locs (cells + 1) (slots + N) Q (F0 m (pc + 3) ls (.ref q :: rest))) : W p l e R s m args below meth c H locs cells slots Q (F0 m pc ls rest) := by
  have hKn := B.2.2.2.2.2.1.1.1 ci _ K.1
  have hts := B.2.2.2.2.1
  refine W.newcK B.1 B.2.1 B.2.2.2.1 (hts _ hcl) (hts _ hinst) (hts _ hini) rfl d hcells.1 hcells.2 hKn.2.1 rfl fun H1 kC hkC e1 z1 o1 => ?_
  refine kk H.size H1 (h.push nm (e := .inr (ci, (List.range N).map (fun j => defaultValue (ty j)))) ⟨_, K.1, (u_born ty hts K.2.1 hKn hkC e1 K.2.2.1).to (fun j hj => ?_)⟩ ⟨_, rfl, ?_, ?_⟩ z1 o1)
  · show _ = List.getD _ _ _
    simp [List.getD, hj]
  · simp [hlen]
  · intro k v P hv hP
    have hk : k < N := by rw [← hlen]; exact (List.getElem?_eq_some_iff.mp hP).1
    have := xDef_at ty ps 0 hps k P hP
    simp [hk] at hv
    rw [← hv]
    simpa using this
theorem y_newa (nm : Nat) (B : xB p s m args meth c D ca own cc nL rt) (h : yH D Zk A s w H locs) (t0 : Nat) {atype : ArrayType} {ty : FieldType} (hty : newarray.typeOf atype = ty) (ht : (xT ca)[t0]? = some (ca t0, ty)) (hno : ∀ C, ty ≠ .object C) (harr : Cond.arrayClass ty ∈ AW) {n : Int} {N : Nat} (hn : xr n ∧ n = N) (hb : N * componentBytes ty ≤ 536870912) (P : xPd) {a0 : vp_A} (ha : ∀ cA : ClassId, vp_cell cA a0 = arrV cA N (fun _ => defaultValue ty)) (hP : P (.inl (ca t0, a0))) (hcells : cells + 1 ≤ R.cells ∧ slots + N ≤ R.slots)
    (d : decode cc pc = .ok (.newarray atype, 2)) (kk : ∀ (q : Nat) (H1 : Heap), yH D Zk A s (wu w nm (q, P)) H1 locs → W p l e R s m args below meth c H1 locs (cells + 1) (slots + N) Q (F0 m (pc + 2) ls (.ref q :: rest))) : W p l e R s m args below meth c H locs cells slots Q (F0 m pc ls (.int (iI n) :: rest)) := by
  subst hty
  refine va_newaK B.1 B.2.1 (B.2.2.2.2.1 _ harr) rfl d rfl (n := iI n) (N := N) (fun q => ?_) ?_ hb hcells.1 hcells.2 rfl fun H1 cA e1 z1 o1 hAr hNm => ?_
  · have := (iI_lt ⟨hn.1, (by omega : xr 0)⟩).mp q
    omega
  · rw [iI_clamp hn.1]; omega
  · have hc := xArr B.2.2.2.2.2.1 t0 ht hno hNm
    subst hc
    exact kk H.size H1 (h.push nm (e := .inl (ca t0, a0)) (show H1[H.size]? = some (vp_cell _ _) by rw [ha]; exact e1) hP z1 o1)
theorem y_newaI (nm : Nat) (B : xB p s m args meth c D ca own cc nL rt) (h : yH D Zk A s w H locs) {n : Int} {N : Nat} (hn : xr n ∧ n = N) (hb : N * 4 ≤ 536870912) (harr : Cond.arrayClass .int ∈ AW) (hcells : cells + 1 ≤ R.cells ∧ slots + N ≤ R.slots) (d : decode cc pc = .ok (.newarray .int, 2)) (kk : ∀ (q : Nat) (H1 : Heap), yH D Zk A s (wu w nm (q, xAI (ca 0) N (gX N (fun _ => 0)))) H1 locs → W p l e R s m args below meth c H1 locs (cells + 1) (slots + N) Q (F0 m (pc + 2) ls (.ref q :: rest))) : W p l e R s m args below meth c H locs cells slots Q (F0 m pc ls (.int (iI n) :: rest)) :=
  y_newa nm B h 0 (atype := .int) (ty := .int) rfl rfl (fun C q => by cases q) harr hn hb _ (a0 := (N, .inl (fun _ => 0))) (fun cA => rfl) ⟨_, rfl, fun j hj => rfl⟩ hcells d kk
theorem y_newaZ (nm : Nat) (B : xB p s m args meth c D ca own cc nL rt) (h : yH D Zk A s w H locs) {n : Int} {N : Nat} (hn : xr n ∧ n = N) (hb : N * 1 ≤ 536870912) (harr : Cond.arrayClass .boolean ∈ AW) (hcells : cells + 1 ≤ R.cells ∧ slots + N ≤ R.slots) (d : decode cc pc = .ok (.newarray .boolean, 2)) (kk : ∀ (q : Nat) (H1 : Heap), yH D Zk A s (wu w nm (q, xAI (ca 2) N (gX N (fun _ => 0)))) H1 locs → W p l e R s m args below meth c H1 locs (cells + 1) (slots + N) Q (F0 m (pc + 2) ls (.ref q :: rest))) : W p l e R s m args below meth c H locs cells slots Q (F0 m pc ls (.int (iI n) :: rest)) :=
  y_newa nm B h 2 (atype := .boolean) (ty := .boolean) rfl rfl (fun C q => by cases q) harr hn hb _ (a0 := (N, .inl (fun _ => 0))) (fun cA => rfl) ⟨_, rfl, fun j hj => rfl⟩ hcells d kk
theorem y_newaB (nm : Nat) (B : xB p s m args meth c D ca own cc nL rt) (h : yH D Zk A s w H locs) {n : Int} {N : Nat} (hn : xr n ∧ n = N) (hb : N * 1 ≤ 536870912) (harr : Cond.arrayClass .byte ∈ AW) (hcells : cells + 1 ≤ R.cells ∧ slots + N ≤ R.slots) (d : decode cc pc = .ok (.newarray .byte, 2)) (kk : ∀ (q : Nat) (H1 : Heap), yH D Zk A s (wu w nm (q, xAI (ca 3) N (gX N (fun _ => 0)))) H1 locs → W p l e R s m args below meth c H1 locs (cells + 1) (slots + N) Q (F0 m (pc + 2) ls (.ref q :: rest))) : W p l e R s m args below meth c H locs cells slots Q (F0 m pc ls (.int (iI n) :: rest)) :=
  y_newa nm B h 3 (atype := .byte) (ty := .byte) rfl rfl (fun C q => by cases q) harr hn hb _ (a0 := (N, .inl (fun _ => 0))) (fun cA => rfl) ⟨_, rfl, fun j hj => rfl⟩ hcells d kk
theorem y_newaL (nm : Nat) (B : xB p s m args meth c D ca own cc nL rt) (h : yH D Zk A s w H locs) {n : Int} {N : Nat} (hn : xr n ∧ n = N) (hb : N * 8 ≤ 536870912) (harr : Cond.arrayClass .long ∈ AW) (hcells : cells + 1 ≤ R.cells ∧ slots + N ≤ R.slots) (d : decode cc pc = .ok (.newarray .long, 2)) (kk : ∀ (q : Nat) (H1 : Heap), yH D Zk A s (wu w nm (q, xAL (ca 1) N (fun f => f = fun _ => 0))) H1 locs → W p l e R s m args below meth c H1 locs (cells + 1) (slots + N) Q (F0 m (pc + 2) ls (.ref q :: rest))) : W p l e R s m args below meth c H locs cells slots Q (F0 m pc ls (.int (iI n) :: rest)) :=
  y_newa nm B h 1 (atype := .long) (ty := .long) rfl rfl (fun C q => by cases q) harr hn hb _ (a0 := (N, .inr (.inl (fun _ => 0)))) (fun cA => rfl) ⟨_, rfl, rfl⟩ hcells d kk
theorem y_anew (nm : Nat) (B : xB p s m args meth c D ca own cc nL rt) (h : yH D Zk A s w H locs) (t0 : Nat) {C : String} (ht : (xT ca)[t0]? = some (ca t0, .object C)) (hC : C ∈ xNO) {index : Nat} (hcl : Cond.classLink own index C ∈ AW) {n : Int} {N : Nat} (hn : xr n ∧ n = N) (hb : N * 4 ≤ 536870912) (hcells : cells + 1 ≤ R.cells ∧ slots + N ≤ R.slots)
    (d : decode cc pc = .ok (.anewarray index, 3)) (kk : ∀ (q : Nat) (H1 : Heap), yH D Zk A s (wu w nm (q, xAQ (ca t0) N (fun f => f = fun _ => none))) H1 locs → W p l e R s m args below meth c H1 locs (cells + 1) (slots + N) Q (F0 m (pc + 3) ls (.ref q :: rest))) : W p l e R s m args below meth c H locs cells slots Q (F0 m pc ls (.int (iI n) :: rest)) := by
  have hN : (iI n).toNatClampNeg = N := by rw [iI_clamp hn.1]; omega
  subst hN
  refine W.anew B.1 B.2.1 B.2.2.2.1 (B.2.2.2.2.1 _ hcl) (va_AO.use (B.2.2.2.2.2.1.2.2.2 _ hC)) rfl d rfl (fun q => ?_) hb hcells.1 hcells.2 fun cA kA comp f1 f2 f3 f4 => ?_
  · have := (iI_lt ⟨hn.1, (by omega : xr 0)⟩).mp q
    omega
  · obtain ⟨kA2, comp2, k1, k2, k3, k4⟩ := (B.2.2.2.2.2.1.1.2 t0 _ ht).2
    have hc : cA = ca t0 := Option.some.inj (f1.symm.trans k4)
    subst hc
    refine kk H.size _ (h.push nm (e := .inl (ca t0, (iI n).toNatClampNeg, .inr (.inr (.inr (.inr (fun _ => none)))))) ?_ ⟨_, rfl, rfl⟩ ?_ ?_)
    · show (H.push _)[H.size]? = some (vp_cell _ _)
      rw [vp_cell_q, Array.getElem?_push_size]
      exact congrArg some (arrV_new _ _ _)
    · rw [Array.size_push]
    · intro q hq
      rw [Array.getElem?_push, if_neg (Nat.ne_of_lt hq)]
/-! returns -/
theorem yQ.of {w0 w1 : yW} {Qc : Option Value → yW → Prop} {v : Option Value} (h : yH D Zk A s w1 H locs) (hA : A = yA w0 s.heap.size) (hq : Qc v w1) : ∀ t : State, t.heap = H → s.WarmedH t.vm → yQ D w0 s.heap.size Qc args s (.returned v) t := fun t ht _ => by
  subst hA
  exact ⟨⟨v, w1, rfl, hq, by rw [ht]; exact h.1, h.2.1, h.2.2.2.1⟩, h.2.2.1.F ht⟩
theorem y_iret (B : xB p s m args meth c D ca own cc nL (some .int)) {w0 w1 : yW} {Qc : Option Value → yW → Prop} {v : Int32} (h : yH D Zk A s w1 H locs) (hA : A = yA w0 s.heap.size) (hq : Qc (some (.int v)) w1) {k n : Nat} (h1 : cells ≤ k) (h2 : slots ≤ n) (d : decode cc pc = .ok (.ireturn, 1)) : W p l e R s m args below meth c H locs cells slots (MQ below (yQ D w0 s.heap.size Qc) args s k n A) (F0 m pc ls [.int v]) :=
  W.widen h1 h2 (W.iret B.1 B.2.1 B.2.2.2.2.2.2.2 (yQ.of h hA hq) h.2.2.1.2.2 d B.2.2.2.2.2.2.1)
theorem y_zret (B : xB p s m args meth c D ca own cc nL (some .boolean)) {w0 w1 : yW} {Qc : Option Value → yW → Prop} {v : Int32} (hv : narrow .boolean (.int v) = .int v) (h : yH D Zk A s w1 H locs) (hA : A = yA w0 s.heap.size) (hq : Qc (some (.int v)) w1) {k n : Nat} (h1 : cells ≤ k) (h2 : slots ≤ n) (d : decode cc pc = .ok (.ireturn, 1)) : W p l e R s m args below meth c H locs cells slots (MQ below (yQ D w0 s.heap.size Qc) args s k n A) (F0 m pc ls [.int v]) :=
  W.widen h1 h2 (W.zret B.1 B.2.1 B.2.2.2.2.2.2.2 hv (yQ.of h hA hq) h.2.2.1.2.2 d B.2.2.2.2.2.2.1)
theorem y_lret (B : xB p s m args meth c D ca own cc nL (some .long)) {w0 w1 : yW} {Qc : Option Value → yW → Prop} {v : Int64} (h : yH D Zk A s w1 H locs) (hA : A = yA w0 s.heap.size) (hq : Qc (some (.long v)) w1) {k n : Nat} (h1 : cells ≤ k) (h2 : slots ≤ n) (d : decode cc pc = .ok (.lreturn, 1)) : W p l e R s m args below meth c H locs cells slots (MQ below (yQ D w0 s.heap.size Qc) args s k n A) (F0 m pc ls [.long v]) :=
  W.widen h1 h2 (W.lret B.1 B.2.1 B.2.2.2.2.2.2.2 (yQ.of h hA hq) h.2.2.1.2.2 d B.2.2.2.2.2.2.1)
theorem y_aret {C : String} (B : xB p s m args meth c D ca own cc nL (some (.object C))) {w0 w1 : yW} {Qc : Option Value → yW → Prop} {r : Option Nat} (h : yH D Zk A s w1 H locs) (hA : A = yA w0 s.heap.size) (hq : Qc (some (va_rf r)) w1) {k n : Nat} (h1 : cells ≤ k) (h2 : slots ≤ n) (d : decode cc pc = .ok (.areturn, 1)) : W p l e R s m args below meth c H locs cells slots (MQ below (yQ D w0 s.heap.size Qc) args s k n A) (F0 m pc ls [va_rf r]) :=
  W.widen h1 h2 (W.aret B.1 B.2.1 B.2.2.2.2.2.2.2 (Or.inl ⟨_, rfl⟩) (by cases r with | none => exact Or.inl rfl | some a => exact Or.inr ⟨a, rfl⟩) (yQ.of h hA hq) h.2.2.1.2.2 d B.2.2.2.2.2.2.1)
theorem y_vret (B : xB p s m args meth c D ca own cc nL none) {w0 w1 : yW} {Qc : Option Value → yW → Prop} (h : yH D Zk A s w1 H locs) (hA : A = yA w0 s.heap.size) (hq : Qc none w1) {k n : Nat} (h1 : cells ≤ k) (h2 : slots ≤ n) (d : decode cc pc = .ok (.return_, 1)) : W p l e R s m args below meth c H locs cells slots (MQ below (yQ D w0 s.heap.size Qc) args s k n A) (F0 m pc ls []) :=
  W.widen h1 h2 (W.vret B.1 B.2.1 B.2.2.2.2.2.2.2 (yQ.of h hA hq) h.2.2.1.2.2 d B.2.2.2.2.2.2.1)
/-! calls: the callee's world wa, the rest wb -/
theorem yBlind {av : List Value} {w : yW} {sz : Nat} : FrameBlind (va_Pc av (fun U => U.heap.size = sz ∧ yP D w U.heap ∧ yN w ∧ xE D ca U ∧ yS Zk (yA w sz) U U.heap)) := fun a U g mk h => ⟨h.1, h.2.1, h.2.2.1, h.2.2.2.1, h.2.2.2.2.1.call a g mk, h.2.2.2.2.2.call a g mk⟩
theorem yPreS {av : List Value} {wa : yW} (B : xB p s m args meth c D ca own cc nL rt) (h : yH D Zk A s wa H locs) : PreS s H (va_Pc av (fun U => U.heap.size = H.size ∧ yP D wa U.heap ∧ yN wa ∧ xE D ca U ∧ yS Zk (yA wa H.size) U U.heap)) av :=
  ⟨yBlind, fun U hU hW => ⟨rfl, by rw [hU], by rw [hU]; exact fun k q hk => h.1 k q (hk), fun i j x y hi hj => h.2.1 i j x y hi hj, B.2.2.2.2.2.1.warm hW, by rw [hU]; exact ((h.2.2.2.2.2.kept h.2.2.1.2.1).narrow (fun a ha => ha.elim (fun ⟨k, P, hk⟩ => h.2.2.2.1 k (a, P) hk) (fun hz => h.2.2.2.2.1 a (Nat.le_trans h.2.2.1.1 hz)))).warm hW⟩⟩
theorem y_run {wa : yW} {mc ms : Nat} {st0 : List Value} {Qc : Option Value → yW → Prop} {a : Array Value} (hr : va_Run p l e R s m args below meth c H locs cells slots mc ms (F0 m pc ls st0) rest (yQ D wa H.size Qc a) (yA wa H.size)) (h : yH D Zk A s wa H locs)
    (kk : ∀ (r : Option Value) (w1 : yW), Qc r w1 → ∀ (H1 : Heap) (locs1 : List Loc), yH D Zk A s w1 H1 locs1 → W p l e R s m args below meth c H1 locs1 (cells + mc) (slots + ms) Q (F0 m (pc + 3) ls (r.toList ++ rest))) : W p l e R s m args below meth c H locs cells slots Q (F0 m pc ls st0) := by
  obtain ⟨h1, h2, h3, h4, h5⟩ := h
  have inA : ∀ q : Nat, yA wa H.size q → A q := by
    intro q hq
    rcases hq with ⟨j, P, hj⟩ | hq
    · exact h4 j (q, P) hj
    · exact h5.1 q (Nat.le_trans h3.1 hq)
  intro T hT X
  obtain ⟨v, st₀, t, T', L, h0, X', hL, e1, e2, ⟨⟨r, w1, hv, hq, hP1, hN1, hA1⟩, hz, hk⟩, st⟩ := hr T hT X
  have hv : v = r := Outcome.returned.inj hv
  subst hv
  rw [h0] at hz hk
  have hx : yH D Zk A s w1 T'.heap (locs ++ L) := by
    refine ⟨fun k q hq9 => ?_, hN1, ⟨Nat.le_trans h3.1 (by rw [e1]; exact hz), fun q g1 g2 => ?_, fun q hq9 => ?_⟩, fun k q hq9 => inA _ (hA1 k q hq9), h5⟩
    · rw [e1]
      exact hP1 k q hq9
    · rw [e1, hk q (Nat.lt_of_lt_of_le g1 h3.1) (fun z => g2 (inA q z))]
      exact h3.2.1 q g1 g2
    · rcases List.mem_append.mp hq9 with h9 | h9
      · exact h3.2.2 q h9
      · exact inA _ (hL q h9)
  obtain ⟨t2, a1, b1⟩ := kk v w1 hq T'.heap (locs ++ L) hx T' rfl X'
  exact ⟨t2, st t2 a1, b1⟩
theorem y_callS (B : xB p s m args meth c D ca own cc nL rt) {wa : yW} (h : yH D Zk A s wa H locs) {y : MethodName} {cy : ByteArray} {maxL : Nat} {ret : Option FieldType} {rm : Room} {av : List Value} {Qc : Option Value → yW → Prop} (hM : yC l D Zk ca y cy maxL ret rm av wa Qc) {index n : Nat} (hc : Cond.code y cy maxL ret ∈ AW) (hl : Cond.methodLink own index y ∈ AW) (hst : Cond.static y ∈ AW) (hini : Cond.initialized y.cls ∈ AW) (hd : xDesc y n) (hn : av.length = n) (hR : rm.frames + 1 ≤ R.frames ∧ 8 + (maxL + 11) + rm.locals ≤ R.locals) (hf : cells + rm.cells ≤ R.cells ∧ slots + rm.slots ≤ R.slots) (hsz : ls.size = nL) (hW : (rest.map fun v => v.category).sum ≤ 8) {st0 : List Value} (hst0 : st0 = av.reverse ++ rest)
    (d : decode cc pc = .ok (.invokestatic index, 3)) (kk : ∀ (r : Option Value) (w1 : yW), Qc r w1 → ∀ (H1 : Heap) (locs1 : List Loc), yH D Zk A s w1 H1 locs1 → W p l e R s m args below meth c H1 locs1 (cells + rm.cells) (slots + rm.slots) Q (F0 m (pc + 3) ls (r.toList ++ rest))) : W p l e R s m args below meth c H locs cells slots Q (F0 m pc ls st0) := by
  have hts := B.2.2.2.2.1
  refine y_run (va_runS (As := av) (rest := rest) ⟨B.1, B.2.1, B.2.2.1, B.2.2.2.1, hts⟩ (hM H.size) ⟨callB_of n hts (xGood hc) rfl rfl rfl (hts _ hini) (hts _ hl) hd hR, hts _ hst⟩ (yPreS B h) rfl hn hsz hst0 (by show 2 * 0 + _ ≤ 8; omega) d hf) h kk
theorem y_callSN (B : xB p s m args meth c D ca own cc nL rt) {wa : yW} (h : yH D Zk A s wa H locs) {y : MethodName} {cy : ByteArray} {maxL : Nat} {ret : Option FieldType} {rm : Room} {av : List Value} {Qc : Option Value → yW → Prop} (hM : yC l D Zk ca y cy maxL ret rm av wa Qc) {index n : Nat} {host : String} (hc : Cond.code y cy maxL ret ∈ AW) (hl : (own, index, y, host) ∈ xNM) (hst : Cond.static y ∈ AW) (hini : Cond.initialized y.cls ∈ AW) (hd : xDesc y n) (hn : av.length = n) (hR : rm.frames + 1 ≤ R.frames ∧ 8 + (maxL + 11) + rm.locals ≤ R.locals) (hf : cells + rm.cells ≤ R.cells ∧ slots + rm.slots ≤ R.slots) (hsz : ls.size = nL) (hW : (rest.map fun v => v.category).sum ≤ 8) {st0 : List Value} (hst0 : st0 = av.reverse ++ rest)
    (d : decode cc pc = .ok (.invokestatic index, 3)) (kk : ∀ (r : Option Value) (w1 : yW), Qc r w1 → ∀ (H1 : Heap) (locs1 : List Loc), yH D Zk A s w1 H1 locs1 → W p l e R s m args below meth c H1 locs1 (cells + rm.cells) (slots + rm.slots) Q (F0 m (pc + 3) ls (r.toList ++ rest))) : W p l e R s m args below meth c H locs cells slots Q (F0 m pc ls st0) := by
  have hts := B.2.2.2.2.1
  refine y_run (va_runSN (As := av) (rest := rest) (host := host) ⟨B.1, B.2.1, B.2.2.1, B.2.2.2.1, hts⟩ (hM H.size) ⟨va_cnB n hts (xGood hc) rfl rfl rfl (B.2.2.2.2.2.1.2.1 _ hl) (hts _ hini) hd hR, hts _ hst, trivial⟩ (yPreS B h) rfl hn hsz hst0 (by show 2 * 0 + _ ≤ 8; omega) d hf) h kk
theorem yRecv (B : xB p s m args meth c D ca own cc nL rt) (h : yH D Zk A s w H locs) {ci N : Nat} {C : String} {T : u_T} {ty : Nat → FieldType} (K : xK1 ci C T N ty) (q0 : Nat) {a : Nat} {ps : List fP} (hq : w q0 = some (a, xO ci ps)) : ∃ cell : Cell, H[a]? = some cell ∧ cell.vm.isStatics = false ∧ s.vm.findClass C = some cell.cls := by
  obtain ⟨e1, h1, vs, rfl, hlen, hP⟩ := h.1 q0 _ hq
  exact va_recv B.2.2.2.2.2.1.1 (xone h1) (ci := ci) (q := (C, T, N)) (q0 := 0) K.1 rfl
theorem y_callV (B : xB p s m args meth c D ca own cc nL rt) {wa : yW} (h : yH D Zk A s wa H locs) {ci N : Nat} {C : String} {T : u_T} {ty : Nat → FieldType} (K : xK1 ci C T N ty) (q0 : Nat) {a : Nat} {ps : List fP} (hq : wa q0 = some (a, xO ci ps)) {y : MethodName} {cy : ByteArray} {maxL : Nat} {ret : Option FieldType} {rm : Room} {av : List Value} {Qc : Option Value → yW → Prop} (hM : yC l D Zk ca y cy maxL ret rm (.ref a :: av) wa Qc) {index n : Nat} (hC : y.cls = C) (hc : Cond.code y cy maxL ret ∈ AW) (hl : Cond.methodLink own index y ∈ AW) (hin : Cond.instanceMethod y ∈ AW) (hse : Cond.selects C y y ∈ AW) (hini : Cond.initialized C ∈ AW) (hd : xDesc y n) (hn : av.length = n) (hR : rm.frames + 1 ≤ R.frames ∧ 8 + (maxL + 11) + rm.locals ≤ R.locals) (hf : cells + rm.cells ≤ R.cells ∧ slots + rm.slots ≤ R.slots) (hsz : ls.size = nL) (hW : (rest.map fun v => v.category).sum ≤ 8) {st0 : List Value} (hst0 : st0 = av.reverse ++ .ref a :: rest)
    (d : decode cc pc = .ok (.invokevirtual index, 3)) (kk : ∀ (r : Option Value) (w1 : yW), Qc r w1 → ∀ (H1 : Heap) (locs1 : List Loc), yH D Zk A s w1 H1 locs1 → W p l e R s m args below meth c H1 locs1 (cells + rm.cells) (slots + rm.slots) Q (F0 m (pc + 3) ls (r.toList ++ rest))) : W p l e R s m args below meth c H locs cells slots Q (F0 m pc ls st0) := by
  have hts := B.2.2.2.2.1
  subst hC
  have hp := yPreS (av := .ref a :: av) B h
  refine y_run (va_runV (As := av) (rest := rest) (b := a) ⟨B.1, B.2.1, B.2.2.1, B.2.2.2.1, hts⟩ (hM H.size) ⟨callB_of n hts (xGood hc) rfl rfl rfl (hts _ hini) (hts _ hl) hd hR, hts _ hin, hts _ hse⟩ ⟨hp.1, yRecv B h K q0 hq, hp.2⟩ rfl hn hsz hst0 (by show 2 * 0 + _ ≤ 8; omega) d hf) h kk
theorem y_callI (B : xB p s m args meth c D ca own cc nL rt) {wa : yW} (h : yH D Zk A s wa H locs) {a : Nat} {y : MethodName} {cy : ByteArray} {maxL : Nat} {rm : Room} {av : List Value} {Qc : Option Value → yW → Prop} (hM : yC l D Zk ca y cy maxL none rm (.ref a :: av) wa Qc) {index n : Nat} (hy : y.name = "<init>") (hc : Cond.code y cy maxL none ∈ AW) (hl : Cond.methodLink own index y ∈ AW) (hin : Cond.instanceMethod y ∈ AW) (hini : Cond.initialized y.cls ∈ AW) (hd : xDesc y n) (hn : av.length = n) (hR : rm.frames + 1 ≤ R.frames ∧ 8 + (maxL + 11) + rm.locals ≤ R.locals) (hf : cells + rm.cells ≤ R.cells ∧ slots + rm.slots ≤ R.slots) (hsz : ls.size = nL) (hW : (rest.map fun v => v.category).sum ≤ 8) {st0 : List Value} (hst0 : st0 = av.reverse ++ .ref a :: rest)
    (d : decode cc pc = .ok (.invokespecial index, 3)) (kk : ∀ (r : Option Value) (w1 : yW), Qc r w1 → ∀ (H1 : Heap) (locs1 : List Loc), yH D Zk A s w1 H1 locs1 → W p l e R s m args below meth c H1 locs1 (cells + rm.cells) (slots + rm.slots) Q (F0 m (pc + 3) ls (r.toList ++ rest))) : W p l e R s m args below meth c H locs cells slots Q (F0 m pc ls st0) := by
  have hts := B.2.2.2.2.1
  refine y_run (va_runI (As := av) (rest := rest) (b := a) ⟨B.1, B.2.1, B.2.2.1, B.2.2.2.1, hts⟩ (hM H.size) ⟨callB_of n hts (xGood hc) rfl rfl rfl (hts _ hini) (hts _ hl) hd hR, hy, hts _ hin⟩ (yPreS (av := .ref a :: av) B h) rfl hn hsz hst0 (by show 2 * 0 + _ ≤ 8; omega) d hf) h kk
theorem y_callIN (B : xB p s m args meth c D ca own cc nL rt) {wa : yW} (h : yH D Zk A s wa H locs) {a : Nat} {y : MethodName} {cy : ByteArray} {maxL : Nat} {rm : Room} {av : List Value} {Qc : Option Value → yW → Prop} (hM : yC l D Zk ca y cy maxL none rm (.ref a :: av) wa Qc) {index n : Nat} {host : String} (hy : y.name = "<init>") (hc : Cond.code y cy maxL none ∈ AW) (hl : (own, index, y, host) ∈ xNM) (hin : Cond.instanceMethod y ∈ AW) (hini : Cond.initialized y.cls ∈ AW) (hd : xDesc y n) (hn : av.length = n) (hR : rm.frames + 1 ≤ R.frames ∧ 8 + (maxL + 11) + rm.locals ≤ R.locals) (hf : cells + rm.cells ≤ R.cells ∧ slots + rm.slots ≤ R.slots) (hsz : ls.size = nL) (hW : (rest.map fun v => v.category).sum ≤ 8) {st0 : List Value} (hst0 : st0 = av.reverse ++ .ref a :: rest)
    (d : decode cc pc = .ok (.invokespecial index, 3)) (kk : ∀ (r : Option Value) (w1 : yW), Qc r w1 → ∀ (H1 : Heap) (locs1 : List Loc), yH D Zk A s w1 H1 locs1 → W p l e R s m args below meth c H1 locs1 (cells + rm.cells) (slots + rm.slots) Q (F0 m (pc + 3) ls (r.toList ++ rest))) : W p l e R s m args below meth c H locs cells slots Q (F0 m pc ls st0) := by
  have hts := B.2.2.2.2.1
  refine y_run (va_runIN (As := av) (rest := rest) (b := a) (host := host) ⟨B.1, B.2.1, B.2.2.1, B.2.2.2.1, hts⟩ (hM H.size) ⟨va_cnB n hts (xGood hc) rfl rfl rfl (B.2.2.2.2.2.1.2.1 _ hl) (hts _ hini) hd hR, hy, hts _ hin⟩ (yPreS (av := .ref a :: av) B h) rfl hn hsz hst0 (by show 2 * 0 + _ ≤ 8; omega) d hf) h kk
end YCALL

section YWRAP
variable {p : Program} {l : Launch} {e : Env} {R : Room} {s : State} {m : MethodId} {args : Array Value} {below : List Frame} {meth : Method} {c : Code} {H : Heap} {locs : List Loc} {cells slots : Nat} {Qf : State → Prop}
variable {cc : ByteArray} {nL : Nat} {rt : Option FieldType} {own : String} {D : va_G} {Zk : yK} {ca : Nat → ClassId} {A : Nat → Prop} {w : yW} {pc : Nat} {ls : Array Slot} {rest : List Value}
theorem y_ri (B : xB p s m args meth c D ca own cc nL (some .int)) {w0 w1 : yW} {Qc : Option Value → yW → Prop} {v : Int32} {k n : Nat} (hQ : Qf = MQ below (yQ D w0 s.heap.size Qc) args s k n A ∧ A = yA w0 s.heap.size) (h : yH D Zk A s w1 H locs) (hc : cells ≤ k ∧ slots ≤ n) (d : decode cc pc = .ok (.ireturn, 1)) (hq : Qc (some (.int v)) w1) : W p l e R s m args below meth c H locs cells slots Qf (F0 m pc ls [.int v]) := by
  rw [hQ.1]; exact y_iret B h hQ.2 hq hc.1 hc.2 d
theorem y_rz (B : xB p s m args meth c D ca own cc nL (some .boolean)) {w0 w1 : yW} {Qc : Option Value → yW → Prop} {v : Int32} {k n : Nat} (hQ : Qf = MQ below (yQ D w0 s.heap.size Qc) args s k n A ∧ A = yA w0 s.heap.size) (h : yH D Zk A s w1 H locs) (hc : cells ≤ k ∧ slots ≤ n) (hv : narrow .boolean (.int v) = .int v) (d : decode cc pc = .ok (.ireturn, 1)) (hq : Qc (some (.int v)) w1) : W p l e R s m args below meth c H locs cells slots Qf (F0 m pc ls [.int v]) := by
  rw [hQ.1]; exact y_zret B hv h hQ.2 hq hc.1 hc.2 d
theorem y_rl (B : xB p s m args meth c D ca own cc nL (some .long)) {w0 w1 : yW} {Qc : Option Value → yW → Prop} {v : Int64} {k n : Nat} (hQ : Qf = MQ below (yQ D w0 s.heap.size Qc) args s k n A ∧ A = yA w0 s.heap.size) (h : yH D Zk A s w1 H locs) (hc : cells ≤ k ∧ slots ≤ n) (d : decode cc pc = .ok (.lreturn, 1)) (hq : Qc (some (.long v)) w1) : W p l e R s m args below meth c H locs cells slots Qf (F0 m pc ls [.long v]) := by
  rw [hQ.1]; exact y_lret B h hQ.2 hq hc.1 hc.2 d
theorem y_ra {C : String} (B : xB p s m args meth c D ca own cc nL (some (.object C))) {w0 w1 : yW} {Qc : Option Value → yW → Prop} {r : Option Nat} {k n : Nat} (hQ : Qf = MQ below (yQ D w0 s.heap.size Qc) args s k n A ∧ A = yA w0 s.heap.size) (h : yH D Zk A s w1 H locs) (hc : cells ≤ k ∧ slots ≤ n) (d : decode cc pc = .ok (.areturn, 1)) (hq : Qc (some (va_rf r)) w1) : W p l e R s m args below meth c H locs cells slots Qf (F0 m pc ls [va_rf r]) := by
  rw [hQ.1]; exact y_aret B h hQ.2 hq hc.1 hc.2 d
theorem y_rv (B : xB p s m args meth c D ca own cc nL none) {w0 w1 : yW} {Qc : Option Value → yW → Prop} {k n : Nat} (hQ : Qf = MQ below (yQ D w0 s.heap.size Qc) args s k n A ∧ A = yA w0 s.heap.size) (h : yH D Zk A s w1 H locs) (hc : cells ≤ k ∧ slots ≤ n) (d : decode cc pc = .ok (.return_, 1)) (hq : Qc none w1) : W p l e R s m args below meth c H locs cells slots Qf (F0 m pc ls []) := by
  rw [hQ.1]; exact y_vret B h hQ.2 hq hc.1 hc.2 d
theorem y_cS (B : xB p s m args meth c D ca own cc nL rt) (h : yH D Zk A s w H locs) {y : MethodName} {cy : ByteArray} {maxL n : Nat} {ret : Option FieldType} (M : xMS y cy maxL ret n) {rm : Room} {av : List Value} {Qc : Option Value → yW → Prop} (hM : yC l D Zk ca y cy maxL ret rm av w Qc) {index : Nat} (hl : Cond.methodLink own index y ∈ AW) (hn : av.length = n) (hR : xRoom rm R maxL cells slots) (hsz : ls.size = nL) {st0 : List Value} (rest : List Value) (hW : (rest.map fun v => v.category).sum ≤ 8) (hst0 : st0 = av.reverse ++ rest)
    (d : decode cc pc = .ok (.invokestatic index, 3)) (kk : ∀ (r : Option Value) (w1 : yW), Qc r w1 → ∀ (H1 : Heap) (locs1 : List Loc), yH D Zk A s w1 H1 locs1 → W p l e R s m args below meth c H1 locs1 (cells + rm.cells) (slots + rm.slots) Qf (F0 m (pc + 3) ls (r.toList ++ rest))) : W p l e R s m args below meth c H locs cells slots Qf (F0 m pc ls st0) :=
  y_callS  B h hM M.1 hl M.2.1 M.2.2.1 M.2.2.2 hn hR.1 hR.2 hsz hW hst0 d kk
theorem y_cSN (B : xB p s m args meth c D ca own cc nL rt) (h : yH D Zk A s w H locs) {y : MethodName} {cy : ByteArray} {maxL n : Nat} {ret : Option FieldType} (M : xMS y cy maxL ret n) {rm : Room} {av : List Value} {Qc : Option Value → yW → Prop} (hM : yC l D Zk ca y cy maxL ret rm av w Qc) {index : Nat} {host : String} (hl : (own, index, y, host) ∈ xNM) (hn : av.length = n) (hR : xRoom rm R maxL cells slots) (hsz : ls.size = nL) {st0 : List Value} (rest : List Value) (hW : (rest.map fun v => v.category).sum ≤ 8) (hst0 : st0 = av.reverse ++ rest)
    (d : decode cc pc = .ok (.invokestatic index, 3)) (kk : ∀ (r : Option Value) (w1 : yW), Qc r w1 → ∀ (H1 : Heap) (locs1 : List Loc), yH D Zk A s w1 H1 locs1 → W p l e R s m args below meth c H1 locs1 (cells + rm.cells) (slots + rm.slots) Qf (F0 m (pc + 3) ls (r.toList ++ rest))) : W p l e R s m args below meth c H locs cells slots Qf (F0 m pc ls st0) :=
  y_callSN  B h hM M.1 hl M.2.1 M.2.2.1 M.2.2.2 hn hR.1 hR.2 hsz hW hst0 d kk
theorem y_cV (B : xB p s m args meth c D ca own cc nL rt) (h : yH D Zk A s w H locs) {ci N : Nat} {C : String} {T : u_T} {ty : Nat → FieldType} (K : xK1 ci C T N ty) (q0 : Nat) {a : Nat} {ps : List fP} (hq : w q0 = some (a, xO ci ps)) {y : MethodName} {cy : ByteArray} {maxL n : Nat} {ret : Option FieldType} (M : xMV y cy maxL ret n) (hC : y.cls = C) {rm : Room} {av : List Value} {Qc : Option Value → yW → Prop} (hM : yC l D Zk ca y cy maxL ret rm (.ref a :: av) w Qc) {index : Nat} (hl : Cond.methodLink own index y ∈ AW) (hn : av.length = n) (hR : xRoom rm R maxL cells slots) (hsz : ls.size = nL) {st0 : List Value} (rest : List Value) (hW : (rest.map fun v => v.category).sum ≤ 8) (hst0 : st0 = av.reverse ++ .ref a :: rest)
    (d : decode cc pc = .ok (.invokevirtual index, 3)) (kk : ∀ (r : Option Value) (w1 : yW), Qc r w1 → ∀ (H1 : Heap) (locs1 : List Loc), yH D Zk A s w1 H1 locs1 → W p l e R s m args below meth c H1 locs1 (cells + rm.cells) (slots + rm.slots) Qf (F0 m (pc + 3) ls (r.toList ++ rest))) : W p l e R s m args below meth c H locs cells slots Qf (F0 m pc ls st0) := by
  subst hC
  exact y_callV  B h K q0 hq hM rfl M.1 hl M.2.1 M.2.2.1 M.2.2.2.1 M.2.2.2.2 hn hR.1 hR.2 hsz hW hst0 d kk
theorem y_cI (B : xB p s m args meth c D ca own cc nL rt) {wa : yW} (h : yH D Zk A s wa H locs) {a : Nat} {y : MethodName} {cy : ByteArray} {maxL n : Nat} (M : xMI y cy maxL n) {rm : Room} {av : List Value} {Qc : Option Value → yW → Prop} (hM : yC l D Zk ca y cy maxL none rm (.ref a :: av) wa Qc) {index : Nat} (hl : Cond.methodLink own index y ∈ AW) (hn : av.length = n) (hR : xRoom rm R maxL cells slots) (hsz : ls.size = nL) {st0 : List Value} (rest : List Value) (hW : (rest.map fun v => v.category).sum ≤ 8) (hst0 : st0 = av.reverse ++ .ref a :: rest)
    (d : decode cc pc = .ok (.invokespecial index, 3)) (kk : ∀ (r : Option Value) (w1 : yW), Qc r w1 → ∀ (H1 : Heap) (locs1 : List Loc), yH D Zk A s w1 H1 locs1 → W p l e R s m args below meth c H1 locs1 (cells + rm.cells) (slots + rm.slots) Qf (F0 m (pc + 3) ls (r.toList ++ rest))) : W p l e R s m args below meth c H locs cells slots Qf (F0 m pc ls st0) :=
  y_callI B h hM M.2.2.1 M.1 hl M.2.1 M.2.2.2.1 M.2.2.2.2 hn hR.1 hR.2 hsz hW hst0 d kk
theorem y_cIN (B : xB p s m args meth c D ca own cc nL rt) {wa : yW} (h : yH D Zk A s wa H locs) {a : Nat} {y : MethodName} {cy : ByteArray} {maxL n : Nat} (M : xMI y cy maxL n) {rm : Room} {av : List Value} {Qc : Option Value → yW → Prop} (hM : yC l D Zk ca y cy maxL none rm (.ref a :: av) wa Qc) {index : Nat} {host : String} (hl : (own, index, y, host) ∈ xNM) (hn : av.length = n) (hR : xRoom rm R maxL cells slots) (hsz : ls.size = nL) {st0 : List Value} (rest : List Value) (hW : (rest.map fun v => v.category).sum ≤ 8) (hst0 : st0 = av.reverse ++ .ref a :: rest)
    (d : decode cc pc = .ok (.invokespecial index, 3)) (kk : ∀ (r : Option Value) (w1 : yW), Qc r w1 → ∀ (H1 : Heap) (locs1 : List Loc), yH D Zk A s w1 H1 locs1 → W p l e R s m args below meth c H1 locs1 (cells + rm.cells) (slots + rm.slots) Qf (F0 m (pc + 3) ls (r.toList ++ rest))) : W p l e R s m args below meth c H locs cells slots Qf (F0 m pc ls st0) :=
  y_callIN B h hM M.2.2.1 M.1 hl M.2.1 M.2.2.2.1 M.2.2.2.2 hn hR.1 hR.2 hsz hW hst0 d kk
end YWRAP

def vI (w : yW) (P : Int → Prop) : Option Value → yW → Prop := fun r w1 => w = w1 ∧ ∃ z : Int, r = some (.int (iI z)) ∧ P z
def vZ (w : yW) (P : Prop) : Option Value → yW → Prop := fun r w1 => w = w1 ∧ ((r = some (.int (iI 1)) ∧ P) ∨ (r = some (.int (iI 0)) ∧ ¬ P))
def vV (w : yW) : Option Value → yW → Prop := fun r w1 => w = w1 ∧ r = none
def vQ (w : yW) (P : Option Nat → Prop) : Option Value → yW → Prop := fun r w1 => w = w1 ∧ ∃ q : Option Nat, r = some (va_rf q) ∧ P q
def vL (w : yW) (P : Int64 → Prop) : Option Value → yW → Prop := fun r w1 => w = w1 ∧ ∃ z : Int64, r = some (.long z) ∧ P z
