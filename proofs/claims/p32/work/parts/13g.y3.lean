section YMORE
variable {p : Program} {l : Launch} {e : Env} {R : Room} {s : State} {m : MethodId} {args : Array Value} {below : List Frame} {meth : Method} {c : Code} {H : Heap} {locs : List Loc} {cells slots : Nat} {Qf : State → Prop}
variable {cc : ByteArray} {nL : Nat} {rt : Option FieldType} {own : String} {D : va_G} {Zk : yK} {ca : Nat → ClassId} {A : Nat → Prop} {w : yW} {pc : Nat} {ls : Array Slot} {rest : List Value}
theorem y_alenI (B : xB p s m args meth c D ca own cc nL rt) (h : yH D Zk A s w H locs) (q0 : Nat) {a n : Nat} {P : (Nat → Int32) → Prop} (t0 : Nat) {cA : ClassId} {ty : FieldType} (hq : w q0 = some (a, xAI cA n P)) (ht : (xT ca)[t0]? = some (cA, ty)) (d : decode cc pc = .ok (.arraylength, 1)) (k : W p l e R s m args below meth c H locs cells slots Qf (F0 m (pc + 1) ls (.int (iI (n : Int)) :: rest))) : W p l e R s m args below meth c H locs cells slots Qf (F0 m pc ls (.ref a :: rest)) := by
  obtain ⟨e1, h1, f, rfl, hP⟩ := h.1 q0 _ hq
  exact va_alen (t0 := t0) (v := iI (n : Int)) B.1 B.2.1 B.2.2.2.2.2.1.1 (xone h1) 0 rfl ht rfl d k
theorem y_alenL (B : xB p s m args meth c D ca own cc nL rt) (h : yH D Zk A s w H locs) (q0 : Nat) {a n : Nat} {P : (Nat → Int64) → Prop} (t0 : Nat) {cA : ClassId} {ty : FieldType} (hq : w q0 = some (a, xAL cA n P)) (ht : (xT ca)[t0]? = some (cA, ty)) (d : decode cc pc = .ok (.arraylength, 1)) (k : W p l e R s m args below meth c H locs cells slots Qf (F0 m (pc + 1) ls (.int (iI (n : Int)) :: rest))) : W p l e R s m args below meth c H locs cells slots Qf (F0 m pc ls (.ref a :: rest)) := by
  obtain ⟨e1, h1, f, rfl, hP⟩ := h.1 q0 _ hq
  exact va_alen (t0 := t0) (v := iI (n : Int)) B.1 B.2.1 B.2.2.2.2.2.1.1 (xone h1) 0 rfl ht rfl d k
theorem y_alenQ (B : xB p s m args meth c D ca own cc nL rt) (h : yH D Zk A s w H locs) (q0 : Nat) {a n : Nat} {P : (Nat → Option Nat) → Prop} (t0 : Nat) {cA : ClassId} {ty : FieldType} (hq : w q0 = some (a, xAQ cA n P)) (ht : (xT ca)[t0]? = some (cA, ty)) (d : decode cc pc = .ok (.arraylength, 1)) (k : W p l e R s m args below meth c H locs cells slots Qf (F0 m (pc + 1) ls (.int (iI (n : Int)) :: rest))) : W p l e R s m args below meth c H locs cells slots Qf (F0 m pc ls (.ref a :: rest)) := by
  obtain ⟨e1, h1, f, rfl, hP⟩ := h.1 q0 _ hq
  exact va_alen (t0 := t0) (v := iI (n : Int)) B.1 B.2.1 B.2.2.2.2.2.1.1 (xone h1) 0 rfl ht rfl d k
theorem y_laldC (B : xB p s m args meth c D ca own cc nL rt) (h : yH D Zk A s w H locs) (q0 : Nat) {a n : Nat} {k : Int} {v : Int64} (hq : w q0 = some (a, xAL (ca 1) n (gL k v))) {i : Int} (hi : xr i ∧ 0 ≤ i ∧ i < n ∧ i < k) (d : decode cc pc = .ok (.laload, 1)) (kk : W p l e R s m args below meth c H locs cells slots Qf (F0 m (pc + 1) ls (.long v :: rest))) : W p l e R s m args below meth c H locs cells slots Qf (F0 m pc ls (.int (iI i) :: .ref a :: rest)) :=
  y_lald B h q0 hq ⟨hi.1, hi.2.1, hi.2.2.1⟩ d (fun f hf => by rw [hf i.toNat (by omega)]; exact kk)
theorem y_last (B : xB p s m args meth c D ca own cc nL rt) (h : yH D Zk A s w H locs) (q0 : Nat) {a n : Nat} {P : (Nat → Int64) → Prop} (hq : w q0 = some (a, xAL (ca 1) n P)) {i : Int} (hi : xr i ∧ 0 ≤ i ∧ i < n) {x : Int64} {P' : (Nat → Int64) → Prop} (hp : ∀ f : Nat → Int64, P f → P' (vp_updL f i.toNat x)) (d : decode cc pc = .ok (.lastore, 1)) (kk : ∀ (H1 : Heap) (locs1 : List Loc), yH D Zk A s (wu w q0 (a, xAL (ca 1) n P')) H1 locs1 → W p l e R s m args below meth c H1 locs1 cells slots Qf (F0 m (pc + 1) ls rest)) : W p l e R s m args below meth c H locs cells slots Qf (F0 m pc ls (.long x :: .int (iI i) :: .ref a :: rest)) := by
  obtain ⟨e1, h1, f, rfl, hP⟩ := h.1 q0 _ hq
  refine W.last B.1 B.2.1 h1 ((B.2.2.2.2.2.1.1.2 1 _ rfl).1 n (fun j => .long (f j))) (fun q => by cases q) (by show ¬ (iI i < 0 ∨ (arrV _ _ _).slots.size ≤ _); rw [arrV_size]; exact (iI_in hi.1).mpr hi.2) rfl rfl d fun H1 e9 z oq => ?_
  rw [iI_clamp hi.1] at e9 ⊢
  refine kk H1 _ (h.put hq (e' := .inl (ca 1, n, .inr (.inl (vp_updL f i.toNat x)))) ?_ ⟨_, rfl, hp f hP⟩ z oq)
  show H1[a]? = some (vp_cell _ _)
  rw [e9]
  rw [vp_cell_l, vp_cell_l, arrV_store]
  congr 2
  funext q
  by_cases hq9 : q = i.toNat
  · subst hq9
    simp [updV, vp_updL]
  · simp [updV, vp_updL, hq9]
theorem y_ialdP (B : xB p s m args meth c D ca own cc nL rt) (h : yH D Zk A s w H locs) (q0 : Nat) {a n : Nat} {k : Int} {g : Nat → Int} (hq : w q0 = some (a, xAI (ca 0) n (gP k g))) {i : Int} (hi : xr i ∧ 0 ≤ i ∧ i < n ∧ i < k) (d : decode cc pc = .ok (.iaload, 1)) {z : Int} (hz : g i.toNat = z) (kk : W p l e R s m args below meth c H locs cells slots Qf (F0 m (pc + 1) ls (.int (iI z) :: rest))) : W p l e R s m args below meth c H locs cells slots Qf (F0 m pc ls (.int (iI i) :: .ref a :: rest)) :=
  y_iald B h q0 hq ⟨hi.1, hi.2.1, hi.2.2.1⟩ d (fun f hf => by rw [hf i.toNat (by omega), hz]; exact kk)
theorem y_zaldP (B : xB p s m args meth c D ca own cc nL rt) (h : yH D Zk A s w H locs) (q0 : Nat) {a n : Nat} {k : Int} {g : Nat → Int} (hq : w q0 = some (a, xAI (ca 2) n (gP k g))) {i : Int} (hi : xr i ∧ 0 ≤ i ∧ i < n ∧ i < k) (d : decode cc pc = .ok (.baload, 1)) {z : Int} (hz : g i.toNat = z) (kk : W p l e R s m args below meth c H locs cells slots Qf (F0 m (pc + 1) ls (.int (iI z) :: rest))) : W p l e R s m args below meth c H locs cells slots Qf (F0 m pc ls (.int (iI i) :: .ref a :: rest)) :=
  y_zald B h q0 hq ⟨hi.1, hi.2.1, hi.2.2.1⟩ d (fun f hf => by rw [hf i.toNat (by omega), hz]; exact kk)
theorem y_qaldN (B : xB p s m args meth c D ca own cc nL rt) (h : yH D Zk A s w H locs) (q0 t0 : Nat) {C : String} (ht : (xT ca)[t0]? = some (ca t0, .object C)) {a n : Nat} (hq : w q0 = some (a, xAQ (ca t0) n (fun f => f = fun _ => none))) {i : Int} (hi : xr i ∧ 0 ≤ i ∧ i < n) (d : decode cc pc = .ok (.aaload, 1)) (kk : W p l e R s m args below meth c H locs cells slots Qf (F0 m (pc + 1) ls (.null :: rest))) : W p l e R s m args below meth c H locs cells slots Qf (F0 m pc ls (.int (iI i) :: .ref a :: rest)) :=
  y_qald B h q0 t0 ht hq hi d (fun f hf => by subst hf; exact kk)
theorem y_qast (B : xB p s m args meth c D ca own cc nL rt) (h : yH D Zk A s w H locs) (q0 t0 : Nat) {ci N : Nat} {C : String} {T : u_T} {ty : Nat → FieldType} (K : xK1 ci C T N ty) (ht : (xT ca)[t0]? = some (ca t0, .object C)) {a n : Nat} {P : (Nat → Option Nat) → Prop} (hq : w q0 = some (a, xAQ (ca t0) n P)) {i : Int} (hi : xr i ∧ 0 ≤ i ∧ i < n) {qk v : Nat} {ps : List fP} (hv : w qk = some (v, xO ci ps)) {P' : (Nat → Option Nat) → Prop} (hp : ∀ f : Nat → Option Nat, P f → P' (va_up f i.toNat (some v))) (d : decode cc pc = .ok (.aastore, 1)) (kk : ∀ (H1 : Heap) (locs1 : List Loc), yH D Zk A s (wu w q0 (a, xAQ (ca t0) n P')) H1 locs1 → W p l e R s m args below meth c H1 locs1 cells slots Qf (F0 m (pc + 1) ls rest)) : W p l e R s m args below meth c H locs cells slots Qf (F0 m pc ls (.ref v :: .int (iI i) :: .ref a :: rest)) := by
  obtain ⟨e1, h1, f, rfl, hP⟩ := h.1 q0 _ hq
  obtain ⟨e2, h2, vs, rfl, -, -⟩ := h.1 qk _ hv
  obtain ⟨r', hr', cellV, g1, g2, g3, -⟩ := h2
  have hrr : r' = (C, T, N) := Option.some.inj (hr'.symm.trans K.1)
  subst hrr
  have hin := (iI_in (n := n) hi.1).mpr hi.2
  have hlt : (iI i).toNatClampNeg < n := Nat.not_le.mp fun q => hin (Or.inr q)
  have h0 : ¬ iI i < 0 := fun q => hin (Or.inl q)
  have hcls := (B.2.2.2.2.2.1.1.1 ci _ K.1).2
  obtain ⟨kA, comp, k1, k2, k3, -⟩ := (B.2.2.2.2.2.1.1.2 t0 _ ht).2
  have hcomp : comp = D.1 ci := Option.some.inj (k3.symm.trans hcls.1)
  subst hcomp
  obtain ⟨kC, hkC, -⟩ := hcls.2
  refine W.aast B.1 B.2.1 h1 (fun q h => by cases h) (fun h => by cases h) k1 k2 rfl hkC ⟨h0, by show _ < (arrV _ _ _).slots.size; rw [arrV_size]; exact hlt⟩ g1 (fun q h => by rw [g3] at h; cases h) (by rw [g2]; exact hkC) (by rw [g2]; exact va_assign hcls) rfl rfl d fun H1 e9 z oq => ?_
  rw [iI_clamp hi.1] at e9 ⊢
  refine kk H1 _ (h.put hq (e' := .inl (ca t0, n, .inr (.inr (.inr (.inr (va_up f i.toNat (some v))))))) ?_ ⟨_, rfl, hp f hP⟩ z oq)
  show H1[a]? = some (vp_cell _ _)
  rw [e9]
  rw [vp_cell_q, vp_cell_q, arrV_store]
  congr 2
  funext q
  by_cases hq9 : q = i.toNat
  · subst hq9
    simp [updV, va_up, va_rf]
  · simp [updV, va_up, hq9]
theorem y_look (B : xB p s m args meth c D ca own cc nL rt) {z dflt off : Int} {ps : Array (Int × Int)} {len tgt : Nat} (hz : xr z) (d : decode cc pc = .ok (.lookupswitch dflt ps, len)) (hp : (ps.toList.zip (ps.toList.drop 1)).all (fun (a, next) => a.1 < next.1) = true) (ho : Op.lookupswitch.offset ps.toList dflt z = off) (ht : (pc : Int) + off = (tgt : Int)) (kk : W p l e R s m args below meth c H locs cells slots Qf (F0 m tgt ls rest)) : W p l e R s m args below meth c H locs cells slots Qf (F0 m pc ls (.int (iI z) :: rest)) :=
  lv_lookup B.1 B.2.1 d hp (by rw [iI_T hz]; exact ho) ht kk
theorem y_qastS (B : xB p s m args meth c D ca own cc nL rt) (h : yH D Zk A s w H locs) (q0 t0 : Nat) {ci N : Nat} {C : String} {T : u_T} {ty : Nat → FieldType} (K : xK1 ci C T N ty) (ht : (xT ca)[t0]? = some (ca t0, .object C)) {a n : Nat} {P : (Nat → Option Nat) → Prop} (hq : w q0 = some (a, xAQ (ca t0) n P)) {i : Int} (hi : xr i ∧ 0 ≤ i ∧ i < n) {qk v : Nat} {ps : List fP} (hv : w qk = some (v, xO ci ps)) (hp : ∀ f : Nat → Option Nat, P f → P (va_up f i.toNat (some v))) (d : decode cc pc = .ok (.aastore, 1)) (kk : ∀ (H1 : Heap) (locs1 : List Loc), yH D Zk A s w H1 locs1 → W p l e R s m args below meth c H1 locs1 cells slots Qf (F0 m (pc + 1) ls rest)) : W p l e R s m args below meth c H locs cells slots Qf (F0 m pc ls (.ref v :: .int (iI i) :: .ref a :: rest)) :=
  y_qast B h q0 t0 K ht hq hi hv (P' := P) hp d (fun H1 locs1 h1 => kk H1 locs1 (by rw [wu_same hq] at h1; exact h1))
end YMORE
theorem y_sld {p : Program} {l : Launch} {e : Env} {R : Room} {s : State} {m : MethodId} {args : Array Value} {below : List Frame} {meth : Method} {c : Code} {H : Heap} {locs : List Loc} {cells slots : Nat} {Qf : State → Prop} {cc : ByteArray} {nL : Nat} {rt : Option FieldType} {own : String} {D : va_G} {Zk : yK} {ca : Nat → ClassId} {A : Nat → Prop} {w : yW} {pc : Nat} {ls : Array Slot} {rest : List Value}
    (B : xB p s m args meth c D ca own cc nL rt) (h : yH D Zk A s w H locs) {b L : Nat} {xs : Nat → Int32} (hX : va_X b L xs s s.heap) (hbl : b < s.heap.size) (hbA : ¬ A b) {i : Int} (k : Nat) (hi : xr i ∧ i = k ∧ k < L) (d : decode cc pc = .ok (.iaload, 1)) (kk : W p l e R s m args below meth c H locs cells slots Qf (F0 m (pc + 1) ls (.int (iI (xs k).toInt) :: rest))) : W p l e R s m args below meth c H locs cells slots Qf (F0 m pc ls (.int (iI i) :: .ref b :: rest)) := by
  refine va_sld B.1 B.2.1 hX hbl hbA h.2.2.1 ((iI_in hi.1).mpr (by omega)) d ?_
  rw [iI_clamp hi.1, show i.toNat = k by omega, iI_of (xs k)]
  exact kk
theorem y_slen {p : Program} {l : Launch} {e : Env} {R : Room} {s : State} {m : MethodId} {args : Array Value} {below : List Frame} {meth : Method} {c : Code} {H : Heap} {locs : List Loc} {cells slots : Nat} {Qf : State → Prop} {cc : ByteArray} {nL : Nat} {rt : Option FieldType} {own : String} {D : va_G} {Zk : yK} {ca : Nat → ClassId} {A : Nat → Prop} {w : yW} {pc : Nat} {ls : Array Slot} {rest : List Value}
    (B : xB p s m args meth c D ca own cc nL rt) (h : yH D Zk A s w H locs) {b L : Nat} {xs : Nat → Int32} (hX : va_X b L xs s s.heap) (hbl : b < s.heap.size) (hbA : ¬ A b) (d : decode cc pc = .ok (.arraylength, 1)) (kk : W p l e R s m args below meth c H locs cells slots Qf (F0 m (pc + 1) ls (.int (iI (L : Int)) :: rest))) : W p l e R s m args below meth c H locs cells slots Qf (F0 m pc ls (.ref b :: rest)) :=
  va_slen B.1 B.2.1 hX hbl hbA h.2.2.1 d kk
