/-! lengths, wide constants, single stores -/
section XMORE
variable {p : Program} {l : Launch} {e : Env} {R : Room} {s : State} {m : MethodId} {args : Array Value} {below : List Frame} {meth : Method} {c : Code} {H : Heap} {locs : List Loc} {cells slots : Nat} {Qf : State → Prop}
variable {cc : ByteArray} {nL : Nat} {rt : Option FieldType} {own : String} {D : va_G} {ca : Nat → ClassId} {A : Nat → Prop} {H0 : Heap} {w : xW} {pc : Nat} {ls : Array Slot} {rest : List Value}
theorem x_alenI (B : xB p s m args meth c D ca own cc nL rt) (h : xH D A H0 w H locs) (q0 : Nat) {a n : Nat} {P : (Nat → Int32) → Prop} (t0 : Nat) {cA : ClassId} {ty : FieldType} (hq : w[q0]? = some (a, xAI cA n P)) (ht : (xT ca)[t0]? = some (cA, ty)) (d : decode cc pc = .ok (.arraylength, 1)) (k : W p l e R s m args below meth c H locs cells slots Qf (F0 m (pc + 1) ls (.int (iI (n : Int)) :: rest))) : W p l e R s m args below meth c H locs cells slots Qf (F0 m pc ls (.ref a :: rest)) := by
  obtain ⟨e1, h1, f, rfl, hP⟩ := h.1 q0 _ hq
  exact va_alen (t0 := t0) (v := iI (n : Int)) B.1 B.2.1 B.2.2.2.2.2.1.1 (xone h1) 0 rfl ht rfl d k
theorem x_alenL (B : xB p s m args meth c D ca own cc nL rt) (h : xH D A H0 w H locs) (q0 : Nat) {a n : Nat} {P : (Nat → Int64) → Prop} (t0 : Nat) {cA : ClassId} {ty : FieldType} (hq : w[q0]? = some (a, xAL cA n P)) (ht : (xT ca)[t0]? = some (cA, ty)) (d : decode cc pc = .ok (.arraylength, 1)) (k : W p l e R s m args below meth c H locs cells slots Qf (F0 m (pc + 1) ls (.int (iI (n : Int)) :: rest))) : W p l e R s m args below meth c H locs cells slots Qf (F0 m pc ls (.ref a :: rest)) := by
  obtain ⟨e1, h1, f, rfl, hP⟩ := h.1 q0 _ hq
  exact va_alen (t0 := t0) (v := iI (n : Int)) B.1 B.2.1 B.2.2.2.2.2.1.1 (xone h1) 0 rfl ht rfl d k
theorem x_alenQ (B : xB p s m args meth c D ca own cc nL rt) (h : xH D A H0 w H locs) (q0 : Nat) {a n : Nat} {P : (Nat → Option Nat) → Prop} (t0 : Nat) {cA : ClassId} {ty : FieldType} (hq : w[q0]? = some (a, xAQ cA n P)) (ht : (xT ca)[t0]? = some (cA, ty)) (d : decode cc pc = .ok (.arraylength, 1)) (k : W p l e R s m args below meth c H locs cells slots Qf (F0 m (pc + 1) ls (.int (iI (n : Int)) :: rest))) : W p l e R s m args below meth c H locs cells slots Qf (F0 m pc ls (.ref a :: rest)) := by
  obtain ⟨e1, h1, f, rfl, hP⟩ := h.1 q0 _ hq
  exact va_alen (t0 := t0) (v := iI (n : Int)) B.1 B.2.1 B.2.2.2.2.2.1.1 (xone h1) 0 rfl ht rfl d k
end XMORE
theorem gG_upd {n : Nat} {lo hi z : Int} {k : Nat} (hz : lo ≤ z ∧ z ≤ hi) : ∀ f : Nat → Int32, gG n lo hi f → gG n lo hi (upd f k (iI z)) := fun f hf j hj => by
  unfold upd
  by_cases q : j = k
  · rw [if_pos q]; exact ⟨z, rfl, hz.1, hz.2⟩
  · rw [if_neg q]; exact hf j hj
theorem vp_z0 : vp_nar .boolean (iI 0) = iI 0 := by decide
theorem vp_z1 : vp_nar .boolean (iI 1) = iI 1 := by decide
theorem gG_updZ {n : Nat} {k : Nat} {z : Int} (hz : z = 0 ∨ z = 1) : ∀ f : Nat → Int32, gG n 0 1 f → gG n 0 1 (upd f k (vp_nar .boolean (iI z))) := fun f hf j hj => by
  unfold upd
  by_cases q : j = k
  · rw [if_pos q]
    rcases hz with rfl | rfl
    · exact ⟨0, vp_z0, by omega, by omega⟩
    · exact ⟨1, vp_z1, by omega, by omega⟩
  · rw [if_neg q]; exact hf j hj
def iu (g : Nat → Int) (i z : Int) : Nat → Int := fun j => if (j : Int) = i then z else g j
theorem gX_upd {n : Nat} {g : Nat → Int} {i z : Int} (hi : 0 ≤ i) : ∀ f : Nat → Int32, gX n g f → gX n (iu g i z) (upd f i.toNat (iI z)) := fun f hf j hj => by
  unfold upd iu
  by_cases q : j = i.toNat
  · rw [if_pos q, if_pos (by omega)]
  · rw [if_neg q, if_neg (by omega)]; exact hf j hj
def qIa (P : Int → Prop) : Option Value → xW → Prop := fun r _ => ∃ z : Int, r = some (.int (iI z)) ∧ P z
def qZa (P : Prop) : Option Value → xW → Prop := fun r _ => (r = some (.int (iI 1)) ∧ P) ∨ (r = some (.int (iI 0)) ∧ ¬ P)
theorem x_ldcw {p : Program} {l : Launch} {e : Env} {R : Room} {s : State} {m : MethodId} {args : Array Value} {below : List Frame} {meth : Method} {c : Code} {H : Heap} {locs : List Loc} {cells slots : Nat} {Qf : State → Prop} {cc : ByteArray} {nL : Nat} {rt : Option FieldType} {own : String} {D : va_G} {ca : Nat → ClassId} {pc : Nat} {ls : Array Slot} {rest : List Value}
    (B : xB p s m args meth c D ca own cc nL rt) {index : Nat} {v : Int32} {z : Int} (hl : Cond.constant own index v ∈ AW) (h : v = iI z) (d : decode cc pc = .ok (.ldc_w index, 3)) (k : W p l e R s m args below meth c H locs cells slots Qf (F0 m (pc + 3) ls (.int (iI z) :: rest))) : W p l e R s m args below meth c H locs cells slots Qf (F0 m pc ls rest) :=
  lv_ldcw B.1 B.2.1 B.2.2.2.1 (B.2.2.2.2.1 _ hl) d (by rw [← h] at k; exact k)
section XMORE2
variable {p : Program} {l : Launch} {e : Env} {R : Room} {s : State} {m : MethodId} {args : Array Value} {below : List Frame} {meth : Method} {c : Code} {H : Heap} {locs : List Loc} {cells slots : Nat} {Qf : State → Prop}
variable {cc : ByteArray} {nL : Nat} {rt : Option FieldType} {own : String} {D : va_G} {ca : Nat → ClassId} {A : Nat → Prop} {H0 : Heap} {w : xW} {pc : Nat} {ls : Array Slot} {rest : List Value}
/-! a switch by a table: inside at place k, outside -/
theorem x_tin (B : xB p s m args meth c D ca own cc nL rt) {z dflt lo hi off : Int} {offs : Array Int} {len tgt : Nat} (k : Nat) (hz : xr z ∧ z = lo + k ∧ lo + k ≤ hi) (d : decode cc pc = .ok (.tableswitch dflt lo hi offs, len)) (ho : offs[k]? = some off) (ht : (pc : Int) + off = (tgt : Int)) (kk : W p l e R s m args below meth c H locs cells slots Qf (F0 m tgt ls rest)) : W p l e R s m args below meth c H locs cells slots Qf (F0 m pc ls (.int (iI z) :: rest)) := by
  have hT := iI_T hz.1
  refine lv_tableIn B.1 B.2.1 d (by rw [hT]; omega) (by rw [hT]; omega) (off := off) ?_ ht kk
  rw [hT, show (z - lo).toNat = k by omega]
  exact ho
theorem x_tout (B : xB p s m args meth c D ca own cc nL rt) {z dflt lo hi : Int} {offs : Array Int} {len tgt : Nat} (hz : xr z ∧ (z < lo ∨ hi < z)) (d : decode cc pc = .ok (.tableswitch dflt lo hi offs, len)) (ht : (pc : Int) + dflt = (tgt : Int)) (kk : W p l e R s m args below meth c H locs cells slots Qf (F0 m tgt ls rest)) : W p l e R s m args below meth c H locs cells slots Qf (F0 m pc ls (.int (iI z) :: rest)) :=
  lv_tableOut B.1 B.2.1 d (by rw [iI_T hz.1]; exact hz.2) ht kk
/-! longs -/
theorem x_lset {x y : Int64} (h : x = y) (k : W p l e R s m args below meth c H locs cells slots Qf (F0 m pc ls (.long y :: rest))) : W p l e R s m args below meth c H locs cells slots Qf (F0 m pc ls (.long x :: rest)) := by rw [h]; exact k
theorem x_iset {x : Int32} {z : Int} (h : x = iI z) (k : W p l e R s m args below meth c H locs cells slots Qf (F0 m pc ls (.int (iI z) :: rest))) : W p l e R s m args below meth c H locs cells slots Qf (F0 m pc ls (.int x :: rest)) := by rw [h]; exact k
theorem x_raw {x : Int32} (k : ∀ y : Int32, W p l e R s m args below meth c H locs cells slots Qf (F0 m pc ls (.int y :: rest))) : W p l e R s m args below meth c H locs cells slots Qf (F0 m pc ls (.int x :: rest)) := k x
theorem x_rawL {x : Int64} (k : ∀ y : Int64, W p l e R s m args below meth c H locs cells slots Qf (F0 m pc ls (.long y :: rest))) : W p l e R s m args below meth c H locs cells slots Qf (F0 m pc ls (.long x :: rest)) := k x
theorem x_lcmp (B : xB p s m args meth c D ca own cc nL rt) {x y : Int64} {z : Int} (h : lg_cmp x y = iI z) (d : decode cc pc = .ok (.lcmp, 1)) (k : W p l e R s m args below meth c H locs cells slots Qf (F0 m (pc + 1) ls (.int (iI z) :: rest))) : W p l e R s m args below meth c H locs cells slots Qf (F0 m pc ls (.long y :: .long x :: rest)) := W.lcmp B.1 B.2.1 d (by rw [h]; exact k)
def gL (n : Int) (v : Int64) : (Nat → Int64) → Prop := fun f => ∀ j : Nat, (j : Int) < n → f j = v
theorem x_laldC (B : xB p s m args meth c D ca own cc nL rt) (h : xH D A H0 w H locs) (q0 : Nat) {a n : Nat} {k : Int} {v : Int64} (hq : w[q0]? = some (a, xAL (ca 1) n (gL k v))) {i : Int} (hi : xr i ∧ 0 ≤ i ∧ i < n ∧ i < k) (d : decode cc pc = .ok (.laload, 1)) (kk : W p l e R s m args below meth c H locs cells slots Qf (F0 m (pc + 1) ls (.long v :: rest))) : W p l e R s m args below meth c H locs cells slots Qf (F0 m pc ls (.int (iI i) :: .ref a :: rest)) :=
  x_lald B h q0 hq ⟨hi.1, hi.2.1, hi.2.2.1⟩ d (fun f hf => by rw [hf i.toNat (by omega)]; exact kk)
theorem x_last (B : xB p s m args meth c D ca own cc nL rt) (h : xH D A H0 w H locs) (q0 : Nat) {a n : Nat} {P : (Nat → Int64) → Prop} (hq : w[q0]? = some (a, xAL (ca 1) n P)) {i : Int} (hi : xr i ∧ 0 ≤ i ∧ i < n) {x : Int64} {P' : (Nat → Int64) → Prop} (hp : ∀ f : Nat → Int64, P f → P' (vp_updL f i.toNat x)) (d : decode cc pc = .ok (.lastore, 1)) (kk : ∀ (H1 : Heap) (locs1 : List Loc), xH D A H0 (w.set q0 (a, xAL (ca 1) n P')) H1 locs1 → W p l e R s m args below meth c H1 locs1 cells slots Qf (F0 m (pc + 1) ls rest)) : W p l e R s m args below meth c H locs cells slots Qf (F0 m pc ls (.long x :: .int (iI i) :: .ref a :: rest)) := by
  obtain ⟨e1, h1, f, rfl, hP⟩ := h.1 q0 _ hq
  refine W.last B.1 B.2.1 h1 ((B.2.2.2.2.2.1.1.2 1 _ rfl).1 n (fun j => .long (f j))) (fun q => by cases q) (by show ¬ (iI i < 0 ∨ (arrV _ _ _).slots.size ≤ _); rw [arrV_size]; exact (iI_in hi.1).mpr hi.2) rfl rfl d fun H1 e9 z oq => ?_
  rw [iI_clamp hi.1] at e9 ⊢
  refine kk H1 _ (h.put hq (e' := .inl (ca 1, n, .inr (.inl (vp_updL f i.toNat x)))) ?_ ⟨_, rfl, hp f hP⟩ z oq)
  show H1[a]? = some (vp_cell _ _)
  rw [e9]
  rw [vp_cell_l, vp_cell_l, arrV_store]
  congr 2
  funext q
  by_cases hq9 : q = i.toNat
  · subst hq9
    simp [updV, vp_updL]
  · simp [updV, vp_updL, hq9]
theorem gL_upd {n : Int} {v : Int64} {i : Int} (h : 0 ≤ i ∧ n ≤ i + 1) : ∀ f : Nat → Int64, gL (min n i) v f → gL n v (vp_updL f i.toNat v) := fun f hf j hj => by
  unfold vp_updL
  by_cases q : j = i.toNat
  · rw [if_pos q]
  · rw [if_neg q]; exact hf j (by omega)
theorem gL_put {n : Int} {v : Int64} {k : Nat} : ∀ f : Nat → Int64, gL n v f → gL n v (vp_updL f k v) := fun f hf j hj => by
  unfold vp_updL
  by_cases q : j = k
  · rw [if_pos q]
  · rw [if_neg q]; exact hf j hj
theorem gL_next {i : Int} {v : Int64} (h : 0 ≤ i) : ∀ f : Nat → Int64, gL i v f → gL (i + 1) v (vp_updL f i.toNat v) := fun f hf j hj => by
  unfold vp_updL
  by_cases q : j = i.toNat
  · rw [if_pos q]
  · rw [if_neg q]; exact hf j (by omega)
/-! rows filled up to a place -/
def gP (n : Int) (g : Nat → Int) : (Nat → Int32) → Prop := fun f => ∀ j : Nat, (j : Int) < n → f j = iI (g j)
theorem gP_next {i z : Int} {g : Nat → Int} (h : 0 ≤ i ∧ g i.toNat = z) : ∀ f : Nat → Int32, gP i g f → gP (i + 1) g (upd f i.toNat (iI z)) := fun f hf j hj => by
  unfold upd
  by_cases q : j = i.toNat
  · rw [if_pos q, q, h.2]
  · rw [if_neg q]; exact hf j (by omega)
theorem x_ialdP (B : xB p s m args meth c D ca own cc nL rt) (h : xH D A H0 w H locs) (q0 : Nat) {a n : Nat} {k : Int} {g : Nat → Int} (hq : w[q0]? = some (a, xAI (ca 0) n (gP k g))) {i : Int} (hi : xr i ∧ 0 ≤ i ∧ i < n ∧ i < k) (d : decode cc pc = .ok (.iaload, 1)) {z : Int} (hz : g i.toNat = z) (kk : W p l e R s m args below meth c H locs cells slots Qf (F0 m (pc + 1) ls (.int (iI z) :: rest))) : W p l e R s m args below meth c H locs cells slots Qf (F0 m pc ls (.int (iI i) :: .ref a :: rest)) :=
  x_iald B h q0 hq ⟨hi.1, hi.2.1, hi.2.2.1⟩ d (fun f hf => by rw [hf i.toNat (by omega), hz]; exact kk)
theorem x_zaldP (B : xB p s m args meth c D ca own cc nL rt) (h : xH D A H0 w H locs) (q0 : Nat) {a n : Nat} {k : Int} {g : Nat → Int} (hq : w[q0]? = some (a, xAI (ca 2) n (gP k g))) {i : Int} (hi : xr i ∧ 0 ≤ i ∧ i < n ∧ i < k) (d : decode cc pc = .ok (.baload, 1)) {z : Int} (hz : g i.toNat = z) (kk : W p l e R s m args below meth c H locs cells slots Qf (F0 m (pc + 1) ls (.int (iI z) :: rest))) : W p l e R s m args below meth c H locs cells slots Qf (F0 m pc ls (.int (iI i) :: .ref a :: rest)) :=
  x_zald B h q0 hq ⟨hi.1, hi.2.1, hi.2.2.1⟩ d (fun f hf => by rw [hf i.toNat (by omega), hz]; exact kk)
/-! rows of references: none there; one put -/
theorem x_qaldN (B : xB p s m args meth c D ca own cc nL rt) (h : xH D A H0 w H locs) (q0 t0 : Nat) {C : String} (ht : (xT ca)[t0]? = some (ca t0, .object C)) {a n : Nat} (hq : w[q0]? = some (a, xAQ (ca t0) n (fun f => f = fun _ => none))) {i : Int} (hi : xr i ∧ 0 ≤ i ∧ i < n) (d : decode cc pc = .ok (.aaload, 1)) (kk : W p l e R s m args below meth c H locs cells slots Qf (F0 m (pc + 1) ls (.null :: rest))) : W p l e R s m args below meth c H locs cells slots Qf (F0 m pc ls (.int (iI i) :: .ref a :: rest)) :=
  x_qald B h q0 t0 ht hq hi d (fun f hf => by subst hf; exact kk)
theorem x_qast (B : xB p s m args meth c D ca own cc nL rt) (h : xH D A H0 w H locs) (q0 t0 : Nat) {ci N : Nat} {C : String} {T : u_T} {ty : Nat → FieldType} (K : xK1 ci C T N ty) (ht : (xT ca)[t0]? = some (ca t0, .object C)) {a n : Nat} {P : (Nat → Option Nat) → Prop} (hq : w[q0]? = some (a, xAQ (ca t0) n P)) {i : Int} (hi : xr i ∧ 0 ≤ i ∧ i < n) {qk v : Nat} {ps : List fP} (hv : w[qk]? = some (v, xO ci ps)) {P' : (Nat → Option Nat) → Prop} (hp : ∀ f : Nat → Option Nat, P f → P' (va_up f i.toNat (some v))) (d : decode cc pc = .ok (.aastore, 1)) (kk : ∀ (H1 : Heap) (locs1 : List Loc), xH D A H0 (w.set q0 (a, xAQ (ca t0) n P')) H1 locs1 → W p l e R s m args below meth c H1 locs1 cells slots Qf (F0 m (pc + 1) ls rest)) : W p l e R s m args below meth c H locs cells slots Qf (F0 m pc ls (.ref v :: .int (iI i) :: .ref a :: rest)) := by
  obtain ⟨e1, h1, f, rfl, hP⟩ := h.1 q0 _ hq
  obtain ⟨e2, h2, vs, rfl, -, -⟩ := h.1 qk _ hv
  obtain ⟨r', hr', cellV, g1, g2, g3, -⟩ := h2
  have hrr : r' = (C, T, N) := Option.some.inj (hr'.symm.trans K.1)
  subst hrr
  have hin := (iI_in (n := n) hi.1).mpr hi.2
  have hlt : (iI i).toNatClampNeg < n := Nat.not_le.mp fun q => hin (Or.inr q)
  have h0 : ¬ iI i < 0 := fun q => hin (Or.inl q)
  have hcls := (B.2.2.2.2.2.1.1.1 ci _ K.1).2
  obtain ⟨kA, comp, k1, k2, k3, -⟩ := (B.2.2.2.2.2.1.1.2 t0 _ ht).2
  have hcomp : comp = D.1 ci := Option.some.inj (k3.symm.trans hcls.1)
  subst hcomp
  obtain ⟨kC, hkC, -⟩ := hcls.2
  refine W.aast B.1 B.2.1 h1 (fun q h => by cases h) (fun h => by cases h) k1 k2 rfl hkC ⟨h0, by show _ < (arrV _ _ _).slots.size; rw [arrV_size]; exact hlt⟩ g1 (fun q h => by rw [g3] at h; cases h) (by rw [g2]; exact hkC) (by rw [g2]; exact va_assign hcls) rfl rfl d fun H1 e9 z oq => ?_
  rw [iI_clamp hi.1] at e9 ⊢
  refine kk H1 _ (h.put hq (e' := .inl (ca t0, n, .inr (.inr (.inr (.inr (va_up f i.toNat (some v))))))) ?_ ⟨_, rfl, hp f hP⟩ z oq)
  show H1[a]? = some (vp_cell _ _)
  rw [e9]
  rw [vp_cell_q, vp_cell_q, arrV_store]
  congr 2
  funext q
  by_cases hq9 : q = i.toNat
  · subst hq9
    simp [updV, va_up, va_rf]
  · simp [updV, va_up, hq9]
end XMORE2
/-- the number that the bare scale gives for a wind -/
def bare : Nat → Int := fun j => min 12 ((j : Int) / 8)
theorem bare_at {i : Int} (h : 0 ≤ i) : bare i.toNat = min 12 (i / 8) := by unfold bare; rw [Int.toNat_of_nonneg h]
/-- one place holds a number, the others 0 -/
def gOne (n a : Int) : Nat → Int := fun j => if (j : Int) = n then a else 0
theorem gOne_at {n a i : Int} (h : 0 ≤ i) : gOne n a i.toNat = if i = n then a else 0 := by unfold gOne; rw [Int.toNat_of_nonneg h]
theorem gOne_upd {k : Nat} {n a i z : Int} (h : i = n ∧ 0 ≤ n ∧ z = a + 1) : ∀ f : Nat → Int32, gX k (gOne n a) f → gX k (gOne n (a + 1)) (upd f i.toNat (iI z)) := fun f hf j hj => by
  unfold upd gOne
  by_cases q : j = i.toNat
  · rw [if_pos q, if_pos (by omega), h.2.2]
  · rw [if_neg q, if_neg (by omega), hf j hj]; unfold gOne; rw [if_neg (by omega)]
theorem gOne_ex {n a i : Int} (h : 0 ≤ i) : ∃ z : Int, gOne n a i.toNat = z ∧ ((i = n ∧ z = a) ∨ (i ≠ n ∧ z = 0)) := by
  refine ⟨_, rfl, ?_⟩
  rw [gOne_at h]
  by_cases q : i = n
  · rw [if_pos q]; exact Or.inl ⟨q, rfl⟩
  · rw [if_neg q]; exact Or.inr ⟨q, rfl⟩
theorem gOneP_upd {k n a i z : Int} (h : i = n ∧ 0 ≤ n ∧ z = a + 1) : ∀ f : Nat → Int32, gP k (gOne n a) f → gP k (gOne n (a + 1)) (upd f i.toNat (iI z)) := fun f hf j hj => by
  unfold upd gOne
  by_cases q : j = i.toNat
  · rw [if_pos q, if_pos (by omega), h.2.2]
  · rw [if_neg q, if_neg (by omega), hf j hj]; unfold gOne; rw [if_neg (by omega)]
theorem iu4_at {n i : Int} (h : 0 ≤ i ∧ i ≤ 3) : (i = 3 → iu (iu (iu (iu (fun _ => 0) 0 n) 1 n) 2 n) 3 0 i.toNat = 0) ∧ (i ≠ 3 → iu (iu (iu (iu (fun _ => 0) 0 n) 1 n) 2 n) 3 0 i.toNat = n) := by
  unfold iu
  rw [Int.toNat_of_nonneg h.1]
  constructor <;> intro q
  · rw [if_pos q]
  · rw [if_neg q]
    by_cases q2 : i = 2
    · rw [if_pos q2]
    · rw [if_neg q2]
      by_cases q1 : i = 1
      · rw [if_pos q1]
      · rw [if_neg q1, if_pos (by omega)]
/-! the columns of the bare scale, after the winds below i -/
def gLe (i : Int) : Nat → Int := fun j => if 8 * (j : Int) < i then 8 * (j : Int) else -1
def gGr (i : Int) : Nat → Int := fun j => if 8 * (j : Int) < i then min (i - 1) (8 * (j : Int) + 7) else -1
theorem gLe_ex {i n : Int} (h : 0 ≤ n) : ∃ z : Int, gLe i n.toNat = z ∧ ((8 * n < i ∧ z = 8 * n) ∨ (i ≤ 8 * n ∧ z = -1)) := by
  refine ⟨_, rfl, ?_⟩
  unfold gLe
  rw [Int.toNat_of_nonneg h]
  by_cases q : 8 * n < i
  · rw [if_pos q]; exact Or.inl ⟨q, rfl⟩
  · rw [if_neg q]; exact Or.inr ⟨by omega, rfl⟩
theorem gGr_ex {i n : Int} (h : 0 ≤ n) : ∃ z : Int, gGr i n.toNat = z ∧ ((8 * n < i ∧ z = min (i - 1) (8 * n + 7)) ∨ (i ≤ 8 * n ∧ z = -1)) := by
  refine ⟨_, rfl, ?_⟩
  unfold gGr
  rw [Int.toNat_of_nonneg h]
  by_cases q : 8 * n < i
  · rw [if_pos q]; exact Or.inl ⟨q, rfl⟩
  · rw [if_neg q]; exact Or.inr ⟨by omega, rfl⟩
theorem gLe_0 : ∀ f : Nat → Int32, gP 13 (fun _ => -1) f → gP 13 (gLe 0) f := fun f hf j hj => by
  rw [hf j hj]; unfold gLe; rw [if_neg (by omega)]
theorem gGr_0 : ∀ f : Nat → Int32, gP 13 (fun _ => -1) f → gP 13 (gGr 0) f := fun f hf j hj => by
  rw [hf j hj]; unfold gGr; rw [if_neg (by omega)]
theorem gLe_put {i n z : Int} (h : (0 ≤ i ∧ i ≤ 99) ∧ n = min 12 (i / 8) ∧ z = i ∧ i ≤ 8 * n) : ∀ f : Nat → Int32, gP 13 (gLe i) f → gP 13 (gLe (i + 1)) (upd f n.toNat (iI z)) := fun f hf j hj => by
  unfold upd
  by_cases q : j = n.toNat
  · rw [if_pos q]
    unfold gLe
    rw [if_pos (by omega)]
    exact congrArg iI (by omega)
  · rw [if_neg q, hf j hj]
    unfold gLe
    by_cases q2 : 8 * (j : Int) < i
    · rw [if_pos q2, if_pos (by omega)]
    · rw [if_neg q2, if_neg (by omega)]
theorem gLe_keep {i n : Int} (h : (0 ≤ i ∧ i ≤ 99) ∧ n = min 12 (i / 8) ∧ 8 * n < i) : ∀ f : Nat → Int32, gP 13 (gLe i) f → gP 13 (gLe (i + 1)) f := fun f hf j hj => by
  rw [hf j hj]
  unfold gLe
  by_cases q2 : 8 * (j : Int) < i
  · rw [if_pos q2, if_pos (by omega)]
  · rw [if_neg q2, if_neg (by omega)]
theorem gGr_put {i n z : Int} (h : (0 ≤ i ∧ i ≤ 99) ∧ n = min 12 (i / 8) ∧ z = i) : ∀ f : Nat → Int32, gP 13 (gGr i) f → gP 13 (gGr (i + 1)) (upd f n.toNat (iI z)) := fun f hf j hj => by
  unfold upd
  by_cases q : j = n.toNat
  · rw [if_pos q]
    unfold gGr
    rw [if_pos (by omega)]
    exact congrArg iI (by omega)
  · rw [if_neg q, hf j hj]
    unfold gGr
    by_cases q2 : 8 * (j : Int) < i
    · rw [if_pos q2, if_pos (by omega)]
      exact congrArg iI (by omega)
    · rw [if_neg q2, if_neg (by omega)]
/-! truths stored in a row -/
theorem gP_nextZ {i : Int} (h : 0 ≤ i) : ∀ f : Nat → Int32, gP i (fun _ => 1) f → gP (i + 1) (fun _ => 1) (upd f i.toNat (vp_nar .boolean (iI 1))) := fun f hf j hj => by
  unfold upd
  by_cases q : j = i.toNat
  · rw [if_pos q, vp_z1]
  · rw [if_neg q]; exact hf j (by omega)
theorem gP_putZ {n : Int} {k : Nat} : ∀ f : Nat → Int32, gP n (fun _ => 1) f → gP n (fun _ => 1) (upd f k (vp_nar .boolean (iI 1))) := fun f hf j hj => by
  unfold upd
  by_cases q : j = k
  · rw [if_pos q, vp_z1]
  · rw [if_neg q]; exact hf j hj
theorem xlen_ne {w : xW} {i : Nat} {x : Nat × xPd} (h : w[i]? = some x) : w.length ≠ i := by
  have := (List.getElem?_eq_some_iff.mp h).1
  omega
theorem gP_nextZ2 {i n : Int} (h : 0 ≤ i ∧ n = i + 1) : ∀ f : Nat → Int32, gP i (fun _ => 1) f → gP n (fun _ => 1) (upd f i.toNat (vp_nar .boolean (iI 1))) := by
  rw [h.2]; exact gP_nextZ h.1
theorem gP_less {n n2 : Int} {g : Nat → Int} (h : n2 ≤ n) : ∀ f : Nat → Int32, gP n g f → gP n2 g f := fun f hf j hj => hf j (by omega)
def qLa (P : Int64 → Prop) : Option Value → xW → Prop := fun r _ => ∃ z : Int64, r = some (.long z) ∧ P z
/-! the row of orders before any year: one order with nothing rising -/
def gO (n : Int) : (Nat → Int64) → Prop := fun f => ∀ j : Nat, (j : Int) < n → f j = if j = 0 then 1 else 0
theorem gO_next_1 {k : Int} (h : k = 0) : ∀ f : Nat → Int64, gO k f → gO (k + 1) (vp_updL f k.toNat 1) := fun f hf j hj => by
  unfold vp_updL
  rw [if_pos (by omega), if_pos (by omega)]
theorem gO_next_0 {k : Int} (h : 0 < k) : ∀ f : Nat → Int64, gO k f → gO (k + 1) (vp_updL f k.toNat 0) := fun f hf j hj => by
  unfold vp_updL
  by_cases q : j = k.toNat
  · rw [if_pos q, if_neg (by omega)]
  · rw [if_neg q]; exact hf j (by omega)
theorem gO_ex {i : Int} {f : Nat → Int64} (hf : gO 50 f) (h : 0 ≤ i ∧ i < 50) : ∃ z : Int64, f i.toNat = z ∧ ((i = 0 ∧ z = 1) ∨ (i ≠ 0 ∧ z = 0)) := by
  refine ⟨_, hf i.toNat (by omega), ?_⟩
  by_cases q : i = 0
  · rw [if_pos (by omega)]; exact Or.inl ⟨q, rfl⟩
  · rw [if_neg (by omega)]; exact Or.inr ⟨q, rfl⟩
theorem gO_sum {k : Int} {s_ y y2 : Int64} (h1 : (k = 0 ∧ s_ = 0) ∨ (1 ≤ k ∧ s_ = 1)) (hy : (k = 0 ∧ y = 1) ∨ (k ≠ 0 ∧ y = 0)) (e : y2 = s_ + y) : (k + 1 = 0 ∧ y2 = 0) ∨ (1 ≤ k + 1 ∧ y2 = 1) := by
  refine Or.inr ?_
  rcases h1 with ⟨a, rfl⟩ | ⟨a, rfl⟩ <;> rcases hy with ⟨b, rfl⟩ | ⟨b, rfl⟩
  · exact ⟨by omega, by rw [e]; decide⟩
  · exact absurd a b
  · exact absurd b (by omega)
  · exact ⟨by omega, by rw [e]; decide⟩
theorem x_rawLe {p : Program} {l : Launch} {e : Env} {R : Room} {s : State} {m : MethodId} {args : Array Value} {below : List Frame} {meth : Method} {c : Code} {H : Heap} {locs : List Loc} {cells slots : Nat} {Qf : State → Prop} {pc : Nat} {ls : Array Slot} {rest : List Value} {x : Int64} (k : ∀ y : Int64, y = x → W p l e R s m args below meth c H locs cells slots Qf (F0 m pc ls (.long y :: rest))) : W p l e R s m args below meth c H locs cells slots Qf (F0 m pc ls (.long x :: rest)) := k x rfl
