/-! lengths, wide constants, single stores -/
section XMORE
variable {p : Program} {l : Launch} {e : Env} {R : Room} {s : State} {m : MethodId} {args : Array Value} {below : List Frame} {meth : Method} {c : Code} {H : Heap} {locs : List Loc} {cells slots : Nat} {Qf : State → Prop}
variable {cc : ByteArray} {nL : Nat} {rt : Option FieldType} {own : String} {D : va_G} {ca : Nat → ClassId} {A : Nat → Prop} {H0 : Heap} {w : xW} {pc : Nat} {ls : Array Slot} {rest : List Value}
theorem x_alenI (B : xB p s m args meth c D ca own cc nL rt) (h : xH D A H0 w H locs) (q0 : Nat) {a n : Nat} {P : (Nat → Int32) → Prop} (t0 : Nat) {cA : ClassId} {ty : FieldType} (hq : w[q0]? = some (a, xAI cA n P)) (ht : (xT ca)[t0]? = some (cA, ty)) (d : decode cc pc = .ok (.arraylength, 1)) (k : W p l e R s m args below meth c H locs cells slots Qf (F0 m (pc + 1) ls (.int (iI (n : Int)) :: rest))) : W p l e R s m args below meth c H locs cells slots Qf (F0 m pc ls (.ref a :: rest)) := by
  obtain ⟨e1, h1, f, rfl, hP⟩ := h.1 q0 _ hq
  exact va_alen (t0 := t0) (v := iI (n : Int)) B.1 B.2.1 B.2.2.2.2.2.1.1 (xone h1) 0 rfl ht rfl d k
theorem x_alenL (B : xB p s m args meth c D ca own cc nL rt) (h : xH D A H0 w H locs) (q0 : Nat) {a n : Nat} {P : (Nat → Int64) → Prop} (t0 : Nat) {cA : ClassId} {ty : FieldType} (hq : w[q0]? = some (a, xAL cA n P)) (ht : (xT ca)[t0]? = some (cA, ty)) (d : decode cc pc = .ok (.arraylength, 1)) (k : W p l e R s m args below meth c H locs cells slots Qf (F0 m (pc + 1) ls (.int (iI (n : Int)) :: rest))) : W p l e R s m args below meth c H locs cells slots Qf (F0 m pc ls (.ref a :: rest)) := by
  obtain ⟨e1, h1, f, rfl, hP⟩ := h.1 q0 _ hq
  exact va_alen (t0 := t0) (v := iI (n : Int)) B.1 B.2.1 B.2.2.2.2.2.1.1 (xone h1) 0 rfl ht rfl d k
theorem x_alenQ (B : xB p s m args meth c D ca own cc nL rt) (h : xH D A H0 w H locs) (q0 : Nat) {a n : Nat} {P : (Nat → Option Nat) → Prop} (t0 : Nat) {cA : ClassId} {ty : FieldType} (hq : w[q0]? = some (a, xAQ cA n P)) (ht : (xT ca)[t0]? = some (cA, ty)) (d : decode cc pc = .ok (.arraylength, 1)) (k : W p l e R s m args below meth c H locs cells slots Qf (F0 m (pc + 1) ls (.int (iI (n : Int)) :: rest))) : W p l e R s m args below meth c H locs cells slots Qf (F0 m pc ls (.ref a :: rest)) := by
  obtain ⟨e1, h1, f, rfl, hP⟩ := h.1 q0 _ hq
  exact va_alen (t0 := t0) (v := iI (n : Int)) B.1 B.2.1 B.2.2.2.2.2.1.1 (xone h1) 0 rfl ht rfl d k
end XMORE
theorem gG_upd {n : Nat} {lo hi z : Int} {k : Nat} (hz : lo ≤ z ∧ z ≤ hi) : ∀ f : Nat → Int32, gG n lo hi f → gG n lo hi (upd f k (iI z)) := fun f hf j hj => by
  unfold upd
  by_cases q : j = k
  · rw [if_pos q]; exact ⟨z, rfl, hz.1, hz.2⟩
  · rw [if_neg q]; exact hf j hj
theorem vp_z0 : vp_nar .boolean (iI 0) = iI 0 := by decide
theorem vp_z1 : vp_nar .boolean (iI 1) = iI 1 := by decide
theorem gG_updZ {n : Nat} {k : Nat} {z : Int} (hz : z = 0 ∨ z = 1) : ∀ f : Nat → Int32, gG n 0 1 f → gG n 0 1 (upd f k (vp_nar .boolean (iI z))) := fun f hf j hj => by
  unfold upd
  by_cases q : j = k
  · rw [if_pos q]
    rcases hz with rfl | rfl
    · exact ⟨0, vp_z0, by omega, by omega⟩
    · exact ⟨1, vp_z1, by omega, by omega⟩
  · rw [if_neg q]; exact hf j hj
def iu (g : Nat → Int) (i z : Int) : Nat → Int := fun j => if (j : Int) = i then z else g j
theorem gX_upd {n : Nat} {g : Nat → Int} {i z : Int} (hi : 0 ≤ i) : ∀ f : Nat → Int32, gX n g f → gX n (iu g i z) (upd f i.toNat (iI z)) := fun f hf j hj => by
  unfold upd iu
  by_cases q : j = i.toNat
  · rw [if_pos q, if_pos (by omega)]
  · rw [if_neg q, if_neg (by omega)]; exact hf j hj
def qIa (P : Int → Prop) : Option Value → xW → Prop := fun r _ => ∃ z : Int, r = some (.int (iI z)) ∧ P z
def qZa (P : Prop) : Option Value → xW → Prop := fun r _ => (r = some (.int (iI 1)) ∧ P) ∨ (r = some (.int (iI 0)) ∧ ¬ P)
theorem x_ldcw {p : Program} {l : Launch} {e : Env} {R : Room} {s : State} {m : MethodId} {args : Array Value} {below : List Frame} {meth : Method} {c : Code} {H : Heap} {locs : List Loc} {cells slots : Nat} {Qf : State → Prop} {cc : ByteArray} {nL : Nat} {rt : Option FieldType} {own : String} {D : va_G} {ca : Nat → ClassId} {pc : Nat} {ls : Array Slot} {rest : List Value}
    (B : xB p s m args meth c D ca own cc nL rt) {index : Nat} {v : Int32} {z : Int} (hl : Cond.constant own index v ∈ AW) (h : v = iI z) (d : decode cc pc = .ok (.ldc_w index, 3)) (k : W p l e R s m args below meth c H locs cells slots Qf (F0 m (pc + 3) ls (.int (iI z) :: rest))) : W p l e R s m args below meth c H locs cells slots Qf (F0 m pc ls rest) :=
  lv_ldcw B.1 B.2.1 B.2.2.2.1 (B.2.2.2.2.1 _ hl) d (by rw [← h] at k; exact k)
