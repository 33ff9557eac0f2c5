/-! ===== numbers: an int as the image of a whole number ===== -/
def iI (z : Int) : Int32 := Int32.ofInt z
abbrev xr (z : Int) : Prop := -2147483648 ≤ z ∧ z < 2147483648
theorem iI_of (x : Int32) : x = iI x.toInt := (Int32.ofInt_toInt x).symm
theorem iI_T {z : Int} (h : xr z) : (iI z).toInt = z := by
  have h9 : z.bmod (2 ^ 32) = z := Int.bmod_eq_of_le (by omega) (by omega)
  exact (Int32.toInt_ofInt ..).trans h9
theorem iI_r (x : Int32) : xr x.toInt := ⟨Int32.le_toInt x, Int32.toInt_lt x⟩
theorem iI_add (a b : Int) : iI a + iI b = iI (a + b) := (Int32.ofInt_add a b).symm
theorem iI_mul (a b : Int) : iI a * iI b = iI (a * b) := (Int32.ofInt_mul a b).symm
theorem iI_neg (a : Int) : -(iI a) = iI (-a) := (Int32.ofInt_neg a).symm
theorem iI_sub (a b : Int) : iI a - iI b = iI (a - b) := (Int32.ofInt_sub a b).symm
theorem iI_lt {a b : Int} (h : xr a ∧ xr b) : iI a < iI b ↔ a < b := by rw [Int32.lt_iff_toInt_lt, iI_T h.1, iI_T h.2]
theorem iI_le {a b : Int} (h : xr a ∧ xr b) : iI a ≤ iI b ↔ a ≤ b := by rw [Int32.le_iff_toInt_le, iI_T h.1, iI_T h.2]
theorem iI_eq {a b : Int} (h : xr a ∧ xr b) : iI a = iI b ↔ a = b := by rw [← Int32.toInt_inj, iI_T h.1, iI_T h.2]
theorem iI_0 : (0 : Int32) = iI 0 := rfl
theorem iI_inj {a b : Int} (h : iI a = iI b) (ha : xr a) (hb : xr b) : a = b := (iI_eq ⟨ha, hb⟩).mp h
theorem iI_div {a b : Int} (h : xr a ∧ xr b) (h0 : 0 ≤ a) (h1 : 0 < b) : iI a / iI b = iI (a / b) := by
  have q0 : 0 ≤ a / b := Int.ediv_nonneg h0 (Int.le_of_lt h1)
  have q1 : a / b ≤ a := Int.ediv_le_self _ h0
  apply Int32.toInt_inj.mp
  rw [lg_idiv_nonneg (by rw [iI_T h.1]; exact h0) (by rw [iI_T h.2]; exact h1), iI_T h.1, iI_T h.2, iI_T (by omega)]
theorem iI_rem {a b : Int} (h : xr a ∧ xr b) (h0 : 0 ≤ a) (h1 : 0 < b) : iI a - iI a / iI b * iI b = iI (a % b) := by
  rw [iI_div h h0 h1, iI_mul, iI_sub, Int.mul_comm]
  exact congrArg iI (by have := Int.mul_ediv_add_emod a b; omega)
theorem iI_in {i : Int} {n : Nat} (h : xr i) : vp_in (iI i) n ↔ 0 ≤ i ∧ i < n := by rw [vp_in_iff, iI_T h]
theorem iI_clamp {i : Int} (h : xr i) : (iI i).toNatClampNeg = i.toNat := by
  show (iI i).toInt.toNat = _
  rw [iI_T h]
theorem iI_ofNat (n : Nat) : Int32.ofNat n = iI (n : Int) := rfl
/-! ===== what a cell holds ===== -/
abbrev xPd : Type := va_E → Prop
abbrev xW : Type := List (Nat × xPd)
abbrev fP : Type := Value → Prop
def fR (a : Nat) : fP := fun v => v = .ref a
def fN : fP := fun v => v = .null
def fX (z : Int) : fP := fun v => v = .int (iI z)
def fG (lo hi : Int) : fP := fun v => ∃ z : Int, v = .int (iI z) ∧ lo ≤ z ∧ z ≤ hi
def fL : fP := fun v => ∃ x : Int64, v = .long x
def fQ (P : Option Nat → Prop) : fP := fun v => ∃ r : Option Nat, v = va_rf r ∧ P r
def xO (ci : Nat) (ps : List fP) : xPd := fun e => ∃ vs : List Value, e = .inr (ci, vs) ∧ vs.length = ps.length ∧ ∀ (k : Nat) (v : Value) (P : fP), vs[k]? = some v → ps[k]? = some P → P v
def xAI (cA : ClassId) (n : Nat) (P : (Nat → Int32) → Prop) : xPd := fun e => ∃ f : Nat → Int32, e = .inl (cA, n, .inl f) ∧ P f
def xAL (cA : ClassId) (n : Nat) (P : (Nat → Int64) → Prop) : xPd := fun e => ∃ f : Nat → Int64, e = .inl (cA, n, .inr (.inl f)) ∧ P f
def xAQ (cA : ClassId) (n : Nat) (P : (Nat → Option Nat) → Prop) : xPd := fun e => ∃ f : Nat → Option Nat, e = .inl (cA, n, .inr (.inr (.inr (.inr f)))) ∧ P f
/-- exact contents; contents between two numbers; any -/
def gX (n : Nat) (g : Nat → Int) : (Nat → Int32) → Prop := fun f => ∀ j, j < n → f j = iI (g j)
def gG (n : Nat) (lo hi : Int) : (Nat → Int32) → Prop := fun f => ∀ j, j < n → ∃ z : Int, f j = iI z ∧ lo ≤ z ∧ z ≤ hi
def gA : (Nat → Int32) → Prop := fun _ => True
def xP (D : va_G) (w : xW) (H : Heap) : Prop := ∀ (k : Nat) (q : Nat × xPd), w[k]? = some q → ∃ e : va_E, va_at D vwCl (q.1, e) H ∧ q.2 e
def xN (w : xW) : Prop := ∀ (i j : Nat) (p q : Nat × xPd), w[i]? = some p → w[j]? = some q → p.1 = q.1 → i = j
def xA (w : xW) (sz : Nat) : Nat → Prop := fun a => (∃ (k : Nat) (P : xPd), w[k]? = some (a, P)) ∨ sz ≤ a
theorem xP.kept {D : va_G} {w : xW} {H H1 : Heap} (h : xP D w H) (hq : ∀ (k : Nat) (q : Nat × xPd), w[k]? = some q → H1[q.1]? = H[q.1]?) : xP D w H1 := fun k q hk => by
  obtain ⟨e, h1, h2⟩ := h k q hk
  exact ⟨e, h1.kept (hq k q hk), h2⟩
theorem xP.lt {D : va_G} {w : xW} {H : Heap} (h : xP D w H) {k : Nat} {q : Nat × xPd} (hk : w[k]? = some q) : q.1 < H.size := by
  obtain ⟨e, h1, -⟩ := h k q hk
  exact h1.lt
theorem xP.set {D : va_G} {w : xW} {H H1 : Heap} {q0 a : Nat} {P P' : xPd} {e' : va_E} (h : xP D w H) (hN : xN w) (hk : w[q0]? = some (a, P)) (he : va_at D vwCl (a, e') H1) (hp : P' e') (oq : ∀ q : Nat, q ≠ a → H1[q]? = H[q]?) : xP D (w.set q0 (a, P')) H1 := by
  have hl : q0 < w.length := (List.getElem?_eq_some_iff.mp hk).1
  intro k q hq
  by_cases hkk : k = q0
  · subst hkk
    rw [List.getElem?_set_self hl] at hq
    cases hq
    exact ⟨e', he, hp⟩
  · rw [List.getElem?_set_ne (Ne.symm hkk)] at hq
    obtain ⟨e, h1, h2⟩ := h k q hq
    exact ⟨e, h1.kept (oq q.1 (fun hx => hkk (hN k q0 q (a, P) hq hk hx))), h2⟩
theorem xN.set {w : xW} {q0 a : Nat} {P P' : xPd} (h : xN w) (hk : w[q0]? = some (a, P)) : xN (w.set q0 (a, P')) := by
  have hl : q0 < w.length := (List.getElem?_eq_some_iff.mp hk).1
  have key : ∀ (k : Nat) (q : Nat × xPd), (w.set q0 (a, P'))[k]? = some q → ∃ q' : Nat × xPd, w[k]? = some q' ∧ q'.1 = q.1 := by
    intro k q hq
    by_cases hkk : k = q0
    · subst hkk
      rw [List.getElem?_set_self hl] at hq
      cases hq
      exact ⟨_, hk, rfl⟩
    · rw [List.getElem?_set_ne (Ne.symm hkk)] at hq
      exact ⟨q, hq, rfl⟩
  intro i j p q hi hj hpq
  obtain ⟨p', hp', ep⟩ := key i p hi
  obtain ⟨q', hq', eq⟩ := key j q hj
  exact h i j p' q' hp' hq' (by rw [ep, eq, hpq])
theorem xset_same {w : xW} {q0 a : Nat} {P : xPd} (hk : w[q0]? = some (a, P)) : w.set q0 (a, P) = w := by
  apply List.ext_getElem?
  intro k
  by_cases hkk : k = q0
  · subst hkk
    rw [List.getElem?_set_self (List.getElem?_eq_some_iff.mp hk).1, hk]
  · rw [List.getElem?_set_ne (Ne.symm hkk)]
theorem xset_ne {w : xW} {i j : Nat} {x : Nat × xPd} {y : Option (Nat × xPd)} (h : w[j]? = y) (hn : i ≠ j) : (w.set i x)[j]? = y := by
  rw [List.getElem?_set_ne hn, h]
theorem xset_eq {w : xW} {i : Nat} {x y : Nat × xPd} (h : w[i]? = some y) : (w.set i x)[i]? = some x := List.getElem?_set_self (List.getElem?_eq_some_iff.mp h).1
theorem xapp_new {w : xW} {x : Nat × xPd} : (w ++ [x])[w.length]? = some x := by simp
theorem xapp_l {w v : xW} {i : Nat} {x : Nat × xPd} (h : w[i]? = some x) : (w ++ v)[i]? = some x := by
  rw [List.getElem?_append_left (List.getElem?_eq_some_iff.mp h).1, h]
/-- the world of a walk: what its cells hold, that they are apart, what was written since the start, whose cells they are -/
def xH (D : va_G) (A : Nat → Prop) (H0 : Heap) (w : xW) (H : Heap) (locs : List Loc) : Prop :=
  xP D w H ∧ xN w ∧ va_S A H0 H locs ∧ (∀ (k : Nat) (q : Nat × xPd), w[k]? = some q → A q.1) ∧ ∀ q : Nat, H0.size ≤ q → A q
theorem xH.put {D : va_G} {A : Nat → Prop} {H0 H H1 : Heap} {w : xW} {locs : List Loc} {q0 a j : Nat} {P P' : xPd} {e' : va_E} (h : xH D A H0 w H locs) (hk : w[q0]? = some (a, P)) (he : va_at D vwCl (a, e') H1) (hp : P' e') (z : H1.size = H.size) (oq : ∀ q : Nat, q ≠ a → H1[q]? = H[q]?) : xH D A H0 (w.set q0 (a, P')) H1 (locs ++ [⟨a, j⟩]) := by
  obtain ⟨h1, h2, h3, h4, h5⟩ := h
  refine ⟨h1.set h2 hk he hp oq, h2.set hk, h3.put z oq (h4 _ _ hk), ?_, h5⟩
  intro k q hq
  by_cases hkk : k = q0
  · subst hkk
    rw [List.getElem?_set_self (List.getElem?_eq_some_iff.mp hk).1] at hq
    cases hq
    exact (h4 k (a, P) hk : A a)
  · rw [List.getElem?_set_ne (Ne.symm hkk)] at hq
    exact h4 k q hq
theorem xH.push {D : va_G} {A : Nat → Prop} {H0 H H1 : Heap} {w : xW} {locs : List Loc} {P : xPd} {e : va_E} (h : xH D A H0 w H locs) (he : va_at D vwCl (H.size, e) H1) (hp : P e) (z : H1.size = H.size + 1) (oq : ∀ q : Nat, q < H.size → H1[q]? = H[q]?) : xH D A H0 (w ++ [(H.size, P)]) H1 locs := by
  obtain ⟨h1, h2, h3, h4, h5⟩ := h
  have old : ∀ (k : Nat) (q : Nat × xPd), (w ++ [(H.size, P)])[k]? = some q → w[k]? = some q ∨ (k = w.length ∧ q = (H.size, P)) := by
    intro k q hq
    by_cases hl : k < w.length
    · rw [List.getElem?_append_left hl] at hq; exact Or.inl hq
    · rw [List.getElem?_append_right (by omega)] at hq
      have hz : k - w.length < 1 := (List.getElem?_eq_some_iff.mp hq).1
      rw [show k - w.length = 0 by omega] at hq
      cases hq
      exact Or.inr ⟨by omega, rfl⟩
  refine ⟨fun k q hq => ?_, fun i j p q hi hj hpq => ?_, ⟨Nat.le_trans h3.1 (by omega), fun x a1 a2 => (oq x (Nat.lt_of_lt_of_le a1 h3.1)).trans (h3.2.1 x a1 a2), h3.2.2⟩, fun k q hq => ?_, h5⟩
  · rcases old k q hq with hq | ⟨-, rfl⟩
    · obtain ⟨e1, g1, g2⟩ := h1 k q hq
      exact ⟨e1, g1.kept (oq q.1 g1.lt), g2⟩
    · exact ⟨e, he, hp⟩
  · rcases old i p hi with hi | ⟨hi, rfl⟩ <;> rcases old j q hj with hj | ⟨hj, rfl⟩
    · exact h2 i j p q hi hj hpq
    · exact absurd hpq (Nat.ne_of_lt (h1.lt hi))
    · exact absurd hpq.symm (Nat.ne_of_lt (h1.lt hj))
    · omega
  · rcases old k q hq with hq | ⟨-, rfl⟩
    · exact h4 k q hq
    · exact h5 _ h3.1
/-! ===== what is known of the tables' state, at any time ===== -/
def xNM : List (String × Nat × MethodName × String) := [("WindWords", 9, yX0_init, "WindWords"), ("WindWords", 18, yX6_init, "WindWords"), ("WindWords", 25, yX3_init, "WindWords"), ("WindWords", 32, yX10_init, "WindWords"), ("WindWords", 39, yX8_init, "WindWords"), ("WindWords", 46, yX9_init, "WindWords"), ("WindWords", 53, yX1_init, "WindWords"), ("WindWords", 92, yX5_init, "WindWords"), ("WindWords$Fleet", 45, yX11_within, "WindWords"), ("WindWords$Ship", 41, yX11_within, "WindWords"), ("WindWords$Fleet", 108, yX11_far, "WindWords"), ("WindWords$Scales", 40, yX11_within, "WindWords"), ("WindWords$Rules", 55, yX11_held, "WindWords"), ("WindWords$Rules", 45, yX11_within, "WindWords"), ("WindWords$Leans", 87, yX11_within, "WindWords"), ("WindWords$Winds", 69, yX11_held, "WindWords"), ("WindWords$Winds", 90, yX11_leastWind, "WindWords"), ("WindWords$Winds", 94, yX11_greatestWind, "WindWords")]
def xNF : List (String × Nat × String × String × String × String) := [("WindWords$Grammar", 85, "WindWords$Tape", "code", "[I", "WindWords"), ("WindWords$Grammar", 89, "WindWords$Tape", "value", "[I", "WindWords")]
def xNO : List String := ["WindWords$Ship", "WindWords$Reading", "WindWords$Rules", "WindWords$Image"]
def xT (ca : Nat → ClassId) : List (ClassId × FieldType) := [(ca 0, .int), (ca 1, .long), (ca 2, .boolean), (ca 3, .byte), (ca 4, .object "WindWords$Ship"), (ca 5, .object "WindWords$Reading"), (ca 6, .object "WindWords$Rules"), (ca 7, .object "WindWords$Image")]
def xE (D : va_G) (ca : Nat → ClassId) (U : State) : Prop := va_K D vwCl (xT ca) U ∧ (∀ q ∈ xNM, va_Nw (.methodLinkNest q.1 q.2.1 q.2.2.1 q.2.2.2) U) ∧ (∀ q ∈ xNF, va_Nw (.fieldLinkNest q.1 q.2.1 q.2.2.1 q.2.2.2.1 q.2.2.2.2.1 q.2.2.2.2.2) U) ∧ ∀ C ∈ xNO, va_AO C U
theorem xE.warm {D : va_G} {ca : Nat → ClassId} {s U : State} (hW : s.WarmedH U.vm) (h : xE D ca s) : xE D ca U :=
  ⟨va_K.moved hW.alike h.1, fun q hq => va_Nw.warmM hW (h.2.1 q hq), fun q hq => va_Nw.warmF hW (h.2.2.1 q hq), fun C hC => va_AO.moved hW.alike (h.2.2.2 C hC)⟩
theorem xE.call {D : va_G} {ca : Nat → ClassId} {U : State} (h : xE D ca U) (a : Array Value) (g : JFrame) (mk : MethodId) : xE D ca (U.calling g mk a) :=
  ⟨va_K.moved (u := U) (U := U.calling g mk a) (Vm.Alike.refl U.vm) h.1, fun q hq => va_Nw.same (u := U) (U := U.calling g mk a) rfl rfl (h.2.1 q hq), fun q hq => va_Nw.same (u := U) (U := U.calling g mk a) rfl rfl (h.2.2.1 q hq), fun C hC => va_AO.moved (u := U) (U := U.calling g mk a) (Vm.Alike.refl U.vm) (h.2.2.2 C hC)⟩
/-! ===== contracts ===== -/
def xQ (D : va_G) (w : xW) (sz : Nat) (Q : Option Value → xW → Prop) : Array Value → State → Outcome → State → Prop := fun _ st oc t =>
  (∃ (r : Option Value) (w1 : xW), oc = .returned r ∧ Q r w1 ∧ xP D w1 t.heap ∧ xN w1 ∧ ∀ (k : Nat) (q : Nat × xPd), w1[k]? = some q → xA w sz q.1) ∧ va_F (xA w sz) st t
def xC (l : Launch) (D : va_G) (ca : Nat → ClassId) (y : MethodName) (cy : ByteArray) (nL : Nat) (ret : Option FieldType) (rm : Room) (av : List Value) (w : xW) (Q : Option Value → xW → Prop) : Prop :=
  ∀ sz : Nat, Met l y (Cond.code y cy nL ret :: AW) rm (va_Pc av (fun U => U.heap.size = sz ∧ xP D w U.heap ∧ xN w ∧ xE D ca U)) (xQ D w sz Q) rm.cells rm.slots (xA w sz)
/-- inside a method -/
def xB (p : Program) (s : State) (m : MethodId) (args : Array Value) (meth : Method) (c : Code) (D : va_G) (ca : Nat → ClassId) (own : String) (cc : ByteArray) (nL : Nat) (ret : Option FieldType) : Prop :=
  p.tables.exec = Jvm.exec ∧ c.code = cc ∧ c.maxLocals = nL ∧ s.vm.findClass own = some m.cls ∧ (∀ w ∈ AW, w.before args s = true) ∧ xE D ca s ∧ meth.locks = false ∧ meth.sig.returnType = ret
theorem xC.of {l : Launch} {D : va_G} {ca : Nat → ClassId} {y : MethodName} {cy : ByteArray} {nL : Nat} {ret : Option FieldType} {rm : Room} {av : List Value} {w : xW} {Q : Option Value → xW → Prop} (own : String) (hy : plainName y.cls = true) (ho : y.cls = own) (hn : (lg_sl av).length ≤ nL)
    (body : ∀ (p : Program) (e : Env) (s : State) (m : MethodId) (below : List Frame) (meth : Method) (c : Code) (A : Nat → Prop) (ls : Array Slot), xB p s m av.toArray meth c D ca own cy nL ret → meth.name = y.name → xH D A s.heap w s.heap [] → A = xA w s.heap.size → lv_has ls nL (lv_args 0 av) →
      W p l e rm s m av.toArray below meth c s.heap [] 0 0 (MQ below (xQ D w s.heap.size Q) av.toArray s rm.cells rm.slots A) (F0 m 0 ls [])) : xC l D ca y cy nL ret rm av w Q := by
  intro sz
  refine Met.ofW (cc := cy) (maxL := nL) (ret := ret) hy rfl ?_
  intro p e s m args below meth c s₁ B hml hv
  obtain ⟨rfl, hsz, hP, hN, hE⟩ := hv
  subst hsz
  have hts := atoms_spec (ws := Cond.code y cy nL ret :: AW) B.pre
  have hnm : meth.name = y.name := (name_of_methodNamed B.named B.method).1
  subst ho
  rw [lg_entry_eq]
  exact body p e s m below meth c (xA w s.heap.size) _ ⟨B.exec, B.bytes, hml, findClass_of_methodNamed B.named, fun q hq => hts q (List.mem_cons_of_mem _ hq), hE, B.notSynchronized, B.returns⟩ hnm ⟨hP, hN, va_S.rf, fun k q hk => Or.inl ⟨k, q.2, hk⟩, fun q h => Or.inr h⟩ rfl (lv_entry av hn)
