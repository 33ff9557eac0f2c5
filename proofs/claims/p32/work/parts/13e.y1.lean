/-! ===== worlds by names: a name's cell, what it holds ===== -/
abbrev yW : Type := Nat → Option (Nat × xPd)
def wu (w : yW) (k : Nat) (x : Nat × xPd) : yW := fun j => if j = k then some x else w j
theorem wu_eq {w : yW} {k : Nat} {x : Nat × xPd} : wu w k x k = some x := if_pos rfl
theorem wu_ne {w : yW} {k j : Nat} {x : Nat × xPd} (h : j ≠ k) : wu w k x j = w j := if_neg h
theorem wu_at {w : yW} {k j : Nat} {x : Nat × xPd} {y : Option (Nat × xPd)} (h : w j = y) (hn : j ≠ k) : wu w k x j = y := by rw [wu_ne hn, h]
theorem wu_same {w : yW} {k : Nat} {x : Nat × xPd} (h : w k = some x) : wu w k x = w := by
  funext j
  by_cases hj : j = k
  · subst hj; rw [wu_eq, h]
  · rw [wu_ne hj]
theorem wu_wu {w : yW} {k : Nat} {x y : Nat × xPd} : wu (wu w k x) k y = wu w k y := by
  funext j
  by_cases hj : j = k
  · subst hj; rw [wu_eq, wu_eq]
  · rw [wu_ne hj, wu_ne hj, wu_ne hj]
theorem wu_comm {w : yW} {k i : Nat} {x y : Nat × xPd} (h : k ≠ i) : wu (wu w k x) i y = wu (wu w i y) k x := by
  funext j
  by_cases hj : j = k
  · subst hj; rw [wu_ne h, wu_eq, wu_eq]
  · by_cases hi : j = i
    · subst hi; rw [wu_eq, wu_ne hj, wu_eq]
    · rw [wu_ne hi, wu_ne hj, wu_ne hj, wu_ne hi]
def yP (D : va_G) (w : yW) (H : Heap) : Prop := ∀ (k : Nat) (q : Nat × xPd), w k = some q → ∃ e : va_E, va_at D vwCl (q.1, e) H ∧ q.2 e
def yN (w : yW) : Prop := ∀ (i j : Nat) (p q : Nat × xPd), w i = some p → w j = some q → p.1 = q.1 → i = j
def yA (w : yW) (sz : Nat) : Nat → Prop := fun a => (∃ (k : Nat) (P : xPd), w k = some (a, P)) ∨ sz ≤ a
theorem yP.lt {D : va_G} {w : yW} {H : Heap} (h : yP D w H) {k : Nat} {q : Nat × xPd} (hk : w k = some q) : q.1 < H.size := by
  obtain ⟨e, h1, -⟩ := h k q hk
  exact h1.lt
theorem yP.set {D : va_G} {w : yW} {H H1 : Heap} {q0 a : Nat} {P P' : xPd} {e' : va_E} (h : yP D w H) (hN : yN w) (hk : w q0 = some (a, P)) (he : va_at D vwCl (a, e') H1) (hp : P' e') (oq : ∀ q : Nat, q ≠ a → H1[q]? = H[q]?) : yP D (wu w q0 (a, P')) H1 := by
  intro k q hq
  by_cases hkk : k = q0
  · subst hkk
    rw [wu_eq] at hq
    cases hq
    exact ⟨e', he, hp⟩
  · rw [wu_ne hkk] at hq
    obtain ⟨e, h1, h2⟩ := h k q hq
    exact ⟨e, h1.kept (oq q.1 (fun hx => hkk (hN k q0 q (a, P) hq hk hx))), h2⟩
theorem yN.set {w : yW} {q0 a : Nat} {P P' : xPd} (h : yN w) (hk : w q0 = some (a, P)) : yN (wu w q0 (a, P')) := by
  have key : ∀ (k : Nat) (q : Nat × xPd), wu w q0 (a, P') k = some q → ∃ q' : Nat × xPd, w k = some q' ∧ q'.1 = q.1 := by
    intro k q hq
    by_cases hkk : k = q0
    · subst hkk
      rw [wu_eq] at hq
      cases hq
      exact ⟨_, hk, rfl⟩
    · rw [wu_ne hkk] at hq
      exact ⟨q, hq, rfl⟩
  intro i j p q hi hj hpq
  obtain ⟨p', hp', ep⟩ := key i p hi
  obtain ⟨q', hq', eq⟩ := key j q hj
  exact h i j p' q' hp' hq' (by rw [ep, eq, hpq])
/-- the texts that the class file names, and two statics: they lie outside of what is written -/
def nYS : Nat := 19
def lenYS : List Nat := [6, 3, 4, 3, 5, 4, 6, 5, 4, 2, 4, 5, 3, 2, 4, 3, 2, 3, 6]
def bytYS : List (List Int32) := [[99, 97, 110, 118, 97, 115], [115, 101, 97], [108, 101, 97, 102], [114, 105, 103], [100, 101, 112, 116, 104], [121, 101, 97, 114], [110, 117, 109, 98, 101, 114], [115, 112, 97, 114, 115], [102, 114, 111, 109], [105, 102], [108, 101, 97, 110], [119, 114, 105, 116, 101], [102, 111, 114], [117, 112], [100, 111, 119, 110], [97, 110, 100], [111, 114], [110, 111, 116], [40, 41, 60, 62, 61, 59]]
def ixYS : List Nat := [85, 87, 89, 91, 93, 95, 97, 99, 101, 103, 105, 107, 109, 111, 113, 115, 117, 119, 63]
def txYS : List String := ["canvas", "sea", "leaf", "rig", "depth", "year", "number", "spars", "from", "if", "lean", "write", "for", "up", "down", "and", "or", "not", "()<>=;"]
abbrev yK : Type := (Nat → Nat) × (Nat → Nat) × Value
def yS (Zk : yK) (A : Nat → Prop) (U : State) (H : Heap) : Prop := vk_S nYS lenYS bytYS Zk.1 Zk.2.1 A U H ∧ (∀ i : Nat, i < nYS → vk_R "WindWords$Tape" (ixYS.getD i 0) (txYS.getD i "") (Zk.1 i) U) ∧ va_Z "java/lang/String" "COMPACT_STRINGS" "Z" (.int 1) A U H ∧ va_Z "jdk/internal/util/Preconditions" "SIOOBE_FORMATTER" "Ljava/util/function/BiFunction;" Zk.2.2 A U H ∧ (Zk.2.2 = .null ∨ ∃ t : Nat, Zk.2.2 = .ref t)
theorem yS.kept {Zk : yK} {A : Nat → Prop} {U : State} {H H1 : Heap} (h : yS Zk A U H) (hq : ∀ a : Nat, a < H.size → ¬ A a → H1[a]? = H[a]?) : yS Zk A U H1 := by
  obtain ⟨h1, h2, h3, h4, h5⟩ := h
  exact ⟨h1.kept hq, h2, h3.kept hq, h4.kept hq, h5⟩
theorem yS.narrow {Zk : yK} {A A' : Nat → Prop} {U : State} {H : Heap} (h : yS Zk A U H) (hq : ∀ a : Nat, A' a → A a) : yS Zk A' U H := by
  obtain ⟨h1, h2, h3, h4, h5⟩ := h
  exact ⟨h1.narrow hq, h2, h3.narrow hq, h4.narrow hq, h5⟩
theorem yS.warm {Zk : yK} {A : Nat → Prop} {s U : State} {H : Heap} (hW : s.WarmedH U.vm) (h : yS Zk A s H) : yS Zk A U H := by
  obtain ⟨h1, h2, h3, h4, h5⟩ := h
  exact ⟨h1.moved hW.alike, fun i hi => (h2 i hi).warm hW, h3.moved hW.alike, h4.moved hW.alike, h5⟩
theorem yS.call {Zk : yK} {A : Nat → Prop} {U : State} {H : Heap} (h : yS Zk A U H) (a : Array Value) (g : JFrame) (mk : MethodId) : yS Zk A (U.calling g mk a) H := by
  obtain ⟨h1, h2, h3, h4, h5⟩ := h
  exact ⟨h1.moved (u := U) (U := U.calling g mk a) (Vm.Alike.refl U.vm), fun i hi => (h2 i hi).same (u := U) (U := U.calling g mk a) rfl, va_Z.moved (u := U) (U := U.calling g mk a) (Vm.Alike.refl U.vm) h3, va_Z.moved (u := U) (U := U.calling g mk a) (Vm.Alike.refl U.vm) h4, h5⟩
/-- the world of a walk: what its cells hold, that they are apart, what was written since the start, whose cells they are -/
def yH (D : va_G) (Zk : yK) (A : Nat → Prop) (s : State) (w : yW) (H : Heap) (locs : List Loc) : Prop :=
  yP D w H ∧ yN w ∧ va_S A s.heap H locs ∧ (∀ (k : Nat) (q : Nat × xPd), w k = some q → A q.1) ∧ (∀ q : Nat, s.heap.size ≤ q → A q) ∧ yS Zk A s s.heap
theorem yH.put {D : va_G} {Zk : yK} {A : Nat → Prop} {s : State} {H H1 : Heap} {w : yW} {locs : List Loc} {q0 a j : Nat} {P P' : xPd} {e' : va_E} (h : yH D Zk A s w H locs) (hk : w q0 = some (a, P)) (he : va_at D vwCl (a, e') H1) (hp : P' e') (z : H1.size = H.size) (oq : ∀ q : Nat, q ≠ a → H1[q]? = H[q]?) : yH D Zk A s (wu w q0 (a, P')) H1 (locs ++ [⟨a, j⟩]) := by
  obtain ⟨h1, h2, h3, h4, h5⟩ := h
  refine ⟨h1.set h2 hk he hp oq, h2.set hk, h3.put z oq (h4 _ _ hk), ?_, h5⟩
  intro k q hq
  by_cases hkk : k = q0
  · subst hkk
    rw [wu_eq] at hq
    cases hq
    exact (h4 k (a, P) hk : A a)
  · rw [wu_ne hkk] at hq
    exact h4 k q hq
theorem yH.push {D : va_G} {Zk : yK} {A : Nat → Prop} {s : State} {H H1 : Heap} {w : yW} {locs : List Loc} {P : xPd} {e : va_E} (nm : Nat) (h : yH D Zk A s w H locs) (he : va_at D vwCl (H.size, e) H1) (hp : P e) (z : H1.size = H.size + 1) (oq : ∀ q : Nat, q < H.size → H1[q]? = H[q]?) : yH D Zk A s (wu w nm (H.size, P)) H1 locs := by
  obtain ⟨h1, h2, h3, h4, h5⟩ := h
  have old : ∀ (k : Nat) (q : Nat × xPd), wu w nm (H.size, P) k = some q → (k ≠ nm ∧ w k = some q) ∨ (k = nm ∧ q = (H.size, P)) := by
    intro k q hq
    by_cases hl : k = nm
    · subst hl; rw [wu_eq] at hq; cases hq; exact Or.inr ⟨rfl, rfl⟩
    · rw [wu_ne hl] at hq; exact Or.inl ⟨hl, hq⟩
  refine ⟨fun k q hq => ?_, fun i j p q hi hj hpq => ?_, ⟨Nat.le_trans h3.1 (by omega), fun x a1 a2 => (oq x (Nat.lt_of_lt_of_le a1 h3.1)).trans (h3.2.1 x a1 a2), h3.2.2⟩, fun k q hq => ?_, h5⟩
  · rcases old k q hq with ⟨-, hq⟩ | ⟨-, rfl⟩
    · obtain ⟨e1, g1, g2⟩ := h1 k q hq
      exact ⟨e1, g1.kept (oq q.1 g1.lt), g2⟩
    · exact ⟨e, he, hp⟩
  · rcases old i p hi with ⟨-, hi⟩ | ⟨hi, rfl⟩ <;> rcases old j q hj with ⟨-, hj⟩ | ⟨hj, rfl⟩
    · exact h2 i j p q hi hj hpq
    · exact absurd hpq (Nat.ne_of_lt (h1.lt hi))
    · exact absurd hpq.symm (Nat.ne_of_lt (h1.lt hj))
    · omega
  · rcases old k q hq with ⟨-, hq⟩ | ⟨-, rfl⟩
    · exact h4 k q hq
    · exact h5.1 _ h3.1
/-- the same heap seen by less -/
theorem yH.mono {D : va_G} {Zk : yK} {A : Nat → Prop} {s : State} {H : Heap} {w v : yW} {locs : List Loc} (h : yH D Zk A s w H locs) (hl : ∀ (k : Nat) (q : Nat × xPd), v k = some q → ∃ P : xPd, w k = some (q.1, P) ∧ ∀ e : va_E, P e → q.2 e) : yH D Zk A s v H locs := by
  obtain ⟨h1, h2, h3, h4, h5⟩ := h
  refine ⟨fun k q hk => ?_, fun i j p q hi hj hpq => ?_, h3, fun k q hk => ?_, h5⟩
  · obtain ⟨P, g1, g3⟩ := hl k q hk
    obtain ⟨e, f1, f2⟩ := h1 k _ g1
    exact ⟨e, f1, g3 e f2⟩
  · obtain ⟨P, g1, -⟩ := hl i p hi
    obtain ⟨P', k1, -⟩ := hl j q hj
    exact h2 i j _ _ g1 k1 hpq
  · obtain ⟨P, g1, -⟩ := hl k q hk
    exact h4 k (q.1, P) g1
theorem yH.weak {D : va_G} {Zk : yK} {A : Nat → Prop} {s : State} {H : Heap} {w : yW} {locs : List Loc} {k a : Nat} {P P' : xPd} (h : yH D Zk A s w H locs) (hk : w k = some (a, P)) (hp : ∀ e : va_E, P e → P' e) : yH D Zk A s (wu w k (a, P')) H locs :=
  h.mono (fun j q hq => by
    by_cases hj : j = k
    · subst hj; rw [wu_eq] at hq; cases hq; exact ⟨P, hk, hp⟩
    · rw [wu_ne hj] at hq; exact ⟨q.2, hq, fun _ x => x⟩)
/-- what was known of a cell once, is known again -/
theorem yH.unpin {D : va_G} {Zk : yK} {A : Nat → Prop} {s : State} {H : Heap} {w : yW} {locs : List Loc} {k a : Nat} {P P' : xPd} (h : yH D Zk A s (wu w k (a, P')) H locs) (hk : w k = some (a, P)) (hp : ∀ e : va_E, P' e → P e) : yH D Zk A s w H locs :=
  h.mono (fun j q hq => by
    by_cases hj : j = k
    · subst hj; rw [hk] at hq; cases hq; exact ⟨P', wu_eq, hp⟩
    · exact ⟨q.2, by rw [wu_ne hj]; exact hq, fun _ x => x⟩)
/-- a field between two numbers has a number -/
theorem yH.pin {D : va_G} {Zk : yK} {A : Nat → Prop} {s : State} {H : Heap} {w : yW} {locs : List Loc} {k a ci : Nat} {ps : List fP} (h : yH D Zk A s w H locs) (hk : w k = some (a, xO ci ps)) (i : Nat) {lo hi : Int} (hp : ps[i]? = some (fG lo hi)) : ∃ z : Int, lo ≤ z ∧ z ≤ hi ∧ yH D Zk A s (wu w k (a, xO ci (ps.set i (fX z)))) H locs := by
  obtain ⟨h1, h2, h3, h4, h5⟩ := h
  obtain ⟨e, f1, vs, rfl, hlen, hv⟩ := h1 k _ hk
  have hi9 : i < ps.length := (List.getElem?_eq_some_iff.mp hp).1
  have hvi : vs[i]? = some (vs[i]'(by omega)) := List.getElem?_eq_getElem (by omega)
  obtain ⟨z, hz, hlo, hhi⟩ := hv i _ _ hvi hp
  refine ⟨z, hlo, hhi, ?_, h2.set hk, h3, ?_, h5⟩
  · intro j q hq
    by_cases hj : j = k
    · subst hj
      rw [wu_eq] at hq
      cases hq
      refine ⟨_, f1, vs, rfl, by rw [List.length_set, hlen], fun k' v' P1 hv' hP1 => ?_⟩
      by_cases hkk : k' = i
      · subst hkk
        rw [List.getElem?_set_self hi9] at hP1
        cases hP1
        rw [hvi] at hv'
        cases hv'
        exact hz
      · rw [List.getElem?_set_ne (Ne.symm hkk)] at hP1
        exact hv k' v' P1 hv' hP1
    · rw [wu_ne hj] at hq
      exact h1 j q hq
  · intro j q hq
    by_cases hj : j = k
    · subst hj
      rw [wu_eq] at hq
      cases hq
      exact (h4 _ _ hk : A a)
    · rw [wu_ne hj] at hq
      exact h4 j q hq
def yQ (D : va_G) (w : yW) (sz : Nat) (Q : Option Value → yW → Prop) : Array Value → State → Outcome → State → Prop := fun _ st oc t =>
  (∃ (r : Option Value) (w1 : yW), oc = .returned r ∧ Q r w1 ∧ yP D w1 t.heap ∧ yN w1 ∧ ∀ (k : Nat) (q : Nat × xPd), w1 k = some q → yA w sz q.1) ∧ va_F (yA w sz) st t
def yC (l : Launch) (D : va_G) (Zk : yK) (ca : Nat → ClassId) (y : MethodName) (cy : ByteArray) (nL : Nat) (ret : Option FieldType) (rm : Room) (av : List Value) (w : yW) (Q : Option Value → yW → Prop) : Prop :=
  ∀ sz : Nat, Met l y (Cond.code y cy nL ret :: AW) rm (va_Pc av (fun U => U.heap.size = sz ∧ yP D w U.heap ∧ yN w ∧ xE D ca U ∧ yS Zk (yA w sz) U U.heap)) (yQ D w sz Q) rm.cells rm.slots (yA w sz)
theorem yC.of {l : Launch} {D : va_G} {Zk : yK} {ca : Nat → ClassId} {y : MethodName} {cy : ByteArray} {nL : Nat} {ret : Option FieldType} {rm : Room} {av : List Value} {w : yW} {Q : Option Value → yW → Prop} (own : String) (hy : plainName y.cls = true) (ho : y.cls = own) (hn : (lg_sl av).length ≤ nL)
    (body : ∀ (p : Program) (e : Env) (s : State) (m : MethodId) (below : List Frame) (meth : Method) (c : Code) (A : Nat → Prop) (ls : Array Slot), xB p s m av.toArray meth c D ca own cy nL ret → meth.name = y.name → yH D Zk A s w s.heap [] → A = yA w s.heap.size → lv_has ls nL (lv_args 0 av) →
      W p l e rm s m av.toArray below meth c s.heap [] 0 0 (MQ below (yQ D w s.heap.size Q) av.toArray s rm.cells rm.slots A) (F0 m 0 ls [])) : yC l D Zk ca y cy nL ret rm av w Q := by
  intro sz
  refine Met.ofW (cc := cy) (maxL := nL) (ret := ret) hy rfl ?_
  intro p e s m args below meth c s₁ B hml hv
  obtain ⟨rfl, hsz, hP, hN, hE, hT⟩ := hv
  subst hsz
  have hts := atoms_spec (ws := Cond.code y cy nL ret :: AW) B.pre
  have hnm : meth.name = y.name := (name_of_methodNamed B.named B.method).1
  subst ho
  rw [lg_entry_eq]
  exact body p e s m below meth c (yA w s.heap.size) _ ⟨B.exec, B.bytes, hml, findClass_of_methodNamed B.named, fun q hq => hts q (List.mem_cons_of_mem _ hq), hE, B.notSynchronized, B.returns⟩ hnm ⟨hP, hN, va_S.rf, fun k q hk => Or.inl ⟨k, q.2, hk⟩, fun q h => Or.inr h, hT⟩ rfl (lv_entry av hn)
theorem yC.of2 {l : Launch} {D : va_G} {Zk : yK} {ca : Nat → ClassId} {y : MethodName} {cy : ByteArray} {nL : Nat} {ret : Option FieldType} {rm : Room} {av : List Value} {w : yW} {Q : Option Value → yW → Prop} (own : String) (hy : plainName y.cls = true) (ho : y.cls = own) (hn : (lg_sl av).length ≤ nL)
    (body : ∀ (p : Program) (e : Env) (s : State) (m : MethodId) (args : Array Value) (below : List Frame) (meth : Method) (c : Code) (A : Nat → Prop) (ls : Array Slot) (Qf : State → Prop), xB p s m args meth c D ca own cy nL ret → meth.name = y.name → yH D Zk A s w s.heap [] → lv_has ls nL (lv_args 0 av) → (Qf = MQ below (yQ D w s.heap.size Q) args s rm.cells rm.slots A ∧ A = yA w s.heap.size) →
      W p l e rm s m args below meth c s.heap [] 0 0 Qf (F0 m 0 ls [])) : yC l D Zk ca y cy nL ret rm av w Q :=
  yC.of own hy ho hn (fun p e s m below meth c A ls B hnm h hA hl => body p e s m av.toArray below meth c A ls _ B hnm h hl ⟨rfl, hA⟩)
