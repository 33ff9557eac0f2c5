/-! what the tables say of a method -/
def xMS (y : MethodName) (cy : ByteArray) (maxL : Nat) (ret : Option FieldType) (n : Nat) : Prop := Cond.code y cy maxL ret ∈ AW ∧ Cond.static y ∈ AW ∧ Cond.initialized y.cls ∈ AW ∧ xDesc y n
def xMV (y : MethodName) (cy : ByteArray) (maxL : Nat) (ret : Option FieldType) (n : Nat) : Prop := Cond.code y cy maxL ret ∈ AW ∧ Cond.instanceMethod y ∈ AW ∧ Cond.selects y.cls y y ∈ AW ∧ Cond.initialized y.cls ∈ AW ∧ xDesc y n
def xMI (y : MethodName) (cy : ByteArray) (maxL : Nat) (n : Nat) : Prop := Cond.code y cy maxL none ∈ AW ∧ Cond.instanceMethod y ∈ AW ∧ y.name = "<init>" ∧ Cond.initialized y.cls ∈ AW ∧ xDesc y n
/-! ends of methods: an int, a truth, nothing, a reference, with the world behind it -/
def qI (w : xW) (P : Int → Prop) : Option Value → xW → Prop := fun r w1 => w = w1 ∧ ∃ z : Int, r = some (.int (iI z)) ∧ P z
def qZ (w : xW) (P : Prop) : Option Value → xW → Prop := fun r w1 => w = w1 ∧ ((r = some (.int (iI 1)) ∧ P) ∨ (r = some (.int (iI 0)) ∧ ¬ P))
def qV (w : xW) : Option Value → xW → Prop := fun r w1 => w = w1 ∧ r = none
def qQ (w : xW) (P : Option Nat → Prop) : Option Value → xW → Prop := fun r w1 => w = w1 ∧ ∃ q : Option Nat, r = some (va_rf q) ∧ P q
def qL (w : xW) (P : Int64 → Prop) : Option Value → xW → Prop := fun r w1 => w = w1 ∧ ∃ z : Int64, r = some (.long z) ∧ P z
theorem xC.of2 {l : Launch} {D : va_G} {ca : Nat → ClassId} {y : MethodName} {cy : ByteArray} {nL : Nat} {ret : Option FieldType} {rm : Room} {av : List Value} {w : xW} {Q : Option Value → xW → Prop} (own : String) (hy : plainName y.cls = true) (ho : y.cls = own) (hn : (lg_sl av).length ≤ nL)
    (body : ∀ (p : Program) (e : Env) (s : State) (m : MethodId) (args : Array Value) (below : List Frame) (meth : Method) (c : Code) (A : Nat → Prop) (ls : Array Slot) (Qf : State → Prop), xB p s m args meth c D ca own cy nL ret → meth.name = y.name → xH D A s.heap w s.heap [] → lv_has ls nL (lv_args 0 av) → (Qf = MQ below (xQ D w s.heap.size Q) args s rm.cells rm.slots A ∧ A = xA w s.heap.size) →
      W p l e rm s m args below meth c s.heap [] 0 0 Qf (F0 m 0 ls [])) : xC l D ca y cy nL ret rm av w Q :=
  xC.of own hy ho hn (fun p e s m below meth c A ls B hnm h hA hl => body p e s m av.toArray below meth c A ls _ B hnm h hl ⟨rfl, hA⟩)
/-- a world's cell seen by less -/
theorem xH.weak {D : va_G} {A : Nat → Prop} {H0 H : Heap} {w : xW} {locs : List Loc} {k a : Nat} {P P' : xPd} (h : xH D A H0 w H locs) (hk : w[k]? = some (a, P)) (hp : ∀ e : va_E, P e → P' e) : xH D A H0 (w.set k (a, P')) H locs := by
  obtain ⟨h1, h2, h3, h4, h5⟩ := h
  have hl : k < w.length := (List.getElem?_eq_some_iff.mp hk).1
  refine ⟨fun j q hq => ?_, h2.set hk, h3, fun j q hq => ?_, h5⟩
  · by_cases hj : j = k
    · subst hj
      rw [List.getElem?_set_self hl] at hq
      cases hq
      obtain ⟨e, g1, g2⟩ := h1 _ _ hk
      exact ⟨e, g1, hp e g2⟩
    · rw [List.getElem?_set_ne (Ne.symm hj)] at hq
      exact h1 j q hq
  · by_cases hj : j = k
    · subst hj
      rw [List.getElem?_set_self hl] at hq
      cases hq
      exact (h4 _ _ hk : A a)
    · rw [List.getElem?_set_ne (Ne.symm hj)] at hq
      exact h4 j q hq
section XWRAP
variable {p : Program} {l : Launch} {e : Env} {R : Room} {s : State} {m : MethodId} {args : Array Value} {below : List Frame} {meth : Method} {c : Code} {H : Heap} {locs : List Loc} {cells slots : Nat} {Qf : State → Prop}
variable {cc : ByteArray} {nL : Nat} {rt : Option FieldType} {own : String} {D : va_G} {ca : Nat → ClassId} {A : Nat → Prop} {H0 : Heap} {w : xW} {pc : Nat} {ls : Array Slot} {rest : List Value}
theorem x_ri (B : xB p s m args meth c D ca own cc nL (some .int)) {w0 w1 : xW} {Qc : Option Value → xW → Prop} {v : Int32} {k n : Nat} (hQ : Qf = MQ below (xQ D w0 s.heap.size Qc) args s k n A ∧ A = xA w0 s.heap.size) (h : xH D A s.heap w1 H locs) (hc : cells ≤ k ∧ slots ≤ n) (d : decode cc pc = .ok (.ireturn, 1)) (hq : Qc (some (.int v)) w1) : W p l e R s m args below meth c H locs cells slots Qf (F0 m pc ls [.int v]) := by
  rw [hQ.1]; exact x_iret B h hQ.2 hq hc.1 hc.2 d
theorem x_rz (B : xB p s m args meth c D ca own cc nL (some .boolean)) {w0 w1 : xW} {Qc : Option Value → xW → Prop} {v : Int32} {k n : Nat} (hQ : Qf = MQ below (xQ D w0 s.heap.size Qc) args s k n A ∧ A = xA w0 s.heap.size) (h : xH D A s.heap w1 H locs) (hc : cells ≤ k ∧ slots ≤ n) (hv : narrow .boolean (.int v) = .int v) (d : decode cc pc = .ok (.ireturn, 1)) (hq : Qc (some (.int v)) w1) : W p l e R s m args below meth c H locs cells slots Qf (F0 m pc ls [.int v]) := by
  rw [hQ.1]; exact x_zret B hv h hQ.2 hq hc.1 hc.2 d
theorem x_rl (B : xB p s m args meth c D ca own cc nL (some .long)) {w0 w1 : xW} {Qc : Option Value → xW → Prop} {v : Int64} {k n : Nat} (hQ : Qf = MQ below (xQ D w0 s.heap.size Qc) args s k n A ∧ A = xA w0 s.heap.size) (h : xH D A s.heap w1 H locs) (hc : cells ≤ k ∧ slots ≤ n) (d : decode cc pc = .ok (.lreturn, 1)) (hq : Qc (some (.long v)) w1) : W p l e R s m args below meth c H locs cells slots Qf (F0 m pc ls [.long v]) := by
  rw [hQ.1]; exact x_lret B h hQ.2 hq hc.1 hc.2 d
theorem x_ra {C : String} (B : xB p s m args meth c D ca own cc nL (some (.object C))) {w0 w1 : xW} {Qc : Option Value → xW → Prop} {r : Option Nat} {k n : Nat} (hQ : Qf = MQ below (xQ D w0 s.heap.size Qc) args s k n A ∧ A = xA w0 s.heap.size) (h : xH D A s.heap w1 H locs) (hc : cells ≤ k ∧ slots ≤ n) (d : decode cc pc = .ok (.areturn, 1)) (hq : Qc (some (va_rf r)) w1) : W p l e R s m args below meth c H locs cells slots Qf (F0 m pc ls [va_rf r]) := by
  rw [hQ.1]; exact x_aret B h hQ.2 hq hc.1 hc.2 d
theorem x_rv (B : xB p s m args meth c D ca own cc nL none) {w0 w1 : xW} {Qc : Option Value → xW → Prop} {k n : Nat} (hQ : Qf = MQ below (xQ D w0 s.heap.size Qc) args s k n A ∧ A = xA w0 s.heap.size) (h : xH D A s.heap w1 H locs) (hc : cells ≤ k ∧ slots ≤ n) (d : decode cc pc = .ok (.return_, 1)) (hq : Qc none w1) : W p l e R s m args below meth c H locs cells slots Qf (F0 m pc ls []) := by
  rw [hQ.1]; exact x_vret B h hQ.2 hq hc.1 hc.2 d
abbrev xRoom (rm R : Room) (maxL cells slots : Nat) : Prop := (rm.frames + 1 ≤ R.frames ∧ 8 + (maxL + 11) + rm.locals ≤ R.locals) ∧ (cells + rm.cells ≤ R.cells ∧ slots + rm.slots ≤ R.slots)
theorem x_cS (B : xB p s m args meth c D ca own cc nL rt) (h : xH D A H0 w H locs) {y : MethodName} {cy : ByteArray} {maxL n : Nat} {ret : Option FieldType} (M : xMS y cy maxL ret n) {rm : Room} {av : List Value} {Qc : Option Value → xW → Prop} (hM : xC l D ca y cy maxL ret rm av w Qc) {index : Nat} (hl : Cond.methodLink own index y ∈ AW) (hn : av.length = n) (hR : xRoom rm R maxL cells slots) (hsz : ls.size = nL) {st0 : List Value} (rest : List Value) (hW : (rest.map fun v => v.category).sum ≤ 8) (hst0 : st0 = av.reverse ++ rest)
    (d : decode cc pc = .ok (.invokestatic index, 3)) (kk : ∀ (r : Option Value) (w1 : xW), Qc r w1 → ∀ (H1 : Heap) (locs1 : List Loc), xH D A H0 w1 H1 locs1 → W p l e R s m args below meth c H1 locs1 (cells + rm.cells) (slots + rm.slots) Qf (F0 m (pc + 3) ls (r.toList ++ rest))) : W p l e R s m args below meth c H locs cells slots Qf (F0 m pc ls st0) :=
  x_callS (wb := []) B (by rw [List.append_nil]; exact h) hM M.1 hl M.2.1 M.2.2.1 M.2.2.2 hn hR.1 hR.2 hsz hW hst0 d (fun r w1 hq H1 locs1 h1 => kk r w1 hq H1 locs1 (by rw [List.append_nil] at h1; exact h1))
theorem x_cSN (B : xB p s m args meth c D ca own cc nL rt) (h : xH D A H0 w H locs) {y : MethodName} {cy : ByteArray} {maxL n : Nat} {ret : Option FieldType} (M : xMS y cy maxL ret n) {rm : Room} {av : List Value} {Qc : Option Value → xW → Prop} (hM : xC l D ca y cy maxL ret rm av w Qc) {index : Nat} {host : String} (hl : (own, index, y, host) ∈ xNM) (hn : av.length = n) (hR : xRoom rm R maxL cells slots) (hsz : ls.size = nL) {st0 : List Value} (rest : List Value) (hW : (rest.map fun v => v.category).sum ≤ 8) (hst0 : st0 = av.reverse ++ rest)
    (d : decode cc pc = .ok (.invokestatic index, 3)) (kk : ∀ (r : Option Value) (w1 : xW), Qc r w1 → ∀ (H1 : Heap) (locs1 : List Loc), xH D A H0 w1 H1 locs1 → W p l e R s m args below meth c H1 locs1 (cells + rm.cells) (slots + rm.slots) Qf (F0 m (pc + 3) ls (r.toList ++ rest))) : W p l e R s m args below meth c H locs cells slots Qf (F0 m pc ls st0) :=
  x_callSN (wb := []) B (by rw [List.append_nil]; exact h) hM M.1 hl M.2.1 M.2.2.1 M.2.2.2 hn hR.1 hR.2 hsz hW hst0 d (fun r w1 hq H1 locs1 h1 => kk r w1 hq H1 locs1 (by rw [List.append_nil] at h1; exact h1))
theorem x_cV (B : xB p s m args meth c D ca own cc nL rt) (h : xH D A H0 w H locs) {ci N : Nat} {C : String} {T : u_T} {ty : Nat → FieldType} (K : xK1 ci C T N ty) (q0 : Nat) {a : Nat} {ps : List fP} (hq : w[q0]? = some (a, xO ci ps)) {y : MethodName} {cy : ByteArray} {maxL n : Nat} {ret : Option FieldType} (M : xMV y cy maxL ret n) (hC : y.cls = C) {rm : Room} {av : List Value} {Qc : Option Value → xW → Prop} (hM : xC l D ca y cy maxL ret rm (.ref a :: av) w Qc) {index : Nat} (hl : Cond.methodLink own index y ∈ AW) (hn : av.length = n) (hR : xRoom rm R maxL cells slots) (hsz : ls.size = nL) {st0 : List Value} (rest : List Value) (hW : (rest.map fun v => v.category).sum ≤ 8) (hst0 : st0 = av.reverse ++ .ref a :: rest)
    (d : decode cc pc = .ok (.invokevirtual index, 3)) (kk : ∀ (r : Option Value) (w1 : xW), Qc r w1 → ∀ (H1 : Heap) (locs1 : List Loc), xH D A H0 w1 H1 locs1 → W p l e R s m args below meth c H1 locs1 (cells + rm.cells) (slots + rm.slots) Qf (F0 m (pc + 3) ls (r.toList ++ rest))) : W p l e R s m args below meth c H locs cells slots Qf (F0 m pc ls st0) := by
  subst hC
  exact x_callV (wb := []) B (by rw [List.append_nil]; exact h) K q0 (by rw [List.append_nil]; exact hq) hM rfl M.1 hl M.2.1 M.2.2.1 M.2.2.2.1 M.2.2.2.2 hn hR.1 hR.2 hsz hW hst0 d (fun r w1 hq H1 locs1 h1 => kk r w1 hq H1 locs1 (by rw [List.append_nil] at h1; exact h1))
theorem x_cI (B : xB p s m args meth c D ca own cc nL rt) {wa wb : xW} (h : xH D A H0 (wa ++ wb) H locs) {a : Nat} {y : MethodName} {cy : ByteArray} {maxL n : Nat} (M : xMI y cy maxL n) {rm : Room} {av : List Value} {Qc : Option Value → xW → Prop} (hM : xC l D ca y cy maxL none rm (.ref a :: av) wa Qc) {index : Nat} (hl : Cond.methodLink own index y ∈ AW) (hn : av.length = n) (hR : xRoom rm R maxL cells slots) (hsz : ls.size = nL) {st0 : List Value} (rest : List Value) (hW : (rest.map fun v => v.category).sum ≤ 8) (hst0 : st0 = av.reverse ++ .ref a :: rest)
    (d : decode cc pc = .ok (.invokespecial index, 3)) (kk : ∀ (r : Option Value) (w1 : xW), Qc r w1 → ∀ (H1 : Heap) (locs1 : List Loc), xH D A H0 (w1 ++ wb) H1 locs1 → W p l e R s m args below meth c H1 locs1 (cells + rm.cells) (slots + rm.slots) Qf (F0 m (pc + 3) ls (r.toList ++ rest))) : W p l e R s m args below meth c H locs cells slots Qf (F0 m pc ls st0) :=
  x_callI B h hM M.2.2.1 M.1 hl M.2.1 M.2.2.2.1 M.2.2.2.2 hn hR.1 hR.2 hsz hW hst0 d kk
theorem x_cIN (B : xB p s m args meth c D ca own cc nL rt) {wa wb : xW} (h : xH D A H0 (wa ++ wb) H locs) {a : Nat} {y : MethodName} {cy : ByteArray} {maxL n : Nat} (M : xMI y cy maxL n) {rm : Room} {av : List Value} {Qc : Option Value → xW → Prop} (hM : xC l D ca y cy maxL none rm (.ref a :: av) wa Qc) {index : Nat} {host : String} (hl : (own, index, y, host) ∈ xNM) (hn : av.length = n) (hR : xRoom rm R maxL cells slots) (hsz : ls.size = nL) {st0 : List Value} (rest : List Value) (hW : (rest.map fun v => v.category).sum ≤ 8) (hst0 : st0 = av.reverse ++ .ref a :: rest)
    (d : decode cc pc = .ok (.invokespecial index, 3)) (kk : ∀ (r : Option Value) (w1 : xW), Qc r w1 → ∀ (H1 : Heap) (locs1 : List Loc), xH D A H0 (w1 ++ wb) H1 locs1 → W p l e R s m args below meth c H1 locs1 (cells + rm.cells) (slots + rm.slots) Qf (F0 m (pc + 3) ls (r.toList ++ rest))) : W p l e R s m args below meth c H locs cells slots Qf (F0 m pc ls st0) :=
  x_callIN B h hM M.2.2.1 M.1 hl M.2.1 M.2.2.2.1 M.2.2.2.2 hn hR.1 hR.2 hsz hW hst0 d kk
/-! Math.max and min of ints -/
theorem x_max (B : xB p s m args meth c D ca own cc nL rt) {a b : Int} (hab : xr a ∧ xr b) {index : Nat} (hl : Cond.methodLink own index Lib.Math.max.name ∈ AW) (hst : Cond.static Lib.Math.max.name ∈ AW) (hini : Cond.initialized "java/lang/Math" ∈ AW) (hc : Cond.code Lib.Math.max.name Lib.Math.max.code 2 (some .int) ∈ AW) (hsz : ls.size = nL) (hW : (rest.map fun v => v.category).sum ≤ 8) (hR : (1 ≤ R.frames ∧ 21 ≤ R.locals) ∧ cells ≤ R.cells ∧ slots ≤ R.slots) (d : decode cc pc = .ok (.invokestatic index, 3))
    (k : W p l e R s m args below meth c H locs cells slots Qf (F0 m (pc + 3) ls (.int (iI (max a b)) :: rest))) : W p l e R s m args below meth c H locs cells slots Qf (F0 m pc ls (.int (iI b) :: .int (iI a) :: rest)) := by
  have hts := B.2.2.2.2.1
  refine va_mmax B.1 B.2.1 (B.2.2.1.trans hsz.symm) B.2.2.2.1 (hts _ hl) (hts _ hst) (hts _ hini) (hts _ hc) hR.1.1 (by omega) hR.2.1 hR.2.2 d ?_
  have h9 : (if iI a < iI b then iI b else iI a) = iI (max a b) := by
    by_cases q : a < b
    · rw [if_pos ((iI_lt hab).mpr q), Int.max_eq_right (by omega)]
    · rw [if_neg (fun z => q ((iI_lt hab).mp z)), Int.max_eq_left (by omega)]
  rw [h9]; exact k
theorem x_min (B : xB p s m args meth c D ca own cc nL rt) {a b : Int} (hab : xr a ∧ xr b) {index : Nat} (hl : Cond.methodLink own index Lib.Math.min.name ∈ AW) (hst : Cond.static Lib.Math.min.name ∈ AW) (hini : Cond.initialized "java/lang/Math" ∈ AW) (hc : Cond.code Lib.Math.min.name Lib.Math.min.code 2 (some .int) ∈ AW) (hsz : ls.size = nL) (hW : (rest.map fun v => v.category).sum ≤ 8) (hR : (1 ≤ R.frames ∧ 21 ≤ R.locals) ∧ cells ≤ R.cells ∧ slots ≤ R.slots) (d : decode cc pc = .ok (.invokestatic index, 3))
    (k : W p l e R s m args below meth c H locs cells slots Qf (F0 m (pc + 3) ls (.int (iI (min a b)) :: rest))) : W p l e R s m args below meth c H locs cells slots Qf (F0 m pc ls (.int (iI b) :: .int (iI a) :: rest)) := by
  have hts := B.2.2.2.2.1
  refine va_mmin B.1 B.2.1 (B.2.2.1.trans hsz.symm) B.2.2.2.1 (hts _ hl) (hts _ hst) (hts _ hini) (hts _ hc) hR.1.1 (by omega) hR.2.1 hR.2.2 d ?_
  have h9 : (if iI b < iI a then iI b else iI a) = iI (min a b) := by
    by_cases q : b < a
    · rw [if_pos ((iI_lt ⟨hab.2, hab.1⟩).mpr q), Int.min_eq_right (by omega)]
    · rw [if_neg (fun z => q ((iI_lt ⟨hab.2, hab.1⟩).mp z)), Int.min_eq_left (by omega)]
  rw [h9]; exact k
theorem x_abs (B : xB p s m args meth c D ca own cc nL rt) {a : Int} (ha : xr a ∧ -2147483648 < a) {index : Nat} (hl : Cond.methodLink own index Lib.Math.abs.name ∈ AW) (hst : Cond.static Lib.Math.abs.name ∈ AW) (hini : Cond.initialized "java/lang/Math" ∈ AW) (hc : Cond.code Lib.Math.abs.name Lib.Math.abs.code 1 (some .int) ∈ AW) (hsz : ls.size = nL) (hW : (rest.map fun v => v.category).sum ≤ 8) (hR : (1 ≤ R.frames ∧ 21 ≤ R.locals) ∧ cells ≤ R.cells ∧ slots ≤ R.slots) (d : decode cc pc = .ok (.invokestatic index, 3))
    (k : W p l e R s m args below meth c H locs cells slots Qf (F0 m (pc + 3) ls (.int (iI (max a (-a))) :: rest))) : W p l e R s m args below meth c H locs cells slots Qf (F0 m pc ls (.int (iI a) :: rest)) := by
  have hts := B.2.2.2.2.1
  refine va_mabs B.1 B.2.1 (B.2.2.1.trans hsz.symm) B.2.2.2.1 (hts _ hl) (hts _ hst) (hts _ hini) (hts _ hc) hR.1.1 (by omega) hR.2.1 hR.2.2 d ?_
  have h9 : (if iI 0 ≤ iI a then iI a else iI 0 - iI a) = iI (max a (-a)) := by
    by_cases q : 0 ≤ a
    · rw [if_pos ((iI_le (⟨(by omega), ha.1⟩ : xr 0 ∧ xr a)).mpr q), Int.max_eq_left (by omega)]
    · rw [if_neg (fun z => q ((iI_le (⟨(by omega), ha.1⟩ : xr 0 ∧ xr a)).mp z)), Int.max_eq_right (by omega), iI_sub]
      exact congrArg iI (by omega)
  rw [show (if 0 ≤ iI a then iI a else 0 - iI a) = iI (max a (-a)) from h9]; exact k
end XWRAP
