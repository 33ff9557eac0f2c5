section XROWS
variable {p : Program} {l : Launch} {e : Env} {R : Room} {s : State} {m : MethodId} {args : Array Value} {below : List Frame} {meth : Method} {c : Code} {H : Heap} {locs : List Loc} {cells slots : Nat} {Q : State → Prop}
variable {cc : ByteArray} {nL : Nat} {rt : Option FieldType} {own : String} {D : va_G} {ca : Nat → ClassId} {A : Nat → Prop} {H0 : Heap} {w : xW} {pc : Nat} {ls : Array Slot} {rest : List Value}
theorem x_iadd (B : xB p s m args meth c D ca own cc nL rt) {a b : Int} (d : decode cc pc = .ok (.iadd, 1)) (k : W p l e R s m args below meth c H locs cells slots Q (F0 m (pc + 1) ls (.int (iI (a + b)) :: rest))) : W p l e R s m args below meth c H locs cells slots Q (F0 m pc ls (.int (iI b) :: .int (iI a) :: rest)) := lv_iadd B.1 B.2.1 d (by rw [iI_add]; exact k)
theorem x_isub (B : xB p s m args meth c D ca own cc nL rt) {a b : Int} (d : decode cc pc = .ok (.isub, 1)) (k : W p l e R s m args below meth c H locs cells slots Q (F0 m (pc + 1) ls (.int (iI (a - b)) :: rest))) : W p l e R s m args below meth c H locs cells slots Q (F0 m pc ls (.int (iI b) :: .int (iI a) :: rest)) := lv_isub B.1 B.2.1 d (by rw [iI_sub]; exact k)
theorem x_imul (B : xB p s m args meth c D ca own cc nL rt) {a b : Int} (d : decode cc pc = .ok (.imul, 1)) (k : W p l e R s m args below meth c H locs cells slots Q (F0 m (pc + 1) ls (.int (iI (a * b)) :: rest))) : W p l e R s m args below meth c H locs cells slots Q (F0 m pc ls (.int (iI b) :: .int (iI a) :: rest)) := lv_imul B.1 B.2.1 d (by rw [iI_mul]; exact k)
theorem x_ineg (B : xB p s m args meth c D ca own cc nL rt) {a : Int} (d : decode cc pc = .ok (.ineg, 1)) (k : W p l e R s m args below meth c H locs cells slots Q (F0 m (pc + 1) ls (.int (iI (-a)) :: rest))) : W p l e R s m args below meth c H locs cells slots Q (F0 m pc ls (.int (iI a) :: rest)) := lv_ineg B.1 B.2.1 d (by rw [iI_neg]; exact k)
theorem x_idiv (B : xB p s m args meth c D ca own cc nL rt) {a b : Int} (h : (xr a ∧ xr b) ∧ 0 ≤ a ∧ 0 < b) (d : decode cc pc = .ok (.idiv, 1)) (k : W p l e R s m args below meth c H locs cells slots Q (F0 m (pc + 1) ls (.int (iI (a / b)) :: rest))) : W p l e R s m args below meth c H locs cells slots Q (F0 m pc ls (.int (iI b) :: .int (iI a) :: rest)) := lv_idiv B.1 B.2.1 d (fun q => by have := (iI_eq ⟨h.1.2, (by omega : xr 0)⟩).mp q; omega) (by rw [iI_div h.1 h.2.1 h.2.2]; exact k)
theorem x_irem (B : xB p s m args meth c D ca own cc nL rt) {a b : Int} (h : (xr a ∧ xr b) ∧ 0 ≤ a ∧ 0 < b) (d : decode cc pc = .ok (.irem, 1)) (k : W p l e R s m args below meth c H locs cells slots Q (F0 m (pc + 1) ls (.int (iI (a % b)) :: rest))) : W p l e R s m args below meth c H locs cells slots Q (F0 m pc ls (.int (iI b) :: .int (iI a) :: rest)) := lv_irem B.1 B.2.1 d (fun q => by have := (iI_eq ⟨h.1.2, (by omega : xr 0)⟩).mp q; omega) (by rw [iI_rem h.1 h.2.1 h.2.2]; exact k)
theorem x_iconst (B : xB p s m args meth c D ca own cc nL rt) {n : Int} (d : decode cc pc = .ok (.iconst n, 1)) (k : W p l e R s m args below meth c H locs cells slots Q (F0 m (pc + 1) ls (.int (iI n) :: rest))) : W p l e R s m args below meth c H locs cells slots Q (F0 m pc ls (rest)) := lv_iconst (v := iI n) B.1 B.2.1 d rfl k
theorem x_bipush (B : xB p s m args meth c D ca own cc nL rt) {n : Int} (h : (Int8.ofInt n).toInt32 = iI n) (d : decode cc pc = .ok (.bipush n, 2)) (k : W p l e R s m args below meth c H locs cells slots Q (F0 m (pc + 2) ls (.int (iI n) :: rest))) : W p l e R s m args below meth c H locs cells slots Q (F0 m pc ls (rest)) := lv_bipush (v := iI n) B.1 B.2.1 d h k
theorem x_sipush (B : xB p s m args meth c D ca own cc nL rt) {n : Int} (h : (Int16.ofInt n).toInt32 = iI n) (d : decode cc pc = .ok (.sipush n, 3)) (k : W p l e R s m args below meth c H locs cells slots Q (F0 m (pc + 3) ls (.int (iI n) :: rest))) : W p l e R s m args below meth c H locs cells slots Q (F0 m pc ls (rest)) := lv_sipush (v := iI n) B.1 B.2.1 d h k
theorem x_ldc (B : xB p s m args meth c D ca own cc nL rt) {index : Nat} {v : Int32} {z : Int} (hl : Cond.constant own index v ∈ AW) (h : v = iI z) (d : decode cc pc = .ok (.ldc index, 2)) (k : W p l e R s m args below meth c H locs cells slots Q (F0 m (pc + 2) ls (.int (iI z) :: rest))) : W p l e R s m args below meth c H locs cells slots Q (F0 m pc ls (rest)) := lv_ldc (v := v) B.1 B.2.1 B.2.2.2.1 (B.2.2.2.2.1 _ hl) d (by rw [h]; exact k)
theorem x_ldc2 (B : xB p s m args meth c D ca own cc nL rt) {index : Nat} {v : Int64} (hl : Cond.constantLong own index v ∈ AW) (d : decode cc pc = .ok (.ldc2_w index, 3)) (k : W p l e R s m args below meth c H locs cells slots Q (F0 m (pc + 3) ls (.long v :: rest))) : W p l e R s m args below meth c H locs cells slots Q (F0 m pc ls (rest)) := lv_ldc2 (v := v) B.1 B.2.1 B.2.2.2.1 (B.2.2.2.2.1 _ hl) d k
theorem x_name {x : Int32} (k : ∀ z : Int, xr z → x = iI z → W p l e R s m args below meth c H locs cells slots Q (F0 m pc ls (.int (iI z) :: rest))) : W p l e R s m args below meth c H locs cells slots Q (F0 m pc ls (.int x :: rest)) := by
  have h := k x.toInt (iI_r x) (iI_of x)
  rw [← iI_of x] at h
  exact h
theorem x_icmp_lt (B : xB p s m args meth c D ca own cc nL rt) {a b : Int} (h : xr a ∧ xr b) {off : Int} {tgt : Nat} (d : decode cc pc = .ok (.if_icmp .lt off, 3)) (ht : (pc : Int) + off = (tgt : Int)) (kt : a < b → W p l e R s m args below meth c H locs cells slots Q (F0 m tgt ls (rest))) (kf : b ≤ a → W p l e R s m args below meth c H locs cells slots Q (F0 m (pc + 3) ls (rest))) : W p l e R s m args below meth c H locs cells slots Q (F0 m pc ls (.int (iI b) :: .int (iI a) :: rest)) := lv_icmp_lt B.1 B.2.1 d ht (fun q => kt ((iI_lt h).mp q)) (fun q => kf (Int.not_lt.mp (fun z => q ((iI_lt h).mpr z))))
theorem x_if_lt (B : xB p s m args meth c D ca own cc nL rt) {a : Int} (h : xr a) {off : Int} {tgt : Nat} (d : decode cc pc = .ok (.ifCond .lt off, 3)) (ht : (pc : Int) + off = (tgt : Int)) (kt : a < 0 → W p l e R s m args below meth c H locs cells slots Q (F0 m tgt ls (rest))) (kf : 0 ≤ a → W p l e R s m args below meth c H locs cells slots Q (F0 m (pc + 3) ls (rest))) : W p l e R s m args below meth c H locs cells slots Q (F0 m pc ls (.int (iI a) :: rest)) := lv_if_lt B.1 B.2.1 d ht (fun q => kt ((iI_lt (⟨h, (by omega : xr 0)⟩ : xr a ∧ xr 0)).mp q)) (fun q => kf (Int.not_lt.mp (fun z => q ((iI_lt (⟨h, (by omega : xr 0)⟩ : xr a ∧ xr 0)).mpr z))))
theorem x_icmp_le (B : xB p s m args meth c D ca own cc nL rt) {a b : Int} (h : xr a ∧ xr b) {off : Int} {tgt : Nat} (d : decode cc pc = .ok (.if_icmp .le off, 3)) (ht : (pc : Int) + off = (tgt : Int)) (kt : a ≤ b → W p l e R s m args below meth c H locs cells slots Q (F0 m tgt ls (rest))) (kf : b < a → W p l e R s m args below meth c H locs cells slots Q (F0 m (pc + 3) ls (rest))) : W p l e R s m args below meth c H locs cells slots Q (F0 m pc ls (.int (iI b) :: .int (iI a) :: rest)) := lv_icmp_le B.1 B.2.1 d ht (fun q => kt ((iI_le h).mp q)) (fun q => kf (Int.not_le.mp (fun z => q ((iI_le h).mpr z))))
theorem x_if_le (B : xB p s m args meth c D ca own cc nL rt) {a : Int} (h : xr a) {off : Int} {tgt : Nat} (d : decode cc pc = .ok (.ifCond .le off, 3)) (ht : (pc : Int) + off = (tgt : Int)) (kt : a ≤ 0 → W p l e R s m args below meth c H locs cells slots Q (F0 m tgt ls (rest))) (kf : 0 < a → W p l e R s m args below meth c H locs cells slots Q (F0 m (pc + 3) ls (rest))) : W p l e R s m args below meth c H locs cells slots Q (F0 m pc ls (.int (iI a) :: rest)) := lv_if_le B.1 B.2.1 d ht (fun q => kt ((iI_le (⟨h, (by omega : xr 0)⟩ : xr a ∧ xr 0)).mp q)) (fun q => kf (Int.not_le.mp (fun z => q ((iI_le (⟨h, (by omega : xr 0)⟩ : xr a ∧ xr 0)).mpr z))))
theorem x_icmp_eq (B : xB p s m args meth c D ca own cc nL rt) {a b : Int} (h : xr a ∧ xr b) {off : Int} {tgt : Nat} (d : decode cc pc = .ok (.if_icmp .eq off, 3)) (ht : (pc : Int) + off = (tgt : Int)) (kt : a = b → W p l e R s m args below meth c H locs cells slots Q (F0 m tgt ls (rest))) (kf : a ≠ b → W p l e R s m args below meth c H locs cells slots Q (F0 m (pc + 3) ls (rest))) : W p l e R s m args below meth c H locs cells slots Q (F0 m pc ls (.int (iI b) :: .int (iI a) :: rest)) := lv_icmp_eq B.1 B.2.1 d ht (fun q => kt ((iI_eq h).mp q)) (fun q => kf (fun z => q ((iI_eq h).mpr z)))
theorem x_if_eq (B : xB p s m args meth c D ca own cc nL rt) {a : Int} (h : xr a) {off : Int} {tgt : Nat} (d : decode cc pc = .ok (.ifCond .eq off, 3)) (ht : (pc : Int) + off = (tgt : Int)) (kt : a = 0 → W p l e R s m args below meth c H locs cells slots Q (F0 m tgt ls (rest))) (kf : a ≠ 0 → W p l e R s m args below meth c H locs cells slots Q (F0 m (pc + 3) ls (rest))) : W p l e R s m args below meth c H locs cells slots Q (F0 m pc ls (.int (iI a) :: rest)) := lv_if_eq B.1 B.2.1 d ht (fun q => kt ((iI_eq (⟨h, (by omega : xr 0)⟩ : xr a ∧ xr 0)).mp q)) (fun q => kf (fun z => q ((iI_eq (⟨h, (by omega : xr 0)⟩ : xr a ∧ xr 0)).mpr z)))
theorem x_icmp_ne (B : xB p s m args meth c D ca own cc nL rt) {a b : Int} (h : xr a ∧ xr b) {off : Int} {tgt : Nat} (d : decode cc pc = .ok (.if_icmp .ne off, 3)) (ht : (pc : Int) + off = (tgt : Int)) (kt : a ≠ b → W p l e R s m args below meth c H locs cells slots Q (F0 m tgt ls (rest))) (kf : a = b → W p l e R s m args below meth c H locs cells slots Q (F0 m (pc + 3) ls (rest))) : W p l e R s m args below meth c H locs cells slots Q (F0 m pc ls (.int (iI b) :: .int (iI a) :: rest)) := lv_icmp_ne B.1 B.2.1 d ht (fun q => kt (fun z => q (by rw [z]))) (fun q => kf ((iI_eq h).mp q))
theorem x_if_ne (B : xB p s m args meth c D ca own cc nL rt) {a : Int} (h : xr a) {off : Int} {tgt : Nat} (d : decode cc pc = .ok (.ifCond .ne off, 3)) (ht : (pc : Int) + off = (tgt : Int)) (kt : a ≠ 0 → W p l e R s m args below meth c H locs cells slots Q (F0 m tgt ls (rest))) (kf : a = 0 → W p l e R s m args below meth c H locs cells slots Q (F0 m (pc + 3) ls (rest))) : W p l e R s m args below meth c H locs cells slots Q (F0 m pc ls (.int (iI a) :: rest)) := lv_if_ne B.1 B.2.1 d ht (fun q => kt (fun z => q (by rw [z]; rfl))) (fun q => kf ((iI_eq (⟨h, (by omega : xr 0)⟩ : xr a ∧ xr 0)).mp q))
theorem x_icmp_gt (B : xB p s m args meth c D ca own cc nL rt) {a b : Int} (h : xr a ∧ xr b) {off : Int} {tgt : Nat} (d : decode cc pc = .ok (.if_icmp .gt off, 3)) (ht : (pc : Int) + off = (tgt : Int)) (kt : b < a → W p l e R s m args below meth c H locs cells slots Q (F0 m tgt ls (rest))) (kf : a ≤ b → W p l e R s m args below meth c H locs cells slots Q (F0 m (pc + 3) ls (rest))) : W p l e R s m args below meth c H locs cells slots Q (F0 m pc ls (.int (iI b) :: .int (iI a) :: rest)) := lv_icmp_gt B.1 B.2.1 d ht (fun q => kt ((iI_lt ⟨h.2, h.1⟩).mp q)) (fun q => kf (Int.not_lt.mp (fun z => q ((iI_lt ⟨h.2, h.1⟩).mpr z))))
theorem x_if_gt (B : xB p s m args meth c D ca own cc nL rt) {a : Int} (h : xr a) {off : Int} {tgt : Nat} (d : decode cc pc = .ok (.ifCond .gt off, 3)) (ht : (pc : Int) + off = (tgt : Int)) (kt : 0 < a → W p l e R s m args below meth c H locs cells slots Q (F0 m tgt ls (rest))) (kf : a ≤ 0 → W p l e R s m args below meth c H locs cells slots Q (F0 m (pc + 3) ls (rest))) : W p l e R s m args below meth c H locs cells slots Q (F0 m pc ls (.int (iI a) :: rest)) := lv_if_gt B.1 B.2.1 d ht (fun q => kt ((iI_lt (⟨(by omega : xr 0), h⟩ : xr 0 ∧ xr a)).mp q)) (fun q => kf (Int.not_lt.mp (fun z => q ((iI_lt (⟨(by omega : xr 0), h⟩ : xr 0 ∧ xr a)).mpr z))))
theorem x_icmp_ge (B : xB p s m args meth c D ca own cc nL rt) {a b : Int} (h : xr a ∧ xr b) {off : Int} {tgt : Nat} (d : decode cc pc = .ok (.if_icmp .ge off, 3)) (ht : (pc : Int) + off = (tgt : Int)) (kt : b ≤ a → W p l e R s m args below meth c H locs cells slots Q (F0 m tgt ls (rest))) (kf : a < b → W p l e R s m args below meth c H locs cells slots Q (F0 m (pc + 3) ls (rest))) : W p l e R s m args below meth c H locs cells slots Q (F0 m pc ls (.int (iI b) :: .int (iI a) :: rest)) := lv_icmp_ge B.1 B.2.1 d ht (fun q => kt ((iI_le ⟨h.2, h.1⟩).mp q)) (fun q => kf (Int.not_le.mp (fun z => q ((iI_le ⟨h.2, h.1⟩).mpr z))))
theorem x_if_ge (B : xB p s m args meth c D ca own cc nL rt) {a : Int} (h : xr a) {off : Int} {tgt : Nat} (d : decode cc pc = .ok (.ifCond .ge off, 3)) (ht : (pc : Int) + off = (tgt : Int)) (kt : 0 ≤ a → W p l e R s m args below meth c H locs cells slots Q (F0 m tgt ls (rest))) (kf : a < 0 → W p l e R s m args below meth c H locs cells slots Q (F0 m (pc + 3) ls (rest))) : W p l e R s m args below meth c H locs cells slots Q (F0 m pc ls (.int (iI a) :: rest)) := lv_if_ge B.1 B.2.1 d ht (fun q => kt ((iI_le (⟨(by omega : xr 0), h⟩ : xr 0 ∧ xr a)).mp q)) (fun q => kf (Int.not_le.mp (fun z => q ((iI_le (⟨(by omega : xr 0), h⟩ : xr 0 ∧ xr a)).mpr z))))
end XROWS
section XHEAP
variable {p : Program} {l : Launch} {e : Env} {R : Room} {s : State} {m : MethodId} {args : Array Value} {below : List Frame} {meth : Method} {c : Code} {H : Heap} {locs : List Loc} {cells slots : Nat} {Q : State → Prop}
variable {cc : ByteArray} {nL : Nat} {rt : Option FieldType} {own : String} {D : va_G} {ca : Nat → ClassId} {A : Nat → Prop} {H0 : Heap} {w : xW} {pc : Nat} {ls : Array Slot} {rest : List Value}
theorem xone {q : Nat × va_E} {D : va_G} {H : Heap} (h : va_at D vwCl q H) : va_P D vwCl [q] H := fun k x hk => by
  have hz : k < 1 := (List.getElem?_eq_some_iff.mp hk).1
  rw [show k = 0 by omega] at hk
  cases hk
  exact h
theorem x_get (B : xB p s m args meth c D ca own cc nL rt) (h : xH D A H0 w H locs) {ci N : Nat} {C : String} {T : u_T} {ty : Nat → FieldType} (K : xK1 ci C T N ty) (q0 : Nat) {a : Nat} {ps : List fP} (hq : w[q0]? = some (a, xO ci ps)) (k : Nat) {P : fP} (hp : ps[k]? = some P) {index : Nat} (hl : Cond.fieldLink own index (T k).1 (T k).2.1 (T k).2.2.1 ∈ AW) (hk : k < N)
    (d : decode cc pc = .ok (.getfield index, 3)) (kk : ∀ v : Value, P v → W p l e R s m args below meth c H locs cells slots Q (F0 m (pc + 3) ls (v :: rest))) : W p l e R s m args below meth c H locs cells slots Q (F0 m pc ls (.ref a :: rest)) := by
  obtain ⟨e1, h1, vs, rfl, hlen, hP⟩ := h.1 q0 _ hq
  have hkl : k < vs.length := by rw [hlen]; exact (List.getElem?_eq_some_iff.mp hp).1
  exact va_get B.1 B.2.1 B.2.2.2.2.1 K.2.1 B.2.2.2.1 B.2.2.2.2.2.1.1 (xone h1) 0 rfl K.1 k hk (B.2.2.2.2.1 _ hl) (fun _ h9 => h9) (List.getElem?_eq_getElem hkl) d (kk _ (hP k _ P (List.getElem?_eq_getElem hkl) hp))
theorem x_getR (B : xB p s m args meth c D ca own cc nL rt) (h : xH D A H0 w H locs) {ci N : Nat} {C : String} {T : u_T} {ty : Nat → FieldType} (K : xK1 ci C T N ty) (q0 : Nat) {a : Nat} {ps : List fP} (hq : w[q0]? = some (a, xO ci ps)) (k : Nat) {b : Nat} (hp : ps[k]? = some (fR b)) {index : Nat} (hl : Cond.fieldLink own index (T k).1 (T k).2.1 (T k).2.2.1 ∈ AW) (hk : k < N) (d : decode cc pc = .ok (.getfield index, 3)) (kk : W p l e R s m args below meth c H locs cells slots Q (F0 m (pc + 3) ls (.ref b :: rest))) : W p l e R s m args below meth c H locs cells slots Q (F0 m pc ls (.ref a :: rest)) := x_get B h K q0 hq k hp hl hk d (fun v hv => by cases hv; exact kk)
theorem x_getX (B : xB p s m args meth c D ca own cc nL rt) (h : xH D A H0 w H locs) {ci N : Nat} {C : String} {T : u_T} {ty : Nat → FieldType} (K : xK1 ci C T N ty) (q0 : Nat) {a : Nat} {ps : List fP} (hq : w[q0]? = some (a, xO ci ps)) (k : Nat) {z : Int} (hp : ps[k]? = some (fX z)) {index : Nat} (hl : Cond.fieldLink own index (T k).1 (T k).2.1 (T k).2.2.1 ∈ AW) (hk : k < N) (d : decode cc pc = .ok (.getfield index, 3)) (kk : W p l e R s m args below meth c H locs cells slots Q (F0 m (pc + 3) ls (.int (iI z) :: rest))) : W p l e R s m args below meth c H locs cells slots Q (F0 m pc ls (.ref a :: rest)) := x_get B h K q0 hq k hp hl hk d (fun v hv => by cases hv; exact kk)
theorem x_getG (B : xB p s m args meth c D ca own cc nL rt) (h : xH D A H0 w H locs) {ci N : Nat} {C : String} {T : u_T} {ty : Nat → FieldType} (K : xK1 ci C T N ty) (q0 : Nat) {a : Nat} {ps : List fP} (hq : w[q0]? = some (a, xO ci ps)) (k : Nat) {lo hi : Int} (hp : ps[k]? = some (fG lo hi)) {index : Nat} (hl : Cond.fieldLink own index (T k).1 (T k).2.1 (T k).2.2.1 ∈ AW) (hk : k < N) (d : decode cc pc = .ok (.getfield index, 3)) (kk : ∀ z : Int, lo ≤ z → z ≤ hi → W p l e R s m args below meth c H locs cells slots Q (F0 m (pc + 3) ls (.int (iI z) :: rest))) : W p l e R s m args below meth c H locs cells slots Q (F0 m pc ls (.ref a :: rest)) := x_get B h K q0 hq k hp hl hk d (fun v hv => by obtain ⟨z, rfl, z1, z2⟩ := hv; exact kk z z1 z2)
theorem x_getN (B : xB p s m args meth c D ca own cc nL rt) (h : xH D A H0 w H locs) {ci N : Nat} {C : String} {T : u_T} {ty : Nat → FieldType} (K : xK1 ci C T N ty) (q0 : Nat) {a : Nat} {ps : List fP} (hq : w[q0]? = some (a, xO ci ps)) (k : Nat) {P : fP} (hp : ps[k]? = some P) {index : Nat} {host : String} (hl : (own, index, (T k).1, (T k).2.1, (T k).2.2.1, host) ∈ xNF) (hk : k < N)
    (d : decode cc pc = .ok (.getfield index, 3)) (kk : ∀ v : Value, P v → W p l e R s m args below meth c H locs cells slots Q (F0 m (pc + 3) ls (v :: rest))) : W p l e R s m args below meth c H locs cells slots Q (F0 m pc ls (.ref a :: rest)) := by
  obtain ⟨e1, h1, vs, rfl, hlen, hP⟩ := h.1 q0 _ hq
  have hkl : k < vs.length := by rw [hlen]; exact (List.getElem?_eq_some_iff.mp hp).1
  exact va_getN (host := host) B.1 B.2.1 B.2.2.2.2.1 K.2.1 B.2.2.2.1 B.2.2.2.2.2.1.1 (xone h1) 0 rfl K.1 k hk (va_Nw.use rfl (B.2.2.2.2.2.1.2.2.1 _ hl)) (fun _ h9 => h9) (List.getElem?_eq_getElem hkl) d (kk _ (hP k _ P (List.getElem?_eq_getElem hkl) hp))
theorem x_put (B : xB p s m args meth c D ca own cc nL rt) (h : xH D A H0 w H locs) {ci N : Nat} {C : String} {T : u_T} {ty : Nat → FieldType} (K : xK1 ci C T N ty) (q0 : Nat) {a : Nat} {ps : List fP} (hq : w[q0]? = some (a, xO ci ps)) (k : Nat) (hps : k < ps.length) {P' : fP} {v : Value} {index : Nat} (hl : Cond.fieldLink own index (T k).1 (T k).2.1 (T k).2.2.1 ∈ AW) (hk : k < N) (hpv : P' v) (hfin : (T k).2.2.2 = false) (hn : narrow (ty k) v = v) (hfit : fits (ty k) v = true)
    (d : decode cc pc = .ok (.putfield index, 3)) (kk : ∀ (H1 : Heap) (locs1 : List Loc), xH D A H0 (w.set q0 (a, xO ci (ps.set k P'))) H1 locs1 → W p l e R s m args below meth c H1 locs1 cells slots Q (F0 m (pc + 3) ls (rest))) : W p l e R s m args below meth c H locs cells slots Q (F0 m pc ls (v :: .ref a :: rest)) := by
  obtain ⟨e1, h1, vs, rfl, hlen, hP⟩ := h.1 q0 _ hq
  have hkl : k < vs.length := by rw [hlen]; exact hps
  have hap := va_apart (own := own) B.2.2.2.2.1 K.2.1 ty K.2.2.1 K.2.2.2 B.2.2.2.2.2.1.1 K.1
  obtain ⟨r, h3, cell, q1, q2, q3, q4⟩ := h1
  have hr : r = (C, T, N) := Option.some.inj (h3.symm.trans K.1)
  subst hr
  obtain ⟨hS, hfc, kC, hkC, hkind⟩ := B.2.2.2.2.2.1.1.1 ci _ K.1
  obtain ⟨cf, kf, fi, f, hi, hsl⟩ := hS k hk
  have hlay := B.2.2.2.2.1 _ (K.2.1 _ (u_in_lay hk))
  unfold u_lay at hlay
  rw [if_neg (by rw [hfin]; decide)] at hlay
  have hst := (u_facts hfc hkC (u_lays B.2.2.2.2.1 K.2.1 hk) hi).1
  have h6 := u_store hfc hkC hkind hlay hi (K.2.2.1 k hk) hn hfit
  refine W.putK B.1 B.2.1 (f := f) ⟨B.2.2.2.1, B.2.2.2.2.1 _ hl, ⟨_, _, _, hi⟩, hst⟩ (by rw [q2]; exact h6) q1 q3 (by rw [hsl]; exact k2_hasslot (q4 k hk)) rfl rfl d fun H' e1 e2 e3 => ?_
  rw [hsl] at e1 ⊢
  refine kk H' _ (h.put hq (e' := .inr (ci, vs.set k v)) ⟨_, K.1, t_OB.to (V := updV (vp_V vs) k v) ⟨_, e1, q2, q3, t_set q4 hap hk v⟩ (fun j _ => vp_updV_set hkl v j)⟩ ⟨vs.set k v, rfl, ?_, ?_⟩ e2 e3)
  · rw [List.length_set, List.length_set, hlen]
  · intro k' v' P1 hv' hP1
    by_cases hkk : k' = k
    · subst hkk
      rw [List.getElem?_set_self hkl] at hv'
      rw [List.getElem?_set_self hps] at hP1
      cases hv'; cases hP1
      exact hpv
    · rw [List.getElem?_set_ne (Ne.symm hkk)] at hv' hP1
      exact hP k' v' P1 hv' hP1
theorem x_putF (B : xB p s m args meth c D ca own cc nL rt) (h : xH D A H0 w H locs) {ci N : Nat} {C : String} {T : u_T} {ty : Nat → FieldType} (K : xK1 ci C T N ty) (q0 : Nat) {a : Nat} {ps : List fP} (hq : w[q0]? = some (a, xO ci ps)) (k : Nat) (hps : k < ps.length) {P' : fP} {v : Value} {index : Nat} (hl : Cond.fieldLink own index (T k).1 (T k).2.1 (T k).2.2.1 ∈ AW) (hk : k < N) (hpv : P' v) (hfin : (T k).2.2.2 = true) (hin2 : meth.name = "<init>") (hdecl : (T k).1 = own) (hn : narrow (ty k) v = v) (hfit : fits (ty k) v = true)
    (d : decode cc pc = .ok (.putfield index, 3)) (kk : ∀ (H1 : Heap) (locs1 : List Loc), xH D A H0 (w.set q0 (a, xO ci (ps.set k P'))) H1 locs1 → W p l e R s m args below meth c H1 locs1 cells slots Q (F0 m (pc + 3) ls (rest))) : W p l e R s m args below meth c H locs cells slots Q (F0 m pc ls (v :: .ref a :: rest)) := by
  obtain ⟨e1, h1, vs, rfl, hlen, hP⟩ := h.1 q0 _ hq
  have hkl : k < vs.length := by rw [hlen]; exact hps
  have hap := va_apart (own := own) B.2.2.2.2.1 K.2.1 ty K.2.2.1 K.2.2.2 B.2.2.2.2.2.1.1 K.1
  obtain ⟨r, h3, cell, q1, q2, q3, q4⟩ := h1
  have hr : r = (C, T, N) := Option.some.inj (h3.symm.trans K.1)
  subst hr
  obtain ⟨hS, hfc, kC, hkC, hkind⟩ := B.2.2.2.2.2.1.1.1 ci _ K.1
  obtain ⟨cf, kf, fi, f, hi, hsl⟩ := hS k hk
  have hlay := B.2.2.2.2.1 _ (K.2.1 _ (u_in_lay hk))
  unfold u_lay at hlay
  rw [if_pos hfin] at hlay
  have hst := (u_facts hfc hkC (u_lays B.2.2.2.2.1 K.2.1 hk) hi).1
  have hcf : m.cls = cf := by
    obtain ⟨_, _, c', _, _, _, -, -, hf', -, -, -, hown2, -⟩ := Cond.laysFinal_spec hlay
    have e1 : c' = cf := by have := hi.symm.trans hf'; simp at this; exact this.1.symm
    rw [hdecl] at hown2
    rw [← e1]; exact Option.some.inj (B.2.2.2.1.symm.trans hown2)
  have h6 := u_fits hfc hkC hkind (Or.inr hlay) hi (K.2.2.1 k hk) hn hfit
  refine W.putFinK B.1 B.2.1 B.2.2.2.1 (B.2.2.2.2.1 _ hl) hi hst hcf hin2 (by rw [q2]; exact h6) q1 q3 (by rw [hsl]; exact k2_hasslot (q4 k hk)) rfl rfl d fun H' e1 e2 e3 => ?_
  rw [hsl] at e1 ⊢
  refine kk H' _ (h.put hq (e' := .inr (ci, vs.set k v)) ⟨_, K.1, t_OB.to (V := updV (vp_V vs) k v) ⟨_, e1, q2, q3, t_set q4 hap hk v⟩ (fun j _ => vp_updV_set hkl v j)⟩ ⟨vs.set k v, rfl, ?_, ?_⟩ e2 e3)
  · rw [List.length_set, List.length_set, hlen]
  · intro k' v' P1 hv' hP1
    by_cases hkk : k' = k
    · subst hkk
      rw [List.getElem?_set_self hkl] at hv'
      rw [List.getElem?_set_self hps] at hP1
      cases hv'; cases hP1
      exact hpv
    · rw [List.getElem?_set_ne (Ne.symm hkk)] at hv' hP1
      exact hP k' v' P1 hv' hP1
theorem x_putS (B : xB p s m args meth c D ca own cc nL rt) (h : xH D A H0 w H locs) {ci N : Nat} {C : String} {T : u_T} {ty : Nat → FieldType} (K : xK1 ci C T N ty) (q0 : Nat) {a : Nat} {ps : List fP} (hq : w[q0]? = some (a, xO ci ps)) (k : Nat) {P : fP} (hp : ps[k]? = some P) {v : Value} {index : Nat} (hl : Cond.fieldLink own index (T k).1 (T k).2.1 (T k).2.2.1 ∈ AW) (hk : k < N) (hpv : P v) (hfin : (T k).2.2.2 = false) (hn : narrow (ty k) v = v) (hfit : fits (ty k) v = true)
    (d : decode cc pc = .ok (.putfield index, 3)) (kk : ∀ (H1 : Heap) (locs1 : List Loc), xH D A H0 w H1 locs1 → W p l e R s m args below meth c H1 locs1 cells slots Q (F0 m (pc + 3) ls (rest))) : W p l e R s m args below meth c H locs cells slots Q (F0 m pc ls (v :: .ref a :: rest)) :=
  x_put B h K q0 hq k (List.getElem?_eq_some_iff.mp hp).1 (P' := P) hl hk hpv hfin hn hfit d (fun H1 locs1 h1 => by
    have e1 : ps.set k P = ps := by
      apply List.ext_getElem?
      intro j
      by_cases hj : j = k
      · subst hj; rw [List.getElem?_set_self (List.getElem?_eq_some_iff.mp hp).1, hp]
      · rw [List.getElem?_set_ne (Ne.symm hj)]
    rw [e1, xset_same hq] at h1
    exact kk H1 locs1 h1)
theorem x_iald (B : xB p s m args meth c D ca own cc nL rt) (h : xH D A H0 w H locs) (q0 : Nat) {a n : Nat} {P : (Nat → Int32) → Prop} (hq : w[q0]? = some (a, xAI (ca 0) n P)) {i : Int} (hi : xr i ∧ 0 ≤ i ∧ i < n) (d : decode cc pc = .ok (.iaload, 1)) (kk : ∀ f : Nat → Int32, P f → W p l e R s m args below meth c H locs cells slots Q (F0 m (pc + 1) ls (.int (f i.toNat) :: rest))) : W p l e R s m args below meth c H locs cells slots Q (F0 m pc ls (.int (iI i) :: .ref a :: rest)) := by
  obtain ⟨e1, h1, f, rfl, hP⟩ := h.1 q0 _ hq
  exact va_iald (t0 := 0) B.1 B.2.1 B.2.2.2.2.2.1.1 (xone h1) 0 rfl rfl ((iI_in hi.1).mpr hi.2) d (by rw [iI_clamp hi.1]; exact kk f hP)
theorem x_ialdG (B : xB p s m args meth c D ca own cc nL rt) (h : xH D A H0 w H locs) (q0 : Nat) {a n : Nat} {lo hi2 : Int} (hq : w[q0]? = some (a, xAI (ca 0) n (gG n lo hi2))) {i : Int} (hi : xr i ∧ 0 ≤ i ∧ i < n) (d : decode cc pc = .ok (.iaload, 1)) (kk : ∀ z : Int, lo ≤ z → z ≤ hi2 → W p l e R s m args below meth c H locs cells slots Q (F0 m (pc + 1) ls (.int (iI z) :: rest))) : W p l e R s m args below meth c H locs cells slots Q (F0 m pc ls (.int (iI i) :: .ref a :: rest)) := x_iald B h q0 hq hi d (fun f hf => by obtain ⟨z, e, z1, z2⟩ := hf i.toNat (by omega); rw [e]; exact kk z z1 z2)
theorem x_ialdX (B : xB p s m args meth c D ca own cc nL rt) (h : xH D A H0 w H locs) (q0 : Nat) {a n : Nat} {g : Nat → Int} (hq : w[q0]? = some (a, xAI (ca 0) n (gX n g))) {i : Int} (hi : xr i ∧ 0 ≤ i ∧ i < n) (d : decode cc pc = .ok (.iaload, 1)) (kk : W p l e R s m args below meth c H locs cells slots Q (F0 m (pc + 1) ls (.int (iI (g i.toNat)) :: rest))) : W p l e R s m args below meth c H locs cells slots Q (F0 m pc ls (.int (iI i) :: .ref a :: rest)) := x_iald B h q0 hq hi d (fun f hf => by rw [hf i.toNat (by omega)]; exact kk)
theorem x_zald (B : xB p s m args meth c D ca own cc nL rt) (h : xH D A H0 w H locs) (q0 : Nat) {a n : Nat} {P : (Nat → Int32) → Prop} (hq : w[q0]? = some (a, xAI (ca 2) n P)) {i : Int} (hi : xr i ∧ 0 ≤ i ∧ i < n) (d : decode cc pc = .ok (.baload, 1)) (kk : ∀ f : Nat → Int32, P f → W p l e R s m args below meth c H locs cells slots Q (F0 m (pc + 1) ls (.int (f i.toNat) :: rest))) : W p l e R s m args below meth c H locs cells slots Q (F0 m pc ls (.int (iI i) :: .ref a :: rest)) := by
  obtain ⟨e1, h1, f, rfl, hP⟩ := h.1 q0 _ hq
  exact va_zald (t0 := 2) B.1 B.2.1 B.2.2.2.2.2.1.1 (xone h1) 0 rfl rfl ((iI_in hi.1).mpr hi.2) d (by rw [iI_clamp hi.1]; exact kk f hP)
theorem x_zaldG (B : xB p s m args meth c D ca own cc nL rt) (h : xH D A H0 w H locs) (q0 : Nat) {a n : Nat} {lo hi2 : Int} (hq : w[q0]? = some (a, xAI (ca 2) n (gG n lo hi2))) {i : Int} (hi : xr i ∧ 0 ≤ i ∧ i < n) (d : decode cc pc = .ok (.baload, 1)) (kk : ∀ z : Int, lo ≤ z → z ≤ hi2 → W p l e R s m args below meth c H locs cells slots Q (F0 m (pc + 1) ls (.int (iI z) :: rest))) : W p l e R s m args below meth c H locs cells slots Q (F0 m pc ls (.int (iI i) :: .ref a :: rest)) := x_zald B h q0 hq hi d (fun f hf => by obtain ⟨z, e, z1, z2⟩ := hf i.toNat (by omega); rw [e]; exact kk z z1 z2)
theorem x_zaldX (B : xB p s m args meth c D ca own cc nL rt) (h : xH D A H0 w H locs) (q0 : Nat) {a n : Nat} {g : Nat → Int} (hq : w[q0]? = some (a, xAI (ca 2) n (gX n g))) {i : Int} (hi : xr i ∧ 0 ≤ i ∧ i < n) (d : decode cc pc = .ok (.baload, 1)) (kk : W p l e R s m args below meth c H locs cells slots Q (F0 m (pc + 1) ls (.int (iI (g i.toNat)) :: rest))) : W p l e R s m args below meth c H locs cells slots Q (F0 m pc ls (.int (iI i) :: .ref a :: rest)) := x_zald B h q0 hq hi d (fun f hf => by rw [hf i.toNat (by omega)]; exact kk)
theorem x_bald (B : xB p s m args meth c D ca own cc nL rt) (h : xH D A H0 w H locs) (q0 : Nat) {a n : Nat} {P : (Nat → Int32) → Prop} (hq : w[q0]? = some (a, xAI (ca 3) n P)) {i : Int} (hi : xr i ∧ 0 ≤ i ∧ i < n) (d : decode cc pc = .ok (.baload, 1)) (kk : ∀ f : Nat → Int32, P f → W p l e R s m args below meth c H locs cells slots Q (F0 m (pc + 1) ls (.int (f i.toNat) :: rest))) : W p l e R s m args below meth c H locs cells slots Q (F0 m pc ls (.int (iI i) :: .ref a :: rest)) := by
  obtain ⟨e1, h1, f, rfl, hP⟩ := h.1 q0 _ hq
  exact va_bald (t0 := 3) B.1 B.2.1 B.2.2.2.2.2.1.1 (xone h1) 0 rfl rfl ((iI_in hi.1).mpr hi.2) d (by rw [iI_clamp hi.1]; exact kk f hP)
theorem x_baldG (B : xB p s m args meth c D ca own cc nL rt) (h : xH D A H0 w H locs) (q0 : Nat) {a n : Nat} {lo hi2 : Int} (hq : w[q0]? = some (a, xAI (ca 3) n (gG n lo hi2))) {i : Int} (hi : xr i ∧ 0 ≤ i ∧ i < n) (d : decode cc pc = .ok (.baload, 1)) (kk : ∀ z : Int, lo ≤ z → z ≤ hi2 → W p l e R s m args below meth c H locs cells slots Q (F0 m (pc + 1) ls (.int (iI z) :: rest))) : W p l e R s m args below meth c H locs cells slots Q (F0 m pc ls (.int (iI i) :: .ref a :: rest)) := x_bald B h q0 hq hi d (fun f hf => by obtain ⟨z, e, z1, z2⟩ := hf i.toNat (by omega); rw [e]; exact kk z z1 z2)
theorem x_baldX (B : xB p s m args meth c D ca own cc nL rt) (h : xH D A H0 w H locs) (q0 : Nat) {a n : Nat} {g : Nat → Int} (hq : w[q0]? = some (a, xAI (ca 3) n (gX n g))) {i : Int} (hi : xr i ∧ 0 ≤ i ∧ i < n) (d : decode cc pc = .ok (.baload, 1)) (kk : W p l e R s m args below meth c H locs cells slots Q (F0 m (pc + 1) ls (.int (iI (g i.toNat)) :: rest))) : W p l e R s m args below meth c H locs cells slots Q (F0 m pc ls (.int (iI i) :: .ref a :: rest)) := x_bald B h q0 hq hi d (fun f hf => by rw [hf i.toNat (by omega)]; exact kk)
theorem x_lald (B : xB p s m args meth c D ca own cc nL rt) (h : xH D A H0 w H locs) (q0 : Nat) {a n : Nat} {P : (Nat → Int64) → Prop} (hq : w[q0]? = some (a, xAL (ca 1) n P)) {i : Int} (hi : xr i ∧ 0 ≤ i ∧ i < n) (d : decode cc pc = .ok (.laload, 1)) (kk : ∀ f : Nat → Int64, P f → W p l e R s m args below meth c H locs cells slots Q (F0 m (pc + 1) ls (.long (f i.toNat) :: rest))) : W p l e R s m args below meth c H locs cells slots Q (F0 m pc ls (.int (iI i) :: .ref a :: rest)) := by
  obtain ⟨e1, h1, f, rfl, hP⟩ := h.1 q0 _ hq
  exact va_lald (t0 := 1) B.1 B.2.1 B.2.2.2.2.2.1.1 (xone h1) 0 rfl rfl ((iI_in hi.1).mpr hi.2) d (by rw [iI_clamp hi.1]; exact kk f hP)
theorem x_qald (B : xB p s m args meth c D ca own cc nL rt) (h : xH D A H0 w H locs) (q0 t0 : Nat) {C : String} (ht : (xT ca)[t0]? = some (ca t0, .object C)) {a n : Nat} {P : (Nat → Option Nat) → Prop} (hq : w[q0]? = some (a, xAQ (ca t0) n P)) {i : Int} (hi : xr i ∧ 0 ≤ i ∧ i < n) (d : decode cc pc = .ok (.aaload, 1)) (kk : ∀ f : Nat → Option Nat, P f → W p l e R s m args below meth c H locs cells slots Q (F0 m (pc + 1) ls (va_rf (f i.toNat) :: rest))) : W p l e R s m args below meth c H locs cells slots Q (F0 m pc ls (.int (iI i) :: .ref a :: rest)) := by
  obtain ⟨e1, h1, f, rfl, hP⟩ := h.1 q0 _ hq
  exact va_aldq (t0 := t0) B.1 B.2.1 B.2.2.2.2.2.1.1 (xone h1) 0 rfl ht ((iI_in hi.1).mpr hi.2) d (by rw [iI_clamp hi.1]; exact kk f hP)
theorem x_iast (B : xB p s m args meth c D ca own cc nL rt) (h : xH D A H0 w H locs) (q0 : Nat) {a n : Nat} {P : (Nat → Int32) → Prop} (hq : w[q0]? = some (a, xAI (ca 0) n P)) {i : Int} (hi : xr i ∧ 0 ≤ i ∧ i < n) {x : Int32} {P' : (Nat → Int32) → Prop} (hp : ∀ f : Nat → Int32, P f → P' (upd f i.toNat x)) (d : decode cc pc = .ok (.iastore, 1)) (kk : ∀ (H1 : Heap) (locs1 : List Loc), xH D A H0 (w.set q0 (a, xAI (ca 0) n P')) H1 locs1 → W p l e R s m args below meth c H1 locs1 cells slots Q (F0 m (pc + 1) ls (rest))) : W p l e R s m args below meth c H locs cells slots Q (F0 m pc ls (.int x :: .int (iI i) :: .ref a :: rest)) := by
  obtain ⟨e1, h1, f, rfl, hP⟩ := h.1 q0 _ hq
  have hiN : i.toNat < n := by omega
  refine W.iast B.1 B.2.1 h1 ((B.2.2.2.2.2.1.1.2 0 _ rfl).1 n (fun j => .int (f j))) (fun q => by cases q) (by show ¬ (iI i < 0 ∨ (arrV _ _ _).slots.size ≤ _); rw [arrV_size]; exact (iI_in hi.1).mpr hi.2) rfl rfl d fun H1 e9 z oq => ?_
  rw [iI_clamp hi.1] at e9 ⊢
  refine kk H1 _ (h.put hq (e' := .inl (ca 0, n, .inl (upd f i.toNat x))) ?_ ⟨_, rfl, hp f hP⟩ z oq)
  show H1[a]? = some (vp_cell _ _)
  rw [e9]
  rw [vp_cell_i, vp_cell_i, arrV_store]
  congr 2
  funext q
  by_cases hq9 : q = i.toNat
  · subst hq9
    simp [updV, upd]
    try rfl
  · simp [updV, upd, hq9]
theorem x_iastS (B : xB p s m args meth c D ca own cc nL rt) (h : xH D A H0 w H locs) (q0 : Nat) {a n : Nat} {P : (Nat → Int32) → Prop} (hq : w[q0]? = some (a, xAI (ca 0) n P)) {i : Int} (hi : xr i ∧ 0 ≤ i ∧ i < n) {x : Int32} (hp : ∀ f : Nat → Int32, P f → P (upd f i.toNat x)) (d : decode cc pc = .ok (.iastore, 1)) (kk : ∀ (H1 : Heap) (locs1 : List Loc), xH D A H0 w H1 locs1 → W p l e R s m args below meth c H1 locs1 cells slots Q (F0 m (pc + 1) ls (rest))) : W p l e R s m args below meth c H locs cells slots Q (F0 m pc ls (.int x :: .int (iI i) :: .ref a :: rest)) := x_iast B h q0 hq hi hp d (fun H1 locs1 h1 => kk H1 locs1 (by rw [xset_same hq] at h1; exact h1))
theorem x_zast (B : xB p s m args meth c D ca own cc nL rt) (h : xH D A H0 w H locs) (q0 : Nat) {a n : Nat} {P : (Nat → Int32) → Prop} (hq : w[q0]? = some (a, xAI (ca 2) n P)) {i : Int} (hi : xr i ∧ 0 ≤ i ∧ i < n) {x : Int32} {P' : (Nat → Int32) → Prop} (hp : ∀ f : Nat → Int32, P f → P' (upd f i.toNat (vp_nar .boolean x))) (d : decode cc pc = .ok (.bastore, 1)) (kk : ∀ (H1 : Heap) (locs1 : List Loc), xH D A H0 (w.set q0 (a, xAI (ca 2) n P')) H1 locs1 → W p l e R s m args below meth c H1 locs1 cells slots Q (F0 m (pc + 1) ls (rest))) : W p l e R s m args below meth c H locs cells slots Q (F0 m pc ls (.int x :: .int (iI i) :: .ref a :: rest)) := by
  obtain ⟨e1, h1, f, rfl, hP⟩ := h.1 q0 _ hq
  have hiN : i.toNat < n := by omega
  refine W.zast B.1 B.2.1 h1 ((B.2.2.2.2.2.1.1.2 2 _ rfl).1 n (fun j => .int (f j))) (fun q => by cases q) (by show ¬ (iI i < 0 ∨ (arrV _ _ _).slots.size ≤ _); rw [arrV_size]; exact (iI_in hi.1).mpr hi.2) rfl rfl d fun H1 e9 z oq => ?_
  rw [iI_clamp hi.1] at e9 ⊢
  refine kk H1 _ (h.put hq (e' := .inl (ca 2, n, .inl (upd f i.toNat (vp_nar .boolean x)))) ?_ ⟨_, rfl, hp f hP⟩ z oq)
  show H1[a]? = some (vp_cell _ _)
  rw [e9]
  rw [vp_cell_i, vp_cell_i, arrV_store]
  congr 2
  funext q
  by_cases hq9 : q = i.toNat
  · subst hq9
    simp [updV, upd, vp_nar]
    try rfl
  · simp [updV, upd, hq9]
theorem x_zastS (B : xB p s m args meth c D ca own cc nL rt) (h : xH D A H0 w H locs) (q0 : Nat) {a n : Nat} {P : (Nat → Int32) → Prop} (hq : w[q0]? = some (a, xAI (ca 2) n P)) {i : Int} (hi : xr i ∧ 0 ≤ i ∧ i < n) {x : Int32} (hp : ∀ f : Nat → Int32, P f → P (upd f i.toNat (vp_nar .boolean x))) (d : decode cc pc = .ok (.bastore, 1)) (kk : ∀ (H1 : Heap) (locs1 : List Loc), xH D A H0 w H1 locs1 → W p l e R s m args below meth c H1 locs1 cells slots Q (F0 m (pc + 1) ls (rest))) : W p l e R s m args below meth c H locs cells slots Q (F0 m pc ls (.int x :: .int (iI i) :: .ref a :: rest)) := x_zast B h q0 hq hi hp d (fun H1 locs1 h1 => kk H1 locs1 (by rw [xset_same hq] at h1; exact h1))
theorem x_bast (B : xB p s m args meth c D ca own cc nL rt) (h : xH D A H0 w H locs) (q0 : Nat) {a n : Nat} {P : (Nat → Int32) → Prop} (hq : w[q0]? = some (a, xAI (ca 3) n P)) {i : Int} (hi : xr i ∧ 0 ≤ i ∧ i < n) {x : Int32} {P' : (Nat → Int32) → Prop} (hp : ∀ f : Nat → Int32, P f → P' (upd f i.toNat (vp_nar .byte x))) (d : decode cc pc = .ok (.bastore, 1)) (kk : ∀ (H1 : Heap) (locs1 : List Loc), xH D A H0 (w.set q0 (a, xAI (ca 3) n P')) H1 locs1 → W p l e R s m args below meth c H1 locs1 cells slots Q (F0 m (pc + 1) ls (rest))) : W p l e R s m args below meth c H locs cells slots Q (F0 m pc ls (.int x :: .int (iI i) :: .ref a :: rest)) := by
  obtain ⟨e1, h1, f, rfl, hP⟩ := h.1 q0 _ hq
  have hiN : i.toNat < n := by omega
  refine W.bast B.1 B.2.1 h1 ((B.2.2.2.2.2.1.1.2 3 _ rfl).1 n (fun j => .int (f j))) (fun q => by cases q) (by show ¬ (iI i < 0 ∨ (arrV _ _ _).slots.size ≤ _); rw [arrV_size]; exact (iI_in hi.1).mpr hi.2) rfl rfl d fun H1 e9 z oq => ?_
  rw [iI_clamp hi.1] at e9 ⊢
  refine kk H1 _ (h.put hq (e' := .inl (ca 3, n, .inl (upd f i.toNat (vp_nar .byte x)))) ?_ ⟨_, rfl, hp f hP⟩ z oq)
  show H1[a]? = some (vp_cell _ _)
  rw [e9]
  rw [vp_cell_i, vp_cell_i, arrV_store]
  congr 2
  funext q
  by_cases hq9 : q = i.toNat
  · subst hq9
    simp [updV, upd, vp_nar]
    try rfl
  · simp [updV, upd, hq9]
theorem x_bastS (B : xB p s m args meth c D ca own cc nL rt) (h : xH D A H0 w H locs) (q0 : Nat) {a n : Nat} {P : (Nat → Int32) → Prop} (hq : w[q0]? = some (a, xAI (ca 3) n P)) {i : Int} (hi : xr i ∧ 0 ≤ i ∧ i < n) {x : Int32} (hp : ∀ f : Nat → Int32, P f → P (upd f i.toNat (vp_nar .byte x))) (d : decode cc pc = .ok (.bastore, 1)) (kk : ∀ (H1 : Heap) (locs1 : List Loc), xH D A H0 w H1 locs1 → W p l e R s m args below meth c H1 locs1 cells slots Q (F0 m (pc + 1) ls (rest))) : W p l e R s m args below meth c H locs cells slots Q (F0 m pc ls (.int x :: .int (iI i) :: .ref a :: rest)) := x_bast B h q0 hq hi hp d (fun H1 locs1 h1 => kk H1 locs1 (by rw [xset_same hq] at h1; exact h1))
end XHEAP
