section YSTR
variable {p : Program} {l : Launch} {e : Env} {R : Room} {s : State} {m : MethodId} {args : Array Value} {below : List Frame} {meth : Method} {c : Code} {H : Heap} {locs : List Loc} {cells slots : Nat} {Q Qf : State → Prop}
variable {cc : ByteArray} {nL : Nat} {rt : Option FieldType} {own : String} {D : va_G} {Zk : yK} {ca : Nat → ClassId} {A : Nat → Prop} {w : yW} {pc : Nat} {ls : Array Slot} {rest : List Value}
theorem y_callVS (B : xB p s m args meth c D ca own cc nL rt) {wa : yW} (h : yH D Zk A s wa H locs) {C : String} {a : Nat} (hrc : ∃ cell : Cell, H[a]? = some cell ∧ cell.vm.isStatics = false ∧ s.vm.findClass C = some cell.cls) {y : MethodName} {cy : ByteArray} {maxL : Nat} {ret : Option FieldType} {rm : Room} {av : List Value} {Qc : Option Value → yW → Prop} (hM : yC l D Zk ca y cy maxL ret rm (.ref a :: av) wa Qc) {index n : Nat} (hC : y.cls = C) (hc : Cond.code y cy maxL ret ∈ AW) (hl : Cond.methodLink own index y ∈ AW) (hin : Cond.instanceMethod y ∈ AW) (hse : Cond.selects C y y ∈ AW) (hini : Cond.initialized C ∈ AW) (hd : xDesc y n) (hn : av.length = n) (hR : rm.frames + 1 ≤ R.frames ∧ 8 + (maxL + 11) + rm.locals ≤ R.locals) (hf : cells + rm.cells ≤ R.cells ∧ slots + rm.slots ≤ R.slots) (hsz : ls.size = nL) (hW : (rest.map fun v => v.category).sum ≤ 8) {st0 : List Value} (hst0 : st0 = av.reverse ++ .ref a :: rest)
    (d : decode cc pc = .ok (.invokevirtual index, 3)) (kk : ∀ (r : Option Value) (w1 : yW), Qc r w1 → ∀ (H1 : Heap) (locs1 : List Loc), yH D Zk A s w1 H1 locs1 → W p l e R s m args below meth c H1 locs1 (cells + rm.cells) (slots + rm.slots) Q (F0 m (pc + 3) ls (r.toList ++ rest))) : W p l e R s m args below meth c H locs cells slots Q (F0 m pc ls st0) := by
  have hts := B.2.2.2.2.1
  subst hC
  have hp := yPreS (av := .ref a :: av) B h
  refine y_run (va_runV (As := av) (rest := rest) (b := a) ⟨B.1, B.2.1, B.2.2.1, B.2.2.2.1, hts⟩ (hM H.size) ⟨callB_of n hts (xGood hc) rfl rfl rfl (hts _ hini) (hts _ hl) hd hR, hts _ hin, hts _ hse⟩ ⟨hp.1, hrc, hp.2⟩ rfl hn hsz hst0 (by show 2 * 0 + _ ≤ 8; omega) d hf) h kk
theorem y_cVS (B : xB p s m args meth c D ca own cc nL rt) (h : yH D Zk A s w H locs) {C : String} {a : Nat} (hrc : ∃ cell : Cell, H[a]? = some cell ∧ cell.vm.isStatics = false ∧ s.vm.findClass C = some cell.cls) {y : MethodName} {cy : ByteArray} {maxL n : Nat} {ret : Option FieldType} (M : xMV y cy maxL ret n) (hC : y.cls = C) {rm : Room} {av : List Value} {Qc : Option Value → yW → Prop} (hM : yC l D Zk ca y cy maxL ret rm (.ref a :: av) w Qc) {index : Nat} (hl : Cond.methodLink own index y ∈ AW) (hn : av.length = n) (hR : xRoom rm R maxL cells slots) (hsz : ls.size = nL) {st0 : List Value} (rest : List Value) (hW : (rest.map fun v => v.category).sum ≤ 8) (hst0 : st0 = av.reverse ++ .ref a :: rest)
    (d : decode cc pc = .ok (.invokevirtual index, 3)) (kk : ∀ (r : Option Value) (w1 : yW), Qc r w1 → ∀ (H1 : Heap) (locs1 : List Loc), yH D Zk A s w1 H1 locs1 → W p l e R s m args below meth c H1 locs1 (cells + rm.cells) (slots + rm.slots) Qf (F0 m (pc + 3) ls (r.toList ++ rest))) : W p l e R s m args below meth c H locs cells slots Qf (F0 m pc ls st0) := by
  subst hC
  exact y_callVS B h hrc hM rfl M.1 hl M.2.1 M.2.2.1 M.2.2.2.1 M.2.2.2.2 hn hR.1 hR.2 hsz hW hst0 d kk
theorem y_sCell (h : yH D Zk A s w H locs) {i : Nat} (hi : i < nYS) : ∃ cell : Cell, H[Zk.1 i]? = some cell ∧ cell.vm.isStatics = false ∧ s.vm.findClass "java/lang/String" = some cell.cls := vk_recv h.2.2.2.2.2.1 hi h.2.2.1
theorem y_sVal (B : xB p s m args meth c D ca own cc nL rt) (h : yH D Zk A s w H locs) {i : Nat} (hi : i < nYS) {index : Nat} (hl : Cond.fieldLink own index "java/lang/String" "value" "[B" ∈ AW) (d : decode cc pc = .ok (.getfield index, 3)) (k : W p l e R s m args below meth c H locs cells slots Qf (F0 m (pc + 3) ls (.ref (Zk.2.1 i) :: rest))) : W p l e R s m args below meth c H locs cells slots Qf (F0 m pc ls (.ref (Zk.1 i) :: rest)) :=
  vk_getf B.1 B.2.1 (h.2.2.2.2.2.1.1 i hi).2.2.1 h.2.2.1 B.2.2.2.1 (B.2.2.2.2.1 _ hl) (fun _ q => q) d k
theorem y_sCod (B : xB p s m args meth c D ca own cc nL rt) (h : yH D Zk A s w H locs) {i : Nat} (hi : i < nYS) {index : Nat} (hl : Cond.fieldLink own index "java/lang/String" "coder" "B" ∈ AW) (d : decode cc pc = .ok (.getfield index, 3)) (k : W p l e R s m args below meth c H locs cells slots Qf (F0 m (pc + 3) ls (.int (iI 0) :: rest))) : W p l e R s m args below meth c H locs cells slots Qf (F0 m pc ls (.ref (Zk.1 i) :: rest)) :=
  vk_getf B.1 B.2.1 (h.2.2.2.2.2.1.1 i hi).2.1 h.2.2.1 B.2.2.2.1 (B.2.2.2.2.1 _ hl) (fun _ q => q) d k
theorem y_sLen (B : xB p s m args meth c D ca own cc nL rt) (h : yH D Zk A s w H locs) {i : Nat} (hi : i < nYS) (d : decode cc pc = .ok (.arraylength, 1)) (k : W p l e R s m args below meth c H locs cells slots Qf (F0 m (pc + 1) ls (.int (iI (lenYS.getD i 0 : Nat)) :: rest))) : W p l e R s m args below meth c H locs cells slots Qf (F0 m pc ls (.ref (Zk.2.1 i) :: rest)) :=
  va_tlen B.1 B.2.1 (h.2.2.2.2.2.1.1 i hi).2.2.2 h.2.2.1 rfl d k
theorem y_sLd (B : xB p s m args meth c D ca own cc nL rt) (h : yH D Zk A s w H locs) {i : Nat} (hi : i < nYS) {k : Int} (hk : xr k ∧ 0 ≤ k ∧ k < (lenYS.getD i 0 : Nat)) (d : decode cc pc = .ok (.baload, 1)) (kk : ∀ x : Int32, W p l e R s m args below meth c H locs cells slots Qf (F0 m (pc + 1) ls (.int x :: rest))) : W p l e R s m args below meth c H locs cells slots Qf (F0 m pc ls (.int (iI k) :: .ref (Zk.2.1 i) :: rest)) :=
  va_tb B.1 B.2.1 (h.2.2.2.2.2.1.1 i hi).2.2.2 h.2.2.1 ((iI_in hk.1).mpr hk.2) rfl d (kk _)
theorem y_sCS (B : xB p s m args meth c D ca own cc nL rt) (h : yH D Zk A s w H locs) {index : Nat} (hl : Cond.fieldLink own index "java/lang/String" "COMPACT_STRINGS" "Z" ∈ AW) (d : decode cc pc = .ok (.getstatic index, 3)) (k : W p l e R s m args below meth c H locs cells slots Qf (F0 m (pc + 3) ls (.int (iI 1) :: rest))) : W p l e R s m args below meth c H locs cells slots Qf (F0 m pc ls rest) :=
  va_gets B.1 B.2.1 h.2.2.2.2.2.2.2.1 h.2.2.1 B.2.2.2.1 (B.2.2.2.2.1 _ hl) (fun _ q => q) d k
theorem y_sFm (B : xB p s m args meth c D ca own cc nL rt) (h : yH D Zk A s w H locs) {index : Nat} (hl : Cond.fieldLink own index "jdk/internal/util/Preconditions" "SIOOBE_FORMATTER" "Ljava/util/function/BiFunction;" ∈ AW) (d : decode cc pc = .ok (.getstatic index, 3)) (kn : W p l e R s m args below meth c H locs cells slots Qf (F0 m (pc + 3) ls (.null :: rest))) (kr : ∀ t : Nat, W p l e R s m args below meth c H locs cells slots Qf (F0 m (pc + 3) ls (.ref t :: rest))) : W p l e R s m args below meth c H locs cells slots Qf (F0 m pc ls rest) := by
  refine va_gets B.1 B.2.1 h.2.2.2.2.2.2.2.2.1 h.2.2.1 B.2.2.2.1 (B.2.2.2.2.1 _ hl) (fun _ q => q) d ?_
  rcases h.2.2.2.2.2.2.2.2.2 with e9 | ⟨t, e9⟩
  · rw [e9]; exact kn
  · rw [e9]; exact kr t
theorem y_sLdc (B : xB p s m args meth c D ca "WindWords$Tape" cc nL rt) (h : yH D Zk A s w H locs) (i : Nat) (hi : i < nYS) {index : Nat} (he : ixYS.getD i 0 = index) (d : decode cc pc = .ok (.ldc index, 2)) (k : W p l e R s m args below meth c H locs cells slots Qf (F0 m (pc + 2) ls (.ref (Zk.1 i) :: rest))) : W p l e R s m args below meth c H locs cells slots Qf (F0 m pc ls rest) := by
  subst he
  exact va_ldcS B.1 B.2.1 B.2.2.2.1 (h.2.2.2.2.2.2.1 i hi) d k
theorem y_rn {ty : FieldType} (B : xB p s m args meth c D ca own cc nL (some ty)) {w0 w1 : yW} {Qc : Option Value → yW → Prop} {v : Int32} {k n : Nat} (hQ : Qf = MQ below (yQ D w0 s.heap.size Qc) args s k n A ∧ A = yA w0 s.heap.size) (h : yH D Zk A s w1 H locs) (hc : cells ≤ k ∧ slots ≤ n) (hv : narrow ty (.int v) = .int v) (d : decode cc pc = .ok (.ireturn, 1)) (hq : Qc (some (.int v)) w1) : W p l e R s m args below meth c H locs cells slots Qf (F0 m pc ls [.int v]) := by
  rw [hQ.1]
  exact W.widen hc.1 hc.2 (W.zret B.1 B.2.1 B.2.2.2.2.2.2.2 hv (yQ.of h hQ.2 hq) h.2.2.1.2.2 d B.2.2.2.2.2.2.1)
theorem shr0 (x : Int32) : x >>> (iI 0 &&& 31) = x := by
  apply Int32.toBitVec_inj.mp
  rw [Int32.toBitVec_shiftRight]
  simp [iI]
theorem i2c_small {z : Int} (h : 0 ≤ z ∧ z ≤ 255) : ((iI z).toUInt32 % 65536).toInt32 = iI z := by
  have h9 : ∀ n : Nat, n < 256 → ((iI (n : Int)).toUInt32 % 65536).toInt32 = iI (n : Int) := by decide +kernel
  have := h9 z.toNat (by omega)
  rw [show ((z.toNat : Nat) : Int) = z by omega] at this
  exact this
theorem nchr {z : Int} (h : 0 ≤ z ∧ z ≤ 255) : narrow .char (.int (iI z)) = .int (iI z) := by
  have h9 : ∀ n : Nat, n < 256 → narrow .char (.int (iI (n : Int))) = .int (iI (n : Int)) := by decide +kernel
  have := h9 z.toNat (by omega)
  rw [show ((z.toNat : Nat) : Int) = z by omega] at this
  exact this
theorem i2l_ne {a : Int} (h : 0 < a ∧ a < 2147483648) : ¬ (iI a).toInt64 = 0 := fun q => by
  have h9 : (iI a).toInt64.toInt = 0 := by rw [q]; rfl
  rw [Int32.toInt_toInt64, iI_T (by omega)] at h9
  omega
theorem run_ix (x : Int64) : ∃ z : Int, 0 ≤ z ∧ z ≤ 99 ∧ ((x.toUInt64 >>> ((iI 33).toInt64.toUInt64 &&& Int64.toUInt64 63)).toInt64 - (x.toUInt64 >>> ((iI 33).toInt64.toUInt64 &&& Int64.toUInt64 63)).toInt64 / 100 * 100).toInt32 = iI z := by
  generalize hv : (x.toUInt64 >>> ((iI 33).toInt64.toUInt64 &&& Int64.toUInt64 63)) = v
  have hlt : v.toNat < 2 ^ 31 := by
    rw [← hv, UInt64.toNat_shiftRight]
    have e : ((iI 33).toInt64.toUInt64 &&& Int64.toUInt64 63).toNat % 64 = 33 := by decide
    rw [e, Nat.shiftRight_eq_div_pow]
    have := x.toUInt64.toBitVec.isLt
    have e2 : x.toUInt64.toBitVec.toNat = x.toUInt64.toNat := rfl
    omega
  have h1 : v.toInt64.toInt = (v.toNat : Int) := by
    show (v.toInt64.toBitVec).toInt = _
    rw [BitVec.toInt_eq_toNat_of_lt (by show 2 * v.toNat < _; omega)]
    rfl
  have h2 : (v.toInt64 / 100).toInt = (v.toNat : Int) / 100 := by
    rw [Int64.toInt_div_of_ne_right _ _ (by decide), h1]
    show Int.tdiv _ 100 = _
    rw [Int.tdiv_eq_ediv_of_nonneg (by omega)]
  have h3 : (v.toInt64 - v.toInt64 / 100 * 100).toInt = (v.toNat : Int) % 100 := by
    rw [Int64.toInt_sub, Int64.toInt_mul, h1, h2]
    have a : ((v.toNat : Int) / 100 * (100 : Int64).toInt).bmod (2 ^ 64) = (v.toNat : Int) / 100 * 100 := Int.bmod_eq_of_le (by show _ ≤ _ * 100; omega) (by show _ * 100 < _; omega)
    rw [a]
    rw [Int.bmod_eq_of_le (by omega) (by omega)]
    omega
  refine ⟨(v.toNat : Int) % 100, by omega, by omega, ?_⟩
  apply Int32.toInt_inj.mp
  rw [Int64.toInt_toInt32, h3, iI_T (by omega)]
  exact Int.bmod_eq_of_le (by omega) (by omega)
theorem x_absR (B : xB p s m args meth c D ca own cc nL rt) {a : Int} {index : Nat} (hl : Cond.methodLink own index Lib.Math.abs.name ∈ AW) (hst : Cond.static Lib.Math.abs.name ∈ AW) (hini : Cond.initialized "java/lang/Math" ∈ AW) (hc : Cond.code Lib.Math.abs.name Lib.Math.abs.code 1 (some .int) ∈ AW) (hsz : ls.size = nL) (hW : (rest.map fun v => v.category).sum ≤ 8) (hR : (1 ≤ R.frames ∧ 21 ≤ R.locals) ∧ cells ≤ R.cells ∧ slots ≤ R.slots) (d : decode cc pc = .ok (.invokestatic index, 3))
    (k : ∀ z : Int, xr z → W p l e R s m args below meth c H locs cells slots Qf (F0 m (pc + 3) ls (.int (iI z) :: rest))) : W p l e R s m args below meth c H locs cells slots Qf (F0 m pc ls (.int (iI a) :: rest)) := by
  have hts := B.2.2.2.2.1
  exact va_mabs B.1 B.2.1 (B.2.2.1.trans hsz.symm) B.2.2.2.1 (hts _ hl) (hts _ hst) (hts _ hini) (hts _ hc) hR.1.1 (by omega) hR.2.1 hR.2.2 d (x_name (fun z hz _ => k z hz))
theorem len_r (i : Nat) (hi : i < nYS) : 2 ≤ lenYS.getD i 0 ∧ lenYS.getD i 0 ≤ 6 := by
  have h : ∀ i, i < nYS → 2 ≤ lenYS.getD i 0 ∧ lenYS.getD i 0 ≤ 6 := by decide +kernel
  exact h i hi
theorem i2k_ne {z : Int} (h : 0 < z ∧ z < 2147483648) : iI (2 * z) ≠ 0 := fun q => by
  have h9 : (iI (2 * z)).toInt = 0 := by rw [q]; rfl
  have h8 : (iI (2 * z)).toInt = (2 * z).bmod (2 ^ 32) := Int32.toInt_ofInt ..
  rw [h8] at h9
  have := Int.dvd_of_bmod_eq_zero h9
  omega
end YSTR
