theorem W_aastN {p : Program} {l : Launch} {e : Env} {R : Room} {s : State} {m : MethodId} {args : Array Value} {below : List Frame} {meth : Method} {c : Code} {H : Heap} {locs : List Loc} {cells slots : Nat} {Qf : State → Prop} {cc : ByteArray} (hexec : p.tables.exec = Jvm.exec) (hb : c.code = cc) {a : Addr} {cell : Cell} {j : Int32} {k : Class} {comp : ClassId} {t : FieldType}
    (hcell : H[a]? = some cell) (hobj : ∀ q, cell.vm ≠ .statics q) (hknown : cell.vm ≠ .unknown) (hk : s.vm.classes[cell.cls]? = some k) (hkind : k.kind = .array comp t) (href : t.isReference = true)
    (hin : ¬ j < 0 ∧ j.toNatClampNeg < cell.slots.size)
    {g : JFrame} (hg : g.method = m) {rest : List Value} (hstack : g.stack = .null :: .int j :: .ref a :: rest) (hdg : decode cc g.pc = .ok (.aastore, 1))
    (kk : ∀ H' : Heap, H'[a]? = some (cell.setSlot j.toNatClampNeg .null) → H'.size = H.size → (∀ q, q ≠ a → H'[q]? = H[q]?) → W p l e R s m args below meth c H' (locs ++ [⟨a, j.toNatClampNeg⟩]) cells slots Qf { g with pc := g.pc + 1, stack := rest }) :
    W p l e R s m args below meth c H locs cells slots Qf g := by
  intro T hT X
  have hT' : T.heap[a]? = some cell := by rw [hT]; exact hcell
  obtain ⟨X', st⟩ := X.aastoreNullIn hexec hT' hobj hknown hk hkind href hin hg hstack (by rw [hb]; exact hdg)
  have hlt : a < T.heap.size := (Array.getElem?_eq_some_iff.mp hT').1
  obtain ⟨t', a1, b1⟩ := kk _ (heapAt_setCell_self _ hlt) (by rw [size_setCell, hT]) (fun q hq => by rw [heapAt_setCell_ne _ (Ne.symm hq), hT]) (T.setCell a (cell.setSlot j.toNatClampNeg .null)) rfl X'
  exact ⟨t', st t' a1, b1⟩
theorem y_qastN {p : Program} {l : Launch} {e : Env} {R : Room} {s : State} {m : MethodId} {args : Array Value} {below : List Frame} {meth : Method} {c : Code} {H : Heap} {locs : List Loc} {cells slots : Nat} {Qf : State → Prop} {cc : ByteArray} {nL : Nat} {rt : Option FieldType} {own : String} {D : va_G} {Zk : yK} {ca : Nat → ClassId} {A : Nat → Prop} {w : yW} {pc : Nat} {ls : Array Slot} {rest : List Value}
    (B : xB p s m args meth c D ca own cc nL rt) (h : yH D Zk A s w H locs) (q0 t0 : Nat) {C : String} (ht : (xT ca)[t0]? = some (ca t0, .object C)) {a n : Nat} {P : (Nat → Option Nat) → Prop} (hq : w q0 = some (a, xAQ (ca t0) n P)) {i : Int} (hi : xr i ∧ 0 ≤ i ∧ i < n) {P' : (Nat → Option Nat) → Prop} (hp : ∀ f : Nat → Option Nat, P f → P' (va_up f i.toNat none)) (d : decode cc pc = .ok (.aastore, 1)) (kk : ∀ (H1 : Heap) (locs1 : List Loc), yH D Zk A s (wu w q0 (a, xAQ (ca t0) n P')) H1 locs1 → W p l e R s m args below meth c H1 locs1 cells slots Qf (F0 m (pc + 1) ls rest)) : W p l e R s m args below meth c H locs cells slots Qf (F0 m pc ls (.null :: .int (iI i) :: .ref a :: rest)) := by
  obtain ⟨e1, h1, f, rfl, hP⟩ := h.1 q0 _ hq
  have hin := (iI_in (n := n) hi.1).mpr hi.2
  have hlt : (iI i).toNatClampNeg < n := Nat.not_le.mp fun q => hin (Or.inr q)
  have h0 : ¬ iI i < 0 := fun q => hin (Or.inl q)
  obtain ⟨kA, comp, k1, k2, k3, -⟩ := (B.2.2.2.2.2.1.1.2 t0 _ ht).2
  refine W_aastN B.1 B.2.1 h1 (fun q h => by cases h) (fun h => by cases h) k1 k2 rfl ⟨h0, by show _ < (arrV _ _ _).slots.size; rw [arrV_size]; exact hlt⟩ rfl rfl d fun H1 e9 z oq => ?_
  rw [iI_clamp hi.1] at e9 ⊢
  refine kk H1 _ (h.put hq (e' := .inl (ca t0, n, .inr (.inr (.inr (.inr (va_up f i.toNat none)))))) ?_ ⟨_, rfl, hp f hP⟩ z oq)
  show H1[a]? = some (vp_cell _ _)
  rw [e9]
  rw [vp_cell_q, vp_cell_q, arrV_store]
  congr 2
  funext q
  by_cases hq9 : q = i.toNat
  · subst hq9
    simp [updV, va_up, va_rf]
  · simp [updV, va_up, hq9]
/-! ===== readings from a place on are forgotten: the package with a gap ===== -/
def gRowH (G : Nat → Int → Nat) (b : Nat) (n lo hi : Int) : (Nat → Option Nat) → Prop := fun f => ∀ i : Int, (0 ≤ i ∧ i < n) ∧ ¬ (lo ≤ i ∧ i < hi) → f i.toNat = some (G b i)
def gRdH (T : Nat → Int → Int) (G : Nat → Int → Nat) (n lo hi s : Int) : (Nat → Option Nat) → Prop := fun f => ∀ i : Int, 0 ≤ i ∧ i < 1000 → (f i.toNat = none ∧ ∀ k : Int, (0 ≤ k ∧ k < n) ∧ ¬ (lo ≤ k ∧ k < hi) → ¬ (T 4 k = s ∧ T 5 k = i)) ∨ ∃ k : Int, ((0 ≤ k ∧ k < n) ∧ ¬ (lo ≤ k ∧ k < hi)) ∧ T 4 k = s ∧ T 5 k = i ∧ f i.toNat = some (G 4 k)
theorem gRowH_0 {G : Nat → Int → Nat} {b : Nat} {n lo : Int} : gRow G b n = gRowH G b n lo lo := by
  funext f
  apply propext
  exact ⟨fun hf i hi => hf i hi.1, fun hf i hi => hf i ⟨hi, by omega⟩⟩
theorem gRdH_0 {T : Nat → Int → Int} {G : Nat → Int → Nat} {n lo s : Int} : gRd T G n s = gRdH T G n lo lo s := by
  funext f
  apply propext
  constructor
  · intro hf i hi
    rcases hf i hi with ⟨a, b⟩ | ⟨k, hk, a, b, c⟩
    · exact Or.inl ⟨a, fun k hk => b k hk.1⟩
    · exact Or.inr ⟨k, ⟨hk, by omega⟩, a, b, c⟩
  · intro hf i hi
    rcases hf i hi with ⟨a, b⟩ | ⟨k, hk, a, b, c⟩
    · exact Or.inl ⟨a, fun k hk => b k ⟨hk, by omega⟩⟩
    · exact Or.inr ⟨k, hk.1, a, b, c⟩
theorem gRowH_n {G : Nat → Int → Nat} {b : Nat} {n lo : Int} (h : lo ≤ n) : gRowH G b n lo n = gRow G b lo := by
  funext f
  apply propext
  exact ⟨fun hf i hi => hf i ⟨by omega, by omega⟩, fun hf i hi => hf i (by omega)⟩
theorem gRdH_n {T : Nat → Int → Int} {G : Nat → Int → Nat} {n lo s : Int} (h : lo ≤ n) : gRdH T G n lo n s = gRd T G lo s := by
  funext f
  apply propext
  constructor
  · intro hf i hi
    rcases hf i hi with ⟨a, b⟩ | ⟨k, hk, a, b, c⟩
    · exact Or.inl ⟨a, fun k hk => b k ⟨by omega, by omega⟩⟩
    · exact Or.inr ⟨k, by omega, a, b, c⟩
  · intro hf i hi
    rcases hf i hi with ⟨a, b⟩ | ⟨k, hk, a, b, c⟩
    · exact Or.inl ⟨a, fun k hk => b k (by omega)⟩
    · exact Or.inr ⟨k, ⟨by omega, by omega⟩, a, b, c⟩
theorem gRowH_s {G : Nat → Int → Nat} {b : Nat} {n lo k : Int} (h : 0 ≤ lo ∧ lo ≤ k) : ∀ f : Nat → Option Nat, gRowH G b n lo k f → gRowH G b n lo (k + 1) (va_up f k.toNat none) := fun f hf i hi => by
  unfold va_up
  by_cases q : i.toNat = k.toNat
  · exact absurd hi.2 (by omega)
  · rw [if_neg q]; exact hf i ⟨hi.1, by omega⟩
theorem gRdH_s {T : Nat → Int → Int} {G : Nat → Int → Nat} {lo k : Int} (hp : PI T) (h : (0 ≤ k ∧ k < T 0 2) ∧ lo ≤ k) : ∀ f : Nat → Option Nat, gRdH T G (T 0 2) lo k (T 4 k) f → gRdH T G (T 0 2) lo (k + 1) (T 4 k) (va_up f (T 5 k).toNat none) := fun f hf i hi => by
  have h5 := pi_5 hp k
  unfold va_up
  by_cases q : i.toNat = (T 5 k).toNat
  · rw [if_pos q]
    refine Or.inl ⟨rfl, fun j hj hh => ?_⟩
    have e : j = k := pi_un hp hj.1 h.1 hh.1 (by omega)
    exact hj.2 (by omega)
  · rw [if_neg q]
    rcases hf i hi with ⟨a, b⟩ | ⟨j, hj, a, b, c⟩
    · exact Or.inl ⟨a, fun j hj => b j ⟨hj.1, by omega⟩⟩
    · have e : j ≠ k := fun e => q (by rw [← b, e])
      exact Or.inr ⟨j, ⟨hj.1, by omega⟩, a, b, c⟩
theorem gRdH_o {T : Nat → Int → Int} {G : Nat → Int → Nat} {n lo k s : Int} (h : s ≠ T 4 k) : gRdH T G n lo k s = gRdH T G n lo (k + 1) s := by
  funext f
  apply propext
  constructor
  · intro hf i hi
    rcases hf i hi with ⟨a, b⟩ | ⟨j, hj, a, b, c⟩
    · exact Or.inl ⟨a, fun j hj => b j ⟨hj.1, by omega⟩⟩
    · have e : j ≠ k := fun e => h (by rw [← a, e])
      exact Or.inr ⟨j, ⟨hj.1, by omega⟩, a, b, c⟩
  · intro hf i hi
    rcases hf i hi with ⟨a, b⟩ | ⟨j, hj, a, b, c⟩
    · refine Or.inl ⟨a, fun j hj hh => ?_⟩
      have e : j ≠ k := fun e => h (by rw [← hh.1, e])
      exact b j ⟨hj.1, by omega⟩ hh
    · exact Or.inr ⟨j, ⟨hj.1, by omega⟩, a, b, c⟩
def GAP (ca : Nat → ClassId) (T : Nat → Int → Int) (G : Nat → Int → Nat) (ad : Nat → Nat) (w : yW) (lo hi : Int) (v : yW) : Prop :=
  (∀ k : Nat, k ≠ 3 → (∀ s : Int, 0 ≤ s ∧ s < T 0 1 → k ≠ 1000 + 16 * s.toNat + 3) → v k = w k) ∧ v 3 = some (ad 3, xAQ (ca 5) 300 (gRowH G 4 (T 0 2) lo hi)) ∧ ∀ s : Int, 0 ≤ s ∧ s < T 0 1 → v (1000 + 16 * s.toNat + 3) = some (G 3 s, xAQ (ca 5) 1000 (gRdH T G (T 0 2) lo hi s))
theorem GAP.first {ca : Nat → ClassId} {T : Nat → Int → Int} {G : Nat → Int → Nat} {u : Int} {ad : Nat → Nat} {w : yW} {lo : Int} (h : CW ca T G u ad w) : GAP ca T G ad w lo lo w := by
  refine ⟨fun k _ _ => rfl, ?_, fun s hs => ?_⟩
  · rw [← gRowH_0]; exact h.f 3 _ rfl
  · rw [← gRdH_0]; exact (h.sh s hs).2.2
theorem GAP.next {ca : Nat → ClassId} {T : Nat → Int → Int} {G : Nat → Int → Nat} {ad : Nat → Nat} {w v : yW} {lo k : Int} (h : GAP ca T G ad w lo k v) (hk : 0 ≤ T 4 k ∧ T 4 k < T 0 1) :
    GAP ca T G ad w lo (k + 1) (wu (wu v (1000 + 16 * (T 4 k).toNat + 3) (G 3 (T 4 k), xAQ (ca 5) 1000 (gRdH T G (T 0 2) lo (k + 1) (T 4 k)))) 3 (ad 3, xAQ (ca 5) 300 (gRowH G 4 (T 0 2) lo (k + 1)))) := by
  obtain ⟨h1, h2, h3⟩ := h
  refine ⟨fun j hj hs => ?_, wu_eq, fun s hs => ?_⟩
  · rw [wu_ne hj, wu_ne (hs (T 4 k) hk)]; exact h1 j hj hs
  · rw [wu_ne (by omega)]
    by_cases e : s = T 4 k
    · rw [e]; exact wu_eq
    · rw [wu_ne (by omega), ← gRdH_o e]; exact h3 s hs
set_option maxHeartbeats 4000000 in
theorem cw_back {ca : Nat → ClassId} {T : Nat → Int → Int} {G : Nat → Int → Nat} {u : Int} {ad : Nat → Nat} {w v w1 : yW} {im : Int} (h : CW ca T G u ad w) (h1 : T 11 im ≤ T 0 2) (hG : GAP ca T G ad w (T 11 im) (T 0 2) v)
    (hk : ∀ k : Nat, k ≠ 1 → w1 k = v k)
    (c1 : w1 1 = some (ad 1, xO 0 [fR (ad 2), fR (ad 3), fX (T 0 0), fG (-2147483648) 2147483647, fX (T 0 1), fX (T 11 im), fX (T 0 3), fX (T 13 im), fX (T 14 im)])) :
    CW ca (tBack T im) G u ad w1 := by
  have hp := h.pi
  have hs := pi_s hp
  have hs1 := hs.2.1
  have hs2 := hs.2.2.1
  have hs6 := hs.2.2.2.2.2.2.1
  have o : ∀ k : Nat, k ≠ 1 → k ≠ 3 → (∀ s : Int, 0 ≤ s ∧ s < T 0 1 → k ≠ 1000 + 16 * s.toNat + 3) → w1 k = w k := fun k a b c => (hk k a).trans (hG.1 k b c)
  refine ⟨pi_back hp h1, fun k x hx => ?_, fun s hs9 => ?_, fun k hk9 => ?_, fun i hi => ?_, fun j hj => ?_⟩
  · have hl := cF_lt hx
    by_cases e1 : k = 1
    · subst e1; cases hx; exact c1
    · by_cases e2 : k = 3
      · subst e2; cases hx
        rw [hk 3 (by omega), hG.2.1, gRowH_n h1]; rfl
      · rw [o k e1 e2 (fun s hs => by omega)]
        refine h.f k x ?_
        rw [show cF ca (tBack T im) G u ad = ((cF ca T G u ad).set 1 (ad 1, xO 0 [fR (ad 2), fR (ad 3), fX (T 0 0), fG (-2147483648) 2147483647, fX (T 0 1), fX (T 11 im), fX (T 0 3), fX (T 13 im), fX (T 14 im)])).set 3 (ad 3, xAQ (ca 5) 300 (gRow G 4 (T 11 im))) from rfl, List.getElem?_set_ne (Ne.symm e2), List.getElem?_set_ne (Ne.symm e1)] at hx
        exact hx
  · have hs9 : 0 ≤ s ∧ s < T 0 1 := hs9
    obtain ⟨a, b, c⟩ := h.2.2.1 s hs9
    refine ⟨(o _ (by omega) (by omega) (fun s hs => by omega)).trans a, (o _ (by omega) (by omega) (fun s hs => by omega)).trans b, ?_⟩
    rw [hk _ (by omega), hG.2.2 s hs9, gRdH_n h1]; rfl
  · have hk9 : 0 ≤ k ∧ k < T 11 im := hk9
    exact (o _ (by omega) (by omega) (fun s hs => by omega)).trans (h.2.2.2.1 k (by omega))
  · have hi : 0 ≤ i ∧ i < T 0 6 := hi
    exact (o _ (by omega) (by omega) (fun s hs => by omega)).trans (h.2.2.2.2.1 i hi)
  · obtain ⟨a, b, c, d, e, f⟩ := h.2.2.2.2.2 j hj
    exact ⟨(o _ (by omega) (by omega) (fun s hs => by omega)).trans a, (o _ (by omega) (by omega) (fun s hs => by omega)).trans b, (o _ (by omega) (by omega) (fun s hs => by omega)).trans c, (o _ (by omega) (by omega) (fun s hs => by omega)).trans d, (o _ (by omega) (by omega) (fun s hs => by omega)).trans e, (o _ (by omega) (by omega) (fun s hs => by omega)).trans f⟩

theorem k_X0_forgetFrom : xMV yX0_forgetFrom cX0_forgetFrom 4 none 1 := ⟨m_1244, m_1242, m_1243, m_96, ⟨by decide +kernel, by decide +kernel, by decide +kernel⟩⟩
abbrev r_c_X7_put_N : Room := { frames := 1, cells := 0, slots := 0, locals := 21 }
set_option maxHeartbeats 4000000 in
set_option maxRecDepth 100000 in
theorem c_X7_put_N (l : Launch) (D : va_G) (Zk : yK) (ca : Nat → ClassId) (w : yW) (P0 : fP) (P1 : fP) (P2 : fP) (P4 : fP) (as1 : Nat) (is1 : Nat) (ar1 : Nat) (ir1 : Nat) (PA : (Nat → Option Nat) → Prop) (PB : (Nat → Option Nat) → Prop) (v : Int) (fs1 : w is1 = some (as1, xO 7 [P0, P1, P2, fR ar1, P4])) (fr1 : w ir1 = some (ar1, xAQ (ca 5) 1000 PA)) (hPB : ∀ f : Nat → Option Nat, PA f → PB (va_up f v.toNat none)) (hn : is1 ≠ ir1) (hv : 0 ≤ v ∧ v ≤ 999) : yC l D Zk ca yX7_put cX7_put 3 none r_c_X7_put_N [.ref as1, .int (iI v), .null] w (fun r w1 => r = none ∧ w1 = (wu w ir1 (ar1, xAQ (ca 5) 1000 PB)) ∧ (True)) := by
  refine yC.of2 "WindWords$Ship" (by decide) rfl (Nat.le_of_ble_eq_true rfl) ?_
  intro p e s m args below meth c A ls Qf B hnm h hl hQ
  have hl : lv_has ls 3 [(0, .ref as1), (1, .int (iI v)), (2, .null)] := hl
  have h : yH D Zk A s ((wu w ir1 (ar1, xAQ (ca 5) 1000 PA))) s.heap [] := by rw [wu_same (show w ir1 = _ from fr1)]; exact h
  refine lv_iload_n B.1 B.2.1 dX7_put_0 rfl (lv_at hl 1 rfl) ?_
  refine x_sipush B (by decide) dX7_put_1 ?_
  refine y_cSN (host := "WindWords") B h k_X11_within (c_X11_within l D Zk ca _ v 999  (by omega) (by omega)) (by decide) rfl (by decide) hl.1 [] (Nat.le_of_ble_eq_true rfl) rfl dX7_put_4 (fun r w1 hq H locs h => ?_)
  obtain ⟨rfl, _, rfl, ⟨rfl, b1⟩ | ⟨rfl, b1⟩⟩ := hq
  · show W p l e r_c_X7_put_N s m args below meth c _ _ 0 0 Qf (F0 m 7 ls [.int (iI 1)])
    refine x_if_eq B (by omega) (tgt := 17) dX7_put_7 (by decide) (fun c2 => ?_) (fun c2 => ?_)
    · exact absurd c2 (by omega)
    · refine lv_aload_n B.1 B.2.1 dX7_put_10 rfl (lv_at hl 0 rfl) ?_
      refine y_getR B h kX7 is1 (wu_at fs1 (by omega)) 3 (b := ar1) rfl m_463 (by decide) dX7_put_11 ?_
      refine lv_iload_n B.1 B.2.1 dX7_put_14 rfl (lv_at hl 1 rfl) ?_
      refine lv_aload_nN B.1 B.2.1 dX7_put_15 rfl (lv_at hl 2 rfl) ?_
      refine y_qastN B h ir1 5 rfl wu_eq (by omega) (P' := PB) (hPB) dX7_put_16 (fun H locs h => ?_)
      rw [wu_wu] at h
      have h : yH D Zk A s ((wu w ir1 (ar1, xAQ (ca 5) 1000 PB))) _ _ := h
      refine y_rv B hQ h (by decide) dX7_put_17 ?_
      exact ⟨rfl, rfl, trivial⟩
  · exact absurd b1 (by omega)
abbrev r_c_X0_forgetFrom : Room := { frames := 2, cells := 0, slots := 0, locals := 43 }
set_option maxHeartbeats 4000000 in
set_option maxRecDepth 100000 in
theorem c_X0_forgetFrom (l : Launch) (D : va_G) (Zk : yK) (ca : Nat → ClassId) (T : Nat → Int → Int) (G : Nat → Int → Nat) (u : Int) (ad : Nat → Nat) (w : yW) (hC : CW ca T G u ad w) (fi : Int)  (hfb : 0 ≤ fi ∧ fi ≤ T 0 2) (hfi : xr fi) : yC l D Zk ca yX0_forgetFrom cX0_forgetFrom 4 none r_c_X0_forgetFrom [.ref (ad 1), .int (iI fi)] w (fun r w1 => r = none ∧ ∃ v : yW, GAP ca T G ad w fi (T 0 2) v ∧ w1 = wu v 1 (ad 1, xO 0 [fR (ad 2), fR (ad 3), fX (T 0 0), fG (-2147483648) 2147483647, fX (T 0 1), fX fi, fX (T 0 3), fX (T 0 4), fX (T 0 5)])) := by
  refine yC.of2 "WindWords$Fleet" (by decide) rfl (Nat.le_of_ble_eq_true rfl) ?_
  intro p e s m args below meth c A ls Qf B hnm h hl hQ
  have hl : lv_has ls 4 [(0, .ref (ad 1)), (1, .int (iI fi))] := hl
  have hs := pi_s (CW.pi hC)
  refine x_iconst B dX0_forgetFrom_0 ?_
  refine lv_iload_n B.1 B.2.1 dX0_forgetFrom_1 rfl (lv_at hl 1 rfl) ?_
  refine x_max B (by omega) m_1245 m_454 m_106 m_455 hl.1 (Nat.le_of_ble_eq_true rfl) (by decide) dX0_forgetFrom_2 ?_
  refine lv_istore_n (lv' := [(2, .int (iI (max 0 fi))), (0, .ref (ad 1)), (1, .int (iI fi))]) B.1 B.2.1 dX0_forgetFrom_5 rfl hl (by decide) rfl (fun ls hl => ?_)
  have loop6 : ∀ (n6 : Nat) (i : Int) (w9 : yW), (fi ≤ i ∧ i ≤ T 0 2) → (GAP ca T G ad w fi i w9) → ((T 0 2 - i : Int)).toNat < n6 → ∀ (H : Heap) (locs : List Loc) (ls : Array Slot), yH D Zk A s w9 H locs → lv_has ls 4 [(2, .int (iI i)), (0, .ref (ad 1)), (1, .int (iI fi))] → W p l e r_c_X0_forgetFrom s m args below meth c H locs 0 0 Qf (F0 m 6 ls []) := by
    intro n6
    induction n6 with
    | zero =>
      intro i w9 h0 hG hm6 H locs ls h hl
      exact absurd hm6 (Nat.not_lt_zero _)
    | succ n6 ih6 =>
      intro i w9 h0 hG hm6 H locs ls h hl
      refine lv_iload_n B.1 B.2.1 dX0_forgetFrom_6 rfl (lv_at hl 0 rfl) ?_
      refine lv_aload_n B.1 B.2.1 dX0_forgetFrom_7 rfl (lv_at hl 1 rfl) ?_
      refine y_getX B h kX0 1 ((hG.1 1 (by omega) (fun s9 hs9 => by omega)).trans (CW.f hC 1 _ rfl)) 5 (z := (T 0 2)) rfl m_145 (by decide) dX0_forgetFrom_8 ?_
      refine x_icmp_ge B (by omega) (tgt := 50) dX0_forgetFrom_11 (by decide) (fun c1 => ?_) (fun c1 => ?_)
      · refine lv_aload_n B.1 B.2.1 dX0_forgetFrom_50 rfl (lv_at hl 1 rfl) ?_
        refine lv_aload_n B.1 B.2.1 dX0_forgetFrom_51 rfl (lv_at hl 1 rfl) ?_
        refine y_getX B h kX0 1 ((hG.1 1 (by omega) (fun s9 hs9 => by omega)).trans (CW.f hC 1 _ rfl)) 5 (z := (T 0 2)) rfl m_145 (by decide) dX0_forgetFrom_52 ?_
        refine lv_iload_n B.1 B.2.1 dX0_forgetFrom_55 rfl (lv_at hl 2 rfl) ?_
        refine x_min B (by omega) m_1246 m_586 m_106 m_587 hl.1 (Nat.le_of_ble_eq_true rfl) (by decide) dX0_forgetFrom_56 ?_
        refine y_put B h kX0 1 ((hG.1 1 (by omega) (fun s9 hs9 => by omega)).trans (CW.f hC 1 _ rfl)) 5 (Nat.le_of_ble_eq_true rfl) (P' := fX (min (T 0 2) fi)) m_145 (by decide) rfl rfl rfl rfl dX0_forgetFrom_59 (fun H locs h => ?_)
        have h : yH D Zk A s ((wu w9 1 (ad 1, xO 0 [fR (ad 2), fR (ad 3), fX (T 0 0), fG (-2147483648) 2147483647, fX (T 0 1), fX (min (T 0 2) fi), fX (T 0 3), fX (T 0 4), fX (T 0 5)]))) _ _ := h
        have h := yH.weak (P' := xO 0 [fR (ad 2), fR (ad 3), fX (T 0 0), fG (-2147483648) 2147483647, fX (T 0 1), fX fi, fX (T 0 3), fX (T 0 4), fX (T 0 5)]) h wu_eq (xO_le (fLe_cons (fun _ x => x) (fLe_cons (fun _ x => x) (fLe_cons (fun _ x => x) (fLe_cons (fun _ x => x) (fLe_cons (fun _ x => x) (fLe_cons (fX_X (by omega)) (fLe_cons (fun _ x => x) (fLe_cons (fun _ x => x) (fLe_cons (fun _ x => x) fLe_nil))))))))))
        rw [wu_wu] at h
        have h : yH D Zk A s ((wu w9 1 (ad 1, xO 0 [fR (ad 2), fR (ad 3), fX (T 0 0), fG (-2147483648) 2147483647, fX (T 0 1), fX fi, fX (T 0 3), fX (T 0 4), fX (T 0 5)]))) _ _ := h
        refine y_rv B hQ h (by decide) dX0_forgetFrom_62 ?_
        exact ⟨rfl, w9, by rw [show T 0 2 = i by omega]; exact hG, rfl⟩
      · refine lv_aload_n B.1 B.2.1 dX0_forgetFrom_14 rfl (lv_at hl 1 rfl) ?_
        refine y_getR B h kX0 1 ((hG.1 1 (by omega) (fun s9 hs9 => by omega)).trans (CW.f hC 1 _ rfl)) 1 (b := ad 3) rfl m_135 (by decide) dX0_forgetFrom_15 ?_
        refine lv_iload_n B.1 B.2.1 dX0_forgetFrom_18 rfl (lv_at hl 0 rfl) ?_
        refine y_qald B h 3 5 rfl hG.2.1 (by omega) dX0_forgetFrom_19 (fun f3 hf2 => ?_)
        rw [hf2 (i) (by omega)]
        have fo4 := CW.rd hC i (by omega)
        show W p l e r_c_X0_forgetFrom s m args below meth c _ _ 0 0 Qf (F0 m 20 ls [.ref (G 4 i)])
        refine lv_astore_n (lv' := [(3, .ref (G 4 i)), (2, .int (iI i)), (0, .ref (ad 1)), (1, .int (iI fi))]) B.1 B.2.1 dX0_forgetFrom_20 rfl hl (by decide) rfl (fun ls hl => ?_)
        refine lv_aload_n B.1 B.2.1 dX0_forgetFrom_21 rfl (lv_at hl 0 rfl) ?_
        refine lv_ifnull B.1 B.2.1 dX0_forgetFrom_22 ?_
        refine lv_aload_n B.1 B.2.1 dX0_forgetFrom_25 rfl (lv_at hl 0 rfl) ?_
        refine y_getR B h kX4 (1000 + 16 * i.toNat + 4) ((hG.1 (1000 + 16 * i.toNat + 4) (by omega) (fun s9 hs9 => by omega)).trans fo4) 0 (b := G 1 (T 4 i)) rfl m_514 (by decide) dX0_forgetFrom_26 ?_
        have tb5 := pi_4 (CW.pi hC) i
        have pn6 := pi_in (CW.pi hC) i (by omega)
        have fo7 := CW.sh hC (T 4 i) (by omega)
        refine lv_aload_n B.1 B.2.1 dX0_forgetFrom_29 rfl (lv_at hl 0 rfl) ?_
        refine y_getX B h kX4 (1000 + 16 * i.toNat + 4) ((hG.1 (1000 + 16 * i.toNat + 4) (by omega) (fun s9 hs9 => by omega)).trans fo4) 1 (z := (T 5 i)) rfl m_518 (by decide) dX0_forgetFrom_30 ?_
        have tb8 := pi_5 (CW.pi hC) i
        refine lv_null B.1 B.2.1 dX0_forgetFrom_33 ?_
        refine y_cV B h kX7 (1000 + 16 * ((T 4 i)).toNat + 1) ((hG.1 (1000 + 16 * ((T 4 i)).toNat + 1) (by omega) (fun s9 hs9 => by omega)).trans fo7.1) k_X7_put rfl (c_X7_put_N l D Zk ca _ (fX (T 4 i)) (fX (T 1 (T 4 i))) (fR (G 2 (T 4 i))) (fX (T 2 (T 4 i))) (G 1 (T 4 i)) (1000 + 16 * ((T 4 i)).toNat + 1) (G 3 (T 4 i)) (1000 + 16 * ((T 4 i)).toNat + 3) (gRdH T G (T 0 2) fi i ((T 4 i))) (gRdH T G (T 0 2) fi (i + 1) (T 4 i)) ((T 5 i)) ((hG.1 (1000 + 16 * ((T 4 i)).toNat + 1) (by omega) (fun s9 hs9 => by omega)).trans fo7.1) (hG.2.2 ((T 4 i)) (by omega)) (gRdH_s (CW.pi hC) (by omega)) (by omega) (by omega)) m_561 rfl (by decide) hl.1 [] (Nat.le_of_ble_eq_true rfl) rfl dX0_forgetFrom_34 (fun r w1 hq H locs h => ?_)
        obtain ⟨rfl, rfl, hr9⟩ := hq
        have h : yH D Zk A s ((wu w9 (1000 + 16 * ((T 4 i)).toNat + 3) (G 3 (T 4 i), xAQ (ca 5) 1000 ((gRdH T G (T 0 2) fi (i + 1) (T 4 i)))))) _ _ := h
        show W p l e r_c_X0_forgetFrom s m args below meth c _ _ 0 0 Qf (F0 m 37 ls [])
        refine lv_aload_n B.1 B.2.1 dX0_forgetFrom_37 rfl (lv_at hl 2 rfl) ?_
        refine y_getR B h kX0 1 (wu_at ((hG.1 1 (by omega) (fun s9 hs9 => by omega)).trans (CW.f hC 1 _ rfl)) (by omega)) 1 (b := ad 3) rfl m_135 (by decide) dX0_forgetFrom_38 ?_
        refine lv_iload_n B.1 B.2.1 dX0_forgetFrom_41 rfl (lv_at hl 1 rfl) ?_
        refine lv_null B.1 B.2.1 dX0_forgetFrom_42 ?_
        refine y_qastN B h 3 5 rfl (wu_at hG.2.1 (by omega)) (by omega) (P' := gRowH G 4 (T 0 2) fi (i + 1)) (gRowH_s (by omega)) dX0_forgetFrom_43 (fun H locs h => ?_)
        have h : yH D Zk A s ((wu (wu w9 (1000 + 16 * ((T 4 i)).toNat + 3) (G 3 (T 4 i), xAQ (ca 5) 1000 ((gRdH T G (T 0 2) fi (i + 1) (T 4 i))))) 3 (ad 3, xAQ (ca 5) 300 (gRowH G 4 (T 0 2) fi (i + 1))))) _ _ := h
        refine lv_iinc (v := iI (i + 1)) (lv' := [(2, .int (iI (i + 1))), (3, .ref (G 4 i)), (0, .ref (ad 1)), (1, .int (iI fi))]) B.1 B.2.1 dX0_forgetFrom_44 hl (k := 1) rfl (iI_add _ _) (by decide) rfl (fun ls hl => ?_)
        refine lv_goto (tgt := 6) B.1 B.2.1 dX0_forgetFrom_47 (by decide) ?_
        exact ih6 ((i + 1)) ((wu (wu w9 (1000 + 16 * ((T 4 i)).toNat + 3) (G 3 (T 4 i), xAQ (ca 5) 1000 ((gRdH T G (T 0 2) fi (i + 1) (T 4 i))))) 3 (ad 3, xAQ (ca 5) 300 (gRowH G 4 (T 0 2) fi (i + 1))))) (by omega) (GAP.next hG (by omega)) (by omega) _ _ _ h (lv_sub hl [0, 2, 3] rfl)
  exact loop6 (((T 0 2 - ((max 0 fi)) : Int)).toNat + 1) ((max 0 fi)) w (by omega) (by rw [show max 0 fi = fi by omega]; exact GAP.first hC) (Nat.lt_succ_self _) _ _ _ h (lv_sub hl [0, 1, 2] rfl)
abbrev r_c_X11_back : Room := { frames := 3, cells := 0, slots := 0, locals := 66 }
set_option maxHeartbeats 4000000 in
set_option maxRecDepth 100000 in
theorem c_X11_back (l : Launch) (D : va_G) (Zk : yK) (ca : Nat → ClassId) (T : Nat → Int → Int) (G : Nat → Int → Nat) (u : Int) (ad : Nat → Nat) (w : yW) (hC : CW ca T G u ad w) (im : Int)  (him : xr im) : yC l D Zk ca yX11_back cX11_back 4 (some .int) r_c_X11_back [.ref (ad 0), .int (iI im)] w (fun r w1 => ∃ z : Int, r = some (.int (iI z)) ∧ ((((0 ≤ im ∧ im < T 0 6) ∧ T 11 im ≤ T 0 2) ∧ z = T 0 2 - T 11 im ∧ CW ca (tBack T im) G u ad w1 ∧ AGX w w1) ∨ (¬ ((0 ≤ im ∧ im < T 0 6) ∧ T 11 im ≤ T 0 2) ∧ z = -1 ∧ w1 = w))) := by
  refine yC.of2 "WindWords" (by decide) rfl (Nat.le_of_ble_eq_true rfl) ?_
  intro p e s m args below meth c A ls Qf B hnm h hl hQ
  have hl : lv_has ls 4 [(0, .ref (ad 0)), (1, .int (iI im))] := hl
  have hs := pi_s (CW.pi hC)
  refine lv_iload_n B.1 B.2.1 dX11_back_0 rfl (lv_at hl 1 rfl) ?_
  refine lv_aload_n B.1 B.2.1 dX11_back_1 rfl (lv_at hl 0 rfl) ?_
  refine y_getX B h kX11 0 (CW.f hC 0 _ rfl) 17 (z := (T 0 6)) rfl m_378 (by decide) dX11_back_2 ?_
  refine x_iconst B dX11_back_5 ?_
  refine x_isub B dX11_back_6 ?_
  refine y_cS B h k_X11_within (c_X11_within l D Zk ca _ im (((T 0 6) - 1))  (by omega) (by omega)) m_431 rfl (by decide) hl.1 [] (Nat.le_of_ble_eq_true rfl) rfl dX11_back_7 (fun r w1 hq H locs h => ?_)
  obtain ⟨rfl, _, rfl, ⟨rfl, b1⟩ | ⟨rfl, b1⟩⟩ := hq
  · show W p l e r_c_X11_back s m args below meth c _ _ 0 0 Qf (F0 m 10 ls [.int (iI 1)])
    refine x_if_eq B (by omega) (tgt := 22) dX11_back_10 (by decide) (fun c2 => ?_) (fun c2 => ?_)
    · exact absurd c2 (by omega)
    · refine lv_aload_n B.1 B.2.1 dX11_back_13 rfl (lv_at hl 0 rfl) ?_
      refine y_getR B h kX11 0 (CW.f hC 0 _ rfl) 8 (b := ad 28) rfl m_369 (by decide) dX11_back_14 ?_
      refine lv_iload_n B.1 B.2.1 dX11_back_17 rfl (lv_at hl 1 rfl) ?_
      refine y_qald B h 28 7 rfl (CW.f hC 28 _ rfl) (by omega) dX11_back_18 (fun f4 hf3 => ?_)
      rw [hf3 (im) (by omega)]
      have fo5 := CW.im hC im (by omega)
      show W p l e r_c_X11_back s m args below meth c _ _ 0 0 Qf (F0 m 19 ls [.ref (G 5 im)])
      refine lv_goto (tgt := 23) B.1 B.2.1 dX11_back_19 (by decide) ?_
      refine lv_astore_n (lv' := [(2, .ref (G 5 im)), (0, .ref (ad 0)), (1, .int (iI im))]) B.1 B.2.1 dX11_back_23 rfl hl (by decide) rfl (fun ls hl => ?_)
      refine lv_aload_n B.1 B.2.1 dX11_back_24 rfl (lv_at hl 0 rfl) ?_
      refine lv_ifnull B.1 B.2.1 dX11_back_25 ?_
      refine lv_aload_n B.1 B.2.1 dX11_back_28 rfl (lv_at hl 1 rfl) ?_
      refine y_getR B h kX11 0 (CW.f hC 0 _ rfl) 0 (b := ad 1) rfl m_361 (by decide) dX11_back_29 ?_
      refine y_getX B h kX0 1 (CW.f hC 1 _ rfl) 5 (z := (T 0 2)) rfl m_149 (by decide) dX11_back_32 ?_
      refine lv_aload_n B.1 B.2.1 dX11_back_35 rfl (lv_at hl 0 rfl) ?_
      refine y_getX B h kX2 (1000 + 16 * im.toNat + 5) fo5 0 (z := (T 11 im)) rfl m_1221 (by decide) dX11_back_36 ?_
      have tb6 := pi_11 (CW.pi hC) im
      refine x_icmp_ge B (by omega) (tgt := 49) dX11_back_39 (by decide) (fun c7 => ?_) (fun c7 => ?_)
      · refine lv_aload_n B.1 B.2.1 dX11_back_49 rfl (lv_at hl 1 rfl) ?_
        refine y_getR B h kX11 0 (CW.f hC 0 _ rfl) 0 (b := ad 1) rfl m_361 (by decide) dX11_back_50 ?_
        refine y_getX B h kX0 1 (CW.f hC 1 _ rfl) 5 (z := (T 0 2)) rfl m_149 (by decide) dX11_back_53 ?_
        refine lv_aload_n B.1 B.2.1 dX11_back_56 rfl (lv_at hl 0 rfl) ?_
        refine y_getX B h kX2 (1000 + 16 * im.toNat + 5) fo5 0 (z := (T 11 im)) rfl m_1221 (by decide) dX11_back_57 ?_
        refine x_isub B dX11_back_60 ?_
        refine lv_istore_n (lv' := [(3, .int (iI ((T 0 2) - (T 11 im)))), (2, .ref (G 5 im)), (0, .ref (ad 0)), (1, .int (iI im))]) B.1 B.2.1 dX11_back_61 rfl hl (by decide) rfl (fun ls hl => ?_)
        refine lv_aload_n B.1 B.2.1 dX11_back_62 rfl (lv_at hl 2 rfl) ?_
        refine y_getR B h kX11 0 (CW.f hC 0 _ rfl) 0 (b := ad 1) rfl m_361 (by decide) dX11_back_63 ?_
        refine lv_aload_n B.1 B.2.1 dX11_back_66 rfl (lv_at hl 1 rfl) ?_
        refine y_getX B h kX2 (1000 + 16 * im.toNat + 5) fo5 0 (z := (T 11 im)) rfl m_1221 (by decide) dX11_back_67 ?_
        refine y_cV B h kX0 1 (CW.f hC 1 _ rfl) k_X0_forgetFrom rfl (c_X0_forgetFrom l D Zk ca T G u ad _ hC ((T 11 im))  (by omega) (by omega)) m_1241 rfl (by decide) hl.1 [] (Nat.le_of_ble_eq_true rfl) rfl dX11_back_70 (fun r w1 hq H locs h => ?_)
        obtain ⟨rfl, w9, hG, rfl⟩ := hq
        have fo8 := CW.im hC im (by omega)
        have h : yH D Zk A s ((wu w9 1 (ad 1, xO 0 [fR (ad 2), fR (ad 3), fX (T 0 0), fG (-2147483648) 2147483647, fX (T 0 1), fX ((T 11 im)), fX (T 0 3), fX (T 0 4), fX (T 0 5)]))) _ _ := h
        show W p l e r_c_X11_back s m args below meth c _ _ 0 0 Qf (F0 m 73 ls [])
        refine lv_aload_n B.1 B.2.1 dX11_back_73 rfl (lv_at hl 2 rfl) ?_
        refine y_getR B h kX11 0 (wu_at ((hG.1 0 (by omega) (fun s9 hs9 => by omega)).trans (CW.f hC 0 _ rfl)) (by decide)) 0 (b := ad 1) rfl m_361 (by decide) dX11_back_74 ?_
        refine lv_aload_n B.1 B.2.1 dX11_back_77 rfl (lv_at hl 1 rfl) ?_
        refine y_getG B h kX2 (1000 + 16 * im.toNat + 5) (wu_at ((hG.1 (1000 + 16 * im.toNat + 5) (by omega) (fun s9 hs9 => by omega)).trans fo8) (by omega)) 1 (lo := (-2147483648)) (hi := 2147483647) rfl m_1223 (by decide) dX11_back_78 (fun z9 z9a z9b => ?_)
        refine y_putS B h kX0 1 wu_eq 3 (P := fG (-2147483648) 2147483647) rfl m_140 (by decide) ⟨_, rfl, by omega, by omega⟩ rfl rfl rfl dX11_back_81 (fun H locs h => ?_)
        refine lv_aload_n B.1 B.2.1 dX11_back_84 rfl (lv_at hl 2 rfl) ?_
        refine y_getR B h kX11 0 (wu_at ((hG.1 0 (by omega) (fun s9 hs9 => by omega)).trans (CW.f hC 0 _ rfl)) (by decide)) 0 (b := ad 1) rfl m_361 (by decide) dX11_back_85 ?_
        refine lv_aload_n B.1 B.2.1 dX11_back_88 rfl (lv_at hl 1 rfl) ?_
        refine y_getX B h kX2 (1000 + 16 * im.toNat + 5) (wu_at ((hG.1 (1000 + 16 * im.toNat + 5) (by omega) (fun s9 hs9 => by omega)).trans fo8) (by omega)) 2 (z := (T 13 im)) rfl m_1225 (by decide) dX11_back_89 ?_
        have tb10 := pi_13 (CW.pi hC) im
        refine y_put B h kX0 1 wu_eq 7 (Nat.le_of_ble_eq_true rfl) (P' := fX (T 13 im)) m_154 (by decide) rfl rfl rfl rfl dX11_back_92 (fun H locs h => ?_)
        rw [wu_wu] at h
        have h : yH D Zk A s ((wu w9 1 (ad 1, xO 0 [fR (ad 2), fR (ad 3), fX (T 0 0), fG (-2147483648) 2147483647, fX (T 0 1), fX ((T 11 im)), fX (T 0 3), fX (T 13 im), fX (T 0 5)]))) _ _ := h
        refine lv_aload_n B.1 B.2.1 dX11_back_95 rfl (lv_at hl 2 rfl) ?_
        refine y_getR B h kX11 0 (wu_at ((hG.1 0 (by omega) (fun s9 hs9 => by omega)).trans (CW.f hC 0 _ rfl)) (by decide)) 0 (b := ad 1) rfl m_361 (by decide) dX11_back_96 ?_
        refine lv_aload_n B.1 B.2.1 dX11_back_99 rfl (lv_at hl 1 rfl) ?_
        refine y_getX B h kX2 (1000 + 16 * im.toNat + 5) (wu_at ((hG.1 (1000 + 16 * im.toNat + 5) (by omega) (fun s9 hs9 => by omega)).trans fo8) (by omega)) 3 (z := (T 14 im)) rfl m_1227 (by decide) dX11_back_100 ?_
        have tb11 := pi_14 (CW.pi hC) im
        refine y_put B h kX0 1 wu_eq 8 (Nat.le_of_ble_eq_true rfl) (P' := fX (T 14 im)) m_158 (by decide) rfl rfl rfl rfl dX11_back_103 (fun H locs h => ?_)
        rw [wu_wu] at h
        have h : yH D Zk A s ((wu w9 1 (ad 1, xO 0 [fR (ad 2), fR (ad 3), fX (T 0 0), fG (-2147483648) 2147483647, fX (T 0 1), fX ((T 11 im)), fX (T 0 3), fX (T 13 im), fX (T 14 im)]))) _ _ := h
        refine lv_iload_n B.1 B.2.1 dX11_back_106 rfl (lv_at hl 0 rfl) ?_
        refine y_ri B hQ h (by decide) dX11_back_107 ?_
        exact ⟨_, rfl, Or.inl ⟨by omega, by omega, cw_back hC (by omega) hG (fun k k0 => by rw [wu_ne (by omega)]) wu_eq, fun k h1 h2 => by rw [wu_ne (by omega)]; exact hG.1 k (by omega) (fun s9 hs9 => by omega)⟩⟩
      · refine lv_aload_n B.1 B.2.1 dX11_back_42 rfl (lv_at hl 1 rfl) ?_
        refine x_iconst B dX11_back_43 ?_
        refine x_iconst B dX11_back_44 ?_
        refine y_cV B h kX11 0 (CW.f hC 0 _ rfl) k_X11_refuse rfl (c_X11_refuse l D Zk ca T G u ad _ hC 0 ((-1))  (by omega) (by omega)) m_423 rfl (by decide) hl.1 [] (Nat.le_of_ble_eq_true rfl) rfl dX11_back_45 (fun r w1 hq H locs h => ?_)
        obtain ⟨rfl, z12, rfl, hz12⟩ := hq
        show W p l e r_c_X11_back s m args below meth c _ _ 0 0 Qf (F0 m 48 ls [.int (iI z12)])
        refine y_ri B hQ h (by decide) dX11_back_48 ?_
        exact ⟨_, rfl, Or.inr ⟨by omega, by omega, rfl⟩⟩
  · show W p l e r_c_X11_back s m args below meth c _ _ 0 0 Qf (F0 m 10 ls [.int (iI 0)])
    refine x_if_eq B (by omega) (tgt := 22) dX11_back_10 (by decide) (fun c13 => ?_) (fun c13 => ?_)
    · refine lv_null B.1 B.2.1 dX11_back_22 ?_
      refine lv_astore_nN (lv' := [(2, .null), (0, .ref (ad 0)), (1, .int (iI im))]) B.1 B.2.1 dX11_back_23 rfl hl (by decide) rfl (fun ls hl => ?_)
      refine lv_aload_nN B.1 B.2.1 dX11_back_24 rfl (lv_at hl 0 rfl) ?_
      refine lv_ifnullN (tgt := 42) B.1 B.2.1 dX11_back_25 (by decide) ?_
      refine lv_aload_n B.1 B.2.1 dX11_back_42 rfl (lv_at hl 1 rfl) ?_
      refine x_iconst B dX11_back_43 ?_
      refine x_iconst B dX11_back_44 ?_
      refine y_cV B h kX11 0 (CW.f hC 0 _ rfl) k_X11_refuse rfl (c_X11_refuse l D Zk ca T G u ad _ hC 0 ((-1))  (by omega) (by omega)) m_423 rfl (by decide) hl.1 [] (Nat.le_of_ble_eq_true rfl) rfl dX11_back_45 (fun r w1 hq H locs h => ?_)
      obtain ⟨rfl, z14, rfl, hz14⟩ := hq
      show W p l e r_c_X11_back s m args below meth c _ _ 0 0 Qf (F0 m 48 ls [.int (iI z14)])
      refine y_ri B hQ h (by decide) dX11_back_48 ?_
      exact ⟨_, rfl, Or.inr ⟨by omega, by omega, rfl⟩⟩
    · exact absurd c13 (by omega)
