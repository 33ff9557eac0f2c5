/-- the class numbered ci: its name, fields, their types; its words are among the good ones -/
def xK1 (ci : Nat) (C : String) (T : u_T) (N : Nat) (ty : Nat → FieldType) : Prop :=
  vwCl[ci]? = some (C, T, N) ∧ (∀ w ∈ u_ws C T N, w ∈ AW) ∧ (∀ k, k < N → parseFieldDescriptor (T k).2.2.1 = some (ty k)) ∧ (∀ a, a < N → ∀ b, b < N → a ≠ b → (T a).2.1 ≠ (T b).2.1)
theorem xAWof {ws : List Cond} (h : ws.all (fun w => decide (w ∈ lw_tbl) && goodWord w) = true) : ∀ w ∈ ws, w ∈ AW := fun w hw => by
  have h1 := List.all_eq_true.mp h w hw
  simp only [Bool.and_eq_true, decide_eq_true_eq] at h1
  exact AW_of h1.1 h1.2
theorem kX0 : xK1 0 RX0 TX0 9 tyX0 := ⟨rfl, xAWof (by decide +kernel), tyX0_ok, nmX0⟩
theorem kX1 : xK1 1 RX1 TX1 2 tyX1 := ⟨rfl, xAWof (by decide +kernel), tyX1_ok, nmX1⟩
theorem kX2 : xK1 2 RX2 TX2 4 tyX2 := ⟨rfl, xAWof (by decide +kernel), tyX2_ok, nmX2⟩
theorem kX3 : xK1 3 RX3 TX3 1 tyX3 := ⟨rfl, xAWof (by decide +kernel), tyX3_ok, nmX3⟩
theorem kX4 : xK1 4 RX4 TX4 8 tyX4 := ⟨rfl, xAWof (by decide +kernel), tyX4_ok, nmX4⟩
theorem kX5 : xK1 5 RX5 TX5 7 tyX5 := ⟨rfl, xAWof (by decide +kernel), tyX5_ok, nmX5⟩
theorem kX6 : xK1 6 RX6 TX6 8 tyX6 := ⟨rfl, xAWof (by decide +kernel), tyX6_ok, nmX6⟩
theorem kX7 : xK1 7 RX7 TX7 5 tyX7 := ⟨rfl, xAWof (by decide +kernel), tyX7_ok, nmX7⟩
theorem kX8 : xK1 8 RX8 TX8 6 tyX8 := ⟨rfl, xAWof (by decide +kernel), tyX8_ok, nmX8⟩
theorem kX9 : xK1 9 RX9 TX9 8 tyX9 := ⟨rfl, xAWof (by decide +kernel), tyX9_ok, nmX9⟩
theorem kX10 : xK1 10 RX10 TX10 7 tyX10 := ⟨rfl, xAWof (by decide +kernel), tyX10_ok, nmX10⟩
theorem kX11 : xK1 11 RX11 TX11 19 tyX11 := ⟨rfl, xAWof (by decide +kernel), tyX11_ok, nmX11⟩
theorem kX12 : xK1 12 RX12 TX12 80 tyX12 := ⟨rfl, xAWof (by decide +kernel), tyX12_ok, nmX12⟩
