set_option maxRecDepth 100000 in
set_option maxHeartbeats 4000000 in
theorem kX6_names {G : xG} {B : Nat × Nat} {τ : Tau} {cs : List va_E} {a0 pa0 : Nat} (d : Nat) (hd : 0 ≤ d) (hW : WT G B τ cs) (ga0 : τ a0 = some (.inl (6, pa0)))  : X G yX6_names cX6_names 1 (some (.object "GraphScribe$Signs")) d [.ref (G.1 + a0)] cs (rO G τ cs (.inl (5, 0))) := by
  refine X.of false (by decide +kernel) (by decide) (Nat.le_of_ble_eq_true rfl) ?_
  show Z (RX6, cX6_names, 1, some (.object "GraphScribe$Signs"), false) G d _ 0 [(0, .ref (G.1 + a0))] [] cs
  have hP : ∀ b : Nat, rT τ b (.inl (5, 0)) → rO G τ cs (.inl (5, 0)) (some (.ref (G.1 + b))) cs := fun b h => ⟨rfl, b, rfl, h⟩
  refine z_aload_n dX6_names_0 rfl rfl ?_
  refine tw_getO hW ga0 (by decide) (by decide) rfl kX6 fX6_18 dX6_names_1 (fun b1 pb1 gb1 => ?_)
  have gb1 : oT τ b1 5 := ⟨_, gb1⟩
  exact z_areturn dX6_names_4 rfl (Or.inl ⟨_, rfl⟩) (hP _ gb1)

set_option maxRecDepth 100000 in
set_option maxHeartbeats 4000000 in
theorem kX6_values {G : xG} {B : Nat × Nat} {τ : Tau} {cs : List va_E} {a0 pa0 : Nat} (d : Nat) (hd : 0 ≤ d) (hW : WT G B τ cs) (ga0 : τ a0 = some (.inl (6, pa0)))  : X G yX6_values cX6_values 1 (some (.object "GraphScribe$Signs")) d [.ref (G.1 + a0)] cs (rO G τ cs (.inl (5, 0))) := by
  refine X.of false (by decide +kernel) (by decide) (Nat.le_of_ble_eq_true rfl) ?_
  show Z (RX6, cX6_values, 1, some (.object "GraphScribe$Signs"), false) G d _ 0 [(0, .ref (G.1 + a0))] [] cs
  have hP : ∀ b : Nat, rT τ b (.inl (5, 0)) → rO G τ cs (.inl (5, 0)) (some (.ref (G.1 + b))) cs := fun b h => ⟨rfl, b, rfl, h⟩
  refine z_aload_n dX6_values_0 rfl rfl ?_
  refine tw_getO hW ga0 (by decide) (by decide) rfl kX6 fX6_12 dX6_values_1 (fun b1 pb1 gb1 => ?_)
  have gb1 : oT τ b1 5 := ⟨_, gb1⟩
  exact z_areturn dX6_values_4 rfl (Or.inl ⟨_, rfl⟩) (hP _ gb1)

