set_option maxRecDepth 100000 in
set_option maxHeartbeats 4000000 in
theorem kX8_failure {G : xG} {B : Nat × Nat} {τ : Tau} {cs : List va_E} {a0 pa0 : Nat} (d : Nat) (hd : 1 ≤ d) (hW : WT G B τ cs) (ga0 : τ a0 = some (.inl (8, pa0)))  : X G yX8_failure cX8_failure 1 (some .int) d [.ref (G.1 + a0)] cs (rI cs (fun r => True)) := by
  refine X.of false (by decide +kernel) (by decide) (Nat.le_of_ble_eq_true rfl) ?_
  show Z (RX8, cX8_failure, 1, some .int, false) G d _ 0 [(0, .ref (G.1 + a0))] [] cs
  have hP : ∀ r : Int, rng r → (True) → rI cs (fun r => True) (some (.int (Int32.ofInt r))) cs := fun r h1 h2 => ⟨rfl, r, rfl, h1, h2⟩
  refine z_aload_n dX8_failure_0 rfl rfl ?_
  refine tw_getI hW ga0 (by decide) (by decide) rfl kX8 fX8_34 dX8_failure_1 (fun x1 _ vx1 gx1 => ?_)
  refine i_if_eq (tgt := 10) dX8_failure_4 (by decide) gx1 (fun h2 => ?_) (fun h2 => ?_)
  · refine z_aload_n dX8_failure_10 rfl rfl ?_
    refine tw_getO hW ga0 (by decide) (by decide) rfl kX8 fX8_46 dX8_failure_11 (fun b3 pb3 gb3 => ?_)
    have gb3 : oT τ b3 5 := ⟨_, gb3⟩
    have hX0 := kX5_hasOverflowed 0 (Nat.le_refl _) hW gb3 
    refine z_callV (As := []) eX5_hasOverflowed sX5_hasOverflowed lX8_56 rfl dX8_failure_14 (hW.os gb3).choose_spec hX0 (Nat.le_trans (by decide) hd) rfl (Nat.le_of_ble_eq_true rfl) (fun r cs1 hp => ?_)
    obtain ⟨hcs, r5, rfl, gr5, n4_0⟩ := hp
    obtain rfl := hcs.symm
    refine z_st (st' := [.int (Int32.ofInt r5)]) rfl ?_
    refine i_if_eq (tgt := 25) dX8_failure_17 (by decide) gr5 (fun h6 => ?_) (fun h6 => ?_)
    · refine z_iconst (v := Int32.ofInt 0) dX8_failure_25 rfl ?_
      exact z_ireturn dX8_failure_26 rfl rfl (hP _ (show rng 0 from ⟨by decide, by decide⟩) trivial)
    · refine z_bipush (v := Int32.ofInt (-4)) dX8_failure_20 (by decide) ?_
      refine z_goto (tgt := 26) dX8_failure_22 (by decide) ?_
      exact z_ireturn dX8_failure_26 rfl rfl (hP _ (show rng (-4) from ⟨by decide, by decide⟩) trivial)
  · refine z_bipush (v := Int32.ofInt (-3)) dX8_failure_7 (by decide) ?_
    exact z_ireturn dX8_failure_9 rfl rfl (hP _ (show rng (-3) from ⟨by decide, by decide⟩) trivial)

set_option maxRecDepth 100000 in
set_option maxHeartbeats 4000000 in
theorem kX6_names {G : xG} {B : Nat × Nat} {τ : Tau} {cs : List va_E} {a0 pa0 : Nat} (d : Nat) (hd : 0 ≤ d) (hW : WT G B τ cs) (ga0 : τ a0 = some (.inl (6, pa0)))  : X G yX6_names cX6_names 1 (some (.object "GraphScribe$Signs")) d [.ref (G.1 + a0)] cs (rO G τ cs (.inl (5, 0))) := by
  refine X.of false (by decide +kernel) (by decide) (Nat.le_of_ble_eq_true rfl) ?_
  show Z (RX6, cX6_names, 1, some (.object "GraphScribe$Signs"), false) G d _ 0 [(0, .ref (G.1 + a0))] [] cs
  have hP : ∀ b : Nat, rT τ b (.inl (5, 0)) → rO G τ cs (.inl (5, 0)) (some (.ref (G.1 + b))) cs := fun b h => ⟨rfl, b, rfl, h⟩
  refine z_aload_n dX6_names_0 rfl rfl ?_
  refine tw_getO hW ga0 (by decide) (by decide) rfl kX6 fX6_18 dX6_names_1 (fun b1 pb1 gb1 => ?_)
  have gb1 : oT τ b1 5 := ⟨_, gb1⟩
  exact z_areturn dX6_names_4 rfl (Or.inl ⟨_, rfl⟩) (hP _ gb1)

set_option maxRecDepth 100000 in
set_option maxHeartbeats 4000000 in
theorem kX6_values {G : xG} {B : Nat × Nat} {τ : Tau} {cs : List va_E} {a0 pa0 : Nat} (d : Nat) (hd : 0 ≤ d) (hW : WT G B τ cs) (ga0 : τ a0 = some (.inl (6, pa0)))  : X G yX6_values cX6_values 1 (some (.object "GraphScribe$Signs")) d [.ref (G.1 + a0)] cs (rO G τ cs (.inl (5, 0))) := by
  refine X.of false (by decide +kernel) (by decide) (Nat.le_of_ble_eq_true rfl) ?_
  show Z (RX6, cX6_values, 1, some (.object "GraphScribe$Signs"), false) G d _ 0 [(0, .ref (G.1 + a0))] [] cs
  have hP : ∀ b : Nat, rT τ b (.inl (5, 0)) → rO G τ cs (.inl (5, 0)) (some (.ref (G.1 + b))) cs := fun b h => ⟨rfl, b, rfl, h⟩
  refine z_aload_n dX6_values_0 rfl rfl ?_
  refine tw_getO hW ga0 (by decide) (by decide) rfl kX6 fX6_12 dX6_values_1 (fun b1 pb1 gb1 => ?_)
  have gb1 : oT τ b1 5 := ⟨_, gb1⟩
  exact z_areturn dX6_values_4 rfl (Or.inl ⟨_, rfl⟩) (hP _ gb1)
