set_option maxRecDepth 100000 in
set_option maxHeartbeats 4000000 in
theorem kX6_has {G : xG} {B : Nat × Nat} {τ : Tau} {cs : List va_E} {a0 pa0 : Nat} {l1 : Int} (d : Nat) (hd : 0 ≤ d) (hW : WT G B τ cs) (ga0 : τ a0 = some (.inl (6, pa0))) (gl1 : rng l1)  : X G yX6_has cX6_has 2 (some .boolean) d [.ref (G.1 + a0), .int (Int32.ofInt l1)] cs (rI cs (fun r => (iv 0 1 r) ∧ ((0 ≤ l1 ∧ l1 < fld cs a0 16 ∧ r = 1) ∨ (¬ (0 ≤ l1 ∧ l1 < fld cs a0 16) ∧ r = 0)) ∧ (iv 0 200 (fld cs a0 16)))) := by
  refine X.of false (by decide +kernel) (by decide) (Nat.le_of_ble_eq_true rfl) ?_
  show Z (RX6, cX6_has, 2, some .boolean, false) G d _ 0 [(0, .ref (G.1 + a0)), (1, .int (Int32.ofInt l1))] [] cs
  have hP : ∀ r : Int, rng r → ((iv 0 1 r) ∧ ((0 ≤ l1 ∧ l1 < fld cs a0 16 ∧ r = 1) ∨ (¬ (0 ≤ l1 ∧ l1 < fld cs a0 16) ∧ r = 0)) ∧ (iv 0 200 (fld cs a0 16))) → rI cs (fun r => (iv 0 1 r) ∧ ((0 ≤ l1 ∧ l1 < fld cs a0 16 ∧ r = 1) ∨ (¬ (0 ≤ l1 ∧ l1 < fld cs a0 16) ∧ r = 0)) ∧ (iv 0 200 (fld cs a0 16))) (some (.int (Int32.ofInt r))) cs := fun r h1 h2 => ⟨rfl, r, rfl, h1, h2⟩
  have hsz := hW.fiv (k := 16) ga0 (by decide) (by decide) rfl
  refine z_iload_n dX6_has_0 rfl rfl ?_
  refine i_if_lt (tgt := 16) dX6_has_1 (by decide) gl1 (fun h1 => ?_) (fun h1 => ?_)
  · refine z_iconst (v := Int32.ofInt 0) dX6_has_16 rfl ?_
    exact z_ireturn dX6_has_17 rfl (nar01 (b01 ⟨by decide, by decide⟩)) (hP _ (show rng 0 from ⟨by decide, by decide⟩) ⟨by omega, by omega, by omega⟩)
  · refine z_iload_n dX6_has_4 rfl rfl ?_
    refine z_aload_n dX6_has_5 rfl rfl ?_
    refine tw_getI hW ga0 (by decide) (by decide) rfl kX6 fX6_65 dX6_has_6 (fun x2 qx2 vx2 gx2 => ?_)
    refine i_icmp_ge (tgt := 16) dX6_has_9 (by decide) gl1 gx2 (fun h3 => ?_) (fun h3 => ?_)
    · refine z_iconst (v := Int32.ofInt 0) dX6_has_16 rfl ?_
      exact z_ireturn dX6_has_17 rfl (nar01 (b01 ⟨by decide, by decide⟩)) (hP _ (show rng 0 from ⟨by decide, by decide⟩) ⟨by omega, by omega, by omega⟩)
    · refine z_iconst (v := Int32.ofInt 1) dX6_has_12 rfl ?_
      refine z_goto (tgt := 17) dX6_has_13 (by decide) ?_
      exact z_ireturn dX6_has_17 rfl (nar01 (b01 ⟨by decide, by decide⟩)) (hP _ (show rng 1 from ⟨by decide, by decide⟩) ⟨by omega, by omega, by omega⟩)

