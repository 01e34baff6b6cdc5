set_option maxRecDepth 100000 in
set_option maxHeartbeats 4000000 in
theorem kX4_isClass {G : xG} {B : Nat × Nat} {τ : Tau} {cs : List va_E} {a0 pa0 : Nat} {l1 : Int} (d : Nat) (hd : 0 ≤ d) (hW : WT G B τ cs) (ga0 : τ a0 = some (.inl (4, pa0))) (gl1 : rng l1)  : X G yX4_isClass cX4_isClass 2 (some .boolean) d [.ref (G.1 + a0), .int (Int32.ofInt l1)] cs (rI cs (fun r => (iv 0 1 r) ∧ (r = 0 ∨ iv 0 5 l1))) := by
  refine X.of false (by decide +kernel) (by decide) (Nat.le_of_ble_eq_true rfl) ?_
  show Z (RX4, cX4_isClass, 2, some .boolean, false) G d _ 0 [(0, .ref (G.1 + a0)), (1, .int (Int32.ofInt l1))] [] cs
  have hP : ∀ r : Int, rng r → ((iv 0 1 r) ∧ (r = 0 ∨ iv 0 5 l1)) → rI cs (fun r => (iv 0 1 r) ∧ (r = 0 ∨ iv 0 5 l1)) (some (.int (Int32.ofInt r))) cs := fun r h1 h2 => ⟨rfl, r, rfl, h1, h2⟩
  refine z_iload_n dX4_isClass_0 rfl rfl ?_
  refine i_if_lt (tgt := 16) dX4_isClass_1 (by decide) gl1 (fun h1 => ?_) (fun h1 => ?_)
  · refine z_iconst (v := Int32.ofInt 0) dX4_isClass_16 rfl ?_
    exact z_ireturn dX4_isClass_17 rfl (nar01 (b01 ⟨by decide, by decide⟩)) (hP _ (show rng 0 from ⟨by decide, by decide⟩) ⟨by omega, by omega⟩)
  · refine z_iload_n dX4_isClass_4 rfl rfl ?_
    refine z_aload_n dX4_isClass_5 rfl rfl ?_
    refine tw_getI hW ga0 (by decide) (by decide) rfl kX4 fX4_38 dX4_isClass_6 (fun x2 _ vx2 gx2 => ?_)
    refine i_icmp_ge (tgt := 16) dX4_isClass_9 (by decide) gl1 gx2 (fun h3 => ?_) (fun h3 => ?_)
    · refine z_iconst (v := Int32.ofInt 0) dX4_isClass_16 rfl ?_
      exact z_ireturn dX4_isClass_17 rfl (nar01 (b01 ⟨by decide, by decide⟩)) (hP _ (show rng 0 from ⟨by decide, by decide⟩) ⟨by omega, by omega⟩)
    · refine z_iconst (v := Int32.ofInt 1) dX4_isClass_12 rfl ?_
      refine z_goto (tgt := 17) dX4_isClass_13 (by decide) ?_
      exact z_ireturn dX4_isClass_17 rfl (nar01 (b01 ⟨by decide, by decide⟩)) (hP _ (show rng 1 from ⟨by decide, by decide⟩) ⟨by omega, by omega⟩)

set_option maxRecDepth 100000 in
set_option maxHeartbeats 4000000 in
theorem kX4_implicit {G : xG} {B : Nat × Nat} {τ : Tau} {cs : List va_E} {a0 pa0 : Nat} {l1 : Int} (d : Nat) (hd : 1 ≤ d) (hW : WT G B τ cs) (ga0 : τ a0 = some (.inl (4, pa0))) (gl1 : rng l1)  : X G yX4_implicit cX4_implicit 2 (some .int) d [.ref (G.1 + a0), .int (Int32.ofInt l1)] cs (rI cs (fun r => True)) := by
  refine X.of false (by decide +kernel) (by decide) (Nat.le_of_ble_eq_true rfl) ?_
  show Z (RX4, cX4_implicit, 2, some .int, false) G d _ 0 [(0, .ref (G.1 + a0)), (1, .int (Int32.ofInt l1))] [] cs
  have hP : ∀ r : Int, rng r → (True) → rI cs (fun r => True) (some (.int (Int32.ofInt r))) cs := fun r h1 h2 => ⟨rfl, r, rfl, h1, h2⟩
  refine z_aload_n dX4_implicit_0 rfl rfl ?_
  refine z_iload_n dX4_implicit_1 rfl rfl ?_
  have hX0 := kX4_isClass 0 (Nat.le_refl _) hW ga0 gl1 
  refine z_callV (As := [_]) eX4_isClass sX4_isClass lX4_42 rfl dX4_implicit_2 (hW.ob ga0 (by decide)).choose_spec hX0 (Nat.le_trans (by decide) hd) rfl (Nat.le_of_ble_eq_true rfl) (fun r cs1 hp => ?_)
  obtain ⟨hcs, r2, rfl, gr2, ⟨n1_0, n1_1⟩⟩ := hp
  obtain rfl := hcs.symm
  refine z_st (st' := [.int (Int32.ofInt r2)]) rfl ?_
  refine i_if_eq (tgt := 17) dX4_implicit_5 (by decide) gr2 (fun h3 => ?_) (fun h3 => ?_)
  · refine z_iconst (v := Int32.ofInt (-1)) dX4_implicit_17 rfl ?_
    exact z_ireturn dX4_implicit_18 rfl rfl (hP _ (show rng (-1) from ⟨by decide, by decide⟩) trivial)
  · refine z_aload_n dX4_implicit_8 rfl rfl ?_
    refine tw_getA hW ga0 (by decide) (by decide) rfl kX4 fX4_29 dX4_implicit_9 (fun b4 _ gb4 => ?_)
    refine z_iload_n dX4_implicit_12 rfl rfl ?_
    refine tw_iald hW gb4 (by omega) (by omega) dX4_implicit_13 (fun x5 _ vx5 gx5 => ?_)
    refine z_goto (tgt := 18) dX4_implicit_14 (by decide) ?_
    exact z_ireturn dX4_implicit_18 rfl rfl (hP _ gx5 trivial)

set_option maxRecDepth 100000 in
set_option maxHeartbeats 4000000 in
theorem kX4_isField {G : xG} {B : Nat × Nat} {τ : Tau} {cs : List va_E} {a0 pa0 : Nat} {l1 : Int} {l2 : Int} (d : Nat) (hd : 0 ≤ d) (hW : WT G B τ cs) (ga0 : τ a0 = some (.inl (4, pa0))) (gl1 : rng l1) (gl2 : rng l2)  : X G yX4_isField cX4_isField 3 (some .boolean) d [.ref (G.1 + a0), .int (Int32.ofInt l1), .int (Int32.ofInt l2)] cs (rI cs (fun r => (iv 0 1 r) ∧ (r = 0 ∨ (iv 0 5 l1 ∧ iv 0 3 l2)))) := by
  refine X.of false (by decide +kernel) (by decide) (Nat.le_of_ble_eq_true rfl) ?_
  show Z (RX4, cX4_isField, 3, some .boolean, false) G d _ 0 [(0, .ref (G.1 + a0)), (1, .int (Int32.ofInt l1)), (2, .int (Int32.ofInt l2))] [] cs
  have hP : ∀ r : Int, rng r → ((iv 0 1 r) ∧ (r = 0 ∨ (iv 0 5 l1 ∧ iv 0 3 l2))) → rI cs (fun r => (iv 0 1 r) ∧ (r = 0 ∨ (iv 0 5 l1 ∧ iv 0 3 l2))) (some (.int (Int32.ofInt r))) cs := fun r h1 h2 => ⟨rfl, r, rfl, h1, h2⟩
  refine z_iload_n dX4_isField_0 rfl rfl ?_
  refine i_if_lt (tgt := 30) dX4_isField_1 (by decide) gl1 (fun h1 => ?_) (fun h1 => ?_)
  · refine z_iconst (v := Int32.ofInt 0) dX4_isField_30 rfl ?_
    exact z_ireturn dX4_isField_31 rfl (nar01 (b01 ⟨by decide, by decide⟩)) (hP _ (show rng 0 from ⟨by decide, by decide⟩) ⟨by omega, by omega⟩)
  · refine z_iload_n dX4_isField_4 rfl rfl ?_
    refine z_aload_n dX4_isField_5 rfl rfl ?_
    refine tw_getI hW ga0 (by decide) (by decide) rfl kX4 fX4_38 dX4_isField_6 (fun x2 _ vx2 gx2 => ?_)
    refine i_icmp_ge (tgt := 30) dX4_isField_9 (by decide) gl1 gx2 (fun h3 => ?_) (fun h3 => ?_)
    · refine z_iconst (v := Int32.ofInt 0) dX4_isField_30 rfl ?_
      exact z_ireturn dX4_isField_31 rfl (nar01 (b01 ⟨by decide, by decide⟩)) (hP _ (show rng 0 from ⟨by decide, by decide⟩) ⟨by omega, by omega⟩)
    · refine z_iload_n dX4_isField_12 rfl rfl ?_
      refine i_if_lt (tgt := 30) dX4_isField_13 (by decide) gl2 (fun h4 => ?_) (fun h4 => ?_)
      · refine z_iconst (v := Int32.ofInt 0) dX4_isField_30 rfl ?_
        exact z_ireturn dX4_isField_31 rfl (nar01 (b01 ⟨by decide, by decide⟩)) (hP _ (show rng 0 from ⟨by decide, by decide⟩) ⟨by omega, by omega⟩)
      · refine z_iload_n dX4_isField_16 rfl rfl ?_
        refine z_aload_n dX4_isField_17 rfl rfl ?_
        refine tw_getA hW ga0 (by decide) (by decide) rfl kX4 fX4_26 dX4_isField_18 (fun b5 _ gb5 => ?_)
        refine z_iload_n dX4_isField_21 rfl rfl ?_
        refine tw_iald hW gb5 (by omega) (by omega) dX4_isField_22 (fun x6 _ vx6 gx6 => ?_)
        refine i_icmp_ge (tgt := 30) dX4_isField_23 (by decide) gl2 gx6 (fun h7 => ?_) (fun h7 => ?_)
        · refine z_iconst (v := Int32.ofInt 0) dX4_isField_30 rfl ?_
          exact z_ireturn dX4_isField_31 rfl (nar01 (b01 ⟨by decide, by decide⟩)) (hP _ (show rng 0 from ⟨by decide, by decide⟩) ⟨by omega, by omega⟩)
        · refine z_iconst (v := Int32.ofInt 1) dX4_isField_26 rfl ?_
          refine z_goto (tgt := 31) dX4_isField_27 (by decide) ?_
          exact z_ireturn dX4_isField_31 rfl (nar01 (b01 ⟨by decide, by decide⟩)) (hP _ (show rng 1 from ⟨by decide, by decide⟩) ⟨by omega, by omega⟩)

