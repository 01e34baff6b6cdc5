set_option maxRecDepth 100000 in
set_option maxHeartbeats 4000000 in
theorem kX1_has {G : xG} {B : Nat × Nat} {τ : Tau} {cs : List va_E} {a0 pa0 : Nat} {l1 : Int} (d : Nat) (hd : 0 ≤ d) (hW : WT G B τ cs) (ga0 : τ a0 = some (.inl (1, pa0))) (gl1 : rng l1)  : X G yX1_has cX1_has 2 (some .boolean) d [.ref (G.1 + a0), .int (Int32.ofInt l1)] cs (rI cs (fun r => (iv 0 1 r) ∧ (r = 0 ∨ iv 0 29 l1))) := by
  refine X.of false (by decide +kernel) (by decide) (Nat.le_of_ble_eq_true rfl) ?_
  show Z (RX1, cX1_has, 2, some .boolean, false) G d _ 0 [(0, .ref (G.1 + a0)), (1, .int (Int32.ofInt l1))] [] cs
  have hP : ∀ r : Int, rng r → ((iv 0 1 r) ∧ (r = 0 ∨ iv 0 29 l1)) → rI cs (fun r => (iv 0 1 r) ∧ (r = 0 ∨ iv 0 29 l1)) (some (.int (Int32.ofInt r))) cs := fun r h1 h2 => ⟨rfl, r, rfl, h1, h2⟩
  refine z_iload_n dX1_has_0 rfl rfl ?_
  refine i_if_lt (tgt := 16) dX1_has_1 (by decide) gl1 (fun h1 => ?_) (fun h1 => ?_)
  · refine z_iconst (v := Int32.ofInt 0) dX1_has_16 rfl ?_
    exact z_ireturn dX1_has_17 rfl (nar01 (b01 ⟨by decide, by decide⟩)) (hP _ (show rng 0 from ⟨by decide, by decide⟩) ⟨by omega, by omega⟩)
  · refine z_iload_n dX1_has_4 rfl rfl ?_
    refine z_aload_n dX1_has_5 rfl rfl ?_
    refine tw_getI hW ga0 (by decide) (by decide) rfl kX1 fX1_21 dX1_has_6 (fun x2 _ vx2 gx2 => ?_)
    refine i_icmp_ge (tgt := 16) dX1_has_9 (by decide) gl1 gx2 (fun h3 => ?_) (fun h3 => ?_)
    · refine z_iconst (v := Int32.ofInt 0) dX1_has_16 rfl ?_
      exact z_ireturn dX1_has_17 rfl (nar01 (b01 ⟨by decide, by decide⟩)) (hP _ (show rng 0 from ⟨by decide, by decide⟩) ⟨by omega, by omega⟩)
    · refine z_iconst (v := Int32.ofInt 1) dX1_has_12 rfl ?_
      refine z_goto (tgt := 17) dX1_has_13 (by decide) ?_
      exact z_ireturn dX1_has_17 rfl (nar01 (b01 ⟨by decide, by decide⟩)) (hP _ (show rng 1 from ⟨by decide, by decide⟩) ⟨by omega, by omega⟩)

set_option maxRecDepth 100000 in
set_option maxHeartbeats 4000000 in
theorem kX1_classOf {G : xG} {B : Nat × Nat} {τ : Tau} {cs : List va_E} {a0 pa0 : Nat} {l1 : Int} (d : Nat) (hd : 1 ≤ d) (hW : WT G B τ cs) (ga0 : τ a0 = some (.inl (1, pa0))) (gl1 : rng l1)  : X G yX1_classOf cX1_classOf 2 (some .int) d [.ref (G.1 + a0), .int (Int32.ofInt l1)] cs (rI cs (fun r => True)) := by
  refine X.of false (by decide +kernel) (by decide) (Nat.le_of_ble_eq_true rfl) ?_
  show Z (RX1, cX1_classOf, 2, some .int, false) G d _ 0 [(0, .ref (G.1 + a0)), (1, .int (Int32.ofInt l1))] [] cs
  have hP : ∀ r : Int, rng r → (True) → rI cs (fun r => True) (some (.int (Int32.ofInt r))) cs := fun r h1 h2 => ⟨rfl, r, rfl, h1, h2⟩
  refine z_aload_n dX1_classOf_0 rfl rfl ?_
  refine z_iload_n dX1_classOf_1 rfl rfl ?_
  have hX0 := kX1_has 0 (Nat.le_refl _) hW ga0 gl1 
  refine z_callV (As := [_]) eX1_has sX1_has lX1_25 rfl dX1_classOf_2 (hW.ob ga0 (by decide)).choose_spec hX0 (Nat.le_trans (by decide) hd) rfl (Nat.le_of_ble_eq_true rfl) (fun r cs1 hp => ?_)
  obtain ⟨hcs, r2, rfl, gr2, ⟨n1_0, n1_1⟩⟩ := hp
  obtain rfl := hcs.symm
  refine z_st (st' := [.int (Int32.ofInt r2)]) rfl ?_
  refine i_if_eq (tgt := 17) dX1_classOf_5 (by decide) gr2 (fun h3 => ?_) (fun h3 => ?_)
  · refine z_iconst (v := Int32.ofInt (-1)) dX1_classOf_17 rfl ?_
    exact z_ireturn dX1_classOf_18 rfl rfl (hP _ (show rng (-1) from ⟨by decide, by decide⟩) trivial)
  · refine z_aload_n dX1_classOf_8 rfl rfl ?_
    refine tw_getA hW ga0 (by decide) (by decide) rfl kX1 fX1_9 dX1_classOf_9 (fun b4 _ gb4 => ?_)
    refine z_iload_n dX1_classOf_12 rfl rfl ?_
    refine tw_iald hW gb4 (by omega) (by omega) dX1_classOf_13 (fun x5 _ vx5 gx5 => ?_)
    refine z_goto (tgt := 18) dX1_classOf_14 (by decide) ?_
    exact z_ireturn dX1_classOf_18 rfl rfl (hP _ gx5 trivial)

set_option maxRecDepth 100000 in
set_option maxHeartbeats 4000000 in
theorem kX4_shape {G : xG} {B : Nat × Nat} {τ : Tau} {cs : List va_E} {a0 pa0 : Nat} {l1 : Int} {l2 : Int} (d : Nat) (hd : 1 ≤ d) (hW : WT G B τ cs) (ga0 : τ a0 = some (.inl (4, pa0))) (gl1 : rng l1) (gl2 : rng l2)  : X G yX4_shape cX4_shape 3 (some .int) d [.ref (G.1 + a0), .int (Int32.ofInt l1), .int (Int32.ofInt l2)] cs (rI cs (fun r => True)) := by
  refine X.of false (by decide +kernel) (by decide) (Nat.le_of_ble_eq_true rfl) ?_
  show Z (RX4, cX4_shape, 3, some .int, false) G d _ 0 [(0, .ref (G.1 + a0)), (1, .int (Int32.ofInt l1)), (2, .int (Int32.ofInt l2))] [] cs
  have hP : ∀ r : Int, rng r → (True) → rI cs (fun r => True) (some (.int (Int32.ofInt r))) cs := fun r h1 h2 => ⟨rfl, r, rfl, h1, h2⟩
  refine z_aload_n dX4_shape_0 rfl rfl ?_
  refine z_iload_n dX4_shape_1 rfl rfl ?_
  refine z_iload_n dX4_shape_2 rfl rfl ?_
  have hX0 := kX4_isField 0 (Nat.le_refl _) hW ga0 gl1 gl2 
  refine z_callV (As := [_, _]) eX4_isField sX4_isField lX4_46 rfl dX4_shape_3 (hW.ob ga0 (by decide)).choose_spec hX0 (Nat.le_trans (by decide) hd) rfl (Nat.le_of_ble_eq_true rfl) (fun r cs1 hp => ?_)
  obtain ⟨hcs, r2, rfl, gr2, ⟨n1_0, n1_1⟩⟩ := hp
  obtain rfl := hcs.symm
  refine z_st (st' := [.int (Int32.ofInt r2)]) rfl ?_
  refine i_if_eq (tgt := 22) dX4_shape_6 (by decide) gr2 (fun h3 => ?_) (fun h3 => ?_)
  · refine z_iconst (v := Int32.ofInt 0) dX4_shape_22 rfl ?_
    exact z_ireturn dX4_shape_23 rfl rfl (hP _ (show rng 0 from ⟨by decide, by decide⟩) trivial)
  · refine z_aload_n dX4_shape_9 rfl rfl ?_
    refine tw_getA hW ga0 (by decide) (by decide) rfl kX4 fX4_19 dX4_shape_10 (fun b4 _ gb4 => ?_)
    refine z_iload_n dX4_shape_13 rfl rfl ?_
    refine z_iconst (v := Int32.ofInt 4) dX4_shape_14 rfl ?_
    refine tw_imul dX4_shape_15 (fun z5 gz5 ez5 => ?_)
    first | have ez5 := ez5 ⟨by omega, by omega⟩ | clear ez5
    refine z_iload_n dX4_shape_16 rfl rfl ?_
    refine tw_iadd dX4_shape_17 (fun z6 gz6 ez6 => ?_)
    first | have ez6 := ez6 ⟨by omega, by omega⟩ | clear ez6
    refine tw_iald hW gb4 (by omega) (by omega) dX4_shape_18 (fun x7 _ vx7 gx7 => ?_)
    refine z_goto (tgt := 23) dX4_shape_19 (by decide) ?_
    exact z_ireturn dX4_shape_23 rfl rfl (hP _ gx7 trivial)

set_option maxRecDepth 100000 in
set_option maxHeartbeats 4000000 in
theorem kX10_shapeIn {G : xG} {B : Nat × Nat} {τ : Tau} {cs : List va_E} {a0 pa0 : Nat} {a1 pa1 : Nat} {l2 : Int} {l3 : Int} (d : Nat) (hd : 2 ≤ d) (hW : WT G B τ cs) (ga0 : τ a0 = some (.inl (10, pa0))) (ga1 : τ a1 = some (.inl (1, pa1))) (gl2 : rng l2) (gl3 : rng l3)  : X G yX10_shapeIn cX10_shapeIn 4 (some .int) d [.ref (G.1 + a0), .ref (G.1 + a1), .int (Int32.ofInt l2), .int (Int32.ofInt l3)] cs (rI cs (fun r => True)) := by
  refine X.of false (by decide +kernel) (by decide) (Nat.le_of_ble_eq_true rfl) ?_
  show Z (RX10, cX10_shapeIn, 4, some .int, false) G d _ 0 [(0, .ref (G.1 + a0)), (1, .ref (G.1 + a1)), (2, .int (Int32.ofInt l2)), (3, .int (Int32.ofInt l3))] [] cs
  have hP : ∀ r : Int, rng r → (True) → rI cs (fun r => True) (some (.int (Int32.ofInt r))) cs := fun r h1 h2 => ⟨rfl, r, rfl, h1, h2⟩
  refine z_aload_n dX10_shapeIn_0 rfl rfl ?_
  refine z_iload_n dX10_shapeIn_1 rfl rfl ?_
  have hX0 := kX1_has 0 (Nat.le_refl _) hW ga1 gl2 
  refine z_callV (As := [_]) eX1_has sX1_has lX10_94 rfl dX10_shapeIn_2 (hW.ob ga1 (by decide)).choose_spec hX0 (Nat.le_trans (by decide) hd) rfl (Nat.le_of_ble_eq_true rfl) (fun r cs1 hp => ?_)
  obtain ⟨hcs, r2, rfl, gr2, ⟨n1_0, n1_1⟩⟩ := hp
  obtain rfl := hcs.symm
  refine z_st (st' := [.int (Int32.ofInt r2)]) rfl ?_
  refine i_if_eq (tgt := 24) dX10_shapeIn_5 (by decide) gr2 (fun h3 => ?_) (fun h3 => ?_)
  · refine z_iconst (v := Int32.ofInt 0) dX10_shapeIn_24 rfl ?_
    exact z_ireturn dX10_shapeIn_25 rfl rfl (hP _ (show rng 0 from ⟨by decide, by decide⟩) trivial)
  · refine z_aload_n dX10_shapeIn_8 rfl rfl ?_
    refine tw_getO hW ga0 (by decide) (by decide) rfl kX10 fX10_32 dX10_shapeIn_9 (fun b4 pb4 gb4 => ?_)
    refine z_aload_n dX10_shapeIn_12 rfl rfl ?_
    refine z_iload_n dX10_shapeIn_13 rfl rfl ?_
    have hX0 := kX1_classOf 1 (Nat.le_refl _) hW ga1 gl2 
    refine z_callV (As := [_]) eX1_classOf sX1_classOf lX10_175 rfl dX10_shapeIn_14 (hW.ob ga1 (by decide)).choose_spec hX0 (Nat.le_trans (by decide) hd) rfl (Nat.le_of_ble_eq_true rfl) (fun r cs1 hp => ?_)
    obtain ⟨hcs, r6, rfl, gr6, _⟩ := hp
    obtain rfl := hcs.symm
    refine z_st (st' := [.int (Int32.ofInt r6), .ref (G.1 + b4)]) rfl ?_
    refine z_iload_n dX10_shapeIn_17 rfl rfl ?_
    have hX0 := kX4_shape 1 (Nat.le_refl _) hW gb4 gr6 gl3 
    refine z_callV (As := [_, _]) eX4_shape sX4_shape lX10_187 rfl dX10_shapeIn_18 (hW.ob gb4 (by decide)).choose_spec hX0 (Nat.le_trans (by decide) hd) rfl (Nat.le_of_ble_eq_true rfl) (fun r cs1 hp => ?_)
    obtain ⟨hcs, r8, rfl, gr8, _⟩ := hp
    obtain rfl := hcs.symm
    refine z_st (st' := [.int (Int32.ofInt r8)]) rfl ?_
    refine z_goto (tgt := 25) dX10_shapeIn_21 (by decide) ?_
    exact z_ireturn dX10_shapeIn_25 rfl rfl (hP _ gr8 trivial)

set_option maxRecDepth 100000 in
set_option maxHeartbeats 4000000 in
theorem kX1_hasField {G : xG} {B : Nat × Nat} {τ : Tau} {cs : List va_E} {a0 pa0 : Nat} {l1 : Int} {l2 : Int} (d : Nat) (hd : 0 ≤ d) (hW : WT G B τ cs) (ga0 : τ a0 = some (.inl (1, pa0))) (gl1 : rng l1) (gl2 : rng l2)  : X G yX1_hasField cX1_hasField 3 (some .boolean) d [.ref (G.1 + a0), .int (Int32.ofInt l1), .int (Int32.ofInt l2)] cs (rI cs (fun r => (iv 0 1 r) ∧ (r = 0 ∨ (iv 0 29 l1 ∧ iv 0 3 l2)))) := by
  refine X.of false (by decide +kernel) (by decide) (Nat.le_of_ble_eq_true rfl) ?_
  show Z (RX1, cX1_hasField, 3, some .boolean, false) G d _ 0 [(0, .ref (G.1 + a0)), (1, .int (Int32.ofInt l1)), (2, .int (Int32.ofInt l2))] [] cs
  have hP : ∀ r : Int, rng r → ((iv 0 1 r) ∧ (r = 0 ∨ (iv 0 29 l1 ∧ iv 0 3 l2))) → rI cs (fun r => (iv 0 1 r) ∧ (r = 0 ∨ (iv 0 29 l1 ∧ iv 0 3 l2))) (some (.int (Int32.ofInt r))) cs := fun r h1 h2 => ⟨rfl, r, rfl, h1, h2⟩
  refine z_iload_n dX1_hasField_0 rfl rfl ?_
  refine i_if_lt (tgt := 25) dX1_hasField_1 (by decide) gl1 (fun h1 => ?_) (fun h1 => ?_)
  · refine z_iconst (v := Int32.ofInt 0) dX1_hasField_25 rfl ?_
    exact z_ireturn dX1_hasField_26 rfl (nar01 (b01 ⟨by decide, by decide⟩)) (hP _ (show rng 0 from ⟨by decide, by decide⟩) ⟨by omega, by omega⟩)
  · refine z_iload_n dX1_hasField_4 rfl rfl ?_
    refine z_aload_n dX1_hasField_5 rfl rfl ?_
    refine tw_getI hW ga0 (by decide) (by decide) rfl kX1 fX1_21 dX1_hasField_6 (fun x2 _ vx2 gx2 => ?_)
    refine i_icmp_ge (tgt := 25) dX1_hasField_9 (by decide) gl1 gx2 (fun h3 => ?_) (fun h3 => ?_)
    · refine z_iconst (v := Int32.ofInt 0) dX1_hasField_25 rfl ?_
      exact z_ireturn dX1_hasField_26 rfl (nar01 (b01 ⟨by decide, by decide⟩)) (hP _ (show rng 0 from ⟨by decide, by decide⟩) ⟨by omega, by omega⟩)
    · refine z_iload_n dX1_hasField_12 rfl rfl ?_
      refine i_if_lt (tgt := 25) dX1_hasField_13 (by decide) gl2 (fun h4 => ?_) (fun h4 => ?_)
      · refine z_iconst (v := Int32.ofInt 0) dX1_hasField_25 rfl ?_
        exact z_ireturn dX1_hasField_26 rfl (nar01 (b01 ⟨by decide, by decide⟩)) (hP _ (show rng 0 from ⟨by decide, by decide⟩) ⟨by omega, by omega⟩)
      · refine z_iload_n dX1_hasField_16 rfl rfl ?_
        refine z_iconst (v := Int32.ofInt 4) dX1_hasField_17 rfl ?_
        refine i_icmp_ge (tgt := 25) dX1_hasField_18 (by decide) gl2 (show rng 4 from ⟨by decide, by decide⟩) (fun h5 => ?_) (fun h5 => ?_)
        · refine z_iconst (v := Int32.ofInt 0) dX1_hasField_25 rfl ?_
          exact z_ireturn dX1_hasField_26 rfl (nar01 (b01 ⟨by decide, by decide⟩)) (hP _ (show rng 0 from ⟨by decide, by decide⟩) ⟨by omega, by omega⟩)
        · refine z_iconst (v := Int32.ofInt 1) dX1_hasField_21 rfl ?_
          refine z_goto (tgt := 26) dX1_hasField_22 (by decide) ?_
          exact z_ireturn dX1_hasField_26 rfl (nar01 (b01 ⟨by decide, by decide⟩)) (hP _ (show rng 1 from ⟨by decide, by decide⟩) ⟨by omega, by omega⟩)

set_option maxRecDepth 100000 in
set_option maxHeartbeats 4000000 in
theorem kX1_head {G : xG} {B : Nat × Nat} {τ : Tau} {cs : List va_E} {a0 pa0 : Nat} {l1 : Int} {l2 : Int} (d : Nat) (hd : 1 ≤ d) (hW : WT G B τ cs) (ga0 : τ a0 = some (.inl (1, pa0))) (gl1 : rng l1) (gl2 : rng l2)  : X G yX1_head cX1_head 3 (some .int) d [.ref (G.1 + a0), .int (Int32.ofInt l1), .int (Int32.ofInt l2)] cs (rI cs (fun r => True)) := by
  refine X.of false (by decide +kernel) (by decide) (Nat.le_of_ble_eq_true rfl) ?_
  show Z (RX1, cX1_head, 3, some .int, false) G d _ 0 [(0, .ref (G.1 + a0)), (1, .int (Int32.ofInt l1)), (2, .int (Int32.ofInt l2))] [] cs
  have hP : ∀ r : Int, rng r → (True) → rI cs (fun r => True) (some (.int (Int32.ofInt r))) cs := fun r h1 h2 => ⟨rfl, r, rfl, h1, h2⟩
  refine z_aload_n dX1_head_0 rfl rfl ?_
  refine z_iload_n dX1_head_1 rfl rfl ?_
  refine z_iload_n dX1_head_2 rfl rfl ?_
  have hX0 := kX1_hasField 0 (Nat.le_refl _) hW ga0 gl1 gl2 
  refine z_callV (As := [_, _]) eX1_hasField sX1_hasField lX1_29 rfl dX1_head_3 (hW.ob ga0 (by decide)).choose_spec hX0 (Nat.le_trans (by decide) hd) rfl (Nat.le_of_ble_eq_true rfl) (fun r cs1 hp => ?_)
  obtain ⟨hcs, r2, rfl, gr2, ⟨n1_0, n1_1⟩⟩ := hp
  obtain rfl := hcs.symm
  refine z_st (st' := [.int (Int32.ofInt r2)]) rfl ?_
  refine i_if_eq (tgt := 22) dX1_head_6 (by decide) gr2 (fun h3 => ?_) (fun h3 => ?_)
  · refine z_iconst (v := Int32.ofInt 0) dX1_head_22 rfl ?_
    exact z_ireturn dX1_head_23 rfl rfl (hP _ (show rng 0 from ⟨by decide, by decide⟩) trivial)
  · refine z_aload_n dX1_head_9 rfl rfl ?_
    refine tw_getA hW ga0 (by decide) (by decide) rfl kX1 fX1_15 dX1_head_10 (fun b4 _ gb4 => ?_)
    refine z_iload_n dX1_head_13 rfl rfl ?_
    refine z_iconst (v := Int32.ofInt 4) dX1_head_14 rfl ?_
    refine tw_imul dX1_head_15 (fun z5 gz5 ez5 => ?_)
    first | have ez5 := ez5 ⟨by omega, by omega⟩ | clear ez5
    refine z_iload_n dX1_head_16 rfl rfl ?_
    refine tw_iadd dX1_head_17 (fun z6 gz6 ez6 => ?_)
    first | have ez6 := ez6 ⟨by omega, by omega⟩ | clear ez6
    refine tw_iald hW gb4 (by omega) (by omega) dX1_head_18 (fun x7 _ vx7 gx7 => ?_)
    refine z_goto (tgt := 23) dX1_head_19 (by decide) ?_
    exact z_ireturn dX1_head_23 rfl rfl (hP _ gx7 trivial)

set_option maxRecDepth 100000 in
set_option maxHeartbeats 4000000 in
theorem kX1_hasCell {G : xG} {B : Nat × Nat} {τ : Tau} {cs : List va_E} {a0 pa0 : Nat} {l1 : Int} {l2 : Int} {l3 : Int} (d : Nat) (hd : 0 ≤ d) (hW : WT G B τ cs) (ga0 : τ a0 = some (.inl (1, pa0))) (gl1 : rng l1) (gl2 : rng l2) (gl3 : rng l3)  : X G yX1_hasCell cX1_hasCell 4 (some .boolean) d [.ref (G.1 + a0), .int (Int32.ofInt l1), .int (Int32.ofInt l2), .int (Int32.ofInt l3)] cs (rI cs (fun r => (iv 0 1 r) ∧ (r = 0 ∨ (iv 0 29 l1 ∧ iv 0 3 l2 ∧ iv 0 19 l3)))) := by
  refine X.of false (by decide +kernel) (by decide) (Nat.le_of_ble_eq_true rfl) ?_
  show Z (RX1, cX1_hasCell, 4, some .boolean, false) G d _ 0 [(0, .ref (G.1 + a0)), (1, .int (Int32.ofInt l1)), (2, .int (Int32.ofInt l2)), (3, .int (Int32.ofInt l3))] [] cs
  have hP : ∀ r : Int, rng r → ((iv 0 1 r) ∧ (r = 0 ∨ (iv 0 29 l1 ∧ iv 0 3 l2 ∧ iv 0 19 l3))) → rI cs (fun r => (iv 0 1 r) ∧ (r = 0 ∨ (iv 0 29 l1 ∧ iv 0 3 l2 ∧ iv 0 19 l3))) (some (.int (Int32.ofInt r))) cs := fun r h1 h2 => ⟨rfl, r, rfl, h1, h2⟩
  refine z_iload_n dX1_hasCell_0 rfl rfl ?_
  refine i_if_lt (tgt := 49) dX1_hasCell_1 (by decide) gl1 (fun h1 => ?_) (fun h1 => ?_)
  · refine z_iconst (v := Int32.ofInt 0) dX1_hasCell_49 rfl ?_
    exact z_ireturn dX1_hasCell_50 rfl (nar01 (b01 ⟨by decide, by decide⟩)) (hP _ (show rng 0 from ⟨by decide, by decide⟩) ⟨by omega, by omega⟩)
  · refine z_iload_n dX1_hasCell_4 rfl rfl ?_
    refine z_aload_n dX1_hasCell_5 rfl rfl ?_
    refine tw_getI hW ga0 (by decide) (by decide) rfl kX1 fX1_21 dX1_hasCell_6 (fun x2 _ vx2 gx2 => ?_)
    refine i_icmp_ge (tgt := 49) dX1_hasCell_9 (by decide) gl1 gx2 (fun h3 => ?_) (fun h3 => ?_)
    · refine z_iconst (v := Int32.ofInt 0) dX1_hasCell_49 rfl ?_
      exact z_ireturn dX1_hasCell_50 rfl (nar01 (b01 ⟨by decide, by decide⟩)) (hP _ (show rng 0 from ⟨by decide, by decide⟩) ⟨by omega, by omega⟩)
    · refine z_iload_n dX1_hasCell_12 rfl rfl ?_
      refine i_if_lt (tgt := 49) dX1_hasCell_13 (by decide) gl2 (fun h4 => ?_) (fun h4 => ?_)
      · refine z_iconst (v := Int32.ofInt 0) dX1_hasCell_49 rfl ?_
        exact z_ireturn dX1_hasCell_50 rfl (nar01 (b01 ⟨by decide, by decide⟩)) (hP _ (show rng 0 from ⟨by decide, by decide⟩) ⟨by omega, by omega⟩)
      · refine z_iload_n dX1_hasCell_16 rfl rfl ?_
        refine z_iconst (v := Int32.ofInt 4) dX1_hasCell_17 rfl ?_
        refine i_icmp_ge (tgt := 49) dX1_hasCell_18 (by decide) gl2 (show rng 4 from ⟨by decide, by decide⟩) (fun h5 => ?_) (fun h5 => ?_)
        · refine z_iconst (v := Int32.ofInt 0) dX1_hasCell_49 rfl ?_
          exact z_ireturn dX1_hasCell_50 rfl (nar01 (b01 ⟨by decide, by decide⟩)) (hP _ (show rng 0 from ⟨by decide, by decide⟩) ⟨by omega, by omega⟩)
        · refine z_iload_n dX1_hasCell_21 rfl rfl ?_
          refine i_if_lt (tgt := 49) dX1_hasCell_22 (by decide) gl3 (fun h6 => ?_) (fun h6 => ?_)
          · refine z_iconst (v := Int32.ofInt 0) dX1_hasCell_49 rfl ?_
            exact z_ireturn dX1_hasCell_50 rfl (nar01 (b01 ⟨by decide, by decide⟩)) (hP _ (show rng 0 from ⟨by decide, by decide⟩) ⟨by omega, by omega⟩)
          · refine z_iload_n dX1_hasCell_25 rfl rfl ?_
            refine z_bipush (v := Int32.ofInt 20) dX1_hasCell_26 (by decide) ?_
            refine i_icmp_ge (tgt := 49) dX1_hasCell_28 (by decide) gl3 (show rng 20 from ⟨by decide, by decide⟩) (fun h7 => ?_) (fun h7 => ?_)
            · refine z_iconst (v := Int32.ofInt 0) dX1_hasCell_49 rfl ?_
              exact z_ireturn dX1_hasCell_50 rfl (nar01 (b01 ⟨by decide, by decide⟩)) (hP _ (show rng 0 from ⟨by decide, by decide⟩) ⟨by omega, by omega⟩)
            · refine z_iload_n dX1_hasCell_31 rfl rfl ?_
              refine z_aload_n dX1_hasCell_32 rfl rfl ?_
              refine tw_getA hW ga0 (by decide) (by decide) rfl kX1 fX1_15 dX1_hasCell_33 (fun b8 _ gb8 => ?_)
              refine z_iload_n dX1_hasCell_36 rfl rfl ?_
              refine z_iconst (v := Int32.ofInt 4) dX1_hasCell_37 rfl ?_
              refine tw_imul dX1_hasCell_38 (fun z9 gz9 ez9 => ?_)
              first | have ez9 := ez9 ⟨by omega, by omega⟩ | clear ez9
              refine z_iload_n dX1_hasCell_39 rfl rfl ?_
              refine tw_iadd dX1_hasCell_40 (fun z10 gz10 ez10 => ?_)
              first | have ez10 := ez10 ⟨by omega, by omega⟩ | clear ez10
              refine tw_iald hW gb8 (by omega) (by omega) dX1_hasCell_41 (fun x11 _ vx11 gx11 => ?_)
              refine i_icmp_ge (tgt := 49) dX1_hasCell_42 (by decide) gl3 gx11 (fun h12 => ?_) (fun h12 => ?_)
              · refine z_iconst (v := Int32.ofInt 0) dX1_hasCell_49 rfl ?_
                exact z_ireturn dX1_hasCell_50 rfl (nar01 (b01 ⟨by decide, by decide⟩)) (hP _ (show rng 0 from ⟨by decide, by decide⟩) ⟨by omega, by omega⟩)
              · refine z_iconst (v := Int32.ofInt 1) dX1_hasCell_45 rfl ?_
                refine z_goto (tgt := 50) dX1_hasCell_46 (by decide) ?_
                exact z_ireturn dX1_hasCell_50 rfl (nar01 (b01 ⟨by decide, by decide⟩)) (hP _ (show rng 1 from ⟨by decide, by decide⟩) ⟨by omega, by omega⟩)

set_option maxRecDepth 100000 in
set_option maxHeartbeats 4000000 in
theorem kX1_putCell {G : xG} {B : Nat × Nat} {τ : Tau} {cs : List va_E} {a0 pa0 : Nat} {l1 : Int} {l2 : Int} {l3 : Int} {l4 : Int} (d : Nat) (hd : 1 ≤ d) (hW : WT G B τ cs) (ga0 : τ a0 = some (.inl (1, pa0))) (gl1 : rng l1) (gl2 : rng l2) (gl3 : rng l3) (gl4 : rng l4)  : X G yX1_putCell cX1_putCell 5 none d [.ref (G.1 + a0), .int (Int32.ofInt l1), .int (Int32.ofInt l2), .int (Int32.ofInt l3), .int (Int32.ofInt l4)] cs (wN G B τ cs [1]) := by
  refine X.of false (by decide +kernel) (by decide) (Nat.le_of_ble_eq_true rfl) ?_
  show Z (RX1, cX1_putCell, 5, none, false) G d _ 0 [(0, .ref (G.1 + a0)), (1, .int (Int32.ofInt l1)), (2, .int (Int32.ofInt l2)), (3, .int (Int32.ofInt l3)), (4, .int (Int32.ofInt l4))] [] cs
  have hP : ∀ (τ1 : Tau) (c1 : List va_E), WT G B τ1 c1 → Fx [1] τ cs τ1 c1 → wN G B τ cs [1] none c1 := fun τ1 c1 h1 h2 => ⟨τ1, rfl, h1, h2⟩
  have hX : Fx [1] τ cs τ cs := Fx.rf
  skip
  refine z_aload_n dX1_putCell_0 rfl rfl ?_
  refine z_iload_n dX1_putCell_1 rfl rfl ?_
  refine z_iload_n dX1_putCell_2 rfl rfl ?_
  refine z_iload_n dX1_putCell_3 rfl rfl ?_
  have hX0 := kX1_hasCell 0 (Nat.le_refl _) hW ga0 gl1 gl2 gl3 
  refine z_callV (As := [_, _, _]) eX1_hasCell sX1_hasCell lX1_33 rfl dX1_putCell_4 (hW.ob ga0 (by decide)).choose_spec hX0 (Nat.le_trans (by decide) hd) rfl (Nat.le_of_ble_eq_true rfl) (fun r cs1 hp => ?_)
  obtain ⟨hcs, r2, rfl, gr2, ⟨n1_0, n1_1⟩⟩ := hp
  obtain rfl := hcs.symm
  refine z_st (st' := [.int (Int32.ofInt r2)]) rfl ?_
  refine i_if_eq (tgt := 27) dX1_putCell_7 (by decide) gr2 (fun h3 => ?_) (fun h3 => ?_)
  · exact z_return dX1_putCell_27 rfl (hP _ _ hW hX)
  · refine z_aload_n dX1_putCell_10 rfl rfl ?_
    refine tw_getA hW ga0 (by decide) (by decide) rfl kX1 fX1_18 dX1_putCell_11 (fun b4 _ gb4 => ?_)
    refine z_iload_n dX1_putCell_14 rfl rfl ?_
    refine z_iconst (v := Int32.ofInt 4) dX1_putCell_15 rfl ?_
    refine tw_imul dX1_putCell_16 (fun z5 gz5 ez5 => ?_)
    first | have ez5 := ez5 ⟨by omega, by omega⟩ | clear ez5
    refine z_iload_n dX1_putCell_17 rfl rfl ?_
    refine tw_iadd dX1_putCell_18 (fun z6 gz6 ez6 => ?_)
    first | have ez6 := ez6 ⟨by omega, by omega⟩ | clear ez6
    refine z_bipush (v := Int32.ofInt 20) dX1_putCell_19 (by decide) ?_
    refine tw_imul dX1_putCell_21 (fun z7 gz7 ez7 => ?_)
    first | have ez7 := ez7 ⟨by omega, by omega⟩ | clear ez7
    refine z_iload_n dX1_putCell_22 rfl rfl ?_
    refine tw_iadd dX1_putCell_23 (fun z8 gz8 ez8 => ?_)
    first | have ez8 := ez8 ⟨by omega, by omega⟩ | clear ez8
    refine z_iload dX1_putCell_24 rfl ?_
    refine tw_iast hW hX gb4 (by omega) (by omega) (any_okT (by decide) _) (Or.inr (show (1 : Nat) ∈ _ by decide)) dX1_putCell_26 (fun c1 q _ => nA hW gb4 (show (2147483648 : Int) ≠ 600 by decide) (show (2147483648 : Int) ≠ 601 by decide) c1 q) (fun cs hW hX _ _ => ?_)
    exact z_return dX1_putCell_27 rfl (hP _ _ hW hX)

set_option maxRecDepth 100000 in
set_option maxHeartbeats 4000000 in
theorem kX1_putHead {G : xG} {B : Nat × Nat} {τ : Tau} {cs : List va_E} {a0 pa0 : Nat} {l1 : Int} {l2 : Int} {l3 : Int} (d : Nat) (hd : 1 ≤ d) (hW : WT G B τ cs) (ga0 : τ a0 = some (.inl (1, pa0))) (gl1 : rng l1) (gl2 : rng l2) (gl3 : rng l3)  : X G yX1_putHead cX1_putHead 4 none d [.ref (G.1 + a0), .int (Int32.ofInt l1), .int (Int32.ofInt l2), .int (Int32.ofInt l3)] cs (wN G B τ cs [1]) := by
  refine X.of false (by decide +kernel) (by decide) (Nat.le_of_ble_eq_true rfl) ?_
  show Z (RX1, cX1_putHead, 4, none, false) G d _ 0 [(0, .ref (G.1 + a0)), (1, .int (Int32.ofInt l1)), (2, .int (Int32.ofInt l2)), (3, .int (Int32.ofInt l3))] [] cs
  have hP : ∀ (τ1 : Tau) (c1 : List va_E), WT G B τ1 c1 → Fx [1] τ cs τ1 c1 → wN G B τ cs [1] none c1 := fun τ1 c1 h1 h2 => ⟨τ1, rfl, h1, h2⟩
  have hX : Fx [1] τ cs τ cs := Fx.rf
  skip
  refine z_aload_n dX1_putHead_0 rfl rfl ?_
  refine z_iload_n dX1_putHead_1 rfl rfl ?_
  refine z_iload_n dX1_putHead_2 rfl rfl ?_
  have hX0 := kX1_hasField 0 (Nat.le_refl _) hW ga0 gl1 gl2 
  refine z_callV (As := [_, _]) eX1_hasField sX1_hasField lX1_29 rfl dX1_putHead_3 (hW.ob ga0 (by decide)).choose_spec hX0 (Nat.le_trans (by decide) hd) rfl (Nat.le_of_ble_eq_true rfl) (fun r cs1 hp => ?_)
  obtain ⟨hcs, r2, rfl, gr2, ⟨n1_0, n1_1⟩⟩ := hp
  obtain rfl := hcs.symm
  refine z_st (st' := [.int (Int32.ofInt r2)]) rfl ?_
  refine i_if_eq (tgt := 20) dX1_putHead_6 (by decide) gr2 (fun h3 => ?_) (fun h3 => ?_)
  · exact z_return dX1_putHead_20 rfl (hP _ _ hW hX)
  · refine z_aload_n dX1_putHead_9 rfl rfl ?_
    refine tw_getA hW ga0 (by decide) (by decide) rfl kX1 fX1_15 dX1_putHead_10 (fun b4 _ gb4 => ?_)
    refine z_iload_n dX1_putHead_13 rfl rfl ?_
    refine z_iconst (v := Int32.ofInt 4) dX1_putHead_14 rfl ?_
    refine tw_imul dX1_putHead_15 (fun z5 gz5 ez5 => ?_)
    first | have ez5 := ez5 ⟨by omega, by omega⟩ | clear ez5
    refine z_iload_n dX1_putHead_16 rfl rfl ?_
    refine tw_iadd dX1_putHead_17 (fun z6 gz6 ez6 => ?_)
    first | have ez6 := ez6 ⟨by omega, by omega⟩ | clear ez6
    refine z_iload_n dX1_putHead_18 rfl rfl ?_
    refine tw_iast hW hX gb4 (by omega) (by omega) (any_okT (by decide) _) (Or.inr (show (1 : Nat) ∈ _ by decide)) dX1_putHead_19 (fun c1 q _ => nA hW gb4 (show (2147483648 : Int) ≠ 600 by decide) (show (2147483648 : Int) ≠ 601 by decide) c1 q) (fun cs hW hX _ _ => ?_)
    exact z_return dX1_putHead_20 rfl (hP _ _ hW hX)

set_option maxRecDepth 100000 in
set_option maxHeartbeats 4000000 in
theorem kX1_append {G : xG} {B : Nat × Nat} {τ : Tau} {cs : List va_E} {a0 pa0 : Nat} {l1 : Int} {l2 : Int} {l3 : Int} (d : Nat) (hd : 2 ≤ d) (hW : WT G B τ cs) (ga0 : τ a0 = some (.inl (1, pa0))) (gl1 : rng l1) (gl2 : rng l2) (gl3 : rng l3)  : X G yX1_append cX1_append 5 (some .int) d [.ref (G.1 + a0), .int (Int32.ofInt l1), .int (Int32.ofInt l2), .int (Int32.ofInt l3)] cs (wI G B τ cs [1] (fun r => True)) := by
  refine X.of false (by decide +kernel) (by decide) (Nat.le_of_ble_eq_true rfl) ?_
  show Z (RX1, cX1_append, 5, some .int, false) G d _ 0 [(0, .ref (G.1 + a0)), (1, .int (Int32.ofInt l1)), (2, .int (Int32.ofInt l2)), (3, .int (Int32.ofInt l3))] [] cs
  have hP : ∀ (τ1 : Tau) (c1 : List va_E) (r : Int), WT G B τ1 c1 → Fx [1] τ cs τ1 c1 → rng r → (True) → wI G B τ cs [1] (fun r => True) (some (.int (Int32.ofInt r))) c1 := fun τ1 c1 r h1 h2 h3 h4 => ⟨τ1, r, rfl, h3, h1, h2, h4⟩
  have hX : Fx [1] τ cs τ cs := Fx.rf
  skip
  refine z_aload_n dX1_append_0 rfl rfl ?_
  refine z_iload_n dX1_append_1 rfl rfl ?_
  refine z_iload_n dX1_append_2 rfl rfl ?_
  have hX0 := kX1_head 1 (Nat.le_refl _) hW ga0 gl1 gl2 
  refine z_callV (As := [_, _]) eX1_head sX1_head lX1_37 rfl dX1_append_3 (hW.ob ga0 (by decide)).choose_spec hX0 (Nat.le_trans (by decide) hd) rfl (Nat.le_of_ble_eq_true rfl) (fun r cs1 hp => ?_)
  obtain ⟨hcs, r2, rfl, gr2, _⟩ := hp
  obtain rfl := hcs.symm
  refine z_st (st' := [.int (Int32.ofInt r2)]) rfl ?_
  refine z_istore dX1_append_6 (by decide) ?_
  refine z_loc (L' := [(0, .ref (G.1 + a0)), (1, .int (Int32.ofInt l1)), (2, .int (Int32.ofInt l2)), (3, .int (Int32.ofInt l3)), (4, .int (Int32.ofInt r2))]) (List.forall_mem_cons.mpr ⟨rfl, (List.forall_mem_cons.mpr ⟨rfl, (List.forall_mem_cons.mpr ⟨rfl, (List.forall_mem_cons.mpr ⟨rfl, (List.forall_mem_cons.mpr ⟨rfl, (fun _ h => nomatch h)⟩)⟩)⟩)⟩)⟩) ?_
  refine z_iload dX1_append_8 rfl ?_
  refine z_bipush (v := Int32.ofInt 8) dX1_append_10 (by decide) ?_
  refine i_icmp_lt (tgt := 17) dX1_append_12 (by decide) gr2 (show rng 8 from ⟨by decide, by decide⟩) (fun h3 => ?_) (fun h3 => ?_)
  · refine z_aload_n dX1_append_17 rfl rfl ?_
    refine z_iload_n dX1_append_18 rfl rfl ?_
    refine z_iload_n dX1_append_19 rfl rfl ?_
    refine z_iload dX1_append_20 rfl ?_
    refine z_iconst (v := Int32.ofInt 1) dX1_append_22 rfl ?_
    refine tw_iadd dX1_append_23 (fun z4 gz4 ez4 => ?_)
    first | have ez4 := ez4 ⟨by omega, by omega⟩ | clear ez4
    have hX0 := kX1_putHead 1 (Nat.le_refl _) hW ga0 gl1 gl2 gz4 
    refine z_callV (As := [_, _, _]) eX1_putHead sX1_putHead lX1_41 rfl dX1_append_24 (hW.ob ga0 (by decide)).choose_spec hX0 (Nat.le_trans (by decide) hd) rfl (Nat.le_of_ble_eq_true rfl) (fun r cs hp => ?_)
    obtain ⟨τ, rfl, hW, k7⟩ := hp
    have hX := hX.tr k7 (by decide)
    have ga0 := k7.1.e ga0 (by decide)
    clear hX0
    refine z_st (st' := []) rfl ?_
    refine z_aload_n dX1_append_27 rfl rfl ?_
    refine z_iload_n dX1_append_28 rfl rfl ?_
    refine z_iload_n dX1_append_29 rfl rfl ?_
    refine z_iload dX1_append_30 rfl ?_
    refine z_iload_n dX1_append_32 rfl rfl ?_
    have hX0 := kX1_putCell 1 (Nat.le_refl _) hW ga0 gl1 gl2 gr2 gl3 
    refine z_callV (As := [_, _, _, _]) eX1_putCell sX1_putCell lX1_45 rfl dX1_append_33 (hW.ob ga0 (by decide)).choose_spec hX0 (Nat.le_trans (by decide) hd) rfl (Nat.le_of_ble_eq_true rfl) (fun r cs hp => ?_)
    obtain ⟨τ, rfl, hW, k10⟩ := hp
    have hX := hX.tr k10 (by decide)
    have ga0 := k10.1.e ga0 (by decide)
    clear hX0
    refine z_st (st' := []) rfl ?_
    refine z_iload dX1_append_36 rfl ?_
    refine z_iconst (v := Int32.ofInt 1) dX1_append_38 rfl ?_
    refine tw_iadd dX1_append_39 (fun z11 gz11 ez11 => ?_)
    first | have ez11 := ez11 ⟨by omega, by omega⟩ | clear ez11
    exact z_ireturn dX1_append_40 rfl rfl (hP _ _ _ hW hX gz11 trivial)
  · refine z_iconst (v := Int32.ofInt (-1)) dX1_append_15 rfl ?_
    exact z_ireturn dX1_append_16 rfl rfl (hP _ _ _ hW hX (show rng (-1) from ⟨by decide, by decide⟩) trivial)

set_option maxRecDepth 100000 in
set_option maxHeartbeats 4000000 in
theorem kX1_clear {G : xG} {B : Nat × Nat} {τ : Tau} {cs : List va_E} {a0 pa0 : Nat} (d : Nat) (hd : 0 ≤ d) (hW : WT G B τ cs) (ga0 : τ a0 = some (.inl (1, pa0)))  : X G yX1_clear cX1_clear 1 none d [.ref (G.1 + a0)] cs (wN G B τ cs [1]) := by
  refine X.of false (by decide +kernel) (by decide) (Nat.le_of_ble_eq_true rfl) ?_
  show Z (RX1, cX1_clear, 1, none, false) G d _ 0 [(0, .ref (G.1 + a0))] [] cs
  have hP : ∀ (τ1 : Tau) (c1 : List va_E), WT G B τ1 c1 → Fx [1] τ cs τ1 c1 → wN G B τ cs [1] none c1 := fun τ1 c1 h1 h2 => ⟨τ1, rfl, h1, h2⟩
  have hX : Fx [1] τ cs τ cs := Fx.rf
  skip
  refine z_aload_n dX1_clear_0 rfl rfl ?_
  refine z_iconst (v := Int32.ofInt 0) dX1_clear_1 rfl ?_
  refine tw_putI hW hX ga0 (by decide) (by decide) rfl kX1 fX1_21 dX1_clear_2 rfl rfl rfl (iv_ok (by omega) (by decide) (by decide)) (by decide) (fun c1 q _ _ => nT hW ga0 (by decide) c1 q) (fun cs hW hX _ _ _ => ?_)
  exact z_return dX1_clear_5 rfl (hP _ _ hW hX)

set_option maxRecDepth 100000 in
set_option maxHeartbeats 4000000 in
theorem kX4_size {G : xG} {B : Nat × Nat} {τ : Tau} {cs : List va_E} {a0 pa0 : Nat} (d : Nat) (hd : 0 ≤ d) (hW : WT G B τ cs) (ga0 : τ a0 = some (.inl (4, pa0)))  : X G yX4_size cX4_size 1 (some .int) d [.ref (G.1 + a0)] cs (rI cs (fun r => (iv 0 6 r))) := by
  refine X.of false (by decide +kernel) (by decide) (Nat.le_of_ble_eq_true rfl) ?_
  show Z (RX4, cX4_size, 1, some .int, false) G d _ 0 [(0, .ref (G.1 + a0))] [] cs
  have hP : ∀ r : Int, rng r → ((iv 0 6 r)) → rI cs (fun r => (iv 0 6 r)) (some (.int (Int32.ofInt r))) cs := fun r h1 h2 => ⟨rfl, r, rfl, h1, h2⟩
  refine z_aload_n dX4_size_0 rfl rfl ?_
  refine tw_getI hW ga0 (by decide) (by decide) rfl kX4 fX4_38 dX4_size_1 (fun x1 _ vx1 gx1 => ?_)
  exact z_ireturn dX4_size_4 rfl rfl (hP _ gx1 (by omega))

set_option maxRecDepth 100000 in
set_option maxHeartbeats 4000000 in
theorem kX1_size {G : xG} {B : Nat × Nat} {τ : Tau} {cs : List va_E} {a0 pa0 : Nat} (d : Nat) (hd : 0 ≤ d) (hW : WT G B τ cs) (ga0 : τ a0 = some (.inl (1, pa0)))  : X G yX1_size cX1_size 1 (some .int) d [.ref (G.1 + a0)] cs (rI cs (fun r => (iv 0 30 r))) := by
  refine X.of false (by decide +kernel) (by decide) (Nat.le_of_ble_eq_true rfl) ?_
  show Z (RX1, cX1_size, 1, some .int, false) G d _ 0 [(0, .ref (G.1 + a0))] [] cs
  have hP : ∀ r : Int, rng r → ((iv 0 30 r)) → rI cs (fun r => (iv 0 30 r)) (some (.int (Int32.ofInt r))) cs := fun r h1 h2 => ⟨rfl, r, rfl, h1, h2⟩
  refine z_aload_n dX1_size_0 rfl rfl ?_
  refine tw_getI hW ga0 (by decide) (by decide) rfl kX1 fX1_21 dX1_size_1 (fun x1 _ vx1 gx1 => ?_)
  exact z_ireturn dX1_size_4 rfl rfl (hP _ gx1 (by omega))

set_option maxRecDepth 100000 in
set_option maxHeartbeats 4000000 in
theorem bX4_forbiddenSize_24 {G : xG} {d : Nat} {Post : xP} {B : Nat × Nat} {τ : Tau} {cs : List va_E} {a0 pa0 : Nat} {l1 : Int} {l2 : Int} {n4 : Nat} (hd : 0 ≤ d) (hW : WT G B τ cs) (ga0 : τ a0 = some (.inl (4, pa0))) (gl1 : rng l1) (gl2 : rng l2) (i0 : 1 ≤ 6 - l2) (i1 : 0 ≤ l2) (hm_4 : (6 - l2).toNat < n4 + 1) (hP : ∀ r : Int, rng r → (True) → Post (some (.int (Int32.ofInt r))) cs) (ih_4 : ∀ {a0 pa0 : Nat} {l1 : Int} {l2 : Int} (hW : WT G B τ cs) (ga0 : τ a0 = some (.inl (4, pa0))) (gl1 : rng l1) (gl2 : rng l2) (i0 : 0 ≤ l2) , (6 - l2).toNat < n4 → Z (RX4, cX4_forbiddenSize, 3, some .int, false) G d Post 4 [(0, .ref (G.1 + a0)), (1, .int (Int32.ofInt l1)), (2, .int (Int32.ofInt l2))] [] cs) : Z (RX4, cX4_forbiddenSize, 3, some .int, false) G d Post 24 [(0, .ref (G.1 + a0)), (1, .int (Int32.ofInt l1)), (2, .int (Int32.ofInt l2))] [] cs := by
  refine tw_iinc (l := l2) dX4_forbiddenSize_24 rfl (by decide) (fun z1 gz1 ez1 => ?_)
  first | have ez1 := ez1 ⟨by omega, by omega⟩ | clear ez1
  refine z_loc (L' := [(0, .ref (G.1 + a0)), (1, .int (Int32.ofInt l1)), (2, .int (Int32.ofInt z1))]) (List.forall_mem_cons.mpr ⟨rfl, (List.forall_mem_cons.mpr ⟨rfl, (List.forall_mem_cons.mpr ⟨rfl, (fun _ h => nomatch h)⟩)⟩)⟩) ?_
  refine z_goto (tgt := 4) dX4_forbiddenSize_27 (by decide) ?_
  refine z_loc (L' := [(0, .ref (G.1 + a0)), (1, .int (Int32.ofInt l1)), (2, .int (Int32.ofInt z1))]) (List.forall_mem_cons.mpr ⟨rfl, (List.forall_mem_cons.mpr ⟨rfl, (List.forall_mem_cons.mpr ⟨rfl, (fun _ h => nomatch h)⟩)⟩)⟩) ?_
  exact ih_4 hW ga0 gl1 gz1 (by omega)  (by omega)
set_option maxRecDepth 100000 in
set_option maxHeartbeats 4000000 in
theorem eX4_forbiddenSize_4 {G : xG} {d : Nat} {Post : xP} {B : Nat × Nat} {τ : Tau} {cs : List va_E} {a0 pa0 : Nat} {l1 : Int} {l2 : Int} {n4 : Nat} (hd : 0 ≤ d) (hW : WT G B τ cs) (ga0 : τ a0 = some (.inl (4, pa0))) (gl1 : rng l1) (gl2 : rng l2) (i0 : 0 ≤ l2)  (hP : ∀ r : Int, rng r → (True) → Post (some (.int (Int32.ofInt r))) cs)  (ih_4 : ∀ {a0 pa0 : Nat} {l1 : Int} {l2 : Int} (hW : WT G B τ cs) (ga0 : τ a0 = some (.inl (4, pa0))) (gl1 : rng l1) (gl2 : rng l2) (i0 : 0 ≤ l2) , (6 - l2).toNat < n4 → Z (RX4, cX4_forbiddenSize, 3, some .int, false) G d Post 4 [(0, .ref (G.1 + a0)), (1, .int (Int32.ofInt l1)), (2, .int (Int32.ofInt l2))] [] cs) (hm_4 : (6 - l2).toNat < n4 + 1) : Z (RX4, cX4_forbiddenSize, 3, some .int, false) G d Post 4 [(0, .ref (G.1 + a0)), (1, .int (Int32.ofInt l1)), (2, .int (Int32.ofInt l2))] [] cs := by
  refine z_iload_n dX4_forbiddenSize_4 rfl rfl ?_
  refine z_aload_n dX4_forbiddenSize_5 rfl rfl ?_
  refine tw_getI hW ga0 (by decide) (by decide) rfl kX4 fX4_38 dX4_forbiddenSize_6 (fun x1 _ vx1 gx1 => ?_)
  refine i_icmp_ge (tgt := 30) dX4_forbiddenSize_9 (by decide) gl2 gx1 (fun h2 => ?_) (fun h2 => ?_)
  · refine z_iload_n dX4_forbiddenSize_30 rfl rfl ?_
    exact z_ireturn dX4_forbiddenSize_31 rfl rfl (hP _ gl1 trivial)
  · refine z_aload_n dX4_forbiddenSize_12 rfl rfl ?_
    refine tw_getA hW ga0 (by decide) (by decide) rfl kX4 fX4_35 dX4_forbiddenSize_13 (fun b3 _ gb3 => ?_)
    refine z_iload_n dX4_forbiddenSize_16 rfl rfl ?_
    refine tw_zald hW gb3 (by omega) (by omega) dX4_forbiddenSize_17 (fun x4 _ vx4 gx4 => ?_)
    refine i_if_eq (tgt := 24) dX4_forbiddenSize_18 (by decide) gx4 (fun h5 => ?_) (fun h5 => ?_)
    · refine z_loc (L' := [(0, .ref (G.1 + a0)), (1, .int (Int32.ofInt l1)), (2, .int (Int32.ofInt l2))]) (List.forall_mem_cons.mpr ⟨rfl, (List.forall_mem_cons.mpr ⟨rfl, (List.forall_mem_cons.mpr ⟨rfl, (fun _ h => nomatch h)⟩)⟩)⟩) ?_
      exact bX4_forbiddenSize_24 hd hW ga0 gl1 gl2 (by omega) (by omega) (by omega) hP ih_4
    · refine tw_iinc (l := l1) dX4_forbiddenSize_21 rfl (by decide) (fun z6 gz6 ez6 => ?_)
      first | have ez6 := ez6 ⟨by omega, by omega⟩ | clear ez6
      refine z_loc (L' := [(0, .ref (G.1 + a0)), (1, .int (Int32.ofInt z6)), (2, .int (Int32.ofInt l2))]) (List.forall_mem_cons.mpr ⟨rfl, (List.forall_mem_cons.mpr ⟨rfl, (List.forall_mem_cons.mpr ⟨rfl, (fun _ h => nomatch h)⟩)⟩)⟩) ?_
      refine z_loc (L' := [(0, .ref (G.1 + a0)), (1, .int (Int32.ofInt z6)), (2, .int (Int32.ofInt l2))]) (List.forall_mem_cons.mpr ⟨rfl, (List.forall_mem_cons.mpr ⟨rfl, (List.forall_mem_cons.mpr ⟨rfl, (fun _ h => nomatch h)⟩)⟩)⟩) ?_
      exact bX4_forbiddenSize_24 hd hW ga0 gz6 gl2 (by omega) (by omega) (by omega) hP ih_4
set_option maxRecDepth 100000 in
set_option maxHeartbeats 4000000 in
theorem bX4_forbiddenSize_4 {G : xG} {d : Nat} {Post : xP} {B : Nat × Nat} {τ : Tau} {cs : List va_E} {a0 pa0 : Nat} {l1 : Int} {l2 : Int} (hd : 0 ≤ d) (hW : WT G B τ cs) (ga0 : τ a0 = some (.inl (4, pa0))) (gl1 : rng l1) (gl2 : rng l2) (i0 : 0 ≤ l2)  (hP : ∀ r : Int, rng r → (True) → Post (some (.int (Int32.ofInt r))) cs)  : Z (RX4, cX4_forbiddenSize, 3, some .int, false) G d Post 4 [(0, .ref (G.1 + a0)), (1, .int (Int32.ofInt l1)), (2, .int (Int32.ofInt l2))] [] cs := by
  have key : ∀ (n : Nat) (a0 pa0 : Nat) (l1 : Int) (l2 : Int) (hW : WT G B τ cs) (ga0 : τ a0 = some (.inl (4, pa0))) (gl1 : rng l1) (gl2 : rng l2) (i0 : 0 ≤ l2) , (6 - l2).toNat < n → Z (RX4, cX4_forbiddenSize, 3, some .int, false) G d Post 4 [(0, .ref (G.1 + a0)), (1, .int (Int32.ofInt l1)), (2, .int (Int32.ofInt l2))] [] cs := by
    intro n
    induction n with
    | zero => intro a0 pa0 l1 l2 hW ga0 gl1 gl2 i0 hm; exact absurd hm (Nat.not_lt_zero _)
    | succ n ih =>
      intro a0 pa0 l1 l2 hW ga0 gl1 gl2 i0 hm
      exact eX4_forbiddenSize_4 hd hW ga0 gl1 gl2 i0 hP  (fun hW ga0 gl1 gl2 i0 hm => ih _ _ _ _ hW ga0 gl1 gl2 i0 hm) hm
  exact key _ _ _ _ _ hW ga0 gl1 gl2 i0 (Nat.lt_succ_self _)
set_option maxRecDepth 100000 in
set_option maxHeartbeats 4000000 in
theorem kX4_forbiddenSize {G : xG} {B : Nat × Nat} {τ : Tau} {cs : List va_E} {a0 pa0 : Nat} (d : Nat) (hd : 0 ≤ d) (hW : WT G B τ cs) (ga0 : τ a0 = some (.inl (4, pa0)))  : X G yX4_forbiddenSize cX4_forbiddenSize 3 (some .int) d [.ref (G.1 + a0)] cs (rI cs (fun r => True)) := by
  refine X.of false (by decide +kernel) (by decide) (Nat.le_of_ble_eq_true rfl) ?_
  show Z (RX4, cX4_forbiddenSize, 3, some .int, false) G d _ 0 [(0, .ref (G.1 + a0))] [] cs
  have hP : ∀ r : Int, rng r → (True) → rI cs (fun r => True) (some (.int (Int32.ofInt r))) cs := fun r h1 h2 => ⟨rfl, r, rfl, h1, h2⟩
  refine z_iconst (v := Int32.ofInt 0) dX4_forbiddenSize_0 rfl ?_
  refine z_istore_n dX4_forbiddenSize_1 rfl (by decide) ?_
  refine z_loc (L' := [(0, .ref (G.1 + a0)), (1, .int (Int32.ofInt 0))]) (List.forall_mem_cons.mpr ⟨rfl, (List.forall_mem_cons.mpr ⟨rfl, (fun _ h => nomatch h)⟩)⟩) ?_
  refine z_iconst (v := Int32.ofInt 0) dX4_forbiddenSize_2 rfl ?_
  refine z_istore_n dX4_forbiddenSize_3 rfl (by decide) ?_
  refine z_loc (L' := [(0, .ref (G.1 + a0)), (1, .int (Int32.ofInt 0)), (2, .int (Int32.ofInt 0))]) (List.forall_mem_cons.mpr ⟨rfl, (List.forall_mem_cons.mpr ⟨rfl, (List.forall_mem_cons.mpr ⟨rfl, (fun _ h => nomatch h)⟩)⟩)⟩) ?_
  refine z_loc (L' := [(0, .ref (G.1 + a0)), (1, .int (Int32.ofInt 0)), (2, .int (Int32.ofInt 0))]) (List.forall_mem_cons.mpr ⟨rfl, (List.forall_mem_cons.mpr ⟨rfl, (List.forall_mem_cons.mpr ⟨rfl, (fun _ h => nomatch h)⟩)⟩)⟩) ?_
  exact bX4_forbiddenSize_4 hd hW ga0 (show rng 0 from ⟨by decide, by decide⟩) (show rng 0 from ⟨by decide, by decide⟩) (by omega)  hP 

