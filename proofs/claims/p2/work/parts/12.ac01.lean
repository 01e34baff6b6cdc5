set_option maxRecDepth 100000 in
set_option maxHeartbeats 4000000 in
theorem kX4_isClass {G : xG} {B : Nat × Nat} {τ : Tau} {cs : List va_E} {a0 pa0 : Nat} {l1 : Int} (d : Nat) (hd : 0 ≤ d) (hW : WT G B τ cs) (ga0 : τ a0 = some (.inl (4, pa0))) (gl1 : rng l1)  : X G yX4_isClass cX4_isClass 2 (some .boolean) d [.ref (G.1 + a0), .int (Int32.ofInt l1)] cs (rI cs (fun r => (iv 0 1 r) ∧ (r = 0 ∨ iv 0 5 l1))) := by
  refine X.of false (by decide +kernel) (by decide) (Nat.le_of_ble_eq_true rfl) ?_
  show Z (RX4, cX4_isClass, 2, some .boolean, false) G d _ 0 [(0, .ref (G.1 + a0)), (1, .int (Int32.ofInt l1))] [] cs
  have hP : ∀ r : Int, rng r → ((iv 0 1 r) ∧ (r = 0 ∨ iv 0 5 l1)) → rI cs (fun r => (iv 0 1 r) ∧ (r = 0 ∨ iv 0 5 l1)) (some (.int (Int32.ofInt r))) cs := fun r h1 h2 => ⟨rfl, r, rfl, h1, h2⟩
  refine z_iload_n dX4_isClass_0 rfl rfl ?_
  refine i_if_lt (tgt := 16) dX4_isClass_1 (by decide) gl1 (fun h1 => ?_) (fun h1 => ?_)
  · refine z_iconst (v := Int32.ofInt 0) dX4_isClass_16 rfl ?_
    exact z_ireturn dX4_isClass_17 rfl (nar01 (b01 ⟨by decide, by decide⟩)) (hP _ (show rng 0 from ⟨by decide, by decide⟩) ⟨by omega, by omega⟩)
  · refine z_iload_n dX4_isClass_4 rfl rfl ?_
    refine z_aload_n dX4_isClass_5 rfl rfl ?_
    refine tw_getI hW ga0 (by decide) (by decide) rfl kX4 fX4_38 dX4_isClass_6 (fun x2 _ vx2 gx2 => ?_)
    refine i_icmp_ge (tgt := 16) dX4_isClass_9 (by decide) gl1 gx2 (fun h3 => ?_) (fun h3 => ?_)
    · refine z_iconst (v := Int32.ofInt 0) dX4_isClass_16 rfl ?_
      exact z_ireturn dX4_isClass_17 rfl (nar01 (b01 ⟨by decide, by decide⟩)) (hP _ (show rng 0 from ⟨by decide, by decide⟩) ⟨by omega, by omega⟩)
    · refine z_iconst (v := Int32.ofInt 1) dX4_isClass_12 rfl ?_
      refine z_goto (tgt := 17) dX4_isClass_13 (by decide) ?_
      exact z_ireturn dX4_isClass_17 rfl (nar01 (b01 ⟨by decide, by decide⟩)) (hP _ (show rng 1 from ⟨by decide, by decide⟩) ⟨by omega, by omega⟩)

set_option maxRecDepth 100000 in
set_option maxHeartbeats 4000000 in
theorem kX4_beginField {G : xG} {B : Nat × Nat} {τ : Tau} {cs : List va_E} {a0 pa0 : Nat} (d : Nat) (hd : 1 ≤ d) (hW : WT G B τ cs) (ga0 : τ a0 = some (.inl (4, pa0)))  : X G yX4_beginField cX4_beginField 3 none d [.ref (G.1 + a0)] cs (wN G B τ cs [4]) := by
  refine X.of false (by decide +kernel) (by decide) (Nat.le_of_ble_eq_true rfl) ?_
  show Z (RX4, cX4_beginField, 3, none, false) G d _ 0 [(0, .ref (G.1 + a0))] [] cs
  have hP : ∀ (τ1 : Tau) (c1 : List va_E), WT G B τ1 c1 → Fx [4] τ cs τ1 c1 → wN G B τ cs [4] none c1 := fun τ1 c1 h1 h2 => ⟨τ1, rfl, h1, h2⟩
  have hX : Fx [4] τ cs τ cs := Fx.rf
  skip
  refine z_aload_n dX4_beginField_0 rfl rfl ?_
  refine tw_getI hW ga0 (by decide) (by decide) rfl kX4 fX4_38 dX4_beginField_1 (fun x1 _ vx1 gx1 => ?_)
  refine z_iconst (v := Int32.ofInt 1) dX4_beginField_4 rfl ?_
  refine tw_isub dX4_beginField_5 (fun z2 gz2 ez2 => ?_)
  first | have ez2 := ez2 ⟨by omega, by omega⟩ | clear ez2
  refine z_istore_n dX4_beginField_6 rfl (by decide) ?_
  refine z_loc (L' := [(0, .ref (G.1 + a0)), (1, .int (Int32.ofInt z2))]) (List.forall_mem_cons.mpr ⟨rfl, (List.forall_mem_cons.mpr ⟨rfl, (fun _ h => nomatch h)⟩)⟩) ?_
  refine z_aload_n dX4_beginField_7 rfl rfl ?_
  refine z_iload_n dX4_beginField_8 rfl rfl ?_
  have hX0 := kX4_isClass 0 (Nat.le_refl _) hW ga0 gz2 
  refine z_callV (As := [_]) eX4_isClass sX4_isClass lX4_42 rfl dX4_beginField_9 (hW.ob ga0 (by decide)).choose_spec hX0 (Nat.le_trans (by decide) hd) rfl (Nat.le_of_ble_eq_true rfl) (fun r cs1 hp => ?_)
  obtain ⟨hcs, r4, rfl, gr4, ⟨n3_0, n3_1⟩⟩ := hp
  obtain rfl := hcs.symm
  refine z_st (st' := [.int (Int32.ofInt r4)]) rfl ?_
  refine i_if_eq (tgt := 25) dX4_beginField_12 (by decide) gr4 (fun h5 => ?_) (fun h5 => ?_)
  · exact z_return dX4_beginField_25 rfl (hP _ _ hW hX)
  · refine z_aload_n dX4_beginField_15 rfl rfl ?_
    refine tw_getA hW ga0 (by decide) (by decide) rfl kX4 fX4_26 dX4_beginField_16 (fun b6 qb6 gb6 => ?_)
    refine z_iload_n dX4_beginField_19 rfl rfl ?_
    refine tw_iald hW gb6 (by omega) (by omega) dX4_beginField_20 (fun x7 qx7 vx7 gx7 => ?_)
    refine z_iconst (v := Int32.ofInt 4) dX4_beginField_21 rfl ?_
    refine i_icmp_lt (tgt := 26) dX4_beginField_22 (by decide) gx7 (show rng 4 from ⟨by decide, by decide⟩) (fun h8 => ?_) (fun h8 => ?_)
    · refine z_aload_n dX4_beginField_26 rfl rfl ?_
      refine tw_getA hW ga0 (by decide) (by decide) rfl kX4 fX4_26 dX4_beginField_27 (fun b9 qb9 gb9 => ?_)
      obtain rfl : b6 = b9 := by omega
      refine z_iload_n dX4_beginField_30 rfl rfl ?_
      refine tw_iald hW gb6 (by omega) (by omega) dX4_beginField_31 (fun x10 qx10 vx10 gx10 => ?_)
      refine z_istore_n dX4_beginField_32 rfl (by decide) ?_
      refine z_loc (L' := [(0, .ref (G.1 + a0)), (1, .int (Int32.ofInt z2)), (2, .int (Int32.ofInt x10))]) (List.forall_mem_cons.mpr ⟨rfl, (List.forall_mem_cons.mpr ⟨rfl, (List.forall_mem_cons.mpr ⟨rfl, (fun _ h => nomatch h)⟩)⟩)⟩) ?_
      refine z_aload_n dX4_beginField_33 rfl rfl ?_
      refine tw_getA hW ga0 (by decide) (by decide) rfl kX4 fX4_15 dX4_beginField_34 (fun b11 qb11 gb11 => ?_)
      refine z_iload_n dX4_beginField_37 rfl rfl ?_
      refine z_iload_n dX4_beginField_38 rfl rfl ?_
      have hX0 := kX4_fieldName 0 (Nat.le_refl _) hW gz2 gx10 
      refine z_callS (As := [_, _]) eX4_fieldName sX4_fieldName lX4_58 dX4_beginField_39 hX0 (Nat.le_trans (by decide) hd) rfl (Nat.le_of_ble_eq_true rfl) (fun r cs1 hp => ?_)
      obtain ⟨hcs, r13, rfl, gr13, n12_0⟩ := hp
      obtain rfl := hcs.symm
      refine z_st (st' := [.int (Int32.ofInt r13), .ref (G.1 + b11)]) rfl ?_
      refine z_iconst (v := Int32.ofInt 0) dX4_beginField_42 rfl ?_
      refine tw_iast hW hX gb11 (by omega) (by omega) (iv_ok (by omega) (by decide) (by decide)) (Or.inr (show (4 : Nat) ∈ _ by decide)) dX4_beginField_43 (fun c1 q _ => nA hW gb11 (show (16 : Int) ≠ 600 by decide) (show (16 : Int) ≠ 601 by decide) c1 q) (fun cs hW hX hfr _ => ?_)
      have qb6 := qb6.trans (fldR_fr (k := 4) hfr ga0 gb11).symm
      have qb11 := qb11.trans (fldR_fr (k := 1) hfr ga0 gb11).symm
      have s14 := elt_fr (i := z2) hfr gb6 gb11 (by decide)
      clear hfr
      refine z_aload_n dX4_beginField_44 rfl rfl ?_
      refine tw_getA hW ga0 (by decide) (by decide) rfl kX4 fX4_19 dX4_beginField_45 (fun b15 qb15 gb15 => ?_)
      refine z_iload_n dX4_beginField_48 rfl rfl ?_
      refine z_iconst (v := Int32.ofInt 4) dX4_beginField_49 rfl ?_
      refine tw_imul dX4_beginField_50 (fun z16 gz16 ez16 => ?_)
      first | have ez16 := ez16 ⟨by omega, by omega⟩ | clear ez16
      refine z_iload_n dX4_beginField_51 rfl rfl ?_
      refine tw_iadd dX4_beginField_52 (fun z17 gz17 ez17 => ?_)
      first | have ez17 := ez17 ⟨by omega, by omega⟩ | clear ez17
      refine z_iconst (v := Int32.ofInt 0) dX4_beginField_53 rfl ?_
      refine tw_iast hW hX gb15 (by omega) (by omega) (any_okT (by decide) _) (Or.inr (show (4 : Nat) ∈ _ by decide)) dX4_beginField_54 (fun c1 q _ => nA hW gb15 (show (2147483649 : Int) ≠ 600 by decide) (show (2147483649 : Int) ≠ 601 by decide) c1 q) (fun cs hW hX hfr _ => ?_)
      have qb6 := qb6.trans (fldR_fr (k := 4) hfr ga0 gb15).symm
      have qb11 := qb11.trans (fldR_fr (k := 1) hfr ga0 gb15).symm
      have qb15 := qb15.trans (fldR_fr (k := 2) hfr ga0 gb15).symm
      have s18 := elt_fr (i := z2) hfr gb6 gb15 (by decide)
      clear hfr
      refine z_aload_n dX4_beginField_55 rfl rfl ?_
      refine tw_getA hW ga0 (by decide) (by decide) rfl kX4 fX4_22 dX4_beginField_56 (fun b19 qb19 gb19 => ?_)
      refine z_iload_n dX4_beginField_59 rfl rfl ?_
      refine z_iconst (v := Int32.ofInt 4) dX4_beginField_60 rfl ?_
      refine tw_imul dX4_beginField_61 (fun z20 gz20 ez20 => ?_)
      first | have ez20 := ez20 ⟨by omega, by omega⟩ | clear ez20
      refine z_iload_n dX4_beginField_62 rfl rfl ?_
      refine tw_iadd dX4_beginField_63 (fun z21 gz21 ez21 => ?_)
      first | have ez21 := ez21 ⟨by omega, by omega⟩ | clear ez21
      refine z_iconst (v := Int32.ofInt 0) dX4_beginField_64 rfl ?_
      refine tw_zast hW hX gb19 (by omega) (by omega) (bool_ok ⟨by decide, by decide⟩) (Or.inr (show (4 : Nat) ∈ _ by decide)) dX4_beginField_65 (fun c1 q _ => nA hW gb19 (show (1 : Int) ≠ 600 by decide) (show (1 : Int) ≠ 601 by decide) c1 q) (fun cs hW hX hfr _ => ?_)
      have qb6 := qb6.trans (fldR_fr (k := 4) hfr ga0 gb19).symm
      have qb11 := qb11.trans (fldR_fr (k := 1) hfr ga0 gb19).symm
      have qb15 := qb15.trans (fldR_fr (k := 2) hfr ga0 gb19).symm
      have qb19 := qb19.trans (fldR_fr (k := 3) hfr ga0 gb19).symm
      have s22 := elt_fr (i := z2) hfr gb6 gb19 (by decide)
      clear hfr
      refine z_aload_n dX4_beginField_66 rfl rfl ?_
      refine tw_getA hW ga0 (by decide) (by decide) rfl kX4 fX4_26 dX4_beginField_67 (fun b23 qb23 gb23 => ?_)
      obtain rfl : b6 = b23 := by omega
      refine z_iload_n dX4_beginField_70 rfl rfl ?_
      refine z_dup2 dX4_beginField_71 rfl rfl ?_
      refine tw_iald hW gb6 (by omega) (by omega) dX4_beginField_72 (fun x24 qx24 vx24 gx24 => ?_)
      refine z_iconst (v := Int32.ofInt 1) dX4_beginField_73 rfl ?_
      refine tw_iadd dX4_beginField_74 (fun z25 gz25 ez25 => ?_)
      first | have ez25 := ez25 ⟨by omega, by omega⟩ | clear ez25
      refine tw_iast hW hX gb6 (by omega) (by omega) (iv_ok (by omega) (by decide) (by decide)) (Or.inr (show (4 : Nat) ∈ _ by decide)) dX4_beginField_75 (fun c1 q _ => nA hW gb6 (show (4 : Int) ≠ 600 by decide) (show (4 : Int) ≠ 601 by decide) c1 q) (fun cs hW hX hfr _ => ?_)
      have qb6 := qb6.trans (fldR_fr (k := 4) hfr ga0 gb6).symm
      have qb11 := qb11.trans (fldR_fr (k := 1) hfr ga0 gb6).symm
      have qb15 := qb15.trans (fldR_fr (k := 2) hfr ga0 gb6).symm
      have qb19 := qb19.trans (fldR_fr (k := 3) hfr ga0 gb6).symm
      clear hfr
      exact z_return dX4_beginField_76 rfl (hP _ _ hW hX)
    · exact z_return dX4_beginField_25 rfl (hP _ _ hW hX)

set_option maxRecDepth 100000 in
set_option maxHeartbeats 4000000 in
theorem kX4_implicit {G : xG} {B : Nat × Nat} {τ : Tau} {cs : List va_E} {a0 pa0 : Nat} {l1 : Int} (d : Nat) (hd : 1 ≤ d) (hW : WT G B τ cs) (ga0 : τ a0 = some (.inl (4, pa0))) (gl1 : rng l1)  : X G yX4_implicit cX4_implicit 2 (some .int) d [.ref (G.1 + a0), .int (Int32.ofInt l1)] cs (rI cs (fun r => True)) := by
  refine X.of false (by decide +kernel) (by decide) (Nat.le_of_ble_eq_true rfl) ?_
  show Z (RX4, cX4_implicit, 2, some .int, false) G d _ 0 [(0, .ref (G.1 + a0)), (1, .int (Int32.ofInt l1))] [] cs
  have hP : ∀ r : Int, rng r → (True) → rI cs (fun r => True) (some (.int (Int32.ofInt r))) cs := fun r h1 h2 => ⟨rfl, r, rfl, h1, h2⟩
  refine z_aload_n dX4_implicit_0 rfl rfl ?_
  refine z_iload_n dX4_implicit_1 rfl rfl ?_
  have hX0 := kX4_isClass 0 (Nat.le_refl _) hW ga0 gl1 
  refine z_callV (As := [_]) eX4_isClass sX4_isClass lX4_42 rfl dX4_implicit_2 (hW.ob ga0 (by decide)).choose_spec hX0 (Nat.le_trans (by decide) hd) rfl (Nat.le_of_ble_eq_true rfl) (fun r cs1 hp => ?_)
  obtain ⟨hcs, r2, rfl, gr2, ⟨n1_0, n1_1⟩⟩ := hp
  obtain rfl := hcs.symm
  refine z_st (st' := [.int (Int32.ofInt r2)]) rfl ?_
  refine i_if_eq (tgt := 17) dX4_implicit_5 (by decide) gr2 (fun h3 => ?_) (fun h3 => ?_)
  · refine z_iconst (v := Int32.ofInt (-1)) dX4_implicit_17 rfl ?_
    exact z_ireturn dX4_implicit_18 rfl rfl (hP _ (show rng (-1) from ⟨by decide, by decide⟩) trivial)
  · refine z_aload_n dX4_implicit_8 rfl rfl ?_
    refine tw_getA hW ga0 (by decide) (by decide) rfl kX4 fX4_29 dX4_implicit_9 (fun b4 _ gb4 => ?_)
    refine z_iload_n dX4_implicit_12 rfl rfl ?_
    refine tw_iald hW gb4 (by omega) (by omega) dX4_implicit_13 (fun x5 _ vx5 gx5 => ?_)
    refine z_goto (tgt := 18) dX4_implicit_14 (by decide) ?_
    exact z_ireturn dX4_implicit_18 rfl rfl (hP _ gx5 trivial)

set_option maxRecDepth 100000 in
set_option maxHeartbeats 4000000 in
theorem kX4_isField {G : xG} {B : Nat × Nat} {τ : Tau} {cs : List va_E} {a0 pa0 : Nat} {l1 : Int} {l2 : Int} (d : Nat) (hd : 0 ≤ d) (hW : WT G B τ cs) (ga0 : τ a0 = some (.inl (4, pa0))) (gl1 : rng l1) (gl2 : rng l2)  : X G yX4_isField cX4_isField 3 (some .boolean) d [.ref (G.1 + a0), .int (Int32.ofInt l1), .int (Int32.ofInt l2)] cs (rI cs (fun r => (iv 0 1 r) ∧ (r = 0 ∨ (iv 0 5 l1 ∧ iv 0 3 l2)))) := by
  refine X.of false (by decide +kernel) (by decide) (Nat.le_of_ble_eq_true rfl) ?_
  show Z (RX4, cX4_isField, 3, some .boolean, false) G d _ 0 [(0, .ref (G.1 + a0)), (1, .int (Int32.ofInt l1)), (2, .int (Int32.ofInt l2))] [] cs
  have hP : ∀ r : Int, rng r → ((iv 0 1 r) ∧ (r = 0 ∨ (iv 0 5 l1 ∧ iv 0 3 l2))) → rI cs (fun r => (iv 0 1 r) ∧ (r = 0 ∨ (iv 0 5 l1 ∧ iv 0 3 l2))) (some (.int (Int32.ofInt r))) cs := fun r h1 h2 => ⟨rfl, r, rfl, h1, h2⟩
  refine z_iload_n dX4_isField_0 rfl rfl ?_
  refine i_if_lt (tgt := 30) dX4_isField_1 (by decide) gl1 (fun h1 => ?_) (fun h1 => ?_)
  · refine z_iconst (v := Int32.ofInt 0) dX4_isField_30 rfl ?_
    exact z_ireturn dX4_isField_31 rfl (nar01 (b01 ⟨by decide, by decide⟩)) (hP _ (show rng 0 from ⟨by decide, by decide⟩) ⟨by omega, by omega⟩)
  · refine z_iload_n dX4_isField_4 rfl rfl ?_
    refine z_aload_n dX4_isField_5 rfl rfl ?_
    refine tw_getI hW ga0 (by decide) (by decide) rfl kX4 fX4_38 dX4_isField_6 (fun x2 _ vx2 gx2 => ?_)
    refine i_icmp_ge (tgt := 30) dX4_isField_9 (by decide) gl1 gx2 (fun h3 => ?_) (fun h3 => ?_)
    · refine z_iconst (v := Int32.ofInt 0) dX4_isField_30 rfl ?_
      exact z_ireturn dX4_isField_31 rfl (nar01 (b01 ⟨by decide, by decide⟩)) (hP _ (show rng 0 from ⟨by decide, by decide⟩) ⟨by omega, by omega⟩)
    · refine z_iload_n dX4_isField_12 rfl rfl ?_
      refine i_if_lt (tgt := 30) dX4_isField_13 (by decide) gl2 (fun h4 => ?_) (fun h4 => ?_)
      · refine z_iconst (v := Int32.ofInt 0) dX4_isField_30 rfl ?_
        exact z_ireturn dX4_isField_31 rfl (nar01 (b01 ⟨by decide, by decide⟩)) (hP _ (show rng 0 from ⟨by decide, by decide⟩) ⟨by omega, by omega⟩)
      · refine z_iload_n dX4_isField_16 rfl rfl ?_
        refine z_aload_n dX4_isField_17 rfl rfl ?_
        refine tw_getA hW ga0 (by decide) (by decide) rfl kX4 fX4_26 dX4_isField_18 (fun b5 _ gb5 => ?_)
        refine z_iload_n dX4_isField_21 rfl rfl ?_
        refine tw_iald hW gb5 (by omega) (by omega) dX4_isField_22 (fun x6 _ vx6 gx6 => ?_)
        refine i_icmp_ge (tgt := 30) dX4_isField_23 (by decide) gl2 gx6 (fun h7 => ?_) (fun h7 => ?_)
        · refine z_iconst (v := Int32.ofInt 0) dX4_isField_30 rfl ?_
          exact z_ireturn dX4_isField_31 rfl (nar01 (b01 ⟨by decide, by decide⟩)) (hP _ (show rng 0 from ⟨by decide, by decide⟩) ⟨by omega, by omega⟩)
        · refine z_iconst (v := Int32.ofInt 1) dX4_isField_26 rfl ?_
          refine z_goto (tgt := 31) dX4_isField_27 (by decide) ?_
          exact z_ireturn dX4_isField_31 rfl (nar01 (b01 ⟨by decide, by decide⟩)) (hP _ (show rng 1 from ⟨by decide, by decide⟩) ⟨by omega, by omega⟩)

set_option maxRecDepth 100000 in
set_option maxHeartbeats 4000000 in
theorem kX4_putAttribute {G : xG} {B : Nat × Nat} {τ : Tau} {cs : List va_E} {a0 pa0 : Nat} {l1 : Int} {l2 : Int} (d : Nat) (hd : 1 ≤ d) (hW : WT G B τ cs) (ga0 : τ a0 = some (.inl (4, pa0))) (gl1 : rng l1) (gl2 : rng l2)  : X G yX4_putAttribute cX4_putAttribute 3 none d [.ref (G.1 + a0), .int (Int32.ofInt l1), .int (Int32.ofInt l2)] cs (wN G B τ cs [4]) := by
  refine X.of false (by decide +kernel) (by decide) (Nat.le_of_ble_eq_true rfl) ?_
  show Z (RX4, cX4_putAttribute, 3, none, false) G d _ 0 [(0, .ref (G.1 + a0)), (1, .int (Int32.ofInt l1)), (2, .int (Int32.ofInt l2))] [] cs
  have hP : ∀ (τ1 : Tau) (c1 : List va_E), WT G B τ1 c1 → Fx [4] τ cs τ1 c1 → wN G B τ cs [4] none c1 := fun τ1 c1 h1 h2 => ⟨τ1, rfl, h1, h2⟩
  have hX : Fx [4] τ cs τ cs := Fx.rf
  skip
  refine z_aload_n dX4_putAttribute_0 rfl rfl ?_
  refine z_iload_n dX4_putAttribute_1 rfl rfl ?_
  refine z_iload_n dX4_putAttribute_2 rfl rfl ?_
  have hX0 := kX4_isField 0 (Nat.le_refl _) hW ga0 gl1 gl2 
  refine z_callV (As := [_, _]) eX4_isField sX4_isField lX4_46 rfl dX4_putAttribute_3 (hW.ob ga0 (by decide)).choose_spec hX0 (Nat.le_trans (by decide) hd) rfl (Nat.le_of_ble_eq_true rfl) (fun r cs1 hp => ?_)
  obtain ⟨hcs, r2, rfl, gr2, ⟨n1_0, n1_1⟩⟩ := hp
  obtain rfl := hcs.symm
  refine z_st (st' := [.int (Int32.ofInt r2)]) rfl ?_
  refine i_if_eq (tgt := 20) dX4_putAttribute_6 (by decide) gr2 (fun h3 => ?_) (fun h3 => ?_)
  · exact z_return dX4_putAttribute_20 rfl (hP _ _ hW hX)
  · refine z_aload_n dX4_putAttribute_9 rfl rfl ?_
    refine tw_getA hW ga0 (by decide) (by decide) rfl kX4 fX4_22 dX4_putAttribute_10 (fun b4 _ gb4 => ?_)
    refine z_iload_n dX4_putAttribute_13 rfl rfl ?_
    refine z_iconst (v := Int32.ofInt 4) dX4_putAttribute_14 rfl ?_
    refine tw_imul dX4_putAttribute_15 (fun z5 gz5 ez5 => ?_)
    first | have ez5 := ez5 ⟨by omega, by omega⟩ | clear ez5
    refine z_iload_n dX4_putAttribute_16 rfl rfl ?_
    refine tw_iadd dX4_putAttribute_17 (fun z6 gz6 ez6 => ?_)
    first | have ez6 := ez6 ⟨by omega, by omega⟩ | clear ez6
    refine z_iconst (v := Int32.ofInt 1) dX4_putAttribute_18 rfl ?_
    refine tw_zast hW hX gb4 (by omega) (by omega) (bool_ok ⟨by decide, by decide⟩) (Or.inr (show (4 : Nat) ∈ _ by decide)) dX4_putAttribute_19 (fun c1 q _ => nA hW gb4 (show (1 : Int) ≠ 600 by decide) (show (1 : Int) ≠ 601 by decide) c1 q) (fun cs hW hX _ _ => ?_)
    exact z_return dX4_putAttribute_20 rfl (hP _ _ hW hX)

set_option maxRecDepth 100000 in
set_option maxHeartbeats 4000000 in
theorem kX4_putImplicit {G : xG} {B : Nat × Nat} {τ : Tau} {cs : List va_E} {a0 pa0 : Nat} {l1 : Int} {l2 : Int} (d : Nat) (hd : 1 ≤ d) (hW : WT G B τ cs) (ga0 : τ a0 = some (.inl (4, pa0))) (gl1 : rng l1) (gl2 : rng l2)  : X G yX4_putImplicit cX4_putImplicit 3 none d [.ref (G.1 + a0), .int (Int32.ofInt l1), .int (Int32.ofInt l2)] cs (wN G B τ cs [4]) := by
  refine X.of false (by decide +kernel) (by decide) (Nat.le_of_ble_eq_true rfl) ?_
  show Z (RX4, cX4_putImplicit, 3, none, false) G d _ 0 [(0, .ref (G.1 + a0)), (1, .int (Int32.ofInt l1)), (2, .int (Int32.ofInt l2))] [] cs
  have hP : ∀ (τ1 : Tau) (c1 : List va_E), WT G B τ1 c1 → Fx [4] τ cs τ1 c1 → wN G B τ cs [4] none c1 := fun τ1 c1 h1 h2 => ⟨τ1, rfl, h1, h2⟩
  have hX : Fx [4] τ cs τ cs := Fx.rf
  skip
  refine z_aload_n dX4_putImplicit_0 rfl rfl ?_
  refine z_iload_n dX4_putImplicit_1 rfl rfl ?_
  refine z_iload_n dX4_putImplicit_2 rfl rfl ?_
  have hX0 := kX4_isField 0 (Nat.le_refl _) hW ga0 gl1 gl2 
  refine z_callV (As := [_, _]) eX4_isField sX4_isField lX4_46 rfl dX4_putImplicit_3 (hW.ob ga0 (by decide)).choose_spec hX0 (Nat.le_trans (by decide) hd) rfl (Nat.le_of_ble_eq_true rfl) (fun r cs1 hp => ?_)
  obtain ⟨hcs, r2, rfl, gr2, ⟨n1_0, n1_1⟩⟩ := hp
  obtain rfl := hcs.symm
  refine z_st (st' := [.int (Int32.ofInt r2)]) rfl ?_
  refine i_if_eq (tgt := 16) dX4_putImplicit_6 (by decide) gr2 (fun h3 => ?_) (fun h3 => ?_)
  · exact z_return dX4_putImplicit_16 rfl (hP _ _ hW hX)
  · refine z_aload_n dX4_putImplicit_9 rfl rfl ?_
    refine tw_getA hW ga0 (by decide) (by decide) rfl kX4 fX4_29 dX4_putImplicit_10 (fun b4 _ gb4 => ?_)
    refine z_iload_n dX4_putImplicit_13 rfl rfl ?_
    refine z_iload_n dX4_putImplicit_14 rfl rfl ?_
    refine tw_iast hW hX gb4 (by omega) (by omega) (any_okT (by decide) _) (Or.inr (show (4 : Nat) ∈ _ by decide)) dX4_putImplicit_15 (fun c1 q _ => nA hW gb4 (show (2147483649 : Int) ≠ 600 by decide) (show (2147483649 : Int) ≠ 601 by decide) c1 q) (fun cs hW hX _ _ => ?_)
    exact z_return dX4_putImplicit_16 rfl (hP _ _ hW hX)

set_option maxRecDepth 100000 in
set_option maxHeartbeats 4000000 in
theorem kX4_putShape {G : xG} {B : Nat × Nat} {τ : Tau} {cs : List va_E} {a0 pa0 : Nat} {l1 : Int} {l2 : Int} {l3 : Int} (d : Nat) (hd : 1 ≤ d) (hW : WT G B τ cs) (ga0 : τ a0 = some (.inl (4, pa0))) (gl1 : rng l1) (gl2 : rng l2) (gl3 : rng l3)  : X G yX4_putShape cX4_putShape 4 none d [.ref (G.1 + a0), .int (Int32.ofInt l1), .int (Int32.ofInt l2), .int (Int32.ofInt l3)] cs (wN G B τ cs [4]) := by
  refine X.of false (by decide +kernel) (by decide) (Nat.le_of_ble_eq_true rfl) ?_
  show Z (RX4, cX4_putShape, 4, none, false) G d _ 0 [(0, .ref (G.1 + a0)), (1, .int (Int32.ofInt l1)), (2, .int (Int32.ofInt l2)), (3, .int (Int32.ofInt l3))] [] cs
  have hP : ∀ (τ1 : Tau) (c1 : List va_E), WT G B τ1 c1 → Fx [4] τ cs τ1 c1 → wN G B τ cs [4] none c1 := fun τ1 c1 h1 h2 => ⟨τ1, rfl, h1, h2⟩
  have hX : Fx [4] τ cs τ cs := Fx.rf
  skip
  refine z_aload_n dX4_putShape_0 rfl rfl ?_
  refine z_iload_n dX4_putShape_1 rfl rfl ?_
  refine z_iload_n dX4_putShape_2 rfl rfl ?_
  have hX0 := kX4_isField 0 (Nat.le_refl _) hW ga0 gl1 gl2 
  refine z_callV (As := [_, _]) eX4_isField sX4_isField lX4_46 rfl dX4_putShape_3 (hW.ob ga0 (by decide)).choose_spec hX0 (Nat.le_trans (by decide) hd) rfl (Nat.le_of_ble_eq_true rfl) (fun r cs1 hp => ?_)
  obtain ⟨hcs, r2, rfl, gr2, ⟨n1_0, n1_1⟩⟩ := hp
  obtain rfl := hcs.symm
  refine z_st (st' := [.int (Int32.ofInt r2)]) rfl ?_
  refine i_if_eq (tgt := 41) dX4_putShape_6 (by decide) gr2 (fun h3 => ?_) (fun h3 => ?_)
  · exact z_return dX4_putShape_41 rfl (hP _ _ hW hX)
  · refine z_aload_n dX4_putShape_9 rfl rfl ?_
    refine tw_getA hW ga0 (by decide) (by decide) rfl kX4 fX4_19 dX4_putShape_10 (fun b4 _ gb4 => ?_)
    refine z_iload_n dX4_putShape_13 rfl rfl ?_
    refine z_iconst (v := Int32.ofInt 4) dX4_putShape_14 rfl ?_
    refine tw_imul dX4_putShape_15 (fun z5 gz5 ez5 => ?_)
    first | have ez5 := ez5 ⟨by omega, by omega⟩ | clear ez5
    refine z_iload_n dX4_putShape_16 rfl rfl ?_
    refine tw_iadd dX4_putShape_17 (fun z6 gz6 ez6 => ?_)
    first | have ez6 := ez6 ⟨by omega, by omega⟩ | clear ez6
    refine z_iload_n dX4_putShape_18 rfl rfl ?_
    refine tw_iast hW hX gb4 (by omega) (by omega) (any_okT (by decide) _) (Or.inr (show (4 : Nat) ∈ _ by decide)) dX4_putShape_19 (fun c1 q _ => nA hW gb4 (show (2147483649 : Int) ≠ 600 by decide) (show (2147483649 : Int) ≠ 601 by decide) c1 q) (fun cs hW hX _ _ => ?_)
    refine z_aload_n dX4_putShape_20 rfl rfl ?_
    refine tw_getA hW ga0 (by decide) (by decide) rfl kX4 fX4_32 dX4_putShape_21 (fun b7 _ gb7 => ?_)
    refine z_iload_n dX4_putShape_24 rfl rfl ?_
    refine z_dup2 dX4_putShape_25 rfl rfl ?_
    refine tw_iald hW gb7 (by omega) (by omega) dX4_putShape_26 (fun x8 _ vx8 gx8 => ?_)
    refine z_iload_n dX4_putShape_27 rfl rfl ?_
    refine z_iconst (v := Int32.ofInt 3) dX4_putShape_28 rfl ?_
    refine i_icmp_ne (tgt := 38) dX4_putShape_29 (by decide) gl3 (show rng 3 from ⟨by decide, by decide⟩) (fun h9 => ?_) (fun h9 => ?_)
    · refine z_iconst (v := Int32.ofInt 0) dX4_putShape_38 rfl ?_
      refine tw_ior dX4_putShape_39 (fun z10 gz10 => ?_)
      refine tw_iast hW hX gb7 (by omega) (by omega) (any_okT (by decide) _) (Or.inr (show (4 : Nat) ∈ _ by decide)) dX4_putShape_40 (fun c1 q _ => nA hW gb7 (show (2147483649 : Int) ≠ 600 by decide) (show (2147483649 : Int) ≠ 601 by decide) c1 q) (fun cs hW hX _ _ => ?_)
      exact z_return dX4_putShape_41 rfl (hP _ _ hW hX)
    · refine z_iconst (v := Int32.ofInt 1) dX4_putShape_32 rfl ?_
      refine z_iload_n dX4_putShape_33 rfl rfl ?_
      refine tw_ishl dX4_putShape_34 (fun z11 gz11 => ?_)
      refine z_goto (tgt := 39) dX4_putShape_35 (by decide) ?_
      refine tw_ior dX4_putShape_39 (fun z12 gz12 => ?_)
      refine tw_iast hW hX gb7 (by omega) (by omega) (any_okT (by decide) _) (Or.inr (show (4 : Nat) ∈ _ by decide)) dX4_putShape_40 (fun c1 q _ => nA hW gb7 (show (2147483649 : Int) ≠ 600 by decide) (show (2147483649 : Int) ≠ 601 by decide) c1 q) (fun cs hW hX _ _ => ?_)
      exact z_return dX4_putShape_41 rfl (hP _ _ hW hX)

set_option maxRecDepth 100000 in
set_option maxHeartbeats 4000000 in
theorem bX0_isFieldRight_114 {G : xG} {d : Nat} {Post : xP} {B : Nat × Nat} {τ0 τ : Tau} {c0 cs : List va_E} {a0 pa0 : Nat} {l1 : Int} {l2 : Int} {l3 : Int} (hd : 3 ≤ d) (hW : WT G B τ cs) (hX : Fx [0, 4] τ0 c0 τ cs) (ga0 : τ a0 = some (.inl (0, pa0))) (gl1 : rng l1) (gl2 : rng l2) (gl3 : rng l3)   (hP : ∀ (τ1 : Tau) (c1 : List va_E) (r : Int), WT G B τ1 c1 → Fx [0, 4] τ0 c0 τ1 c1 → rng r → ((iv 0 1 r)) → Post (some (.int (Int32.ofInt r))) c1)  : Z (RX0, cX0_isFieldRight, 5, some .boolean, false) G d Post 114 [(0, .ref (G.1 + a0)), (1, .int (Int32.ofInt l1)), (2, .int (Int32.ofInt l2)), (3, .int (Int32.ofInt l3))] [] cs := by
  refine z_iload_n dX0_isFieldRight_114 rfl rfl ?_
  refine z_iconst (v := Int32.ofInt 4) dX0_isFieldRight_115 rfl ?_
  refine i_icmp_ne (tgt := 149) dX0_isFieldRight_116 (by decide) gl3 (show rng 4 from ⟨by decide, by decide⟩) (fun h1 => ?_) (fun h1 => ?_)
  · refine z_iconst (v := Int32.ofInt 1) dX0_isFieldRight_149 rfl ?_
    exact z_ireturn dX0_isFieldRight_150 rfl (nar01 (b01 ⟨by decide, by decide⟩)) (hP _ _ _ hW hX (show rng 1 from ⟨by decide, by decide⟩) (by omega))
  · refine z_aload_n dX0_isFieldRight_119 rfl rfl ?_
    refine tw_getO hW ga0 (by decide) (by decide) rfl kX0 fX0_19 dX0_isFieldRight_120 (fun b2 pb2 gb2 => ?_)
    refine z_iload_n dX0_isFieldRight_123 rfl rfl ?_
    have hX0 := kX4_implicit 1 (Nat.le_refl _) hW gb2 gl1 
    refine z_callV (As := [_]) eX4_implicit sX4_implicit lX0_77 rfl dX0_isFieldRight_124 (hW.ob gb2 (by decide)).choose_spec hX0 (Nat.le_trans (by decide) hd) rfl (Nat.le_of_ble_eq_true rfl) (fun r cs1 hp => ?_)
    obtain ⟨hcs, r4, rfl, gr4, _⟩ := hp
    obtain rfl := hcs.symm
    refine z_st (st' := [.int (Int32.ofInt r4)]) rfl ?_
    refine z_iconst (v := Int32.ofInt (-1)) dX0_isFieldRight_127 rfl ?_
    refine i_icmp_ne (tgt := 149) dX0_isFieldRight_128 (by decide) gr4 (show rng (-1) from ⟨by decide, by decide⟩) (fun h5 => ?_) (fun h5 => ?_)
    · refine z_iconst (v := Int32.ofInt 1) dX0_isFieldRight_149 rfl ?_
      exact z_ireturn dX0_isFieldRight_150 rfl (nar01 (b01 ⟨by decide, by decide⟩)) (hP _ _ _ hW hX (show rng 1 from ⟨by decide, by decide⟩) (by omega))
    · refine z_aload_n dX0_isFieldRight_131 rfl rfl ?_
      refine z_bipush (v := Int32.ofInt 42) dX0_isFieldRight_132 (by decide) ?_
      have hX0 := kX0_skips 1 (Nat.le_refl _) hW ga0 (show rng 42 from ⟨by decide, by decide⟩) 
      refine z_callV (As := [_]) eX0_skips sX0_skips lX0_32 rfl dX0_isFieldRight_134 (hW.ob ga0 (by decide)).choose_spec hX0 (Nat.le_trans (by decide) hd) rfl (Nat.le_of_ble_eq_true rfl) (fun r cs hp => ?_)
      obtain ⟨τ, r7, rfl, gr7, hW, k8, n6_0⟩ := hp
      have hX := hX.tr k8 (by decide)
      have ga0 := k8.1.e ga0 (by decide)
      clear hX0
      refine z_st (st' := [.int (Int32.ofInt r7)]) rfl ?_
      refine i_if_eq (tgt := 149) dX0_isFieldRight_137 (by decide) gr7 (fun h9 => ?_) (fun h9 => ?_)
      · refine z_iconst (v := Int32.ofInt 1) dX0_isFieldRight_149 rfl ?_
        exact z_ireturn dX0_isFieldRight_150 rfl (nar01 (b01 ⟨by decide, by decide⟩)) (hP _ _ _ hW hX (show rng 1 from ⟨by decide, by decide⟩) (by omega))
      · refine z_aload_n dX0_isFieldRight_140 rfl rfl ?_
        refine tw_getO hW ga0 (by decide) (by decide) rfl kX0 fX0_19 dX0_isFieldRight_141 (fun b10 pb10 gb10 => ?_)
        refine z_iload_n dX0_isFieldRight_144 rfl rfl ?_
        refine z_iload_n dX0_isFieldRight_145 rfl rfl ?_
        have hX0 := kX4_putImplicit 1 (Nat.le_refl _) hW gb10 gl1 gl2 
        refine z_callV (As := [_, _]) eX4_putImplicit sX4_putImplicit lX0_80 rfl dX0_isFieldRight_146 (hW.ob gb10 (by decide)).choose_spec hX0 (Nat.le_trans (by decide) hd) rfl (Nat.le_of_ble_eq_true rfl) (fun r cs hp => ?_)
        obtain ⟨τ, rfl, hW, k13⟩ := hp
        have hX := hX.tr k13 (by decide)
        have ga0 := k13.1.e ga0 (by decide)
        clear hX0
        refine z_st (st' := []) rfl ?_
        refine z_iconst (v := Int32.ofInt 1) dX0_isFieldRight_149 rfl ?_
        exact z_ireturn dX0_isFieldRight_150 rfl (nar01 (b01 ⟨by decide, by decide⟩)) (hP _ _ _ hW hX (show rng 1 from ⟨by decide, by decide⟩) (by omega))
set_option maxRecDepth 100000 in
set_option maxHeartbeats 4000000 in
theorem bX0_isFieldRight_86 {G : xG} {d : Nat} {Post : xP} {B : Nat × Nat} {τ0 τ : Tau} {c0 cs : List va_E} {a0 pa0 : Nat} {l1 : Int} {l2 : Int} {l3 : Int} {s0 : Int} (hd : 3 ≤ d) (hW : WT G B τ cs) (hX : Fx [0, 4] τ0 c0 τ cs) (ga0 : τ a0 = some (.inl (0, pa0))) (gl1 : rng l1) (gl2 : rng l2) (gl3 : rng l3) (gs0 : rng s0) (bs0 : iv 0 1 s0)   (hP : ∀ (τ1 : Tau) (c1 : List va_E) (r : Int), WT G B τ1 c1 → Fx [0, 4] τ0 c0 τ1 c1 → rng r → ((iv 0 1 r)) → Post (some (.int (Int32.ofInt r))) c1)  : Z (RX0, cX0_isFieldRight, 5, some .boolean, false) G d Post 86 [(0, .ref (G.1 + a0)), (1, .int (Int32.ofInt l1)), (2, .int (Int32.ofInt l2)), (3, .int (Int32.ofInt l3))] [.int (Int32.ofInt s0)] cs := by
  refine z_istore dX0_isFieldRight_86 (by decide) ?_
  refine z_loc (L' := [(0, .ref (G.1 + a0)), (1, .int (Int32.ofInt l1)), (2, .int (Int32.ofInt l2)), (3, .int (Int32.ofInt l3)), (4, .int (Int32.ofInt s0))]) (List.forall_mem_cons.mpr ⟨rfl, (List.forall_mem_cons.mpr ⟨rfl, (List.forall_mem_cons.mpr ⟨rfl, (List.forall_mem_cons.mpr ⟨rfl, (List.forall_mem_cons.mpr ⟨rfl, (fun _ h => nomatch h)⟩)⟩)⟩)⟩)⟩) ?_
  refine z_iload dX0_isFieldRight_88 rfl ?_
  refine i_if_eq (tgt := 114) dX0_isFieldRight_90 (by decide) gs0 (fun h1 => ?_) (fun h1 => ?_)
  · refine z_loc (L' := [(0, .ref (G.1 + a0)), (1, .int (Int32.ofInt l1)), (2, .int (Int32.ofInt l2)), (3, .int (Int32.ofInt l3))]) (List.forall_mem_cons.mpr ⟨rfl, (List.forall_mem_cons.mpr ⟨rfl, (List.forall_mem_cons.mpr ⟨rfl, (List.forall_mem_cons.mpr ⟨rfl, (fun _ h => nomatch h)⟩)⟩)⟩)⟩) ?_
    exact bX0_isFieldRight_114 hd hW hX ga0 gl1 gl2 gl3   hP 
  · refine z_aload_n dX0_isFieldRight_93 rfl rfl ?_
    refine z_bipush (v := Int32.ofInt 64) dX0_isFieldRight_94 (by decide) ?_
    have hX0 := kX0_skips 1 (Nat.le_refl _) hW ga0 (show rng 64 from ⟨by decide, by decide⟩) 
    refine z_callV (As := [_]) eX0_skips sX0_skips lX0_32 rfl dX0_isFieldRight_96 (hW.ob ga0 (by decide)).choose_spec hX0 (Nat.le_trans (by decide) hd) rfl (Nat.le_of_ble_eq_true rfl) (fun r cs hp => ?_)
    obtain ⟨τ, r3, rfl, gr3, hW, k4, n2_0⟩ := hp
    have hX := hX.tr k4 (by decide)
    have ga0 := k4.1.e ga0 (by decide)
    clear hX0
    refine z_st (st' := [.int (Int32.ofInt r3)]) rfl ?_
    refine i_if_eq (tgt := 114) dX0_isFieldRight_99 (by decide) gr3 (fun h5 => ?_) (fun h5 => ?_)
    · refine z_loc (L' := [(0, .ref (G.1 + a0)), (1, .int (Int32.ofInt l1)), (2, .int (Int32.ofInt l2)), (3, .int (Int32.ofInt l3))]) (List.forall_mem_cons.mpr ⟨rfl, (List.forall_mem_cons.mpr ⟨rfl, (List.forall_mem_cons.mpr ⟨rfl, (List.forall_mem_cons.mpr ⟨rfl, (fun _ h => nomatch h)⟩)⟩)⟩)⟩) ?_
      exact bX0_isFieldRight_114 hd hW hX ga0 gl1 gl2 gl3   hP 
    · refine z_aload_n dX0_isFieldRight_102 rfl rfl ?_
      refine tw_getO hW ga0 (by decide) (by decide) rfl kX0 fX0_19 dX0_isFieldRight_103 (fun b6 pb6 gb6 => ?_)
      refine z_iload_n dX0_isFieldRight_106 rfl rfl ?_
      refine z_iload_n dX0_isFieldRight_107 rfl rfl ?_
      have hX0 := kX4_putAttribute 1 (Nat.le_refl _) hW gb6 gl1 gl2 
      refine z_callV (As := [_, _]) eX4_putAttribute sX4_putAttribute lX0_73 rfl dX0_isFieldRight_108 (hW.ob gb6 (by decide)).choose_spec hX0 (Nat.le_trans (by decide) hd) rfl (Nat.le_of_ble_eq_true rfl) (fun r cs hp => ?_)
      obtain ⟨τ, rfl, hW, k9⟩ := hp
      have hX := hX.tr k9 (by decide)
      have ga0 := k9.1.e ga0 (by decide)
      clear hX0
      refine z_st (st' := []) rfl ?_
      refine z_goto (tgt := 149) dX0_isFieldRight_111 (by decide) ?_
      refine z_iconst (v := Int32.ofInt 1) dX0_isFieldRight_149 rfl ?_
      exact z_ireturn dX0_isFieldRight_150 rfl (nar01 (b01 ⟨by decide, by decide⟩)) (hP _ _ _ hW hX (show rng 1 from ⟨by decide, by decide⟩) (by omega))
set_option maxRecDepth 100000 in
set_option maxHeartbeats 4000000 in
theorem bX0_isFieldRight_81 {G : xG} {d : Nat} {Post : xP} {B : Nat × Nat} {τ0 τ : Tau} {c0 cs : List va_E} {a0 pa0 : Nat} {l1 : Int} {l2 : Int} {l3 : Int} (hd : 3 ≤ d) (hW : WT G B τ cs) (hX : Fx [0, 4] τ0 c0 τ cs) (ga0 : τ a0 = some (.inl (0, pa0))) (gl1 : rng l1) (gl2 : rng l2) (gl3 : rng l3)   (hP : ∀ (τ1 : Tau) (c1 : List va_E) (r : Int), WT G B τ1 c1 → Fx [0, 4] τ0 c0 τ1 c1 → rng r → ((iv 0 1 r)) → Post (some (.int (Int32.ofInt r))) c1)  : Z (RX0, cX0_isFieldRight, 5, some .boolean, false) G d Post 81 [(0, .ref (G.1 + a0)), (1, .int (Int32.ofInt l1)), (2, .int (Int32.ofInt l2)), (3, .int (Int32.ofInt l3))] [] cs := by
  refine z_iconst (v := Int32.ofInt 1) dX0_isFieldRight_81 rfl ?_
  refine z_goto (tgt := 86) dX0_isFieldRight_82 (by decide) ?_
  refine z_loc (L' := [(0, .ref (G.1 + a0)), (1, .int (Int32.ofInt l1)), (2, .int (Int32.ofInt l2)), (3, .int (Int32.ofInt l3))]) (List.forall_mem_cons.mpr ⟨rfl, (List.forall_mem_cons.mpr ⟨rfl, (List.forall_mem_cons.mpr ⟨rfl, (List.forall_mem_cons.mpr ⟨rfl, (fun _ h => nomatch h)⟩)⟩)⟩)⟩) ?_
  exact bX0_isFieldRight_86 hd hW hX ga0 gl1 gl2 gl3 (show rng 1 from ⟨by decide, by decide⟩) ⟨by decide, by decide⟩   hP 
set_option maxRecDepth 100000 in
set_option maxHeartbeats 4000000 in
theorem kX0_isFieldRight {G : xG} {B : Nat × Nat} {τ : Tau} {cs : List va_E} {a0 pa0 : Nat} {l1 : Int} {l2 : Int} (d : Nat) (hd : 3 ≤ d) (hW : WT G B τ cs) (ga0 : τ a0 = some (.inl (0, pa0))) (gl1 : rng l1) (gl2 : rng l2)  : X G yX0_isFieldRight cX0_isFieldRight 5 (some .boolean) d [.ref (G.1 + a0), .int (Int32.ofInt l1), .int (Int32.ofInt l2)] cs (wI G B τ cs [0, 4] (fun r => (iv 0 1 r))) := by
  refine X.of false (by decide +kernel) (by decide) (Nat.le_of_ble_eq_true rfl) ?_
  show Z (RX0, cX0_isFieldRight, 5, some .boolean, false) G d _ 0 [(0, .ref (G.1 + a0)), (1, .int (Int32.ofInt l1)), (2, .int (Int32.ofInt l2))] [] cs
  have hP : ∀ (τ1 : Tau) (c1 : List va_E) (r : Int), WT G B τ1 c1 → Fx [0, 4] τ cs τ1 c1 → rng r → ((iv 0 1 r)) → wI G B τ cs [0, 4] (fun r => (iv 0 1 r)) (some (.int (Int32.ofInt r))) c1 := fun τ1 c1 r h1 h2 h3 h4 => ⟨τ1, r, rfl, h3, h1, h2, h4⟩
  have hX : Fx [0, 4] τ cs τ cs := Fx.rf
  skip
  refine z_aload_n dX0_isFieldRight_0 rfl rfl ?_
  refine tw_getO hW ga0 (by decide) (by decide) rfl kX0 fX0_19 dX0_isFieldRight_1 (fun b1 pb1 gb1 => ?_)
  have hX0 := kX4_beginField 1 (Nat.le_refl _) hW gb1 
  refine z_callV (As := []) eX4_beginField sX4_beginField lX0_55 rfl dX0_isFieldRight_4 (hW.ob gb1 (by decide)).choose_spec hX0 (Nat.le_trans (by decide) hd) rfl (Nat.le_of_ble_eq_true rfl) (fun r cs hp => ?_)
  obtain ⟨τ, rfl, hW, k4⟩ := hp
  have hX := hX.tr k4 (by decide)
  have ga0 := k4.1.e ga0 (by decide)
  clear hX0
  refine z_st (st' := []) rfl ?_
  refine z_aload_n dX0_isFieldRight_7 rfl rfl ?_
  refine z_iload_n dX0_isFieldRight_8 rfl rfl ?_
  refine z_iload_n dX0_isFieldRight_9 rfl rfl ?_
  have hX0 := kX4_fieldName 0 (Nat.le_refl _) hW gl1 gl2 
  refine z_callS (As := [_, _]) eX4_fieldName sX4_fieldName lX0_58 dX0_isFieldRight_10 hX0 (Nat.le_trans (by decide) hd) rfl (Nat.le_of_ble_eq_true rfl) (fun r cs1 hp => ?_)
  obtain ⟨hcs, r6, rfl, gr6, n5_0⟩ := hp
  obtain rfl := hcs.symm
  refine z_st (st' := [.int (Int32.ofInt r6), .ref (G.1 + a0)]) rfl ?_
  have hX0 := kX0_isNameRight 2 (Nat.le_refl _) hW ga0 gr6 
  refine z_callV (As := [_]) eX0_isNameRight sX0_isNameRight lX0_48 rfl dX0_isFieldRight_13 (hW.ob ga0 (by decide)).choose_spec hX0 (Nat.le_trans (by decide) hd) rfl (Nat.le_of_ble_eq_true rfl) (fun r cs hp => ?_)
  obtain ⟨τ, r8, rfl, gr8, hW, k9, n7_0⟩ := hp
  have hX := hX.tr k9 (by decide)
  have ga0 := k9.1.e ga0 (by decide)
  clear hX0
  refine z_st (st' := [.int (Int32.ofInt r8)]) rfl ?_
  refine i_if_eq (tgt := 28) dX0_isFieldRight_16 (by decide) gr8 (fun h10 => ?_) (fun h10 => ?_)
  · refine z_iconst (v := Int32.ofInt 0) dX0_isFieldRight_28 rfl ?_
    exact z_ireturn dX0_isFieldRight_29 rfl (nar01 (b01 ⟨by decide, by decide⟩)) (hP _ _ _ hW hX (show rng 0 from ⟨by decide, by decide⟩) (by omega))
  · refine z_aload_n dX0_isFieldRight_19 rfl rfl ?_
    refine z_bipush (v := Int32.ofInt 58) dX0_isFieldRight_20 (by decide) ?_
    have hX0 := kX0_skips 1 (Nat.le_refl _) hW ga0 (show rng 58 from ⟨by decide, by decide⟩) 
    refine z_callV (As := [_]) eX0_skips sX0_skips lX0_32 rfl dX0_isFieldRight_22 (hW.ob ga0 (by decide)).choose_spec hX0 (Nat.le_trans (by decide) hd) rfl (Nat.le_of_ble_eq_true rfl) (fun r cs hp => ?_)
    obtain ⟨τ, r12, rfl, gr12, hW, k13, n11_0⟩ := hp
    have hX := hX.tr k13 (by decide)
    have ga0 := k13.1.e ga0 (by decide)
    clear hX0
    refine z_st (st' := [.int (Int32.ofInt r12)]) rfl ?_
    refine i_if_ne (tgt := 30) dX0_isFieldRight_25 (by decide) gr12 (fun h14 => ?_) (fun h14 => ?_)
    · refine z_aload_n dX0_isFieldRight_30 rfl rfl ?_
      refine tw_getO hW ga0 (by decide) (by decide) rfl kX0 fX0_15 dX0_isFieldRight_31 (fun b15 pb15 gb15 => ?_)
      have gb15 : oT τ b15 5 := ⟨_, gb15⟩
      refine z_aload_n dX0_isFieldRight_34 rfl rfl ?_
      refine tw_getI hW ga0 (by decide) (by decide) rfl kX0 fX0_9 dX0_isFieldRight_35 (fun x16 _ vx16 gx16 => ?_)
      have hX0 := kX5_at 0 (Nat.le_refl _) hW gb15 gx16 
      refine z_callV (As := [_]) eX5_at sX5_at lX0_62 rfl dX0_isFieldRight_38 (hW.os gb15).choose_spec hX0 (Nat.le_trans (by decide) hd) rfl (Nat.le_of_ble_eq_true rfl) (fun r cs1 hp => ?_)
      obtain ⟨hcs, r18, rfl, gr18, n17_0⟩ := hp
      obtain rfl := hcs.symm
      refine z_st (st' := [.int (Int32.ofInt r18)]) rfl ?_
      have hX0 := kX0_shapeOf 0 (Nat.le_refl _) hW gr18 
      refine z_callS (As := [_]) eX0_shapeOf sX0_shapeOf lX0_66 dX0_isFieldRight_41 hX0 (Nat.le_trans (by decide) hd) rfl (Nat.le_of_ble_eq_true rfl) (fun r cs1 hp => ?_)
      obtain ⟨hcs, r20, rfl, gr20, _⟩ := hp
      obtain rfl := hcs.symm
      refine z_st (st' := [.int (Int32.ofInt r20)]) rfl ?_
      refine z_istore_n dX0_isFieldRight_44 rfl (by decide) ?_
      refine z_loc (L' := [(0, .ref (G.1 + a0)), (1, .int (Int32.ofInt l1)), (2, .int (Int32.ofInt l2)), (3, .int (Int32.ofInt r20))]) (List.forall_mem_cons.mpr ⟨rfl, (List.forall_mem_cons.mpr ⟨rfl, (List.forall_mem_cons.mpr ⟨rfl, (List.forall_mem_cons.mpr ⟨rfl, (fun _ h => nomatch h)⟩)⟩)⟩)⟩) ?_
      refine z_iload_n dX0_isFieldRight_45 rfl rfl ?_
      refine i_if_ne (tgt := 51) dX0_isFieldRight_46 (by decide) gr20 (fun h21 => ?_) (fun h21 => ?_)
      · refine z_aload_n dX0_isFieldRight_51 rfl rfl ?_
        refine z_dup dX0_isFieldRight_52 rfl ?_
        refine tw_getI hW ga0 (by decide) (by decide) rfl kX0 fX0_9 dX0_isFieldRight_53 (fun x22 _ vx22 gx22 => ?_)
        refine z_iconst (v := Int32.ofInt 1) dX0_isFieldRight_56 rfl ?_
        refine tw_iadd dX0_isFieldRight_57 (fun z23 gz23 ez23 => ?_)
        first | have ez23 := ez23 ⟨by omega, by omega⟩ | clear ez23
        refine tw_putI hW hX ga0 (by decide) (by decide) rfl kX0 fX0_9 dX0_isFieldRight_58 rfl rfl rfl (any_ok _) (by decide) (fun c1 q _ _ => nT hW ga0 (by decide) c1 q) (fun cs hW hX _ _ _ => ?_)
        refine z_aload_n dX0_isFieldRight_61 rfl rfl ?_
        refine tw_getO hW ga0 (by decide) (by decide) rfl kX0 fX0_19 dX0_isFieldRight_62 (fun b25 pb25 gb25 => ?_)
        refine z_iload_n dX0_isFieldRight_65 rfl rfl ?_
        refine z_iload_n dX0_isFieldRight_66 rfl rfl ?_
        refine z_iload_n dX0_isFieldRight_67 rfl rfl ?_
        have hX0 := kX4_putShape 1 (Nat.le_refl _) hW gb25 gl1 gl2 gr20 
        refine z_callV (As := [_, _, _]) eX4_putShape sX4_putShape lX0_69 rfl dX0_isFieldRight_68 (hW.ob gb25 (by decide)).choose_spec hX0 (Nat.le_trans (by decide) hd) rfl (Nat.le_of_ble_eq_true rfl) (fun r cs hp => ?_)
        obtain ⟨τ, rfl, hW, k28⟩ := hp
        have hX := hX.tr k28 (by decide)
        have ga0 := k28.1.e ga0 (by decide)
        clear hX0
        refine z_st (st' := []) rfl ?_
        refine z_iload_n dX0_isFieldRight_71 rfl rfl ?_
        refine z_iconst (v := Int32.ofInt 1) dX0_isFieldRight_72 rfl ?_
        refine i_icmp_eq (tgt := 81) dX0_isFieldRight_73 (by decide) gr20 (show rng 1 from ⟨by decide, by decide⟩) (fun h29 => ?_) (fun h29 => ?_)
        · refine z_loc (L' := [(0, .ref (G.1 + a0)), (1, .int (Int32.ofInt l1)), (2, .int (Int32.ofInt l2)), (3, .int (Int32.ofInt r20))]) (List.forall_mem_cons.mpr ⟨rfl, (List.forall_mem_cons.mpr ⟨rfl, (List.forall_mem_cons.mpr ⟨rfl, (List.forall_mem_cons.mpr ⟨rfl, (fun _ h => nomatch h)⟩)⟩)⟩)⟩) ?_
          exact bX0_isFieldRight_81 hd hW hX ga0 gl1 gl2 gr20   hP 
        · refine z_iload_n dX0_isFieldRight_76 rfl rfl ?_
          refine z_iconst (v := Int32.ofInt 2) dX0_isFieldRight_77 rfl ?_
          refine i_icmp_ne (tgt := 85) dX0_isFieldRight_78 (by decide) gr20 (show rng 2 from ⟨by decide, by decide⟩) (fun h30 => ?_) (fun h30 => ?_)
          · refine z_iconst (v := Int32.ofInt 0) dX0_isFieldRight_85 rfl ?_
            refine z_loc (L' := [(0, .ref (G.1 + a0)), (1, .int (Int32.ofInt l1)), (2, .int (Int32.ofInt l2)), (3, .int (Int32.ofInt r20))]) (List.forall_mem_cons.mpr ⟨rfl, (List.forall_mem_cons.mpr ⟨rfl, (List.forall_mem_cons.mpr ⟨rfl, (List.forall_mem_cons.mpr ⟨rfl, (fun _ h => nomatch h)⟩)⟩)⟩)⟩) ?_
            exact bX0_isFieldRight_86 hd hW hX ga0 gl1 gl2 gr20 (show rng 0 from ⟨by decide, by decide⟩) ⟨by decide, by decide⟩   hP 
          · refine z_loc (L' := [(0, .ref (G.1 + a0)), (1, .int (Int32.ofInt l1)), (2, .int (Int32.ofInt l2)), (3, .int (Int32.ofInt r20))]) (List.forall_mem_cons.mpr ⟨rfl, (List.forall_mem_cons.mpr ⟨rfl, (List.forall_mem_cons.mpr ⟨rfl, (List.forall_mem_cons.mpr ⟨rfl, (fun _ h => nomatch h)⟩)⟩)⟩)⟩) ?_
            exact bX0_isFieldRight_81 hd hW hX ga0 gl1 gl2 gr20   hP 
      · refine z_iconst (v := Int32.ofInt 0) dX0_isFieldRight_49 rfl ?_
        exact z_ireturn dX0_isFieldRight_50 rfl (nar01 (b01 ⟨by decide, by decide⟩)) (hP _ _ _ hW hX (show rng 0 from ⟨by decide, by decide⟩) (by omega))
    · refine z_iconst (v := Int32.ofInt 0) dX0_isFieldRight_28 rfl ?_
      exact z_ireturn dX0_isFieldRight_29 rfl (nar01 (b01 ⟨by decide, by decide⟩)) (hP _ _ _ hW hX (show rng 0 from ⟨by decide, by decide⟩) (by omega))
