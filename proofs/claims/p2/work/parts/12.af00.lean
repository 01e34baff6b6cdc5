set_option maxRecDepth 100000 in
set_option maxHeartbeats 4000000 in
theorem kX10_classes {G : xG} {B : Nat × Nat} {τ : Tau} {cs : List va_E} {a0 pa0 : Nat} (d : Nat) (hd : 12 ≤ d) (hW : WT G B τ cs) (ga0 : τ a0 = some (.inl (10, pa0)))  (hBB : B.1 + 20 ≤ 600000 ∧ B.2 + 1200 ≤ 7302250) : X G yX10_classes cX10_classes 3 (some .int) d [.ref (G.1 + a0)] cs (wI G (B.1 + 20, B.2 + 1200) τ cs [0, 1, 4, 5, 10] (fun r => True)) := by
  refine X.of false (by decide +kernel) (by decide) (Nat.le_of_ble_eq_true rfl) ?_
  show Z (RX10, cX10_classes, 3, some .int, false) G d _ 0 [(0, .ref (G.1 + a0))] [] cs
  have hP : ∀ (τ1 : Tau) (c1 : List va_E) (r : Int), WT G (B.1 + 20, B.2 + 1200) τ1 c1 → Fx [0, 1, 4, 5, 10] τ cs τ1 c1 → rng r → (True) → wI G (B.1 + 20, B.2 + 1200) τ cs [0, 1, 4, 5, 10] (fun r => True) (some (.int (Int32.ofInt r))) c1 := fun τ1 c1 r h1 h2 h3 h4 => ⟨τ1, r, rfl, h3, h1, h2, h4⟩
  have hX : Fx [0, 1, 4, 5, 10] τ cs τ cs := Fx.rf
  skip
  obtain ⟨b1, eb1⟩ : ∃ b : Nat, b = cs.length := ⟨_, rfl⟩
  refine z_new (fs := [.null, .null, .int 0]) kX0 nX10_63 aX0 bX0 dX10_classes_0 (by decide +kernel) (by have := hW.2.2.2.2.2.2; unfold rho1 rho2 at this; omega) ?_
  rw [← eb1]
  have hWr : WT G (B.1 + 1, B.2 + 3) τ (cs ++ [.inr (0, [.null, .null, .int 0])]) := hW.raw rfl rfl (by show _ ≤ 600000; omega) (by show _ ≤ 7302250; omega)
  refine z_dup dX10_classes_3 rfl ?_
  refine z_aload_n dX10_classes_4 rfl rfl ?_
  refine tw_getO hWr ga0 (by decide) (by decide) rfl kX10 fX10_12 dX10_classes_5 (fun b2 pb2 gb2 => ?_)
  have gb2 : oT τ b2 5 := ⟨_, gb2⟩
  refine z_aload_n dX10_classes_8 rfl rfl ?_
  refine tw_getO hWr ga0 (by decide) (by decide) rfl kX10 fX10_36 dX10_classes_9 (fun b3 pb3 gb3 => ?_)
  have hX0 := kX0_init 1 (Nat.le_refl _) hW gb2 gb3  (by omega)
  rw [← eb1] at hX0
  refine z_callI (As := [_, _]) eX0_init sX0_init lX10_65 dX10_classes_12 hX0 (Nat.le_trans (by decide) hd) rfl (Nat.le_of_ble_eq_true rfl) (fun r cs hp => ?_)
  obtain ⟨rfl, τ, pb1, hW, k4, gb1⟩ := hp
  obtain ⟨B1, hW, eB1, eB2⟩ : ∃ B2 : Nat × Nat, WT G B2 τ cs ∧ B2.1 = B.1 + 1 ∧ B2.2 = B.2 + 3 := ⟨_, hW, rfl, rfl⟩
  have hX := hX.tr k4 (by decide)
  have ga0 := k4.1.e ga0 (by decide)
  clear hX0
  refine z_st (st' := [.ref (G.1 + b1)]) rfl ?_
  have hX0 := kX0_firstWrong 7 (Nat.le_refl _) hW gb1 
  refine z_callV (As := []) eX0_firstWrong sX0_firstWrong lX10_68 rfl dX10_classes_15 (hW.ob gb1 (by decide)).choose_spec hX0 (Nat.le_trans (by decide) hd) rfl (Nat.le_of_ble_eq_true rfl) (fun r cs hp => ?_)
  obtain ⟨τ, r6, rfl, gr6, hW, k7, _⟩ := hp
  have hX := hX.tr k7 (by decide)
  have ga0 := k7.1.e ga0 (by decide)
  clear hX0
  refine z_st (st' := [.int (Int32.ofInt r6)]) rfl ?_
  refine z_istore_n dX10_classes_18 rfl (by decide) ?_
  refine z_loc (L' := [(0, .ref (G.1 + a0)), (1, .int (Int32.ofInt r6))]) (List.forall_mem_cons.mpr ⟨rfl, (List.forall_mem_cons.mpr ⟨rfl, (fun _ h => nomatch h)⟩)⟩) ?_
  refine z_aload_n dX10_classes_19 rfl rfl ?_
  refine tw_getO hW ga0 (by decide) (by decide) rfl kX10 fX10_12 dX10_classes_20 (fun b8 pb8 gb8 => ?_)
  have gb8 : oT τ b8 5 := ⟨_, gb8⟩
  have hX0 := kX5_clear 0 (Nat.le_refl _) hW gb8 
  refine z_callV (As := []) eX5_clear sX5_clear lX10_72 rfl dX10_classes_23 (hW.os gb8).choose_spec hX0 (Nat.le_trans (by decide) hd) rfl (Nat.le_of_ble_eq_true rfl) (fun r cs hp => ?_)
  obtain ⟨τ, rfl, hW, k11⟩ := hp
  have hX := hX.tr k11 (by decide)
  have ga0 := k11.1.e ga0 (by decide)
  clear hX0
  refine z_st (st' := []) rfl ?_
  refine z_iload_n dX10_classes_26 rfl rfl ?_
  refine z_iconst (v := Int32.ofInt (-1)) dX10_classes_27 rfl ?_
  refine i_icmp_eq (tgt := 35) dX10_classes_28 (by decide) gr6 (show rng (-1) from ⟨by decide, by decide⟩) (fun h12 => ?_) (fun h12 => ?_)
  · refine z_aload_n dX10_classes_35 rfl rfl ?_
    refine tw_getO hW ga0 (by decide) (by decide) rfl kX10 fX10_32 dX10_classes_36 (fun b13 pb13 gb13 => ?_)
    refine z_astore_n dX10_classes_39 rfl (by decide) ?_
    refine z_loc (L' := [(0, .ref (G.1 + a0)), (1, .int (Int32.ofInt r6)), (2, .ref (G.1 + b13))]) (List.forall_mem_cons.mpr ⟨rfl, (List.forall_mem_cons.mpr ⟨rfl, (List.forall_mem_cons.mpr ⟨rfl, (fun _ h => nomatch h)⟩)⟩)⟩) ?_
    refine z_aload_n dX10_classes_40 rfl rfl ?_
    refine z_aload_n dX10_classes_41 rfl rfl ?_
    refine tw_getO hW ga0 (by decide) (by decide) rfl kX10 fX10_36 dX10_classes_42 (fun b14 pb14 gb14 => ?_)
    refine tw_putR (t := .inl (4, 0)) hW hX ga0 (by decide) (by decide) rfl kX10 fX10_32 dX10_classes_45 rfl rfl rfl ⟨_, gb14⟩ (by decide) (fun c1 q _ => nT hW ga0 (by decide) c1 q) (fun cs hW hX => ?_)
    refine z_aload_n dX10_classes_48 rfl rfl ?_
    refine z_aload_n dX10_classes_49 rfl rfl ?_
    refine tw_putR (t := .inl (4, 0)) hW hX ga0 (by decide) (by decide) rfl kX10 fX10_36 dX10_classes_50 rfl rfl rfl ⟨_, gb13⟩ (by decide) (fun c1 q _ => nT hW ga0 (by decide) c1 q) (fun cs hW hX => ?_)
    refine z_aload_n dX10_classes_53 rfl rfl ?_
    refine tw_getO hW ga0 (by decide) (by decide) rfl kX10 fX10_42 dX10_classes_54 (fun b15 pb15 gb15 => ?_)
    have hX0 := kX1_clear 0 (Nat.le_refl _) hW gb15 
    refine z_callV (As := []) eX1_clear sX1_clear lX10_75 rfl dX10_classes_57 (hW.ob gb15 (by decide)).choose_spec hX0 (Nat.le_trans (by decide) hd) rfl (Nat.le_of_ble_eq_true rfl) (fun r cs hp => ?_)
    obtain ⟨τ, rfl, hW, k18⟩ := hp
    have hX := hX.tr k18 (by decide)
    have ga0 := k18.1.e ga0 (by decide)
    have gb13 := k18.1.e gb13 (by decide)
    clear hX0
    refine z_st (st' := []) rfl ?_
    refine z_aload_n dX10_classes_60 rfl rfl ?_
    refine tw_getO hW ga0 (by decide) (by decide) rfl kX10 fX10_46 dX10_classes_61 (fun b19 pb19 gb19 => ?_)
    have hX0 := kX1_clear 0 (Nat.le_refl _) hW gb19 
    refine z_callV (As := []) eX1_clear sX1_clear lX10_75 rfl dX10_classes_64 (hW.ob gb19 (by decide)).choose_spec hX0 (Nat.le_trans (by decide) hd) rfl (Nat.le_of_ble_eq_true rfl) (fun r cs hp => ?_)
    obtain ⟨τ, rfl, hW, k22⟩ := hp
    have hX := hX.tr k22 (by decide)
    have ga0 := k22.1.e ga0 (by decide)
    have gb13 := k22.1.e gb13 (by decide)
    clear hX0
    refine z_st (st' := []) rfl ?_
    refine z_aload_n dX10_classes_67 rfl rfl ?_
    refine tw_getO hW ga0 (by decide) (by decide) rfl kX10 fX10_23 dX10_classes_68 (fun b23 pb23 gb23 => ?_)
    have gb23 : oT τ b23 5 := ⟨_, gb23⟩
    have hX0 := kX5_clear 0 (Nat.le_refl _) hW gb23 
    refine z_callV (As := []) eX5_clear sX5_clear lX10_72 rfl dX10_classes_71 (hW.os gb23).choose_spec hX0 (Nat.le_trans (by decide) hd) rfl (Nat.le_of_ble_eq_true rfl) (fun r cs hp => ?_)
    obtain ⟨τ, rfl, hW, k26⟩ := hp
    have hX := hX.tr k26 (by decide)
    have ga0 := k26.1.e ga0 (by decide)
    have gb13 := k26.1.e gb13 (by decide)
    clear hX0
    refine z_st (st' := []) rfl ?_
    refine z_aload_n dX10_classes_74 rfl rfl ?_
    refine tw_getO hW ga0 (by decide) (by decide) rfl kX10 fX10_32 dX10_classes_75 (fun b27 pb27 gb27 => ?_)
    have hX0 := kX4_size 0 (Nat.le_refl _) hW gb27 
    refine z_callV (As := []) eX4_size sX4_size lX10_76 rfl dX10_classes_78 (hW.ob gb27 (by decide)).choose_spec hX0 (Nat.le_trans (by decide) hd) rfl (Nat.le_of_ble_eq_true rfl) (fun r cs1 hp => ?_)
    obtain ⟨hcs, r29, rfl, gr29, n28_0⟩ := hp
    obtain rfl := hcs.symm
    refine z_st (st' := [.int (Int32.ofInt r29)]) rfl ?_
    exact z_ireturn dX10_classes_81 rfl rfl (hP _ _ _ (hW.up (by show _ ≤ B.1 + _; omega) (by show _ ≤ B.2 + _; omega) hBB.1 hBB.2) hX gr29 trivial)
  · refine z_iconst (v := Int32.ofInt (-1)) dX10_classes_31 rfl ?_
    refine z_iload_n dX10_classes_32 rfl rfl ?_
    refine tw_isub dX10_classes_33 (fun z30 gz30 ez30 => ?_)
    first | have ez30 := ez30 ⟨by omega, by omega⟩ | clear ez30
    exact z_ireturn dX10_classes_34 rfl rfl (hP _ _ _ (hW.up (by show _ ≤ B.1 + _; omega) (by show _ ≤ B.2 + _; omega) hBB.1 hBB.2) hX gz30 trivial)

set_option maxRecDepth 100000 in
set_option maxHeartbeats 4000000 in
theorem kX10_write {G : xG} {B : Nat × Nat} {τ : Tau} {cs : List va_E} {a0 pa0 : Nat} {l1 : Int} {l2 : Int} (d : Nat) (hd : 75 ≤ d) (hW : WT G B τ cs) (ga0 : τ a0 = some (.inl (10, pa0))) (gl1 : rng l1) (gl2 : rng l2)  (hBB : B.1 + 20 ≤ 600000 ∧ B.2 + 1200 ≤ 7302250) : X G yX10_write cX10_write 5 (some .int) d [.ref (G.1 + a0), .int (Int32.ofInt l1), .int (Int32.ofInt l2)] cs (wI G (B.1 + 20, B.2 + 1200) τ cs [5, 8, 10] (fun r => True)) := by
  refine X.of false (by decide +kernel) (by decide) (Nat.le_of_ble_eq_true rfl) ?_
  show Z (RX10, cX10_write, 5, some .int, false) G d _ 0 [(0, .ref (G.1 + a0)), (1, .int (Int32.ofInt l1)), (2, .int (Int32.ofInt l2))] [] cs
  have hP : ∀ (τ1 : Tau) (c1 : List va_E) (r : Int), WT G (B.1 + 20, B.2 + 1200) τ1 c1 → Fx [5, 8, 10] τ cs τ1 c1 → rng r → (True) → wI G (B.1 + 20, B.2 + 1200) τ cs [5, 8, 10] (fun r => True) (some (.int (Int32.ofInt r))) c1 := fun τ1 c1 r h1 h2 h3 h4 => ⟨τ1, r, rfl, h3, h1, h2, h4⟩
  have hX : Fx [5, 8, 10] τ cs τ cs := Fx.rf
  skip
  refine z_aload_n dX10_write_0 rfl rfl ?_
  refine tw_getO hW ga0 (by decide) (by decide) rfl kX10 fX10_42 dX10_write_1 (fun b1 pb1 gb1 => ?_)
  refine z_iload_n dX10_write_4 rfl rfl ?_
  have hX0 := kX1_has 0 (Nat.le_refl _) hW gb1 gl1 
  refine z_callV (As := [_]) eX1_has sX1_has lX10_94 rfl dX10_write_5 (hW.ob gb1 (by decide)).choose_spec hX0 (Nat.le_trans (by decide) hd) rfl (Nat.le_of_ble_eq_true rfl) (fun r cs1 hp => ?_)
  obtain ⟨hcs, r3, rfl, gr3, ⟨n2_0, n2_1⟩⟩ := hp
  obtain rfl := hcs.symm
  refine z_st (st' := [.int (Int32.ofInt r3)]) rfl ?_
  refine i_if_eq (tgt := 20) dX10_write_8 (by decide) gr3 (fun h4 => ?_) (fun h4 => ?_)
  · refine z_iconst (v := Int32.ofInt (-1)) dX10_write_20 rfl ?_
    exact z_ireturn dX10_write_21 rfl rfl (hP _ _ _ (hW.up (by show _ ≤ B.1 + _; omega) (by show _ ≤ B.2 + _; omega) hBB.1 hBB.2) hX (show rng (-1) from ⟨by decide, by decide⟩) trivial)
  · refine z_iload_n dX10_write_11 rfl rfl ?_
    refine i_if_lt (tgt := 20) dX10_write_12 (by decide) gl2 (fun h5 => ?_) (fun h5 => ?_)
    · refine z_iconst (v := Int32.ofInt (-1)) dX10_write_20 rfl ?_
      exact z_ireturn dX10_write_21 rfl rfl (hP _ _ _ (hW.up (by show _ ≤ B.1 + _; omega) (by show _ ≤ B.2 + _; omega) hBB.1 hBB.2) hX (show rng (-1) from ⟨by decide, by decide⟩) trivial)
    · refine z_iload_n dX10_write_15 rfl rfl ?_
      refine z_iconst (v := Int32.ofInt 3) dX10_write_16 rfl ?_
      refine i_icmp_le (tgt := 22) dX10_write_17 (by decide) gl2 (show rng 3 from ⟨by decide, by decide⟩) (fun h6 => ?_) (fun h6 => ?_)
      · refine z_aload_n dX10_write_22 rfl rfl ?_
        refine tw_getO hW ga0 (by decide) (by decide) rfl kX10 fX10_26 dX10_write_23 (fun b7 pb7 gb7 => ?_)
        have gb7 : oT τ b7 5 := ⟨_, gb7⟩
        have hX0 := kX5_clear 0 (Nat.le_refl _) hW gb7 
        refine z_callV (As := []) eX5_clear sX5_clear lX10_72 rfl dX10_write_26 (hW.os gb7).choose_spec hX0 (Nat.le_trans (by decide) hd) rfl (Nat.le_of_ble_eq_true rfl) (fun r cs hp => ?_)
        obtain ⟨τ, rfl, hW, k10⟩ := hp
        have hX := hX.tr k10 (by decide)
        have ga0 := k10.1.e ga0 (by decide)
        clear hX0
        refine z_st (st' := []) rfl ?_
        obtain ⟨b11, eb11⟩ : ∃ b : Nat, b = cs.length := ⟨_, rfl⟩
        refine z_new (fs := [.null, .null, .null, .int 0, .int 0, .null, .null, .null, .null, .null, .null, .int 0, .int 0]) kX8 nX10_116 aX8 bX8 dX10_write_29 (by decide +kernel) (by have := hW.2.2.2.2.2.2; unfold rho1 rho2 at this; omega) ?_
        rw [← eb11]
        have hWr : WT G (B.1 + 1, B.2 + 13) τ (cs ++ [.inr (8, [.null, .null, .null, .int 0, .int 0, .null, .null, .null, .null, .null, .null, .int 0, .int 0])]) := hW.raw rfl rfl (by show _ ≤ 600000; omega) (by show _ ≤ 7302250; omega)
        refine z_dup dX10_write_32 rfl ?_
        refine z_aload_n dX10_write_33 rfl rfl ?_
        refine tw_getO hWr ga0 (by decide) (by decide) rfl kX10 fX10_32 dX10_write_34 (fun b12 pb12 gb12 => ?_)
        refine z_aload_n dX10_write_37 rfl rfl ?_
        refine tw_getO hWr ga0 (by decide) (by decide) rfl kX10 fX10_42 dX10_write_38 (fun b13 pb13 gb13 => ?_)
        refine z_aload_n dX10_write_41 rfl rfl ?_
        refine tw_getO hWr ga0 (by decide) (by decide) rfl kX10 fX10_26 dX10_write_42 (fun b14 pb14 gb14 => ?_)
        have gb14 : oT τ b14 5 := ⟨_, gb14⟩
        refine z_iload_n dX10_write_45 rfl rfl ?_
        have hpl := hW.2.1.2.2.2.2.2.2.2.1 _ _ ga0
        refine z_aload_n dX10_write_46 rfl rfl ?_
        refine tw_getI hWr ga0 (by decide) (by decide) rfl kX10 fX10_52 dX10_write_47 (fun x15 _ vx15 gx15 => ?_)
        have hX0 := kX8_init 1 (Nat.le_refl _) hW gb12 gb13 gb14 gl2 gx15 (by omega) (by omega)
        rw [← eb11] at hX0
        refine z_callI (As := [_, _, _, _, _]) eX8_init sX8_init lX10_118 dX10_write_50 hX0 (Nat.le_trans (by decide) hd) rfl (Nat.le_of_ble_eq_true rfl) (fun r cs hp => ?_)
        obtain ⟨rfl, τ, pb11, hW, k16, gb11⟩ := hp
        obtain ⟨B1, hW, eB1, eB2⟩ : ∃ B2 : Nat × Nat, WT G B2 τ cs ∧ B2.1 = B.1 + 7 ∧ B2.2 = B.2 + 260 := ⟨_, hW, rfl, rfl⟩
        have hX := hX.tr k16 (by decide)
        have ga0 := k16.1.e ga0 (by decide)
        clear hX0
        refine z_st (st' := [.ref (G.1 + b11)]) rfl ?_
        refine z_astore_n dX10_write_53 rfl (by decide) ?_
        refine z_loc (L' := [(0, .ref (G.1 + a0)), (1, .int (Int32.ofInt l1)), (2, .int (Int32.ofInt l2)), (3, .ref (G.1 + b11))]) (List.forall_mem_cons.mpr ⟨rfl, (List.forall_mem_cons.mpr ⟨rfl, (List.forall_mem_cons.mpr ⟨rfl, (List.forall_mem_cons.mpr ⟨rfl, (fun _ h => nomatch h)⟩)⟩)⟩)⟩) ?_
        refine z_aload_n dX10_write_54 rfl rfl ?_
        refine z_iload_n dX10_write_55 rfl rfl ?_
        refine z_bipush (v := Int32.ofInt (-2)) dX10_write_56 (by decide) ?_
        refine z_iconst (v := Int32.ofInt 0) dX10_write_58 rfl ?_
        refine z_iconst (v := Int32.ofInt 0) dX10_write_59 rfl ?_
        refine z_iconst (v := Int32.ofInt 0) dX10_write_60 rfl ?_
        have hX0 := kX8_elementA 73 (Nat.le_refl _) hW gb11 gl1 (show rng (-2) from ⟨by decide, by decide⟩) (show rng 0 from ⟨by decide, by decide⟩) (show rng 0 from ⟨by decide, by decide⟩) (show rng 0 from ⟨by decide, by decide⟩) (by omega) (by omega)
        refine z_callVN (As := [_, _, _, _, _]) eX8_element sX8_element lX10_121 rfl dX10_write_61 (hW.ob gb11 (by decide)).choose_spec hX0 (Nat.le_trans (by decide) hd) rfl (Nat.le_of_ble_eq_true rfl) (fun r cs hp => ?_)
        obtain ⟨τ, rfl, hW, k19⟩ := hp
        have hX := hX.tr k19 (by decide)
        have ga0 := k19.1.e ga0 (by decide)
        have gb11 := k19.1.e gb11 (by decide)
        clear hX0
        refine z_st (st' := []) rfl ?_
        refine z_aload_n dX10_write_64 rfl rfl ?_
        have hX0 := kX8_failure 1 (Nat.le_refl _) hW gb11 
        refine z_callV (As := []) eX8_failure sX8_failure lX10_125 rfl dX10_write_65 (hW.ob gb11 (by decide)).choose_spec hX0 (Nat.le_trans (by decide) hd) rfl (Nat.le_of_ble_eq_true rfl) (fun r cs1 hp => ?_)
        obtain ⟨hcs, r21, rfl, gr21, _⟩ := hp
        obtain rfl := hcs.symm
        refine z_st (st' := [.int (Int32.ofInt r21)]) rfl ?_
        refine i_if_eq (tgt := 76) dX10_write_68 (by decide) gr21 (fun h22 => ?_) (fun h22 => ?_)
        · refine z_aload_n dX10_write_76 rfl rfl ?_
          refine tw_getO hW ga0 (by decide) (by decide) rfl kX10 fX10_23 dX10_write_77 (fun b23 pb23 gb23 => ?_)
          have gb23 : oT τ b23 5 := ⟨_, gb23⟩
          refine z_astore dX10_write_80 (by decide) ?_
          refine z_loc (L' := [(0, .ref (G.1 + a0)), (1, .int (Int32.ofInt l1)), (2, .int (Int32.ofInt l2)), (3, .ref (G.1 + b11)), (4, .ref (G.1 + b23))]) (List.forall_mem_cons.mpr ⟨rfl, (List.forall_mem_cons.mpr ⟨rfl, (List.forall_mem_cons.mpr ⟨rfl, (List.forall_mem_cons.mpr ⟨rfl, (List.forall_mem_cons.mpr ⟨rfl, (fun _ h => nomatch h)⟩)⟩)⟩)⟩)⟩) ?_
          refine z_aload_n dX10_write_82 rfl rfl ?_
          refine z_aload_n dX10_write_83 rfl rfl ?_
          refine tw_getO hW ga0 (by decide) (by decide) rfl kX10 fX10_26 dX10_write_84 (fun b24 pb24 gb24 => ?_)
          have gb24 : oT τ b24 5 := ⟨_, gb24⟩
          refine tw_putR (t := .inl (5, 0)) hW hX ga0 (by decide) (by decide) rfl kX10 fX10_23 dX10_write_87 rfl rfl rfl gb24 (by decide) (fun c1 q _ => nT hW ga0 (by decide) c1 q) (fun cs hW hX => ?_)
          refine z_aload_n dX10_write_90 rfl rfl ?_
          refine z_aload dX10_write_91 rfl ?_
          refine tw_putR (t := .inl (5, 0)) hW hX ga0 (by decide) (by decide) rfl kX10 fX10_26 dX10_write_93 rfl rfl rfl gb23 (by decide) (fun c1 q _ => nT hW ga0 (by decide) c1 q) (fun cs hW hX => ?_)
          refine z_aload_n dX10_write_96 rfl rfl ?_
          refine tw_getO hW ga0 (by decide) (by decide) rfl kX10 fX10_23 dX10_write_97 (fun b25 pb25 gb25 => ?_)
          have gb25 : oT τ b25 5 := ⟨_, gb25⟩
          have hX0 := kX5_length 0 (Nat.le_refl _) hW gb25 
          refine z_callV (As := []) eX5_length sX5_length lX10_101 rfl dX10_write_100 (hW.os gb25).choose_spec hX0 (Nat.le_trans (by decide) hd) rfl (Nat.le_of_ble_eq_true rfl) (fun r cs1 hp => ?_)
          obtain ⟨hcs, r27, rfl, gr27, n26_0⟩ := hp
          obtain rfl := hcs.symm
          refine z_st (st' := [.int (Int32.ofInt r27)]) rfl ?_
          exact z_ireturn dX10_write_103 rfl rfl (hP _ _ _ (hW.up (by show _ ≤ B.1 + _; omega) (by show _ ≤ B.2 + _; omega) hBB.1 hBB.2) hX gr27 trivial)
        · refine z_aload_n dX10_write_71 rfl rfl ?_
          have hX0 := kX8_failure 1 (Nat.le_refl _) hW gb11 
          refine z_callV (As := []) eX8_failure sX8_failure lX10_125 rfl dX10_write_72 (hW.ob gb11 (by decide)).choose_spec hX0 (Nat.le_trans (by decide) hd) rfl (Nat.le_of_ble_eq_true rfl) (fun r cs1 hp => ?_)
          obtain ⟨hcs, r29, rfl, gr29, _⟩ := hp
          obtain rfl := hcs.symm
          refine z_st (st' := [.int (Int32.ofInt r29)]) rfl ?_
          exact z_ireturn dX10_write_75 rfl rfl (hP _ _ _ (hW.up (by show _ ≤ B.1 + _; omega) (by show _ ≤ B.2 + _; omega) hBB.1 hBB.2) hX gr29 trivial)
      · refine z_iconst (v := Int32.ofInt (-1)) dX10_write_20 rfl ?_
        exact z_ireturn dX10_write_21 rfl rfl (hP _ _ _ (hW.up (by show _ ≤ B.1 + _; omega) (by show _ ≤ B.2 + _; omega) hBB.1 hBB.2) hX (show rng (-1) from ⟨by decide, by decide⟩) trivial)

set_option maxRecDepth 100000 in
set_option maxHeartbeats 4000000 in
theorem kX10_read {G : xG} {B : Nat × Nat} {τ : Tau} {cs : List va_E} {a0 pa0 : Nat} (d : Nat) (hd : 14 ≤ d) (hW : WT G B τ cs) (ga0 : τ a0 = some (.inl (10, pa0)))  (hBB : B.1 + 20 ≤ 600000 ∧ B.2 + 1200 ≤ 7302250) : X G yX10_read cX10_read 4 (some .int) d [.ref (G.1 + a0)] cs (wI G (B.1 + 20, B.2 + 1200) τ cs [1, 3, 5, 6, 9, 10] (fun r => True)) := by
  refine X.of false (by decide +kernel) (by decide) (Nat.le_of_ble_eq_true rfl) ?_
  show Z (RX10, cX10_read, 4, some .int, false) G d _ 0 [(0, .ref (G.1 + a0))] [] cs
  have hP : ∀ (τ1 : Tau) (c1 : List va_E) (r : Int), WT G (B.1 + 20, B.2 + 1200) τ1 c1 → Fx [1, 3, 5, 6, 9, 10] τ cs τ1 c1 → rng r → (True) → wI G (B.1 + 20, B.2 + 1200) τ cs [1, 3, 5, 6, 9, 10] (fun r => True) (some (.int (Int32.ofInt r))) c1 := fun τ1 c1 r h1 h2 h3 h4 => ⟨τ1, r, rfl, h3, h1, h2, h4⟩
  have hX : Fx [1, 3, 5, 6, 9, 10] τ cs τ cs := Fx.rf
  skip
  refine z_aload_n dX10_read_0 rfl rfl ?_
  refine tw_getO hW ga0 (by decide) (by decide) rfl kX10 fX10_32 dX10_read_1 (fun b1 pb1 gb1 => ?_)
  have hX0 := kX4_size 0 (Nat.le_refl _) hW gb1 
  refine z_callV (As := []) eX4_size sX4_size lX10_76 rfl dX10_read_4 (hW.ob gb1 (by decide)).choose_spec hX0 (Nat.le_trans (by decide) hd) rfl (Nat.le_of_ble_eq_true rfl) (fun r cs1 hp => ?_)
  obtain ⟨hcs, r3, rfl, gr3, n2_0⟩ := hp
  obtain rfl := hcs.symm
  refine z_st (st' := [.int (Int32.ofInt r3)]) rfl ?_
  refine i_if_ne (tgt := 14) dX10_read_7 (by decide) gr3 (fun h4 => ?_) (fun h4 => ?_)
  · obtain ⟨b5, eb5⟩ : ∃ b : Nat, b = cs.length := ⟨_, rfl⟩
    refine z_new (fs := [.null, .null, .null, .int 0, .int 0, .int 0, .int 0]) kX9 nX10_143 aX9 bX9 dX10_read_14 (by decide +kernel) (by have := hW.2.2.2.2.2.2; unfold rho1 rho2 at this; omega) ?_
    rw [← eb5]
    have hWr : WT G (B.1 + 1, B.2 + 7) τ (cs ++ [.inr (9, [.null, .null, .null, .int 0, .int 0, .int 0, .int 0])]) := hW.raw rfl rfl (by show _ ≤ 600000; omega) (by show _ ≤ 7302250; omega)
    refine z_dup dX10_read_17 rfl ?_
    refine z_aload_n dX10_read_18 rfl rfl ?_
    refine tw_getO hWr ga0 (by decide) (by decide) rfl kX10 fX10_12 dX10_read_19 (fun b6 pb6 gb6 => ?_)
    have gb6 : oT τ b6 5 := ⟨_, gb6⟩
    refine z_aload_n dX10_read_22 rfl rfl ?_
    refine tw_getO hWr ga0 (by decide) (by decide) rfl kX10 fX10_19 dX10_read_23 (fun b7 pb7 gb7 => ?_)
    have hX0 := kX9_init 1 (Nat.le_refl _) hW gb6 gb7  (by omega)
    rw [← eb5] at hX0
    refine z_callI (As := [_, _]) eX9_init sX9_init lX10_145 dX10_read_26 hX0 (Nat.le_trans (by decide) hd) rfl (Nat.le_of_ble_eq_true rfl) (fun r cs hp => ?_)
    obtain ⟨rfl, τ, pb5, hW, k8, gb5⟩ := hp
    obtain ⟨B1, hW, eB1, eB2⟩ : ∃ B2 : Nat × Nat, WT G B2 τ cs ∧ B2.1 = B.1 + 1 ∧ B2.2 = B.2 + 7 := ⟨_, hW, rfl, rfl⟩
    have hX := hX.tr k8 (by decide)
    have ga0 := k8.1.e ga0 (by decide)
    clear hX0
    refine z_st (st' := [.ref (G.1 + b5)]) rfl ?_
    have hX0 := kX9_firstWrong 9 (Nat.le_refl _) hW gb5 
    refine z_callV (As := []) eX9_firstWrong sX9_firstWrong lX10_148 rfl dX10_read_29 (hW.ob gb5 (by decide)).choose_spec hX0 (Nat.le_trans (by decide) hd) rfl (Nat.le_of_ble_eq_true rfl) (fun r cs hp => ?_)
    obtain ⟨τ, r10, rfl, gr10, hW, k11, _⟩ := hp
    have hX := hX.tr k11 (by decide)
    have ga0 := k11.1.e ga0 (by decide)
    clear hX0
    refine z_st (st' := [.int (Int32.ofInt r10)]) rfl ?_
    refine z_istore_n dX10_read_32 rfl (by decide) ?_
    refine z_loc (L' := [(0, .ref (G.1 + a0)), (1, .int (Int32.ofInt r10))]) (List.forall_mem_cons.mpr ⟨rfl, (List.forall_mem_cons.mpr ⟨rfl, (fun _ h => nomatch h)⟩)⟩) ?_
    refine z_iload_n dX10_read_33 rfl rfl ?_
    refine z_iconst (v := Int32.ofInt (-1)) dX10_read_34 rfl ?_
    refine i_icmp_ne (tgt := 63) dX10_read_35 (by decide) gr10 (show rng (-1) from ⟨by decide, by decide⟩) (fun h12 => ?_) (fun h12 => ?_)
    · refine z_iconst (v := Int32.ofInt (-1)) dX10_read_63 rfl ?_
      refine z_istore_n dX10_read_64 rfl (by decide) ?_
      refine z_loc (L' := [(0, .ref (G.1 + a0)), (1, .int (Int32.ofInt r10)), (2, .int (Int32.ofInt (-1)))]) (List.forall_mem_cons.mpr ⟨rfl, (List.forall_mem_cons.mpr ⟨rfl, (List.forall_mem_cons.mpr ⟨rfl, (fun _ h => nomatch h)⟩)⟩)⟩) ?_
      refine z_aload_n dX10_read_65 rfl rfl ?_
      refine tw_getO hW ga0 (by decide) (by decide) rfl kX10 fX10_12 dX10_read_66 (fun b13 pb13 gb13 => ?_)
      have gb13 : oT τ b13 5 := ⟨_, gb13⟩
      have hX0 := kX5_clear 0 (Nat.le_refl _) hW gb13 
      refine z_callV (As := []) eX5_clear sX5_clear lX10_72 rfl dX10_read_69 (hW.os gb13).choose_spec hX0 (Nat.le_trans (by decide) hd) rfl (Nat.le_of_ble_eq_true rfl) (fun r cs hp => ?_)
      obtain ⟨τ, rfl, hW, k16⟩ := hp
      have hX := hX.tr k16 (by decide)
      have ga0 := k16.1.e ga0 (by decide)
      clear hX0
      refine z_st (st' := []) rfl ?_
      refine z_iload_n dX10_read_72 rfl rfl ?_
      refine z_iconst (v := Int32.ofInt (-1)) dX10_read_73 rfl ?_
      refine i_icmp_eq (tgt := 81) dX10_read_74 (by decide) gr10 (show rng (-1) from ⟨by decide, by decide⟩) (fun h17 => ?_) (fun h17 => ?_)
      · refine z_iload_n dX10_read_81 rfl rfl ?_
        refine z_iconst (v := Int32.ofInt (-1)) dX10_read_82 rfl ?_
        refine i_icmp_eq (tgt := 99) dX10_read_83 (by decide) (show rng (-1) from ⟨by decide, by decide⟩) (show rng (-1) from ⟨by decide, by decide⟩) (fun h18 => ?_) (fun h18 => ?_)
        · refine z_aload_n dX10_read_99 rfl rfl ?_
          refine tw_getO hW ga0 (by decide) (by decide) rfl kX10 fX10_46 dX10_read_100 (fun b19 pb19 gb19 => ?_)
          refine z_astore_n dX10_read_103 rfl (by decide) ?_
          refine z_loc (L' := [(0, .ref (G.1 + a0)), (1, .int (Int32.ofInt r10)), (2, .int (Int32.ofInt (-1))), (3, .ref (G.1 + b19))]) (List.forall_mem_cons.mpr ⟨rfl, (List.forall_mem_cons.mpr ⟨rfl, (List.forall_mem_cons.mpr ⟨rfl, (List.forall_mem_cons.mpr ⟨rfl, (fun _ h => nomatch h)⟩)⟩)⟩)⟩) ?_
          refine z_aload_n dX10_read_104 rfl rfl ?_
          refine z_aload_n dX10_read_105 rfl rfl ?_
          refine tw_getO hW ga0 (by decide) (by decide) rfl kX10 fX10_49 dX10_read_106 (fun b20 pb20 gb20 => ?_)
          refine tw_putR (t := .inl (1, 0)) hW hX ga0 (by decide) (by decide) rfl kX10 fX10_46 dX10_read_109 rfl rfl rfl ⟨_, gb20⟩ (by decide) (fun c1 q _ => nT hW ga0 (by decide) c1 q) (fun cs hW hX => ?_)
          refine z_aload_n dX10_read_112 rfl rfl ?_
          refine z_aload_n dX10_read_113 rfl rfl ?_
          refine tw_putR (t := .inl (1, 0)) hW hX ga0 (by decide) (by decide) rfl kX10 fX10_49 dX10_read_114 rfl rfl rfl ⟨_, gb19⟩ (by decide) (fun c1 q _ => nT hW ga0 (by decide) c1 q) (fun cs hW hX => ?_)
          refine z_aload_n dX10_read_117 rfl rfl ?_
          refine tw_getO hW ga0 (by decide) (by decide) rfl kX10 fX10_46 dX10_read_118 (fun b21 pb21 gb21 => ?_)
          have hX0 := kX1_size 0 (Nat.le_refl _) hW gb21 
          refine z_callV (As := []) eX1_size sX1_size lX10_158 rfl dX10_read_121 (hW.ob gb21 (by decide)).choose_spec hX0 (Nat.le_trans (by decide) hd) rfl (Nat.le_of_ble_eq_true rfl) (fun r cs1 hp => ?_)
          obtain ⟨hcs, r23, rfl, gr23, n22_0⟩ := hp
          obtain rfl := hcs.symm
          refine z_st (st' := [.int (Int32.ofInt r23)]) rfl ?_
          exact z_ireturn dX10_read_124 rfl rfl (hP _ _ _ (hW.up (by show _ ≤ B.1 + _; omega) (by show _ ≤ B.2 + _; omega) hBB.1 hBB.2) hX gr23 trivial)
        · refine z_sipush (v := Int32.ofInt (-10001)) dX10_read_86 (by decide) ?_
          refine z_aload_n dX10_read_89 rfl rfl ?_
          refine tw_getO hW ga0 (by decide) (by decide) rfl kX10 fX10_19 dX10_read_90 (fun b24 pb24 gb24 => ?_)
          refine z_iload_n dX10_read_93 rfl rfl ?_
          have hX0 := kX6_beginOf 1 (Nat.le_refl _) hW gb24 (show rng (-1) from ⟨by decide, by decide⟩) 
          refine z_callV (As := [_]) eX6_beginOf sX6_beginOf lX10_155 rfl dX10_read_94 (hW.ob gb24 (by decide)).choose_spec hX0 (Nat.le_trans (by decide) hd) rfl (Nat.le_of_ble_eq_true rfl) (fun r cs1 hp => ?_)
          obtain ⟨hcs, r26, rfl, gr26, _⟩ := hp
          obtain rfl := hcs.symm
          refine z_st (st' := [.int (Int32.ofInt r26), .int (Int32.ofInt (-10001))]) rfl ?_
          refine tw_isub dX10_read_97 (fun z27 gz27 ez27 => ?_)
          first | have ez27 := ez27 ⟨by omega, by omega⟩ | clear ez27
          exact z_ireturn dX10_read_98 rfl rfl (hP _ _ _ (hW.up (by show _ ≤ B.1 + _; omega) (by show _ ≤ B.2 + _; omega) hBB.1 hBB.2) hX gz27 trivial)
      · refine z_iconst (v := Int32.ofInt (-1)) dX10_read_77 rfl ?_
        refine z_iload_n dX10_read_78 rfl rfl ?_
        refine tw_isub dX10_read_79 (fun z28 gz28 ez28 => ?_)
        first | have ez28 := ez28 ⟨by omega, by omega⟩ | clear ez28
        exact z_ireturn dX10_read_80 rfl rfl (hP _ _ _ (hW.up (by show _ ≤ B.1 + _; omega) (by show _ ≤ B.2 + _; omega) hBB.1 hBB.2) hX gz28 trivial)
    · obtain ⟨b29, eb29⟩ : ∃ b : Nat, b = cs.length := ⟨_, rfl⟩
      refine z_new (fs := [.null, .null, .null, .null, .null, .null, .null, .null, .null, .null, .null, .null]) kX3 nX10_149 aX3 bX3 dX10_read_38 (by decide +kernel) (by have := hW.2.2.2.2.2.2; unfold rho1 rho2 at this; omega) ?_
      rw [← eb29]
      have hWr : WT G (B1.1 + 1, B1.2 + 12) τ (cs ++ [.inr (3, [.null, .null, .null, .null, .null, .null, .null, .null, .null, .null, .null, .null])]) := hW.raw rfl rfl (by show _ ≤ 600000; omega) (by show _ ≤ 7302250; omega)
      refine z_dup dX10_read_41 rfl ?_
      refine z_aload_n dX10_read_42 rfl rfl ?_
      refine tw_getO hWr ga0 (by decide) (by decide) rfl kX10 fX10_32 dX10_read_43 (fun b30 pb30 gb30 => ?_)
      refine z_aload_n dX10_read_46 rfl rfl ?_
      refine tw_getO hWr ga0 (by decide) (by decide) rfl kX10 fX10_19 dX10_read_47 (fun b31 pb31 gb31 => ?_)
      refine z_aload_n dX10_read_50 rfl rfl ?_
      refine tw_getO hWr ga0 (by decide) (by decide) rfl kX10 fX10_49 dX10_read_51 (fun b32 pb32 gb32 => ?_)
      have hX0 := kX3_init 2 (Nat.le_refl _) hW gb30 gb31 gb32  (by omega)
      rw [← eb29] at hX0
      refine z_callI (As := [_, _, _]) eX3_init sX3_init lX10_151 dX10_read_54 hX0 (Nat.le_trans (by decide) hd) rfl (Nat.le_of_ble_eq_true rfl) (fun r cs hp => ?_)
      obtain ⟨rfl, τ, pb29, hW, k33, gb29⟩ := hp
      obtain ⟨B2, hW, eB1, eB2⟩ : ∃ B2 : Nat × Nat, WT G B2 τ cs ∧ B2.1 = B1.1 + 10 ∧ B2.2 = B1.2 + 1100 := ⟨_, hW, rfl, rfl⟩
      have hX := hX.tr k33 (by decide)
      have ga0 := k33.1.e ga0 (by decide)
      clear hX0
      refine z_st (st' := [.ref (G.1 + b29)]) rfl ?_
      have hX0 := kX3_firstWrong 9 (Nat.le_refl _) hW gb29 
      refine z_callV (As := []) eX3_firstWrong sX3_firstWrong lX10_154 rfl dX10_read_57 (hW.ob gb29 (by decide)).choose_spec hX0 (Nat.le_trans (by decide) hd) rfl (Nat.le_of_ble_eq_true rfl) (fun r cs hp => ?_)
      obtain ⟨τ, r35, rfl, gr35, hW, k36, _⟩ := hp
      have hX := hX.tr k36 (by decide)
      have ga0 := k36.1.e ga0 (by decide)
      clear hX0
      refine z_st (st' := [.int (Int32.ofInt r35)]) rfl ?_
      refine z_goto (tgt := 64) dX10_read_60 (by decide) ?_
      refine z_istore_n dX10_read_64 rfl (by decide) ?_
      refine z_loc (L' := [(0, .ref (G.1 + a0)), (1, .int (Int32.ofInt r10)), (2, .int (Int32.ofInt r35))]) (List.forall_mem_cons.mpr ⟨rfl, (List.forall_mem_cons.mpr ⟨rfl, (List.forall_mem_cons.mpr ⟨rfl, (fun _ h => nomatch h)⟩)⟩)⟩) ?_
      refine z_aload_n dX10_read_65 rfl rfl ?_
      refine tw_getO hW ga0 (by decide) (by decide) rfl kX10 fX10_12 dX10_read_66 (fun b37 pb37 gb37 => ?_)
      have gb37 : oT τ b37 5 := ⟨_, gb37⟩
      have hX0 := kX5_clear 0 (Nat.le_refl _) hW gb37 
      refine z_callV (As := []) eX5_clear sX5_clear lX10_72 rfl dX10_read_69 (hW.os gb37).choose_spec hX0 (Nat.le_trans (by decide) hd) rfl (Nat.le_of_ble_eq_true rfl) (fun r cs hp => ?_)
      obtain ⟨τ, rfl, hW, k40⟩ := hp
      have hX := hX.tr k40 (by decide)
      have ga0 := k40.1.e ga0 (by decide)
      clear hX0
      refine z_st (st' := []) rfl ?_
      refine z_iload_n dX10_read_72 rfl rfl ?_
      refine z_iconst (v := Int32.ofInt (-1)) dX10_read_73 rfl ?_
      refine i_icmp_eq (tgt := 81) dX10_read_74 (by decide) gr10 (show rng (-1) from ⟨by decide, by decide⟩) (fun h41 => ?_) (fun h41 => ?_)
      · refine z_iload_n dX10_read_81 rfl rfl ?_
        refine z_iconst (v := Int32.ofInt (-1)) dX10_read_82 rfl ?_
        refine i_icmp_eq (tgt := 99) dX10_read_83 (by decide) gr35 (show rng (-1) from ⟨by decide, by decide⟩) (fun h42 => ?_) (fun h42 => ?_)
        · refine z_aload_n dX10_read_99 rfl rfl ?_
          refine tw_getO hW ga0 (by decide) (by decide) rfl kX10 fX10_46 dX10_read_100 (fun b43 pb43 gb43 => ?_)
          refine z_astore_n dX10_read_103 rfl (by decide) ?_
          refine z_loc (L' := [(0, .ref (G.1 + a0)), (1, .int (Int32.ofInt r10)), (2, .int (Int32.ofInt r35)), (3, .ref (G.1 + b43))]) (List.forall_mem_cons.mpr ⟨rfl, (List.forall_mem_cons.mpr ⟨rfl, (List.forall_mem_cons.mpr ⟨rfl, (List.forall_mem_cons.mpr ⟨rfl, (fun _ h => nomatch h)⟩)⟩)⟩)⟩) ?_
          refine z_aload_n dX10_read_104 rfl rfl ?_
          refine z_aload_n dX10_read_105 rfl rfl ?_
          refine tw_getO hW ga0 (by decide) (by decide) rfl kX10 fX10_49 dX10_read_106 (fun b44 pb44 gb44 => ?_)
          refine tw_putR (t := .inl (1, 0)) hW hX ga0 (by decide) (by decide) rfl kX10 fX10_46 dX10_read_109 rfl rfl rfl ⟨_, gb44⟩ (by decide) (fun c1 q _ => nT hW ga0 (by decide) c1 q) (fun cs hW hX => ?_)
          refine z_aload_n dX10_read_112 rfl rfl ?_
          refine z_aload_n dX10_read_113 rfl rfl ?_
          refine tw_putR (t := .inl (1, 0)) hW hX ga0 (by decide) (by decide) rfl kX10 fX10_49 dX10_read_114 rfl rfl rfl ⟨_, gb43⟩ (by decide) (fun c1 q _ => nT hW ga0 (by decide) c1 q) (fun cs hW hX => ?_)
          refine z_aload_n dX10_read_117 rfl rfl ?_
          refine tw_getO hW ga0 (by decide) (by decide) rfl kX10 fX10_46 dX10_read_118 (fun b45 pb45 gb45 => ?_)
          have hX0 := kX1_size 0 (Nat.le_refl _) hW gb45 
          refine z_callV (As := []) eX1_size sX1_size lX10_158 rfl dX10_read_121 (hW.ob gb45 (by decide)).choose_spec hX0 (Nat.le_trans (by decide) hd) rfl (Nat.le_of_ble_eq_true rfl) (fun r cs1 hp => ?_)
          obtain ⟨hcs, r47, rfl, gr47, n46_0⟩ := hp
          obtain rfl := hcs.symm
          refine z_st (st' := [.int (Int32.ofInt r47)]) rfl ?_
          exact z_ireturn dX10_read_124 rfl rfl (hP _ _ _ (hW.up (by show _ ≤ B.1 + _; omega) (by show _ ≤ B.2 + _; omega) hBB.1 hBB.2) hX gr47 trivial)
        · refine z_sipush (v := Int32.ofInt (-10001)) dX10_read_86 (by decide) ?_
          refine z_aload_n dX10_read_89 rfl rfl ?_
          refine tw_getO hW ga0 (by decide) (by decide) rfl kX10 fX10_19 dX10_read_90 (fun b48 pb48 gb48 => ?_)
          refine z_iload_n dX10_read_93 rfl rfl ?_
          have hX0 := kX6_beginOf 1 (Nat.le_refl _) hW gb48 gr35 
          refine z_callV (As := [_]) eX6_beginOf sX6_beginOf lX10_155 rfl dX10_read_94 (hW.ob gb48 (by decide)).choose_spec hX0 (Nat.le_trans (by decide) hd) rfl (Nat.le_of_ble_eq_true rfl) (fun r cs1 hp => ?_)
          obtain ⟨hcs, r50, rfl, gr50, _⟩ := hp
          obtain rfl := hcs.symm
          refine z_st (st' := [.int (Int32.ofInt r50), .int (Int32.ofInt (-10001))]) rfl ?_
          refine tw_isub dX10_read_97 (fun z51 gz51 ez51 => ?_)
          first | have ez51 := ez51 ⟨by omega, by omega⟩ | clear ez51
          exact z_ireturn dX10_read_98 rfl rfl (hP _ _ _ (hW.up (by show _ ≤ B.1 + _; omega) (by show _ ≤ B.2 + _; omega) hBB.1 hBB.2) hX gz51 trivial)
      · refine z_iconst (v := Int32.ofInt (-1)) dX10_read_77 rfl ?_
        refine z_iload_n dX10_read_78 rfl rfl ?_
        refine tw_isub dX10_read_79 (fun z52 gz52 ez52 => ?_)
        first | have ez52 := ez52 ⟨by omega, by omega⟩ | clear ez52
        exact z_ireturn dX10_read_80 rfl rfl (hP _ _ _ (hW.up (by show _ ≤ B.1 + _; omega) (by show _ ≤ B.2 + _; omega) hBB.1 hBB.2) hX gz52 trivial)
  · refine z_sipush (v := Int32.ofInt (-3001)) dX10_read_10 (by decide) ?_
    exact z_ireturn dX10_read_13 rfl rfl (hP _ _ _ (hW.up (by show _ ≤ B.1 + _; omega) (by show _ ≤ B.2 + _; omega) hBB.1 hBB.2) hX (show rng (-3001) from ⟨by decide, by decide⟩) trivial)
