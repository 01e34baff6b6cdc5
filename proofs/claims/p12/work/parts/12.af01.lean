set_option maxRecDepth 100000 in
set_option maxHeartbeats 4000000 in
theorem kX10_same {G : xG} {B : Nat × Nat} {τ : Tau} {cs : List va_E} {a0 pa0 : Nat} {l1 : Int} (d : Nat) (hd : 8 ≤ d) (hW : WT G B τ cs) (ga0 : τ a0 = some (.inl (10, pa0))) (gl1 : rng l1)  (hBB : B.1 + 20 ≤ 600000 ∧ B.2 + 1200 ≤ 7302250) : X G yX10_same cX10_same 2 (some .boolean) d [.ref (G.1 + a0), .int (Int32.ofInt l1)] cs (wI G (B.1 + 20, B.2 + 1200) τ cs [2] (fun r => (iv 0 1 r))) := by
  refine X.of false (by decide +kernel) (by decide) (Nat.le_of_ble_eq_true rfl) ?_
  show Z (RX10, cX10_same, 2, some .boolean, false) G d _ 0 [(0, .ref (G.1 + a0)), (1, .int (Int32.ofInt l1))] [] cs
  have hP : ∀ (τ1 : Tau) (c1 : List va_E) (r : Int), WT G (B.1 + 20, B.2 + 1200) τ1 c1 → Fx [2] τ cs τ1 c1 → rng r → ((iv 0 1 r)) → wI G (B.1 + 20, B.2 + 1200) τ cs [2] (fun r => (iv 0 1 r)) (some (.int (Int32.ofInt r))) c1 := fun τ1 c1 r h1 h2 h3 h4 => ⟨τ1, r, rfl, h3, h1, h2, h4⟩
  have hX : Fx [2] τ cs τ cs := Fx.rf
  skip
  refine z_aload_n dX10_same_0 rfl rfl ?_
  refine tw_getO hW ga0 (by decide) (by decide) rfl kX10 fX10_42 dX10_same_1 (fun b1 pb1 gb1 => ?_)
  refine z_iload_n dX10_same_4 rfl rfl ?_
  have hX0 := kX1_has 0 (Nat.le_refl _) hW gb1 gl1 
  refine z_callV (As := [_]) eX1_has sX1_has lX10_94 rfl dX10_same_5 (hW.ob gb1 (by decide)).choose_spec hX0 (Nat.le_trans (by decide) hd) rfl (Nat.le_of_ble_eq_true rfl) (fun r cs1 hp => ?_)
  obtain ⟨hcs, r3, rfl, gr3, ⟨n2_0, n2_1⟩⟩ := hp
  obtain rfl := hcs.symm
  refine z_st (st' := [.int (Int32.ofInt r3)]) rfl ?_
  refine i_if_eq (tgt := 53) dX10_same_8 (by decide) gr3 (fun h4 => ?_) (fun h4 => ?_)
  · refine z_iconst (v := Int32.ofInt 0) dX10_same_53 rfl ?_
    exact z_ireturn dX10_same_54 rfl (nar01 (b01 ⟨by decide, by decide⟩)) (hP _ _ _ (hW.up (by show _ ≤ B.1 + _; omega) (by show _ ≤ B.2 + _; omega) hBB.1 hBB.2) hX (show rng 0 from ⟨by decide, by decide⟩) (by omega))
  · refine z_aload_n dX10_same_11 rfl rfl ?_
    refine tw_getO hW ga0 (by decide) (by decide) rfl kX10 fX10_46 dX10_same_12 (fun b5 pb5 gb5 => ?_)
    refine z_iconst (v := Int32.ofInt 0) dX10_same_15 rfl ?_
    have hX0 := kX1_has 0 (Nat.le_refl _) hW gb5 (show rng 0 from ⟨by decide, by decide⟩) 
    refine z_callV (As := [_]) eX1_has sX1_has lX10_94 rfl dX10_same_16 (hW.ob gb5 (by decide)).choose_spec hX0 (Nat.le_trans (by decide) hd) rfl (Nat.le_of_ble_eq_true rfl) (fun r cs1 hp => ?_)
    obtain ⟨hcs, r7, rfl, gr7, ⟨n6_0, n6_1⟩⟩ := hp
    obtain rfl := hcs.symm
    refine z_st (st' := [.int (Int32.ofInt r7)]) rfl ?_
    refine i_if_eq (tgt := 53) dX10_same_19 (by decide) gr7 (fun h8 => ?_) (fun h8 => ?_)
    · refine z_iconst (v := Int32.ofInt 0) dX10_same_53 rfl ?_
      exact z_ireturn dX10_same_54 rfl (nar01 (b01 ⟨by decide, by decide⟩)) (hP _ _ _ (hW.up (by show _ ≤ B.1 + _; omega) (by show _ ≤ B.2 + _; omega) hBB.1 hBB.2) hX (show rng 0 from ⟨by decide, by decide⟩) (by omega))
    · obtain ⟨b9, eb9⟩ : ∃ b : Nat, b = cs.length := ⟨_, rfl⟩
      refine z_new (fs := [.null, .null, .null, .null, .null, .null, .int 0]) kX2 nX10_159 aX2 bX2 dX10_same_22 (by decide +kernel) (by have := hW.2.2.2.2.2.2; unfold rho1 rho2 at this; omega) ?_
      rw [← eb9]
      have hWr : WT G (B.1 + 1, B.2 + 7) τ (cs ++ [.inr (2, [.null, .null, .null, .null, .null, .null, .int 0])]) := hW.raw rfl rfl (by show _ ≤ 600000; omega) (by show _ ≤ 7302250; omega)
      refine z_dup dX10_same_25 rfl ?_
      refine z_aload_n dX10_same_26 rfl rfl ?_
      refine tw_getO hWr ga0 (by decide) (by decide) rfl kX10 fX10_32 dX10_same_27 (fun b10 pb10 gb10 => ?_)
      refine z_aload_n dX10_same_30 rfl rfl ?_
      refine tw_getO hWr ga0 (by decide) (by decide) rfl kX10 fX10_42 dX10_same_31 (fun b11 pb11 gb11 => ?_)
      refine z_aload_n dX10_same_34 rfl rfl ?_
      refine tw_getO hWr ga0 (by decide) (by decide) rfl kX10 fX10_46 dX10_same_35 (fun b12 pb12 gb12 => ?_)
      have hX0 := kX2_init 1 (Nat.le_refl _) hW gb10 gb11 gb12  (by omega)
      rw [← eb9] at hX0
      refine z_callI (As := [_, _, _]) eX2_init sX2_init lX10_161 dX10_same_38 hX0 (Nat.le_trans (by decide) hd) rfl (Nat.le_of_ble_eq_true rfl) (fun r cs hp => ?_)
      obtain ⟨rfl, τ, pb9, hW, k13, gb9⟩ := hp
      obtain ⟨B1, hW, eB1, eB2⟩ : ∃ B2 : Nat × Nat, WT G B2 τ cs ∧ B2.1 = B.1 + 4 ∧ B2.2 = B.2 + 97 := ⟨_, hW, rfl, rfl⟩
      have hX := hX.tr k13 (by decide)
      have ga0 := k13.1.e ga0 (by decide)
      clear hX0
      refine z_st (st' := [.ref (G.1 + b9)]) rfl ?_
      refine z_iload_n dX10_same_41 rfl rfl ?_
      refine z_iconst (v := Int32.ofInt 0) dX10_same_42 rfl ?_
      have hX0 := kX2_holdsFrom 5 (Nat.le_refl _) hW gb9 gl1 (show rng 0 from ⟨by decide, by decide⟩) 
      refine z_callV (As := [_, _]) eX2_holdsFrom sX2_holdsFrom lX10_164 rfl dX10_same_43 (hW.ob gb9 (by decide)).choose_spec hX0 (Nat.le_trans (by decide) hd) rfl (Nat.le_of_ble_eq_true rfl) (fun r cs hp => ?_)
      obtain ⟨τ, r15, rfl, gr15, hW, k16, n14_0⟩ := hp
      have hX := hX.tr k16 (by decide)
      have ga0 := k16.1.e ga0 (by decide)
      clear hX0
      refine z_st (st' := [.int (Int32.ofInt r15)]) rfl ?_
      refine i_if_eq (tgt := 53) dX10_same_46 (by decide) gr15 (fun h17 => ?_) (fun h17 => ?_)
      · refine z_iconst (v := Int32.ofInt 0) dX10_same_53 rfl ?_
        exact z_ireturn dX10_same_54 rfl (nar01 (b01 ⟨by decide, by decide⟩)) (hP _ _ _ (hW.up (by show _ ≤ B.1 + _; omega) (by show _ ≤ B.2 + _; omega) hBB.1 hBB.2) hX (show rng 0 from ⟨by decide, by decide⟩) (by omega))
      · refine z_iconst (v := Int32.ofInt 1) dX10_same_49 rfl ?_
        refine z_goto (tgt := 54) dX10_same_50 (by decide) ?_
        exact z_ireturn dX10_same_54 rfl (nar01 (b01 ⟨by decide, by decide⟩)) (hP _ _ _ (hW.up (by show _ ≤ B.1 + _; omega) (by show _ ≤ B.2 + _; omega) hBB.1 hBB.2) hX (show rng 1 from ⟨by decide, by decide⟩) (by omega))

