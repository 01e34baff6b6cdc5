set_option maxRecDepth 100000 in
set_option maxHeartbeats 4000000 in
theorem kX4_beginClass {G : xG} {B : Nat × Nat} {τ : Tau} {cs : List va_E} {a0 pa0 : Nat} (d : Nat) (hd : 0 ≤ d) (hW : WT G B τ cs) (ga0 : τ a0 = some (.inl (4, pa0)))  : X G yX4_beginClass cX4_beginClass 1 none d [.ref (G.1 + a0)] cs (wN G B τ cs [4]) := by
  refine X.of false (by decide +kernel) (by decide) (Nat.le_of_ble_eq_true rfl) ?_
  show Z (RX4, cX4_beginClass, 1, none, false) G d _ 0 [(0, .ref (G.1 + a0))] [] cs
  have hP : ∀ (τ1 : Tau) (c1 : List va_E), WT G B τ1 c1 → Fx [4] τ cs τ1 c1 → wN G B τ cs [4] none c1 := fun τ1 c1 h1 h2 => ⟨τ1, rfl, h1, h2⟩
  have hX : Fx [4] τ cs τ cs := Fx.rf
  skip
  refine z_aload_n dX4_beginClass_0 rfl rfl ?_
  refine tw_getI hW ga0 (by decide) (by decide) rfl kX4 fX4_38 dX4_beginClass_1 (fun x1 qx1 vx1 gx1 => ?_)
  refine z_bipush (v := Int32.ofInt 6) dX4_beginClass_4 (by decide) ?_
  refine i_icmp_lt (tgt := 10) dX4_beginClass_6 (by decide) gx1 (show rng 6 from ⟨by decide, by decide⟩) (fun h2 => ?_) (fun h2 => ?_)
  · refine z_aload_n dX4_beginClass_10 rfl rfl ?_
    refine tw_getA hW ga0 (by decide) (by decide) rfl kX4 fX4_15 dX4_beginClass_11 (fun b3 _ gb3 => ?_)
    refine z_aload_n dX4_beginClass_14 rfl rfl ?_
    refine tw_getI hW ga0 (by decide) (by decide) rfl kX4 fX4_38 dX4_beginClass_15 (fun x4 qx4 vx4 gx4 => ?_)
    refine z_iconst (v := Int32.ofInt 0) dX4_beginClass_18 rfl ?_
    refine tw_iast hW hX gb3 (by omega) (by omega) (iv_ok (by omega) (by decide) (by decide)) (Or.inr (show (4 : Nat) ∈ _ by decide)) dX4_beginClass_19 (fun c1 q _ => nA hW gb3 (show (16 : Int) ≠ 600 by decide) (show (16 : Int) ≠ 601 by decide) c1 q) (fun cs hW hX hfr _ => ?_)
    have f5 := fld_fr (k := 8) hfr ga0 gb3
    clear hfr
    refine z_aload_n dX4_beginClass_20 rfl rfl ?_
    refine tw_getA hW ga0 (by decide) (by decide) rfl kX4 fX4_26 dX4_beginClass_21 (fun b6 _ gb6 => ?_)
    refine z_aload_n dX4_beginClass_24 rfl rfl ?_
    refine tw_getI hW ga0 (by decide) (by decide) rfl kX4 fX4_38 dX4_beginClass_25 (fun x7 qx7 vx7 gx7 => ?_)
    refine z_iconst (v := Int32.ofInt 0) dX4_beginClass_28 rfl ?_
    refine tw_iast hW hX gb6 (by omega) (by omega) (iv_ok (by omega) (by decide) (by decide)) (Or.inr (show (4 : Nat) ∈ _ by decide)) dX4_beginClass_29 (fun c1 q _ => nA hW gb6 (show (4 : Int) ≠ 600 by decide) (show (4 : Int) ≠ 601 by decide) c1 q) (fun cs hW hX hfr _ => ?_)
    have f8 := fld_fr (k := 8) hfr ga0 gb6
    clear hfr
    refine z_aload_n dX4_beginClass_30 rfl rfl ?_
    refine tw_getA hW ga0 (by decide) (by decide) rfl kX4 fX4_29 dX4_beginClass_31 (fun b9 _ gb9 => ?_)
    refine z_aload_n dX4_beginClass_34 rfl rfl ?_
    refine tw_getI hW ga0 (by decide) (by decide) rfl kX4 fX4_38 dX4_beginClass_35 (fun x10 qx10 vx10 gx10 => ?_)
    refine z_iconst (v := Int32.ofInt (-1)) dX4_beginClass_38 rfl ?_
    refine tw_iast hW hX gb9 (by omega) (by omega) (any_okT (by decide) _) (Or.inr (show (4 : Nat) ∈ _ by decide)) dX4_beginClass_39 (fun c1 q _ => nA hW gb9 (show (2147483649 : Int) ≠ 600 by decide) (show (2147483649 : Int) ≠ 601 by decide) c1 q) (fun cs hW hX hfr _ => ?_)
    have f11 := fld_fr (k := 8) hfr ga0 gb9
    clear hfr
    refine z_aload_n dX4_beginClass_40 rfl rfl ?_
    refine tw_getA hW ga0 (by decide) (by decide) rfl kX4 fX4_32 dX4_beginClass_41 (fun b12 _ gb12 => ?_)
    refine z_aload_n dX4_beginClass_44 rfl rfl ?_
    refine tw_getI hW ga0 (by decide) (by decide) rfl kX4 fX4_38 dX4_beginClass_45 (fun x13 qx13 vx13 gx13 => ?_)
    refine z_iconst (v := Int32.ofInt 0) dX4_beginClass_48 rfl ?_
    refine tw_iast hW hX gb12 (by omega) (by omega) (any_okT (by decide) _) (Or.inr (show (4 : Nat) ∈ _ by decide)) dX4_beginClass_49 (fun c1 q _ => nA hW gb12 (show (2147483649 : Int) ≠ 600 by decide) (show (2147483649 : Int) ≠ 601 by decide) c1 q) (fun cs hW hX hfr _ => ?_)
    have f14 := fld_fr (k := 8) hfr ga0 gb12
    clear hfr
    refine z_aload_n dX4_beginClass_50 rfl rfl ?_
    refine tw_getA hW ga0 (by decide) (by decide) rfl kX4 fX4_35 dX4_beginClass_51 (fun b15 _ gb15 => ?_)
    refine z_aload_n dX4_beginClass_54 rfl rfl ?_
    refine tw_getI hW ga0 (by decide) (by decide) rfl kX4 fX4_38 dX4_beginClass_55 (fun x16 qx16 vx16 gx16 => ?_)
    refine z_iconst (v := Int32.ofInt 0) dX4_beginClass_58 rfl ?_
    refine tw_zast hW hX gb15 (by omega) (by omega) (bool_ok ⟨by decide, by decide⟩) (Or.inr (show (4 : Nat) ∈ _ by decide)) dX4_beginClass_59 (fun c1 q _ => nA hW gb15 (show (1 : Int) ≠ 600 by decide) (show (1 : Int) ≠ 601 by decide) c1 q) (fun cs hW hX hfr _ => ?_)
    have f17 := fld_fr (k := 8) hfr ga0 gb15
    clear hfr
    refine z_aload_n dX4_beginClass_60 rfl rfl ?_
    refine z_dup dX4_beginClass_61 rfl ?_
    refine tw_getI hW ga0 (by decide) (by decide) rfl kX4 fX4_38 dX4_beginClass_62 (fun x18 qx18 vx18 gx18 => ?_)
    refine z_iconst (v := Int32.ofInt 1) dX4_beginClass_65 rfl ?_
    refine tw_iadd dX4_beginClass_66 (fun z19 gz19 ez19 => ?_)
    first | have ez19 := ez19 ⟨by omega, by omega⟩ | clear ez19
    refine tw_putI hW hX ga0 (by decide) (by decide) rfl kX4 fX4_38 dX4_beginClass_67 rfl rfl rfl (iv_ok (by omega) (by decide) (by decide)) (by decide) (fun c1 q _ _ => nT hW ga0 (by decide) c1 q) (fun cs hW hX f20 _ _ => ?_)
    rw [rng_toInt gz19] at f20
    exact z_return dX4_beginClass_70 rfl (hP _ _ hW hX)
  · exact z_return dX4_beginClass_9 rfl (hP _ _ hW hX)

set_option maxRecDepth 100000 in
set_option maxHeartbeats 4000000 in
theorem bX0_isClassRight_89 {G : xG} {d : Nat} {Post : xP} {B : Nat × Nat} {τ0 τ : Tau} {c0 cs : List va_E} {a0 pa0 : Nat} (hd : 4 ≤ d) (hW : WT G B τ cs) (hX : Fx [0, 4] τ0 c0 τ cs) (ga0 : τ a0 = some (.inl (0, pa0)))   (hP : ∀ (τ1 : Tau) (c1 : List va_E) (r : Int), WT G B τ1 c1 → Fx [0, 4] τ0 c0 τ1 c1 → rng r → ((iv 0 1 r)) → Post (some (.int (Int32.ofInt r))) c1)  : Z (RX0, cX0_isClassRight, 4, some .boolean, false) G d Post 89 [(0, .ref (G.1 + a0))] [] cs := by
  refine z_aload_n dX0_isClassRight_89 rfl rfl ?_
  refine z_bipush (v := Int32.ofInt 41) dX0_isClassRight_90 (by decide) ?_
  have hX0 := kX0_skips 1 (Nat.le_refl _) hW ga0 (show rng 41 from ⟨by decide, by decide⟩) 
  refine z_callV (As := [_]) eX0_skips sX0_skips lX0_32 rfl dX0_isClassRight_92 (hW.ob ga0 (by decide)).choose_spec hX0 (Nat.le_trans (by decide) hd) rfl (Nat.le_of_ble_eq_true rfl) (fun r cs hp => ?_)
  obtain ⟨τ, r2, rfl, gr2, hW, k3, n1_0⟩ := hp
  have hX := hX.tr k3 (by decide)
  have ga0 := k3.1.e ga0 (by decide)
  clear hX0
  refine z_st (st' := [.int (Int32.ofInt r2)]) rfl ?_
  exact z_ireturn dX0_isClassRight_95 rfl (nar01 (b01 (by omega))) (hP _ _ _ hW hX gr2 (by omega))
set_option maxRecDepth 100000 in
set_option maxHeartbeats 4000000 in
theorem bX0_isClassRight_82 {G : xG} {d : Nat} {Post : xP} {B : Nat × Nat} {τ0 τ : Tau} {c0 cs : List va_E} {a0 pa0 : Nat} {l1 : Int} {l3 : Int} {s0 : Int} {n41 : Nat} (hd : 4 ≤ d) (hW : WT G B τ cs) (hX : Fx [0, 4] τ0 c0 τ cs) (ga0 : τ a0 = some (.inl (0, pa0))) (gl1 : rng l1) (gl3 : rng l3) (gs0 : rng s0) (bs0 : iv 0 1 s0) (i0 : 1 ≤ 4 - l3) (hm_41 : (4 - l3).toNat < n41 + 1) (hP : ∀ (τ1 : Tau) (c1 : List va_E) (r : Int), WT G B τ1 c1 → Fx [0, 4] τ0 c0 τ1 c1 → rng r → ((iv 0 1 r)) → Post (some (.int (Int32.ofInt r))) c1) (ih_41 : ∀ {τ : Tau} {cs : List va_E} {a0 pa0 : Nat} {l1 : Int} {l2 : Int} {l3 : Int} (hW : WT G B τ cs) (hX : Fx [0, 4] τ0 c0 τ cs) (ga0 : τ a0 = some (.inl (0, pa0))) (gl1 : rng l1) (gl2 : rng l2) (bl2 : iv 0 1 l2) (gl3 : rng l3)  , (4 - l3).toNat < n41 → Z (RX0, cX0_isClassRight, 4, some .boolean, false) G d Post 41 [(0, .ref (G.1 + a0)), (1, .int (Int32.ofInt l1)), (2, .int (Int32.ofInt l2)), (3, .int (Int32.ofInt l3))] [] cs) : Z (RX0, cX0_isClassRight, 4, some .boolean, false) G d Post 82 [(0, .ref (G.1 + a0)), (1, .int (Int32.ofInt l1)), (3, .int (Int32.ofInt l3))] [.int (Int32.ofInt s0)] cs := by
  refine z_istore_n dX0_isClassRight_82 rfl (by decide) ?_
  refine z_loc (L' := [(0, .ref (G.1 + a0)), (1, .int (Int32.ofInt l1)), (2, .int (Int32.ofInt s0)), (3, .int (Int32.ofInt l3))]) (List.forall_mem_cons.mpr ⟨rfl, (List.forall_mem_cons.mpr ⟨rfl, (List.forall_mem_cons.mpr ⟨rfl, (List.forall_mem_cons.mpr ⟨rfl, (fun _ h => nomatch h)⟩)⟩)⟩)⟩) ?_
  refine tw_iinc (l := l3) dX0_isClassRight_83 rfl (by decide) (fun z1 gz1 ez1 => ?_)
  first | have ez1 := ez1 ⟨by omega, by omega⟩ | clear ez1
  refine z_loc (L' := [(0, .ref (G.1 + a0)), (1, .int (Int32.ofInt l1)), (2, .int (Int32.ofInt s0)), (3, .int (Int32.ofInt z1))]) (List.forall_mem_cons.mpr ⟨rfl, (List.forall_mem_cons.mpr ⟨rfl, (List.forall_mem_cons.mpr ⟨rfl, (List.forall_mem_cons.mpr ⟨rfl, (fun _ h => nomatch h)⟩)⟩)⟩)⟩) ?_
  refine z_goto (tgt := 41) dX0_isClassRight_86 (by decide) ?_
  refine z_loc (L' := [(0, .ref (G.1 + a0)), (1, .int (Int32.ofInt l1)), (2, .int (Int32.ofInt s0)), (3, .int (Int32.ofInt z1))]) (List.forall_mem_cons.mpr ⟨rfl, (List.forall_mem_cons.mpr ⟨rfl, (List.forall_mem_cons.mpr ⟨rfl, (List.forall_mem_cons.mpr ⟨rfl, (fun _ h => nomatch h)⟩)⟩)⟩)⟩) ?_
  exact ih_41 hW hX ga0 gl1 gs0 (by omega) gz1   (by omega)
set_option maxRecDepth 100000 in
set_option maxHeartbeats 4000000 in
theorem bX0_isClassRight_81 {G : xG} {d : Nat} {Post : xP} {B : Nat × Nat} {τ0 τ : Tau} {c0 cs : List va_E} {a0 pa0 : Nat} {l1 : Int} {l3 : Int} {n41 : Nat} (hd : 4 ≤ d) (hW : WT G B τ cs) (hX : Fx [0, 4] τ0 c0 τ cs) (ga0 : τ a0 = some (.inl (0, pa0))) (gl1 : rng l1) (gl3 : rng l3) (i0 : 1 ≤ 4 - l3) (hm_41 : (4 - l3).toNat < n41 + 1) (hP : ∀ (τ1 : Tau) (c1 : List va_E) (r : Int), WT G B τ1 c1 → Fx [0, 4] τ0 c0 τ1 c1 → rng r → ((iv 0 1 r)) → Post (some (.int (Int32.ofInt r))) c1) (ih_41 : ∀ {τ : Tau} {cs : List va_E} {a0 pa0 : Nat} {l1 : Int} {l2 : Int} {l3 : Int} (hW : WT G B τ cs) (hX : Fx [0, 4] τ0 c0 τ cs) (ga0 : τ a0 = some (.inl (0, pa0))) (gl1 : rng l1) (gl2 : rng l2) (bl2 : iv 0 1 l2) (gl3 : rng l3)  , (4 - l3).toNat < n41 → Z (RX0, cX0_isClassRight, 4, some .boolean, false) G d Post 41 [(0, .ref (G.1 + a0)), (1, .int (Int32.ofInt l1)), (2, .int (Int32.ofInt l2)), (3, .int (Int32.ofInt l3))] [] cs) : Z (RX0, cX0_isClassRight, 4, some .boolean, false) G d Post 81 [(0, .ref (G.1 + a0)), (1, .int (Int32.ofInt l1)), (3, .int (Int32.ofInt l3))] [] cs := by
  refine z_iconst (v := Int32.ofInt 0) dX0_isClassRight_81 rfl ?_
  refine z_loc (L' := [(0, .ref (G.1 + a0)), (1, .int (Int32.ofInt l1)), (3, .int (Int32.ofInt l3))]) (List.forall_mem_cons.mpr ⟨rfl, (List.forall_mem_cons.mpr ⟨rfl, (List.forall_mem_cons.mpr ⟨rfl, (fun _ h => nomatch h)⟩)⟩)⟩) ?_
  exact bX0_isClassRight_82 hd hW hX ga0 gl1 gl3 (show rng 0 from ⟨by decide, by decide⟩) ⟨by decide, by decide⟩ (by omega) (by omega) hP ih_41
set_option maxRecDepth 100000 in
set_option maxHeartbeats 4000000 in
theorem eX0_isClassRight_41 {G : xG} {d : Nat} {Post : xP} {B : Nat × Nat} {τ0 τ : Tau} {c0 cs : List va_E} {a0 pa0 : Nat} {l1 : Int} {l2 : Int} {l3 : Int} {n41 : Nat} (hd : 4 ≤ d) (hW : WT G B τ cs) (hX : Fx [0, 4] τ0 c0 τ cs) (ga0 : τ a0 = some (.inl (0, pa0))) (gl1 : rng l1) (gl2 : rng l2) (bl2 : iv 0 1 l2) (gl3 : rng l3)   (hP : ∀ (τ1 : Tau) (c1 : List va_E) (r : Int), WT G B τ1 c1 → Fx [0, 4] τ0 c0 τ1 c1 → rng r → ((iv 0 1 r)) → Post (some (.int (Int32.ofInt r))) c1)  (ih_41 : ∀ {τ : Tau} {cs : List va_E} {a0 pa0 : Nat} {l1 : Int} {l2 : Int} {l3 : Int} (hW : WT G B τ cs) (hX : Fx [0, 4] τ0 c0 τ cs) (ga0 : τ a0 = some (.inl (0, pa0))) (gl1 : rng l1) (gl2 : rng l2) (bl2 : iv 0 1 l2) (gl3 : rng l3)  , (4 - l3).toNat < n41 → Z (RX0, cX0_isClassRight, 4, some .boolean, false) G d Post 41 [(0, .ref (G.1 + a0)), (1, .int (Int32.ofInt l1)), (2, .int (Int32.ofInt l2)), (3, .int (Int32.ofInt l3))] [] cs) (hm_41 : (4 - l3).toNat < n41 + 1) : Z (RX0, cX0_isClassRight, 4, some .boolean, false) G d Post 41 [(0, .ref (G.1 + a0)), (1, .int (Int32.ofInt l1)), (2, .int (Int32.ofInt l2)), (3, .int (Int32.ofInt l3))] [] cs := by
  refine z_iload_n dX0_isClassRight_41 rfl rfl ?_
  refine z_iconst (v := Int32.ofInt 4) dX0_isClassRight_42 rfl ?_
  refine i_icmp_ge (tgt := 89) dX0_isClassRight_43 (by decide) gl3 (show rng 4 from ⟨by decide, by decide⟩) (fun h1 => ?_) (fun h1 => ?_)
  · refine z_loc (L' := [(0, .ref (G.1 + a0))]) (List.forall_mem_cons.mpr ⟨rfl, (fun _ h => nomatch h)⟩) ?_
    exact bX0_isClassRight_89 hd hW hX ga0   hP 
  · refine z_iload_n dX0_isClassRight_46 rfl rfl ?_
    refine i_if_eq (tgt := 89) dX0_isClassRight_47 (by decide) gl2 (fun h2 => ?_) (fun h2 => ?_)
    · refine z_loc (L' := [(0, .ref (G.1 + a0))]) (List.forall_mem_cons.mpr ⟨rfl, (fun _ h => nomatch h)⟩) ?_
      exact bX0_isClassRight_89 hd hW hX ga0   hP 
    · refine z_aload_n dX0_isClassRight_50 rfl rfl ?_
      refine z_iload_n dX0_isClassRight_51 rfl rfl ?_
      refine z_iload_n dX0_isClassRight_52 rfl rfl ?_
      have hX0 := kX0_isFieldRight 3 (Nat.le_refl _) hW ga0 gl1 gl3 
      refine z_callV (As := [_, _]) eX0_isFieldRight sX0_isFieldRight lX0_51 rfl dX0_isClassRight_53 (hW.ob ga0 (by decide)).choose_spec hX0 (Nat.le_trans (by decide) hd) rfl (Nat.le_of_ble_eq_true rfl) (fun r cs hp => ?_)
      obtain ⟨τ, r4, rfl, gr4, hW, k5, n3_0⟩ := hp
      have hX := hX.tr k5 (by decide)
      have ga0 := k5.1.e ga0 (by decide)
      clear hX0
      refine z_st (st' := [.int (Int32.ofInt r4)]) rfl ?_
      refine i_if_ne (tgt := 61) dX0_isClassRight_56 (by decide) gr4 (fun h6 => ?_) (fun h6 => ?_)
      · refine z_iload_n dX0_isClassRight_61 rfl rfl ?_
        refine z_iconst (v := Int32.ofInt 1) dX0_isClassRight_62 rfl ?_
        refine tw_iadd dX0_isClassRight_63 (fun z7 gz7 ez7 => ?_)
        first | have ez7 := ez7 ⟨by omega, by omega⟩ | clear ez7
        refine z_iconst (v := Int32.ofInt 4) dX0_isClassRight_64 rfl ?_
        refine i_icmp_ge (tgt := 81) dX0_isClassRight_65 (by decide) gz7 (show rng 4 from ⟨by decide, by decide⟩) (fun h8 => ?_) (fun h8 => ?_)
        · refine z_loc (L' := [(0, .ref (G.1 + a0)), (1, .int (Int32.ofInt l1)), (3, .int (Int32.ofInt l3))]) (List.forall_mem_cons.mpr ⟨rfl, (List.forall_mem_cons.mpr ⟨rfl, (List.forall_mem_cons.mpr ⟨rfl, (fun _ h => nomatch h)⟩)⟩)⟩) ?_
          exact bX0_isClassRight_81 hd hW hX ga0 gl1 gl3 (by omega) (by omega) hP ih_41
        · refine z_aload_n dX0_isClassRight_68 rfl rfl ?_
          refine z_bipush (v := Int32.ofInt 44) dX0_isClassRight_69 (by decide) ?_
          have hX0 := kX0_skips 1 (Nat.le_refl _) hW ga0 (show rng 44 from ⟨by decide, by decide⟩) 
          refine z_callV (As := [_]) eX0_skips sX0_skips lX0_32 rfl dX0_isClassRight_71 (hW.ob ga0 (by decide)).choose_spec hX0 (Nat.le_trans (by decide) hd) rfl (Nat.le_of_ble_eq_true rfl) (fun r cs hp => ?_)
          obtain ⟨τ, r10, rfl, gr10, hW, k11, n9_0⟩ := hp
          have hX := hX.tr k11 (by decide)
          have ga0 := k11.1.e ga0 (by decide)
          clear hX0
          refine z_st (st' := [.int (Int32.ofInt r10)]) rfl ?_
          refine i_if_eq (tgt := 81) dX0_isClassRight_74 (by decide) gr10 (fun h12 => ?_) (fun h12 => ?_)
          · refine z_loc (L' := [(0, .ref (G.1 + a0)), (1, .int (Int32.ofInt l1)), (3, .int (Int32.ofInt l3))]) (List.forall_mem_cons.mpr ⟨rfl, (List.forall_mem_cons.mpr ⟨rfl, (List.forall_mem_cons.mpr ⟨rfl, (fun _ h => nomatch h)⟩)⟩)⟩) ?_
            exact bX0_isClassRight_81 hd hW hX ga0 gl1 gl3 (by omega) (by omega) hP ih_41
          · refine z_iconst (v := Int32.ofInt 1) dX0_isClassRight_77 rfl ?_
            refine z_goto (tgt := 82) dX0_isClassRight_78 (by decide) ?_
            refine z_loc (L' := [(0, .ref (G.1 + a0)), (1, .int (Int32.ofInt l1)), (3, .int (Int32.ofInt l3))]) (List.forall_mem_cons.mpr ⟨rfl, (List.forall_mem_cons.mpr ⟨rfl, (List.forall_mem_cons.mpr ⟨rfl, (fun _ h => nomatch h)⟩)⟩)⟩) ?_
            exact bX0_isClassRight_82 hd hW hX ga0 gl1 gl3 (show rng 1 from ⟨by decide, by decide⟩) ⟨by decide, by decide⟩ (by omega) (by omega) hP ih_41
      · refine z_iconst (v := Int32.ofInt 0) dX0_isClassRight_59 rfl ?_
        exact z_ireturn dX0_isClassRight_60 rfl (nar01 (b01 ⟨by decide, by decide⟩)) (hP _ _ _ hW hX (show rng 0 from ⟨by decide, by decide⟩) (by omega))
set_option maxRecDepth 100000 in
set_option maxHeartbeats 4000000 in
theorem bX0_isClassRight_41 {G : xG} {d : Nat} {Post : xP} {B : Nat × Nat} {τ0 τ : Tau} {c0 cs : List va_E} {a0 pa0 : Nat} {l1 : Int} {l2 : Int} {l3 : Int} (hd : 4 ≤ d) (hW : WT G B τ cs) (hX : Fx [0, 4] τ0 c0 τ cs) (ga0 : τ a0 = some (.inl (0, pa0))) (gl1 : rng l1) (gl2 : rng l2) (bl2 : iv 0 1 l2) (gl3 : rng l3)   (hP : ∀ (τ1 : Tau) (c1 : List va_E) (r : Int), WT G B τ1 c1 → Fx [0, 4] τ0 c0 τ1 c1 → rng r → ((iv 0 1 r)) → Post (some (.int (Int32.ofInt r))) c1)  : Z (RX0, cX0_isClassRight, 4, some .boolean, false) G d Post 41 [(0, .ref (G.1 + a0)), (1, .int (Int32.ofInt l1)), (2, .int (Int32.ofInt l2)), (3, .int (Int32.ofInt l3))] [] cs := by
  have key : ∀ (n : Nat) (τ : Tau) (cs : List va_E) (a0 pa0 : Nat) (l1 : Int) (l2 : Int) (l3 : Int) (hW : WT G B τ cs) (hX : Fx [0, 4] τ0 c0 τ cs) (ga0 : τ a0 = some (.inl (0, pa0))) (gl1 : rng l1) (gl2 : rng l2) (bl2 : iv 0 1 l2) (gl3 : rng l3)  , (4 - l3).toNat < n → Z (RX0, cX0_isClassRight, 4, some .boolean, false) G d Post 41 [(0, .ref (G.1 + a0)), (1, .int (Int32.ofInt l1)), (2, .int (Int32.ofInt l2)), (3, .int (Int32.ofInt l3))] [] cs := by
    intro n
    induction n with
    | zero => intro τ cs a0 pa0 l1 l2 l3 hW hX ga0 gl1 gl2 bl2 gl3 hm; exact absurd hm (Nat.not_lt_zero _)
    | succ n ih =>
      intro τ cs a0 pa0 l1 l2 l3 hW hX ga0 gl1 gl2 bl2 gl3 hm
      exact eX0_isClassRight_41 hd hW hX ga0 gl1 gl2 bl2 gl3 hP  (fun hW hX ga0 gl1 gl2 bl2 gl3 hm => ih _ _ _ _ _ _ _ hW hX ga0 gl1 gl2 bl2 gl3 hm) hm
  exact key _ _ _ _ _ _ _ _ hW hX ga0 gl1 gl2 bl2 gl3 (Nat.lt_succ_self _)
set_option maxRecDepth 100000 in
set_option maxHeartbeats 4000000 in
theorem kX0_isClassRight {G : xG} {B : Nat × Nat} {τ : Tau} {cs : List va_E} {a0 pa0 : Nat} {l1 : Int} (d : Nat) (hd : 4 ≤ d) (hW : WT G B τ cs) (ga0 : τ a0 = some (.inl (0, pa0))) (gl1 : rng l1)  : X G yX0_isClassRight cX0_isClassRight 4 (some .boolean) d [.ref (G.1 + a0), .int (Int32.ofInt l1)] cs (wI G B τ cs [0, 4] (fun r => (iv 0 1 r))) := by
  refine X.of false (by decide +kernel) (by decide) (Nat.le_of_ble_eq_true rfl) ?_
  show Z (RX0, cX0_isClassRight, 4, some .boolean, false) G d _ 0 [(0, .ref (G.1 + a0)), (1, .int (Int32.ofInt l1))] [] cs
  have hP : ∀ (τ1 : Tau) (c1 : List va_E) (r : Int), WT G B τ1 c1 → Fx [0, 4] τ cs τ1 c1 → rng r → ((iv 0 1 r)) → wI G B τ cs [0, 4] (fun r => (iv 0 1 r)) (some (.int (Int32.ofInt r))) c1 := fun τ1 c1 r h1 h2 h3 h4 => ⟨τ1, r, rfl, h3, h1, h2, h4⟩
  have hX : Fx [0, 4] τ cs τ cs := Fx.rf
  skip
  refine z_aload_n dX0_isClassRight_0 rfl rfl ?_
  refine tw_getO hW ga0 (by decide) (by decide) rfl kX0 fX0_19 dX0_isClassRight_1 (fun b1 pb1 gb1 => ?_)
  have hX0 := kX4_beginClass 0 (Nat.le_refl _) hW gb1 
  refine z_callV (As := []) eX4_beginClass sX4_beginClass lX0_45 rfl dX0_isClassRight_4 (hW.ob gb1 (by decide)).choose_spec hX0 (Nat.le_trans (by decide) hd) rfl (Nat.le_of_ble_eq_true rfl) (fun r cs hp => ?_)
  obtain ⟨τ, rfl, hW, k4⟩ := hp
  have hX := hX.tr k4 (by decide)
  have ga0 := k4.1.e ga0 (by decide)
  clear hX0
  refine z_st (st' := []) rfl ?_
  refine z_aload_n dX0_isClassRight_7 rfl rfl ?_
  refine z_iload_n dX0_isClassRight_8 rfl rfl ?_
  have hX0 := kX0_isNameRight 2 (Nat.le_refl _) hW ga0 gl1 
  refine z_callV (As := [_]) eX0_isNameRight sX0_isNameRight lX0_48 rfl dX0_isClassRight_9 (hW.ob ga0 (by decide)).choose_spec hX0 (Nat.le_trans (by decide) hd) rfl (Nat.le_of_ble_eq_true rfl) (fun r cs hp => ?_)
  obtain ⟨τ, r6, rfl, gr6, hW, k7, n5_0⟩ := hp
  have hX := hX.tr k7 (by decide)
  have ga0 := k7.1.e ga0 (by decide)
  clear hX0
  refine z_st (st' := [.int (Int32.ofInt r6)]) rfl ?_
  refine i_if_eq (tgt := 24) dX0_isClassRight_12 (by decide) gr6 (fun h8 => ?_) (fun h8 => ?_)
  · refine z_iconst (v := Int32.ofInt 0) dX0_isClassRight_24 rfl ?_
    exact z_ireturn dX0_isClassRight_25 rfl (nar01 (b01 ⟨by decide, by decide⟩)) (hP _ _ _ hW hX (show rng 0 from ⟨by decide, by decide⟩) (by omega))
  · refine z_aload_n dX0_isClassRight_15 rfl rfl ?_
    refine z_bipush (v := Int32.ofInt 40) dX0_isClassRight_16 (by decide) ?_
    have hX0 := kX0_skips 1 (Nat.le_refl _) hW ga0 (show rng 40 from ⟨by decide, by decide⟩) 
    refine z_callV (As := [_]) eX0_skips sX0_skips lX0_32 rfl dX0_isClassRight_18 (hW.ob ga0 (by decide)).choose_spec hX0 (Nat.le_trans (by decide) hd) rfl (Nat.le_of_ble_eq_true rfl) (fun r cs hp => ?_)
    obtain ⟨τ, r10, rfl, gr10, hW, k11, n9_0⟩ := hp
    have hX := hX.tr k11 (by decide)
    have ga0 := k11.1.e ga0 (by decide)
    clear hX0
    refine z_st (st' := [.int (Int32.ofInt r10)]) rfl ?_
    refine i_if_ne (tgt := 26) dX0_isClassRight_21 (by decide) gr10 (fun h12 => ?_) (fun h12 => ?_)
    · refine z_aload_n dX0_isClassRight_26 rfl rfl ?_
      refine z_bipush (v := Int32.ofInt 41) dX0_isClassRight_27 (by decide) ?_
      have hX0 := kX0_skips 1 (Nat.le_refl _) hW ga0 (show rng 41 from ⟨by decide, by decide⟩) 
      refine z_callV (As := [_]) eX0_skips sX0_skips lX0_32 rfl dX0_isClassRight_29 (hW.ob ga0 (by decide)).choose_spec hX0 (Nat.le_trans (by decide) hd) rfl (Nat.le_of_ble_eq_true rfl) (fun r cs hp => ?_)
      obtain ⟨τ, r14, rfl, gr14, hW, k15, n13_0⟩ := hp
      have hX := hX.tr k15 (by decide)
      have ga0 := k15.1.e ga0 (by decide)
      clear hX0
      refine z_st (st' := [.int (Int32.ofInt r14)]) rfl ?_
      refine i_if_eq (tgt := 37) dX0_isClassRight_32 (by decide) gr14 (fun h16 => ?_) (fun h16 => ?_)
      · refine z_iconst (v := Int32.ofInt 1) dX0_isClassRight_37 rfl ?_
        refine z_istore_n dX0_isClassRight_38 rfl (by decide) ?_
        refine z_loc (L' := [(0, .ref (G.1 + a0)), (1, .int (Int32.ofInt l1)), (2, .int (Int32.ofInt 1))]) (List.forall_mem_cons.mpr ⟨rfl, (List.forall_mem_cons.mpr ⟨rfl, (List.forall_mem_cons.mpr ⟨rfl, (fun _ h => nomatch h)⟩)⟩)⟩) ?_
        refine z_iconst (v := Int32.ofInt 0) dX0_isClassRight_39 rfl ?_
        refine z_istore_n dX0_isClassRight_40 rfl (by decide) ?_
        refine z_loc (L' := [(0, .ref (G.1 + a0)), (1, .int (Int32.ofInt l1)), (2, .int (Int32.ofInt 1)), (3, .int (Int32.ofInt 0))]) (List.forall_mem_cons.mpr ⟨rfl, (List.forall_mem_cons.mpr ⟨rfl, (List.forall_mem_cons.mpr ⟨rfl, (List.forall_mem_cons.mpr ⟨rfl, (fun _ h => nomatch h)⟩)⟩)⟩)⟩) ?_
        refine z_loc (L' := [(0, .ref (G.1 + a0)), (1, .int (Int32.ofInt l1)), (2, .int (Int32.ofInt 1)), (3, .int (Int32.ofInt 0))]) (List.forall_mem_cons.mpr ⟨rfl, (List.forall_mem_cons.mpr ⟨rfl, (List.forall_mem_cons.mpr ⟨rfl, (List.forall_mem_cons.mpr ⟨rfl, (fun _ h => nomatch h)⟩)⟩)⟩)⟩) ?_
        exact bX0_isClassRight_41 hd hW hX ga0 gl1 (show rng 1 from ⟨by decide, by decide⟩) ⟨by decide, by decide⟩ (show rng 0 from ⟨by decide, by decide⟩)   hP 
      · refine z_iconst (v := Int32.ofInt 1) dX0_isClassRight_35 rfl ?_
        exact z_ireturn dX0_isClassRight_36 rfl (nar01 (b01 ⟨by decide, by decide⟩)) (hP _ _ _ hW hX (show rng 1 from ⟨by decide, by decide⟩) (by omega))
    · refine z_iconst (v := Int32.ofInt 0) dX0_isClassRight_24 rfl ?_
      exact z_ireturn dX0_isClassRight_25 rfl (nar01 (b01 ⟨by decide, by decide⟩)) (hP _ _ _ hW hX (show rng 0 from ⟨by decide, by decide⟩) (by omega))

set_option maxRecDepth 100000 in
set_option maxHeartbeats 4000000 in
theorem kX4_clear {G : xG} {B : Nat × Nat} {τ : Tau} {cs : List va_E} {a0 pa0 : Nat} (d : Nat) (hd : 0 ≤ d) (hW : WT G B τ cs) (ga0 : τ a0 = some (.inl (4, pa0)))  : X G yX4_clear cX4_clear 1 none d [.ref (G.1 + a0)] cs (wN G B τ cs [4]) := by
  refine X.of false (by decide +kernel) (by decide) (Nat.le_of_ble_eq_true rfl) ?_
  show Z (RX4, cX4_clear, 1, none, false) G d _ 0 [(0, .ref (G.1 + a0))] [] cs
  have hP : ∀ (τ1 : Tau) (c1 : List va_E), WT G B τ1 c1 → Fx [4] τ cs τ1 c1 → wN G B τ cs [4] none c1 := fun τ1 c1 h1 h2 => ⟨τ1, rfl, h1, h2⟩
  have hX : Fx [4] τ cs τ cs := Fx.rf
  skip
  refine z_aload_n dX4_clear_0 rfl rfl ?_
  refine z_iconst (v := Int32.ofInt 0) dX4_clear_1 rfl ?_
  refine tw_putI hW hX ga0 (by decide) (by decide) rfl kX4 fX4_38 dX4_clear_2 rfl rfl rfl (iv_ok (by omega) (by decide) (by decide)) (by decide) (fun c1 q _ _ => nT hW ga0 (by decide) c1 q) (fun cs hW hX _ _ _ => ?_)
  exact z_return dX4_clear_5 rfl (hP _ _ hW hX)

set_option maxRecDepth 100000 in
set_option maxHeartbeats 4000000 in
theorem eX4_isTwin_39 {G : xG} {d : Nat} {Post : xP} {B : Nat × Nat} {τ : Tau} {cs : List va_E} {a0 pa0 : Nat} {l1 : Int} {l2 : Int} {l3 : Int} {n39 : Nat} (hd : 0 ≤ d) (hW : WT G B τ cs) (ga0 : τ a0 = some (.inl (4, pa0))) (gl1 : rng l1) (gl2 : rng l2) (gl3 : rng l3) (i0 : iv 0 29 l1) (i1 : iv 0 29 l2) (i2 : 0 ≤ l3)  (hP : ∀ r : Int, rng r → ((iv 0 1 r)) → Post (some (.int (Int32.ofInt r))) cs)  (ih_39 : ∀ {a0 pa0 : Nat} {l1 : Int} {l2 : Int} {l3 : Int} (hW : WT G B τ cs) (ga0 : τ a0 = some (.inl (4, pa0))) (gl1 : rng l1) (gl2 : rng l2) (gl3 : rng l3) (i0 : iv 0 29 l1) (i1 : iv 0 29 l2) (i2 : 0 ≤ l3) , (16 - l3).toNat < n39 → Z (RX4, cX4_isTwin, 4, some .boolean, false) G d Post 39 [(0, .ref (G.1 + a0)), (1, .int (Int32.ofInt l1)), (2, .int (Int32.ofInt l2)), (3, .int (Int32.ofInt l3))] [] cs) (hm_39 : (16 - l3).toNat < n39 + 1) : Z (RX4, cX4_isTwin, 4, some .boolean, false) G d Post 39 [(0, .ref (G.1 + a0)), (1, .int (Int32.ofInt l1)), (2, .int (Int32.ofInt l2)), (3, .int (Int32.ofInt l3))] [] cs := by
  refine z_iload_n dX4_isTwin_39 rfl rfl ?_
  refine z_aload_n dX4_isTwin_40 rfl rfl ?_
  refine tw_getA hW ga0 (by decide) (by decide) rfl kX4 fX4_15 dX4_isTwin_41 (fun b1 _ gb1 => ?_)
  refine z_iload_n dX4_isTwin_44 rfl rfl ?_
  refine tw_iald hW gb1 (by omega) (by omega) dX4_isTwin_45 (fun x2 _ vx2 gx2 => ?_)
  refine i_icmp_ge (tgt := 82) dX4_isTwin_46 (by decide) gl3 gx2 (fun h3 => ?_) (fun h3 => ?_)
  · refine z_iconst (v := Int32.ofInt 1) dX4_isTwin_82 rfl ?_
    exact z_ireturn dX4_isTwin_83 rfl (nar01 (b01 ⟨by decide, by decide⟩)) (hP _ (show rng 1 from ⟨by decide, by decide⟩) (by omega))
  · refine z_aload_n dX4_isTwin_49 rfl rfl ?_
    refine tw_getA hW ga0 (by decide) (by decide) rfl kX4 fX4_11 dX4_isTwin_50 (fun b4 _ gb4 => ?_)
    refine z_iload_n dX4_isTwin_53 rfl rfl ?_
    refine z_bipush (v := Int32.ofInt 16) dX4_isTwin_54 (by decide) ?_
    refine tw_imul dX4_isTwin_56 (fun z5 gz5 ez5 => ?_)
    first | have ez5 := ez5 ⟨by omega, by omega⟩ | clear ez5
    refine z_iload_n dX4_isTwin_57 rfl rfl ?_
    refine tw_iadd dX4_isTwin_58 (fun z6 gz6 ez6 => ?_)
    first | have ez6 := ez6 ⟨by omega, by omega⟩ | clear ez6
    refine tw_cald hW gb4 (by omega) (by omega) dX4_isTwin_59 (fun x7 _ vx7 gx7 => ?_)
    refine z_aload_n dX4_isTwin_60 rfl rfl ?_
    refine tw_getA hW ga0 (by decide) (by decide) rfl kX4 fX4_11 dX4_isTwin_61 (fun b8 _ gb8 => ?_)
    refine z_iload_n dX4_isTwin_64 rfl rfl ?_
    refine z_bipush (v := Int32.ofInt 16) dX4_isTwin_65 (by decide) ?_
    refine tw_imul dX4_isTwin_67 (fun z9 gz9 ez9 => ?_)
    first | have ez9 := ez9 ⟨by omega, by omega⟩ | clear ez9
    refine z_iload_n dX4_isTwin_68 rfl rfl ?_
    refine tw_iadd dX4_isTwin_69 (fun z10 gz10 ez10 => ?_)
    first | have ez10 := ez10 ⟨by omega, by omega⟩ | clear ez10
    refine tw_cald hW gb8 (by omega) (by omega) dX4_isTwin_70 (fun x11 _ vx11 gx11 => ?_)
    refine i_icmp_eq (tgt := 76) dX4_isTwin_71 (by decide) gx7 gx11 (fun h12 => ?_) (fun h12 => ?_)
    · refine tw_iinc (l := l3) dX4_isTwin_76 rfl (by decide) (fun z13 gz13 ez13 => ?_)
      first | have ez13 := ez13 ⟨by omega, by omega⟩ | clear ez13
      refine z_loc (L' := [(0, .ref (G.1 + a0)), (1, .int (Int32.ofInt l1)), (2, .int (Int32.ofInt l2)), (3, .int (Int32.ofInt z13))]) (List.forall_mem_cons.mpr ⟨rfl, (List.forall_mem_cons.mpr ⟨rfl, (List.forall_mem_cons.mpr ⟨rfl, (List.forall_mem_cons.mpr ⟨rfl, (fun _ h => nomatch h)⟩)⟩)⟩)⟩) ?_
      refine z_goto (tgt := 39) dX4_isTwin_79 (by decide) ?_
      refine z_loc (L' := [(0, .ref (G.1 + a0)), (1, .int (Int32.ofInt l1)), (2, .int (Int32.ofInt l2)), (3, .int (Int32.ofInt z13))]) (List.forall_mem_cons.mpr ⟨rfl, (List.forall_mem_cons.mpr ⟨rfl, (List.forall_mem_cons.mpr ⟨rfl, (List.forall_mem_cons.mpr ⟨rfl, (fun _ h => nomatch h)⟩)⟩)⟩)⟩) ?_
      exact ih_39 hW ga0 gl1 gl2 gz13 (by omega) (by omega) (by omega)  (by omega)
    · refine z_iconst (v := Int32.ofInt 0) dX4_isTwin_74 rfl ?_
      exact z_ireturn dX4_isTwin_75 rfl (nar01 (b01 ⟨by decide, by decide⟩)) (hP _ (show rng 0 from ⟨by decide, by decide⟩) (by omega))
set_option maxRecDepth 100000 in
set_option maxHeartbeats 4000000 in
theorem bX4_isTwin_39 {G : xG} {d : Nat} {Post : xP} {B : Nat × Nat} {τ : Tau} {cs : List va_E} {a0 pa0 : Nat} {l1 : Int} {l2 : Int} {l3 : Int} (hd : 0 ≤ d) (hW : WT G B τ cs) (ga0 : τ a0 = some (.inl (4, pa0))) (gl1 : rng l1) (gl2 : rng l2) (gl3 : rng l3) (i0 : iv 0 29 l1) (i1 : iv 0 29 l2) (i2 : 0 ≤ l3)  (hP : ∀ r : Int, rng r → ((iv 0 1 r)) → Post (some (.int (Int32.ofInt r))) cs)  : Z (RX4, cX4_isTwin, 4, some .boolean, false) G d Post 39 [(0, .ref (G.1 + a0)), (1, .int (Int32.ofInt l1)), (2, .int (Int32.ofInt l2)), (3, .int (Int32.ofInt l3))] [] cs := by
  have key : ∀ (n : Nat) (a0 pa0 : Nat) (l1 : Int) (l2 : Int) (l3 : Int) (hW : WT G B τ cs) (ga0 : τ a0 = some (.inl (4, pa0))) (gl1 : rng l1) (gl2 : rng l2) (gl3 : rng l3) (i0 : iv 0 29 l1) (i1 : iv 0 29 l2) (i2 : 0 ≤ l3) , (16 - l3).toNat < n → Z (RX4, cX4_isTwin, 4, some .boolean, false) G d Post 39 [(0, .ref (G.1 + a0)), (1, .int (Int32.ofInt l1)), (2, .int (Int32.ofInt l2)), (3, .int (Int32.ofInt l3))] [] cs := by
    intro n
    induction n with
    | zero => intro a0 pa0 l1 l2 l3 hW ga0 gl1 gl2 gl3 i0 i1 i2 hm; exact absurd hm (Nat.not_lt_zero _)
    | succ n ih =>
      intro a0 pa0 l1 l2 l3 hW ga0 gl1 gl2 gl3 i0 i1 i2 hm
      exact eX4_isTwin_39 hd hW ga0 gl1 gl2 gl3 i0 i1 i2 hP  (fun hW ga0 gl1 gl2 gl3 i0 i1 i2 hm => ih _ _ _ _ _ hW ga0 gl1 gl2 gl3 i0 i1 i2 hm) hm
  exact key _ _ _ _ _ _ hW ga0 gl1 gl2 gl3 i0 i1 i2 (Nat.lt_succ_self _)
set_option maxRecDepth 100000 in
set_option maxHeartbeats 4000000 in
theorem kX4_isTwin {G : xG} {B : Nat × Nat} {τ : Tau} {cs : List va_E} {a0 pa0 : Nat} {l1 : Int} {l2 : Int} (d : Nat) (hd : 0 ≤ d) (hW : WT G B τ cs) (ga0 : τ a0 = some (.inl (4, pa0))) (gl1 : rng l1) (gl2 : rng l2)  : X G yX4_isTwin cX4_isTwin 4 (some .boolean) d [.ref (G.1 + a0), .int (Int32.ofInt l1), .int (Int32.ofInt l2)] cs (rI cs (fun r => (iv 0 1 r))) := by
  refine X.of false (by decide +kernel) (by decide) (Nat.le_of_ble_eq_true rfl) ?_
  show Z (RX4, cX4_isTwin, 4, some .boolean, false) G d _ 0 [(0, .ref (G.1 + a0)), (1, .int (Int32.ofInt l1)), (2, .int (Int32.ofInt l2))] [] cs
  have hP : ∀ r : Int, rng r → ((iv 0 1 r)) → rI cs (fun r => (iv 0 1 r)) (some (.int (Int32.ofInt r))) cs := fun r h1 h2 => ⟨rfl, r, rfl, h1, h2⟩
  refine z_iload_n dX4_isTwin_0 rfl rfl ?_
  refine i_if_lt (tgt := 35) dX4_isTwin_1 (by decide) gl1 (fun h1 => ?_) (fun h1 => ?_)
  · refine z_iconst (v := Int32.ofInt 0) dX4_isTwin_35 rfl ?_
    exact z_ireturn dX4_isTwin_36 rfl (nar01 (b01 ⟨by decide, by decide⟩)) (hP _ (show rng 0 from ⟨by decide, by decide⟩) (by omega))
  · refine z_iload_n dX4_isTwin_4 rfl rfl ?_
    refine i_if_lt (tgt := 35) dX4_isTwin_5 (by decide) gl2 (fun h2 => ?_) (fun h2 => ?_)
    · refine z_iconst (v := Int32.ofInt 0) dX4_isTwin_35 rfl ?_
      exact z_ireturn dX4_isTwin_36 rfl (nar01 (b01 ⟨by decide, by decide⟩)) (hP _ (show rng 0 from ⟨by decide, by decide⟩) (by omega))
    · refine z_iload_n dX4_isTwin_8 rfl rfl ?_
      refine z_bipush (v := Int32.ofInt 30) dX4_isTwin_9 (by decide) ?_
      refine i_icmp_ge (tgt := 35) dX4_isTwin_11 (by decide) gl1 (show rng 30 from ⟨by decide, by decide⟩) (fun h3 => ?_) (fun h3 => ?_)
      · refine z_iconst (v := Int32.ofInt 0) dX4_isTwin_35 rfl ?_
        exact z_ireturn dX4_isTwin_36 rfl (nar01 (b01 ⟨by decide, by decide⟩)) (hP _ (show rng 0 from ⟨by decide, by decide⟩) (by omega))
      · refine z_iload_n dX4_isTwin_14 rfl rfl ?_
        refine z_bipush (v := Int32.ofInt 30) dX4_isTwin_15 (by decide) ?_
        refine i_icmp_ge (tgt := 35) dX4_isTwin_17 (by decide) gl2 (show rng 30 from ⟨by decide, by decide⟩) (fun h4 => ?_) (fun h4 => ?_)
        · refine z_iconst (v := Int32.ofInt 0) dX4_isTwin_35 rfl ?_
          exact z_ireturn dX4_isTwin_36 rfl (nar01 (b01 ⟨by decide, by decide⟩)) (hP _ (show rng 0 from ⟨by decide, by decide⟩) (by omega))
        · refine z_aload_n dX4_isTwin_20 rfl rfl ?_
          refine tw_getA hW ga0 (by decide) (by decide) rfl kX4 fX4_15 dX4_isTwin_21 (fun b5 _ gb5 => ?_)
          refine z_iload_n dX4_isTwin_24 rfl rfl ?_
          refine tw_iald hW gb5 (by omega) (by omega) dX4_isTwin_25 (fun x6 _ vx6 gx6 => ?_)
          refine z_aload_n dX4_isTwin_26 rfl rfl ?_
          refine tw_getA hW ga0 (by decide) (by decide) rfl kX4 fX4_15 dX4_isTwin_27 (fun b7 _ gb7 => ?_)
          refine z_iload_n dX4_isTwin_30 rfl rfl ?_
          refine tw_iald hW gb7 (by omega) (by omega) dX4_isTwin_31 (fun x8 _ vx8 gx8 => ?_)
          refine i_icmp_eq (tgt := 37) dX4_isTwin_32 (by decide) gx6 gx8 (fun h9 => ?_) (fun h9 => ?_)
          · refine z_iconst (v := Int32.ofInt 0) dX4_isTwin_37 rfl ?_
            refine z_istore_n dX4_isTwin_38 rfl (by decide) ?_
            refine z_loc (L' := [(0, .ref (G.1 + a0)), (1, .int (Int32.ofInt l1)), (2, .int (Int32.ofInt l2)), (3, .int (Int32.ofInt 0))]) (List.forall_mem_cons.mpr ⟨rfl, (List.forall_mem_cons.mpr ⟨rfl, (List.forall_mem_cons.mpr ⟨rfl, (List.forall_mem_cons.mpr ⟨rfl, (fun _ h => nomatch h)⟩)⟩)⟩)⟩) ?_
            refine z_loc (L' := [(0, .ref (G.1 + a0)), (1, .int (Int32.ofInt l1)), (2, .int (Int32.ofInt l2)), (3, .int (Int32.ofInt 0))]) (List.forall_mem_cons.mpr ⟨rfl, (List.forall_mem_cons.mpr ⟨rfl, (List.forall_mem_cons.mpr ⟨rfl, (List.forall_mem_cons.mpr ⟨rfl, (fun _ h => nomatch h)⟩)⟩)⟩)⟩) ?_
            exact bX4_isTwin_39 hd hW ga0 gl1 gl2 (show rng 0 from ⟨by decide, by decide⟩) (by omega) (by omega) (by omega)  hP 
          · refine z_iconst (v := Int32.ofInt 0) dX4_isTwin_35 rfl ?_
            exact z_ireturn dX4_isTwin_36 rfl (nar01 (b01 ⟨by decide, by decide⟩)) (hP _ (show rng 0 from ⟨by decide, by decide⟩) (by omega))

set_option maxRecDepth 100000 in
set_option maxHeartbeats 4000000 in
theorem eX4_hasTwin_3 {G : xG} {d : Nat} {Post : xP} {B : Nat × Nat} {τ : Tau} {cs : List va_E} {a0 pa0 : Nat} {l1 : Int} {l3 : Int} {l4 : Int} {n3 : Nat} (hd : 1 ≤ d) (hW : WT G B τ cs) (ga0 : τ a0 = some (.inl (4, pa0))) (gl1 : rng l1) (gl3 : rng l3) (gl4 : rng l4)   (hP : ∀ r : Int, rng r → ((iv 0 1 r)) → Post (some (.int (Int32.ofInt r))) cs)  (ih_3 : ∀ {a0 pa0 : Nat} {l1 : Int} {l3 : Int} {l4 : Int} (hW : WT G B τ cs) (ga0 : τ a0 = some (.inl (4, pa0))) (gl1 : rng l1) (gl3 : rng l3) (gl4 : rng l4)  , (l3 - l4).toNat < n3 → Z (RX4, cX4_hasTwin, 5, some .boolean, false) G d Post 3 [(0, .ref (G.1 + a0)), (1, .int (Int32.ofInt l1)), (3, .int (Int32.ofInt l3)), (4, .int (Int32.ofInt l4))] [] cs) (hm_3 : (l3 - l4).toNat < n3 + 1) : Z (RX4, cX4_hasTwin, 5, some .boolean, false) G d Post 3 [(0, .ref (G.1 + a0)), (1, .int (Int32.ofInt l1)), (3, .int (Int32.ofInt l3)), (4, .int (Int32.ofInt l4))] [] cs := by
  refine z_iload dX4_hasTwin_3 rfl ?_
  refine z_iload_n dX4_hasTwin_5 rfl rfl ?_
  refine i_icmp_ge (tgt := 27) dX4_hasTwin_6 (by decide) gl4 gl3 (fun h1 => ?_) (fun h1 => ?_)
  · refine z_iconst (v := Int32.ofInt 0) dX4_hasTwin_27 rfl ?_
    exact z_ireturn dX4_hasTwin_28 rfl (nar01 (b01 ⟨by decide, by decide⟩)) (hP _ (show rng 0 from ⟨by decide, by decide⟩) (by omega))
  · refine z_aload_n dX4_hasTwin_9 rfl rfl ?_
    refine z_iload_n dX4_hasTwin_10 rfl rfl ?_
    refine z_iload dX4_hasTwin_11 rfl ?_
    have hX0 := kX4_isTwin 0 (Nat.le_refl _) hW ga0 gl1 gl4 
    refine z_callV (As := [_, _]) eX4_isTwin sX4_isTwin lX4_98 rfl dX4_hasTwin_13 (hW.ob ga0 (by decide)).choose_spec hX0 (Nat.le_trans (by decide) hd) rfl (Nat.le_of_ble_eq_true rfl) (fun r cs1 hp => ?_)
    obtain ⟨hcs, r3, rfl, gr3, n2_0⟩ := hp
    obtain rfl := hcs.symm
    refine z_st (st' := [.int (Int32.ofInt r3)]) rfl ?_
    refine i_if_eq (tgt := 21) dX4_hasTwin_16 (by decide) gr3 (fun h4 => ?_) (fun h4 => ?_)
    · refine tw_iinc (l := l4) dX4_hasTwin_21 rfl (by decide) (fun z5 gz5 ez5 => ?_)
      first | have ez5 := ez5 ⟨by omega, by omega⟩ | clear ez5
      refine z_loc (L' := [(0, .ref (G.1 + a0)), (1, .int (Int32.ofInt l1)), (3, .int (Int32.ofInt l3)), (4, .int (Int32.ofInt z5))]) (List.forall_mem_cons.mpr ⟨rfl, (List.forall_mem_cons.mpr ⟨rfl, (List.forall_mem_cons.mpr ⟨rfl, (List.forall_mem_cons.mpr ⟨rfl, (fun _ h => nomatch h)⟩)⟩)⟩)⟩) ?_
      refine z_goto (tgt := 3) dX4_hasTwin_24 (by decide) ?_
      refine z_loc (L' := [(0, .ref (G.1 + a0)), (1, .int (Int32.ofInt l1)), (3, .int (Int32.ofInt l3)), (4, .int (Int32.ofInt z5))]) (List.forall_mem_cons.mpr ⟨rfl, (List.forall_mem_cons.mpr ⟨rfl, (List.forall_mem_cons.mpr ⟨rfl, (List.forall_mem_cons.mpr ⟨rfl, (fun _ h => nomatch h)⟩)⟩)⟩)⟩) ?_
      exact ih_3 hW ga0 gl1 gl3 gz5   (by omega)
    · refine z_iconst (v := Int32.ofInt 1) dX4_hasTwin_19 rfl ?_
      exact z_ireturn dX4_hasTwin_20 rfl (nar01 (b01 ⟨by decide, by decide⟩)) (hP _ (show rng 1 from ⟨by decide, by decide⟩) (by omega))
set_option maxRecDepth 100000 in
set_option maxHeartbeats 4000000 in
theorem bX4_hasTwin_3 {G : xG} {d : Nat} {Post : xP} {B : Nat × Nat} {τ : Tau} {cs : List va_E} {a0 pa0 : Nat} {l1 : Int} {l3 : Int} {l4 : Int} (hd : 1 ≤ d) (hW : WT G B τ cs) (ga0 : τ a0 = some (.inl (4, pa0))) (gl1 : rng l1) (gl3 : rng l3) (gl4 : rng l4)   (hP : ∀ r : Int, rng r → ((iv 0 1 r)) → Post (some (.int (Int32.ofInt r))) cs)  : Z (RX4, cX4_hasTwin, 5, some .boolean, false) G d Post 3 [(0, .ref (G.1 + a0)), (1, .int (Int32.ofInt l1)), (3, .int (Int32.ofInt l3)), (4, .int (Int32.ofInt l4))] [] cs := by
  have key : ∀ (n : Nat) (a0 pa0 : Nat) (l1 : Int) (l3 : Int) (l4 : Int) (hW : WT G B τ cs) (ga0 : τ a0 = some (.inl (4, pa0))) (gl1 : rng l1) (gl3 : rng l3) (gl4 : rng l4)  , (l3 - l4).toNat < n → Z (RX4, cX4_hasTwin, 5, some .boolean, false) G d Post 3 [(0, .ref (G.1 + a0)), (1, .int (Int32.ofInt l1)), (3, .int (Int32.ofInt l3)), (4, .int (Int32.ofInt l4))] [] cs := by
    intro n
    induction n with
    | zero => intro a0 pa0 l1 l3 l4 hW ga0 gl1 gl3 gl4 hm; exact absurd hm (Nat.not_lt_zero _)
    | succ n ih =>
      intro a0 pa0 l1 l3 l4 hW ga0 gl1 gl3 gl4 hm
      exact eX4_hasTwin_3 hd hW ga0 gl1 gl3 gl4 hP  (fun hW ga0 gl1 gl3 gl4 hm => ih _ _ _ _ _ hW ga0 gl1 gl3 gl4 hm) hm
  exact key _ _ _ _ _ _ hW ga0 gl1 gl3 gl4 (Nat.lt_succ_self _)
set_option maxRecDepth 100000 in
set_option maxHeartbeats 4000000 in
theorem kX4_hasTwin {G : xG} {B : Nat × Nat} {τ : Tau} {cs : List va_E} {a0 pa0 : Nat} {l1 : Int} {l2 : Int} {l3 : Int} (d : Nat) (hd : 1 ≤ d) (hW : WT G B τ cs) (ga0 : τ a0 = some (.inl (4, pa0))) (gl1 : rng l1) (gl2 : rng l2) (gl3 : rng l3)  : X G yX4_hasTwin cX4_hasTwin 5 (some .boolean) d [.ref (G.1 + a0), .int (Int32.ofInt l1), .int (Int32.ofInt l2), .int (Int32.ofInt l3)] cs (rI cs (fun r => (iv 0 1 r))) := by
  refine X.of false (by decide +kernel) (by decide) (Nat.le_of_ble_eq_true rfl) ?_
  show Z (RX4, cX4_hasTwin, 5, some .boolean, false) G d _ 0 [(0, .ref (G.1 + a0)), (1, .int (Int32.ofInt l1)), (2, .int (Int32.ofInt l2)), (3, .int (Int32.ofInt l3))] [] cs
  have hP : ∀ r : Int, rng r → ((iv 0 1 r)) → rI cs (fun r => (iv 0 1 r)) (some (.int (Int32.ofInt r))) cs := fun r h1 h2 => ⟨rfl, r, rfl, h1, h2⟩
  refine z_iload_n dX4_hasTwin_0 rfl rfl ?_
  refine z_istore dX4_hasTwin_1 (by decide) ?_
  refine z_loc (L' := [(0, .ref (G.1 + a0)), (1, .int (Int32.ofInt l1)), (2, .int (Int32.ofInt l2)), (3, .int (Int32.ofInt l3)), (4, .int (Int32.ofInt l2))]) (List.forall_mem_cons.mpr ⟨rfl, (List.forall_mem_cons.mpr ⟨rfl, (List.forall_mem_cons.mpr ⟨rfl, (List.forall_mem_cons.mpr ⟨rfl, (List.forall_mem_cons.mpr ⟨rfl, (fun _ h => nomatch h)⟩)⟩)⟩)⟩)⟩) ?_
  refine z_loc (L' := [(0, .ref (G.1 + a0)), (1, .int (Int32.ofInt l1)), (3, .int (Int32.ofInt l3)), (4, .int (Int32.ofInt l2))]) (List.forall_mem_cons.mpr ⟨rfl, (List.forall_mem_cons.mpr ⟨rfl, (List.forall_mem_cons.mpr ⟨rfl, (List.forall_mem_cons.mpr ⟨rfl, (fun _ h => nomatch h)⟩)⟩)⟩)⟩) ?_
  exact bX4_hasTwin_3 hd hW ga0 gl1 gl3 gl2   hP 
