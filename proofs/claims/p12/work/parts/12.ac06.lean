set_option maxRecDepth 100000 in
set_option maxHeartbeats 4000000 in
theorem kX4_references {G : xG} {B : Nat × Nat} {τ : Tau} {cs : List va_E} {a0 pa0 : Nat} {l1 : Int} (d : Nat) (hd : 1 ≤ d) (hW : WT G B τ cs) (ga0 : τ a0 = some (.inl (4, pa0))) (gl1 : rng l1)  : X G yX4_references cX4_references 2 (some .int) d [.ref (G.1 + a0), .int (Int32.ofInt l1)] cs (rI cs (fun r => True)) := by
  refine X.of false (by decide +kernel) (by decide) (Nat.le_of_ble_eq_true rfl) ?_
  show Z (RX4, cX4_references, 2, some .int, false) G d _ 0 [(0, .ref (G.1 + a0)), (1, .int (Int32.ofInt l1))] [] cs
  have hP : ∀ r : Int, rng r → (True) → rI cs (fun r => True) (some (.int (Int32.ofInt r))) cs := fun r h1 h2 => ⟨rfl, r, rfl, h1, h2⟩
  refine z_aload_n dX4_references_0 rfl rfl ?_
  refine z_iload_n dX4_references_1 rfl rfl ?_
  have hX0 := kX4_isClass 0 (Nat.le_refl _) hW ga0 gl1 
  refine z_callV (As := [_]) eX4_isClass sX4_isClass lX4_42 rfl dX4_references_2 (hW.ob ga0 (by decide)).choose_spec hX0 (Nat.le_trans (by decide) hd) rfl (Nat.le_of_ble_eq_true rfl) (fun r cs1 hp => ?_)
  obtain ⟨hcs, r2, rfl, gr2, ⟨n1_0, n1_1⟩⟩ := hp
  obtain rfl := hcs.symm
  refine z_st (st' := [.int (Int32.ofInt r2)]) rfl ?_
  refine i_if_eq (tgt := 17) dX4_references_5 (by decide) gr2 (fun h3 => ?_) (fun h3 => ?_)
  · refine z_iconst (v := Int32.ofInt 0) dX4_references_17 rfl ?_
    exact z_ireturn dX4_references_18 rfl rfl (hP _ (show rng 0 from ⟨by decide, by decide⟩) trivial)
  · refine z_aload_n dX4_references_8 rfl rfl ?_
    refine tw_getA hW ga0 (by decide) (by decide) rfl kX4 fX4_32 dX4_references_9 (fun b4 _ gb4 => ?_)
    refine z_iload_n dX4_references_12 rfl rfl ?_
    refine tw_iald hW gb4 (by omega) (by omega) dX4_references_13 (fun x5 _ vx5 gx5 => ?_)
    refine z_goto (tgt := 18) dX4_references_14 (by decide) ?_
    exact z_ireturn dX4_references_18 rfl rfl (hP _ gx5 trivial)

set_option maxRecDepth 100000 in
set_option maxHeartbeats 4000000 in
theorem kX3_takesRole {G : xG} {B : Nat × Nat} {τ : Tau} {cs : List va_E} {a0 pm : Nat} {l1 : Int} {l2 : Int} {l3 : Int} {l4 : Int} (d : Nat) (hd : 0 ≤ d) (hW : WT G B τ cs) (ga0 : τ a0 = some (.inl (3, pm))) (gl1 : rng l1) (gl2 : rng l2) (gl3 : rng l3) (gl4 : rng l4) (p0 : 0 ≤ l1) (p1 : l1 < (pm : Nat)) (p2 : iv 0 29 l3) : X G yX3_takesRole cX3_takesRole 5 none d [.ref (G.1 + a0), .int (Int32.ofInt l1), .int (Int32.ofInt l2), .int (Int32.ofInt l3), .int (Int32.ofInt l4)] cs (wN G B τ cs [3]) := by
  refine X.of false (by decide +kernel) (by decide) (Nat.le_of_ble_eq_true rfl) ?_
  show Z (RX3, cX3_takesRole, 5, none, false) G d _ 0 [(0, .ref (G.1 + a0)), (1, .int (Int32.ofInt l1)), (2, .int (Int32.ofInt l2)), (3, .int (Int32.ofInt l3)), (4, .int (Int32.ofInt l4))] [] cs
  have hP : ∀ (τ1 : Tau) (c1 : List va_E), WT G B τ1 c1 → Fx [3] τ cs τ1 c1 → wN G B τ cs [3] none c1 := fun τ1 c1 h1 h2 => ⟨τ1, rfl, h1, h2⟩
  have hX : Fx [3] τ cs τ cs := Fx.rf
  skip
  have hpm := hW.2.1.2.2.2.2.2.2.1 _ _ ga0
  refine z_aload_n dX3_takesRole_0 rfl rfl ?_
  refine tw_getA hW ga0 (by decide) (by decide) rfl kX3 fX3_54 dX3_takesRole_1 (fun b1 _ gb1 => ?_)
  refine z_iload_n dX3_takesRole_4 rfl rfl ?_
  refine z_iload_n dX3_takesRole_5 rfl rfl ?_
  refine tw_iast hW hX gb1 (by omega) (by omega) (any_ok _) (Or.inl rfl) dX3_takesRole_6 (fun c1 q _ => nA hW gb1 (show (2147483647 : Int) ≠ 600 by decide) (show (2147483647 : Int) ≠ 601 by decide) c1 q) (fun cs hW hX _ _ => ?_)
  refine z_aload_n dX3_takesRole_7 rfl rfl ?_
  refine tw_getA hW ga0 (by decide) (by decide) rfl kX3 fX3_57 dX3_takesRole_8 (fun b2 _ gb2 => ?_)
  refine z_iload_n dX3_takesRole_11 rfl rfl ?_
  refine z_iload_n dX3_takesRole_12 rfl rfl ?_
  refine tw_iast hW hX gb2 (by omega) (by omega) (iv_ok (by omega) (by decide) (by decide)) (Or.inl rfl) dX3_takesRole_13 (fun c1 q _ => nA hW gb2 (show (29 : Int) ≠ 600 by decide) (show (29 : Int) ≠ 601 by decide) c1 q) (fun cs hW hX _ _ => ?_)
  refine z_aload_n dX3_takesRole_14 rfl rfl ?_
  refine tw_getA hW ga0 (by decide) (by decide) rfl kX3 fX3_60 dX3_takesRole_15 (fun b3 _ gb3 => ?_)
  refine z_iload_n dX3_takesRole_18 rfl rfl ?_
  refine z_iload dX3_takesRole_19 rfl ?_
  refine tw_iast hW hX gb3 (by omega) (by omega) (any_ok _) (Or.inl rfl) dX3_takesRole_21 (fun c1 q _ => nA hW gb3 (show (2147483647 : Int) ≠ 600 by decide) (show (2147483647 : Int) ≠ 601 by decide) c1 q) (fun cs hW hX _ _ => ?_)
  refine z_aload_n dX3_takesRole_22 rfl rfl ?_
  refine tw_getA hW ga0 (by decide) (by decide) rfl kX3 fX3_63 dX3_takesRole_23 (fun b4 _ gb4 => ?_)
  refine z_iload_n dX3_takesRole_26 rfl rfl ?_
  refine z_iconst (v := Int32.ofInt (-1)) dX3_takesRole_27 rfl ?_
  refine tw_iast hW hX gb4 (by omega) (by omega) (any_ok _) (Or.inl rfl) dX3_takesRole_28 (fun c1 q _ => nA hW gb4 (show (2147483647 : Int) ≠ 600 by decide) (show (2147483647 : Int) ≠ 601 by decide) c1 q) (fun cs hW hX _ _ => ?_)
  exact z_return dX3_takesRole_29 rfl (hP _ _ hW hX)

set_option maxRecDepth 100000 in
set_option maxHeartbeats 4000000 in
theorem bX3_begins_25 {G : xG} {d : Nat} {Post : xP} {B : Nat × Nat} {τ0 τ : Tau} {c0 cs : List va_E} {a0 pm : Nat} {l1 : Int} {s0 : Int} (hd : 2 ≤ d) (hW : WT G B τ cs) (hX : Fx [1, 3] τ0 c0 τ cs) (ga0 : τ a0 = some (.inl (3, pm))) (gl1 : rng l1) (gs0 : rng s0) (i0 : iv (-1) 29 s0) (i1 : 0 ≤ l1) (i2 : l1 < (pm : Nat))  (hP : ∀ (τ1 : Tau) (c1 : List va_E) (r : Int), WT G B τ1 c1 → Fx [1, 3] τ0 c0 τ1 c1 → rng r → ((iv 0 1 r)) → Post (some (.int (Int32.ofInt r))) c1)  : Z (RX3, cX3_begins, 4, some .boolean, false) G d Post 25 [(0, .ref (G.1 + a0)), (1, .int (Int32.ofInt l1))] [.int (Int32.ofInt s0)] cs := by
  have hpm := hW.2.1.2.2.2.2.2.2.1 _ _ ga0
  refine z_istore_n dX3_begins_25 rfl (by decide) ?_
  refine z_loc (L' := [(0, .ref (G.1 + a0)), (1, .int (Int32.ofInt l1)), (3, .int (Int32.ofInt s0))]) (List.forall_mem_cons.mpr ⟨rfl, (List.forall_mem_cons.mpr ⟨rfl, (List.forall_mem_cons.mpr ⟨rfl, (fun _ h => nomatch h)⟩)⟩)⟩) ?_
  refine z_iload_n dX3_begins_26 rfl rfl ?_
  refine z_iconst (v := Int32.ofInt (-1)) dX3_begins_27 rfl ?_
  refine i_icmp_ne (tgt := 33) dX3_begins_28 (by decide) gs0 (show rng (-1) from ⟨by decide, by decide⟩) (fun h1 => ?_) (fun h1 => ?_)
  · refine z_aload_n dX3_begins_33 rfl rfl ?_
    refine z_iload_n dX3_begins_34 rfl rfl ?_
    refine z_iconst (v := Int32.ofInt 1) dX3_begins_35 rfl ?_
    refine z_iload_n dX3_begins_36 rfl rfl ?_
    refine z_iconst (v := Int32.ofInt (-1)) dX3_begins_37 rfl ?_
    have hX0 := kX3_takesRole 0 (Nat.le_refl _) hW ga0 gl1 (show rng 1 from ⟨by decide, by decide⟩) gs0 (show rng (-1) from ⟨by decide, by decide⟩) (by omega) (by omega) (by omega)
    refine z_callV (As := [_, _, _, _]) eX3_takesRole sX3_takesRole lX3_118 rfl dX3_begins_38 (hW.ob ga0 (by decide)).choose_spec hX0 (Nat.le_trans (by decide) hd) rfl (Nat.le_of_ble_eq_true rfl) (fun r cs hp => ?_)
    obtain ⟨τ, rfl, hW, k4⟩ := hp
    have hX := hX.tr k4 (by decide)
    have ga0 := k4.1.e ga0 (by decide)
    clear hX0
    refine z_st (st' := []) rfl ?_
    refine z_iconst (v := Int32.ofInt 1) dX3_begins_41 rfl ?_
    exact z_ireturn dX3_begins_42 rfl (nar01 (b01 ⟨by decide, by decide⟩)) (hP _ _ _ hW hX (show rng 1 from ⟨by decide, by decide⟩) (by omega))
  · refine z_iconst (v := Int32.ofInt 0) dX3_begins_31 rfl ?_
    exact z_ireturn dX3_begins_32 rfl (nar01 (b01 ⟨by decide, by decide⟩)) (hP _ _ _ hW hX (show rng 0 from ⟨by decide, by decide⟩) (by omega))
set_option maxRecDepth 100000 in
set_option maxHeartbeats 4000000 in
theorem kX3_begins {G : xG} {B : Nat × Nat} {τ : Tau} {cs : List va_E} {a0 pm : Nat} {l1 : Int} {l2 : Int} (d : Nat) (hd : 2 ≤ d) (hW : WT G B τ cs) (ga0 : τ a0 = some (.inl (3, pm))) (gl1 : rng l1) (gl2 : rng l2) (p0 : 0 ≤ l1) (p1 : l1 < (pm : Nat)) : X G yX3_begins cX3_begins 4 (some .boolean) d [.ref (G.1 + a0), .int (Int32.ofInt l1), .int (Int32.ofInt l2)] cs (wI G B τ cs [1, 3] (fun r => (iv 0 1 r))) := by
  refine X.of false (by decide +kernel) (by decide) (Nat.le_of_ble_eq_true rfl) ?_
  show Z (RX3, cX3_begins, 4, some .boolean, false) G d _ 0 [(0, .ref (G.1 + a0)), (1, .int (Int32.ofInt l1)), (2, .int (Int32.ofInt l2))] [] cs
  have hP : ∀ (τ1 : Tau) (c1 : List va_E) (r : Int), WT G B τ1 c1 → Fx [1, 3] τ cs τ1 c1 → rng r → ((iv 0 1 r)) → wI G B τ cs [1, 3] (fun r => (iv 0 1 r)) (some (.int (Int32.ofInt r))) c1 := fun τ1 c1 r h1 h2 h3 h4 => ⟨τ1, r, rfl, h3, h1, h2, h4⟩
  have hX : Fx [1, 3] τ cs τ cs := Fx.rf
  skip
  have hpm := hW.2.1.2.2.2.2.2.2.1 _ _ ga0
  refine z_iload_n dX3_begins_0 rfl rfl ?_
  refine z_iconst (v := Int32.ofInt (-1)) dX3_begins_1 rfl ?_
  refine i_icmp_ne (tgt := 9) dX3_begins_2 (by decide) gl2 (show rng (-1) from ⟨by decide, by decide⟩) (fun h1 => ?_) (fun h1 => ?_)
  · refine z_aload_n dX3_begins_9 rfl rfl ?_
    refine tw_getO hW ga0 (by decide) (by decide) rfl kX3 fX3_37 dX3_begins_10 (fun b2 pb2 gb2 => ?_)
    refine z_iload_n dX3_begins_13 rfl rfl ?_
    refine z_aload_n dX3_begins_14 rfl rfl ?_
    refine tw_getO hW ga0 (by decide) (by decide) rfl kX3 fX3_15 dX3_begins_15 (fun b3 pb3 gb3 => ?_)
    refine z_iload_n dX3_begins_18 rfl rfl ?_
    have hX0 := kX4_references 1 (Nat.le_refl _) hW gb3 gl2 
    refine z_callV (As := [_]) eX4_references sX4_references lX3_111 rfl dX3_begins_19 (hW.ob gb3 (by decide)).choose_spec hX0 (Nat.le_trans (by decide) hd) rfl (Nat.le_of_ble_eq_true rfl) (fun r cs1 hp => ?_)
    obtain ⟨hcs, r5, rfl, gr5, _⟩ := hp
    obtain rfl := hcs.symm
    refine z_st (st' := [.int (Int32.ofInt r5), .int (Int32.ofInt l2), .ref (G.1 + b2)]) rfl ?_
    have hX0 := kX1_born 0 (Nat.le_refl _) hW gb2 gl2 gr5 
    refine z_callV (As := [_, _]) eX1_born sX1_born lX3_114 rfl dX3_begins_22 (hW.ob gb2 (by decide)).choose_spec hX0 (Nat.le_trans (by decide) hd) rfl (Nat.le_of_ble_eq_true rfl) (fun r cs hp => ?_)
    obtain ⟨τ, r7, rfl, gr7, hW, k8, n6_0⟩ := hp
    have hX := hX.tr k8 (by decide)
    have ga0 := k8.1.e ga0 (by decide)
    clear hX0
    refine z_st (st' := [.int (Int32.ofInt r7)]) rfl ?_
    refine z_loc (L' := [(0, .ref (G.1 + a0)), (1, .int (Int32.ofInt l1))]) (List.forall_mem_cons.mpr ⟨rfl, (List.forall_mem_cons.mpr ⟨rfl, (fun _ h => nomatch h)⟩)⟩) ?_
    exact bX3_begins_25 hd hW hX ga0 gl1 gr7 (by omega) (by omega) (by omega)  hP 
  · refine z_iconst (v := Int32.ofInt (-1)) dX3_begins_5 rfl ?_
    refine z_goto (tgt := 25) dX3_begins_6 (by decide) ?_
    refine z_loc (L' := [(0, .ref (G.1 + a0)), (1, .int (Int32.ofInt l1))]) (List.forall_mem_cons.mpr ⟨rfl, (List.forall_mem_cons.mpr ⟨rfl, (fun _ h => nomatch h)⟩)⟩) ?_
    exact bX3_begins_25 hd hW hX ga0 gl1 (show rng (-1) from ⟨by decide, by decide⟩) (by omega) (by omega) (by omega)  hP 

set_option maxRecDepth 100000 in
set_option maxHeartbeats 4000000 in
theorem eX4_spells_28 {G : xG} {d : Nat} {Post : xP} {B : Nat × Nat} {τ : Tau} {cs : List va_E} {a0 pa0 : Nat} {l1 : Int} {a2 : Nat} {l3 : Int} {l5 : Int} {n28 : Nat} (hd : 1 ≤ d) (hW : WT G B τ cs) (ga0 : τ a0 = some (.inl (4, pa0))) (gl1 : rng l1) (ga2 : oT τ a2 5) (gl3 : rng l3) (gl5 : rng l5) (i0 : iv 0 29 l1) (i1 : 0 ≤ l5)  (hP : ∀ r : Int, rng r → ((iv 0 1 r)) → Post (some (.int (Int32.ofInt r))) cs)  (ih_28 : ∀ {a0 pa0 : Nat} {l1 : Int} {a2 : Nat} {l3 : Int} {l5 : Int} (hW : WT G B τ cs) (ga0 : τ a0 = some (.inl (4, pa0))) (gl1 : rng l1) (ga2 : oT τ a2 5) (gl3 : rng l3) (gl5 : rng l5) (i0 : iv 0 29 l1) (i1 : 0 ≤ l5) , (16 - l5).toNat < n28 → Z (RX4, cX4_spells, 6, some .boolean, false) G d Post 28 [(0, .ref (G.1 + a0)), (1, .int (Int32.ofInt l1)), (2, .ref (G.1 + a2)), (3, .int (Int32.ofInt l3)), (5, .int (Int32.ofInt l5))] [] cs) (hm_28 : (16 - l5).toNat < n28 + 1) : Z (RX4, cX4_spells, 6, some .boolean, false) G d Post 28 [(0, .ref (G.1 + a0)), (1, .int (Int32.ofInt l1)), (2, .ref (G.1 + a2)), (3, .int (Int32.ofInt l3)), (5, .int (Int32.ofInt l5))] [] cs := by
  refine z_iload dX4_spells_28 rfl ?_
  refine z_aload_n dX4_spells_30 rfl rfl ?_
  refine tw_getA hW ga0 (by decide) (by decide) rfl kX4 fX4_15 dX4_spells_31 (fun b1 _ gb1 => ?_)
  refine z_iload_n dX4_spells_34 rfl rfl ?_
  refine tw_iald hW gb1 (by omega) (by omega) dX4_spells_35 (fun x2 _ vx2 gx2 => ?_)
  refine i_icmp_ge (tgt := 70) dX4_spells_36 (by decide) gl5 gx2 (fun h3 => ?_) (fun h3 => ?_)
  · refine z_iconst (v := Int32.ofInt 1) dX4_spells_70 rfl ?_
    exact z_ireturn dX4_spells_71 rfl (nar01 (b01 ⟨by decide, by decide⟩)) (hP _ (show rng 1 from ⟨by decide, by decide⟩) (by omega))
  · refine z_aload_n dX4_spells_39 rfl rfl ?_
    refine tw_getA hW ga0 (by decide) (by decide) rfl kX4 fX4_11 dX4_spells_40 (fun b4 _ gb4 => ?_)
    refine z_iload_n dX4_spells_43 rfl rfl ?_
    refine z_bipush (v := Int32.ofInt 16) dX4_spells_44 (by decide) ?_
    refine tw_imul dX4_spells_46 (fun z5 gz5 ez5 => ?_)
    first | have ez5 := ez5 ⟨by omega, by omega⟩ | clear ez5
    refine z_iload dX4_spells_47 rfl ?_
    refine tw_iadd dX4_spells_49 (fun z6 gz6 ez6 => ?_)
    first | have ez6 := ez6 ⟨by omega, by omega⟩ | clear ez6
    refine tw_cald hW gb4 (by omega) (by omega) dX4_spells_50 (fun x7 _ vx7 gx7 => ?_)
    refine z_aload_n dX4_spells_51 rfl rfl ?_
    refine z_iload_n dX4_spells_52 rfl rfl ?_
    refine z_iload dX4_spells_53 rfl ?_
    refine tw_iadd dX4_spells_55 (fun z8 gz8 ez8 => ?_)
    first | have ez8 := ez8 ⟨by omega, by omega⟩ | clear ez8
    have hX0 := kX5_at 0 (Nat.le_refl _) hW ga2 gz8 
    refine z_callV (As := [_]) eX5_at sX5_at lX4_70 rfl dX4_spells_56 (hW.os ga2).choose_spec hX0 (Nat.le_trans (by decide) hd) rfl (Nat.le_of_ble_eq_true rfl) (fun r cs1 hp => ?_)
    obtain ⟨hcs, r10, rfl, gr10, n9_0⟩ := hp
    obtain rfl := hcs.symm
    refine z_st (st' := [.int (Int32.ofInt r10), .int (Int32.ofInt x7)]) rfl ?_
    refine i_icmp_eq (tgt := 64) dX4_spells_59 (by decide) gx7 gr10 (fun h11 => ?_) (fun h11 => ?_)
    · refine tw_iinc (l := l5) dX4_spells_64 rfl (by decide) (fun z12 gz12 ez12 => ?_)
      first | have ez12 := ez12 ⟨by omega, by omega⟩ | clear ez12
      refine z_loc (L' := [(0, .ref (G.1 + a0)), (1, .int (Int32.ofInt l1)), (2, .ref (G.1 + a2)), (3, .int (Int32.ofInt l3)), (5, .int (Int32.ofInt z12))]) (List.forall_mem_cons.mpr ⟨rfl, (List.forall_mem_cons.mpr ⟨rfl, (List.forall_mem_cons.mpr ⟨rfl, (List.forall_mem_cons.mpr ⟨rfl, (List.forall_mem_cons.mpr ⟨rfl, (fun _ h => nomatch h)⟩)⟩)⟩)⟩)⟩) ?_
      refine z_goto (tgt := 28) dX4_spells_67 (by decide) ?_
      refine z_loc (L' := [(0, .ref (G.1 + a0)), (1, .int (Int32.ofInt l1)), (2, .ref (G.1 + a2)), (3, .int (Int32.ofInt l3)), (5, .int (Int32.ofInt z12))]) (List.forall_mem_cons.mpr ⟨rfl, (List.forall_mem_cons.mpr ⟨rfl, (List.forall_mem_cons.mpr ⟨rfl, (List.forall_mem_cons.mpr ⟨rfl, (List.forall_mem_cons.mpr ⟨rfl, (fun _ h => nomatch h)⟩)⟩)⟩)⟩)⟩) ?_
      exact ih_28 hW ga0 gl1 ga2 gl3 gz12 (by omega) (by omega)  (by omega)
    · refine z_iconst (v := Int32.ofInt 0) dX4_spells_62 rfl ?_
      exact z_ireturn dX4_spells_63 rfl (nar01 (b01 ⟨by decide, by decide⟩)) (hP _ (show rng 0 from ⟨by decide, by decide⟩) (by omega))
set_option maxRecDepth 100000 in
set_option maxHeartbeats 4000000 in
theorem bX4_spells_28 {G : xG} {d : Nat} {Post : xP} {B : Nat × Nat} {τ : Tau} {cs : List va_E} {a0 pa0 : Nat} {l1 : Int} {a2 : Nat} {l3 : Int} {l5 : Int} (hd : 1 ≤ d) (hW : WT G B τ cs) (ga0 : τ a0 = some (.inl (4, pa0))) (gl1 : rng l1) (ga2 : oT τ a2 5) (gl3 : rng l3) (gl5 : rng l5) (i0 : iv 0 29 l1) (i1 : 0 ≤ l5)  (hP : ∀ r : Int, rng r → ((iv 0 1 r)) → Post (some (.int (Int32.ofInt r))) cs)  : Z (RX4, cX4_spells, 6, some .boolean, false) G d Post 28 [(0, .ref (G.1 + a0)), (1, .int (Int32.ofInt l1)), (2, .ref (G.1 + a2)), (3, .int (Int32.ofInt l3)), (5, .int (Int32.ofInt l5))] [] cs := by
  have key : ∀ (n : Nat) (a0 pa0 : Nat) (l1 : Int) (a2 : Nat) (l3 : Int) (l5 : Int) (hW : WT G B τ cs) (ga0 : τ a0 = some (.inl (4, pa0))) (gl1 : rng l1) (ga2 : oT τ a2 5) (gl3 : rng l3) (gl5 : rng l5) (i0 : iv 0 29 l1) (i1 : 0 ≤ l5) , (16 - l5).toNat < n → Z (RX4, cX4_spells, 6, some .boolean, false) G d Post 28 [(0, .ref (G.1 + a0)), (1, .int (Int32.ofInt l1)), (2, .ref (G.1 + a2)), (3, .int (Int32.ofInt l3)), (5, .int (Int32.ofInt l5))] [] cs := by
    intro n
    induction n with
    | zero => intro a0 pa0 l1 a2 l3 l5 hW ga0 gl1 ga2 gl3 gl5 i0 i1 hm; exact absurd hm (Nat.not_lt_zero _)
    | succ n ih =>
      intro a0 pa0 l1 a2 l3 l5 hW ga0 gl1 ga2 gl3 gl5 i0 i1 hm
      exact eX4_spells_28 hd hW ga0 gl1 ga2 gl3 gl5 i0 i1 hP  (fun hW ga0 gl1 ga2 gl3 gl5 i0 i1 hm => ih _ _ _ _ _ _ hW ga0 gl1 ga2 gl3 gl5 i0 i1 hm) hm
  exact key _ _ _ _ _ _ _ hW ga0 gl1 ga2 gl3 gl5 i0 i1 (Nat.lt_succ_self _)
set_option maxRecDepth 100000 in
set_option maxHeartbeats 4000000 in
theorem kX4_spells {G : xG} {B : Nat × Nat} {τ : Tau} {cs : List va_E} {a0 pa0 : Nat} {l1 : Int} {a2 : Nat} {l3 : Int} {l4 : Int} (d : Nat) (hd : 1 ≤ d) (hW : WT G B τ cs) (ga0 : τ a0 = some (.inl (4, pa0))) (gl1 : rng l1) (ga2 : oT τ a2 5) (gl3 : rng l3) (gl4 : rng l4)  : X G yX4_spells cX4_spells 6 (some .boolean) d [.ref (G.1 + a0), .int (Int32.ofInt l1), .ref (G.1 + a2), .int (Int32.ofInt l3), .int (Int32.ofInt l4)] cs (rI cs (fun r => (iv 0 1 r))) := by
  refine X.of false (by decide +kernel) (by decide) (Nat.le_of_ble_eq_true rfl) ?_
  show Z (RX4, cX4_spells, 6, some .boolean, false) G d _ 0 [(0, .ref (G.1 + a0)), (1, .int (Int32.ofInt l1)), (2, .ref (G.1 + a2)), (3, .int (Int32.ofInt l3)), (4, .int (Int32.ofInt l4))] [] cs
  have hP : ∀ r : Int, rng r → ((iv 0 1 r)) → rI cs (fun r => (iv 0 1 r)) (some (.int (Int32.ofInt r))) cs := fun r h1 h2 => ⟨rfl, r, rfl, h1, h2⟩
  refine z_iload_n dX4_spells_0 rfl rfl ?_
  refine i_if_lt (tgt := 23) dX4_spells_1 (by decide) gl1 (fun h1 => ?_) (fun h1 => ?_)
  · refine z_iconst (v := Int32.ofInt 0) dX4_spells_23 rfl ?_
    exact z_ireturn dX4_spells_24 rfl (nar01 (b01 ⟨by decide, by decide⟩)) (hP _ (show rng 0 from ⟨by decide, by decide⟩) (by omega))
  · refine z_iload_n dX4_spells_4 rfl rfl ?_
    refine z_bipush (v := Int32.ofInt 30) dX4_spells_5 (by decide) ?_
    refine i_icmp_ge (tgt := 23) dX4_spells_7 (by decide) gl1 (show rng 30 from ⟨by decide, by decide⟩) (fun h2 => ?_) (fun h2 => ?_)
    · refine z_iconst (v := Int32.ofInt 0) dX4_spells_23 rfl ?_
      exact z_ireturn dX4_spells_24 rfl (nar01 (b01 ⟨by decide, by decide⟩)) (hP _ (show rng 0 from ⟨by decide, by decide⟩) (by omega))
    · refine z_aload_n dX4_spells_10 rfl rfl ?_
      refine tw_getA hW ga0 (by decide) (by decide) rfl kX4 fX4_15 dX4_spells_11 (fun b3 _ gb3 => ?_)
      refine z_iload_n dX4_spells_14 rfl rfl ?_
      refine tw_iald hW gb3 (by omega) (by omega) dX4_spells_15 (fun x4 _ vx4 gx4 => ?_)
      refine z_iload dX4_spells_16 rfl ?_
      refine z_iload_n dX4_spells_18 rfl rfl ?_
      refine tw_isub dX4_spells_19 (fun z5 gz5 ez5 => ?_)
      first | have ez5 := ez5 ⟨by omega, by omega⟩ | clear ez5
      refine i_icmp_eq (tgt := 25) dX4_spells_20 (by decide) gx4 gz5 (fun h6 => ?_) (fun h6 => ?_)
      · refine z_iconst (v := Int32.ofInt 0) dX4_spells_25 rfl ?_
        refine z_istore dX4_spells_26 (by decide) ?_
        refine z_loc (L' := [(0, .ref (G.1 + a0)), (1, .int (Int32.ofInt l1)), (2, .ref (G.1 + a2)), (3, .int (Int32.ofInt l3)), (4, .int (Int32.ofInt l4)), (5, .int (Int32.ofInt 0))]) (List.forall_mem_cons.mpr ⟨rfl, (List.forall_mem_cons.mpr ⟨rfl, (List.forall_mem_cons.mpr ⟨rfl, (List.forall_mem_cons.mpr ⟨rfl, (List.forall_mem_cons.mpr ⟨rfl, (List.forall_mem_cons.mpr ⟨rfl, (fun _ h => nomatch h)⟩)⟩)⟩)⟩)⟩)⟩) ?_
        refine z_loc (L' := [(0, .ref (G.1 + a0)), (1, .int (Int32.ofInt l1)), (2, .ref (G.1 + a2)), (3, .int (Int32.ofInt l3)), (5, .int (Int32.ofInt 0))]) (List.forall_mem_cons.mpr ⟨rfl, (List.forall_mem_cons.mpr ⟨rfl, (List.forall_mem_cons.mpr ⟨rfl, (List.forall_mem_cons.mpr ⟨rfl, (List.forall_mem_cons.mpr ⟨rfl, (fun _ h => nomatch h)⟩)⟩)⟩)⟩)⟩) ?_
        exact bX4_spells_28 hd hW ga0 gl1 ga2 gl3 (show rng 0 from ⟨by decide, by decide⟩) (by omega) (by omega)  hP 
      · refine z_iconst (v := Int32.ofInt 0) dX4_spells_23 rfl ?_
        exact z_ireturn dX4_spells_24 rfl (nar01 (b01 ⟨by decide, by decide⟩)) (hP _ (show rng 0 from ⟨by decide, by decide⟩) (by omega))

set_option maxRecDepth 100000 in
set_option maxHeartbeats 4000000 in
theorem eX4_readableClass_3 {G : xG} {d : Nat} {Post : xP} {B : Nat × Nat} {τ : Tau} {cs : List va_E} {a0 pa0 : Nat} {a1 : Nat} {l2 : Int} {l3 : Int} {l4 : Int} {n3 : Nat} (hd : 2 ≤ d) (hW : WT G B τ cs) (ga0 : τ a0 = some (.inl (4, pa0))) (ga1 : oT τ a1 5) (gl2 : rng l2) (gl3 : rng l3) (gl4 : rng l4) (i0 : 0 ≤ l4)  (hP : ∀ r : Int, rng r → (True) → Post (some (.int (Int32.ofInt r))) cs)  (ih_3 : ∀ {a0 pa0 : Nat} {a1 : Nat} {l2 : Int} {l3 : Int} {l4 : Int} (hW : WT G B τ cs) (ga0 : τ a0 = some (.inl (4, pa0))) (ga1 : oT τ a1 5) (gl2 : rng l2) (gl3 : rng l3) (gl4 : rng l4) (i0 : 0 ≤ l4) , (6 - l4).toNat < n3 → Z (RX4, cX4_readableClass, 5, some .int, false) G d Post 3 [(0, .ref (G.1 + a0)), (1, .ref (G.1 + a1)), (2, .int (Int32.ofInt l2)), (3, .int (Int32.ofInt l3)), (4, .int (Int32.ofInt l4))] [] cs) (hm_3 : (6 - l4).toNat < n3 + 1) : Z (RX4, cX4_readableClass, 5, some .int, false) G d Post 3 [(0, .ref (G.1 + a0)), (1, .ref (G.1 + a1)), (2, .int (Int32.ofInt l2)), (3, .int (Int32.ofInt l3)), (4, .int (Int32.ofInt l4))] [] cs := by
  refine z_iload dX4_readableClass_3 rfl ?_
  refine z_aload_n dX4_readableClass_5 rfl rfl ?_
  refine tw_getI hW ga0 (by decide) (by decide) rfl kX4 fX4_38 dX4_readableClass_6 (fun x1 _ vx1 gx1 => ?_)
  refine i_icmp_ge (tgt := 47) dX4_readableClass_9 (by decide) gl4 gx1 (fun h2 => ?_) (fun h2 => ?_)
  · refine z_iconst (v := Int32.ofInt (-1)) dX4_readableClass_47 rfl ?_
    exact z_ireturn dX4_readableClass_48 rfl rfl (hP _ (show rng (-1) from ⟨by decide, by decide⟩) trivial)
  · refine z_aload_n dX4_readableClass_12 rfl rfl ?_
    refine z_iload dX4_readableClass_13 rfl ?_
    refine z_aload_n dX4_readableClass_15 rfl rfl ?_
    refine z_iload_n dX4_readableClass_16 rfl rfl ?_
    refine z_iload_n dX4_readableClass_17 rfl rfl ?_
    have hX0 := kX4_spells 1 (Nat.le_refl _) hW ga0 gl4 ga1 gl2 gl3 
    refine z_callV (As := [_, _, _, _]) eX4_spells sX4_spells lX4_73 rfl dX4_readableClass_18 (hW.ob ga0 (by decide)).choose_spec hX0 (Nat.le_trans (by decide) hd) rfl (Nat.le_of_ble_eq_true rfl) (fun r cs1 hp => ?_)
    obtain ⟨hcs, r4, rfl, gr4, n3_0⟩ := hp
    obtain rfl := hcs.symm
    refine z_st (st' := [.int (Int32.ofInt r4)]) rfl ?_
    refine i_if_eq (tgt := 41) dX4_readableClass_21 (by decide) gr4 (fun h5 => ?_) (fun h5 => ?_)
    · refine tw_iinc (l := l4) dX4_readableClass_41 rfl (by decide) (fun z6 gz6 ez6 => ?_)
      first | have ez6 := ez6 ⟨by omega, by omega⟩ | clear ez6
      refine z_loc (L' := [(0, .ref (G.1 + a0)), (1, .ref (G.1 + a1)), (2, .int (Int32.ofInt l2)), (3, .int (Int32.ofInt l3)), (4, .int (Int32.ofInt z6))]) (List.forall_mem_cons.mpr ⟨rfl, (List.forall_mem_cons.mpr ⟨rfl, (List.forall_mem_cons.mpr ⟨rfl, (List.forall_mem_cons.mpr ⟨rfl, (List.forall_mem_cons.mpr ⟨rfl, (fun _ h => nomatch h)⟩)⟩)⟩)⟩)⟩) ?_
      refine z_goto (tgt := 3) dX4_readableClass_44 (by decide) ?_
      refine z_loc (L' := [(0, .ref (G.1 + a0)), (1, .ref (G.1 + a1)), (2, .int (Int32.ofInt l2)), (3, .int (Int32.ofInt l3)), (4, .int (Int32.ofInt z6))]) (List.forall_mem_cons.mpr ⟨rfl, (List.forall_mem_cons.mpr ⟨rfl, (List.forall_mem_cons.mpr ⟨rfl, (List.forall_mem_cons.mpr ⟨rfl, (List.forall_mem_cons.mpr ⟨rfl, (fun _ h => nomatch h)⟩)⟩)⟩)⟩)⟩) ?_
      exact ih_3 hW ga0 ga1 gl2 gl3 gz6 (by omega)  (by omega)
    · refine z_aload_n dX4_readableClass_24 rfl rfl ?_
      refine tw_getA hW ga0 (by decide) (by decide) rfl kX4 fX4_35 dX4_readableClass_25 (fun b7 _ gb7 => ?_)
      refine z_iload dX4_readableClass_28 rfl ?_
      refine tw_zald hW gb7 (by omega) (by omega) dX4_readableClass_30 (fun x8 _ vx8 gx8 => ?_)
      refine i_if_eq (tgt := 38) dX4_readableClass_31 (by decide) gx8 (fun h9 => ?_) (fun h9 => ?_)
      · refine z_iload dX4_readableClass_38 rfl ?_
        exact z_ireturn dX4_readableClass_40 rfl rfl (hP _ gl4 trivial)
      · refine z_iconst (v := Int32.ofInt (-1)) dX4_readableClass_34 rfl ?_
        refine z_goto (tgt := 40) dX4_readableClass_35 (by decide) ?_
        exact z_ireturn dX4_readableClass_40 rfl rfl (hP _ (show rng (-1) from ⟨by decide, by decide⟩) trivial)
set_option maxRecDepth 100000 in
set_option maxHeartbeats 4000000 in
theorem bX4_readableClass_3 {G : xG} {d : Nat} {Post : xP} {B : Nat × Nat} {τ : Tau} {cs : List va_E} {a0 pa0 : Nat} {a1 : Nat} {l2 : Int} {l3 : Int} {l4 : Int} (hd : 2 ≤ d) (hW : WT G B τ cs) (ga0 : τ a0 = some (.inl (4, pa0))) (ga1 : oT τ a1 5) (gl2 : rng l2) (gl3 : rng l3) (gl4 : rng l4) (i0 : 0 ≤ l4)  (hP : ∀ r : Int, rng r → (True) → Post (some (.int (Int32.ofInt r))) cs)  : Z (RX4, cX4_readableClass, 5, some .int, false) G d Post 3 [(0, .ref (G.1 + a0)), (1, .ref (G.1 + a1)), (2, .int (Int32.ofInt l2)), (3, .int (Int32.ofInt l3)), (4, .int (Int32.ofInt l4))] [] cs := by
  have key : ∀ (n : Nat) (a0 pa0 : Nat) (a1 : Nat) (l2 : Int) (l3 : Int) (l4 : Int) (hW : WT G B τ cs) (ga0 : τ a0 = some (.inl (4, pa0))) (ga1 : oT τ a1 5) (gl2 : rng l2) (gl3 : rng l3) (gl4 : rng l4) (i0 : 0 ≤ l4) , (6 - l4).toNat < n → Z (RX4, cX4_readableClass, 5, some .int, false) G d Post 3 [(0, .ref (G.1 + a0)), (1, .ref (G.1 + a1)), (2, .int (Int32.ofInt l2)), (3, .int (Int32.ofInt l3)), (4, .int (Int32.ofInt l4))] [] cs := by
    intro n
    induction n with
    | zero => intro a0 pa0 a1 l2 l3 l4 hW ga0 ga1 gl2 gl3 gl4 i0 hm; exact absurd hm (Nat.not_lt_zero _)
    | succ n ih =>
      intro a0 pa0 a1 l2 l3 l4 hW ga0 ga1 gl2 gl3 gl4 i0 hm
      exact eX4_readableClass_3 hd hW ga0 ga1 gl2 gl3 gl4 i0 hP  (fun hW ga0 ga1 gl2 gl3 gl4 i0 hm => ih _ _ _ _ _ _ hW ga0 ga1 gl2 gl3 gl4 i0 hm) hm
  exact key _ _ _ _ _ _ _ hW ga0 ga1 gl2 gl3 gl4 i0 (Nat.lt_succ_self _)
set_option maxRecDepth 100000 in
set_option maxHeartbeats 4000000 in
theorem kX4_readableClass {G : xG} {B : Nat × Nat} {τ : Tau} {cs : List va_E} {a0 pa0 : Nat} {a1 : Nat} {l2 : Int} {l3 : Int} (d : Nat) (hd : 2 ≤ d) (hW : WT G B τ cs) (ga0 : τ a0 = some (.inl (4, pa0))) (ga1 : oT τ a1 5) (gl2 : rng l2) (gl3 : rng l3)  : X G yX4_readableClass cX4_readableClass 5 (some .int) d [.ref (G.1 + a0), .ref (G.1 + a1), .int (Int32.ofInt l2), .int (Int32.ofInt l3)] cs (rI cs (fun r => True)) := by
  refine X.of false (by decide +kernel) (by decide) (Nat.le_of_ble_eq_true rfl) ?_
  show Z (RX4, cX4_readableClass, 5, some .int, false) G d _ 0 [(0, .ref (G.1 + a0)), (1, .ref (G.1 + a1)), (2, .int (Int32.ofInt l2)), (3, .int (Int32.ofInt l3))] [] cs
  have hP : ∀ r : Int, rng r → (True) → rI cs (fun r => True) (some (.int (Int32.ofInt r))) cs := fun r h1 h2 => ⟨rfl, r, rfl, h1, h2⟩
  refine z_iconst (v := Int32.ofInt 0) dX4_readableClass_0 rfl ?_
  refine z_istore dX4_readableClass_1 (by decide) ?_
  refine z_loc (L' := [(0, .ref (G.1 + a0)), (1, .ref (G.1 + a1)), (2, .int (Int32.ofInt l2)), (3, .int (Int32.ofInt l3)), (4, .int (Int32.ofInt 0))]) (List.forall_mem_cons.mpr ⟨rfl, (List.forall_mem_cons.mpr ⟨rfl, (List.forall_mem_cons.mpr ⟨rfl, (List.forall_mem_cons.mpr ⟨rfl, (List.forall_mem_cons.mpr ⟨rfl, (fun _ h => nomatch h)⟩)⟩)⟩)⟩)⟩) ?_
  refine z_loc (L' := [(0, .ref (G.1 + a0)), (1, .ref (G.1 + a1)), (2, .int (Int32.ofInt l2)), (3, .int (Int32.ofInt l3)), (4, .int (Int32.ofInt 0))]) (List.forall_mem_cons.mpr ⟨rfl, (List.forall_mem_cons.mpr ⟨rfl, (List.forall_mem_cons.mpr ⟨rfl, (List.forall_mem_cons.mpr ⟨rfl, (List.forall_mem_cons.mpr ⟨rfl, (fun _ h => nomatch h)⟩)⟩)⟩)⟩)⟩) ?_
  exact bX4_readableClass_3 hd hW ga0 ga1 gl2 gl3 (show rng 0 from ⟨by decide, by decide⟩) (by omega)  hP 

set_option maxRecDepth 100000 in
set_option maxHeartbeats 4000000 in
theorem eX5_isAt_15 {G : xG} {d : Nat} {Post : xP} {B : Nat × Nat} {τ : Tau} {cs : List va_E} {a0 : Nat} {l1 : Int} {a3 : Nat} {l4 : Int} {n15 : Nat} (hd : 4 ≤ d) (hW : WT G B τ cs) (ga0 : oT τ a0 5) (gl1 : rng l1) (ga3 : a3 < xN) (gl4 : rng l4) (i0 : 0 ≤ l4)  (hP : ∀ r : Int, rng r → ((iv 0 1 r)) → Post (some (.int (Int32.ofInt r))) cs)  (ih_15 : ∀ {a0 : Nat} {l1 : Int} {a3 : Nat} {l4 : Int} (hW : WT G B τ cs) (ga0 : oT τ a0 5) (gl1 : rng l1) (ga3 : a3 < xN) (gl4 : rng l4) (i0 : 0 ≤ l4) , (100 - l4).toNat < n15 → Z (RX5, cX5_isAt, 5, some .boolean, false) G d Post 15 [(0, .ref (G.1 + a0)), (1, .int (Int32.ofInt l1)), (3, .ref (G.2.2.2.1 a3)), (4, .int (Int32.ofInt l4))] [] cs) (hm_15 : (100 - l4).toNat < n15 + 1) : Z (RX5, cX5_isAt, 5, some .boolean, false) G d Post 15 [(0, .ref (G.1 + a0)), (1, .int (Int32.ofInt l1)), (3, .ref (G.2.2.2.1 a3)), (4, .int (Int32.ofInt l4))] [] cs := by
  refine z_iload dX5_isAt_15 rfl ?_
  refine z_aload_n dX5_isAt_17 rfl rfl ?_
  have hX0 := kJ0_length_8abf5 1 (Nat.le_refl _) hW ga3 
  refine z_callVS (As := []) ga3 eJ0_length_8abf5 sJ0_length_8abf5 lX5_35 rfl dX5_isAt_18 hX0 (Nat.le_trans (by decide) hd) rfl (Nat.le_of_ble_eq_true rfl) (fun r cs1 hp => ?_)
  obtain ⟨hcs, r2, rfl, gr2, ⟨n1_0, n1_1⟩⟩ := hp
  obtain rfl := hcs.symm
  refine z_st (st' := [.int (Int32.ofInt r2), .int (Int32.ofInt l4)]) rfl ?_
  refine i_icmp_ge (tgt := 49) dX5_isAt_21 (by decide) gl4 gr2 (fun h3 => ?_) (fun h3 => ?_)
  · refine z_iconst (v := Int32.ofInt 1) dX5_isAt_49 rfl ?_
    exact z_ireturn dX5_isAt_50 rfl (nar01 (b01 ⟨by decide, by decide⟩)) (hP _ (show rng 1 from ⟨by decide, by decide⟩) (by omega))
  · refine z_aload_n dX5_isAt_24 rfl rfl ?_
    refine z_iload_n dX5_isAt_25 rfl rfl ?_
    refine z_iload dX5_isAt_26 rfl ?_
    refine tw_iadd dX5_isAt_28 (fun z4 gz4 ez4 => ?_)
    first | have ez4 := ez4 ⟨by omega, by omega⟩ | clear ez4
    have hX0 := kX5_at 0 (Nat.le_refl _) hW ga0 gz4 
    refine z_callV (As := [_]) eX5_at sX5_at lX5_52 rfl dX5_isAt_29 (hW.os ga0).choose_spec hX0 (Nat.le_trans (by decide) hd) rfl (Nat.le_of_ble_eq_true rfl) (fun r cs1 hp => ?_)
    obtain ⟨hcs, r6, rfl, gr6, n5_0⟩ := hp
    obtain rfl := hcs.symm
    refine z_st (st' := [.int (Int32.ofInt r6)]) rfl ?_
    refine z_aload_n dX5_isAt_32 rfl rfl ?_
    refine z_iload dX5_isAt_33 rfl ?_
    have hX0 := kJ0_charAt_5068e 3 (Nat.le_refl _) hW ga3 gl4 (by omega) (by omega)
    refine z_callVS (As := [_]) ga3 eJ0_charAt_5068e sJ0_charAt_5068e lX5_40 rfl dX5_isAt_35 hX0 (Nat.le_trans (by decide) hd) rfl (Nat.le_of_ble_eq_true rfl) (fun r cs1 hp => ?_)
    obtain ⟨hcs, r8, rfl, gr8, _⟩ := hp
    obtain rfl := hcs.symm
    refine z_st (st' := [.int (Int32.ofInt r8), .int (Int32.ofInt r6)]) rfl ?_
    refine i_icmp_eq (tgt := 43) dX5_isAt_38 (by decide) gr6 gr8 (fun h9 => ?_) (fun h9 => ?_)
    · refine tw_iinc (l := l4) dX5_isAt_43 rfl (by decide) (fun z10 gz10 ez10 => ?_)
      first | have ez10 := ez10 ⟨by omega, by omega⟩ | clear ez10
      refine z_loc (L' := [(0, .ref (G.1 + a0)), (1, .int (Int32.ofInt l1)), (3, .ref (G.2.2.2.1 a3)), (4, .int (Int32.ofInt z10))]) (List.forall_mem_cons.mpr ⟨rfl, (List.forall_mem_cons.mpr ⟨rfl, (List.forall_mem_cons.mpr ⟨rfl, (List.forall_mem_cons.mpr ⟨rfl, (fun _ h => nomatch h)⟩)⟩)⟩)⟩) ?_
      refine z_goto (tgt := 15) dX5_isAt_46 (by decide) ?_
      refine z_loc (L' := [(0, .ref (G.1 + a0)), (1, .int (Int32.ofInt l1)), (3, .ref (G.2.2.2.1 a3)), (4, .int (Int32.ofInt z10))]) (List.forall_mem_cons.mpr ⟨rfl, (List.forall_mem_cons.mpr ⟨rfl, (List.forall_mem_cons.mpr ⟨rfl, (List.forall_mem_cons.mpr ⟨rfl, (fun _ h => nomatch h)⟩)⟩)⟩)⟩) ?_
      exact ih_15 hW ga0 gl1 ga3 gz10 (by omega)  (by omega)
    · refine z_iconst (v := Int32.ofInt 0) dX5_isAt_41 rfl ?_
      exact z_ireturn dX5_isAt_42 rfl (nar01 (b01 ⟨by decide, by decide⟩)) (hP _ (show rng 0 from ⟨by decide, by decide⟩) (by omega))
set_option maxRecDepth 100000 in
set_option maxHeartbeats 4000000 in
theorem bX5_isAt_15 {G : xG} {d : Nat} {Post : xP} {B : Nat × Nat} {τ : Tau} {cs : List va_E} {a0 : Nat} {l1 : Int} {a3 : Nat} {l4 : Int} (hd : 4 ≤ d) (hW : WT G B τ cs) (ga0 : oT τ a0 5) (gl1 : rng l1) (ga3 : a3 < xN) (gl4 : rng l4) (i0 : 0 ≤ l4)  (hP : ∀ r : Int, rng r → ((iv 0 1 r)) → Post (some (.int (Int32.ofInt r))) cs)  : Z (RX5, cX5_isAt, 5, some .boolean, false) G d Post 15 [(0, .ref (G.1 + a0)), (1, .int (Int32.ofInt l1)), (3, .ref (G.2.2.2.1 a3)), (4, .int (Int32.ofInt l4))] [] cs := by
  have key : ∀ (n : Nat) (a0 : Nat) (l1 : Int) (a3 : Nat) (l4 : Int) (hW : WT G B τ cs) (ga0 : oT τ a0 5) (gl1 : rng l1) (ga3 : a3 < xN) (gl4 : rng l4) (i0 : 0 ≤ l4) , (100 - l4).toNat < n → Z (RX5, cX5_isAt, 5, some .boolean, false) G d Post 15 [(0, .ref (G.1 + a0)), (1, .int (Int32.ofInt l1)), (3, .ref (G.2.2.2.1 a3)), (4, .int (Int32.ofInt l4))] [] cs := by
    intro n
    induction n with
    | zero => intro a0 l1 a3 l4 hW ga0 gl1 ga3 gl4 i0 hm; exact absurd hm (Nat.not_lt_zero _)
    | succ n ih =>
      intro a0 l1 a3 l4 hW ga0 gl1 ga3 gl4 i0 hm
      exact eX5_isAt_15 hd hW ga0 gl1 ga3 gl4 i0 hP  (fun hW ga0 gl1 ga3 gl4 i0 hm => ih _ _ _ _ hW ga0 gl1 ga3 gl4 i0 hm) hm
  exact key _ _ _ _ _ hW ga0 gl1 ga3 gl4 i0 (Nat.lt_succ_self _)
set_option maxRecDepth 100000 in
set_option maxHeartbeats 4000000 in
theorem kX5_isAt {G : xG} {B : Nat × Nat} {τ : Tau} {cs : List va_E} {a0 : Nat} {l1 : Int} {l2 : Int} {a3 : Nat} (d : Nat) (hd : 4 ≤ d) (hW : WT G B τ cs) (ga0 : oT τ a0 5) (gl1 : rng l1) (gl2 : rng l2) (ga3 : a3 < xN)  : X G yX5_isAt cX5_isAt 5 (some .boolean) d [.ref (G.1 + a0), .int (Int32.ofInt l1), .int (Int32.ofInt l2), .ref (G.2.2.2.1 a3)] cs (rI cs (fun r => (iv 0 1 r))) := by
  refine X.of false (by decide +kernel) (by decide) (Nat.le_of_ble_eq_true rfl) ?_
  show Z (RX5, cX5_isAt, 5, some .boolean, false) G d _ 0 [(0, .ref (G.1 + a0)), (1, .int (Int32.ofInt l1)), (2, .int (Int32.ofInt l2)), (3, .ref (G.2.2.2.1 a3))] [] cs
  have hP : ∀ r : Int, rng r → ((iv 0 1 r)) → rI cs (fun r => (iv 0 1 r)) (some (.int (Int32.ofInt r))) cs := fun r h1 h2 => ⟨rfl, r, rfl, h1, h2⟩
  refine z_iload_n dX5_isAt_0 rfl rfl ?_
  refine z_iload_n dX5_isAt_1 rfl rfl ?_
  refine tw_isub dX5_isAt_2 (fun z1 gz1 ez1 => ?_)
  first | have ez1 := ez1 ⟨by omega, by omega⟩ | clear ez1
  refine z_aload_n dX5_isAt_3 rfl rfl ?_
  have hX0 := kJ0_length_8abf5 1 (Nat.le_refl _) hW ga3 
  refine z_callVS (As := []) ga3 eJ0_length_8abf5 sJ0_length_8abf5 lX5_35 rfl dX5_isAt_4 hX0 (Nat.le_trans (by decide) hd) rfl (Nat.le_of_ble_eq_true rfl) (fun r cs1 hp => ?_)
  obtain ⟨hcs, r3, rfl, gr3, ⟨n2_0, n2_1⟩⟩ := hp
  obtain rfl := hcs.symm
  refine z_st (st' := [.int (Int32.ofInt r3), .int (Int32.ofInt z1)]) rfl ?_
  refine i_icmp_eq (tgt := 12) dX5_isAt_7 (by decide) gz1 gr3 (fun h4 => ?_) (fun h4 => ?_)
  · refine z_iconst (v := Int32.ofInt 0) dX5_isAt_12 rfl ?_
    refine z_istore dX5_isAt_13 (by decide) ?_
    refine z_loc (L' := [(0, .ref (G.1 + a0)), (1, .int (Int32.ofInt l1)), (2, .int (Int32.ofInt l2)), (3, .ref (G.2.2.2.1 a3)), (4, .int (Int32.ofInt 0))]) (List.forall_mem_cons.mpr ⟨rfl, (List.forall_mem_cons.mpr ⟨rfl, (List.forall_mem_cons.mpr ⟨rfl, (List.forall_mem_cons.mpr ⟨rfl, (List.forall_mem_cons.mpr ⟨rfl, (fun _ h => nomatch h)⟩)⟩)⟩)⟩)⟩) ?_
    refine z_loc (L' := [(0, .ref (G.1 + a0)), (1, .int (Int32.ofInt l1)), (3, .ref (G.2.2.2.1 a3)), (4, .int (Int32.ofInt 0))]) (List.forall_mem_cons.mpr ⟨rfl, (List.forall_mem_cons.mpr ⟨rfl, (List.forall_mem_cons.mpr ⟨rfl, (List.forall_mem_cons.mpr ⟨rfl, (fun _ h => nomatch h)⟩)⟩)⟩)⟩) ?_
    exact bX5_isAt_15 hd hW ga0 gl1 ga3 (show rng 0 from ⟨by decide, by decide⟩) (by omega)  hP 
  · refine z_iconst (v := Int32.ofInt 0) dX5_isAt_10 rfl ?_
    exact z_ireturn dX5_isAt_11 rfl (nar01 (b01 ⟨by decide, by decide⟩)) (hP _ (show rng 0 from ⟨by decide, by decide⟩) (by omega))

set_option maxRecDepth 100000 in
set_option maxHeartbeats 4000000 in
theorem kX6_has {G : xG} {B : Nat × Nat} {τ : Tau} {cs : List va_E} {a0 pa0 : Nat} {l1 : Int} (d : Nat) (hd : 0 ≤ d) (hW : WT G B τ cs) (ga0 : τ a0 = some (.inl (6, pa0))) (gl1 : rng l1)  : X G yX6_has cX6_has 2 (some .boolean) d [.ref (G.1 + a0), .int (Int32.ofInt l1)] cs (rI cs (fun r => (iv 0 1 r) ∧ ((0 ≤ l1 ∧ l1 < fld cs a0 16 ∧ r = 1) ∨ (¬ (0 ≤ l1 ∧ l1 < fld cs a0 16) ∧ r = 0)) ∧ (iv 0 200 (fld cs a0 16)))) := by
  refine X.of false (by decide +kernel) (by decide) (Nat.le_of_ble_eq_true rfl) ?_
  show Z (RX6, cX6_has, 2, some .boolean, false) G d _ 0 [(0, .ref (G.1 + a0)), (1, .int (Int32.ofInt l1))] [] cs
  have hP : ∀ r : Int, rng r → ((iv 0 1 r) ∧ ((0 ≤ l1 ∧ l1 < fld cs a0 16 ∧ r = 1) ∨ (¬ (0 ≤ l1 ∧ l1 < fld cs a0 16) ∧ r = 0)) ∧ (iv 0 200 (fld cs a0 16))) → rI cs (fun r => (iv 0 1 r) ∧ ((0 ≤ l1 ∧ l1 < fld cs a0 16 ∧ r = 1) ∨ (¬ (0 ≤ l1 ∧ l1 < fld cs a0 16) ∧ r = 0)) ∧ (iv 0 200 (fld cs a0 16))) (some (.int (Int32.ofInt r))) cs := fun r h1 h2 => ⟨rfl, r, rfl, h1, h2⟩
  have hsz := hW.fiv (k := 16) ga0 (by decide) (by decide) rfl
  refine z_iload_n dX6_has_0 rfl rfl ?_
  refine i_if_lt (tgt := 16) dX6_has_1 (by decide) gl1 (fun h1 => ?_) (fun h1 => ?_)
  · refine z_iconst (v := Int32.ofInt 0) dX6_has_16 rfl ?_
    exact z_ireturn dX6_has_17 rfl (nar01 (b01 ⟨by decide, by decide⟩)) (hP _ (show rng 0 from ⟨by decide, by decide⟩) ⟨by omega, by omega, by omega⟩)
  · refine z_iload_n dX6_has_4 rfl rfl ?_
    refine z_aload_n dX6_has_5 rfl rfl ?_
    refine tw_getI hW ga0 (by decide) (by decide) rfl kX6 fX6_65 dX6_has_6 (fun x2 qx2 vx2 gx2 => ?_)
    refine i_icmp_ge (tgt := 16) dX6_has_9 (by decide) gl1 gx2 (fun h3 => ?_) (fun h3 => ?_)
    · refine z_iconst (v := Int32.ofInt 0) dX6_has_16 rfl ?_
      exact z_ireturn dX6_has_17 rfl (nar01 (b01 ⟨by decide, by decide⟩)) (hP _ (show rng 0 from ⟨by decide, by decide⟩) ⟨by omega, by omega, by omega⟩)
    · refine z_iconst (v := Int32.ofInt 1) dX6_has_12 rfl ?_
      refine z_goto (tgt := 17) dX6_has_13 (by decide) ?_
      exact z_ireturn dX6_has_17 rfl (nar01 (b01 ⟨by decide, by decide⟩)) (hP _ (show rng 1 from ⟨by decide, by decide⟩) ⟨by omega, by omega, by omega⟩)

