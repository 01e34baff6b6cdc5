set_option maxRecDepth 100000 in
set_option maxHeartbeats 4000000 in
theorem kX4_isExplicitList {G : xG} {B : Nat × Nat} {τ : Tau} {cs : List va_E} {a0 pa0 : Nat} {l1 : Int} {l2 : Int} (d : Nat) (hd : 2 ≤ d) (hW : WT G B τ cs) (ga0 : τ a0 = some (.inl (4, pa0))) (gl1 : rng l1) (gl2 : rng l2)  : X G yX4_isExplicitList cX4_isExplicitList 3 (some .boolean) d [.ref (G.1 + a0), .int (Int32.ofInt l1), .int (Int32.ofInt l2)] cs (rI cs (fun r => (iv 0 1 r))) := by
  refine X.of false (by decide +kernel) (by decide) (Nat.le_of_ble_eq_true rfl) ?_
  show Z (RX4, cX4_isExplicitList, 3, some .boolean, false) G d _ 0 [(0, .ref (G.1 + a0)), (1, .int (Int32.ofInt l1)), (2, .int (Int32.ofInt l2))] [] cs
  have hP : ∀ r : Int, rng r → ((iv 0 1 r)) → rI cs (fun r => (iv 0 1 r)) (some (.int (Int32.ofInt r))) cs := fun r h1 h2 => ⟨rfl, r, rfl, h1, h2⟩
  refine z_aload_n dX4_isExplicitList_0 rfl rfl ?_
  refine z_iload_n dX4_isExplicitList_1 rfl rfl ?_
  refine z_iload_n dX4_isExplicitList_2 rfl rfl ?_
  have hX0 := kX4_shape 1 (Nat.le_refl _) hW ga0 gl1 gl2 
  refine z_callV (As := [_, _]) eX4_shape sX4_shape lX4_50 rfl dX4_isExplicitList_3 (hW.ob ga0 (by decide)).choose_spec hX0 (Nat.le_trans (by decide) hd) rfl (Nat.le_of_ble_eq_true rfl) (fun r cs1 hp => ?_)
  obtain ⟨hcs, r2, rfl, gr2, _⟩ := hp
  obtain rfl := hcs.symm
  refine z_st (st' := [.int (Int32.ofInt r2)]) rfl ?_
  refine z_iconst (v := Int32.ofInt 4) dX4_isExplicitList_6 rfl ?_
  refine i_icmp_ne (tgt := 23) dX4_isExplicitList_7 (by decide) gr2 (show rng 4 from ⟨by decide, by decide⟩) (fun h3 => ?_) (fun h3 => ?_)
  · refine z_iconst (v := Int32.ofInt 0) dX4_isExplicitList_23 rfl ?_
    exact z_ireturn dX4_isExplicitList_24 rfl (nar01 (b01 ⟨by decide, by decide⟩)) (hP _ (show rng 0 from ⟨by decide, by decide⟩) (by omega))
  · refine z_aload_n dX4_isExplicitList_10 rfl rfl ?_
    refine z_iload_n dX4_isExplicitList_11 rfl rfl ?_
    have hX0 := kX4_implicit 1 (Nat.le_refl _) hW ga0 gl1 
    refine z_callV (As := [_]) eX4_implicit sX4_implicit lX4_54 rfl dX4_isExplicitList_12 (hW.ob ga0 (by decide)).choose_spec hX0 (Nat.le_trans (by decide) hd) rfl (Nat.le_of_ble_eq_true rfl) (fun r cs1 hp => ?_)
    obtain ⟨hcs, r5, rfl, gr5, _⟩ := hp
    obtain rfl := hcs.symm
    refine z_st (st' := [.int (Int32.ofInt r5)]) rfl ?_
    refine z_iload_n dX4_isExplicitList_15 rfl rfl ?_
    refine i_icmp_eq (tgt := 23) dX4_isExplicitList_16 (by decide) gr5 gl2 (fun h6 => ?_) (fun h6 => ?_)
    · refine z_iconst (v := Int32.ofInt 0) dX4_isExplicitList_23 rfl ?_
      exact z_ireturn dX4_isExplicitList_24 rfl (nar01 (b01 ⟨by decide, by decide⟩)) (hP _ (show rng 0 from ⟨by decide, by decide⟩) (by omega))
    · refine z_iconst (v := Int32.ofInt 1) dX4_isExplicitList_19 rfl ?_
      refine z_goto (tgt := 24) dX4_isExplicitList_20 (by decide) ?_
      exact z_ireturn dX4_isExplicitList_24 rfl (nar01 (b01 ⟨by decide, by decide⟩)) (hP _ (show rng 1 from ⟨by decide, by decide⟩) (by omega))

set_option maxRecDepth 100000 in
set_option maxHeartbeats 4000000 in
theorem kX8_listElement {G : xG} {B : Nat × Nat} {τ : Tau} {cs : List va_E} {l0 : Int} {l1 : Int} (d : Nat) (hd : 0 ≤ d) (hW : WT G B τ cs) (gl0 : rng l0) (gl1 : rng l1)  : X G yX8_listElement cX8_listElement 2 (some .int) d [.int (Int32.ofInt l0), .int (Int32.ofInt l1)] cs (rI cs (fun r => True)) := by
  refine X.of false (by decide +kernel) (by decide) (Nat.le_of_ble_eq_true rfl) ?_
  show Z (RX8, cX8_listElement, 2, some .int, false) G d _ 0 [(0, .int (Int32.ofInt l0)), (1, .int (Int32.ofInt l1))] [] cs
  have hP : ∀ r : Int, rng r → (True) → rI cs (fun r => True) (some (.int (Int32.ofInt r))) cs := fun r h1 h2 => ⟨rfl, r, rfl, h1, h2⟩
  refine z_bipush (v := Int32.ofInt 30) dX8_listElement_0 (by decide) ?_
  refine z_iload_n dX8_listElement_2 rfl rfl ?_
  refine z_iconst (v := Int32.ofInt 4) dX8_listElement_3 rfl ?_
  refine tw_imul dX8_listElement_4 (fun z1 gz1 ez1 => ?_)
  first | have ez1 := ez1 ⟨by omega, by omega⟩ | clear ez1
  refine tw_iadd dX8_listElement_5 (fun z2 gz2 ez2 => ?_)
  first | have ez2 := ez2 ⟨by omega, by omega⟩ | clear ez2
  refine z_iload_n dX8_listElement_6 rfl rfl ?_
  refine tw_iadd dX8_listElement_7 (fun z3 gz3 ez3 => ?_)
  first | have ez3 := ez3 ⟨by omega, by omega⟩ | clear ez3
  exact z_ireturn dX8_listElement_8 rfl rfl (hP _ gz3 trivial)

set_option maxRecDepth 100000 in
set_option maxHeartbeats 4000000 in
theorem bX8_ancestry_100 {G : xG} {d : Nat} {Post : xP} {B : Nat × Nat} {τ0 τ : Tau} {c0 cs : List va_E} {a0 pa0 : Nat} {a1 : Nat} {l4 : Int} {l6 : Int} {l7 : Int} {n9 : Nat} (hd : 3 ≤ d) (hW : WT G B τ cs) (hX : Fx [8] τ0 c0 τ cs) (ga0 : τ a0 = some (.inl (8, pa0))) (ga1 : τ a1 = some (.inr (0, 62, (-2147483648), 2147483647))) (gl4 : rng l4) (gl6 : rng l6) (gl7 : rng l7) (i0 : iv 0 62 l4) (i1 : 1 ≤ 30 - l6) (hm_9 : (30 - l6).toNat < n9 + 1) (hP : ∀ (τ1 : Tau) (c1 : List va_E) (r : Int), WT G B τ1 c1 → Fx [8] τ0 c0 τ1 c1 → rng r → ((iv 0 62 r)) → Post (some (.int (Int32.ofInt r))) c1) (ih_9 : ∀ {τ : Tau} {cs : List va_E} {a0 pa0 : Nat} {a1 : Nat} {l4 : Int} {l5 : Int} {l6 : Int} (hW : WT G B τ cs) (hX : Fx [8] τ0 c0 τ cs) (ga0 : τ a0 = some (.inl (8, pa0))) (ga1 : τ a1 = some (.inr (0, 62, (-2147483648), 2147483647))) (gl4 : rng l4) (gl5 : rng l5) (gl6 : rng l6) (i0 : iv 0 62 l4) , (30 - l6).toNat < n9 → Z (RX8, cX8_ancestry, 8, some .int, false) G d Post 9 [(0, .ref (G.1 + a0)), (1, .ref (G.1 + a1)), (4, .int (Int32.ofInt l4)), (5, .int (Int32.ofInt l5)), (6, .int (Int32.ofInt l6))] [] cs) : Z (RX8, cX8_ancestry, 8, some .int, false) G d Post 100 [(0, .ref (G.1 + a0)), (1, .ref (G.1 + a1)), (4, .int (Int32.ofInt l4)), (6, .int (Int32.ofInt l6)), (7, .int (Int32.ofInt l7))] [] cs := by
  refine z_iload dX8_ancestry_100 rfl ?_
  refine z_istore dX8_ancestry_102 (by decide) ?_
  refine z_loc (L' := [(0, .ref (G.1 + a0)), (1, .ref (G.1 + a1)), (4, .int (Int32.ofInt l4)), (5, .int (Int32.ofInt l7)), (6, .int (Int32.ofInt l6)), (7, .int (Int32.ofInt l7))]) (List.forall_mem_cons.mpr ⟨rfl, (List.forall_mem_cons.mpr ⟨rfl, (List.forall_mem_cons.mpr ⟨rfl, (List.forall_mem_cons.mpr ⟨rfl, (List.forall_mem_cons.mpr ⟨rfl, (List.forall_mem_cons.mpr ⟨rfl, (fun _ h => nomatch h)⟩)⟩)⟩)⟩)⟩)⟩) ?_
  refine tw_iinc (l := l6) dX8_ancestry_104 rfl (by decide) (fun z1 gz1 ez1 => ?_)
  first | have ez1 := ez1 ⟨by omega, by omega⟩ | clear ez1
  refine z_loc (L' := [(0, .ref (G.1 + a0)), (1, .ref (G.1 + a1)), (4, .int (Int32.ofInt l4)), (5, .int (Int32.ofInt l7)), (6, .int (Int32.ofInt z1)), (7, .int (Int32.ofInt l7))]) (List.forall_mem_cons.mpr ⟨rfl, (List.forall_mem_cons.mpr ⟨rfl, (List.forall_mem_cons.mpr ⟨rfl, (List.forall_mem_cons.mpr ⟨rfl, (List.forall_mem_cons.mpr ⟨rfl, (List.forall_mem_cons.mpr ⟨rfl, (fun _ h => nomatch h)⟩)⟩)⟩)⟩)⟩)⟩) ?_
  refine z_goto (tgt := 9) dX8_ancestry_107 (by decide) ?_
  refine z_loc (L' := [(0, .ref (G.1 + a0)), (1, .ref (G.1 + a1)), (4, .int (Int32.ofInt l4)), (5, .int (Int32.ofInt l7)), (6, .int (Int32.ofInt z1))]) (List.forall_mem_cons.mpr ⟨rfl, (List.forall_mem_cons.mpr ⟨rfl, (List.forall_mem_cons.mpr ⟨rfl, (List.forall_mem_cons.mpr ⟨rfl, (List.forall_mem_cons.mpr ⟨rfl, (fun _ h => nomatch h)⟩)⟩)⟩)⟩)⟩) ?_
  exact ih_9 hW hX ga0 ga1 gl4 gl7 gz1 (by omega)  (by omega)
set_option maxRecDepth 100000 in
set_option maxHeartbeats 4000000 in
theorem eX8_ancestry_9 {G : xG} {d : Nat} {Post : xP} {B : Nat × Nat} {τ0 τ : Tau} {c0 cs : List va_E} {a0 pa0 : Nat} {a1 : Nat} {l4 : Int} {l5 : Int} {l6 : Int} {n9 : Nat} (hd : 3 ≤ d) (hW : WT G B τ cs) (hX : Fx [8] τ0 c0 τ cs) (ga0 : τ a0 = some (.inl (8, pa0))) (ga1 : τ a1 = some (.inr (0, 62, (-2147483648), 2147483647))) (gl4 : rng l4) (gl5 : rng l5) (gl6 : rng l6) (i0 : iv 0 62 l4)  (hP : ∀ (τ1 : Tau) (c1 : List va_E) (r : Int), WT G B τ1 c1 → Fx [8] τ0 c0 τ1 c1 → rng r → ((iv 0 62 r)) → Post (some (.int (Int32.ofInt r))) c1)  (ih_9 : ∀ {τ : Tau} {cs : List va_E} {a0 pa0 : Nat} {a1 : Nat} {l4 : Int} {l5 : Int} {l6 : Int} (hW : WT G B τ cs) (hX : Fx [8] τ0 c0 τ cs) (ga0 : τ a0 = some (.inl (8, pa0))) (ga1 : τ a1 = some (.inr (0, 62, (-2147483648), 2147483647))) (gl4 : rng l4) (gl5 : rng l5) (gl6 : rng l6) (i0 : iv 0 62 l4) , (30 - l6).toNat < n9 → Z (RX8, cX8_ancestry, 8, some .int, false) G d Post 9 [(0, .ref (G.1 + a0)), (1, .ref (G.1 + a1)), (4, .int (Int32.ofInt l4)), (5, .int (Int32.ofInt l5)), (6, .int (Int32.ofInt l6))] [] cs) (hm_9 : (30 - l6).toNat < n9 + 1) : Z (RX8, cX8_ancestry, 8, some .int, false) G d Post 9 [(0, .ref (G.1 + a0)), (1, .ref (G.1 + a1)), (4, .int (Int32.ofInt l4)), (5, .int (Int32.ofInt l5)), (6, .int (Int32.ofInt l6))] [] cs := by
  refine z_iload dX8_ancestry_9 rfl ?_
  refine z_bipush (v := Int32.ofInt 30) dX8_ancestry_11 (by decide) ?_
  refine i_icmp_ge (tgt := 110) dX8_ancestry_13 (by decide) gl6 (show rng 30 from ⟨by decide, by decide⟩) (fun h1 => ?_) (fun h1 => ?_)
  · refine z_iload dX8_ancestry_110 rfl ?_
    exact z_ireturn dX8_ancestry_112 rfl rfl (hP _ _ _ hW hX gl4 (by omega))
  · refine z_aload_n dX8_ancestry_16 rfl rfl ?_
    refine tw_getO hW ga0 (by decide) (by decide) rfl kX8 fX8_42 dX8_ancestry_17 (fun b2 pb2 gb2 => ?_)
    refine z_iload dX8_ancestry_20 rfl ?_
    have hX0 := kX1_has 0 (Nat.le_refl _) hW gb2 gl5 
    refine z_callV (As := [_]) eX1_has sX1_has lX8_62 rfl dX8_ancestry_22 (hW.ob gb2 (by decide)).choose_spec hX0 (Nat.le_trans (by decide) hd) rfl (Nat.le_of_ble_eq_true rfl) (fun r cs1 hp => ?_)
    obtain ⟨hcs, r4, rfl, gr4, ⟨n3_0, n3_1⟩⟩ := hp
    obtain rfl := hcs.symm
    refine z_st (st' := [.int (Int32.ofInt r4)]) rfl ?_
    refine i_if_eq (tgt := 110) dX8_ancestry_25 (by decide) gr4 (fun h5 => ?_) (fun h5 => ?_)
    · refine z_iload dX8_ancestry_110 rfl ?_
      exact z_ireturn dX8_ancestry_112 rfl rfl (hP _ _ _ hW hX gl4 (by omega))
    · refine z_iload dX8_ancestry_28 rfl ?_
      refine z_iconst (v := Int32.ofInt 2) dX8_ancestry_30 rfl ?_
      refine tw_iadd dX8_ancestry_31 (fun z6 gz6 ez6 => ?_)
      first | have ez6 := ez6 ⟨by omega, by omega⟩ | clear ez6
      refine z_aload_n dX8_ancestry_32 rfl rfl ?_
      refine tw_alen (t0 := 0) hW ga1 rfl dX8_ancestry_33 (fun x7 qx7 gx7 => ?_)
      refine i_icmp_gt (tgt := 110) dX8_ancestry_34 (by decide) gz6 gx7 (fun h8 => ?_) (fun h8 => ?_)
      · refine z_iload dX8_ancestry_110 rfl ?_
        exact z_ireturn dX8_ancestry_112 rfl rfl (hP _ _ _ hW hX gl4 (by omega))
      · refine z_aload_n dX8_ancestry_37 rfl rfl ?_
        refine z_iload dX8_ancestry_38 rfl ?_
        refine z_iload dX8_ancestry_40 rfl ?_
        refine tw_iast hW hX ga1 (by omega) (by omega) (any_ok _) (Or.inl rfl) dX8_ancestry_42 (fun c1 q _ => nA hW ga1 (show (2147483647 : Int) ≠ 600 by decide) (show (2147483647 : Int) ≠ 601 by decide) c1 q) (fun cs hW hX _ _ => ?_)
        refine tw_iinc (l := l4) dX8_ancestry_43 rfl (by decide) (fun z9 gz9 ez9 => ?_)
        first | have ez9 := ez9 ⟨by omega, by omega⟩ | clear ez9
        refine z_loc (L' := [(0, .ref (G.1 + a0)), (1, .ref (G.1 + a1)), (4, .int (Int32.ofInt z9)), (5, .int (Int32.ofInt l5)), (6, .int (Int32.ofInt l6))]) (List.forall_mem_cons.mpr ⟨rfl, (List.forall_mem_cons.mpr ⟨rfl, (List.forall_mem_cons.mpr ⟨rfl, (List.forall_mem_cons.mpr ⟨rfl, (List.forall_mem_cons.mpr ⟨rfl, (fun _ h => nomatch h)⟩)⟩)⟩)⟩)⟩) ?_
        refine z_aload_n dX8_ancestry_46 rfl rfl ?_
        refine tw_getA hW ga0 (by decide) (by decide) rfl kX8 fX8_15 dX8_ancestry_47 (fun b10 _ gb10 => ?_)
        refine z_iload dX8_ancestry_50 rfl ?_
        refine tw_iald hW gb10 (by omega) (by omega) dX8_ancestry_52 (fun x11 _ vx11 gx11 => ?_)
        refine z_istore dX8_ancestry_53 (by decide) ?_
        refine z_loc (L' := [(0, .ref (G.1 + a0)), (1, .ref (G.1 + a1)), (4, .int (Int32.ofInt z9)), (5, .int (Int32.ofInt l5)), (6, .int (Int32.ofInt l6)), (7, .int (Int32.ofInt x11))]) (List.forall_mem_cons.mpr ⟨rfl, (List.forall_mem_cons.mpr ⟨rfl, (List.forall_mem_cons.mpr ⟨rfl, (List.forall_mem_cons.mpr ⟨rfl, (List.forall_mem_cons.mpr ⟨rfl, (List.forall_mem_cons.mpr ⟨rfl, (fun _ h => nomatch h)⟩)⟩)⟩)⟩)⟩)⟩) ?_
        refine z_aload_n dX8_ancestry_55 rfl rfl ?_
        refine tw_getO hW ga0 (by decide) (by decide) rfl kX8 fX8_38 dX8_ancestry_56 (fun b12 pb12 gb12 => ?_)
        refine z_aload_n dX8_ancestry_59 rfl rfl ?_
        refine tw_getO hW ga0 (by decide) (by decide) rfl kX8 fX8_42 dX8_ancestry_60 (fun b13 pb13 gb13 => ?_)
        refine z_iload dX8_ancestry_63 rfl ?_
        have hX0 := kX1_classOf 1 (Nat.le_refl _) hW gb13 gx11 
        refine z_callV (As := [_]) eX1_classOf sX1_classOf lX8_99 rfl dX8_ancestry_65 (hW.ob gb13 (by decide)).choose_spec hX0 (Nat.le_trans (by decide) hd) rfl (Nat.le_of_ble_eq_true rfl) (fun r cs1 hp => ?_)
        obtain ⟨hcs, r15, rfl, gr15, _⟩ := hp
        obtain rfl := hcs.symm
        refine z_st (st' := [.int (Int32.ofInt r15), .ref (G.1 + b12)]) rfl ?_
        refine z_aload_n dX8_ancestry_68 rfl rfl ?_
        refine tw_getA hW ga0 (by decide) (by decide) rfl kX8 fX8_18 dX8_ancestry_69 (fun b16 _ gb16 => ?_)
        refine z_iload dX8_ancestry_72 rfl ?_
        refine tw_iald hW gb16 (by omega) (by omega) dX8_ancestry_74 (fun x17 _ vx17 gx17 => ?_)
        have hX0 := kX4_isExplicitList 2 (Nat.le_refl _) hW gb12 gr15 gx17 
        refine z_callV (As := [_, _]) eX4_isExplicitList sX4_isExplicitList lX8_205 rfl dX8_ancestry_75 (hW.ob gb12 (by decide)).choose_spec hX0 (Nat.le_trans (by decide) hd) rfl (Nat.le_of_ble_eq_true rfl) (fun r cs1 hp => ?_)
        obtain ⟨hcs, r19, rfl, gr19, n18_0⟩ := hp
        obtain rfl := hcs.symm
        refine z_st (st' := [.int (Int32.ofInt r19)]) rfl ?_
        refine i_if_eq (tgt := 100) dX8_ancestry_78 (by decide) gr19 (fun h20 => ?_) (fun h20 => ?_)
        · refine z_loc (L' := [(0, .ref (G.1 + a0)), (1, .ref (G.1 + a1)), (4, .int (Int32.ofInt z9)), (6, .int (Int32.ofInt l6)), (7, .int (Int32.ofInt x11))]) (List.forall_mem_cons.mpr ⟨rfl, (List.forall_mem_cons.mpr ⟨rfl, (List.forall_mem_cons.mpr ⟨rfl, (List.forall_mem_cons.mpr ⟨rfl, (List.forall_mem_cons.mpr ⟨rfl, (fun _ h => nomatch h)⟩)⟩)⟩)⟩)⟩) ?_
          exact bX8_ancestry_100 hd hW hX ga0 ga1 gz9 gl6 gx11 (by omega) (by omega) (by omega) hP ih_9
        · refine z_aload_n dX8_ancestry_81 rfl rfl ?_
          refine z_iload dX8_ancestry_82 rfl ?_
          refine z_iload dX8_ancestry_84 rfl ?_
          refine z_aload_n dX8_ancestry_86 rfl rfl ?_
          refine tw_getA hW ga0 (by decide) (by decide) rfl kX8 fX8_18 dX8_ancestry_87 (fun b21 _ gb21 => ?_)
          refine z_iload dX8_ancestry_90 rfl ?_
          refine tw_iald hW gb21 (by omega) (by omega) dX8_ancestry_92 (fun x22 _ vx22 gx22 => ?_)
          have hX0 := kX8_listElement 0 (Nat.le_refl _) hW gx11 gx22 
          refine z_callS (As := [_, _]) eX8_listElement sX8_listElement lX8_208 dX8_ancestry_93 hX0 (Nat.le_trans (by decide) hd) rfl (Nat.le_of_ble_eq_true rfl) (fun r cs1 hp => ?_)
          obtain ⟨hcs, r24, rfl, gr24, _⟩ := hp
          obtain rfl := hcs.symm
          refine z_st (st' := [.int (Int32.ofInt r24), .int (Int32.ofInt z9), .ref (G.1 + a1)]) rfl ?_
          refine tw_iast hW hX ga1 (by omega) (by omega) (any_ok _) (Or.inl rfl) dX8_ancestry_96 (fun c1 q _ => nA hW ga1 (show (2147483647 : Int) ≠ 600 by decide) (show (2147483647 : Int) ≠ 601 by decide) c1 q) (fun cs hW hX _ _ => ?_)
          refine tw_iinc (l := z9) dX8_ancestry_97 rfl (by decide) (fun z25 gz25 ez25 => ?_)
          first | have ez25 := ez25 ⟨by omega, by omega⟩ | clear ez25
          refine z_loc (L' := [(0, .ref (G.1 + a0)), (1, .ref (G.1 + a1)), (4, .int (Int32.ofInt z25)), (5, .int (Int32.ofInt l5)), (6, .int (Int32.ofInt l6)), (7, .int (Int32.ofInt x11))]) (List.forall_mem_cons.mpr ⟨rfl, (List.forall_mem_cons.mpr ⟨rfl, (List.forall_mem_cons.mpr ⟨rfl, (List.forall_mem_cons.mpr ⟨rfl, (List.forall_mem_cons.mpr ⟨rfl, (List.forall_mem_cons.mpr ⟨rfl, (fun _ h => nomatch h)⟩)⟩)⟩)⟩)⟩)⟩) ?_
          refine z_loc (L' := [(0, .ref (G.1 + a0)), (1, .ref (G.1 + a1)), (4, .int (Int32.ofInt z25)), (6, .int (Int32.ofInt l6)), (7, .int (Int32.ofInt x11))]) (List.forall_mem_cons.mpr ⟨rfl, (List.forall_mem_cons.mpr ⟨rfl, (List.forall_mem_cons.mpr ⟨rfl, (List.forall_mem_cons.mpr ⟨rfl, (List.forall_mem_cons.mpr ⟨rfl, (fun _ h => nomatch h)⟩)⟩)⟩)⟩)⟩) ?_
          exact bX8_ancestry_100 hd hW hX ga0 ga1 gz25 gl6 gx11 (by omega) (by omega) (by omega) hP ih_9
set_option maxRecDepth 100000 in
set_option maxHeartbeats 4000000 in
theorem bX8_ancestry_9 {G : xG} {d : Nat} {Post : xP} {B : Nat × Nat} {τ0 τ : Tau} {c0 cs : List va_E} {a0 pa0 : Nat} {a1 : Nat} {l4 : Int} {l5 : Int} {l6 : Int} (hd : 3 ≤ d) (hW : WT G B τ cs) (hX : Fx [8] τ0 c0 τ cs) (ga0 : τ a0 = some (.inl (8, pa0))) (ga1 : τ a1 = some (.inr (0, 62, (-2147483648), 2147483647))) (gl4 : rng l4) (gl5 : rng l5) (gl6 : rng l6) (i0 : iv 0 62 l4)  (hP : ∀ (τ1 : Tau) (c1 : List va_E) (r : Int), WT G B τ1 c1 → Fx [8] τ0 c0 τ1 c1 → rng r → ((iv 0 62 r)) → Post (some (.int (Int32.ofInt r))) c1)  : Z (RX8, cX8_ancestry, 8, some .int, false) G d Post 9 [(0, .ref (G.1 + a0)), (1, .ref (G.1 + a1)), (4, .int (Int32.ofInt l4)), (5, .int (Int32.ofInt l5)), (6, .int (Int32.ofInt l6))] [] cs := by
  have key : ∀ (n : Nat) (τ : Tau) (cs : List va_E) (a0 pa0 : Nat) (a1 : Nat) (l4 : Int) (l5 : Int) (l6 : Int) (hW : WT G B τ cs) (hX : Fx [8] τ0 c0 τ cs) (ga0 : τ a0 = some (.inl (8, pa0))) (ga1 : τ a1 = some (.inr (0, 62, (-2147483648), 2147483647))) (gl4 : rng l4) (gl5 : rng l5) (gl6 : rng l6) (i0 : iv 0 62 l4) , (30 - l6).toNat < n → Z (RX8, cX8_ancestry, 8, some .int, false) G d Post 9 [(0, .ref (G.1 + a0)), (1, .ref (G.1 + a1)), (4, .int (Int32.ofInt l4)), (5, .int (Int32.ofInt l5)), (6, .int (Int32.ofInt l6))] [] cs := by
    intro n
    induction n with
    | zero => intro τ cs a0 pa0 a1 l4 l5 l6 hW hX ga0 ga1 gl4 gl5 gl6 i0 hm; exact absurd hm (Nat.not_lt_zero _)
    | succ n ih =>
      intro τ cs a0 pa0 a1 l4 l5 l6 hW hX ga0 ga1 gl4 gl5 gl6 i0 hm
      exact eX8_ancestry_9 hd hW hX ga0 ga1 gl4 gl5 gl6 i0 hP  (fun hW hX ga0 ga1 gl4 gl5 gl6 i0 hm => ih _ _ _ _ _ _ _ _ hW hX ga0 ga1 gl4 gl5 gl6 i0 hm) hm
  exact key _ _ _ _ _ _ _ _ _ hW hX ga0 ga1 gl4 gl5 gl6 i0 (Nat.lt_succ_self _)
set_option maxRecDepth 100000 in
set_option maxHeartbeats 4000000 in
theorem kX8_ancestry {G : xG} {B : Nat × Nat} {τ : Tau} {cs : List va_E} {a0 pa0 : Nat} {a1 : Nat} {l2 : Int} {l3 : Int} (d : Nat) (hd : 3 ≤ d) (hW : WT G B τ cs) (ga0 : τ a0 = some (.inl (8, pa0))) (ga1 : τ a1 = some (.inr (0, 62, (-2147483648), 2147483647))) (gl2 : rng l2) (gl3 : rng l3) (p0 : iv 0 2 l2) : X G yX8_ancestry cX8_ancestry 8 (some .int) d [.ref (G.1 + a0), .ref (G.1 + a1), .int (Int32.ofInt l2), .int (Int32.ofInt l3)] cs (wI G B τ cs [8] (fun r => (iv 0 62 r))) := by
  refine X.of false (by decide +kernel) (by decide) (Nat.le_of_ble_eq_true rfl) ?_
  show Z (RX8, cX8_ancestry, 8, some .int, false) G d _ 0 [(0, .ref (G.1 + a0)), (1, .ref (G.1 + a1)), (2, .int (Int32.ofInt l2)), (3, .int (Int32.ofInt l3))] [] cs
  have hP : ∀ (τ1 : Tau) (c1 : List va_E) (r : Int), WT G B τ1 c1 → Fx [8] τ cs τ1 c1 → rng r → ((iv 0 62 r)) → wI G B τ cs [8] (fun r => (iv 0 62 r)) (some (.int (Int32.ofInt r))) c1 := fun τ1 c1 r h1 h2 h3 h4 => ⟨τ1, r, rfl, h3, h1, h2, h4⟩
  have hX : Fx [8] τ cs τ cs := Fx.rf
  skip
  refine z_iload_n dX8_ancestry_0 rfl rfl ?_
  refine z_istore dX8_ancestry_1 (by decide) ?_
  refine z_loc (L' := [(0, .ref (G.1 + a0)), (1, .ref (G.1 + a1)), (2, .int (Int32.ofInt l2)), (3, .int (Int32.ofInt l3)), (4, .int (Int32.ofInt l2))]) (List.forall_mem_cons.mpr ⟨rfl, (List.forall_mem_cons.mpr ⟨rfl, (List.forall_mem_cons.mpr ⟨rfl, (List.forall_mem_cons.mpr ⟨rfl, (List.forall_mem_cons.mpr ⟨rfl, (fun _ h => nomatch h)⟩)⟩)⟩)⟩)⟩) ?_
  refine z_iload_n dX8_ancestry_3 rfl rfl ?_
  refine z_istore dX8_ancestry_4 (by decide) ?_
  refine z_loc (L' := [(0, .ref (G.1 + a0)), (1, .ref (G.1 + a1)), (2, .int (Int32.ofInt l2)), (3, .int (Int32.ofInt l3)), (4, .int (Int32.ofInt l2)), (5, .int (Int32.ofInt l3))]) (List.forall_mem_cons.mpr ⟨rfl, (List.forall_mem_cons.mpr ⟨rfl, (List.forall_mem_cons.mpr ⟨rfl, (List.forall_mem_cons.mpr ⟨rfl, (List.forall_mem_cons.mpr ⟨rfl, (List.forall_mem_cons.mpr ⟨rfl, (fun _ h => nomatch h)⟩)⟩)⟩)⟩)⟩)⟩) ?_
  refine z_iconst (v := Int32.ofInt 0) dX8_ancestry_6 rfl ?_
  refine z_istore dX8_ancestry_7 (by decide) ?_
  refine z_loc (L' := [(0, .ref (G.1 + a0)), (1, .ref (G.1 + a1)), (2, .int (Int32.ofInt l2)), (3, .int (Int32.ofInt l3)), (4, .int (Int32.ofInt l2)), (5, .int (Int32.ofInt l3)), (6, .int (Int32.ofInt 0))]) (List.forall_mem_cons.mpr ⟨rfl, (List.forall_mem_cons.mpr ⟨rfl, (List.forall_mem_cons.mpr ⟨rfl, (List.forall_mem_cons.mpr ⟨rfl, (List.forall_mem_cons.mpr ⟨rfl, (List.forall_mem_cons.mpr ⟨rfl, (List.forall_mem_cons.mpr ⟨rfl, (fun _ h => nomatch h)⟩)⟩)⟩)⟩)⟩)⟩)⟩) ?_
  refine z_loc (L' := [(0, .ref (G.1 + a0)), (1, .ref (G.1 + a1)), (4, .int (Int32.ofInt l2)), (5, .int (Int32.ofInt l3)), (6, .int (Int32.ofInt 0))]) (List.forall_mem_cons.mpr ⟨rfl, (List.forall_mem_cons.mpr ⟨rfl, (List.forall_mem_cons.mpr ⟨rfl, (List.forall_mem_cons.mpr ⟨rfl, (List.forall_mem_cons.mpr ⟨rfl, (fun _ h => nomatch h)⟩)⟩)⟩)⟩)⟩) ?_
  exact bX8_ancestry_9 hd hW hX ga0 ga1 gl2 gl3 (show rng 0 from ⟨by decide, by decide⟩) (by omega)  hP 

set_option maxRecDepth 100000 in
set_option maxHeartbeats 4000000 in
theorem bX8_rankAmongItems_87 {G : xG} {d : Nat} {Post : xP} {B : Nat × Nat} {τ : Tau} {cs : List va_E} {a0 pa0 : Nat} {l1 : Int} {l2 : Int} {l3 : Int} {l4 : Int} {n39 : Nat} (hd : 2 ≤ d) (hW : WT G B τ cs) (ga0 : τ a0 = some (.inl (8, pa0))) (gl1 : rng l1) (gl2 : rng l2) (gl3 : rng l3) (gl4 : rng l4) (i0 : 1 ≤ 8 - l4) (i1 : iv 0 29 l1) (i2 : iv 0 29 l1) (hm_39 : (8 - l4).toNat < n39 + 1) (hP : ∀ r : Int, rng r → (True) → Post (some (.int (Int32.ofInt r))) cs) (ih_39 : ∀ {a0 pa0 : Nat} {l1 : Int} {l2 : Int} {l3 : Int} {l4 : Int} (hW : WT G B τ cs) (ga0 : τ a0 = some (.inl (8, pa0))) (gl1 : rng l1) (gl2 : rng l2) (gl3 : rng l3) (gl4 : rng l4) (i0 : iv 0 29 l1) (i1 : iv 0 29 l1) , (8 - l4).toNat < n39 → Z (RX8, cX8_rankAmongItems, 5, some .int, false) G d Post 39 [(0, .ref (G.1 + a0)), (1, .int (Int32.ofInt l1)), (2, .int (Int32.ofInt l2)), (3, .int (Int32.ofInt l3)), (4, .int (Int32.ofInt l4))] [] cs) : Z (RX8, cX8_rankAmongItems, 5, some .int, false) G d Post 87 [(0, .ref (G.1 + a0)), (1, .int (Int32.ofInt l1)), (2, .int (Int32.ofInt l2)), (3, .int (Int32.ofInt l3)), (4, .int (Int32.ofInt l4))] [] cs := by
  refine tw_iinc (l := l4) dX8_rankAmongItems_87 rfl (by decide) (fun z1 gz1 ez1 => ?_)
  first | have ez1 := ez1 ⟨by omega, by omega⟩ | clear ez1
  refine z_loc (L' := [(0, .ref (G.1 + a0)), (1, .int (Int32.ofInt l1)), (2, .int (Int32.ofInt l2)), (3, .int (Int32.ofInt l3)), (4, .int (Int32.ofInt z1))]) (List.forall_mem_cons.mpr ⟨rfl, (List.forall_mem_cons.mpr ⟨rfl, (List.forall_mem_cons.mpr ⟨rfl, (List.forall_mem_cons.mpr ⟨rfl, (List.forall_mem_cons.mpr ⟨rfl, (fun _ h => nomatch h)⟩)⟩)⟩)⟩)⟩) ?_
  refine z_goto (tgt := 39) dX8_rankAmongItems_90 (by decide) ?_
  refine z_loc (L' := [(0, .ref (G.1 + a0)), (1, .int (Int32.ofInt l1)), (2, .int (Int32.ofInt l2)), (3, .int (Int32.ofInt l3)), (4, .int (Int32.ofInt z1))]) (List.forall_mem_cons.mpr ⟨rfl, (List.forall_mem_cons.mpr ⟨rfl, (List.forall_mem_cons.mpr ⟨rfl, (List.forall_mem_cons.mpr ⟨rfl, (List.forall_mem_cons.mpr ⟨rfl, (fun _ h => nomatch h)⟩)⟩)⟩)⟩)⟩) ?_
  exact ih_39 hW ga0 gl1 gl2 gl3 gz1 (by omega) (by omega)  (by omega)
set_option maxRecDepth 100000 in
set_option maxHeartbeats 4000000 in
theorem eX8_rankAmongItems_39 {G : xG} {d : Nat} {Post : xP} {B : Nat × Nat} {τ : Tau} {cs : List va_E} {a0 pa0 : Nat} {l1 : Int} {l2 : Int} {l3 : Int} {l4 : Int} {n39 : Nat} (hd : 2 ≤ d) (hW : WT G B τ cs) (ga0 : τ a0 = some (.inl (8, pa0))) (gl1 : rng l1) (gl2 : rng l2) (gl3 : rng l3) (gl4 : rng l4) (i0 : iv 0 29 l1) (i1 : iv 0 29 l1)  (hP : ∀ r : Int, rng r → (True) → Post (some (.int (Int32.ofInt r))) cs)  (ih_39 : ∀ {a0 pa0 : Nat} {l1 : Int} {l2 : Int} {l3 : Int} {l4 : Int} (hW : WT G B τ cs) (ga0 : τ a0 = some (.inl (8, pa0))) (gl1 : rng l1) (gl2 : rng l2) (gl3 : rng l3) (gl4 : rng l4) (i0 : iv 0 29 l1) (i1 : iv 0 29 l1) , (8 - l4).toNat < n39 → Z (RX8, cX8_rankAmongItems, 5, some .int, false) G d Post 39 [(0, .ref (G.1 + a0)), (1, .int (Int32.ofInt l1)), (2, .int (Int32.ofInt l2)), (3, .int (Int32.ofInt l3)), (4, .int (Int32.ofInt l4))] [] cs) (hm_39 : (8 - l4).toNat < n39 + 1) : Z (RX8, cX8_rankAmongItems, 5, some .int, false) G d Post 39 [(0, .ref (G.1 + a0)), (1, .int (Int32.ofInt l1)), (2, .int (Int32.ofInt l2)), (3, .int (Int32.ofInt l3)), (4, .int (Int32.ofInt l4))] [] cs := by
  refine z_iload dX8_rankAmongItems_39 rfl ?_
  refine z_aload_n dX8_rankAmongItems_41 rfl rfl ?_
  refine tw_getA hW ga0 (by decide) (by decide) rfl kX8 fX8_21 dX8_rankAmongItems_42 (fun b1 _ gb1 => ?_)
  refine z_iload_n dX8_rankAmongItems_45 rfl rfl ?_
  refine tw_iald hW gb1 (by omega) (by omega) dX8_rankAmongItems_46 (fun x2 _ vx2 gx2 => ?_)
  refine i_icmp_gt (tgt := 93) dX8_rankAmongItems_47 (by decide) gl4 gx2 (fun h3 => ?_) (fun h3 => ?_)
  · refine z_iload_n dX8_rankAmongItems_93 rfl rfl ?_
    exact z_ireturn dX8_rankAmongItems_94 rfl rfl (hP _ gl3 trivial)
  · refine z_aload_n dX8_rankAmongItems_50 rfl rfl ?_
    refine tw_getO hW ga0 (by decide) (by decide) rfl kX8 fX8_42 dX8_rankAmongItems_51 (fun b4 pb4 gb4 => ?_)
    refine z_aload_n dX8_rankAmongItems_54 rfl rfl ?_
    refine tw_getO hW ga0 (by decide) (by decide) rfl kX8 fX8_42 dX8_rankAmongItems_55 (fun b5 pb5 gb5 => ?_)
    refine z_iload_n dX8_rankAmongItems_58 rfl rfl ?_
    refine z_aload_n dX8_rankAmongItems_59 rfl rfl ?_
    refine tw_getA hW ga0 (by decide) (by decide) rfl kX8 fX8_18 dX8_rankAmongItems_60 (fun b6 _ gb6 => ?_)
    refine z_iload_n dX8_rankAmongItems_63 rfl rfl ?_
    refine tw_iald hW gb6 (by omega) (by omega) dX8_rankAmongItems_64 (fun x7 _ vx7 gx7 => ?_)
    refine z_iload dX8_rankAmongItems_65 rfl ?_
    have hX0 := kX1_cell 1 (Nat.le_refl _) hW gb5 gl2 gx7 gl4 
    refine z_callV (As := [_, _, _]) eX1_cell sX1_cell lX8_158 rfl dX8_rankAmongItems_67 (hW.ob gb5 (by decide)).choose_spec hX0 (Nat.le_trans (by decide) hd) rfl (Nat.le_of_ble_eq_true rfl) (fun r cs1 hp => ?_)
    obtain ⟨hcs, r9, rfl, gr9, _⟩ := hp
    obtain rfl := hcs.symm
    refine z_st (st' := [.int (Int32.ofInt r9), .ref (G.1 + b4)]) rfl ?_
    have hX0 := kX1_classOf 1 (Nat.le_refl _) hW gb4 gr9 
    refine z_callV (As := [_]) eX1_classOf sX1_classOf lX8_99 rfl dX8_rankAmongItems_70 (hW.ob gb4 (by decide)).choose_spec hX0 (Nat.le_trans (by decide) hd) rfl (Nat.le_of_ble_eq_true rfl) (fun r cs1 hp => ?_)
    obtain ⟨hcs, r11, rfl, gr11, _⟩ := hp
    obtain rfl := hcs.symm
    refine z_st (st' := [.int (Int32.ofInt r11)]) rfl ?_
    refine z_aload_n dX8_rankAmongItems_73 rfl rfl ?_
    refine tw_getO hW ga0 (by decide) (by decide) rfl kX8 fX8_42 dX8_rankAmongItems_74 (fun b12 pb12 gb12 => ?_)
    refine z_iload_n dX8_rankAmongItems_77 rfl rfl ?_
    have hX0 := kX1_classOf 1 (Nat.le_refl _) hW gb12 gl1 
    refine z_callV (As := [_]) eX1_classOf sX1_classOf lX8_99 rfl dX8_rankAmongItems_78 (hW.ob gb12 (by decide)).choose_spec hX0 (Nat.le_trans (by decide) hd) rfl (Nat.le_of_ble_eq_true rfl) (fun r cs1 hp => ?_)
    obtain ⟨hcs, r14, rfl, gr14, _⟩ := hp
    obtain rfl := hcs.symm
    refine z_st (st' := [.int (Int32.ofInt r14), .int (Int32.ofInt r11)]) rfl ?_
    refine i_icmp_ne (tgt := 87) dX8_rankAmongItems_81 (by decide) gr11 gr14 (fun h15 => ?_) (fun h15 => ?_)
    · refine z_loc (L' := [(0, .ref (G.1 + a0)), (1, .int (Int32.ofInt l1)), (2, .int (Int32.ofInt l2)), (3, .int (Int32.ofInt l3)), (4, .int (Int32.ofInt l4))]) (List.forall_mem_cons.mpr ⟨rfl, (List.forall_mem_cons.mpr ⟨rfl, (List.forall_mem_cons.mpr ⟨rfl, (List.forall_mem_cons.mpr ⟨rfl, (List.forall_mem_cons.mpr ⟨rfl, (fun _ h => nomatch h)⟩)⟩)⟩)⟩)⟩) ?_
      exact bX8_rankAmongItems_87 hd hW ga0 gl1 gl2 gl3 gl4 (by omega) (by omega) (by omega) (by omega) hP ih_39
    · refine tw_iinc (l := l3) dX8_rankAmongItems_84 rfl (by decide) (fun z16 gz16 ez16 => ?_)
      first | have ez16 := ez16 ⟨by omega, by omega⟩ | clear ez16
      refine z_loc (L' := [(0, .ref (G.1 + a0)), (1, .int (Int32.ofInt l1)), (2, .int (Int32.ofInt l2)), (3, .int (Int32.ofInt z16)), (4, .int (Int32.ofInt l4))]) (List.forall_mem_cons.mpr ⟨rfl, (List.forall_mem_cons.mpr ⟨rfl, (List.forall_mem_cons.mpr ⟨rfl, (List.forall_mem_cons.mpr ⟨rfl, (List.forall_mem_cons.mpr ⟨rfl, (fun _ h => nomatch h)⟩)⟩)⟩)⟩)⟩) ?_
      refine z_loc (L' := [(0, .ref (G.1 + a0)), (1, .int (Int32.ofInt l1)), (2, .int (Int32.ofInt l2)), (3, .int (Int32.ofInt z16)), (4, .int (Int32.ofInt l4))]) (List.forall_mem_cons.mpr ⟨rfl, (List.forall_mem_cons.mpr ⟨rfl, (List.forall_mem_cons.mpr ⟨rfl, (List.forall_mem_cons.mpr ⟨rfl, (List.forall_mem_cons.mpr ⟨rfl, (fun _ h => nomatch h)⟩)⟩)⟩)⟩)⟩) ?_
      exact bX8_rankAmongItems_87 hd hW ga0 gl1 gl2 gz16 gl4 (by omega) (by omega) (by omega) (by omega) hP ih_39
set_option maxRecDepth 100000 in
set_option maxHeartbeats 4000000 in
theorem bX8_rankAmongItems_39 {G : xG} {d : Nat} {Post : xP} {B : Nat × Nat} {τ : Tau} {cs : List va_E} {a0 pa0 : Nat} {l1 : Int} {l2 : Int} {l3 : Int} {l4 : Int} (hd : 2 ≤ d) (hW : WT G B τ cs) (ga0 : τ a0 = some (.inl (8, pa0))) (gl1 : rng l1) (gl2 : rng l2) (gl3 : rng l3) (gl4 : rng l4) (i0 : iv 0 29 l1) (i1 : iv 0 29 l1)  (hP : ∀ r : Int, rng r → (True) → Post (some (.int (Int32.ofInt r))) cs)  : Z (RX8, cX8_rankAmongItems, 5, some .int, false) G d Post 39 [(0, .ref (G.1 + a0)), (1, .int (Int32.ofInt l1)), (2, .int (Int32.ofInt l2)), (3, .int (Int32.ofInt l3)), (4, .int (Int32.ofInt l4))] [] cs := by
  have key : ∀ (n : Nat) (a0 pa0 : Nat) (l1 : Int) (l2 : Int) (l3 : Int) (l4 : Int) (hW : WT G B τ cs) (ga0 : τ a0 = some (.inl (8, pa0))) (gl1 : rng l1) (gl2 : rng l2) (gl3 : rng l3) (gl4 : rng l4) (i0 : iv 0 29 l1) (i1 : iv 0 29 l1) , (8 - l4).toNat < n → Z (RX8, cX8_rankAmongItems, 5, some .int, false) G d Post 39 [(0, .ref (G.1 + a0)), (1, .int (Int32.ofInt l1)), (2, .int (Int32.ofInt l2)), (3, .int (Int32.ofInt l3)), (4, .int (Int32.ofInt l4))] [] cs := by
    intro n
    induction n with
    | zero => intro a0 pa0 l1 l2 l3 l4 hW ga0 gl1 gl2 gl3 gl4 i0 i1 hm; exact absurd hm (Nat.not_lt_zero _)
    | succ n ih =>
      intro a0 pa0 l1 l2 l3 l4 hW ga0 gl1 gl2 gl3 gl4 i0 i1 hm
      exact eX8_rankAmongItems_39 hd hW ga0 gl1 gl2 gl3 gl4 i0 i1 hP  (fun hW ga0 gl1 gl2 gl3 gl4 i0 i1 hm => ih _ _ _ _ _ _ hW ga0 gl1 gl2 gl3 gl4 i0 i1 hm) hm
  exact key _ _ _ _ _ _ _ hW ga0 gl1 gl2 gl3 gl4 i0 i1 (Nat.lt_succ_self _)
set_option maxRecDepth 100000 in
set_option maxHeartbeats 4000000 in
theorem kX8_rankAmongItems {G : xG} {B : Nat × Nat} {τ : Tau} {cs : List va_E} {a0 pa0 : Nat} {l1 : Int} (d : Nat) (hd : 2 ≤ d) (hW : WT G B τ cs) (ga0 : τ a0 = some (.inl (8, pa0))) (gl1 : rng l1) (p0 : iv 0 29 l1) : X G yX8_rankAmongItems cX8_rankAmongItems 5 (some .int) d [.ref (G.1 + a0), .int (Int32.ofInt l1)] cs (rI cs (fun r => True)) := by
  refine X.of false (by decide +kernel) (by decide) (Nat.le_of_ble_eq_true rfl) ?_
  show Z (RX8, cX8_rankAmongItems, 5, some .int, false) G d _ 0 [(0, .ref (G.1 + a0)), (1, .int (Int32.ofInt l1))] [] cs
  have hP : ∀ r : Int, rng r → (True) → rI cs (fun r => True) (some (.int (Int32.ofInt r))) cs := fun r h1 h2 => ⟨rfl, r, rfl, h1, h2⟩
  refine z_aload_n dX8_rankAmongItems_0 rfl rfl ?_
  refine tw_getA hW ga0 (by decide) (by decide) rfl kX8 fX8_15 dX8_rankAmongItems_1 (fun b1 _ gb1 => ?_)
  refine z_iload_n dX8_rankAmongItems_4 rfl rfl ?_
  refine tw_iald hW gb1 (by omega) (by omega) dX8_rankAmongItems_5 (fun x2 _ vx2 gx2 => ?_)
  refine z_istore_n dX8_rankAmongItems_6 rfl (by decide) ?_
  refine z_loc (L' := [(0, .ref (G.1 + a0)), (1, .int (Int32.ofInt l1)), (2, .int (Int32.ofInt x2))]) (List.forall_mem_cons.mpr ⟨rfl, (List.forall_mem_cons.mpr ⟨rfl, (List.forall_mem_cons.mpr ⟨rfl, (fun _ h => nomatch h)⟩)⟩)⟩) ?_
  refine z_aload_n dX8_rankAmongItems_7 rfl rfl ?_
  refine tw_getO hW ga0 (by decide) (by decide) rfl kX8 fX8_38 dX8_rankAmongItems_8 (fun b3 pb3 gb3 => ?_)
  refine z_aload_n dX8_rankAmongItems_11 rfl rfl ?_
  refine tw_getO hW ga0 (by decide) (by decide) rfl kX8 fX8_42 dX8_rankAmongItems_12 (fun b4 pb4 gb4 => ?_)
  refine z_iload_n dX8_rankAmongItems_15 rfl rfl ?_
  have hX0 := kX1_classOf 1 (Nat.le_refl _) hW gb4 gx2 
  refine z_callV (As := [_]) eX1_classOf sX1_classOf lX8_99 rfl dX8_rankAmongItems_16 (hW.ob gb4 (by decide)).choose_spec hX0 (Nat.le_trans (by decide) hd) rfl (Nat.le_of_ble_eq_true rfl) (fun r cs1 hp => ?_)
  obtain ⟨hcs, r6, rfl, gr6, _⟩ := hp
  obtain rfl := hcs.symm
  refine z_st (st' := [.int (Int32.ofInt r6), .ref (G.1 + b3)]) rfl ?_
  refine z_aload_n dX8_rankAmongItems_19 rfl rfl ?_
  refine tw_getA hW ga0 (by decide) (by decide) rfl kX8 fX8_18 dX8_rankAmongItems_20 (fun b7 _ gb7 => ?_)
  refine z_iload_n dX8_rankAmongItems_23 rfl rfl ?_
  refine tw_iald hW gb7 (by omega) (by omega) dX8_rankAmongItems_24 (fun x8 _ vx8 gx8 => ?_)
  have hX0 := kX4_shape 1 (Nat.le_refl _) hW gb3 gr6 gx8 
  refine z_callV (As := [_, _]) eX4_shape sX4_shape lX8_103 rfl dX8_rankAmongItems_25 (hW.ob gb3 (by decide)).choose_spec hX0 (Nat.le_trans (by decide) hd) rfl (Nat.le_of_ble_eq_true rfl) (fun r cs1 hp => ?_)
  obtain ⟨hcs, r10, rfl, gr10, _⟩ := hp
  obtain rfl := hcs.symm
  refine z_st (st' := [.int (Int32.ofInt r10)]) rfl ?_
  refine z_iconst (v := Int32.ofInt 4) dX8_rankAmongItems_28 rfl ?_
  refine i_icmp_eq (tgt := 34) dX8_rankAmongItems_29 (by decide) gr10 (show rng 4 from ⟨by decide, by decide⟩) (fun h11 => ?_) (fun h11 => ?_)
  · refine z_iconst (v := Int32.ofInt 0) dX8_rankAmongItems_34 rfl ?_
    refine z_istore_n dX8_rankAmongItems_35 rfl (by decide) ?_
    refine z_loc (L' := [(0, .ref (G.1 + a0)), (1, .int (Int32.ofInt l1)), (2, .int (Int32.ofInt x2)), (3, .int (Int32.ofInt 0))]) (List.forall_mem_cons.mpr ⟨rfl, (List.forall_mem_cons.mpr ⟨rfl, (List.forall_mem_cons.mpr ⟨rfl, (List.forall_mem_cons.mpr ⟨rfl, (fun _ h => nomatch h)⟩)⟩)⟩)⟩) ?_
    refine z_iconst (v := Int32.ofInt 0) dX8_rankAmongItems_36 rfl ?_
    refine z_istore dX8_rankAmongItems_37 (by decide) ?_
    refine z_loc (L' := [(0, .ref (G.1 + a0)), (1, .int (Int32.ofInt l1)), (2, .int (Int32.ofInt x2)), (3, .int (Int32.ofInt 0)), (4, .int (Int32.ofInt 0))]) (List.forall_mem_cons.mpr ⟨rfl, (List.forall_mem_cons.mpr ⟨rfl, (List.forall_mem_cons.mpr ⟨rfl, (List.forall_mem_cons.mpr ⟨rfl, (List.forall_mem_cons.mpr ⟨rfl, (fun _ h => nomatch h)⟩)⟩)⟩)⟩)⟩) ?_
    refine z_loc (L' := [(0, .ref (G.1 + a0)), (1, .int (Int32.ofInt l1)), (2, .int (Int32.ofInt x2)), (3, .int (Int32.ofInt 0)), (4, .int (Int32.ofInt 0))]) (List.forall_mem_cons.mpr ⟨rfl, (List.forall_mem_cons.mpr ⟨rfl, (List.forall_mem_cons.mpr ⟨rfl, (List.forall_mem_cons.mpr ⟨rfl, (List.forall_mem_cons.mpr ⟨rfl, (fun _ h => nomatch h)⟩)⟩)⟩)⟩)⟩) ?_
    exact bX8_rankAmongItems_39 hd hW ga0 gl1 gx2 (show rng 0 from ⟨by decide, by decide⟩) (show rng 0 from ⟨by decide, by decide⟩) (by omega) (by omega)  hP 
  · refine z_iconst (v := Int32.ofInt 0) dX8_rankAmongItems_32 rfl ?_
    exact z_ireturn dX8_rankAmongItems_33 rfl rfl (hP _ (show rng 0 from ⟨by decide, by decide⟩) trivial)

set_option maxRecDepth 100000 in
set_option maxHeartbeats 4000000 in
theorem kX8_step {G : xG} {B : Nat × Nat} {τ : Tau} {cs : List va_E} {a0 pa0 : Nat} {l1 : Int} (d : Nat) (hd : 3 ≤ d) (hW : WT G B τ cs) (ga0 : τ a0 = some (.inl (8, pa0))) (gl1 : rng l1)  : X G yX8_step cX8_step 3 none d [.ref (G.1 + a0), .int (Int32.ofInt l1)] cs (wN G B τ cs [5]) := by
  refine X.of false (by decide +kernel) (by decide) (Nat.le_of_ble_eq_true rfl) ?_
  show Z (RX8, cX8_step, 3, none, false) G d _ 0 [(0, .ref (G.1 + a0)), (1, .int (Int32.ofInt l1))] [] cs
  have hP : ∀ (τ1 : Tau) (c1 : List va_E), WT G B τ1 c1 → Fx [5] τ cs τ1 c1 → wN G B τ cs [5] none c1 := fun τ1 c1 h1 h2 => ⟨τ1, rfl, h1, h2⟩
  have hX : Fx [5] τ cs τ cs := Fx.rf
  skip
  refine z_aload_n dX8_step_0 rfl rfl ?_
  refine tw_getO hW ga0 (by decide) (by decide) rfl kX8 fX8_42 dX8_step_1 (fun b1 pb1 gb1 => ?_)
  refine z_iload_n dX8_step_4 rfl rfl ?_
  have hX0 := kX1_has 0 (Nat.le_refl _) hW gb1 gl1 
  refine z_callV (As := [_]) eX1_has sX1_has lX8_62 rfl dX8_step_5 (hW.ob gb1 (by decide)).choose_spec hX0 (Nat.le_trans (by decide) hd) rfl (Nat.le_of_ble_eq_true rfl) (fun r cs1 hp => ?_)
  obtain ⟨hcs, r3, rfl, gr3, ⟨n2_0, n2_1⟩⟩ := hp
  obtain rfl := hcs.symm
  refine z_st (st' := [.int (Int32.ofInt r3)]) rfl ?_
  refine i_if_ne (tgt := 48) dX8_step_8 (by decide) gr3 (fun h4 => ?_) (fun h4 => ?_)
  · refine z_aload_n dX8_step_48 rfl rfl ?_
    refine tw_getO hW ga0 (by decide) (by decide) rfl kX8 fX8_38 dX8_step_49 (fun b5 pb5 gb5 => ?_)
    refine z_aload_n dX8_step_52 rfl rfl ?_
    refine tw_getO hW ga0 (by decide) (by decide) rfl kX8 fX8_46 dX8_step_53 (fun b6 pb6 gb6 => ?_)
    have gb6 : oT τ b6 5 := ⟨_, gb6⟩
    refine z_aload_n dX8_step_56 rfl rfl ?_
    refine z_iload_n dX8_step_57 rfl rfl ?_
    refine z_aload_n dX8_step_58 rfl rfl ?_
    refine tw_getA hW ga0 (by decide) (by decide) rfl kX8 fX8_15 dX8_step_59 (fun b7 _ gb7 => ?_)
    refine z_iload_n dX8_step_62 rfl rfl ?_
    refine tw_iald hW gb7 (by omega) (by omega) dX8_step_63 (fun x8 _ vx8 gx8 => ?_)
    refine z_aload_n dX8_step_64 rfl rfl ?_
    refine tw_getA hW ga0 (by decide) (by decide) rfl kX8 fX8_18 dX8_step_65 (fun b9 _ gb9 => ?_)
    refine z_iload_n dX8_step_68 rfl rfl ?_
    refine tw_iald hW gb9 (by omega) (by omega) dX8_step_69 (fun x10 _ vx10 gx10 => ?_)
    have hX0 := kX8_nameOf 2 (Nat.le_refl _) hW ga0 gl1 gx8 gx10 
    refine z_callV (As := [_, _, _]) eX8_nameOf sX8_nameOf lX8_72 rfl dX8_step_70 (hW.ob ga0 (by decide)).choose_spec hX0 (Nat.le_trans (by decide) hd) rfl (Nat.le_of_ble_eq_true rfl) (fun r cs1 hp => ?_)
    obtain ⟨hcs, r12, rfl, gr12, _⟩ := hp
    obtain rfl := hcs.symm
    refine z_st (st' := [.int (Int32.ofInt r12), .ref (G.1 + b6), .ref (G.1 + b5)]) rfl ?_
    have hX0 := kX4_spellTo 2 (Nat.le_refl _) hW gb5 gb6 gr12 
    refine z_callV (As := [_, _]) eX4_spellTo sX4_spellTo lX8_112 rfl dX8_step_73 (hW.ob gb5 (by decide)).choose_spec hX0 (Nat.le_trans (by decide) hd) rfl (Nat.le_of_ble_eq_true rfl) (fun r cs hp => ?_)
    obtain ⟨τ, rfl, hW, k15⟩ := hp
    have hX := hX.tr k15 (by decide)
    have ga0 := k15.1.e ga0 (by decide)
    clear hX0
    refine z_st (st' := []) rfl ?_
    refine z_aload_n dX8_step_76 rfl rfl ?_
    refine z_iload_n dX8_step_77 rfl rfl ?_
    have hX0 := kX8_rankAmongItems 2 (Nat.le_refl _) hW ga0 gl1 (by omega)
    refine z_callV (As := [_]) eX8_rankAmongItems sX8_rankAmongItems lX8_214 rfl dX8_step_78 (hW.ob ga0 (by decide)).choose_spec hX0 (Nat.le_trans (by decide) hd) rfl (Nat.le_of_ble_eq_true rfl) (fun r cs1 hp => ?_)
    obtain ⟨hcs, r17, rfl, gr17, _⟩ := hp
    obtain rfl := hcs.symm
    refine z_st (st' := [.int (Int32.ofInt r17)]) rfl ?_
    refine z_istore_n dX8_step_81 rfl (by decide) ?_
    refine z_loc (L' := [(0, .ref (G.1 + a0)), (1, .int (Int32.ofInt l1)), (2, .int (Int32.ofInt r17))]) (List.forall_mem_cons.mpr ⟨rfl, (List.forall_mem_cons.mpr ⟨rfl, (List.forall_mem_cons.mpr ⟨rfl, (fun _ h => nomatch h)⟩)⟩)⟩) ?_
    refine z_iload_n dX8_step_82 rfl rfl ?_
    refine z_iconst (v := Int32.ofInt 1) dX8_step_83 rfl ?_
    refine i_icmp_le (tgt := 112) dX8_step_84 (by decide) gr17 (show rng 1 from ⟨by decide, by decide⟩) (fun h18 => ?_) (fun h18 => ?_)
    · exact z_return dX8_step_112 rfl (hP _ _ hW hX)
    · refine z_aload_n dX8_step_87 rfl rfl ?_
      refine tw_getO hW ga0 (by decide) (by decide) rfl kX8 fX8_46 dX8_step_88 (fun b19 pb19 gb19 => ?_)
      have gb19 : oT τ b19 5 := ⟨_, gb19⟩
      refine z_bipush (v := Int32.ofInt 91) dX8_step_91 (by decide) ?_
      have hX0 := kX5_put 1 (Nat.le_refl _) hW gb19 (show rng 91 from ⟨by decide, by decide⟩) 
      refine z_callV (As := [_]) eX5_put sX5_put lX8_89 rfl dX8_step_93 (hW.os gb19).choose_spec hX0 (Nat.le_trans (by decide) hd) rfl (Nat.le_of_ble_eq_true rfl) (fun r cs hp => ?_)
      obtain ⟨τ, r21, rfl, gr21, hW, k22, n20_0⟩ := hp
      have hX := hX.tr k22 (by decide)
      have ga0 := k22.1.e ga0 (by decide)
      clear hX0
      refine z_st (st' := [.int (Int32.ofInt r21)]) rfl ?_
      refine z_pop dX8_step_96 rfl ?_
      refine z_aload_n dX8_step_97 rfl rfl ?_
      refine z_iload_n dX8_step_98 rfl rfl ?_
      have hX0 := kX8_number 2 (Nat.le_refl _) hW ga0 gr17 
      refine z_callV (As := [_]) eX8_number sX8_number lX8_123 rfl dX8_step_99 (hW.ob ga0 (by decide)).choose_spec hX0 (Nat.le_trans (by decide) hd) rfl (Nat.le_of_ble_eq_true rfl) (fun r cs hp => ?_)
      obtain ⟨τ, rfl, hW, k25⟩ := hp
      have hX := hX.tr k25 (by decide)
      have ga0 := k25.1.e ga0 (by decide)
      clear hX0
      refine z_st (st' := []) rfl ?_
      refine z_aload_n dX8_step_102 rfl rfl ?_
      refine tw_getO hW ga0 (by decide) (by decide) rfl kX8 fX8_46 dX8_step_103 (fun b26 pb26 gb26 => ?_)
      have gb26 : oT τ b26 5 := ⟨_, gb26⟩
      refine z_bipush (v := Int32.ofInt 93) dX8_step_106 (by decide) ?_
      have hX0 := kX5_put 1 (Nat.le_refl _) hW gb26 (show rng 93 from ⟨by decide, by decide⟩) 
      refine z_callV (As := [_]) eX5_put sX5_put lX8_89 rfl dX8_step_108 (hW.os gb26).choose_spec hX0 (Nat.le_trans (by decide) hd) rfl (Nat.le_of_ble_eq_true rfl) (fun r cs hp => ?_)
      obtain ⟨τ, r28, rfl, gr28, hW, k29, n27_0⟩ := hp
      have hX := hX.tr k29 (by decide)
      have ga0 := k29.1.e ga0 (by decide)
      clear hX0
      refine z_st (st' := [.int (Int32.ofInt r28)]) rfl ?_
      refine z_pop dX8_step_111 rfl ?_
      exact z_return dX8_step_112 rfl (hP _ _ hW hX)
  · refine z_iconst (v := Int32.ofInt 0) dX8_step_11 rfl ?_
    refine z_iload_n dX8_step_12 rfl rfl ?_
    refine z_bipush (v := Int32.ofInt 30) dX8_step_13 (by decide) ?_
    refine tw_isub dX8_step_15 (fun z30 gz30 ez30 => ?_)
    first | have ez30 := ez30 ⟨by omega, by omega⟩ | clear ez30
    refine tw_mmax lX8_211 sJ9_max_7cf53 bJ9 dX8_step_16 (Nat.le_trans (by decide) hd) (Nat.le_of_ble_eq_true rfl) (fun z31 gz31 => ?_)
    refine z_istore_n dX8_step_19 rfl (by decide) ?_
    refine z_loc (L' := [(0, .ref (G.1 + a0)), (1, .int (Int32.ofInt l1)), (2, .int (Int32.ofInt z31))]) (List.forall_mem_cons.mpr ⟨rfl, (List.forall_mem_cons.mpr ⟨rfl, (List.forall_mem_cons.mpr ⟨rfl, (fun _ h => nomatch h)⟩)⟩)⟩) ?_
    refine z_aload_n dX8_step_20 rfl rfl ?_
    refine tw_getO hW ga0 (by decide) (by decide) rfl kX8 fX8_38 dX8_step_21 (fun b32 pb32 gb32 => ?_)
    refine z_aload_n dX8_step_24 rfl rfl ?_
    refine tw_getO hW ga0 (by decide) (by decide) rfl kX8 fX8_46 dX8_step_25 (fun b33 pb33 gb33 => ?_)
    have gb33 : oT τ b33 5 := ⟨_, gb33⟩
    refine z_aload_n dX8_step_28 rfl rfl ?_
    refine tw_getO hW ga0 (by decide) (by decide) rfl kX8 fX8_42 dX8_step_29 (fun b34 pb34 gb34 => ?_)
    refine z_iload_n dX8_step_32 rfl rfl ?_
    refine z_iconst (v := Int32.ofInt 4) dX8_step_33 rfl ?_
    refine tw_idiv dX8_step_34 (by decide) (show rng 4 from ⟨by decide, by decide⟩) (fun z35 gz35 => ?_)
    have hX0 := kX1_classOf 1 (Nat.le_refl _) hW gb34 gz35 
    refine z_callV (As := [_]) eX1_classOf sX1_classOf lX8_99 rfl dX8_step_35 (hW.ob gb34 (by decide)).choose_spec hX0 (Nat.le_trans (by decide) hd) rfl (Nat.le_of_ble_eq_true rfl) (fun r cs1 hp => ?_)
    obtain ⟨hcs, r37, rfl, gr37, _⟩ := hp
    obtain rfl := hcs.symm
    refine z_st (st' := [.int (Int32.ofInt r37), .ref (G.1 + b33), .ref (G.1 + b32)]) rfl ?_
    refine z_iload_n dX8_step_38 rfl rfl ?_
    refine z_iconst (v := Int32.ofInt 4) dX8_step_39 rfl ?_
    refine tw_irem dX8_step_40 (by decide) (show rng 4 from ⟨by decide, by decide⟩) (fun z38 gz38 => ?_)
    have hX0 := kX4_fieldName 0 (Nat.le_refl _) hW gr37 gz38 
    refine z_callS (As := [_, _]) eX4_fieldName sX4_fieldName lX8_109 dX8_step_41 hX0 (Nat.le_trans (by decide) hd) rfl (Nat.le_of_ble_eq_true rfl) (fun r cs1 hp => ?_)
    obtain ⟨hcs, r40, rfl, gr40, n39_0⟩ := hp
    obtain rfl := hcs.symm
    refine z_st (st' := [.int (Int32.ofInt r40), .ref (G.1 + b33), .ref (G.1 + b32)]) rfl ?_
    have hX0 := kX4_spellTo 2 (Nat.le_refl _) hW gb32 gb33 gr40 
    refine z_callV (As := [_, _]) eX4_spellTo sX4_spellTo lX8_112 rfl dX8_step_44 (hW.ob gb32 (by decide)).choose_spec hX0 (Nat.le_trans (by decide) hd) rfl (Nat.le_of_ble_eq_true rfl) (fun r cs hp => ?_)
    obtain ⟨τ, rfl, hW, k43⟩ := hp
    have hX := hX.tr k43 (by decide)
    have ga0 := k43.1.e ga0 (by decide)
    clear hX0
    refine z_st (st' := []) rfl ?_
    exact z_return dX8_step_47 rfl (hP _ _ hW hX)
