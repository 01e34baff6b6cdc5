set_option maxRecDepth 100000 in
set_option maxHeartbeats 4000000 in
theorem kX4_fieldCount {G : xG} {B : Nat × Nat} {τ : Tau} {cs : List va_E} {a0 pa0 : Nat} {l1 : Int} (d : Nat) (hd : 1 ≤ d) (hW : WT G B τ cs) (ga0 : τ a0 = some (.inl (4, pa0))) (gl1 : rng l1)  : X G yX4_fieldCount cX4_fieldCount 2 (some .int) d [.ref (G.1 + a0), .int (Int32.ofInt l1)] cs (rI cs (fun r => (iv 0 4 r))) := by
  refine X.of false (by decide +kernel) (by decide) (Nat.le_of_ble_eq_true rfl) ?_
  show Z (RX4, cX4_fieldCount, 2, some .int, false) G d _ 0 [(0, .ref (G.1 + a0)), (1, .int (Int32.ofInt l1))] [] cs
  have hP : ∀ r : Int, rng r → ((iv 0 4 r)) → rI cs (fun r => (iv 0 4 r)) (some (.int (Int32.ofInt r))) cs := fun r h1 h2 => ⟨rfl, r, rfl, h1, h2⟩
  refine z_aload_n dX4_fieldCount_0 rfl rfl ?_
  refine z_iload_n dX4_fieldCount_1 rfl rfl ?_
  have hX0 := kX4_isClass 0 (Nat.le_refl _) hW ga0 gl1 
  refine z_callV (As := [_]) eX4_isClass sX4_isClass lX4_42 rfl dX4_fieldCount_2 (hW.ob ga0 (by decide)).choose_spec hX0 (Nat.le_trans (by decide) hd) rfl (Nat.le_of_ble_eq_true rfl) (fun r cs1 hp => ?_)
  obtain ⟨hcs, r2, rfl, gr2, ⟨n1_0, n1_1⟩⟩ := hp
  obtain rfl := hcs.symm
  refine z_st (st' := [.int (Int32.ofInt r2)]) rfl ?_
  refine i_if_eq (tgt := 17) dX4_fieldCount_5 (by decide) gr2 (fun h3 => ?_) (fun h3 => ?_)
  · refine z_iconst (v := Int32.ofInt 0) dX4_fieldCount_17 rfl ?_
    exact z_ireturn dX4_fieldCount_18 rfl rfl (hP _ (show rng 0 from ⟨by decide, by decide⟩) (by omega))
  · refine z_aload_n dX4_fieldCount_8 rfl rfl ?_
    refine tw_getA hW ga0 (by decide) (by decide) rfl kX4 fX4_26 dX4_fieldCount_9 (fun b4 _ gb4 => ?_)
    refine z_iload_n dX4_fieldCount_12 rfl rfl ?_
    refine tw_iald hW gb4 (by omega) (by omega) dX4_fieldCount_13 (fun x5 _ vx5 gx5 => ?_)
    refine z_goto (tgt := 18) dX4_fieldCount_14 (by decide) ?_
    exact z_ireturn dX4_fieldCount_18 rfl rfl (hP _ gx5 (by omega))

set_option maxRecDepth 100000 in
set_option maxHeartbeats 4000000 in
theorem kX4_isAttribute {G : xG} {B : Nat × Nat} {τ : Tau} {cs : List va_E} {a0 pa0 : Nat} {l1 : Int} {l2 : Int} (d : Nat) (hd : 1 ≤ d) (hW : WT G B τ cs) (ga0 : τ a0 = some (.inl (4, pa0))) (gl1 : rng l1) (gl2 : rng l2)  : X G yX4_isAttribute cX4_isAttribute 3 (some .boolean) d [.ref (G.1 + a0), .int (Int32.ofInt l1), .int (Int32.ofInt l2)] cs (rI cs (fun r => (iv 0 1 r))) := by
  refine X.of false (by decide +kernel) (by decide) (Nat.le_of_ble_eq_true rfl) ?_
  show Z (RX4, cX4_isAttribute, 3, some .boolean, false) G d _ 0 [(0, .ref (G.1 + a0)), (1, .int (Int32.ofInt l1)), (2, .int (Int32.ofInt l2))] [] cs
  have hP : ∀ r : Int, rng r → ((iv 0 1 r)) → rI cs (fun r => (iv 0 1 r)) (some (.int (Int32.ofInt r))) cs := fun r h1 h2 => ⟨rfl, r, rfl, h1, h2⟩
  refine z_aload_n dX4_isAttribute_0 rfl rfl ?_
  refine z_iload_n dX4_isAttribute_1 rfl rfl ?_
  refine z_iload_n dX4_isAttribute_2 rfl rfl ?_
  have hX0 := kX4_isField 0 (Nat.le_refl _) hW ga0 gl1 gl2 
  refine z_callV (As := [_, _]) eX4_isField sX4_isField lX4_46 rfl dX4_isAttribute_3 (hW.ob ga0 (by decide)).choose_spec hX0 (Nat.le_trans (by decide) hd) rfl (Nat.le_of_ble_eq_true rfl) (fun r cs1 hp => ?_)
  obtain ⟨hcs, r2, rfl, gr2, ⟨n1_0, n1_1⟩⟩ := hp
  obtain rfl := hcs.symm
  refine z_st (st' := [.int (Int32.ofInt r2)]) rfl ?_
  refine i_if_eq (tgt := 26) dX4_isAttribute_6 (by decide) gr2 (fun h3 => ?_) (fun h3 => ?_)
  · refine z_iconst (v := Int32.ofInt 0) dX4_isAttribute_26 rfl ?_
    exact z_ireturn dX4_isAttribute_27 rfl (nar01 (b01 ⟨by decide, by decide⟩)) (hP _ (show rng 0 from ⟨by decide, by decide⟩) (by omega))
  · refine z_aload_n dX4_isAttribute_9 rfl rfl ?_
    refine tw_getA hW ga0 (by decide) (by decide) rfl kX4 fX4_22 dX4_isAttribute_10 (fun b4 _ gb4 => ?_)
    refine z_iload_n dX4_isAttribute_13 rfl rfl ?_
    refine z_iconst (v := Int32.ofInt 4) dX4_isAttribute_14 rfl ?_
    refine tw_imul dX4_isAttribute_15 (fun z5 gz5 ez5 => ?_)
    first | have ez5 := ez5 ⟨by omega, by omega⟩ | clear ez5
    refine z_iload_n dX4_isAttribute_16 rfl rfl ?_
    refine tw_iadd dX4_isAttribute_17 (fun z6 gz6 ez6 => ?_)
    first | have ez6 := ez6 ⟨by omega, by omega⟩ | clear ez6
    refine tw_zald hW gb4 (by omega) (by omega) dX4_isAttribute_18 (fun x7 _ vx7 gx7 => ?_)
    refine i_if_eq (tgt := 26) dX4_isAttribute_19 (by decide) gx7 (fun h8 => ?_) (fun h8 => ?_)
    · refine z_iconst (v := Int32.ofInt 0) dX4_isAttribute_26 rfl ?_
      exact z_ireturn dX4_isAttribute_27 rfl (nar01 (b01 ⟨by decide, by decide⟩)) (hP _ (show rng 0 from ⟨by decide, by decide⟩) (by omega))
    · refine z_iconst (v := Int32.ofInt 1) dX4_isAttribute_22 rfl ?_
      refine z_goto (tgt := 27) dX4_isAttribute_23 (by decide) ?_
      exact z_ireturn dX4_isAttribute_27 rfl (nar01 (b01 ⟨by decide, by decide⟩)) (hP _ (show rng 1 from ⟨by decide, by decide⟩) (by omega))

set_option maxRecDepth 100000 in
set_option maxHeartbeats 4000000 in
theorem bX4_fieldNamed_45 {G : xG} {d : Nat} {Post : xP} {B : Nat × Nat} {τ : Tau} {cs : List va_E} {a0 pa0 : Nat} {l1 : Int} {l2 : Int} {a3 : Nat} {l4 : Int} {l5 : Int} {l6 : Int} {n3 : Nat} (hd : 2 ≤ d) (hW : WT G B τ cs) (ga0 : τ a0 = some (.inl (4, pa0))) (gl1 : rng l1) (gl2 : rng l2) (bl2 : iv 0 1 l2) (ga3 : oT τ a3 5) (gl4 : rng l4) (gl5 : rng l5) (gl6 : rng l6) (i0 : 1 ≤ 4 - l6) (hm_3 : (4 - l6).toNat < n3 + 1) (hP : ∀ r : Int, rng r → (True) → Post (some (.int (Int32.ofInt r))) cs) (ih_3 : ∀ {a0 pa0 : Nat} {l1 : Int} {l2 : Int} {a3 : Nat} {l4 : Int} {l5 : Int} {l6 : Int} (hW : WT G B τ cs) (ga0 : τ a0 = some (.inl (4, pa0))) (gl1 : rng l1) (gl2 : rng l2) (bl2 : iv 0 1 l2) (ga3 : oT τ a3 5) (gl4 : rng l4) (gl5 : rng l5) (gl6 : rng l6)  , (4 - l6).toNat < n3 → Z (RX4, cX4_fieldNamed, 7, some .int, false) G d Post 3 [(0, .ref (G.1 + a0)), (1, .int (Int32.ofInt l1)), (2, .int (Int32.ofInt l2)), (3, .ref (G.1 + a3)), (4, .int (Int32.ofInt l4)), (5, .int (Int32.ofInt l5)), (6, .int (Int32.ofInt l6))] [] cs) : Z (RX4, cX4_fieldNamed, 7, some .int, false) G d Post 45 [(0, .ref (G.1 + a0)), (1, .int (Int32.ofInt l1)), (2, .int (Int32.ofInt l2)), (3, .ref (G.1 + a3)), (4, .int (Int32.ofInt l4)), (5, .int (Int32.ofInt l5)), (6, .int (Int32.ofInt l6))] [] cs := by
  refine tw_iinc (l := l6) dX4_fieldNamed_45 rfl (by decide) (fun z1 gz1 ez1 => ?_)
  first | have ez1 := ez1 ⟨by omega, by omega⟩ | clear ez1
  refine z_loc (L' := [(0, .ref (G.1 + a0)), (1, .int (Int32.ofInt l1)), (2, .int (Int32.ofInt l2)), (3, .ref (G.1 + a3)), (4, .int (Int32.ofInt l4)), (5, .int (Int32.ofInt l5)), (6, .int (Int32.ofInt z1))]) (List.forall_mem_cons.mpr ⟨rfl, (List.forall_mem_cons.mpr ⟨rfl, (List.forall_mem_cons.mpr ⟨rfl, (List.forall_mem_cons.mpr ⟨rfl, (List.forall_mem_cons.mpr ⟨rfl, (List.forall_mem_cons.mpr ⟨rfl, (List.forall_mem_cons.mpr ⟨rfl, (fun _ h => nomatch h)⟩)⟩)⟩)⟩)⟩)⟩)⟩) ?_
  refine z_goto (tgt := 3) dX4_fieldNamed_48 (by decide) ?_
  refine z_loc (L' := [(0, .ref (G.1 + a0)), (1, .int (Int32.ofInt l1)), (2, .int (Int32.ofInt l2)), (3, .ref (G.1 + a3)), (4, .int (Int32.ofInt l4)), (5, .int (Int32.ofInt l5)), (6, .int (Int32.ofInt z1))]) (List.forall_mem_cons.mpr ⟨rfl, (List.forall_mem_cons.mpr ⟨rfl, (List.forall_mem_cons.mpr ⟨rfl, (List.forall_mem_cons.mpr ⟨rfl, (List.forall_mem_cons.mpr ⟨rfl, (List.forall_mem_cons.mpr ⟨rfl, (List.forall_mem_cons.mpr ⟨rfl, (fun _ h => nomatch h)⟩)⟩)⟩)⟩)⟩)⟩)⟩) ?_
  exact ih_3 hW ga0 gl1 gl2 (by omega) ga3 gl4 gl5 gz1   (by omega)
set_option maxRecDepth 100000 in
set_option maxHeartbeats 4000000 in
theorem eX4_fieldNamed_3 {G : xG} {d : Nat} {Post : xP} {B : Nat × Nat} {τ : Tau} {cs : List va_E} {a0 pa0 : Nat} {l1 : Int} {l2 : Int} {a3 : Nat} {l4 : Int} {l5 : Int} {l6 : Int} {n3 : Nat} (hd : 2 ≤ d) (hW : WT G B τ cs) (ga0 : τ a0 = some (.inl (4, pa0))) (gl1 : rng l1) (gl2 : rng l2) (bl2 : iv 0 1 l2) (ga3 : oT τ a3 5) (gl4 : rng l4) (gl5 : rng l5) (gl6 : rng l6)   (hP : ∀ r : Int, rng r → (True) → Post (some (.int (Int32.ofInt r))) cs)  (ih_3 : ∀ {a0 pa0 : Nat} {l1 : Int} {l2 : Int} {a3 : Nat} {l4 : Int} {l5 : Int} {l6 : Int} (hW : WT G B τ cs) (ga0 : τ a0 = some (.inl (4, pa0))) (gl1 : rng l1) (gl2 : rng l2) (bl2 : iv 0 1 l2) (ga3 : oT τ a3 5) (gl4 : rng l4) (gl5 : rng l5) (gl6 : rng l6)  , (4 - l6).toNat < n3 → Z (RX4, cX4_fieldNamed, 7, some .int, false) G d Post 3 [(0, .ref (G.1 + a0)), (1, .int (Int32.ofInt l1)), (2, .int (Int32.ofInt l2)), (3, .ref (G.1 + a3)), (4, .int (Int32.ofInt l4)), (5, .int (Int32.ofInt l5)), (6, .int (Int32.ofInt l6))] [] cs) (hm_3 : (4 - l6).toNat < n3 + 1) : Z (RX4, cX4_fieldNamed, 7, some .int, false) G d Post 3 [(0, .ref (G.1 + a0)), (1, .int (Int32.ofInt l1)), (2, .int (Int32.ofInt l2)), (3, .ref (G.1 + a3)), (4, .int (Int32.ofInt l4)), (5, .int (Int32.ofInt l5)), (6, .int (Int32.ofInt l6))] [] cs := by
  refine z_iload dX4_fieldNamed_3 rfl ?_
  refine z_aload_n dX4_fieldNamed_5 rfl rfl ?_
  refine z_iload_n dX4_fieldNamed_6 rfl rfl ?_
  have hX0 := kX4_fieldCount 1 (Nat.le_refl _) hW ga0 gl1 
  refine z_callV (As := [_]) eX4_fieldCount sX4_fieldCount lX4_77 rfl dX4_fieldNamed_7 (hW.ob ga0 (by decide)).choose_spec hX0 (Nat.le_trans (by decide) hd) rfl (Nat.le_of_ble_eq_true rfl) (fun r cs1 hp => ?_)
  obtain ⟨hcs, r2, rfl, gr2, n1_0⟩ := hp
  obtain rfl := hcs.symm
  refine z_st (st' := [.int (Int32.ofInt r2), .int (Int32.ofInt l6)]) rfl ?_
  refine i_icmp_ge (tgt := 51) dX4_fieldNamed_10 (by decide) gl6 gr2 (fun h3 => ?_) (fun h3 => ?_)
  · refine z_iconst (v := Int32.ofInt (-1)) dX4_fieldNamed_51 rfl ?_
    exact z_ireturn dX4_fieldNamed_52 rfl rfl (hP _ (show rng (-1) from ⟨by decide, by decide⟩) trivial)
  · refine z_aload_n dX4_fieldNamed_13 rfl rfl ?_
    refine z_iload_n dX4_fieldNamed_14 rfl rfl ?_
    refine z_iload dX4_fieldNamed_15 rfl ?_
    have hX0 := kX4_isAttribute 1 (Nat.le_refl _) hW ga0 gl1 gl6 
    refine z_callV (As := [_, _]) eX4_isAttribute sX4_isAttribute lX4_80 rfl dX4_fieldNamed_17 (hW.ob ga0 (by decide)).choose_spec hX0 (Nat.le_trans (by decide) hd) rfl (Nat.le_of_ble_eq_true rfl) (fun r cs1 hp => ?_)
    obtain ⟨hcs, r5, rfl, gr5, n4_0⟩ := hp
    obtain rfl := hcs.symm
    refine z_st (st' := [.int (Int32.ofInt r5)]) rfl ?_
    refine z_iload_n dX4_fieldNamed_20 rfl rfl ?_
    refine i_icmp_ne (tgt := 45) dX4_fieldNamed_21 (by decide) gr5 gl2 (fun h6 => ?_) (fun h6 => ?_)
    · refine z_loc (L' := [(0, .ref (G.1 + a0)), (1, .int (Int32.ofInt l1)), (2, .int (Int32.ofInt l2)), (3, .ref (G.1 + a3)), (4, .int (Int32.ofInt l4)), (5, .int (Int32.ofInt l5)), (6, .int (Int32.ofInt l6))]) (List.forall_mem_cons.mpr ⟨rfl, (List.forall_mem_cons.mpr ⟨rfl, (List.forall_mem_cons.mpr ⟨rfl, (List.forall_mem_cons.mpr ⟨rfl, (List.forall_mem_cons.mpr ⟨rfl, (List.forall_mem_cons.mpr ⟨rfl, (List.forall_mem_cons.mpr ⟨rfl, (fun _ h => nomatch h)⟩)⟩)⟩)⟩)⟩)⟩)⟩) ?_
      exact bX4_fieldNamed_45 hd hW ga0 gl1 gl2 (by omega) ga3 gl4 gl5 gl6 (by omega) (by omega) hP ih_3
    · refine z_aload_n dX4_fieldNamed_24 rfl rfl ?_
      refine z_iload_n dX4_fieldNamed_25 rfl rfl ?_
      refine z_iload dX4_fieldNamed_26 rfl ?_
      have hX0 := kX4_fieldName 0 (Nat.le_refl _) hW gl1 gl6 
      refine z_callS (As := [_, _]) eX4_fieldName sX4_fieldName lX4_58 dX4_fieldNamed_28 hX0 (Nat.le_trans (by decide) hd) rfl (Nat.le_of_ble_eq_true rfl) (fun r cs1 hp => ?_)
      obtain ⟨hcs, r8, rfl, gr8, n7_0⟩ := hp
      obtain rfl := hcs.symm
      refine z_st (st' := [.int (Int32.ofInt r8), .ref (G.1 + a0)]) rfl ?_
      refine z_aload_n dX4_fieldNamed_31 rfl rfl ?_
      refine z_iload dX4_fieldNamed_32 rfl ?_
      refine z_iload dX4_fieldNamed_34 rfl ?_
      have hX0 := kX4_spells 1 (Nat.le_refl _) hW ga0 gr8 ga3 gl4 gl5 
      refine z_callV (As := [_, _, _, _]) eX4_spells sX4_spells lX4_73 rfl dX4_fieldNamed_36 (hW.ob ga0 (by decide)).choose_spec hX0 (Nat.le_trans (by decide) hd) rfl (Nat.le_of_ble_eq_true rfl) (fun r cs1 hp => ?_)
      obtain ⟨hcs, r10, rfl, gr10, n9_0⟩ := hp
      obtain rfl := hcs.symm
      refine z_st (st' := [.int (Int32.ofInt r10)]) rfl ?_
      refine i_if_eq (tgt := 45) dX4_fieldNamed_39 (by decide) gr10 (fun h11 => ?_) (fun h11 => ?_)
      · refine z_loc (L' := [(0, .ref (G.1 + a0)), (1, .int (Int32.ofInt l1)), (2, .int (Int32.ofInt l2)), (3, .ref (G.1 + a3)), (4, .int (Int32.ofInt l4)), (5, .int (Int32.ofInt l5)), (6, .int (Int32.ofInt l6))]) (List.forall_mem_cons.mpr ⟨rfl, (List.forall_mem_cons.mpr ⟨rfl, (List.forall_mem_cons.mpr ⟨rfl, (List.forall_mem_cons.mpr ⟨rfl, (List.forall_mem_cons.mpr ⟨rfl, (List.forall_mem_cons.mpr ⟨rfl, (List.forall_mem_cons.mpr ⟨rfl, (fun _ h => nomatch h)⟩)⟩)⟩)⟩)⟩)⟩)⟩) ?_
        exact bX4_fieldNamed_45 hd hW ga0 gl1 gl2 (by omega) ga3 gl4 gl5 gl6 (by omega) (by omega) hP ih_3
      · refine z_iload dX4_fieldNamed_42 rfl ?_
        exact z_ireturn dX4_fieldNamed_44 rfl rfl (hP _ gl6 trivial)
set_option maxRecDepth 100000 in
set_option maxHeartbeats 4000000 in
theorem bX4_fieldNamed_3 {G : xG} {d : Nat} {Post : xP} {B : Nat × Nat} {τ : Tau} {cs : List va_E} {a0 pa0 : Nat} {l1 : Int} {l2 : Int} {a3 : Nat} {l4 : Int} {l5 : Int} {l6 : Int} (hd : 2 ≤ d) (hW : WT G B τ cs) (ga0 : τ a0 = some (.inl (4, pa0))) (gl1 : rng l1) (gl2 : rng l2) (bl2 : iv 0 1 l2) (ga3 : oT τ a3 5) (gl4 : rng l4) (gl5 : rng l5) (gl6 : rng l6)   (hP : ∀ r : Int, rng r → (True) → Post (some (.int (Int32.ofInt r))) cs)  : Z (RX4, cX4_fieldNamed, 7, some .int, false) G d Post 3 [(0, .ref (G.1 + a0)), (1, .int (Int32.ofInt l1)), (2, .int (Int32.ofInt l2)), (3, .ref (G.1 + a3)), (4, .int (Int32.ofInt l4)), (5, .int (Int32.ofInt l5)), (6, .int (Int32.ofInt l6))] [] cs := by
  have key : ∀ (n : Nat) (a0 pa0 : Nat) (l1 : Int) (l2 : Int) (a3 : Nat) (l4 : Int) (l5 : Int) (l6 : Int) (hW : WT G B τ cs) (ga0 : τ a0 = some (.inl (4, pa0))) (gl1 : rng l1) (gl2 : rng l2) (bl2 : iv 0 1 l2) (ga3 : oT τ a3 5) (gl4 : rng l4) (gl5 : rng l5) (gl6 : rng l6)  , (4 - l6).toNat < n → Z (RX4, cX4_fieldNamed, 7, some .int, false) G d Post 3 [(0, .ref (G.1 + a0)), (1, .int (Int32.ofInt l1)), (2, .int (Int32.ofInt l2)), (3, .ref (G.1 + a3)), (4, .int (Int32.ofInt l4)), (5, .int (Int32.ofInt l5)), (6, .int (Int32.ofInt l6))] [] cs := by
    intro n
    induction n with
    | zero => intro a0 pa0 l1 l2 a3 l4 l5 l6 hW ga0 gl1 gl2 bl2 ga3 gl4 gl5 gl6 hm; exact absurd hm (Nat.not_lt_zero _)
    | succ n ih =>
      intro a0 pa0 l1 l2 a3 l4 l5 l6 hW ga0 gl1 gl2 bl2 ga3 gl4 gl5 gl6 hm
      exact eX4_fieldNamed_3 hd hW ga0 gl1 gl2 bl2 ga3 gl4 gl5 gl6 hP  (fun hW ga0 gl1 gl2 bl2 ga3 gl4 gl5 gl6 hm => ih _ _ _ _ _ _ _ _ hW ga0 gl1 gl2 bl2 ga3 gl4 gl5 gl6 hm) hm
  exact key _ _ _ _ _ _ _ _ _ hW ga0 gl1 gl2 bl2 ga3 gl4 gl5 gl6 (Nat.lt_succ_self _)
set_option maxRecDepth 100000 in
set_option maxHeartbeats 4000000 in
theorem kX4_fieldNamed {G : xG} {B : Nat × Nat} {τ : Tau} {cs : List va_E} {a0 pa0 : Nat} {l1 : Int} {l2 : Int} {a3 : Nat} {l4 : Int} {l5 : Int} (d : Nat) (hd : 2 ≤ d) (hW : WT G B τ cs) (ga0 : τ a0 = some (.inl (4, pa0))) (gl1 : rng l1) (gl2 : rng l2) (ga3 : oT τ a3 5) (gl4 : rng l4) (gl5 : rng l5) (p0 : iv 0 1 l2) : X G yX4_fieldNamed cX4_fieldNamed 7 (some .int) d [.ref (G.1 + a0), .int (Int32.ofInt l1), .int (Int32.ofInt l2), .ref (G.1 + a3), .int (Int32.ofInt l4), .int (Int32.ofInt l5)] cs (rI cs (fun r => True)) := by
  refine X.of false (by decide +kernel) (by decide) (Nat.le_of_ble_eq_true rfl) ?_
  show Z (RX4, cX4_fieldNamed, 7, some .int, false) G d _ 0 [(0, .ref (G.1 + a0)), (1, .int (Int32.ofInt l1)), (2, .int (Int32.ofInt l2)), (3, .ref (G.1 + a3)), (4, .int (Int32.ofInt l4)), (5, .int (Int32.ofInt l5))] [] cs
  have hP : ∀ r : Int, rng r → (True) → rI cs (fun r => True) (some (.int (Int32.ofInt r))) cs := fun r h1 h2 => ⟨rfl, r, rfl, h1, h2⟩
  refine z_iconst (v := Int32.ofInt 0) dX4_fieldNamed_0 rfl ?_
  refine z_istore dX4_fieldNamed_1 (by decide) ?_
  refine z_loc (L' := [(0, .ref (G.1 + a0)), (1, .int (Int32.ofInt l1)), (2, .int (Int32.ofInt l2)), (3, .ref (G.1 + a3)), (4, .int (Int32.ofInt l4)), (5, .int (Int32.ofInt l5)), (6, .int (Int32.ofInt 0))]) (List.forall_mem_cons.mpr ⟨rfl, (List.forall_mem_cons.mpr ⟨rfl, (List.forall_mem_cons.mpr ⟨rfl, (List.forall_mem_cons.mpr ⟨rfl, (List.forall_mem_cons.mpr ⟨rfl, (List.forall_mem_cons.mpr ⟨rfl, (List.forall_mem_cons.mpr ⟨rfl, (fun _ h => nomatch h)⟩)⟩)⟩)⟩)⟩)⟩)⟩) ?_
  refine z_loc (L' := [(0, .ref (G.1 + a0)), (1, .int (Int32.ofInt l1)), (2, .int (Int32.ofInt l2)), (3, .ref (G.1 + a3)), (4, .int (Int32.ofInt l4)), (5, .int (Int32.ofInt l5)), (6, .int (Int32.ofInt 0))]) (List.forall_mem_cons.mpr ⟨rfl, (List.forall_mem_cons.mpr ⟨rfl, (List.forall_mem_cons.mpr ⟨rfl, (List.forall_mem_cons.mpr ⟨rfl, (List.forall_mem_cons.mpr ⟨rfl, (List.forall_mem_cons.mpr ⟨rfl, (List.forall_mem_cons.mpr ⟨rfl, (fun _ h => nomatch h)⟩)⟩)⟩)⟩)⟩)⟩)⟩) ?_
  exact bX4_fieldNamed_3 hd hW ga0 gl1 gl2 (by omega) ga3 gl4 gl5 (show rng 0 from ⟨by decide, by decide⟩)   hP 

set_option maxRecDepth 100000 in
set_option maxHeartbeats 4000000 in
theorem bX3_isPlacedInObject_157 {G : xG} {d : Nat} {Post : xP} {B : Nat × Nat} {τ0 τ : Tau} {c0 cs : List va_E} {a0 pm : Nat} {l2 : Int} {l4 : Int} {s0 : Int} {s1 : Int} {s2 : Nat} (hd : 7 ≤ d) (hW : WT G B τ cs) (hX : Fx [1, 3] τ0 c0 τ cs) (ga0 : τ a0 = some (.inl (3, pm))) (gl2 : rng l2) (gl4 : rng l4) (gs0 : rng s0) (gs1 : rng s1) (gs2 : τ s2 = some (.inl (3, pm))) (i0 : 0 ≤ s1) (i1 : s1 < (pm : Nat)) (i2 : iv 0 29 l2)  (hP : ∀ (τ1 : Tau) (c1 : List va_E) (r : Int), WT G B τ1 c1 → Fx [1, 3] τ0 c0 τ1 c1 → rng r → ((iv 0 1 r)) → Post (some (.int (Int32.ofInt r))) c1)  : Z (RX3, cX3_isPlacedInObject, 6, some .boolean, false) G d Post 157 [(0, .ref (G.1 + a0)), (2, .int (Int32.ofInt l2)), (4, .int (Int32.ofInt l4))] [.int (Int32.ofInt s0), .int (Int32.ofInt s1), .ref (G.1 + s2)] cs := by
  have hpm := hW.2.1.2.2.2.2.2.2.1 _ _ ga0
  refine z_iload_n dX3_isPlacedInObject_157 rfl rfl ?_
  refine z_iload dX3_isPlacedInObject_158 rfl ?_
  have hX0 := kX3_takesRole 0 (Nat.le_refl _) hW gs2 gs1 gs0 gl2 gl4 (by omega) (by omega) (by omega)
  refine z_callV (As := [_, _, _, _]) eX3_takesRole sX3_takesRole lX3_118 rfl dX3_isPlacedInObject_160 (hW.ob gs2 (by decide)).choose_spec hX0 (Nat.le_trans (by decide) hd) rfl (Nat.le_of_ble_eq_true rfl) (fun r cs hp => ?_)
  obtain ⟨τ, rfl, hW, k3⟩ := hp
  have hX := hX.tr k3 (by decide)
  have ga0 := k3.1.e ga0 (by decide)
  clear hX0
  refine z_st (st' := []) rfl ?_
  refine z_iconst (v := Int32.ofInt 1) dX3_isPlacedInObject_163 rfl ?_
  exact z_ireturn dX3_isPlacedInObject_164 rfl (nar01 (b01 ⟨by decide, by decide⟩)) (hP _ _ _ hW hX (show rng 1 from ⟨by decide, by decide⟩) (by omega))
set_option maxRecDepth 100000 in
set_option maxHeartbeats 4000000 in
theorem bX3_isPlacedInObject_71 {G : xG} {d : Nat} {Post : xP} {B : Nat × Nat} {τ0 τ : Tau} {c0 cs : List va_E} {a0 pm : Nat} {l1 : Int} {l2 : Int} {l3 : Int} {l4 : Int} {l5 : Int} (hd : 7 ≤ d) (hW : WT G B τ cs) (hX : Fx [1, 3] τ0 c0 τ cs) (ga0 : τ a0 = some (.inl (3, pm))) (gl1 : rng l1) (gl2 : rng l2) (gl3 : rng l3) (gl4 : rng l4) (gl5 : rng l5) (i0 : 0 ≤ l1) (i1 : l1 < (pm : Nat)) (i2 : iv 0 29 l2)  (hP : ∀ (τ1 : Tau) (c1 : List va_E) (r : Int), WT G B τ1 c1 → Fx [1, 3] τ0 c0 τ1 c1 → rng r → ((iv 0 1 r)) → Post (some (.int (Int32.ofInt r))) c1)  : Z (RX3, cX3_isPlacedInObject, 6, some .boolean, false) G d Post 71 [(0, .ref (G.1 + a0)), (1, .int (Int32.ofInt l1)), (2, .int (Int32.ofInt l2)), (3, .int (Int32.ofInt l3)), (4, .int (Int32.ofInt l4)), (5, .int (Int32.ofInt l5))] [] cs := by
  have hpm := hW.2.1.2.2.2.2.2.2.1 _ _ ga0
  refine z_iload dX3_isPlacedInObject_71 rfl ?_
  refine z_iconst (v := Int32.ofInt (-1)) dX3_isPlacedInObject_73 rfl ?_
  refine i_icmp_eq (tgt := 98) dX3_isPlacedInObject_74 (by decide) gl4 (show rng (-1) from ⟨by decide, by decide⟩) (fun h1 => ?_) (fun h1 => ?_)
  · refine z_iconst (v := Int32.ofInt 0) dX3_isPlacedInObject_98 rfl ?_
    exact z_ireturn dX3_isPlacedInObject_99 rfl (nar01 (b01 ⟨by decide, by decide⟩)) (hP _ _ _ hW hX (show rng 0 from ⟨by decide, by decide⟩) (by omega))
  · refine z_iload dX3_isPlacedInObject_77 rfl ?_
    refine z_iload dX3_isPlacedInObject_79 rfl ?_
    refine i_icmp_eq (tgt := 98) dX3_isPlacedInObject_81 (by decide) gl4 gl5 (fun h2 => ?_) (fun h2 => ?_)
    · refine z_iconst (v := Int32.ofInt 0) dX3_isPlacedInObject_98 rfl ?_
      exact z_ireturn dX3_isPlacedInObject_99 rfl (nar01 (b01 ⟨by decide, by decide⟩)) (hP _ _ _ hW hX (show rng 0 from ⟨by decide, by decide⟩) (by omega))
    · refine z_aload_n dX3_isPlacedInObject_84 rfl rfl ?_
      refine tw_getA hW ga0 (by decide) (by decide) rfl kX3 fX3_9 dX3_isPlacedInObject_85 (fun b3 _ gb3 => ?_)
      refine z_iload_n dX3_isPlacedInObject_88 rfl rfl ?_
      refine tw_iald hW gb3 (by omega) (by omega) dX3_isPlacedInObject_89 (fun x4 _ vx4 gx4 => ?_)
      refine z_iload dX3_isPlacedInObject_90 rfl ?_
      refine tw_ishr dX3_isPlacedInObject_92 (fun z5 gz5 => ?_)
      refine z_iconst (v := Int32.ofInt 1) dX3_isPlacedInObject_93 rfl ?_
      refine tw_iand dX3_isPlacedInObject_94 (fun z6 gz6 => ?_)
      refine i_if_eq (tgt := 100) dX3_isPlacedInObject_95 (by decide) gz6 (fun h7 => ?_) (fun h7 => ?_)
      · refine z_aload_n dX3_isPlacedInObject_100 rfl rfl ?_
        refine tw_getA hW ga0 (by decide) (by decide) rfl kX3 fX3_9 dX3_isPlacedInObject_101 (fun b8 _ gb8 => ?_)
        refine z_iload_n dX3_isPlacedInObject_104 rfl rfl ?_
        refine z_dup2 dX3_isPlacedInObject_105 rfl rfl ?_
        refine tw_iald hW gb8 (by omega) (by omega) dX3_isPlacedInObject_106 (fun x9 _ vx9 gx9 => ?_)
        refine z_iconst (v := Int32.ofInt 1) dX3_isPlacedInObject_107 rfl ?_
        refine z_iload dX3_isPlacedInObject_108 rfl ?_
        refine tw_ishl dX3_isPlacedInObject_110 (fun z10 gz10 => ?_)
        refine tw_ior dX3_isPlacedInObject_111 (fun z11 gz11 => ?_)
        refine tw_iast hW hX gb8 (by omega) (by omega) (any_ok _) (Or.inl rfl) dX3_isPlacedInObject_112 (fun c1 q _ => nA hW gb8 (show (2147483647 : Int) ≠ 600 by decide) (show (2147483647 : Int) ≠ 601 by decide) c1 q) (fun cs hW hX _ _ => ?_)
        refine z_aload_n dX3_isPlacedInObject_113 rfl rfl ?_
        refine tw_getO hW ga0 (by decide) (by decide) rfl kX3 fX3_15 dX3_isPlacedInObject_114 (fun b12 pb12 gb12 => ?_)
        refine z_iload_n dX3_isPlacedInObject_117 rfl rfl ?_
        refine z_iload dX3_isPlacedInObject_118 rfl ?_
        have hX0 := kX4_shape 1 (Nat.le_refl _) hW gb12 gl3 gl4 
        refine z_callV (As := [_, _]) eX4_shape sX4_shape lX3_132 rfl dX3_isPlacedInObject_120 (hW.ob gb12 (by decide)).choose_spec hX0 (Nat.le_trans (by decide) hd) rfl (Nat.le_of_ble_eq_true rfl) (fun r cs1 hp => ?_)
        obtain ⟨hcs, r14, rfl, gr14, _⟩ := hp
        obtain rfl := hcs.symm
        refine z_st (st' := [.int (Int32.ofInt r14)]) rfl ?_
        refine z_iconst (v := Int32.ofInt 3) dX3_isPlacedInObject_123 rfl ?_
        refine i_icmp_ne (tgt := 136) dX3_isPlacedInObject_124 (by decide) gr14 (show rng 3 from ⟨by decide, by decide⟩) (fun h15 => ?_) (fun h15 => ?_)
        · refine z_aload_n dX3_isPlacedInObject_136 rfl rfl ?_
          refine z_iload_n dX3_isPlacedInObject_137 rfl rfl ?_
          refine z_aload_n dX3_isPlacedInObject_138 rfl rfl ?_
          refine tw_getO hW ga0 (by decide) (by decide) rfl kX3 fX3_15 dX3_isPlacedInObject_139 (fun b16 pb16 gb16 => ?_)
          refine z_iload_n dX3_isPlacedInObject_142 rfl rfl ?_
          refine z_iload dX3_isPlacedInObject_143 rfl ?_
          have hX0 := kX4_shape 1 (Nat.le_refl _) hW gb16 gl3 gl4 
          refine z_callV (As := [_, _]) eX4_shape sX4_shape lX3_132 rfl dX3_isPlacedInObject_145 (hW.ob gb16 (by decide)).choose_spec hX0 (Nat.le_trans (by decide) hd) rfl (Nat.le_of_ble_eq_true rfl) (fun r cs1 hp => ?_)
          obtain ⟨hcs, r18, rfl, gr18, _⟩ := hp
          obtain rfl := hcs.symm
          refine z_st (st' := [.int (Int32.ofInt r18), .int (Int32.ofInt l1), .ref (G.1 + a0)]) rfl ?_
          refine z_iconst (v := Int32.ofInt 4) dX3_isPlacedInObject_148 rfl ?_
          refine i_icmp_ne (tgt := 156) dX3_isPlacedInObject_149 (by decide) gr18 (show rng 4 from ⟨by decide, by decide⟩) (fun h19 => ?_) (fun h19 => ?_)
          · refine z_iconst (v := Int32.ofInt 3) dX3_isPlacedInObject_156 rfl ?_
            refine z_loc (L' := [(0, .ref (G.1 + a0)), (2, .int (Int32.ofInt l2)), (4, .int (Int32.ofInt l4))]) (List.forall_mem_cons.mpr ⟨rfl, (List.forall_mem_cons.mpr ⟨rfl, (List.forall_mem_cons.mpr ⟨rfl, (fun _ h => nomatch h)⟩)⟩)⟩) ?_
            exact bX3_isPlacedInObject_157 hd hW hX ga0 gl2 gl4 (show rng 3 from ⟨by decide, by decide⟩) gl1 ga0 (by omega) (by omega) (by omega)  hP 
          · refine z_iconst (v := Int32.ofInt 2) dX3_isPlacedInObject_152 rfl ?_
            refine z_goto (tgt := 157) dX3_isPlacedInObject_153 (by decide) ?_
            refine z_loc (L' := [(0, .ref (G.1 + a0)), (2, .int (Int32.ofInt l2)), (4, .int (Int32.ofInt l4))]) (List.forall_mem_cons.mpr ⟨rfl, (List.forall_mem_cons.mpr ⟨rfl, (List.forall_mem_cons.mpr ⟨rfl, (fun _ h => nomatch h)⟩)⟩)⟩) ?_
            exact bX3_isPlacedInObject_157 hd hW hX ga0 gl2 gl4 (show rng 2 from ⟨by decide, by decide⟩) gl1 ga0 (by omega) (by omega) (by omega)  hP 
        · refine z_aload_n dX3_isPlacedInObject_127 rfl rfl ?_
          refine z_iload_n dX3_isPlacedInObject_128 rfl rfl ?_
          refine z_iload_n dX3_isPlacedInObject_129 rfl rfl ?_
          refine z_iload dX3_isPlacedInObject_130 rfl ?_
          have hX0 := kX3_isPlacedAsTarget 6 (Nat.le_refl _) hW ga0 gl1 gl2 gl4 (by omega) (by omega) (by omega)
          refine z_callV (As := [_, _, _]) eX3_isPlacedAsTarget sX3_isPlacedAsTarget lX3_135 rfl dX3_isPlacedInObject_132 (hW.ob ga0 (by decide)).choose_spec hX0 (Nat.le_trans (by decide) hd) rfl (Nat.le_of_ble_eq_true rfl) (fun r cs hp => ?_)
          obtain ⟨τ, r21, rfl, gr21, hW, k22, n20_0⟩ := hp
          have hX := hX.tr k22 (by decide)
          have ga0 := k22.1.e ga0 (by decide)
          clear hX0
          refine z_st (st' := [.int (Int32.ofInt r21)]) rfl ?_
          exact z_ireturn dX3_isPlacedInObject_135 rfl (nar01 (b01 (by omega))) (hP _ _ _ hW hX gr21 (by omega))
      · refine z_iconst (v := Int32.ofInt 0) dX3_isPlacedInObject_98 rfl ?_
        exact z_ireturn dX3_isPlacedInObject_99 rfl (nar01 (b01 ⟨by decide, by decide⟩)) (hP _ _ _ hW hX (show rng 0 from ⟨by decide, by decide⟩) (by omega))
set_option maxRecDepth 100000 in
set_option maxHeartbeats 4000000 in
theorem kX3_isPlacedInObject {G : xG} {B : Nat × Nat} {τ : Tau} {cs : List va_E} {a0 pm : Nat} {l1 : Int} {l2 : Int} (d : Nat) (hd : 7 ≤ d) (hW : WT G B τ cs) (ga0 : τ a0 = some (.inl (3, pm))) (gl1 : rng l1) (gl2 : rng l2) (p0 : 0 ≤ l1) (p1 : l1 < (pm : Nat)) (p2 : iv 0 29 l2) : X G yX3_isPlacedInObject cX3_isPlacedInObject 6 (some .boolean) d [.ref (G.1 + a0), .int (Int32.ofInt l1), .int (Int32.ofInt l2)] cs (wI G B τ cs [1, 3] (fun r => (iv 0 1 r))) := by
  refine X.of false (by decide +kernel) (by decide) (Nat.le_of_ble_eq_true rfl) ?_
  show Z (RX3, cX3_isPlacedInObject, 6, some .boolean, false) G d _ 0 [(0, .ref (G.1 + a0)), (1, .int (Int32.ofInt l1)), (2, .int (Int32.ofInt l2))] [] cs
  have hP : ∀ (τ1 : Tau) (c1 : List va_E) (r : Int), WT G B τ1 c1 → Fx [1, 3] τ cs τ1 c1 → rng r → ((iv 0 1 r)) → wI G B τ cs [1, 3] (fun r => (iv 0 1 r)) (some (.int (Int32.ofInt r))) c1 := fun τ1 c1 r h1 h2 h3 h4 => ⟨τ1, r, rfl, h3, h1, h2, h4⟩
  have hX : Fx [1, 3] τ cs τ cs := Fx.rf
  skip
  have hpm := hW.2.1.2.2.2.2.2.2.1 _ _ ga0
  refine z_aload_n dX3_isPlacedInObject_0 rfl rfl ?_
  refine tw_getO hW ga0 (by decide) (by decide) rfl kX3 fX3_37 dX3_isPlacedInObject_1 (fun b1 pb1 gb1 => ?_)
  refine z_iload_n dX3_isPlacedInObject_4 rfl rfl ?_
  have hX0 := kX1_classOf 1 (Nat.le_refl _) hW gb1 gl2 
  refine z_callV (As := [_]) eX1_classOf sX1_classOf lX3_122 rfl dX3_isPlacedInObject_5 (hW.ob gb1 (by decide)).choose_spec hX0 (Nat.le_trans (by decide) hd) rfl (Nat.le_of_ble_eq_true rfl) (fun r cs1 hp => ?_)
  obtain ⟨hcs, r3, rfl, gr3, _⟩ := hp
  obtain rfl := hcs.symm
  refine z_st (st' := [.int (Int32.ofInt r3)]) rfl ?_
  refine z_istore_n dX3_isPlacedInObject_8 rfl (by decide) ?_
  refine z_loc (L' := [(0, .ref (G.1 + a0)), (1, .int (Int32.ofInt l1)), (2, .int (Int32.ofInt l2)), (3, .int (Int32.ofInt r3))]) (List.forall_mem_cons.mpr ⟨rfl, (List.forall_mem_cons.mpr ⟨rfl, (List.forall_mem_cons.mpr ⟨rfl, (List.forall_mem_cons.mpr ⟨rfl, (fun _ h => nomatch h)⟩)⟩)⟩)⟩) ?_
  refine z_aload_n dX3_isPlacedInObject_9 rfl rfl ?_
  refine tw_getO hW ga0 (by decide) (by decide) rfl kX3 fX3_15 dX3_isPlacedInObject_10 (fun b4 pb4 gb4 => ?_)
  refine z_iload_n dX3_isPlacedInObject_13 rfl rfl ?_
  refine z_iconst (v := Int32.ofInt 0) dX3_isPlacedInObject_14 rfl ?_
  refine z_aload_n dX3_isPlacedInObject_15 rfl rfl ?_
  refine tw_getO hW ga0 (by decide) (by decide) rfl kX3 fX3_29 dX3_isPlacedInObject_16 (fun b5 pb5 gb5 => ?_)
  have gb5 : oT τ b5 5 := ⟨_, gb5⟩
  refine z_aload_n dX3_isPlacedInObject_19 rfl rfl ?_
  refine tw_getO hW ga0 (by decide) (by decide) rfl kX3 fX3_19 dX3_isPlacedInObject_20 (fun b6 pb6 gb6 => ?_)
  refine z_iload_n dX3_isPlacedInObject_23 rfl rfl ?_
  have hX0 := kX6_nameFrom 1 (Nat.le_refl _) hW gb6 gl1 
  refine z_callV (As := [_]) eX6_nameFrom sX6_nameFrom lX3_88 rfl dX3_isPlacedInObject_24 (hW.ob gb6 (by decide)).choose_spec hX0 (Nat.le_trans (by decide) hd) rfl (Nat.le_of_ble_eq_true rfl) (fun r cs1 hp => ?_)
  obtain ⟨hcs, r8, rfl, gr8, _⟩ := hp
  obtain rfl := hcs.symm
  refine z_st (st' := [.int (Int32.ofInt r8), .ref (G.1 + b5), .int (Int32.ofInt 0), .int (Int32.ofInt r3), .ref (G.1 + b4)]) rfl ?_
  refine z_aload_n dX3_isPlacedInObject_27 rfl rfl ?_
  refine tw_getO hW ga0 (by decide) (by decide) rfl kX3 fX3_19 dX3_isPlacedInObject_28 (fun b9 pb9 gb9 => ?_)
  refine z_iload_n dX3_isPlacedInObject_31 rfl rfl ?_
  have hX0 := kX6_nameTo 1 (Nat.le_refl _) hW gb9 gl1 
  refine z_callV (As := [_]) eX6_nameTo sX6_nameTo lX3_91 rfl dX3_isPlacedInObject_32 (hW.ob gb9 (by decide)).choose_spec hX0 (Nat.le_trans (by decide) hd) rfl (Nat.le_of_ble_eq_true rfl) (fun r cs1 hp => ?_)
  obtain ⟨hcs, r11, rfl, gr11, _⟩ := hp
  obtain rfl := hcs.symm
  refine z_st (st' := [.int (Int32.ofInt r11), .int (Int32.ofInt r8), .ref (G.1 + b5), .int (Int32.ofInt 0), .int (Int32.ofInt r3), .ref (G.1 + b4)]) rfl ?_
  have hX0 := kX4_fieldNamed 2 (Nat.le_refl _) hW gb4 gr3 (show rng 0 from ⟨by decide, by decide⟩) gb5 gr8 gr11 (by omega)
  refine z_callV (As := [_, _, _, _, _]) eX4_fieldNamed sX4_fieldNamed lX3_125 rfl dX3_isPlacedInObject_35 (hW.ob gb4 (by decide)).choose_spec hX0 (Nat.le_trans (by decide) hd) rfl (Nat.le_of_ble_eq_true rfl) (fun r cs1 hp => ?_)
  obtain ⟨hcs, r13, rfl, gr13, _⟩ := hp
  obtain rfl := hcs.symm
  refine z_st (st' := [.int (Int32.ofInt r13)]) rfl ?_
  refine z_istore dX3_isPlacedInObject_38 (by decide) ?_
  refine z_loc (L' := [(0, .ref (G.1 + a0)), (1, .int (Int32.ofInt l1)), (2, .int (Int32.ofInt l2)), (3, .int (Int32.ofInt r3)), (4, .int (Int32.ofInt r13))]) (List.forall_mem_cons.mpr ⟨rfl, (List.forall_mem_cons.mpr ⟨rfl, (List.forall_mem_cons.mpr ⟨rfl, (List.forall_mem_cons.mpr ⟨rfl, (List.forall_mem_cons.mpr ⟨rfl, (fun _ h => nomatch h)⟩)⟩)⟩)⟩)⟩) ?_
  refine z_aload_n dX3_isPlacedInObject_40 rfl rfl ?_
  refine tw_getO hW ga0 (by decide) (by decide) rfl kX3 fX3_15 dX3_isPlacedInObject_41 (fun b14 pb14 gb14 => ?_)
  refine z_iload_n dX3_isPlacedInObject_44 rfl rfl ?_
  have hX0 := kX4_implicit 1 (Nat.le_refl _) hW gb14 gr3 
  refine z_callV (As := [_]) eX4_implicit sX4_implicit lX3_129 rfl dX3_isPlacedInObject_45 (hW.ob gb14 (by decide)).choose_spec hX0 (Nat.le_trans (by decide) hd) rfl (Nat.le_of_ble_eq_true rfl) (fun r cs1 hp => ?_)
  obtain ⟨hcs, r16, rfl, gr16, _⟩ := hp
  obtain rfl := hcs.symm
  refine z_st (st' := [.int (Int32.ofInt r16)]) rfl ?_
  refine z_istore dX3_isPlacedInObject_48 (by decide) ?_
  refine z_loc (L' := [(0, .ref (G.1 + a0)), (1, .int (Int32.ofInt l1)), (2, .int (Int32.ofInt l2)), (3, .int (Int32.ofInt r3)), (4, .int (Int32.ofInt r13)), (5, .int (Int32.ofInt r16))]) (List.forall_mem_cons.mpr ⟨rfl, (List.forall_mem_cons.mpr ⟨rfl, (List.forall_mem_cons.mpr ⟨rfl, (List.forall_mem_cons.mpr ⟨rfl, (List.forall_mem_cons.mpr ⟨rfl, (List.forall_mem_cons.mpr ⟨rfl, (fun _ h => nomatch h)⟩)⟩)⟩)⟩)⟩)⟩) ?_
  refine z_iload dX3_isPlacedInObject_50 rfl ?_
  refine z_iconst (v := Int32.ofInt (-1)) dX3_isPlacedInObject_52 rfl ?_
  refine i_icmp_ne (tgt := 71) dX3_isPlacedInObject_53 (by decide) gr13 (show rng (-1) from ⟨by decide, by decide⟩) (fun h17 => ?_) (fun h17 => ?_)
  · refine z_loc (L' := [(0, .ref (G.1 + a0)), (1, .int (Int32.ofInt l1)), (2, .int (Int32.ofInt l2)), (3, .int (Int32.ofInt r3)), (4, .int (Int32.ofInt r13)), (5, .int (Int32.ofInt r16))]) (List.forall_mem_cons.mpr ⟨rfl, (List.forall_mem_cons.mpr ⟨rfl, (List.forall_mem_cons.mpr ⟨rfl, (List.forall_mem_cons.mpr ⟨rfl, (List.forall_mem_cons.mpr ⟨rfl, (List.forall_mem_cons.mpr ⟨rfl, (fun _ h => nomatch h)⟩)⟩)⟩)⟩)⟩)⟩) ?_
    exact bX3_isPlacedInObject_71 hd hW hX ga0 gl1 gl2 gr3 gr13 gr16 (by omega) (by omega) (by omega)  hP 
  · refine z_iload dX3_isPlacedInObject_56 rfl ?_
    refine z_iconst (v := Int32.ofInt (-1)) dX3_isPlacedInObject_58 rfl ?_
    refine i_icmp_eq (tgt := 71) dX3_isPlacedInObject_59 (by decide) gr16 (show rng (-1) from ⟨by decide, by decide⟩) (fun h18 => ?_) (fun h18 => ?_)
    · refine z_loc (L' := [(0, .ref (G.1 + a0)), (1, .int (Int32.ofInt l1)), (2, .int (Int32.ofInt l2)), (3, .int (Int32.ofInt r3)), (4, .int (Int32.ofInt r13)), (5, .int (Int32.ofInt r16))]) (List.forall_mem_cons.mpr ⟨rfl, (List.forall_mem_cons.mpr ⟨rfl, (List.forall_mem_cons.mpr ⟨rfl, (List.forall_mem_cons.mpr ⟨rfl, (List.forall_mem_cons.mpr ⟨rfl, (List.forall_mem_cons.mpr ⟨rfl, (fun _ h => nomatch h)⟩)⟩)⟩)⟩)⟩)⟩) ?_
      exact bX3_isPlacedInObject_71 hd hW hX ga0 gl1 gl2 gr3 gr13 gr16 (by omega) (by omega) (by omega)  hP 
    · refine z_aload_n dX3_isPlacedInObject_62 rfl rfl ?_
      refine z_iload_n dX3_isPlacedInObject_63 rfl rfl ?_
      refine z_iload_n dX3_isPlacedInObject_64 rfl rfl ?_
      refine z_iload dX3_isPlacedInObject_65 rfl ?_
      have hX0 := kX3_isPlacedInList 6 (Nat.le_refl _) hW ga0 gl1 gl2 gr16 (by omega) (by omega) (by omega)
      refine z_callV (As := [_, _, _]) eX3_isPlacedInList sX3_isPlacedInList lX3_107 rfl dX3_isPlacedInObject_67 (hW.ob ga0 (by decide)).choose_spec hX0 (Nat.le_trans (by decide) hd) rfl (Nat.le_of_ble_eq_true rfl) (fun r cs hp => ?_)
      obtain ⟨τ, r20, rfl, gr20, hW, k21, n19_0⟩ := hp
      have hX := hX.tr k21 (by decide)
      have ga0 := k21.1.e ga0 (by decide)
      clear hX0
      refine z_st (st' := [.int (Int32.ofInt r20)]) rfl ?_
      exact z_ireturn dX3_isPlacedInObject_70 rfl (nar01 (b01 (by omega))) (hP _ _ _ hW hX gr20 (by omega))

set_option maxRecDepth 100000 in
set_option maxHeartbeats 4000000 in
theorem kX6_parent {G : xG} {B : Nat × Nat} {τ : Tau} {cs : List va_E} {a0 pa0 : Nat} {l1 : Int} (d : Nat) (hd : 1 ≤ d) (hW : WT G B τ cs) (ga0 : τ a0 = some (.inl (6, pa0))) (gl1 : rng l1)  : X G yX6_parent cX6_parent 2 (some .int) d [.ref (G.1 + a0), .int (Int32.ofInt l1)] cs (rI cs (fun r => (iv (-1) 199 r))) := by
  refine X.of false (by decide +kernel) (by decide) (Nat.le_of_ble_eq_true rfl) ?_
  show Z (RX6, cX6_parent, 2, some .int, false) G d _ 0 [(0, .ref (G.1 + a0)), (1, .int (Int32.ofInt l1))] [] cs
  have hP : ∀ r : Int, rng r → ((iv (-1) 199 r)) → rI cs (fun r => (iv (-1) 199 r)) (some (.int (Int32.ofInt r))) cs := fun r h1 h2 => ⟨rfl, r, rfl, h1, h2⟩
  refine z_aload_n dX6_parent_0 rfl rfl ?_
  refine z_iload_n dX6_parent_1 rfl rfl ?_
  have hX0 := kX6_has 0 (Nat.le_refl _) hW ga0 gl1 
  refine z_callV (As := [_]) eX6_has sX6_has lX6_75 rfl dX6_parent_2 (hW.ob ga0 (by decide)).choose_spec hX0 (Nat.le_trans (by decide) hd) rfl (Nat.le_of_ble_eq_true rfl) (fun r cs1 hp => ?_)
  obtain ⟨hcs, r2, rfl, gr2, ⟨n1_0, n1_1, n1_2⟩⟩ := hp
  obtain rfl := hcs.symm
  refine z_st (st' := [.int (Int32.ofInt r2)]) rfl ?_
  refine i_if_eq (tgt := 17) dX6_parent_5 (by decide) gr2 (fun h3 => ?_) (fun h3 => ?_)
  · refine z_iconst (v := Int32.ofInt (-1)) dX6_parent_17 rfl ?_
    exact z_ireturn dX6_parent_18 rfl rfl (hP _ (show rng (-1) from ⟨by decide, by decide⟩) (by omega))
  · refine z_aload_n dX6_parent_8 rfl rfl ?_
    refine tw_getA hW ga0 (by decide) (by decide) rfl kX6 fX6_31 dX6_parent_9 (fun b4 _ gb4 => ?_)
    refine z_iload_n dX6_parent_12 rfl rfl ?_
    refine tw_iald hW gb4 (by omega) (by omega) dX6_parent_13 (fun x5 _ vx5 gx5 => ?_)
    refine z_goto (tgt := 18) dX6_parent_14 (by decide) ?_
    exact z_ireturn dX6_parent_18 rfl rfl (hP _ gx5 (by omega))

set_option maxRecDepth 100000 in
set_option maxHeartbeats 4000000 in
theorem bX3_isPlaced_18 {G : xG} {d : Nat} {Post : xP} {B : Nat × Nat} {τ0 τ : Tau} {c0 cs : List va_E} {a0 pm : Nat} {l1 : Int} (hd : 8 ≤ d) (hW : WT G B τ cs) (hX : Fx [1, 3] τ0 c0 τ cs) (ga0 : τ a0 = some (.inl (3, pm))) (gl1 : rng l1) (i0 : 0 ≤ l1) (i1 : l1 < (pm : Nat))  (hP : ∀ (τ1 : Tau) (c1 : List va_E) (r : Int), WT G B τ1 c1 → Fx [1, 3] τ0 c0 τ1 c1 → rng r → ((iv 0 1 r)) → Post (some (.int (Int32.ofInt r))) c1)  : Z (RX3, cX3_isPlaced, 3, some .boolean, false) G d Post 18 [(0, .ref (G.1 + a0)), (1, .int (Int32.ofInt l1))] [] cs := by
  have hpm := hW.2.1.2.2.2.2.2.2.1 _ _ ga0
  refine z_aload_n dX3_isPlaced_18 rfl rfl ?_
  refine z_iload_n dX3_isPlaced_19 rfl rfl ?_
  refine z_aload_n dX3_isPlaced_20 rfl rfl ?_
  refine tw_getO hW ga0 (by decide) (by decide) rfl kX3 fX3_15 dX3_isPlaced_21 (fun b1 pb1 gb1 => ?_)
  refine z_aload_n dX3_isPlaced_24 rfl rfl ?_
  refine tw_getO hW ga0 (by decide) (by decide) rfl kX3 fX3_29 dX3_isPlaced_25 (fun b2 pb2 gb2 => ?_)
  have gb2 : oT τ b2 5 := ⟨_, gb2⟩
  refine z_aload_n dX3_isPlaced_28 rfl rfl ?_
  refine tw_getO hW ga0 (by decide) (by decide) rfl kX3 fX3_19 dX3_isPlaced_29 (fun b3 pb3 gb3 => ?_)
  refine z_iload_n dX3_isPlaced_32 rfl rfl ?_
  have hX0 := kX6_nameFrom 1 (Nat.le_refl _) hW gb3 gl1 
  refine z_callV (As := [_]) eX6_nameFrom sX6_nameFrom lX3_88 rfl dX3_isPlaced_33 (hW.ob gb3 (by decide)).choose_spec hX0 (Nat.le_trans (by decide) hd) rfl (Nat.le_of_ble_eq_true rfl) (fun r cs1 hp => ?_)
  obtain ⟨hcs, r5, rfl, gr5, _⟩ := hp
  obtain rfl := hcs.symm
  refine z_st (st' := [.int (Int32.ofInt r5), .ref (G.1 + b2), .ref (G.1 + b1), .int (Int32.ofInt l1), .ref (G.1 + a0)]) rfl ?_
  refine z_aload_n dX3_isPlaced_36 rfl rfl ?_
  refine tw_getO hW ga0 (by decide) (by decide) rfl kX3 fX3_19 dX3_isPlaced_37 (fun b6 pb6 gb6 => ?_)
  refine z_iload_n dX3_isPlaced_40 rfl rfl ?_
  have hX0 := kX6_nameTo 1 (Nat.le_refl _) hW gb6 gl1 
  refine z_callV (As := [_]) eX6_nameTo sX6_nameTo lX3_91 rfl dX3_isPlaced_41 (hW.ob gb6 (by decide)).choose_spec hX0 (Nat.le_trans (by decide) hd) rfl (Nat.le_of_ble_eq_true rfl) (fun r cs1 hp => ?_)
  obtain ⟨hcs, r8, rfl, gr8, _⟩ := hp
  obtain rfl := hcs.symm
  refine z_st (st' := [.int (Int32.ofInt r8), .int (Int32.ofInt r5), .ref (G.1 + b2), .ref (G.1 + b1), .int (Int32.ofInt l1), .ref (G.1 + a0)]) rfl ?_
  have hX0 := kX4_readableClass 2 (Nat.le_refl _) hW gb1 gb2 gr5 gr8 
  refine z_callV (As := [_, _, _]) eX4_readableClass sX4_readableClass lX3_94 rfl dX3_isPlaced_44 (hW.ob gb1 (by decide)).choose_spec hX0 (Nat.le_trans (by decide) hd) rfl (Nat.le_of_ble_eq_true rfl) (fun r cs1 hp => ?_)
  obtain ⟨hcs, r10, rfl, gr10, _⟩ := hp
  obtain rfl := hcs.symm
  refine z_st (st' := [.int (Int32.ofInt r10), .int (Int32.ofInt l1), .ref (G.1 + a0)]) rfl ?_
  have hX0 := kX3_begins 2 (Nat.le_refl _) hW ga0 gl1 gr10 (by omega) (by omega)
  refine z_callV (As := [_, _]) eX3_begins sX3_begins lX3_100 rfl dX3_isPlaced_47 (hW.ob ga0 (by decide)).choose_spec hX0 (Nat.le_trans (by decide) hd) rfl (Nat.le_of_ble_eq_true rfl) (fun r cs hp => ?_)
  obtain ⟨τ, r12, rfl, gr12, hW, k13, n11_0⟩ := hp
  have hX := hX.tr k13 (by decide)
  have ga0 := k13.1.e ga0 (by decide)
  clear hX0
  refine z_st (st' := [.int (Int32.ofInt r12)]) rfl ?_
  exact z_ireturn dX3_isPlaced_50 rfl (nar01 (b01 (by omega))) (hP _ _ _ hW hX gr12 (by omega))
set_option maxRecDepth 100000 in
set_option maxHeartbeats 4000000 in
theorem kX3_isPlaced {G : xG} {B : Nat × Nat} {τ : Tau} {cs : List va_E} {a0 pm : Nat} {l1 : Int} (d : Nat) (hd : 8 ≤ d) (hW : WT G B τ cs) (ga0 : τ a0 = some (.inl (3, pm))) (gl1 : rng l1) (p0 : 0 ≤ l1) (p1 : l1 < (pm : Nat)) : X G yX3_isPlaced cX3_isPlaced 3 (some .boolean) d [.ref (G.1 + a0), .int (Int32.ofInt l1)] cs (wI G B τ cs [1, 3] (fun r => (iv 0 1 r))) := by
  refine X.of false (by decide +kernel) (by decide) (Nat.le_of_ble_eq_true rfl) ?_
  show Z (RX3, cX3_isPlaced, 3, some .boolean, false) G d _ 0 [(0, .ref (G.1 + a0)), (1, .int (Int32.ofInt l1))] [] cs
  have hP : ∀ (τ1 : Tau) (c1 : List va_E) (r : Int), WT G B τ1 c1 → Fx [1, 3] τ cs τ1 c1 → rng r → ((iv 0 1 r)) → wI G B τ cs [1, 3] (fun r => (iv 0 1 r)) (some (.int (Int32.ofInt r))) c1 := fun τ1 c1 r h1 h2 h3 h4 => ⟨τ1, r, rfl, h3, h1, h2, h4⟩
  have hX : Fx [1, 3] τ cs τ cs := Fx.rf
  skip
  have hpm := hW.2.1.2.2.2.2.2.2.1 _ _ ga0
  refine z_aload_n dX3_isPlaced_0 rfl rfl ?_
  refine tw_getO hW ga0 (by decide) (by decide) rfl kX3 fX3_19 dX3_isPlaced_1 (fun b1 pb1 gb1 => ?_)
  refine z_iload_n dX3_isPlaced_4 rfl rfl ?_
  have hX0 := kX6_parent 1 (Nat.le_refl _) hW gb1 gl1 
  refine z_callV (As := [_]) eX6_parent sX6_parent lX3_84 rfl dX3_isPlaced_5 (hW.ob gb1 (by decide)).choose_spec hX0 (Nat.le_trans (by decide) hd) rfl (Nat.le_of_ble_eq_true rfl) (fun r cs1 hp => ?_)
  obtain ⟨hcs, r3, rfl, gr3, n2_0⟩ := hp
  obtain rfl := hcs.symm
  refine z_st (st' := [.int (Int32.ofInt r3)]) rfl ?_
  refine z_istore_n dX3_isPlaced_8 rfl (by decide) ?_
  refine z_loc (L' := [(0, .ref (G.1 + a0)), (1, .int (Int32.ofInt l1)), (2, .int (Int32.ofInt r3))]) (List.forall_mem_cons.mpr ⟨rfl, (List.forall_mem_cons.mpr ⟨rfl, (List.forall_mem_cons.mpr ⟨rfl, (fun _ h => nomatch h)⟩)⟩)⟩) ?_
  refine z_iload_n dX3_isPlaced_9 rfl rfl ?_
  refine i_if_lt (tgt := 18) dX3_isPlaced_10 (by decide) gr3 (fun h4 => ?_) (fun h4 => ?_)
  · refine z_loc (L' := [(0, .ref (G.1 + a0)), (1, .int (Int32.ofInt l1))]) (List.forall_mem_cons.mpr ⟨rfl, (List.forall_mem_cons.mpr ⟨rfl, (fun _ h => nomatch h)⟩)⟩) ?_
    exact bX3_isPlaced_18 hd hW hX ga0 gl1 (by omega) (by omega)  hP 
  · refine z_iload_n dX3_isPlaced_13 rfl rfl ?_
    refine z_iload_n dX3_isPlaced_14 rfl rfl ?_
    refine i_icmp_lt (tgt := 51) dX3_isPlaced_15 (by decide) gr3 gl1 (fun h5 => ?_) (fun h5 => ?_)
    · refine z_aload_n dX3_isPlaced_51 rfl rfl ?_
      refine tw_getA hW ga0 (by decide) (by decide) rfl kX3 fX3_54 dX3_isPlaced_52 (fun b6 _ gb6 => ?_)
      refine z_iload_n dX3_isPlaced_55 rfl rfl ?_
      refine tw_iald hW gb6 (by omega) (by omega) dX3_isPlaced_56 (fun x7 _ vx7 gx7 => ?_)
      refine z_iconst (v := Int32.ofInt 1) dX3_isPlaced_57 rfl ?_
      refine i_icmp_ne (tgt := 73) dX3_isPlaced_58 (by decide) gx7 (show rng 1 from ⟨by decide, by decide⟩) (fun h8 => ?_) (fun h8 => ?_)
      · refine z_aload_n dX3_isPlaced_73 rfl rfl ?_
        refine tw_getA hW ga0 (by decide) (by decide) rfl kX3 fX3_54 dX3_isPlaced_74 (fun b9 _ gb9 => ?_)
        refine z_iload_n dX3_isPlaced_77 rfl rfl ?_
        refine tw_iald hW gb9 (by omega) (by omega) dX3_isPlaced_78 (fun x10 _ vx10 gx10 => ?_)
        refine z_iconst (v := Int32.ofInt 2) dX3_isPlaced_79 rfl ?_
        refine i_icmp_ne (tgt := 101) dX3_isPlaced_80 (by decide) gx10 (show rng 2 from ⟨by decide, by decide⟩) (fun h11 => ?_) (fun h11 => ?_)
        · refine z_aload_n dX3_isPlaced_101 rfl rfl ?_
          refine tw_getA hW ga0 (by decide) (by decide) rfl kX3 fX3_54 dX3_isPlaced_102 (fun b12 _ gb12 => ?_)
          refine z_iload_n dX3_isPlaced_105 rfl rfl ?_
          refine z_iconst (v := Int32.ofInt 5) dX3_isPlaced_106 rfl ?_
          refine tw_iast hW hX gb12 (by omega) (by omega) (any_ok _) (Or.inl rfl) dX3_isPlaced_107 (fun c1 q _ => nA hW gb12 (show (2147483647 : Int) ≠ 600 by decide) (show (2147483647 : Int) ≠ 601 by decide) c1 q) (fun cs hW hX _ _ => ?_)
          refine z_iconst (v := Int32.ofInt 1) dX3_isPlaced_108 rfl ?_
          exact z_ireturn dX3_isPlaced_109 rfl (nar01 (b01 ⟨by decide, by decide⟩)) (hP _ _ _ hW hX (show rng 1 from ⟨by decide, by decide⟩) (by omega))
        · refine z_aload_n dX3_isPlaced_83 rfl rfl ?_
          refine z_iload_n dX3_isPlaced_84 rfl rfl ?_
          refine z_aload_n dX3_isPlaced_85 rfl rfl ?_
          refine tw_getA hW ga0 (by decide) (by decide) rfl kX3 fX3_57 dX3_isPlaced_86 (fun b13 _ gb13 => ?_)
          refine z_iload_n dX3_isPlaced_89 rfl rfl ?_
          refine tw_iald hW gb13 (by omega) (by omega) dX3_isPlaced_90 (fun x14 _ vx14 gx14 => ?_)
          refine z_aload_n dX3_isPlaced_91 rfl rfl ?_
          refine tw_getA hW ga0 (by decide) (by decide) rfl kX3 fX3_60 dX3_isPlaced_92 (fun b15 _ gb15 => ?_)
          refine z_iload_n dX3_isPlaced_95 rfl rfl ?_
          refine tw_iald hW gb15 (by omega) (by omega) dX3_isPlaced_96 (fun x16 _ vx16 gx16 => ?_)
          have hX0 := kX3_isPlacedInList 6 (Nat.le_refl _) hW ga0 gl1 gx14 gx16 (by omega) (by omega) (by omega)
          refine z_callV (As := [_, _, _]) eX3_isPlacedInList sX3_isPlacedInList lX3_107 rfl dX3_isPlaced_97 (hW.ob ga0 (by decide)).choose_spec hX0 (Nat.le_trans (by decide) hd) rfl (Nat.le_of_ble_eq_true rfl) (fun r cs hp => ?_)
          obtain ⟨τ, r18, rfl, gr18, hW, k19, n17_0⟩ := hp
          have hX := hX.tr k19 (by decide)
          have ga0 := k19.1.e ga0 (by decide)
          clear hX0
          refine z_st (st' := [.int (Int32.ofInt r18)]) rfl ?_
          exact z_ireturn dX3_isPlaced_100 rfl (nar01 (b01 (by omega))) (hP _ _ _ hW hX gr18 (by omega))
      · refine z_aload_n dX3_isPlaced_61 rfl rfl ?_
        refine z_iload_n dX3_isPlaced_62 rfl rfl ?_
        refine z_aload_n dX3_isPlaced_63 rfl rfl ?_
        refine tw_getA hW ga0 (by decide) (by decide) rfl kX3 fX3_57 dX3_isPlaced_64 (fun b20 _ gb20 => ?_)
        refine z_iload_n dX3_isPlaced_67 rfl rfl ?_
        refine tw_iald hW gb20 (by omega) (by omega) dX3_isPlaced_68 (fun x21 _ vx21 gx21 => ?_)
        have hX0 := kX3_isPlacedInObject 7 (Nat.le_refl _) hW ga0 gl1 gx21 (by omega) (by omega) (by omega)
        refine z_callV (As := [_, _]) eX3_isPlacedInObject sX3_isPlacedInObject lX3_104 rfl dX3_isPlaced_69 (hW.ob ga0 (by decide)).choose_spec hX0 (Nat.le_trans (by decide) hd) rfl (Nat.le_of_ble_eq_true rfl) (fun r cs hp => ?_)
        obtain ⟨τ, r23, rfl, gr23, hW, k24, n22_0⟩ := hp
        have hX := hX.tr k24 (by decide)
        have ga0 := k24.1.e ga0 (by decide)
        clear hX0
        refine z_st (st' := [.int (Int32.ofInt r23)]) rfl ?_
        exact z_ireturn dX3_isPlaced_72 rfl (nar01 (b01 (by omega))) (hP _ _ _ hW hX gr23 (by omega))
    · refine z_loc (L' := [(0, .ref (G.1 + a0)), (1, .int (Int32.ofInt l1))]) (List.forall_mem_cons.mpr ⟨rfl, (List.forall_mem_cons.mpr ⟨rfl, (fun _ h => nomatch h)⟩)⟩) ?_
      exact bX3_isPlaced_18 hd hW hX ga0 gl1 (by omega) (by omega)  hP 

