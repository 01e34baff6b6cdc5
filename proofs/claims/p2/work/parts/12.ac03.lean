set_option maxRecDepth 100000 in
set_option maxHeartbeats 4000000 in
theorem eX4_isWord_27 {G : xG} {d : Nat} {Post : xP} {B : Nat × Nat} {τ : Tau} {cs : List va_E} {a0 pa0 : Nat} {l1 : Int} {a2 : Nat} {l3 : Int} {n27 : Nat} (hd : 4 ≤ d) (hW : WT G B τ cs) (ga0 : τ a0 = some (.inl (4, pa0))) (gl1 : rng l1) (ga2 : a2 < xN) (gl3 : rng l3) (i0 : iv 0 29 l1) (i1 : 0 ≤ l3) (i2 : elt cs (fldR cs a0 1 - G.1) l1 = ((xLen.getD a2 0 : Nat) : Int))  (hP : ∀ r : Int, rng r → ((iv 0 1 r)) → Post (some (.int (Int32.ofInt r))) cs)  (ih_27 : ∀ {a0 pa0 : Nat} {l1 : Int} {a2 : Nat} {l3 : Int} (hW : WT G B τ cs) (ga0 : τ a0 = some (.inl (4, pa0))) (gl1 : rng l1) (ga2 : a2 < xN) (gl3 : rng l3) (i0 : iv 0 29 l1) (i1 : 0 ≤ l3) (i2 : elt cs (fldR cs a0 1 - G.1) l1 = ((xLen.getD a2 0 : Nat) : Int)) , (16 - l3).toNat < n27 → Z (RX4, cX4_isWord, 4, some .boolean, false) G d Post 27 [(0, .ref (G.1 + a0)), (1, .int (Int32.ofInt l1)), (2, .ref (G.2.2.2.1 a2)), (3, .int (Int32.ofInt l3))] [] cs) (hm_27 : (16 - l3).toNat < n27 + 1) : Z (RX4, cX4_isWord, 4, some .boolean, false) G d Post 27 [(0, .ref (G.1 + a0)), (1, .int (Int32.ofInt l1)), (2, .ref (G.2.2.2.1 a2)), (3, .int (Int32.ofInt l3))] [] cs := by
  refine z_iload_n dX4_isWord_27 rfl rfl ?_
  refine z_aload_n dX4_isWord_28 rfl rfl ?_
  refine tw_getA hW ga0 (by decide) (by decide) rfl kX4 fX4_15 dX4_isWord_29 (fun b1 qb1 gb1 => ?_)
  refine z_iload_n dX4_isWord_32 rfl rfl ?_
  refine tw_iald hW gb1 (by omega) (by omega) dX4_isWord_33 (fun x2 qx2 vx2 gx2 => ?_)
  rw [show b1 = fldR cs a0 1 - G.1 by omega] at qx2
  refine i_icmp_ge (tgt := 64) dX4_isWord_34 (by decide) gl3 gx2 (fun h3 => ?_) (fun h3 => ?_)
  · refine z_iconst (v := Int32.ofInt 1) dX4_isWord_64 rfl ?_
    exact z_ireturn dX4_isWord_65 rfl (nar01 (b01 ⟨by decide, by decide⟩)) (hP _ (show rng 1 from ⟨by decide, by decide⟩) (by omega))
  · refine z_aload_n dX4_isWord_37 rfl rfl ?_
    refine tw_getA hW ga0 (by decide) (by decide) rfl kX4 fX4_11 dX4_isWord_38 (fun b4 qb4 gb4 => ?_)
    refine z_iload_n dX4_isWord_41 rfl rfl ?_
    refine z_bipush (v := Int32.ofInt 16) dX4_isWord_42 (by decide) ?_
    refine tw_imul dX4_isWord_44 (fun z5 gz5 ez5 => ?_)
    first | have ez5 := ez5 ⟨by omega, by omega⟩ | clear ez5
    refine z_iload_n dX4_isWord_45 rfl rfl ?_
    refine tw_iadd dX4_isWord_46 (fun z6 gz6 ez6 => ?_)
    first | have ez6 := ez6 ⟨by omega, by omega⟩ | clear ez6
    refine tw_cald hW gb4 (by omega) (by omega) dX4_isWord_47 (fun x7 qx7 vx7 gx7 => ?_)
    rw [show b4 = fldR cs a0 0 - G.1 by omega] at qx7
    refine z_aload_n dX4_isWord_48 rfl rfl ?_
    refine z_iload_n dX4_isWord_49 rfl rfl ?_
    have hX0 := kJ0_charAt_5068e 3 (Nat.le_refl _) hW ga2 gl3 (by omega) (by omega)
    refine z_callVS (As := [_]) ga2 eJ0_charAt_5068e sJ0_charAt_5068e lX4_107 rfl dX4_isWord_50 hX0 (Nat.le_trans (by decide) hd) rfl (Nat.le_of_ble_eq_true rfl) (fun r cs1 hp => ?_)
    obtain ⟨hcs, r9, rfl, gr9, _⟩ := hp
    obtain rfl := hcs.symm
    refine z_st (st' := [.int (Int32.ofInt r9), .int (Int32.ofInt x7)]) rfl ?_
    refine i_icmp_eq (tgt := 58) dX4_isWord_53 (by decide) gx7 gr9 (fun h10 => ?_) (fun h10 => ?_)
    · refine tw_iinc (l := l3) dX4_isWord_58 rfl (by decide) (fun z11 gz11 ez11 => ?_)
      first | have ez11 := ez11 ⟨by omega, by omega⟩ | clear ez11
      refine z_loc (L' := [(0, .ref (G.1 + a0)), (1, .int (Int32.ofInt l1)), (2, .ref (G.2.2.2.1 a2)), (3, .int (Int32.ofInt z11))]) (List.forall_mem_cons.mpr ⟨rfl, (List.forall_mem_cons.mpr ⟨rfl, (List.forall_mem_cons.mpr ⟨rfl, (List.forall_mem_cons.mpr ⟨rfl, (fun _ h => nomatch h)⟩)⟩)⟩)⟩) ?_
      refine z_goto (tgt := 27) dX4_isWord_61 (by decide) ?_
      refine z_loc (L' := [(0, .ref (G.1 + a0)), (1, .int (Int32.ofInt l1)), (2, .ref (G.2.2.2.1 a2)), (3, .int (Int32.ofInt z11))]) (List.forall_mem_cons.mpr ⟨rfl, (List.forall_mem_cons.mpr ⟨rfl, (List.forall_mem_cons.mpr ⟨rfl, (List.forall_mem_cons.mpr ⟨rfl, (fun _ h => nomatch h)⟩)⟩)⟩)⟩) ?_
      exact ih_27 hW ga0 gl1 ga2 gz11 (by omega) (by omega) (by omega)  (by omega)
    · refine z_iconst (v := Int32.ofInt 0) dX4_isWord_56 rfl ?_
      exact z_ireturn dX4_isWord_57 rfl (nar01 (b01 ⟨by decide, by decide⟩)) (hP _ (show rng 0 from ⟨by decide, by decide⟩) (by omega))
set_option maxRecDepth 100000 in
set_option maxHeartbeats 4000000 in
theorem bX4_isWord_27 {G : xG} {d : Nat} {Post : xP} {B : Nat × Nat} {τ : Tau} {cs : List va_E} {a0 pa0 : Nat} {l1 : Int} {a2 : Nat} {l3 : Int} (hd : 4 ≤ d) (hW : WT G B τ cs) (ga0 : τ a0 = some (.inl (4, pa0))) (gl1 : rng l1) (ga2 : a2 < xN) (gl3 : rng l3) (i0 : iv 0 29 l1) (i1 : 0 ≤ l3) (i2 : elt cs (fldR cs a0 1 - G.1) l1 = ((xLen.getD a2 0 : Nat) : Int))  (hP : ∀ r : Int, rng r → ((iv 0 1 r)) → Post (some (.int (Int32.ofInt r))) cs)  : Z (RX4, cX4_isWord, 4, some .boolean, false) G d Post 27 [(0, .ref (G.1 + a0)), (1, .int (Int32.ofInt l1)), (2, .ref (G.2.2.2.1 a2)), (3, .int (Int32.ofInt l3))] [] cs := by
  have key : ∀ (n : Nat) (a0 pa0 : Nat) (l1 : Int) (a2 : Nat) (l3 : Int) (hW : WT G B τ cs) (ga0 : τ a0 = some (.inl (4, pa0))) (gl1 : rng l1) (ga2 : a2 < xN) (gl3 : rng l3) (i0 : iv 0 29 l1) (i1 : 0 ≤ l3) (i2 : elt cs (fldR cs a0 1 - G.1) l1 = ((xLen.getD a2 0 : Nat) : Int)) , (16 - l3).toNat < n → Z (RX4, cX4_isWord, 4, some .boolean, false) G d Post 27 [(0, .ref (G.1 + a0)), (1, .int (Int32.ofInt l1)), (2, .ref (G.2.2.2.1 a2)), (3, .int (Int32.ofInt l3))] [] cs := by
    intro n
    induction n with
    | zero => intro a0 pa0 l1 a2 l3 hW ga0 gl1 ga2 gl3 i0 i1 i2 hm; exact absurd hm (Nat.not_lt_zero _)
    | succ n ih =>
      intro a0 pa0 l1 a2 l3 hW ga0 gl1 ga2 gl3 i0 i1 i2 hm
      exact eX4_isWord_27 hd hW ga0 gl1 ga2 gl3 i0 i1 i2 hP  (fun hW ga0 gl1 ga2 gl3 i0 i1 i2 hm => ih _ _ _ _ _ hW ga0 gl1 ga2 gl3 i0 i1 i2 hm) hm
  exact key _ _ _ _ _ _ hW ga0 gl1 ga2 gl3 i0 i1 i2 (Nat.lt_succ_self _)
set_option maxRecDepth 100000 in
set_option maxHeartbeats 4000000 in
theorem kX4_isWord {G : xG} {B : Nat × Nat} {τ : Tau} {cs : List va_E} {a0 pa0 : Nat} {l1 : Int} {a2 : Nat} (d : Nat) (hd : 4 ≤ d) (hW : WT G B τ cs) (ga0 : τ a0 = some (.inl (4, pa0))) (gl1 : rng l1) (ga2 : a2 < xN)  : X G yX4_isWord cX4_isWord 4 (some .boolean) d [.ref (G.1 + a0), .int (Int32.ofInt l1), .ref (G.2.2.2.1 a2)] cs (rI cs (fun r => (iv 0 1 r))) := by
  refine X.of false (by decide +kernel) (by decide) (Nat.le_of_ble_eq_true rfl) ?_
  show Z (RX4, cX4_isWord, 4, some .boolean, false) G d _ 0 [(0, .ref (G.1 + a0)), (1, .int (Int32.ofInt l1)), (2, .ref (G.2.2.2.1 a2))] [] cs
  have hP : ∀ r : Int, rng r → ((iv 0 1 r)) → rI cs (fun r => (iv 0 1 r)) (some (.int (Int32.ofInt r))) cs := fun r h1 h2 => ⟨rfl, r, rfl, h1, h2⟩
  refine z_iload_n dX4_isWord_0 rfl rfl ?_
  refine i_if_lt (tgt := 23) dX4_isWord_1 (by decide) gl1 (fun h1 => ?_) (fun h1 => ?_)
  · refine z_iconst (v := Int32.ofInt 0) dX4_isWord_23 rfl ?_
    exact z_ireturn dX4_isWord_24 rfl (nar01 (b01 ⟨by decide, by decide⟩)) (hP _ (show rng 0 from ⟨by decide, by decide⟩) (by omega))
  · refine z_iload_n dX4_isWord_4 rfl rfl ?_
    refine z_bipush (v := Int32.ofInt 30) dX4_isWord_5 (by decide) ?_
    refine i_icmp_ge (tgt := 23) dX4_isWord_7 (by decide) gl1 (show rng 30 from ⟨by decide, by decide⟩) (fun h2 => ?_) (fun h2 => ?_)
    · refine z_iconst (v := Int32.ofInt 0) dX4_isWord_23 rfl ?_
      exact z_ireturn dX4_isWord_24 rfl (nar01 (b01 ⟨by decide, by decide⟩)) (hP _ (show rng 0 from ⟨by decide, by decide⟩) (by omega))
    · refine z_aload_n dX4_isWord_10 rfl rfl ?_
      refine tw_getA hW ga0 (by decide) (by decide) rfl kX4 fX4_15 dX4_isWord_11 (fun b3 qb3 gb3 => ?_)
      refine z_iload_n dX4_isWord_14 rfl rfl ?_
      refine tw_iald hW gb3 (by omega) (by omega) dX4_isWord_15 (fun x4 qx4 vx4 gx4 => ?_)
      rw [show b3 = fldR cs a0 1 - G.1 by omega] at qx4
      refine z_aload_n dX4_isWord_16 rfl rfl ?_
      have hX0 := kJ0_length_8abf5 1 (Nat.le_refl _) hW ga2 
      refine z_callVS (As := []) ga2 eJ0_length_8abf5 sJ0_length_8abf5 lX4_101 rfl dX4_isWord_17 hX0 (Nat.le_trans (by decide) hd) rfl (Nat.le_of_ble_eq_true rfl) (fun r cs1 hp => ?_)
      obtain ⟨hcs, r6, rfl, gr6, ⟨n5_0, n5_1⟩⟩ := hp
      obtain rfl := hcs.symm
      refine z_st (st' := [.int (Int32.ofInt r6), .int (Int32.ofInt x4)]) rfl ?_
      refine i_icmp_eq (tgt := 25) dX4_isWord_20 (by decide) gx4 gr6 (fun h7 => ?_) (fun h7 => ?_)
      · refine z_iconst (v := Int32.ofInt 0) dX4_isWord_25 rfl ?_
        refine z_istore_n dX4_isWord_26 rfl (by decide) ?_
        refine z_loc (L' := [(0, .ref (G.1 + a0)), (1, .int (Int32.ofInt l1)), (2, .ref (G.2.2.2.1 a2)), (3, .int (Int32.ofInt 0))]) (List.forall_mem_cons.mpr ⟨rfl, (List.forall_mem_cons.mpr ⟨rfl, (List.forall_mem_cons.mpr ⟨rfl, (List.forall_mem_cons.mpr ⟨rfl, (fun _ h => nomatch h)⟩)⟩)⟩)⟩) ?_
        refine z_loc (L' := [(0, .ref (G.1 + a0)), (1, .int (Int32.ofInt l1)), (2, .ref (G.2.2.2.1 a2)), (3, .int (Int32.ofInt 0))]) (List.forall_mem_cons.mpr ⟨rfl, (List.forall_mem_cons.mpr ⟨rfl, (List.forall_mem_cons.mpr ⟨rfl, (List.forall_mem_cons.mpr ⟨rfl, (fun _ h => nomatch h)⟩)⟩)⟩)⟩) ?_
        exact bX4_isWord_27 hd hW ga0 gl1 ga2 (show rng 0 from ⟨by decide, by decide⟩) (by omega) (by omega) (by omega)  hP 
      · refine z_iconst (v := Int32.ofInt 0) dX4_isWord_23 rfl ?_
        exact z_ireturn dX4_isWord_24 rfl (nar01 (b01 ⟨by decide, by decide⟩)) (hP _ (show rng 0 from ⟨by decide, by decide⟩) (by omega))

set_option maxRecDepth 100000 in
set_option maxHeartbeats 4000000 in
theorem kX4_isFieldNameFree {G : xG} {B : Nat × Nat} {τ : Tau} {cs : List va_E} {a0 pa0 : Nat} {l1 : Int} {l2 : Int} (d : Nat) (hd : 5 ≤ d) (hW : WT G B τ cs) (ga0 : τ a0 = some (.inl (4, pa0))) (gl1 : rng l1) (gl2 : rng l2) (p0 : iv 0 5 l1) : X G yX4_isFieldNameFree cX4_isFieldNameFree 4 (some .boolean) d [.ref (G.1 + a0), .int (Int32.ofInt l1), .int (Int32.ofInt l2)] cs (rI cs (fun r => (iv 0 1 r))) := by
  refine X.of false (by decide +kernel) (by decide) (Nat.le_of_ble_eq_true rfl) ?_
  show Z (RX4, cX4_isFieldNameFree, 4, some .boolean, false) G d _ 0 [(0, .ref (G.1 + a0)), (1, .int (Int32.ofInt l1)), (2, .int (Int32.ofInt l2))] [] cs
  have hP : ∀ r : Int, rng r → ((iv 0 1 r)) → rI cs (fun r => (iv 0 1 r)) (some (.int (Int32.ofInt r))) cs := fun r h1 h2 => ⟨rfl, r, rfl, h1, h2⟩
  refine z_iload_n dX4_isFieldNameFree_0 rfl rfl ?_
  refine z_iload_n dX4_isFieldNameFree_1 rfl rfl ?_
  have hX0 := kX4_fieldName 0 (Nat.le_refl _) hW gl1 gl2 
  refine z_callS (As := [_, _]) eX4_fieldName sX4_fieldName lX4_58 dX4_isFieldNameFree_2 hX0 (Nat.le_trans (by decide) hd) rfl (Nat.le_of_ble_eq_true rfl) (fun r cs1 hp => ?_)
  obtain ⟨hcs, r2, rfl, gr2, n1_0⟩ := hp
  obtain rfl := hcs.symm
  refine z_st (st' := [.int (Int32.ofInt r2)]) rfl ?_
  refine z_istore_n dX4_isFieldNameFree_5 rfl (by decide) ?_
  refine z_loc (L' := [(0, .ref (G.1 + a0)), (1, .int (Int32.ofInt l1)), (2, .int (Int32.ofInt l2)), (3, .int (Int32.ofInt r2))]) (List.forall_mem_cons.mpr ⟨rfl, (List.forall_mem_cons.mpr ⟨rfl, (List.forall_mem_cons.mpr ⟨rfl, (List.forall_mem_cons.mpr ⟨rfl, (fun _ h => nomatch h)⟩)⟩)⟩)⟩) ?_
  refine z_aload_n dX4_isFieldNameFree_6 rfl rfl ?_
  refine z_iload_n dX4_isFieldNameFree_7 rfl rfl ?_
  refine z_ldcS (i := 0) (tx := "class") (by decide +kernel) dX4_isFieldNameFree_8 ?_
  have hX0 := kX4_isWord 4 (Nat.le_refl _) hW ga0 gr2 (show 0 < xN by decide) 
  refine z_callV (As := [_, _]) eX4_isWord sX4_isWord lX4_92 rfl dX4_isFieldNameFree_10 (hW.ob ga0 (by decide)).choose_spec hX0 (Nat.le_trans (by decide) hd) rfl (Nat.le_of_ble_eq_true rfl) (fun r cs1 hp => ?_)
  obtain ⟨hcs, r4, rfl, gr4, n3_0⟩ := hp
  obtain rfl := hcs.symm
  refine z_st (st' := [.int (Int32.ofInt r4)]) rfl ?_
  refine i_if_ne (tgt := 26) dX4_isFieldNameFree_13 (by decide) gr4 (fun h5 => ?_) (fun h5 => ?_)
  · refine z_iconst (v := Int32.ofInt 0) dX4_isFieldNameFree_26 rfl ?_
    exact z_ireturn dX4_isFieldNameFree_27 rfl (nar01 (b01 ⟨by decide, by decide⟩)) (hP _ (show rng 0 from ⟨by decide, by decide⟩) (by omega))
  · refine z_aload_n dX4_isFieldNameFree_16 rfl rfl ?_
    refine z_iload_n dX4_isFieldNameFree_17 rfl rfl ?_
    refine z_ldcS (i := 1) (tx := "id") (by decide +kernel) dX4_isFieldNameFree_18 ?_
    have hX0 := kX4_isWord 4 (Nat.le_refl _) hW ga0 gr2 (show 1 < xN by decide) 
    refine z_callV (As := [_, _]) eX4_isWord sX4_isWord lX4_92 rfl dX4_isFieldNameFree_20 (hW.ob ga0 (by decide)).choose_spec hX0 (Nat.le_trans (by decide) hd) rfl (Nat.le_of_ble_eq_true rfl) (fun r cs1 hp => ?_)
    obtain ⟨hcs, r7, rfl, gr7, n6_0⟩ := hp
    obtain rfl := hcs.symm
    refine z_st (st' := [.int (Int32.ofInt r7)]) rfl ?_
    refine i_if_eq (tgt := 28) dX4_isFieldNameFree_23 (by decide) gr7 (fun h8 => ?_) (fun h8 => ?_)
    · refine z_aload_n dX4_isFieldNameFree_28 rfl rfl ?_
      refine z_iload_n dX4_isFieldNameFree_29 rfl rfl ?_
      refine z_iload_n dX4_isFieldNameFree_30 rfl rfl ?_
      refine z_iconst (v := Int32.ofInt 0) dX4_isFieldNameFree_31 rfl ?_
      have hX0 := kX4_fieldName 0 (Nat.le_refl _) hW gl1 (show rng 0 from ⟨by decide, by decide⟩) 
      refine z_callS (As := [_, _]) eX4_fieldName sX4_fieldName lX4_58 dX4_isFieldNameFree_32 hX0 (Nat.le_trans (by decide) hd) rfl (Nat.le_of_ble_eq_true rfl) (fun r cs1 hp => ?_)
      obtain ⟨hcs, r10, rfl, gr10, n9_0⟩ := hp
      obtain rfl := hcs.symm
      refine z_st (st' := [.int (Int32.ofInt r10), .int (Int32.ofInt r2), .ref (G.1 + a0)]) rfl ?_
      refine z_iload_n dX4_isFieldNameFree_35 rfl rfl ?_
      have hX0 := kX4_hasTwin 1 (Nat.le_refl _) hW ga0 gr2 gr10 gr2 
      refine z_callV (As := [_, _, _]) eX4_hasTwin sX4_hasTwin lX4_83 rfl dX4_isFieldNameFree_36 (hW.ob ga0 (by decide)).choose_spec hX0 (Nat.le_trans (by decide) hd) rfl (Nat.le_of_ble_eq_true rfl) (fun r cs1 hp => ?_)
      obtain ⟨hcs, r12, rfl, gr12, n11_0⟩ := hp
      obtain rfl := hcs.symm
      refine z_st (st' := [.int (Int32.ofInt r12)]) rfl ?_
      refine i_if_eq (tgt := 44) dX4_isFieldNameFree_39 (by decide) gr12 (fun h13 => ?_) (fun h13 => ?_)
      · refine z_aload_n dX4_isFieldNameFree_44 rfl rfl ?_
        refine tw_getA hW ga0 (by decide) (by decide) rfl kX4 fX4_29 dX4_isFieldNameFree_45 (fun b14 _ gb14 => ?_)
        refine z_iload_n dX4_isFieldNameFree_48 rfl rfl ?_
        refine tw_iald hW gb14 (by omega) (by omega) dX4_isFieldNameFree_49 (fun x15 _ vx15 gx15 => ?_)
        refine z_iconst (v := Int32.ofInt (-1)) dX4_isFieldNameFree_50 rfl ?_
        refine i_icmp_eq (tgt := 67) dX4_isFieldNameFree_51 (by decide) gx15 (show rng (-1) from ⟨by decide, by decide⟩) (fun h16 => ?_) (fun h16 => ?_)
        · refine z_iconst (v := Int32.ofInt 1) dX4_isFieldNameFree_67 rfl ?_
          refine z_goto (tgt := 72) dX4_isFieldNameFree_68 (by decide) ?_
          exact z_ireturn dX4_isFieldNameFree_72 rfl (nar01 (b01 ⟨by decide, by decide⟩)) (hP _ (show rng 1 from ⟨by decide, by decide⟩) (by omega))
        · refine z_aload_n dX4_isFieldNameFree_54 rfl rfl ?_
          refine z_iload_n dX4_isFieldNameFree_55 rfl rfl ?_
          refine z_iconst (v := Int32.ofInt 0) dX4_isFieldNameFree_56 rfl ?_
          refine z_aload_n dX4_isFieldNameFree_57 rfl rfl ?_
          refine tw_getI hW ga0 (by decide) (by decide) rfl kX4 fX4_38 dX4_isFieldNameFree_58 (fun x17 _ vx17 gx17 => ?_)
          have hX0 := kX4_hasTwin 1 (Nat.le_refl _) hW ga0 gr2 (show rng 0 from ⟨by decide, by decide⟩) gx17 
          refine z_callV (As := [_, _, _]) eX4_hasTwin sX4_hasTwin lX4_83 rfl dX4_isFieldNameFree_61 (hW.ob ga0 (by decide)).choose_spec hX0 (Nat.le_trans (by decide) hd) rfl (Nat.le_of_ble_eq_true rfl) (fun r cs1 hp => ?_)
          obtain ⟨hcs, r19, rfl, gr19, n18_0⟩ := hp
          obtain rfl := hcs.symm
          refine z_st (st' := [.int (Int32.ofInt r19)]) rfl ?_
          refine i_if_ne (tgt := 71) dX4_isFieldNameFree_64 (by decide) gr19 (fun h20 => ?_) (fun h20 => ?_)
          · refine z_iconst (v := Int32.ofInt 0) dX4_isFieldNameFree_71 rfl ?_
            exact z_ireturn dX4_isFieldNameFree_72 rfl (nar01 (b01 ⟨by decide, by decide⟩)) (hP _ (show rng 0 from ⟨by decide, by decide⟩) (by omega))
          · refine z_iconst (v := Int32.ofInt 1) dX4_isFieldNameFree_67 rfl ?_
            refine z_goto (tgt := 72) dX4_isFieldNameFree_68 (by decide) ?_
            exact z_ireturn dX4_isFieldNameFree_72 rfl (nar01 (b01 ⟨by decide, by decide⟩)) (hP _ (show rng 1 from ⟨by decide, by decide⟩) (by omega))
      · refine z_iconst (v := Int32.ofInt 0) dX4_isFieldNameFree_42 rfl ?_
        exact z_ireturn dX4_isFieldNameFree_43 rfl (nar01 (b01 ⟨by decide, by decide⟩)) (hP _ (show rng 0 from ⟨by decide, by decide⟩) (by omega))
    · refine z_iconst (v := Int32.ofInt 0) dX4_isFieldNameFree_26 rfl ?_
      exact z_ireturn dX4_isFieldNameFree_27 rfl (nar01 (b01 ⟨by decide, by decide⟩)) (hP _ (show rng 0 from ⟨by decide, by decide⟩) (by omega))

set_option maxRecDepth 100000 in
set_option maxHeartbeats 4000000 in
theorem eX4_obeysNameRules_24 {G : xG} {d : Nat} {Post : xP} {B : Nat × Nat} {τ : Tau} {cs : List va_E} {a0 pa0 : Nat} {l1 : Int} {l2 : Int} {n2 : Nat} {n24 : Nat} (hd : 6 ≤ d) (hW : WT G B τ cs) (ga0 : τ a0 = some (.inl (4, pa0))) (gl1 : rng l1) (gl2 : rng l2) (i0 : iv 0 5 l1) (i1 : 1 ≤ 6 - l1) (i2 : 0 ≤ l1) (hm_2 : (6 - l1).toNat < n2 + 1) (hP : ∀ r : Int, rng r → ((iv 0 1 r)) → Post (some (.int (Int32.ofInt r))) cs) (ih_2 : ∀ {a0 pa0 : Nat} {l1 : Int} (hW : WT G B τ cs) (ga0 : τ a0 = some (.inl (4, pa0))) (gl1 : rng l1) (i0 : 0 ≤ l1) , (6 - l1).toNat < n2 → Z (RX4, cX4_obeysNameRules, 3, some .boolean, false) G d Post 2 [(0, .ref (G.1 + a0)), (1, .int (Int32.ofInt l1))] [] cs) (ih_24 : ∀ {a0 pa0 : Nat} {l1 : Int} {l2 : Int} (hW : WT G B τ cs) (ga0 : τ a0 = some (.inl (4, pa0))) (gl1 : rng l1) (gl2 : rng l2) (i0 : iv 0 5 l1) (i1 : 1 ≤ 6 - l1) (i2 : 0 ≤ l1) (hm_2 : (6 - l1).toNat < n2 + 1), (4 - l2).toNat < n24 → Z (RX4, cX4_obeysNameRules, 3, some .boolean, false) G d Post 24 [(0, .ref (G.1 + a0)), (1, .int (Int32.ofInt l1)), (2, .int (Int32.ofInt l2))] [] cs) (hm_24 : (4 - l2).toNat < n24 + 1) : Z (RX4, cX4_obeysNameRules, 3, some .boolean, false) G d Post 24 [(0, .ref (G.1 + a0)), (1, .int (Int32.ofInt l1)), (2, .int (Int32.ofInt l2))] [] cs := by
  refine z_iload_n dX4_obeysNameRules_24 rfl rfl ?_
  refine z_aload_n dX4_obeysNameRules_25 rfl rfl ?_
  refine tw_getA hW ga0 (by decide) (by decide) rfl kX4 fX4_26 dX4_obeysNameRules_26 (fun b1 _ gb1 => ?_)
  refine z_iload_n dX4_obeysNameRules_29 rfl rfl ?_
  refine tw_iald hW gb1 (by omega) (by omega) dX4_obeysNameRules_30 (fun x2 _ vx2 gx2 => ?_)
  refine i_icmp_ge (tgt := 51) dX4_obeysNameRules_31 (by decide) gl2 gx2 (fun h3 => ?_) (fun h3 => ?_)
  · refine tw_iinc (l := l1) dX4_obeysNameRules_51 rfl (by decide) (fun z4 gz4 ez4 => ?_)
    first | have ez4 := ez4 ⟨by omega, by omega⟩ | clear ez4
    refine z_loc (L' := [(0, .ref (G.1 + a0)), (1, .int (Int32.ofInt z4)), (2, .int (Int32.ofInt l2))]) (List.forall_mem_cons.mpr ⟨rfl, (List.forall_mem_cons.mpr ⟨rfl, (List.forall_mem_cons.mpr ⟨rfl, (fun _ h => nomatch h)⟩)⟩)⟩) ?_
    refine z_goto (tgt := 2) dX4_obeysNameRules_54 (by decide) ?_
    refine z_loc (L' := [(0, .ref (G.1 + a0)), (1, .int (Int32.ofInt z4))]) (List.forall_mem_cons.mpr ⟨rfl, (List.forall_mem_cons.mpr ⟨rfl, (fun _ h => nomatch h)⟩)⟩) ?_
    exact ih_2 hW ga0 gz4 (by omega)  (by omega)
  · refine z_aload_n dX4_obeysNameRules_34 rfl rfl ?_
    refine z_iload_n dX4_obeysNameRules_35 rfl rfl ?_
    refine z_iload_n dX4_obeysNameRules_36 rfl rfl ?_
    have hX0 := kX4_isFieldNameFree 5 (Nat.le_refl _) hW ga0 gl1 gl2 (by omega)
    refine z_callV (As := [_, _]) eX4_isFieldNameFree sX4_isFieldNameFree lX4_87 rfl dX4_obeysNameRules_37 (hW.ob ga0 (by decide)).choose_spec hX0 (Nat.le_trans (by decide) hd) rfl (Nat.le_of_ble_eq_true rfl) (fun r cs1 hp => ?_)
    obtain ⟨hcs, r6, rfl, gr6, n5_0⟩ := hp
    obtain rfl := hcs.symm
    refine z_st (st' := [.int (Int32.ofInt r6)]) rfl ?_
    refine i_if_ne (tgt := 45) dX4_obeysNameRules_40 (by decide) gr6 (fun h7 => ?_) (fun h7 => ?_)
    · refine tw_iinc (l := l2) dX4_obeysNameRules_45 rfl (by decide) (fun z8 gz8 ez8 => ?_)
      first | have ez8 := ez8 ⟨by omega, by omega⟩ | clear ez8
      refine z_loc (L' := [(0, .ref (G.1 + a0)), (1, .int (Int32.ofInt l1)), (2, .int (Int32.ofInt z8))]) (List.forall_mem_cons.mpr ⟨rfl, (List.forall_mem_cons.mpr ⟨rfl, (List.forall_mem_cons.mpr ⟨rfl, (fun _ h => nomatch h)⟩)⟩)⟩) ?_
      refine z_goto (tgt := 24) dX4_obeysNameRules_48 (by decide) ?_
      refine z_loc (L' := [(0, .ref (G.1 + a0)), (1, .int (Int32.ofInt l1)), (2, .int (Int32.ofInt z8))]) (List.forall_mem_cons.mpr ⟨rfl, (List.forall_mem_cons.mpr ⟨rfl, (List.forall_mem_cons.mpr ⟨rfl, (fun _ h => nomatch h)⟩)⟩)⟩) ?_
      exact ih_24 hW ga0 gl1 gz8 (by omega) (by omega) (by omega) (by omega) (by omega)
    · refine z_iconst (v := Int32.ofInt 0) dX4_obeysNameRules_43 rfl ?_
      exact z_ireturn dX4_obeysNameRules_44 rfl (nar01 (b01 ⟨by decide, by decide⟩)) (hP _ (show rng 0 from ⟨by decide, by decide⟩) (by omega))
set_option maxRecDepth 100000 in
set_option maxHeartbeats 4000000 in
theorem bX4_obeysNameRules_24 {G : xG} {d : Nat} {Post : xP} {B : Nat × Nat} {τ : Tau} {cs : List va_E} {a0 pa0 : Nat} {l1 : Int} {l2 : Int} {n2 : Nat} (hd : 6 ≤ d) (hW : WT G B τ cs) (ga0 : τ a0 = some (.inl (4, pa0))) (gl1 : rng l1) (gl2 : rng l2) (i0 : iv 0 5 l1) (i1 : 1 ≤ 6 - l1) (i2 : 0 ≤ l1) (hm_2 : (6 - l1).toNat < n2 + 1) (hP : ∀ r : Int, rng r → ((iv 0 1 r)) → Post (some (.int (Int32.ofInt r))) cs) (ih_2 : ∀ {a0 pa0 : Nat} {l1 : Int} (hW : WT G B τ cs) (ga0 : τ a0 = some (.inl (4, pa0))) (gl1 : rng l1) (i0 : 0 ≤ l1) , (6 - l1).toNat < n2 → Z (RX4, cX4_obeysNameRules, 3, some .boolean, false) G d Post 2 [(0, .ref (G.1 + a0)), (1, .int (Int32.ofInt l1))] [] cs) : Z (RX4, cX4_obeysNameRules, 3, some .boolean, false) G d Post 24 [(0, .ref (G.1 + a0)), (1, .int (Int32.ofInt l1)), (2, .int (Int32.ofInt l2))] [] cs := by
  have key : ∀ (n : Nat) (a0 pa0 : Nat) (l1 : Int) (l2 : Int) (hW : WT G B τ cs) (ga0 : τ a0 = some (.inl (4, pa0))) (gl1 : rng l1) (gl2 : rng l2) (i0 : iv 0 5 l1) (i1 : 1 ≤ 6 - l1) (i2 : 0 ≤ l1) (hm_2 : (6 - l1).toNat < n2 + 1), (4 - l2).toNat < n → Z (RX4, cX4_obeysNameRules, 3, some .boolean, false) G d Post 24 [(0, .ref (G.1 + a0)), (1, .int (Int32.ofInt l1)), (2, .int (Int32.ofInt l2))] [] cs := by
    intro n
    induction n with
    | zero => intro a0 pa0 l1 l2 hW ga0 gl1 gl2 i0 i1 i2 hm_2 hm; exact absurd hm (Nat.not_lt_zero _)
    | succ n ih =>
      intro a0 pa0 l1 l2 hW ga0 gl1 gl2 i0 i1 i2 hm_2 hm
      exact eX4_obeysNameRules_24 hd hW ga0 gl1 gl2 i0 i1 i2 hm_2 hP ih_2 (fun hW ga0 gl1 gl2 i0 i1 i2 hm_2 hm => ih _ _ _ _ hW ga0 gl1 gl2 i0 i1 i2 hm_2 hm) hm
  exact key _ _ _ _ _ hW ga0 gl1 gl2 i0 i1 i2 hm_2 (Nat.lt_succ_self _)
set_option maxRecDepth 100000 in
set_option maxHeartbeats 4000000 in
theorem eX4_obeysNameRules_2 {G : xG} {d : Nat} {Post : xP} {B : Nat × Nat} {τ : Tau} {cs : List va_E} {a0 pa0 : Nat} {l1 : Int} {n2 : Nat} (hd : 6 ≤ d) (hW : WT G B τ cs) (ga0 : τ a0 = some (.inl (4, pa0))) (gl1 : rng l1) (i0 : 0 ≤ l1)  (hP : ∀ r : Int, rng r → ((iv 0 1 r)) → Post (some (.int (Int32.ofInt r))) cs)  (ih_2 : ∀ {a0 pa0 : Nat} {l1 : Int} (hW : WT G B τ cs) (ga0 : τ a0 = some (.inl (4, pa0))) (gl1 : rng l1) (i0 : 0 ≤ l1) , (6 - l1).toNat < n2 → Z (RX4, cX4_obeysNameRules, 3, some .boolean, false) G d Post 2 [(0, .ref (G.1 + a0)), (1, .int (Int32.ofInt l1))] [] cs) (hm_2 : (6 - l1).toNat < n2 + 1) : Z (RX4, cX4_obeysNameRules, 3, some .boolean, false) G d Post 2 [(0, .ref (G.1 + a0)), (1, .int (Int32.ofInt l1))] [] cs := by
  refine z_iload_n dX4_obeysNameRules_2 rfl rfl ?_
  refine z_aload_n dX4_obeysNameRules_3 rfl rfl ?_
  refine tw_getI hW ga0 (by decide) (by decide) rfl kX4 fX4_38 dX4_obeysNameRules_4 (fun x1 _ vx1 gx1 => ?_)
  refine i_icmp_ge (tgt := 57) dX4_obeysNameRules_7 (by decide) gl1 gx1 (fun h2 => ?_) (fun h2 => ?_)
  · refine z_iconst (v := Int32.ofInt 1) dX4_obeysNameRules_57 rfl ?_
    exact z_ireturn dX4_obeysNameRules_58 rfl (nar01 (b01 ⟨by decide, by decide⟩)) (hP _ (show rng 1 from ⟨by decide, by decide⟩) (by omega))
  · refine z_aload_n dX4_obeysNameRules_10 rfl rfl ?_
    refine z_iload_n dX4_obeysNameRules_11 rfl rfl ?_
    refine z_iconst (v := Int32.ofInt 0) dX4_obeysNameRules_12 rfl ?_
    refine z_iload_n dX4_obeysNameRules_13 rfl rfl ?_
    have hX0 := kX4_hasTwin 1 (Nat.le_refl _) hW ga0 gl1 (show rng 0 from ⟨by decide, by decide⟩) gl1 
    refine z_callV (As := [_, _, _]) eX4_hasTwin sX4_hasTwin lX4_83 rfl dX4_obeysNameRules_14 (hW.ob ga0 (by decide)).choose_spec hX0 (Nat.le_trans (by decide) hd) rfl (Nat.le_of_ble_eq_true rfl) (fun r cs1 hp => ?_)
    obtain ⟨hcs, r4, rfl, gr4, n3_0⟩ := hp
    obtain rfl := hcs.symm
    refine z_st (st' := [.int (Int32.ofInt r4)]) rfl ?_
    refine i_if_eq (tgt := 22) dX4_obeysNameRules_17 (by decide) gr4 (fun h5 => ?_) (fun h5 => ?_)
    · refine z_iconst (v := Int32.ofInt 0) dX4_obeysNameRules_22 rfl ?_
      refine z_istore_n dX4_obeysNameRules_23 rfl (by decide) ?_
      refine z_loc (L' := [(0, .ref (G.1 + a0)), (1, .int (Int32.ofInt l1)), (2, .int (Int32.ofInt 0))]) (List.forall_mem_cons.mpr ⟨rfl, (List.forall_mem_cons.mpr ⟨rfl, (List.forall_mem_cons.mpr ⟨rfl, (fun _ h => nomatch h)⟩)⟩)⟩) ?_
      refine z_loc (L' := [(0, .ref (G.1 + a0)), (1, .int (Int32.ofInt l1)), (2, .int (Int32.ofInt 0))]) (List.forall_mem_cons.mpr ⟨rfl, (List.forall_mem_cons.mpr ⟨rfl, (List.forall_mem_cons.mpr ⟨rfl, (fun _ h => nomatch h)⟩)⟩)⟩) ?_
      exact bX4_obeysNameRules_24 hd hW ga0 gl1 (show rng 0 from ⟨by decide, by decide⟩) (by omega) (by omega) (by omega) (by omega) hP ih_2
    · refine z_iconst (v := Int32.ofInt 0) dX4_obeysNameRules_20 rfl ?_
      exact z_ireturn dX4_obeysNameRules_21 rfl (nar01 (b01 ⟨by decide, by decide⟩)) (hP _ (show rng 0 from ⟨by decide, by decide⟩) (by omega))
set_option maxRecDepth 100000 in
set_option maxHeartbeats 4000000 in
theorem bX4_obeysNameRules_2 {G : xG} {d : Nat} {Post : xP} {B : Nat × Nat} {τ : Tau} {cs : List va_E} {a0 pa0 : Nat} {l1 : Int} (hd : 6 ≤ d) (hW : WT G B τ cs) (ga0 : τ a0 = some (.inl (4, pa0))) (gl1 : rng l1) (i0 : 0 ≤ l1)  (hP : ∀ r : Int, rng r → ((iv 0 1 r)) → Post (some (.int (Int32.ofInt r))) cs)  : Z (RX4, cX4_obeysNameRules, 3, some .boolean, false) G d Post 2 [(0, .ref (G.1 + a0)), (1, .int (Int32.ofInt l1))] [] cs := by
  have key : ∀ (n : Nat) (a0 pa0 : Nat) (l1 : Int) (hW : WT G B τ cs) (ga0 : τ a0 = some (.inl (4, pa0))) (gl1 : rng l1) (i0 : 0 ≤ l1) , (6 - l1).toNat < n → Z (RX4, cX4_obeysNameRules, 3, some .boolean, false) G d Post 2 [(0, .ref (G.1 + a0)), (1, .int (Int32.ofInt l1))] [] cs := by
    intro n
    induction n with
    | zero => intro a0 pa0 l1 hW ga0 gl1 i0 hm; exact absurd hm (Nat.not_lt_zero _)
    | succ n ih =>
      intro a0 pa0 l1 hW ga0 gl1 i0 hm
      exact eX4_obeysNameRules_2 hd hW ga0 gl1 i0 hP  (fun hW ga0 gl1 i0 hm => ih _ _ _ hW ga0 gl1 i0 hm) hm
  exact key _ _ _ _ hW ga0 gl1 i0 (Nat.lt_succ_self _)
set_option maxRecDepth 100000 in
set_option maxHeartbeats 4000000 in
theorem kX4_obeysNameRules {G : xG} {B : Nat × Nat} {τ : Tau} {cs : List va_E} {a0 pa0 : Nat} (d : Nat) (hd : 6 ≤ d) (hW : WT G B τ cs) (ga0 : τ a0 = some (.inl (4, pa0)))  : X G yX4_obeysNameRules cX4_obeysNameRules 3 (some .boolean) d [.ref (G.1 + a0)] cs (rI cs (fun r => (iv 0 1 r))) := by
  refine X.of false (by decide +kernel) (by decide) (Nat.le_of_ble_eq_true rfl) ?_
  show Z (RX4, cX4_obeysNameRules, 3, some .boolean, false) G d _ 0 [(0, .ref (G.1 + a0))] [] cs
  have hP : ∀ r : Int, rng r → ((iv 0 1 r)) → rI cs (fun r => (iv 0 1 r)) (some (.int (Int32.ofInt r))) cs := fun r h1 h2 => ⟨rfl, r, rfl, h1, h2⟩
  refine z_iconst (v := Int32.ofInt 0) dX4_obeysNameRules_0 rfl ?_
  refine z_istore_n dX4_obeysNameRules_1 rfl (by decide) ?_
  refine z_loc (L' := [(0, .ref (G.1 + a0)), (1, .int (Int32.ofInt 0))]) (List.forall_mem_cons.mpr ⟨rfl, (List.forall_mem_cons.mpr ⟨rfl, (fun _ h => nomatch h)⟩)⟩) ?_
  refine z_loc (L' := [(0, .ref (G.1 + a0)), (1, .int (Int32.ofInt 0))]) (List.forall_mem_cons.mpr ⟨rfl, (List.forall_mem_cons.mpr ⟨rfl, (fun _ h => nomatch h)⟩)⟩) ?_
  exact bX4_obeysNameRules_2 hd hW ga0 (show rng 0 from ⟨by decide, by decide⟩) (by omega)  hP 

set_option maxRecDepth 100000 in
set_option maxHeartbeats 4000000 in
theorem bX0_firstWrong_63 {G : xG} {d : Nat} {Post : xP} {B : Nat × Nat} {τ0 τ : Tau} {c0 cs : List va_E} {a0 pa0 : Nat} (hd : 7 ≤ d) (hW : WT G B τ cs) (hX : Fx [0, 4] τ0 c0 τ cs) (ga0 : τ a0 = some (.inl (0, pa0)))   (hP : ∀ (τ1 : Tau) (c1 : List va_E) (r : Int), WT G B τ1 c1 → Fx [0, 4] τ0 c0 τ1 c1 → rng r → (True) → Post (some (.int (Int32.ofInt r))) c1)  : Z (RX0, cX0_firstWrong, 3, some .int, false) G d Post 63 [(0, .ref (G.1 + a0))] [] cs := by
  refine z_aload_n dX0_firstWrong_63 rfl rfl ?_
  refine tw_getI hW ga0 (by decide) (by decide) rfl kX0 fX0_9 dX0_firstWrong_64 (fun x1 _ vx1 gx1 => ?_)
  refine z_aload_n dX0_firstWrong_67 rfl rfl ?_
  refine tw_getO hW ga0 (by decide) (by decide) rfl kX0 fX0_15 dX0_firstWrong_68 (fun b2 pb2 gb2 => ?_)
  have gb2 : oT τ b2 5 := ⟨_, gb2⟩
  have hX0 := kX5_length 0 (Nat.le_refl _) hW gb2 
  refine z_callV (As := []) eX5_length sX5_length lX0_35 rfl dX0_firstWrong_71 (hW.os gb2).choose_spec hX0 (Nat.le_trans (by decide) hd) rfl (Nat.le_of_ble_eq_true rfl) (fun r cs1 hp => ?_)
  obtain ⟨hcs, r4, rfl, gr4, n3_0⟩ := hp
  obtain rfl := hcs.symm
  refine z_st (st' := [.int (Int32.ofInt r4), .int (Int32.ofInt x1)]) rfl ?_
  refine i_icmp_ge (tgt := 82) dX0_firstWrong_74 (by decide) gx1 gr4 (fun h5 => ?_) (fun h5 => ?_)
  · refine z_aload_n dX0_firstWrong_82 rfl rfl ?_
    refine tw_getO hW ga0 (by decide) (by decide) rfl kX0 fX0_19 dX0_firstWrong_83 (fun b6 pb6 gb6 => ?_)
    have hX0 := kX4_obeysNameRules 6 (Nat.le_refl _) hW gb6 
    refine z_callV (As := []) eX4_obeysNameRules sX4_obeysNameRules lX0_41 rfl dX0_firstWrong_86 (hW.ob gb6 (by decide)).choose_spec hX0 (Nat.le_trans (by decide) hd) rfl (Nat.le_of_ble_eq_true rfl) (fun r cs1 hp => ?_)
    obtain ⟨hcs, r8, rfl, gr8, n7_0⟩ := hp
    obtain rfl := hcs.symm
    refine z_st (st' := [.int (Int32.ofInt r8)]) rfl ?_
    refine i_if_eq (tgt := 96) dX0_firstWrong_89 (by decide) gr8 (fun h9 => ?_) (fun h9 => ?_)
    · refine z_aload_n dX0_firstWrong_96 rfl rfl ?_
      refine tw_getI hW ga0 (by decide) (by decide) rfl kX0 fX0_9 dX0_firstWrong_97 (fun x10 _ vx10 gx10 => ?_)
      exact z_ireturn dX0_firstWrong_100 rfl rfl (hP _ _ _ hW hX gx10 trivial)
    · refine z_iconst (v := Int32.ofInt (-1)) dX0_firstWrong_92 rfl ?_
      refine z_goto (tgt := 100) dX0_firstWrong_93 (by decide) ?_
      exact z_ireturn dX0_firstWrong_100 rfl rfl (hP _ _ _ hW hX (show rng (-1) from ⟨by decide, by decide⟩) trivial)
  · refine z_aload_n dX0_firstWrong_77 rfl rfl ?_
    refine tw_getI hW ga0 (by decide) (by decide) rfl kX0 fX0_9 dX0_firstWrong_78 (fun x11 _ vx11 gx11 => ?_)
    exact z_ireturn dX0_firstWrong_81 rfl rfl (hP _ _ _ hW hX gx11 trivial)
set_option maxRecDepth 100000 in
set_option maxHeartbeats 4000000 in
theorem bX0_firstWrong_56 {G : xG} {d : Nat} {Post : xP} {B : Nat × Nat} {τ0 τ : Tau} {c0 cs : List va_E} {a0 pa0 : Nat} {l2 : Int} {s0 : Int} {n11 : Nat} (hd : 7 ≤ d) (hW : WT G B τ cs) (hX : Fx [0, 4] τ0 c0 τ cs) (ga0 : τ a0 = some (.inl (0, pa0))) (gl2 : rng l2) (gs0 : rng s0) (bs0 : iv 0 1 s0) (i0 : 1 ≤ 6 - l2) (hm_11 : (6 - l2).toNat < n11 + 1) (hP : ∀ (τ1 : Tau) (c1 : List va_E) (r : Int), WT G B τ1 c1 → Fx [0, 4] τ0 c0 τ1 c1 → rng r → (True) → Post (some (.int (Int32.ofInt r))) c1) (ih_11 : ∀ {τ : Tau} {cs : List va_E} {a0 pa0 : Nat} {l1 : Int} {l2 : Int} (hW : WT G B τ cs) (hX : Fx [0, 4] τ0 c0 τ cs) (ga0 : τ a0 = some (.inl (0, pa0))) (gl1 : rng l1) (bl1 : iv 0 1 l1) (gl2 : rng l2)  , (6 - l2).toNat < n11 → Z (RX0, cX0_firstWrong, 3, some .int, false) G d Post 11 [(0, .ref (G.1 + a0)), (1, .int (Int32.ofInt l1)), (2, .int (Int32.ofInt l2))] [] cs) : Z (RX0, cX0_firstWrong, 3, some .int, false) G d Post 56 [(0, .ref (G.1 + a0)), (2, .int (Int32.ofInt l2))] [.int (Int32.ofInt s0)] cs := by
  refine z_istore_n dX0_firstWrong_56 rfl (by decide) ?_
  refine z_loc (L' := [(0, .ref (G.1 + a0)), (1, .int (Int32.ofInt s0)), (2, .int (Int32.ofInt l2))]) (List.forall_mem_cons.mpr ⟨rfl, (List.forall_mem_cons.mpr ⟨rfl, (List.forall_mem_cons.mpr ⟨rfl, (fun _ h => nomatch h)⟩)⟩)⟩) ?_
  refine tw_iinc (l := l2) dX0_firstWrong_57 rfl (by decide) (fun z1 gz1 ez1 => ?_)
  first | have ez1 := ez1 ⟨by omega, by omega⟩ | clear ez1
  refine z_loc (L' := [(0, .ref (G.1 + a0)), (1, .int (Int32.ofInt s0)), (2, .int (Int32.ofInt z1))]) (List.forall_mem_cons.mpr ⟨rfl, (List.forall_mem_cons.mpr ⟨rfl, (List.forall_mem_cons.mpr ⟨rfl, (fun _ h => nomatch h)⟩)⟩)⟩) ?_
  refine z_goto (tgt := 11) dX0_firstWrong_60 (by decide) ?_
  refine z_loc (L' := [(0, .ref (G.1 + a0)), (1, .int (Int32.ofInt s0)), (2, .int (Int32.ofInt z1))]) (List.forall_mem_cons.mpr ⟨rfl, (List.forall_mem_cons.mpr ⟨rfl, (List.forall_mem_cons.mpr ⟨rfl, (fun _ h => nomatch h)⟩)⟩)⟩) ?_
  exact ih_11 hW hX ga0 gs0 (by omega) gz1   (by omega)
set_option maxRecDepth 100000 in
set_option maxHeartbeats 4000000 in
theorem bX0_firstWrong_55 {G : xG} {d : Nat} {Post : xP} {B : Nat × Nat} {τ0 τ : Tau} {c0 cs : List va_E} {a0 pa0 : Nat} {l2 : Int} {n11 : Nat} (hd : 7 ≤ d) (hW : WT G B τ cs) (hX : Fx [0, 4] τ0 c0 τ cs) (ga0 : τ a0 = some (.inl (0, pa0))) (gl2 : rng l2) (i0 : 1 ≤ 6 - l2) (hm_11 : (6 - l2).toNat < n11 + 1) (hP : ∀ (τ1 : Tau) (c1 : List va_E) (r : Int), WT G B τ1 c1 → Fx [0, 4] τ0 c0 τ1 c1 → rng r → (True) → Post (some (.int (Int32.ofInt r))) c1) (ih_11 : ∀ {τ : Tau} {cs : List va_E} {a0 pa0 : Nat} {l1 : Int} {l2 : Int} (hW : WT G B τ cs) (hX : Fx [0, 4] τ0 c0 τ cs) (ga0 : τ a0 = some (.inl (0, pa0))) (gl1 : rng l1) (bl1 : iv 0 1 l1) (gl2 : rng l2)  , (6 - l2).toNat < n11 → Z (RX0, cX0_firstWrong, 3, some .int, false) G d Post 11 [(0, .ref (G.1 + a0)), (1, .int (Int32.ofInt l1)), (2, .int (Int32.ofInt l2))] [] cs) : Z (RX0, cX0_firstWrong, 3, some .int, false) G d Post 55 [(0, .ref (G.1 + a0)), (2, .int (Int32.ofInt l2))] [] cs := by
  refine z_iconst (v := Int32.ofInt 0) dX0_firstWrong_55 rfl ?_
  refine z_loc (L' := [(0, .ref (G.1 + a0)), (2, .int (Int32.ofInt l2))]) (List.forall_mem_cons.mpr ⟨rfl, (List.forall_mem_cons.mpr ⟨rfl, (fun _ h => nomatch h)⟩)⟩) ?_
  exact bX0_firstWrong_56 hd hW hX ga0 gl2 (show rng 0 from ⟨by decide, by decide⟩) ⟨by decide, by decide⟩ (by omega) (by omega) hP ih_11
set_option maxRecDepth 100000 in
set_option maxHeartbeats 4000000 in
theorem eX0_firstWrong_11 {G : xG} {d : Nat} {Post : xP} {B : Nat × Nat} {τ0 τ : Tau} {c0 cs : List va_E} {a0 pa0 : Nat} {l1 : Int} {l2 : Int} {n11 : Nat} (hd : 7 ≤ d) (hW : WT G B τ cs) (hX : Fx [0, 4] τ0 c0 τ cs) (ga0 : τ a0 = some (.inl (0, pa0))) (gl1 : rng l1) (bl1 : iv 0 1 l1) (gl2 : rng l2)   (hP : ∀ (τ1 : Tau) (c1 : List va_E) (r : Int), WT G B τ1 c1 → Fx [0, 4] τ0 c0 τ1 c1 → rng r → (True) → Post (some (.int (Int32.ofInt r))) c1)  (ih_11 : ∀ {τ : Tau} {cs : List va_E} {a0 pa0 : Nat} {l1 : Int} {l2 : Int} (hW : WT G B τ cs) (hX : Fx [0, 4] τ0 c0 τ cs) (ga0 : τ a0 = some (.inl (0, pa0))) (gl1 : rng l1) (bl1 : iv 0 1 l1) (gl2 : rng l2)  , (6 - l2).toNat < n11 → Z (RX0, cX0_firstWrong, 3, some .int, false) G d Post 11 [(0, .ref (G.1 + a0)), (1, .int (Int32.ofInt l1)), (2, .int (Int32.ofInt l2))] [] cs) (hm_11 : (6 - l2).toNat < n11 + 1) : Z (RX0, cX0_firstWrong, 3, some .int, false) G d Post 11 [(0, .ref (G.1 + a0)), (1, .int (Int32.ofInt l1)), (2, .int (Int32.ofInt l2))] [] cs := by
  refine z_iload_n dX0_firstWrong_11 rfl rfl ?_
  refine z_bipush (v := Int32.ofInt 6) dX0_firstWrong_12 (by decide) ?_
  refine i_icmp_ge (tgt := 63) dX0_firstWrong_14 (by decide) gl2 (show rng 6 from ⟨by decide, by decide⟩) (fun h1 => ?_) (fun h1 => ?_)
  · refine z_loc (L' := [(0, .ref (G.1 + a0))]) (List.forall_mem_cons.mpr ⟨rfl, (fun _ h => nomatch h)⟩) ?_
    exact bX0_firstWrong_63 hd hW hX ga0   hP 
  · refine z_iload_n dX0_firstWrong_17 rfl rfl ?_
    refine i_if_eq (tgt := 63) dX0_firstWrong_18 (by decide) gl1 (fun h2 => ?_) (fun h2 => ?_)
    · refine z_loc (L' := [(0, .ref (G.1 + a0))]) (List.forall_mem_cons.mpr ⟨rfl, (fun _ h => nomatch h)⟩) ?_
      exact bX0_firstWrong_63 hd hW hX ga0   hP 
    · refine z_aload_n dX0_firstWrong_21 rfl rfl ?_
      refine z_iload_n dX0_firstWrong_22 rfl rfl ?_
      have hX0 := kX0_isClassRight 4 (Nat.le_refl _) hW ga0 gl2 
      refine z_callV (As := [_]) eX0_isClassRight sX0_isClassRight lX0_28 rfl dX0_firstWrong_23 (hW.ob ga0 (by decide)).choose_spec hX0 (Nat.le_trans (by decide) hd) rfl (Nat.le_of_ble_eq_true rfl) (fun r cs hp => ?_)
      obtain ⟨τ, r4, rfl, gr4, hW, k5, n3_0⟩ := hp
      have hX := hX.tr k5 (by decide)
      have ga0 := k5.1.e ga0 (by decide)
      clear hX0
      refine z_st (st' := [.int (Int32.ofInt r4)]) rfl ?_
      refine i_if_ne (tgt := 34) dX0_firstWrong_26 (by decide) gr4 (fun h6 => ?_) (fun h6 => ?_)
      · refine z_iload_n dX0_firstWrong_34 rfl rfl ?_
        refine z_iconst (v := Int32.ofInt 1) dX0_firstWrong_35 rfl ?_
        refine tw_iadd dX0_firstWrong_36 (fun z7 gz7 ez7 => ?_)
        first | have ez7 := ez7 ⟨by omega, by omega⟩ | clear ez7
        refine z_bipush (v := Int32.ofInt 6) dX0_firstWrong_37 (by decide) ?_
        refine i_icmp_ge (tgt := 55) dX0_firstWrong_39 (by decide) gz7 (show rng 6 from ⟨by decide, by decide⟩) (fun h8 => ?_) (fun h8 => ?_)
        · refine z_loc (L' := [(0, .ref (G.1 + a0)), (2, .int (Int32.ofInt l2))]) (List.forall_mem_cons.mpr ⟨rfl, (List.forall_mem_cons.mpr ⟨rfl, (fun _ h => nomatch h)⟩)⟩) ?_
          exact bX0_firstWrong_55 hd hW hX ga0 gl2 (by omega) (by omega) hP ih_11
        · refine z_aload_n dX0_firstWrong_42 rfl rfl ?_
          refine z_bipush (v := Int32.ofInt 59) dX0_firstWrong_43 (by decide) ?_
          have hX0 := kX0_skips 1 (Nat.le_refl _) hW ga0 (show rng 59 from ⟨by decide, by decide⟩) 
          refine z_callV (As := [_]) eX0_skips sX0_skips lX0_32 rfl dX0_firstWrong_45 (hW.ob ga0 (by decide)).choose_spec hX0 (Nat.le_trans (by decide) hd) rfl (Nat.le_of_ble_eq_true rfl) (fun r cs hp => ?_)
          obtain ⟨τ, r10, rfl, gr10, hW, k11, n9_0⟩ := hp
          have hX := hX.tr k11 (by decide)
          have ga0 := k11.1.e ga0 (by decide)
          clear hX0
          refine z_st (st' := [.int (Int32.ofInt r10)]) rfl ?_
          refine i_if_eq (tgt := 55) dX0_firstWrong_48 (by decide) gr10 (fun h12 => ?_) (fun h12 => ?_)
          · refine z_loc (L' := [(0, .ref (G.1 + a0)), (2, .int (Int32.ofInt l2))]) (List.forall_mem_cons.mpr ⟨rfl, (List.forall_mem_cons.mpr ⟨rfl, (fun _ h => nomatch h)⟩)⟩) ?_
            exact bX0_firstWrong_55 hd hW hX ga0 gl2 (by omega) (by omega) hP ih_11
          · refine z_iconst (v := Int32.ofInt 1) dX0_firstWrong_51 rfl ?_
            refine z_goto (tgt := 56) dX0_firstWrong_52 (by decide) ?_
            refine z_loc (L' := [(0, .ref (G.1 + a0)), (2, .int (Int32.ofInt l2))]) (List.forall_mem_cons.mpr ⟨rfl, (List.forall_mem_cons.mpr ⟨rfl, (fun _ h => nomatch h)⟩)⟩) ?_
            exact bX0_firstWrong_56 hd hW hX ga0 gl2 (show rng 1 from ⟨by decide, by decide⟩) ⟨by decide, by decide⟩ (by omega) (by omega) hP ih_11
      · refine z_aload_n dX0_firstWrong_29 rfl rfl ?_
        refine tw_getI hW ga0 (by decide) (by decide) rfl kX0 fX0_9 dX0_firstWrong_30 (fun x13 _ vx13 gx13 => ?_)
        exact z_ireturn dX0_firstWrong_33 rfl rfl (hP _ _ _ hW hX gx13 trivial)
set_option maxRecDepth 100000 in
set_option maxHeartbeats 4000000 in
theorem bX0_firstWrong_11 {G : xG} {d : Nat} {Post : xP} {B : Nat × Nat} {τ0 τ : Tau} {c0 cs : List va_E} {a0 pa0 : Nat} {l1 : Int} {l2 : Int} (hd : 7 ≤ d) (hW : WT G B τ cs) (hX : Fx [0, 4] τ0 c0 τ cs) (ga0 : τ a0 = some (.inl (0, pa0))) (gl1 : rng l1) (bl1 : iv 0 1 l1) (gl2 : rng l2)   (hP : ∀ (τ1 : Tau) (c1 : List va_E) (r : Int), WT G B τ1 c1 → Fx [0, 4] τ0 c0 τ1 c1 → rng r → (True) → Post (some (.int (Int32.ofInt r))) c1)  : Z (RX0, cX0_firstWrong, 3, some .int, false) G d Post 11 [(0, .ref (G.1 + a0)), (1, .int (Int32.ofInt l1)), (2, .int (Int32.ofInt l2))] [] cs := by
  have key : ∀ (n : Nat) (τ : Tau) (cs : List va_E) (a0 pa0 : Nat) (l1 : Int) (l2 : Int) (hW : WT G B τ cs) (hX : Fx [0, 4] τ0 c0 τ cs) (ga0 : τ a0 = some (.inl (0, pa0))) (gl1 : rng l1) (bl1 : iv 0 1 l1) (gl2 : rng l2)  , (6 - l2).toNat < n → Z (RX0, cX0_firstWrong, 3, some .int, false) G d Post 11 [(0, .ref (G.1 + a0)), (1, .int (Int32.ofInt l1)), (2, .int (Int32.ofInt l2))] [] cs := by
    intro n
    induction n with
    | zero => intro τ cs a0 pa0 l1 l2 hW hX ga0 gl1 bl1 gl2 hm; exact absurd hm (Nat.not_lt_zero _)
    | succ n ih =>
      intro τ cs a0 pa0 l1 l2 hW hX ga0 gl1 bl1 gl2 hm
      exact eX0_firstWrong_11 hd hW hX ga0 gl1 bl1 gl2 hP  (fun hW hX ga0 gl1 bl1 gl2 hm => ih _ _ _ _ _ _ hW hX ga0 gl1 bl1 gl2 hm) hm
  exact key _ _ _ _ _ _ _ hW hX ga0 gl1 bl1 gl2 (Nat.lt_succ_self _)
set_option maxRecDepth 100000 in
set_option maxHeartbeats 4000000 in
theorem kX0_firstWrong {G : xG} {B : Nat × Nat} {τ : Tau} {cs : List va_E} {a0 pa0 : Nat} (d : Nat) (hd : 7 ≤ d) (hW : WT G B τ cs) (ga0 : τ a0 = some (.inl (0, pa0)))  : X G yX0_firstWrong cX0_firstWrong 3 (some .int) d [.ref (G.1 + a0)] cs (wI G B τ cs [0, 4] (fun r => True)) := by
  refine X.of false (by decide +kernel) (by decide) (Nat.le_of_ble_eq_true rfl) ?_
  show Z (RX0, cX0_firstWrong, 3, some .int, false) G d _ 0 [(0, .ref (G.1 + a0))] [] cs
  have hP : ∀ (τ1 : Tau) (c1 : List va_E) (r : Int), WT G B τ1 c1 → Fx [0, 4] τ cs τ1 c1 → rng r → (True) → wI G B τ cs [0, 4] (fun r => True) (some (.int (Int32.ofInt r))) c1 := fun τ1 c1 r h1 h2 h3 h4 => ⟨τ1, r, rfl, h3, h1, h2, h4⟩
  have hX : Fx [0, 4] τ cs τ cs := Fx.rf
  skip
  refine z_aload_n dX0_firstWrong_0 rfl rfl ?_
  refine tw_getO hW ga0 (by decide) (by decide) rfl kX0 fX0_19 dX0_firstWrong_1 (fun b1 pb1 gb1 => ?_)
  have hX0 := kX4_clear 0 (Nat.le_refl _) hW gb1 
  refine z_callV (As := []) eX4_clear sX4_clear lX0_23 rfl dX0_firstWrong_4 (hW.ob gb1 (by decide)).choose_spec hX0 (Nat.le_trans (by decide) hd) rfl (Nat.le_of_ble_eq_true rfl) (fun r cs hp => ?_)
  obtain ⟨τ, rfl, hW, k4⟩ := hp
  have hX := hX.tr k4 (by decide)
  have ga0 := k4.1.e ga0 (by decide)
  clear hX0
  refine z_st (st' := []) rfl ?_
  refine z_iconst (v := Int32.ofInt 1) dX0_firstWrong_7 rfl ?_
  refine z_istore_n dX0_firstWrong_8 rfl (by decide) ?_
  refine z_loc (L' := [(0, .ref (G.1 + a0)), (1, .int (Int32.ofInt 1))]) (List.forall_mem_cons.mpr ⟨rfl, (List.forall_mem_cons.mpr ⟨rfl, (fun _ h => nomatch h)⟩)⟩) ?_
  refine z_iconst (v := Int32.ofInt 0) dX0_firstWrong_9 rfl ?_
  refine z_istore_n dX0_firstWrong_10 rfl (by decide) ?_
  refine z_loc (L' := [(0, .ref (G.1 + a0)), (1, .int (Int32.ofInt 1)), (2, .int (Int32.ofInt 0))]) (List.forall_mem_cons.mpr ⟨rfl, (List.forall_mem_cons.mpr ⟨rfl, (List.forall_mem_cons.mpr ⟨rfl, (fun _ h => nomatch h)⟩)⟩)⟩) ?_
  refine z_loc (L' := [(0, .ref (G.1 + a0)), (1, .int (Int32.ofInt 1)), (2, .int (Int32.ofInt 0))]) (List.forall_mem_cons.mpr ⟨rfl, (List.forall_mem_cons.mpr ⟨rfl, (List.forall_mem_cons.mpr ⟨rfl, (fun _ h => nomatch h)⟩)⟩)⟩) ?_
  exact bX0_firstWrong_11 hd hW hX ga0 (show rng 1 from ⟨by decide, by decide⟩) ⟨by decide, by decide⟩ (show rng 0 from ⟨by decide, by decide⟩)   hP 
