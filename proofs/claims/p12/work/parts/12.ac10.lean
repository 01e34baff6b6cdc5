set_option maxRecDepth 100000 in
set_option maxHeartbeats 4000000 in
theorem eX3_idAt_34 {G : xG} {d : Nat} {Post : xP} {B : Nat × Nat} {τ : Tau} {cs : List va_E} {a0 pm : Nat} {l2 : Int} {l3 : Int} {l4 : Int} {n34 : Nat} (hd : 1 ≤ d) (hW : WT G B τ cs) (ga0 : τ a0 = some (.inl (3, pm))) (gl2 : rng l2) (gl3 : rng l3) (gl4 : rng l4)   (hP : ∀ r : Int, rng r → (True) → Post (some (.int (Int32.ofInt r))) cs)  (ih_34 : ∀ {a0 pm : Nat} {l2 : Int} {l3 : Int} {l4 : Int} (hW : WT G B τ cs) (ga0 : τ a0 = some (.inl (3, pm))) (gl2 : rng l2) (gl3 : rng l3) (gl4 : rng l4)  , (l2 - l4).toNat < n34 → Z (RX3, cX3_idAt, 5, some .int, false) G d Post 34 [(0, .ref (G.1 + a0)), (2, .int (Int32.ofInt l2)), (3, .int (Int32.ofInt l3)), (4, .int (Int32.ofInt l4))] [] cs) (hm_34 : (l2 - l4).toNat < n34 + 1) : Z (RX3, cX3_idAt, 5, some .int, false) G d Post 34 [(0, .ref (G.1 + a0)), (2, .int (Int32.ofInt l2)), (3, .int (Int32.ofInt l3)), (4, .int (Int32.ofInt l4))] [] cs := by
  have hpm := hW.2.1.2.2.2.2.2.2.1 _ _ ga0
  refine z_iload dX3_idAt_34 rfl ?_
  refine z_iload_n dX3_idAt_36 rfl rfl ?_
  refine i_icmp_ge (tgt := 81) dX3_idAt_37 (by decide) gl4 gl2 (fun h1 => ?_) (fun h1 => ?_)
  · refine z_iload_n dX3_idAt_81 rfl rfl ?_
    exact z_ireturn dX3_idAt_82 rfl rfl (hP _ gl3 trivial)
  · refine z_aload_n dX3_idAt_40 rfl rfl ?_
    refine tw_getO hW ga0 (by decide) (by decide) rfl kX3 fX3_35 dX3_idAt_41 (fun b2 pb2 gb2 => ?_)
    have gb2 : oT τ b2 5 := ⟨_, gb2⟩
    refine z_iload dX3_idAt_44 rfl ?_
    have hX0 := kX5_at 0 (Nat.le_refl _) hW gb2 gl4 
    refine z_callV (As := [_]) eX5_at sX5_at lX3_211 rfl dX3_idAt_46 (hW.os gb2).choose_spec hX0 (Nat.le_trans (by decide) hd) rfl (Nat.le_of_ble_eq_true rfl) (fun r cs1 hp => ?_)
    obtain ⟨hcs, r4, rfl, gr4, n3_0⟩ := hp
    obtain rfl := hcs.symm
    refine z_st (st' := [.int (Int32.ofInt r4)]) rfl ?_
    have hX0 := kX10_isDigit 0 (Nat.le_refl _) hW gr4 
    refine z_callSN (As := [_]) eX10_isDigit sX10_isDigit lX3_214 dX3_idAt_49 hX0 (Nat.le_trans (by decide) hd) rfl (Nat.le_of_ble_eq_true rfl) (fun r cs1 hp => ?_)
    obtain ⟨hcs, r6, rfl, gr6, n5_0⟩ := hp
    obtain rfl := hcs.symm
    refine z_st (st' := [.int (Int32.ofInt r6)]) rfl ?_
    refine i_if_ne (tgt := 57) dX3_idAt_52 (by decide) gr6 (fun h7 => ?_) (fun h7 => ?_)
    · refine z_iload_n dX3_idAt_57 rfl rfl ?_
      refine z_bipush (v := Int32.ofInt 10) dX3_idAt_58 (by decide) ?_
      refine tw_imul dX3_idAt_60 (fun z8 gz8 ez8 => ?_)
      first | have ez8 := ez8 ⟨by omega, by omega⟩ | clear ez8
      refine z_aload_n dX3_idAt_61 rfl rfl ?_
      refine tw_getO hW ga0 (by decide) (by decide) rfl kX3 fX3_35 dX3_idAt_62 (fun b9 pb9 gb9 => ?_)
      have gb9 : oT τ b9 5 := ⟨_, gb9⟩
      refine z_iload dX3_idAt_65 rfl ?_
      have hX0 := kX5_at 0 (Nat.le_refl _) hW gb9 gl4 
      refine z_callV (As := [_]) eX5_at sX5_at lX3_211 rfl dX3_idAt_67 (hW.os gb9).choose_spec hX0 (Nat.le_trans (by decide) hd) rfl (Nat.le_of_ble_eq_true rfl) (fun r cs1 hp => ?_)
      obtain ⟨hcs, r11, rfl, gr11, n10_0⟩ := hp
      obtain rfl := hcs.symm
      refine z_st (st' := [.int (Int32.ofInt r11), .int (Int32.ofInt z8)]) rfl ?_
      refine tw_iadd dX3_idAt_70 (fun z12 gz12 ez12 => ?_)
      first | have ez12 := ez12 ⟨by omega, by omega⟩ | clear ez12
      refine z_bipush (v := Int32.ofInt 48) dX3_idAt_71 (by decide) ?_
      refine tw_isub dX3_idAt_73 (fun z13 gz13 ez13 => ?_)
      first | have ez13 := ez13 ⟨by omega, by omega⟩ | clear ez13
      refine z_istore_n dX3_idAt_74 rfl (by decide) ?_
      refine z_loc (L' := [(0, .ref (G.1 + a0)), (2, .int (Int32.ofInt l2)), (3, .int (Int32.ofInt z13)), (4, .int (Int32.ofInt l4))]) (List.forall_mem_cons.mpr ⟨rfl, (List.forall_mem_cons.mpr ⟨rfl, (List.forall_mem_cons.mpr ⟨rfl, (List.forall_mem_cons.mpr ⟨rfl, (fun _ h => nomatch h)⟩)⟩)⟩)⟩) ?_
      refine tw_iinc (l := l4) dX3_idAt_75 rfl (by decide) (fun z14 gz14 ez14 => ?_)
      first | have ez14 := ez14 ⟨by omega, by omega⟩ | clear ez14
      refine z_loc (L' := [(0, .ref (G.1 + a0)), (2, .int (Int32.ofInt l2)), (3, .int (Int32.ofInt z13)), (4, .int (Int32.ofInt z14))]) (List.forall_mem_cons.mpr ⟨rfl, (List.forall_mem_cons.mpr ⟨rfl, (List.forall_mem_cons.mpr ⟨rfl, (List.forall_mem_cons.mpr ⟨rfl, (fun _ h => nomatch h)⟩)⟩)⟩)⟩) ?_
      refine z_goto (tgt := 34) dX3_idAt_78 (by decide) ?_
      refine z_loc (L' := [(0, .ref (G.1 + a0)), (2, .int (Int32.ofInt l2)), (3, .int (Int32.ofInt z13)), (4, .int (Int32.ofInt z14))]) (List.forall_mem_cons.mpr ⟨rfl, (List.forall_mem_cons.mpr ⟨rfl, (List.forall_mem_cons.mpr ⟨rfl, (List.forall_mem_cons.mpr ⟨rfl, (fun _ h => nomatch h)⟩)⟩)⟩)⟩) ?_
      exact ih_34 hW ga0 gl2 gz13 gz14   (by omega)
    · refine z_iconst (v := Int32.ofInt 0) dX3_idAt_55 rfl ?_
      exact z_ireturn dX3_idAt_56 rfl rfl (hP _ (show rng 0 from ⟨by decide, by decide⟩) trivial)
set_option maxRecDepth 100000 in
set_option maxHeartbeats 4000000 in
theorem bX3_idAt_34 {G : xG} {d : Nat} {Post : xP} {B : Nat × Nat} {τ : Tau} {cs : List va_E} {a0 pm : Nat} {l2 : Int} {l3 : Int} {l4 : Int} (hd : 1 ≤ d) (hW : WT G B τ cs) (ga0 : τ a0 = some (.inl (3, pm))) (gl2 : rng l2) (gl3 : rng l3) (gl4 : rng l4)   (hP : ∀ r : Int, rng r → (True) → Post (some (.int (Int32.ofInt r))) cs)  : Z (RX3, cX3_idAt, 5, some .int, false) G d Post 34 [(0, .ref (G.1 + a0)), (2, .int (Int32.ofInt l2)), (3, .int (Int32.ofInt l3)), (4, .int (Int32.ofInt l4))] [] cs := by
  have key : ∀ (n : Nat) (a0 pm : Nat) (l2 : Int) (l3 : Int) (l4 : Int) (hW : WT G B τ cs) (ga0 : τ a0 = some (.inl (3, pm))) (gl2 : rng l2) (gl3 : rng l3) (gl4 : rng l4)  , (l2 - l4).toNat < n → Z (RX3, cX3_idAt, 5, some .int, false) G d Post 34 [(0, .ref (G.1 + a0)), (2, .int (Int32.ofInt l2)), (3, .int (Int32.ofInt l3)), (4, .int (Int32.ofInt l4))] [] cs := by
    intro n
    induction n with
    | zero => intro a0 pm l2 l3 l4 hW ga0 gl2 gl3 gl4 hm; exact absurd hm (Nat.not_lt_zero _)
    | succ n ih =>
      intro a0 pm l2 l3 l4 hW ga0 gl2 gl3 gl4 hm
      exact eX3_idAt_34 hd hW ga0 gl2 gl3 gl4 hP  (fun hW ga0 gl2 gl3 gl4 hm => ih _ _ _ _ _ hW ga0 gl2 gl3 gl4 hm) hm
  exact key _ _ _ _ _ _ hW ga0 gl2 gl3 gl4 (Nat.lt_succ_self _)
set_option maxRecDepth 100000 in
set_option maxHeartbeats 4000000 in
theorem kX3_idAt {G : xG} {B : Nat × Nat} {τ : Tau} {cs : List va_E} {a0 pm : Nat} {l1 : Int} {l2 : Int} (d : Nat) (hd : 1 ≤ d) (hW : WT G B τ cs) (ga0 : τ a0 = some (.inl (3, pm))) (gl1 : rng l1) (gl2 : rng l2)  : X G yX3_idAt cX3_idAt 5 (some .int) d [.ref (G.1 + a0), .int (Int32.ofInt l1), .int (Int32.ofInt l2)] cs (rI cs (fun r => True)) := by
  refine X.of false (by decide +kernel) (by decide) (Nat.le_of_ble_eq_true rfl) ?_
  show Z (RX3, cX3_idAt, 5, some .int, false) G d _ 0 [(0, .ref (G.1 + a0)), (1, .int (Int32.ofInt l1)), (2, .int (Int32.ofInt l2))] [] cs
  have hP : ∀ r : Int, rng r → (True) → rI cs (fun r => True) (some (.int (Int32.ofInt r))) cs := fun r h1 h2 => ⟨rfl, r, rfl, h1, h2⟩
  have hpm := hW.2.1.2.2.2.2.2.2.1 _ _ ga0
  refine z_iload_n dX3_idAt_0 rfl rfl ?_
  refine z_iload_n dX3_idAt_1 rfl rfl ?_
  refine tw_isub dX3_idAt_2 (fun z1 gz1 ez1 => ?_)
  first | have ez1 := ez1 ⟨by omega, by omega⟩ | clear ez1
  refine z_iconst (v := Int32.ofInt 1) dX3_idAt_3 rfl ?_
  refine i_icmp_lt (tgt := 27) dX3_idAt_4 (by decide) gz1 (show rng 1 from ⟨by decide, by decide⟩) (fun h2 => ?_) (fun h2 => ?_)
  · refine z_iconst (v := Int32.ofInt 0) dX3_idAt_27 rfl ?_
    exact z_ireturn dX3_idAt_28 rfl rfl (hP _ (show rng 0 from ⟨by decide, by decide⟩) trivial)
  · refine z_iload_n dX3_idAt_7 rfl rfl ?_
    refine z_iload_n dX3_idAt_8 rfl rfl ?_
    refine tw_isub dX3_idAt_9 (fun z3 gz3 ez3 => ?_)
    first | have ez3 := ez3 ⟨by omega, by omega⟩ | clear ez3
    refine z_iconst (v := Int32.ofInt 4) dX3_idAt_10 rfl ?_
    refine i_icmp_gt (tgt := 27) dX3_idAt_11 (by decide) gz3 (show rng 4 from ⟨by decide, by decide⟩) (fun h4 => ?_) (fun h4 => ?_)
    · refine z_iconst (v := Int32.ofInt 0) dX3_idAt_27 rfl ?_
      exact z_ireturn dX3_idAt_28 rfl rfl (hP _ (show rng 0 from ⟨by decide, by decide⟩) trivial)
    · refine z_aload_n dX3_idAt_14 rfl rfl ?_
      refine tw_getO hW ga0 (by decide) (by decide) rfl kX3 fX3_35 dX3_idAt_15 (fun b5 pb5 gb5 => ?_)
      have gb5 : oT τ b5 5 := ⟨_, gb5⟩
      refine z_iload_n dX3_idAt_18 rfl rfl ?_
      have hX0 := kX5_at 0 (Nat.le_refl _) hW gb5 gl1 
      refine z_callV (As := [_]) eX5_at sX5_at lX3_211 rfl dX3_idAt_19 (hW.os gb5).choose_spec hX0 (Nat.le_trans (by decide) hd) rfl (Nat.le_of_ble_eq_true rfl) (fun r cs1 hp => ?_)
      obtain ⟨hcs, r7, rfl, gr7, n6_0⟩ := hp
      obtain rfl := hcs.symm
      refine z_st (st' := [.int (Int32.ofInt r7)]) rfl ?_
      refine z_bipush (v := Int32.ofInt 48) dX3_idAt_22 (by decide) ?_
      refine i_icmp_ne (tgt := 29) dX3_idAt_24 (by decide) gr7 (show rng 48 from ⟨by decide, by decide⟩) (fun h8 => ?_) (fun h8 => ?_)
      · refine z_iconst (v := Int32.ofInt 0) dX3_idAt_29 rfl ?_
        refine z_istore_n dX3_idAt_30 rfl (by decide) ?_
        refine z_loc (L' := [(0, .ref (G.1 + a0)), (1, .int (Int32.ofInt l1)), (2, .int (Int32.ofInt l2)), (3, .int (Int32.ofInt 0))]) (List.forall_mem_cons.mpr ⟨rfl, (List.forall_mem_cons.mpr ⟨rfl, (List.forall_mem_cons.mpr ⟨rfl, (List.forall_mem_cons.mpr ⟨rfl, (fun _ h => nomatch h)⟩)⟩)⟩)⟩) ?_
        refine z_iload_n dX3_idAt_31 rfl rfl ?_
        refine z_istore dX3_idAt_32 (by decide) ?_
        refine z_loc (L' := [(0, .ref (G.1 + a0)), (1, .int (Int32.ofInt l1)), (2, .int (Int32.ofInt l2)), (3, .int (Int32.ofInt 0)), (4, .int (Int32.ofInt l1))]) (List.forall_mem_cons.mpr ⟨rfl, (List.forall_mem_cons.mpr ⟨rfl, (List.forall_mem_cons.mpr ⟨rfl, (List.forall_mem_cons.mpr ⟨rfl, (List.forall_mem_cons.mpr ⟨rfl, (fun _ h => nomatch h)⟩)⟩)⟩)⟩)⟩) ?_
        refine z_loc (L' := [(0, .ref (G.1 + a0)), (2, .int (Int32.ofInt l2)), (3, .int (Int32.ofInt 0)), (4, .int (Int32.ofInt l1))]) (List.forall_mem_cons.mpr ⟨rfl, (List.forall_mem_cons.mpr ⟨rfl, (List.forall_mem_cons.mpr ⟨rfl, (List.forall_mem_cons.mpr ⟨rfl, (fun _ h => nomatch h)⟩)⟩)⟩)⟩) ?_
        exact bX3_idAt_34 hd hW ga0 gl2 (show rng 0 from ⟨by decide, by decide⟩) gl1   hP 
      · refine z_iconst (v := Int32.ofInt 0) dX3_idAt_27 rfl ?_
        exact z_ireturn dX3_idAt_28 rfl rfl (hP _ (show rng 0 from ⟨by decide, by decide⟩) trivial)

set_option maxRecDepth 100000 in
set_option maxHeartbeats 4000000 in
theorem kX3_isIdSound {G : xG} {B : Nat × Nat} {τ : Tau} {cs : List va_E} {a0 pm : Nat} {l1 : Int} {l2 : Int} (d : Nat) (hd : 2 ≤ d) (hW : WT G B τ cs) (ga0 : τ a0 = some (.inl (3, pm))) (gl1 : rng l1) (gl2 : rng l2) (p0 : 0 ≤ l1) (p1 : l1 < (pm : Nat)) : X G yX3_isIdSound cX3_isIdSound 4 (some .boolean) d [.ref (G.1 + a0), .int (Int32.ofInt l1), .int (Int32.ofInt l2)] cs (wI G B τ cs [3] (fun r => (iv 0 1 r))) := by
  refine X.of false (by decide +kernel) (by decide) (Nat.le_of_ble_eq_true rfl) ?_
  show Z (RX3, cX3_isIdSound, 4, some .boolean, false) G d _ 0 [(0, .ref (G.1 + a0)), (1, .int (Int32.ofInt l1)), (2, .int (Int32.ofInt l2))] [] cs
  have hP : ∀ (τ1 : Tau) (c1 : List va_E) (r : Int), WT G B τ1 c1 → Fx [3] τ cs τ1 c1 → rng r → ((iv 0 1 r)) → wI G B τ cs [3] (fun r => (iv 0 1 r)) (some (.int (Int32.ofInt r))) c1 := fun τ1 c1 r h1 h2 h3 h4 => ⟨τ1, r, rfl, h3, h1, h2, h4⟩
  have hX : Fx [3] τ cs τ cs := Fx.rf
  skip
  have hpm := hW.2.1.2.2.2.2.2.2.1 _ _ ga0
  refine z_aload_n dX3_isIdSound_0 rfl rfl ?_
  refine z_aload_n dX3_isIdSound_1 rfl rfl ?_
  refine tw_getO hW ga0 (by decide) (by decide) rfl kX3 fX3_19 dX3_isIdSound_2 (fun b1 pb1 gb1 => ?_)
  refine z_iload_n dX3_isIdSound_5 rfl rfl ?_
  have hX0 := kX6_valueFrom 1 (Nat.le_refl _) hW gb1 gl2 
  refine z_callV (As := [_]) eX6_valueFrom sX6_valueFrom lX3_146 rfl dX3_isIdSound_6 (hW.ob gb1 (by decide)).choose_spec hX0 (Nat.le_trans (by decide) hd) rfl (Nat.le_of_ble_eq_true rfl) (fun r cs1 hp => ?_)
  obtain ⟨hcs, r3, rfl, gr3, _⟩ := hp
  obtain rfl := hcs.symm
  refine z_st (st' := [.int (Int32.ofInt r3), .ref (G.1 + a0)]) rfl ?_
  refine z_aload_n dX3_isIdSound_9 rfl rfl ?_
  refine tw_getO hW ga0 (by decide) (by decide) rfl kX3 fX3_19 dX3_isIdSound_10 (fun b4 pb4 gb4 => ?_)
  refine z_iload_n dX3_isIdSound_13 rfl rfl ?_
  have hX0 := kX6_valueTo 1 (Nat.le_refl _) hW gb4 gl2 
  refine z_callV (As := [_]) eX6_valueTo sX6_valueTo lX3_149 rfl dX3_isIdSound_14 (hW.ob gb4 (by decide)).choose_spec hX0 (Nat.le_trans (by decide) hd) rfl (Nat.le_of_ble_eq_true rfl) (fun r cs1 hp => ?_)
  obtain ⟨hcs, r6, rfl, gr6, n5_0⟩ := hp
  obtain rfl := hcs.symm
  refine z_st (st' := [.int (Int32.ofInt r6), .int (Int32.ofInt r3), .ref (G.1 + a0)]) rfl ?_
  have hX0 := kX3_idAt 1 (Nat.le_refl _) hW ga0 gr3 gr6 
  refine z_callV (As := [_, _]) eX3_idAt sX3_idAt lX3_205 rfl dX3_isIdSound_17 (hW.ob ga0 (by decide)).choose_spec hX0 (Nat.le_trans (by decide) hd) rfl (Nat.le_of_ble_eq_true rfl) (fun r cs1 hp => ?_)
  obtain ⟨hcs, r8, rfl, gr8, _⟩ := hp
  obtain rfl := hcs.symm
  refine z_st (st' := [.int (Int32.ofInt r8)]) rfl ?_
  refine z_istore_n dX3_isIdSound_20 rfl (by decide) ?_
  refine z_loc (L' := [(0, .ref (G.1 + a0)), (1, .int (Int32.ofInt l1)), (2, .int (Int32.ofInt l2)), (3, .int (Int32.ofInt r8))]) (List.forall_mem_cons.mpr ⟨rfl, (List.forall_mem_cons.mpr ⟨rfl, (List.forall_mem_cons.mpr ⟨rfl, (List.forall_mem_cons.mpr ⟨rfl, (fun _ h => nomatch h)⟩)⟩)⟩)⟩) ?_
  refine z_iload_n dX3_isIdSound_21 rfl rfl ?_
  refine i_if_eq (tgt := 34) dX3_isIdSound_22 (by decide) gr8 (fun h9 => ?_) (fun h9 => ?_)
  · refine z_iconst (v := Int32.ofInt 0) dX3_isIdSound_34 rfl ?_
    exact z_ireturn dX3_isIdSound_35 rfl (nar01 (b01 ⟨by decide, by decide⟩)) (hP _ _ _ hW hX (show rng 0 from ⟨by decide, by decide⟩) (by omega))
  · refine z_aload_n dX3_isIdSound_25 rfl rfl ?_
    refine z_iload_n dX3_isIdSound_26 rfl rfl ?_
    have hX0 := kX3_elementWithId 0 (Nat.le_refl _) hW ga0 gr8 
    refine z_callV (As := [_]) eX3_elementWithId sX3_elementWithId lX3_208 rfl dX3_isIdSound_27 (hW.ob ga0 (by decide)).choose_spec hX0 (Nat.le_trans (by decide) hd) rfl (Nat.le_of_ble_eq_true rfl) (fun r cs1 hp => ?_)
    obtain ⟨hcs, r11, rfl, gr11, _⟩ := hp
    obtain rfl := hcs.symm
    refine z_st (st' := [.int (Int32.ofInt r11)]) rfl ?_
    refine z_iconst (v := Int32.ofInt (-1)) dX3_isIdSound_30 rfl ?_
    refine i_icmp_eq (tgt := 36) dX3_isIdSound_31 (by decide) gr11 (show rng (-1) from ⟨by decide, by decide⟩) (fun h12 => ?_) (fun h12 => ?_)
    · refine z_aload_n dX3_isIdSound_36 rfl rfl ?_
      refine tw_getA hW ga0 (by decide) (by decide) rfl kX3 fX3_66 dX3_isIdSound_37 (fun b13 _ gb13 => ?_)
      refine z_iload_n dX3_isIdSound_40 rfl rfl ?_
      refine z_iload_n dX3_isIdSound_41 rfl rfl ?_
      refine tw_iast hW hX gb13 (by omega) (by omega) (any_ok _) (Or.inl rfl) dX3_isIdSound_42 (fun c1 q _ => nA hW gb13 (show (2147483647 : Int) ≠ 600 by decide) (show (2147483647 : Int) ≠ 601 by decide) c1 q) (fun cs hW hX _ _ => ?_)
      refine z_iconst (v := Int32.ofInt 1) dX3_isIdSound_43 rfl ?_
      exact z_ireturn dX3_isIdSound_44 rfl (nar01 (b01 ⟨by decide, by decide⟩)) (hP _ _ _ hW hX (show rng 1 from ⟨by decide, by decide⟩) (by omega))
    · refine z_iconst (v := Int32.ofInt 0) dX3_isIdSound_34 rfl ?_
      exact z_ireturn dX3_isIdSound_35 rfl (nar01 (b01 ⟨by decide, by decide⟩)) (hP _ _ _ hW hX (show rng 0 from ⟨by decide, by decide⟩) (by omega))

set_option maxRecDepth 100000 in
set_option maxHeartbeats 4000000 in
theorem kX6_keyFrom {G : xG} {B : Nat × Nat} {τ : Tau} {cs : List va_E} {a0 pa0 : Nat} {l1 : Int} (d : Nat) (hd : 1 ≤ d) (hW : WT G B τ cs) (ga0 : τ a0 = some (.inl (6, pa0))) (gl1 : rng l1)  : X G yX6_keyFrom cX6_keyFrom 2 (some .int) d [.ref (G.1 + a0), .int (Int32.ofInt l1)] cs (rI cs (fun r => True)) := by
  refine X.of false (by decide +kernel) (by decide) (Nat.le_of_ble_eq_true rfl) ?_
  show Z (RX6, cX6_keyFrom, 2, some .int, false) G d _ 0 [(0, .ref (G.1 + a0)), (1, .int (Int32.ofInt l1))] [] cs
  have hP : ∀ r : Int, rng r → (True) → rI cs (fun r => True) (some (.int (Int32.ofInt r))) cs := fun r h1 h2 => ⟨rfl, r, rfl, h1, h2⟩
  refine z_aload_n dX6_keyFrom_0 rfl rfl ?_
  refine z_iload_n dX6_keyFrom_1 rfl rfl ?_
  have hX0 := kX6_hasAttribute 0 (Nat.le_refl _) hW ga0 gl1 
  refine z_callV (As := [_]) eX6_hasAttribute sX6_hasAttribute lX6_89 rfl dX6_keyFrom_2 (hW.ob ga0 (by decide)).choose_spec hX0 (Nat.le_trans (by decide) hd) rfl (Nat.le_of_ble_eq_true rfl) (fun r cs1 hp => ?_)
  obtain ⟨hcs, r2, rfl, gr2, ⟨n1_0, n1_1⟩⟩ := hp
  obtain rfl := hcs.symm
  refine z_st (st' := [.int (Int32.ofInt r2)]) rfl ?_
  refine i_if_eq (tgt := 17) dX6_keyFrom_5 (by decide) gr2 (fun h3 => ?_) (fun h3 => ?_)
  · refine z_iconst (v := Int32.ofInt 0) dX6_keyFrom_17 rfl ?_
    exact z_ireturn dX6_keyFrom_18 rfl rfl (hP _ (show rng 0 from ⟨by decide, by decide⟩) trivial)
  · refine z_aload_n dX6_keyFrom_8 rfl rfl ?_
    refine tw_getA hW ga0 (by decide) (by decide) rfl kX6 fX6_53 dX6_keyFrom_9 (fun b4 _ gb4 => ?_)
    refine z_iload_n dX6_keyFrom_12 rfl rfl ?_
    refine tw_iald hW gb4 (by omega) (by omega) dX6_keyFrom_13 (fun x5 _ vx5 gx5 => ?_)
    refine z_goto (tgt := 18) dX6_keyFrom_14 (by decide) ?_
    exact z_ireturn dX6_keyFrom_18 rfl rfl (hP _ gx5 trivial)

set_option maxRecDepth 100000 in
set_option maxHeartbeats 4000000 in
theorem kX6_keyTo {G : xG} {B : Nat × Nat} {τ : Tau} {cs : List va_E} {a0 pa0 : Nat} {l1 : Int} (d : Nat) (hd : 1 ≤ d) (hW : WT G B τ cs) (ga0 : τ a0 = some (.inl (6, pa0))) (gl1 : rng l1)  : X G yX6_keyTo cX6_keyTo 2 (some .int) d [.ref (G.1 + a0), .int (Int32.ofInt l1)] cs (rI cs (fun r => True)) := by
  refine X.of false (by decide +kernel) (by decide) (Nat.le_of_ble_eq_true rfl) ?_
  show Z (RX6, cX6_keyTo, 2, some .int, false) G d _ 0 [(0, .ref (G.1 + a0)), (1, .int (Int32.ofInt l1))] [] cs
  have hP : ∀ r : Int, rng r → (True) → rI cs (fun r => True) (some (.int (Int32.ofInt r))) cs := fun r h1 h2 => ⟨rfl, r, rfl, h1, h2⟩
  refine z_aload_n dX6_keyTo_0 rfl rfl ?_
  refine z_iload_n dX6_keyTo_1 rfl rfl ?_
  have hX0 := kX6_hasAttribute 0 (Nat.le_refl _) hW ga0 gl1 
  refine z_callV (As := [_]) eX6_hasAttribute sX6_hasAttribute lX6_89 rfl dX6_keyTo_2 (hW.ob ga0 (by decide)).choose_spec hX0 (Nat.le_trans (by decide) hd) rfl (Nat.le_of_ble_eq_true rfl) (fun r cs1 hp => ?_)
  obtain ⟨hcs, r2, rfl, gr2, ⟨n1_0, n1_1⟩⟩ := hp
  obtain rfl := hcs.symm
  refine z_st (st' := [.int (Int32.ofInt r2)]) rfl ?_
  refine i_if_eq (tgt := 17) dX6_keyTo_5 (by decide) gr2 (fun h3 => ?_) (fun h3 => ?_)
  · refine z_iconst (v := Int32.ofInt 0) dX6_keyTo_17 rfl ?_
    exact z_ireturn dX6_keyTo_18 rfl rfl (hP _ (show rng 0 from ⟨by decide, by decide⟩) trivial)
  · refine z_aload_n dX6_keyTo_8 rfl rfl ?_
    refine tw_getA hW ga0 (by decide) (by decide) rfl kX6 fX6_56 dX6_keyTo_9 (fun b4 _ gb4 => ?_)
    refine z_iload_n dX6_keyTo_12 rfl rfl ?_
    refine tw_iald hW gb4 (by omega) (by omega) dX6_keyTo_13 (fun x5 _ vx5 gx5 => ?_)
    refine z_goto (tgt := 18) dX6_keyTo_14 (by decide) ?_
    exact z_ireturn dX6_keyTo_18 rfl rfl (hP _ gx5 trivial)

set_option maxRecDepth 100000 in
set_option maxHeartbeats 4000000 in
theorem bX3_areAttributesSound_193 {G : xG} {d : Nat} {Post : xP} {B : Nat × Nat} {τ0 τ : Tau} {c0 cs : List va_E} {a0 pm : Nat} {l1 : Int} {l2 : Int} {l3 : Int} {l4 : Int} {n14 : Nat} (hd : 5 ≤ d) (hW : WT G B τ cs) (hX : Fx [1, 3] τ0 c0 τ cs) (ga0 : τ a0 = some (.inl (3, pm))) (gl1 : rng l1) (gl2 : rng l2) (gl3 : rng l3) (bl3 : iv 0 1 l3) (gl4 : rng l4) (i0 : 1 ≤ 2147483647 - l4) (i1 : 0 ≤ l1) (i2 : l1 < (pm : Nat)) (hm_14 : (2147483647 - l4).toNat < n14 + 1) (hP : ∀ (τ1 : Tau) (c1 : List va_E) (r : Int), WT G B τ1 c1 → Fx [1, 3] τ0 c0 τ1 c1 → rng r → ((iv 0 1 r)) → Post (some (.int (Int32.ofInt r))) c1) (ih_14 : ∀ {τ : Tau} {cs : List va_E} {a0 pm : Nat} {l1 : Int} {l2 : Int} {l3 : Int} {l4 : Int} (hW : WT G B τ cs) (hX : Fx [1, 3] τ0 c0 τ cs) (ga0 : τ a0 = some (.inl (3, pm))) (gl1 : rng l1) (gl2 : rng l2) (gl3 : rng l3) (bl3 : iv 0 1 l3) (gl4 : rng l4) (i0 : 0 ≤ l1) (i1 : l1 < (pm : Nat)) , (2147483647 - l4).toNat < n14 → Z (RX3, cX3_areAttributesSound, 8, some .boolean, false) G d Post 14 [(0, .ref (G.1 + a0)), (1, .int (Int32.ofInt l1)), (2, .int (Int32.ofInt l2)), (3, .int (Int32.ofInt l3)), (4, .int (Int32.ofInt l4))] [] cs) : Z (RX3, cX3_areAttributesSound, 8, some .boolean, false) G d Post 193 [(0, .ref (G.1 + a0)), (1, .int (Int32.ofInt l1)), (2, .int (Int32.ofInt l2)), (3, .int (Int32.ofInt l3)), (4, .int (Int32.ofInt l4))] [] cs := by
  have hpm := hW.2.1.2.2.2.2.2.2.1 _ _ ga0
  refine tw_iinc (l := l4) dX3_areAttributesSound_193 rfl (by decide) (fun z1 gz1 ez1 => ?_)
  first | have ez1 := ez1 ⟨by omega, by omega⟩ | clear ez1
  refine z_loc (L' := [(0, .ref (G.1 + a0)), (1, .int (Int32.ofInt l1)), (2, .int (Int32.ofInt l2)), (3, .int (Int32.ofInt l3)), (4, .int (Int32.ofInt z1))]) (List.forall_mem_cons.mpr ⟨rfl, (List.forall_mem_cons.mpr ⟨rfl, (List.forall_mem_cons.mpr ⟨rfl, (List.forall_mem_cons.mpr ⟨rfl, (List.forall_mem_cons.mpr ⟨rfl, (fun _ h => nomatch h)⟩)⟩)⟩)⟩)⟩) ?_
  refine z_goto (tgt := 14) dX3_areAttributesSound_196 (by decide) ?_
  refine z_loc (L' := [(0, .ref (G.1 + a0)), (1, .int (Int32.ofInt l1)), (2, .int (Int32.ofInt l2)), (3, .int (Int32.ofInt l3)), (4, .int (Int32.ofInt z1))]) (List.forall_mem_cons.mpr ⟨rfl, (List.forall_mem_cons.mpr ⟨rfl, (List.forall_mem_cons.mpr ⟨rfl, (List.forall_mem_cons.mpr ⟨rfl, (List.forall_mem_cons.mpr ⟨rfl, (fun _ h => nomatch h)⟩)⟩)⟩)⟩)⟩) ?_
  exact ih_14 hW hX ga0 gl1 gl2 gl3 (by omega) gz1 (by omega) (by omega)  (by omega)
set_option maxRecDepth 100000 in
set_option maxHeartbeats 4000000 in
theorem bX3_areAttributesSound_192 {G : xG} {d : Nat} {Post : xP} {B : Nat × Nat} {τ0 τ : Tau} {c0 cs : List va_E} {a0 pm : Nat} {l1 : Int} {l2 : Int} {l4 : Int} {s0 : Int} {n14 : Nat} (hd : 5 ≤ d) (hW : WT G B τ cs) (hX : Fx [1, 3] τ0 c0 τ cs) (ga0 : τ a0 = some (.inl (3, pm))) (gl1 : rng l1) (gl2 : rng l2) (gl4 : rng l4) (gs0 : rng s0) (bs0 : iv 0 1 s0) (i0 : 1 ≤ 2147483647 - l4) (i1 : 0 ≤ l1) (i2 : l1 < (pm : Nat)) (hm_14 : (2147483647 - l4).toNat < n14 + 1) (hP : ∀ (τ1 : Tau) (c1 : List va_E) (r : Int), WT G B τ1 c1 → Fx [1, 3] τ0 c0 τ1 c1 → rng r → ((iv 0 1 r)) → Post (some (.int (Int32.ofInt r))) c1) (ih_14 : ∀ {τ : Tau} {cs : List va_E} {a0 pm : Nat} {l1 : Int} {l2 : Int} {l3 : Int} {l4 : Int} (hW : WT G B τ cs) (hX : Fx [1, 3] τ0 c0 τ cs) (ga0 : τ a0 = some (.inl (3, pm))) (gl1 : rng l1) (gl2 : rng l2) (gl3 : rng l3) (bl3 : iv 0 1 l3) (gl4 : rng l4) (i0 : 0 ≤ l1) (i1 : l1 < (pm : Nat)) , (2147483647 - l4).toNat < n14 → Z (RX3, cX3_areAttributesSound, 8, some .boolean, false) G d Post 14 [(0, .ref (G.1 + a0)), (1, .int (Int32.ofInt l1)), (2, .int (Int32.ofInt l2)), (3, .int (Int32.ofInt l3)), (4, .int (Int32.ofInt l4))] [] cs) : Z (RX3, cX3_areAttributesSound, 8, some .boolean, false) G d Post 192 [(0, .ref (G.1 + a0)), (1, .int (Int32.ofInt l1)), (2, .int (Int32.ofInt l2)), (4, .int (Int32.ofInt l4))] [.int (Int32.ofInt s0)] cs := by
  have hpm := hW.2.1.2.2.2.2.2.2.1 _ _ ga0
  refine z_istore_n dX3_areAttributesSound_192 rfl (by decide) ?_
  refine z_loc (L' := [(0, .ref (G.1 + a0)), (1, .int (Int32.ofInt l1)), (2, .int (Int32.ofInt l2)), (3, .int (Int32.ofInt s0)), (4, .int (Int32.ofInt l4))]) (List.forall_mem_cons.mpr ⟨rfl, (List.forall_mem_cons.mpr ⟨rfl, (List.forall_mem_cons.mpr ⟨rfl, (List.forall_mem_cons.mpr ⟨rfl, (List.forall_mem_cons.mpr ⟨rfl, (fun _ h => nomatch h)⟩)⟩)⟩)⟩)⟩) ?_
  refine z_loc (L' := [(0, .ref (G.1 + a0)), (1, .int (Int32.ofInt l1)), (2, .int (Int32.ofInt l2)), (3, .int (Int32.ofInt s0)), (4, .int (Int32.ofInt l4))]) (List.forall_mem_cons.mpr ⟨rfl, (List.forall_mem_cons.mpr ⟨rfl, (List.forall_mem_cons.mpr ⟨rfl, (List.forall_mem_cons.mpr ⟨rfl, (List.forall_mem_cons.mpr ⟨rfl, (fun _ h => nomatch h)⟩)⟩)⟩)⟩)⟩) ?_
  exact bX3_areAttributesSound_193 hd hW hX ga0 gl1 gl2 gs0 (by omega) gl4 (by omega) (by omega) (by omega) (by omega) hP ih_14
set_option maxRecDepth 100000 in
set_option maxHeartbeats 4000000 in
theorem bX3_areAttributesSound_191 {G : xG} {d : Nat} {Post : xP} {B : Nat × Nat} {τ0 τ : Tau} {c0 cs : List va_E} {a0 pm : Nat} {l1 : Int} {l2 : Int} {l4 : Int} {n14 : Nat} (hd : 5 ≤ d) (hW : WT G B τ cs) (hX : Fx [1, 3] τ0 c0 τ cs) (ga0 : τ a0 = some (.inl (3, pm))) (gl1 : rng l1) (gl2 : rng l2) (gl4 : rng l4) (i0 : 1 ≤ 2147483647 - l4) (i1 : 0 ≤ l1) (i2 : l1 < (pm : Nat)) (hm_14 : (2147483647 - l4).toNat < n14 + 1) (hP : ∀ (τ1 : Tau) (c1 : List va_E) (r : Int), WT G B τ1 c1 → Fx [1, 3] τ0 c0 τ1 c1 → rng r → ((iv 0 1 r)) → Post (some (.int (Int32.ofInt r))) c1) (ih_14 : ∀ {τ : Tau} {cs : List va_E} {a0 pm : Nat} {l1 : Int} {l2 : Int} {l3 : Int} {l4 : Int} (hW : WT G B τ cs) (hX : Fx [1, 3] τ0 c0 τ cs) (ga0 : τ a0 = some (.inl (3, pm))) (gl1 : rng l1) (gl2 : rng l2) (gl3 : rng l3) (bl3 : iv 0 1 l3) (gl4 : rng l4) (i0 : 0 ≤ l1) (i1 : l1 < (pm : Nat)) , (2147483647 - l4).toNat < n14 → Z (RX3, cX3_areAttributesSound, 8, some .boolean, false) G d Post 14 [(0, .ref (G.1 + a0)), (1, .int (Int32.ofInt l1)), (2, .int (Int32.ofInt l2)), (3, .int (Int32.ofInt l3)), (4, .int (Int32.ofInt l4))] [] cs) : Z (RX3, cX3_areAttributesSound, 8, some .boolean, false) G d Post 191 [(0, .ref (G.1 + a0)), (1, .int (Int32.ofInt l1)), (2, .int (Int32.ofInt l2)), (4, .int (Int32.ofInt l4))] [] cs := by
  have hpm := hW.2.1.2.2.2.2.2.2.1 _ _ ga0
  refine z_iconst (v := Int32.ofInt 0) dX3_areAttributesSound_191 rfl ?_
  refine z_loc (L' := [(0, .ref (G.1 + a0)), (1, .int (Int32.ofInt l1)), (2, .int (Int32.ofInt l2)), (4, .int (Int32.ofInt l4))]) (List.forall_mem_cons.mpr ⟨rfl, (List.forall_mem_cons.mpr ⟨rfl, (List.forall_mem_cons.mpr ⟨rfl, (List.forall_mem_cons.mpr ⟨rfl, (fun _ h => nomatch h)⟩)⟩)⟩)⟩) ?_
  exact bX3_areAttributesSound_192 hd hW hX ga0 gl1 gl2 gl4 (show rng 0 from ⟨by decide, by decide⟩) ⟨by decide, by decide⟩ (by omega) (by omega) (by omega) (by omega) hP ih_14
set_option maxRecDepth 100000 in
set_option maxHeartbeats 4000000 in
theorem bX3_areAttributesSound_86 {G : xG} {d : Nat} {Post : xP} {B : Nat × Nat} {τ0 τ : Tau} {c0 cs : List va_E} {a0 pm : Nat} {l1 : Int} {l2 : Int} {l4 : Int} {s0 : Int} {n14 : Nat} (hd : 5 ≤ d) (hW : WT G B τ cs) (hX : Fx [1, 3] τ0 c0 τ cs) (ga0 : τ a0 = some (.inl (3, pm))) (gl1 : rng l1) (gl2 : rng l2) (gl4 : rng l4) (gs0 : rng s0) (bs0 : iv 0 1 s0) (i0 : 1 ≤ 2147483647 - l4) (i1 : 0 ≤ l1) (i2 : l1 < (pm : Nat)) (hm_14 : (2147483647 - l4).toNat < n14 + 1) (hP : ∀ (τ1 : Tau) (c1 : List va_E) (r : Int), WT G B τ1 c1 → Fx [1, 3] τ0 c0 τ1 c1 → rng r → ((iv 0 1 r)) → Post (some (.int (Int32.ofInt r))) c1) (ih_14 : ∀ {τ : Tau} {cs : List va_E} {a0 pm : Nat} {l1 : Int} {l2 : Int} {l3 : Int} {l4 : Int} (hW : WT G B τ cs) (hX : Fx [1, 3] τ0 c0 τ cs) (ga0 : τ a0 = some (.inl (3, pm))) (gl1 : rng l1) (gl2 : rng l2) (gl3 : rng l3) (bl3 : iv 0 1 l3) (gl4 : rng l4) (i0 : 0 ≤ l1) (i1 : l1 < (pm : Nat)) , (2147483647 - l4).toNat < n14 → Z (RX3, cX3_areAttributesSound, 8, some .boolean, false) G d Post 14 [(0, .ref (G.1 + a0)), (1, .int (Int32.ofInt l1)), (2, .int (Int32.ofInt l2)), (3, .int (Int32.ofInt l3)), (4, .int (Int32.ofInt l4))] [] cs) : Z (RX3, cX3_areAttributesSound, 8, some .boolean, false) G d Post 86 [(0, .ref (G.1 + a0)), (1, .int (Int32.ofInt l1)), (2, .int (Int32.ofInt l2)), (4, .int (Int32.ofInt l4))] [.int (Int32.ofInt s0)] cs := by
  have hpm := hW.2.1.2.2.2.2.2.2.1 _ _ ga0
  refine z_istore_n dX3_areAttributesSound_86 rfl (by decide) ?_
  refine z_loc (L' := [(0, .ref (G.1 + a0)), (1, .int (Int32.ofInt l1)), (2, .int (Int32.ofInt l2)), (3, .int (Int32.ofInt s0)), (4, .int (Int32.ofInt l4))]) (List.forall_mem_cons.mpr ⟨rfl, (List.forall_mem_cons.mpr ⟨rfl, (List.forall_mem_cons.mpr ⟨rfl, (List.forall_mem_cons.mpr ⟨rfl, (List.forall_mem_cons.mpr ⟨rfl, (fun _ h => nomatch h)⟩)⟩)⟩)⟩)⟩) ?_
  refine z_goto (tgt := 193) dX3_areAttributesSound_87 (by decide) ?_
  refine z_loc (L' := [(0, .ref (G.1 + a0)), (1, .int (Int32.ofInt l1)), (2, .int (Int32.ofInt l2)), (3, .int (Int32.ofInt s0)), (4, .int (Int32.ofInt l4))]) (List.forall_mem_cons.mpr ⟨rfl, (List.forall_mem_cons.mpr ⟨rfl, (List.forall_mem_cons.mpr ⟨rfl, (List.forall_mem_cons.mpr ⟨rfl, (List.forall_mem_cons.mpr ⟨rfl, (fun _ h => nomatch h)⟩)⟩)⟩)⟩)⟩) ?_
  exact bX3_areAttributesSound_193 hd hW hX ga0 gl1 gl2 gs0 (by omega) gl4 (by omega) (by omega) (by omega) (by omega) hP ih_14
set_option maxRecDepth 100000 in
set_option maxHeartbeats 4000000 in
theorem eX3_areAttributesSound_14 {G : xG} {d : Nat} {Post : xP} {B : Nat × Nat} {τ0 τ : Tau} {c0 cs : List va_E} {a0 pm : Nat} {l1 : Int} {l2 : Int} {l3 : Int} {l4 : Int} {n14 : Nat} (hd : 5 ≤ d) (hW : WT G B τ cs) (hX : Fx [1, 3] τ0 c0 τ cs) (ga0 : τ a0 = some (.inl (3, pm))) (gl1 : rng l1) (gl2 : rng l2) (gl3 : rng l3) (bl3 : iv 0 1 l3) (gl4 : rng l4) (i0 : 0 ≤ l1) (i1 : l1 < (pm : Nat))  (hP : ∀ (τ1 : Tau) (c1 : List va_E) (r : Int), WT G B τ1 c1 → Fx [1, 3] τ0 c0 τ1 c1 → rng r → ((iv 0 1 r)) → Post (some (.int (Int32.ofInt r))) c1)  (ih_14 : ∀ {τ : Tau} {cs : List va_E} {a0 pm : Nat} {l1 : Int} {l2 : Int} {l3 : Int} {l4 : Int} (hW : WT G B τ cs) (hX : Fx [1, 3] τ0 c0 τ cs) (ga0 : τ a0 = some (.inl (3, pm))) (gl1 : rng l1) (gl2 : rng l2) (gl3 : rng l3) (bl3 : iv 0 1 l3) (gl4 : rng l4) (i0 : 0 ≤ l1) (i1 : l1 < (pm : Nat)) , (2147483647 - l4).toNat < n14 → Z (RX3, cX3_areAttributesSound, 8, some .boolean, false) G d Post 14 [(0, .ref (G.1 + a0)), (1, .int (Int32.ofInt l1)), (2, .int (Int32.ofInt l2)), (3, .int (Int32.ofInt l3)), (4, .int (Int32.ofInt l4))] [] cs) (hm_14 : (2147483647 - l4).toNat < n14 + 1) : Z (RX3, cX3_areAttributesSound, 8, some .boolean, false) G d Post 14 [(0, .ref (G.1 + a0)), (1, .int (Int32.ofInt l1)), (2, .int (Int32.ofInt l2)), (3, .int (Int32.ofInt l3)), (4, .int (Int32.ofInt l4))] [] cs := by
  have hpm := hW.2.1.2.2.2.2.2.2.1 _ _ ga0
  refine z_iload dX3_areAttributesSound_14 rfl ?_
  refine z_iload_n dX3_areAttributesSound_16 rfl rfl ?_
  refine z_aload_n dX3_areAttributesSound_17 rfl rfl ?_
  refine tw_getO hW ga0 (by decide) (by decide) rfl kX3 fX3_19 dX3_areAttributesSound_18 (fun b1 pb1 gb1 => ?_)
  refine z_iload_n dX3_areAttributesSound_21 rfl rfl ?_
  have hX0 := kX6_attributeCount 1 (Nat.le_refl _) hW gb1 gl1 
  refine z_callV (As := [_]) eX6_attributeCount sX6_attributeCount lX3_169 rfl dX3_areAttributesSound_22 (hW.ob gb1 (by decide)).choose_spec hX0 (Nat.le_trans (by decide) hd) rfl (Nat.le_of_ble_eq_true rfl) (fun r cs1 hp => ?_)
  obtain ⟨hcs, r3, rfl, gr3, ⟨n2_0, n2_1⟩⟩ := hp
  obtain rfl := hcs.symm
  refine z_st (st' := [.int (Int32.ofInt r3), .int (Int32.ofInt l2), .int (Int32.ofInt l4)]) rfl ?_
  refine tw_iadd dX3_areAttributesSound_25 (fun z4 gz4 ez4 => ?_)
  first | have ez4 := ez4 ⟨by omega, by omega⟩ | clear ez4
  refine i_icmp_ge (tgt := 199) dX3_areAttributesSound_26 (by decide) gl4 gz4 (fun h5 => ?_) (fun h5 => ?_)
  · refine z_iload_n dX3_areAttributesSound_199 rfl rfl ?_
    exact z_ireturn dX3_areAttributesSound_200 rfl (nar01 (b01 (by omega))) (hP _ _ _ hW hX gl3 (by omega))
  · refine z_iload_n dX3_areAttributesSound_29 rfl rfl ?_
    refine i_if_eq (tgt := 199) dX3_areAttributesSound_30 (by decide) gl3 (fun h6 => ?_) (fun h6 => ?_)
    · refine z_iload_n dX3_areAttributesSound_199 rfl rfl ?_
      exact z_ireturn dX3_areAttributesSound_200 rfl (nar01 (b01 (by omega))) (hP _ _ _ hW hX gl3 (by omega))
    · refine z_aload_n dX3_areAttributesSound_33 rfl rfl ?_
      refine tw_getO hW ga0 (by decide) (by decide) rfl kX3 fX3_19 dX3_areAttributesSound_34 (fun b7 pb7 gb7 => ?_)
      refine z_iload dX3_areAttributesSound_37 rfl ?_
      have hX0 := kX6_keyFrom 1 (Nat.le_refl _) hW gb7 gl4 
      refine z_callV (As := [_]) eX6_keyFrom sX6_keyFrom lX3_188 rfl dX3_areAttributesSound_39 (hW.ob gb7 (by decide)).choose_spec hX0 (Nat.le_trans (by decide) hd) rfl (Nat.le_of_ble_eq_true rfl) (fun r cs1 hp => ?_)
      obtain ⟨hcs, r9, rfl, gr9, _⟩ := hp
      obtain rfl := hcs.symm
      refine z_st (st' := [.int (Int32.ofInt r9)]) rfl ?_
      refine z_istore dX3_areAttributesSound_42 (by decide) ?_
      refine z_loc (L' := [(0, .ref (G.1 + a0)), (1, .int (Int32.ofInt l1)), (2, .int (Int32.ofInt l2)), (3, .int (Int32.ofInt l3)), (4, .int (Int32.ofInt l4)), (5, .int (Int32.ofInt r9))]) (List.forall_mem_cons.mpr ⟨rfl, (List.forall_mem_cons.mpr ⟨rfl, (List.forall_mem_cons.mpr ⟨rfl, (List.forall_mem_cons.mpr ⟨rfl, (List.forall_mem_cons.mpr ⟨rfl, (List.forall_mem_cons.mpr ⟨rfl, (fun _ h => nomatch h)⟩)⟩)⟩)⟩)⟩)⟩) ?_
      refine z_aload_n dX3_areAttributesSound_44 rfl rfl ?_
      refine tw_getO hW ga0 (by decide) (by decide) rfl kX3 fX3_19 dX3_areAttributesSound_45 (fun b10 pb10 gb10 => ?_)
      refine z_iload dX3_areAttributesSound_48 rfl ?_
      have hX0 := kX6_keyTo 1 (Nat.le_refl _) hW gb10 gl4 
      refine z_callV (As := [_]) eX6_keyTo sX6_keyTo lX3_191 rfl dX3_areAttributesSound_50 (hW.ob gb10 (by decide)).choose_spec hX0 (Nat.le_trans (by decide) hd) rfl (Nat.le_of_ble_eq_true rfl) (fun r cs1 hp => ?_)
      obtain ⟨hcs, r12, rfl, gr12, _⟩ := hp
      obtain rfl := hcs.symm
      refine z_st (st' := [.int (Int32.ofInt r12)]) rfl ?_
      refine z_istore dX3_areAttributesSound_53 (by decide) ?_
      refine z_loc (L' := [(0, .ref (G.1 + a0)), (1, .int (Int32.ofInt l1)), (2, .int (Int32.ofInt l2)), (3, .int (Int32.ofInt l3)), (4, .int (Int32.ofInt l4)), (5, .int (Int32.ofInt r9)), (6, .int (Int32.ofInt r12))]) (List.forall_mem_cons.mpr ⟨rfl, (List.forall_mem_cons.mpr ⟨rfl, (List.forall_mem_cons.mpr ⟨rfl, (List.forall_mem_cons.mpr ⟨rfl, (List.forall_mem_cons.mpr ⟨rfl, (List.forall_mem_cons.mpr ⟨rfl, (List.forall_mem_cons.mpr ⟨rfl, (fun _ h => nomatch h)⟩)⟩)⟩)⟩)⟩)⟩)⟩) ?_
      refine z_aload_n dX3_areAttributesSound_55 rfl rfl ?_
      refine tw_getO hW ga0 (by decide) (by decide) rfl kX3 fX3_29 dX3_areAttributesSound_56 (fun b13 pb13 gb13 => ?_)
      have gb13 : oT τ b13 5 := ⟨_, gb13⟩
      refine z_iload dX3_areAttributesSound_59 rfl ?_
      refine z_iload dX3_areAttributesSound_61 rfl ?_
      refine z_ldcS (i := 25) (tx := "class") (by decide +kernel) dX3_areAttributesSound_63 ?_
      have hX0 := kX5_isAt 4 (Nat.le_refl _) hW gb13 gr9 gr12 (show 25 < xN by decide) 
      refine z_callV (As := [_, _, _]) eX5_isAt sX5_isAt lX3_194 rfl dX3_areAttributesSound_65 (hW.os gb13).choose_spec hX0 (Nat.le_trans (by decide) hd) rfl (Nat.le_of_ble_eq_true rfl) (fun r cs1 hp => ?_)
      obtain ⟨hcs, r15, rfl, gr15, n14_0⟩ := hp
      obtain rfl := hcs.symm
      refine z_st (st' := [.int (Int32.ofInt r15)]) rfl ?_
      refine i_if_eq (tgt := 90) dX3_areAttributesSound_68 (by decide) gr15 (fun h16 => ?_) (fun h16 => ?_)
      · refine z_aload_n dX3_areAttributesSound_90 rfl rfl ?_
        refine tw_getO hW ga0 (by decide) (by decide) rfl kX3 fX3_29 dX3_areAttributesSound_91 (fun b17 pb17 gb17 => ?_)
        have gb17 : oT τ b17 5 := ⟨_, gb17⟩
        refine z_iload dX3_areAttributesSound_94 rfl ?_
        refine z_iload dX3_areAttributesSound_96 rfl ?_
        refine z_ldcS (i := 26) (tx := "id") (by decide +kernel) dX3_areAttributesSound_98 ?_
        have hX0 := kX5_isAt 4 (Nat.le_refl _) hW gb17 gr9 gr12 (show 26 < xN by decide) 
        refine z_callV (As := [_, _, _]) eX5_isAt sX5_isAt lX3_194 rfl dX3_areAttributesSound_100 (hW.os gb17).choose_spec hX0 (Nat.le_trans (by decide) hd) rfl (Nat.le_of_ble_eq_true rfl) (fun r cs1 hp => ?_)
        obtain ⟨hcs, r19, rfl, gr19, n18_0⟩ := hp
        obtain rfl := hcs.symm
        refine z_st (st' := [.int (Int32.ofInt r19)]) rfl ?_
        refine i_if_eq (tgt := 117) dX3_areAttributesSound_103 (by decide) gr19 (fun h20 => ?_) (fun h20 => ?_)
        · refine z_aload_n dX3_areAttributesSound_117 rfl rfl ?_
          refine tw_getO hW ga0 (by decide) (by decide) rfl kX3 fX3_15 dX3_areAttributesSound_118 (fun b21 pb21 gb21 => ?_)
          refine z_aload_n dX3_areAttributesSound_121 rfl rfl ?_
          refine tw_getO hW ga0 (by decide) (by decide) rfl kX3 fX3_37 dX3_areAttributesSound_122 (fun b22 pb22 gb22 => ?_)
          refine z_aload_n dX3_areAttributesSound_125 rfl rfl ?_
          refine tw_getA hW ga0 (by decide) (by decide) rfl kX3 fX3_57 dX3_areAttributesSound_126 (fun b23 _ gb23 => ?_)
          refine z_iload_n dX3_areAttributesSound_129 rfl rfl ?_
          refine tw_iald hW gb23 (by omega) (by omega) dX3_areAttributesSound_130 (fun x24 _ vx24 gx24 => ?_)
          have hX0 := kX1_classOf 1 (Nat.le_refl _) hW gb22 gx24 
          refine z_callV (As := [_]) eX1_classOf sX1_classOf lX3_122 rfl dX3_areAttributesSound_131 (hW.ob gb22 (by decide)).choose_spec hX0 (Nat.le_trans (by decide) hd) rfl (Nat.le_of_ble_eq_true rfl) (fun r cs1 hp => ?_)
          obtain ⟨hcs, r26, rfl, gr26, _⟩ := hp
          obtain rfl := hcs.symm
          refine z_st (st' := [.int (Int32.ofInt r26), .ref (G.1 + b21)]) rfl ?_
          refine z_iconst (v := Int32.ofInt 1) dX3_areAttributesSound_134 rfl ?_
          refine z_aload_n dX3_areAttributesSound_135 rfl rfl ?_
          refine tw_getO hW ga0 (by decide) (by decide) rfl kX3 fX3_29 dX3_areAttributesSound_136 (fun b27 pb27 gb27 => ?_)
          have gb27 : oT τ b27 5 := ⟨_, gb27⟩
          refine z_iload dX3_areAttributesSound_139 rfl ?_
          refine z_iload dX3_areAttributesSound_141 rfl ?_
          have hX0 := kX4_fieldNamed 2 (Nat.le_refl _) hW gb21 gr26 (show rng 1 from ⟨by decide, by decide⟩) gb27 gr9 gr12 (by omega)
          refine z_callV (As := [_, _, _, _, _]) eX4_fieldNamed sX4_fieldNamed lX3_125 rfl dX3_areAttributesSound_143 (hW.ob gb21 (by decide)).choose_spec hX0 (Nat.le_trans (by decide) hd) rfl (Nat.le_of_ble_eq_true rfl) (fun r cs1 hp => ?_)
          obtain ⟨hcs, r29, rfl, gr29, _⟩ := hp
          obtain rfl := hcs.symm
          refine z_st (st' := [.int (Int32.ofInt r29)]) rfl ?_
          refine z_istore dX3_areAttributesSound_146 (by decide) ?_
          refine z_loc (L' := [(0, .ref (G.1 + a0)), (1, .int (Int32.ofInt l1)), (2, .int (Int32.ofInt l2)), (3, .int (Int32.ofInt l3)), (4, .int (Int32.ofInt l4)), (5, .int (Int32.ofInt r9)), (6, .int (Int32.ofInt r12)), (7, .int (Int32.ofInt r29))]) (List.forall_mem_cons.mpr ⟨rfl, (List.forall_mem_cons.mpr ⟨rfl, (List.forall_mem_cons.mpr ⟨rfl, (List.forall_mem_cons.mpr ⟨rfl, (List.forall_mem_cons.mpr ⟨rfl, (List.forall_mem_cons.mpr ⟨rfl, (List.forall_mem_cons.mpr ⟨rfl, (List.forall_mem_cons.mpr ⟨rfl, (fun _ h => nomatch h)⟩)⟩)⟩)⟩)⟩)⟩)⟩)⟩) ?_
          refine z_iload dX3_areAttributesSound_148 rfl ?_
          refine z_iconst (v := Int32.ofInt (-1)) dX3_areAttributesSound_150 rfl ?_
          refine i_icmp_eq (tgt := 191) dX3_areAttributesSound_151 (by decide) gr29 (show rng (-1) from ⟨by decide, by decide⟩) (fun h30 => ?_) (fun h30 => ?_)
          · refine z_loc (L' := [(0, .ref (G.1 + a0)), (1, .int (Int32.ofInt l1)), (2, .int (Int32.ofInt l2)), (4, .int (Int32.ofInt l4))]) (List.forall_mem_cons.mpr ⟨rfl, (List.forall_mem_cons.mpr ⟨rfl, (List.forall_mem_cons.mpr ⟨rfl, (List.forall_mem_cons.mpr ⟨rfl, (fun _ h => nomatch h)⟩)⟩)⟩)⟩) ?_
            exact bX3_areAttributesSound_191 hd hW hX ga0 gl1 gl2 gl4 (by omega) (by omega) (by omega) (by omega) hP ih_14
          · refine z_aload_n dX3_areAttributesSound_154 rfl rfl ?_
            refine z_aload_n dX3_areAttributesSound_155 rfl rfl ?_
            refine tw_getA hW ga0 (by decide) (by decide) rfl kX3 fX3_57 dX3_areAttributesSound_156 (fun b31 _ gb31 => ?_)
            refine z_iload_n dX3_areAttributesSound_159 rfl rfl ?_
            refine tw_iald hW gb31 (by omega) (by omega) dX3_areAttributesSound_160 (fun x32 _ vx32 gx32 => ?_)
            refine z_iload dX3_areAttributesSound_161 rfl ?_
            refine z_aload_n dX3_areAttributesSound_163 rfl rfl ?_
            refine tw_getO hW ga0 (by decide) (by decide) rfl kX3 fX3_19 dX3_areAttributesSound_164 (fun b33 pb33 gb33 => ?_)
            refine z_iload dX3_areAttributesSound_167 rfl ?_
            have hX0 := kX6_valueFrom 1 (Nat.le_refl _) hW gb33 gl4 
            refine z_callV (As := [_]) eX6_valueFrom sX6_valueFrom lX3_146 rfl dX3_areAttributesSound_169 (hW.ob gb33 (by decide)).choose_spec hX0 (Nat.le_trans (by decide) hd) rfl (Nat.le_of_ble_eq_true rfl) (fun r cs1 hp => ?_)
            obtain ⟨hcs, r35, rfl, gr35, _⟩ := hp
            obtain rfl := hcs.symm
            refine z_st (st' := [.int (Int32.ofInt r35), .int (Int32.ofInt r29), .int (Int32.ofInt x32), .ref (G.1 + a0)]) rfl ?_
            refine z_aload_n dX3_areAttributesSound_172 rfl rfl ?_
            refine tw_getO hW ga0 (by decide) (by decide) rfl kX3 fX3_19 dX3_areAttributesSound_173 (fun b36 pb36 gb36 => ?_)
            refine z_iload dX3_areAttributesSound_176 rfl ?_
            have hX0 := kX6_valueTo 1 (Nat.le_refl _) hW gb36 gl4 
            refine z_callV (As := [_]) eX6_valueTo sX6_valueTo lX3_149 rfl dX3_areAttributesSound_178 (hW.ob gb36 (by decide)).choose_spec hX0 (Nat.le_trans (by decide) hd) rfl (Nat.le_of_ble_eq_true rfl) (fun r cs1 hp => ?_)
            obtain ⟨hcs, r38, rfl, gr38, n37_0⟩ := hp
            obtain rfl := hcs.symm
            refine z_st (st' := [.int (Int32.ofInt r38), .int (Int32.ofInt r35), .int (Int32.ofInt r29), .int (Int32.ofInt x32), .ref (G.1 + a0)]) rfl ?_
            have hX0 := kX3_fills 3 (Nat.le_refl _) hW ga0 gx32 gr29 gr35 gr38 
            refine z_callV (As := [_, _, _, _]) eX3_fills sX3_fills lX3_181 rfl dX3_areAttributesSound_181 (hW.ob ga0 (by decide)).choose_spec hX0 (Nat.le_trans (by decide) hd) rfl (Nat.le_of_ble_eq_true rfl) (fun r cs hp => ?_)
            obtain ⟨τ, r40, rfl, gr40, hW, k41, n39_0⟩ := hp
            have hX := hX.tr k41 (by decide)
            have ga0 := k41.1.e ga0 (by decide)
            clear hX0
            refine z_st (st' := [.int (Int32.ofInt r40)]) rfl ?_
            refine i_if_eq (tgt := 191) dX3_areAttributesSound_184 (by decide) gr40 (fun h42 => ?_) (fun h42 => ?_)
            · refine z_loc (L' := [(0, .ref (G.1 + a0)), (1, .int (Int32.ofInt l1)), (2, .int (Int32.ofInt l2)), (4, .int (Int32.ofInt l4))]) (List.forall_mem_cons.mpr ⟨rfl, (List.forall_mem_cons.mpr ⟨rfl, (List.forall_mem_cons.mpr ⟨rfl, (List.forall_mem_cons.mpr ⟨rfl, (fun _ h => nomatch h)⟩)⟩)⟩)⟩) ?_
              exact bX3_areAttributesSound_191 hd hW hX ga0 gl1 gl2 gl4 (by omega) (by omega) (by omega) (by omega) hP ih_14
            · refine z_iconst (v := Int32.ofInt 1) dX3_areAttributesSound_187 rfl ?_
              refine z_goto (tgt := 192) dX3_areAttributesSound_188 (by decide) ?_
              refine z_loc (L' := [(0, .ref (G.1 + a0)), (1, .int (Int32.ofInt l1)), (2, .int (Int32.ofInt l2)), (4, .int (Int32.ofInt l4))]) (List.forall_mem_cons.mpr ⟨rfl, (List.forall_mem_cons.mpr ⟨rfl, (List.forall_mem_cons.mpr ⟨rfl, (List.forall_mem_cons.mpr ⟨rfl, (fun _ h => nomatch h)⟩)⟩)⟩)⟩) ?_
              exact bX3_areAttributesSound_192 hd hW hX ga0 gl1 gl2 gl4 (show rng 1 from ⟨by decide, by decide⟩) ⟨by decide, by decide⟩ (by omega) (by omega) (by omega) (by omega) hP ih_14
        · refine z_aload_n dX3_areAttributesSound_106 rfl rfl ?_
          refine z_iload_n dX3_areAttributesSound_107 rfl rfl ?_
          refine z_iload dX3_areAttributesSound_108 rfl ?_
          have hX0 := kX3_isIdSound 2 (Nat.le_refl _) hW ga0 gl1 gl4 (by omega) (by omega)
          refine z_callV (As := [_, _]) eX3_isIdSound sX3_isIdSound lX3_202 rfl dX3_areAttributesSound_110 (hW.ob ga0 (by decide)).choose_spec hX0 (Nat.le_trans (by decide) hd) rfl (Nat.le_of_ble_eq_true rfl) (fun r cs hp => ?_)
          obtain ⟨τ, r44, rfl, gr44, hW, k45, n43_0⟩ := hp
          have hX := hX.tr k45 (by decide)
          have ga0 := k45.1.e ga0 (by decide)
          clear hX0
          refine z_st (st' := [.int (Int32.ofInt r44)]) rfl ?_
          refine z_istore_n dX3_areAttributesSound_113 rfl (by decide) ?_
          refine z_loc (L' := [(0, .ref (G.1 + a0)), (1, .int (Int32.ofInt l1)), (2, .int (Int32.ofInt l2)), (3, .int (Int32.ofInt r44)), (4, .int (Int32.ofInt l4)), (5, .int (Int32.ofInt r9)), (6, .int (Int32.ofInt r12))]) (List.forall_mem_cons.mpr ⟨rfl, (List.forall_mem_cons.mpr ⟨rfl, (List.forall_mem_cons.mpr ⟨rfl, (List.forall_mem_cons.mpr ⟨rfl, (List.forall_mem_cons.mpr ⟨rfl, (List.forall_mem_cons.mpr ⟨rfl, (List.forall_mem_cons.mpr ⟨rfl, (fun _ h => nomatch h)⟩)⟩)⟩)⟩)⟩)⟩)⟩) ?_
          refine z_goto (tgt := 193) dX3_areAttributesSound_114 (by decide) ?_
          refine z_loc (L' := [(0, .ref (G.1 + a0)), (1, .int (Int32.ofInt l1)), (2, .int (Int32.ofInt l2)), (3, .int (Int32.ofInt r44)), (4, .int (Int32.ofInt l4))]) (List.forall_mem_cons.mpr ⟨rfl, (List.forall_mem_cons.mpr ⟨rfl, (List.forall_mem_cons.mpr ⟨rfl, (List.forall_mem_cons.mpr ⟨rfl, (List.forall_mem_cons.mpr ⟨rfl, (fun _ h => nomatch h)⟩)⟩)⟩)⟩)⟩) ?_
          exact bX3_areAttributesSound_193 hd hW hX ga0 gl1 gl2 gr44 (by omega) gl4 (by omega) (by omega) (by omega) (by omega) hP ih_14
      · refine z_aload_n dX3_areAttributesSound_71 rfl rfl ?_
        refine tw_getA hW ga0 (by decide) (by decide) rfl kX3 fX3_60 dX3_areAttributesSound_72 (fun b46 _ gb46 => ?_)
        refine z_iload_n dX3_areAttributesSound_75 rfl rfl ?_
        refine tw_iald hW gb46 (by omega) (by omega) dX3_areAttributesSound_76 (fun x47 _ vx47 gx47 => ?_)
        refine z_iconst (v := Int32.ofInt (-1)) dX3_areAttributesSound_77 rfl ?_
        refine i_icmp_eq (tgt := 85) dX3_areAttributesSound_78 (by decide) gx47 (show rng (-1) from ⟨by decide, by decide⟩) (fun h48 => ?_) (fun h48 => ?_)
        · refine z_iconst (v := Int32.ofInt 0) dX3_areAttributesSound_85 rfl ?_
          refine z_loc (L' := [(0, .ref (G.1 + a0)), (1, .int (Int32.ofInt l1)), (2, .int (Int32.ofInt l2)), (4, .int (Int32.ofInt l4))]) (List.forall_mem_cons.mpr ⟨rfl, (List.forall_mem_cons.mpr ⟨rfl, (List.forall_mem_cons.mpr ⟨rfl, (List.forall_mem_cons.mpr ⟨rfl, (fun _ h => nomatch h)⟩)⟩)⟩)⟩) ?_
          exact bX3_areAttributesSound_86 hd hW hX ga0 gl1 gl2 gl4 (show rng 0 from ⟨by decide, by decide⟩) ⟨by decide, by decide⟩ (by omega) (by omega) (by omega) (by omega) hP ih_14
        · refine z_iconst (v := Int32.ofInt 1) dX3_areAttributesSound_81 rfl ?_
          refine z_goto (tgt := 86) dX3_areAttributesSound_82 (by decide) ?_
          refine z_loc (L' := [(0, .ref (G.1 + a0)), (1, .int (Int32.ofInt l1)), (2, .int (Int32.ofInt l2)), (4, .int (Int32.ofInt l4))]) (List.forall_mem_cons.mpr ⟨rfl, (List.forall_mem_cons.mpr ⟨rfl, (List.forall_mem_cons.mpr ⟨rfl, (List.forall_mem_cons.mpr ⟨rfl, (fun _ h => nomatch h)⟩)⟩)⟩)⟩) ?_
          exact bX3_areAttributesSound_86 hd hW hX ga0 gl1 gl2 gl4 (show rng 1 from ⟨by decide, by decide⟩) ⟨by decide, by decide⟩ (by omega) (by omega) (by omega) (by omega) hP ih_14
set_option maxRecDepth 100000 in
set_option maxHeartbeats 4000000 in
theorem bX3_areAttributesSound_14 {G : xG} {d : Nat} {Post : xP} {B : Nat × Nat} {τ0 τ : Tau} {c0 cs : List va_E} {a0 pm : Nat} {l1 : Int} {l2 : Int} {l3 : Int} {l4 : Int} (hd : 5 ≤ d) (hW : WT G B τ cs) (hX : Fx [1, 3] τ0 c0 τ cs) (ga0 : τ a0 = some (.inl (3, pm))) (gl1 : rng l1) (gl2 : rng l2) (gl3 : rng l3) (bl3 : iv 0 1 l3) (gl4 : rng l4) (i0 : 0 ≤ l1) (i1 : l1 < (pm : Nat))  (hP : ∀ (τ1 : Tau) (c1 : List va_E) (r : Int), WT G B τ1 c1 → Fx [1, 3] τ0 c0 τ1 c1 → rng r → ((iv 0 1 r)) → Post (some (.int (Int32.ofInt r))) c1)  : Z (RX3, cX3_areAttributesSound, 8, some .boolean, false) G d Post 14 [(0, .ref (G.1 + a0)), (1, .int (Int32.ofInt l1)), (2, .int (Int32.ofInt l2)), (3, .int (Int32.ofInt l3)), (4, .int (Int32.ofInt l4))] [] cs := by
  have key : ∀ (n : Nat) (τ : Tau) (cs : List va_E) (a0 pm : Nat) (l1 : Int) (l2 : Int) (l3 : Int) (l4 : Int) (hW : WT G B τ cs) (hX : Fx [1, 3] τ0 c0 τ cs) (ga0 : τ a0 = some (.inl (3, pm))) (gl1 : rng l1) (gl2 : rng l2) (gl3 : rng l3) (bl3 : iv 0 1 l3) (gl4 : rng l4) (i0 : 0 ≤ l1) (i1 : l1 < (pm : Nat)) , (2147483647 - l4).toNat < n → Z (RX3, cX3_areAttributesSound, 8, some .boolean, false) G d Post 14 [(0, .ref (G.1 + a0)), (1, .int (Int32.ofInt l1)), (2, .int (Int32.ofInt l2)), (3, .int (Int32.ofInt l3)), (4, .int (Int32.ofInt l4))] [] cs := by
    intro n
    induction n with
    | zero => intro τ cs a0 pm l1 l2 l3 l4 hW hX ga0 gl1 gl2 gl3 bl3 gl4 i0 i1 hm; exact absurd hm (Nat.not_lt_zero _)
    | succ n ih =>
      intro τ cs a0 pm l1 l2 l3 l4 hW hX ga0 gl1 gl2 gl3 bl3 gl4 i0 i1 hm
      exact eX3_areAttributesSound_14 hd hW hX ga0 gl1 gl2 gl3 bl3 gl4 i0 i1 hP  (fun hW hX ga0 gl1 gl2 gl3 bl3 gl4 i0 i1 hm => ih _ _ _ _ _ _ _ _ hW hX ga0 gl1 gl2 gl3 bl3 gl4 i0 i1 hm) hm
  exact key _ _ _ _ _ _ _ _ _ hW hX ga0 gl1 gl2 gl3 bl3 gl4 i0 i1 (Nat.lt_succ_self _)
set_option maxRecDepth 100000 in
set_option maxHeartbeats 4000000 in
theorem kX3_areAttributesSound {G : xG} {B : Nat × Nat} {τ : Tau} {cs : List va_E} {a0 pm : Nat} {l1 : Int} (d : Nat) (hd : 5 ≤ d) (hW : WT G B τ cs) (ga0 : τ a0 = some (.inl (3, pm))) (gl1 : rng l1) (p0 : 0 ≤ l1) (p1 : l1 < (pm : Nat)) : X G yX3_areAttributesSound cX3_areAttributesSound 8 (some .boolean) d [.ref (G.1 + a0), .int (Int32.ofInt l1)] cs (wI G B τ cs [1, 3] (fun r => (iv 0 1 r))) := by
  refine X.of false (by decide +kernel) (by decide) (Nat.le_of_ble_eq_true rfl) ?_
  show Z (RX3, cX3_areAttributesSound, 8, some .boolean, false) G d _ 0 [(0, .ref (G.1 + a0)), (1, .int (Int32.ofInt l1))] [] cs
  have hP : ∀ (τ1 : Tau) (c1 : List va_E) (r : Int), WT G B τ1 c1 → Fx [1, 3] τ cs τ1 c1 → rng r → ((iv 0 1 r)) → wI G B τ cs [1, 3] (fun r => (iv 0 1 r)) (some (.int (Int32.ofInt r))) c1 := fun τ1 c1 r h1 h2 h3 h4 => ⟨τ1, r, rfl, h3, h1, h2, h4⟩
  have hX : Fx [1, 3] τ cs τ cs := Fx.rf
  skip
  have hpm := hW.2.1.2.2.2.2.2.2.1 _ _ ga0
  refine z_aload_n dX3_areAttributesSound_0 rfl rfl ?_
  refine tw_getO hW ga0 (by decide) (by decide) rfl kX3 fX3_19 dX3_areAttributesSound_1 (fun b1 pb1 gb1 => ?_)
  refine z_iload_n dX3_areAttributesSound_4 rfl rfl ?_
  have hX0 := kX6_firstAttribute 1 (Nat.le_refl _) hW gb1 gl1 
  refine z_callV (As := [_]) eX6_firstAttribute sX6_firstAttribute lX3_185 rfl dX3_areAttributesSound_5 (hW.ob gb1 (by decide)).choose_spec hX0 (Nat.le_trans (by decide) hd) rfl (Nat.le_of_ble_eq_true rfl) (fun r cs1 hp => ?_)
  obtain ⟨hcs, r3, rfl, gr3, ⟨n2_0, n2_1⟩⟩ := hp
  obtain rfl := hcs.symm
  refine z_st (st' := [.int (Int32.ofInt r3)]) rfl ?_
  refine z_istore_n dX3_areAttributesSound_8 rfl (by decide) ?_
  refine z_loc (L' := [(0, .ref (G.1 + a0)), (1, .int (Int32.ofInt l1)), (2, .int (Int32.ofInt r3))]) (List.forall_mem_cons.mpr ⟨rfl, (List.forall_mem_cons.mpr ⟨rfl, (List.forall_mem_cons.mpr ⟨rfl, (fun _ h => nomatch h)⟩)⟩)⟩) ?_
  refine z_iconst (v := Int32.ofInt 1) dX3_areAttributesSound_9 rfl ?_
  refine z_istore_n dX3_areAttributesSound_10 rfl (by decide) ?_
  refine z_loc (L' := [(0, .ref (G.1 + a0)), (1, .int (Int32.ofInt l1)), (2, .int (Int32.ofInt r3)), (3, .int (Int32.ofInt 1))]) (List.forall_mem_cons.mpr ⟨rfl, (List.forall_mem_cons.mpr ⟨rfl, (List.forall_mem_cons.mpr ⟨rfl, (List.forall_mem_cons.mpr ⟨rfl, (fun _ h => nomatch h)⟩)⟩)⟩)⟩) ?_
  refine z_iload_n dX3_areAttributesSound_11 rfl rfl ?_
  refine z_istore dX3_areAttributesSound_12 (by decide) ?_
  refine z_loc (L' := [(0, .ref (G.1 + a0)), (1, .int (Int32.ofInt l1)), (2, .int (Int32.ofInt r3)), (3, .int (Int32.ofInt 1)), (4, .int (Int32.ofInt r3))]) (List.forall_mem_cons.mpr ⟨rfl, (List.forall_mem_cons.mpr ⟨rfl, (List.forall_mem_cons.mpr ⟨rfl, (List.forall_mem_cons.mpr ⟨rfl, (List.forall_mem_cons.mpr ⟨rfl, (fun _ h => nomatch h)⟩)⟩)⟩)⟩)⟩) ?_
  refine z_loc (L' := [(0, .ref (G.1 + a0)), (1, .int (Int32.ofInt l1)), (2, .int (Int32.ofInt r3)), (3, .int (Int32.ofInt 1)), (4, .int (Int32.ofInt r3))]) (List.forall_mem_cons.mpr ⟨rfl, (List.forall_mem_cons.mpr ⟨rfl, (List.forall_mem_cons.mpr ⟨rfl, (List.forall_mem_cons.mpr ⟨rfl, (List.forall_mem_cons.mpr ⟨rfl, (fun _ h => nomatch h)⟩)⟩)⟩)⟩)⟩) ?_
  exact bX3_areAttributesSound_14 hd hW hX ga0 gl1 gr3 (show rng 1 from ⟨by decide, by decide⟩) ⟨by decide, by decide⟩ gr3 (by omega) (by omega)  hP 

