set_option maxRecDepth 100000 in
set_option maxHeartbeats 4000000 in
theorem eX7_placeOf_3 {G : xG} {d : Nat} {Post : xP} {B : Nat × Nat} {τ : Tau} {cs : List va_E} {a0 pa0 : Nat} {l1 : Int} {l3 : Int} {l4 : Int} {n3 : Nat} (hd : 1 ≤ d) (hW : WT G B τ cs) (ga0 : τ a0 = some (.inl (7, pa0))) (gl1 : rng l1) (gl3 : rng l3) (gl4 : rng l4)   (hP : ∀ r : Int, rng r → (True) → Post (some (.int (Int32.ofInt r))) cs)  (ih_3 : ∀ {a0 pa0 : Nat} {l1 : Int} {l3 : Int} {l4 : Int} (hW : WT G B τ cs) (ga0 : τ a0 = some (.inl (7, pa0))) (gl1 : rng l1) (gl3 : rng l3) (gl4 : rng l4)  , (l3 - l4).toNat < n3 → Z (RX7, cX7_placeOf, 5, some .int, false) G d Post 3 [(0, .ref (G.1 + a0)), (1, .int (Int32.ofInt l1)), (3, .int (Int32.ofInt l3)), (4, .int (Int32.ofInt l4))] [] cs) (hm_3 : (l3 - l4).toNat < n3 + 1) : Z (RX7, cX7_placeOf, 5, some .int, false) G d Post 3 [(0, .ref (G.1 + a0)), (1, .int (Int32.ofInt l1)), (3, .int (Int32.ofInt l3)), (4, .int (Int32.ofInt l4))] [] cs := by
  refine z_iload dX7_placeOf_3 rfl ?_
  refine z_iload_n dX7_placeOf_5 rfl rfl ?_
  refine i_icmp_ge (tgt := 31) dX7_placeOf_6 (by decide) gl4 gl3 (fun h1 => ?_) (fun h1 => ?_)
  · refine z_iload_n dX7_placeOf_31 rfl rfl ?_
    exact z_ireturn dX7_placeOf_32 rfl rfl (hP _ gl3 trivial)
  · refine z_aload_n dX7_placeOf_9 rfl rfl ?_
    refine tw_getO hW ga0 (by decide) (by decide) rfl kX7 fX7_21 dX7_placeOf_10 (fun b2 pb2 gb2 => ?_)
    have gb2 : oT τ b2 5 := ⟨_, gb2⟩
    refine z_iload dX7_placeOf_13 rfl ?_
    have hX0 := kX5_at 0 (Nat.le_refl _) hW gb2 gl4 
    refine z_callV (As := [_]) eX5_at sX5_at lX7_24 rfl dX7_placeOf_15 (hW.os gb2).choose_spec hX0 (Nat.le_trans (by decide) hd) rfl (Nat.le_of_ble_eq_true rfl) (fun r cs1 hp => ?_)
    obtain ⟨hcs, r4, rfl, gr4, n3_0⟩ := hp
    obtain rfl := hcs.symm
    refine z_st (st' := [.int (Int32.ofInt r4)]) rfl ?_
    refine z_iload_n dX7_placeOf_18 rfl rfl ?_
    refine i_icmp_ne (tgt := 25) dX7_placeOf_19 (by decide) gr4 gl1 (fun h5 => ?_) (fun h5 => ?_)
    · refine tw_iinc (l := l4) dX7_placeOf_25 rfl (by decide) (fun z6 gz6 ez6 => ?_)
      first | have ez6 := ez6 ⟨by omega, by omega⟩ | clear ez6
      refine z_loc (L' := [(0, .ref (G.1 + a0)), (1, .int (Int32.ofInt l1)), (3, .int (Int32.ofInt l3)), (4, .int (Int32.ofInt z6))]) (List.forall_mem_cons.mpr ⟨rfl, (List.forall_mem_cons.mpr ⟨rfl, (List.forall_mem_cons.mpr ⟨rfl, (List.forall_mem_cons.mpr ⟨rfl, (fun _ h => nomatch h)⟩)⟩)⟩)⟩) ?_
      refine z_goto (tgt := 3) dX7_placeOf_28 (by decide) ?_
      refine z_loc (L' := [(0, .ref (G.1 + a0)), (1, .int (Int32.ofInt l1)), (3, .int (Int32.ofInt l3)), (4, .int (Int32.ofInt z6))]) (List.forall_mem_cons.mpr ⟨rfl, (List.forall_mem_cons.mpr ⟨rfl, (List.forall_mem_cons.mpr ⟨rfl, (List.forall_mem_cons.mpr ⟨rfl, (fun _ h => nomatch h)⟩)⟩)⟩)⟩) ?_
      exact ih_3 hW ga0 gl1 gl3 gz6   (by omega)
    · refine z_iload dX7_placeOf_22 rfl ?_
      exact z_ireturn dX7_placeOf_24 rfl rfl (hP _ gl4 trivial)
set_option maxRecDepth 100000 in
set_option maxHeartbeats 4000000 in
theorem bX7_placeOf_3 {G : xG} {d : Nat} {Post : xP} {B : Nat × Nat} {τ : Tau} {cs : List va_E} {a0 pa0 : Nat} {l1 : Int} {l3 : Int} {l4 : Int} (hd : 1 ≤ d) (hW : WT G B τ cs) (ga0 : τ a0 = some (.inl (7, pa0))) (gl1 : rng l1) (gl3 : rng l3) (gl4 : rng l4)   (hP : ∀ r : Int, rng r → (True) → Post (some (.int (Int32.ofInt r))) cs)  : Z (RX7, cX7_placeOf, 5, some .int, false) G d Post 3 [(0, .ref (G.1 + a0)), (1, .int (Int32.ofInt l1)), (3, .int (Int32.ofInt l3)), (4, .int (Int32.ofInt l4))] [] cs := by
  have key : ∀ (n : Nat) (a0 pa0 : Nat) (l1 : Int) (l3 : Int) (l4 : Int) (hW : WT G B τ cs) (ga0 : τ a0 = some (.inl (7, pa0))) (gl1 : rng l1) (gl3 : rng l3) (gl4 : rng l4)  , (l3 - l4).toNat < n → Z (RX7, cX7_placeOf, 5, some .int, false) G d Post 3 [(0, .ref (G.1 + a0)), (1, .int (Int32.ofInt l1)), (3, .int (Int32.ofInt l3)), (4, .int (Int32.ofInt l4))] [] cs := by
    intro n
    induction n with
    | zero => intro a0 pa0 l1 l3 l4 hW ga0 gl1 gl3 gl4 hm; exact absurd hm (Nat.not_lt_zero _)
    | succ n ih =>
      intro a0 pa0 l1 l3 l4 hW ga0 gl1 gl3 gl4 hm
      exact eX7_placeOf_3 hd hW ga0 gl1 gl3 gl4 hP  (fun hW ga0 gl1 gl3 gl4 hm => ih _ _ _ _ _ hW ga0 gl1 gl3 gl4 hm) hm
  exact key _ _ _ _ _ _ hW ga0 gl1 gl3 gl4 (Nat.lt_succ_self _)
set_option maxRecDepth 100000 in
set_option maxHeartbeats 4000000 in
theorem kX7_placeOf {G : xG} {B : Nat × Nat} {τ : Tau} {cs : List va_E} {a0 pa0 : Nat} {l1 : Int} {l2 : Int} {l3 : Int} (d : Nat) (hd : 1 ≤ d) (hW : WT G B τ cs) (ga0 : τ a0 = some (.inl (7, pa0))) (gl1 : rng l1) (gl2 : rng l2) (gl3 : rng l3)  : X G yX7_placeOf cX7_placeOf 5 (some .int) d [.ref (G.1 + a0), .int (Int32.ofInt l1), .int (Int32.ofInt l2), .int (Int32.ofInt l3)] cs (rI cs (fun r => True)) := by
  refine X.of false (by decide +kernel) (by decide) (Nat.le_of_ble_eq_true rfl) ?_
  show Z (RX7, cX7_placeOf, 5, some .int, false) G d _ 0 [(0, .ref (G.1 + a0)), (1, .int (Int32.ofInt l1)), (2, .int (Int32.ofInt l2)), (3, .int (Int32.ofInt l3))] [] cs
  have hP : ∀ r : Int, rng r → (True) → rI cs (fun r => True) (some (.int (Int32.ofInt r))) cs := fun r h1 h2 => ⟨rfl, r, rfl, h1, h2⟩
  refine z_iload_n dX7_placeOf_0 rfl rfl ?_
  refine z_istore dX7_placeOf_1 (by decide) ?_
  refine z_loc (L' := [(0, .ref (G.1 + a0)), (1, .int (Int32.ofInt l1)), (2, .int (Int32.ofInt l2)), (3, .int (Int32.ofInt l3)), (4, .int (Int32.ofInt l2))]) (List.forall_mem_cons.mpr ⟨rfl, (List.forall_mem_cons.mpr ⟨rfl, (List.forall_mem_cons.mpr ⟨rfl, (List.forall_mem_cons.mpr ⟨rfl, (List.forall_mem_cons.mpr ⟨rfl, (fun _ h => nomatch h)⟩)⟩)⟩)⟩)⟩) ?_
  refine z_loc (L' := [(0, .ref (G.1 + a0)), (1, .int (Int32.ofInt l1)), (3, .int (Int32.ofInt l3)), (4, .int (Int32.ofInt l2))]) (List.forall_mem_cons.mpr ⟨rfl, (List.forall_mem_cons.mpr ⟨rfl, (List.forall_mem_cons.mpr ⟨rfl, (List.forall_mem_cons.mpr ⟨rfl, (fun _ h => nomatch h)⟩)⟩)⟩)⟩) ?_
  exact bX7_placeOf_3 hd hW ga0 gl1 gl3 gl2   hP 

set_option maxRecDepth 100000 in
set_option maxHeartbeats 4000000 in
theorem eX7_rank_50 {G : xG} {d : Nat} {Post : xP} {B : Nat × Nat} {τ : Tau} {cs : List va_E} {a0 pa0 : Nat} {l3 : Int} {l4 : Int} {l5 : Int} {n50 : Nat} (hd : 1 ≤ d) (hW : WT G B τ cs) (ga0 : τ a0 = some (.inl (7, pa0))) (gl3 : rng l3) (gl4 : rng l4) (gl5 : rng l5)   (hP : ∀ r : Int, rng r → (True) → Post (some (.int (Int32.ofInt r))) cs)  (ih_50 : ∀ {a0 pa0 : Nat} {l3 : Int} {l4 : Int} {l5 : Int} (hW : WT G B τ cs) (ga0 : τ a0 = some (.inl (7, pa0))) (gl3 : rng l3) (gl4 : rng l4) (gl5 : rng l5)  , (l3 - l5).toNat < n50 → Z (RX7, cX7_rank, 6, some .int, false) G d Post 50 [(0, .ref (G.1 + a0)), (3, .int (Int32.ofInt l3)), (4, .int (Int32.ofInt l4)), (5, .int (Int32.ofInt l5))] [] cs) (hm_50 : (l3 - l5).toNat < n50 + 1) : Z (RX7, cX7_rank, 6, some .int, false) G d Post 50 [(0, .ref (G.1 + a0)), (3, .int (Int32.ofInt l3)), (4, .int (Int32.ofInt l4)), (5, .int (Int32.ofInt l5))] [] cs := by
  refine z_iload dX7_rank_50 rfl ?_
  refine z_iload_n dX7_rank_52 rfl rfl ?_
  refine i_icmp_ge (tgt := 99) dX7_rank_53 (by decide) gl5 gl3 (fun h1 => ?_) (fun h1 => ?_)
  · refine z_iload dX7_rank_99 rfl ?_
    refine z_iconst (v := Int32.ofInt 1) dX7_rank_101 rfl ?_
    refine i_icmp_ne (tgt := 109) dX7_rank_102 (by decide) gl4 (show rng 1 from ⟨by decide, by decide⟩) (fun h2 => ?_) (fun h2 => ?_)
    · refine z_iload dX7_rank_109 rfl ?_
      exact z_ireturn dX7_rank_111 rfl rfl (hP _ gl4 trivial)
    · refine z_iconst (v := Int32.ofInt 0) dX7_rank_105 rfl ?_
      refine z_goto (tgt := 111) dX7_rank_106 (by decide) ?_
      exact z_ireturn dX7_rank_111 rfl rfl (hP _ (show rng 0 from ⟨by decide, by decide⟩) trivial)
  · refine z_aload_n dX7_rank_56 rfl rfl ?_
    refine tw_getO hW ga0 (by decide) (by decide) rfl kX7 fX7_21 dX7_rank_57 (fun b3 pb3 gb3 => ?_)
    have gb3 : oT τ b3 5 := ⟨_, gb3⟩
    refine z_iload dX7_rank_60 rfl ?_
    have hX0 := kX5_at 0 (Nat.le_refl _) hW gb3 gl5 
    refine z_callV (As := [_]) eX5_at sX5_at lX7_24 rfl dX7_rank_62 (hW.os gb3).choose_spec hX0 (Nat.le_trans (by decide) hd) rfl (Nat.le_of_ble_eq_true rfl) (fun r cs1 hp => ?_)
    obtain ⟨hcs, r5, rfl, gr5, n4_0⟩ := hp
    obtain rfl := hcs.symm
    refine z_st (st' := [.int (Int32.ofInt r5)]) rfl ?_
    have hX0 := kX10_isDigit 0 (Nat.le_refl _) hW gr5 
    refine z_callSN (As := [_]) eX10_isDigit sX10_isDigit lX7_52 dX7_rank_65 hX0 (Nat.le_trans (by decide) hd) rfl (Nat.le_of_ble_eq_true rfl) (fun r cs1 hp => ?_)
    obtain ⟨hcs, r7, rfl, gr7, n6_0⟩ := hp
    obtain rfl := hcs.symm
    refine z_st (st' := [.int (Int32.ofInt r7)]) rfl ?_
    refine i_if_ne (tgt := 73) dX7_rank_68 (by decide) gr7 (fun h8 => ?_) (fun h8 => ?_)
    · refine z_iload dX7_rank_73 rfl ?_
      refine z_bipush (v := Int32.ofInt 10) dX7_rank_75 (by decide) ?_
      refine tw_imul dX7_rank_77 (fun z9 gz9 ez9 => ?_)
      first | have ez9 := ez9 ⟨by omega, by omega⟩ | clear ez9
      refine z_aload_n dX7_rank_78 rfl rfl ?_
      refine tw_getO hW ga0 (by decide) (by decide) rfl kX7 fX7_21 dX7_rank_79 (fun b10 pb10 gb10 => ?_)
      have gb10 : oT τ b10 5 := ⟨_, gb10⟩
      refine z_iload dX7_rank_82 rfl ?_
      have hX0 := kX5_at 0 (Nat.le_refl _) hW gb10 gl5 
      refine z_callV (As := [_]) eX5_at sX5_at lX7_24 rfl dX7_rank_84 (hW.os gb10).choose_spec hX0 (Nat.le_trans (by decide) hd) rfl (Nat.le_of_ble_eq_true rfl) (fun r cs1 hp => ?_)
      obtain ⟨hcs, r12, rfl, gr12, n11_0⟩ := hp
      obtain rfl := hcs.symm
      refine z_st (st' := [.int (Int32.ofInt r12), .int (Int32.ofInt z9)]) rfl ?_
      refine tw_iadd dX7_rank_87 (fun z13 gz13 ez13 => ?_)
      first | have ez13 := ez13 ⟨by omega, by omega⟩ | clear ez13
      refine z_bipush (v := Int32.ofInt 48) dX7_rank_88 (by decide) ?_
      refine tw_isub dX7_rank_90 (fun z14 gz14 ez14 => ?_)
      first | have ez14 := ez14 ⟨by omega, by omega⟩ | clear ez14
      refine z_istore dX7_rank_91 (by decide) ?_
      refine z_loc (L' := [(0, .ref (G.1 + a0)), (3, .int (Int32.ofInt l3)), (4, .int (Int32.ofInt z14)), (5, .int (Int32.ofInt l5))]) (List.forall_mem_cons.mpr ⟨rfl, (List.forall_mem_cons.mpr ⟨rfl, (List.forall_mem_cons.mpr ⟨rfl, (List.forall_mem_cons.mpr ⟨rfl, (fun _ h => nomatch h)⟩)⟩)⟩)⟩) ?_
      refine tw_iinc (l := l5) dX7_rank_93 rfl (by decide) (fun z15 gz15 ez15 => ?_)
      first | have ez15 := ez15 ⟨by omega, by omega⟩ | clear ez15
      refine z_loc (L' := [(0, .ref (G.1 + a0)), (3, .int (Int32.ofInt l3)), (4, .int (Int32.ofInt z14)), (5, .int (Int32.ofInt z15))]) (List.forall_mem_cons.mpr ⟨rfl, (List.forall_mem_cons.mpr ⟨rfl, (List.forall_mem_cons.mpr ⟨rfl, (List.forall_mem_cons.mpr ⟨rfl, (fun _ h => nomatch h)⟩)⟩)⟩)⟩) ?_
      refine z_goto (tgt := 50) dX7_rank_96 (by decide) ?_
      refine z_loc (L' := [(0, .ref (G.1 + a0)), (3, .int (Int32.ofInt l3)), (4, .int (Int32.ofInt z14)), (5, .int (Int32.ofInt z15))]) (List.forall_mem_cons.mpr ⟨rfl, (List.forall_mem_cons.mpr ⟨rfl, (List.forall_mem_cons.mpr ⟨rfl, (List.forall_mem_cons.mpr ⟨rfl, (fun _ h => nomatch h)⟩)⟩)⟩)⟩) ?_
      exact ih_50 hW ga0 gl3 gz14 gz15   (by omega)
    · refine z_iconst (v := Int32.ofInt 0) dX7_rank_71 rfl ?_
      exact z_ireturn dX7_rank_72 rfl rfl (hP _ (show rng 0 from ⟨by decide, by decide⟩) trivial)
set_option maxRecDepth 100000 in
set_option maxHeartbeats 4000000 in
theorem bX7_rank_50 {G : xG} {d : Nat} {Post : xP} {B : Nat × Nat} {τ : Tau} {cs : List va_E} {a0 pa0 : Nat} {l3 : Int} {l4 : Int} {l5 : Int} (hd : 1 ≤ d) (hW : WT G B τ cs) (ga0 : τ a0 = some (.inl (7, pa0))) (gl3 : rng l3) (gl4 : rng l4) (gl5 : rng l5)   (hP : ∀ r : Int, rng r → (True) → Post (some (.int (Int32.ofInt r))) cs)  : Z (RX7, cX7_rank, 6, some .int, false) G d Post 50 [(0, .ref (G.1 + a0)), (3, .int (Int32.ofInt l3)), (4, .int (Int32.ofInt l4)), (5, .int (Int32.ofInt l5))] [] cs := by
  have key : ∀ (n : Nat) (a0 pa0 : Nat) (l3 : Int) (l4 : Int) (l5 : Int) (hW : WT G B τ cs) (ga0 : τ a0 = some (.inl (7, pa0))) (gl3 : rng l3) (gl4 : rng l4) (gl5 : rng l5)  , (l3 - l5).toNat < n → Z (RX7, cX7_rank, 6, some .int, false) G d Post 50 [(0, .ref (G.1 + a0)), (3, .int (Int32.ofInt l3)), (4, .int (Int32.ofInt l4)), (5, .int (Int32.ofInt l5))] [] cs := by
    intro n
    induction n with
    | zero => intro a0 pa0 l3 l4 l5 hW ga0 gl3 gl4 gl5 hm; exact absurd hm (Nat.not_lt_zero _)
    | succ n ih =>
      intro a0 pa0 l3 l4 l5 hW ga0 gl3 gl4 gl5 hm
      exact eX7_rank_50 hd hW ga0 gl3 gl4 gl5 hP  (fun hW ga0 gl3 gl4 gl5 hm => ih _ _ _ _ _ hW ga0 gl3 gl4 gl5 hm) hm
  exact key _ _ _ _ _ _ hW ga0 gl3 gl4 gl5 (Nat.lt_succ_self _)
set_option maxRecDepth 100000 in
set_option maxHeartbeats 4000000 in
theorem kX7_rank {G : xG} {B : Nat × Nat} {τ : Tau} {cs : List va_E} {a0 pa0 : Nat} {l1 : Int} {l2 : Int} (d : Nat) (hd : 1 ≤ d) (hW : WT G B τ cs) (ga0 : τ a0 = some (.inl (7, pa0))) (gl1 : rng l1) (gl2 : rng l2)  : X G yX7_rank cX7_rank 6 (some .int) d [.ref (G.1 + a0), .int (Int32.ofInt l1), .int (Int32.ofInt l2)] cs (rI cs (fun r => True)) := by
  refine X.of false (by decide +kernel) (by decide) (Nat.le_of_ble_eq_true rfl) ?_
  show Z (RX7, cX7_rank, 6, some .int, false) G d _ 0 [(0, .ref (G.1 + a0)), (1, .int (Int32.ofInt l1)), (2, .int (Int32.ofInt l2))] [] cs
  have hP : ∀ r : Int, rng r → (True) → rI cs (fun r => True) (some (.int (Int32.ofInt r))) cs := fun r h1 h2 => ⟨rfl, r, rfl, h1, h2⟩
  refine z_iload_n dX7_rank_0 rfl rfl ?_
  refine z_iconst (v := Int32.ofInt 1) dX7_rank_1 rfl ?_
  refine tw_isub dX7_rank_2 (fun z1 gz1 ez1 => ?_)
  first | have ez1 := ez1 ⟨by omega, by omega⟩ | clear ez1
  refine z_istore_n dX7_rank_3 rfl (by decide) ?_
  refine z_loc (L' := [(0, .ref (G.1 + a0)), (1, .int (Int32.ofInt l1)), (2, .int (Int32.ofInt l2)), (3, .int (Int32.ofInt z1))]) (List.forall_mem_cons.mpr ⟨rfl, (List.forall_mem_cons.mpr ⟨rfl, (List.forall_mem_cons.mpr ⟨rfl, (List.forall_mem_cons.mpr ⟨rfl, (fun _ h => nomatch h)⟩)⟩)⟩)⟩) ?_
  refine z_iload_n dX7_rank_4 rfl rfl ?_
  refine z_iload_n dX7_rank_5 rfl rfl ?_
  refine i_icmp_le (tgt := 42) dX7_rank_6 (by decide) gz1 gl1 (fun h2 => ?_) (fun h2 => ?_)
  · refine z_iconst (v := Int32.ofInt 0) dX7_rank_42 rfl ?_
    exact z_ireturn dX7_rank_43 rfl rfl (hP _ (show rng 0 from ⟨by decide, by decide⟩) trivial)
  · refine z_iload_n dX7_rank_9 rfl rfl ?_
    refine z_iload_n dX7_rank_10 rfl rfl ?_
    refine tw_isub dX7_rank_11 (fun z3 gz3 ez3 => ?_)
    first | have ez3 := ez3 ⟨by omega, by omega⟩ | clear ez3
    refine z_iconst (v := Int32.ofInt 3) dX7_rank_12 rfl ?_
    refine i_icmp_gt (tgt := 42) dX7_rank_13 (by decide) gz3 (show rng 3 from ⟨by decide, by decide⟩) (fun h4 => ?_) (fun h4 => ?_)
    · refine z_iconst (v := Int32.ofInt 0) dX7_rank_42 rfl ?_
      exact z_ireturn dX7_rank_43 rfl rfl (hP _ (show rng 0 from ⟨by decide, by decide⟩) trivial)
    · refine z_aload_n dX7_rank_16 rfl rfl ?_
      refine tw_getO hW ga0 (by decide) (by decide) rfl kX7 fX7_21 dX7_rank_17 (fun b5 pb5 gb5 => ?_)
      have gb5 : oT τ b5 5 := ⟨_, gb5⟩
      refine z_iload_n dX7_rank_20 rfl rfl ?_
      have hX0 := kX5_at 0 (Nat.le_refl _) hW gb5 gz1 
      refine z_callV (As := [_]) eX5_at sX5_at lX7_24 rfl dX7_rank_21 (hW.os gb5).choose_spec hX0 (Nat.le_trans (by decide) hd) rfl (Nat.le_of_ble_eq_true rfl) (fun r cs1 hp => ?_)
      obtain ⟨hcs, r7, rfl, gr7, n6_0⟩ := hp
      obtain rfl := hcs.symm
      refine z_st (st' := [.int (Int32.ofInt r7)]) rfl ?_
      refine z_bipush (v := Int32.ofInt 93) dX7_rank_24 (by decide) ?_
      refine i_icmp_ne (tgt := 42) dX7_rank_26 (by decide) gr7 (show rng 93 from ⟨by decide, by decide⟩) (fun h8 => ?_) (fun h8 => ?_)
      · refine z_iconst (v := Int32.ofInt 0) dX7_rank_42 rfl ?_
        exact z_ireturn dX7_rank_43 rfl rfl (hP _ (show rng 0 from ⟨by decide, by decide⟩) trivial)
      · refine z_aload_n dX7_rank_29 rfl rfl ?_
        refine tw_getO hW ga0 (by decide) (by decide) rfl kX7 fX7_21 dX7_rank_30 (fun b9 pb9 gb9 => ?_)
        have gb9 : oT τ b9 5 := ⟨_, gb9⟩
        refine z_iload_n dX7_rank_33 rfl rfl ?_
        have hX0 := kX5_at 0 (Nat.le_refl _) hW gb9 gl1 
        refine z_callV (As := [_]) eX5_at sX5_at lX7_24 rfl dX7_rank_34 (hW.os gb9).choose_spec hX0 (Nat.le_trans (by decide) hd) rfl (Nat.le_of_ble_eq_true rfl) (fun r cs1 hp => ?_)
        obtain ⟨hcs, r11, rfl, gr11, n10_0⟩ := hp
        obtain rfl := hcs.symm
        refine z_st (st' := [.int (Int32.ofInt r11)]) rfl ?_
        refine z_bipush (v := Int32.ofInt 48) dX7_rank_37 (by decide) ?_
        refine i_icmp_ne (tgt := 44) dX7_rank_39 (by decide) gr11 (show rng 48 from ⟨by decide, by decide⟩) (fun h12 => ?_) (fun h12 => ?_)
        · refine z_iconst (v := Int32.ofInt 0) dX7_rank_44 rfl ?_
          refine z_istore dX7_rank_45 (by decide) ?_
          refine z_loc (L' := [(0, .ref (G.1 + a0)), (1, .int (Int32.ofInt l1)), (2, .int (Int32.ofInt l2)), (3, .int (Int32.ofInt z1)), (4, .int (Int32.ofInt 0))]) (List.forall_mem_cons.mpr ⟨rfl, (List.forall_mem_cons.mpr ⟨rfl, (List.forall_mem_cons.mpr ⟨rfl, (List.forall_mem_cons.mpr ⟨rfl, (List.forall_mem_cons.mpr ⟨rfl, (fun _ h => nomatch h)⟩)⟩)⟩)⟩)⟩) ?_
          refine z_iload_n dX7_rank_47 rfl rfl ?_
          refine z_istore dX7_rank_48 (by decide) ?_
          refine z_loc (L' := [(0, .ref (G.1 + a0)), (1, .int (Int32.ofInt l1)), (2, .int (Int32.ofInt l2)), (3, .int (Int32.ofInt z1)), (4, .int (Int32.ofInt 0)), (5, .int (Int32.ofInt l1))]) (List.forall_mem_cons.mpr ⟨rfl, (List.forall_mem_cons.mpr ⟨rfl, (List.forall_mem_cons.mpr ⟨rfl, (List.forall_mem_cons.mpr ⟨rfl, (List.forall_mem_cons.mpr ⟨rfl, (List.forall_mem_cons.mpr ⟨rfl, (fun _ h => nomatch h)⟩)⟩)⟩)⟩)⟩)⟩) ?_
          refine z_loc (L' := [(0, .ref (G.1 + a0)), (3, .int (Int32.ofInt z1)), (4, .int (Int32.ofInt 0)), (5, .int (Int32.ofInt l1))]) (List.forall_mem_cons.mpr ⟨rfl, (List.forall_mem_cons.mpr ⟨rfl, (List.forall_mem_cons.mpr ⟨rfl, (List.forall_mem_cons.mpr ⟨rfl, (fun _ h => nomatch h)⟩)⟩)⟩)⟩) ?_
          exact bX7_rank_50 hd hW ga0 gz1 (show rng 0 from ⟨by decide, by decide⟩) gl1   hP 
        · refine z_iconst (v := Int32.ofInt 0) dX7_rank_42 rfl ?_
          exact z_ireturn dX7_rank_43 rfl rfl (hP _ (show rng 0 from ⟨by decide, by decide⟩) trivial)

set_option maxRecDepth 100000 in
set_option maxHeartbeats 4000000 in
theorem bX7_down_65 {G : xG} {d : Nat} {Post : xP} {B : Nat × Nat} {τ : Tau} {cs : List va_E} {a0 pa0 : Nat} {l3 : Int} {l4 : Int} {l5 : Int} {l6 : Int} {l7 : Int} {l8 : Int} {s0 : Int} {n9 : Nat} (hd : 3 ≤ d) (hW : WT G B τ cs) (ga0 : τ a0 = some (.inl (7, pa0))) (gl3 : rng l3) (gl4 : rng l4) (gl5 : rng l5) (gl6 : rng l6) (gl7 : rng l7) (gl8 : rng l8) (gs0 : rng s0) (i0 : 1 ≤ l3 + 1 - l6) (i1 : iv (-1) 1000 l4) (i2 : l3 ≤ 3000) (i3 : l3 ≤ 3000) (hm_9 : (l3 + 1 - l6).toNat < n9 + 1) (hP : ∀ r : Int, rng r → (True) → Post (some (.int (Int32.ofInt r))) cs) (ih_9 : ∀ {a0 pa0 : Nat} {l3 : Int} {l4 : Int} {l5 : Int} {l6 : Int} (hW : WT G B τ cs) (ga0 : τ a0 = some (.inl (7, pa0))) (gl3 : rng l3) (gl4 : rng l4) (gl5 : rng l5) (gl6 : rng l6) (i0 : iv (-1) 1000 l4) (i1 : l3 ≤ 3000) (i2 : l3 ≤ 3000) , (l3 + 1 - l6).toNat < n9 → Z (RX7, cX7_down, 10, some .int, false) G d Post 9 [(0, .ref (G.1 + a0)), (3, .int (Int32.ofInt l3)), (4, .int (Int32.ofInt l4)), (5, .int (Int32.ofInt l5)), (6, .int (Int32.ofInt l6))] [] cs) : Z (RX7, cX7_down, 10, some .int, false) G d Post 65 [(0, .ref (G.1 + a0)), (3, .int (Int32.ofInt l3)), (4, .int (Int32.ofInt l4)), (5, .int (Int32.ofInt l5)), (6, .int (Int32.ofInt l6)), (7, .int (Int32.ofInt l7)), (8, .int (Int32.ofInt l8))] [.int (Int32.ofInt s0)] cs := by
  refine z_istore dX7_down_65 (by decide) ?_
  refine z_loc (L' := [(0, .ref (G.1 + a0)), (3, .int (Int32.ofInt l3)), (4, .int (Int32.ofInt l4)), (5, .int (Int32.ofInt l5)), (6, .int (Int32.ofInt l6)), (7, .int (Int32.ofInt l7)), (8, .int (Int32.ofInt l8)), (9, .int (Int32.ofInt s0))]) (List.forall_mem_cons.mpr ⟨rfl, (List.forall_mem_cons.mpr ⟨rfl, (List.forall_mem_cons.mpr ⟨rfl, (List.forall_mem_cons.mpr ⟨rfl, (List.forall_mem_cons.mpr ⟨rfl, (List.forall_mem_cons.mpr ⟨rfl, (List.forall_mem_cons.mpr ⟨rfl, (List.forall_mem_cons.mpr ⟨rfl, (fun _ h => nomatch h)⟩)⟩)⟩)⟩)⟩)⟩)⟩)⟩) ?_
  refine z_aload_n dX7_down_67 rfl rfl ?_
  refine tw_getO hW ga0 (by decide) (by decide) rfl kX7 fX7_9 dX7_down_68 (fun b1 pb1 gb1 => ?_)
  refine z_iload dX7_down_71 rfl ?_
  refine z_iload dX7_down_73 rfl ?_
  refine z_iload dX7_down_75 rfl ?_
  refine z_iload dX7_down_77 rfl ?_
  have hX0 := kX6_child 2 (Nat.le_refl _) hW gb1 gl4 gl5 gl8 gs0 (by omega)
  refine z_callV (As := [_, _, _, _]) eX6_child sX6_child lX7_48 rfl dX7_down_79 (hW.ob gb1 (by decide)).choose_spec hX0 (Nat.le_trans (by decide) hd) rfl (Nat.le_of_ble_eq_true rfl) (fun r cs1 hp => ?_)
  obtain ⟨hcs, r3, rfl, gr3, n2_0⟩ := hp
  obtain rfl := hcs.symm
  refine z_st (st' := [.int (Int32.ofInt r3)]) rfl ?_
  refine z_istore dX7_down_82 (by decide) ?_
  refine z_loc (L' := [(0, .ref (G.1 + a0)), (3, .int (Int32.ofInt l3)), (4, .int (Int32.ofInt r3)), (5, .int (Int32.ofInt l5)), (6, .int (Int32.ofInt l6)), (7, .int (Int32.ofInt l7)), (8, .int (Int32.ofInt l8)), (9, .int (Int32.ofInt s0))]) (List.forall_mem_cons.mpr ⟨rfl, (List.forall_mem_cons.mpr ⟨rfl, (List.forall_mem_cons.mpr ⟨rfl, (List.forall_mem_cons.mpr ⟨rfl, (List.forall_mem_cons.mpr ⟨rfl, (List.forall_mem_cons.mpr ⟨rfl, (List.forall_mem_cons.mpr ⟨rfl, (List.forall_mem_cons.mpr ⟨rfl, (fun _ h => nomatch h)⟩)⟩)⟩)⟩)⟩)⟩)⟩)⟩) ?_
  refine z_iload dX7_down_84 rfl ?_
  refine z_iconst (v := Int32.ofInt (-1)) dX7_down_86 rfl ?_
  refine i_icmp_ne (tgt := 93) dX7_down_87 (by decide) gr3 (show rng (-1) from ⟨by decide, by decide⟩) (fun h4 => ?_) (fun h4 => ?_)
  · refine z_iload dX7_down_93 rfl ?_
    refine z_iconst (v := Int32.ofInt 1) dX7_down_95 rfl ?_
    refine tw_iadd dX7_down_96 (fun z5 gz5 ez5 => ?_)
    first | have ez5 := ez5 ⟨by omega, by omega⟩ | clear ez5
    refine z_istore dX7_down_97 (by decide) ?_
    refine z_loc (L' := [(0, .ref (G.1 + a0)), (3, .int (Int32.ofInt l3)), (4, .int (Int32.ofInt r3)), (5, .int (Int32.ofInt z5)), (6, .int (Int32.ofInt l6)), (7, .int (Int32.ofInt l7)), (8, .int (Int32.ofInt l8)), (9, .int (Int32.ofInt s0))]) (List.forall_mem_cons.mpr ⟨rfl, (List.forall_mem_cons.mpr ⟨rfl, (List.forall_mem_cons.mpr ⟨rfl, (List.forall_mem_cons.mpr ⟨rfl, (List.forall_mem_cons.mpr ⟨rfl, (List.forall_mem_cons.mpr ⟨rfl, (List.forall_mem_cons.mpr ⟨rfl, (List.forall_mem_cons.mpr ⟨rfl, (fun _ h => nomatch h)⟩)⟩)⟩)⟩)⟩)⟩)⟩)⟩) ?_
    refine tw_iinc (l := l6) dX7_down_99 rfl (by decide) (fun z6 gz6 ez6 => ?_)
    first | have ez6 := ez6 ⟨by omega, by omega⟩ | clear ez6
    refine z_loc (L' := [(0, .ref (G.1 + a0)), (3, .int (Int32.ofInt l3)), (4, .int (Int32.ofInt r3)), (5, .int (Int32.ofInt z5)), (6, .int (Int32.ofInt z6)), (7, .int (Int32.ofInt l7)), (8, .int (Int32.ofInt l8)), (9, .int (Int32.ofInt s0))]) (List.forall_mem_cons.mpr ⟨rfl, (List.forall_mem_cons.mpr ⟨rfl, (List.forall_mem_cons.mpr ⟨rfl, (List.forall_mem_cons.mpr ⟨rfl, (List.forall_mem_cons.mpr ⟨rfl, (List.forall_mem_cons.mpr ⟨rfl, (List.forall_mem_cons.mpr ⟨rfl, (List.forall_mem_cons.mpr ⟨rfl, (fun _ h => nomatch h)⟩)⟩)⟩)⟩)⟩)⟩)⟩)⟩) ?_
    refine z_goto (tgt := 9) dX7_down_102 (by decide) ?_
    refine z_loc (L' := [(0, .ref (G.1 + a0)), (3, .int (Int32.ofInt l3)), (4, .int (Int32.ofInt r3)), (5, .int (Int32.ofInt z5)), (6, .int (Int32.ofInt z6))]) (List.forall_mem_cons.mpr ⟨rfl, (List.forall_mem_cons.mpr ⟨rfl, (List.forall_mem_cons.mpr ⟨rfl, (List.forall_mem_cons.mpr ⟨rfl, (List.forall_mem_cons.mpr ⟨rfl, (fun _ h => nomatch h)⟩)⟩)⟩)⟩)⟩) ?_
    exact ih_9 hW ga0 gl3 gr3 gz5 gz6 (by omega) (by omega) (by omega)  (by omega)
  · refine z_bipush (v := Int32.ofInt (-2)) dX7_down_90 (by decide) ?_
    exact z_ireturn dX7_down_92 rfl rfl (hP _ (show rng (-2) from ⟨by decide, by decide⟩) trivial)
set_option maxRecDepth 100000 in
set_option maxHeartbeats 4000000 in
theorem eX7_down_9 {G : xG} {d : Nat} {Post : xP} {B : Nat × Nat} {τ : Tau} {cs : List va_E} {a0 pa0 : Nat} {l3 : Int} {l4 : Int} {l5 : Int} {l6 : Int} {n9 : Nat} (hd : 3 ≤ d) (hW : WT G B τ cs) (ga0 : τ a0 = some (.inl (7, pa0))) (gl3 : rng l3) (gl4 : rng l4) (gl5 : rng l5) (gl6 : rng l6) (i0 : iv (-1) 1000 l4) (i1 : l3 ≤ 3000) (i2 : l3 ≤ 3000)  (hP : ∀ r : Int, rng r → (True) → Post (some (.int (Int32.ofInt r))) cs)  (ih_9 : ∀ {a0 pa0 : Nat} {l3 : Int} {l4 : Int} {l5 : Int} {l6 : Int} (hW : WT G B τ cs) (ga0 : τ a0 = some (.inl (7, pa0))) (gl3 : rng l3) (gl4 : rng l4) (gl5 : rng l5) (gl6 : rng l6) (i0 : iv (-1) 1000 l4) (i1 : l3 ≤ 3000) (i2 : l3 ≤ 3000) , (l3 + 1 - l6).toNat < n9 → Z (RX7, cX7_down, 10, some .int, false) G d Post 9 [(0, .ref (G.1 + a0)), (3, .int (Int32.ofInt l3)), (4, .int (Int32.ofInt l4)), (5, .int (Int32.ofInt l5)), (6, .int (Int32.ofInt l6))] [] cs) (hm_9 : (l3 + 1 - l6).toNat < n9 + 1) : Z (RX7, cX7_down, 10, some .int, false) G d Post 9 [(0, .ref (G.1 + a0)), (3, .int (Int32.ofInt l3)), (4, .int (Int32.ofInt l4)), (5, .int (Int32.ofInt l5)), (6, .int (Int32.ofInt l6))] [] cs := by
  refine z_iload dX7_down_9 rfl ?_
  refine z_iload_n dX7_down_11 rfl rfl ?_
  refine i_icmp_gt (tgt := 105) dX7_down_12 (by decide) gl6 gl3 (fun h1 => ?_) (fun h1 => ?_)
  · refine z_iload dX7_down_105 rfl ?_
    exact z_ireturn dX7_down_107 rfl rfl (hP _ gl4 trivial)
  · refine z_iload dX7_down_15 rfl ?_
    refine z_iload_n dX7_down_17 rfl rfl ?_
    refine i_icmp_gt (tgt := 105) dX7_down_18 (by decide) gl5 gl3 (fun h2 => ?_) (fun h2 => ?_)
    · refine z_iload dX7_down_105 rfl ?_
      exact z_ireturn dX7_down_107 rfl rfl (hP _ gl4 trivial)
    · refine z_aload_n dX7_down_21 rfl rfl ?_
      refine z_bipush (v := Int32.ofInt 47) dX7_down_22 (by decide) ?_
      refine z_iload dX7_down_24 rfl ?_
      refine z_iload_n dX7_down_26 rfl rfl ?_
      have hX0 := kX7_placeOf 1 (Nat.le_refl _) hW ga0 (show rng 47 from ⟨by decide, by decide⟩) gl5 gl3 
      refine z_callV (As := [_, _, _]) eX7_placeOf sX7_placeOf lX7_41 rfl dX7_down_27 (hW.ob ga0 (by decide)).choose_spec hX0 (Nat.le_trans (by decide) hd) rfl (Nat.le_of_ble_eq_true rfl) (fun r cs1 hp => ?_)
      obtain ⟨hcs, r4, rfl, gr4, _⟩ := hp
      obtain rfl := hcs.symm
      refine z_st (st' := [.int (Int32.ofInt r4)]) rfl ?_
      refine z_istore dX7_down_30 (by decide) ?_
      refine z_loc (L' := [(0, .ref (G.1 + a0)), (3, .int (Int32.ofInt l3)), (4, .int (Int32.ofInt l4)), (5, .int (Int32.ofInt l5)), (6, .int (Int32.ofInt l6)), (7, .int (Int32.ofInt r4))]) (List.forall_mem_cons.mpr ⟨rfl, (List.forall_mem_cons.mpr ⟨rfl, (List.forall_mem_cons.mpr ⟨rfl, (List.forall_mem_cons.mpr ⟨rfl, (List.forall_mem_cons.mpr ⟨rfl, (List.forall_mem_cons.mpr ⟨rfl, (fun _ h => nomatch h)⟩)⟩)⟩)⟩)⟩)⟩) ?_
      refine z_aload_n dX7_down_32 rfl rfl ?_
      refine z_bipush (v := Int32.ofInt 91) dX7_down_33 (by decide) ?_
      refine z_iload dX7_down_35 rfl ?_
      refine z_iload dX7_down_37 rfl ?_
      have hX0 := kX7_placeOf 1 (Nat.le_refl _) hW ga0 (show rng 91 from ⟨by decide, by decide⟩) gl5 gr4 
      refine z_callV (As := [_, _, _]) eX7_placeOf sX7_placeOf lX7_41 rfl dX7_down_39 (hW.ob ga0 (by decide)).choose_spec hX0 (Nat.le_trans (by decide) hd) rfl (Nat.le_of_ble_eq_true rfl) (fun r cs1 hp => ?_)
      obtain ⟨hcs, r6, rfl, gr6, _⟩ := hp
      obtain rfl := hcs.symm
      refine z_st (st' := [.int (Int32.ofInt r6)]) rfl ?_
      refine z_istore dX7_down_42 (by decide) ?_
      refine z_loc (L' := [(0, .ref (G.1 + a0)), (3, .int (Int32.ofInt l3)), (4, .int (Int32.ofInt l4)), (5, .int (Int32.ofInt l5)), (6, .int (Int32.ofInt l6)), (7, .int (Int32.ofInt r4)), (8, .int (Int32.ofInt r6))]) (List.forall_mem_cons.mpr ⟨rfl, (List.forall_mem_cons.mpr ⟨rfl, (List.forall_mem_cons.mpr ⟨rfl, (List.forall_mem_cons.mpr ⟨rfl, (List.forall_mem_cons.mpr ⟨rfl, (List.forall_mem_cons.mpr ⟨rfl, (List.forall_mem_cons.mpr ⟨rfl, (fun _ h => nomatch h)⟩)⟩)⟩)⟩)⟩)⟩)⟩) ?_
      refine z_iload dX7_down_44 rfl ?_
      refine z_iload dX7_down_46 rfl ?_
      refine i_icmp_ne (tgt := 55) dX7_down_48 (by decide) gr6 gr4 (fun h7 => ?_) (fun h7 => ?_)
      · refine z_aload_n dX7_down_55 rfl rfl ?_
        refine z_iload dX7_down_56 rfl ?_
        refine z_iconst (v := Int32.ofInt 1) dX7_down_58 rfl ?_
        refine tw_iadd dX7_down_59 (fun z8 gz8 ez8 => ?_)
        first | have ez8 := ez8 ⟨by omega, by omega⟩ | clear ez8
        refine z_iload dX7_down_60 rfl ?_
        have hX0 := kX7_rank 1 (Nat.le_refl _) hW ga0 gz8 gr4 
        refine z_callV (As := [_, _]) eX7_rank sX7_rank lX7_44 rfl dX7_down_62 (hW.ob ga0 (by decide)).choose_spec hX0 (Nat.le_trans (by decide) hd) rfl (Nat.le_of_ble_eq_true rfl) (fun r cs1 hp => ?_)
        obtain ⟨hcs, r10, rfl, gr10, _⟩ := hp
        obtain rfl := hcs.symm
        refine z_st (st' := [.int (Int32.ofInt r10)]) rfl ?_
        refine z_loc (L' := [(0, .ref (G.1 + a0)), (3, .int (Int32.ofInt l3)), (4, .int (Int32.ofInt l4)), (5, .int (Int32.ofInt l5)), (6, .int (Int32.ofInt l6)), (7, .int (Int32.ofInt r4)), (8, .int (Int32.ofInt r6))]) (List.forall_mem_cons.mpr ⟨rfl, (List.forall_mem_cons.mpr ⟨rfl, (List.forall_mem_cons.mpr ⟨rfl, (List.forall_mem_cons.mpr ⟨rfl, (List.forall_mem_cons.mpr ⟨rfl, (List.forall_mem_cons.mpr ⟨rfl, (List.forall_mem_cons.mpr ⟨rfl, (fun _ h => nomatch h)⟩)⟩)⟩)⟩)⟩)⟩)⟩) ?_
        exact bX7_down_65 hd hW ga0 gl3 gl4 gl5 gl6 gr4 gr6 gr10 (by omega) (by omega) (by omega) (by omega) (by omega) hP ih_9
      · refine z_iconst (v := Int32.ofInt 1) dX7_down_51 rfl ?_
        refine z_goto (tgt := 65) dX7_down_52 (by decide) ?_
        refine z_loc (L' := [(0, .ref (G.1 + a0)), (3, .int (Int32.ofInt l3)), (4, .int (Int32.ofInt l4)), (5, .int (Int32.ofInt l5)), (6, .int (Int32.ofInt l6)), (7, .int (Int32.ofInt r4)), (8, .int (Int32.ofInt r6))]) (List.forall_mem_cons.mpr ⟨rfl, (List.forall_mem_cons.mpr ⟨rfl, (List.forall_mem_cons.mpr ⟨rfl, (List.forall_mem_cons.mpr ⟨rfl, (List.forall_mem_cons.mpr ⟨rfl, (List.forall_mem_cons.mpr ⟨rfl, (List.forall_mem_cons.mpr ⟨rfl, (fun _ h => nomatch h)⟩)⟩)⟩)⟩)⟩)⟩)⟩) ?_
        exact bX7_down_65 hd hW ga0 gl3 gl4 gl5 gl6 gr4 gr6 (show rng 1 from ⟨by decide, by decide⟩) (by omega) (by omega) (by omega) (by omega) (by omega) hP ih_9
set_option maxRecDepth 100000 in
set_option maxHeartbeats 4000000 in
theorem bX7_down_9 {G : xG} {d : Nat} {Post : xP} {B : Nat × Nat} {τ : Tau} {cs : List va_E} {a0 pa0 : Nat} {l3 : Int} {l4 : Int} {l5 : Int} {l6 : Int} (hd : 3 ≤ d) (hW : WT G B τ cs) (ga0 : τ a0 = some (.inl (7, pa0))) (gl3 : rng l3) (gl4 : rng l4) (gl5 : rng l5) (gl6 : rng l6) (i0 : iv (-1) 1000 l4) (i1 : l3 ≤ 3000) (i2 : l3 ≤ 3000)  (hP : ∀ r : Int, rng r → (True) → Post (some (.int (Int32.ofInt r))) cs)  : Z (RX7, cX7_down, 10, some .int, false) G d Post 9 [(0, .ref (G.1 + a0)), (3, .int (Int32.ofInt l3)), (4, .int (Int32.ofInt l4)), (5, .int (Int32.ofInt l5)), (6, .int (Int32.ofInt l6))] [] cs := by
  have key : ∀ (n : Nat) (a0 pa0 : Nat) (l3 : Int) (l4 : Int) (l5 : Int) (l6 : Int) (hW : WT G B τ cs) (ga0 : τ a0 = some (.inl (7, pa0))) (gl3 : rng l3) (gl4 : rng l4) (gl5 : rng l5) (gl6 : rng l6) (i0 : iv (-1) 1000 l4) (i1 : l3 ≤ 3000) (i2 : l3 ≤ 3000) , (l3 + 1 - l6).toNat < n → Z (RX7, cX7_down, 10, some .int, false) G d Post 9 [(0, .ref (G.1 + a0)), (3, .int (Int32.ofInt l3)), (4, .int (Int32.ofInt l4)), (5, .int (Int32.ofInt l5)), (6, .int (Int32.ofInt l6))] [] cs := by
    intro n
    induction n with
    | zero => intro a0 pa0 l3 l4 l5 l6 hW ga0 gl3 gl4 gl5 gl6 i0 i1 i2 hm; exact absurd hm (Nat.not_lt_zero _)
    | succ n ih =>
      intro a0 pa0 l3 l4 l5 l6 hW ga0 gl3 gl4 gl5 gl6 i0 i1 i2 hm
      exact eX7_down_9 hd hW ga0 gl3 gl4 gl5 gl6 i0 i1 i2 hP  (fun hW ga0 gl3 gl4 gl5 gl6 i0 i1 i2 hm => ih _ _ _ _ _ _ hW ga0 gl3 gl4 gl5 gl6 i0 i1 i2 hm) hm
  exact key _ _ _ _ _ _ _ hW ga0 gl3 gl4 gl5 gl6 i0 i1 i2 (Nat.lt_succ_self _)
set_option maxRecDepth 100000 in
set_option maxHeartbeats 4000000 in
theorem kX7_down {G : xG} {B : Nat × Nat} {τ : Tau} {cs : List va_E} {a0 pa0 : Nat} {l1 : Int} {l2 : Int} {l3 : Int} (d : Nat) (hd : 3 ≤ d) (hW : WT G B τ cs) (ga0 : τ a0 = some (.inl (7, pa0))) (gl1 : rng l1) (gl2 : rng l2) (gl3 : rng l3) (p0 : iv (-1) 1000 l1) (p1 : l3 ≤ 3000) : X G yX7_down cX7_down 10 (some .int) d [.ref (G.1 + a0), .int (Int32.ofInt l1), .int (Int32.ofInt l2), .int (Int32.ofInt l3)] cs (rI cs (fun r => True)) := by
  refine X.of false (by decide +kernel) (by decide) (Nat.le_of_ble_eq_true rfl) ?_
  show Z (RX7, cX7_down, 10, some .int, false) G d _ 0 [(0, .ref (G.1 + a0)), (1, .int (Int32.ofInt l1)), (2, .int (Int32.ofInt l2)), (3, .int (Int32.ofInt l3))] [] cs
  have hP : ∀ r : Int, rng r → (True) → rI cs (fun r => True) (some (.int (Int32.ofInt r))) cs := fun r h1 h2 => ⟨rfl, r, rfl, h1, h2⟩
  refine z_iload_n dX7_down_0 rfl rfl ?_
  refine z_istore dX7_down_1 (by decide) ?_
  refine z_loc (L' := [(0, .ref (G.1 + a0)), (1, .int (Int32.ofInt l1)), (2, .int (Int32.ofInt l2)), (3, .int (Int32.ofInt l3)), (4, .int (Int32.ofInt l1))]) (List.forall_mem_cons.mpr ⟨rfl, (List.forall_mem_cons.mpr ⟨rfl, (List.forall_mem_cons.mpr ⟨rfl, (List.forall_mem_cons.mpr ⟨rfl, (List.forall_mem_cons.mpr ⟨rfl, (fun _ h => nomatch h)⟩)⟩)⟩)⟩)⟩) ?_
  refine z_iload_n dX7_down_3 rfl rfl ?_
  refine z_istore dX7_down_4 (by decide) ?_
  refine z_loc (L' := [(0, .ref (G.1 + a0)), (1, .int (Int32.ofInt l1)), (2, .int (Int32.ofInt l2)), (3, .int (Int32.ofInt l3)), (4, .int (Int32.ofInt l1)), (5, .int (Int32.ofInt l2))]) (List.forall_mem_cons.mpr ⟨rfl, (List.forall_mem_cons.mpr ⟨rfl, (List.forall_mem_cons.mpr ⟨rfl, (List.forall_mem_cons.mpr ⟨rfl, (List.forall_mem_cons.mpr ⟨rfl, (List.forall_mem_cons.mpr ⟨rfl, (fun _ h => nomatch h)⟩)⟩)⟩)⟩)⟩)⟩) ?_
  refine z_iload_n dX7_down_6 rfl rfl ?_
  refine z_istore dX7_down_7 (by decide) ?_
  refine z_loc (L' := [(0, .ref (G.1 + a0)), (1, .int (Int32.ofInt l1)), (2, .int (Int32.ofInt l2)), (3, .int (Int32.ofInt l3)), (4, .int (Int32.ofInt l1)), (5, .int (Int32.ofInt l2)), (6, .int (Int32.ofInt l2))]) (List.forall_mem_cons.mpr ⟨rfl, (List.forall_mem_cons.mpr ⟨rfl, (List.forall_mem_cons.mpr ⟨rfl, (List.forall_mem_cons.mpr ⟨rfl, (List.forall_mem_cons.mpr ⟨rfl, (List.forall_mem_cons.mpr ⟨rfl, (List.forall_mem_cons.mpr ⟨rfl, (fun _ h => nomatch h)⟩)⟩)⟩)⟩)⟩)⟩)⟩) ?_
  refine z_loc (L' := [(0, .ref (G.1 + a0)), (3, .int (Int32.ofInt l3)), (4, .int (Int32.ofInt l1)), (5, .int (Int32.ofInt l2)), (6, .int (Int32.ofInt l2))]) (List.forall_mem_cons.mpr ⟨rfl, (List.forall_mem_cons.mpr ⟨rfl, (List.forall_mem_cons.mpr ⟨rfl, (List.forall_mem_cons.mpr ⟨rfl, (List.forall_mem_cons.mpr ⟨rfl, (fun _ h => nomatch h)⟩)⟩)⟩)⟩)⟩) ?_
  exact bX7_down_9 hd hW ga0 gl3 gl1 gl2 gl2 (by omega) (by omega) (by omega)  hP 

set_option maxRecDepth 100000 in
set_option maxHeartbeats 4000000 in
theorem kX7_goesUp {G : xG} {B : Nat × Nat} {τ : Tau} {cs : List va_E} {a0 pa0 : Nat} {l1 : Int} {l2 : Int} (d : Nat) (hd : 1 ≤ d) (hW : WT G B τ cs) (ga0 : τ a0 = some (.inl (7, pa0))) (gl1 : rng l1) (gl2 : rng l2)  : X G yX7_goesUp cX7_goesUp 3 (some .boolean) d [.ref (G.1 + a0), .int (Int32.ofInt l1), .int (Int32.ofInt l2)] cs (rI cs (fun r => (iv 0 1 r))) := by
  refine X.of false (by decide +kernel) (by decide) (Nat.le_of_ble_eq_true rfl) ?_
  show Z (RX7, cX7_goesUp, 3, some .boolean, false) G d _ 0 [(0, .ref (G.1 + a0)), (1, .int (Int32.ofInt l1)), (2, .int (Int32.ofInt l2))] [] cs
  have hP : ∀ r : Int, rng r → ((iv 0 1 r)) → rI cs (fun r => (iv 0 1 r)) (some (.int (Int32.ofInt r))) cs := fun r h1 h2 => ⟨rfl, r, rfl, h1, h2⟩
  refine z_iload_n dX7_goesUp_0 rfl rfl ?_
  refine z_iconst (v := Int32.ofInt 2) dX7_goesUp_1 rfl ?_
  refine tw_iadd dX7_goesUp_2 (fun z1 gz1 ez1 => ?_)
  first | have ez1 := ez1 ⟨by omega, by omega⟩ | clear ez1
  refine z_iload_n dX7_goesUp_3 rfl rfl ?_
  refine i_icmp_gt (tgt := 39) dX7_goesUp_4 (by decide) gz1 gl2 (fun h2 => ?_) (fun h2 => ?_)
  · refine z_iconst (v := Int32.ofInt 0) dX7_goesUp_39 rfl ?_
    exact z_ireturn dX7_goesUp_40 rfl (nar01 (b01 ⟨by decide, by decide⟩)) (hP _ (show rng 0 from ⟨by decide, by decide⟩) (by omega))
  · refine z_aload_n dX7_goesUp_7 rfl rfl ?_
    refine tw_getO hW ga0 (by decide) (by decide) rfl kX7 fX7_21 dX7_goesUp_8 (fun b3 pb3 gb3 => ?_)
    have gb3 : oT τ b3 5 := ⟨_, gb3⟩
    refine z_iload_n dX7_goesUp_11 rfl rfl ?_
    have hX0 := kX5_at 0 (Nat.le_refl _) hW gb3 gl1 
    refine z_callV (As := [_]) eX5_at sX5_at lX7_24 rfl dX7_goesUp_12 (hW.os gb3).choose_spec hX0 (Nat.le_trans (by decide) hd) rfl (Nat.le_of_ble_eq_true rfl) (fun r cs1 hp => ?_)
    obtain ⟨hcs, r5, rfl, gr5, n4_0⟩ := hp
    obtain rfl := hcs.symm
    refine z_st (st' := [.int (Int32.ofInt r5)]) rfl ?_
    refine z_bipush (v := Int32.ofInt 46) dX7_goesUp_15 (by decide) ?_
    refine i_icmp_ne (tgt := 39) dX7_goesUp_17 (by decide) gr5 (show rng 46 from ⟨by decide, by decide⟩) (fun h6 => ?_) (fun h6 => ?_)
    · refine z_iconst (v := Int32.ofInt 0) dX7_goesUp_39 rfl ?_
      exact z_ireturn dX7_goesUp_40 rfl (nar01 (b01 ⟨by decide, by decide⟩)) (hP _ (show rng 0 from ⟨by decide, by decide⟩) (by omega))
    · refine z_aload_n dX7_goesUp_20 rfl rfl ?_
      refine tw_getO hW ga0 (by decide) (by decide) rfl kX7 fX7_21 dX7_goesUp_21 (fun b7 pb7 gb7 => ?_)
      have gb7 : oT τ b7 5 := ⟨_, gb7⟩
      refine z_iload_n dX7_goesUp_24 rfl rfl ?_
      refine z_iconst (v := Int32.ofInt 1) dX7_goesUp_25 rfl ?_
      refine tw_iadd dX7_goesUp_26 (fun z8 gz8 ez8 => ?_)
      first | have ez8 := ez8 ⟨by omega, by omega⟩ | clear ez8
      have hX0 := kX5_at 0 (Nat.le_refl _) hW gb7 gz8 
      refine z_callV (As := [_]) eX5_at sX5_at lX7_24 rfl dX7_goesUp_27 (hW.os gb7).choose_spec hX0 (Nat.le_trans (by decide) hd) rfl (Nat.le_of_ble_eq_true rfl) (fun r cs1 hp => ?_)
      obtain ⟨hcs, r10, rfl, gr10, n9_0⟩ := hp
      obtain rfl := hcs.symm
      refine z_st (st' := [.int (Int32.ofInt r10)]) rfl ?_
      refine z_bipush (v := Int32.ofInt 46) dX7_goesUp_30 (by decide) ?_
      refine i_icmp_ne (tgt := 39) dX7_goesUp_32 (by decide) gr10 (show rng 46 from ⟨by decide, by decide⟩) (fun h11 => ?_) (fun h11 => ?_)
      · refine z_iconst (v := Int32.ofInt 0) dX7_goesUp_39 rfl ?_
        exact z_ireturn dX7_goesUp_40 rfl (nar01 (b01 ⟨by decide, by decide⟩)) (hP _ (show rng 0 from ⟨by decide, by decide⟩) (by omega))
      · refine z_iconst (v := Int32.ofInt 1) dX7_goesUp_35 rfl ?_
        refine z_goto (tgt := 40) dX7_goesUp_36 (by decide) ?_
        exact z_ireturn dX7_goesUp_40 rfl (nar01 (b01 ⟨by decide, by decide⟩)) (hP _ (show rng 1 from ⟨by decide, by decide⟩) (by omega))

set_option maxRecDepth 100000 in
set_option maxHeartbeats 4000000 in
theorem bX7_end_119 {G : xG} {d : Nat} {Post : xP} {B : Nat × Nat} {τ : Tau} {cs : List va_E} {a0 pa0 : Nat} {l3 : Int} {l4 : Int} {l5 : Int} (hd : 4 ≤ d) (hW : WT G B τ cs) (ga0 : τ a0 = some (.inl (7, pa0))) (gl3 : rng l3) (gl4 : rng l4) (gl5 : rng l5) (i0 : iv (-1) 1000 l4) (i1 : l3 ≤ 3000) (i2 : l3 ≤ 3000)  (hP : ∀ r : Int, rng r → (True) → Post (some (.int (Int32.ofInt r))) cs)  : Z (RX7, cX7_end, 7, some .int, false) G d Post 119 [(0, .ref (G.1 + a0)), (3, .int (Int32.ofInt l3)), (4, .int (Int32.ofInt l4)), (5, .int (Int32.ofInt l5))] [] cs := by
  refine z_aload_n dX7_end_119 rfl rfl ?_
  refine z_iload dX7_end_120 rfl ?_
  refine z_iload dX7_end_122 rfl ?_
  refine z_iload_n dX7_end_124 rfl rfl ?_
  have hX0 := kX7_down 3 (Nat.le_refl _) hW ga0 gl4 gl5 gl3 (by omega) (by omega)
  refine z_callV (As := [_, _, _]) eX7_down sX7_down lX7_30 rfl dX7_end_125 (hW.ob ga0 (by decide)).choose_spec hX0 (Nat.le_trans (by decide) hd) rfl (Nat.le_of_ble_eq_true rfl) (fun r cs1 hp => ?_)
  obtain ⟨hcs, r2, rfl, gr2, _⟩ := hp
  obtain rfl := hcs.symm
  refine z_st (st' := [.int (Int32.ofInt r2)]) rfl ?_
  exact z_ireturn dX7_end_128 rfl rfl (hP _ gr2 trivial)
set_option maxRecDepth 100000 in
set_option maxHeartbeats 4000000 in
theorem bX7_end_79 {G : xG} {d : Nat} {Post : xP} {B : Nat × Nat} {τ : Tau} {cs : List va_E} {a0 pa0 : Nat} {l4 : Int} (hd : 4 ≤ d) (hW : WT G B τ cs) (ga0 : τ a0 = some (.inl (7, pa0))) (gl4 : rng l4)   (hP : ∀ r : Int, rng r → (True) → Post (some (.int (Int32.ofInt r))) cs)  : Z (RX7, cX7_end, 7, some .int, false) G d Post 79 [(0, .ref (G.1 + a0)), (4, .int (Int32.ofInt l4))] [] cs := by
  refine z_iload dX7_end_79 rfl ?_
  refine z_iconst (v := Int32.ofInt (-1)) dX7_end_81 rfl ?_
  refine i_icmp_ne (tgt := 90) dX7_end_82 (by decide) gl4 (show rng (-1) from ⟨by decide, by decide⟩) (fun h1 => ?_) (fun h1 => ?_)
  · refine z_iload dX7_end_90 rfl ?_
    exact z_ireturn dX7_end_92 rfl rfl (hP _ gl4 trivial)
  · refine z_bipush (v := Int32.ofInt (-2)) dX7_end_85 (by decide) ?_
    refine z_goto (tgt := 92) dX7_end_87 (by decide) ?_
    exact z_ireturn dX7_end_92 rfl rfl (hP _ (show rng (-2) from ⟨by decide, by decide⟩) trivial)
set_option maxRecDepth 100000 in
set_option maxHeartbeats 4000000 in
theorem eX7_end_37 {G : xG} {d : Nat} {Post : xP} {B : Nat × Nat} {τ : Tau} {cs : List va_E} {a0 pa0 : Nat} {l3 : Int} {l4 : Int} {l5 : Int} {l6 : Int} {n37 : Nat} (hd : 4 ≤ d) (hW : WT G B τ cs) (ga0 : τ a0 = some (.inl (7, pa0))) (gl3 : rng l3) (gl4 : rng l4) (gl5 : rng l5) (gl6 : rng l6) (i0 : iv (-1) 1000 l4) (i1 : l3 ≤ 3000) (i2 : l3 ≤ 3000)  (hP : ∀ r : Int, rng r → (True) → Post (some (.int (Int32.ofInt r))) cs)  (ih_37 : ∀ {a0 pa0 : Nat} {l3 : Int} {l4 : Int} {l5 : Int} {l6 : Int} (hW : WT G B τ cs) (ga0 : τ a0 = some (.inl (7, pa0))) (gl3 : rng l3) (gl4 : rng l4) (gl5 : rng l5) (gl6 : rng l6) (i0 : iv (-1) 1000 l4) (i1 : l3 ≤ 3000) (i2 : l3 ≤ 3000) , (l3 - l6).toNat < n37 → Z (RX7, cX7_end, 7, some .int, false) G d Post 37 [(0, .ref (G.1 + a0)), (3, .int (Int32.ofInt l3)), (4, .int (Int32.ofInt l4)), (5, .int (Int32.ofInt l5)), (6, .int (Int32.ofInt l6))] [] cs) (hm_37 : (l3 - l6).toNat < n37 + 1) : Z (RX7, cX7_end, 7, some .int, false) G d Post 37 [(0, .ref (G.1 + a0)), (3, .int (Int32.ofInt l3)), (4, .int (Int32.ofInt l4)), (5, .int (Int32.ofInt l5)), (6, .int (Int32.ofInt l6))] [] cs := by
  refine z_iload dX7_end_37 rfl ?_
  refine z_iload_n dX7_end_39 rfl rfl ?_
  refine i_icmp_ge (tgt := 119) dX7_end_40 (by decide) gl6 gl3 (fun h1 => ?_) (fun h1 => ?_)
  · refine z_loc (L' := [(0, .ref (G.1 + a0)), (3, .int (Int32.ofInt l3)), (4, .int (Int32.ofInt l4)), (5, .int (Int32.ofInt l5))]) (List.forall_mem_cons.mpr ⟨rfl, (List.forall_mem_cons.mpr ⟨rfl, (List.forall_mem_cons.mpr ⟨rfl, (List.forall_mem_cons.mpr ⟨rfl, (fun _ h => nomatch h)⟩)⟩)⟩)⟩) ?_
    exact bX7_end_119 hd hW ga0 gl3 gl4 gl5 (by omega) (by omega) (by omega)  hP 
  · refine z_aload_n dX7_end_43 rfl rfl ?_
    refine z_iload dX7_end_44 rfl ?_
    refine z_iload_n dX7_end_46 rfl rfl ?_
    have hX0 := kX7_goesUp 1 (Nat.le_refl _) hW ga0 gl5 gl3 
    refine z_callV (As := [_, _]) eX7_goesUp sX7_goesUp lX7_34 rfl dX7_end_47 (hW.ob ga0 (by decide)).choose_spec hX0 (Nat.le_trans (by decide) hd) rfl (Nat.le_of_ble_eq_true rfl) (fun r cs1 hp => ?_)
    obtain ⟨hcs, r3, rfl, gr3, n2_0⟩ := hp
    obtain rfl := hcs.symm
    refine z_st (st' := [.int (Int32.ofInt r3)]) rfl ?_
    refine i_if_eq (tgt := 119) dX7_end_50 (by decide) gr3 (fun h4 => ?_) (fun h4 => ?_)
    · refine z_loc (L' := [(0, .ref (G.1 + a0)), (3, .int (Int32.ofInt l3)), (4, .int (Int32.ofInt l4)), (5, .int (Int32.ofInt l5))]) (List.forall_mem_cons.mpr ⟨rfl, (List.forall_mem_cons.mpr ⟨rfl, (List.forall_mem_cons.mpr ⟨rfl, (List.forall_mem_cons.mpr ⟨rfl, (fun _ h => nomatch h)⟩)⟩)⟩)⟩) ?_
      exact bX7_end_119 hd hW ga0 gl3 gl4 gl5 (by omega) (by omega) (by omega)  hP 
    · refine z_aload_n dX7_end_53 rfl rfl ?_
      refine tw_getO hW ga0 (by decide) (by decide) rfl kX7 fX7_9 dX7_end_54 (fun b5 pb5 gb5 => ?_)
      refine z_iload dX7_end_57 rfl ?_
      have hX0 := kX6_parent 1 (Nat.le_refl _) hW gb5 gl4 
      refine z_callV (As := [_]) eX6_parent sX6_parent lX7_38 rfl dX7_end_59 (hW.ob gb5 (by decide)).choose_spec hX0 (Nat.le_trans (by decide) hd) rfl (Nat.le_of_ble_eq_true rfl) (fun r cs1 hp => ?_)
      obtain ⟨hcs, r7, rfl, gr7, n6_0⟩ := hp
      obtain rfl := hcs.symm
      refine z_st (st' := [.int (Int32.ofInt r7)]) rfl ?_
      refine z_istore dX7_end_62 (by decide) ?_
      refine z_loc (L' := [(0, .ref (G.1 + a0)), (3, .int (Int32.ofInt l3)), (4, .int (Int32.ofInt r7)), (5, .int (Int32.ofInt l5)), (6, .int (Int32.ofInt l6))]) (List.forall_mem_cons.mpr ⟨rfl, (List.forall_mem_cons.mpr ⟨rfl, (List.forall_mem_cons.mpr ⟨rfl, (List.forall_mem_cons.mpr ⟨rfl, (List.forall_mem_cons.mpr ⟨rfl, (fun _ h => nomatch h)⟩)⟩)⟩)⟩)⟩) ?_
      refine tw_iinc (l := l5) dX7_end_64 rfl (by decide) (fun z8 gz8 ez8 => ?_)
      first | have ez8 := ez8 ⟨by omega, by omega⟩ | clear ez8
      refine z_loc (L' := [(0, .ref (G.1 + a0)), (3, .int (Int32.ofInt l3)), (4, .int (Int32.ofInt r7)), (5, .int (Int32.ofInt z8)), (6, .int (Int32.ofInt l6))]) (List.forall_mem_cons.mpr ⟨rfl, (List.forall_mem_cons.mpr ⟨rfl, (List.forall_mem_cons.mpr ⟨rfl, (List.forall_mem_cons.mpr ⟨rfl, (List.forall_mem_cons.mpr ⟨rfl, (fun _ h => nomatch h)⟩)⟩)⟩)⟩)⟩) ?_
      refine z_iload dX7_end_67 rfl ?_
      refine z_iconst (v := Int32.ofInt (-1)) dX7_end_69 rfl ?_
      refine i_icmp_eq (tgt := 79) dX7_end_70 (by decide) gr7 (show rng (-1) from ⟨by decide, by decide⟩) (fun h9 => ?_) (fun h9 => ?_)
      · refine z_loc (L' := [(0, .ref (G.1 + a0)), (4, .int (Int32.ofInt r7))]) (List.forall_mem_cons.mpr ⟨rfl, (List.forall_mem_cons.mpr ⟨rfl, (fun _ h => nomatch h)⟩)⟩) ?_
        exact bX7_end_79 hd hW ga0 gr7   hP 
      · refine z_iload dX7_end_73 rfl ?_
        refine z_iload_n dX7_end_75 rfl rfl ?_
        refine i_icmp_ne (tgt := 93) dX7_end_76 (by decide) gz8 gl3 (fun h10 => ?_) (fun h10 => ?_)
        · refine z_aload_n dX7_end_93 rfl rfl ?_
          refine tw_getO hW ga0 (by decide) (by decide) rfl kX7 fX7_21 dX7_end_94 (fun b11 pb11 gb11 => ?_)
          have gb11 : oT τ b11 5 := ⟨_, gb11⟩
          refine z_iload dX7_end_97 rfl ?_
          have hX0 := kX5_at 0 (Nat.le_refl _) hW gb11 gz8 
          refine z_callV (As := [_]) eX5_at sX5_at lX7_24 rfl dX7_end_99 (hW.os gb11).choose_spec hX0 (Nat.le_trans (by decide) hd) rfl (Nat.le_of_ble_eq_true rfl) (fun r cs1 hp => ?_)
          obtain ⟨hcs, r13, rfl, gr13, n12_0⟩ := hp
          obtain rfl := hcs.symm
          refine z_st (st' := [.int (Int32.ofInt r13)]) rfl ?_
          refine z_bipush (v := Int32.ofInt 47) dX7_end_102 (by decide) ?_
          refine i_icmp_eq (tgt := 110) dX7_end_104 (by decide) gr13 (show rng 47 from ⟨by decide, by decide⟩) (fun h14 => ?_) (fun h14 => ?_)
          · refine tw_iinc (l := z8) dX7_end_110 rfl (by decide) (fun z15 gz15 ez15 => ?_)
            first | have ez15 := ez15 ⟨by omega, by omega⟩ | clear ez15
            refine z_loc (L' := [(0, .ref (G.1 + a0)), (3, .int (Int32.ofInt l3)), (4, .int (Int32.ofInt r7)), (5, .int (Int32.ofInt z15)), (6, .int (Int32.ofInt l6))]) (List.forall_mem_cons.mpr ⟨rfl, (List.forall_mem_cons.mpr ⟨rfl, (List.forall_mem_cons.mpr ⟨rfl, (List.forall_mem_cons.mpr ⟨rfl, (List.forall_mem_cons.mpr ⟨rfl, (fun _ h => nomatch h)⟩)⟩)⟩)⟩)⟩) ?_
            refine tw_iinc (l := l6) dX7_end_113 rfl (by decide) (fun z16 gz16 ez16 => ?_)
            first | have ez16 := ez16 ⟨by omega, by omega⟩ | clear ez16
            refine z_loc (L' := [(0, .ref (G.1 + a0)), (3, .int (Int32.ofInt l3)), (4, .int (Int32.ofInt r7)), (5, .int (Int32.ofInt z15)), (6, .int (Int32.ofInt z16))]) (List.forall_mem_cons.mpr ⟨rfl, (List.forall_mem_cons.mpr ⟨rfl, (List.forall_mem_cons.mpr ⟨rfl, (List.forall_mem_cons.mpr ⟨rfl, (List.forall_mem_cons.mpr ⟨rfl, (fun _ h => nomatch h)⟩)⟩)⟩)⟩)⟩) ?_
            refine z_goto (tgt := 37) dX7_end_116 (by decide) ?_
            refine z_loc (L' := [(0, .ref (G.1 + a0)), (3, .int (Int32.ofInt l3)), (4, .int (Int32.ofInt r7)), (5, .int (Int32.ofInt z15)), (6, .int (Int32.ofInt z16))]) (List.forall_mem_cons.mpr ⟨rfl, (List.forall_mem_cons.mpr ⟨rfl, (List.forall_mem_cons.mpr ⟨rfl, (List.forall_mem_cons.mpr ⟨rfl, (List.forall_mem_cons.mpr ⟨rfl, (fun _ h => nomatch h)⟩)⟩)⟩)⟩)⟩) ?_
            exact ih_37 hW ga0 gl3 gr7 gz15 gz16 (by omega) (by omega) (by omega)  (by omega)
          · refine z_bipush (v := Int32.ofInt (-2)) dX7_end_107 (by decide) ?_
            exact z_ireturn dX7_end_109 rfl rfl (hP _ (show rng (-2) from ⟨by decide, by decide⟩) trivial)
        · refine z_loc (L' := [(0, .ref (G.1 + a0)), (4, .int (Int32.ofInt r7))]) (List.forall_mem_cons.mpr ⟨rfl, (List.forall_mem_cons.mpr ⟨rfl, (fun _ h => nomatch h)⟩)⟩) ?_
          exact bX7_end_79 hd hW ga0 gr7   hP 
set_option maxRecDepth 100000 in
set_option maxHeartbeats 4000000 in
theorem bX7_end_37 {G : xG} {d : Nat} {Post : xP} {B : Nat × Nat} {τ : Tau} {cs : List va_E} {a0 pa0 : Nat} {l3 : Int} {l4 : Int} {l5 : Int} {l6 : Int} (hd : 4 ≤ d) (hW : WT G B τ cs) (ga0 : τ a0 = some (.inl (7, pa0))) (gl3 : rng l3) (gl4 : rng l4) (gl5 : rng l5) (gl6 : rng l6) (i0 : iv (-1) 1000 l4) (i1 : l3 ≤ 3000) (i2 : l3 ≤ 3000)  (hP : ∀ r : Int, rng r → (True) → Post (some (.int (Int32.ofInt r))) cs)  : Z (RX7, cX7_end, 7, some .int, false) G d Post 37 [(0, .ref (G.1 + a0)), (3, .int (Int32.ofInt l3)), (4, .int (Int32.ofInt l4)), (5, .int (Int32.ofInt l5)), (6, .int (Int32.ofInt l6))] [] cs := by
  have key : ∀ (n : Nat) (a0 pa0 : Nat) (l3 : Int) (l4 : Int) (l5 : Int) (l6 : Int) (hW : WT G B τ cs) (ga0 : τ a0 = some (.inl (7, pa0))) (gl3 : rng l3) (gl4 : rng l4) (gl5 : rng l5) (gl6 : rng l6) (i0 : iv (-1) 1000 l4) (i1 : l3 ≤ 3000) (i2 : l3 ≤ 3000) , (l3 - l6).toNat < n → Z (RX7, cX7_end, 7, some .int, false) G d Post 37 [(0, .ref (G.1 + a0)), (3, .int (Int32.ofInt l3)), (4, .int (Int32.ofInt l4)), (5, .int (Int32.ofInt l5)), (6, .int (Int32.ofInt l6))] [] cs := by
    intro n
    induction n with
    | zero => intro a0 pa0 l3 l4 l5 l6 hW ga0 gl3 gl4 gl5 gl6 i0 i1 i2 hm; exact absurd hm (Nat.not_lt_zero _)
    | succ n ih =>
      intro a0 pa0 l3 l4 l5 l6 hW ga0 gl3 gl4 gl5 gl6 i0 i1 i2 hm
      exact eX7_end_37 hd hW ga0 gl3 gl4 gl5 gl6 i0 i1 i2 hP  (fun hW ga0 gl3 gl4 gl5 gl6 i0 i1 i2 hm => ih _ _ _ _ _ _ hW ga0 gl3 gl4 gl5 gl6 i0 i1 i2 hm) hm
  exact key _ _ _ _ _ _ _ hW ga0 gl3 gl4 gl5 gl6 i0 i1 i2 (Nat.lt_succ_self _)
set_option maxRecDepth 100000 in
set_option maxHeartbeats 4000000 in
theorem bX7_end_28 {G : xG} {d : Nat} {Post : xP} {B : Nat × Nat} {τ : Tau} {cs : List va_E} {a0 pa0 : Nat} {l1 : Int} {l2 : Int} {l3 : Int} (hd : 4 ≤ d) (hW : WT G B τ cs) (ga0 : τ a0 = some (.inl (7, pa0))) (gl1 : rng l1) (gl2 : rng l2) (gl3 : rng l3) (i0 : iv (-1) 1000 l1) (i1 : l3 ≤ 3000)  (hP : ∀ r : Int, rng r → (True) → Post (some (.int (Int32.ofInt r))) cs)  : Z (RX7, cX7_end, 7, some .int, false) G d Post 28 [(0, .ref (G.1 + a0)), (1, .int (Int32.ofInt l1)), (2, .int (Int32.ofInt l2)), (3, .int (Int32.ofInt l3))] [] cs := by
  refine z_iload_n dX7_end_28 rfl rfl ?_
  refine z_istore dX7_end_29 (by decide) ?_
  refine z_loc (L' := [(0, .ref (G.1 + a0)), (1, .int (Int32.ofInt l1)), (2, .int (Int32.ofInt l2)), (3, .int (Int32.ofInt l3)), (4, .int (Int32.ofInt l1))]) (List.forall_mem_cons.mpr ⟨rfl, (List.forall_mem_cons.mpr ⟨rfl, (List.forall_mem_cons.mpr ⟨rfl, (List.forall_mem_cons.mpr ⟨rfl, (List.forall_mem_cons.mpr ⟨rfl, (fun _ h => nomatch h)⟩)⟩)⟩)⟩)⟩) ?_
  refine z_iload_n dX7_end_31 rfl rfl ?_
  refine z_istore dX7_end_32 (by decide) ?_
  refine z_loc (L' := [(0, .ref (G.1 + a0)), (1, .int (Int32.ofInt l1)), (2, .int (Int32.ofInt l2)), (3, .int (Int32.ofInt l3)), (4, .int (Int32.ofInt l1)), (5, .int (Int32.ofInt l2))]) (List.forall_mem_cons.mpr ⟨rfl, (List.forall_mem_cons.mpr ⟨rfl, (List.forall_mem_cons.mpr ⟨rfl, (List.forall_mem_cons.mpr ⟨rfl, (List.forall_mem_cons.mpr ⟨rfl, (List.forall_mem_cons.mpr ⟨rfl, (fun _ h => nomatch h)⟩)⟩)⟩)⟩)⟩)⟩) ?_
  refine z_iload_n dX7_end_34 rfl rfl ?_
  refine z_istore dX7_end_35 (by decide) ?_
  refine z_loc (L' := [(0, .ref (G.1 + a0)), (1, .int (Int32.ofInt l1)), (2, .int (Int32.ofInt l2)), (3, .int (Int32.ofInt l3)), (4, .int (Int32.ofInt l1)), (5, .int (Int32.ofInt l2)), (6, .int (Int32.ofInt l2))]) (List.forall_mem_cons.mpr ⟨rfl, (List.forall_mem_cons.mpr ⟨rfl, (List.forall_mem_cons.mpr ⟨rfl, (List.forall_mem_cons.mpr ⟨rfl, (List.forall_mem_cons.mpr ⟨rfl, (List.forall_mem_cons.mpr ⟨rfl, (List.forall_mem_cons.mpr ⟨rfl, (fun _ h => nomatch h)⟩)⟩)⟩)⟩)⟩)⟩)⟩) ?_
  refine z_loc (L' := [(0, .ref (G.1 + a0)), (3, .int (Int32.ofInt l3)), (4, .int (Int32.ofInt l1)), (5, .int (Int32.ofInt l2)), (6, .int (Int32.ofInt l2))]) (List.forall_mem_cons.mpr ⟨rfl, (List.forall_mem_cons.mpr ⟨rfl, (List.forall_mem_cons.mpr ⟨rfl, (List.forall_mem_cons.mpr ⟨rfl, (List.forall_mem_cons.mpr ⟨rfl, (fun _ h => nomatch h)⟩)⟩)⟩)⟩)⟩) ?_
  exact bX7_end_37 hd hW ga0 gl3 gl1 gl2 gl2 (by omega) (by omega) (by omega)  hP 
set_option maxRecDepth 100000 in
set_option maxHeartbeats 4000000 in
theorem kX7_end {G : xG} {B : Nat × Nat} {τ : Tau} {cs : List va_E} {a0 pa0 : Nat} {l1 : Int} {l2 : Int} {l3 : Int} (d : Nat) (hd : 4 ≤ d) (hW : WT G B τ cs) (ga0 : τ a0 = some (.inl (7, pa0))) (gl1 : rng l1) (gl2 : rng l2) (gl3 : rng l3) (p0 : iv (-1) 1000 l1) (p1 : l3 ≤ 3000) : X G yX7_end cX7_end 7 (some .int) d [.ref (G.1 + a0), .int (Int32.ofInt l1), .int (Int32.ofInt l2), .int (Int32.ofInt l3)] cs (rI cs (fun r => True)) := by
  refine X.of false (by decide +kernel) (by decide) (Nat.le_of_ble_eq_true rfl) ?_
  show Z (RX7, cX7_end, 7, some .int, false) G d _ 0 [(0, .ref (G.1 + a0)), (1, .int (Int32.ofInt l1)), (2, .int (Int32.ofInt l2)), (3, .int (Int32.ofInt l3))] [] cs
  have hP : ∀ r : Int, rng r → (True) → rI cs (fun r => True) (some (.int (Int32.ofInt r))) cs := fun r h1 h2 => ⟨rfl, r, rfl, h1, h2⟩
  refine z_iload_n dX7_end_0 rfl rfl ?_
  refine z_iload_n dX7_end_1 rfl rfl ?_
  refine i_icmp_ge (tgt := 28) dX7_end_2 (by decide) gl2 gl3 (fun h1 => ?_) (fun h1 => ?_)
  · refine z_loc (L' := [(0, .ref (G.1 + a0)), (1, .int (Int32.ofInt l1)), (2, .int (Int32.ofInt l2)), (3, .int (Int32.ofInt l3))]) (List.forall_mem_cons.mpr ⟨rfl, (List.forall_mem_cons.mpr ⟨rfl, (List.forall_mem_cons.mpr ⟨rfl, (List.forall_mem_cons.mpr ⟨rfl, (fun _ h => nomatch h)⟩)⟩)⟩)⟩) ?_
    exact bX7_end_28 hd hW ga0 gl1 gl2 gl3 (by omega) (by omega)  hP 
  · refine z_aload_n dX7_end_5 rfl rfl ?_
    refine tw_getO hW ga0 (by decide) (by decide) rfl kX7 fX7_21 dX7_end_6 (fun b2 pb2 gb2 => ?_)
    have gb2 : oT τ b2 5 := ⟨_, gb2⟩
    refine z_iload_n dX7_end_9 rfl rfl ?_
    have hX0 := kX5_at 0 (Nat.le_refl _) hW gb2 gl2 
    refine z_callV (As := [_]) eX5_at sX5_at lX7_24 rfl dX7_end_10 (hW.os gb2).choose_spec hX0 (Nat.le_trans (by decide) hd) rfl (Nat.le_of_ble_eq_true rfl) (fun r cs1 hp => ?_)
    obtain ⟨hcs, r4, rfl, gr4, n3_0⟩ := hp
    obtain rfl := hcs.symm
    refine z_st (st' := [.int (Int32.ofInt r4)]) rfl ?_
    refine z_bipush (v := Int32.ofInt 47) dX7_end_13 (by decide) ?_
    refine i_icmp_ne (tgt := 28) dX7_end_15 (by decide) gr4 (show rng 47 from ⟨by decide, by decide⟩) (fun h5 => ?_) (fun h5 => ?_)
    · refine z_loc (L' := [(0, .ref (G.1 + a0)), (1, .int (Int32.ofInt l1)), (2, .int (Int32.ofInt l2)), (3, .int (Int32.ofInt l3))]) (List.forall_mem_cons.mpr ⟨rfl, (List.forall_mem_cons.mpr ⟨rfl, (List.forall_mem_cons.mpr ⟨rfl, (List.forall_mem_cons.mpr ⟨rfl, (fun _ h => nomatch h)⟩)⟩)⟩)⟩) ?_
      exact bX7_end_28 hd hW ga0 gl1 gl2 gl3 (by omega) (by omega)  hP 
    · refine z_aload_n dX7_end_18 rfl rfl ?_
      refine z_iconst (v := Int32.ofInt (-1)) dX7_end_19 rfl ?_
      refine z_iload_n dX7_end_20 rfl rfl ?_
      refine z_iconst (v := Int32.ofInt 1) dX7_end_21 rfl ?_
      refine tw_iadd dX7_end_22 (fun z6 gz6 ez6 => ?_)
      first | have ez6 := ez6 ⟨by omega, by omega⟩ | clear ez6
      refine z_iload_n dX7_end_23 rfl rfl ?_
      have hX0 := kX7_down 3 (Nat.le_refl _) hW ga0 (show rng (-1) from ⟨by decide, by decide⟩) gz6 gl3 (by omega) (by omega)
      refine z_callV (As := [_, _, _]) eX7_down sX7_down lX7_30 rfl dX7_end_24 (hW.ob ga0 (by decide)).choose_spec hX0 (Nat.le_trans (by decide) hd) rfl (Nat.le_of_ble_eq_true rfl) (fun r cs1 hp => ?_)
      obtain ⟨hcs, r8, rfl, gr8, _⟩ := hp
      obtain rfl := hcs.symm
      refine z_st (st' := [.int (Int32.ofInt r8)]) rfl ?_
      exact z_ireturn dX7_end_27 rfl rfl (hP _ gr8 trivial)

