set_option maxRecDepth 100000 in
set_option maxHeartbeats 4000000 in
theorem kX10_count {G : xG} {B : Nat × Nat} {τ : Tau} {cs : List va_E} {a0 pa0 : Nat} {l1 : Int} (d : Nat) (hd : 1 ≤ d) (hW : WT G B τ cs) (ga0 : τ a0 = some (.inl (10, pa0))) (gl1 : rng l1)  : X G yX10_count cX10_count 2 (some .int) d [.ref (G.1 + a0), .int (Int32.ofInt l1)] cs (rI cs (fun r => True)) := by
  refine X.of false (by decide +kernel) (by decide) (Nat.le_of_ble_eq_true rfl) ?_
  show Z (RX10, cX10_count, 2, some .int, false) G d _ 0 [(0, .ref (G.1 + a0)), (1, .int (Int32.ofInt l1))] [] cs
  have hP : ∀ r : Int, rng r → (True) → rI cs (fun r => True) (some (.int (Int32.ofInt r))) cs := fun r h1 h2 => ⟨rfl, r, rfl, h1, h2⟩
  refine z_iload_n dX10_count_0 rfl rfl ?_
  rcases (show (¬ (0 ≤ l1 ∧ l1 ≤ 5)) ∨ l1 = 0 ∨ l1 = 1 ∨ l1 = 2 ∨ l1 = 3 ∨ l1 = 4 ∨ l1 = 5 by omega) with h1 | h1 | h1 | h1 | h1 | h1 | h1
  · refine i_tableOut (tgt := 88) dX10_count_1 gl1 h1 (by decide) ?_
    refine z_iconst (v := Int32.ofInt (-1)) dX10_count_88 rfl ?_
    exact z_ireturn dX10_count_89 rfl rfl (hP _ (show rng (-1) from ⟨by decide, by decide⟩) trivial)
  · refine i_tableIn (c := 0) (off := 39) (tgt := 40) dX10_count_1 h1 ⟨by decide, by decide⟩ (by decide) (by decide) rfl (by decide) ?_
    refine z_aload_n dX10_count_40 rfl rfl ?_
    refine tw_getO hW ga0 (by decide) (by decide) rfl kX10 fX10_32 dX10_count_41 (fun b2 pb2 gb2 => ?_)
    have hX0 := kX4_size 0 (Nat.le_refl _) hW gb2 
    refine z_callV (As := []) eX4_size sX4_size lX10_76 rfl dX10_count_44 (hW.ob gb2 (by decide)).choose_spec hX0 (Nat.le_trans (by decide) hd) rfl (Nat.le_of_ble_eq_true rfl) (fun r cs1 hp => ?_)
    obtain ⟨hcs, r4, rfl, gr4, n3_0⟩ := hp
    obtain rfl := hcs.symm
    refine z_st (st' := [.int (Int32.ofInt r4)]) rfl ?_
    exact z_ireturn dX10_count_47 rfl rfl (hP _ gr4 trivial)
  · refine i_tableIn (c := 1) (off := 47) (tgt := 48) dX10_count_1 h1 ⟨by decide, by decide⟩ (by decide) (by decide) rfl (by decide) ?_
    refine z_aload_n dX10_count_48 rfl rfl ?_
    refine tw_getO hW ga0 (by decide) (by decide) rfl kX10 fX10_42 dX10_count_49 (fun b5 pb5 gb5 => ?_)
    have hX0 := kX1_size 0 (Nat.le_refl _) hW gb5 
    refine z_callV (As := []) eX1_size sX1_size lX10_158 rfl dX10_count_52 (hW.ob gb5 (by decide)).choose_spec hX0 (Nat.le_trans (by decide) hd) rfl (Nat.le_of_ble_eq_true rfl) (fun r cs1 hp => ?_)
    obtain ⟨hcs, r7, rfl, gr7, n6_0⟩ := hp
    obtain rfl := hcs.symm
    refine z_st (st' := [.int (Int32.ofInt r7)]) rfl ?_
    exact z_ireturn dX10_count_55 rfl rfl (hP _ gr7 trivial)
  · refine i_tableIn (c := 2) (off := 55) (tgt := 56) dX10_count_1 h1 ⟨by decide, by decide⟩ (by decide) (by decide) rfl (by decide) ?_
    refine z_aload_n dX10_count_56 rfl rfl ?_
    refine tw_getO hW ga0 (by decide) (by decide) rfl kX10 fX10_46 dX10_count_57 (fun b8 pb8 gb8 => ?_)
    have hX0 := kX1_size 0 (Nat.le_refl _) hW gb8 
    refine z_callV (As := []) eX1_size sX1_size lX10_158 rfl dX10_count_60 (hW.ob gb8 (by decide)).choose_spec hX0 (Nat.le_trans (by decide) hd) rfl (Nat.le_of_ble_eq_true rfl) (fun r cs1 hp => ?_)
    obtain ⟨hcs, r10, rfl, gr10, n9_0⟩ := hp
    obtain rfl := hcs.symm
    refine z_st (st' := [.int (Int32.ofInt r10)]) rfl ?_
    exact z_ireturn dX10_count_63 rfl rfl (hP _ gr10 trivial)
  · refine i_tableIn (c := 3) (off := 63) (tgt := 64) dX10_count_1 h1 ⟨by decide, by decide⟩ (by decide) (by decide) rfl (by decide) ?_
    refine z_aload_n dX10_count_64 rfl rfl ?_
    refine tw_getO hW ga0 (by decide) (by decide) rfl kX10 fX10_23 dX10_count_65 (fun b11 pb11 gb11 => ?_)
    have gb11 : oT τ b11 5 := ⟨_, gb11⟩
    have hX0 := kX5_length 0 (Nat.le_refl _) hW gb11 
    refine z_callV (As := []) eX5_length sX5_length lX10_101 rfl dX10_count_68 (hW.os gb11).choose_spec hX0 (Nat.le_trans (by decide) hd) rfl (Nat.le_of_ble_eq_true rfl) (fun r cs1 hp => ?_)
    obtain ⟨hcs, r13, rfl, gr13, n12_0⟩ := hp
    obtain rfl := hcs.symm
    refine z_st (st' := [.int (Int32.ofInt r13)]) rfl ?_
    exact z_ireturn dX10_count_71 rfl rfl (hP _ gr13 trivial)
  · refine i_tableIn (c := 4) (off := 71) (tgt := 72) dX10_count_1 h1 ⟨by decide, by decide⟩ (by decide) (by decide) rfl (by decide) ?_
    refine z_aload_n dX10_count_72 rfl rfl ?_
    refine tw_getO hW ga0 (by decide) (by decide) rfl kX10 fX10_12 dX10_count_73 (fun b14 pb14 gb14 => ?_)
    have gb14 : oT τ b14 5 := ⟨_, gb14⟩
    have hX0 := kX5_length 0 (Nat.le_refl _) hW gb14 
    refine z_callV (As := []) eX5_length sX5_length lX10_101 rfl dX10_count_76 (hW.os gb14).choose_spec hX0 (Nat.le_trans (by decide) hd) rfl (Nat.le_of_ble_eq_true rfl) (fun r cs1 hp => ?_)
    obtain ⟨hcs, r16, rfl, gr16, n15_0⟩ := hp
    obtain rfl := hcs.symm
    refine z_st (st' := [.int (Int32.ofInt r16)]) rfl ?_
    exact z_ireturn dX10_count_79 rfl rfl (hP _ gr16 trivial)
  · refine i_tableIn (c := 5) (off := 79) (tgt := 80) dX10_count_1 h1 ⟨by decide, by decide⟩ (by decide) (by decide) rfl (by decide) ?_
    refine z_aload_n dX10_count_80 rfl rfl ?_
    refine tw_getO hW ga0 (by decide) (by decide) rfl kX10 fX10_32 dX10_count_81 (fun b17 pb17 gb17 => ?_)
    have hX0 := kX4_forbiddenSize 0 (Nat.le_refl _) hW gb17 
    refine z_callV (As := []) eX4_forbiddenSize sX4_forbiddenSize lX10_184 rfl dX10_count_84 (hW.ob gb17 (by decide)).choose_spec hX0 (Nat.le_trans (by decide) hd) rfl (Nat.le_of_ble_eq_true rfl) (fun r cs1 hp => ?_)
    obtain ⟨hcs, r19, rfl, gr19, _⟩ := hp
    obtain rfl := hcs.symm
    refine z_st (st' := [.int (Int32.ofInt r19)]) rfl ?_
    exact z_ireturn dX10_count_87 rfl rfl (hP _ gr19 trivial)

set_option maxRecDepth 100000 in
set_option maxHeartbeats 4000000 in
theorem bX10_heapAt_15 {G : xG} {d : Nat} {Post : xP} {B : Nat × Nat} {τ : Tau} {cs : List va_E} {a0 pa0 : Nat} {s0 ps0 : Nat} (hd : 0 ≤ d) (hW : WT G B τ cs) (ga0 : τ a0 = some (.inl (10, pa0))) (gs0 : τ s0 = some (.inl (1, ps0)))   (hP : ∀ b : Nat, rT τ b (.inl (1, 0)) → Post (some (.ref (G.1 + b))) cs)  : Z (RX10, cX10_heapAt, 2, some (.object "GraphScribe$Heap"), false) G d Post 15 [(0, .ref (G.1 + a0))] [.ref (G.1 + s0)] cs := by
  exact z_areturn dX10_heapAt_15 rfl (Or.inl ⟨_, rfl⟩) (hP _ ⟨_, gs0⟩)
set_option maxRecDepth 100000 in
set_option maxHeartbeats 4000000 in
theorem kX10_heapAt {G : xG} {B : Nat × Nat} {τ : Tau} {cs : List va_E} {a0 pa0 : Nat} {l1 : Int} (d : Nat) (hd : 0 ≤ d) (hW : WT G B τ cs) (ga0 : τ a0 = some (.inl (10, pa0))) (gl1 : rng l1)  : X G yX10_heapAt cX10_heapAt 2 (some (.object "GraphScribe$Heap")) d [.ref (G.1 + a0), .int (Int32.ofInt l1)] cs (rO G τ cs (.inl (1, 0))) := by
  refine X.of false (by decide +kernel) (by decide) (Nat.le_of_ble_eq_true rfl) ?_
  show Z (RX10, cX10_heapAt, 2, some (.object "GraphScribe$Heap"), false) G d _ 0 [(0, .ref (G.1 + a0)), (1, .int (Int32.ofInt l1))] [] cs
  have hP : ∀ b : Nat, rT τ b (.inl (1, 0)) → rO G τ cs (.inl (1, 0)) (some (.ref (G.1 + b))) cs := fun b h => ⟨rfl, b, rfl, h⟩
  refine z_iload_n dX10_heapAt_0 rfl rfl ?_
  refine i_if_ne (tgt := 11) dX10_heapAt_1 (by decide) gl1 (fun h1 => ?_) (fun h1 => ?_)
  · refine z_aload_n dX10_heapAt_11 rfl rfl ?_
    refine tw_getO hW ga0 (by decide) (by decide) rfl kX10 fX10_46 dX10_heapAt_12 (fun b2 pb2 gb2 => ?_)
    refine z_loc (L' := [(0, .ref (G.1 + a0))]) (List.forall_mem_cons.mpr ⟨rfl, (fun _ h => nomatch h)⟩) ?_
    exact bX10_heapAt_15 hd hW ga0 gb2   hP 
  · refine z_aload_n dX10_heapAt_4 rfl rfl ?_
    refine tw_getO hW ga0 (by decide) (by decide) rfl kX10 fX10_42 dX10_heapAt_5 (fun b3 pb3 gb3 => ?_)
    refine z_goto (tgt := 15) dX10_heapAt_8 (by decide) ?_
    refine z_loc (L' := [(0, .ref (G.1 + a0))]) (List.forall_mem_cons.mpr ⟨rfl, (fun _ h => nomatch h)⟩) ?_
    exact bX10_heapAt_15 hd hW ga0 gb3   hP 

set_option maxRecDepth 100000 in
set_option maxHeartbeats 4000000 in
theorem kX10_isBlank {G : xG} {B : Nat × Nat} {τ : Tau} {cs : List va_E} {l0 : Int} (d : Nat) (hd : 0 ≤ d) (hW : WT G B τ cs) (gl0 : rng l0)  : X G yX10_isBlank cX10_isBlank 1 (some .boolean) d [.int (Int32.ofInt l0)] cs (rI cs (fun r => (iv 0 1 r))) := by
  refine X.of false (by decide +kernel) (by decide) (Nat.le_of_ble_eq_true rfl) ?_
  show Z (RX10, cX10_isBlank, 1, some .boolean, false) G d _ 0 [(0, .int (Int32.ofInt l0))] [] cs
  have hP : ∀ r : Int, rng r → ((iv 0 1 r)) → rI cs (fun r => (iv 0 1 r)) (some (.int (Int32.ofInt r))) cs := fun r h1 h2 => ⟨rfl, r, rfl, h1, h2⟩
  refine z_iload_n dX10_isBlank_0 rfl rfl ?_
  refine z_bipush (v := Int32.ofInt 32) dX10_isBlank_1 (by decide) ?_
  refine i_icmp_eq (tgt := 24) dX10_isBlank_3 (by decide) gl0 (show rng 32 from ⟨by decide, by decide⟩) (fun h1 => ?_) (fun h1 => ?_)
  · refine z_iconst (v := Int32.ofInt 1) dX10_isBlank_24 rfl ?_
    refine z_goto (tgt := 29) dX10_isBlank_25 (by decide) ?_
    exact z_ireturn dX10_isBlank_29 rfl (nar01 (b01 ⟨by decide, by decide⟩)) (hP _ (show rng 1 from ⟨by decide, by decide⟩) (by omega))
  · refine z_iload_n dX10_isBlank_6 rfl rfl ?_
    refine z_bipush (v := Int32.ofInt 9) dX10_isBlank_7 (by decide) ?_
    refine i_icmp_eq (tgt := 24) dX10_isBlank_9 (by decide) gl0 (show rng 9 from ⟨by decide, by decide⟩) (fun h2 => ?_) (fun h2 => ?_)
    · refine z_iconst (v := Int32.ofInt 1) dX10_isBlank_24 rfl ?_
      refine z_goto (tgt := 29) dX10_isBlank_25 (by decide) ?_
      exact z_ireturn dX10_isBlank_29 rfl (nar01 (b01 ⟨by decide, by decide⟩)) (hP _ (show rng 1 from ⟨by decide, by decide⟩) (by omega))
    · refine z_iload_n dX10_isBlank_12 rfl rfl ?_
      refine z_bipush (v := Int32.ofInt 10) dX10_isBlank_13 (by decide) ?_
      refine i_icmp_eq (tgt := 24) dX10_isBlank_15 (by decide) gl0 (show rng 10 from ⟨by decide, by decide⟩) (fun h3 => ?_) (fun h3 => ?_)
      · refine z_iconst (v := Int32.ofInt 1) dX10_isBlank_24 rfl ?_
        refine z_goto (tgt := 29) dX10_isBlank_25 (by decide) ?_
        exact z_ireturn dX10_isBlank_29 rfl (nar01 (b01 ⟨by decide, by decide⟩)) (hP _ (show rng 1 from ⟨by decide, by decide⟩) (by omega))
      · refine z_iload_n dX10_isBlank_18 rfl rfl ?_
        refine z_bipush (v := Int32.ofInt 13) dX10_isBlank_19 (by decide) ?_
        refine i_icmp_ne (tgt := 28) dX10_isBlank_21 (by decide) gl0 (show rng 13 from ⟨by decide, by decide⟩) (fun h4 => ?_) (fun h4 => ?_)
        · refine z_iconst (v := Int32.ofInt 0) dX10_isBlank_28 rfl ?_
          exact z_ireturn dX10_isBlank_29 rfl (nar01 (b01 ⟨by decide, by decide⟩)) (hP _ (show rng 0 from ⟨by decide, by decide⟩) (by omega))
        · refine z_iconst (v := Int32.ofInt 1) dX10_isBlank_24 rfl ?_
          refine z_goto (tgt := 29) dX10_isBlank_25 (by decide) ?_
          exact z_ireturn dX10_isBlank_29 rfl (nar01 (b01 ⟨by decide, by decide⟩)) (hP _ (show rng 1 from ⟨by decide, by decide⟩) (by omega))

set_option maxRecDepth 100000 in
set_option maxHeartbeats 4000000 in
theorem eX10_isFieldText_12 {G : xG} {d : Nat} {Post : xP} {B : Nat × Nat} {τ : Tau} {cs : List va_E} {a0 : Nat} {l2 : Int} {l3 : Int} {n12 : Nat} (hd : 1 ≤ d) (hW : WT G B τ cs) (ga0 : oT τ a0 5) (gl2 : rng l2) (gl3 : rng l3)   (hP : ∀ r : Int, rng r → ((iv 0 1 r)) → Post (some (.int (Int32.ofInt r))) cs)  (ih_12 : ∀ {a0 : Nat} {l2 : Int} {l3 : Int} (hW : WT G B τ cs) (ga0 : oT τ a0 5) (gl2 : rng l2) (gl3 : rng l3)  , (l2 - l3).toNat < n12 → Z (RX10, cX10_isFieldText, 4, some .boolean, false) G d Post 12 [(0, .ref (G.1 + a0)), (2, .int (Int32.ofInt l2)), (3, .int (Int32.ofInt l3))] [] cs) (hm_12 : (l2 - l3).toNat < n12 + 1) : Z (RX10, cX10_isFieldText, 4, some .boolean, false) G d Post 12 [(0, .ref (G.1 + a0)), (2, .int (Int32.ofInt l2)), (3, .int (Int32.ofInt l3))] [] cs := by
  refine z_iload_n dX10_isFieldText_12 rfl rfl ?_
  refine z_iload_n dX10_isFieldText_13 rfl rfl ?_
  refine i_icmp_ge (tgt := 35) dX10_isFieldText_14 (by decide) gl3 gl2 (fun h1 => ?_) (fun h1 => ?_)
  · refine z_iconst (v := Int32.ofInt 1) dX10_isFieldText_35 rfl ?_
    exact z_ireturn dX10_isFieldText_36 rfl (nar01 (b01 ⟨by decide, by decide⟩)) (hP _ (show rng 1 from ⟨by decide, by decide⟩) (by omega))
  · refine z_aload_n dX10_isFieldText_17 rfl rfl ?_
    refine z_iload_n dX10_isFieldText_18 rfl rfl ?_
    have hX0 := kX5_at 0 (Nat.le_refl _) hW ga0 gl3 
    refine z_callV (As := [_]) eX5_at sX5_at lX10_129 rfl dX10_isFieldText_19 (hW.os ga0).choose_spec hX0 (Nat.le_trans (by decide) hd) rfl (Nat.le_of_ble_eq_true rfl) (fun r cs1 hp => ?_)
    obtain ⟨hcs, r3, rfl, gr3, n2_0⟩ := hp
    obtain rfl := hcs.symm
    refine z_st (st' := [.int (Int32.ofInt r3)]) rfl ?_
    refine z_bipush (v := Int32.ofInt 32) dX10_isFieldText_22 (by decide) ?_
    refine i_icmp_ge (tgt := 29) dX10_isFieldText_24 (by decide) gr3 (show rng 32 from ⟨by decide, by decide⟩) (fun h4 => ?_) (fun h4 => ?_)
    · refine tw_iinc (l := l3) dX10_isFieldText_29 rfl (by decide) (fun z5 gz5 ez5 => ?_)
      first | have ez5 := ez5 ⟨by omega, by omega⟩ | clear ez5
      refine z_loc (L' := [(0, .ref (G.1 + a0)), (2, .int (Int32.ofInt l2)), (3, .int (Int32.ofInt z5))]) (List.forall_mem_cons.mpr ⟨rfl, (List.forall_mem_cons.mpr ⟨rfl, (List.forall_mem_cons.mpr ⟨rfl, (fun _ h => nomatch h)⟩)⟩)⟩) ?_
      refine z_goto (tgt := 12) dX10_isFieldText_32 (by decide) ?_
      refine z_loc (L' := [(0, .ref (G.1 + a0)), (2, .int (Int32.ofInt l2)), (3, .int (Int32.ofInt z5))]) (List.forall_mem_cons.mpr ⟨rfl, (List.forall_mem_cons.mpr ⟨rfl, (List.forall_mem_cons.mpr ⟨rfl, (fun _ h => nomatch h)⟩)⟩)⟩) ?_
      exact ih_12 hW ga0 gl2 gz5   (by omega)
    · refine z_iconst (v := Int32.ofInt 0) dX10_isFieldText_27 rfl ?_
      exact z_ireturn dX10_isFieldText_28 rfl (nar01 (b01 ⟨by decide, by decide⟩)) (hP _ (show rng 0 from ⟨by decide, by decide⟩) (by omega))
set_option maxRecDepth 100000 in
set_option maxHeartbeats 4000000 in
theorem bX10_isFieldText_12 {G : xG} {d : Nat} {Post : xP} {B : Nat × Nat} {τ : Tau} {cs : List va_E} {a0 : Nat} {l2 : Int} {l3 : Int} (hd : 1 ≤ d) (hW : WT G B τ cs) (ga0 : oT τ a0 5) (gl2 : rng l2) (gl3 : rng l3)   (hP : ∀ r : Int, rng r → ((iv 0 1 r)) → Post (some (.int (Int32.ofInt r))) cs)  : Z (RX10, cX10_isFieldText, 4, some .boolean, false) G d Post 12 [(0, .ref (G.1 + a0)), (2, .int (Int32.ofInt l2)), (3, .int (Int32.ofInt l3))] [] cs := by
  have key : ∀ (n : Nat) (a0 : Nat) (l2 : Int) (l3 : Int) (hW : WT G B τ cs) (ga0 : oT τ a0 5) (gl2 : rng l2) (gl3 : rng l3)  , (l2 - l3).toNat < n → Z (RX10, cX10_isFieldText, 4, some .boolean, false) G d Post 12 [(0, .ref (G.1 + a0)), (2, .int (Int32.ofInt l2)), (3, .int (Int32.ofInt l3))] [] cs := by
    intro n
    induction n with
    | zero => intro a0 l2 l3 hW ga0 gl2 gl3 hm; exact absurd hm (Nat.not_lt_zero _)
    | succ n ih =>
      intro a0 l2 l3 hW ga0 gl2 gl3 hm
      exact eX10_isFieldText_12 hd hW ga0 gl2 gl3 hP  (fun hW ga0 gl2 gl3 hm => ih _ _ _ hW ga0 gl2 gl3 hm) hm
  exact key _ _ _ _ hW ga0 gl2 gl3 (Nat.lt_succ_self _)
set_option maxRecDepth 100000 in
set_option maxHeartbeats 4000000 in
theorem kX10_isFieldText {G : xG} {B : Nat × Nat} {τ : Tau} {cs : List va_E} {a0 : Nat} {l1 : Int} {l2 : Int} (d : Nat) (hd : 1 ≤ d) (hW : WT G B τ cs) (ga0 : oT τ a0 5) (gl1 : rng l1) (gl2 : rng l2)  : X G yX10_isFieldText cX10_isFieldText 4 (some .boolean) d [.ref (G.1 + a0), .int (Int32.ofInt l1), .int (Int32.ofInt l2)] cs (rI cs (fun r => (iv 0 1 r))) := by
  refine X.of false (by decide +kernel) (by decide) (Nat.le_of_ble_eq_true rfl) ?_
  show Z (RX10, cX10_isFieldText, 4, some .boolean, false) G d _ 0 [(0, .ref (G.1 + a0)), (1, .int (Int32.ofInt l1)), (2, .int (Int32.ofInt l2))] [] cs
  have hP : ∀ r : Int, rng r → ((iv 0 1 r)) → rI cs (fun r => (iv 0 1 r)) (some (.int (Int32.ofInt r))) cs := fun r h1 h2 => ⟨rfl, r, rfl, h1, h2⟩
  refine z_iload_n dX10_isFieldText_0 rfl rfl ?_
  refine z_iload_n dX10_isFieldText_1 rfl rfl ?_
  refine tw_isub dX10_isFieldText_2 (fun z1 gz1 ez1 => ?_)
  first | have ez1 := ez1 ⟨by omega, by omega⟩ | clear ez1
  refine z_bipush (v := Int32.ofInt 20) dX10_isFieldText_3 (by decide) ?_
  refine i_icmp_le (tgt := 10) dX10_isFieldText_5 (by decide) gz1 (show rng 20 from ⟨by decide, by decide⟩) (fun h2 => ?_) (fun h2 => ?_)
  · refine z_iload_n dX10_isFieldText_10 rfl rfl ?_
    refine z_istore_n dX10_isFieldText_11 rfl (by decide) ?_
    refine z_loc (L' := [(0, .ref (G.1 + a0)), (1, .int (Int32.ofInt l1)), (2, .int (Int32.ofInt l2)), (3, .int (Int32.ofInt l1))]) (List.forall_mem_cons.mpr ⟨rfl, (List.forall_mem_cons.mpr ⟨rfl, (List.forall_mem_cons.mpr ⟨rfl, (List.forall_mem_cons.mpr ⟨rfl, (fun _ h => nomatch h)⟩)⟩)⟩)⟩) ?_
    refine z_loc (L' := [(0, .ref (G.1 + a0)), (2, .int (Int32.ofInt l2)), (3, .int (Int32.ofInt l1))]) (List.forall_mem_cons.mpr ⟨rfl, (List.forall_mem_cons.mpr ⟨rfl, (List.forall_mem_cons.mpr ⟨rfl, (fun _ h => nomatch h)⟩)⟩)⟩) ?_
    exact bX10_isFieldText_12 hd hW ga0 gl2 gl1   hP 
  · refine z_iconst (v := Int32.ofInt 0) dX10_isFieldText_8 rfl ?_
    exact z_ireturn dX10_isFieldText_9 rfl (nar01 (b01 ⟨by decide, by decide⟩)) (hP _ (show rng 0 from ⟨by decide, by decide⟩) (by omega))

set_option maxRecDepth 100000 in
set_option maxHeartbeats 4000000 in
theorem kX10_isHeap {G : xG} {B : Nat × Nat} {τ : Tau} {cs : List va_E} {l0 : Int} (d : Nat) (hd : 0 ≤ d) (hW : WT G B τ cs) (gl0 : rng l0)  : X G yX10_isHeap cX10_isHeap 1 (some .boolean) d [.int (Int32.ofInt l0)] cs (rI cs (fun r => (iv 0 1 r))) := by
  refine X.of false (by decide +kernel) (by decide) (Nat.le_of_ble_eq_true rfl) ?_
  show Z (RX10, cX10_isHeap, 1, some .boolean, false) G d _ 0 [(0, .int (Int32.ofInt l0))] [] cs
  have hP : ∀ r : Int, rng r → ((iv 0 1 r)) → rI cs (fun r => (iv 0 1 r)) (some (.int (Int32.ofInt r))) cs := fun r h1 h2 => ⟨rfl, r, rfl, h1, h2⟩
  refine z_iload_n dX10_isHeap_0 rfl rfl ?_
  refine i_if_eq (tgt := 9) dX10_isHeap_1 (by decide) gl0 (fun h1 => ?_) (fun h1 => ?_)
  · refine z_iconst (v := Int32.ofInt 1) dX10_isHeap_9 rfl ?_
    refine z_goto (tgt := 14) dX10_isHeap_10 (by decide) ?_
    exact z_ireturn dX10_isHeap_14 rfl (nar01 (b01 ⟨by decide, by decide⟩)) (hP _ (show rng 1 from ⟨by decide, by decide⟩) (by omega))
  · refine z_iload_n dX10_isHeap_4 rfl rfl ?_
    refine z_iconst (v := Int32.ofInt 1) dX10_isHeap_5 rfl ?_
    refine i_icmp_ne (tgt := 13) dX10_isHeap_6 (by decide) gl0 (show rng 1 from ⟨by decide, by decide⟩) (fun h2 => ?_) (fun h2 => ?_)
    · refine z_iconst (v := Int32.ofInt 0) dX10_isHeap_13 rfl ?_
      exact z_ireturn dX10_isHeap_14 rfl (nar01 (b01 ⟨by decide, by decide⟩)) (hP _ (show rng 0 from ⟨by decide, by decide⟩) (by omega))
    · refine z_iconst (v := Int32.ofInt 1) dX10_isHeap_9 rfl ?_
      refine z_goto (tgt := 14) dX10_isHeap_10 (by decide) ?_
      exact z_ireturn dX10_isHeap_14 rfl (nar01 (b01 ⟨by decide, by decide⟩)) (hP _ (show rng 1 from ⟨by decide, by decide⟩) (by omega))

set_option maxRecDepth 100000 in
set_option maxHeartbeats 4000000 in
theorem bX10_isSign_12 {G : xG} {d : Nat} {Post : xP} {B : Nat × Nat} {τ : Tau} {cs : List va_E} {l0 : Int} (hd : 0 ≤ d) (hW : WT G B τ cs) (gl0 : rng l0)   (hP : ∀ r : Int, rng r → ((iv 0 1 r)) → Post (some (.int (Int32.ofInt r))) cs)  : Z (RX10, cX10_isSign, 1, some .boolean, false) G d Post 12 [(0, .int (Int32.ofInt l0))] [] cs := by
  refine z_iload_n dX10_isSign_12 rfl rfl ?_
  refine z_bipush (v := Int32.ofInt 9) dX10_isSign_13 (by decide) ?_
  refine i_icmp_eq (tgt := 30) dX10_isSign_15 (by decide) gl0 (show rng 9 from ⟨by decide, by decide⟩) (fun h1 => ?_) (fun h1 => ?_)
  · refine z_iconst (v := Int32.ofInt 1) dX10_isSign_30 rfl ?_
    refine z_goto (tgt := 35) dX10_isSign_31 (by decide) ?_
    exact z_ireturn dX10_isSign_35 rfl (nar01 (b01 ⟨by decide, by decide⟩)) (hP _ (show rng 1 from ⟨by decide, by decide⟩) (by omega))
  · refine z_iload_n dX10_isSign_18 rfl rfl ?_
    refine z_bipush (v := Int32.ofInt 10) dX10_isSign_19 (by decide) ?_
    refine i_icmp_eq (tgt := 30) dX10_isSign_21 (by decide) gl0 (show rng 10 from ⟨by decide, by decide⟩) (fun h2 => ?_) (fun h2 => ?_)
    · refine z_iconst (v := Int32.ofInt 1) dX10_isSign_30 rfl ?_
      refine z_goto (tgt := 35) dX10_isSign_31 (by decide) ?_
      exact z_ireturn dX10_isSign_35 rfl (nar01 (b01 ⟨by decide, by decide⟩)) (hP _ (show rng 1 from ⟨by decide, by decide⟩) (by omega))
    · refine z_iload_n dX10_isSign_24 rfl rfl ?_
      refine z_bipush (v := Int32.ofInt 13) dX10_isSign_25 (by decide) ?_
      refine i_icmp_ne (tgt := 34) dX10_isSign_27 (by decide) gl0 (show rng 13 from ⟨by decide, by decide⟩) (fun h3 => ?_) (fun h3 => ?_)
      · refine z_iconst (v := Int32.ofInt 0) dX10_isSign_34 rfl ?_
        exact z_ireturn dX10_isSign_35 rfl (nar01 (b01 ⟨by decide, by decide⟩)) (hP _ (show rng 0 from ⟨by decide, by decide⟩) (by omega))
      · refine z_iconst (v := Int32.ofInt 1) dX10_isSign_30 rfl ?_
        refine z_goto (tgt := 35) dX10_isSign_31 (by decide) ?_
        exact z_ireturn dX10_isSign_35 rfl (nar01 (b01 ⟨by decide, by decide⟩)) (hP _ (show rng 1 from ⟨by decide, by decide⟩) (by omega))
set_option maxRecDepth 100000 in
set_option maxHeartbeats 4000000 in
theorem kX10_isSign {G : xG} {B : Nat × Nat} {τ : Tau} {cs : List va_E} {l0 : Int} (d : Nat) (hd : 0 ≤ d) (hW : WT G B τ cs) (gl0 : rng l0)  : X G yX10_isSign cX10_isSign 1 (some .boolean) d [.int (Int32.ofInt l0)] cs (rI cs (fun r => (iv 0 1 r))) := by
  refine X.of false (by decide +kernel) (by decide) (Nat.le_of_ble_eq_true rfl) ?_
  show Z (RX10, cX10_isSign, 1, some .boolean, false) G d _ 0 [(0, .int (Int32.ofInt l0))] [] cs
  have hP : ∀ r : Int, rng r → ((iv 0 1 r)) → rI cs (fun r => (iv 0 1 r)) (some (.int (Int32.ofInt r))) cs := fun r h1 h2 => ⟨rfl, r, rfl, h1, h2⟩
  refine z_iload_n dX10_isSign_0 rfl rfl ?_
  refine z_bipush (v := Int32.ofInt 32) dX10_isSign_1 (by decide) ?_
  refine i_icmp_lt (tgt := 12) dX10_isSign_3 (by decide) gl0 (show rng 32 from ⟨by decide, by decide⟩) (fun h1 => ?_) (fun h1 => ?_)
  · refine z_loc (L' := [(0, .int (Int32.ofInt l0))]) (List.forall_mem_cons.mpr ⟨rfl, (fun _ h => nomatch h)⟩) ?_
    exact bX10_isSign_12 hd hW gl0   hP 
  · refine z_iload_n dX10_isSign_6 rfl rfl ?_
    refine z_bipush (v := Int32.ofInt 126) dX10_isSign_7 (by decide) ?_
    refine i_icmp_le (tgt := 30) dX10_isSign_9 (by decide) gl0 (show rng 126 from ⟨by decide, by decide⟩) (fun h2 => ?_) (fun h2 => ?_)
    · refine z_iconst (v := Int32.ofInt 1) dX10_isSign_30 rfl ?_
      refine z_goto (tgt := 35) dX10_isSign_31 (by decide) ?_
      exact z_ireturn dX10_isSign_35 rfl (nar01 (b01 ⟨by decide, by decide⟩)) (hP _ (show rng 1 from ⟨by decide, by decide⟩) (by omega))
    · refine z_loc (L' := [(0, .int (Int32.ofInt l0))]) (List.forall_mem_cons.mpr ⟨rfl, (fun _ h => nomatch h)⟩) ?_
      exact bX10_isSign_12 hd hW gl0   hP 

set_option maxRecDepth 100000 in
set_option maxHeartbeats 4000000 in
theorem kX10_kind {G : xG} {B : Nat × Nat} {τ : Tau} {cs : List va_E} {a0 pa0 : Nat} {l1 : Int} {l2 : Int} (d : Nat) (hd : 2 ≤ d) (hW : WT G B τ cs) (ga0 : τ a0 = some (.inl (10, pa0))) (gl1 : rng l1) (gl2 : rng l2)  : X G yX10_kind cX10_kind 3 (some .int) d [.ref (G.1 + a0), .int (Int32.ofInt l1), .int (Int32.ofInt l2)] cs (rI cs (fun r => True)) := by
  refine X.of false (by decide +kernel) (by decide) (Nat.le_of_ble_eq_true rfl) ?_
  show Z (RX10, cX10_kind, 3, some .int, false) G d _ 0 [(0, .ref (G.1 + a0)), (1, .int (Int32.ofInt l1)), (2, .int (Int32.ofInt l2))] [] cs
  have hP : ∀ r : Int, rng r → (True) → rI cs (fun r => True) (some (.int (Int32.ofInt r))) cs := fun r h1 h2 => ⟨rfl, r, rfl, h1, h2⟩
  refine z_iload_n dX10_kind_0 rfl rfl ?_
  have hX0 := kX10_isHeap 0 (Nat.le_refl _) hW gl1 
  refine z_callS (As := [_]) eX10_isHeap sX10_isHeap lX10_168 dX10_kind_1 hX0 (Nat.le_trans (by decide) hd) rfl (Nat.le_of_ble_eq_true rfl) (fun r cs1 hp => ?_)
  obtain ⟨hcs, r2, rfl, gr2, n1_0⟩ := hp
  obtain rfl := hcs.symm
  refine z_st (st' := [.int (Int32.ofInt r2)]) rfl ?_
  refine i_if_eq (tgt := 31) dX10_kind_4 (by decide) gr2 (fun h3 => ?_) (fun h3 => ?_)
  · refine z_iconst (v := Int32.ofInt (-1)) dX10_kind_31 rfl ?_
    exact z_ireturn dX10_kind_32 rfl rfl (hP _ (show rng (-1) from ⟨by decide, by decide⟩) trivial)
  · refine z_aload_n dX10_kind_7 rfl rfl ?_
    refine z_iload_n dX10_kind_8 rfl rfl ?_
    have hX0 := kX10_heapAt 0 (Nat.le_refl _) hW ga0 gl1 
    refine z_callV (As := [_]) eX10_heapAt sX10_heapAt lX10_171 rfl dX10_kind_9 (hW.ob ga0 (by decide)).choose_spec hX0 (Nat.le_trans (by decide) hd) rfl (Nat.le_of_ble_eq_true rfl) (fun r cs1 hp => ?_)
    obtain ⟨hcs, r5, rfl, pr5, gr5⟩ := hp
    obtain rfl := hcs.symm
    refine z_st (st' := [.ref (G.1 + r5)]) rfl ?_
    refine z_iload_n dX10_kind_12 rfl rfl ?_
    have hX0 := kX1_has 0 (Nat.le_refl _) hW gr5 gl2 
    refine z_callV (As := [_]) eX1_has sX1_has lX10_94 rfl dX10_kind_13 (hW.ob gr5 (by decide)).choose_spec hX0 (Nat.le_trans (by decide) hd) rfl (Nat.le_of_ble_eq_true rfl) (fun r cs1 hp => ?_)
    obtain ⟨hcs, r7, rfl, gr7, ⟨n6_0, n6_1⟩⟩ := hp
    obtain rfl := hcs.symm
    refine z_st (st' := [.int (Int32.ofInt r7)]) rfl ?_
    refine i_if_eq (tgt := 31) dX10_kind_16 (by decide) gr7 (fun h8 => ?_) (fun h8 => ?_)
    · refine z_iconst (v := Int32.ofInt (-1)) dX10_kind_31 rfl ?_
      exact z_ireturn dX10_kind_32 rfl rfl (hP _ (show rng (-1) from ⟨by decide, by decide⟩) trivial)
    · refine z_aload_n dX10_kind_19 rfl rfl ?_
      refine z_iload_n dX10_kind_20 rfl rfl ?_
      have hX0 := kX10_heapAt 0 (Nat.le_refl _) hW ga0 gl1 
      refine z_callV (As := [_]) eX10_heapAt sX10_heapAt lX10_171 rfl dX10_kind_21 (hW.ob ga0 (by decide)).choose_spec hX0 (Nat.le_trans (by decide) hd) rfl (Nat.le_of_ble_eq_true rfl) (fun r cs1 hp => ?_)
      obtain ⟨hcs, r10, rfl, pr10, gr10⟩ := hp
      obtain rfl := hcs.symm
      refine z_st (st' := [.ref (G.1 + r10)]) rfl ?_
      refine z_iload_n dX10_kind_24 rfl rfl ?_
      have hX0 := kX1_classOf 1 (Nat.le_refl _) hW gr10 gl2 
      refine z_callV (As := [_]) eX1_classOf sX1_classOf lX10_175 rfl dX10_kind_25 (hW.ob gr10 (by decide)).choose_spec hX0 (Nat.le_trans (by decide) hd) rfl (Nat.le_of_ble_eq_true rfl) (fun r cs1 hp => ?_)
      obtain ⟨hcs, r12, rfl, gr12, _⟩ := hp
      obtain rfl := hcs.symm
      refine z_st (st' := [.int (Int32.ofInt r12)]) rfl ?_
      refine z_goto (tgt := 32) dX10_kind_28 (by decide) ?_
      exact z_ireturn dX10_kind_32 rfl rfl (hP _ gr12 trivial)

set_option maxRecDepth 100000 in
set_option maxHeartbeats 4000000 in
theorem bX1_born_54 {G : xG} {d : Nat} {Post : xP} {B : Nat × Nat} {τ0 τ : Tau} {c0 cs : List va_E} {a0 pa0 : Nat} {l2 : Int} {l3 : Int} {s0 : Int} {s1 : Int} {s2 : Nat} {n23 : Nat} (hd : 0 ≤ d) (hW : WT G B τ cs) (hX : Fx [1] τ0 c0 τ cs) (ga0 : τ a0 = some (.inl (1, pa0))) (gl2 : rng l2) (gl3 : rng l3) (gs0 : rng s0) (gs1 : rng s1) (gs2 : τ s2 = some (.inr (0, 120, (-2147483648), 2147483648))) (i0 : iv 0 119 s1) (i1 : fld cs a0 3 ≤ 29) (i2 : 1 ≤ 4 - l3) (i3 : 0 ≤ l3) (hm_23 : (4 - l3).toNat < n23 + 1) (hP : ∀ (τ1 : Tau) (c1 : List va_E) (r : Int), WT G B τ1 c1 → Fx [1] τ0 c0 τ1 c1 → rng r → ((iv (-1) 29 r)) → Post (some (.int (Int32.ofInt r))) c1) (ih_23 : ∀ {τ : Tau} {cs : List va_E} {a0 pa0 : Nat} {l2 : Int} {l3 : Int} (hW : WT G B τ cs) (hX : Fx [1] τ0 c0 τ cs) (ga0 : τ a0 = some (.inl (1, pa0))) (gl2 : rng l2) (gl3 : rng l3) (i0 : fld cs a0 3 ≤ 29) (i1 : 0 ≤ l3) , (4 - l3).toNat < n23 → Z (RX1, cX1_born, 4, some .int, false) G d Post 23 [(0, .ref (G.1 + a0)), (2, .int (Int32.ofInt l2)), (3, .int (Int32.ofInt l3))] [] cs) : Z (RX1, cX1_born, 4, some .int, false) G d Post 54 [(0, .ref (G.1 + a0)), (2, .int (Int32.ofInt l2)), (3, .int (Int32.ofInt l3))] [.int (Int32.ofInt s0), .int (Int32.ofInt s1), .ref (G.1 + s2)] cs := by
  refine tw_iast hW hX gs2 (by omega) (by omega) (any_okT (by decide) _) (Or.inr (show (1 : Nat) ∈ _ by decide)) dX1_born_54 (fun c1 q _ => nA hW gs2 (show (2147483648 : Int) ≠ 600 by decide) (show (2147483648 : Int) ≠ 601 by decide) c1 q) (fun cs hW hX hfr _ => ?_)
  have f1 := fld_fr (k := 3) hfr ga0 gs2
  clear hfr
  refine tw_iinc (l := l3) dX1_born_55 rfl (by decide) (fun z2 gz2 ez2 => ?_)
  first | have ez2 := ez2 ⟨by omega, by omega⟩ | clear ez2
  refine z_loc (L' := [(0, .ref (G.1 + a0)), (2, .int (Int32.ofInt l2)), (3, .int (Int32.ofInt z2))]) (List.forall_mem_cons.mpr ⟨rfl, (List.forall_mem_cons.mpr ⟨rfl, (List.forall_mem_cons.mpr ⟨rfl, (fun _ h => nomatch h)⟩)⟩)⟩) ?_
  refine z_goto (tgt := 23) dX1_born_58 (by decide) ?_
  refine z_loc (L' := [(0, .ref (G.1 + a0)), (2, .int (Int32.ofInt l2)), (3, .int (Int32.ofInt z2))]) (List.forall_mem_cons.mpr ⟨rfl, (List.forall_mem_cons.mpr ⟨rfl, (List.forall_mem_cons.mpr ⟨rfl, (fun _ h => nomatch h)⟩)⟩)⟩) ?_
  exact ih_23 hW hX ga0 gl2 gz2 (by omega) (by omega)  (by omega)
set_option maxRecDepth 100000 in
set_option maxHeartbeats 4000000 in
theorem eX1_born_23 {G : xG} {d : Nat} {Post : xP} {B : Nat × Nat} {τ0 τ : Tau} {c0 cs : List va_E} {a0 pa0 : Nat} {l2 : Int} {l3 : Int} {n23 : Nat} (hd : 0 ≤ d) (hW : WT G B τ cs) (hX : Fx [1] τ0 c0 τ cs) (ga0 : τ a0 = some (.inl (1, pa0))) (gl2 : rng l2) (gl3 : rng l3) (i0 : fld cs a0 3 ≤ 29) (i1 : 0 ≤ l3)  (hP : ∀ (τ1 : Tau) (c1 : List va_E) (r : Int), WT G B τ1 c1 → Fx [1] τ0 c0 τ1 c1 → rng r → ((iv (-1) 29 r)) → Post (some (.int (Int32.ofInt r))) c1)  (ih_23 : ∀ {τ : Tau} {cs : List va_E} {a0 pa0 : Nat} {l2 : Int} {l3 : Int} (hW : WT G B τ cs) (hX : Fx [1] τ0 c0 τ cs) (ga0 : τ a0 = some (.inl (1, pa0))) (gl2 : rng l2) (gl3 : rng l3) (i0 : fld cs a0 3 ≤ 29) (i1 : 0 ≤ l3) , (4 - l3).toNat < n23 → Z (RX1, cX1_born, 4, some .int, false) G d Post 23 [(0, .ref (G.1 + a0)), (2, .int (Int32.ofInt l2)), (3, .int (Int32.ofInt l3))] [] cs) (hm_23 : (4 - l3).toNat < n23 + 1) : Z (RX1, cX1_born, 4, some .int, false) G d Post 23 [(0, .ref (G.1 + a0)), (2, .int (Int32.ofInt l2)), (3, .int (Int32.ofInt l3))] [] cs := by
  refine z_iload_n dX1_born_23 rfl rfl ?_
  refine z_iconst (v := Int32.ofInt 4) dX1_born_24 rfl ?_
  refine i_icmp_ge (tgt := 61) dX1_born_25 (by decide) gl3 (show rng 4 from ⟨by decide, by decide⟩) (fun h1 => ?_) (fun h1 => ?_)
  · refine z_aload_n dX1_born_61 rfl rfl ?_
    refine z_dup dX1_born_62 rfl ?_
    refine tw_getI hW ga0 (by decide) (by decide) rfl kX1 fX1_21 dX1_born_63 (fun x2 qx2 vx2 gx2 => ?_)
    refine z_iconst (v := Int32.ofInt 1) dX1_born_66 rfl ?_
    refine tw_iadd dX1_born_67 (fun z3 gz3 ez3 => ?_)
    first | have ez3 := ez3 ⟨by omega, by omega⟩ | clear ez3
    refine tw_putI hW hX ga0 (by decide) (by decide) rfl kX1 fX1_21 dX1_born_68 rfl rfl rfl (iv_ok (by omega) (by decide) (by decide)) (by decide) (fun c1 q _ _ => nT hW ga0 (by decide) c1 q) (fun cs hW hX f4 _ _ => ?_)
    rw [rng_toInt gz3] at f4
    refine z_aload_n dX1_born_71 rfl rfl ?_
    refine tw_getI hW ga0 (by decide) (by decide) rfl kX1 fX1_21 dX1_born_72 (fun x5 qx5 vx5 gx5 => ?_)
    refine z_iconst (v := Int32.ofInt 1) dX1_born_75 rfl ?_
    refine tw_isub dX1_born_76 (fun z6 gz6 ez6 => ?_)
    first | have ez6 := ez6 ⟨by omega, by omega⟩ | clear ez6
    exact z_ireturn dX1_born_77 rfl rfl (hP _ _ _ hW hX gz6 (by omega))
  · refine z_aload_n dX1_born_28 rfl rfl ?_
    refine tw_getA hW ga0 (by decide) (by decide) rfl kX1 fX1_15 dX1_born_29 (fun b7 _ gb7 => ?_)
    refine z_aload_n dX1_born_32 rfl rfl ?_
    refine tw_getI hW ga0 (by decide) (by decide) rfl kX1 fX1_21 dX1_born_33 (fun x8 qx8 vx8 gx8 => ?_)
    refine z_iconst (v := Int32.ofInt 4) dX1_born_36 rfl ?_
    refine tw_imul dX1_born_37 (fun z9 gz9 ez9 => ?_)
    first | have ez9 := ez9 ⟨by omega, by omega⟩ | clear ez9
    refine z_iload_n dX1_born_38 rfl rfl ?_
    refine tw_iadd dX1_born_39 (fun z10 gz10 ez10 => ?_)
    first | have ez10 := ez10 ⟨by omega, by omega⟩ | clear ez10
    refine z_iload_n dX1_born_40 rfl rfl ?_
    refine z_iload_n dX1_born_41 rfl rfl ?_
    refine tw_ishr dX1_born_42 (fun z11 gz11 => ?_)
    refine z_iconst (v := Int32.ofInt 1) dX1_born_43 rfl ?_
    refine tw_iand dX1_born_44 (fun z12 gz12 => ?_)
    refine i_if_eq (tgt := 53) dX1_born_45 (by decide) gz12 (fun h13 => ?_) (fun h13 => ?_)
    · refine z_iconst (v := Int32.ofInt 0) dX1_born_53 rfl ?_
      refine z_loc (L' := [(0, .ref (G.1 + a0)), (2, .int (Int32.ofInt l2)), (3, .int (Int32.ofInt l3))]) (List.forall_mem_cons.mpr ⟨rfl, (List.forall_mem_cons.mpr ⟨rfl, (List.forall_mem_cons.mpr ⟨rfl, (fun _ h => nomatch h)⟩)⟩)⟩) ?_
      exact bX1_born_54 hd hW hX ga0 gl2 gl3 (show rng 0 from ⟨by decide, by decide⟩) gz10 gb7 (by omega) (by omega) (by omega) (by omega) (by omega) hP ih_23
    · refine z_bipush (v := Int32.ofInt (-2)) dX1_born_48 (by decide) ?_
      refine z_goto (tgt := 54) dX1_born_50 (by decide) ?_
      refine z_loc (L' := [(0, .ref (G.1 + a0)), (2, .int (Int32.ofInt l2)), (3, .int (Int32.ofInt l3))]) (List.forall_mem_cons.mpr ⟨rfl, (List.forall_mem_cons.mpr ⟨rfl, (List.forall_mem_cons.mpr ⟨rfl, (fun _ h => nomatch h)⟩)⟩)⟩) ?_
      exact bX1_born_54 hd hW hX ga0 gl2 gl3 (show rng (-2) from ⟨by decide, by decide⟩) gz10 gb7 (by omega) (by omega) (by omega) (by omega) (by omega) hP ih_23
set_option maxRecDepth 100000 in
set_option maxHeartbeats 4000000 in
theorem bX1_born_23 {G : xG} {d : Nat} {Post : xP} {B : Nat × Nat} {τ0 τ : Tau} {c0 cs : List va_E} {a0 pa0 : Nat} {l2 : Int} {l3 : Int} (hd : 0 ≤ d) (hW : WT G B τ cs) (hX : Fx [1] τ0 c0 τ cs) (ga0 : τ a0 = some (.inl (1, pa0))) (gl2 : rng l2) (gl3 : rng l3) (i0 : fld cs a0 3 ≤ 29) (i1 : 0 ≤ l3)  (hP : ∀ (τ1 : Tau) (c1 : List va_E) (r : Int), WT G B τ1 c1 → Fx [1] τ0 c0 τ1 c1 → rng r → ((iv (-1) 29 r)) → Post (some (.int (Int32.ofInt r))) c1)  : Z (RX1, cX1_born, 4, some .int, false) G d Post 23 [(0, .ref (G.1 + a0)), (2, .int (Int32.ofInt l2)), (3, .int (Int32.ofInt l3))] [] cs := by
  have key : ∀ (n : Nat) (τ : Tau) (cs : List va_E) (a0 pa0 : Nat) (l2 : Int) (l3 : Int) (hW : WT G B τ cs) (hX : Fx [1] τ0 c0 τ cs) (ga0 : τ a0 = some (.inl (1, pa0))) (gl2 : rng l2) (gl3 : rng l3) (i0 : fld cs a0 3 ≤ 29) (i1 : 0 ≤ l3) , (4 - l3).toNat < n → Z (RX1, cX1_born, 4, some .int, false) G d Post 23 [(0, .ref (G.1 + a0)), (2, .int (Int32.ofInt l2)), (3, .int (Int32.ofInt l3))] [] cs := by
    intro n
    induction n with
    | zero => intro τ cs a0 pa0 l2 l3 hW hX ga0 gl2 gl3 i0 i1 hm; exact absurd hm (Nat.not_lt_zero _)
    | succ n ih =>
      intro τ cs a0 pa0 l2 l3 hW hX ga0 gl2 gl3 i0 i1 hm
      exact eX1_born_23 hd hW hX ga0 gl2 gl3 i0 i1 hP  (fun hW hX ga0 gl2 gl3 i0 i1 hm => ih _ _ _ _ _ _ hW hX ga0 gl2 gl3 i0 i1 hm) hm
  exact key _ _ _ _ _ _ _ hW hX ga0 gl2 gl3 i0 i1 (Nat.lt_succ_self _)
set_option maxRecDepth 100000 in
set_option maxHeartbeats 4000000 in
theorem kX1_born {G : xG} {B : Nat × Nat} {τ : Tau} {cs : List va_E} {a0 pa0 : Nat} {l1 : Int} {l2 : Int} (d : Nat) (hd : 0 ≤ d) (hW : WT G B τ cs) (ga0 : τ a0 = some (.inl (1, pa0))) (gl1 : rng l1) (gl2 : rng l2)  : X G yX1_born cX1_born 4 (some .int) d [.ref (G.1 + a0), .int (Int32.ofInt l1), .int (Int32.ofInt l2)] cs (wI G B τ cs [1] (fun r => (iv (-1) 29 r))) := by
  refine X.of false (by decide +kernel) (by decide) (Nat.le_of_ble_eq_true rfl) ?_
  show Z (RX1, cX1_born, 4, some .int, false) G d _ 0 [(0, .ref (G.1 + a0)), (1, .int (Int32.ofInt l1)), (2, .int (Int32.ofInt l2))] [] cs
  have hP : ∀ (τ1 : Tau) (c1 : List va_E) (r : Int), WT G B τ1 c1 → Fx [1] τ cs τ1 c1 → rng r → ((iv (-1) 29 r)) → wI G B τ cs [1] (fun r => (iv (-1) 29 r)) (some (.int (Int32.ofInt r))) c1 := fun τ1 c1 r h1 h2 h3 h4 => ⟨τ1, r, rfl, h3, h1, h2, h4⟩
  have hX : Fx [1] τ cs τ cs := Fx.rf
  skip
  refine z_aload_n dX1_born_0 rfl rfl ?_
  refine tw_getI hW ga0 (by decide) (by decide) rfl kX1 fX1_21 dX1_born_1 (fun x1 qx1 vx1 gx1 => ?_)
  refine z_bipush (v := Int32.ofInt 30) dX1_born_4 (by decide) ?_
  refine i_icmp_lt (tgt := 11) dX1_born_6 (by decide) gx1 (show rng 30 from ⟨by decide, by decide⟩) (fun h2 => ?_) (fun h2 => ?_)
  · refine z_aload_n dX1_born_11 rfl rfl ?_
    refine tw_getA hW ga0 (by decide) (by decide) rfl kX1 fX1_9 dX1_born_12 (fun b3 _ gb3 => ?_)
    refine z_aload_n dX1_born_15 rfl rfl ?_
    refine tw_getI hW ga0 (by decide) (by decide) rfl kX1 fX1_21 dX1_born_16 (fun x4 qx4 vx4 gx4 => ?_)
    refine z_iload_n dX1_born_19 rfl rfl ?_
    refine tw_iast hW hX gb3 (by omega) (by omega) (any_okT (by decide) _) (Or.inr (show (1 : Nat) ∈ _ by decide)) dX1_born_20 (fun c1 q _ => nA hW gb3 (show (2147483648 : Int) ≠ 600 by decide) (show (2147483648 : Int) ≠ 601 by decide) c1 q) (fun cs hW hX hfr _ => ?_)
    have f5 := fld_fr (k := 3) hfr ga0 gb3
    clear hfr
    refine z_iconst (v := Int32.ofInt 0) dX1_born_21 rfl ?_
    refine z_istore_n dX1_born_22 rfl (by decide) ?_
    refine z_loc (L' := [(0, .ref (G.1 + a0)), (1, .int (Int32.ofInt l1)), (2, .int (Int32.ofInt l2)), (3, .int (Int32.ofInt 0))]) (List.forall_mem_cons.mpr ⟨rfl, (List.forall_mem_cons.mpr ⟨rfl, (List.forall_mem_cons.mpr ⟨rfl, (List.forall_mem_cons.mpr ⟨rfl, (fun _ h => nomatch h)⟩)⟩)⟩)⟩) ?_
    refine z_loc (L' := [(0, .ref (G.1 + a0)), (2, .int (Int32.ofInt l2)), (3, .int (Int32.ofInt 0))]) (List.forall_mem_cons.mpr ⟨rfl, (List.forall_mem_cons.mpr ⟨rfl, (List.forall_mem_cons.mpr ⟨rfl, (fun _ h => nomatch h)⟩)⟩)⟩) ?_
    exact bX1_born_23 hd hW hX ga0 gl2 (show rng 0 from ⟨by decide, by decide⟩) (by omega) (by omega)  hP 
  · refine z_iconst (v := Int32.ofInt (-1)) dX1_born_9 rfl ?_
    exact z_ireturn dX1_born_10 rfl rfl (hP _ _ _ hW hX (show rng (-1) from ⟨by decide, by decide⟩) (by omega))

