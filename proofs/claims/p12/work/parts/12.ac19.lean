set_option maxRecDepth 100000 in
set_option maxHeartbeats 4000000 in
theorem eX2_areListsAlike_3 {G : xG} {d : Nat} {Post : xP} {B : Nat × Nat} {τ0 τ : Tau} {c0 cs : List va_E} {a0 pa0 : Nat} {l1 : Int} {l2 : Int} {l3 : Int} {l4 : Int} {n3 : Nat} (hd : 3 ≤ d) (hW : WT G B τ cs) (hX : Fx [2] τ0 c0 τ cs) (ga0 : τ a0 = some (.inl (2, pa0))) (gl1 : rng l1) (gl2 : rng l2) (gl3 : rng l3) (gl4 : rng l4)   (hP : ∀ (τ1 : Tau) (c1 : List va_E) (r : Int), WT G B τ1 c1 → Fx [2] τ0 c0 τ1 c1 → rng r → ((iv 0 1 r)) → Post (some (.int (Int32.ofInt r))) c1)  (ih_3 : ∀ {τ : Tau} {cs : List va_E} {a0 pa0 : Nat} {l1 : Int} {l2 : Int} {l3 : Int} {l4 : Int} (hW : WT G B τ cs) (hX : Fx [2] τ0 c0 τ cs) (ga0 : τ a0 = some (.inl (2, pa0))) (gl1 : rng l1) (gl2 : rng l2) (gl3 : rng l3) (gl4 : rng l4)  , (8 - l4).toNat < n3 → Z (RX2, cX2_areListsAlike, 5, some .boolean, false) G d Post 3 [(0, .ref (G.1 + a0)), (1, .int (Int32.ofInt l1)), (2, .int (Int32.ofInt l2)), (3, .int (Int32.ofInt l3)), (4, .int (Int32.ofInt l4))] [] cs) (hm_3 : (8 - l4).toNat < n3 + 1) : Z (RX2, cX2_areListsAlike, 5, some .boolean, false) G d Post 3 [(0, .ref (G.1 + a0)), (1, .int (Int32.ofInt l1)), (2, .int (Int32.ofInt l2)), (3, .int (Int32.ofInt l3)), (4, .int (Int32.ofInt l4))] [] cs := by
  refine z_iload dX2_areListsAlike_3 rfl ?_
  refine z_bipush (v := Int32.ofInt 8) dX2_areListsAlike_5 (by decide) ?_
  refine i_icmp_ge (tgt := 61) dX2_areListsAlike_7 (by decide) gl4 (show rng 8 from ⟨by decide, by decide⟩) (fun h1 => ?_) (fun h1 => ?_)
  · refine z_iconst (v := Int32.ofInt 1) dX2_areListsAlike_61 rfl ?_
    exact z_ireturn dX2_areListsAlike_62 rfl (nar01 (b01 ⟨by decide, by decide⟩)) (hP _ _ _ hW hX (show rng 1 from ⟨by decide, by decide⟩) (by omega))
  · refine z_iload dX2_areListsAlike_10 rfl ?_
    refine z_aload_n dX2_areListsAlike_12 rfl rfl ?_
    refine tw_getO hW ga0 (by decide) (by decide) rfl kX2 fX2_29 dX2_areListsAlike_13 (fun b2 pb2 gb2 => ?_)
    refine z_iload_n dX2_areListsAlike_16 rfl rfl ?_
    refine z_iload_n dX2_areListsAlike_17 rfl rfl ?_
    have hX0 := kX1_head 1 (Nat.le_refl _) hW gb2 gl1 gl3 
    refine z_callV (As := [_, _]) eX1_head sX1_head lX2_68 rfl dX2_areListsAlike_18 (hW.ob gb2 (by decide)).choose_spec hX0 (Nat.le_trans (by decide) hd) rfl (Nat.le_of_ble_eq_true rfl) (fun r cs1 hp => ?_)
    obtain ⟨hcs, r4, rfl, gr4, _⟩ := hp
    obtain rfl := hcs.symm
    refine z_st (st' := [.int (Int32.ofInt r4), .int (Int32.ofInt l4)]) rfl ?_
    refine i_icmp_ge (tgt := 61) dX2_areListsAlike_21 (by decide) gl4 gr4 (fun h5 => ?_) (fun h5 => ?_)
    · refine z_iconst (v := Int32.ofInt 1) dX2_areListsAlike_61 rfl ?_
      exact z_ireturn dX2_areListsAlike_62 rfl (nar01 (b01 ⟨by decide, by decide⟩)) (hP _ _ _ hW hX (show rng 1 from ⟨by decide, by decide⟩) (by omega))
    · refine z_aload_n dX2_areListsAlike_24 rfl rfl ?_
      refine z_aload_n dX2_areListsAlike_25 rfl rfl ?_
      refine tw_getO hW ga0 (by decide) (by decide) rfl kX2 fX2_29 dX2_areListsAlike_26 (fun b6 pb6 gb6 => ?_)
      refine z_iload_n dX2_areListsAlike_29 rfl rfl ?_
      refine z_iload_n dX2_areListsAlike_30 rfl rfl ?_
      refine z_iload dX2_areListsAlike_31 rfl ?_
      have hX0 := kX1_cell 1 (Nat.le_refl _) hW gb6 gl1 gl3 gl4 
      refine z_callV (As := [_, _, _]) eX1_cell sX1_cell lX2_78 rfl dX2_areListsAlike_33 (hW.ob gb6 (by decide)).choose_spec hX0 (Nat.le_trans (by decide) hd) rfl (Nat.le_of_ble_eq_true rfl) (fun r cs1 hp => ?_)
      obtain ⟨hcs, r8, rfl, gr8, _⟩ := hp
      obtain rfl := hcs.symm
      refine z_st (st' := [.int (Int32.ofInt r8), .ref (G.1 + a0)]) rfl ?_
      refine z_aload_n dX2_areListsAlike_36 rfl rfl ?_
      refine tw_getO hW ga0 (by decide) (by decide) rfl kX2 fX2_33 dX2_areListsAlike_37 (fun b9 pb9 gb9 => ?_)
      refine z_iload_n dX2_areListsAlike_40 rfl rfl ?_
      refine z_iload_n dX2_areListsAlike_41 rfl rfl ?_
      refine z_iload dX2_areListsAlike_42 rfl ?_
      have hX0 := kX1_cell 1 (Nat.le_refl _) hW gb9 gl2 gl3 gl4 
      refine z_callV (As := [_, _, _]) eX1_cell sX1_cell lX2_78 rfl dX2_areListsAlike_44 (hW.ob gb9 (by decide)).choose_spec hX0 (Nat.le_trans (by decide) hd) rfl (Nat.le_of_ble_eq_true rfl) (fun r cs1 hp => ?_)
      obtain ⟨hcs, r11, rfl, gr11, _⟩ := hp
      obtain rfl := hcs.symm
      refine z_st (st' := [.int (Int32.ofInt r11), .int (Int32.ofInt r8), .ref (G.1 + a0)]) rfl ?_
      have hX0 := kX2_pairs 2 (Nat.le_refl _) hW ga0 gr8 gr11 
      refine z_callV (As := [_, _]) eX2_pairs sX2_pairs lX2_42 rfl dX2_areListsAlike_47 (hW.ob ga0 (by decide)).choose_spec hX0 (Nat.le_trans (by decide) hd) rfl (Nat.le_of_ble_eq_true rfl) (fun r cs hp => ?_)
      obtain ⟨τ, r13, rfl, gr13, hW, k14, n12_0⟩ := hp
      have hX := hX.tr k14 (by decide)
      have ga0 := k14.1.e ga0 (by decide)
      clear hX0
      refine z_st (st' := [.int (Int32.ofInt r13)]) rfl ?_
      refine i_if_ne (tgt := 55) dX2_areListsAlike_50 (by decide) gr13 (fun h15 => ?_) (fun h15 => ?_)
      · refine tw_iinc (l := l4) dX2_areListsAlike_55 rfl (by decide) (fun z16 gz16 ez16 => ?_)
        first | have ez16 := ez16 ⟨by omega, by omega⟩ | clear ez16
        refine z_loc (L' := [(0, .ref (G.1 + a0)), (1, .int (Int32.ofInt l1)), (2, .int (Int32.ofInt l2)), (3, .int (Int32.ofInt l3)), (4, .int (Int32.ofInt z16))]) (List.forall_mem_cons.mpr ⟨rfl, (List.forall_mem_cons.mpr ⟨rfl, (List.forall_mem_cons.mpr ⟨rfl, (List.forall_mem_cons.mpr ⟨rfl, (List.forall_mem_cons.mpr ⟨rfl, (fun _ h => nomatch h)⟩)⟩)⟩)⟩)⟩) ?_
        refine z_goto (tgt := 3) dX2_areListsAlike_58 (by decide) ?_
        refine z_loc (L' := [(0, .ref (G.1 + a0)), (1, .int (Int32.ofInt l1)), (2, .int (Int32.ofInt l2)), (3, .int (Int32.ofInt l3)), (4, .int (Int32.ofInt z16))]) (List.forall_mem_cons.mpr ⟨rfl, (List.forall_mem_cons.mpr ⟨rfl, (List.forall_mem_cons.mpr ⟨rfl, (List.forall_mem_cons.mpr ⟨rfl, (List.forall_mem_cons.mpr ⟨rfl, (fun _ h => nomatch h)⟩)⟩)⟩)⟩)⟩) ?_
        exact ih_3 hW hX ga0 gl1 gl2 gl3 gz16   (by omega)
      · refine z_iconst (v := Int32.ofInt 0) dX2_areListsAlike_53 rfl ?_
        exact z_ireturn dX2_areListsAlike_54 rfl (nar01 (b01 ⟨by decide, by decide⟩)) (hP _ _ _ hW hX (show rng 0 from ⟨by decide, by decide⟩) (by omega))
set_option maxRecDepth 100000 in
set_option maxHeartbeats 4000000 in
theorem bX2_areListsAlike_3 {G : xG} {d : Nat} {Post : xP} {B : Nat × Nat} {τ0 τ : Tau} {c0 cs : List va_E} {a0 pa0 : Nat} {l1 : Int} {l2 : Int} {l3 : Int} {l4 : Int} (hd : 3 ≤ d) (hW : WT G B τ cs) (hX : Fx [2] τ0 c0 τ cs) (ga0 : τ a0 = some (.inl (2, pa0))) (gl1 : rng l1) (gl2 : rng l2) (gl3 : rng l3) (gl4 : rng l4)   (hP : ∀ (τ1 : Tau) (c1 : List va_E) (r : Int), WT G B τ1 c1 → Fx [2] τ0 c0 τ1 c1 → rng r → ((iv 0 1 r)) → Post (some (.int (Int32.ofInt r))) c1)  : Z (RX2, cX2_areListsAlike, 5, some .boolean, false) G d Post 3 [(0, .ref (G.1 + a0)), (1, .int (Int32.ofInt l1)), (2, .int (Int32.ofInt l2)), (3, .int (Int32.ofInt l3)), (4, .int (Int32.ofInt l4))] [] cs := by
  have key : ∀ (n : Nat) (τ : Tau) (cs : List va_E) (a0 pa0 : Nat) (l1 : Int) (l2 : Int) (l3 : Int) (l4 : Int) (hW : WT G B τ cs) (hX : Fx [2] τ0 c0 τ cs) (ga0 : τ a0 = some (.inl (2, pa0))) (gl1 : rng l1) (gl2 : rng l2) (gl3 : rng l3) (gl4 : rng l4)  , (8 - l4).toNat < n → Z (RX2, cX2_areListsAlike, 5, some .boolean, false) G d Post 3 [(0, .ref (G.1 + a0)), (1, .int (Int32.ofInt l1)), (2, .int (Int32.ofInt l2)), (3, .int (Int32.ofInt l3)), (4, .int (Int32.ofInt l4))] [] cs := by
    intro n
    induction n with
    | zero => intro τ cs a0 pa0 l1 l2 l3 l4 hW hX ga0 gl1 gl2 gl3 gl4 hm; exact absurd hm (Nat.not_lt_zero _)
    | succ n ih =>
      intro τ cs a0 pa0 l1 l2 l3 l4 hW hX ga0 gl1 gl2 gl3 gl4 hm
      exact eX2_areListsAlike_3 hd hW hX ga0 gl1 gl2 gl3 gl4 hP  (fun hW hX ga0 gl1 gl2 gl3 gl4 hm => ih _ _ _ _ _ _ _ _ hW hX ga0 gl1 gl2 gl3 gl4 hm) hm
  exact key _ _ _ _ _ _ _ _ _ hW hX ga0 gl1 gl2 gl3 gl4 (Nat.lt_succ_self _)
set_option maxRecDepth 100000 in
set_option maxHeartbeats 4000000 in
theorem kX2_areListsAlike {G : xG} {B : Nat × Nat} {τ : Tau} {cs : List va_E} {a0 pa0 : Nat} {l1 : Int} {l2 : Int} {l3 : Int} (d : Nat) (hd : 3 ≤ d) (hW : WT G B τ cs) (ga0 : τ a0 = some (.inl (2, pa0))) (gl1 : rng l1) (gl2 : rng l2) (gl3 : rng l3)  : X G yX2_areListsAlike cX2_areListsAlike 5 (some .boolean) d [.ref (G.1 + a0), .int (Int32.ofInt l1), .int (Int32.ofInt l2), .int (Int32.ofInt l3)] cs (wI G B τ cs [2] (fun r => (iv 0 1 r))) := by
  refine X.of false (by decide +kernel) (by decide) (Nat.le_of_ble_eq_true rfl) ?_
  show Z (RX2, cX2_areListsAlike, 5, some .boolean, false) G d _ 0 [(0, .ref (G.1 + a0)), (1, .int (Int32.ofInt l1)), (2, .int (Int32.ofInt l2)), (3, .int (Int32.ofInt l3))] [] cs
  have hP : ∀ (τ1 : Tau) (c1 : List va_E) (r : Int), WT G B τ1 c1 → Fx [2] τ cs τ1 c1 → rng r → ((iv 0 1 r)) → wI G B τ cs [2] (fun r => (iv 0 1 r)) (some (.int (Int32.ofInt r))) c1 := fun τ1 c1 r h1 h2 h3 h4 => ⟨τ1, r, rfl, h3, h1, h2, h4⟩
  have hX : Fx [2] τ cs τ cs := Fx.rf
  skip
  refine z_iconst (v := Int32.ofInt 0) dX2_areListsAlike_0 rfl ?_
  refine z_istore dX2_areListsAlike_1 (by decide) ?_
  refine z_loc (L' := [(0, .ref (G.1 + a0)), (1, .int (Int32.ofInt l1)), (2, .int (Int32.ofInt l2)), (3, .int (Int32.ofInt l3)), (4, .int (Int32.ofInt 0))]) (List.forall_mem_cons.mpr ⟨rfl, (List.forall_mem_cons.mpr ⟨rfl, (List.forall_mem_cons.mpr ⟨rfl, (List.forall_mem_cons.mpr ⟨rfl, (List.forall_mem_cons.mpr ⟨rfl, (fun _ h => nomatch h)⟩)⟩)⟩)⟩)⟩) ?_
  refine z_loc (L' := [(0, .ref (G.1 + a0)), (1, .int (Int32.ofInt l1)), (2, .int (Int32.ofInt l2)), (3, .int (Int32.ofInt l3)), (4, .int (Int32.ofInt 0))]) (List.forall_mem_cons.mpr ⟨rfl, (List.forall_mem_cons.mpr ⟨rfl, (List.forall_mem_cons.mpr ⟨rfl, (List.forall_mem_cons.mpr ⟨rfl, (List.forall_mem_cons.mpr ⟨rfl, (fun _ h => nomatch h)⟩)⟩)⟩)⟩)⟩) ?_
  exact bX2_areListsAlike_3 hd hW hX ga0 gl1 gl2 gl3 (show rng 0 from ⟨by decide, by decide⟩)   hP 

set_option maxRecDepth 100000 in
set_option maxHeartbeats 4000000 in
theorem eX2_areTextsAlike_3 {G : xG} {d : Nat} {Post : xP} {B : Nat × Nat} {τ : Tau} {cs : List va_E} {a0 pa0 : Nat} {l1 : Int} {l2 : Int} {l3 : Int} {l4 : Int} {n3 : Nat} (hd : 2 ≤ d) (hW : WT G B τ cs) (ga0 : τ a0 = some (.inl (2, pa0))) (gl1 : rng l1) (gl2 : rng l2) (gl3 : rng l3) (gl4 : rng l4)   (hP : ∀ r : Int, rng r → ((iv 0 1 r)) → Post (some (.int (Int32.ofInt r))) cs)  (ih_3 : ∀ {a0 pa0 : Nat} {l1 : Int} {l2 : Int} {l3 : Int} {l4 : Int} (hW : WT G B τ cs) (ga0 : τ a0 = some (.inl (2, pa0))) (gl1 : rng l1) (gl2 : rng l2) (gl3 : rng l3) (gl4 : rng l4)  , (20 - l4).toNat < n3 → Z (RX2, cX2_areTextsAlike, 5, some .boolean, false) G d Post 3 [(0, .ref (G.1 + a0)), (1, .int (Int32.ofInt l1)), (2, .int (Int32.ofInt l2)), (3, .int (Int32.ofInt l3)), (4, .int (Int32.ofInt l4))] [] cs) (hm_3 : (20 - l4).toNat < n3 + 1) : Z (RX2, cX2_areTextsAlike, 5, some .boolean, false) G d Post 3 [(0, .ref (G.1 + a0)), (1, .int (Int32.ofInt l1)), (2, .int (Int32.ofInt l2)), (3, .int (Int32.ofInt l3)), (4, .int (Int32.ofInt l4))] [] cs := by
  refine z_iload dX2_areTextsAlike_3 rfl ?_
  refine z_bipush (v := Int32.ofInt 20) dX2_areTextsAlike_5 (by decide) ?_
  refine i_icmp_ge (tgt := 57) dX2_areTextsAlike_7 (by decide) gl4 (show rng 20 from ⟨by decide, by decide⟩) (fun h1 => ?_) (fun h1 => ?_)
  · refine z_iconst (v := Int32.ofInt 1) dX2_areTextsAlike_57 rfl ?_
    exact z_ireturn dX2_areTextsAlike_58 rfl (nar01 (b01 ⟨by decide, by decide⟩)) (hP _ (show rng 1 from ⟨by decide, by decide⟩) (by omega))
  · refine z_iload dX2_areTextsAlike_10 rfl ?_
    refine z_aload_n dX2_areTextsAlike_12 rfl rfl ?_
    refine tw_getO hW ga0 (by decide) (by decide) rfl kX2 fX2_29 dX2_areTextsAlike_13 (fun b2 pb2 gb2 => ?_)
    refine z_iload_n dX2_areTextsAlike_16 rfl rfl ?_
    refine z_iload_n dX2_areTextsAlike_17 rfl rfl ?_
    have hX0 := kX1_head 1 (Nat.le_refl _) hW gb2 gl1 gl3 
    refine z_callV (As := [_, _]) eX1_head sX1_head lX2_68 rfl dX2_areTextsAlike_18 (hW.ob gb2 (by decide)).choose_spec hX0 (Nat.le_trans (by decide) hd) rfl (Nat.le_of_ble_eq_true rfl) (fun r cs1 hp => ?_)
    obtain ⟨hcs, r4, rfl, gr4, _⟩ := hp
    obtain rfl := hcs.symm
    refine z_st (st' := [.int (Int32.ofInt r4), .int (Int32.ofInt l4)]) rfl ?_
    refine i_icmp_ge (tgt := 57) dX2_areTextsAlike_21 (by decide) gl4 gr4 (fun h5 => ?_) (fun h5 => ?_)
    · refine z_iconst (v := Int32.ofInt 1) dX2_areTextsAlike_57 rfl ?_
      exact z_ireturn dX2_areTextsAlike_58 rfl (nar01 (b01 ⟨by decide, by decide⟩)) (hP _ (show rng 1 from ⟨by decide, by decide⟩) (by omega))
    · refine z_aload_n dX2_areTextsAlike_24 rfl rfl ?_
      refine tw_getO hW ga0 (by decide) (by decide) rfl kX2 fX2_29 dX2_areTextsAlike_25 (fun b6 pb6 gb6 => ?_)
      refine z_iload_n dX2_areTextsAlike_28 rfl rfl ?_
      refine z_iload_n dX2_areTextsAlike_29 rfl rfl ?_
      refine z_iload dX2_areTextsAlike_30 rfl ?_
      have hX0 := kX1_cell 1 (Nat.le_refl _) hW gb6 gl1 gl3 gl4 
      refine z_callV (As := [_, _, _]) eX1_cell sX1_cell lX2_78 rfl dX2_areTextsAlike_32 (hW.ob gb6 (by decide)).choose_spec hX0 (Nat.le_trans (by decide) hd) rfl (Nat.le_of_ble_eq_true rfl) (fun r cs1 hp => ?_)
      obtain ⟨hcs, r8, rfl, gr8, _⟩ := hp
      obtain rfl := hcs.symm
      refine z_st (st' := [.int (Int32.ofInt r8)]) rfl ?_
      refine z_aload_n dX2_areTextsAlike_35 rfl rfl ?_
      refine tw_getO hW ga0 (by decide) (by decide) rfl kX2 fX2_33 dX2_areTextsAlike_36 (fun b9 pb9 gb9 => ?_)
      refine z_iload_n dX2_areTextsAlike_39 rfl rfl ?_
      refine z_iload_n dX2_areTextsAlike_40 rfl rfl ?_
      refine z_iload dX2_areTextsAlike_41 rfl ?_
      have hX0 := kX1_cell 1 (Nat.le_refl _) hW gb9 gl2 gl3 gl4 
      refine z_callV (As := [_, _, _]) eX1_cell sX1_cell lX2_78 rfl dX2_areTextsAlike_43 (hW.ob gb9 (by decide)).choose_spec hX0 (Nat.le_trans (by decide) hd) rfl (Nat.le_of_ble_eq_true rfl) (fun r cs1 hp => ?_)
      obtain ⟨hcs, r11, rfl, gr11, _⟩ := hp
      obtain rfl := hcs.symm
      refine z_st (st' := [.int (Int32.ofInt r11), .int (Int32.ofInt r8)]) rfl ?_
      refine i_icmp_eq (tgt := 51) dX2_areTextsAlike_46 (by decide) gr8 gr11 (fun h12 => ?_) (fun h12 => ?_)
      · refine tw_iinc (l := l4) dX2_areTextsAlike_51 rfl (by decide) (fun z13 gz13 ez13 => ?_)
        first | have ez13 := ez13 ⟨by omega, by omega⟩ | clear ez13
        refine z_loc (L' := [(0, .ref (G.1 + a0)), (1, .int (Int32.ofInt l1)), (2, .int (Int32.ofInt l2)), (3, .int (Int32.ofInt l3)), (4, .int (Int32.ofInt z13))]) (List.forall_mem_cons.mpr ⟨rfl, (List.forall_mem_cons.mpr ⟨rfl, (List.forall_mem_cons.mpr ⟨rfl, (List.forall_mem_cons.mpr ⟨rfl, (List.forall_mem_cons.mpr ⟨rfl, (fun _ h => nomatch h)⟩)⟩)⟩)⟩)⟩) ?_
        refine z_goto (tgt := 3) dX2_areTextsAlike_54 (by decide) ?_
        refine z_loc (L' := [(0, .ref (G.1 + a0)), (1, .int (Int32.ofInt l1)), (2, .int (Int32.ofInt l2)), (3, .int (Int32.ofInt l3)), (4, .int (Int32.ofInt z13))]) (List.forall_mem_cons.mpr ⟨rfl, (List.forall_mem_cons.mpr ⟨rfl, (List.forall_mem_cons.mpr ⟨rfl, (List.forall_mem_cons.mpr ⟨rfl, (List.forall_mem_cons.mpr ⟨rfl, (fun _ h => nomatch h)⟩)⟩)⟩)⟩)⟩) ?_
        exact ih_3 hW ga0 gl1 gl2 gl3 gz13   (by omega)
      · refine z_iconst (v := Int32.ofInt 0) dX2_areTextsAlike_49 rfl ?_
        exact z_ireturn dX2_areTextsAlike_50 rfl (nar01 (b01 ⟨by decide, by decide⟩)) (hP _ (show rng 0 from ⟨by decide, by decide⟩) (by omega))
set_option maxRecDepth 100000 in
set_option maxHeartbeats 4000000 in
theorem bX2_areTextsAlike_3 {G : xG} {d : Nat} {Post : xP} {B : Nat × Nat} {τ : Tau} {cs : List va_E} {a0 pa0 : Nat} {l1 : Int} {l2 : Int} {l3 : Int} {l4 : Int} (hd : 2 ≤ d) (hW : WT G B τ cs) (ga0 : τ a0 = some (.inl (2, pa0))) (gl1 : rng l1) (gl2 : rng l2) (gl3 : rng l3) (gl4 : rng l4)   (hP : ∀ r : Int, rng r → ((iv 0 1 r)) → Post (some (.int (Int32.ofInt r))) cs)  : Z (RX2, cX2_areTextsAlike, 5, some .boolean, false) G d Post 3 [(0, .ref (G.1 + a0)), (1, .int (Int32.ofInt l1)), (2, .int (Int32.ofInt l2)), (3, .int (Int32.ofInt l3)), (4, .int (Int32.ofInt l4))] [] cs := by
  have key : ∀ (n : Nat) (a0 pa0 : Nat) (l1 : Int) (l2 : Int) (l3 : Int) (l4 : Int) (hW : WT G B τ cs) (ga0 : τ a0 = some (.inl (2, pa0))) (gl1 : rng l1) (gl2 : rng l2) (gl3 : rng l3) (gl4 : rng l4)  , (20 - l4).toNat < n → Z (RX2, cX2_areTextsAlike, 5, some .boolean, false) G d Post 3 [(0, .ref (G.1 + a0)), (1, .int (Int32.ofInt l1)), (2, .int (Int32.ofInt l2)), (3, .int (Int32.ofInt l3)), (4, .int (Int32.ofInt l4))] [] cs := by
    intro n
    induction n with
    | zero => intro a0 pa0 l1 l2 l3 l4 hW ga0 gl1 gl2 gl3 gl4 hm; exact absurd hm (Nat.not_lt_zero _)
    | succ n ih =>
      intro a0 pa0 l1 l2 l3 l4 hW ga0 gl1 gl2 gl3 gl4 hm
      exact eX2_areTextsAlike_3 hd hW ga0 gl1 gl2 gl3 gl4 hP  (fun hW ga0 gl1 gl2 gl3 gl4 hm => ih _ _ _ _ _ _ hW ga0 gl1 gl2 gl3 gl4 hm) hm
  exact key _ _ _ _ _ _ _ hW ga0 gl1 gl2 gl3 gl4 (Nat.lt_succ_self _)
set_option maxRecDepth 100000 in
set_option maxHeartbeats 4000000 in
theorem kX2_areTextsAlike {G : xG} {B : Nat × Nat} {τ : Tau} {cs : List va_E} {a0 pa0 : Nat} {l1 : Int} {l2 : Int} {l3 : Int} (d : Nat) (hd : 2 ≤ d) (hW : WT G B τ cs) (ga0 : τ a0 = some (.inl (2, pa0))) (gl1 : rng l1) (gl2 : rng l2) (gl3 : rng l3)  : X G yX2_areTextsAlike cX2_areTextsAlike 5 (some .boolean) d [.ref (G.1 + a0), .int (Int32.ofInt l1), .int (Int32.ofInt l2), .int (Int32.ofInt l3)] cs (rI cs (fun r => (iv 0 1 r))) := by
  refine X.of false (by decide +kernel) (by decide) (Nat.le_of_ble_eq_true rfl) ?_
  show Z (RX2, cX2_areTextsAlike, 5, some .boolean, false) G d _ 0 [(0, .ref (G.1 + a0)), (1, .int (Int32.ofInt l1)), (2, .int (Int32.ofInt l2)), (3, .int (Int32.ofInt l3))] [] cs
  have hP : ∀ r : Int, rng r → ((iv 0 1 r)) → rI cs (fun r => (iv 0 1 r)) (some (.int (Int32.ofInt r))) cs := fun r h1 h2 => ⟨rfl, r, rfl, h1, h2⟩
  refine z_iconst (v := Int32.ofInt 0) dX2_areTextsAlike_0 rfl ?_
  refine z_istore dX2_areTextsAlike_1 (by decide) ?_
  refine z_loc (L' := [(0, .ref (G.1 + a0)), (1, .int (Int32.ofInt l1)), (2, .int (Int32.ofInt l2)), (3, .int (Int32.ofInt l3)), (4, .int (Int32.ofInt 0))]) (List.forall_mem_cons.mpr ⟨rfl, (List.forall_mem_cons.mpr ⟨rfl, (List.forall_mem_cons.mpr ⟨rfl, (List.forall_mem_cons.mpr ⟨rfl, (List.forall_mem_cons.mpr ⟨rfl, (fun _ h => nomatch h)⟩)⟩)⟩)⟩)⟩) ?_
  refine z_loc (L' := [(0, .ref (G.1 + a0)), (1, .int (Int32.ofInt l1)), (2, .int (Int32.ofInt l2)), (3, .int (Int32.ofInt l3)), (4, .int (Int32.ofInt 0))]) (List.forall_mem_cons.mpr ⟨rfl, (List.forall_mem_cons.mpr ⟨rfl, (List.forall_mem_cons.mpr ⟨rfl, (List.forall_mem_cons.mpr ⟨rfl, (List.forall_mem_cons.mpr ⟨rfl, (fun _ h => nomatch h)⟩)⟩)⟩)⟩)⟩) ?_
  exact bX2_areTextsAlike_3 hd hW ga0 gl1 gl2 gl3 (show rng 0 from ⟨by decide, by decide⟩)   hP 

set_option maxRecDepth 100000 in
set_option maxHeartbeats 4000000 in
theorem bX2_areFieldsAlike_141 {G : xG} {d : Nat} {Post : xP} {B : Nat × Nat} {τ0 τ : Tau} {c0 cs : List va_E} {a0 pa0 : Nat} {l1 : Int} {l2 : Int} {l3 : Int} {l4 : Int} {n12 : Nat} (hd : 4 ≤ d) (hW : WT G B τ cs) (hX : Fx [2] τ0 c0 τ cs) (ga0 : τ a0 = some (.inl (2, pa0))) (gl1 : rng l1) (gl2 : rng l2) (gl3 : rng l3) (gl4 : rng l4) (i0 : 1 ≤ 4 - l4) (hm_12 : (4 - l4).toNat < n12 + 1) (hP : ∀ (τ1 : Tau) (c1 : List va_E) (r : Int), WT G B τ1 c1 → Fx [2] τ0 c0 τ1 c1 → rng r → ((iv 0 1 r)) → Post (some (.int (Int32.ofInt r))) c1) (ih_12 : ∀ {τ : Tau} {cs : List va_E} {a0 pa0 : Nat} {l1 : Int} {l2 : Int} {l3 : Int} {l4 : Int} (hW : WT G B τ cs) (hX : Fx [2] τ0 c0 τ cs) (ga0 : τ a0 = some (.inl (2, pa0))) (gl1 : rng l1) (gl2 : rng l2) (gl3 : rng l3) (gl4 : rng l4)  , (4 - l4).toNat < n12 → Z (RX2, cX2_areFieldsAlike, 7, some .boolean, false) G d Post 12 [(0, .ref (G.1 + a0)), (1, .int (Int32.ofInt l1)), (2, .int (Int32.ofInt l2)), (3, .int (Int32.ofInt l3)), (4, .int (Int32.ofInt l4))] [] cs) : Z (RX2, cX2_areFieldsAlike, 7, some .boolean, false) G d Post 141 [(0, .ref (G.1 + a0)), (1, .int (Int32.ofInt l1)), (2, .int (Int32.ofInt l2)), (3, .int (Int32.ofInt l3)), (4, .int (Int32.ofInt l4))] [] cs := by
  refine tw_iinc (l := l4) dX2_areFieldsAlike_141 rfl (by decide) (fun z1 gz1 ez1 => ?_)
  first | have ez1 := ez1 ⟨by omega, by omega⟩ | clear ez1
  refine z_loc (L' := [(0, .ref (G.1 + a0)), (1, .int (Int32.ofInt l1)), (2, .int (Int32.ofInt l2)), (3, .int (Int32.ofInt l3)), (4, .int (Int32.ofInt z1))]) (List.forall_mem_cons.mpr ⟨rfl, (List.forall_mem_cons.mpr ⟨rfl, (List.forall_mem_cons.mpr ⟨rfl, (List.forall_mem_cons.mpr ⟨rfl, (List.forall_mem_cons.mpr ⟨rfl, (fun _ h => nomatch h)⟩)⟩)⟩)⟩)⟩) ?_
  refine z_goto (tgt := 12) dX2_areFieldsAlike_144 (by decide) ?_
  refine z_loc (L' := [(0, .ref (G.1 + a0)), (1, .int (Int32.ofInt l1)), (2, .int (Int32.ofInt l2)), (3, .int (Int32.ofInt l3)), (4, .int (Int32.ofInt z1))]) (List.forall_mem_cons.mpr ⟨rfl, (List.forall_mem_cons.mpr ⟨rfl, (List.forall_mem_cons.mpr ⟨rfl, (List.forall_mem_cons.mpr ⟨rfl, (List.forall_mem_cons.mpr ⟨rfl, (fun _ h => nomatch h)⟩)⟩)⟩)⟩)⟩) ?_
  exact ih_12 hW hX ga0 gl1 gl2 gl3 gz1   (by omega)
set_option maxRecDepth 100000 in
set_option maxHeartbeats 4000000 in
theorem bX2_areFieldsAlike_122 {G : xG} {d : Nat} {Post : xP} {B : Nat × Nat} {τ0 τ : Tau} {c0 cs : List va_E} {a0 pa0 : Nat} {l1 : Int} {l2 : Int} {l3 : Int} {l4 : Int} {l5 : Int} {n12 : Nat} (hd : 4 ≤ d) (hW : WT G B τ cs) (hX : Fx [2] τ0 c0 τ cs) (ga0 : τ a0 = some (.inl (2, pa0))) (gl1 : rng l1) (gl2 : rng l2) (gl3 : rng l3) (gl4 : rng l4) (gl5 : rng l5) (i0 : 1 ≤ 4 - l4) (hm_12 : (4 - l4).toNat < n12 + 1) (hP : ∀ (τ1 : Tau) (c1 : List va_E) (r : Int), WT G B τ1 c1 → Fx [2] τ0 c0 τ1 c1 → rng r → ((iv 0 1 r)) → Post (some (.int (Int32.ofInt r))) c1) (ih_12 : ∀ {τ : Tau} {cs : List va_E} {a0 pa0 : Nat} {l1 : Int} {l2 : Int} {l3 : Int} {l4 : Int} (hW : WT G B τ cs) (hX : Fx [2] τ0 c0 τ cs) (ga0 : τ a0 = some (.inl (2, pa0))) (gl1 : rng l1) (gl2 : rng l2) (gl3 : rng l3) (gl4 : rng l4)  , (4 - l4).toNat < n12 → Z (RX2, cX2_areFieldsAlike, 7, some .boolean, false) G d Post 12 [(0, .ref (G.1 + a0)), (1, .int (Int32.ofInt l1)), (2, .int (Int32.ofInt l2)), (3, .int (Int32.ofInt l3)), (4, .int (Int32.ofInt l4))] [] cs) : Z (RX2, cX2_areFieldsAlike, 7, some .boolean, false) G d Post 122 [(0, .ref (G.1 + a0)), (1, .int (Int32.ofInt l1)), (2, .int (Int32.ofInt l2)), (3, .int (Int32.ofInt l3)), (4, .int (Int32.ofInt l4)), (5, .int (Int32.ofInt l5))] [] cs := by
  refine z_iload dX2_areFieldsAlike_122 rfl ?_
  refine z_iconst (v := Int32.ofInt 4) dX2_areFieldsAlike_124 rfl ?_
  refine i_icmp_ne (tgt := 141) dX2_areFieldsAlike_125 (by decide) gl5 (show rng 4 from ⟨by decide, by decide⟩) (fun h1 => ?_) (fun h1 => ?_)
  · refine z_loc (L' := [(0, .ref (G.1 + a0)), (1, .int (Int32.ofInt l1)), (2, .int (Int32.ofInt l2)), (3, .int (Int32.ofInt l3)), (4, .int (Int32.ofInt l4))]) (List.forall_mem_cons.mpr ⟨rfl, (List.forall_mem_cons.mpr ⟨rfl, (List.forall_mem_cons.mpr ⟨rfl, (List.forall_mem_cons.mpr ⟨rfl, (List.forall_mem_cons.mpr ⟨rfl, (fun _ h => nomatch h)⟩)⟩)⟩)⟩)⟩) ?_
    exact bX2_areFieldsAlike_141 hd hW hX ga0 gl1 gl2 gl3 gl4 (by omega) (by omega) hP ih_12
  · refine z_aload_n dX2_areFieldsAlike_128 rfl rfl ?_
    refine z_iload_n dX2_areFieldsAlike_129 rfl rfl ?_
    refine z_iload_n dX2_areFieldsAlike_130 rfl rfl ?_
    refine z_iload dX2_areFieldsAlike_131 rfl ?_
    have hX0 := kX2_areListsAlike 3 (Nat.le_refl _) hW ga0 gl1 gl2 gl4 
    refine z_callV (As := [_, _, _]) eX2_areListsAlike sX2_areListsAlike lX2_75 rfl dX2_areFieldsAlike_133 (hW.ob ga0 (by decide)).choose_spec hX0 (Nat.le_trans (by decide) hd) rfl (Nat.le_of_ble_eq_true rfl) (fun r cs hp => ?_)
    obtain ⟨τ, r3, rfl, gr3, hW, k4, n2_0⟩ := hp
    have hX := hX.tr k4 (by decide)
    have ga0 := k4.1.e ga0 (by decide)
    clear hX0
    refine z_st (st' := [.int (Int32.ofInt r3)]) rfl ?_
    refine i_if_ne (tgt := 141) dX2_areFieldsAlike_136 (by decide) gr3 (fun h5 => ?_) (fun h5 => ?_)
    · refine z_loc (L' := [(0, .ref (G.1 + a0)), (1, .int (Int32.ofInt l1)), (2, .int (Int32.ofInt l2)), (3, .int (Int32.ofInt l3)), (4, .int (Int32.ofInt l4))]) (List.forall_mem_cons.mpr ⟨rfl, (List.forall_mem_cons.mpr ⟨rfl, (List.forall_mem_cons.mpr ⟨rfl, (List.forall_mem_cons.mpr ⟨rfl, (List.forall_mem_cons.mpr ⟨rfl, (fun _ h => nomatch h)⟩)⟩)⟩)⟩)⟩) ?_
      exact bX2_areFieldsAlike_141 hd hW hX ga0 gl1 gl2 gl3 gl4 (by omega) (by omega) hP ih_12
    · refine z_iconst (v := Int32.ofInt 0) dX2_areFieldsAlike_139 rfl ?_
      exact z_ireturn dX2_areFieldsAlike_140 rfl (nar01 (b01 ⟨by decide, by decide⟩)) (hP _ _ _ hW hX (show rng 0 from ⟨by decide, by decide⟩) (by omega))
set_option maxRecDepth 100000 in
set_option maxHeartbeats 4000000 in
theorem bX2_areFieldsAlike_98 {G : xG} {d : Nat} {Post : xP} {B : Nat × Nat} {τ0 τ : Tau} {c0 cs : List va_E} {a0 pa0 : Nat} {l1 : Int} {l2 : Int} {l3 : Int} {l4 : Int} {l5 : Int} {s0 : Int} {n12 : Nat} (hd : 4 ≤ d) (hW : WT G B τ cs) (hX : Fx [2] τ0 c0 τ cs) (ga0 : τ a0 = some (.inl (2, pa0))) (gl1 : rng l1) (gl2 : rng l2) (gl3 : rng l3) (gl4 : rng l4) (gl5 : rng l5) (gs0 : rng s0) (bs0 : iv 0 1 s0) (i0 : 1 ≤ 4 - l4) (hm_12 : (4 - l4).toNat < n12 + 1) (hP : ∀ (τ1 : Tau) (c1 : List va_E) (r : Int), WT G B τ1 c1 → Fx [2] τ0 c0 τ1 c1 → rng r → ((iv 0 1 r)) → Post (some (.int (Int32.ofInt r))) c1) (ih_12 : ∀ {τ : Tau} {cs : List va_E} {a0 pa0 : Nat} {l1 : Int} {l2 : Int} {l3 : Int} {l4 : Int} (hW : WT G B τ cs) (hX : Fx [2] τ0 c0 τ cs) (ga0 : τ a0 = some (.inl (2, pa0))) (gl1 : rng l1) (gl2 : rng l2) (gl3 : rng l3) (gl4 : rng l4)  , (4 - l4).toNat < n12 → Z (RX2, cX2_areFieldsAlike, 7, some .boolean, false) G d Post 12 [(0, .ref (G.1 + a0)), (1, .int (Int32.ofInt l1)), (2, .int (Int32.ofInt l2)), (3, .int (Int32.ofInt l3)), (4, .int (Int32.ofInt l4))] [] cs) : Z (RX2, cX2_areFieldsAlike, 7, some .boolean, false) G d Post 98 [(0, .ref (G.1 + a0)), (1, .int (Int32.ofInt l1)), (2, .int (Int32.ofInt l2)), (3, .int (Int32.ofInt l3)), (4, .int (Int32.ofInt l4)), (5, .int (Int32.ofInt l5))] [.int (Int32.ofInt s0)] cs := by
  refine z_istore dX2_areFieldsAlike_98 (by decide) ?_
  refine z_loc (L' := [(0, .ref (G.1 + a0)), (1, .int (Int32.ofInt l1)), (2, .int (Int32.ofInt l2)), (3, .int (Int32.ofInt l3)), (4, .int (Int32.ofInt l4)), (5, .int (Int32.ofInt l5)), (6, .int (Int32.ofInt s0))]) (List.forall_mem_cons.mpr ⟨rfl, (List.forall_mem_cons.mpr ⟨rfl, (List.forall_mem_cons.mpr ⟨rfl, (List.forall_mem_cons.mpr ⟨rfl, (List.forall_mem_cons.mpr ⟨rfl, (List.forall_mem_cons.mpr ⟨rfl, (List.forall_mem_cons.mpr ⟨rfl, (fun _ h => nomatch h)⟩)⟩)⟩)⟩)⟩)⟩)⟩) ?_
  refine z_iload dX2_areFieldsAlike_100 rfl ?_
  refine i_if_eq (tgt := 139) dX2_areFieldsAlike_102 (by decide) gs0 (fun h1 => ?_) (fun h1 => ?_)
  · refine z_iconst (v := Int32.ofInt 0) dX2_areFieldsAlike_139 rfl ?_
    exact z_ireturn dX2_areFieldsAlike_140 rfl (nar01 (b01 ⟨by decide, by decide⟩)) (hP _ _ _ hW hX (show rng 0 from ⟨by decide, by decide⟩) (by omega))
  · refine z_iload dX2_areFieldsAlike_105 rfl ?_
    refine z_iconst (v := Int32.ofInt 2) dX2_areFieldsAlike_107 rfl ?_
    refine i_icmp_ne (tgt := 122) dX2_areFieldsAlike_108 (by decide) gl5 (show rng 2 from ⟨by decide, by decide⟩) (fun h2 => ?_) (fun h2 => ?_)
    · refine z_loc (L' := [(0, .ref (G.1 + a0)), (1, .int (Int32.ofInt l1)), (2, .int (Int32.ofInt l2)), (3, .int (Int32.ofInt l3)), (4, .int (Int32.ofInt l4)), (5, .int (Int32.ofInt l5))]) (List.forall_mem_cons.mpr ⟨rfl, (List.forall_mem_cons.mpr ⟨rfl, (List.forall_mem_cons.mpr ⟨rfl, (List.forall_mem_cons.mpr ⟨rfl, (List.forall_mem_cons.mpr ⟨rfl, (List.forall_mem_cons.mpr ⟨rfl, (fun _ h => nomatch h)⟩)⟩)⟩)⟩)⟩)⟩) ?_
      exact bX2_areFieldsAlike_122 hd hW hX ga0 gl1 gl2 gl3 gl4 gl5 (by omega) (by omega) hP ih_12
    · refine z_aload_n dX2_areFieldsAlike_111 rfl rfl ?_
      refine z_iload_n dX2_areFieldsAlike_112 rfl rfl ?_
      refine z_iload_n dX2_areFieldsAlike_113 rfl rfl ?_
      refine z_iload dX2_areFieldsAlike_114 rfl ?_
      have hX0 := kX2_areTextsAlike 2 (Nat.le_refl _) hW ga0 gl1 gl2 gl4 
      refine z_callV (As := [_, _, _]) eX2_areTextsAlike sX2_areTextsAlike lX2_71 rfl dX2_areFieldsAlike_116 (hW.ob ga0 (by decide)).choose_spec hX0 (Nat.le_trans (by decide) hd) rfl (Nat.le_of_ble_eq_true rfl) (fun r cs1 hp => ?_)
      obtain ⟨hcs, r4, rfl, gr4, n3_0⟩ := hp
      obtain rfl := hcs.symm
      refine z_st (st' := [.int (Int32.ofInt r4)]) rfl ?_
      refine i_if_eq (tgt := 139) dX2_areFieldsAlike_119 (by decide) gr4 (fun h5 => ?_) (fun h5 => ?_)
      · refine z_iconst (v := Int32.ofInt 0) dX2_areFieldsAlike_139 rfl ?_
        exact z_ireturn dX2_areFieldsAlike_140 rfl (nar01 (b01 ⟨by decide, by decide⟩)) (hP _ _ _ hW hX (show rng 0 from ⟨by decide, by decide⟩) (by omega))
      · refine z_loc (L' := [(0, .ref (G.1 + a0)), (1, .int (Int32.ofInt l1)), (2, .int (Int32.ofInt l2)), (3, .int (Int32.ofInt l3)), (4, .int (Int32.ofInt l4)), (5, .int (Int32.ofInt l5))]) (List.forall_mem_cons.mpr ⟨rfl, (List.forall_mem_cons.mpr ⟨rfl, (List.forall_mem_cons.mpr ⟨rfl, (List.forall_mem_cons.mpr ⟨rfl, (List.forall_mem_cons.mpr ⟨rfl, (List.forall_mem_cons.mpr ⟨rfl, (fun _ h => nomatch h)⟩)⟩)⟩)⟩)⟩)⟩) ?_
        exact bX2_areFieldsAlike_122 hd hW hX ga0 gl1 gl2 gl3 gl4 gl5 (by omega) (by omega) hP ih_12
set_option maxRecDepth 100000 in
set_option maxHeartbeats 4000000 in
theorem eX2_areFieldsAlike_12 {G : xG} {d : Nat} {Post : xP} {B : Nat × Nat} {τ0 τ : Tau} {c0 cs : List va_E} {a0 pa0 : Nat} {l1 : Int} {l2 : Int} {l3 : Int} {l4 : Int} {n12 : Nat} (hd : 4 ≤ d) (hW : WT G B τ cs) (hX : Fx [2] τ0 c0 τ cs) (ga0 : τ a0 = some (.inl (2, pa0))) (gl1 : rng l1) (gl2 : rng l2) (gl3 : rng l3) (gl4 : rng l4)   (hP : ∀ (τ1 : Tau) (c1 : List va_E) (r : Int), WT G B τ1 c1 → Fx [2] τ0 c0 τ1 c1 → rng r → ((iv 0 1 r)) → Post (some (.int (Int32.ofInt r))) c1)  (ih_12 : ∀ {τ : Tau} {cs : List va_E} {a0 pa0 : Nat} {l1 : Int} {l2 : Int} {l3 : Int} {l4 : Int} (hW : WT G B τ cs) (hX : Fx [2] τ0 c0 τ cs) (ga0 : τ a0 = some (.inl (2, pa0))) (gl1 : rng l1) (gl2 : rng l2) (gl3 : rng l3) (gl4 : rng l4)  , (4 - l4).toNat < n12 → Z (RX2, cX2_areFieldsAlike, 7, some .boolean, false) G d Post 12 [(0, .ref (G.1 + a0)), (1, .int (Int32.ofInt l1)), (2, .int (Int32.ofInt l2)), (3, .int (Int32.ofInt l3)), (4, .int (Int32.ofInt l4))] [] cs) (hm_12 : (4 - l4).toNat < n12 + 1) : Z (RX2, cX2_areFieldsAlike, 7, some .boolean, false) G d Post 12 [(0, .ref (G.1 + a0)), (1, .int (Int32.ofInt l1)), (2, .int (Int32.ofInt l2)), (3, .int (Int32.ofInt l3)), (4, .int (Int32.ofInt l4))] [] cs := by
  refine z_iload dX2_areFieldsAlike_12 rfl ?_
  refine z_aload_n dX2_areFieldsAlike_14 rfl rfl ?_
  refine tw_getO hW ga0 (by decide) (by decide) rfl kX2 fX2_25 dX2_areFieldsAlike_15 (fun b1 pb1 gb1 => ?_)
  refine z_iload_n dX2_areFieldsAlike_18 rfl rfl ?_
  have hX0 := kX4_fieldCount 1 (Nat.le_refl _) hW gb1 gl3 
  refine z_callV (As := [_]) eX4_fieldCount sX4_fieldCount lX2_59 rfl dX2_areFieldsAlike_19 (hW.ob gb1 (by decide)).choose_spec hX0 (Nat.le_trans (by decide) hd) rfl (Nat.le_of_ble_eq_true rfl) (fun r cs1 hp => ?_)
  obtain ⟨hcs, r3, rfl, gr3, n2_0⟩ := hp
  obtain rfl := hcs.symm
  refine z_st (st' := [.int (Int32.ofInt r3), .int (Int32.ofInt l4)]) rfl ?_
  refine i_icmp_ge (tgt := 147) dX2_areFieldsAlike_22 (by decide) gl4 gr3 (fun h4 => ?_) (fun h4 => ?_)
  · refine z_iconst (v := Int32.ofInt 1) dX2_areFieldsAlike_147 rfl ?_
    exact z_ireturn dX2_areFieldsAlike_148 rfl (nar01 (b01 ⟨by decide, by decide⟩)) (hP _ _ _ hW hX (show rng 1 from ⟨by decide, by decide⟩) (by omega))
  · refine z_aload_n dX2_areFieldsAlike_25 rfl rfl ?_
    refine tw_getO hW ga0 (by decide) (by decide) rfl kX2 fX2_25 dX2_areFieldsAlike_26 (fun b5 pb5 gb5 => ?_)
    refine z_iload_n dX2_areFieldsAlike_29 rfl rfl ?_
    refine z_iload dX2_areFieldsAlike_30 rfl ?_
    have hX0 := kX4_shape 1 (Nat.le_refl _) hW gb5 gl3 gl4 
    refine z_callV (As := [_, _]) eX4_shape sX4_shape lX2_64 rfl dX2_areFieldsAlike_32 (hW.ob gb5 (by decide)).choose_spec hX0 (Nat.le_trans (by decide) hd) rfl (Nat.le_of_ble_eq_true rfl) (fun r cs1 hp => ?_)
    obtain ⟨hcs, r7, rfl, gr7, _⟩ := hp
    obtain rfl := hcs.symm
    refine z_st (st' := [.int (Int32.ofInt r7)]) rfl ?_
    refine z_istore dX2_areFieldsAlike_35 (by decide) ?_
    refine z_loc (L' := [(0, .ref (G.1 + a0)), (1, .int (Int32.ofInt l1)), (2, .int (Int32.ofInt l2)), (3, .int (Int32.ofInt l3)), (4, .int (Int32.ofInt l4)), (5, .int (Int32.ofInt r7))]) (List.forall_mem_cons.mpr ⟨rfl, (List.forall_mem_cons.mpr ⟨rfl, (List.forall_mem_cons.mpr ⟨rfl, (List.forall_mem_cons.mpr ⟨rfl, (List.forall_mem_cons.mpr ⟨rfl, (List.forall_mem_cons.mpr ⟨rfl, (fun _ h => nomatch h)⟩)⟩)⟩)⟩)⟩)⟩) ?_
    refine z_iload dX2_areFieldsAlike_37 rfl ?_
    refine z_iconst (v := Int32.ofInt 3) dX2_areFieldsAlike_39 rfl ?_
    refine i_icmp_ne (tgt := 70) dX2_areFieldsAlike_40 (by decide) gr7 (show rng 3 from ⟨by decide, by decide⟩) (fun h8 => ?_) (fun h8 => ?_)
    · refine z_aload_n dX2_areFieldsAlike_70 rfl rfl ?_
      refine tw_getO hW ga0 (by decide) (by decide) rfl kX2 fX2_29 dX2_areFieldsAlike_71 (fun b9 pb9 gb9 => ?_)
      refine z_iload_n dX2_areFieldsAlike_74 rfl rfl ?_
      refine z_iload dX2_areFieldsAlike_75 rfl ?_
      have hX0 := kX1_head 1 (Nat.le_refl _) hW gb9 gl1 gl4 
      refine z_callV (As := [_, _]) eX1_head sX1_head lX2_68 rfl dX2_areFieldsAlike_77 (hW.ob gb9 (by decide)).choose_spec hX0 (Nat.le_trans (by decide) hd) rfl (Nat.le_of_ble_eq_true rfl) (fun r cs1 hp => ?_)
      obtain ⟨hcs, r11, rfl, gr11, _⟩ := hp
      obtain rfl := hcs.symm
      refine z_st (st' := [.int (Int32.ofInt r11)]) rfl ?_
      refine z_aload_n dX2_areFieldsAlike_80 rfl rfl ?_
      refine tw_getO hW ga0 (by decide) (by decide) rfl kX2 fX2_33 dX2_areFieldsAlike_81 (fun b12 pb12 gb12 => ?_)
      refine z_iload_n dX2_areFieldsAlike_84 rfl rfl ?_
      refine z_iload dX2_areFieldsAlike_85 rfl ?_
      have hX0 := kX1_head 1 (Nat.le_refl _) hW gb12 gl2 gl4 
      refine z_callV (As := [_, _]) eX1_head sX1_head lX2_68 rfl dX2_areFieldsAlike_87 (hW.ob gb12 (by decide)).choose_spec hX0 (Nat.le_trans (by decide) hd) rfl (Nat.le_of_ble_eq_true rfl) (fun r cs1 hp => ?_)
      obtain ⟨hcs, r14, rfl, gr14, _⟩ := hp
      obtain rfl := hcs.symm
      refine z_st (st' := [.int (Int32.ofInt r14), .int (Int32.ofInt r11)]) rfl ?_
      refine i_icmp_ne (tgt := 97) dX2_areFieldsAlike_90 (by decide) gr11 gr14 (fun h15 => ?_) (fun h15 => ?_)
      · refine z_iconst (v := Int32.ofInt 0) dX2_areFieldsAlike_97 rfl ?_
        refine z_loc (L' := [(0, .ref (G.1 + a0)), (1, .int (Int32.ofInt l1)), (2, .int (Int32.ofInt l2)), (3, .int (Int32.ofInt l3)), (4, .int (Int32.ofInt l4)), (5, .int (Int32.ofInt r7))]) (List.forall_mem_cons.mpr ⟨rfl, (List.forall_mem_cons.mpr ⟨rfl, (List.forall_mem_cons.mpr ⟨rfl, (List.forall_mem_cons.mpr ⟨rfl, (List.forall_mem_cons.mpr ⟨rfl, (List.forall_mem_cons.mpr ⟨rfl, (fun _ h => nomatch h)⟩)⟩)⟩)⟩)⟩)⟩) ?_
        exact bX2_areFieldsAlike_98 hd hW hX ga0 gl1 gl2 gl3 gl4 gr7 (show rng 0 from ⟨by decide, by decide⟩) ⟨by decide, by decide⟩ (by omega) (by omega) hP ih_12
      · refine z_iconst (v := Int32.ofInt 1) dX2_areFieldsAlike_93 rfl ?_
        refine z_goto (tgt := 98) dX2_areFieldsAlike_94 (by decide) ?_
        refine z_loc (L' := [(0, .ref (G.1 + a0)), (1, .int (Int32.ofInt l1)), (2, .int (Int32.ofInt l2)), (3, .int (Int32.ofInt l3)), (4, .int (Int32.ofInt l4)), (5, .int (Int32.ofInt r7))]) (List.forall_mem_cons.mpr ⟨rfl, (List.forall_mem_cons.mpr ⟨rfl, (List.forall_mem_cons.mpr ⟨rfl, (List.forall_mem_cons.mpr ⟨rfl, (List.forall_mem_cons.mpr ⟨rfl, (List.forall_mem_cons.mpr ⟨rfl, (fun _ h => nomatch h)⟩)⟩)⟩)⟩)⟩)⟩) ?_
        exact bX2_areFieldsAlike_98 hd hW hX ga0 gl1 gl2 gl3 gl4 gr7 (show rng 1 from ⟨by decide, by decide⟩) ⟨by decide, by decide⟩ (by omega) (by omega) hP ih_12
    · refine z_aload_n dX2_areFieldsAlike_43 rfl rfl ?_
      refine z_aload_n dX2_areFieldsAlike_44 rfl rfl ?_
      refine tw_getO hW ga0 (by decide) (by decide) rfl kX2 fX2_29 dX2_areFieldsAlike_45 (fun b16 pb16 gb16 => ?_)
      refine z_iload_n dX2_areFieldsAlike_48 rfl rfl ?_
      refine z_iload dX2_areFieldsAlike_49 rfl ?_
      have hX0 := kX1_head 1 (Nat.le_refl _) hW gb16 gl1 gl4 
      refine z_callV (As := [_, _]) eX1_head sX1_head lX2_68 rfl dX2_areFieldsAlike_51 (hW.ob gb16 (by decide)).choose_spec hX0 (Nat.le_trans (by decide) hd) rfl (Nat.le_of_ble_eq_true rfl) (fun r cs1 hp => ?_)
      obtain ⟨hcs, r18, rfl, gr18, _⟩ := hp
      obtain rfl := hcs.symm
      refine z_st (st' := [.int (Int32.ofInt r18), .ref (G.1 + a0)]) rfl ?_
      refine z_aload_n dX2_areFieldsAlike_54 rfl rfl ?_
      refine tw_getO hW ga0 (by decide) (by decide) rfl kX2 fX2_33 dX2_areFieldsAlike_55 (fun b19 pb19 gb19 => ?_)
      refine z_iload_n dX2_areFieldsAlike_58 rfl rfl ?_
      refine z_iload dX2_areFieldsAlike_59 rfl ?_
      have hX0 := kX1_head 1 (Nat.le_refl _) hW gb19 gl2 gl4 
      refine z_callV (As := [_, _]) eX1_head sX1_head lX2_68 rfl dX2_areFieldsAlike_61 (hW.ob gb19 (by decide)).choose_spec hX0 (Nat.le_trans (by decide) hd) rfl (Nat.le_of_ble_eq_true rfl) (fun r cs1 hp => ?_)
      obtain ⟨hcs, r21, rfl, gr21, _⟩ := hp
      obtain rfl := hcs.symm
      refine z_st (st' := [.int (Int32.ofInt r21), .int (Int32.ofInt r18), .ref (G.1 + a0)]) rfl ?_
      have hX0 := kX2_pairs 2 (Nat.le_refl _) hW ga0 gr18 gr21 
      refine z_callV (As := [_, _]) eX2_pairs sX2_pairs lX2_42 rfl dX2_areFieldsAlike_64 (hW.ob ga0 (by decide)).choose_spec hX0 (Nat.le_trans (by decide) hd) rfl (Nat.le_of_ble_eq_true rfl) (fun r cs hp => ?_)
      obtain ⟨τ, r23, rfl, gr23, hW, k24, n22_0⟩ := hp
      have hX := hX.tr k24 (by decide)
      have ga0 := k24.1.e ga0 (by decide)
      clear hX0
      refine z_st (st' := [.int (Int32.ofInt r23)]) rfl ?_
      refine z_goto (tgt := 98) dX2_areFieldsAlike_67 (by decide) ?_
      refine z_loc (L' := [(0, .ref (G.1 + a0)), (1, .int (Int32.ofInt l1)), (2, .int (Int32.ofInt l2)), (3, .int (Int32.ofInt l3)), (4, .int (Int32.ofInt l4)), (5, .int (Int32.ofInt r7))]) (List.forall_mem_cons.mpr ⟨rfl, (List.forall_mem_cons.mpr ⟨rfl, (List.forall_mem_cons.mpr ⟨rfl, (List.forall_mem_cons.mpr ⟨rfl, (List.forall_mem_cons.mpr ⟨rfl, (List.forall_mem_cons.mpr ⟨rfl, (fun _ h => nomatch h)⟩)⟩)⟩)⟩)⟩)⟩) ?_
      exact bX2_areFieldsAlike_98 hd hW hX ga0 gl1 gl2 gl3 gl4 gr7 gr23 (by omega) (by omega) (by omega) hP ih_12
set_option maxRecDepth 100000 in
set_option maxHeartbeats 4000000 in
theorem bX2_areFieldsAlike_12 {G : xG} {d : Nat} {Post : xP} {B : Nat × Nat} {τ0 τ : Tau} {c0 cs : List va_E} {a0 pa0 : Nat} {l1 : Int} {l2 : Int} {l3 : Int} {l4 : Int} (hd : 4 ≤ d) (hW : WT G B τ cs) (hX : Fx [2] τ0 c0 τ cs) (ga0 : τ a0 = some (.inl (2, pa0))) (gl1 : rng l1) (gl2 : rng l2) (gl3 : rng l3) (gl4 : rng l4)   (hP : ∀ (τ1 : Tau) (c1 : List va_E) (r : Int), WT G B τ1 c1 → Fx [2] τ0 c0 τ1 c1 → rng r → ((iv 0 1 r)) → Post (some (.int (Int32.ofInt r))) c1)  : Z (RX2, cX2_areFieldsAlike, 7, some .boolean, false) G d Post 12 [(0, .ref (G.1 + a0)), (1, .int (Int32.ofInt l1)), (2, .int (Int32.ofInt l2)), (3, .int (Int32.ofInt l3)), (4, .int (Int32.ofInt l4))] [] cs := by
  have key : ∀ (n : Nat) (τ : Tau) (cs : List va_E) (a0 pa0 : Nat) (l1 : Int) (l2 : Int) (l3 : Int) (l4 : Int) (hW : WT G B τ cs) (hX : Fx [2] τ0 c0 τ cs) (ga0 : τ a0 = some (.inl (2, pa0))) (gl1 : rng l1) (gl2 : rng l2) (gl3 : rng l3) (gl4 : rng l4)  , (4 - l4).toNat < n → Z (RX2, cX2_areFieldsAlike, 7, some .boolean, false) G d Post 12 [(0, .ref (G.1 + a0)), (1, .int (Int32.ofInt l1)), (2, .int (Int32.ofInt l2)), (3, .int (Int32.ofInt l3)), (4, .int (Int32.ofInt l4))] [] cs := by
    intro n
    induction n with
    | zero => intro τ cs a0 pa0 l1 l2 l3 l4 hW hX ga0 gl1 gl2 gl3 gl4 hm; exact absurd hm (Nat.not_lt_zero _)
    | succ n ih =>
      intro τ cs a0 pa0 l1 l2 l3 l4 hW hX ga0 gl1 gl2 gl3 gl4 hm
      exact eX2_areFieldsAlike_12 hd hW hX ga0 gl1 gl2 gl3 gl4 hP  (fun hW hX ga0 gl1 gl2 gl3 gl4 hm => ih _ _ _ _ _ _ _ _ hW hX ga0 gl1 gl2 gl3 gl4 hm) hm
  exact key _ _ _ _ _ _ _ _ _ hW hX ga0 gl1 gl2 gl3 gl4 (Nat.lt_succ_self _)
set_option maxRecDepth 100000 in
set_option maxHeartbeats 4000000 in
theorem kX2_areFieldsAlike {G : xG} {B : Nat × Nat} {τ : Tau} {cs : List va_E} {a0 pa0 : Nat} {l1 : Int} {l2 : Int} (d : Nat) (hd : 4 ≤ d) (hW : WT G B τ cs) (ga0 : τ a0 = some (.inl (2, pa0))) (gl1 : rng l1) (gl2 : rng l2)  : X G yX2_areFieldsAlike cX2_areFieldsAlike 7 (some .boolean) d [.ref (G.1 + a0), .int (Int32.ofInt l1), .int (Int32.ofInt l2)] cs (wI G B τ cs [2] (fun r => (iv 0 1 r))) := by
  refine X.of false (by decide +kernel) (by decide) (Nat.le_of_ble_eq_true rfl) ?_
  show Z (RX2, cX2_areFieldsAlike, 7, some .boolean, false) G d _ 0 [(0, .ref (G.1 + a0)), (1, .int (Int32.ofInt l1)), (2, .int (Int32.ofInt l2))] [] cs
  have hP : ∀ (τ1 : Tau) (c1 : List va_E) (r : Int), WT G B τ1 c1 → Fx [2] τ cs τ1 c1 → rng r → ((iv 0 1 r)) → wI G B τ cs [2] (fun r => (iv 0 1 r)) (some (.int (Int32.ofInt r))) c1 := fun τ1 c1 r h1 h2 h3 h4 => ⟨τ1, r, rfl, h3, h1, h2, h4⟩
  have hX : Fx [2] τ cs τ cs := Fx.rf
  skip
  refine z_aload_n dX2_areFieldsAlike_0 rfl rfl ?_
  refine tw_getO hW ga0 (by decide) (by decide) rfl kX2 fX2_29 dX2_areFieldsAlike_1 (fun b1 pb1 gb1 => ?_)
  refine z_iload_n dX2_areFieldsAlike_4 rfl rfl ?_
  have hX0 := kX1_classOf 1 (Nat.le_refl _) hW gb1 gl1 
  refine z_callV (As := [_]) eX1_classOf sX1_classOf lX2_55 rfl dX2_areFieldsAlike_5 (hW.ob gb1 (by decide)).choose_spec hX0 (Nat.le_trans (by decide) hd) rfl (Nat.le_of_ble_eq_true rfl) (fun r cs1 hp => ?_)
  obtain ⟨hcs, r3, rfl, gr3, _⟩ := hp
  obtain rfl := hcs.symm
  refine z_st (st' := [.int (Int32.ofInt r3)]) rfl ?_
  refine z_istore_n dX2_areFieldsAlike_8 rfl (by decide) ?_
  refine z_loc (L' := [(0, .ref (G.1 + a0)), (1, .int (Int32.ofInt l1)), (2, .int (Int32.ofInt l2)), (3, .int (Int32.ofInt r3))]) (List.forall_mem_cons.mpr ⟨rfl, (List.forall_mem_cons.mpr ⟨rfl, (List.forall_mem_cons.mpr ⟨rfl, (List.forall_mem_cons.mpr ⟨rfl, (fun _ h => nomatch h)⟩)⟩)⟩)⟩) ?_
  refine z_iconst (v := Int32.ofInt 0) dX2_areFieldsAlike_9 rfl ?_
  refine z_istore dX2_areFieldsAlike_10 (by decide) ?_
  refine z_loc (L' := [(0, .ref (G.1 + a0)), (1, .int (Int32.ofInt l1)), (2, .int (Int32.ofInt l2)), (3, .int (Int32.ofInt r3)), (4, .int (Int32.ofInt 0))]) (List.forall_mem_cons.mpr ⟨rfl, (List.forall_mem_cons.mpr ⟨rfl, (List.forall_mem_cons.mpr ⟨rfl, (List.forall_mem_cons.mpr ⟨rfl, (List.forall_mem_cons.mpr ⟨rfl, (fun _ h => nomatch h)⟩)⟩)⟩)⟩)⟩) ?_
  refine z_loc (L' := [(0, .ref (G.1 + a0)), (1, .int (Int32.ofInt l1)), (2, .int (Int32.ofInt l2)), (3, .int (Int32.ofInt r3)), (4, .int (Int32.ofInt 0))]) (List.forall_mem_cons.mpr ⟨rfl, (List.forall_mem_cons.mpr ⟨rfl, (List.forall_mem_cons.mpr ⟨rfl, (List.forall_mem_cons.mpr ⟨rfl, (List.forall_mem_cons.mpr ⟨rfl, (fun _ h => nomatch h)⟩)⟩)⟩)⟩)⟩) ?_
  exact bX2_areFieldsAlike_12 hd hW hX ga0 gl1 gl2 gr3 (show rng 0 from ⟨by decide, by decide⟩)   hP 

