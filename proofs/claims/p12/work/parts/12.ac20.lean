set_option maxRecDepth 100000 in
set_option maxHeartbeats 4000000 in
theorem eX2_holdsFrom_31 {G : xG} {d : Nat} {Post : xP} {B : Nat × Nat} {τ0 τ : Tau} {c0 cs : List va_E} {a0 pa0 : Nat} {l3 : Int} {n31 : Nat} (hd : 5 ≤ d) (hW : WT G B τ cs) (hX : Fx [2] τ0 c0 τ cs) (ga0 : τ a0 = some (.inl (2, pa0))) (gl3 : rng l3) (i0 : 0 ≤ l3)  (hP : ∀ (τ1 : Tau) (c1 : List va_E) (r : Int), WT G B τ1 c1 → Fx [2] τ0 c0 τ1 c1 → rng r → ((iv 0 1 r)) → Post (some (.int (Int32.ofInt r))) c1)  (ih_31 : ∀ {τ : Tau} {cs : List va_E} {a0 pa0 : Nat} {l3 : Int} (hW : WT G B τ cs) (hX : Fx [2] τ0 c0 τ cs) (ga0 : τ a0 = some (.inl (2, pa0))) (gl3 : rng l3) (i0 : 0 ≤ l3) , (30 - l3).toNat < n31 → Z (RX2, cX2_holdsFrom, 4, some .boolean, false) G d Post 31 [(0, .ref (G.1 + a0)), (3, .int (Int32.ofInt l3))] [] cs) (hm_31 : (30 - l3).toNat < n31 + 1) : Z (RX2, cX2_holdsFrom, 4, some .boolean, false) G d Post 31 [(0, .ref (G.1 + a0)), (3, .int (Int32.ofInt l3))] [] cs := by
  refine z_iload_n dX2_holdsFrom_31 rfl rfl ?_
  refine z_bipush (v := Int32.ofInt 30) dX2_holdsFrom_32 (by decide) ?_
  refine i_icmp_ge (tgt := 77) dX2_holdsFrom_34 (by decide) gl3 (show rng 30 from ⟨by decide, by decide⟩) (fun h1 => ?_) (fun h1 => ?_)
  · refine z_iconst (v := Int32.ofInt 1) dX2_holdsFrom_77 rfl ?_
    exact z_ireturn dX2_holdsFrom_78 rfl (nar01 (b01 ⟨by decide, by decide⟩)) (hP _ _ _ hW hX (show rng 1 from ⟨by decide, by decide⟩) (by omega))
  · refine z_iload_n dX2_holdsFrom_37 rfl rfl ?_
    refine z_aload_n dX2_holdsFrom_38 rfl rfl ?_
    refine tw_getI hW ga0 (by decide) (by decide) rfl kX2 fX2_21 dX2_holdsFrom_39 (fun x2 _ vx2 gx2 => ?_)
    refine i_icmp_ge (tgt := 77) dX2_holdsFrom_42 (by decide) gl3 gx2 (fun h3 => ?_) (fun h3 => ?_)
    · refine z_iconst (v := Int32.ofInt 1) dX2_holdsFrom_77 rfl ?_
      exact z_ireturn dX2_holdsFrom_78 rfl (nar01 (b01 ⟨by decide, by decide⟩)) (hP _ _ _ hW hX (show rng 1 from ⟨by decide, by decide⟩) (by omega))
    · refine z_aload_n dX2_holdsFrom_45 rfl rfl ?_
      refine z_aload_n dX2_holdsFrom_46 rfl rfl ?_
      refine tw_getA hW ga0 (by decide) (by decide) rfl kX2 fX2_18 dX2_holdsFrom_47 (fun b4 _ gb4 => ?_)
      refine z_iload_n dX2_holdsFrom_50 rfl rfl ?_
      refine tw_iald hW gb4 (by omega) (by omega) dX2_holdsFrom_51 (fun x5 _ vx5 gx5 => ?_)
      refine z_aload_n dX2_holdsFrom_52 rfl rfl ?_
      refine tw_getA hW ga0 (by decide) (by decide) rfl kX2 fX2_9 dX2_holdsFrom_53 (fun b6 _ gb6 => ?_)
      refine z_aload_n dX2_holdsFrom_56 rfl rfl ?_
      refine tw_getA hW ga0 (by decide) (by decide) rfl kX2 fX2_18 dX2_holdsFrom_57 (fun b7 _ gb7 => ?_)
      refine z_iload_n dX2_holdsFrom_60 rfl rfl ?_
      refine tw_iald hW gb7 (by omega) (by omega) dX2_holdsFrom_61 (fun x8 _ vx8 gx8 => ?_)
      refine tw_iald hW gb6 (by omega) (by omega) dX2_holdsFrom_62 (fun x9 _ vx9 gx9 => ?_)
      have hX0 := kX2_areFieldsAlike 4 (Nat.le_refl _) hW ga0 gx5 gx9 
      refine z_callV (As := [_, _]) eX2_areFieldsAlike sX2_areFieldsAlike lX2_46 rfl dX2_holdsFrom_63 (hW.ob ga0 (by decide)).choose_spec hX0 (Nat.le_trans (by decide) hd) rfl (Nat.le_of_ble_eq_true rfl) (fun r cs hp => ?_)
      obtain ⟨τ, r11, rfl, gr11, hW, k12, n10_0⟩ := hp
      have hX := hX.tr k12 (by decide)
      have ga0 := k12.1.e ga0 (by decide)
      clear hX0
      refine z_st (st' := [.int (Int32.ofInt r11)]) rfl ?_
      refine i_if_ne (tgt := 71) dX2_holdsFrom_66 (by decide) gr11 (fun h13 => ?_) (fun h13 => ?_)
      · refine tw_iinc (l := l3) dX2_holdsFrom_71 rfl (by decide) (fun z14 gz14 ez14 => ?_)
        first | have ez14 := ez14 ⟨by omega, by omega⟩ | clear ez14
        refine z_loc (L' := [(0, .ref (G.1 + a0)), (3, .int (Int32.ofInt z14))]) (List.forall_mem_cons.mpr ⟨rfl, (List.forall_mem_cons.mpr ⟨rfl, (fun _ h => nomatch h)⟩)⟩) ?_
        refine z_goto (tgt := 31) dX2_holdsFrom_74 (by decide) ?_
        refine z_loc (L' := [(0, .ref (G.1 + a0)), (3, .int (Int32.ofInt z14))]) (List.forall_mem_cons.mpr ⟨rfl, (List.forall_mem_cons.mpr ⟨rfl, (fun _ h => nomatch h)⟩)⟩) ?_
        exact ih_31 hW hX ga0 gz14 (by omega)  (by omega)
      · refine z_iconst (v := Int32.ofInt 0) dX2_holdsFrom_69 rfl ?_
        exact z_ireturn dX2_holdsFrom_70 rfl (nar01 (b01 ⟨by decide, by decide⟩)) (hP _ _ _ hW hX (show rng 0 from ⟨by decide, by decide⟩) (by omega))
set_option maxRecDepth 100000 in
set_option maxHeartbeats 4000000 in
theorem bX2_holdsFrom_31 {G : xG} {d : Nat} {Post : xP} {B : Nat × Nat} {τ0 τ : Tau} {c0 cs : List va_E} {a0 pa0 : Nat} {l3 : Int} (hd : 5 ≤ d) (hW : WT G B τ cs) (hX : Fx [2] τ0 c0 τ cs) (ga0 : τ a0 = some (.inl (2, pa0))) (gl3 : rng l3) (i0 : 0 ≤ l3)  (hP : ∀ (τ1 : Tau) (c1 : List va_E) (r : Int), WT G B τ1 c1 → Fx [2] τ0 c0 τ1 c1 → rng r → ((iv 0 1 r)) → Post (some (.int (Int32.ofInt r))) c1)  : Z (RX2, cX2_holdsFrom, 4, some .boolean, false) G d Post 31 [(0, .ref (G.1 + a0)), (3, .int (Int32.ofInt l3))] [] cs := by
  have key : ∀ (n : Nat) (τ : Tau) (cs : List va_E) (a0 pa0 : Nat) (l3 : Int) (hW : WT G B τ cs) (hX : Fx [2] τ0 c0 τ cs) (ga0 : τ a0 = some (.inl (2, pa0))) (gl3 : rng l3) (i0 : 0 ≤ l3) , (30 - l3).toNat < n → Z (RX2, cX2_holdsFrom, 4, some .boolean, false) G d Post 31 [(0, .ref (G.1 + a0)), (3, .int (Int32.ofInt l3))] [] cs := by
    intro n
    induction n with
    | zero => intro τ cs a0 pa0 l3 hW hX ga0 gl3 i0 hm; exact absurd hm (Nat.not_lt_zero _)
    | succ n ih =>
      intro τ cs a0 pa0 l3 hW hX ga0 gl3 i0 hm
      exact eX2_holdsFrom_31 hd hW hX ga0 gl3 i0 hP  (fun hW hX ga0 gl3 i0 hm => ih _ _ _ _ _ hW hX ga0 gl3 i0 hm) hm
  exact key _ _ _ _ _ _ hW hX ga0 gl3 i0 (Nat.lt_succ_self _)
set_option maxRecDepth 100000 in
set_option maxHeartbeats 4000000 in
theorem kX2_holdsFrom {G : xG} {B : Nat × Nat} {τ : Tau} {cs : List va_E} {a0 pa0 : Nat} {l1 : Int} {l2 : Int} (d : Nat) (hd : 5 ≤ d) (hW : WT G B τ cs) (ga0 : τ a0 = some (.inl (2, pa0))) (gl1 : rng l1) (gl2 : rng l2)  : X G yX2_holdsFrom cX2_holdsFrom 4 (some .boolean) d [.ref (G.1 + a0), .int (Int32.ofInt l1), .int (Int32.ofInt l2)] cs (wI G B τ cs [2] (fun r => (iv 0 1 r))) := by
  refine X.of false (by decide +kernel) (by decide) (Nat.le_of_ble_eq_true rfl) ?_
  show Z (RX2, cX2_holdsFrom, 4, some .boolean, false) G d _ 0 [(0, .ref (G.1 + a0)), (1, .int (Int32.ofInt l1)), (2, .int (Int32.ofInt l2))] [] cs
  have hP : ∀ (τ1 : Tau) (c1 : List va_E) (r : Int), WT G B τ1 c1 → Fx [2] τ cs τ1 c1 → rng r → ((iv 0 1 r)) → wI G B τ cs [2] (fun r => (iv 0 1 r)) (some (.int (Int32.ofInt r))) c1 := fun τ1 c1 r h1 h2 h3 h4 => ⟨τ1, r, rfl, h3, h1, h2, h4⟩
  have hX : Fx [2] τ cs τ cs := Fx.rf
  skip
  refine z_aload_n dX2_holdsFrom_0 rfl rfl ?_
  refine tw_getA hW ga0 (by decide) (by decide) rfl kX2 fX2_9 dX2_holdsFrom_1 (fun b1 _ gb1 => ?_)
  refine z_bipush (v := Int32.ofInt (-2)) dX2_holdsFrom_4 (by decide) ?_
  have hX0 := kJ7_fill_53178 0 (Nat.le_refl _) hW gb1 (show rng (-2) from ⟨by decide, by decide⟩) 
  refine z_callS (As := [_, _]) eJ7_fill_53178 sJ7_fill_53178 lX2_36 dX2_holdsFrom_6 hX0 (Nat.le_trans (by decide) hd) rfl (Nat.le_of_ble_eq_true rfl) (fun r cs hp => ?_)
  obtain ⟨τ, rfl, hW, k4⟩ := hp
  have hX := hX.tr k4 (by decide)
  have ga0 := k4.1.e ga0 (by decide)
  clear hX0
  refine z_st (st' := []) rfl ?_
  refine z_aload_n dX2_holdsFrom_9 rfl rfl ?_
  refine tw_getA hW ga0 (by decide) (by decide) rfl kX2 fX2_15 dX2_holdsFrom_10 (fun b5 _ gb5 => ?_)
  refine z_bipush (v := Int32.ofInt (-2)) dX2_holdsFrom_13 (by decide) ?_
  have hX0 := kJ7_fill_53178 0 (Nat.le_refl _) hW gb5 (show rng (-2) from ⟨by decide, by decide⟩) 
  refine z_callS (As := [_, _]) eJ7_fill_53178 sJ7_fill_53178 lX2_36 dX2_holdsFrom_15 hX0 (Nat.le_trans (by decide) hd) rfl (Nat.le_of_ble_eq_true rfl) (fun r cs hp => ?_)
  obtain ⟨τ, rfl, hW, k8⟩ := hp
  have hX := hX.tr k8 (by decide)
  have ga0 := k8.1.e ga0 (by decide)
  clear hX0
  refine z_st (st' := []) rfl ?_
  refine z_aload_n dX2_holdsFrom_18 rfl rfl ?_
  refine z_iload_n dX2_holdsFrom_19 rfl rfl ?_
  refine z_iload_n dX2_holdsFrom_20 rfl rfl ?_
  have hX0 := kX2_pairs 2 (Nat.le_refl _) hW ga0 gl1 gl2 
  refine z_callV (As := [_, _]) eX2_pairs sX2_pairs lX2_42 rfl dX2_holdsFrom_21 (hW.ob ga0 (by decide)).choose_spec hX0 (Nat.le_trans (by decide) hd) rfl (Nat.le_of_ble_eq_true rfl) (fun r cs hp => ?_)
  obtain ⟨τ, r10, rfl, gr10, hW, k11, n9_0⟩ := hp
  have hX := hX.tr k11 (by decide)
  have ga0 := k11.1.e ga0 (by decide)
  clear hX0
  refine z_st (st' := [.int (Int32.ofInt r10)]) rfl ?_
  refine i_if_ne (tgt := 29) dX2_holdsFrom_24 (by decide) gr10 (fun h12 => ?_) (fun h12 => ?_)
  · refine z_iconst (v := Int32.ofInt 0) dX2_holdsFrom_29 rfl ?_
    refine z_istore_n dX2_holdsFrom_30 rfl (by decide) ?_
    refine z_loc (L' := [(0, .ref (G.1 + a0)), (1, .int (Int32.ofInt l1)), (2, .int (Int32.ofInt l2)), (3, .int (Int32.ofInt 0))]) (List.forall_mem_cons.mpr ⟨rfl, (List.forall_mem_cons.mpr ⟨rfl, (List.forall_mem_cons.mpr ⟨rfl, (List.forall_mem_cons.mpr ⟨rfl, (fun _ h => nomatch h)⟩)⟩)⟩)⟩) ?_
    refine z_loc (L' := [(0, .ref (G.1 + a0)), (3, .int (Int32.ofInt 0))]) (List.forall_mem_cons.mpr ⟨rfl, (List.forall_mem_cons.mpr ⟨rfl, (fun _ h => nomatch h)⟩)⟩) ?_
    exact bX2_holdsFrom_31 hd hW hX ga0 (show rng 0 from ⟨by decide, by decide⟩) (by omega)  hP 
  · refine z_iconst (v := Int32.ofInt 0) dX2_holdsFrom_27 rfl ?_
    exact z_ireturn dX2_holdsFrom_28 rfl (nar01 (b01 ⟨by decide, by decide⟩)) (hP _ _ _ hW hX (show rng 0 from ⟨by decide, by decide⟩) (by omega))

set_option maxRecDepth 100000 in
set_option maxHeartbeats 4000000 in
theorem bX10_value_46 {G : xG} {d : Nat} {Post : xP} {B : Nat × Nat} {τ : Tau} {cs : List va_E} {a0 pa0 : Nat} {l1 : Int} {l2 : Int} {l3 : Int} {l4 : Int} {s0 : Int} (hd : 3 ≤ d) (hW : WT G B τ cs) (ga0 : τ a0 = some (.inl (10, pa0))) (gl1 : rng l1) (gl2 : rng l2) (gl3 : rng l3) (gl4 : rng l4) (gs0 : rng s0) (bs0 : iv 0 1 s0)   (hP : ∀ r : Int, rng r → (True) → Post (some (.int (Int32.ofInt r))) cs)  : Z (RX10, cX10_value, 7, some .int, false) G d Post 46 [(0, .ref (G.1 + a0)), (1, .int (Int32.ofInt l1)), (2, .int (Int32.ofInt l2)), (3, .int (Int32.ofInt l3)), (4, .int (Int32.ofInt l4))] [.int (Int32.ofInt s0)] cs := by
  refine z_istore dX10_value_46 (by decide) ?_
  refine z_loc (L' := [(0, .ref (G.1 + a0)), (1, .int (Int32.ofInt l1)), (2, .int (Int32.ofInt l2)), (3, .int (Int32.ofInt l3)), (4, .int (Int32.ofInt l4)), (6, .int (Int32.ofInt s0))]) (List.forall_mem_cons.mpr ⟨rfl, (List.forall_mem_cons.mpr ⟨rfl, (List.forall_mem_cons.mpr ⟨rfl, (List.forall_mem_cons.mpr ⟨rfl, (List.forall_mem_cons.mpr ⟨rfl, (List.forall_mem_cons.mpr ⟨rfl, (fun _ h => nomatch h)⟩)⟩)⟩)⟩)⟩)⟩) ?_
  refine z_iload dX10_value_48 rfl ?_
  refine i_if_eq (tgt := 66) dX10_value_50 (by decide) gs0 (fun h1 => ?_) (fun h1 => ?_)
  · refine z_aload_n dX10_value_66 rfl rfl ?_
    refine z_iload_n dX10_value_67 rfl rfl ?_
    have hX0 := kX10_heapAt 0 (Nat.le_refl _) hW ga0 gl1 
    refine z_callV (As := [_]) eX10_heapAt sX10_heapAt lX10_171 rfl dX10_value_68 (hW.ob ga0 (by decide)).choose_spec hX0 (Nat.le_trans (by decide) hd) rfl (Nat.le_of_ble_eq_true rfl) (fun r cs1 hp => ?_)
    obtain ⟨hcs, r3, rfl, pr3, gr3⟩ := hp
    obtain rfl := hcs.symm
    refine z_st (st' := [.ref (G.1 + r3)]) rfl ?_
    refine z_iload_n dX10_value_71 rfl rfl ?_
    refine z_iload_n dX10_value_72 rfl rfl ?_
    refine z_iload dX10_value_73 rfl ?_
    have hX0 := kX1_cell 1 (Nat.le_refl _) hW gr3 gl2 gl3 gl4 
    refine z_callV (As := [_, _, _]) eX1_cell sX1_cell lX10_181 rfl dX10_value_75 (hW.ob gr3 (by decide)).choose_spec hX0 (Nat.le_trans (by decide) hd) rfl (Nat.le_of_ble_eq_true rfl) (fun r cs1 hp => ?_)
    obtain ⟨hcs, r5, rfl, gr5, _⟩ := hp
    obtain rfl := hcs.symm
    refine z_st (st' := [.int (Int32.ofInt r5)]) rfl ?_
    exact z_ireturn dX10_value_78 rfl rfl (hP _ gr5 trivial)
  · refine z_aload_n dX10_value_53 rfl rfl ?_
    refine z_iload_n dX10_value_54 rfl rfl ?_
    have hX0 := kX10_heapAt 0 (Nat.le_refl _) hW ga0 gl1 
    refine z_callV (As := [_]) eX10_heapAt sX10_heapAt lX10_171 rfl dX10_value_55 (hW.ob ga0 (by decide)).choose_spec hX0 (Nat.le_trans (by decide) hd) rfl (Nat.le_of_ble_eq_true rfl) (fun r cs1 hp => ?_)
    obtain ⟨hcs, r7, rfl, pr7, gr7⟩ := hp
    obtain rfl := hcs.symm
    refine z_st (st' := [.ref (G.1 + r7)]) rfl ?_
    refine z_iload_n dX10_value_58 rfl rfl ?_
    refine z_iload_n dX10_value_59 rfl rfl ?_
    have hX0 := kX1_head 1 (Nat.le_refl _) hW gr7 gl2 gl3 
    refine z_callV (As := [_, _]) eX1_head sX1_head lX10_178 rfl dX10_value_60 (hW.ob gr7 (by decide)).choose_spec hX0 (Nat.le_trans (by decide) hd) rfl (Nat.le_of_ble_eq_true rfl) (fun r cs1 hp => ?_)
    obtain ⟨hcs, r9, rfl, gr9, _⟩ := hp
    obtain rfl := hcs.symm
    refine z_st (st' := [.int (Int32.ofInt r9)]) rfl ?_
    refine z_goto (tgt := 78) dX10_value_63 (by decide) ?_
    exact z_ireturn dX10_value_78 rfl rfl (hP _ gr9 trivial)
set_option maxRecDepth 100000 in
set_option maxHeartbeats 4000000 in
theorem bX10_value_41 {G : xG} {d : Nat} {Post : xP} {B : Nat × Nat} {τ : Tau} {cs : List va_E} {a0 pa0 : Nat} {l1 : Int} {l2 : Int} {l3 : Int} {l4 : Int} (hd : 3 ≤ d) (hW : WT G B τ cs) (ga0 : τ a0 = some (.inl (10, pa0))) (gl1 : rng l1) (gl2 : rng l2) (gl3 : rng l3) (gl4 : rng l4)   (hP : ∀ r : Int, rng r → (True) → Post (some (.int (Int32.ofInt r))) cs)  : Z (RX10, cX10_value, 7, some .int, false) G d Post 41 [(0, .ref (G.1 + a0)), (1, .int (Int32.ofInt l1)), (2, .int (Int32.ofInt l2)), (3, .int (Int32.ofInt l3)), (4, .int (Int32.ofInt l4))] [] cs := by
  refine z_iconst (v := Int32.ofInt 1) dX10_value_41 rfl ?_
  refine z_goto (tgt := 46) dX10_value_42 (by decide) ?_
  refine z_loc (L' := [(0, .ref (G.1 + a0)), (1, .int (Int32.ofInt l1)), (2, .int (Int32.ofInt l2)), (3, .int (Int32.ofInt l3)), (4, .int (Int32.ofInt l4))]) (List.forall_mem_cons.mpr ⟨rfl, (List.forall_mem_cons.mpr ⟨rfl, (List.forall_mem_cons.mpr ⟨rfl, (List.forall_mem_cons.mpr ⟨rfl, (List.forall_mem_cons.mpr ⟨rfl, (fun _ h => nomatch h)⟩)⟩)⟩)⟩)⟩) ?_
  exact bX10_value_46 hd hW ga0 gl1 gl2 gl3 gl4 (show rng 1 from ⟨by decide, by decide⟩) ⟨by decide, by decide⟩   hP 
set_option maxRecDepth 100000 in
set_option maxHeartbeats 4000000 in
theorem kX10_value {G : xG} {B : Nat × Nat} {τ : Tau} {cs : List va_E} {a0 pa0 : Nat} {l1 : Int} {l2 : Int} {l3 : Int} {l4 : Int} (d : Nat) (hd : 3 ≤ d) (hW : WT G B τ cs) (ga0 : τ a0 = some (.inl (10, pa0))) (gl1 : rng l1) (gl2 : rng l2) (gl3 : rng l3) (gl4 : rng l4)  : X G yX10_value cX10_value 7 (some .int) d [.ref (G.1 + a0), .int (Int32.ofInt l1), .int (Int32.ofInt l2), .int (Int32.ofInt l3), .int (Int32.ofInt l4)] cs (rI cs (fun r => True)) := by
  refine X.of false (by decide +kernel) (by decide) (Nat.le_of_ble_eq_true rfl) ?_
  show Z (RX10, cX10_value, 7, some .int, false) G d _ 0 [(0, .ref (G.1 + a0)), (1, .int (Int32.ofInt l1)), (2, .int (Int32.ofInt l2)), (3, .int (Int32.ofInt l3)), (4, .int (Int32.ofInt l4))] [] cs
  have hP : ∀ r : Int, rng r → (True) → rI cs (fun r => True) (some (.int (Int32.ofInt r))) cs := fun r h1 h2 => ⟨rfl, r, rfl, h1, h2⟩
  refine z_iload_n dX10_value_0 rfl rfl ?_
  have hX0 := kX10_isHeap 0 (Nat.le_refl _) hW gl1 
  refine z_callS (As := [_]) eX10_isHeap sX10_isHeap lX10_168 dX10_value_1 hX0 (Nat.le_trans (by decide) hd) rfl (Nat.le_of_ble_eq_true rfl) (fun r cs1 hp => ?_)
  obtain ⟨hcs, r2, rfl, gr2, n1_0⟩ := hp
  obtain rfl := hcs.symm
  refine z_st (st' := [.int (Int32.ofInt r2)]) rfl ?_
  refine i_if_ne (tgt := 9) dX10_value_4 (by decide) gr2 (fun h3 => ?_) (fun h3 => ?_)
  · refine z_aload_n dX10_value_9 rfl rfl ?_
    refine z_aload_n dX10_value_10 rfl rfl ?_
    refine z_iload_n dX10_value_11 rfl rfl ?_
    have hX0 := kX10_heapAt 0 (Nat.le_refl _) hW ga0 gl1 
    refine z_callV (As := [_]) eX10_heapAt sX10_heapAt lX10_171 rfl dX10_value_12 (hW.ob ga0 (by decide)).choose_spec hX0 (Nat.le_trans (by decide) hd) rfl (Nat.le_of_ble_eq_true rfl) (fun r cs1 hp => ?_)
    obtain ⟨hcs, r5, rfl, pr5, gr5⟩ := hp
    obtain rfl := hcs.symm
    refine z_st (st' := [.ref (G.1 + r5), .ref (G.1 + a0)]) rfl ?_
    refine z_iload_n dX10_value_15 rfl rfl ?_
    refine z_iload_n dX10_value_16 rfl rfl ?_
    have hX0 := kX10_shapeIn 2 (Nat.le_refl _) hW ga0 gr5 gl2 gl3 
    refine z_callV (As := [_, _, _]) eX10_shapeIn sX10_shapeIn lX10_90 rfl dX10_value_17 (hW.ob ga0 (by decide)).choose_spec hX0 (Nat.le_trans (by decide) hd) rfl (Nat.le_of_ble_eq_true rfl) (fun r cs1 hp => ?_)
    obtain ⟨hcs, r7, rfl, gr7, _⟩ := hp
    obtain rfl := hcs.symm
    refine z_st (st' := [.int (Int32.ofInt r7)]) rfl ?_
    refine z_istore dX10_value_20 (by decide) ?_
    refine z_loc (L' := [(0, .ref (G.1 + a0)), (1, .int (Int32.ofInt l1)), (2, .int (Int32.ofInt l2)), (3, .int (Int32.ofInt l3)), (4, .int (Int32.ofInt l4)), (5, .int (Int32.ofInt r7))]) (List.forall_mem_cons.mpr ⟨rfl, (List.forall_mem_cons.mpr ⟨rfl, (List.forall_mem_cons.mpr ⟨rfl, (List.forall_mem_cons.mpr ⟨rfl, (List.forall_mem_cons.mpr ⟨rfl, (List.forall_mem_cons.mpr ⟨rfl, (fun _ h => nomatch h)⟩)⟩)⟩)⟩)⟩)⟩) ?_
    refine z_iload dX10_value_22 rfl ?_
    refine i_if_ne (tgt := 29) dX10_value_24 (by decide) gr7 (fun h8 => ?_) (fun h8 => ?_)
    · refine z_iload dX10_value_29 rfl ?_
      refine z_iconst (v := Int32.ofInt 1) dX10_value_31 rfl ?_
      refine i_icmp_eq (tgt := 41) dX10_value_32 (by decide) gr7 (show rng 1 from ⟨by decide, by decide⟩) (fun h9 => ?_) (fun h9 => ?_)
      · refine z_loc (L' := [(0, .ref (G.1 + a0)), (1, .int (Int32.ofInt l1)), (2, .int (Int32.ofInt l2)), (3, .int (Int32.ofInt l3)), (4, .int (Int32.ofInt l4))]) (List.forall_mem_cons.mpr ⟨rfl, (List.forall_mem_cons.mpr ⟨rfl, (List.forall_mem_cons.mpr ⟨rfl, (List.forall_mem_cons.mpr ⟨rfl, (List.forall_mem_cons.mpr ⟨rfl, (fun _ h => nomatch h)⟩)⟩)⟩)⟩)⟩) ?_
        exact bX10_value_41 hd hW ga0 gl1 gl2 gl3 gl4   hP 
      · refine z_iload dX10_value_35 rfl ?_
        refine z_iconst (v := Int32.ofInt 3) dX10_value_37 rfl ?_
        refine i_icmp_ne (tgt := 45) dX10_value_38 (by decide) gr7 (show rng 3 from ⟨by decide, by decide⟩) (fun h10 => ?_) (fun h10 => ?_)
        · refine z_iconst (v := Int32.ofInt 0) dX10_value_45 rfl ?_
          refine z_loc (L' := [(0, .ref (G.1 + a0)), (1, .int (Int32.ofInt l1)), (2, .int (Int32.ofInt l2)), (3, .int (Int32.ofInt l3)), (4, .int (Int32.ofInt l4))]) (List.forall_mem_cons.mpr ⟨rfl, (List.forall_mem_cons.mpr ⟨rfl, (List.forall_mem_cons.mpr ⟨rfl, (List.forall_mem_cons.mpr ⟨rfl, (List.forall_mem_cons.mpr ⟨rfl, (fun _ h => nomatch h)⟩)⟩)⟩)⟩)⟩) ?_
          exact bX10_value_46 hd hW ga0 gl1 gl2 gl3 gl4 (show rng 0 from ⟨by decide, by decide⟩) ⟨by decide, by decide⟩   hP 
        · refine z_loc (L' := [(0, .ref (G.1 + a0)), (1, .int (Int32.ofInt l1)), (2, .int (Int32.ofInt l2)), (3, .int (Int32.ofInt l3)), (4, .int (Int32.ofInt l4))]) (List.forall_mem_cons.mpr ⟨rfl, (List.forall_mem_cons.mpr ⟨rfl, (List.forall_mem_cons.mpr ⟨rfl, (List.forall_mem_cons.mpr ⟨rfl, (List.forall_mem_cons.mpr ⟨rfl, (fun _ h => nomatch h)⟩)⟩)⟩)⟩)⟩) ?_
          exact bX10_value_41 hd hW ga0 gl1 gl2 gl3 gl4   hP 
    · refine z_iconst (v := Int32.ofInt 0) dX10_value_27 rfl ?_
      exact z_ireturn dX10_value_28 rfl rfl (hP _ (show rng 0 from ⟨by decide, by decide⟩) trivial)
  · refine z_iconst (v := Int32.ofInt 0) dX10_value_7 rfl ?_
    exact z_ireturn dX10_value_8 rfl rfl (hP _ (show rng 0 from ⟨by decide, by decide⟩) trivial)

