set_option maxRecDepth 100000 in
set_option maxHeartbeats 4000000 in
theorem eX2_holdsFrom_31 {G : xG} {d : Nat} {Post : xP} {B : Nat × Nat} {τ0 τ : Tau} {c0 cs : List va_E} {a0 pa0 : Nat} {l3 : Int} {n31 : Nat} (hd : 5 ≤ d) (hW : WT G B τ cs) (hX : Fx [2] τ0 c0 τ cs) (ga0 : τ a0 = some (.inl (2, pa0))) (gl3 : rng l3) (i0 : 0 ≤ l3)  (hP : ∀ (τ1 : Tau) (c1 : List va_E) (r : Int), WT G B τ1 c1 → Fx [2] τ0 c0 τ1 c1 → rng r → ((iv 0 1 r)) → Post (some (.int (Int32.ofInt r))) c1)  (ih_31 : ∀ {τ : Tau} {cs : List va_E} {a0 pa0 : Nat} {l3 : Int} (hW : WT G B τ cs) (hX : Fx [2] τ0 c0 τ cs) (ga0 : τ a0 = some (.inl (2, pa0))) (gl3 : rng l3) (i0 : 0 ≤ l3) , (30 - l3).toNat < n31 → Z (RX2, cX2_holdsFrom, 4, some .boolean, false) G d Post 31 [(0, .ref (G.1 + a0)), (3, .int (Int32.ofInt l3))] [] cs) (hm_31 : (30 - l3).toNat < n31 + 1) : Z (RX2, cX2_holdsFrom, 4, some .boolean, false) G d Post 31 [(0, .ref (G.1 + a0)), (3, .int (Int32.ofInt l3))] [] cs := by
  refine z_iload_n dX2_holdsFrom_31 rfl rfl ?_
  refine z_bipush (v := Int32.ofInt 30) dX2_holdsFrom_32 (by decide) ?_
  refine i_icmp_ge (tgt := 77) dX2_holdsFrom_34 (by decide) gl3 (show rng 30 from ⟨by decide, by decide⟩) (fun h1 => ?_) (fun h1 => ?_)
  · refine z_iconst (v := Int32.ofInt 1) dX2_holdsFrom_77 rfl ?_
    exact z_ireturn dX2_holdsFrom_78 rfl (nar01 (b01 ⟨by decide, by decide⟩)) (hP _ _ _ hW hX (show rng 1 from ⟨by decide, by decide⟩) (by omega))
  · refine z_iload_n dX2_holdsFrom_37 rfl rfl ?_
    refine z_aload_n dX2_holdsFrom_38 rfl rfl ?_
    refine tw_getI hW ga0 (by decide) (by decide) rfl kX2 fX2_21 dX2_holdsFrom_39 (fun x2 _ vx2 gx2 => ?_)
    refine i_icmp_ge (tgt := 77) dX2_holdsFrom_42 (by decide) gl3 gx2 (fun h3 => ?_) (fun h3 => ?_)
    · refine z_iconst (v := Int32.ofInt 1) dX2_holdsFrom_77 rfl ?_
      exact z_ireturn dX2_holdsFrom_78 rfl (nar01 (b01 ⟨by decide, by decide⟩)) (hP _ _ _ hW hX (show rng 1 from ⟨by decide, by decide⟩) (by omega))
    · refine z_aload_n dX2_holdsFrom_45 rfl rfl ?_
      refine z_aload_n dX2_holdsFrom_46 rfl rfl ?_
      refine tw_getA hW ga0 (by decide) (by decide) rfl kX2 fX2_18 dX2_holdsFrom_47 (fun b4 _ gb4 => ?_)
      refine z_iload_n dX2_holdsFrom_50 rfl rfl ?_
      refine tw_iald hW gb4 (by omega) (by omega) dX2_holdsFrom_51 (fun x5 _ vx5 gx5 => ?_)
      refine z_aload_n dX2_holdsFrom_52 rfl rfl ?_
      refine tw_getA hW ga0 (by decide) (by decide) rfl kX2 fX2_9 dX2_holdsFrom_53 (fun b6 _ gb6 => ?_)
      refine z_aload_n dX2_holdsFrom_56 rfl rfl ?_
      refine tw_getA hW ga0 (by decide) (by decide) rfl kX2 fX2_18 dX2_holdsFrom_57 (fun b7 _ gb7 => ?_)
      refine z_iload_n dX2_holdsFrom_60 rfl rfl ?_
      refine tw_iald hW gb7 (by omega) (by omega) dX2_holdsFrom_61 (fun x8 _ vx8 gx8 => ?_)
      refine tw_iald hW gb6 (by omega) (by omega) dX2_holdsFrom_62 (fun x9 _ vx9 gx9 => ?_)
      have hX0 := kX2_areFieldsAlike 4 (Nat.le_refl _) hW ga0 gx5 gx9 
      refine z_callV (As := [_, _]) eX2_areFieldsAlike sX2_areFieldsAlike lX2_46 rfl dX2_holdsFrom_63 (hW.ob ga0 (by decide)).choose_spec hX0 (Nat.le_trans (by decide) hd) rfl (Nat.le_of_ble_eq_true rfl) (fun r cs hp => ?_)
      obtain ⟨τ, r11, rfl, gr11, hW, k12, n10_0⟩ := hp
      have hX := hX.tr k12 (by decide)
      have ga0 := k12.1.e ga0 (by decide)
      clear hX0
      refine z_st (st' := [.int (Int32.ofInt r11)]) rfl ?_
      refine i_if_ne (tgt := 71) dX2_holdsFrom_66 (by decide) gr11 (fun h13 => ?_) (fun h13 => ?_)
      · refine tw_iinc (l := l3) dX2_holdsFrom_71 rfl (by decide) (fun z14 gz14 ez14 => ?_)
        first | have ez14 := ez14 ⟨by omega, by omega⟩ | clear ez14
        refine z_loc (L' := [(0, .ref (G.1 + a0)), (3, .int (Int32.ofInt z14))]) (List.forall_mem_cons.mpr ⟨rfl, (List.forall_mem_cons.mpr ⟨rfl, (fun _ h => nomatch h)⟩)⟩) ?_
        refine z_goto (tgt := 31) dX2_holdsFrom_74 (by decide) ?_
        refine z_loc (L' := [(0, .ref (G.1 + a0)), (3, .int (Int32.ofInt z14))]) (List.forall_mem_cons.mpr ⟨rfl, (List.forall_mem_cons.mpr ⟨rfl, (fun _ h => nomatch h)⟩)⟩) ?_
        exact ih_31 hW hX ga0 gz14 (by omega)  (by omega)
      · refine z_iconst (v := Int32.ofInt 0) dX2_holdsFrom_69 rfl ?_
        exact z_ireturn dX2_holdsFrom_70 rfl (nar01 (b01 ⟨by decide, by decide⟩)) (hP _ _ _ hW hX (show rng 0 from ⟨by decide, by decide⟩) (by omega))
set_option maxRecDepth 100000 in
set_option maxHeartbeats 4000000 in
theorem bX2_holdsFrom_31 {G : xG} {d : Nat} {Post : xP} {B : Nat × Nat} {τ0 τ : Tau} {c0 cs : List va_E} {a0 pa0 : Nat} {l3 : Int} (hd : 5 ≤ d) (hW : WT G B τ cs) (hX : Fx [2] τ0 c0 τ cs) (ga0 : τ a0 = some (.inl (2, pa0))) (gl3 : rng l3) (i0 : 0 ≤ l3)  (hP : ∀ (τ1 : Tau) (c1 : List va_E) (r : Int), WT G B τ1 c1 → Fx [2] τ0 c0 τ1 c1 → rng r → ((iv 0 1 r)) → Post (some (.int (Int32.ofInt r))) c1)  : Z (RX2, cX2_holdsFrom, 4, some .boolean, false) G d Post 31 [(0, .ref (G.1 + a0)), (3, .int (Int32.ofInt l3))] [] cs := by
  have key : ∀ (n : Nat) (τ : Tau) (cs : List va_E) (a0 pa0 : Nat) (l3 : Int) (hW : WT G B τ cs) (hX : Fx [2] τ0 c0 τ cs) (ga0 : τ a0 = some (.inl (2, pa0))) (gl3 : rng l3) (i0 : 0 ≤ l3) , (30 - l3).toNat < n → Z (RX2, cX2_holdsFrom, 4, some .boolean, false) G d Post 31 [(0, .ref (G.1 + a0)), (3, .int (Int32.ofInt l3))] [] cs := by
    intro n
    induction n with
    | zero => intro τ cs a0 pa0 l3 hW hX ga0 gl3 i0 hm; exact absurd hm (Nat.not_lt_zero _)
    | succ n ih =>
      intro τ cs a0 pa0 l3 hW hX ga0 gl3 i0 hm
      exact eX2_holdsFrom_31 hd hW hX ga0 gl3 i0 hP  (fun hW hX ga0 gl3 i0 hm => ih _ _ _ _ _ hW hX ga0 gl3 i0 hm) hm
  exact key _ _ _ _ _ _ hW hX ga0 gl3 i0 (Nat.lt_succ_self _)
set_option maxRecDepth 100000 in
set_option maxHeartbeats 4000000 in
theorem kX2_holdsFrom {G : xG} {B : Nat × Nat} {τ : Tau} {cs : List va_E} {a0 pa0 : Nat} {l1 : Int} {l2 : Int} (d : Nat) (hd : 5 ≤ d) (hW : WT G B τ cs) (ga0 : τ a0 = some (.inl (2, pa0))) (gl1 : rng l1) (gl2 : rng l2)  : X G yX2_holdsFrom cX2_holdsFrom 4 (some .boolean) d [.ref (G.1 + a0), .int (Int32.ofInt l1), .int (Int32.ofInt l2)] cs (wI G B τ cs [2] (fun r => (iv 0 1 r))) := by
  refine X.of false (by decide +kernel) (by decide) (Nat.le_of_ble_eq_true rfl) ?_
  show Z (RX2, cX2_holdsFrom, 4, some .boolean, false) G d _ 0 [(0, .ref (G.1 + a0)), (1, .int (Int32.ofInt l1)), (2, .int (Int32.ofInt l2))] [] cs
  have hP : ∀ (τ1 : Tau) (c1 : List va_E) (r : Int), WT G B τ1 c1 → Fx [2] τ cs τ1 c1 → rng r → ((iv 0 1 r)) → wI G B τ cs [2] (fun r => (iv 0 1 r)) (some (.int (Int32.ofInt r))) c1 := fun τ1 c1 r h1 h2 h3 h4 => ⟨τ1, r, rfl, h3, h1, h2, h4⟩
  have hX : Fx [2] τ cs τ cs := Fx.rf
  skip
  refine z_aload_n dX2_holdsFrom_0 rfl rfl ?_
  refine tw_getA hW ga0 (by decide) (by decide) rfl kX2 fX2_9 dX2_holdsFrom_1 (fun b1 _ gb1 => ?_)
  refine z_bipush (v := Int32.ofInt (-2)) dX2_holdsFrom_4 (by decide) ?_
  have hX0 := kJ7_fill_53178 0 (Nat.le_refl _) hW gb1 (show rng (-2) from ⟨by decide, by decide⟩) 
  refine z_callS (As := [_, _]) eJ7_fill_53178 sJ7_fill_53178 lX2_36 dX2_holdsFrom_6 hX0 (Nat.le_trans (by decide) hd) rfl (Nat.le_of_ble_eq_true rfl) (fun r cs hp => ?_)
  obtain ⟨τ, rfl, hW, k4⟩ := hp
  have hX := hX.tr k4 (by decide)
  have ga0 := k4.1.e ga0 (by decide)
  clear hX0
  refine z_st (st' := []) rfl ?_
  refine z_aload_n dX2_holdsFrom_9 rfl rfl ?_
  refine tw_getA hW ga0 (by decide) (by decide) rfl kX2 fX2_15 dX2_holdsFrom_10 (fun b5 _ gb5 => ?_)
  refine z_bipush (v := Int32.ofInt (-2)) dX2_holdsFrom_13 (by decide) ?_
  have hX0 := kJ7_fill_53178 0 (Nat.le_refl _) hW gb5 (show rng (-2) from ⟨by decide, by decide⟩) 
  refine z_callS (As := [_, _]) eJ7_fill_53178 sJ7_fill_53178 lX2_36 dX2_holdsFrom_15 hX0 (Nat.le_trans (by decide) hd) rfl (Nat.le_of_ble_eq_true rfl) (fun r cs hp => ?_)
  obtain ⟨τ, rfl, hW, k8⟩ := hp
  have hX := hX.tr k8 (by decide)
  have ga0 := k8.1.e ga0 (by decide)
  clear hX0
  refine z_st (st' := []) rfl ?_
  refine z_aload_n dX2_holdsFrom_18 rfl rfl ?_
  refine z_iload_n dX2_holdsFrom_19 rfl rfl ?_
  refine z_iload_n dX2_holdsFrom_20 rfl rfl ?_
  have hX0 := kX2_pairs 2 (Nat.le_refl _) hW ga0 gl1 gl2 
  refine z_callV (As := [_, _]) eX2_pairs sX2_pairs lX2_42 rfl dX2_holdsFrom_21 (hW.ob ga0 (by decide)).choose_spec hX0 (Nat.le_trans (by decide) hd) rfl (Nat.le_of_ble_eq_true rfl) (fun r cs hp => ?_)
  obtain ⟨τ, r10, rfl, gr10, hW, k11, n9_0⟩ := hp
  have hX := hX.tr k11 (by decide)
  have ga0 := k11.1.e ga0 (by decide)
  clear hX0
  refine z_st (st' := [.int (Int32.ofInt r10)]) rfl ?_
  refine i_if_ne (tgt := 29) dX2_holdsFrom_24 (by decide) gr10 (fun h12 => ?_) (fun h12 => ?_)
  · refine z_iconst (v := Int32.ofInt 0) dX2_holdsFrom_29 rfl ?_
    refine z_istore_n dX2_holdsFrom_30 rfl (by decide) ?_
    refine z_loc (L' := [(0, .ref (G.1 + a0)), (1, .int (Int32.ofInt l1)), (2, .int (Int32.ofInt l2)), (3, .int (Int32.ofInt 0))]) (List.forall_mem_cons.mpr ⟨rfl, (List.forall_mem_cons.mpr ⟨rfl, (List.forall_mem_cons.mpr ⟨rfl, (List.forall_mem_cons.mpr ⟨rfl, (fun _ h => nomatch h)⟩)⟩)⟩)⟩) ?_
    refine z_loc (L' := [(0, .ref (G.1 + a0)), (3, .int (Int32.ofInt 0))]) (List.forall_mem_cons.mpr ⟨rfl, (List.forall_mem_cons.mpr ⟨rfl, (fun _ h => nomatch h)⟩)⟩) ?_
    exact bX2_holdsFrom_31 hd hW hX ga0 (show rng 0 from ⟨by decide, by decide⟩) (by omega)  hP 
  · refine z_iconst (v := Int32.ofInt 0) dX2_holdsFrom_27 rfl ?_
    exact z_ireturn dX2_holdsFrom_28 rfl (nar01 (b01 ⟨by decide, by decide⟩)) (hP _ _ _ hW hX (show rng 0 from ⟨by decide, by decide⟩) (by omega))

set_option maxRecDepth 100000 in
set_option maxHeartbeats 4000000 in
theorem bX10_set_46 {G : xG} {d : Nat} {Post : xP} {B : Nat × Nat} {τ0 τ : Tau} {c0 cs : List va_E} {a0 pa0 : Nat} {l1 : Int} {l2 : Int} {l3 : Int} {s0 : Int} (hd : 3 ≤ d) (hW : WT G B τ cs) (hX : Fx [1] τ0 c0 τ cs) (ga0 : τ a0 = some (.inl (10, pa0))) (gl1 : rng l1) (gl2 : rng l2) (gl3 : rng l3) (gs0 : rng s0) (bs0 : iv 0 1 s0)   (hP : ∀ (τ1 : Tau) (c1 : List va_E) (r : Int), WT G B τ1 c1 → Fx [1] τ0 c0 τ1 c1 → rng r → ((iv 0 1 r)) → Post (some (.int (Int32.ofInt r))) c1)  : Z (RX10, cX10_set, 6, some .boolean, false) G d Post 46 [(0, .ref (G.1 + a0)), (1, .int (Int32.ofInt l1)), (2, .int (Int32.ofInt l2)), (3, .int (Int32.ofInt l3))] [.int (Int32.ofInt s0)] cs := by
  refine z_istore dX10_set_46 (by decide) ?_
  refine z_loc (L' := [(0, .ref (G.1 + a0)), (1, .int (Int32.ofInt l1)), (2, .int (Int32.ofInt l2)), (3, .int (Int32.ofInt l3)), (5, .int (Int32.ofInt s0))]) (List.forall_mem_cons.mpr ⟨rfl, (List.forall_mem_cons.mpr ⟨rfl, (List.forall_mem_cons.mpr ⟨rfl, (List.forall_mem_cons.mpr ⟨rfl, (List.forall_mem_cons.mpr ⟨rfl, (fun _ h => nomatch h)⟩)⟩)⟩)⟩)⟩) ?_
  refine z_iload dX10_set_48 rfl ?_
  refine i_if_eq (tgt := 63) dX10_set_50 (by decide) gs0 (fun h1 => ?_) (fun h1 => ?_)
  · refine z_iload dX10_set_63 rfl ?_
    exact z_ireturn dX10_set_65 rfl (nar01 (b01 (by omega))) (hP _ _ _ hW hX gs0 (by omega))
  · refine z_aload_n dX10_set_53 rfl rfl ?_
    refine tw_getO hW ga0 (by decide) (by decide) rfl kX10 fX10_42 dX10_set_54 (fun b2 pb2 gb2 => ?_)
    refine z_iload_n dX10_set_57 rfl rfl ?_
    refine z_iload_n dX10_set_58 rfl rfl ?_
    refine z_iload_n dX10_set_59 rfl rfl ?_
    have hX0 := kX1_putHead 1 (Nat.le_refl _) hW gb2 gl1 gl2 gl3 
    refine z_callV (As := [_, _, _]) eX1_putHead sX1_putHead lX10_97 rfl dX10_set_60 (hW.ob gb2 (by decide)).choose_spec hX0 (Nat.le_trans (by decide) hd) rfl (Nat.le_of_ble_eq_true rfl) (fun r cs hp => ?_)
    obtain ⟨τ, rfl, hW, k5⟩ := hp
    have hX := hX.tr k5 (by decide)
    have ga0 := k5.1.e ga0 (by decide)
    clear hX0
    refine z_st (st' := []) rfl ?_
    refine z_iload dX10_set_63 rfl ?_
    exact z_ireturn dX10_set_65 rfl (nar01 (b01 (by omega))) (hP _ _ _ hW hX gs0 (by omega))
set_option maxRecDepth 100000 in
set_option maxHeartbeats 4000000 in
theorem bX10_set_41 {G : xG} {d : Nat} {Post : xP} {B : Nat × Nat} {τ0 τ : Tau} {c0 cs : List va_E} {a0 pa0 : Nat} {l1 : Int} {l2 : Int} {l3 : Int} (hd : 3 ≤ d) (hW : WT G B τ cs) (hX : Fx [1] τ0 c0 τ cs) (ga0 : τ a0 = some (.inl (10, pa0))) (gl1 : rng l1) (gl2 : rng l2) (gl3 : rng l3)   (hP : ∀ (τ1 : Tau) (c1 : List va_E) (r : Int), WT G B τ1 c1 → Fx [1] τ0 c0 τ1 c1 → rng r → ((iv 0 1 r)) → Post (some (.int (Int32.ofInt r))) c1)  : Z (RX10, cX10_set, 6, some .boolean, false) G d Post 41 [(0, .ref (G.1 + a0)), (1, .int (Int32.ofInt l1)), (2, .int (Int32.ofInt l2)), (3, .int (Int32.ofInt l3))] [] cs := by
  refine z_iconst (v := Int32.ofInt 1) dX10_set_41 rfl ?_
  refine z_goto (tgt := 46) dX10_set_42 (by decide) ?_
  refine z_loc (L' := [(0, .ref (G.1 + a0)), (1, .int (Int32.ofInt l1)), (2, .int (Int32.ofInt l2)), (3, .int (Int32.ofInt l3))]) (List.forall_mem_cons.mpr ⟨rfl, (List.forall_mem_cons.mpr ⟨rfl, (List.forall_mem_cons.mpr ⟨rfl, (List.forall_mem_cons.mpr ⟨rfl, (fun _ h => nomatch h)⟩)⟩)⟩)⟩) ?_
  exact bX10_set_46 hd hW hX ga0 gl1 gl2 gl3 (show rng 1 from ⟨by decide, by decide⟩) ⟨by decide, by decide⟩   hP 
set_option maxRecDepth 100000 in
set_option maxHeartbeats 4000000 in
theorem bX10_set_45 {G : xG} {d : Nat} {Post : xP} {B : Nat × Nat} {τ0 τ : Tau} {c0 cs : List va_E} {a0 pa0 : Nat} {l1 : Int} {l2 : Int} {l3 : Int} (hd : 3 ≤ d) (hW : WT G B τ cs) (hX : Fx [1] τ0 c0 τ cs) (ga0 : τ a0 = some (.inl (10, pa0))) (gl1 : rng l1) (gl2 : rng l2) (gl3 : rng l3)   (hP : ∀ (τ1 : Tau) (c1 : List va_E) (r : Int), WT G B τ1 c1 → Fx [1] τ0 c0 τ1 c1 → rng r → ((iv 0 1 r)) → Post (some (.int (Int32.ofInt r))) c1)  : Z (RX10, cX10_set, 6, some .boolean, false) G d Post 45 [(0, .ref (G.1 + a0)), (1, .int (Int32.ofInt l1)), (2, .int (Int32.ofInt l2)), (3, .int (Int32.ofInt l3))] [] cs := by
  refine z_iconst (v := Int32.ofInt 0) dX10_set_45 rfl ?_
  refine z_loc (L' := [(0, .ref (G.1 + a0)), (1, .int (Int32.ofInt l1)), (2, .int (Int32.ofInt l2)), (3, .int (Int32.ofInt l3))]) (List.forall_mem_cons.mpr ⟨rfl, (List.forall_mem_cons.mpr ⟨rfl, (List.forall_mem_cons.mpr ⟨rfl, (List.forall_mem_cons.mpr ⟨rfl, (fun _ h => nomatch h)⟩)⟩)⟩)⟩) ?_
  exact bX10_set_46 hd hW hX ga0 gl1 gl2 gl3 (show rng 0 from ⟨by decide, by decide⟩) ⟨by decide, by decide⟩   hP 
set_option maxRecDepth 100000 in
set_option maxHeartbeats 4000000 in
theorem kX10_set {G : xG} {B : Nat × Nat} {τ : Tau} {cs : List va_E} {a0 pa0 : Nat} {l1 : Int} {l2 : Int} {l3 : Int} (d : Nat) (hd : 3 ≤ d) (hW : WT G B τ cs) (ga0 : τ a0 = some (.inl (10, pa0))) (gl1 : rng l1) (gl2 : rng l2) (gl3 : rng l3)  : X G yX10_set cX10_set 6 (some .boolean) d [.ref (G.1 + a0), .int (Int32.ofInt l1), .int (Int32.ofInt l2), .int (Int32.ofInt l3)] cs (wI G B τ cs [1] (fun r => (iv 0 1 r))) := by
  refine X.of false (by decide +kernel) (by decide) (Nat.le_of_ble_eq_true rfl) ?_
  show Z (RX10, cX10_set, 6, some .boolean, false) G d _ 0 [(0, .ref (G.1 + a0)), (1, .int (Int32.ofInt l1)), (2, .int (Int32.ofInt l2)), (3, .int (Int32.ofInt l3))] [] cs
  have hP : ∀ (τ1 : Tau) (c1 : List va_E) (r : Int), WT G B τ1 c1 → Fx [1] τ cs τ1 c1 → rng r → ((iv 0 1 r)) → wI G B τ cs [1] (fun r => (iv 0 1 r)) (some (.int (Int32.ofInt r))) c1 := fun τ1 c1 r h1 h2 h3 h4 => ⟨τ1, r, rfl, h3, h1, h2, h4⟩
  have hX : Fx [1] τ cs τ cs := Fx.rf
  skip
  refine z_aload_n dX10_set_0 rfl rfl ?_
  refine z_aload_n dX10_set_1 rfl rfl ?_
  refine tw_getO hW ga0 (by decide) (by decide) rfl kX10 fX10_42 dX10_set_2 (fun b1 pb1 gb1 => ?_)
  refine z_iload_n dX10_set_5 rfl rfl ?_
  refine z_iload_n dX10_set_6 rfl rfl ?_
  have hX0 := kX10_shapeIn 2 (Nat.le_refl _) hW ga0 gb1 gl1 gl2 
  refine z_callV (As := [_, _, _]) eX10_shapeIn sX10_shapeIn lX10_90 rfl dX10_set_7 (hW.ob ga0 (by decide)).choose_spec hX0 (Nat.le_trans (by decide) hd) rfl (Nat.le_of_ble_eq_true rfl) (fun r cs1 hp => ?_)
  obtain ⟨hcs, r3, rfl, gr3, _⟩ := hp
  obtain rfl := hcs.symm
  refine z_st (st' := [.int (Int32.ofInt r3)]) rfl ?_
  refine z_istore dX10_set_10 (by decide) ?_
  refine z_loc (L' := [(0, .ref (G.1 + a0)), (1, .int (Int32.ofInt l1)), (2, .int (Int32.ofInt l2)), (3, .int (Int32.ofInt l3)), (4, .int (Int32.ofInt r3))]) (List.forall_mem_cons.mpr ⟨rfl, (List.forall_mem_cons.mpr ⟨rfl, (List.forall_mem_cons.mpr ⟨rfl, (List.forall_mem_cons.mpr ⟨rfl, (List.forall_mem_cons.mpr ⟨rfl, (fun _ h => nomatch h)⟩)⟩)⟩)⟩)⟩) ?_
  refine z_iload dX10_set_12 rfl ?_
  refine z_iconst (v := Int32.ofInt 1) dX10_set_14 rfl ?_
  refine i_icmp_eq (tgt := 41) dX10_set_15 (by decide) gr3 (show rng 1 from ⟨by decide, by decide⟩) (fun h4 => ?_) (fun h4 => ?_)
  · refine z_loc (L' := [(0, .ref (G.1 + a0)), (1, .int (Int32.ofInt l1)), (2, .int (Int32.ofInt l2)), (3, .int (Int32.ofInt l3))]) (List.forall_mem_cons.mpr ⟨rfl, (List.forall_mem_cons.mpr ⟨rfl, (List.forall_mem_cons.mpr ⟨rfl, (List.forall_mem_cons.mpr ⟨rfl, (fun _ h => nomatch h)⟩)⟩)⟩)⟩) ?_
    exact bX10_set_41 hd hW hX ga0 gl1 gl2 gl3   hP 
  · refine z_iload dX10_set_18 rfl ?_
    refine z_iconst (v := Int32.ofInt 3) dX10_set_20 rfl ?_
    refine i_icmp_ne (tgt := 45) dX10_set_21 (by decide) gr3 (show rng 3 from ⟨by decide, by decide⟩) (fun h5 => ?_) (fun h5 => ?_)
    · refine z_loc (L' := [(0, .ref (G.1 + a0)), (1, .int (Int32.ofInt l1)), (2, .int (Int32.ofInt l2)), (3, .int (Int32.ofInt l3))]) (List.forall_mem_cons.mpr ⟨rfl, (List.forall_mem_cons.mpr ⟨rfl, (List.forall_mem_cons.mpr ⟨rfl, (List.forall_mem_cons.mpr ⟨rfl, (fun _ h => nomatch h)⟩)⟩)⟩)⟩) ?_
      exact bX10_set_45 hd hW hX ga0 gl1 gl2 gl3   hP 
    · refine z_iload_n dX10_set_24 rfl rfl ?_
      refine z_bipush (v := Int32.ofInt (-2)) dX10_set_25 (by decide) ?_
      refine i_icmp_eq (tgt := 41) dX10_set_27 (by decide) gl3 (show rng (-2) from ⟨by decide, by decide⟩) (fun h6 => ?_) (fun h6 => ?_)
      · refine z_loc (L' := [(0, .ref (G.1 + a0)), (1, .int (Int32.ofInt l1)), (2, .int (Int32.ofInt l2)), (3, .int (Int32.ofInt l3))]) (List.forall_mem_cons.mpr ⟨rfl, (List.forall_mem_cons.mpr ⟨rfl, (List.forall_mem_cons.mpr ⟨rfl, (List.forall_mem_cons.mpr ⟨rfl, (fun _ h => nomatch h)⟩)⟩)⟩)⟩) ?_
        exact bX10_set_41 hd hW hX ga0 gl1 gl2 gl3   hP 
      · refine z_aload_n dX10_set_30 rfl rfl ?_
        refine tw_getO hW ga0 (by decide) (by decide) rfl kX10 fX10_42 dX10_set_31 (fun b7 pb7 gb7 => ?_)
        refine z_iload_n dX10_set_34 rfl rfl ?_
        have hX0 := kX1_has 0 (Nat.le_refl _) hW gb7 gl3 
        refine z_callV (As := [_]) eX1_has sX1_has lX10_94 rfl dX10_set_35 (hW.ob gb7 (by decide)).choose_spec hX0 (Nat.le_trans (by decide) hd) rfl (Nat.le_of_ble_eq_true rfl) (fun r cs1 hp => ?_)
        obtain ⟨hcs, r9, rfl, gr9, ⟨n8_0, n8_1⟩⟩ := hp
        obtain rfl := hcs.symm
        refine z_st (st' := [.int (Int32.ofInt r9)]) rfl ?_
        refine i_if_eq (tgt := 45) dX10_set_38 (by decide) gr9 (fun h10 => ?_) (fun h10 => ?_)
        · refine z_loc (L' := [(0, .ref (G.1 + a0)), (1, .int (Int32.ofInt l1)), (2, .int (Int32.ofInt l2)), (3, .int (Int32.ofInt l3))]) (List.forall_mem_cons.mpr ⟨rfl, (List.forall_mem_cons.mpr ⟨rfl, (List.forall_mem_cons.mpr ⟨rfl, (List.forall_mem_cons.mpr ⟨rfl, (fun _ h => nomatch h)⟩)⟩)⟩)⟩) ?_
          exact bX10_set_45 hd hW hX ga0 gl1 gl2 gl3   hP 
        · refine z_loc (L' := [(0, .ref (G.1 + a0)), (1, .int (Int32.ofInt l1)), (2, .int (Int32.ofInt l2)), (3, .int (Int32.ofInt l3))]) (List.forall_mem_cons.mpr ⟨rfl, (List.forall_mem_cons.mpr ⟨rfl, (List.forall_mem_cons.mpr ⟨rfl, (List.forall_mem_cons.mpr ⟨rfl, (fun _ h => nomatch h)⟩)⟩)⟩)⟩) ?_
          exact bX10_set_41 hd hW hX ga0 gl1 gl2 gl3   hP 

set_option maxRecDepth 100000 in
set_option maxHeartbeats 4000000 in
theorem kX10_sign {G : xG} {B : Nat × Nat} {τ : Tau} {cs : List va_E} {a0 pa0 : Nat} {l1 : Int} (d : Nat) (hd : 1 ≤ d) (hW : WT G B τ cs) (ga0 : τ a0 = some (.inl (10, pa0))) (gl1 : rng l1)  : X G yX10_sign cX10_sign 2 (some .int) d [.ref (G.1 + a0), .int (Int32.ofInt l1)] cs (rI cs (fun r => True)) := by
  refine X.of false (by decide +kernel) (by decide) (Nat.le_of_ble_eq_true rfl) ?_
  show Z (RX10, cX10_sign, 2, some .int, false) G d _ 0 [(0, .ref (G.1 + a0)), (1, .int (Int32.ofInt l1))] [] cs
  have hP : ∀ r : Int, rng r → (True) → rI cs (fun r => True) (some (.int (Int32.ofInt r))) cs := fun r h1 h2 => ⟨rfl, r, rfl, h1, h2⟩
  refine z_aload_n dX10_sign_0 rfl rfl ?_
  refine tw_getO hW ga0 (by decide) (by decide) rfl kX10 fX10_23 dX10_sign_1 (fun b1 pb1 gb1 => ?_)
  have gb1 : oT τ b1 5 := ⟨_, gb1⟩
  refine z_iload_n dX10_sign_4 rfl rfl ?_
  have hX0 := kX5_has 0 (Nat.le_refl _) hW gb1 gl1 
  refine z_callV (As := [_]) eX5_has sX5_has lX10_128 rfl dX10_sign_5 (hW.os gb1).choose_spec hX0 (Nat.le_trans (by decide) hd) rfl (Nat.le_of_ble_eq_true rfl) (fun r cs1 hp => ?_)
  obtain ⟨hcs, r3, rfl, gr3, n2_0⟩ := hp
  obtain rfl := hcs.symm
  refine z_st (st' := [.int (Int32.ofInt r3)]) rfl ?_
  refine i_if_eq (tgt := 22) dX10_sign_8 (by decide) gr3 (fun h4 => ?_) (fun h4 => ?_)
  · refine z_iconst (v := Int32.ofInt (-1)) dX10_sign_22 rfl ?_
    exact z_ireturn dX10_sign_23 rfl rfl (hP _ (show rng (-1) from ⟨by decide, by decide⟩) trivial)
  · refine z_aload_n dX10_sign_11 rfl rfl ?_
    refine tw_getO hW ga0 (by decide) (by decide) rfl kX10 fX10_23 dX10_sign_12 (fun b5 pb5 gb5 => ?_)
    have gb5 : oT τ b5 5 := ⟨_, gb5⟩
    refine z_iload_n dX10_sign_15 rfl rfl ?_
    have hX0 := kX5_at 0 (Nat.le_refl _) hW gb5 gl1 
    refine z_callV (As := [_]) eX5_at sX5_at lX10_129 rfl dX10_sign_16 (hW.os gb5).choose_spec hX0 (Nat.le_trans (by decide) hd) rfl (Nat.le_of_ble_eq_true rfl) (fun r cs1 hp => ?_)
    obtain ⟨hcs, r7, rfl, gr7, n6_0⟩ := hp
    obtain rfl := hcs.symm
    refine z_st (st' := [.int (Int32.ofInt r7)]) rfl ?_
    refine z_goto (tgt := 23) dX10_sign_19 (by decide) ?_
    exact z_ireturn dX10_sign_23 rfl rfl (hP _ gr7 trivial)

set_option maxRecDepth 100000 in
set_option maxHeartbeats 4000000 in
theorem eX5_become_6 {G : xG} {d : Nat} {Post : xP} {B : Nat × Nat} {τ0 τ : Tau} {c0 cs : List va_E} {a0 : Nat} {a1 : Nat} {l2 : Int} {n6 : Nat} (hd : 2 ≤ d) (hW : WT G B τ cs) (hX : Fx [5] τ0 c0 τ cs) (ga0 : oT τ a0 5) (ga1 : oT τ a1 5) (gl2 : rng l2) (i0 : 0 ≤ l2)  (hP : ∀ (τ1 : Tau) (c1 : List va_E), WT G B τ1 c1 → Fx [5] τ0 c0 τ1 c1 → Post none c1)  (ih_6 : ∀ {τ : Tau} {cs : List va_E} {a0 : Nat} {a1 : Nat} {l2 : Int} (hW : WT G B τ cs) (hX : Fx [5] τ0 c0 τ cs) (ga0 : oT τ a0 5) (ga1 : oT τ a1 5) (gl2 : rng l2) (i0 : 0 ≤ l2) , (3000 - l2).toNat < n6 → Z (RX5, cX5_become, 3, none, false) G d Post 6 [(0, .ref (G.1 + a0)), (1, .ref (G.1 + a1)), (2, .int (Int32.ofInt l2))] [] cs) (hm_6 : (3000 - l2).toNat < n6 + 1) : Z (RX5, cX5_become, 3, none, false) G d Post 6 [(0, .ref (G.1 + a0)), (1, .ref (G.1 + a1)), (2, .int (Int32.ofInt l2))] [] cs := by
  refine z_iload_n dX5_become_6 rfl rfl ?_
  refine z_aload_n dX5_become_7 rfl rfl ?_
  have hX0 := kX5_length 0 (Nat.le_refl _) hW ga1 
  refine z_callV (As := []) eX5_length sX5_length lX5_51 rfl dX5_become_8 (hW.os ga1).choose_spec hX0 (Nat.le_trans (by decide) hd) rfl (Nat.le_of_ble_eq_true rfl) (fun r cs1 hp => ?_)
  obtain ⟨hcs, r2, rfl, gr2, n1_0⟩ := hp
  obtain rfl := hcs.symm
  refine z_st (st' := [.int (Int32.ofInt r2), .int (Int32.ofInt l2)]) rfl ?_
  refine i_icmp_ge (tgt := 30) dX5_become_11 (by decide) gl2 gr2 (fun h3 => ?_) (fun h3 => ?_)
  · exact z_return dX5_become_30 rfl (hP _ _ hW hX)
  · refine z_aload_n dX5_become_14 rfl rfl ?_
    refine z_aload_n dX5_become_15 rfl rfl ?_
    refine z_iload_n dX5_become_16 rfl rfl ?_
    have hX0 := kX5_at 0 (Nat.le_refl _) hW ga1 gl2 
    refine z_callV (As := [_]) eX5_at sX5_at lX5_52 rfl dX5_become_17 (hW.os ga1).choose_spec hX0 (Nat.le_trans (by decide) hd) rfl (Nat.le_of_ble_eq_true rfl) (fun r cs1 hp => ?_)
    obtain ⟨hcs, r5, rfl, gr5, n4_0⟩ := hp
    obtain rfl := hcs.symm
    refine z_st (st' := [.int (Int32.ofInt r5), .ref (G.1 + a0)]) rfl ?_
    have hX0 := kX5_put 1 (Nat.le_refl _) hW ga0 gr5 
    refine z_callV (As := [_]) eX5_put sX5_put lX5_44 rfl dX5_become_20 (hW.os ga0).choose_spec hX0 (Nat.le_trans (by decide) hd) rfl (Nat.le_of_ble_eq_true rfl) (fun r cs hp => ?_)
    obtain ⟨τ, r7, rfl, gr7, hW, k8, n6_0⟩ := hp
    have hX := hX.tr k8 (by decide)
    have ga0 := k8.1.s ga0
    have ga1 := k8.1.s ga1
    clear hX0
    refine z_st (st' := [.int (Int32.ofInt r7)]) rfl ?_
    refine z_pop dX5_become_23 rfl ?_
    refine tw_iinc (l := l2) dX5_become_24 rfl (by decide) (fun z9 gz9 ez9 => ?_)
    first | have ez9 := ez9 ⟨by omega, by omega⟩ | clear ez9
    refine z_loc (L' := [(0, .ref (G.1 + a0)), (1, .ref (G.1 + a1)), (2, .int (Int32.ofInt z9))]) (List.forall_mem_cons.mpr ⟨rfl, (List.forall_mem_cons.mpr ⟨rfl, (List.forall_mem_cons.mpr ⟨rfl, (fun _ h => nomatch h)⟩)⟩)⟩) ?_
    refine z_goto (tgt := 6) dX5_become_27 (by decide) ?_
    refine z_loc (L' := [(0, .ref (G.1 + a0)), (1, .ref (G.1 + a1)), (2, .int (Int32.ofInt z9))]) (List.forall_mem_cons.mpr ⟨rfl, (List.forall_mem_cons.mpr ⟨rfl, (List.forall_mem_cons.mpr ⟨rfl, (fun _ h => nomatch h)⟩)⟩)⟩) ?_
    exact ih_6 hW hX ga0 ga1 gz9 (by omega)  (by omega)
set_option maxRecDepth 100000 in
set_option maxHeartbeats 4000000 in
theorem bX5_become_6 {G : xG} {d : Nat} {Post : xP} {B : Nat × Nat} {τ0 τ : Tau} {c0 cs : List va_E} {a0 : Nat} {a1 : Nat} {l2 : Int} (hd : 2 ≤ d) (hW : WT G B τ cs) (hX : Fx [5] τ0 c0 τ cs) (ga0 : oT τ a0 5) (ga1 : oT τ a1 5) (gl2 : rng l2) (i0 : 0 ≤ l2)  (hP : ∀ (τ1 : Tau) (c1 : List va_E), WT G B τ1 c1 → Fx [5] τ0 c0 τ1 c1 → Post none c1)  : Z (RX5, cX5_become, 3, none, false) G d Post 6 [(0, .ref (G.1 + a0)), (1, .ref (G.1 + a1)), (2, .int (Int32.ofInt l2))] [] cs := by
  have key : ∀ (n : Nat) (τ : Tau) (cs : List va_E) (a0 : Nat) (a1 : Nat) (l2 : Int) (hW : WT G B τ cs) (hX : Fx [5] τ0 c0 τ cs) (ga0 : oT τ a0 5) (ga1 : oT τ a1 5) (gl2 : rng l2) (i0 : 0 ≤ l2) , (3000 - l2).toNat < n → Z (RX5, cX5_become, 3, none, false) G d Post 6 [(0, .ref (G.1 + a0)), (1, .ref (G.1 + a1)), (2, .int (Int32.ofInt l2))] [] cs := by
    intro n
    induction n with
    | zero => intro τ cs a0 a1 l2 hW hX ga0 ga1 gl2 i0 hm; exact absurd hm (Nat.not_lt_zero _)
    | succ n ih =>
      intro τ cs a0 a1 l2 hW hX ga0 ga1 gl2 i0 hm
      exact eX5_become_6 hd hW hX ga0 ga1 gl2 i0 hP  (fun hW hX ga0 ga1 gl2 i0 hm => ih _ _ _ _ _ hW hX ga0 ga1 gl2 i0 hm) hm
  exact key _ _ _ _ _ _ hW hX ga0 ga1 gl2 i0 (Nat.lt_succ_self _)
set_option maxRecDepth 100000 in
set_option maxHeartbeats 4000000 in
theorem kX5_become {G : xG} {B : Nat × Nat} {τ : Tau} {cs : List va_E} {a0 : Nat} {a1 : Nat} (d : Nat) (hd : 2 ≤ d) (hW : WT G B τ cs) (ga0 : oT τ a0 5) (ga1 : oT τ a1 5)  : X G yX5_become cX5_become 3 none d [.ref (G.1 + a0), .ref (G.1 + a1)] cs (wN G B τ cs [5]) := by
  refine X.of false (by decide +kernel) (by decide) (Nat.le_of_ble_eq_true rfl) ?_
  show Z (RX5, cX5_become, 3, none, false) G d _ 0 [(0, .ref (G.1 + a0)), (1, .ref (G.1 + a1))] [] cs
  have hP : ∀ (τ1 : Tau) (c1 : List va_E), WT G B τ1 c1 → Fx [5] τ cs τ1 c1 → wN G B τ cs [5] none c1 := fun τ1 c1 h1 h2 => ⟨τ1, rfl, h1, h2⟩
  have hX : Fx [5] τ cs τ cs := Fx.rf
  skip
  refine z_aload_n dX5_become_0 rfl rfl ?_
  have hX0 := kX5_clear 0 (Nat.le_refl _) hW ga0 
  refine z_callV (As := []) eX5_clear sX5_clear lX5_48 rfl dX5_become_1 (hW.os ga0).choose_spec hX0 (Nat.le_trans (by decide) hd) rfl (Nat.le_of_ble_eq_true rfl) (fun r cs hp => ?_)
  obtain ⟨τ, rfl, hW, k3⟩ := hp
  have hX := hX.tr k3 (by decide)
  have ga0 := k3.1.s ga0
  have ga1 := k3.1.s ga1
  clear hX0
  refine z_st (st' := []) rfl ?_
  refine z_iconst (v := Int32.ofInt 0) dX5_become_4 rfl ?_
  refine z_istore_n dX5_become_5 rfl (by decide) ?_
  refine z_loc (L' := [(0, .ref (G.1 + a0)), (1, .ref (G.1 + a1)), (2, .int (Int32.ofInt 0))]) (List.forall_mem_cons.mpr ⟨rfl, (List.forall_mem_cons.mpr ⟨rfl, (List.forall_mem_cons.mpr ⟨rfl, (fun _ h => nomatch h)⟩)⟩)⟩) ?_
  refine z_loc (L' := [(0, .ref (G.1 + a0)), (1, .ref (G.1 + a1)), (2, .int (Int32.ofInt 0))]) (List.forall_mem_cons.mpr ⟨rfl, (List.forall_mem_cons.mpr ⟨rfl, (List.forall_mem_cons.mpr ⟨rfl, (fun _ h => nomatch h)⟩)⟩)⟩) ?_
  exact bX5_become_6 hd hW hX ga0 ga1 (show rng 0 from ⟨by decide, by decide⟩) (by omega)  hP 

set_option maxRecDepth 100000 in
set_option maxHeartbeats 4000000 in
theorem kX10_take {G : xG} {B : Nat × Nat} {τ : Tau} {cs : List va_E} {a0 pa0 : Nat} (d : Nat) (hd : 3 ≤ d) (hW : WT G B τ cs) (ga0 : τ a0 = some (.inl (10, pa0)))  : X G yX10_take cX10_take 1 (some .int) d [.ref (G.1 + a0)] cs (wI G B τ cs [5] (fun r => True)) := by
  refine X.of false (by decide +kernel) (by decide) (Nat.le_of_ble_eq_true rfl) ?_
  show Z (RX10, cX10_take, 1, some .int, false) G d _ 0 [(0, .ref (G.1 + a0))] [] cs
  have hP : ∀ (τ1 : Tau) (c1 : List va_E) (r : Int), WT G B τ1 c1 → Fx [5] τ cs τ1 c1 → rng r → (True) → wI G B τ cs [5] (fun r => True) (some (.int (Int32.ofInt r))) c1 := fun τ1 c1 r h1 h2 h3 h4 => ⟨τ1, r, rfl, h3, h1, h2, h4⟩
  have hX : Fx [5] τ cs τ cs := Fx.rf
  skip
  refine z_aload_n dX10_take_0 rfl rfl ?_
  refine tw_getO hW ga0 (by decide) (by decide) rfl kX10 fX10_12 dX10_take_1 (fun b1 pb1 gb1 => ?_)
  have gb1 : oT τ b1 5 := ⟨_, gb1⟩
  refine z_aload_n dX10_take_4 rfl rfl ?_
  refine tw_getO hW ga0 (by decide) (by decide) rfl kX10 fX10_23 dX10_take_5 (fun b2 pb2 gb2 => ?_)
  have gb2 : oT τ b2 5 := ⟨_, gb2⟩
  have hX0 := kX5_become 2 (Nat.le_refl _) hW gb1 gb2 
  refine z_callV (As := [_]) eX5_become sX5_become lX10_132 rfl dX10_take_8 (hW.os gb1).choose_spec hX0 (Nat.le_trans (by decide) hd) rfl (Nat.le_of_ble_eq_true rfl) (fun r cs hp => ?_)
  obtain ⟨τ, rfl, hW, k5⟩ := hp
  have hX := hX.tr k5 (by decide)
  have ga0 := k5.1.e ga0 (by decide)
  clear hX0
  refine z_st (st' := []) rfl ?_
  refine z_aload_n dX10_take_11 rfl rfl ?_
  refine tw_getO hW ga0 (by decide) (by decide) rfl kX10 fX10_12 dX10_take_12 (fun b6 pb6 gb6 => ?_)
  have gb6 : oT τ b6 5 := ⟨_, gb6⟩
  have hX0 := kX5_length 0 (Nat.le_refl _) hW gb6 
  refine z_callV (As := []) eX5_length sX5_length lX10_101 rfl dX10_take_15 (hW.os gb6).choose_spec hX0 (Nat.le_trans (by decide) hd) rfl (Nat.le_of_ble_eq_true rfl) (fun r cs1 hp => ?_)
  obtain ⟨hcs, r8, rfl, gr8, n7_0⟩ := hp
  obtain rfl := hcs.symm
  refine z_st (st' := [.int (Int32.ofInt r8)]) rfl ?_
  exact z_ireturn dX10_take_18 rfl rfl (hP _ _ _ hW hX gr8 trivial)

set_option maxRecDepth 100000 in
set_option maxHeartbeats 4000000 in
theorem kX10_text {G : xG} {B : Nat × Nat} {τ : Tau} {cs : List va_E} {a0 pa0 : Nat} {l1 : Int} {l2 : Int} (d : Nat) (hd : 3 ≤ d) (hW : WT G B τ cs) (ga0 : τ a0 = some (.inl (10, pa0))) (gl1 : rng l1) (gl2 : rng l2)  : X G yX10_text cX10_text 3 (some .boolean) d [.ref (G.1 + a0), .int (Int32.ofInt l1), .int (Int32.ofInt l2)] cs (wI G B τ cs [1, 5] (fun r => (iv 0 1 r))) := by
  refine X.of false (by decide +kernel) (by decide) (Nat.le_of_ble_eq_true rfl) ?_
  show Z (RX10, cX10_text, 3, some .boolean, false) G d _ 0 [(0, .ref (G.1 + a0)), (1, .int (Int32.ofInt l1)), (2, .int (Int32.ofInt l2))] [] cs
  have hP : ∀ (τ1 : Tau) (c1 : List va_E) (r : Int), WT G B τ1 c1 → Fx [1, 5] τ cs τ1 c1 → rng r → ((iv 0 1 r)) → wI G B τ cs [1, 5] (fun r => (iv 0 1 r)) (some (.int (Int32.ofInt r))) c1 := fun τ1 c1 r h1 h2 h3 h4 => ⟨τ1, r, rfl, h3, h1, h2, h4⟩
  have hX : Fx [1, 5] τ cs τ cs := Fx.rf
  skip
  refine z_aload_n dX10_text_0 rfl rfl ?_
  refine z_aload_n dX10_text_1 rfl rfl ?_
  refine tw_getO hW ga0 (by decide) (by decide) rfl kX10 fX10_42 dX10_text_2 (fun b1 pb1 gb1 => ?_)
  refine z_iload_n dX10_text_5 rfl rfl ?_
  refine z_iload_n dX10_text_6 rfl rfl ?_
  have hX0 := kX10_shapeIn 2 (Nat.le_refl _) hW ga0 gb1 gl1 gl2 
  refine z_callV (As := [_, _, _]) eX10_shapeIn sX10_shapeIn lX10_90 rfl dX10_text_7 (hW.ob ga0 (by decide)).choose_spec hX0 (Nat.le_trans (by decide) hd) rfl (Nat.le_of_ble_eq_true rfl) (fun r cs1 hp => ?_)
  obtain ⟨hcs, r3, rfl, gr3, _⟩ := hp
  obtain rfl := hcs.symm
  refine z_st (st' := [.int (Int32.ofInt r3)]) rfl ?_
  refine z_iconst (v := Int32.ofInt 2) dX10_text_10 rfl ?_
  refine i_icmp_ne (tgt := 32) dX10_text_11 (by decide) gr3 (show rng 2 from ⟨by decide, by decide⟩) (fun h4 => ?_) (fun h4 => ?_)
  · refine z_iconst (v := Int32.ofInt 0) dX10_text_32 rfl ?_
    exact z_ireturn dX10_text_33 rfl (nar01 (b01 ⟨by decide, by decide⟩)) (hP _ _ _ hW hX (show rng 0 from ⟨by decide, by decide⟩) (by omega))
  · refine z_aload_n dX10_text_14 rfl rfl ?_
    refine tw_getO hW ga0 (by decide) (by decide) rfl kX10 fX10_12 dX10_text_15 (fun b5 pb5 gb5 => ?_)
    have gb5 : oT τ b5 5 := ⟨_, gb5⟩
    refine z_iconst (v := Int32.ofInt 0) dX10_text_18 rfl ?_
    refine z_aload_n dX10_text_19 rfl rfl ?_
    refine tw_getO hW ga0 (by decide) (by decide) rfl kX10 fX10_12 dX10_text_20 (fun b6 pb6 gb6 => ?_)
    have gb6 : oT τ b6 5 := ⟨_, gb6⟩
    have hX0 := kX5_length 0 (Nat.le_refl _) hW gb6 
    refine z_callV (As := []) eX5_length sX5_length lX10_101 rfl dX10_text_23 (hW.os gb6).choose_spec hX0 (Nat.le_trans (by decide) hd) rfl (Nat.le_of_ble_eq_true rfl) (fun r cs1 hp => ?_)
    obtain ⟨hcs, r8, rfl, gr8, n7_0⟩ := hp
    obtain rfl := hcs.symm
    refine z_st (st' := [.int (Int32.ofInt r8), .int (Int32.ofInt 0), .ref (G.1 + b5)]) rfl ?_
    have hX0 := kX10_isFieldText 1 (Nat.le_refl _) hW gb5 (show rng 0 from ⟨by decide, by decide⟩) gr8 
    refine z_callS (As := [_, _, _]) eX10_isFieldText sX10_isFieldText lX10_104 dX10_text_26 hX0 (Nat.le_trans (by decide) hd) rfl (Nat.le_of_ble_eq_true rfl) (fun r cs1 hp => ?_)
    obtain ⟨hcs, r10, rfl, gr10, n9_0⟩ := hp
    obtain rfl := hcs.symm
    refine z_st (st' := [.int (Int32.ofInt r10)]) rfl ?_
    refine i_if_ne (tgt := 34) dX10_text_29 (by decide) gr10 (fun h11 => ?_) (fun h11 => ?_)
    · refine z_aload_n dX10_text_34 rfl rfl ?_
      refine tw_getO hW ga0 (by decide) (by decide) rfl kX10 fX10_42 dX10_text_35 (fun b12 pb12 gb12 => ?_)
      refine z_iload_n dX10_text_38 rfl rfl ?_
      refine z_iload_n dX10_text_39 rfl rfl ?_
      refine z_aload_n dX10_text_40 rfl rfl ?_
      refine tw_getO hW ga0 (by decide) (by decide) rfl kX10 fX10_12 dX10_text_41 (fun b13 pb13 gb13 => ?_)
      have gb13 : oT τ b13 5 := ⟨_, gb13⟩
      refine z_iconst (v := Int32.ofInt 0) dX10_text_44 rfl ?_
      refine z_aload_n dX10_text_45 rfl rfl ?_
      refine tw_getO hW ga0 (by decide) (by decide) rfl kX10 fX10_12 dX10_text_46 (fun b14 pb14 gb14 => ?_)
      have gb14 : oT τ b14 5 := ⟨_, gb14⟩
      have hX0 := kX5_length 0 (Nat.le_refl _) hW gb14 
      refine z_callV (As := []) eX5_length sX5_length lX10_101 rfl dX10_text_49 (hW.os gb14).choose_spec hX0 (Nat.le_trans (by decide) hd) rfl (Nat.le_of_ble_eq_true rfl) (fun r cs1 hp => ?_)
      obtain ⟨hcs, r16, rfl, gr16, n15_0⟩ := hp
      obtain rfl := hcs.symm
      refine z_st (st' := [.int (Int32.ofInt r16), .int (Int32.ofInt 0), .ref (G.1 + b13), .int (Int32.ofInt l2), .int (Int32.ofInt l1), .ref (G.1 + b12)]) rfl ?_
      have hX0 := kX1_putText 1 (Nat.le_refl _) hW gb12 gl1 gl2 gb13 (show rng 0 from ⟨by decide, by decide⟩) gr16 
      refine z_callV (As := [_, _, _, _, _]) eX1_putText sX1_putText lX10_108 rfl dX10_text_52 (hW.ob gb12 (by decide)).choose_spec hX0 (Nat.le_trans (by decide) hd) rfl (Nat.le_of_ble_eq_true rfl) (fun r cs hp => ?_)
      obtain ⟨τ, rfl, hW, k19⟩ := hp
      have hX := hX.tr k19 (by decide)
      have ga0 := k19.1.e ga0 (by decide)
      clear hX0
      refine z_st (st' := []) rfl ?_
      refine z_aload_n dX10_text_55 rfl rfl ?_
      refine tw_getO hW ga0 (by decide) (by decide) rfl kX10 fX10_12 dX10_text_56 (fun b20 pb20 gb20 => ?_)
      have gb20 : oT τ b20 5 := ⟨_, gb20⟩
      have hX0 := kX5_clear 0 (Nat.le_refl _) hW gb20 
      refine z_callV (As := []) eX5_clear sX5_clear lX10_72 rfl dX10_text_59 (hW.os gb20).choose_spec hX0 (Nat.le_trans (by decide) hd) rfl (Nat.le_of_ble_eq_true rfl) (fun r cs hp => ?_)
      obtain ⟨τ, rfl, hW, k23⟩ := hp
      have hX := hX.tr k23 (by decide)
      have ga0 := k23.1.e ga0 (by decide)
      clear hX0
      refine z_st (st' := []) rfl ?_
      refine z_iconst (v := Int32.ofInt 1) dX10_text_62 rfl ?_
      exact z_ireturn dX10_text_63 rfl (nar01 (b01 ⟨by decide, by decide⟩)) (hP _ _ _ hW hX (show rng 1 from ⟨by decide, by decide⟩) (by omega))
    · refine z_iconst (v := Int32.ofInt 0) dX10_text_32 rfl ?_
      exact z_ireturn dX10_text_33 rfl (nar01 (b01 ⟨by decide, by decide⟩)) (hP _ _ _ hW hX (show rng 0 from ⟨by decide, by decide⟩) (by omega))

set_option maxRecDepth 100000 in
set_option maxHeartbeats 4000000 in
theorem kX10_unit {G : xG} {B : Nat × Nat} {τ : Tau} {cs : List va_E} {a0 pa0 : Nat} {l1 : Int} (d : Nat) (hd : 2 ≤ d) (hW : WT G B τ cs) (ga0 : τ a0 = some (.inl (10, pa0))) (gl1 : rng l1)  : X G yX10_unit cX10_unit 2 (some .boolean) d [.ref (G.1 + a0), .int (Int32.ofInt l1)] cs (wI G B τ cs [5] (fun r => (iv 0 1 r))) := by
  refine X.of false (by decide +kernel) (by decide) (Nat.le_of_ble_eq_true rfl) ?_
  show Z (RX10, cX10_unit, 2, some .boolean, false) G d _ 0 [(0, .ref (G.1 + a0)), (1, .int (Int32.ofInt l1))] [] cs
  have hP : ∀ (τ1 : Tau) (c1 : List va_E) (r : Int), WT G B τ1 c1 → Fx [5] τ cs τ1 c1 → rng r → ((iv 0 1 r)) → wI G B τ cs [5] (fun r => (iv 0 1 r)) (some (.int (Int32.ofInt r))) c1 := fun τ1 c1 r h1 h2 h3 h4 => ⟨τ1, r, rfl, h3, h1, h2, h4⟩
  have hX : Fx [5] τ cs τ cs := Fx.rf
  skip
  refine z_iload_n dX10_unit_0 rfl rfl ?_
  have hX0 := kX10_isSign 0 (Nat.le_refl _) hW gl1 
  refine z_callS (As := [_]) eX10_isSign sX10_isSign lX10_56 dX10_unit_1 hX0 (Nat.le_trans (by decide) hd) rfl (Nat.le_of_ble_eq_true rfl) (fun r cs1 hp => ?_)
  obtain ⟨hcs, r2, rfl, gr2, n1_0⟩ := hp
  obtain rfl := hcs.symm
  refine z_st (st' := [.int (Int32.ofInt r2)]) rfl ?_
  refine i_if_eq (tgt := 22) dX10_unit_4 (by decide) gr2 (fun h3 => ?_) (fun h3 => ?_)
  · refine z_iconst (v := Int32.ofInt 0) dX10_unit_22 rfl ?_
    exact z_ireturn dX10_unit_23 rfl (nar01 (b01 ⟨by decide, by decide⟩)) (hP _ _ _ hW hX (show rng 0 from ⟨by decide, by decide⟩) (by omega))
  · refine z_aload_n dX10_unit_7 rfl rfl ?_
    refine tw_getO hW ga0 (by decide) (by decide) rfl kX10 fX10_12 dX10_unit_8 (fun b4 pb4 gb4 => ?_)
    have gb4 : oT τ b4 5 := ⟨_, gb4⟩
    refine z_iload_n dX10_unit_11 rfl rfl ?_
    have hX0 := kX5_put 1 (Nat.le_refl _) hW gb4 gl1 
    refine z_callV (As := [_]) eX5_put sX5_put lX10_60 rfl dX10_unit_12 (hW.os gb4).choose_spec hX0 (Nat.le_trans (by decide) hd) rfl (Nat.le_of_ble_eq_true rfl) (fun r cs hp => ?_)
    obtain ⟨τ, r6, rfl, gr6, hW, k7, n5_0⟩ := hp
    have hX := hX.tr k7 (by decide)
    have ga0 := k7.1.e ga0 (by decide)
    clear hX0
    refine z_st (st' := [.int (Int32.ofInt r6)]) rfl ?_
    refine i_if_eq (tgt := 22) dX10_unit_15 (by decide) gr6 (fun h8 => ?_) (fun h8 => ?_)
    · refine z_iconst (v := Int32.ofInt 0) dX10_unit_22 rfl ?_
      exact z_ireturn dX10_unit_23 rfl (nar01 (b01 ⟨by decide, by decide⟩)) (hP _ _ _ hW hX (show rng 0 from ⟨by decide, by decide⟩) (by omega))
    · refine z_iconst (v := Int32.ofInt 1) dX10_unit_18 rfl ?_
      refine z_goto (tgt := 23) dX10_unit_19 (by decide) ?_
      exact z_ireturn dX10_unit_23 rfl (nar01 (b01 ⟨by decide, by decide⟩)) (hP _ _ _ hW hX (show rng 1 from ⟨by decide, by decide⟩) (by omega))

set_option maxRecDepth 100000 in
set_option maxHeartbeats 4000000 in
theorem bX10_value_46 {G : xG} {d : Nat} {Post : xP} {B : Nat × Nat} {τ : Tau} {cs : List va_E} {a0 pa0 : Nat} {l1 : Int} {l2 : Int} {l3 : Int} {l4 : Int} {s0 : Int} (hd : 3 ≤ d) (hW : WT G B τ cs) (ga0 : τ a0 = some (.inl (10, pa0))) (gl1 : rng l1) (gl2 : rng l2) (gl3 : rng l3) (gl4 : rng l4) (gs0 : rng s0) (bs0 : iv 0 1 s0)   (hP : ∀ r : Int, rng r → (True) → Post (some (.int (Int32.ofInt r))) cs)  : Z (RX10, cX10_value, 7, some .int, false) G d Post 46 [(0, .ref (G.1 + a0)), (1, .int (Int32.ofInt l1)), (2, .int (Int32.ofInt l2)), (3, .int (Int32.ofInt l3)), (4, .int (Int32.ofInt l4))] [.int (Int32.ofInt s0)] cs := by
  refine z_istore dX10_value_46 (by decide) ?_
  refine z_loc (L' := [(0, .ref (G.1 + a0)), (1, .int (Int32.ofInt l1)), (2, .int (Int32.ofInt l2)), (3, .int (Int32.ofInt l3)), (4, .int (Int32.ofInt l4)), (6, .int (Int32.ofInt s0))]) (List.forall_mem_cons.mpr ⟨rfl, (List.forall_mem_cons.mpr ⟨rfl, (List.forall_mem_cons.mpr ⟨rfl, (List.forall_mem_cons.mpr ⟨rfl, (List.forall_mem_cons.mpr ⟨rfl, (List.forall_mem_cons.mpr ⟨rfl, (fun _ h => nomatch h)⟩)⟩)⟩)⟩)⟩)⟩) ?_
  refine z_iload dX10_value_48 rfl ?_
  refine i_if_eq (tgt := 66) dX10_value_50 (by decide) gs0 (fun h1 => ?_) (fun h1 => ?_)
  · refine z_aload_n dX10_value_66 rfl rfl ?_
    refine z_iload_n dX10_value_67 rfl rfl ?_
    have hX0 := kX10_heapAt 0 (Nat.le_refl _) hW ga0 gl1 
    refine z_callV (As := [_]) eX10_heapAt sX10_heapAt lX10_171 rfl dX10_value_68 (hW.ob ga0 (by decide)).choose_spec hX0 (Nat.le_trans (by decide) hd) rfl (Nat.le_of_ble_eq_true rfl) (fun r cs1 hp => ?_)
    obtain ⟨hcs, r3, rfl, pr3, gr3⟩ := hp
    obtain rfl := hcs.symm
    refine z_st (st' := [.ref (G.1 + r3)]) rfl ?_
    refine z_iload_n dX10_value_71 rfl rfl ?_
    refine z_iload_n dX10_value_72 rfl rfl ?_
    refine z_iload dX10_value_73 rfl ?_
    have hX0 := kX1_cell 1 (Nat.le_refl _) hW gr3 gl2 gl3 gl4 
    refine z_callV (As := [_, _, _]) eX1_cell sX1_cell lX10_181 rfl dX10_value_75 (hW.ob gr3 (by decide)).choose_spec hX0 (Nat.le_trans (by decide) hd) rfl (Nat.le_of_ble_eq_true rfl) (fun r cs1 hp => ?_)
    obtain ⟨hcs, r5, rfl, gr5, _⟩ := hp
    obtain rfl := hcs.symm
    refine z_st (st' := [.int (Int32.ofInt r5)]) rfl ?_
    exact z_ireturn dX10_value_78 rfl rfl (hP _ gr5 trivial)
  · refine z_aload_n dX10_value_53 rfl rfl ?_
    refine z_iload_n dX10_value_54 rfl rfl ?_
    have hX0 := kX10_heapAt 0 (Nat.le_refl _) hW ga0 gl1 
    refine z_callV (As := [_]) eX10_heapAt sX10_heapAt lX10_171 rfl dX10_value_55 (hW.ob ga0 (by decide)).choose_spec hX0 (Nat.le_trans (by decide) hd) rfl (Nat.le_of_ble_eq_true rfl) (fun r cs1 hp => ?_)
    obtain ⟨hcs, r7, rfl, pr7, gr7⟩ := hp
    obtain rfl := hcs.symm
    refine z_st (st' := [.ref (G.1 + r7)]) rfl ?_
    refine z_iload_n dX10_value_58 rfl rfl ?_
    refine z_iload_n dX10_value_59 rfl rfl ?_
    have hX0 := kX1_head 1 (Nat.le_refl _) hW gr7 gl2 gl3 
    refine z_callV (As := [_, _]) eX1_head sX1_head lX10_178 rfl dX10_value_60 (hW.ob gr7 (by decide)).choose_spec hX0 (Nat.le_trans (by decide) hd) rfl (Nat.le_of_ble_eq_true rfl) (fun r cs1 hp => ?_)
    obtain ⟨hcs, r9, rfl, gr9, _⟩ := hp
    obtain rfl := hcs.symm
    refine z_st (st' := [.int (Int32.ofInt r9)]) rfl ?_
    refine z_goto (tgt := 78) dX10_value_63 (by decide) ?_
    exact z_ireturn dX10_value_78 rfl rfl (hP _ gr9 trivial)
set_option maxRecDepth 100000 in
set_option maxHeartbeats 4000000 in
theorem bX10_value_41 {G : xG} {d : Nat} {Post : xP} {B : Nat × Nat} {τ : Tau} {cs : List va_E} {a0 pa0 : Nat} {l1 : Int} {l2 : Int} {l3 : Int} {l4 : Int} (hd : 3 ≤ d) (hW : WT G B τ cs) (ga0 : τ a0 = some (.inl (10, pa0))) (gl1 : rng l1) (gl2 : rng l2) (gl3 : rng l3) (gl4 : rng l4)   (hP : ∀ r : Int, rng r → (True) → Post (some (.int (Int32.ofInt r))) cs)  : Z (RX10, cX10_value, 7, some .int, false) G d Post 41 [(0, .ref (G.1 + a0)), (1, .int (Int32.ofInt l1)), (2, .int (Int32.ofInt l2)), (3, .int (Int32.ofInt l3)), (4, .int (Int32.ofInt l4))] [] cs := by
  refine z_iconst (v := Int32.ofInt 1) dX10_value_41 rfl ?_
  refine z_goto (tgt := 46) dX10_value_42 (by decide) ?_
  refine z_loc (L' := [(0, .ref (G.1 + a0)), (1, .int (Int32.ofInt l1)), (2, .int (Int32.ofInt l2)), (3, .int (Int32.ofInt l3)), (4, .int (Int32.ofInt l4))]) (List.forall_mem_cons.mpr ⟨rfl, (List.forall_mem_cons.mpr ⟨rfl, (List.forall_mem_cons.mpr ⟨rfl, (List.forall_mem_cons.mpr ⟨rfl, (List.forall_mem_cons.mpr ⟨rfl, (fun _ h => nomatch h)⟩)⟩)⟩)⟩)⟩) ?_
  exact bX10_value_46 hd hW ga0 gl1 gl2 gl3 gl4 (show rng 1 from ⟨by decide, by decide⟩) ⟨by decide, by decide⟩   hP 
set_option maxRecDepth 100000 in
set_option maxHeartbeats 4000000 in
theorem kX10_value {G : xG} {B : Nat × Nat} {τ : Tau} {cs : List va_E} {a0 pa0 : Nat} {l1 : Int} {l2 : Int} {l3 : Int} {l4 : Int} (d : Nat) (hd : 3 ≤ d) (hW : WT G B τ cs) (ga0 : τ a0 = some (.inl (10, pa0))) (gl1 : rng l1) (gl2 : rng l2) (gl3 : rng l3) (gl4 : rng l4)  : X G yX10_value cX10_value 7 (some .int) d [.ref (G.1 + a0), .int (Int32.ofInt l1), .int (Int32.ofInt l2), .int (Int32.ofInt l3), .int (Int32.ofInt l4)] cs (rI cs (fun r => True)) := by
  refine X.of false (by decide +kernel) (by decide) (Nat.le_of_ble_eq_true rfl) ?_
  show Z (RX10, cX10_value, 7, some .int, false) G d _ 0 [(0, .ref (G.1 + a0)), (1, .int (Int32.ofInt l1)), (2, .int (Int32.ofInt l2)), (3, .int (Int32.ofInt l3)), (4, .int (Int32.ofInt l4))] [] cs
  have hP : ∀ r : Int, rng r → (True) → rI cs (fun r => True) (some (.int (Int32.ofInt r))) cs := fun r h1 h2 => ⟨rfl, r, rfl, h1, h2⟩
  refine z_iload_n dX10_value_0 rfl rfl ?_
  have hX0 := kX10_isHeap 0 (Nat.le_refl _) hW gl1 
  refine z_callS (As := [_]) eX10_isHeap sX10_isHeap lX10_168 dX10_value_1 hX0 (Nat.le_trans (by decide) hd) rfl (Nat.le_of_ble_eq_true rfl) (fun r cs1 hp => ?_)
  obtain ⟨hcs, r2, rfl, gr2, n1_0⟩ := hp
  obtain rfl := hcs.symm
  refine z_st (st' := [.int (Int32.ofInt r2)]) rfl ?_
  refine i_if_ne (tgt := 9) dX10_value_4 (by decide) gr2 (fun h3 => ?_) (fun h3 => ?_)
  · refine z_aload_n dX10_value_9 rfl rfl ?_
    refine z_aload_n dX10_value_10 rfl rfl ?_
    refine z_iload_n dX10_value_11 rfl rfl ?_
    have hX0 := kX10_heapAt 0 (Nat.le_refl _) hW ga0 gl1 
    refine z_callV (As := [_]) eX10_heapAt sX10_heapAt lX10_171 rfl dX10_value_12 (hW.ob ga0 (by decide)).choose_spec hX0 (Nat.le_trans (by decide) hd) rfl (Nat.le_of_ble_eq_true rfl) (fun r cs1 hp => ?_)
    obtain ⟨hcs, r5, rfl, pr5, gr5⟩ := hp
    obtain rfl := hcs.symm
    refine z_st (st' := [.ref (G.1 + r5), .ref (G.1 + a0)]) rfl ?_
    refine z_iload_n dX10_value_15 rfl rfl ?_
    refine z_iload_n dX10_value_16 rfl rfl ?_
    have hX0 := kX10_shapeIn 2 (Nat.le_refl _) hW ga0 gr5 gl2 gl3 
    refine z_callV (As := [_, _, _]) eX10_shapeIn sX10_shapeIn lX10_90 rfl dX10_value_17 (hW.ob ga0 (by decide)).choose_spec hX0 (Nat.le_trans (by decide) hd) rfl (Nat.le_of_ble_eq_true rfl) (fun r cs1 hp => ?_)
    obtain ⟨hcs, r7, rfl, gr7, _⟩ := hp
    obtain rfl := hcs.symm
    refine z_st (st' := [.int (Int32.ofInt r7)]) rfl ?_
    refine z_istore dX10_value_20 (by decide) ?_
    refine z_loc (L' := [(0, .ref (G.1 + a0)), (1, .int (Int32.ofInt l1)), (2, .int (Int32.ofInt l2)), (3, .int (Int32.ofInt l3)), (4, .int (Int32.ofInt l4)), (5, .int (Int32.ofInt r7))]) (List.forall_mem_cons.mpr ⟨rfl, (List.forall_mem_cons.mpr ⟨rfl, (List.forall_mem_cons.mpr ⟨rfl, (List.forall_mem_cons.mpr ⟨rfl, (List.forall_mem_cons.mpr ⟨rfl, (List.forall_mem_cons.mpr ⟨rfl, (fun _ h => nomatch h)⟩)⟩)⟩)⟩)⟩)⟩) ?_
    refine z_iload dX10_value_22 rfl ?_
    refine i_if_ne (tgt := 29) dX10_value_24 (by decide) gr7 (fun h8 => ?_) (fun h8 => ?_)
    · refine z_iload dX10_value_29 rfl ?_
      refine z_iconst (v := Int32.ofInt 1) dX10_value_31 rfl ?_
      refine i_icmp_eq (tgt := 41) dX10_value_32 (by decide) gr7 (show rng 1 from ⟨by decide, by decide⟩) (fun h9 => ?_) (fun h9 => ?_)
      · refine z_loc (L' := [(0, .ref (G.1 + a0)), (1, .int (Int32.ofInt l1)), (2, .int (Int32.ofInt l2)), (3, .int (Int32.ofInt l3)), (4, .int (Int32.ofInt l4))]) (List.forall_mem_cons.mpr ⟨rfl, (List.forall_mem_cons.mpr ⟨rfl, (List.forall_mem_cons.mpr ⟨rfl, (List.forall_mem_cons.mpr ⟨rfl, (List.forall_mem_cons.mpr ⟨rfl, (fun _ h => nomatch h)⟩)⟩)⟩)⟩)⟩) ?_
        exact bX10_value_41 hd hW ga0 gl1 gl2 gl3 gl4   hP 
      · refine z_iload dX10_value_35 rfl ?_
        refine z_iconst (v := Int32.ofInt 3) dX10_value_37 rfl ?_
        refine i_icmp_ne (tgt := 45) dX10_value_38 (by decide) gr7 (show rng 3 from ⟨by decide, by decide⟩) (fun h10 => ?_) (fun h10 => ?_)
        · refine z_iconst (v := Int32.ofInt 0) dX10_value_45 rfl ?_
          refine z_loc (L' := [(0, .ref (G.1 + a0)), (1, .int (Int32.ofInt l1)), (2, .int (Int32.ofInt l2)), (3, .int (Int32.ofInt l3)), (4, .int (Int32.ofInt l4))]) (List.forall_mem_cons.mpr ⟨rfl, (List.forall_mem_cons.mpr ⟨rfl, (List.forall_mem_cons.mpr ⟨rfl, (List.forall_mem_cons.mpr ⟨rfl, (List.forall_mem_cons.mpr ⟨rfl, (fun _ h => nomatch h)⟩)⟩)⟩)⟩)⟩) ?_
          exact bX10_value_46 hd hW ga0 gl1 gl2 gl3 gl4 (show rng 0 from ⟨by decide, by decide⟩) ⟨by decide, by decide⟩   hP 
        · refine z_loc (L' := [(0, .ref (G.1 + a0)), (1, .int (Int32.ofInt l1)), (2, .int (Int32.ofInt l2)), (3, .int (Int32.ofInt l3)), (4, .int (Int32.ofInt l4))]) (List.forall_mem_cons.mpr ⟨rfl, (List.forall_mem_cons.mpr ⟨rfl, (List.forall_mem_cons.mpr ⟨rfl, (List.forall_mem_cons.mpr ⟨rfl, (List.forall_mem_cons.mpr ⟨rfl, (fun _ h => nomatch h)⟩)⟩)⟩)⟩)⟩) ?_
          exact bX10_value_41 hd hW ga0 gl1 gl2 gl3 gl4   hP 
    · refine z_iconst (v := Int32.ofInt 0) dX10_value_27 rfl ?_
      exact z_ireturn dX10_value_28 rfl rfl (hP _ (show rng 0 from ⟨by decide, by decide⟩) trivial)
  · refine z_iconst (v := Int32.ofInt 0) dX10_value_7 rfl ?_
    exact z_ireturn dX10_value_8 rfl rfl (hP _ (show rng 0 from ⟨by decide, by decide⟩) trivial)
