set_option maxRecDepth 100000 in
set_option maxHeartbeats 4000000 in
theorem eX8_path_15 {G : xG} {d : Nat} {Post : xP} {B : Nat × Nat} {τ0 τ : Tau} {c0 cs : List va_E} {a0 pa0 : Nat} {l3 : Int} {n15 : Nat} (hd : 4 ≤ d) (hW : WT G B τ cs) (hX : Fx [5, 8] τ0 c0 τ cs) (ga0 : τ a0 = some (.inl (8, pa0))) (gl3 : rng l3) (i0 : l3 ≤ 61)  (hP : ∀ (τ1 : Tau) (c1 : List va_E), WT G B τ1 c1 → Fx [5, 8] τ0 c0 τ1 c1 → Post none c1)  (ih_15 : ∀ {τ : Tau} {cs : List va_E} {a0 pa0 : Nat} {l3 : Int} (hW : WT G B τ cs) (hX : Fx [5, 8] τ0 c0 τ cs) (ga0 : τ a0 = some (.inl (8, pa0))) (gl3 : rng l3) (i0 : l3 ≤ 61) , (l3 + 1).toNat < n15 → Z (RX8, cX8_path, 4, none, false) G d Post 15 [(0, .ref (G.1 + a0)), (3, .int (Int32.ofInt l3))] [] cs) (hm_15 : (l3 + 1).toNat < n15 + 1) : Z (RX8, cX8_path, 4, none, false) G d Post 15 [(0, .ref (G.1 + a0)), (3, .int (Int32.ofInt l3))] [] cs := by
  refine z_iload_n dX8_path_15 rfl rfl ?_
  refine i_if_lt (tgt := 45) dX8_path_16 (by decide) gl3 (fun h1 => ?_) (fun h1 => ?_)
  · exact z_return dX8_path_45 rfl (hP _ _ hW hX)
  · refine z_aload_n dX8_path_19 rfl rfl ?_
    refine tw_getO hW ga0 (by decide) (by decide) rfl kX8 fX8_46 dX8_path_20 (fun b2 pb2 gb2 => ?_)
    have gb2 : oT τ b2 5 := ⟨_, gb2⟩
    refine z_bipush (v := Int32.ofInt 47) dX8_path_23 (by decide) ?_
    have hX0 := kX5_put 1 (Nat.le_refl _) hW gb2 (show rng 47 from ⟨by decide, by decide⟩) 
    refine z_callV (As := [_]) eX5_put sX5_put lX8_89 rfl dX8_path_25 (hW.os gb2).choose_spec hX0 (Nat.le_trans (by decide) hd) rfl (Nat.le_of_ble_eq_true rfl) (fun r cs hp => ?_)
    obtain ⟨τ, r4, rfl, gr4, hW, k5, n3_0⟩ := hp
    have hX := hX.tr k5 (by decide)
    have ga0 := k5.1.e ga0 (by decide)
    clear hX0
    refine z_st (st' := [.int (Int32.ofInt r4)]) rfl ?_
    refine z_pop dX8_path_28 rfl ?_
    refine z_aload_n dX8_path_29 rfl rfl ?_
    refine z_aload_n dX8_path_30 rfl rfl ?_
    refine tw_getA hW ga0 (by decide) (by decide) rfl kX8 fX8_27 dX8_path_31 (fun b6 _ gb6 => ?_)
    refine z_iload_n dX8_path_34 rfl rfl ?_
    refine tw_iald hW gb6 (by omega) (by omega) dX8_path_35 (fun x7 _ vx7 gx7 => ?_)
    have hX0 := kX8_step 3 (Nat.le_refl _) hW ga0 gx7 
    refine z_callV (As := [_]) eX8_step sX8_step lX8_195 rfl dX8_path_36 (hW.ob ga0 (by decide)).choose_spec hX0 (Nat.le_trans (by decide) hd) rfl (Nat.le_of_ble_eq_true rfl) (fun r cs hp => ?_)
    obtain ⟨τ, rfl, hW, k10⟩ := hp
    have hX := hX.tr k10 (by decide)
    have ga0 := k10.1.e ga0 (by decide)
    clear hX0
    refine z_st (st' := []) rfl ?_
    refine tw_iinc (l := l3) dX8_path_39 rfl (by decide) (fun z11 gz11 ez11 => ?_)
    first | have ez11 := ez11 ⟨by omega, by omega⟩ | clear ez11
    refine z_loc (L' := [(0, .ref (G.1 + a0)), (3, .int (Int32.ofInt z11))]) (List.forall_mem_cons.mpr ⟨rfl, (List.forall_mem_cons.mpr ⟨rfl, (fun _ h => nomatch h)⟩)⟩) ?_
    refine z_goto (tgt := 15) dX8_path_42 (by decide) ?_
    refine z_loc (L' := [(0, .ref (G.1 + a0)), (3, .int (Int32.ofInt z11))]) (List.forall_mem_cons.mpr ⟨rfl, (List.forall_mem_cons.mpr ⟨rfl, (fun _ h => nomatch h)⟩)⟩) ?_
    exact ih_15 hW hX ga0 gz11 (by omega)  (by omega)
set_option maxRecDepth 100000 in
set_option maxHeartbeats 4000000 in
theorem bX8_path_15 {G : xG} {d : Nat} {Post : xP} {B : Nat × Nat} {τ0 τ : Tau} {c0 cs : List va_E} {a0 pa0 : Nat} {l3 : Int} (hd : 4 ≤ d) (hW : WT G B τ cs) (hX : Fx [5, 8] τ0 c0 τ cs) (ga0 : τ a0 = some (.inl (8, pa0))) (gl3 : rng l3) (i0 : l3 ≤ 61)  (hP : ∀ (τ1 : Tau) (c1 : List va_E), WT G B τ1 c1 → Fx [5, 8] τ0 c0 τ1 c1 → Post none c1)  : Z (RX8, cX8_path, 4, none, false) G d Post 15 [(0, .ref (G.1 + a0)), (3, .int (Int32.ofInt l3))] [] cs := by
  have key : ∀ (n : Nat) (τ : Tau) (cs : List va_E) (a0 pa0 : Nat) (l3 : Int) (hW : WT G B τ cs) (hX : Fx [5, 8] τ0 c0 τ cs) (ga0 : τ a0 = some (.inl (8, pa0))) (gl3 : rng l3) (i0 : l3 ≤ 61) , (l3 + 1).toNat < n → Z (RX8, cX8_path, 4, none, false) G d Post 15 [(0, .ref (G.1 + a0)), (3, .int (Int32.ofInt l3))] [] cs := by
    intro n
    induction n with
    | zero => intro τ cs a0 pa0 l3 hW hX ga0 gl3 i0 hm; exact absurd hm (Nat.not_lt_zero _)
    | succ n ih =>
      intro τ cs a0 pa0 l3 hW hX ga0 gl3 i0 hm
      exact eX8_path_15 hd hW hX ga0 gl3 i0 hP  (fun hW hX ga0 gl3 i0 hm => ih _ _ _ _ _ hW hX ga0 gl3 i0 hm) hm
  exact key _ _ _ _ _ _ hW hX ga0 gl3 i0 (Nat.lt_succ_self _)
set_option maxRecDepth 100000 in
set_option maxHeartbeats 4000000 in
theorem kX8_path {G : xG} {B : Nat × Nat} {τ : Tau} {cs : List va_E} {a0 pa0 : Nat} {l1 : Int} (d : Nat) (hd : 4 ≤ d) (hW : WT G B τ cs) (ga0 : τ a0 = some (.inl (8, pa0))) (gl1 : rng l1)  : X G yX8_path cX8_path 4 none d [.ref (G.1 + a0), .int (Int32.ofInt l1)] cs (wN G B τ cs [5, 8]) := by
  refine X.of false (by decide +kernel) (by decide) (Nat.le_of_ble_eq_true rfl) ?_
  show Z (RX8, cX8_path, 4, none, false) G d _ 0 [(0, .ref (G.1 + a0)), (1, .int (Int32.ofInt l1))] [] cs
  have hP : ∀ (τ1 : Tau) (c1 : List va_E), WT G B τ1 c1 → Fx [5, 8] τ cs τ1 c1 → wN G B τ cs [5, 8] none c1 := fun τ1 c1 h1 h2 => ⟨τ1, rfl, h1, h2⟩
  have hX : Fx [5, 8] τ cs τ cs := Fx.rf
  skip
  refine z_aload_n dX8_path_0 rfl rfl ?_
  refine z_aload_n dX8_path_1 rfl rfl ?_
  refine tw_getA hW ga0 (by decide) (by decide) rfl kX8 fX8_27 dX8_path_2 (fun b1 _ gb1 => ?_)
  refine z_iconst (v := Int32.ofInt 0) dX8_path_5 rfl ?_
  refine z_iload_n dX8_path_6 rfl rfl ?_
  have hX0 := kX8_ancestry 3 (Nat.le_refl _) hW ga0 gb1 (show rng 0 from ⟨by decide, by decide⟩) gl1 (by omega)
  refine z_callV (As := [_, _, _]) eX8_ancestry sX8_ancestry lX8_191 rfl dX8_path_7 (hW.ob ga0 (by decide)).choose_spec hX0 (Nat.le_trans (by decide) hd) rfl (Nat.le_of_ble_eq_true rfl) (fun r cs hp => ?_)
  obtain ⟨τ, r3, rfl, gr3, hW, k4, n2_0⟩ := hp
  have hX := hX.tr k4 (by decide)
  have ga0 := k4.1.e ga0 (by decide)
  clear hX0
  refine z_st (st' := [.int (Int32.ofInt r3)]) rfl ?_
  refine z_istore_n dX8_path_10 rfl (by decide) ?_
  refine z_loc (L' := [(0, .ref (G.1 + a0)), (1, .int (Int32.ofInt l1)), (2, .int (Int32.ofInt r3))]) (List.forall_mem_cons.mpr ⟨rfl, (List.forall_mem_cons.mpr ⟨rfl, (List.forall_mem_cons.mpr ⟨rfl, (fun _ h => nomatch h)⟩)⟩)⟩) ?_
  refine z_iload_n dX8_path_11 rfl rfl ?_
  refine z_iconst (v := Int32.ofInt 1) dX8_path_12 rfl ?_
  refine tw_isub dX8_path_13 (fun z5 gz5 ez5 => ?_)
  first | have ez5 := ez5 ⟨by omega, by omega⟩ | clear ez5
  refine z_istore_n dX8_path_14 rfl (by decide) ?_
  refine z_loc (L' := [(0, .ref (G.1 + a0)), (1, .int (Int32.ofInt l1)), (2, .int (Int32.ofInt r3)), (3, .int (Int32.ofInt z5))]) (List.forall_mem_cons.mpr ⟨rfl, (List.forall_mem_cons.mpr ⟨rfl, (List.forall_mem_cons.mpr ⟨rfl, (List.forall_mem_cons.mpr ⟨rfl, (fun _ h => nomatch h)⟩)⟩)⟩)⟩) ?_
  refine z_loc (L' := [(0, .ref (G.1 + a0)), (3, .int (Int32.ofInt z5))]) (List.forall_mem_cons.mpr ⟨rfl, (List.forall_mem_cons.mpr ⟨rfl, (fun _ h => nomatch h)⟩)⟩) ?_
  exact bX8_path_15 hd hW hX ga0 gz5 (by omega)  hP 

set_option maxRecDepth 100000 in
set_option maxHeartbeats 4000000 in
theorem kX8_ancestryOfItself {G : xG} {B : Nat × Nat} {τ : Tau} {cs : List va_E} {a0 pa0 : Nat} {l1 : Int} {l2 : Int} (d : Nat) (hd : 3 ≤ d) (hW : WT G B τ cs) (ga0 : τ a0 = some (.inl (8, pa0))) (gl1 : rng l1) (gl2 : rng l2)  : X G yX8_ancestryOfItself cX8_ancestryOfItself 3 (some .int) d [.ref (G.1 + a0), .int (Int32.ofInt l1), .int (Int32.ofInt l2)] cs (wI G B τ cs [8] (fun r => (iv 1 2 r))) := by
  refine X.of false (by decide +kernel) (by decide) (Nat.le_of_ble_eq_true rfl) ?_
  show Z (RX8, cX8_ancestryOfItself, 3, some .int, false) G d _ 0 [(0, .ref (G.1 + a0)), (1, .int (Int32.ofInt l1)), (2, .int (Int32.ofInt l2))] [] cs
  have hP : ∀ (τ1 : Tau) (c1 : List va_E) (r : Int), WT G B τ1 c1 → Fx [8] τ cs τ1 c1 → rng r → ((iv 1 2 r)) → wI G B τ cs [8] (fun r => (iv 1 2 r)) (some (.int (Int32.ofInt r))) c1 := fun τ1 c1 r h1 h2 h3 h4 => ⟨τ1, r, rfl, h3, h1, h2, h4⟩
  have hX : Fx [8] τ cs τ cs := Fx.rf
  skip
  refine z_aload_n dX8_ancestryOfItself_0 rfl rfl ?_
  refine tw_getA hW ga0 (by decide) (by decide) rfl kX8 fX8_24 dX8_ancestryOfItself_1 (fun b1 _ gb1 => ?_)
  refine z_iconst (v := Int32.ofInt 0) dX8_ancestryOfItself_4 rfl ?_
  refine z_iconst (v := Int32.ofInt (-1)) dX8_ancestryOfItself_5 rfl ?_
  refine tw_iast hW hX gb1 (by omega) (by omega) (any_ok _) (Or.inl rfl) dX8_ancestryOfItself_6 (fun c1 q _ => nA hW gb1 (show (2147483647 : Int) ≠ 600 by decide) (show (2147483647 : Int) ≠ 601 by decide) c1 q) (fun cs hW hX _ _ => ?_)
  refine z_aload_n dX8_ancestryOfItself_7 rfl rfl ?_
  refine tw_getO hW ga0 (by decide) (by decide) rfl kX8 fX8_38 dX8_ancestryOfItself_8 (fun b2 pb2 gb2 => ?_)
  refine z_aload_n dX8_ancestryOfItself_11 rfl rfl ?_
  refine tw_getO hW ga0 (by decide) (by decide) rfl kX8 fX8_42 dX8_ancestryOfItself_12 (fun b3 pb3 gb3 => ?_)
  refine z_iload_n dX8_ancestryOfItself_15 rfl rfl ?_
  have hX0 := kX1_classOf 1 (Nat.le_refl _) hW gb3 gl1 
  refine z_callV (As := [_]) eX1_classOf sX1_classOf lX8_99 rfl dX8_ancestryOfItself_16 (hW.ob gb3 (by decide)).choose_spec hX0 (Nat.le_trans (by decide) hd) rfl (Nat.le_of_ble_eq_true rfl) (fun r cs1 hp => ?_)
  obtain ⟨hcs, r5, rfl, gr5, _⟩ := hp
  obtain rfl := hcs.symm
  refine z_st (st' := [.int (Int32.ofInt r5), .ref (G.1 + b2)]) rfl ?_
  refine z_iload_n dX8_ancestryOfItself_19 rfl rfl ?_
  have hX0 := kX4_isExplicitList 2 (Nat.le_refl _) hW gb2 gr5 gl2 
  refine z_callV (As := [_, _]) eX4_isExplicitList sX4_isExplicitList lX8_205 rfl dX8_ancestryOfItself_20 (hW.ob gb2 (by decide)).choose_spec hX0 (Nat.le_trans (by decide) hd) rfl (Nat.le_of_ble_eq_true rfl) (fun r cs1 hp => ?_)
  obtain ⟨hcs, r7, rfl, gr7, n6_0⟩ := hp
  obtain rfl := hcs.symm
  refine z_st (st' := [.int (Int32.ofInt r7)]) rfl ?_
  refine i_if_ne (tgt := 28) dX8_ancestryOfItself_23 (by decide) gr7 (fun h8 => ?_) (fun h8 => ?_)
  · refine z_aload_n dX8_ancestryOfItself_28 rfl rfl ?_
    refine tw_getA hW ga0 (by decide) (by decide) rfl kX8 fX8_24 dX8_ancestryOfItself_29 (fun b9 _ gb9 => ?_)
    refine z_iconst (v := Int32.ofInt 1) dX8_ancestryOfItself_32 rfl ?_
    refine z_iload_n dX8_ancestryOfItself_33 rfl rfl ?_
    refine z_iload_n dX8_ancestryOfItself_34 rfl rfl ?_
    have hX0 := kX8_listElement 0 (Nat.le_refl _) hW gl1 gl2 
    refine z_callS (As := [_, _]) eX8_listElement sX8_listElement lX8_208 dX8_ancestryOfItself_35 hX0 (Nat.le_trans (by decide) hd) rfl (Nat.le_of_ble_eq_true rfl) (fun r cs1 hp => ?_)
    obtain ⟨hcs, r11, rfl, gr11, _⟩ := hp
    obtain rfl := hcs.symm
    refine z_st (st' := [.int (Int32.ofInt r11), .int (Int32.ofInt 1), .ref (G.1 + b9)]) rfl ?_
    refine tw_iast hW hX gb9 (by omega) (by omega) (any_ok _) (Or.inl rfl) dX8_ancestryOfItself_38 (fun c1 q _ => nA hW gb9 (show (2147483647 : Int) ≠ 600 by decide) (show (2147483647 : Int) ≠ 601 by decide) c1 q) (fun cs hW hX _ _ => ?_)
    refine z_iconst (v := Int32.ofInt 2) dX8_ancestryOfItself_39 rfl ?_
    exact z_ireturn dX8_ancestryOfItself_40 rfl rfl (hP _ _ _ hW hX (show rng 2 from ⟨by decide, by decide⟩) (by omega))
  · refine z_iconst (v := Int32.ofInt 1) dX8_ancestryOfItself_26 rfl ?_
    exact z_ireturn dX8_ancestryOfItself_27 rfl rfl (hP _ _ _ hW hX (show rng 1 from ⟨by decide, by decide⟩) (by omega))

set_option maxRecDepth 100000 in
set_option maxHeartbeats 4000000 in
theorem eX8_way_126 {G : xG} {d : Nat} {Post : xP} {B : Nat × Nat} {τ0 τ : Tau} {c0 cs : List va_E} {a0 pa0 : Nat} {l7 : Int} {n126 : Nat} (hd : 5 ≤ d) (hW : WT G B τ cs) (hX : Fx [5, 8] τ0 c0 τ cs) (ga0 : τ a0 = some (.inl (8, pa0))) (gl7 : rng l7) (i0 : l7 ≤ 61)  (hP : ∀ (τ1 : Tau) (c1 : List va_E), WT G B τ1 c1 → Fx [5, 8] τ0 c0 τ1 c1 → Post none c1)  (ih_126 : ∀ {τ : Tau} {cs : List va_E} {a0 pa0 : Nat} {l7 : Int} (hW : WT G B τ cs) (hX : Fx [5, 8] τ0 c0 τ cs) (ga0 : τ a0 = some (.inl (8, pa0))) (gl7 : rng l7) (i0 : l7 ≤ 61) , (l7 + 1).toNat < n126 → Z (RX8, cX8_way, 8, none, false) G d Post 126 [(0, .ref (G.1 + a0)), (7, .int (Int32.ofInt l7))] [] cs) (hm_126 : (l7 + 1).toNat < n126 + 1) : Z (RX8, cX8_way, 8, none, false) G d Post 126 [(0, .ref (G.1 + a0)), (7, .int (Int32.ofInt l7))] [] cs := by
  refine z_iload dX8_way_126 rfl ?_
  refine i_if_lt (tgt := 158) dX8_way_128 (by decide) gl7 (fun h1 => ?_) (fun h1 => ?_)
  · exact z_return dX8_way_158 rfl (hP _ _ hW hX)
  · refine z_aload_n dX8_way_131 rfl rfl ?_
    refine tw_getO hW ga0 (by decide) (by decide) rfl kX8 fX8_46 dX8_way_132 (fun b2 pb2 gb2 => ?_)
    have gb2 : oT τ b2 5 := ⟨_, gb2⟩
    refine z_bipush (v := Int32.ofInt 47) dX8_way_135 (by decide) ?_
    have hX0 := kX5_put 1 (Nat.le_refl _) hW gb2 (show rng 47 from ⟨by decide, by decide⟩) 
    refine z_callV (As := [_]) eX5_put sX5_put lX8_89 rfl dX8_way_137 (hW.os gb2).choose_spec hX0 (Nat.le_trans (by decide) hd) rfl (Nat.le_of_ble_eq_true rfl) (fun r cs hp => ?_)
    obtain ⟨τ, r4, rfl, gr4, hW, k5, n3_0⟩ := hp
    have hX := hX.tr k5 (by decide)
    have ga0 := k5.1.e ga0 (by decide)
    clear hX0
    refine z_st (st' := [.int (Int32.ofInt r4)]) rfl ?_
    refine z_pop dX8_way_140 rfl ?_
    refine z_aload_n dX8_way_141 rfl rfl ?_
    refine z_aload_n dX8_way_142 rfl rfl ?_
    refine tw_getA hW ga0 (by decide) (by decide) rfl kX8 fX8_27 dX8_way_143 (fun b6 _ gb6 => ?_)
    refine z_iload dX8_way_146 rfl ?_
    refine tw_iald hW gb6 (by omega) (by omega) dX8_way_148 (fun x7 _ vx7 gx7 => ?_)
    have hX0 := kX8_step 3 (Nat.le_refl _) hW ga0 gx7 
    refine z_callV (As := [_]) eX8_step sX8_step lX8_195 rfl dX8_way_149 (hW.ob ga0 (by decide)).choose_spec hX0 (Nat.le_trans (by decide) hd) rfl (Nat.le_of_ble_eq_true rfl) (fun r cs hp => ?_)
    obtain ⟨τ, rfl, hW, k10⟩ := hp
    have hX := hX.tr k10 (by decide)
    have ga0 := k10.1.e ga0 (by decide)
    clear hX0
    refine z_st (st' := []) rfl ?_
    refine tw_iinc (l := l7) dX8_way_152 rfl (by decide) (fun z11 gz11 ez11 => ?_)
    first | have ez11 := ez11 ⟨by omega, by omega⟩ | clear ez11
    refine z_loc (L' := [(0, .ref (G.1 + a0)), (7, .int (Int32.ofInt z11))]) (List.forall_mem_cons.mpr ⟨rfl, (List.forall_mem_cons.mpr ⟨rfl, (fun _ h => nomatch h)⟩)⟩) ?_
    refine z_goto (tgt := 126) dX8_way_155 (by decide) ?_
    refine z_loc (L' := [(0, .ref (G.1 + a0)), (7, .int (Int32.ofInt z11))]) (List.forall_mem_cons.mpr ⟨rfl, (List.forall_mem_cons.mpr ⟨rfl, (fun _ h => nomatch h)⟩)⟩) ?_
    exact ih_126 hW hX ga0 gz11 (by omega)  (by omega)
set_option maxRecDepth 100000 in
set_option maxHeartbeats 4000000 in
theorem bX8_way_126 {G : xG} {d : Nat} {Post : xP} {B : Nat × Nat} {τ0 τ : Tau} {c0 cs : List va_E} {a0 pa0 : Nat} {l7 : Int} (hd : 5 ≤ d) (hW : WT G B τ cs) (hX : Fx [5, 8] τ0 c0 τ cs) (ga0 : τ a0 = some (.inl (8, pa0))) (gl7 : rng l7) (i0 : l7 ≤ 61)  (hP : ∀ (τ1 : Tau) (c1 : List va_E), WT G B τ1 c1 → Fx [5, 8] τ0 c0 τ1 c1 → Post none c1)  : Z (RX8, cX8_way, 8, none, false) G d Post 126 [(0, .ref (G.1 + a0)), (7, .int (Int32.ofInt l7))] [] cs := by
  have key : ∀ (n : Nat) (τ : Tau) (cs : List va_E) (a0 pa0 : Nat) (l7 : Int) (hW : WT G B τ cs) (hX : Fx [5, 8] τ0 c0 τ cs) (ga0 : τ a0 = some (.inl (8, pa0))) (gl7 : rng l7) (i0 : l7 ≤ 61) , (l7 + 1).toNat < n → Z (RX8, cX8_way, 8, none, false) G d Post 126 [(0, .ref (G.1 + a0)), (7, .int (Int32.ofInt l7))] [] cs := by
    intro n
    induction n with
    | zero => intro τ cs a0 pa0 l7 hW hX ga0 gl7 i0 hm; exact absurd hm (Nat.not_lt_zero _)
    | succ n ih =>
      intro τ cs a0 pa0 l7 hW hX ga0 gl7 i0 hm
      exact eX8_way_126 hd hW hX ga0 gl7 i0 hP  (fun hW hX ga0 gl7 i0 hm => ih _ _ _ _ _ hW hX ga0 gl7 i0 hm) hm
  exact key _ _ _ _ _ _ hW hX ga0 gl7 i0 (Nat.lt_succ_self _)
set_option maxRecDepth 100000 in
set_option maxHeartbeats 4000000 in
theorem bX8_way_108 {G : xG} {d : Nat} {Post : xP} {B : Nat × Nat} {τ0 τ : Tau} {c0 cs : List va_E} {a0 pa0 : Nat} {l4 : Int} {l5 : Int} {l6 : Int} {l7 : Int} {s0 : Nat} {s1 : Nat} {n82 : Nat} (hd : 5 ≤ d) (hW : WT G B τ cs) (hX : Fx [5, 8] τ0 c0 τ cs) (ga0 : τ a0 = some (.inl (8, pa0))) (gl4 : rng l4) (gl5 : rng l5) (gl6 : rng l6) (gl7 : rng l7) (gs0 : s0 < xN) (gs1 : oT τ s1 5) (i0 : 1 ≤ l4 - l6 - l7) (i1 : iv 0 62 l4) (i2 : iv 0 62 l5) (i3 : 0 ≤ l6) (i4 : l6 ≤ l4) (i5 : 0 ≤ l7) (hm_82 : (l4 - l6 - l7).toNat < n82 + 1) (hP : ∀ (τ1 : Tau) (c1 : List va_E), WT G B τ1 c1 → Fx [5, 8] τ0 c0 τ1 c1 → Post none c1) (ih_82 : ∀ {τ : Tau} {cs : List va_E} {a0 pa0 : Nat} {l4 : Int} {l5 : Int} {l6 : Int} {l7 : Int} (hW : WT G B τ cs) (hX : Fx [5, 8] τ0 c0 τ cs) (ga0 : τ a0 = some (.inl (8, pa0))) (gl4 : rng l4) (gl5 : rng l5) (gl6 : rng l6) (gl7 : rng l7) (i0 : iv 0 62 l4) (i1 : iv 0 62 l5) (i2 : 0 ≤ l6) (i3 : l6 ≤ l4) (i4 : 0 ≤ l7) , (l4 - l6 - l7).toNat < n82 → Z (RX8, cX8_way, 8, none, false) G d Post 82 [(0, .ref (G.1 + a0)), (4, .int (Int32.ofInt l4)), (5, .int (Int32.ofInt l5)), (6, .int (Int32.ofInt l6)), (7, .int (Int32.ofInt l7))] [] cs) : Z (RX8, cX8_way, 8, none, false) G d Post 108 [(0, .ref (G.1 + a0)), (4, .int (Int32.ofInt l4)), (5, .int (Int32.ofInt l5)), (6, .int (Int32.ofInt l6)), (7, .int (Int32.ofInt l7))] [.ref (G.2.2.2.1 s0), .ref (G.1 + s1)] cs := by
  have hX0 := kX5_spell 4 (Nat.le_refl _) hW gs1 gs0 
  refine z_callV (As := [_]) eX5_spell sX5_spell lX8_85 rfl dX8_way_108 (hW.os gs1).choose_spec hX0 (Nat.le_trans (by decide) hd) rfl (Nat.le_of_ble_eq_true rfl) (fun r cs hp => ?_)
  obtain ⟨τ, rfl, hW, k3⟩ := hp
  have hX := hX.tr k3 (by decide)
  have ga0 := k3.1.e ga0 (by decide)
  clear hX0
  refine z_st (st' := []) rfl ?_
  refine tw_iinc (l := l7) dX8_way_111 rfl (by decide) (fun z4 gz4 ez4 => ?_)
  first | have ez4 := ez4 ⟨by omega, by omega⟩ | clear ez4
  refine z_loc (L' := [(0, .ref (G.1 + a0)), (4, .int (Int32.ofInt l4)), (5, .int (Int32.ofInt l5)), (6, .int (Int32.ofInt l6)), (7, .int (Int32.ofInt z4))]) (List.forall_mem_cons.mpr ⟨rfl, (List.forall_mem_cons.mpr ⟨rfl, (List.forall_mem_cons.mpr ⟨rfl, (List.forall_mem_cons.mpr ⟨rfl, (List.forall_mem_cons.mpr ⟨rfl, (fun _ h => nomatch h)⟩)⟩)⟩)⟩)⟩) ?_
  refine z_goto (tgt := 82) dX8_way_114 (by decide) ?_
  refine z_loc (L' := [(0, .ref (G.1 + a0)), (4, .int (Int32.ofInt l4)), (5, .int (Int32.ofInt l5)), (6, .int (Int32.ofInt l6)), (7, .int (Int32.ofInt z4))]) (List.forall_mem_cons.mpr ⟨rfl, (List.forall_mem_cons.mpr ⟨rfl, (List.forall_mem_cons.mpr ⟨rfl, (List.forall_mem_cons.mpr ⟨rfl, (List.forall_mem_cons.mpr ⟨rfl, (fun _ h => nomatch h)⟩)⟩)⟩)⟩)⟩) ?_
  exact ih_82 hW hX ga0 gl4 gl5 gl6 gz4 (by omega) (by omega) (by omega) (by omega) (by omega)  (by omega)
set_option maxRecDepth 100000 in
set_option maxHeartbeats 4000000 in
theorem eX8_way_82 {G : xG} {d : Nat} {Post : xP} {B : Nat × Nat} {τ0 τ : Tau} {c0 cs : List va_E} {a0 pa0 : Nat} {l4 : Int} {l5 : Int} {l6 : Int} {l7 : Int} {n82 : Nat} (hd : 5 ≤ d) (hW : WT G B τ cs) (hX : Fx [5, 8] τ0 c0 τ cs) (ga0 : τ a0 = some (.inl (8, pa0))) (gl4 : rng l4) (gl5 : rng l5) (gl6 : rng l6) (gl7 : rng l7) (i0 : iv 0 62 l4) (i1 : iv 0 62 l5) (i2 : 0 ≤ l6) (i3 : l6 ≤ l4) (i4 : 0 ≤ l7)  (hP : ∀ (τ1 : Tau) (c1 : List va_E), WT G B τ1 c1 → Fx [5, 8] τ0 c0 τ1 c1 → Post none c1)  (ih_82 : ∀ {τ : Tau} {cs : List va_E} {a0 pa0 : Nat} {l4 : Int} {l5 : Int} {l6 : Int} {l7 : Int} (hW : WT G B τ cs) (hX : Fx [5, 8] τ0 c0 τ cs) (ga0 : τ a0 = some (.inl (8, pa0))) (gl4 : rng l4) (gl5 : rng l5) (gl6 : rng l6) (gl7 : rng l7) (i0 : iv 0 62 l4) (i1 : iv 0 62 l5) (i2 : 0 ≤ l6) (i3 : l6 ≤ l4) (i4 : 0 ≤ l7) , (l4 - l6 - l7).toNat < n82 → Z (RX8, cX8_way, 8, none, false) G d Post 82 [(0, .ref (G.1 + a0)), (4, .int (Int32.ofInt l4)), (5, .int (Int32.ofInt l5)), (6, .int (Int32.ofInt l6)), (7, .int (Int32.ofInt l7))] [] cs) (hm_82 : (l4 - l6 - l7).toNat < n82 + 1) : Z (RX8, cX8_way, 8, none, false) G d Post 82 [(0, .ref (G.1 + a0)), (4, .int (Int32.ofInt l4)), (5, .int (Int32.ofInt l5)), (6, .int (Int32.ofInt l6)), (7, .int (Int32.ofInt l7))] [] cs := by
  refine z_iload dX8_way_82 rfl ?_
  refine z_iload dX8_way_84 rfl ?_
  refine z_iload dX8_way_86 rfl ?_
  refine tw_isub dX8_way_88 (fun z1 gz1 ez1 => ?_)
  first | have ez1 := ez1 ⟨by omega, by omega⟩ | clear ez1
  refine i_icmp_ge (tgt := 117) dX8_way_89 (by decide) gl7 gz1 (fun h2 => ?_) (fun h2 => ?_)
  · refine z_iload dX8_way_117 rfl ?_
    refine z_iload dX8_way_119 rfl ?_
    refine tw_isub dX8_way_121 (fun z3 gz3 ez3 => ?_)
    first | have ez3 := ez3 ⟨by omega, by omega⟩ | clear ez3
    refine z_iconst (v := Int32.ofInt 1) dX8_way_122 rfl ?_
    refine tw_isub dX8_way_123 (fun z4 gz4 ez4 => ?_)
    first | have ez4 := ez4 ⟨by omega, by omega⟩ | clear ez4
    refine z_istore dX8_way_124 (by decide) ?_
    refine z_loc (L' := [(0, .ref (G.1 + a0)), (4, .int (Int32.ofInt l4)), (5, .int (Int32.ofInt l5)), (6, .int (Int32.ofInt l6)), (7, .int (Int32.ofInt z4))]) (List.forall_mem_cons.mpr ⟨rfl, (List.forall_mem_cons.mpr ⟨rfl, (List.forall_mem_cons.mpr ⟨rfl, (List.forall_mem_cons.mpr ⟨rfl, (List.forall_mem_cons.mpr ⟨rfl, (fun _ h => nomatch h)⟩)⟩)⟩)⟩)⟩) ?_
    refine z_loc (L' := [(0, .ref (G.1 + a0)), (7, .int (Int32.ofInt z4))]) (List.forall_mem_cons.mpr ⟨rfl, (List.forall_mem_cons.mpr ⟨rfl, (fun _ h => nomatch h)⟩)⟩) ?_
    exact bX8_way_126 hd hW hX ga0 gz4 (by omega)  hP 
  · refine z_aload_n dX8_way_92 rfl rfl ?_
    refine tw_getO hW ga0 (by decide) (by decide) rfl kX8 fX8_46 dX8_way_93 (fun b5 pb5 gb5 => ?_)
    have gb5 : oT τ b5 5 := ⟨_, gb5⟩
    refine z_iload dX8_way_96 rfl ?_
    refine i_if_ne (tgt := 106) dX8_way_98 (by decide) gl7 (fun h6 => ?_) (fun h6 => ?_)
    · refine z_ldcS (i := 4) (tx := "/..") (by decide +kernel) dX8_way_106 ?_
      refine z_loc (L' := [(0, .ref (G.1 + a0)), (4, .int (Int32.ofInt l4)), (5, .int (Int32.ofInt l5)), (6, .int (Int32.ofInt l6)), (7, .int (Int32.ofInt l7))]) (List.forall_mem_cons.mpr ⟨rfl, (List.forall_mem_cons.mpr ⟨rfl, (List.forall_mem_cons.mpr ⟨rfl, (List.forall_mem_cons.mpr ⟨rfl, (List.forall_mem_cons.mpr ⟨rfl, (fun _ h => nomatch h)⟩)⟩)⟩)⟩)⟩) ?_
      exact bX8_way_108 hd hW hX ga0 gl4 gl5 gl6 gl7 (show 4 < xN by decide) gb5 (by omega) (by omega) (by omega) (by omega) (by omega) (by omega) (by omega) hP ih_82
    · refine z_ldcS (i := 3) (tx := "..") (by decide +kernel) dX8_way_101 ?_
      refine z_goto (tgt := 108) dX8_way_103 (by decide) ?_
      refine z_loc (L' := [(0, .ref (G.1 + a0)), (4, .int (Int32.ofInt l4)), (5, .int (Int32.ofInt l5)), (6, .int (Int32.ofInt l6)), (7, .int (Int32.ofInt l7))]) (List.forall_mem_cons.mpr ⟨rfl, (List.forall_mem_cons.mpr ⟨rfl, (List.forall_mem_cons.mpr ⟨rfl, (List.forall_mem_cons.mpr ⟨rfl, (List.forall_mem_cons.mpr ⟨rfl, (fun _ h => nomatch h)⟩)⟩)⟩)⟩)⟩) ?_
      exact bX8_way_108 hd hW hX ga0 gl4 gl5 gl6 gl7 (show 3 < xN by decide) gb5 (by omega) (by omega) (by omega) (by omega) (by omega) (by omega) (by omega) hP ih_82
set_option maxRecDepth 100000 in
set_option maxHeartbeats 4000000 in
theorem bX8_way_82 {G : xG} {d : Nat} {Post : xP} {B : Nat × Nat} {τ0 τ : Tau} {c0 cs : List va_E} {a0 pa0 : Nat} {l4 : Int} {l5 : Int} {l6 : Int} {l7 : Int} (hd : 5 ≤ d) (hW : WT G B τ cs) (hX : Fx [5, 8] τ0 c0 τ cs) (ga0 : τ a0 = some (.inl (8, pa0))) (gl4 : rng l4) (gl5 : rng l5) (gl6 : rng l6) (gl7 : rng l7) (i0 : iv 0 62 l4) (i1 : iv 0 62 l5) (i2 : 0 ≤ l6) (i3 : l6 ≤ l4) (i4 : 0 ≤ l7)  (hP : ∀ (τ1 : Tau) (c1 : List va_E), WT G B τ1 c1 → Fx [5, 8] τ0 c0 τ1 c1 → Post none c1)  : Z (RX8, cX8_way, 8, none, false) G d Post 82 [(0, .ref (G.1 + a0)), (4, .int (Int32.ofInt l4)), (5, .int (Int32.ofInt l5)), (6, .int (Int32.ofInt l6)), (7, .int (Int32.ofInt l7))] [] cs := by
  have key : ∀ (n : Nat) (τ : Tau) (cs : List va_E) (a0 pa0 : Nat) (l4 : Int) (l5 : Int) (l6 : Int) (l7 : Int) (hW : WT G B τ cs) (hX : Fx [5, 8] τ0 c0 τ cs) (ga0 : τ a0 = some (.inl (8, pa0))) (gl4 : rng l4) (gl5 : rng l5) (gl6 : rng l6) (gl7 : rng l7) (i0 : iv 0 62 l4) (i1 : iv 0 62 l5) (i2 : 0 ≤ l6) (i3 : l6 ≤ l4) (i4 : 0 ≤ l7) , (l4 - l6 - l7).toNat < n → Z (RX8, cX8_way, 8, none, false) G d Post 82 [(0, .ref (G.1 + a0)), (4, .int (Int32.ofInt l4)), (5, .int (Int32.ofInt l5)), (6, .int (Int32.ofInt l6)), (7, .int (Int32.ofInt l7))] [] cs := by
    intro n
    induction n with
    | zero => intro τ cs a0 pa0 l4 l5 l6 l7 hW hX ga0 gl4 gl5 gl6 gl7 i0 i1 i2 i3 i4 hm; exact absurd hm (Nat.not_lt_zero _)
    | succ n ih =>
      intro τ cs a0 pa0 l4 l5 l6 l7 hW hX ga0 gl4 gl5 gl6 gl7 i0 i1 i2 i3 i4 hm
      exact eX8_way_82 hd hW hX ga0 gl4 gl5 gl6 gl7 i0 i1 i2 i3 i4 hP  (fun hW hX ga0 gl4 gl5 gl6 gl7 i0 i1 i2 i3 i4 hm => ih _ _ _ _ _ _ _ _ hW hX ga0 gl4 gl5 gl6 gl7 i0 i1 i2 i3 i4 hm) hm
  exact key _ _ _ _ _ _ _ _ _ hW hX ga0 gl4 gl5 gl6 gl7 i0 i1 i2 i3 i4 (Nat.lt_succ_self _)
set_option maxRecDepth 100000 in
set_option maxHeartbeats 4000000 in
theorem bX8_way_79 {G : xG} {d : Nat} {Post : xP} {B : Nat × Nat} {τ0 τ : Tau} {c0 cs : List va_E} {a0 pa0 : Nat} {l4 : Int} {l5 : Int} {l6 : Int} (hd : 5 ≤ d) (hW : WT G B τ cs) (hX : Fx [5, 8] τ0 c0 τ cs) (ga0 : τ a0 = some (.inl (8, pa0))) (gl4 : rng l4) (gl5 : rng l5) (gl6 : rng l6) (i0 : iv 0 62 l4) (i1 : iv 0 62 l5) (i2 : 0 ≤ l6) (i3 : l6 ≤ l4)  (hP : ∀ (τ1 : Tau) (c1 : List va_E), WT G B τ1 c1 → Fx [5, 8] τ0 c0 τ1 c1 → Post none c1)  : Z (RX8, cX8_way, 8, none, false) G d Post 79 [(0, .ref (G.1 + a0)), (4, .int (Int32.ofInt l4)), (5, .int (Int32.ofInt l5)), (6, .int (Int32.ofInt l6))] [] cs := by
  refine z_iconst (v := Int32.ofInt 0) dX8_way_79 rfl ?_
  refine z_istore dX8_way_80 (by decide) ?_
  refine z_loc (L' := [(0, .ref (G.1 + a0)), (4, .int (Int32.ofInt l4)), (5, .int (Int32.ofInt l5)), (6, .int (Int32.ofInt l6)), (7, .int (Int32.ofInt 0))]) (List.forall_mem_cons.mpr ⟨rfl, (List.forall_mem_cons.mpr ⟨rfl, (List.forall_mem_cons.mpr ⟨rfl, (List.forall_mem_cons.mpr ⟨rfl, (List.forall_mem_cons.mpr ⟨rfl, (fun _ h => nomatch h)⟩)⟩)⟩)⟩)⟩) ?_
  refine z_loc (L' := [(0, .ref (G.1 + a0)), (4, .int (Int32.ofInt l4)), (5, .int (Int32.ofInt l5)), (6, .int (Int32.ofInt l6)), (7, .int (Int32.ofInt 0))]) (List.forall_mem_cons.mpr ⟨rfl, (List.forall_mem_cons.mpr ⟨rfl, (List.forall_mem_cons.mpr ⟨rfl, (List.forall_mem_cons.mpr ⟨rfl, (List.forall_mem_cons.mpr ⟨rfl, (fun _ h => nomatch h)⟩)⟩)⟩)⟩)⟩) ?_
  exact bX8_way_82 hd hW hX ga0 gl4 gl5 gl6 (show rng 0 from ⟨by decide, by decide⟩) (by omega) (by omega) (by omega) (by omega) (by omega)  hP 
set_option maxRecDepth 100000 in
set_option maxHeartbeats 4000000 in
theorem eX8_way_32 {G : xG} {d : Nat} {Post : xP} {B : Nat × Nat} {τ0 τ : Tau} {c0 cs : List va_E} {a0 pa0 : Nat} {l4 : Int} {l5 : Int} {l6 : Int} {n32 : Nat} (hd : 5 ≤ d) (hW : WT G B τ cs) (hX : Fx [5, 8] τ0 c0 τ cs) (ga0 : τ a0 = some (.inl (8, pa0))) (gl4 : rng l4) (gl5 : rng l5) (gl6 : rng l6) (i0 : iv 0 62 l4) (i1 : iv 0 62 l5) (i2 : 0 ≤ l6) (i3 : l6 ≤ l4)  (hP : ∀ (τ1 : Tau) (c1 : List va_E), WT G B τ1 c1 → Fx [5, 8] τ0 c0 τ1 c1 → Post none c1)  (ih_32 : ∀ {τ : Tau} {cs : List va_E} {a0 pa0 : Nat} {l4 : Int} {l5 : Int} {l6 : Int} (hW : WT G B τ cs) (hX : Fx [5, 8] τ0 c0 τ cs) (ga0 : τ a0 = some (.inl (8, pa0))) (gl4 : rng l4) (gl5 : rng l5) (gl6 : rng l6) (i0 : iv 0 62 l4) (i1 : iv 0 62 l5) (i2 : 0 ≤ l6) (i3 : l6 ≤ l4) , (l4 - l6).toNat < n32 → Z (RX8, cX8_way, 8, none, false) G d Post 32 [(0, .ref (G.1 + a0)), (4, .int (Int32.ofInt l4)), (5, .int (Int32.ofInt l5)), (6, .int (Int32.ofInt l6))] [] cs) (hm_32 : (l4 - l6).toNat < n32 + 1) : Z (RX8, cX8_way, 8, none, false) G d Post 32 [(0, .ref (G.1 + a0)), (4, .int (Int32.ofInt l4)), (5, .int (Int32.ofInt l5)), (6, .int (Int32.ofInt l6))] [] cs := by
  refine z_iload dX8_way_32 rfl ?_
  refine z_iload dX8_way_34 rfl ?_
  refine i_icmp_ge (tgt := 79) dX8_way_36 (by decide) gl6 gl4 (fun h1 => ?_) (fun h1 => ?_)
  · refine z_loc (L' := [(0, .ref (G.1 + a0)), (4, .int (Int32.ofInt l4)), (5, .int (Int32.ofInt l5)), (6, .int (Int32.ofInt l6))]) (List.forall_mem_cons.mpr ⟨rfl, (List.forall_mem_cons.mpr ⟨rfl, (List.forall_mem_cons.mpr ⟨rfl, (List.forall_mem_cons.mpr ⟨rfl, (fun _ h => nomatch h)⟩)⟩)⟩)⟩) ?_
    exact bX8_way_79 hd hW hX ga0 gl4 gl5 gl6 (by omega) (by omega) (by omega) (by omega)  hP 
  · refine z_iload dX8_way_39 rfl ?_
    refine z_iload dX8_way_41 rfl ?_
    refine i_icmp_ge (tgt := 79) dX8_way_43 (by decide) gl6 gl5 (fun h2 => ?_) (fun h2 => ?_)
    · refine z_loc (L' := [(0, .ref (G.1 + a0)), (4, .int (Int32.ofInt l4)), (5, .int (Int32.ofInt l5)), (6, .int (Int32.ofInt l6))]) (List.forall_mem_cons.mpr ⟨rfl, (List.forall_mem_cons.mpr ⟨rfl, (List.forall_mem_cons.mpr ⟨rfl, (List.forall_mem_cons.mpr ⟨rfl, (fun _ h => nomatch h)⟩)⟩)⟩)⟩) ?_
      exact bX8_way_79 hd hW hX ga0 gl4 gl5 gl6 (by omega) (by omega) (by omega) (by omega)  hP 
    · refine z_aload_n dX8_way_46 rfl rfl ?_
      refine tw_getA hW ga0 (by decide) (by decide) rfl kX8 fX8_24 dX8_way_47 (fun b3 _ gb3 => ?_)
      refine z_iload dX8_way_50 rfl ?_
      refine z_iconst (v := Int32.ofInt 1) dX8_way_52 rfl ?_
      refine tw_isub dX8_way_53 (fun z4 gz4 ez4 => ?_)
      first | have ez4 := ez4 ⟨by omega, by omega⟩ | clear ez4
      refine z_iload dX8_way_54 rfl ?_
      refine tw_isub dX8_way_56 (fun z5 gz5 ez5 => ?_)
      first | have ez5 := ez5 ⟨by omega, by omega⟩ | clear ez5
      refine tw_iald hW gb3 (by omega) (by omega) dX8_way_57 (fun x6 _ vx6 gx6 => ?_)
      refine z_aload_n dX8_way_58 rfl rfl ?_
      refine tw_getA hW ga0 (by decide) (by decide) rfl kX8 fX8_27 dX8_way_59 (fun b7 _ gb7 => ?_)
      refine z_iload dX8_way_62 rfl ?_
      refine z_iconst (v := Int32.ofInt 1) dX8_way_64 rfl ?_
      refine tw_isub dX8_way_65 (fun z8 gz8 ez8 => ?_)
      first | have ez8 := ez8 ⟨by omega, by omega⟩ | clear ez8
      refine z_iload dX8_way_66 rfl ?_
      refine tw_isub dX8_way_68 (fun z9 gz9 ez9 => ?_)
      first | have ez9 := ez9 ⟨by omega, by omega⟩ | clear ez9
      refine tw_iald hW gb7 (by omega) (by omega) dX8_way_69 (fun x10 _ vx10 gx10 => ?_)
      refine i_icmp_ne (tgt := 79) dX8_way_70 (by decide) gx6 gx10 (fun h11 => ?_) (fun h11 => ?_)
      · refine z_loc (L' := [(0, .ref (G.1 + a0)), (4, .int (Int32.ofInt l4)), (5, .int (Int32.ofInt l5)), (6, .int (Int32.ofInt l6))]) (List.forall_mem_cons.mpr ⟨rfl, (List.forall_mem_cons.mpr ⟨rfl, (List.forall_mem_cons.mpr ⟨rfl, (List.forall_mem_cons.mpr ⟨rfl, (fun _ h => nomatch h)⟩)⟩)⟩)⟩) ?_
        exact bX8_way_79 hd hW hX ga0 gl4 gl5 gl6 (by omega) (by omega) (by omega) (by omega)  hP 
      · refine tw_iinc (l := l6) dX8_way_73 rfl (by decide) (fun z12 gz12 ez12 => ?_)
        first | have ez12 := ez12 ⟨by omega, by omega⟩ | clear ez12
        refine z_loc (L' := [(0, .ref (G.1 + a0)), (4, .int (Int32.ofInt l4)), (5, .int (Int32.ofInt l5)), (6, .int (Int32.ofInt z12))]) (List.forall_mem_cons.mpr ⟨rfl, (List.forall_mem_cons.mpr ⟨rfl, (List.forall_mem_cons.mpr ⟨rfl, (List.forall_mem_cons.mpr ⟨rfl, (fun _ h => nomatch h)⟩)⟩)⟩)⟩) ?_
        refine z_goto (tgt := 32) dX8_way_76 (by decide) ?_
        refine z_loc (L' := [(0, .ref (G.1 + a0)), (4, .int (Int32.ofInt l4)), (5, .int (Int32.ofInt l5)), (6, .int (Int32.ofInt z12))]) (List.forall_mem_cons.mpr ⟨rfl, (List.forall_mem_cons.mpr ⟨rfl, (List.forall_mem_cons.mpr ⟨rfl, (List.forall_mem_cons.mpr ⟨rfl, (fun _ h => nomatch h)⟩)⟩)⟩)⟩) ?_
        exact ih_32 hW hX ga0 gl4 gl5 gz12 (by omega) (by omega) (by omega) (by omega)  (by omega)
set_option maxRecDepth 100000 in
set_option maxHeartbeats 4000000 in
theorem bX8_way_32 {G : xG} {d : Nat} {Post : xP} {B : Nat × Nat} {τ0 τ : Tau} {c0 cs : List va_E} {a0 pa0 : Nat} {l4 : Int} {l5 : Int} {l6 : Int} (hd : 5 ≤ d) (hW : WT G B τ cs) (hX : Fx [5, 8] τ0 c0 τ cs) (ga0 : τ a0 = some (.inl (8, pa0))) (gl4 : rng l4) (gl5 : rng l5) (gl6 : rng l6) (i0 : iv 0 62 l4) (i1 : iv 0 62 l5) (i2 : 0 ≤ l6) (i3 : l6 ≤ l4)  (hP : ∀ (τ1 : Tau) (c1 : List va_E), WT G B τ1 c1 → Fx [5, 8] τ0 c0 τ1 c1 → Post none c1)  : Z (RX8, cX8_way, 8, none, false) G d Post 32 [(0, .ref (G.1 + a0)), (4, .int (Int32.ofInt l4)), (5, .int (Int32.ofInt l5)), (6, .int (Int32.ofInt l6))] [] cs := by
  have key : ∀ (n : Nat) (τ : Tau) (cs : List va_E) (a0 pa0 : Nat) (l4 : Int) (l5 : Int) (l6 : Int) (hW : WT G B τ cs) (hX : Fx [5, 8] τ0 c0 τ cs) (ga0 : τ a0 = some (.inl (8, pa0))) (gl4 : rng l4) (gl5 : rng l5) (gl6 : rng l6) (i0 : iv 0 62 l4) (i1 : iv 0 62 l5) (i2 : 0 ≤ l6) (i3 : l6 ≤ l4) , (l4 - l6).toNat < n → Z (RX8, cX8_way, 8, none, false) G d Post 32 [(0, .ref (G.1 + a0)), (4, .int (Int32.ofInt l4)), (5, .int (Int32.ofInt l5)), (6, .int (Int32.ofInt l6))] [] cs := by
    intro n
    induction n with
    | zero => intro τ cs a0 pa0 l4 l5 l6 hW hX ga0 gl4 gl5 gl6 i0 i1 i2 i3 hm; exact absurd hm (Nat.not_lt_zero _)
    | succ n ih =>
      intro τ cs a0 pa0 l4 l5 l6 hW hX ga0 gl4 gl5 gl6 i0 i1 i2 i3 hm
      exact eX8_way_32 hd hW hX ga0 gl4 gl5 gl6 i0 i1 i2 i3 hP  (fun hW hX ga0 gl4 gl5 gl6 i0 i1 i2 i3 hm => ih _ _ _ _ _ _ _ hW hX ga0 gl4 gl5 gl6 i0 i1 i2 i3 hm) hm
  exact key _ _ _ _ _ _ _ _ hW hX ga0 gl4 gl5 gl6 i0 i1 i2 i3 (Nat.lt_succ_self _)
set_option maxRecDepth 100000 in
set_option maxHeartbeats 4000000 in
theorem kX8_way {G : xG} {B : Nat × Nat} {τ : Tau} {cs : List va_E} {a0 pa0 : Nat} {l1 : Int} {l2 : Int} {l3 : Int} (d : Nat) (hd : 5 ≤ d) (hW : WT G B τ cs) (ga0 : τ a0 = some (.inl (8, pa0))) (gl1 : rng l1) (gl2 : rng l2) (gl3 : rng l3)  : X G yX8_way cX8_way 8 none d [.ref (G.1 + a0), .int (Int32.ofInt l1), .int (Int32.ofInt l2), .int (Int32.ofInt l3)] cs (wN G B τ cs [5, 8]) := by
  refine X.of false (by decide +kernel) (by decide) (Nat.le_of_ble_eq_true rfl) ?_
  show Z (RX8, cX8_way, 8, none, false) G d _ 0 [(0, .ref (G.1 + a0)), (1, .int (Int32.ofInt l1)), (2, .int (Int32.ofInt l2)), (3, .int (Int32.ofInt l3))] [] cs
  have hP : ∀ (τ1 : Tau) (c1 : List va_E), WT G B τ1 c1 → Fx [5, 8] τ cs τ1 c1 → wN G B τ cs [5, 8] none c1 := fun τ1 c1 h1 h2 => ⟨τ1, rfl, h1, h2⟩
  have hX : Fx [5, 8] τ cs τ cs := Fx.rf
  skip
  refine z_aload_n dX8_way_0 rfl rfl ?_
  refine z_aload_n dX8_way_1 rfl rfl ?_
  refine tw_getA hW ga0 (by decide) (by decide) rfl kX8 fX8_24 dX8_way_2 (fun b1 _ gb1 => ?_)
  refine z_aload_n dX8_way_5 rfl rfl ?_
  refine z_iload_n dX8_way_6 rfl rfl ?_
  refine z_iload_n dX8_way_7 rfl rfl ?_
  have hX0 := kX8_ancestryOfItself 3 (Nat.le_refl _) hW ga0 gl2 gl3 
  refine z_callV (As := [_, _]) eX8_ancestryOfItself sX8_ancestryOfItself lX8_198 rfl dX8_way_8 (hW.ob ga0 (by decide)).choose_spec hX0 (Nat.le_trans (by decide) hd) rfl (Nat.le_of_ble_eq_true rfl) (fun r cs hp => ?_)
  obtain ⟨τ, r3, rfl, gr3, hW, k4, n2_0⟩ := hp
  have hX := hX.tr k4 (by decide)
  have ga0 := k4.1.e ga0 (by decide)
  have gb1 := k4.1.a gb1
  clear hX0
  refine z_st (st' := [.int (Int32.ofInt r3), .ref (G.1 + b1), .ref (G.1 + a0)]) rfl ?_
  refine z_iload_n dX8_way_11 rfl rfl ?_
  have hX0 := kX8_ancestry 3 (Nat.le_refl _) hW ga0 gb1 gr3 gl2 (by omega)
  refine z_callV (As := [_, _, _]) eX8_ancestry sX8_ancestry lX8_191 rfl dX8_way_12 (hW.ob ga0 (by decide)).choose_spec hX0 (Nat.le_trans (by decide) hd) rfl (Nat.le_of_ble_eq_true rfl) (fun r cs hp => ?_)
  obtain ⟨τ, r6, rfl, gr6, hW, k7, n5_0⟩ := hp
  have hX := hX.tr k7 (by decide)
  have ga0 := k7.1.e ga0 (by decide)
  clear hX0
  refine z_st (st' := [.int (Int32.ofInt r6)]) rfl ?_
  refine z_istore dX8_way_15 (by decide) ?_
  refine z_loc (L' := [(0, .ref (G.1 + a0)), (1, .int (Int32.ofInt l1)), (2, .int (Int32.ofInt l2)), (3, .int (Int32.ofInt l3)), (4, .int (Int32.ofInt r6))]) (List.forall_mem_cons.mpr ⟨rfl, (List.forall_mem_cons.mpr ⟨rfl, (List.forall_mem_cons.mpr ⟨rfl, (List.forall_mem_cons.mpr ⟨rfl, (List.forall_mem_cons.mpr ⟨rfl, (fun _ h => nomatch h)⟩)⟩)⟩)⟩)⟩) ?_
  refine z_aload_n dX8_way_17 rfl rfl ?_
  refine z_aload_n dX8_way_18 rfl rfl ?_
  refine tw_getA hW ga0 (by decide) (by decide) rfl kX8 fX8_27 dX8_way_19 (fun b8 _ gb8 => ?_)
  refine z_iconst (v := Int32.ofInt 0) dX8_way_22 rfl ?_
  refine z_iload_n dX8_way_23 rfl rfl ?_
  have hX0 := kX8_ancestry 3 (Nat.le_refl _) hW ga0 gb8 (show rng 0 from ⟨by decide, by decide⟩) gl1 (by omega)
  refine z_callV (As := [_, _, _]) eX8_ancestry sX8_ancestry lX8_191 rfl dX8_way_24 (hW.ob ga0 (by decide)).choose_spec hX0 (Nat.le_trans (by decide) hd) rfl (Nat.le_of_ble_eq_true rfl) (fun r cs hp => ?_)
  obtain ⟨τ, r10, rfl, gr10, hW, k11, n9_0⟩ := hp
  have hX := hX.tr k11 (by decide)
  have ga0 := k11.1.e ga0 (by decide)
  clear hX0
  refine z_st (st' := [.int (Int32.ofInt r10)]) rfl ?_
  refine z_istore dX8_way_27 (by decide) ?_
  refine z_loc (L' := [(0, .ref (G.1 + a0)), (1, .int (Int32.ofInt l1)), (2, .int (Int32.ofInt l2)), (3, .int (Int32.ofInt l3)), (4, .int (Int32.ofInt r6)), (5, .int (Int32.ofInt r10))]) (List.forall_mem_cons.mpr ⟨rfl, (List.forall_mem_cons.mpr ⟨rfl, (List.forall_mem_cons.mpr ⟨rfl, (List.forall_mem_cons.mpr ⟨rfl, (List.forall_mem_cons.mpr ⟨rfl, (List.forall_mem_cons.mpr ⟨rfl, (fun _ h => nomatch h)⟩)⟩)⟩)⟩)⟩)⟩) ?_
  refine z_iconst (v := Int32.ofInt 0) dX8_way_29 rfl ?_
  refine z_istore dX8_way_30 (by decide) ?_
  refine z_loc (L' := [(0, .ref (G.1 + a0)), (1, .int (Int32.ofInt l1)), (2, .int (Int32.ofInt l2)), (3, .int (Int32.ofInt l3)), (4, .int (Int32.ofInt r6)), (5, .int (Int32.ofInt r10)), (6, .int (Int32.ofInt 0))]) (List.forall_mem_cons.mpr ⟨rfl, (List.forall_mem_cons.mpr ⟨rfl, (List.forall_mem_cons.mpr ⟨rfl, (List.forall_mem_cons.mpr ⟨rfl, (List.forall_mem_cons.mpr ⟨rfl, (List.forall_mem_cons.mpr ⟨rfl, (List.forall_mem_cons.mpr ⟨rfl, (fun _ h => nomatch h)⟩)⟩)⟩)⟩)⟩)⟩)⟩) ?_
  refine z_loc (L' := [(0, .ref (G.1 + a0)), (4, .int (Int32.ofInt r6)), (5, .int (Int32.ofInt r10)), (6, .int (Int32.ofInt 0))]) (List.forall_mem_cons.mpr ⟨rfl, (List.forall_mem_cons.mpr ⟨rfl, (List.forall_mem_cons.mpr ⟨rfl, (List.forall_mem_cons.mpr ⟨rfl, (fun _ h => nomatch h)⟩)⟩)⟩)⟩) ?_
  exact bX8_way_32 hd hW hX ga0 gr6 gr10 (show rng 0 from ⟨by decide, by decide⟩) (by omega) (by omega) (by omega) (by omega)  hP 

set_option maxRecDepth 100000 in
set_option maxHeartbeats 4000000 in
theorem bX8_reference_84 {G : xG} {d : Nat} {Post : xP} {B : Nat × Nat} {τ0 τ : Tau} {c0 cs : List va_E} {a0 pa0 : Nat} (hd : 6 ≤ d) (hW : WT G B τ cs) (hX : Fx [5, 8] τ0 c0 τ cs) (ga0 : τ a0 = some (.inl (8, pa0)))   (hP : ∀ (τ1 : Tau) (c1 : List va_E), WT G B τ1 c1 → Fx [5, 8] τ0 c0 τ1 c1 → Post none c1)  : Z (RX8, cX8_reference, 5, none, false) G d Post 84 [(0, .ref (G.1 + a0))] [] cs := by
  refine z_aload_n dX8_reference_84 rfl rfl ?_
  refine tw_getO hW ga0 (by decide) (by decide) rfl kX8 fX8_46 dX8_reference_85 (fun b1 pb1 gb1 => ?_)
  have gb1 : oT τ b1 5 := ⟨_, gb1⟩
  refine z_ldcS (i := 5) (tx := "\"/>") (by decide +kernel) dX8_reference_88 ?_
  have hX0 := kX5_spell 4 (Nat.le_refl _) hW gb1 (show 5 < xN by decide) 
  refine z_callV (As := [_]) eX5_spell sX5_spell lX8_85 rfl dX8_reference_90 (hW.os gb1).choose_spec hX0 (Nat.le_trans (by decide) hd) rfl (Nat.le_of_ble_eq_true rfl) (fun r cs hp => ?_)
  obtain ⟨τ, rfl, hW, k4⟩ := hp
  have hX := hX.tr k4 (by decide)
  have ga0 := k4.1.e ga0 (by decide)
  clear hX0
  refine z_st (st' := []) rfl ?_
  exact z_return dX8_reference_93 rfl (hP _ _ hW hX)
set_option maxRecDepth 100000 in
set_option maxHeartbeats 4000000 in
theorem kX8_reference {G : xG} {B : Nat × Nat} {τ : Tau} {cs : List va_E} {a0 pa0 : Nat} {l1 : Int} {l2 : Int} {l3 : Int} (d : Nat) (hd : 6 ≤ d) (hW : WT G B τ cs) (ga0 : τ a0 = some (.inl (8, pa0))) (gl1 : rng l1) (gl2 : rng l2) (gl3 : rng l3) (p0 : iv 0 29 l1) : X G yX8_reference cX8_reference 5 none d [.ref (G.1 + a0), .int (Int32.ofInt l1), .int (Int32.ofInt l2), .int (Int32.ofInt l3)] cs (wN G B τ cs [5, 8]) := by
  refine X.of false (by decide +kernel) (by decide) (Nat.le_of_ble_eq_true rfl) ?_
  show Z (RX8, cX8_reference, 5, none, false) G d _ 0 [(0, .ref (G.1 + a0)), (1, .int (Int32.ofInt l1)), (2, .int (Int32.ofInt l2)), (3, .int (Int32.ofInt l3))] [] cs
  have hP : ∀ (τ1 : Tau) (c1 : List va_E), WT G B τ1 c1 → Fx [5, 8] τ cs τ1 c1 → wN G B τ cs [5, 8] none c1 := fun τ1 c1 h1 h2 => ⟨τ1, rfl, h1, h2⟩
  have hX : Fx [5, 8] τ cs τ cs := Fx.rf
  skip
  refine z_aload_n dX8_reference_0 rfl rfl ?_
  refine z_iload_n dX8_reference_1 rfl rfl ?_
  refine z_iload_n dX8_reference_2 rfl rfl ?_
  refine z_iload_n dX8_reference_3 rfl rfl ?_
  have hX0 := kX8_nameOf 2 (Nat.le_refl _) hW ga0 gl1 gl2 gl3 
  refine z_callV (As := [_, _, _]) eX8_nameOf sX8_nameOf lX8_72 rfl dX8_reference_4 (hW.ob ga0 (by decide)).choose_spec hX0 (Nat.le_trans (by decide) hd) rfl (Nat.le_of_ble_eq_true rfl) (fun r cs1 hp => ?_)
  obtain ⟨hcs, r2, rfl, gr2, _⟩ := hp
  obtain rfl := hcs.symm
  refine z_st (st' := [.int (Int32.ofInt r2)]) rfl ?_
  refine z_istore dX8_reference_7 (by decide) ?_
  refine z_loc (L' := [(0, .ref (G.1 + a0)), (1, .int (Int32.ofInt l1)), (2, .int (Int32.ofInt l2)), (3, .int (Int32.ofInt l3)), (4, .int (Int32.ofInt r2))]) (List.forall_mem_cons.mpr ⟨rfl, (List.forall_mem_cons.mpr ⟨rfl, (List.forall_mem_cons.mpr ⟨rfl, (List.forall_mem_cons.mpr ⟨rfl, (List.forall_mem_cons.mpr ⟨rfl, (fun _ h => nomatch h)⟩)⟩)⟩)⟩)⟩) ?_
  refine z_aload_n dX8_reference_9 rfl rfl ?_
  refine tw_getO hW ga0 (by decide) (by decide) rfl kX8 fX8_46 dX8_reference_10 (fun b3 pb3 gb3 => ?_)
  have gb3 : oT τ b3 5 := ⟨_, gb3⟩
  refine z_bipush (v := Int32.ofInt 60) dX8_reference_13 (by decide) ?_
  have hX0 := kX5_put 1 (Nat.le_refl _) hW gb3 (show rng 60 from ⟨by decide, by decide⟩) 
  refine z_callV (As := [_]) eX5_put sX5_put lX8_89 rfl dX8_reference_15 (hW.os gb3).choose_spec hX0 (Nat.le_trans (by decide) hd) rfl (Nat.le_of_ble_eq_true rfl) (fun r cs hp => ?_)
  obtain ⟨τ, r5, rfl, gr5, hW, k6, n4_0⟩ := hp
  have hX := hX.tr k6 (by decide)
  have ga0 := k6.1.e ga0 (by decide)
  clear hX0
  refine z_st (st' := [.int (Int32.ofInt r5)]) rfl ?_
  refine z_pop dX8_reference_18 rfl ?_
  refine z_aload_n dX8_reference_19 rfl rfl ?_
  refine tw_getO hW ga0 (by decide) (by decide) rfl kX8 fX8_38 dX8_reference_20 (fun b7 pb7 gb7 => ?_)
  refine z_aload_n dX8_reference_23 rfl rfl ?_
  refine tw_getO hW ga0 (by decide) (by decide) rfl kX8 fX8_46 dX8_reference_24 (fun b8 pb8 gb8 => ?_)
  have gb8 : oT τ b8 5 := ⟨_, gb8⟩
  refine z_iload dX8_reference_27 rfl ?_
  have hX0 := kX4_spellTo 2 (Nat.le_refl _) hW gb7 gb8 gr2 
  refine z_callV (As := [_, _]) eX4_spellTo sX4_spellTo lX8_112 rfl dX8_reference_29 (hW.ob gb7 (by decide)).choose_spec hX0 (Nat.le_trans (by decide) hd) rfl (Nat.le_of_ble_eq_true rfl) (fun r cs hp => ?_)
  obtain ⟨τ, rfl, hW, k11⟩ := hp
  have hX := hX.tr k11 (by decide)
  have ga0 := k11.1.e ga0 (by decide)
  clear hX0
  refine z_st (st' := []) rfl ?_
  refine z_aload_n dX8_reference_32 rfl rfl ?_
  refine tw_getO hW ga0 (by decide) (by decide) rfl kX8 fX8_46 dX8_reference_33 (fun b12 pb12 gb12 => ?_)
  have gb12 : oT τ b12 5 := ⟨_, gb12⟩
  refine z_ldcS (i := 2) (tx := " reference=\"") (by decide +kernel) dX8_reference_36 ?_
  have hX0 := kX5_spell 4 (Nat.le_refl _) hW gb12 (show 2 < xN by decide) 
  refine z_callV (As := [_]) eX5_spell sX5_spell lX8_85 rfl dX8_reference_38 (hW.os gb12).choose_spec hX0 (Nat.le_trans (by decide) hd) rfl (Nat.le_of_ble_eq_true rfl) (fun r cs hp => ?_)
  obtain ⟨τ, rfl, hW, k15⟩ := hp
  have hX := hX.tr k15 (by decide)
  have ga0 := k15.1.e ga0 (by decide)
  clear hX0
  refine z_st (st' := []) rfl ?_
  refine z_aload_n dX8_reference_41 rfl rfl ?_
  refine tw_getI hW ga0 (by decide) (by decide) rfl kX8 fX8_50 dX8_reference_42 (fun x16 _ vx16 gx16 => ?_)
  refine z_iconst (v := Int32.ofInt 2) dX8_reference_45 rfl ?_
  refine i_icmp_ne (tgt := 62) dX8_reference_46 (by decide) gx16 (show rng 2 from ⟨by decide, by decide⟩) (fun h17 => ?_) (fun h17 => ?_)
  · refine z_aload_n dX8_reference_62 rfl rfl ?_
    refine tw_getI hW ga0 (by decide) (by decide) rfl kX8 fX8_50 dX8_reference_63 (fun x18 _ vx18 gx18 => ?_)
    refine i_if_ne (tgt := 79) dX8_reference_66 (by decide) gx18 (fun h19 => ?_) (fun h19 => ?_)
    · refine z_aload_n dX8_reference_79 rfl rfl ?_
      refine z_iload_n dX8_reference_80 rfl rfl ?_
      have hX0 := kX8_path 4 (Nat.le_refl _) hW ga0 gl1 
      refine z_callV (As := [_]) eX8_path sX8_path lX8_186 rfl dX8_reference_81 (hW.ob ga0 (by decide)).choose_spec hX0 (Nat.le_trans (by decide) hd) rfl (Nat.le_of_ble_eq_true rfl) (fun r cs hp => ?_)
      obtain ⟨τ, rfl, hW, k22⟩ := hp
      have hX := hX.tr k22 (by decide)
      have ga0 := k22.1.e ga0 (by decide)
      clear hX0
      refine z_st (st' := []) rfl ?_
      refine z_loc (L' := [(0, .ref (G.1 + a0))]) (List.forall_mem_cons.mpr ⟨rfl, (fun _ h => nomatch h)⟩) ?_
      exact bX8_reference_84 hd hW hX ga0   hP 
    · refine z_aload_n dX8_reference_69 rfl rfl ?_
      refine z_iload_n dX8_reference_70 rfl rfl ?_
      refine z_iload_n dX8_reference_71 rfl rfl ?_
      refine z_iload_n dX8_reference_72 rfl rfl ?_
      have hX0 := kX8_way 5 (Nat.le_refl _) hW ga0 gl1 gl2 gl3 
      refine z_callV (As := [_, _, _]) eX8_way sX8_way lX8_183 rfl dX8_reference_73 (hW.ob ga0 (by decide)).choose_spec hX0 (Nat.le_trans (by decide) hd) rfl (Nat.le_of_ble_eq_true rfl) (fun r cs hp => ?_)
      obtain ⟨τ, rfl, hW, k25⟩ := hp
      have hX := hX.tr k25 (by decide)
      have ga0 := k25.1.e ga0 (by decide)
      clear hX0
      refine z_st (st' := []) rfl ?_
      refine z_goto (tgt := 84) dX8_reference_76 (by decide) ?_
      refine z_loc (L' := [(0, .ref (G.1 + a0))]) (List.forall_mem_cons.mpr ⟨rfl, (fun _ h => nomatch h)⟩) ?_
      exact bX8_reference_84 hd hW hX ga0   hP 
  · refine z_aload_n dX8_reference_49 rfl rfl ?_
    refine z_aload_n dX8_reference_50 rfl rfl ?_
    refine tw_getA hW ga0 (by decide) (by decide) rfl kX8 fX8_9 dX8_reference_51 (fun b26 _ gb26 => ?_)
    refine z_iload_n dX8_reference_54 rfl rfl ?_
    refine tw_iald hW gb26 (by omega) (by omega) dX8_reference_55 (fun x27 _ vx27 gx27 => ?_)
    have hX0 := kX8_number 2 (Nat.le_refl _) hW ga0 gx27 
    refine z_callV (As := [_]) eX8_number sX8_number lX8_123 rfl dX8_reference_56 (hW.ob ga0 (by decide)).choose_spec hX0 (Nat.le_trans (by decide) hd) rfl (Nat.le_of_ble_eq_true rfl) (fun r cs hp => ?_)
    obtain ⟨τ, rfl, hW, k30⟩ := hp
    have hX := hX.tr k30 (by decide)
    have ga0 := k30.1.e ga0 (by decide)
    clear hX0
    refine z_st (st' := []) rfl ?_
    refine z_goto (tgt := 84) dX8_reference_59 (by decide) ?_
    refine z_loc (L' := [(0, .ref (G.1 + a0))]) (List.forall_mem_cons.mpr ⟨rfl, (fun _ h => nomatch h)⟩) ?_
    exact bX8_reference_84 hd hW hX ga0   hP 
