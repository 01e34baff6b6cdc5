set_option maxRecDepth 100000 in
set_option maxHeartbeats 4000000 in
theorem bX3_isPlacedInObject_157 {G : xG} {d : Nat} {Post : xP} {B : Nat × Nat} {τ0 τ : Tau} {c0 cs : List va_E} {a0 pm : Nat} {l2 : Int} {l4 : Int} {s0 : Int} {s1 : Int} {s2 : Nat} (hd : 7 ≤ d) (hW : WT G B τ cs) (hX : Fx [1] τ0 c0 τ cs) (ga0 : τ a0 = some (.inl (3, pm))) (gl2 : rng l2) (gl4 : rng l4) (gs0 : rng s0) (gs1 : rng s1) (gs2 : τ s2 = some (.inl (3, pm))) (i0 : iv 0 29 l2) (hP : ∀ (τ1 : Tau) (c1 : List va_E) (r : Int), WT G B τ1 c1 → Fx [1] τ0 c0 τ1 c1 → rng r → ((iv 0 1 r)) → Post (some (.int (Int32.ofInt r))) c1)  : Z (RX3, cX3_isPlacedInObject, 6, some .boolean, false) G d Post 157 [(0, .ref (G.1 + a0)), (2, .int (Int32.ofInt l2)), (4, .int (Int32.ofInt l4))] [.int (Int32.ofInt s0), .int (Int32.ofInt s1), .ref (G.1 + s2)] cs := by
  refine z_iload_n dX3_isPlacedInObject_157 rfl rfl ?_
  refine z_iload dX3_isPlacedInObject_158 rfl ?_
  have hX0 := kX3_takesRole 0 (Nat.le_refl _) hW gs2 gs1 gs0 gl2 gl4 (by omega) (by omega) (by omega)
  refine z_callV (As := [_, _, _, _]) eX3_takesRole sX3_takesRole lX3_118 rfl dX3_isPlacedInObject_160 (hW.ob gs2 (by decide)).choose_spec hX0 (Nat.le_trans (by decide) hd) rfl (Nat.le_of_ble_eq_true rfl) (fun r cs1 hp => ?_)
  obtain ⟨τ, rfl, hW, k3⟩ := hp
  have hX := hX.tr k3 (by decide)
  have ga0 := k3.1.e ga0 (by decide)
  clear hX0
  refine z_st (st' := []) rfl ?_
  refine z_iconst (v := Int32.ofInt 1) dX3_isPlacedInObject_163 rfl ?_
  exact z_ireturn dX3_isPlacedInObject_164 rfl (nar01 (b01 ⟨by decide, by decide⟩)) (hP _ _ _ hW hX ⟨by decide, by decide⟩ (by omega))
set_option maxRecDepth 100000 in
set_option maxHeartbeats 4000000 in
theorem bX3_isPlacedInObject_71 {G : xG} {d : Nat} {Post : xP} {B : Nat × Nat} {τ0 τ : Tau} {c0 cs : List va_E} {a0 pm : Nat} {l1 : Int} {l2 : Int} {l3 : Int} {l4 : Int} {l5 : Int} (hd : 7 ≤ d) (hW : WT G B τ cs) (hX : Fx [1] τ0 c0 τ cs) (ga0 : τ a0 = some (.inl (3, pm))) (gl1 : rng l1) (gl2 : rng l2) (gl3 : rng l3) (gl4 : rng l4) (gl5 : rng l5) (i0 : 0 ≤ l1) (i1 : l1 < (pm : Nat)) (i2 : iv 0 29 l2) (hP : ∀ (τ1 : Tau) (c1 : List va_E) (r : Int), WT G B τ1 c1 → Fx [1] τ0 c0 τ1 c1 → rng r → ((iv 0 1 r)) → Post (some (.int (Int32.ofInt r))) c1)  : Z (RX3, cX3_isPlacedInObject, 6, some .boolean, false) G d Post 71 [(0, .ref (G.1 + a0)), (1, .int (Int32.ofInt l1)), (2, .int (Int32.ofInt l2)), (3, .int (Int32.ofInt l3)), (4, .int (Int32.ofInt l4)), (5, .int (Int32.ofInt l5))] [] cs := by
  refine z_iload dX3_isPlacedInObject_71 rfl ?_
  refine z_iconst (v := Int32.ofInt (-1)) dX3_isPlacedInObject_73 rfl ?_
  refine i_icmp_eq (tgt := 98) dX3_isPlacedInObject_74 (by decide) gl4 ⟨by decide, by decide⟩ (fun h1 => ?_) (fun h1 => ?_)
  · refine z_iconst (v := Int32.ofInt 0) dX3_isPlacedInObject_98 rfl ?_
    exact z_ireturn dX3_isPlacedInObject_99 rfl (nar01 (b01 ⟨by decide, by decide⟩)) (hP _ _ _ hW hX ⟨by decide, by decide⟩ (by omega))
  · refine z_iload dX3_isPlacedInObject_77 rfl ?_
    refine z_iload dX3_isPlacedInObject_79 rfl ?_
    refine i_icmp_eq (tgt := 98) dX3_isPlacedInObject_81 (by decide) gl4 gl5 (fun h2 => ?_) (fun h2 => ?_)
    · refine z_iconst (v := Int32.ofInt 0) dX3_isPlacedInObject_98 rfl ?_
      exact z_ireturn dX3_isPlacedInObject_99 rfl (nar01 (b01 ⟨by decide, by decide⟩)) (hP _ _ _ hW hX ⟨by decide, by decide⟩ (by omega))
    · refine z_aload_n dX3_isPlacedInObject_84 rfl rfl ?_
      refine t_getA hW ga0 (by decide) (by decide) rfl kX3 fX3_9 dX3_isPlacedInObject_85 (fun b3 _ gb3 => ?_)
      refine z_iload_n dX3_isPlacedInObject_88 rfl rfl ?_
      refine t_iald hW gb3 (by omega) (by omega) dX3_isPlacedInObject_89 (fun x4 _ vx4 gx4 => ?_)
      refine z_iload dX3_isPlacedInObject_90 rfl ?_
      refine t_ishr dX3_isPlacedInObject_92 (fun z5 gz5 => ?_)
      refine z_iconst (v := Int32.ofInt 1) dX3_isPlacedInObject_93 rfl ?_
      refine t_iand dX3_isPlacedInObject_94 (fun z6 gz6 => ?_)
      refine i_if_eq (tgt := 100) dX3_isPlacedInObject_95 (by decide) gz6 (fun h7 => ?_) (fun h7 => ?_)
      · refine z_aload_n dX3_isPlacedInObject_100 rfl rfl ?_
        refine t_getA hW ga0 (by decide) (by decide) rfl kX3 fX3_9 dX3_isPlacedInObject_101 (fun b8 _ gb8 => ?_)
        refine z_iload_n dX3_isPlacedInObject_104 rfl rfl ?_
        refine z_dup2 dX3_isPlacedInObject_105 rfl rfl ?_
        refine t_iald hW gb8 (by omega) (by omega) dX3_isPlacedInObject_106 (fun x9 _ vx9 gx9 => ?_)
        refine z_iconst (v := Int32.ofInt 1) dX3_isPlacedInObject_107 rfl ?_
        refine z_iload dX3_isPlacedInObject_108 rfl ?_
        refine t_ishl dX3_isPlacedInObject_110 (fun z10 gz10 => ?_)
        refine t_ior dX3_isPlacedInObject_111 (fun z11 gz11 => ?_)
        refine t_iast hW hX gb8 (by omega) (by omega) (any_ok _) dX3_isPlacedInObject_112 (fun c1 q _ => nA hW gb8 (by decide) (by decide) c1 q) (fun cs hW hX _ _ => ?_)
        refine z_aload_n dX3_isPlacedInObject_113 rfl rfl ?_
        refine t_getO hW ga0 (by decide) (by decide) rfl kX3 fX3_15 dX3_isPlacedInObject_114 (fun b12 pb12 gb12 => ?_)
        refine z_iload_n dX3_isPlacedInObject_117 rfl rfl ?_
        refine z_iload dX3_isPlacedInObject_118 rfl ?_
        have hX0 := kX4_shape 1 (Nat.le_refl _) hW gb12 gl3 gl4 
        refine z_callV (As := [_, _]) eX4_shape sX4_shape lX3_132 rfl dX3_isPlacedInObject_120 (hW.ob gb12 (by decide)).choose_spec hX0 (Nat.le_trans (by decide) hd) rfl (Nat.le_of_ble_eq_true rfl) (fun r cs1 hp => ?_)
        obtain ⟨rfl, r14, rfl, gr14, _⟩ := hp
        refine z_st (st' := [.int (Int32.ofInt r14)]) rfl ?_
        refine z_iconst (v := Int32.ofInt 3) dX3_isPlacedInObject_123 rfl ?_
        refine i_icmp_ne (tgt := 136) dX3_isPlacedInObject_124 (by decide) gr14 ⟨by decide, by decide⟩ (fun h15 => ?_) (fun h15 => ?_)
        · refine z_aload_n dX3_isPlacedInObject_136 rfl rfl ?_
          refine z_iload_n dX3_isPlacedInObject_137 rfl rfl ?_
          refine z_aload_n dX3_isPlacedInObject_138 rfl rfl ?_
          refine t_getO hW ga0 (by decide) (by decide) rfl kX3 fX3_15 dX3_isPlacedInObject_139 (fun b16 pb16 gb16 => ?_)
          refine z_iload_n dX3_isPlacedInObject_142 rfl rfl ?_
          refine z_iload dX3_isPlacedInObject_143 rfl ?_
          have hX0 := kX4_shape 1 (Nat.le_refl _) hW gb16 gl3 gl4 
          refine z_callV (As := [_, _]) eX4_shape sX4_shape lX3_132 rfl dX3_isPlacedInObject_145 (hW.ob gb16 (by decide)).choose_spec hX0 (Nat.le_trans (by decide) hd) rfl (Nat.le_of_ble_eq_true rfl) (fun r cs1 hp => ?_)
          obtain ⟨rfl, r18, rfl, gr18, _⟩ := hp
          refine z_st (st' := [.int (Int32.ofInt r18), .int (Int32.ofInt l1), .ref (G.1 + a0)]) rfl ?_
          refine z_iconst (v := Int32.ofInt 4) dX3_isPlacedInObject_148 rfl ?_
          refine i_icmp_ne (tgt := 156) dX3_isPlacedInObject_149 (by decide) gr18 ⟨by decide, by decide⟩ (fun h19 => ?_) (fun h19 => ?_)
          · refine z_iconst (v := Int32.ofInt 3) dX3_isPlacedInObject_156 rfl ?_
            refine z_loc (L' := [(0, .ref (G.1 + a0)), (2, .int (Int32.ofInt l2)), (4, .int (Int32.ofInt l4))]) (List.forall_mem_cons.mpr ⟨rfl, (List.forall_mem_cons.mpr ⟨rfl, (List.forall_mem_cons.mpr ⟨rfl, (fun _ h => nomatch h)⟩)⟩)⟩) ?_
            exact bX3_isPlacedInObject_157 hd hW hX ga0 gl2 gl4 ⟨by decide, by decide⟩ gl1 ga0 (by omega)  hP 
          · refine z_iconst (v := Int32.ofInt 2) dX3_isPlacedInObject_152 rfl ?_
            refine z_goto (tgt := 157) dX3_isPlacedInObject_153 (by decide) ?_
            refine z_loc (L' := [(0, .ref (G.1 + a0)), (2, .int (Int32.ofInt l2)), (4, .int (Int32.ofInt l4))]) (List.forall_mem_cons.mpr ⟨rfl, (List.forall_mem_cons.mpr ⟨rfl, (List.forall_mem_cons.mpr ⟨rfl, (fun _ h => nomatch h)⟩)⟩)⟩) ?_
            exact bX3_isPlacedInObject_157 hd hW hX ga0 gl2 gl4 ⟨by decide, by decide⟩ gl1 ga0 (by omega)  hP 
        · refine z_aload_n dX3_isPlacedInObject_127 rfl rfl ?_
          refine z_iload_n dX3_isPlacedInObject_128 rfl rfl ?_
          refine z_iload_n dX3_isPlacedInObject_129 rfl rfl ?_
          refine z_iload dX3_isPlacedInObject_130 rfl ?_
          have hX0 := kX3_isPlacedAsTarget 6 (Nat.le_refl _) hW ga0 gl1 gl2 gl4 (by omega) (by omega) (by omega)
          refine z_callV (As := [_, _, _]) eX3_isPlacedAsTarget sX3_isPlacedAsTarget lX3_135 rfl dX3_isPlacedInObject_132 (hW.ob ga0 (by decide)).choose_spec hX0 (Nat.le_trans (by decide) hd) rfl (Nat.le_of_ble_eq_true rfl) (fun r cs1 hp => ?_)
          obtain ⟨τ, r21, rfl, gr21, hW, k22, n20_0⟩ := hp
          have hX := hX.tr k22 (by decide)
          have ga0 := k22.1.e ga0 (by decide)
          clear hX0
          refine z_st (st' := [.int (Int32.ofInt r21)]) rfl ?_
          exact z_ireturn dX3_isPlacedInObject_135 rfl (nar01 (b01 (by omega))) (hP _ _ _ hW hX gr21 (by omega))
      · refine z_iconst (v := Int32.ofInt 0) dX3_isPlacedInObject_98 rfl ?_
        exact z_ireturn dX3_isPlacedInObject_99 rfl (nar01 (b01 ⟨by decide, by decide⟩)) (hP _ _ _ hW hX ⟨by decide, by decide⟩ (by omega))
set_option maxRecDepth 100000 in
set_option maxHeartbeats 4000000 in
theorem kX3_isPlacedInObject {G : xG} {B : Nat × Nat} {τ : Tau} {cs : List va_E} {a0 pm : Nat} {l1 : Int} {l2 : Int} (d : Nat) (hd : 7 ≤ d) (hW : WT G B τ cs) (ga0 : τ a0 = some (.inl (3, pm))) (gl1 : rng l1) (gl2 : rng l2) (p0 : 0 ≤ l1) (p1 : l1 < (pm : Nat)) (p2 : iv 0 29 l2) : X G yX3_isPlacedInObject cX3_isPlacedInObject 6 (some .boolean) d [.ref (G.1 + a0), .int (Int32.ofInt l1), .int (Int32.ofInt l2)] cs (wI G B τ cs [1] (fun r => (iv 0 1 r))) := by
  refine X.of false (by decide +kernel) (by decide) (Nat.le_of_ble_eq_true rfl) ?_
  show Z (RX3, cX3_isPlacedInObject, 6, some .boolean, false) G d _ 0 [(0, .ref (G.1 + a0)), (1, .int (Int32.ofInt l1)), (2, .int (Int32.ofInt l2))] [] cs
  have hP : ∀ (τ1 : Tau) (c1 : List va_E) (r : Int), WT G B τ1 c1 → Fx [1] τ cs τ1 c1 → rng r → ((iv 0 1 r)) → wI G B τ cs [1] (fun r => (iv 0 1 r)) (some (.int (Int32.ofInt r))) c1 := fun τ1 c1 r h1 h2 h3 h4 => ⟨τ1, r, rfl, h3, h1, h2, h4⟩
  have hX : Fx [1] τ cs τ cs := Fx.rf
  skip
  refine z_aload_n dX3_isPlacedInObject_0 rfl rfl ?_
  refine t_getO hW ga0 (by decide) (by decide) rfl kX3 fX3_37 dX3_isPlacedInObject_1 (fun b1 pb1 gb1 => ?_)
  refine z_iload_n dX3_isPlacedInObject_4 rfl rfl ?_
  have hX0 := kX1_classOf 1 (Nat.le_refl _) hW gb1 gl2 
  refine z_callV (As := [_]) eX1_classOf sX1_classOf lX3_122 rfl dX3_isPlacedInObject_5 (hW.ob gb1 (by decide)).choose_spec hX0 (Nat.le_trans (by decide) hd) rfl (Nat.le_of_ble_eq_true rfl) (fun r cs1 hp => ?_)
  obtain ⟨rfl, r3, rfl, gr3, _⟩ := hp
  refine z_st (st' := [.int (Int32.ofInt r3)]) rfl ?_
  refine z_istore_n dX3_isPlacedInObject_8 rfl (by decide) ?_
  refine z_loc (L' := [(0, .ref (G.1 + a0)), (1, .int (Int32.ofInt l1)), (2, .int (Int32.ofInt l2)), (3, .int (Int32.ofInt r3))]) (List.forall_mem_cons.mpr ⟨rfl, (List.forall_mem_cons.mpr ⟨rfl, (List.forall_mem_cons.mpr ⟨rfl, (List.forall_mem_cons.mpr ⟨rfl, (fun _ h => nomatch h)⟩)⟩)⟩)⟩) ?_
  refine z_aload_n dX3_isPlacedInObject_9 rfl rfl ?_
  refine t_getO hW ga0 (by decide) (by decide) rfl kX3 fX3_15 dX3_isPlacedInObject_10 (fun b4 pb4 gb4 => ?_)
  refine z_iload_n dX3_isPlacedInObject_13 rfl rfl ?_
  refine z_iconst (v := Int32.ofInt 0) dX3_isPlacedInObject_14 rfl ?_
  refine z_aload_n dX3_isPlacedInObject_15 rfl rfl ?_
  refine t_getO hW ga0 (by decide) (by decide) rfl kX3 fX3_29 dX3_isPlacedInObject_16 (fun b5 pb5 gb5 => ?_)
  have gb5 : oT τ b5 5 := ⟨_, gb5⟩
  refine z_aload_n dX3_isPlacedInObject_19 rfl rfl ?_
  refine t_getO hW ga0 (by decide) (by decide) rfl kX3 fX3_19 dX3_isPlacedInObject_20 (fun b6 pb6 gb6 => ?_)
  refine z_iload_n dX3_isPlacedInObject_23 rfl rfl ?_
  have hX0 := kX6_nameFrom 1 (Nat.le_refl _) hW gb6 gl1 
  refine z_callV (As := [_]) eX6_nameFrom sX6_nameFrom lX3_88 rfl dX3_isPlacedInObject_24 (hW.ob gb6 (by decide)).choose_spec hX0 (Nat.le_trans (by decide) hd) rfl (Nat.le_of_ble_eq_true rfl) (fun r cs1 hp => ?_)
  obtain ⟨rfl, r8, rfl, gr8, _⟩ := hp
  refine z_st (st' := [.int (Int32.ofInt r8), .ref (G.1 + b5), .int (Int32.ofInt 0), .int (Int32.ofInt r3), .ref (G.1 + b4)]) rfl ?_
  refine z_aload_n dX3_isPlacedInObject_27 rfl rfl ?_
  refine t_getO hW ga0 (by decide) (by decide) rfl kX3 fX3_19 dX3_isPlacedInObject_28 (fun b9 pb9 gb9 => ?_)
  refine z_iload_n dX3_isPlacedInObject_31 rfl rfl ?_
  have hX0 := kX6_nameTo 1 (Nat.le_refl _) hW gb9 gl1 
  refine z_callV (As := [_]) eX6_nameTo sX6_nameTo lX3_91 rfl dX3_isPlacedInObject_32 (hW.ob gb9 (by decide)).choose_spec hX0 (Nat.le_trans (by decide) hd) rfl (Nat.le_of_ble_eq_true rfl) (fun r cs1 hp => ?_)
  obtain ⟨rfl, r11, rfl, gr11, _⟩ := hp
  refine z_st (st' := [.int (Int32.ofInt r11), .int (Int32.ofInt r8), .ref (G.1 + b5), .int (Int32.ofInt 0), .int (Int32.ofInt r3), .ref (G.1 + b4)]) rfl ?_
  have hX0 := kX4_fieldNamed 2 (Nat.le_refl _) hW gb4 gr3 ⟨by decide, by decide⟩ gb5 gr8 gr11 (by omega)
  refine z_callV (As := [_, _, _, _, _]) eX4_fieldNamed sX4_fieldNamed lX3_125 rfl dX3_isPlacedInObject_35 (hW.ob gb4 (by decide)).choose_spec hX0 (Nat.le_trans (by decide) hd) rfl (Nat.le_of_ble_eq_true rfl) (fun r cs1 hp => ?_)
  obtain ⟨rfl, r13, rfl, gr13, _⟩ := hp
  refine z_st (st' := [.int (Int32.ofInt r13)]) rfl ?_
  refine z_istore dX3_isPlacedInObject_38 (by decide) ?_
  refine z_loc (L' := [(0, .ref (G.1 + a0)), (1, .int (Int32.ofInt l1)), (2, .int (Int32.ofInt l2)), (3, .int (Int32.ofInt r3)), (4, .int (Int32.ofInt r13))]) (List.forall_mem_cons.mpr ⟨rfl, (List.forall_mem_cons.mpr ⟨rfl, (List.forall_mem_cons.mpr ⟨rfl, (List.forall_mem_cons.mpr ⟨rfl, (List.forall_mem_cons.mpr ⟨rfl, (fun _ h => nomatch h)⟩)⟩)⟩)⟩)⟩) ?_
  refine z_aload_n dX3_isPlacedInObject_40 rfl rfl ?_
  refine t_getO hW ga0 (by decide) (by decide) rfl kX3 fX3_15 dX3_isPlacedInObject_41 (fun b14 pb14 gb14 => ?_)
  refine z_iload_n dX3_isPlacedInObject_44 rfl rfl ?_
  have hX0 := kX4_implicit 1 (Nat.le_refl _) hW gb14 gr3 
  refine z_callV (As := [_]) eX4_implicit sX4_implicit lX3_129 rfl dX3_isPlacedInObject_45 (hW.ob gb14 (by decide)).choose_spec hX0 (Nat.le_trans (by decide) hd) rfl (Nat.le_of_ble_eq_true rfl) (fun r cs1 hp => ?_)
  obtain ⟨rfl, r16, rfl, gr16, _⟩ := hp
  refine z_st (st' := [.int (Int32.ofInt r16)]) rfl ?_
  refine z_istore dX3_isPlacedInObject_48 (by decide) ?_
  refine z_loc (L' := [(0, .ref (G.1 + a0)), (1, .int (Int32.ofInt l1)), (2, .int (Int32.ofInt l2)), (3, .int (Int32.ofInt r3)), (4, .int (Int32.ofInt r13)), (5, .int (Int32.ofInt r16))]) (List.forall_mem_cons.mpr ⟨rfl, (List.forall_mem_cons.mpr ⟨rfl, (List.forall_mem_cons.mpr ⟨rfl, (List.forall_mem_cons.mpr ⟨rfl, (List.forall_mem_cons.mpr ⟨rfl, (List.forall_mem_cons.mpr ⟨rfl, (fun _ h => nomatch h)⟩)⟩)⟩)⟩)⟩)⟩) ?_
  refine z_iload dX3_isPlacedInObject_50 rfl ?_
  refine z_iconst (v := Int32.ofInt (-1)) dX3_isPlacedInObject_52 rfl ?_
  refine i_icmp_ne (tgt := 71) dX3_isPlacedInObject_53 (by decide) gr13 ⟨by decide, by decide⟩ (fun h17 => ?_) (fun h17 => ?_)
  · refine z_loc (L' := [(0, .ref (G.1 + a0)), (1, .int (Int32.ofInt l1)), (2, .int (Int32.ofInt l2)), (3, .int (Int32.ofInt r3)), (4, .int (Int32.ofInt r13)), (5, .int (Int32.ofInt r16))]) (List.forall_mem_cons.mpr ⟨rfl, (List.forall_mem_cons.mpr ⟨rfl, (List.forall_mem_cons.mpr ⟨rfl, (List.forall_mem_cons.mpr ⟨rfl, (List.forall_mem_cons.mpr ⟨rfl, (List.forall_mem_cons.mpr ⟨rfl, (fun _ h => nomatch h)⟩)⟩)⟩)⟩)⟩)⟩) ?_
    exact bX3_isPlacedInObject_71 hd hW hX ga0 gl1 gl2 gr3 gr13 gr16 (by omega) (by omega) (by omega)  hP 
  · refine z_iload dX3_isPlacedInObject_56 rfl ?_
    refine z_iconst (v := Int32.ofInt (-1)) dX3_isPlacedInObject_58 rfl ?_
    refine i_icmp_eq (tgt := 71) dX3_isPlacedInObject_59 (by decide) gr16 ⟨by decide, by decide⟩ (fun h18 => ?_) (fun h18 => ?_)
    · refine z_loc (L' := [(0, .ref (G.1 + a0)), (1, .int (Int32.ofInt l1)), (2, .int (Int32.ofInt l2)), (3, .int (Int32.ofInt r3)), (4, .int (Int32.ofInt r13)), (5, .int (Int32.ofInt r16))]) (List.forall_mem_cons.mpr ⟨rfl, (List.forall_mem_cons.mpr ⟨rfl, (List.forall_mem_cons.mpr ⟨rfl, (List.forall_mem_cons.mpr ⟨rfl, (List.forall_mem_cons.mpr ⟨rfl, (List.forall_mem_cons.mpr ⟨rfl, (fun _ h => nomatch h)⟩)⟩)⟩)⟩)⟩)⟩) ?_
      exact bX3_isPlacedInObject_71 hd hW hX ga0 gl1 gl2 gr3 gr13 gr16 (by omega) (by omega) (by omega)  hP 
    · refine z_aload_n dX3_isPlacedInObject_62 rfl rfl ?_
      refine z_iload_n dX3_isPlacedInObject_63 rfl rfl ?_
      refine z_iload_n dX3_isPlacedInObject_64 rfl rfl ?_
      refine z_iload dX3_isPlacedInObject_65 rfl ?_
      have hX0 := kX3_isPlacedInList 6 (Nat.le_refl _) hW ga0 gl1 gl2 gr16 (by omega) (by omega) (by omega)
      refine z_callV (As := [_, _, _]) eX3_isPlacedInList sX3_isPlacedInList lX3_107 rfl dX3_isPlacedInObject_67 (hW.ob ga0 (by decide)).choose_spec hX0 (Nat.le_trans (by decide) hd) rfl (Nat.le_of_ble_eq_true rfl) (fun r cs1 hp => ?_)
      obtain ⟨τ, r20, rfl, gr20, hW, k21, n19_0⟩ := hp
      have hX := hX.tr k21 (by decide)
      have ga0 := k21.1.e ga0 (by decide)
      clear hX0
      refine z_st (st' := [.int (Int32.ofInt r20)]) rfl ?_
      exact z_ireturn dX3_isPlacedInObject_70 rfl (nar01 (b01 (by omega))) (hP _ _ _ hW hX gr20 (by omega))

set_option maxRecDepth 100000 in
set_option maxHeartbeats 4000000 in
theorem kX6_parent {G : xG} {B : Nat × Nat} {τ : Tau} {cs : List va_E} {a0 pa0 : Nat} {l1 : Int} (d : Nat) (hd : 1 ≤ d) (hW : WT G B τ cs) (ga0 : τ a0 = some (.inl (6, pa0))) (gl1 : rng l1)  : X G yX6_parent cX6_parent 2 (some .int) d [.ref (G.1 + a0), .int (Int32.ofInt l1)] cs (rI cs (fun r => (iv (-1) 199 r))) := by
  refine X.of false (by decide +kernel) (by decide) (Nat.le_of_ble_eq_true rfl) ?_
  show Z (RX6, cX6_parent, 2, some .int, false) G d _ 0 [(0, .ref (G.1 + a0)), (1, .int (Int32.ofInt l1))] [] cs
  have hP : ∀ r : Int, rng r → ((iv (-1) 199 r)) → rI cs (fun r => (iv (-1) 199 r)) (some (.int (Int32.ofInt r))) cs := fun r h1 h2 => ⟨rfl, r, rfl, h1, h2⟩
  refine z_aload_n dX6_parent_0 rfl rfl ?_
  refine z_iload_n dX6_parent_1 rfl rfl ?_
  have hX0 := kX6_has 0 (Nat.le_refl _) hW ga0 gl1 
  refine z_callV (As := [_]) eX6_has sX6_has lX6_75 rfl dX6_parent_2 (hW.ob ga0 (by decide)).choose_spec hX0 (Nat.le_trans (by decide) hd) rfl (Nat.le_of_ble_eq_true rfl) (fun r cs1 hp => ?_)
  obtain ⟨rfl, r2, rfl, gr2, ⟨n1_0, n1_1, n1_2⟩⟩ := hp
  refine z_st (st' := [.int (Int32.ofInt r2)]) rfl ?_
  refine i_if_eq (tgt := 17) dX6_parent_5 (by decide) gr2 (fun h3 => ?_) (fun h3 => ?_)
  · refine z_iconst (v := Int32.ofInt (-1)) dX6_parent_17 rfl ?_
    exact z_ireturn dX6_parent_18 rfl rfl (hP _ ⟨by decide, by decide⟩ (by omega))
  · refine z_aload_n dX6_parent_8 rfl rfl ?_
    refine t_getA hW ga0 (by decide) (by decide) rfl kX6 fX6_31 dX6_parent_9 (fun b4 _ gb4 => ?_)
    refine z_iload_n dX6_parent_12 rfl rfl ?_
    refine t_iald hW gb4 (by omega) (by omega) dX6_parent_13 (fun x5 _ vx5 gx5 => ?_)
    refine z_goto (tgt := 18) dX6_parent_14 (by decide) ?_
    exact z_ireturn dX6_parent_18 rfl rfl (hP _ gx5 (by omega))

set_option maxRecDepth 100000 in
set_option maxHeartbeats 4000000 in
theorem bX3_isPlaced_18 {G : xG} {d : Nat} {Post : xP} {B : Nat × Nat} {τ0 τ : Tau} {c0 cs : List va_E} {a0 pm : Nat} {l1 : Int} (hd : 8 ≤ d) (hW : WT G B τ cs) (hX : Fx [1] τ0 c0 τ cs) (ga0 : τ a0 = some (.inl (3, pm))) (gl1 : rng l1) (i0 : 0 ≤ l1) (i1 : l1 < (pm : Nat)) (hP : ∀ (τ1 : Tau) (c1 : List va_E) (r : Int), WT G B τ1 c1 → Fx [1] τ0 c0 τ1 c1 → rng r → ((iv 0 1 r)) → Post (some (.int (Int32.ofInt r))) c1)  : Z (RX3, cX3_isPlaced, 3, some .boolean, false) G d Post 18 [(0, .ref (G.1 + a0)), (1, .int (Int32.ofInt l1))] [] cs := by
  refine z_aload_n dX3_isPlaced_18 rfl rfl ?_
  refine z_iload_n dX3_isPlaced_19 rfl rfl ?_
  refine z_aload_n dX3_isPlaced_20 rfl rfl ?_
  refine t_getO hW ga0 (by decide) (by decide) rfl kX3 fX3_15 dX3_isPlaced_21 (fun b1 pb1 gb1 => ?_)
  refine z_aload_n dX3_isPlaced_24 rfl rfl ?_
  refine t_getO hW ga0 (by decide) (by decide) rfl kX3 fX3_29 dX3_isPlaced_25 (fun b2 pb2 gb2 => ?_)
  have gb2 : oT τ b2 5 := ⟨_, gb2⟩
  refine z_aload_n dX3_isPlaced_28 rfl rfl ?_
  refine t_getO hW ga0 (by decide) (by decide) rfl kX3 fX3_19 dX3_isPlaced_29 (fun b3 pb3 gb3 => ?_)
  refine z_iload_n dX3_isPlaced_32 rfl rfl ?_
  have hX0 := kX6_nameFrom 1 (Nat.le_refl _) hW gb3 gl1 
  refine z_callV (As := [_]) eX6_nameFrom sX6_nameFrom lX3_88 rfl dX3_isPlaced_33 (hW.ob gb3 (by decide)).choose_spec hX0 (Nat.le_trans (by decide) hd) rfl (Nat.le_of_ble_eq_true rfl) (fun r cs1 hp => ?_)
  obtain ⟨rfl, r5, rfl, gr5, _⟩ := hp
  refine z_st (st' := [.int (Int32.ofInt r5), .ref (G.1 + b2), .ref (G.1 + b1), .int (Int32.ofInt l1), .ref (G.1 + a0)]) rfl ?_
  refine z_aload_n dX3_isPlaced_36 rfl rfl ?_
  refine t_getO hW ga0 (by decide) (by decide) rfl kX3 fX3_19 dX3_isPlaced_37 (fun b6 pb6 gb6 => ?_)
  refine z_iload_n dX3_isPlaced_40 rfl rfl ?_
  have hX0 := kX6_nameTo 1 (Nat.le_refl _) hW gb6 gl1 
  refine z_callV (As := [_]) eX6_nameTo sX6_nameTo lX3_91 rfl dX3_isPlaced_41 (hW.ob gb6 (by decide)).choose_spec hX0 (Nat.le_trans (by decide) hd) rfl (Nat.le_of_ble_eq_true rfl) (fun r cs1 hp => ?_)
  obtain ⟨rfl, r8, rfl, gr8, _⟩ := hp
  refine z_st (st' := [.int (Int32.ofInt r8), .int (Int32.ofInt r5), .ref (G.1 + b2), .ref (G.1 + b1), .int (Int32.ofInt l1), .ref (G.1 + a0)]) rfl ?_
  have hX0 := kX4_readableClass 2 (Nat.le_refl _) hW gb1 gb2 gr5 gr8 
  refine z_callV (As := [_, _, _]) eX4_readableClass sX4_readableClass lX3_94 rfl dX3_isPlaced_44 (hW.ob gb1 (by decide)).choose_spec hX0 (Nat.le_trans (by decide) hd) rfl (Nat.le_of_ble_eq_true rfl) (fun r cs1 hp => ?_)
  obtain ⟨rfl, r10, rfl, gr10, _⟩ := hp
  refine z_st (st' := [.int (Int32.ofInt r10), .int (Int32.ofInt l1), .ref (G.1 + a0)]) rfl ?_
  have hX0 := kX3_begins 2 (Nat.le_refl _) hW ga0 gl1 gr10 (by omega) (by omega)
  refine z_callV (As := [_, _]) eX3_begins sX3_begins lX3_100 rfl dX3_isPlaced_47 (hW.ob ga0 (by decide)).choose_spec hX0 (Nat.le_trans (by decide) hd) rfl (Nat.le_of_ble_eq_true rfl) (fun r cs1 hp => ?_)
  obtain ⟨τ, r12, rfl, gr12, hW, k13, n11_0⟩ := hp
  have hX := hX.tr k13 (by decide)
  have ga0 := k13.1.e ga0 (by decide)
  clear hX0
  refine z_st (st' := [.int (Int32.ofInt r12)]) rfl ?_
  exact z_ireturn dX3_isPlaced_50 rfl (nar01 (b01 (by omega))) (hP _ _ _ hW hX gr12 (by omega))
set_option maxRecDepth 100000 in
set_option maxHeartbeats 4000000 in
theorem kX3_isPlaced {G : xG} {B : Nat × Nat} {τ : Tau} {cs : List va_E} {a0 pm : Nat} {l1 : Int} (d : Nat) (hd : 8 ≤ d) (hW : WT G B τ cs) (ga0 : τ a0 = some (.inl (3, pm))) (gl1 : rng l1) (p0 : 0 ≤ l1) (p1 : l1 < (pm : Nat)) : X G yX3_isPlaced cX3_isPlaced 3 (some .boolean) d [.ref (G.1 + a0), .int (Int32.ofInt l1)] cs (wI G B τ cs [1] (fun r => (iv 0 1 r))) := by
  refine X.of false (by decide +kernel) (by decide) (Nat.le_of_ble_eq_true rfl) ?_
  show Z (RX3, cX3_isPlaced, 3, some .boolean, false) G d _ 0 [(0, .ref (G.1 + a0)), (1, .int (Int32.ofInt l1))] [] cs
  have hP : ∀ (τ1 : Tau) (c1 : List va_E) (r : Int), WT G B τ1 c1 → Fx [1] τ cs τ1 c1 → rng r → ((iv 0 1 r)) → wI G B τ cs [1] (fun r => (iv 0 1 r)) (some (.int (Int32.ofInt r))) c1 := fun τ1 c1 r h1 h2 h3 h4 => ⟨τ1, r, rfl, h3, h1, h2, h4⟩
  have hX : Fx [1] τ cs τ cs := Fx.rf
  skip
  refine z_aload_n dX3_isPlaced_0 rfl rfl ?_
  refine t_getO hW ga0 (by decide) (by decide) rfl kX3 fX3_19 dX3_isPlaced_1 (fun b1 pb1 gb1 => ?_)
  refine z_iload_n dX3_isPlaced_4 rfl rfl ?_
  have hX0 := kX6_parent 1 (Nat.le_refl _) hW gb1 gl1 
  refine z_callV (As := [_]) eX6_parent sX6_parent lX3_84 rfl dX3_isPlaced_5 (hW.ob gb1 (by decide)).choose_spec hX0 (Nat.le_trans (by decide) hd) rfl (Nat.le_of_ble_eq_true rfl) (fun r cs1 hp => ?_)
  obtain ⟨rfl, r3, rfl, gr3, n2_0⟩ := hp
  refine z_st (st' := [.int (Int32.ofInt r3)]) rfl ?_
  refine z_istore_n dX3_isPlaced_8 rfl (by decide) ?_
  refine z_loc (L' := [(0, .ref (G.1 + a0)), (1, .int (Int32.ofInt l1)), (2, .int (Int32.ofInt r3))]) (List.forall_mem_cons.mpr ⟨rfl, (List.forall_mem_cons.mpr ⟨rfl, (List.forall_mem_cons.mpr ⟨rfl, (fun _ h => nomatch h)⟩)⟩)⟩) ?_
  refine z_iload_n dX3_isPlaced_9 rfl rfl ?_
  refine i_if_lt (tgt := 18) dX3_isPlaced_10 (by decide) gr3 (fun h4 => ?_) (fun h4 => ?_)
  · refine z_loc (L' := [(0, .ref (G.1 + a0)), (1, .int (Int32.ofInt l1))]) (List.forall_mem_cons.mpr ⟨rfl, (List.forall_mem_cons.mpr ⟨rfl, (fun _ h => nomatch h)⟩)⟩) ?_
    exact bX3_isPlaced_18 hd hW hX ga0 gl1 (by omega) (by omega)  hP 
  · refine z_iload_n dX3_isPlaced_13 rfl rfl ?_
    refine z_iload_n dX3_isPlaced_14 rfl rfl ?_
    refine i_icmp_lt (tgt := 51) dX3_isPlaced_15 (by decide) gr3 gl1 (fun h5 => ?_) (fun h5 => ?_)
    · refine z_aload_n dX3_isPlaced_51 rfl rfl ?_
      refine t_getA hW ga0 (by decide) (by decide) rfl kX3 fX3_54 dX3_isPlaced_52 (fun b6 _ gb6 => ?_)
      refine z_iload_n dX3_isPlaced_55 rfl rfl ?_
      refine t_iald hW gb6 (by omega) (by omega) dX3_isPlaced_56 (fun x7 _ vx7 gx7 => ?_)
      refine z_iconst (v := Int32.ofInt 1) dX3_isPlaced_57 rfl ?_
      refine i_icmp_ne (tgt := 73) dX3_isPlaced_58 (by decide) gx7 ⟨by decide, by decide⟩ (fun h8 => ?_) (fun h8 => ?_)
      · refine z_aload_n dX3_isPlaced_73 rfl rfl ?_
        refine t_getA hW ga0 (by decide) (by decide) rfl kX3 fX3_54 dX3_isPlaced_74 (fun b9 _ gb9 => ?_)
        refine z_iload_n dX3_isPlaced_77 rfl rfl ?_
        refine t_iald hW gb9 (by omega) (by omega) dX3_isPlaced_78 (fun x10 _ vx10 gx10 => ?_)
        refine z_iconst (v := Int32.ofInt 2) dX3_isPlaced_79 rfl ?_
        refine i_icmp_ne (tgt := 101) dX3_isPlaced_80 (by decide) gx10 ⟨by decide, by decide⟩ (fun h11 => ?_) (fun h11 => ?_)
        · refine z_aload_n dX3_isPlaced_101 rfl rfl ?_
          refine t_getA hW ga0 (by decide) (by decide) rfl kX3 fX3_54 dX3_isPlaced_102 (fun b12 _ gb12 => ?_)
          refine z_iload_n dX3_isPlaced_105 rfl rfl ?_
          refine z_iconst (v := Int32.ofInt 5) dX3_isPlaced_106 rfl ?_
          refine t_iast hW hX gb12 (by omega) (by omega) (any_ok _) dX3_isPlaced_107 (fun c1 q _ => nA hW gb12 (by decide) (by decide) c1 q) (fun cs hW hX _ _ => ?_)
          refine z_iconst (v := Int32.ofInt 1) dX3_isPlaced_108 rfl ?_
          exact z_ireturn dX3_isPlaced_109 rfl (nar01 (b01 ⟨by decide, by decide⟩)) (hP _ _ _ hW hX ⟨by decide, by decide⟩ (by omega))
        · refine z_aload_n dX3_isPlaced_83 rfl rfl ?_
          refine z_iload_n dX3_isPlaced_84 rfl rfl ?_
          refine z_aload_n dX3_isPlaced_85 rfl rfl ?_
          refine t_getA hW ga0 (by decide) (by decide) rfl kX3 fX3_57 dX3_isPlaced_86 (fun b13 _ gb13 => ?_)
          refine z_iload_n dX3_isPlaced_89 rfl rfl ?_
          refine t_iald hW gb13 (by omega) (by omega) dX3_isPlaced_90 (fun x14 _ vx14 gx14 => ?_)
          refine z_aload_n dX3_isPlaced_91 rfl rfl ?_
          refine t_getA hW ga0 (by decide) (by decide) rfl kX3 fX3_60 dX3_isPlaced_92 (fun b15 _ gb15 => ?_)
          refine z_iload_n dX3_isPlaced_95 rfl rfl ?_
          refine t_iald hW gb15 (by omega) (by omega) dX3_isPlaced_96 (fun x16 _ vx16 gx16 => ?_)
          have hX0 := kX3_isPlacedInList 6 (Nat.le_refl _) hW ga0 gl1 gx14 gx16 (by omega) (by omega) (by omega)
          refine z_callV (As := [_, _, _]) eX3_isPlacedInList sX3_isPlacedInList lX3_107 rfl dX3_isPlaced_97 (hW.ob ga0 (by decide)).choose_spec hX0 (Nat.le_trans (by decide) hd) rfl (Nat.le_of_ble_eq_true rfl) (fun r cs1 hp => ?_)
          obtain ⟨τ, r18, rfl, gr18, hW, k19, n17_0⟩ := hp
          have hX := hX.tr k19 (by decide)
          have ga0 := k19.1.e ga0 (by decide)
          clear hX0
          refine z_st (st' := [.int (Int32.ofInt r18)]) rfl ?_
          exact z_ireturn dX3_isPlaced_100 rfl (nar01 (b01 (by omega))) (hP _ _ _ hW hX gr18 (by omega))
      · refine z_aload_n dX3_isPlaced_61 rfl rfl ?_
        refine z_iload_n dX3_isPlaced_62 rfl rfl ?_
        refine z_aload_n dX3_isPlaced_63 rfl rfl ?_
        refine t_getA hW ga0 (by decide) (by decide) rfl kX3 fX3_57 dX3_isPlaced_64 (fun b20 _ gb20 => ?_)
        refine z_iload_n dX3_isPlaced_67 rfl rfl ?_
        refine t_iald hW gb20 (by omega) (by omega) dX3_isPlaced_68 (fun x21 _ vx21 gx21 => ?_)
        have hX0 := kX3_isPlacedInObject 7 (Nat.le_refl _) hW ga0 gl1 gx21 (by omega) (by omega) (by omega)
        refine z_callV (As := [_, _]) eX3_isPlacedInObject sX3_isPlacedInObject lX3_104 rfl dX3_isPlaced_69 (hW.ob ga0 (by decide)).choose_spec hX0 (Nat.le_trans (by decide) hd) rfl (Nat.le_of_ble_eq_true rfl) (fun r cs1 hp => ?_)
        obtain ⟨τ, r23, rfl, gr23, hW, k24, n22_0⟩ := hp
        have hX := hX.tr k24 (by decide)
        have ga0 := k24.1.e ga0 (by decide)
        clear hX0
        refine z_st (st' := [.int (Int32.ofInt r23)]) rfl ?_
        exact z_ireturn dX3_isPlaced_72 rfl (nar01 (b01 (by omega))) (hP _ _ _ hW hX gr23 (by omega))
    · refine z_loc (L' := [(0, .ref (G.1 + a0)), (1, .int (Int32.ofInt l1))]) (List.forall_mem_cons.mpr ⟨rfl, (List.forall_mem_cons.mpr ⟨rfl, (fun _ h => nomatch h)⟩)⟩) ?_
      exact bX3_isPlaced_18 hd hW hX ga0 gl1 (by omega) (by omega)  hP 

set_option maxRecDepth 100000 in
set_option maxHeartbeats 4000000 in
theorem eX1_putText_37 {G : xG} {d : Nat} {Post : xP} {B : Nat × Nat} {τ0 τ : Tau} {c0 cs : List va_E} {a0 pa0 : Nat} {a3 : Nat} {l4 : Int} {l6 : Int} {l7 : Int} {n37 : Nat} (hd : 1 ≤ d) (hW : WT G B τ cs) (hX : Fx [] τ0 c0 τ cs) (ga0 : τ a0 = some (.inl (1, pa0))) (ga3 : oT τ a3 5) (gl4 : rng l4) (gl6 : rng l6) (gl7 : rng l7) (i0 : iv 0 119 l6) (i1 : 0 ≤ l7) (hP : ∀ (τ1 : Tau) (c1 : List va_E), WT G B τ1 c1 → Fx [] τ0 c0 τ1 c1 → Post none c1)  (ih_37 : ∀ {τ : Tau} {cs : List va_E} {a0 pa0 : Nat} {a3 : Nat} {l4 : Int} {l6 : Int} {l7 : Int} (hW : WT G B τ cs) (hX : Fx [] τ0 c0 τ cs) (ga0 : τ a0 = some (.inl (1, pa0))) (ga3 : oT τ a3 5) (gl4 : rng l4) (gl6 : rng l6) (gl7 : rng l7) (i0 : iv 0 119 l6) (i1 : 0 ≤ l7), (20 - l7).toNat < n37 → Z (RX1, cX1_putText, 8, none, false) G d Post 37 [(0, .ref (G.1 + a0)), (3, .ref (G.1 + a3)), (4, .int (Int32.ofInt l4)), (6, .int (Int32.ofInt l6)), (7, .int (Int32.ofInt l7))] [] cs) (hm : (20 - l7).toNat < n37 + 1) : Z (RX1, cX1_putText, 8, none, false) G d Post 37 [(0, .ref (G.1 + a0)), (3, .ref (G.1 + a3)), (4, .int (Int32.ofInt l4)), (6, .int (Int32.ofInt l6)), (7, .int (Int32.ofInt l7))] [] cs := by
  refine z_iload dX1_putText_37 rfl ?_
  refine z_bipush (v := Int32.ofInt 20) dX1_putText_39 (by decide) ?_
  refine i_icmp_ge (tgt := 84) dX1_putText_41 (by decide) gl7 ⟨by decide, by decide⟩ (fun h1 => ?_) (fun h1 => ?_)
  · exact z_return dX1_putText_84 rfl (hP _ _ hW hX)
  · refine z_iload dX1_putText_44 rfl ?_
    refine z_aload_n dX1_putText_46 rfl rfl ?_
    refine t_getA hW ga0 (by decide) (by decide) rfl kX1 fX1_15 dX1_putText_47 (fun b2 _ gb2 => ?_)
    refine z_iload dX1_putText_50 rfl ?_
    refine t_iald hW gb2 (by omega) (by omega) dX1_putText_52 (fun x3 _ vx3 gx3 => ?_)
    refine i_icmp_ge (tgt := 84) dX1_putText_53 (by decide) gl7 gx3 (fun h4 => ?_) (fun h4 => ?_)
    · exact z_return dX1_putText_84 rfl (hP _ _ hW hX)
    · refine z_aload_n dX1_putText_56 rfl rfl ?_
      refine t_getA hW ga0 (by decide) (by decide) rfl kX1 fX1_18 dX1_putText_57 (fun b5 _ gb5 => ?_)
      refine z_iload dX1_putText_60 rfl ?_
      refine z_bipush (v := Int32.ofInt 20) dX1_putText_62 (by decide) ?_
      refine t_imul dX1_putText_64 (fun z6 gz6 ez6 => ?_)
      first | have ez6 := ez6 ⟨by omega, by omega⟩ | clear ez6
      refine z_iload dX1_putText_65 rfl ?_
      refine t_iadd dX1_putText_67 (fun z7 gz7 ez7 => ?_)
      first | have ez7 := ez7 ⟨by omega, by omega⟩ | clear ez7
      refine z_aload_n dX1_putText_68 rfl rfl ?_
      refine z_iload dX1_putText_69 rfl ?_
      refine z_iload dX1_putText_71 rfl ?_
      refine t_iadd dX1_putText_73 (fun z8 gz8 ez8 => ?_)
      first | have ez8 := ez8 ⟨by omega, by omega⟩ | clear ez8
      have hX0 := kX5_at 0 (Nat.le_refl _) hW ga3 gz8 
      refine z_callV (As := [_]) eX5_at sX5_at lX1_54 rfl dX1_putText_74 (hW.os ga3).choose_spec hX0 (Nat.le_trans (by decide) hd) rfl (Nat.le_of_ble_eq_true rfl) (fun r cs1 hp => ?_)
      obtain ⟨rfl, r10, rfl, gr10, n9_0⟩ := hp
      refine z_st (st' := [.int (Int32.ofInt r10), .int (Int32.ofInt z7), .ref (G.1 + b5)]) rfl ?_
      refine t_iast hW hX gb5 (by omega) (by omega) (any_ok _) dX1_putText_77 (fun c1 q _ => nA hW gb5 (by decide) (by decide) c1 q) (fun cs hW hX _ _ => ?_)
      refine t_iinc (l := l7) dX1_putText_78 rfl (by decide) (fun z11 gz11 ez11 => ?_)
      first | have ez11 := ez11 ⟨by omega, by omega⟩ | clear ez11
      refine z_loc (L' := [(0, .ref (G.1 + a0)), (3, .ref (G.1 + a3)), (4, .int (Int32.ofInt l4)), (6, .int (Int32.ofInt l6)), (7, .int (Int32.ofInt z11))]) (List.forall_mem_cons.mpr ⟨rfl, (List.forall_mem_cons.mpr ⟨rfl, (List.forall_mem_cons.mpr ⟨rfl, (List.forall_mem_cons.mpr ⟨rfl, (List.forall_mem_cons.mpr ⟨rfl, (fun _ h => nomatch h)⟩)⟩)⟩)⟩)⟩) ?_
      refine z_goto (tgt := 37) dX1_putText_81 (by decide) ?_
      refine z_loc (L' := [(0, .ref (G.1 + a0)), (3, .ref (G.1 + a3)), (4, .int (Int32.ofInt l4)), (6, .int (Int32.ofInt l6)), (7, .int (Int32.ofInt z11))]) (List.forall_mem_cons.mpr ⟨rfl, (List.forall_mem_cons.mpr ⟨rfl, (List.forall_mem_cons.mpr ⟨rfl, (List.forall_mem_cons.mpr ⟨rfl, (List.forall_mem_cons.mpr ⟨rfl, (fun _ h => nomatch h)⟩)⟩)⟩)⟩)⟩) ?_
      exact ih_37 hW hX ga0 ga3 gl4 gl6 gz11 (by omega) (by omega) (by omega)
set_option maxRecDepth 100000 in
set_option maxHeartbeats 4000000 in
theorem bX1_putText_37 {G : xG} {d : Nat} {Post : xP} {B : Nat × Nat} {τ0 τ : Tau} {c0 cs : List va_E} {a0 pa0 : Nat} {a3 : Nat} {l4 : Int} {l6 : Int} {l7 : Int} (hd : 1 ≤ d) (hW : WT G B τ cs) (hX : Fx [] τ0 c0 τ cs) (ga0 : τ a0 = some (.inl (1, pa0))) (ga3 : oT τ a3 5) (gl4 : rng l4) (gl6 : rng l6) (gl7 : rng l7) (i0 : iv 0 119 l6) (i1 : 0 ≤ l7) (hP : ∀ (τ1 : Tau) (c1 : List va_E), WT G B τ1 c1 → Fx [] τ0 c0 τ1 c1 → Post none c1)  : Z (RX1, cX1_putText, 8, none, false) G d Post 37 [(0, .ref (G.1 + a0)), (3, .ref (G.1 + a3)), (4, .int (Int32.ofInt l4)), (6, .int (Int32.ofInt l6)), (7, .int (Int32.ofInt l7))] [] cs := by
  have key : ∀ (n : Nat) (τ : Tau) (cs : List va_E) (a0 pa0 : Nat) (a3 : Nat) (l4 : Int) (l6 : Int) (l7 : Int) (hW : WT G B τ cs) (hX : Fx [] τ0 c0 τ cs) (ga0 : τ a0 = some (.inl (1, pa0))) (ga3 : oT τ a3 5) (gl4 : rng l4) (gl6 : rng l6) (gl7 : rng l7) (i0 : iv 0 119 l6) (i1 : 0 ≤ l7), (20 - l7).toNat < n → Z (RX1, cX1_putText, 8, none, false) G d Post 37 [(0, .ref (G.1 + a0)), (3, .ref (G.1 + a3)), (4, .int (Int32.ofInt l4)), (6, .int (Int32.ofInt l6)), (7, .int (Int32.ofInt l7))] [] cs := by
    intro n
    induction n with
    | zero => intro τ cs a0 pa0 a3 l4 l6 l7 hW hX ga0 ga3 gl4 gl6 gl7 i0 i1 hm; exact absurd hm (Nat.not_lt_zero _)
    | succ n ih =>
      intro τ cs a0 pa0 a3 l4 l6 l7 hW hX ga0 ga3 gl4 gl6 gl7 i0 i1 hm
      exact eX1_putText_37 hd hW hX ga0 ga3 gl4 gl6 gl7 i0 i1 hP  (fun hW hX ga0 ga3 gl4 gl6 gl7 i0 i1 hm => ih _ _ _ _ _ _ _ _ hW hX ga0 ga3 gl4 gl6 gl7 i0 i1 hm) hm
  exact key _ _ _ _ _ _ _ _ _ hW hX ga0 ga3 gl4 gl6 gl7 i0 i1 (Nat.lt_succ_self _)
set_option maxRecDepth 100000 in
set_option maxHeartbeats 4000000 in
theorem kX1_putText {G : xG} {B : Nat × Nat} {τ : Tau} {cs : List va_E} {a0 pa0 : Nat} {l1 : Int} {l2 : Int} {a3 : Nat} {l4 : Int} {l5 : Int} (d : Nat) (hd : 1 ≤ d) (hW : WT G B τ cs) (ga0 : τ a0 = some (.inl (1, pa0))) (gl1 : rng l1) (gl2 : rng l2) (ga3 : oT τ a3 5) (gl4 : rng l4) (gl5 : rng l5)  : X G yX1_putText cX1_putText 8 none d [.ref (G.1 + a0), .int (Int32.ofInt l1), .int (Int32.ofInt l2), .ref (G.1 + a3), .int (Int32.ofInt l4), .int (Int32.ofInt l5)] cs (wN G B τ cs []) := by
  refine X.of false (by decide +kernel) (by decide) (Nat.le_of_ble_eq_true rfl) ?_
  show Z (RX1, cX1_putText, 8, none, false) G d _ 0 [(0, .ref (G.1 + a0)), (1, .int (Int32.ofInt l1)), (2, .int (Int32.ofInt l2)), (3, .ref (G.1 + a3)), (4, .int (Int32.ofInt l4)), (5, .int (Int32.ofInt l5))] [] cs
  have hP : ∀ (τ1 : Tau) (c1 : List va_E), WT G B τ1 c1 → Fx [] τ cs τ1 c1 → wN G B τ cs [] none c1 := fun τ1 c1 h1 h2 => ⟨τ1, rfl, h1, h2⟩
  have hX : Fx [] τ cs τ cs := Fx.rf
  skip
  refine z_aload_n dX1_putText_0 rfl rfl ?_
  refine z_iload_n dX1_putText_1 rfl rfl ?_
  refine z_iload_n dX1_putText_2 rfl rfl ?_
  have hX0 := kX1_hasField 0 (Nat.le_refl _) hW ga0 gl1 gl2 
  refine z_callV (As := [_, _]) eX1_hasField sX1_hasField lX1_29 rfl dX1_putText_3 (hW.ob ga0 (by decide)).choose_spec hX0 (Nat.le_trans (by decide) hd) rfl (Nat.le_of_ble_eq_true rfl) (fun r cs1 hp => ?_)
  obtain ⟨rfl, r2, rfl, gr2, ⟨n1_0, n1_1⟩⟩ := hp
  refine z_st (st' := [.int (Int32.ofInt r2)]) rfl ?_
  refine i_if_ne (tgt := 10) dX1_putText_6 (by decide) gr2 (fun h3 => ?_) (fun h3 => ?_)
  · refine z_iload_n dX1_putText_10 rfl rfl ?_
    refine z_iconst (v := Int32.ofInt 4) dX1_putText_11 rfl ?_
    refine t_imul dX1_putText_12 (fun z4 gz4 ez4 => ?_)
    first | have ez4 := ez4 ⟨by omega, by omega⟩ | clear ez4
    refine z_iload_n dX1_putText_13 rfl rfl ?_
    refine t_iadd dX1_putText_14 (fun z5 gz5 ez5 => ?_)
    first | have ez5 := ez5 ⟨by omega, by omega⟩ | clear ez5
    refine z_istore dX1_putText_15 (by decide) ?_
    refine z_loc (L' := [(0, .ref (G.1 + a0)), (1, .int (Int32.ofInt l1)), (2, .int (Int32.ofInt l2)), (3, .ref (G.1 + a3)), (4, .int (Int32.ofInt l4)), (5, .int (Int32.ofInt l5)), (6, .int (Int32.ofInt z5))]) (List.forall_mem_cons.mpr ⟨rfl, (List.forall_mem_cons.mpr ⟨rfl, (List.forall_mem_cons.mpr ⟨rfl, (List.forall_mem_cons.mpr ⟨rfl, (List.forall_mem_cons.mpr ⟨rfl, (List.forall_mem_cons.mpr ⟨rfl, (List.forall_mem_cons.mpr ⟨rfl, (fun _ h => nomatch h)⟩)⟩)⟩)⟩)⟩)⟩)⟩) ?_
    refine z_aload_n dX1_putText_17 rfl rfl ?_
    refine t_getA hW ga0 (by decide) (by decide) rfl kX1 fX1_15 dX1_putText_18 (fun b6 _ gb6 => ?_)
    refine z_iload dX1_putText_21 rfl ?_
    refine z_iload dX1_putText_23 rfl ?_
    refine z_iload dX1_putText_25 rfl ?_
    refine t_isub dX1_putText_27 (fun z7 gz7 ez7 => ?_)
    first | have ez7 := ez7 ⟨by omega, by omega⟩ | clear ez7
    refine z_bipush (v := Int32.ofInt 20) dX1_putText_28 (by decide) ?_
    refine t_mmin lX1_49 sJ9_min_7cf53 bJ9 dX1_putText_30 (Nat.le_trans (by decide) hd) (Nat.le_of_ble_eq_true rfl) (fun z8 gz8 => ?_)
    refine t_iast hW hX gb6 (by omega) (by omega) (any_ok _) dX1_putText_33 (fun c1 q _ => nA hW gb6 (by decide) (by decide) c1 q) (fun cs hW hX _ _ => ?_)
    refine z_iconst (v := Int32.ofInt 0) dX1_putText_34 rfl ?_
    refine z_istore dX1_putText_35 (by decide) ?_
    refine z_loc (L' := [(0, .ref (G.1 + a0)), (1, .int (Int32.ofInt l1)), (2, .int (Int32.ofInt l2)), (3, .ref (G.1 + a3)), (4, .int (Int32.ofInt l4)), (5, .int (Int32.ofInt l5)), (6, .int (Int32.ofInt z5)), (7, .int (Int32.ofInt 0))]) (List.forall_mem_cons.mpr ⟨rfl, (List.forall_mem_cons.mpr ⟨rfl, (List.forall_mem_cons.mpr ⟨rfl, (List.forall_mem_cons.mpr ⟨rfl, (List.forall_mem_cons.mpr ⟨rfl, (List.forall_mem_cons.mpr ⟨rfl, (List.forall_mem_cons.mpr ⟨rfl, (List.forall_mem_cons.mpr ⟨rfl, (fun _ h => nomatch h)⟩)⟩)⟩)⟩)⟩)⟩)⟩)⟩) ?_
    refine z_loc (L' := [(0, .ref (G.1 + a0)), (3, .ref (G.1 + a3)), (4, .int (Int32.ofInt l4)), (6, .int (Int32.ofInt z5)), (7, .int (Int32.ofInt 0))]) (List.forall_mem_cons.mpr ⟨rfl, (List.forall_mem_cons.mpr ⟨rfl, (List.forall_mem_cons.mpr ⟨rfl, (List.forall_mem_cons.mpr ⟨rfl, (List.forall_mem_cons.mpr ⟨rfl, (fun _ h => nomatch h)⟩)⟩)⟩)⟩)⟩) ?_
    exact bX1_putText_37 hd hW hX ga0 ga3 gl4 gz5 ⟨by decide, by decide⟩ (by omega) (by omega)  hP 
  · exact z_return dX1_putText_9 rfl (hP _ _ hW hX)

set_option maxRecDepth 100000 in
set_option maxHeartbeats 4000000 in
theorem bX3_fillsNumber_128 {G : xG} {d : Nat} {Post : xP} {B : Nat × Nat} {τ0 τ : Tau} {c0 cs : List va_E} {a0 pm : Nat} {l1 : Int} {l2 : Int} {s0 : Int} (hd : 2 ≤ d) (hW : WT G B τ cs) (hX : Fx [] τ0 c0 τ cs) (ga0 : τ a0 = some (.inl (3, pm))) (gl1 : rng l1) (gl2 : rng l2) (gs0 : rngL s0)  (hP : ∀ (τ1 : Tau) (c1 : List va_E) (r : Int), WT G B τ1 c1 → Fx [] τ0 c0 τ1 c1 → rng r → ((iv 0 1 r)) → Post (some (.int (Int32.ofInt r))) c1)  : Z (RX3, cX3_fillsNumber, 10, some .boolean, false) G d Post 128 [(0, .ref (G.1 + a0)), (1, .int (Int32.ofInt l1)), (2, .int (Int32.ofInt l2))] [.long (Int64.ofInt s0)] cs := by
  refine z_lstore dX3_fillsNumber_128 (by decide) ?_
  refine z_loc (L' := [(0, .ref (G.1 + a0)), (1, .int (Int32.ofInt l1)), (2, .int (Int32.ofInt l2)), (7, .long (Int64.ofInt s0))]) (List.forall_mem_cons.mpr ⟨rfl, (List.forall_mem_cons.mpr ⟨rfl, (List.forall_mem_cons.mpr ⟨rfl, (List.forall_mem_cons.mpr ⟨rfl, (fun _ h => nomatch h)⟩)⟩)⟩)⟩) ?_
  refine z_lload dX3_fillsNumber_130 rfl ?_
  refine z_lload dX3_fillsNumber_132 rfl ?_
  refine t_l2i dX3_fillsNumber_134 (fun z1 gz1 => ?_)
  refine t_i2l dX3_fillsNumber_135 (fun z2 gz2 => ?_)
  refine i_lcmp_eq (tgt := 142) dX3_fillsNumber_136 dX3_fillsNumber_137 (by decide) gs0 gz2 (fun h3 => ?_) (fun h3 => ?_)
  · refine z_aload_n dX3_fillsNumber_142 rfl rfl ?_
    refine t_getO hW ga0 (by decide) (by decide) rfl kX3 fX3_37 dX3_fillsNumber_143 (fun b4 pb4 gb4 => ?_)
    refine z_iload_n dX3_fillsNumber_146 rfl rfl ?_
    refine z_iload_n dX3_fillsNumber_147 rfl rfl ?_
    refine z_lload dX3_fillsNumber_148 rfl ?_
    refine t_l2i dX3_fillsNumber_150 (fun z5 gz5 => ?_)
    have hX0 := kX1_putHead 1 (Nat.le_refl _) hW gb4 gl1 gl2 gz5 
    refine z_callV (As := [_, _, _]) eX1_putHead sX1_putHead lX3_152 rfl dX3_fillsNumber_151 (hW.ob gb4 (by decide)).choose_spec hX0 (Nat.le_trans (by decide) hd) rfl (Nat.le_of_ble_eq_true rfl) (fun r cs1 hp => ?_)
    obtain ⟨τ, rfl, hW, k8⟩ := hp
    have hX := hX.tr k8 (by decide)
    have ga0 := k8.1.e ga0 (by decide)
    clear hX0
    refine z_st (st' := []) rfl ?_
    refine z_iconst (v := Int32.ofInt 1) dX3_fillsNumber_154 rfl ?_
    exact z_ireturn dX3_fillsNumber_155 rfl (nar01 (b01 ⟨by decide, by decide⟩)) (hP _ _ _ hW hX ⟨by decide, by decide⟩ (by omega))
  · refine z_iconst (v := Int32.ofInt 0) dX3_fillsNumber_140 rfl ?_
    exact z_ireturn dX3_fillsNumber_141 rfl (nar01 (b01 ⟨by decide, by decide⟩)) (hP _ _ _ hW hX ⟨by decide, by decide⟩ (by omega))
set_option maxRecDepth 100000 in
set_option maxHeartbeats 4000000 in
theorem eX3_fillsNumber_62 {G : xG} {d : Nat} {Post : xP} {B : Nat × Nat} {τ0 τ : Tau} {c0 cs : List va_E} {a0 pm : Nat} {l1 : Int} {l2 : Int} {l4 : Int} {l5 : Int} {l7 : Int} {l9 : Int} {n62 : Nat} (hd : 2 ≤ d) (hW : WT G B τ cs) (hX : Fx [] τ0 c0 τ cs) (ga0 : τ a0 = some (.inl (3, pm))) (gl1 : rng l1) (gl2 : rng l2) (gl4 : rng l4) (gl5 : rng l5) (bl5 : iv 0 1 l5) (gl7 : rngL l7) (gl9 : rng l9)  (hP : ∀ (τ1 : Tau) (c1 : List va_E) (r : Int), WT G B τ1 c1 → Fx [] τ0 c0 τ1 c1 → rng r → ((iv 0 1 r)) → Post (some (.int (Int32.ofInt r))) c1)  (ih_62 : ∀ {τ : Tau} {cs : List va_E} {a0 pm : Nat} {l1 : Int} {l2 : Int} {l4 : Int} {l5 : Int} {l7 : Int} {l9 : Int} (hW : WT G B τ cs) (hX : Fx [] τ0 c0 τ cs) (ga0 : τ a0 = some (.inl (3, pm))) (gl1 : rng l1) (gl2 : rng l2) (gl4 : rng l4) (gl5 : rng l5) (bl5 : iv 0 1 l5) (gl7 : rngL l7) (gl9 : rng l9) , (l4 - l9).toNat < n62 → Z (RX3, cX3_fillsNumber, 10, some .boolean, false) G d Post 62 [(0, .ref (G.1 + a0)), (1, .int (Int32.ofInt l1)), (2, .int (Int32.ofInt l2)), (4, .int (Int32.ofInt l4)), (5, .int (Int32.ofInt l5)), (7, .long (Int64.ofInt l7)), (9, .int (Int32.ofInt l9))] [] cs) (hm : (l4 - l9).toNat < n62 + 1) : Z (RX3, cX3_fillsNumber, 10, some .boolean, false) G d Post 62 [(0, .ref (G.1 + a0)), (1, .int (Int32.ofInt l1)), (2, .int (Int32.ofInt l2)), (4, .int (Int32.ofInt l4)), (5, .int (Int32.ofInt l5)), (7, .long (Int64.ofInt l7)), (9, .int (Int32.ofInt l9))] [] cs := by
  refine z_iload dX3_fillsNumber_62 rfl ?_
  refine z_iload dX3_fillsNumber_64 rfl ?_
  refine i_icmp_ge (tgt := 115) dX3_fillsNumber_66 (by decide) gl9 gl4 (fun h1 => ?_) (fun h1 => ?_)
  · refine z_iload dX3_fillsNumber_115 rfl ?_
    refine i_if_eq (tgt := 126) dX3_fillsNumber_117 (by decide) gl5 (fun h2 => ?_) (fun h2 => ?_)
    · refine z_lload dX3_fillsNumber_126 rfl ?_
      refine z_loc (L' := [(0, .ref (G.1 + a0)), (1, .int (Int32.ofInt l1)), (2, .int (Int32.ofInt l2))]) (List.forall_mem_cons.mpr ⟨rfl, (List.forall_mem_cons.mpr ⟨rfl, (List.forall_mem_cons.mpr ⟨rfl, (fun _ h => nomatch h)⟩)⟩)⟩) ?_
      exact bX3_fillsNumber_128 hd hW hX ga0 gl1 gl2 gl7   hP 
    · refine z_lload dX3_fillsNumber_120 rfl ?_
      refine t_lneg dX3_fillsNumber_122 (fun z3 gz3 => ?_)
      refine z_goto (tgt := 128) dX3_fillsNumber_123 (by decide) ?_
      refine z_loc (L' := [(0, .ref (G.1 + a0)), (1, .int (Int32.ofInt l1)), (2, .int (Int32.ofInt l2))]) (List.forall_mem_cons.mpr ⟨rfl, (List.forall_mem_cons.mpr ⟨rfl, (List.forall_mem_cons.mpr ⟨rfl, (fun _ h => nomatch h)⟩)⟩)⟩) ?_
      exact bX3_fillsNumber_128 hd hW hX ga0 gl1 gl2 gz3   hP 
  · refine z_aload_n dX3_fillsNumber_69 rfl rfl ?_
    refine t_getO hW ga0 (by decide) (by decide) rfl kX3 fX3_35 dX3_fillsNumber_70 (fun b4 pb4 gb4 => ?_)
    have gb4 : oT τ b4 5 := ⟨_, gb4⟩
    refine z_iload dX3_fillsNumber_73 rfl ?_
    have hX0 := kX5_at 0 (Nat.le_refl _) hW gb4 gl9 
    refine z_callV (As := [_]) eX5_at sX5_at lX3_211 rfl dX3_fillsNumber_75 (hW.os gb4).choose_spec hX0 (Nat.le_trans (by decide) hd) rfl (Nat.le_of_ble_eq_true rfl) (fun r cs1 hp => ?_)
    obtain ⟨rfl, r6, rfl, gr6, n5_0⟩ := hp
    refine z_st (st' := [.int (Int32.ofInt r6)]) rfl ?_
    have hX0 := kX10_isDigit 0 (Nat.le_refl _) hW gr6 
    refine z_callSN (As := [_]) eX10_isDigit sX10_isDigit lX3_214 dX3_fillsNumber_78 hX0 (Nat.le_trans (by decide) hd) rfl (Nat.le_of_ble_eq_true rfl) (fun r cs1 hp => ?_)
    obtain ⟨rfl, r8, rfl, gr8, n7_0⟩ := hp
    refine z_st (st' := [.int (Int32.ofInt r8)]) rfl ?_
    refine i_if_ne (tgt := 86) dX3_fillsNumber_81 (by decide) gr8 (fun h9 => ?_) (fun h9 => ?_)
    · refine z_lload dX3_fillsNumber_86 rfl ?_
      refine i_ldc2 (n := 10) qX3_228 rfl dX3_fillsNumber_88 ?_
      refine t_lmul dX3_fillsNumber_91 (fun z10 gz10 => ?_)
      refine z_aload_n dX3_fillsNumber_92 rfl rfl ?_
      refine t_getO hW ga0 (by decide) (by decide) rfl kX3 fX3_35 dX3_fillsNumber_93 (fun b11 pb11 gb11 => ?_)
      have gb11 : oT τ b11 5 := ⟨_, gb11⟩
      refine z_iload dX3_fillsNumber_96 rfl ?_
      have hX0 := kX5_at 0 (Nat.le_refl _) hW gb11 gl9 
      refine z_callV (As := [_]) eX5_at sX5_at lX3_211 rfl dX3_fillsNumber_98 (hW.os gb11).choose_spec hX0 (Nat.le_trans (by decide) hd) rfl (Nat.le_of_ble_eq_true rfl) (fun r cs1 hp => ?_)
      obtain ⟨rfl, r13, rfl, gr13, n12_0⟩ := hp
      refine z_st (st' := [.int (Int32.ofInt r13), .long (Int64.ofInt z10)]) rfl ?_
      refine t_i2l dX3_fillsNumber_101 (fun z14 gz14 => ?_)
      refine t_ladd dX3_fillsNumber_102 (fun z15 gz15 => ?_)
      refine i_ldc2 (n := 48) qX3_230 rfl dX3_fillsNumber_103 ?_
      refine t_lsub dX3_fillsNumber_106 (fun z16 gz16 => ?_)
      refine z_lstore dX3_fillsNumber_107 (by decide) ?_
      refine z_loc (L' := [(0, .ref (G.1 + a0)), (1, .int (Int32.ofInt l1)), (2, .int (Int32.ofInt l2)), (4, .int (Int32.ofInt l4)), (5, .int (Int32.ofInt l5)), (7, .long (Int64.ofInt z16)), (9, .int (Int32.ofInt l9))]) (List.forall_mem_cons.mpr ⟨rfl, (List.forall_mem_cons.mpr ⟨rfl, (List.forall_mem_cons.mpr ⟨rfl, (List.forall_mem_cons.mpr ⟨rfl, (List.forall_mem_cons.mpr ⟨rfl, (List.forall_mem_cons.mpr ⟨rfl, (List.forall_mem_cons.mpr ⟨rfl, (fun _ h => nomatch h)⟩)⟩)⟩)⟩)⟩)⟩)⟩) ?_
      refine t_iinc (l := l9) dX3_fillsNumber_109 rfl (by decide) (fun z17 gz17 ez17 => ?_)
      first | have ez17 := ez17 ⟨by omega, by omega⟩ | clear ez17
      refine z_loc (L' := [(0, .ref (G.1 + a0)), (1, .int (Int32.ofInt l1)), (2, .int (Int32.ofInt l2)), (4, .int (Int32.ofInt l4)), (5, .int (Int32.ofInt l5)), (7, .long (Int64.ofInt z16)), (9, .int (Int32.ofInt z17))]) (List.forall_mem_cons.mpr ⟨rfl, (List.forall_mem_cons.mpr ⟨rfl, (List.forall_mem_cons.mpr ⟨rfl, (List.forall_mem_cons.mpr ⟨rfl, (List.forall_mem_cons.mpr ⟨rfl, (List.forall_mem_cons.mpr ⟨rfl, (List.forall_mem_cons.mpr ⟨rfl, (fun _ h => nomatch h)⟩)⟩)⟩)⟩)⟩)⟩)⟩) ?_
      refine z_goto (tgt := 62) dX3_fillsNumber_112 (by decide) ?_
      refine z_loc (L' := [(0, .ref (G.1 + a0)), (1, .int (Int32.ofInt l1)), (2, .int (Int32.ofInt l2)), (4, .int (Int32.ofInt l4)), (5, .int (Int32.ofInt l5)), (7, .long (Int64.ofInt z16)), (9, .int (Int32.ofInt z17))]) (List.forall_mem_cons.mpr ⟨rfl, (List.forall_mem_cons.mpr ⟨rfl, (List.forall_mem_cons.mpr ⟨rfl, (List.forall_mem_cons.mpr ⟨rfl, (List.forall_mem_cons.mpr ⟨rfl, (List.forall_mem_cons.mpr ⟨rfl, (List.forall_mem_cons.mpr ⟨rfl, (fun _ h => nomatch h)⟩)⟩)⟩)⟩)⟩)⟩)⟩) ?_
      exact ih_62 hW hX ga0 gl1 gl2 gl4 gl5 (by omega) gz16 gz17  (by omega)
    · refine z_iconst (v := Int32.ofInt 0) dX3_fillsNumber_84 rfl ?_
      exact z_ireturn dX3_fillsNumber_85 rfl (nar01 (b01 ⟨by decide, by decide⟩)) (hP _ _ _ hW hX ⟨by decide, by decide⟩ (by omega))
set_option maxRecDepth 100000 in
set_option maxHeartbeats 4000000 in
theorem bX3_fillsNumber_62 {G : xG} {d : Nat} {Post : xP} {B : Nat × Nat} {τ0 τ : Tau} {c0 cs : List va_E} {a0 pm : Nat} {l1 : Int} {l2 : Int} {l4 : Int} {l5 : Int} {l7 : Int} {l9 : Int} (hd : 2 ≤ d) (hW : WT G B τ cs) (hX : Fx [] τ0 c0 τ cs) (ga0 : τ a0 = some (.inl (3, pm))) (gl1 : rng l1) (gl2 : rng l2) (gl4 : rng l4) (gl5 : rng l5) (bl5 : iv 0 1 l5) (gl7 : rngL l7) (gl9 : rng l9)  (hP : ∀ (τ1 : Tau) (c1 : List va_E) (r : Int), WT G B τ1 c1 → Fx [] τ0 c0 τ1 c1 → rng r → ((iv 0 1 r)) → Post (some (.int (Int32.ofInt r))) c1)  : Z (RX3, cX3_fillsNumber, 10, some .boolean, false) G d Post 62 [(0, .ref (G.1 + a0)), (1, .int (Int32.ofInt l1)), (2, .int (Int32.ofInt l2)), (4, .int (Int32.ofInt l4)), (5, .int (Int32.ofInt l5)), (7, .long (Int64.ofInt l7)), (9, .int (Int32.ofInt l9))] [] cs := by
  have key : ∀ (n : Nat) (τ : Tau) (cs : List va_E) (a0 pm : Nat) (l1 : Int) (l2 : Int) (l4 : Int) (l5 : Int) (l7 : Int) (l9 : Int) (hW : WT G B τ cs) (hX : Fx [] τ0 c0 τ cs) (ga0 : τ a0 = some (.inl (3, pm))) (gl1 : rng l1) (gl2 : rng l2) (gl4 : rng l4) (gl5 : rng l5) (bl5 : iv 0 1 l5) (gl7 : rngL l7) (gl9 : rng l9) , (l4 - l9).toNat < n → Z (RX3, cX3_fillsNumber, 10, some .boolean, false) G d Post 62 [(0, .ref (G.1 + a0)), (1, .int (Int32.ofInt l1)), (2, .int (Int32.ofInt l2)), (4, .int (Int32.ofInt l4)), (5, .int (Int32.ofInt l5)), (7, .long (Int64.ofInt l7)), (9, .int (Int32.ofInt l9))] [] cs := by
    intro n
    induction n with
    | zero => intro τ cs a0 pm l1 l2 l4 l5 l7 l9 hW hX ga0 gl1 gl2 gl4 gl5 bl5 gl7 gl9 hm; exact absurd hm (Nat.not_lt_zero _)
    | succ n ih =>
      intro τ cs a0 pm l1 l2 l4 l5 l7 l9 hW hX ga0 gl1 gl2 gl4 gl5 bl5 gl7 gl9 hm
      exact eX3_fillsNumber_62 hd hW hX ga0 gl1 gl2 gl4 gl5 bl5 gl7 gl9 hP  (fun hW hX ga0 gl1 gl2 gl4 gl5 bl5 gl7 gl9 hm => ih _ _ _ _ _ _ _ _ _ _ hW hX ga0 gl1 gl2 gl4 gl5 bl5 gl7 gl9 hm) hm
  exact key _ _ _ _ _ _ _ _ _ _ _ hW hX ga0 gl1 gl2 gl4 gl5 bl5 gl7 gl9 (Nat.lt_succ_self _)
set_option maxRecDepth 100000 in
set_option maxHeartbeats 4000000 in
theorem bX3_fillsNumber_32 {G : xG} {d : Nat} {Post : xP} {B : Nat × Nat} {τ0 τ : Tau} {c0 cs : List va_E} {a0 pm : Nat} {l1 : Int} {l2 : Int} {l4 : Int} {l5 : Int} {s0 : Int} (hd : 2 ≤ d) (hW : WT G B τ cs) (hX : Fx [] τ0 c0 τ cs) (ga0 : τ a0 = some (.inl (3, pm))) (gl1 : rng l1) (gl2 : rng l2) (gl4 : rng l4) (gl5 : rng l5) (bl5 : iv 0 1 l5) (gs0 : rng s0)  (hP : ∀ (τ1 : Tau) (c1 : List va_E) (r : Int), WT G B τ1 c1 → Fx [] τ0 c0 τ1 c1 → rng r → ((iv 0 1 r)) → Post (some (.int (Int32.ofInt r))) c1)  : Z (RX3, cX3_fillsNumber, 10, some .boolean, false) G d Post 32 [(0, .ref (G.1 + a0)), (1, .int (Int32.ofInt l1)), (2, .int (Int32.ofInt l2)), (4, .int (Int32.ofInt l4)), (5, .int (Int32.ofInt l5))] [.int (Int32.ofInt s0)] cs := by
  refine z_istore dX3_fillsNumber_32 (by decide) ?_
  refine z_loc (L' := [(0, .ref (G.1 + a0)), (1, .int (Int32.ofInt l1)), (2, .int (Int32.ofInt l2)), (4, .int (Int32.ofInt l4)), (5, .int (Int32.ofInt l5)), (6, .int (Int32.ofInt s0))]) (List.forall_mem_cons.mpr ⟨rfl, (List.forall_mem_cons.mpr ⟨rfl, (List.forall_mem_cons.mpr ⟨rfl, (List.forall_mem_cons.mpr ⟨rfl, (List.forall_mem_cons.mpr ⟨rfl, (List.forall_mem_cons.mpr ⟨rfl, (fun _ h => nomatch h)⟩)⟩)⟩)⟩)⟩)⟩) ?_
  refine z_iload dX3_fillsNumber_34 rfl ?_
  refine z_iload dX3_fillsNumber_36 rfl ?_
  refine t_isub dX3_fillsNumber_38 (fun z1 gz1 ez1 => ?_)
  first | have ez1 := ez1 ⟨by omega, by omega⟩ | clear ez1
  refine z_iconst (v := Int32.ofInt 1) dX3_fillsNumber_39 rfl ?_
  refine i_icmp_lt (tgt := 53) dX3_fillsNumber_40 (by decide) gz1 ⟨by decide, by decide⟩ (fun h2 => ?_) (fun h2 => ?_)
  · refine z_iconst (v := Int32.ofInt 0) dX3_fillsNumber_53 rfl ?_
    exact z_ireturn dX3_fillsNumber_54 rfl (nar01 (b01 ⟨by decide, by decide⟩)) (hP _ _ _ hW hX ⟨by decide, by decide⟩ (by omega))
  · refine z_iload dX3_fillsNumber_43 rfl ?_
    refine z_iload dX3_fillsNumber_45 rfl ?_
    refine t_isub dX3_fillsNumber_47 (fun z3 gz3 ez3 => ?_)
    first | have ez3 := ez3 ⟨by omega, by omega⟩ | clear ez3
    refine z_bipush (v := Int32.ofInt 10) dX3_fillsNumber_48 (by decide) ?_
    refine i_icmp_le (tgt := 55) dX3_fillsNumber_50 (by decide) gz3 ⟨by decide, by decide⟩ (fun h4 => ?_) (fun h4 => ?_)
    · refine z_lconst (v := Int64.ofInt 0) dX3_fillsNumber_55 (by decide) ?_
      refine z_lstore dX3_fillsNumber_56 (by decide) ?_
      refine z_loc (L' := [(0, .ref (G.1 + a0)), (1, .int (Int32.ofInt l1)), (2, .int (Int32.ofInt l2)), (4, .int (Int32.ofInt l4)), (5, .int (Int32.ofInt l5)), (6, .int (Int32.ofInt s0)), (7, .long (Int64.ofInt 0))]) (List.forall_mem_cons.mpr ⟨rfl, (List.forall_mem_cons.mpr ⟨rfl, (List.forall_mem_cons.mpr ⟨rfl, (List.forall_mem_cons.mpr ⟨rfl, (List.forall_mem_cons.mpr ⟨rfl, (List.forall_mem_cons.mpr ⟨rfl, (List.forall_mem_cons.mpr ⟨rfl, (fun _ h => nomatch h)⟩)⟩)⟩)⟩)⟩)⟩)⟩) ?_
      refine z_iload dX3_fillsNumber_58 rfl ?_
      refine z_istore dX3_fillsNumber_60 (by decide) ?_
      refine z_loc (L' := [(0, .ref (G.1 + a0)), (1, .int (Int32.ofInt l1)), (2, .int (Int32.ofInt l2)), (4, .int (Int32.ofInt l4)), (5, .int (Int32.ofInt l5)), (6, .int (Int32.ofInt s0)), (7, .long (Int64.ofInt 0)), (9, .int (Int32.ofInt s0))]) (List.forall_mem_cons.mpr ⟨rfl, (List.forall_mem_cons.mpr ⟨rfl, (List.forall_mem_cons.mpr ⟨rfl, (List.forall_mem_cons.mpr ⟨rfl, (List.forall_mem_cons.mpr ⟨rfl, (List.forall_mem_cons.mpr ⟨rfl, (List.forall_mem_cons.mpr ⟨rfl, (List.forall_mem_cons.mpr ⟨rfl, (fun _ h => nomatch h)⟩)⟩)⟩)⟩)⟩)⟩)⟩)⟩) ?_
      refine z_loc (L' := [(0, .ref (G.1 + a0)), (1, .int (Int32.ofInt l1)), (2, .int (Int32.ofInt l2)), (4, .int (Int32.ofInt l4)), (5, .int (Int32.ofInt l5)), (7, .long (Int64.ofInt 0)), (9, .int (Int32.ofInt s0))]) (List.forall_mem_cons.mpr ⟨rfl, (List.forall_mem_cons.mpr ⟨rfl, (List.forall_mem_cons.mpr ⟨rfl, (List.forall_mem_cons.mpr ⟨rfl, (List.forall_mem_cons.mpr ⟨rfl, (List.forall_mem_cons.mpr ⟨rfl, (List.forall_mem_cons.mpr ⟨rfl, (fun _ h => nomatch h)⟩)⟩)⟩)⟩)⟩)⟩)⟩) ?_
      exact bX3_fillsNumber_62 hd hW hX ga0 gl1 gl2 gl4 gl5 (by omega) ⟨by decide, by decide⟩ gs0   hP 
    · refine z_iconst (v := Int32.ofInt 0) dX3_fillsNumber_53 rfl ?_
      exact z_ireturn dX3_fillsNumber_54 rfl (nar01 (b01 ⟨by decide, by decide⟩)) (hP _ _ _ hW hX ⟨by decide, by decide⟩ (by omega))
set_option maxRecDepth 100000 in
set_option maxHeartbeats 4000000 in
theorem bX3_fillsNumber_18 {G : xG} {d : Nat} {Post : xP} {B : Nat × Nat} {τ0 τ : Tau} {c0 cs : List va_E} {a0 pm : Nat} {l1 : Int} {l2 : Int} {l3 : Int} {l4 : Int} {s0 : Int} (hd : 2 ≤ d) (hW : WT G B τ cs) (hX : Fx [] τ0 c0 τ cs) (ga0 : τ a0 = some (.inl (3, pm))) (gl1 : rng l1) (gl2 : rng l2) (gl3 : rng l3) (gl4 : rng l4) (gs0 : rng s0) (bs0 : iv 0 1 s0)  (hP : ∀ (τ1 : Tau) (c1 : List va_E) (r : Int), WT G B τ1 c1 → Fx [] τ0 c0 τ1 c1 → rng r → ((iv 0 1 r)) → Post (some (.int (Int32.ofInt r))) c1)  : Z (RX3, cX3_fillsNumber, 10, some .boolean, false) G d Post 18 [(0, .ref (G.1 + a0)), (1, .int (Int32.ofInt l1)), (2, .int (Int32.ofInt l2)), (3, .int (Int32.ofInt l3)), (4, .int (Int32.ofInt l4))] [.int (Int32.ofInt s0)] cs := by
  refine z_istore dX3_fillsNumber_18 (by decide) ?_
  refine z_loc (L' := [(0, .ref (G.1 + a0)), (1, .int (Int32.ofInt l1)), (2, .int (Int32.ofInt l2)), (3, .int (Int32.ofInt l3)), (4, .int (Int32.ofInt l4)), (5, .int (Int32.ofInt s0))]) (List.forall_mem_cons.mpr ⟨rfl, (List.forall_mem_cons.mpr ⟨rfl, (List.forall_mem_cons.mpr ⟨rfl, (List.forall_mem_cons.mpr ⟨rfl, (List.forall_mem_cons.mpr ⟨rfl, (List.forall_mem_cons.mpr ⟨rfl, (fun _ h => nomatch h)⟩)⟩)⟩)⟩)⟩)⟩) ?_
  refine z_iload dX3_fillsNumber_20 rfl ?_
  refine i_if_eq (tgt := 31) dX3_fillsNumber_22 (by decide) gs0 (fun h1 => ?_) (fun h1 => ?_)
  · refine z_iload_n dX3_fillsNumber_31 rfl rfl ?_
    refine z_loc (L' := [(0, .ref (G.1 + a0)), (1, .int (Int32.ofInt l1)), (2, .int (Int32.ofInt l2)), (4, .int (Int32.ofInt l4)), (5, .int (Int32.ofInt s0))]) (List.forall_mem_cons.mpr ⟨rfl, (List.forall_mem_cons.mpr ⟨rfl, (List.forall_mem_cons.mpr ⟨rfl, (List.forall_mem_cons.mpr ⟨rfl, (List.forall_mem_cons.mpr ⟨rfl, (fun _ h => nomatch h)⟩)⟩)⟩)⟩)⟩) ?_
    exact bX3_fillsNumber_32 hd hW hX ga0 gl1 gl2 gl4 gs0 (by omega) gl3   hP 
  · refine z_iload_n dX3_fillsNumber_25 rfl rfl ?_
    refine z_iconst (v := Int32.ofInt 1) dX3_fillsNumber_26 rfl ?_
    refine t_iadd dX3_fillsNumber_27 (fun z2 gz2 ez2 => ?_)
    first | have ez2 := ez2 ⟨by omega, by omega⟩ | clear ez2
    refine z_goto (tgt := 32) dX3_fillsNumber_28 (by decide) ?_
    refine z_loc (L' := [(0, .ref (G.1 + a0)), (1, .int (Int32.ofInt l1)), (2, .int (Int32.ofInt l2)), (4, .int (Int32.ofInt l4)), (5, .int (Int32.ofInt s0))]) (List.forall_mem_cons.mpr ⟨rfl, (List.forall_mem_cons.mpr ⟨rfl, (List.forall_mem_cons.mpr ⟨rfl, (List.forall_mem_cons.mpr ⟨rfl, (List.forall_mem_cons.mpr ⟨rfl, (fun _ h => nomatch h)⟩)⟩)⟩)⟩)⟩) ?_
    exact bX3_fillsNumber_32 hd hW hX ga0 gl1 gl2 gl4 gs0 (by omega) gz2   hP 
set_option maxRecDepth 100000 in
set_option maxHeartbeats 4000000 in
theorem kX3_fillsNumber {G : xG} {B : Nat × Nat} {τ : Tau} {cs : List va_E} {a0 pm : Nat} {l1 : Int} {l2 : Int} {l3 : Int} {l4 : Int} (d : Nat) (hd : 2 ≤ d) (hW : WT G B τ cs) (ga0 : τ a0 = some (.inl (3, pm))) (gl1 : rng l1) (gl2 : rng l2) (gl3 : rng l3) (gl4 : rng l4)  : X G yX3_fillsNumber cX3_fillsNumber 10 (some .boolean) d [.ref (G.1 + a0), .int (Int32.ofInt l1), .int (Int32.ofInt l2), .int (Int32.ofInt l3), .int (Int32.ofInt l4)] cs (wI G B τ cs [] (fun r => (iv 0 1 r))) := by
  refine X.of false (by decide +kernel) (by decide) (Nat.le_of_ble_eq_true rfl) ?_
  show Z (RX3, cX3_fillsNumber, 10, some .boolean, false) G d _ 0 [(0, .ref (G.1 + a0)), (1, .int (Int32.ofInt l1)), (2, .int (Int32.ofInt l2)), (3, .int (Int32.ofInt l3)), (4, .int (Int32.ofInt l4))] [] cs
  have hP : ∀ (τ1 : Tau) (c1 : List va_E) (r : Int), WT G B τ1 c1 → Fx [] τ cs τ1 c1 → rng r → ((iv 0 1 r)) → wI G B τ cs [] (fun r => (iv 0 1 r)) (some (.int (Int32.ofInt r))) c1 := fun τ1 c1 r h1 h2 h3 h4 => ⟨τ1, r, rfl, h3, h1, h2, h4⟩
  have hX : Fx [] τ cs τ cs := Fx.rf
  skip
  refine z_aload_n dX3_fillsNumber_0 rfl rfl ?_
  refine t_getO hW ga0 (by decide) (by decide) rfl kX3 fX3_35 dX3_fillsNumber_1 (fun b1 pb1 gb1 => ?_)
  have gb1 : oT τ b1 5 := ⟨_, gb1⟩
  refine z_iload_n dX3_fillsNumber_4 rfl rfl ?_
  have hX0 := kX5_at 0 (Nat.le_refl _) hW gb1 gl3 
  refine z_callV (As := [_]) eX5_at sX5_at lX3_211 rfl dX3_fillsNumber_5 (hW.os gb1).choose_spec hX0 (Nat.le_trans (by decide) hd) rfl (Nat.le_of_ble_eq_true rfl) (fun r cs1 hp => ?_)
  obtain ⟨rfl, r3, rfl, gr3, n2_0⟩ := hp
  refine z_st (st' := [.int (Int32.ofInt r3)]) rfl ?_
  refine z_bipush (v := Int32.ofInt 45) dX3_fillsNumber_8 (by decide) ?_
  refine i_icmp_ne (tgt := 17) dX3_fillsNumber_10 (by decide) gr3 ⟨by decide, by decide⟩ (fun h4 => ?_) (fun h4 => ?_)
  · refine z_iconst (v := Int32.ofInt 0) dX3_fillsNumber_17 rfl ?_
    refine z_loc (L' := [(0, .ref (G.1 + a0)), (1, .int (Int32.ofInt l1)), (2, .int (Int32.ofInt l2)), (3, .int (Int32.ofInt l3)), (4, .int (Int32.ofInt l4))]) (List.forall_mem_cons.mpr ⟨rfl, (List.forall_mem_cons.mpr ⟨rfl, (List.forall_mem_cons.mpr ⟨rfl, (List.forall_mem_cons.mpr ⟨rfl, (List.forall_mem_cons.mpr ⟨rfl, (fun _ h => nomatch h)⟩)⟩)⟩)⟩)⟩) ?_
    exact bX3_fillsNumber_18 hd hW hX ga0 gl1 gl2 gl3 gl4 ⟨by decide, by decide⟩ ⟨by decide, by decide⟩   hP 
  · refine z_iconst (v := Int32.ofInt 1) dX3_fillsNumber_13 rfl ?_
    refine z_goto (tgt := 18) dX3_fillsNumber_14 (by decide) ?_
    refine z_loc (L' := [(0, .ref (G.1 + a0)), (1, .int (Int32.ofInt l1)), (2, .int (Int32.ofInt l2)), (3, .int (Int32.ofInt l3)), (4, .int (Int32.ofInt l4))]) (List.forall_mem_cons.mpr ⟨rfl, (List.forall_mem_cons.mpr ⟨rfl, (List.forall_mem_cons.mpr ⟨rfl, (List.forall_mem_cons.mpr ⟨rfl, (List.forall_mem_cons.mpr ⟨rfl, (fun _ h => nomatch h)⟩)⟩)⟩)⟩)⟩) ?_
    exact bX3_fillsNumber_18 hd hW hX ga0 gl1 gl2 gl3 gl4 ⟨by decide, by decide⟩ ⟨by decide, by decide⟩   hP 
