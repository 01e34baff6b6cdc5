set_option maxRecDepth 100000 in
set_option maxHeartbeats 4000000 in
theorem kX4_isFieldName {G : xG} {B : Nat × Nat} {τ : Tau} {cs : List va_E} {l0 : Int} (d : Nat) (hd : 0 ≤ d) (hW : WT G B τ cs) (gl0 : rng l0)  : X G yX4_isFieldName cX4_isFieldName 1 (some .boolean) d [.int (Int32.ofInt l0)] cs (rI cs (fun r => (iv 0 1 r))) := by
  refine X.of false (by decide +kernel) (by decide) (Nat.le_of_ble_eq_true rfl) ?_
  show Z (RX4, cX4_isFieldName, 1, some .boolean, false) G d _ 0 [(0, .int (Int32.ofInt l0))] [] cs
  have hP : ∀ r : Int, rng r → ((iv 0 1 r)) → rI cs (fun r => (iv 0 1 r)) (some (.int (Int32.ofInt r))) cs := fun r h1 h2 => ⟨rfl, r, rfl, h1, h2⟩
  refine z_iload_n dX4_isFieldName_0 rfl rfl ?_
  refine z_bipush (v := Int32.ofInt 6) dX4_isFieldName_1 (by decide) ?_
  refine i_icmp_lt (tgt := 10) dX4_isFieldName_3 (by decide) gl0 (show rng 6 from ⟨by decide, by decide⟩) (fun h1 => ?_) (fun h1 => ?_)
  · refine z_iconst (v := Int32.ofInt 0) dX4_isFieldName_10 rfl ?_
    exact z_ireturn dX4_isFieldName_11 rfl (nar01 (b01 ⟨by decide, by decide⟩)) (hP _ (show rng 0 from ⟨by decide, by decide⟩) (by omega))
  · refine z_iconst (v := Int32.ofInt 1) dX4_isFieldName_6 rfl ?_
    refine z_goto (tgt := 11) dX4_isFieldName_7 (by decide) ?_
    exact z_ireturn dX4_isFieldName_11 rfl (nar01 (b01 ⟨by decide, by decide⟩)) (hP _ (show rng 1 from ⟨by decide, by decide⟩) (by omega))

set_option maxRecDepth 100000 in
set_option maxHeartbeats 4000000 in
theorem bX8_escaped_76 {G : xG} {d : Nat} {Post : xP} {B : Nat × Nat} {τ0 τ : Tau} {c0 cs : List va_E} {a0 pa0 : Nat} {l1 : Int} (hd : 5 ≤ d) (hW : WT G B τ cs) (hX : Fx [5] τ0 c0 τ cs) (ga0 : τ a0 = some (.inl (8, pa0))) (gl1 : rng l1)   (hP : ∀ (τ1 : Tau) (c1 : List va_E), WT G B τ1 c1 → Fx [5] τ0 c0 τ1 c1 → Post none c1)  : Z (RX8, cX8_escaped, 3, none, false) G d Post 76 [(0, .ref (G.1 + a0)), (1, .int (Int32.ofInt l1))] [] cs := by
  refine z_aload_n dX8_escaped_76 rfl rfl ?_
  refine tw_getO hW ga0 (by decide) (by decide) rfl kX8 fX8_46 dX8_escaped_77 (fun b1 pb1 gb1 => ?_)
  have gb1 : oT τ b1 5 := ⟨_, gb1⟩
  refine z_iload_n dX8_escaped_80 rfl rfl ?_
  have hX0 := kX5_put 1 (Nat.le_refl _) hW gb1 gl1 
  refine z_callV (As := [_]) eX5_put sX5_put lX8_89 rfl dX8_escaped_81 (hW.os gb1).choose_spec hX0 (Nat.le_trans (by decide) hd) rfl (Nat.le_of_ble_eq_true rfl) (fun r cs hp => ?_)
  obtain ⟨τ, r3, rfl, gr3, hW, k4, n2_0⟩ := hp
  have hX := hX.tr k4 (by decide)
  have ga0 := k4.1.e ga0 (by decide)
  clear hX0
  refine z_st (st' := [.int (Int32.ofInt r3)]) rfl ?_
  refine z_pop dX8_escaped_84 rfl ?_
  exact z_return dX8_escaped_85 rfl (hP _ _ hW hX)
set_option maxRecDepth 100000 in
set_option maxHeartbeats 4000000 in
theorem kX8_escaped {G : xG} {B : Nat × Nat} {τ : Tau} {cs : List va_E} {a0 pa0 : Nat} {l1 : Int} {l2 : Int} (d : Nat) (hd : 5 ≤ d) (hW : WT G B τ cs) (ga0 : τ a0 = some (.inl (8, pa0))) (gl1 : rng l1) (gl2 : rng l2) (p0 : iv 0 1 l2) : X G yX8_escaped cX8_escaped 3 none d [.ref (G.1 + a0), .int (Int32.ofInt l1), .int (Int32.ofInt l2)] cs (wN G B τ cs [5]) := by
  refine X.of false (by decide +kernel) (by decide) (Nat.le_of_ble_eq_true rfl) ?_
  show Z (RX8, cX8_escaped, 3, none, false) G d _ 0 [(0, .ref (G.1 + a0)), (1, .int (Int32.ofInt l1)), (2, .int (Int32.ofInt l2))] [] cs
  have hP : ∀ (τ1 : Tau) (c1 : List va_E), WT G B τ1 c1 → Fx [5] τ cs τ1 c1 → wN G B τ cs [5] none c1 := fun τ1 c1 h1 h2 => ⟨τ1, rfl, h1, h2⟩
  have hX : Fx [5] τ cs τ cs := Fx.rf
  skip
  refine z_iload_n dX8_escaped_0 rfl rfl ?_
  refine z_bipush (v := Int32.ofInt 38) dX8_escaped_1 (by decide) ?_
  refine i_icmp_ne (tgt := 18) dX8_escaped_3 (by decide) gl1 (show rng 38 from ⟨by decide, by decide⟩) (fun h1 => ?_) (fun h1 => ?_)
  · refine z_iload_n dX8_escaped_18 rfl rfl ?_
    refine z_bipush (v := Int32.ofInt 60) dX8_escaped_19 (by decide) ?_
    refine i_icmp_ne (tgt := 36) dX8_escaped_21 (by decide) gl1 (show rng 60 from ⟨by decide, by decide⟩) (fun h2 => ?_) (fun h2 => ?_)
    · refine z_iload_n dX8_escaped_36 rfl rfl ?_
      refine z_bipush (v := Int32.ofInt 62) dX8_escaped_37 (by decide) ?_
      refine i_icmp_ne (tgt := 54) dX8_escaped_39 (by decide) gl1 (show rng 62 from ⟨by decide, by decide⟩) (fun h3 => ?_) (fun h3 => ?_)
      · refine z_iload_n dX8_escaped_54 rfl rfl ?_
        refine z_bipush (v := Int32.ofInt 34) dX8_escaped_55 (by decide) ?_
        refine i_icmp_ne (tgt := 76) dX8_escaped_57 (by decide) gl1 (show rng 34 from ⟨by decide, by decide⟩) (fun h4 => ?_) (fun h4 => ?_)
        · refine z_loc (L' := [(0, .ref (G.1 + a0)), (1, .int (Int32.ofInt l1))]) (List.forall_mem_cons.mpr ⟨rfl, (List.forall_mem_cons.mpr ⟨rfl, (fun _ h => nomatch h)⟩)⟩) ?_
          exact bX8_escaped_76 hd hW hX ga0 gl1   hP 
        · refine z_iload_n dX8_escaped_60 rfl rfl ?_
          refine i_if_eq (tgt := 76) dX8_escaped_61 (by decide) gl2 (fun h5 => ?_) (fun h5 => ?_)
          · refine z_loc (L' := [(0, .ref (G.1 + a0)), (1, .int (Int32.ofInt l1))]) (List.forall_mem_cons.mpr ⟨rfl, (List.forall_mem_cons.mpr ⟨rfl, (fun _ h => nomatch h)⟩)⟩) ?_
            exact bX8_escaped_76 hd hW hX ga0 gl1   hP 
          · refine z_aload_n dX8_escaped_64 rfl rfl ?_
            refine tw_getO hW ga0 (by decide) (by decide) rfl kX8 fX8_46 dX8_escaped_65 (fun b6 pb6 gb6 => ?_)
            have gb6 : oT τ b6 5 := ⟨_, gb6⟩
            refine z_ldcS (i := 12) (tx := "&quot;") (by decide +kernel) dX8_escaped_68 ?_
            have hX0 := kX5_spell 4 (Nat.le_refl _) hW gb6 (show 12 < xN by decide) 
            refine z_callV (As := [_]) eX5_spell sX5_spell lX8_85 rfl dX8_escaped_70 (hW.os gb6).choose_spec hX0 (Nat.le_trans (by decide) hd) rfl (Nat.le_of_ble_eq_true rfl) (fun r cs hp => ?_)
            obtain ⟨τ, rfl, hW, k9⟩ := hp
            have hX := hX.tr k9 (by decide)
            have ga0 := k9.1.e ga0 (by decide)
            clear hX0
            refine z_st (st' := []) rfl ?_
            refine z_goto (tgt := 85) dX8_escaped_73 (by decide) ?_
            exact z_return dX8_escaped_85 rfl (hP _ _ hW hX)
      · refine z_aload_n dX8_escaped_42 rfl rfl ?_
        refine tw_getO hW ga0 (by decide) (by decide) rfl kX8 fX8_46 dX8_escaped_43 (fun b10 pb10 gb10 => ?_)
        have gb10 : oT τ b10 5 := ⟨_, gb10⟩
        refine z_ldcS (i := 11) (tx := "&gt;") (by decide +kernel) dX8_escaped_46 ?_
        have hX0 := kX5_spell 4 (Nat.le_refl _) hW gb10 (show 11 < xN by decide) 
        refine z_callV (As := [_]) eX5_spell sX5_spell lX8_85 rfl dX8_escaped_48 (hW.os gb10).choose_spec hX0 (Nat.le_trans (by decide) hd) rfl (Nat.le_of_ble_eq_true rfl) (fun r cs hp => ?_)
        obtain ⟨τ, rfl, hW, k13⟩ := hp
        have hX := hX.tr k13 (by decide)
        have ga0 := k13.1.e ga0 (by decide)
        clear hX0
        refine z_st (st' := []) rfl ?_
        refine z_goto (tgt := 85) dX8_escaped_51 (by decide) ?_
        exact z_return dX8_escaped_85 rfl (hP _ _ hW hX)
    · refine z_aload_n dX8_escaped_24 rfl rfl ?_
      refine tw_getO hW ga0 (by decide) (by decide) rfl kX8 fX8_46 dX8_escaped_25 (fun b14 pb14 gb14 => ?_)
      have gb14 : oT τ b14 5 := ⟨_, gb14⟩
      refine z_ldcS (i := 10) (tx := "&lt;") (by decide +kernel) dX8_escaped_28 ?_
      have hX0 := kX5_spell 4 (Nat.le_refl _) hW gb14 (show 10 < xN by decide) 
      refine z_callV (As := [_]) eX5_spell sX5_spell lX8_85 rfl dX8_escaped_30 (hW.os gb14).choose_spec hX0 (Nat.le_trans (by decide) hd) rfl (Nat.le_of_ble_eq_true rfl) (fun r cs hp => ?_)
      obtain ⟨τ, rfl, hW, k17⟩ := hp
      have hX := hX.tr k17 (by decide)
      have ga0 := k17.1.e ga0 (by decide)
      clear hX0
      refine z_st (st' := []) rfl ?_
      refine z_goto (tgt := 85) dX8_escaped_33 (by decide) ?_
      exact z_return dX8_escaped_85 rfl (hP _ _ hW hX)
  · refine z_aload_n dX8_escaped_6 rfl rfl ?_
    refine tw_getO hW ga0 (by decide) (by decide) rfl kX8 fX8_46 dX8_escaped_7 (fun b18 pb18 gb18 => ?_)
    have gb18 : oT τ b18 5 := ⟨_, gb18⟩
    refine z_ldcS (i := 9) (tx := "&amp;") (by decide +kernel) dX8_escaped_10 ?_
    have hX0 := kX5_spell 4 (Nat.le_refl _) hW gb18 (show 9 < xN by decide) 
    refine z_callV (As := [_]) eX5_spell sX5_spell lX8_85 rfl dX8_escaped_12 (hW.os gb18).choose_spec hX0 (Nat.le_trans (by decide) hd) rfl (Nat.le_of_ble_eq_true rfl) (fun r cs hp => ?_)
    obtain ⟨τ, rfl, hW, k21⟩ := hp
    have hX := hX.tr k21 (by decide)
    have ga0 := k21.1.e ga0 (by decide)
    clear hX0
    refine z_st (st' := []) rfl ?_
    refine z_goto (tgt := 85) dX8_escaped_15 (by decide) ?_
    exact z_return dX8_escaped_85 rfl (hP _ _ hW hX)

set_option maxRecDepth 100000 in
set_option maxHeartbeats 4000000 in
theorem eX8_single_37 {G : xG} {d : Nat} {Post : xP} {B : Nat × Nat} {τ0 τ : Tau} {c0 cs : List va_E} {a0 pa0 : Nat} {l1 : Int} {l2 : Int} {l3 : Int} {l4 : Int} {n37 : Nat} (hd : 6 ≤ d) (hW : WT G B τ cs) (hX : Fx [5] τ0 c0 τ cs) (ga0 : τ a0 = some (.inl (8, pa0))) (gl1 : rng l1) (gl2 : rng l2) (gl3 : rng l3) (bl3 : iv 0 1 l3) (gl4 : rng l4)   (hP : ∀ (τ1 : Tau) (c1 : List va_E), WT G B τ1 c1 → Fx [5] τ0 c0 τ1 c1 → Post none c1)  (ih_37 : ∀ {τ : Tau} {cs : List va_E} {a0 pa0 : Nat} {l1 : Int} {l2 : Int} {l3 : Int} {l4 : Int} (hW : WT G B τ cs) (hX : Fx [5] τ0 c0 τ cs) (ga0 : τ a0 = some (.inl (8, pa0))) (gl1 : rng l1) (gl2 : rng l2) (gl3 : rng l3) (bl3 : iv 0 1 l3) (gl4 : rng l4)  , (20 - l4).toNat < n37 → Z (RX8, cX8_single, 5, none, false) G d Post 37 [(0, .ref (G.1 + a0)), (1, .int (Int32.ofInt l1)), (2, .int (Int32.ofInt l2)), (3, .int (Int32.ofInt l3)), (4, .int (Int32.ofInt l4))] [] cs) (hm_37 : (20 - l4).toNat < n37 + 1) : Z (RX8, cX8_single, 5, none, false) G d Post 37 [(0, .ref (G.1 + a0)), (1, .int (Int32.ofInt l1)), (2, .int (Int32.ofInt l2)), (3, .int (Int32.ofInt l3)), (4, .int (Int32.ofInt l4))] [] cs := by
  refine z_iload dX8_single_37 rfl ?_
  refine z_bipush (v := Int32.ofInt 20) dX8_single_39 (by decide) ?_
  refine i_icmp_ge (tgt := 80) dX8_single_41 (by decide) gl4 (show rng 20 from ⟨by decide, by decide⟩) (fun h1 => ?_) (fun h1 => ?_)
  · exact z_return dX8_single_80 rfl (hP _ _ hW hX)
  · refine z_iload dX8_single_44 rfl ?_
    refine z_aload_n dX8_single_46 rfl rfl ?_
    refine tw_getO hW ga0 (by decide) (by decide) rfl kX8 fX8_42 dX8_single_47 (fun b2 pb2 gb2 => ?_)
    refine z_iload_n dX8_single_50 rfl rfl ?_
    refine z_iload_n dX8_single_51 rfl rfl ?_
    have hX0 := kX1_head 1 (Nat.le_refl _) hW gb2 gl1 gl2 
    refine z_callV (As := [_, _]) eX1_head sX1_head lX8_145 rfl dX8_single_52 (hW.ob gb2 (by decide)).choose_spec hX0 (Nat.le_trans (by decide) hd) rfl (Nat.le_of_ble_eq_true rfl) (fun r cs1 hp => ?_)
    obtain ⟨hcs, r4, rfl, gr4, _⟩ := hp
    obtain rfl := hcs.symm
    refine z_st (st' := [.int (Int32.ofInt r4), .int (Int32.ofInt l4)]) rfl ?_
    refine i_icmp_ge (tgt := 80) dX8_single_55 (by decide) gl4 gr4 (fun h5 => ?_) (fun h5 => ?_)
    · exact z_return dX8_single_80 rfl (hP _ _ hW hX)
    · refine z_aload_n dX8_single_58 rfl rfl ?_
      refine z_aload_n dX8_single_59 rfl rfl ?_
      refine tw_getO hW ga0 (by decide) (by decide) rfl kX8 fX8_42 dX8_single_60 (fun b6 pb6 gb6 => ?_)
      refine z_iload_n dX8_single_63 rfl rfl ?_
      refine z_iload_n dX8_single_64 rfl rfl ?_
      refine z_iload dX8_single_65 rfl ?_
      have hX0 := kX1_cell 1 (Nat.le_refl _) hW gb6 gl1 gl2 gl4 
      refine z_callV (As := [_, _, _]) eX1_cell sX1_cell lX8_158 rfl dX8_single_67 (hW.ob gb6 (by decide)).choose_spec hX0 (Nat.le_trans (by decide) hd) rfl (Nat.le_of_ble_eq_true rfl) (fun r cs1 hp => ?_)
      obtain ⟨hcs, r8, rfl, gr8, _⟩ := hp
      obtain rfl := hcs.symm
      refine z_st (st' := [.int (Int32.ofInt r8), .ref (G.1 + a0)]) rfl ?_
      refine z_iload_n dX8_single_70 rfl rfl ?_
      have hX0 := kX8_escaped 5 (Nat.le_refl _) hW ga0 gr8 gl3 (by omega)
      refine z_callV (As := [_, _]) eX8_escaped sX8_escaped lX8_161 rfl dX8_single_71 (hW.ob ga0 (by decide)).choose_spec hX0 (Nat.le_trans (by decide) hd) rfl (Nat.le_of_ble_eq_true rfl) (fun r cs hp => ?_)
      obtain ⟨τ, rfl, hW, k11⟩ := hp
      have hX := hX.tr k11 (by decide)
      have ga0 := k11.1.e ga0 (by decide)
      clear hX0
      refine z_st (st' := []) rfl ?_
      refine tw_iinc (l := l4) dX8_single_74 rfl (by decide) (fun z12 gz12 ez12 => ?_)
      first | have ez12 := ez12 ⟨by omega, by omega⟩ | clear ez12
      refine z_loc (L' := [(0, .ref (G.1 + a0)), (1, .int (Int32.ofInt l1)), (2, .int (Int32.ofInt l2)), (3, .int (Int32.ofInt l3)), (4, .int (Int32.ofInt z12))]) (List.forall_mem_cons.mpr ⟨rfl, (List.forall_mem_cons.mpr ⟨rfl, (List.forall_mem_cons.mpr ⟨rfl, (List.forall_mem_cons.mpr ⟨rfl, (List.forall_mem_cons.mpr ⟨rfl, (fun _ h => nomatch h)⟩)⟩)⟩)⟩)⟩) ?_
      refine z_goto (tgt := 37) dX8_single_77 (by decide) ?_
      refine z_loc (L' := [(0, .ref (G.1 + a0)), (1, .int (Int32.ofInt l1)), (2, .int (Int32.ofInt l2)), (3, .int (Int32.ofInt l3)), (4, .int (Int32.ofInt z12))]) (List.forall_mem_cons.mpr ⟨rfl, (List.forall_mem_cons.mpr ⟨rfl, (List.forall_mem_cons.mpr ⟨rfl, (List.forall_mem_cons.mpr ⟨rfl, (List.forall_mem_cons.mpr ⟨rfl, (fun _ h => nomatch h)⟩)⟩)⟩)⟩)⟩) ?_
      exact ih_37 hW hX ga0 gl1 gl2 gl3 (by omega) gz12   (by omega)
set_option maxRecDepth 100000 in
set_option maxHeartbeats 4000000 in
theorem bX8_single_37 {G : xG} {d : Nat} {Post : xP} {B : Nat × Nat} {τ0 τ : Tau} {c0 cs : List va_E} {a0 pa0 : Nat} {l1 : Int} {l2 : Int} {l3 : Int} {l4 : Int} (hd : 6 ≤ d) (hW : WT G B τ cs) (hX : Fx [5] τ0 c0 τ cs) (ga0 : τ a0 = some (.inl (8, pa0))) (gl1 : rng l1) (gl2 : rng l2) (gl3 : rng l3) (bl3 : iv 0 1 l3) (gl4 : rng l4)   (hP : ∀ (τ1 : Tau) (c1 : List va_E), WT G B τ1 c1 → Fx [5] τ0 c0 τ1 c1 → Post none c1)  : Z (RX8, cX8_single, 5, none, false) G d Post 37 [(0, .ref (G.1 + a0)), (1, .int (Int32.ofInt l1)), (2, .int (Int32.ofInt l2)), (3, .int (Int32.ofInt l3)), (4, .int (Int32.ofInt l4))] [] cs := by
  have key : ∀ (n : Nat) (τ : Tau) (cs : List va_E) (a0 pa0 : Nat) (l1 : Int) (l2 : Int) (l3 : Int) (l4 : Int) (hW : WT G B τ cs) (hX : Fx [5] τ0 c0 τ cs) (ga0 : τ a0 = some (.inl (8, pa0))) (gl1 : rng l1) (gl2 : rng l2) (gl3 : rng l3) (bl3 : iv 0 1 l3) (gl4 : rng l4)  , (20 - l4).toNat < n → Z (RX8, cX8_single, 5, none, false) G d Post 37 [(0, .ref (G.1 + a0)), (1, .int (Int32.ofInt l1)), (2, .int (Int32.ofInt l2)), (3, .int (Int32.ofInt l3)), (4, .int (Int32.ofInt l4))] [] cs := by
    intro n
    induction n with
    | zero => intro τ cs a0 pa0 l1 l2 l3 l4 hW hX ga0 gl1 gl2 gl3 bl3 gl4 hm; exact absurd hm (Nat.not_lt_zero _)
    | succ n ih =>
      intro τ cs a0 pa0 l1 l2 l3 l4 hW hX ga0 gl1 gl2 gl3 bl3 gl4 hm
      exact eX8_single_37 hd hW hX ga0 gl1 gl2 gl3 bl3 gl4 hP  (fun hW hX ga0 gl1 gl2 gl3 bl3 gl4 hm => ih _ _ _ _ _ _ _ _ hW hX ga0 gl1 gl2 gl3 bl3 gl4 hm) hm
  exact key _ _ _ _ _ _ _ _ _ hW hX ga0 gl1 gl2 gl3 bl3 gl4 (Nat.lt_succ_self _)
set_option maxRecDepth 100000 in
set_option maxHeartbeats 4000000 in
theorem kX8_single {G : xG} {B : Nat × Nat} {τ : Tau} {cs : List va_E} {a0 pa0 : Nat} {l1 : Int} {l2 : Int} {l3 : Int} (d : Nat) (hd : 6 ≤ d) (hW : WT G B τ cs) (ga0 : τ a0 = some (.inl (8, pa0))) (gl1 : rng l1) (gl2 : rng l2) (gl3 : rng l3) (p0 : iv 0 1 l3) : X G yX8_single cX8_single 5 none d [.ref (G.1 + a0), .int (Int32.ofInt l1), .int (Int32.ofInt l2), .int (Int32.ofInt l3)] cs (wN G B τ cs [5]) := by
  refine X.of false (by decide +kernel) (by decide) (Nat.le_of_ble_eq_true rfl) ?_
  show Z (RX8, cX8_single, 5, none, false) G d _ 0 [(0, .ref (G.1 + a0)), (1, .int (Int32.ofInt l1)), (2, .int (Int32.ofInt l2)), (3, .int (Int32.ofInt l3))] [] cs
  have hP : ∀ (τ1 : Tau) (c1 : List va_E), WT G B τ1 c1 → Fx [5] τ cs τ1 c1 → wN G B τ cs [5] none c1 := fun τ1 c1 h1 h2 => ⟨τ1, rfl, h1, h2⟩
  have hX : Fx [5] τ cs τ cs := Fx.rf
  skip
  refine z_aload_n dX8_single_0 rfl rfl ?_
  refine tw_getO hW ga0 (by decide) (by decide) rfl kX8 fX8_38 dX8_single_1 (fun b1 pb1 gb1 => ?_)
  refine z_aload_n dX8_single_4 rfl rfl ?_
  refine tw_getO hW ga0 (by decide) (by decide) rfl kX8 fX8_42 dX8_single_5 (fun b2 pb2 gb2 => ?_)
  refine z_iload_n dX8_single_8 rfl rfl ?_
  have hX0 := kX1_classOf 1 (Nat.le_refl _) hW gb2 gl1 
  refine z_callV (As := [_]) eX1_classOf sX1_classOf lX8_99 rfl dX8_single_9 (hW.ob gb2 (by decide)).choose_spec hX0 (Nat.le_trans (by decide) hd) rfl (Nat.le_of_ble_eq_true rfl) (fun r cs1 hp => ?_)
  obtain ⟨hcs, r4, rfl, gr4, _⟩ := hp
  obtain rfl := hcs.symm
  refine z_st (st' := [.int (Int32.ofInt r4), .ref (G.1 + b1)]) rfl ?_
  refine z_iload_n dX8_single_12 rfl rfl ?_
  have hX0 := kX4_shape 1 (Nat.le_refl _) hW gb1 gr4 gl2 
  refine z_callV (As := [_, _]) eX4_shape sX4_shape lX8_103 rfl dX8_single_13 (hW.ob gb1 (by decide)).choose_spec hX0 (Nat.le_trans (by decide) hd) rfl (Nat.le_of_ble_eq_true rfl) (fun r cs1 hp => ?_)
  obtain ⟨hcs, r6, rfl, gr6, _⟩ := hp
  obtain rfl := hcs.symm
  refine z_st (st' := [.int (Int32.ofInt r6)]) rfl ?_
  refine z_iconst (v := Int32.ofInt 1) dX8_single_16 rfl ?_
  refine i_icmp_ne (tgt := 34) dX8_single_17 (by decide) gr6 (show rng 1 from ⟨by decide, by decide⟩) (fun h7 => ?_) (fun h7 => ?_)
  · refine z_iconst (v := Int32.ofInt 0) dX8_single_34 rfl ?_
    refine z_istore dX8_single_35 (by decide) ?_
    refine z_loc (L' := [(0, .ref (G.1 + a0)), (1, .int (Int32.ofInt l1)), (2, .int (Int32.ofInt l2)), (3, .int (Int32.ofInt l3)), (4, .int (Int32.ofInt 0))]) (List.forall_mem_cons.mpr ⟨rfl, (List.forall_mem_cons.mpr ⟨rfl, (List.forall_mem_cons.mpr ⟨rfl, (List.forall_mem_cons.mpr ⟨rfl, (List.forall_mem_cons.mpr ⟨rfl, (fun _ h => nomatch h)⟩)⟩)⟩)⟩)⟩) ?_
    refine z_loc (L' := [(0, .ref (G.1 + a0)), (1, .int (Int32.ofInt l1)), (2, .int (Int32.ofInt l2)), (3, .int (Int32.ofInt l3)), (4, .int (Int32.ofInt 0))]) (List.forall_mem_cons.mpr ⟨rfl, (List.forall_mem_cons.mpr ⟨rfl, (List.forall_mem_cons.mpr ⟨rfl, (List.forall_mem_cons.mpr ⟨rfl, (List.forall_mem_cons.mpr ⟨rfl, (fun _ h => nomatch h)⟩)⟩)⟩)⟩)⟩) ?_
    exact bX8_single_37 hd hW hX ga0 gl1 gl2 gl3 (by omega) (show rng 0 from ⟨by decide, by decide⟩)   hP 
  · refine z_aload_n dX8_single_20 rfl rfl ?_
    refine z_aload_n dX8_single_21 rfl rfl ?_
    refine tw_getO hW ga0 (by decide) (by decide) rfl kX8 fX8_42 dX8_single_22 (fun b8 pb8 gb8 => ?_)
    refine z_iload_n dX8_single_25 rfl rfl ?_
    refine z_iload_n dX8_single_26 rfl rfl ?_
    have hX0 := kX1_head 1 (Nat.le_refl _) hW gb8 gl1 gl2 
    refine z_callV (As := [_, _]) eX1_head sX1_head lX8_145 rfl dX8_single_27 (hW.ob gb8 (by decide)).choose_spec hX0 (Nat.le_trans (by decide) hd) rfl (Nat.le_of_ble_eq_true rfl) (fun r cs1 hp => ?_)
    obtain ⟨hcs, r10, rfl, gr10, _⟩ := hp
    obtain rfl := hcs.symm
    refine z_st (st' := [.int (Int32.ofInt r10), .ref (G.1 + a0)]) rfl ?_
    have hX0 := kX8_number 2 (Nat.le_refl _) hW ga0 gr10 
    refine z_callV (As := [_]) eX8_number sX8_number lX8_123 rfl dX8_single_30 (hW.ob ga0 (by decide)).choose_spec hX0 (Nat.le_trans (by decide) hd) rfl (Nat.le_of_ble_eq_true rfl) (fun r cs hp => ?_)
    obtain ⟨τ, rfl, hW, k13⟩ := hp
    have hX := hX.tr k13 (by decide)
    have ga0 := k13.1.e ga0 (by decide)
    clear hX0
    refine z_st (st' := []) rfl ?_
    exact z_return dX8_single_33 rfl (hP _ _ hW hX)

set_option maxRecDepth 100000 in
set_option maxHeartbeats 4000000 in
theorem bX8_startTag_189 {G : xG} {d : Nat} {Post : xP} {B : Nat × Nat} {τ0 τ : Tau} {c0 cs : List va_E} {a0 pa0 : Nat} {l1 : Int} {l3 : Int} {l4 : Int} {n109 : Nat} (hd : 7 ≤ d) (hW : WT G B τ cs) (hX : Fx [5] τ0 c0 τ cs) (ga0 : τ a0 = some (.inl (8, pa0))) (gl1 : rng l1) (gl3 : rng l3) (gl4 : rng l4) (i0 : 1 ≤ 4 - l4) (i1 : iv 0 29 l1) (hm_109 : (4 - l4).toNat < n109 + 1) (hP : ∀ (τ1 : Tau) (c1 : List va_E), WT G B τ1 c1 → Fx [5] τ0 c0 τ1 c1 → Post none c1) (ih_109 : ∀ {τ : Tau} {cs : List va_E} {a0 pa0 : Nat} {l1 : Int} {l3 : Int} {l4 : Int} (hW : WT G B τ cs) (hX : Fx [5] τ0 c0 τ cs) (ga0 : τ a0 = some (.inl (8, pa0))) (gl1 : rng l1) (gl3 : rng l3) (gl4 : rng l4) (i0 : iv 0 29 l1) , (4 - l4).toNat < n109 → Z (RX8, cX8_startTag, 5, none, false) G d Post 109 [(0, .ref (G.1 + a0)), (1, .int (Int32.ofInt l1)), (3, .int (Int32.ofInt l3)), (4, .int (Int32.ofInt l4))] [] cs) : Z (RX8, cX8_startTag, 5, none, false) G d Post 189 [(0, .ref (G.1 + a0)), (1, .int (Int32.ofInt l1)), (3, .int (Int32.ofInt l3)), (4, .int (Int32.ofInt l4))] [] cs := by
  refine tw_iinc (l := l4) dX8_startTag_189 rfl (by decide) (fun z1 gz1 ez1 => ?_)
  first | have ez1 := ez1 ⟨by omega, by omega⟩ | clear ez1
  refine z_loc (L' := [(0, .ref (G.1 + a0)), (1, .int (Int32.ofInt l1)), (3, .int (Int32.ofInt l3)), (4, .int (Int32.ofInt z1))]) (List.forall_mem_cons.mpr ⟨rfl, (List.forall_mem_cons.mpr ⟨rfl, (List.forall_mem_cons.mpr ⟨rfl, (List.forall_mem_cons.mpr ⟨rfl, (fun _ h => nomatch h)⟩)⟩)⟩)⟩) ?_
  refine z_goto (tgt := 109) dX8_startTag_192 (by decide) ?_
  refine z_loc (L' := [(0, .ref (G.1 + a0)), (1, .int (Int32.ofInt l1)), (3, .int (Int32.ofInt l3)), (4, .int (Int32.ofInt z1))]) (List.forall_mem_cons.mpr ⟨rfl, (List.forall_mem_cons.mpr ⟨rfl, (List.forall_mem_cons.mpr ⟨rfl, (List.forall_mem_cons.mpr ⟨rfl, (fun _ h => nomatch h)⟩)⟩)⟩)⟩) ?_
  exact ih_109 hW hX ga0 gl1 gl3 gz1 (by omega)  (by omega)
set_option maxRecDepth 100000 in
set_option maxHeartbeats 4000000 in
theorem eX8_startTag_109 {G : xG} {d : Nat} {Post : xP} {B : Nat × Nat} {τ0 τ : Tau} {c0 cs : List va_E} {a0 pa0 : Nat} {l1 : Int} {l3 : Int} {l4 : Int} {n109 : Nat} (hd : 7 ≤ d) (hW : WT G B τ cs) (hX : Fx [5] τ0 c0 τ cs) (ga0 : τ a0 = some (.inl (8, pa0))) (gl1 : rng l1) (gl3 : rng l3) (gl4 : rng l4) (i0 : iv 0 29 l1)  (hP : ∀ (τ1 : Tau) (c1 : List va_E), WT G B τ1 c1 → Fx [5] τ0 c0 τ1 c1 → Post none c1)  (ih_109 : ∀ {τ : Tau} {cs : List va_E} {a0 pa0 : Nat} {l1 : Int} {l3 : Int} {l4 : Int} (hW : WT G B τ cs) (hX : Fx [5] τ0 c0 τ cs) (ga0 : τ a0 = some (.inl (8, pa0))) (gl1 : rng l1) (gl3 : rng l3) (gl4 : rng l4) (i0 : iv 0 29 l1) , (4 - l4).toNat < n109 → Z (RX8, cX8_startTag, 5, none, false) G d Post 109 [(0, .ref (G.1 + a0)), (1, .int (Int32.ofInt l1)), (3, .int (Int32.ofInt l3)), (4, .int (Int32.ofInt l4))] [] cs) (hm_109 : (4 - l4).toNat < n109 + 1) : Z (RX8, cX8_startTag, 5, none, false) G d Post 109 [(0, .ref (G.1 + a0)), (1, .int (Int32.ofInt l1)), (3, .int (Int32.ofInt l3)), (4, .int (Int32.ofInt l4))] [] cs := by
  refine z_iload dX8_startTag_109 rfl ?_
  refine z_aload_n dX8_startTag_111 rfl rfl ?_
  refine tw_getO hW ga0 (by decide) (by decide) rfl kX8 fX8_38 dX8_startTag_112 (fun b1 pb1 gb1 => ?_)
  refine z_iload_n dX8_startTag_115 rfl rfl ?_
  have hX0 := kX4_fieldCount 1 (Nat.le_refl _) hW gb1 gl3 
  refine z_callV (As := [_]) eX4_fieldCount sX4_fieldCount lX8_126 rfl dX8_startTag_116 (hW.ob gb1 (by decide)).choose_spec hX0 (Nat.le_trans (by decide) hd) rfl (Nat.le_of_ble_eq_true rfl) (fun r cs1 hp => ?_)
  obtain ⟨hcs, r3, rfl, gr3, n2_0⟩ := hp
  obtain rfl := hcs.symm
  refine z_st (st' := [.int (Int32.ofInt r3), .int (Int32.ofInt l4)]) rfl ?_
  refine i_icmp_ge (tgt := 195) dX8_startTag_119 (by decide) gl4 gr3 (fun h4 => ?_) (fun h4 => ?_)
  · exact z_return dX8_startTag_195 rfl (hP _ _ hW hX)
  · refine z_aload_n dX8_startTag_122 rfl rfl ?_
    refine tw_getO hW ga0 (by decide) (by decide) rfl kX8 fX8_38 dX8_startTag_123 (fun b5 pb5 gb5 => ?_)
    refine z_iload_n dX8_startTag_126 rfl rfl ?_
    refine z_iload dX8_startTag_127 rfl ?_
    have hX0 := kX4_isAttribute 1 (Nat.le_refl _) hW gb5 gl3 gl4 
    refine z_callV (As := [_, _]) eX4_isAttribute sX4_isAttribute lX8_129 rfl dX8_startTag_129 (hW.ob gb5 (by decide)).choose_spec hX0 (Nat.le_trans (by decide) hd) rfl (Nat.le_of_ble_eq_true rfl) (fun r cs1 hp => ?_)
    obtain ⟨hcs, r7, rfl, gr7, n6_0⟩ := hp
    obtain rfl := hcs.symm
    refine z_st (st' := [.int (Int32.ofInt r7)]) rfl ?_
    refine i_if_eq (tgt := 189) dX8_startTag_132 (by decide) gr7 (fun h8 => ?_) (fun h8 => ?_)
    · refine z_loc (L' := [(0, .ref (G.1 + a0)), (1, .int (Int32.ofInt l1)), (3, .int (Int32.ofInt l3)), (4, .int (Int32.ofInt l4))]) (List.forall_mem_cons.mpr ⟨rfl, (List.forall_mem_cons.mpr ⟨rfl, (List.forall_mem_cons.mpr ⟨rfl, (List.forall_mem_cons.mpr ⟨rfl, (fun _ h => nomatch h)⟩)⟩)⟩)⟩) ?_
      exact bX8_startTag_189 hd hW hX ga0 gl1 gl3 gl4 (by omega) (by omega) (by omega) hP ih_109
    · refine z_aload_n dX8_startTag_135 rfl rfl ?_
      refine tw_getO hW ga0 (by decide) (by decide) rfl kX8 fX8_46 dX8_startTag_136 (fun b9 pb9 gb9 => ?_)
      have gb9 : oT τ b9 5 := ⟨_, gb9⟩
      refine z_bipush (v := Int32.ofInt 32) dX8_startTag_139 (by decide) ?_
      have hX0 := kX5_put 1 (Nat.le_refl _) hW gb9 (show rng 32 from ⟨by decide, by decide⟩) 
      refine z_callV (As := [_]) eX5_put sX5_put lX8_89 rfl dX8_startTag_141 (hW.os gb9).choose_spec hX0 (Nat.le_trans (by decide) hd) rfl (Nat.le_of_ble_eq_true rfl) (fun r cs hp => ?_)
      obtain ⟨τ, r11, rfl, gr11, hW, k12, n10_0⟩ := hp
      have hX := hX.tr k12 (by decide)
      have ga0 := k12.1.e ga0 (by decide)
      clear hX0
      refine z_st (st' := [.int (Int32.ofInt r11)]) rfl ?_
      refine z_pop dX8_startTag_144 rfl ?_
      refine z_aload_n dX8_startTag_145 rfl rfl ?_
      refine tw_getO hW ga0 (by decide) (by decide) rfl kX8 fX8_38 dX8_startTag_146 (fun b13 pb13 gb13 => ?_)
      refine z_aload_n dX8_startTag_149 rfl rfl ?_
      refine tw_getO hW ga0 (by decide) (by decide) rfl kX8 fX8_46 dX8_startTag_150 (fun b14 pb14 gb14 => ?_)
      have gb14 : oT τ b14 5 := ⟨_, gb14⟩
      refine z_iload_n dX8_startTag_153 rfl rfl ?_
      refine z_iload dX8_startTag_154 rfl ?_
      have hX0 := kX4_fieldName 0 (Nat.le_refl _) hW gl3 gl4 
      refine z_callS (As := [_, _]) eX4_fieldName sX4_fieldName lX8_109 dX8_startTag_156 hX0 (Nat.le_trans (by decide) hd) rfl (Nat.le_of_ble_eq_true rfl) (fun r cs1 hp => ?_)
      obtain ⟨hcs, r16, rfl, gr16, n15_0⟩ := hp
      obtain rfl := hcs.symm
      refine z_st (st' := [.int (Int32.ofInt r16), .ref (G.1 + b14), .ref (G.1 + b13)]) rfl ?_
      have hX0 := kX4_spellTo 2 (Nat.le_refl _) hW gb13 gb14 gr16 
      refine z_callV (As := [_, _]) eX4_spellTo sX4_spellTo lX8_112 rfl dX8_startTag_159 (hW.ob gb13 (by decide)).choose_spec hX0 (Nat.le_trans (by decide) hd) rfl (Nat.le_of_ble_eq_true rfl) (fun r cs hp => ?_)
      obtain ⟨τ, rfl, hW, k19⟩ := hp
      have hX := hX.tr k19 (by decide)
      have ga0 := k19.1.e ga0 (by decide)
      clear hX0
      refine z_st (st' := []) rfl ?_
      refine z_aload_n dX8_startTag_162 rfl rfl ?_
      refine tw_getO hW ga0 (by decide) (by decide) rfl kX8 fX8_46 dX8_startTag_163 (fun b20 pb20 gb20 => ?_)
      have gb20 : oT τ b20 5 := ⟨_, gb20⟩
      refine z_ldcS (i := 8) (tx := "=\"") (by decide +kernel) dX8_startTag_166 ?_
      have hX0 := kX5_spell 4 (Nat.le_refl _) hW gb20 (show 8 < xN by decide) 
      refine z_callV (As := [_]) eX5_spell sX5_spell lX8_85 rfl dX8_startTag_168 (hW.os gb20).choose_spec hX0 (Nat.le_trans (by decide) hd) rfl (Nat.le_of_ble_eq_true rfl) (fun r cs hp => ?_)
      obtain ⟨τ, rfl, hW, k23⟩ := hp
      have hX := hX.tr k23 (by decide)
      have ga0 := k23.1.e ga0 (by decide)
      clear hX0
      refine z_st (st' := []) rfl ?_
      refine z_aload_n dX8_startTag_171 rfl rfl ?_
      refine z_iload_n dX8_startTag_172 rfl rfl ?_
      refine z_iload dX8_startTag_173 rfl ?_
      refine z_iconst (v := Int32.ofInt 1) dX8_startTag_175 rfl ?_
      have hX0 := kX8_single 6 (Nat.le_refl _) hW ga0 gl1 gl4 (show rng 1 from ⟨by decide, by decide⟩) (by omega)
      refine z_callV (As := [_, _, _]) eX8_single sX8_single lX8_135 rfl dX8_startTag_176 (hW.ob ga0 (by decide)).choose_spec hX0 (Nat.le_trans (by decide) hd) rfl (Nat.le_of_ble_eq_true rfl) (fun r cs hp => ?_)
      obtain ⟨τ, rfl, hW, k26⟩ := hp
      have hX := hX.tr k26 (by decide)
      have ga0 := k26.1.e ga0 (by decide)
      clear hX0
      refine z_st (st' := []) rfl ?_
      refine z_aload_n dX8_startTag_179 rfl rfl ?_
      refine tw_getO hW ga0 (by decide) (by decide) rfl kX8 fX8_46 dX8_startTag_180 (fun b27 pb27 gb27 => ?_)
      have gb27 : oT τ b27 5 := ⟨_, gb27⟩
      refine z_bipush (v := Int32.ofInt 34) dX8_startTag_183 (by decide) ?_
      have hX0 := kX5_put 1 (Nat.le_refl _) hW gb27 (show rng 34 from ⟨by decide, by decide⟩) 
      refine z_callV (As := [_]) eX5_put sX5_put lX8_89 rfl dX8_startTag_185 (hW.os gb27).choose_spec hX0 (Nat.le_trans (by decide) hd) rfl (Nat.le_of_ble_eq_true rfl) (fun r cs hp => ?_)
      obtain ⟨τ, r29, rfl, gr29, hW, k30, n28_0⟩ := hp
      have hX := hX.tr k30 (by decide)
      have ga0 := k30.1.e ga0 (by decide)
      clear hX0
      refine z_st (st' := [.int (Int32.ofInt r29)]) rfl ?_
      refine z_pop dX8_startTag_188 rfl ?_
      refine z_loc (L' := [(0, .ref (G.1 + a0)), (1, .int (Int32.ofInt l1)), (3, .int (Int32.ofInt l3)), (4, .int (Int32.ofInt l4))]) (List.forall_mem_cons.mpr ⟨rfl, (List.forall_mem_cons.mpr ⟨rfl, (List.forall_mem_cons.mpr ⟨rfl, (List.forall_mem_cons.mpr ⟨rfl, (fun _ h => nomatch h)⟩)⟩)⟩)⟩) ?_
      exact bX8_startTag_189 hd hW hX ga0 gl1 gl3 gl4 (by omega) (by omega) (by omega) hP ih_109
set_option maxRecDepth 100000 in
set_option maxHeartbeats 4000000 in
theorem bX8_startTag_109 {G : xG} {d : Nat} {Post : xP} {B : Nat × Nat} {τ0 τ : Tau} {c0 cs : List va_E} {a0 pa0 : Nat} {l1 : Int} {l3 : Int} {l4 : Int} (hd : 7 ≤ d) (hW : WT G B τ cs) (hX : Fx [5] τ0 c0 τ cs) (ga0 : τ a0 = some (.inl (8, pa0))) (gl1 : rng l1) (gl3 : rng l3) (gl4 : rng l4) (i0 : iv 0 29 l1)  (hP : ∀ (τ1 : Tau) (c1 : List va_E), WT G B τ1 c1 → Fx [5] τ0 c0 τ1 c1 → Post none c1)  : Z (RX8, cX8_startTag, 5, none, false) G d Post 109 [(0, .ref (G.1 + a0)), (1, .int (Int32.ofInt l1)), (3, .int (Int32.ofInt l3)), (4, .int (Int32.ofInt l4))] [] cs := by
  have key : ∀ (n : Nat) (τ : Tau) (cs : List va_E) (a0 pa0 : Nat) (l1 : Int) (l3 : Int) (l4 : Int) (hW : WT G B τ cs) (hX : Fx [5] τ0 c0 τ cs) (ga0 : τ a0 = some (.inl (8, pa0))) (gl1 : rng l1) (gl3 : rng l3) (gl4 : rng l4) (i0 : iv 0 29 l1) , (4 - l4).toNat < n → Z (RX8, cX8_startTag, 5, none, false) G d Post 109 [(0, .ref (G.1 + a0)), (1, .int (Int32.ofInt l1)), (3, .int (Int32.ofInt l3)), (4, .int (Int32.ofInt l4))] [] cs := by
    intro n
    induction n with
    | zero => intro τ cs a0 pa0 l1 l3 l4 hW hX ga0 gl1 gl3 gl4 i0 hm; exact absurd hm (Nat.not_lt_zero _)
    | succ n ih =>
      intro τ cs a0 pa0 l1 l3 l4 hW hX ga0 gl1 gl3 gl4 i0 hm
      exact eX8_startTag_109 hd hW hX ga0 gl1 gl3 gl4 i0 hP  (fun hW hX ga0 gl1 gl3 gl4 i0 hm => ih _ _ _ _ _ _ _ hW hX ga0 gl1 gl3 gl4 i0 hm) hm
  exact key _ _ _ _ _ _ _ _ hW hX ga0 gl1 gl3 gl4 i0 (Nat.lt_succ_self _)
set_option maxRecDepth 100000 in
set_option maxHeartbeats 4000000 in
theorem bX8_startTag_106 {G : xG} {d : Nat} {Post : xP} {B : Nat × Nat} {τ0 τ : Tau} {c0 cs : List va_E} {a0 pa0 : Nat} {l1 : Int} {l3 : Int} (hd : 7 ≤ d) (hW : WT G B τ cs) (hX : Fx [5] τ0 c0 τ cs) (ga0 : τ a0 = some (.inl (8, pa0))) (gl1 : rng l1) (gl3 : rng l3) (i0 : iv 0 29 l1)  (hP : ∀ (τ1 : Tau) (c1 : List va_E), WT G B τ1 c1 → Fx [5] τ0 c0 τ1 c1 → Post none c1)  : Z (RX8, cX8_startTag, 5, none, false) G d Post 106 [(0, .ref (G.1 + a0)), (1, .int (Int32.ofInt l1)), (3, .int (Int32.ofInt l3))] [] cs := by
  refine z_iconst (v := Int32.ofInt 0) dX8_startTag_106 rfl ?_
  refine z_istore dX8_startTag_107 (by decide) ?_
  refine z_loc (L' := [(0, .ref (G.1 + a0)), (1, .int (Int32.ofInt l1)), (3, .int (Int32.ofInt l3)), (4, .int (Int32.ofInt 0))]) (List.forall_mem_cons.mpr ⟨rfl, (List.forall_mem_cons.mpr ⟨rfl, (List.forall_mem_cons.mpr ⟨rfl, (List.forall_mem_cons.mpr ⟨rfl, (fun _ h => nomatch h)⟩)⟩)⟩)⟩) ?_
  refine z_loc (L' := [(0, .ref (G.1 + a0)), (1, .int (Int32.ofInt l1)), (3, .int (Int32.ofInt l3)), (4, .int (Int32.ofInt 0))]) (List.forall_mem_cons.mpr ⟨rfl, (List.forall_mem_cons.mpr ⟨rfl, (List.forall_mem_cons.mpr ⟨rfl, (List.forall_mem_cons.mpr ⟨rfl, (fun _ h => nomatch h)⟩)⟩)⟩)⟩) ?_
  exact bX8_startTag_109 hd hW hX ga0 gl1 gl3 (show rng 0 from ⟨by decide, by decide⟩) (by omega)  hP 
set_option maxRecDepth 100000 in
set_option maxHeartbeats 4000000 in
theorem bX8_startTag_69 {G : xG} {d : Nat} {Post : xP} {B : Nat × Nat} {τ0 τ : Tau} {c0 cs : List va_E} {a0 pa0 : Nat} {l1 : Int} {l3 : Int} (hd : 7 ≤ d) (hW : WT G B τ cs) (hX : Fx [5] τ0 c0 τ cs) (ga0 : τ a0 = some (.inl (8, pa0))) (gl1 : rng l1) (gl3 : rng l3) (i0 : iv 0 29 l1)  (hP : ∀ (τ1 : Tau) (c1 : List va_E), WT G B τ1 c1 → Fx [5] τ0 c0 τ1 c1 → Post none c1)  : Z (RX8, cX8_startTag, 5, none, false) G d Post 69 [(0, .ref (G.1 + a0)), (1, .int (Int32.ofInt l1)), (3, .int (Int32.ofInt l3))] [] cs := by
  refine z_aload_n dX8_startTag_69 rfl rfl ?_
  refine tw_getI hW ga0 (by decide) (by decide) rfl kX8 fX8_50 dX8_startTag_70 (fun x1 _ vx1 gx1 => ?_)
  refine z_iconst (v := Int32.ofInt 2) dX8_startTag_73 rfl ?_
  refine i_icmp_ne (tgt := 106) dX8_startTag_74 (by decide) gx1 (show rng 2 from ⟨by decide, by decide⟩) (fun h2 => ?_) (fun h2 => ?_)
  · refine z_loc (L' := [(0, .ref (G.1 + a0)), (1, .int (Int32.ofInt l1)), (3, .int (Int32.ofInt l3))]) (List.forall_mem_cons.mpr ⟨rfl, (List.forall_mem_cons.mpr ⟨rfl, (List.forall_mem_cons.mpr ⟨rfl, (fun _ h => nomatch h)⟩)⟩)⟩) ?_
    exact bX8_startTag_106 hd hW hX ga0 gl1 gl3 (by omega)  hP 
  · refine z_aload_n dX8_startTag_77 rfl rfl ?_
    refine tw_getO hW ga0 (by decide) (by decide) rfl kX8 fX8_46 dX8_startTag_78 (fun b3 pb3 gb3 => ?_)
    have gb3 : oT τ b3 5 := ⟨_, gb3⟩
    refine z_ldcS (i := 7) (tx := " id=\"") (by decide +kernel) dX8_startTag_81 ?_
    have hX0 := kX5_spell 4 (Nat.le_refl _) hW gb3 (show 7 < xN by decide) 
    refine z_callV (As := [_]) eX5_spell sX5_spell lX8_85 rfl dX8_startTag_83 (hW.os gb3).choose_spec hX0 (Nat.le_trans (by decide) hd) rfl (Nat.le_of_ble_eq_true rfl) (fun r cs hp => ?_)
    obtain ⟨τ, rfl, hW, k6⟩ := hp
    have hX := hX.tr k6 (by decide)
    have ga0 := k6.1.e ga0 (by decide)
    clear hX0
    refine z_st (st' := []) rfl ?_
    refine z_aload_n dX8_startTag_86 rfl rfl ?_
    refine z_aload_n dX8_startTag_87 rfl rfl ?_
    refine tw_getA hW ga0 (by decide) (by decide) rfl kX8 fX8_9 dX8_startTag_88 (fun b7 _ gb7 => ?_)
    refine z_iload_n dX8_startTag_91 rfl rfl ?_
    refine tw_iald hW gb7 (by omega) (by omega) dX8_startTag_92 (fun x8 _ vx8 gx8 => ?_)
    have hX0 := kX8_number 2 (Nat.le_refl _) hW ga0 gx8 
    refine z_callV (As := [_]) eX8_number sX8_number lX8_123 rfl dX8_startTag_93 (hW.ob ga0 (by decide)).choose_spec hX0 (Nat.le_trans (by decide) hd) rfl (Nat.le_of_ble_eq_true rfl) (fun r cs hp => ?_)
    obtain ⟨τ, rfl, hW, k11⟩ := hp
    have hX := hX.tr k11 (by decide)
    have ga0 := k11.1.e ga0 (by decide)
    clear hX0
    refine z_st (st' := []) rfl ?_
    refine z_aload_n dX8_startTag_96 rfl rfl ?_
    refine tw_getO hW ga0 (by decide) (by decide) rfl kX8 fX8_46 dX8_startTag_97 (fun b12 pb12 gb12 => ?_)
    have gb12 : oT τ b12 5 := ⟨_, gb12⟩
    refine z_bipush (v := Int32.ofInt 34) dX8_startTag_100 (by decide) ?_
    have hX0 := kX5_put 1 (Nat.le_refl _) hW gb12 (show rng 34 from ⟨by decide, by decide⟩) 
    refine z_callV (As := [_]) eX5_put sX5_put lX8_89 rfl dX8_startTag_102 (hW.os gb12).choose_spec hX0 (Nat.le_trans (by decide) hd) rfl (Nat.le_of_ble_eq_true rfl) (fun r cs hp => ?_)
    obtain ⟨τ, r14, rfl, gr14, hW, k15, n13_0⟩ := hp
    have hX := hX.tr k15 (by decide)
    have ga0 := k15.1.e ga0 (by decide)
    clear hX0
    refine z_st (st' := [.int (Int32.ofInt r14)]) rfl ?_
    refine z_pop dX8_startTag_105 rfl ?_
    refine z_loc (L' := [(0, .ref (G.1 + a0)), (1, .int (Int32.ofInt l1)), (3, .int (Int32.ofInt l3))]) (List.forall_mem_cons.mpr ⟨rfl, (List.forall_mem_cons.mpr ⟨rfl, (List.forall_mem_cons.mpr ⟨rfl, (fun _ h => nomatch h)⟩)⟩)⟩) ?_
    exact bX8_startTag_106 hd hW hX ga0 gl1 gl3 (by omega)  hP 
set_option maxRecDepth 100000 in
set_option maxHeartbeats 4000000 in
theorem kX8_startTag {G : xG} {B : Nat × Nat} {τ : Tau} {cs : List va_E} {a0 pa0 : Nat} {l1 : Int} {l2 : Int} (d : Nat) (hd : 7 ≤ d) (hW : WT G B τ cs) (ga0 : τ a0 = some (.inl (8, pa0))) (gl1 : rng l1) (gl2 : rng l2) (p0 : iv 0 29 l1) : X G yX8_startTag cX8_startTag 5 none d [.ref (G.1 + a0), .int (Int32.ofInt l1), .int (Int32.ofInt l2)] cs (wN G B τ cs [5]) := by
  refine X.of false (by decide +kernel) (by decide) (Nat.le_of_ble_eq_true rfl) ?_
  show Z (RX8, cX8_startTag, 5, none, false) G d _ 0 [(0, .ref (G.1 + a0)), (1, .int (Int32.ofInt l1)), (2, .int (Int32.ofInt l2))] [] cs
  have hP : ∀ (τ1 : Tau) (c1 : List va_E), WT G B τ1 c1 → Fx [5] τ cs τ1 c1 → wN G B τ cs [5] none c1 := fun τ1 c1 h1 h2 => ⟨τ1, rfl, h1, h2⟩
  have hX : Fx [5] τ cs τ cs := Fx.rf
  skip
  refine z_aload_n dX8_startTag_0 rfl rfl ?_
  refine tw_getO hW ga0 (by decide) (by decide) rfl kX8 fX8_42 dX8_startTag_1 (fun b1 pb1 gb1 => ?_)
  refine z_iload_n dX8_startTag_4 rfl rfl ?_
  have hX0 := kX1_classOf 1 (Nat.le_refl _) hW gb1 gl1 
  refine z_callV (As := [_]) eX1_classOf sX1_classOf lX8_99 rfl dX8_startTag_5 (hW.ob gb1 (by decide)).choose_spec hX0 (Nat.le_trans (by decide) hd) rfl (Nat.le_of_ble_eq_true rfl) (fun r cs1 hp => ?_)
  obtain ⟨hcs, r3, rfl, gr3, _⟩ := hp
  obtain rfl := hcs.symm
  refine z_st (st' := [.int (Int32.ofInt r3)]) rfl ?_
  refine z_istore_n dX8_startTag_8 rfl (by decide) ?_
  refine z_loc (L' := [(0, .ref (G.1 + a0)), (1, .int (Int32.ofInt l1)), (2, .int (Int32.ofInt l2)), (3, .int (Int32.ofInt r3))]) (List.forall_mem_cons.mpr ⟨rfl, (List.forall_mem_cons.mpr ⟨rfl, (List.forall_mem_cons.mpr ⟨rfl, (List.forall_mem_cons.mpr ⟨rfl, (fun _ h => nomatch h)⟩)⟩)⟩)⟩) ?_
  refine z_aload_n dX8_startTag_9 rfl rfl ?_
  refine tw_getO hW ga0 (by decide) (by decide) rfl kX8 fX8_46 dX8_startTag_10 (fun b4 pb4 gb4 => ?_)
  have gb4 : oT τ b4 5 := ⟨_, gb4⟩
  refine z_bipush (v := Int32.ofInt 60) dX8_startTag_13 (by decide) ?_
  have hX0 := kX5_put 1 (Nat.le_refl _) hW gb4 (show rng 60 from ⟨by decide, by decide⟩) 
  refine z_callV (As := [_]) eX5_put sX5_put lX8_89 rfl dX8_startTag_15 (hW.os gb4).choose_spec hX0 (Nat.le_trans (by decide) hd) rfl (Nat.le_of_ble_eq_true rfl) (fun r cs hp => ?_)
  obtain ⟨τ, r6, rfl, gr6, hW, k7, n5_0⟩ := hp
  have hX := hX.tr k7 (by decide)
  have ga0 := k7.1.e ga0 (by decide)
  clear hX0
  refine z_st (st' := [.int (Int32.ofInt r6)]) rfl ?_
  refine z_pop dX8_startTag_18 rfl ?_
  refine z_aload_n dX8_startTag_19 rfl rfl ?_
  refine tw_getO hW ga0 (by decide) (by decide) rfl kX8 fX8_38 dX8_startTag_20 (fun b8 pb8 gb8 => ?_)
  refine z_aload_n dX8_startTag_23 rfl rfl ?_
  refine tw_getO hW ga0 (by decide) (by decide) rfl kX8 fX8_46 dX8_startTag_24 (fun b9 pb9 gb9 => ?_)
  have gb9 : oT τ b9 5 := ⟨_, gb9⟩
  refine z_iload_n dX8_startTag_27 rfl rfl ?_
  have hX0 := kX4_spellTo 2 (Nat.le_refl _) hW gb8 gb9 gl2 
  refine z_callV (As := [_, _]) eX4_spellTo sX4_spellTo lX8_112 rfl dX8_startTag_28 (hW.ob gb8 (by decide)).choose_spec hX0 (Nat.le_trans (by decide) hd) rfl (Nat.le_of_ble_eq_true rfl) (fun r cs hp => ?_)
  obtain ⟨τ, rfl, hW, k12⟩ := hp
  have hX := hX.tr k12 (by decide)
  have ga0 := k12.1.e ga0 (by decide)
  clear hX0
  refine z_st (st' := []) rfl ?_
  refine z_iload_n dX8_startTag_31 rfl rfl ?_
  have hX0 := kX4_isFieldName 0 (Nat.le_refl _) hW gl2 
  refine z_callS (As := [_]) eX4_isFieldName sX4_isFieldName lX8_116 dX8_startTag_32 hX0 (Nat.le_trans (by decide) hd) rfl (Nat.le_of_ble_eq_true rfl) (fun r cs1 hp => ?_)
  obtain ⟨hcs, r14, rfl, gr14, n13_0⟩ := hp
  obtain rfl := hcs.symm
  refine z_st (st' := [.int (Int32.ofInt r14)]) rfl ?_
  refine i_if_eq (tgt := 69) dX8_startTag_35 (by decide) gr14 (fun h15 => ?_) (fun h15 => ?_)
  · refine z_loc (L' := [(0, .ref (G.1 + a0)), (1, .int (Int32.ofInt l1)), (3, .int (Int32.ofInt r3))]) (List.forall_mem_cons.mpr ⟨rfl, (List.forall_mem_cons.mpr ⟨rfl, (List.forall_mem_cons.mpr ⟨rfl, (fun _ h => nomatch h)⟩)⟩)⟩) ?_
    exact bX8_startTag_69 hd hW hX ga0 gl1 gr3 (by omega)  hP 
  · refine z_aload_n dX8_startTag_38 rfl rfl ?_
    refine tw_getO hW ga0 (by decide) (by decide) rfl kX8 fX8_46 dX8_startTag_39 (fun b16 pb16 gb16 => ?_)
    have gb16 : oT τ b16 5 := ⟨_, gb16⟩
    refine z_ldcS (i := 6) (tx := " class=\"") (by decide +kernel) dX8_startTag_42 ?_
    have hX0 := kX5_spell 4 (Nat.le_refl _) hW gb16 (show 6 < xN by decide) 
    refine z_callV (As := [_]) eX5_spell sX5_spell lX8_85 rfl dX8_startTag_44 (hW.os gb16).choose_spec hX0 (Nat.le_trans (by decide) hd) rfl (Nat.le_of_ble_eq_true rfl) (fun r cs hp => ?_)
    obtain ⟨τ, rfl, hW, k19⟩ := hp
    have hX := hX.tr k19 (by decide)
    have ga0 := k19.1.e ga0 (by decide)
    clear hX0
    refine z_st (st' := []) rfl ?_
    refine z_aload_n dX8_startTag_47 rfl rfl ?_
    refine tw_getO hW ga0 (by decide) (by decide) rfl kX8 fX8_38 dX8_startTag_48 (fun b20 pb20 gb20 => ?_)
    refine z_aload_n dX8_startTag_51 rfl rfl ?_
    refine tw_getO hW ga0 (by decide) (by decide) rfl kX8 fX8_46 dX8_startTag_52 (fun b21 pb21 gb21 => ?_)
    have gb21 : oT τ b21 5 := ⟨_, gb21⟩
    refine z_iload_n dX8_startTag_55 rfl rfl ?_
    have hX0 := kX4_spellTo 2 (Nat.le_refl _) hW gb20 gb21 gr3 
    refine z_callV (As := [_, _]) eX4_spellTo sX4_spellTo lX8_112 rfl dX8_startTag_56 (hW.ob gb20 (by decide)).choose_spec hX0 (Nat.le_trans (by decide) hd) rfl (Nat.le_of_ble_eq_true rfl) (fun r cs hp => ?_)
    obtain ⟨τ, rfl, hW, k24⟩ := hp
    have hX := hX.tr k24 (by decide)
    have ga0 := k24.1.e ga0 (by decide)
    clear hX0
    refine z_st (st' := []) rfl ?_
    refine z_aload_n dX8_startTag_59 rfl rfl ?_
    refine tw_getO hW ga0 (by decide) (by decide) rfl kX8 fX8_46 dX8_startTag_60 (fun b25 pb25 gb25 => ?_)
    have gb25 : oT τ b25 5 := ⟨_, gb25⟩
    refine z_bipush (v := Int32.ofInt 34) dX8_startTag_63 (by decide) ?_
    have hX0 := kX5_put 1 (Nat.le_refl _) hW gb25 (show rng 34 from ⟨by decide, by decide⟩) 
    refine z_callV (As := [_]) eX5_put sX5_put lX8_89 rfl dX8_startTag_65 (hW.os gb25).choose_spec hX0 (Nat.le_trans (by decide) hd) rfl (Nat.le_of_ble_eq_true rfl) (fun r cs hp => ?_)
    obtain ⟨τ, r27, rfl, gr27, hW, k28, n26_0⟩ := hp
    have hX := hX.tr k28 (by decide)
    have ga0 := k28.1.e ga0 (by decide)
    clear hX0
    refine z_st (st' := [.int (Int32.ofInt r27)]) rfl ?_
    refine z_pop dX8_startTag_68 rfl ?_
    refine z_loc (L' := [(0, .ref (G.1 + a0)), (1, .int (Int32.ofInt l1)), (3, .int (Int32.ofInt r3))]) (List.forall_mem_cons.mpr ⟨rfl, (List.forall_mem_cons.mpr ⟨rfl, (List.forall_mem_cons.mpr ⟨rfl, (fun _ h => nomatch h)⟩)⟩)⟩) ?_
    exact bX8_startTag_69 hd hW hX ga0 gl1 gr3 (by omega)  hP 
