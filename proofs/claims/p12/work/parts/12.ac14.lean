set_option maxRecDepth 100000 in
set_option maxHeartbeats 4000000 in
theorem kX6_restart {G : xG} {B : Nat × Nat} {τ : Tau} {cs : List va_E} {a0 pa0 : Nat} {a1 : Nat} (d : Nat) (hd : 1 ≤ d) (hW : WT G B τ cs) (ga0 : τ a0 = some (.inl (6, pa0))) (ga1 : oT τ a1 5)  : X G yX6_restart cX6_restart 2 none d [.ref (G.1 + a0), .ref (G.1 + a1)] cs (wN G B τ cs [5, 6]) := by
  refine X.of false (by decide +kernel) (by decide) (Nat.le_of_ble_eq_true rfl) ?_
  show Z (RX6, cX6_restart, 2, none, false) G d _ 0 [(0, .ref (G.1 + a0)), (1, .ref (G.1 + a1))] [] cs
  have hP : ∀ (τ1 : Tau) (c1 : List va_E), WT G B τ1 c1 → Fx [5, 6] τ cs τ1 c1 → wN G B τ cs [5, 6] none c1 := fun τ1 c1 h1 h2 => ⟨τ1, rfl, h1, h2⟩
  have hX : Fx [5, 6] τ cs τ cs := Fx.rf
  skip
  refine z_aload_n dX6_restart_0 rfl rfl ?_
  refine z_aload_n dX6_restart_1 rfl rfl ?_
  refine tw_putR (t := .inl (5, 0)) hW hX ga0 (by decide) (by decide) rfl kX6 fX6_18 dX6_restart_2 rfl rfl rfl ga1 (by decide) (fun c1 q qj => TR_text hW ga0 q qj) (fun cs hW hX => ?_)
  refine z_aload_n dX6_restart_5 rfl rfl ?_
  refine tw_getO hW ga0 (by decide) (by decide) rfl kX6 fX6_12 dX6_restart_6 (fun b1 pb1 gb1 => ?_)
  have gb1 : oT τ b1 5 := ⟨_, gb1⟩
  have hX0 := kX5_clear 0 (Nat.le_refl _) hW gb1 
  refine z_callV (As := []) eX5_clear sX5_clear lX6_72 rfl dX6_restart_9 (hW.os gb1).choose_spec hX0 (Nat.le_trans (by decide) hd) rfl (Nat.le_of_ble_eq_true rfl) (fun r cs hp => ?_)
  obtain ⟨τ, rfl, hW, k4⟩ := hp
  have hX := hX.tr k4 (by decide)
  have f5 := k4.fe (k := 16) ga0 (by decide) (by decide) (by decide)
  have ga0 := k4.1.e ga0 (by decide)
  have ga1 := k4.1.s ga1
  clear hX0
  refine z_st (st' := []) rfl ?_
  refine z_aload_n dX6_restart_12 rfl rfl ?_
  refine z_iconst (v := Int32.ofInt 0) dX6_restart_13 rfl ?_
  refine tw_putI hW hX ga0 (by decide) (by decide) rfl kX6 fX6_65 dX6_restart_14 rfl rfl rfl (iv_ok (by omega) (by decide) (by decide)) (by decide) (fun c1 q qj qv => TR_sz0 hW ga0 q (by rw [qv]; rfl)) (fun cs hW hX f6 _ _ => ?_)
  rw [rng_toInt (show rng 0 from ⟨by decide, by decide⟩)] at f6
  refine z_aload_n dX6_restart_17 rfl rfl ?_
  refine z_iconst (v := Int32.ofInt 0) dX6_restart_18 rfl ?_
  refine tw_putI hW hX ga0 (by decide) (by decide) rfl kX6 fX6_69 dX6_restart_19 rfl rfl rfl (iv_ok (by omega) (by decide) (by decide)) (by decide) (fun c1 q qj qv => TR_as hW ga0 q qj (Or.inr (by omega))) (fun cs hW hX _ hfj _ => ?_)
  have f8 := hfj 16 (by decide)
  clear hfj
  exact z_return dX6_restart_22 rfl (hP _ _ hW hX)

set_option maxRecDepth 100000 in
set_option maxHeartbeats 4000000 in
theorem kX6_size {G : xG} {B : Nat × Nat} {τ : Tau} {cs : List va_E} {a0 pa0 : Nat} (d : Nat) (hd : 0 ≤ d) (hW : WT G B τ cs) (ga0 : τ a0 = some (.inl (6, pa0)))  : X G yX6_size cX6_size 1 (some .int) d [.ref (G.1 + a0)] cs (rI cs (fun r => (iv 0 200 r) ∧ (r = fld cs a0 16))) := by
  refine X.of false (by decide +kernel) (by decide) (Nat.le_of_ble_eq_true rfl) ?_
  show Z (RX6, cX6_size, 1, some .int, false) G d _ 0 [(0, .ref (G.1 + a0))] [] cs
  have hP : ∀ r : Int, rng r → ((iv 0 200 r) ∧ (r = fld cs a0 16)) → rI cs (fun r => (iv 0 200 r) ∧ (r = fld cs a0 16)) (some (.int (Int32.ofInt r))) cs := fun r h1 h2 => ⟨rfl, r, rfl, h1, h2⟩
  refine z_aload_n dX6_size_0 rfl rfl ?_
  refine tw_getI hW ga0 (by decide) (by decide) rfl kX6 fX6_65 dX6_size_1 (fun x1 qx1 vx1 gx1 => ?_)
  exact z_ireturn dX6_size_4 rfl rfl (hP _ gx1 ⟨by omega, by omega⟩)

set_option maxRecDepth 100000 in
set_option maxHeartbeats 4000000 in
theorem kX6_addText {G : xG} {B : Nat × Nat} {τ : Tau} {cs : List va_E} {a0 pa0 : Nat} {l1 : Int} {l2 : Int} (d : Nat) (hd : 2 ≤ d) (hW : WT G B τ cs) (ga0 : τ a0 = some (.inl (6, pa0))) (gl1 : rng l1) (gl2 : rng l2)  : X G yX6_addText cX6_addText 3 none d [.ref (G.1 + a0), .int (Int32.ofInt l1), .int (Int32.ofInt l2)] cs (wN G B τ cs [5, 6]) := by
  refine X.of false (by decide +kernel) (by decide) (Nat.le_of_ble_eq_true rfl) ?_
  show Z (RX6, cX6_addText, 3, none, false) G d _ 0 [(0, .ref (G.1 + a0)), (1, .int (Int32.ofInt l1)), (2, .int (Int32.ofInt l2))] [] cs
  have hP : ∀ (τ1 : Tau) (c1 : List va_E), WT G B τ1 c1 → Fx [5, 6] τ cs τ1 c1 → wN G B τ cs [5, 6] none c1 := fun τ1 c1 h1 h2 => ⟨τ1, rfl, h1, h2⟩
  have hX : Fx [5, 6] τ cs τ cs := Fx.rf
  skip
  refine z_aload_n dX6_addText_0 rfl rfl ?_
  refine z_iload_n dX6_addText_1 rfl rfl ?_
  have hX0 := kX6_has 0 (Nat.le_refl _) hW ga0 gl1 
  refine z_callV (As := [_]) eX6_has sX6_has lX6_75 rfl dX6_addText_2 (hW.ob ga0 (by decide)).choose_spec hX0 (Nat.le_trans (by decide) hd) rfl (Nat.le_of_ble_eq_true rfl) (fun r cs1 hp => ?_)
  obtain ⟨hcs, r2, rfl, gr2, ⟨n1_0, n1_1, n1_2⟩⟩ := hp
  obtain rfl := hcs.symm
  refine z_st (st' := [.int (Int32.ofInt r2)]) rfl ?_
  refine i_if_eq (tgt := 57) dX6_addText_5 (by decide) gr2 (fun h3 => ?_) (fun h3 => ?_)
  · exact z_return dX6_addText_57 rfl (hP _ _ hW hX)
  · refine z_aload_n dX6_addText_8 rfl rfl ?_
    refine tw_getO hW ga0 (by decide) (by decide) rfl kX6 fX6_12 dX6_addText_9 (fun b4 pb4 gb4 => ?_)
    have gb4 : oT τ b4 5 := ⟨_, gb4⟩
    refine z_iload_n dX6_addText_12 rfl rfl ?_
    have hX0 := kX5_put 1 (Nat.le_refl _) hW gb4 gl2 
    refine z_callV (As := [_]) eX5_put sX5_put lX6_83 rfl dX6_addText_13 (hW.os gb4).choose_spec hX0 (Nat.le_trans (by decide) hd) rfl (Nat.le_of_ble_eq_true rfl) (fun r cs hp => ?_)
    obtain ⟨τ, r6, rfl, gr6, hW, k7, n5_0⟩ := hp
    have hX := hX.tr k7 (by decide)
    have ga0 := k7.1.e ga0 (by decide)
    clear hX0
    refine z_st (st' := [.int (Int32.ofInt r6)]) rfl ?_
    refine z_pop dX6_addText_16 rfl ?_
    refine z_aload_n dX6_addText_17 rfl rfl ?_
    refine tw_getA hW ga0 (by decide) (by decide) rfl kX6 fX6_46 dX6_addText_18 (fun b8 _ gb8 => ?_)
    refine z_iload_n dX6_addText_21 rfl rfl ?_
    refine z_aload_n dX6_addText_22 rfl rfl ?_
    refine tw_getO hW ga0 (by decide) (by decide) rfl kX6 fX6_12 dX6_addText_23 (fun b9 pb9 gb9 => ?_)
    have gb9 : oT τ b9 5 := ⟨_, gb9⟩
    have hX0 := kX5_length 0 (Nat.le_refl _) hW gb9 
    refine z_callV (As := []) eX5_length sX5_length lX6_79 rfl dX6_addText_26 (hW.os gb9).choose_spec hX0 (Nat.le_trans (by decide) hd) rfl (Nat.le_of_ble_eq_true rfl) (fun r cs1 hp => ?_)
    obtain ⟨hcs, r11, rfl, gr11, n10_0⟩ := hp
    obtain rfl := hcs.symm
    refine z_st (st' := [.int (Int32.ofInt r11), .int (Int32.ofInt l1), .ref (G.1 + b8)]) rfl ?_
    refine tw_iast hW hX gb8 (by omega) (by omega) (any_ok _) (Or.inl rfl) dX6_addText_29 (fun c1 q _ => nA hW gb8 (show (2147483647 : Int) ≠ 600 by decide) (show (2147483647 : Int) ≠ 601 by decide) c1 q) (fun cs hW hX _ _ => ?_)
    refine z_aload_n dX6_addText_30 rfl rfl ?_
    refine tw_getA hW ga0 (by decide) (by decide) rfl kX6 fX6_49 dX6_addText_31 (fun b12 _ gb12 => ?_)
    refine z_iload_n dX6_addText_34 rfl rfl ?_
    refine z_aload_n dX6_addText_35 rfl rfl ?_
    refine tw_getA hW ga0 (by decide) (by decide) rfl kX6 fX6_49 dX6_addText_36 (fun b13 _ gb13 => ?_)
    refine z_iload_n dX6_addText_39 rfl rfl ?_
    refine tw_zald hW gb13 (by omega) (by omega) dX6_addText_40 (fun x14 _ vx14 gx14 => ?_)
    refine i_if_ne (tgt := 51) dX6_addText_41 (by decide) gx14 (fun h15 => ?_) (fun h15 => ?_)
    · refine z_iconst (v := Int32.ofInt 1) dX6_addText_51 rfl ?_
      refine z_goto (tgt := 56) dX6_addText_52 (by decide) ?_
      refine tw_zast hW hX gb12 (by omega) (by omega) (bool_ok ⟨by decide, by decide⟩) (Or.inl rfl) dX6_addText_56 (fun c1 q _ => nA hW gb12 (show (1 : Int) ≠ 600 by decide) (show (1 : Int) ≠ 601 by decide) c1 q) (fun cs hW hX _ _ => ?_)
      exact z_return dX6_addText_57 rfl (hP _ _ hW hX)
    · refine z_iload_n dX6_addText_44 rfl rfl ?_
      have hX0 := kX10_isBlank 0 (Nat.le_refl _) hW gl2 
      refine z_callSN (As := [_]) eX10_isBlank sX10_isBlank lX6_86 dX6_addText_45 hX0 (Nat.le_trans (by decide) hd) rfl (Nat.le_of_ble_eq_true rfl) (fun r cs1 hp => ?_)
      obtain ⟨hcs, r17, rfl, gr17, n16_0⟩ := hp
      obtain rfl := hcs.symm
      refine z_st (st' := [.int (Int32.ofInt r17), .int (Int32.ofInt l1), .ref (G.1 + b12)]) rfl ?_
      refine i_if_ne (tgt := 55) dX6_addText_48 (by decide) gr17 (fun h18 => ?_) (fun h18 => ?_)
      · refine z_iconst (v := Int32.ofInt 0) dX6_addText_55 rfl ?_
        refine tw_zast hW hX gb12 (by omega) (by omega) (bool_ok ⟨by decide, by decide⟩) (Or.inl rfl) dX6_addText_56 (fun c1 q _ => nA hW gb12 (show (1 : Int) ≠ 600 by decide) (show (1 : Int) ≠ 601 by decide) c1 q) (fun cs hW hX _ _ => ?_)
        exact z_return dX6_addText_57 rfl (hP _ _ hW hX)
      · refine z_iconst (v := Int32.ofInt 1) dX6_addText_51 rfl ?_
        refine z_goto (tgt := 56) dX6_addText_52 (by decide) ?_
        refine tw_zast hW hX gb12 (by omega) (by omega) (bool_ok ⟨by decide, by decide⟩) (Or.inl rfl) dX6_addText_56 (fun c1 q _ => nA hW gb12 (show (1 : Int) ≠ 600 by decide) (show (1 : Int) ≠ 601 by decide) c1 q) (fun cs hW hX _ _ => ?_)
        exact z_return dX6_addText_57 rfl (hP _ _ hW hX)

set_option maxRecDepth 100000 in
set_option maxHeartbeats 4000000 in
theorem eX9_comes_2 {G : xG} {d : Nat} {Post : xP} {B : Nat × Nat} {τ : Tau} {cs : List va_E} {a0 pa0 : Nat} {a1 : Nat} {l2 : Int} {n2 : Nat} (hd : 4 ≤ d) (hW : WT G B τ cs) (ga0 : τ a0 = some (.inl (9, pa0))) (ga1 : a1 < xN) (gl2 : rng l2) (i0 : 0 ≤ l2)  (hP : ∀ r : Int, rng r → ((iv 0 1 r)) → Post (some (.int (Int32.ofInt r))) cs)  (ih_2 : ∀ {a0 pa0 : Nat} {a1 : Nat} {l2 : Int} (hW : WT G B τ cs) (ga0 : τ a0 = some (.inl (9, pa0))) (ga1 : a1 < xN) (gl2 : rng l2) (i0 : 0 ≤ l2) , (100 - l2).toNat < n2 → Z (RX9, cX9_comes, 3, some .boolean, false) G d Post 2 [(0, .ref (G.1 + a0)), (1, .ref (G.2.2.2.1 a1)), (2, .int (Int32.ofInt l2))] [] cs) (hm_2 : (100 - l2).toNat < n2 + 1) : Z (RX9, cX9_comes, 3, some .boolean, false) G d Post 2 [(0, .ref (G.1 + a0)), (1, .ref (G.2.2.2.1 a1)), (2, .int (Int32.ofInt l2))] [] cs := by
  refine z_iload_n dX9_comes_2 rfl rfl ?_
  refine z_aload_n dX9_comes_3 rfl rfl ?_
  have hX0 := kJ0_length_8abf5 1 (Nat.le_refl _) hW ga1 
  refine z_callVS (As := []) ga1 eJ0_length_8abf5 sJ0_length_8abf5 lX9_162 rfl dX9_comes_4 hX0 (Nat.le_trans (by decide) hd) rfl (Nat.le_of_ble_eq_true rfl) (fun r cs1 hp => ?_)
  obtain ⟨hcs, r2, rfl, gr2, ⟨n1_0, n1_1⟩⟩ := hp
  obtain rfl := hcs.symm
  refine z_st (st' := [.int (Int32.ofInt r2), .int (Int32.ofInt l2)]) rfl ?_
  refine i_icmp_ge (tgt := 39) dX9_comes_7 (by decide) gl2 gr2 (fun h3 => ?_) (fun h3 => ?_)
  · refine z_iconst (v := Int32.ofInt 1) dX9_comes_39 rfl ?_
    exact z_ireturn dX9_comes_40 rfl (nar01 (b01 ⟨by decide, by decide⟩)) (hP _ (show rng 1 from ⟨by decide, by decide⟩) (by omega))
  · refine z_aload_n dX9_comes_10 rfl rfl ?_
    refine tw_getO hW ga0 (by decide) (by decide) rfl kX9 fX9_24 dX9_comes_11 (fun b4 pb4 gb4 => ?_)
    have gb4 : oT τ b4 5 := ⟨_, gb4⟩
    refine z_aload_n dX9_comes_14 rfl rfl ?_
    refine tw_getI hW ga0 (by decide) (by decide) rfl kX9 fX9_9 dX9_comes_15 (fun x5 _ vx5 gx5 => ?_)
    refine z_iload_n dX9_comes_18 rfl rfl ?_
    refine tw_iadd dX9_comes_19 (fun z6 gz6 ez6 => ?_)
    first | have ez6 := ez6 ⟨by omega, by omega⟩ | clear ez6
    have hX0 := kX5_at 0 (Nat.le_refl _) hW gb4 gz6 
    refine z_callV (As := [_]) eX5_at sX5_at lX9_47 rfl dX9_comes_20 (hW.os gb4).choose_spec hX0 (Nat.le_trans (by decide) hd) rfl (Nat.le_of_ble_eq_true rfl) (fun r cs1 hp => ?_)
    obtain ⟨hcs, r8, rfl, gr8, n7_0⟩ := hp
    obtain rfl := hcs.symm
    refine z_st (st' := [.int (Int32.ofInt r8)]) rfl ?_
    refine z_aload_n dX9_comes_23 rfl rfl ?_
    refine z_iload_n dX9_comes_24 rfl rfl ?_
    have hX0 := kJ0_charAt_5068e 3 (Nat.le_refl _) hW ga1 gl2 (by omega) (by omega)
    refine z_callVS (As := [_]) ga1 eJ0_charAt_5068e sJ0_charAt_5068e lX9_165 rfl dX9_comes_25 hX0 (Nat.le_trans (by decide) hd) rfl (Nat.le_of_ble_eq_true rfl) (fun r cs1 hp => ?_)
    obtain ⟨hcs, r10, rfl, gr10, _⟩ := hp
    obtain rfl := hcs.symm
    refine z_st (st' := [.int (Int32.ofInt r10), .int (Int32.ofInt r8)]) rfl ?_
    refine i_icmp_eq (tgt := 33) dX9_comes_28 (by decide) gr8 gr10 (fun h11 => ?_) (fun h11 => ?_)
    · refine tw_iinc (l := l2) dX9_comes_33 rfl (by decide) (fun z12 gz12 ez12 => ?_)
      first | have ez12 := ez12 ⟨by omega, by omega⟩ | clear ez12
      refine z_loc (L' := [(0, .ref (G.1 + a0)), (1, .ref (G.2.2.2.1 a1)), (2, .int (Int32.ofInt z12))]) (List.forall_mem_cons.mpr ⟨rfl, (List.forall_mem_cons.mpr ⟨rfl, (List.forall_mem_cons.mpr ⟨rfl, (fun _ h => nomatch h)⟩)⟩)⟩) ?_
      refine z_goto (tgt := 2) dX9_comes_36 (by decide) ?_
      refine z_loc (L' := [(0, .ref (G.1 + a0)), (1, .ref (G.2.2.2.1 a1)), (2, .int (Int32.ofInt z12))]) (List.forall_mem_cons.mpr ⟨rfl, (List.forall_mem_cons.mpr ⟨rfl, (List.forall_mem_cons.mpr ⟨rfl, (fun _ h => nomatch h)⟩)⟩)⟩) ?_
      exact ih_2 hW ga0 ga1 gz12 (by omega)  (by omega)
    · refine z_iconst (v := Int32.ofInt 0) dX9_comes_31 rfl ?_
      exact z_ireturn dX9_comes_32 rfl (nar01 (b01 ⟨by decide, by decide⟩)) (hP _ (show rng 0 from ⟨by decide, by decide⟩) (by omega))
set_option maxRecDepth 100000 in
set_option maxHeartbeats 4000000 in
theorem bX9_comes_2 {G : xG} {d : Nat} {Post : xP} {B : Nat × Nat} {τ : Tau} {cs : List va_E} {a0 pa0 : Nat} {a1 : Nat} {l2 : Int} (hd : 4 ≤ d) (hW : WT G B τ cs) (ga0 : τ a0 = some (.inl (9, pa0))) (ga1 : a1 < xN) (gl2 : rng l2) (i0 : 0 ≤ l2)  (hP : ∀ r : Int, rng r → ((iv 0 1 r)) → Post (some (.int (Int32.ofInt r))) cs)  : Z (RX9, cX9_comes, 3, some .boolean, false) G d Post 2 [(0, .ref (G.1 + a0)), (1, .ref (G.2.2.2.1 a1)), (2, .int (Int32.ofInt l2))] [] cs := by
  have key : ∀ (n : Nat) (a0 pa0 : Nat) (a1 : Nat) (l2 : Int) (hW : WT G B τ cs) (ga0 : τ a0 = some (.inl (9, pa0))) (ga1 : a1 < xN) (gl2 : rng l2) (i0 : 0 ≤ l2) , (100 - l2).toNat < n → Z (RX9, cX9_comes, 3, some .boolean, false) G d Post 2 [(0, .ref (G.1 + a0)), (1, .ref (G.2.2.2.1 a1)), (2, .int (Int32.ofInt l2))] [] cs := by
    intro n
    induction n with
    | zero => intro a0 pa0 a1 l2 hW ga0 ga1 gl2 i0 hm; exact absurd hm (Nat.not_lt_zero _)
    | succ n ih =>
      intro a0 pa0 a1 l2 hW ga0 ga1 gl2 i0 hm
      exact eX9_comes_2 hd hW ga0 ga1 gl2 i0 hP  (fun hW ga0 ga1 gl2 i0 hm => ih _ _ _ _ hW ga0 ga1 gl2 i0 hm) hm
  exact key _ _ _ _ _ hW ga0 ga1 gl2 i0 (Nat.lt_succ_self _)
set_option maxRecDepth 100000 in
set_option maxHeartbeats 4000000 in
theorem kX9_comes {G : xG} {B : Nat × Nat} {τ : Tau} {cs : List va_E} {a0 pa0 : Nat} {a1 : Nat} (d : Nat) (hd : 4 ≤ d) (hW : WT G B τ cs) (ga0 : τ a0 = some (.inl (9, pa0))) (ga1 : a1 < xN)  : X G yX9_comes cX9_comes 3 (some .boolean) d [.ref (G.1 + a0), .ref (G.2.2.2.1 a1)] cs (rI cs (fun r => (iv 0 1 r))) := by
  refine X.of false (by decide +kernel) (by decide) (Nat.le_of_ble_eq_true rfl) ?_
  show Z (RX9, cX9_comes, 3, some .boolean, false) G d _ 0 [(0, .ref (G.1 + a0)), (1, .ref (G.2.2.2.1 a1))] [] cs
  have hP : ∀ r : Int, rng r → ((iv 0 1 r)) → rI cs (fun r => (iv 0 1 r)) (some (.int (Int32.ofInt r))) cs := fun r h1 h2 => ⟨rfl, r, rfl, h1, h2⟩
  refine z_iconst (v := Int32.ofInt 0) dX9_comes_0 rfl ?_
  refine z_istore_n dX9_comes_1 rfl (by decide) ?_
  refine z_loc (L' := [(0, .ref (G.1 + a0)), (1, .ref (G.2.2.2.1 a1)), (2, .int (Int32.ofInt 0))]) (List.forall_mem_cons.mpr ⟨rfl, (List.forall_mem_cons.mpr ⟨rfl, (List.forall_mem_cons.mpr ⟨rfl, (fun _ h => nomatch h)⟩)⟩)⟩) ?_
  refine z_loc (L' := [(0, .ref (G.1 + a0)), (1, .ref (G.2.2.2.1 a1)), (2, .int (Int32.ofInt 0))]) (List.forall_mem_cons.mpr ⟨rfl, (List.forall_mem_cons.mpr ⟨rfl, (List.forall_mem_cons.mpr ⟨rfl, (fun _ h => nomatch h)⟩)⟩)⟩) ?_
  exact bX9_comes_2 hd hW ga0 ga1 (show rng 0 from ⟨by decide, by decide⟩) (by omega)  hP 

set_option maxRecDepth 100000 in
set_option maxHeartbeats 4000000 in
theorem bX9_cdata_69 {G : xG} {d : Nat} {Post : xP} {B : Nat × Nat} {τ0 τ : Tau} {c0 cs : List va_E} {a0 pa0 : Nat} (hd : 5 ≤ d) (hW : WT G B τ cs) (hX : Fx [5, 6, 9] τ0 c0 τ cs) (ga0 : τ a0 = some (.inl (9, pa0)))   (hP : ∀ (τ1 : Tau) (c1 : List va_E), WT G B τ1 c1 → Fx [5, 6, 9] τ0 c0 τ1 c1 → Post none c1)  : Z (RX9, cX9_cdata, 1, none, false) G d Post 69 [(0, .ref (G.1 + a0))] [] cs := by
  refine z_aload_n dX9_cdata_69 rfl rfl ?_
  refine tw_getI hW ga0 (by decide) (by decide) rfl kX9 fX9_9 dX9_cdata_70 (fun x1 qx1 vx1 gx1 => ?_)
  refine z_aload_n dX9_cdata_73 rfl rfl ?_
  refine tw_getO hW ga0 (by decide) (by decide) rfl kX9 fX9_24 dX9_cdata_74 (fun b2 pb2 gb2 => ?_)
  have gb2 : oT τ b2 5 := ⟨_, gb2⟩
  have hX0 := kX5_length 0 (Nat.le_refl _) hW gb2 
  refine z_callV (As := []) eX5_length sX5_length lX9_80 rfl dX9_cdata_77 (hW.os gb2).choose_spec hX0 (Nat.le_trans (by decide) hd) rfl (Nat.le_of_ble_eq_true rfl) (fun r cs1 hp => ?_)
  obtain ⟨hcs, r4, rfl, gr4, n3_0⟩ := hp
  obtain rfl := hcs.symm
  refine z_st (st' := [.int (Int32.ofInt r4), .int (Int32.ofInt x1)]) rfl ?_
  refine i_icmp_ge (tgt := 96) dX9_cdata_80 (by decide) gx1 gr4 (fun h5 => ?_) (fun h5 => ?_)
  · refine z_aload_n dX9_cdata_96 rfl rfl ?_
    refine z_aload_n dX9_cdata_97 rfl rfl ?_
    refine tw_getI hW ga0 (by decide) (by decide) rfl kX9 fX9_9 dX9_cdata_98 (fun x6 qx6 vx6 gx6 => ?_)
    refine tw_putI hW hX ga0 (by decide) (by decide) rfl kX9 fX9_21 dX9_cdata_101 rfl rfl rfl (any_ok _) (by decide) (fun c1 q _ _ => nT hW ga0 (by decide) c1 q) (fun cs hW hX _ hfj _ => ?_)
    have f8 := hfj 3 (by decide)
    clear hfj
    exact z_return dX9_cdata_104 rfl (hP _ _ hW hX)
  · refine z_aload_n dX9_cdata_83 rfl rfl ?_
    refine z_dup dX9_cdata_84 rfl ?_
    refine tw_getI hW ga0 (by decide) (by decide) rfl kX9 fX9_9 dX9_cdata_85 (fun x9 qx9 vx9 gx9 => ?_)
    refine z_iconst (v := Int32.ofInt 3) dX9_cdata_88 rfl ?_
    refine tw_iadd dX9_cdata_89 (fun z10 gz10 ez10 => ?_)
    first | have ez10 := ez10 ⟨by omega, by omega⟩ | clear ez10
    refine tw_putI hW hX ga0 (by decide) (by decide) rfl kX9 fX9_9 dX9_cdata_90 rfl rfl rfl (any_ok _) (by decide) (fun c1 q _ _ => nT hW ga0 (by decide) c1 q) (fun cs hW hX f11 _ _ => ?_)
    rw [rng_toInt gz10] at f11
    refine z_goto (tgt := 104) dX9_cdata_93 (by decide) ?_
    exact z_return dX9_cdata_104 rfl (hP _ _ hW hX)
set_option maxRecDepth 100000 in
set_option maxHeartbeats 4000000 in
theorem eX9_cdata_11 {G : xG} {d : Nat} {Post : xP} {B : Nat × Nat} {τ0 τ : Tau} {c0 cs : List va_E} {a0 pa0 : Nat} {n11 : Nat} (hd : 5 ≤ d) (hW : WT G B τ cs) (hX : Fx [5, 6, 9] τ0 c0 τ cs) (ga0 : τ a0 = some (.inl (9, pa0)))   (hP : ∀ (τ1 : Tau) (c1 : List va_E), WT G B τ1 c1 → Fx [5, 6, 9] τ0 c0 τ1 c1 → Post none c1)  (ih_11 : ∀ {τ : Tau} {cs : List va_E} {a0 pa0 : Nat} (hW : WT G B τ cs) (hX : Fx [5, 6, 9] τ0 c0 τ cs) (ga0 : τ a0 = some (.inl (9, pa0)))  , (3001 - fld cs a0 3).toNat < n11 → Z (RX9, cX9_cdata, 1, none, false) G d Post 11 [(0, .ref (G.1 + a0))] [] cs) (hm_11 : (3001 - fld cs a0 3).toNat < n11 + 1) : Z (RX9, cX9_cdata, 1, none, false) G d Post 11 [(0, .ref (G.1 + a0))] [] cs := by
  refine z_aload_n dX9_cdata_11 rfl rfl ?_
  refine tw_getI hW ga0 (by decide) (by decide) rfl kX9 fX9_9 dX9_cdata_12 (fun x1 qx1 vx1 gx1 => ?_)
  refine z_aload_n dX9_cdata_15 rfl rfl ?_
  refine tw_getO hW ga0 (by decide) (by decide) rfl kX9 fX9_24 dX9_cdata_16 (fun b2 pb2 gb2 => ?_)
  have gb2 : oT τ b2 5 := ⟨_, gb2⟩
  have hX0 := kX5_length 0 (Nat.le_refl _) hW gb2 
  refine z_callV (As := []) eX5_length sX5_length lX9_80 rfl dX9_cdata_19 (hW.os gb2).choose_spec hX0 (Nat.le_trans (by decide) hd) rfl (Nat.le_of_ble_eq_true rfl) (fun r cs1 hp => ?_)
  obtain ⟨hcs, r4, rfl, gr4, n3_0⟩ := hp
  obtain rfl := hcs.symm
  refine z_st (st' := [.int (Int32.ofInt r4), .int (Int32.ofInt x1)]) rfl ?_
  refine i_icmp_ge (tgt := 69) dX9_cdata_22 (by decide) gx1 gr4 (fun h5 => ?_) (fun h5 => ?_)
  · refine z_loc (L' := [(0, .ref (G.1 + a0))]) (List.forall_mem_cons.mpr ⟨rfl, (fun _ h => nomatch h)⟩) ?_
    exact bX9_cdata_69 hd hW hX ga0   hP 
  · refine z_aload_n dX9_cdata_25 rfl rfl ?_
    refine z_ldcS (i := 23) (tx := "]]>") (by decide +kernel) dX9_cdata_26 ?_
    have hX0 := kX9_comes 4 (Nat.le_refl _) hW ga0 (show 23 < xN by decide) 
    refine z_callV (As := [_]) eX9_comes sX9_comes lX9_64 rfl dX9_cdata_28 (hW.ob ga0 (by decide)).choose_spec hX0 (Nat.le_trans (by decide) hd) rfl (Nat.le_of_ble_eq_true rfl) (fun r cs1 hp => ?_)
    obtain ⟨hcs, r7, rfl, gr7, n6_0⟩ := hp
    obtain rfl := hcs.symm
    refine z_st (st' := [.int (Int32.ofInt r7)]) rfl ?_
    refine i_if_ne (tgt := 69) dX9_cdata_31 (by decide) gr7 (fun h8 => ?_) (fun h8 => ?_)
    · refine z_loc (L' := [(0, .ref (G.1 + a0))]) (List.forall_mem_cons.mpr ⟨rfl, (fun _ h => nomatch h)⟩) ?_
      exact bX9_cdata_69 hd hW hX ga0   hP 
    · refine z_aload_n dX9_cdata_34 rfl rfl ?_
      refine tw_getO hW ga0 (by decide) (by decide) rfl kX9 fX9_28 dX9_cdata_35 (fun b9 pb9 gb9 => ?_)
      refine z_aload_n dX9_cdata_38 rfl rfl ?_
      refine tw_getI hW ga0 (by decide) (by decide) rfl kX9 fX9_15 dX9_cdata_39 (fun x10 _ vx10 gx10 => ?_)
      refine z_aload_n dX9_cdata_42 rfl rfl ?_
      refine tw_getO hW ga0 (by decide) (by decide) rfl kX9 fX9_24 dX9_cdata_43 (fun b11 pb11 gb11 => ?_)
      have gb11 : oT τ b11 5 := ⟨_, gb11⟩
      refine z_aload_n dX9_cdata_46 rfl rfl ?_
      refine tw_getI hW ga0 (by decide) (by decide) rfl kX9 fX9_9 dX9_cdata_47 (fun x12 qx12 vx12 gx12 => ?_)
      have hX0 := kX5_at 0 (Nat.le_refl _) hW gb11 gx12 
      refine z_callV (As := [_]) eX5_at sX5_at lX9_47 rfl dX9_cdata_50 (hW.os gb11).choose_spec hX0 (Nat.le_trans (by decide) hd) rfl (Nat.le_of_ble_eq_true rfl) (fun r cs1 hp => ?_)
      obtain ⟨hcs, r14, rfl, gr14, n13_0⟩ := hp
      obtain rfl := hcs.symm
      refine z_st (st' := [.int (Int32.ofInt r14), .int (Int32.ofInt x10), .ref (G.1 + b9)]) rfl ?_
      have hX0 := kX6_addText 2 (Nat.le_refl _) hW gb9 gx10 gr14 
      refine z_callV (As := [_, _]) eX6_addText sX6_addText lX9_135 rfl dX9_cdata_53 (hW.ob gb9 (by decide)).choose_spec hX0 (Nat.le_trans (by decide) hd) rfl (Nat.le_of_ble_eq_true rfl) (fun r cs hp => ?_)
      obtain ⟨τ, rfl, hW, k17⟩ := hp
      have hX := hX.tr k17 (by decide)
      have f18 := k17.fe (k := 3) ga0 (by decide) (by decide) (by decide)
      have ga0 := k17.1.e ga0 (by decide)
      clear hX0
      refine z_st (st' := []) rfl ?_
      refine z_aload_n dX9_cdata_56 rfl rfl ?_
      refine z_dup dX9_cdata_57 rfl ?_
      refine tw_getI hW ga0 (by decide) (by decide) rfl kX9 fX9_9 dX9_cdata_58 (fun x19 qx19 vx19 gx19 => ?_)
      refine z_iconst (v := Int32.ofInt 1) dX9_cdata_61 rfl ?_
      refine tw_iadd dX9_cdata_62 (fun z20 gz20 ez20 => ?_)
      first | have ez20 := ez20 ⟨by omega, by omega⟩ | clear ez20
      refine tw_putI hW hX ga0 (by decide) (by decide) rfl kX9 fX9_9 dX9_cdata_63 rfl rfl rfl (any_ok _) (by decide) (fun c1 q _ _ => nT hW ga0 (by decide) c1 q) (fun cs hW hX f21 _ _ => ?_)
      rw [rng_toInt gz20] at f21
      refine z_goto (tgt := 11) dX9_cdata_66 (by decide) ?_
      refine z_loc (L' := [(0, .ref (G.1 + a0))]) (List.forall_mem_cons.mpr ⟨rfl, (fun _ h => nomatch h)⟩) ?_
      exact ih_11 hW hX ga0   (by omega)
set_option maxRecDepth 100000 in
set_option maxHeartbeats 4000000 in
theorem bX9_cdata_11 {G : xG} {d : Nat} {Post : xP} {B : Nat × Nat} {τ0 τ : Tau} {c0 cs : List va_E} {a0 pa0 : Nat} (hd : 5 ≤ d) (hW : WT G B τ cs) (hX : Fx [5, 6, 9] τ0 c0 τ cs) (ga0 : τ a0 = some (.inl (9, pa0)))   (hP : ∀ (τ1 : Tau) (c1 : List va_E), WT G B τ1 c1 → Fx [5, 6, 9] τ0 c0 τ1 c1 → Post none c1)  : Z (RX9, cX9_cdata, 1, none, false) G d Post 11 [(0, .ref (G.1 + a0))] [] cs := by
  have key : ∀ (n : Nat) (τ : Tau) (cs : List va_E) (a0 pa0 : Nat) (hW : WT G B τ cs) (hX : Fx [5, 6, 9] τ0 c0 τ cs) (ga0 : τ a0 = some (.inl (9, pa0)))  , (3001 - fld cs a0 3).toNat < n → Z (RX9, cX9_cdata, 1, none, false) G d Post 11 [(0, .ref (G.1 + a0))] [] cs := by
    intro n
    induction n with
    | zero => intro τ cs a0 pa0 hW hX ga0 hm; exact absurd hm (Nat.not_lt_zero _)
    | succ n ih =>
      intro τ cs a0 pa0 hW hX ga0 hm
      exact eX9_cdata_11 hd hW hX ga0 hP  (fun hW hX ga0 hm => ih _ _ _ _ hW hX ga0 hm) hm
  exact key _ _ _ _ _ hW hX ga0 (Nat.lt_succ_self _)
set_option maxRecDepth 100000 in
set_option maxHeartbeats 4000000 in
theorem kX9_cdata {G : xG} {B : Nat × Nat} {τ : Tau} {cs : List va_E} {a0 pa0 : Nat} (d : Nat) (hd : 5 ≤ d) (hW : WT G B τ cs) (ga0 : τ a0 = some (.inl (9, pa0)))  : X G yX9_cdata cX9_cdata 1 none d [.ref (G.1 + a0)] cs (wN G B τ cs [5, 6, 9]) := by
  refine X.of false (by decide +kernel) (by decide) (Nat.le_of_ble_eq_true rfl) ?_
  show Z (RX9, cX9_cdata, 1, none, false) G d _ 0 [(0, .ref (G.1 + a0))] [] cs
  have hP : ∀ (τ1 : Tau) (c1 : List va_E), WT G B τ1 c1 → Fx [5, 6, 9] τ cs τ1 c1 → wN G B τ cs [5, 6, 9] none c1 := fun τ1 c1 h1 h2 => ⟨τ1, rfl, h1, h2⟩
  have hX : Fx [5, 6, 9] τ cs τ cs := Fx.rf
  skip
  refine z_aload_n dX9_cdata_0 rfl rfl ?_
  refine z_dup dX9_cdata_1 rfl ?_
  refine tw_getI hW ga0 (by decide) (by decide) rfl kX9 fX9_9 dX9_cdata_2 (fun x1 qx1 vx1 gx1 => ?_)
  refine z_bipush (v := Int32.ofInt 9) dX9_cdata_5 (by decide) ?_
  refine tw_iadd dX9_cdata_7 (fun z2 gz2 ez2 => ?_)
  first | have ez2 := ez2 ⟨by omega, by omega⟩ | clear ez2
  refine tw_putI hW hX ga0 (by decide) (by decide) rfl kX9 fX9_9 dX9_cdata_8 rfl rfl rfl (any_ok _) (by decide) (fun c1 q _ _ => nT hW ga0 (by decide) c1 q) (fun cs hW hX f3 _ _ => ?_)
  rw [rng_toInt gz2] at f3
  refine z_loc (L' := [(0, .ref (G.1 + a0))]) (List.forall_mem_cons.mpr ⟨rfl, (fun _ h => nomatch h)⟩) ?_
  exact bX9_cdata_11 hd hW hX ga0   hP 

set_option maxRecDepth 100000 in
set_option maxHeartbeats 4000000 in
theorem bX9_comment_70 {G : xG} {d : Nat} {Post : xP} {B : Nat × Nat} {τ0 τ : Tau} {c0 cs : List va_E} {a0 pa0 : Nat} (hd : 5 ≤ d) (hW : WT G B τ cs) (hX : Fx [9] τ0 c0 τ cs) (ga0 : τ a0 = some (.inl (9, pa0)))   (hP : ∀ (τ1 : Tau) (c1 : List va_E), WT G B τ1 c1 → Fx [9] τ0 c0 τ1 c1 → Post none c1)  : Z (RX9, cX9_comment, 1, none, false) G d Post 70 [(0, .ref (G.1 + a0))] [] cs := by
  refine z_aload_n dX9_comment_70 rfl rfl ?_
  refine tw_getO hW ga0 (by decide) (by decide) rfl kX9 fX9_24 dX9_comment_71 (fun b1 pb1 gb1 => ?_)
  have gb1 : oT τ b1 5 := ⟨_, gb1⟩
  refine z_aload_n dX9_comment_74 rfl rfl ?_
  refine tw_getI hW ga0 (by decide) (by decide) rfl kX9 fX9_9 dX9_comment_75 (fun x2 qx2 vx2 gx2 => ?_)
  have hX0 := kX5_at 0 (Nat.le_refl _) hW gb1 gx2 
  refine z_callV (As := [_]) eX5_at sX5_at lX9_47 rfl dX9_comment_78 (hW.os gb1).choose_spec hX0 (Nat.le_trans (by decide) hd) rfl (Nat.le_of_ble_eq_true rfl) (fun r cs1 hp => ?_)
  obtain ⟨hcs, r4, rfl, gr4, n3_0⟩ := hp
  obtain rfl := hcs.symm
  refine z_st (st' := [.int (Int32.ofInt r4)]) rfl ?_
  refine z_bipush (v := Int32.ofInt 62) dX9_comment_81 (by decide) ?_
  refine i_icmp_ne (tgt := 99) dX9_comment_83 (by decide) gr4 (show rng 62 from ⟨by decide, by decide⟩) (fun h5 => ?_) (fun h5 => ?_)
  · refine z_aload_n dX9_comment_99 rfl rfl ?_
    refine z_aload_n dX9_comment_100 rfl rfl ?_
    refine tw_getI hW ga0 (by decide) (by decide) rfl kX9 fX9_9 dX9_comment_101 (fun x6 qx6 vx6 gx6 => ?_)
    refine tw_putI hW hX ga0 (by decide) (by decide) rfl kX9 fX9_21 dX9_comment_104 rfl rfl rfl (any_ok _) (by decide) (fun c1 q _ _ => nT hW ga0 (by decide) c1 q) (fun cs hW hX _ hfj _ => ?_)
    have f8 := hfj 3 (by decide)
    clear hfj
    exact z_return dX9_comment_107 rfl (hP _ _ hW hX)
  · refine z_aload_n dX9_comment_86 rfl rfl ?_
    refine z_dup dX9_comment_87 rfl ?_
    refine tw_getI hW ga0 (by decide) (by decide) rfl kX9 fX9_9 dX9_comment_88 (fun x9 qx9 vx9 gx9 => ?_)
    refine z_iconst (v := Int32.ofInt 1) dX9_comment_91 rfl ?_
    refine tw_iadd dX9_comment_92 (fun z10 gz10 ez10 => ?_)
    first | have ez10 := ez10 ⟨by omega, by omega⟩ | clear ez10
    refine tw_putI hW hX ga0 (by decide) (by decide) rfl kX9 fX9_9 dX9_comment_93 rfl rfl rfl (any_ok _) (by decide) (fun c1 q _ _ => nT hW ga0 (by decide) c1 q) (fun cs hW hX f11 _ _ => ?_)
    rw [rng_toInt gz10] at f11
    refine z_goto (tgt := 107) dX9_comment_96 (by decide) ?_
    exact z_return dX9_comment_107 rfl (hP _ _ hW hX)
set_option maxRecDepth 100000 in
set_option maxHeartbeats 4000000 in
theorem bX9_comment_46 {G : xG} {d : Nat} {Post : xP} {B : Nat × Nat} {τ0 τ : Tau} {c0 cs : List va_E} {a0 pa0 : Nat} (hd : 5 ≤ d) (hW : WT G B τ cs) (hX : Fx [9] τ0 c0 τ cs) (ga0 : τ a0 = some (.inl (9, pa0)))   (hP : ∀ (τ1 : Tau) (c1 : List va_E), WT G B τ1 c1 → Fx [9] τ0 c0 τ1 c1 → Post none c1)  : Z (RX9, cX9_comment, 1, none, false) G d Post 46 [(0, .ref (G.1 + a0))] [] cs := by
  refine z_aload_n dX9_comment_46 rfl rfl ?_
  refine tw_getI hW ga0 (by decide) (by decide) rfl kX9 fX9_9 dX9_comment_47 (fun x1 qx1 vx1 gx1 => ?_)
  refine z_aload_n dX9_comment_50 rfl rfl ?_
  refine tw_getO hW ga0 (by decide) (by decide) rfl kX9 fX9_24 dX9_comment_51 (fun b2 pb2 gb2 => ?_)
  have gb2 : oT τ b2 5 := ⟨_, gb2⟩
  have hX0 := kX5_length 0 (Nat.le_refl _) hW gb2 
  refine z_callV (As := []) eX5_length sX5_length lX9_80 rfl dX9_comment_54 (hW.os gb2).choose_spec hX0 (Nat.le_trans (by decide) hd) rfl (Nat.le_of_ble_eq_true rfl) (fun r cs1 hp => ?_)
  obtain ⟨hcs, r4, rfl, gr4, n3_0⟩ := hp
  obtain rfl := hcs.symm
  refine z_st (st' := [.int (Int32.ofInt r4), .int (Int32.ofInt x1)]) rfl ?_
  refine i_icmp_ge (tgt := 70) dX9_comment_57 (by decide) gx1 gr4 (fun h5 => ?_) (fun h5 => ?_)
  · refine z_loc (L' := [(0, .ref (G.1 + a0))]) (List.forall_mem_cons.mpr ⟨rfl, (fun _ h => nomatch h)⟩) ?_
    exact bX9_comment_70 hd hW hX ga0   hP 
  · refine z_aload_n dX9_comment_60 rfl rfl ?_
    refine z_dup dX9_comment_61 rfl ?_
    refine tw_getI hW ga0 (by decide) (by decide) rfl kX9 fX9_9 dX9_comment_62 (fun x6 qx6 vx6 gx6 => ?_)
    refine z_iconst (v := Int32.ofInt 2) dX9_comment_65 rfl ?_
    refine tw_iadd dX9_comment_66 (fun z7 gz7 ez7 => ?_)
    first | have ez7 := ez7 ⟨by omega, by omega⟩ | clear ez7
    refine tw_putI hW hX ga0 (by decide) (by decide) rfl kX9 fX9_9 dX9_comment_67 rfl rfl rfl (any_ok _) (by decide) (fun c1 q _ _ => nT hW ga0 (by decide) c1 q) (fun cs hW hX f8 _ _ => ?_)
    rw [rng_toInt gz7] at f8
    refine z_loc (L' := [(0, .ref (G.1 + a0))]) (List.forall_mem_cons.mpr ⟨rfl, (fun _ h => nomatch h)⟩) ?_
    exact bX9_comment_70 hd hW hX ga0   hP 
set_option maxRecDepth 100000 in
set_option maxHeartbeats 4000000 in
theorem eX9_comment_10 {G : xG} {d : Nat} {Post : xP} {B : Nat × Nat} {τ0 τ : Tau} {c0 cs : List va_E} {a0 pa0 : Nat} {n10 : Nat} (hd : 5 ≤ d) (hW : WT G B τ cs) (hX : Fx [9] τ0 c0 τ cs) (ga0 : τ a0 = some (.inl (9, pa0)))   (hP : ∀ (τ1 : Tau) (c1 : List va_E), WT G B τ1 c1 → Fx [9] τ0 c0 τ1 c1 → Post none c1)  (ih_10 : ∀ {τ : Tau} {cs : List va_E} {a0 pa0 : Nat} (hW : WT G B τ cs) (hX : Fx [9] τ0 c0 τ cs) (ga0 : τ a0 = some (.inl (9, pa0)))  , (3001 - fld cs a0 3).toNat < n10 → Z (RX9, cX9_comment, 1, none, false) G d Post 10 [(0, .ref (G.1 + a0))] [] cs) (hm_10 : (3001 - fld cs a0 3).toNat < n10 + 1) : Z (RX9, cX9_comment, 1, none, false) G d Post 10 [(0, .ref (G.1 + a0))] [] cs := by
  refine z_aload_n dX9_comment_10 rfl rfl ?_
  refine tw_getI hW ga0 (by decide) (by decide) rfl kX9 fX9_9 dX9_comment_11 (fun x1 qx1 vx1 gx1 => ?_)
  refine z_aload_n dX9_comment_14 rfl rfl ?_
  refine tw_getO hW ga0 (by decide) (by decide) rfl kX9 fX9_24 dX9_comment_15 (fun b2 pb2 gb2 => ?_)
  have gb2 : oT τ b2 5 := ⟨_, gb2⟩
  have hX0 := kX5_length 0 (Nat.le_refl _) hW gb2 
  refine z_callV (As := []) eX5_length sX5_length lX9_80 rfl dX9_comment_18 (hW.os gb2).choose_spec hX0 (Nat.le_trans (by decide) hd) rfl (Nat.le_of_ble_eq_true rfl) (fun r cs1 hp => ?_)
  obtain ⟨hcs, r4, rfl, gr4, n3_0⟩ := hp
  obtain rfl := hcs.symm
  refine z_st (st' := [.int (Int32.ofInt r4), .int (Int32.ofInt x1)]) rfl ?_
  refine i_icmp_ge (tgt := 46) dX9_comment_21 (by decide) gx1 gr4 (fun h5 => ?_) (fun h5 => ?_)
  · refine z_loc (L' := [(0, .ref (G.1 + a0))]) (List.forall_mem_cons.mpr ⟨rfl, (fun _ h => nomatch h)⟩) ?_
    exact bX9_comment_46 hd hW hX ga0   hP 
  · refine z_aload_n dX9_comment_24 rfl rfl ?_
    refine z_ldcS (i := 21) (tx := "--") (by decide +kernel) dX9_comment_25 ?_
    have hX0 := kX9_comes 4 (Nat.le_refl _) hW ga0 (show 21 < xN by decide) 
    refine z_callV (As := [_]) eX9_comes sX9_comes lX9_64 rfl dX9_comment_27 (hW.ob ga0 (by decide)).choose_spec hX0 (Nat.le_trans (by decide) hd) rfl (Nat.le_of_ble_eq_true rfl) (fun r cs1 hp => ?_)
    obtain ⟨hcs, r7, rfl, gr7, n6_0⟩ := hp
    obtain rfl := hcs.symm
    refine z_st (st' := [.int (Int32.ofInt r7)]) rfl ?_
    refine i_if_ne (tgt := 46) dX9_comment_30 (by decide) gr7 (fun h8 => ?_) (fun h8 => ?_)
    · refine z_loc (L' := [(0, .ref (G.1 + a0))]) (List.forall_mem_cons.mpr ⟨rfl, (fun _ h => nomatch h)⟩) ?_
      exact bX9_comment_46 hd hW hX ga0   hP 
    · refine z_aload_n dX9_comment_33 rfl rfl ?_
      refine z_dup dX9_comment_34 rfl ?_
      refine tw_getI hW ga0 (by decide) (by decide) rfl kX9 fX9_9 dX9_comment_35 (fun x9 qx9 vx9 gx9 => ?_)
      refine z_iconst (v := Int32.ofInt 1) dX9_comment_38 rfl ?_
      refine tw_iadd dX9_comment_39 (fun z10 gz10 ez10 => ?_)
      first | have ez10 := ez10 ⟨by omega, by omega⟩ | clear ez10
      refine tw_putI hW hX ga0 (by decide) (by decide) rfl kX9 fX9_9 dX9_comment_40 rfl rfl rfl (any_ok _) (by decide) (fun c1 q _ _ => nT hW ga0 (by decide) c1 q) (fun cs hW hX f11 _ _ => ?_)
      rw [rng_toInt gz10] at f11
      refine z_goto (tgt := 10) dX9_comment_43 (by decide) ?_
      refine z_loc (L' := [(0, .ref (G.1 + a0))]) (List.forall_mem_cons.mpr ⟨rfl, (fun _ h => nomatch h)⟩) ?_
      exact ih_10 hW hX ga0   (by omega)
set_option maxRecDepth 100000 in
set_option maxHeartbeats 4000000 in
theorem bX9_comment_10 {G : xG} {d : Nat} {Post : xP} {B : Nat × Nat} {τ0 τ : Tau} {c0 cs : List va_E} {a0 pa0 : Nat} (hd : 5 ≤ d) (hW : WT G B τ cs) (hX : Fx [9] τ0 c0 τ cs) (ga0 : τ a0 = some (.inl (9, pa0)))   (hP : ∀ (τ1 : Tau) (c1 : List va_E), WT G B τ1 c1 → Fx [9] τ0 c0 τ1 c1 → Post none c1)  : Z (RX9, cX9_comment, 1, none, false) G d Post 10 [(0, .ref (G.1 + a0))] [] cs := by
  have key : ∀ (n : Nat) (τ : Tau) (cs : List va_E) (a0 pa0 : Nat) (hW : WT G B τ cs) (hX : Fx [9] τ0 c0 τ cs) (ga0 : τ a0 = some (.inl (9, pa0)))  , (3001 - fld cs a0 3).toNat < n → Z (RX9, cX9_comment, 1, none, false) G d Post 10 [(0, .ref (G.1 + a0))] [] cs := by
    intro n
    induction n with
    | zero => intro τ cs a0 pa0 hW hX ga0 hm; exact absurd hm (Nat.not_lt_zero _)
    | succ n ih =>
      intro τ cs a0 pa0 hW hX ga0 hm
      exact eX9_comment_10 hd hW hX ga0 hP  (fun hW hX ga0 hm => ih _ _ _ _ hW hX ga0 hm) hm
  exact key _ _ _ _ _ hW hX ga0 (Nat.lt_succ_self _)
set_option maxRecDepth 100000 in
set_option maxHeartbeats 4000000 in
theorem kX9_comment {G : xG} {B : Nat × Nat} {τ : Tau} {cs : List va_E} {a0 pa0 : Nat} (d : Nat) (hd : 5 ≤ d) (hW : WT G B τ cs) (ga0 : τ a0 = some (.inl (9, pa0)))  : X G yX9_comment cX9_comment 1 none d [.ref (G.1 + a0)] cs (wN G B τ cs [9]) := by
  refine X.of false (by decide +kernel) (by decide) (Nat.le_of_ble_eq_true rfl) ?_
  show Z (RX9, cX9_comment, 1, none, false) G d _ 0 [(0, .ref (G.1 + a0))] [] cs
  have hP : ∀ (τ1 : Tau) (c1 : List va_E), WT G B τ1 c1 → Fx [9] τ cs τ1 c1 → wN G B τ cs [9] none c1 := fun τ1 c1 h1 h2 => ⟨τ1, rfl, h1, h2⟩
  have hX : Fx [9] τ cs τ cs := Fx.rf
  skip
  refine z_aload_n dX9_comment_0 rfl rfl ?_
  refine z_dup dX9_comment_1 rfl ?_
  refine tw_getI hW ga0 (by decide) (by decide) rfl kX9 fX9_9 dX9_comment_2 (fun x1 qx1 vx1 gx1 => ?_)
  refine z_iconst (v := Int32.ofInt 4) dX9_comment_5 rfl ?_
  refine tw_iadd dX9_comment_6 (fun z2 gz2 ez2 => ?_)
  first | have ez2 := ez2 ⟨by omega, by omega⟩ | clear ez2
  refine tw_putI hW hX ga0 (by decide) (by decide) rfl kX9 fX9_9 dX9_comment_7 rfl rfl rfl (any_ok _) (by decide) (fun c1 q _ _ => nT hW ga0 (by decide) c1 q) (fun cs hW hX f3 _ _ => ?_)
  rw [rng_toInt gz2] at f3
  refine z_loc (L' := [(0, .ref (G.1 + a0))]) (List.forall_mem_cons.mpr ⟨rfl, (fun _ h => nomatch h)⟩) ?_
  exact bX9_comment_10 hd hW hX ga0   hP 

set_option maxRecDepth 100000 in
set_option maxHeartbeats 4000000 in
theorem kX6_isNamed {G : xG} {B : Nat × Nat} {τ : Tau} {cs : List va_E} {a0 pa0 : Nat} {l1 : Int} {l2 : Int} {l3 : Int} (d : Nat) (hd : 2 ≤ d) (hW : WT G B τ cs) (ga0 : τ a0 = some (.inl (6, pa0))) (gl1 : rng l1) (gl2 : rng l2) (gl3 : rng l3)  : X G yX6_isNamed cX6_isNamed 4 (some .boolean) d [.ref (G.1 + a0), .int (Int32.ofInt l1), .int (Int32.ofInt l2), .int (Int32.ofInt l3)] cs (rI cs (fun r => (iv 0 1 r))) := by
  refine X.of false (by decide +kernel) (by decide) (Nat.le_of_ble_eq_true rfl) ?_
  show Z (RX6, cX6_isNamed, 4, some .boolean, false) G d _ 0 [(0, .ref (G.1 + a0)), (1, .int (Int32.ofInt l1)), (2, .int (Int32.ofInt l2)), (3, .int (Int32.ofInt l3))] [] cs
  have hP : ∀ r : Int, rng r → ((iv 0 1 r)) → rI cs (fun r => (iv 0 1 r)) (some (.int (Int32.ofInt r))) cs := fun r h1 h2 => ⟨rfl, r, rfl, h1, h2⟩
  refine z_aload_n dX6_isNamed_0 rfl rfl ?_
  refine z_iload_n dX6_isNamed_1 rfl rfl ?_
  have hX0 := kX6_has 0 (Nat.le_refl _) hW ga0 gl1 
  refine z_callV (As := [_]) eX6_has sX6_has lX6_75 rfl dX6_isNamed_2 (hW.ob ga0 (by decide)).choose_spec hX0 (Nat.le_trans (by decide) hd) rfl (Nat.le_of_ble_eq_true rfl) (fun r cs1 hp => ?_)
  obtain ⟨hcs, r2, rfl, gr2, ⟨n1_0, n1_1, n1_2⟩⟩ := hp
  obtain rfl := hcs.symm
  refine z_st (st' := [.int (Int32.ofInt r2)]) rfl ?_
  refine i_if_eq (tgt := 37) dX6_isNamed_5 (by decide) gr2 (fun h3 => ?_) (fun h3 => ?_)
  · refine z_iconst (v := Int32.ofInt 0) dX6_isNamed_37 rfl ?_
    exact z_ireturn dX6_isNamed_38 rfl (nar01 (b01 ⟨by decide, by decide⟩)) (hP _ (show rng 0 from ⟨by decide, by decide⟩) (by omega))
  · refine z_aload_n dX6_isNamed_8 rfl rfl ?_
    refine z_aload_n dX6_isNamed_9 rfl rfl ?_
    refine tw_getA hW ga0 (by decide) (by decide) rfl kX6 fX6_25 dX6_isNamed_10 (fun b4 _ gb4 => ?_)
    refine z_iload_n dX6_isNamed_13 rfl rfl ?_
    refine tw_iald hW gb4 (by omega) (by omega) dX6_isNamed_14 (fun x5 _ vx5 gx5 => ?_)
    refine z_aload_n dX6_isNamed_15 rfl rfl ?_
    refine tw_getA hW ga0 (by decide) (by decide) rfl kX6 fX6_28 dX6_isNamed_16 (fun b6 _ gb6 => ?_)
    refine z_iload_n dX6_isNamed_19 rfl rfl ?_
    refine tw_iald hW gb6 (by omega) (by omega) dX6_isNamed_20 (fun x7 _ vx7 gx7 => ?_)
    refine z_aload_n dX6_isNamed_21 rfl rfl ?_
    refine tw_getO hW ga0 (by decide) (by decide) rfl kX6 fX6_18 dX6_isNamed_22 (fun b8 pb8 gb8 => ?_)
    have gb8 : oT τ b8 5 := ⟨_, gb8⟩
    refine z_iload_n dX6_isNamed_25 rfl rfl ?_
    refine z_iload_n dX6_isNamed_26 rfl rfl ?_
    have hX0 := kX6_isSpelt 1 (Nat.le_refl _) hW ga0 gx5 gx7 gb8 gl2 gl3 
    refine z_callV (As := [_, _, _, _, _]) eX6_isSpelt sX6_isSpelt lX6_92 rfl dX6_isNamed_27 (hW.ob ga0 (by decide)).choose_spec hX0 (Nat.le_trans (by decide) hd) rfl (Nat.le_of_ble_eq_true rfl) (fun r cs1 hp => ?_)
    obtain ⟨hcs, r10, rfl, gr10, n9_0⟩ := hp
    obtain rfl := hcs.symm
    refine z_st (st' := [.int (Int32.ofInt r10)]) rfl ?_
    refine i_if_eq (tgt := 37) dX6_isNamed_30 (by decide) gr10 (fun h11 => ?_) (fun h11 => ?_)
    · refine z_iconst (v := Int32.ofInt 0) dX6_isNamed_37 rfl ?_
      exact z_ireturn dX6_isNamed_38 rfl (nar01 (b01 ⟨by decide, by decide⟩)) (hP _ (show rng 0 from ⟨by decide, by decide⟩) (by omega))
    · refine z_iconst (v := Int32.ofInt 1) dX6_isNamed_33 rfl ?_
      refine z_goto (tgt := 38) dX6_isNamed_34 (by decide) ?_
      exact z_ireturn dX6_isNamed_38 rfl (nar01 (b01 ⟨by decide, by decide⟩)) (hP _ (show rng 1 from ⟨by decide, by decide⟩) (by omega))

set_option maxRecDepth 100000 in
set_option maxHeartbeats 4000000 in
theorem eX9_skipBlanks_0 {G : xG} {d : Nat} {Post : xP} {B : Nat × Nat} {τ0 τ : Tau} {c0 cs : List va_E} {a0 pa0 : Nat} {n0 : Nat} (hd : 1 ≤ d) (hW : WT G B τ cs) (hX : Fx [9] τ0 c0 τ cs) (ga0 : τ a0 = some (.inl (9, pa0)))   (hP : ∀ (τ1 : Tau) (c1 : List va_E), WT G B τ1 c1 → Fx [9] τ0 c0 τ1 c1 → Post none c1)  (ih_0 : ∀ {τ : Tau} {cs : List va_E} {a0 pa0 : Nat} (hW : WT G B τ cs) (hX : Fx [9] τ0 c0 τ cs) (ga0 : τ a0 = some (.inl (9, pa0)))  , (3001 - fld cs a0 3).toNat < n0 → Z (RX9, cX9_skipBlanks, 1, none, false) G d Post 0 [(0, .ref (G.1 + a0))] [] cs) (hm_0 : (3001 - fld cs a0 3).toNat < n0 + 1) : Z (RX9, cX9_skipBlanks, 1, none, false) G d Post 0 [(0, .ref (G.1 + a0))] [] cs := by
  refine z_aload_n dX9_skipBlanks_0 rfl rfl ?_
  refine tw_getI hW ga0 (by decide) (by decide) rfl kX9 fX9_9 dX9_skipBlanks_1 (fun x1 qx1 vx1 gx1 => ?_)
  refine z_aload_n dX9_skipBlanks_4 rfl rfl ?_
  refine tw_getO hW ga0 (by decide) (by decide) rfl kX9 fX9_24 dX9_skipBlanks_5 (fun b2 pb2 gb2 => ?_)
  have gb2 : oT τ b2 5 := ⟨_, gb2⟩
  have hX0 := kX5_length 0 (Nat.le_refl _) hW gb2 
  refine z_callV (As := []) eX5_length sX5_length lX9_80 rfl dX9_skipBlanks_8 (hW.os gb2).choose_spec hX0 (Nat.le_trans (by decide) hd) rfl (Nat.le_of_ble_eq_true rfl) (fun r cs1 hp => ?_)
  obtain ⟨hcs, r4, rfl, gr4, n3_0⟩ := hp
  obtain rfl := hcs.symm
  refine z_st (st' := [.int (Int32.ofInt r4), .int (Int32.ofInt x1)]) rfl ?_
  refine i_icmp_ge (tgt := 44) dX9_skipBlanks_11 (by decide) gx1 gr4 (fun h5 => ?_) (fun h5 => ?_)
  · exact z_return dX9_skipBlanks_44 rfl (hP _ _ hW hX)
  · refine z_aload_n dX9_skipBlanks_14 rfl rfl ?_
    refine tw_getO hW ga0 (by decide) (by decide) rfl kX9 fX9_24 dX9_skipBlanks_15 (fun b6 pb6 gb6 => ?_)
    have gb6 : oT τ b6 5 := ⟨_, gb6⟩
    refine z_aload_n dX9_skipBlanks_18 rfl rfl ?_
    refine tw_getI hW ga0 (by decide) (by decide) rfl kX9 fX9_9 dX9_skipBlanks_19 (fun x7 qx7 vx7 gx7 => ?_)
    have hX0 := kX5_at 0 (Nat.le_refl _) hW gb6 gx7 
    refine z_callV (As := [_]) eX5_at sX5_at lX9_47 rfl dX9_skipBlanks_22 (hW.os gb6).choose_spec hX0 (Nat.le_trans (by decide) hd) rfl (Nat.le_of_ble_eq_true rfl) (fun r cs1 hp => ?_)
    obtain ⟨hcs, r9, rfl, gr9, n8_0⟩ := hp
    obtain rfl := hcs.symm
    refine z_st (st' := [.int (Int32.ofInt r9)]) rfl ?_
    have hX0 := kX10_isBlank 0 (Nat.le_refl _) hW gr9 
    refine z_callSN (As := [_]) eX10_isBlank sX10_isBlank lX9_169 dX9_skipBlanks_25 hX0 (Nat.le_trans (by decide) hd) rfl (Nat.le_of_ble_eq_true rfl) (fun r cs1 hp => ?_)
    obtain ⟨hcs, r11, rfl, gr11, n10_0⟩ := hp
    obtain rfl := hcs.symm
    refine z_st (st' := [.int (Int32.ofInt r11)]) rfl ?_
    refine i_if_eq (tgt := 44) dX9_skipBlanks_28 (by decide) gr11 (fun h12 => ?_) (fun h12 => ?_)
    · exact z_return dX9_skipBlanks_44 rfl (hP _ _ hW hX)
    · refine z_aload_n dX9_skipBlanks_31 rfl rfl ?_
      refine z_dup dX9_skipBlanks_32 rfl ?_
      refine tw_getI hW ga0 (by decide) (by decide) rfl kX9 fX9_9 dX9_skipBlanks_33 (fun x13 qx13 vx13 gx13 => ?_)
      refine z_iconst (v := Int32.ofInt 1) dX9_skipBlanks_36 rfl ?_
      refine tw_iadd dX9_skipBlanks_37 (fun z14 gz14 ez14 => ?_)
      first | have ez14 := ez14 ⟨by omega, by omega⟩ | clear ez14
      refine tw_putI hW hX ga0 (by decide) (by decide) rfl kX9 fX9_9 dX9_skipBlanks_38 rfl rfl rfl (any_ok _) (by decide) (fun c1 q _ _ => nT hW ga0 (by decide) c1 q) (fun cs hW hX f15 _ _ => ?_)
      rw [rng_toInt gz14] at f15
      refine z_goto (tgt := 0) dX9_skipBlanks_41 (by decide) ?_
      refine z_loc (L' := [(0, .ref (G.1 + a0))]) (List.forall_mem_cons.mpr ⟨rfl, (fun _ h => nomatch h)⟩) ?_
      exact ih_0 hW hX ga0   (by omega)
set_option maxRecDepth 100000 in
set_option maxHeartbeats 4000000 in
theorem bX9_skipBlanks_0 {G : xG} {d : Nat} {Post : xP} {B : Nat × Nat} {τ0 τ : Tau} {c0 cs : List va_E} {a0 pa0 : Nat} (hd : 1 ≤ d) (hW : WT G B τ cs) (hX : Fx [9] τ0 c0 τ cs) (ga0 : τ a0 = some (.inl (9, pa0)))   (hP : ∀ (τ1 : Tau) (c1 : List va_E), WT G B τ1 c1 → Fx [9] τ0 c0 τ1 c1 → Post none c1)  : Z (RX9, cX9_skipBlanks, 1, none, false) G d Post 0 [(0, .ref (G.1 + a0))] [] cs := by
  have key : ∀ (n : Nat) (τ : Tau) (cs : List va_E) (a0 pa0 : Nat) (hW : WT G B τ cs) (hX : Fx [9] τ0 c0 τ cs) (ga0 : τ a0 = some (.inl (9, pa0)))  , (3001 - fld cs a0 3).toNat < n → Z (RX9, cX9_skipBlanks, 1, none, false) G d Post 0 [(0, .ref (G.1 + a0))] [] cs := by
    intro n
    induction n with
    | zero => intro τ cs a0 pa0 hW hX ga0 hm; exact absurd hm (Nat.not_lt_zero _)
    | succ n ih =>
      intro τ cs a0 pa0 hW hX ga0 hm
      exact eX9_skipBlanks_0 hd hW hX ga0 hP  (fun hW hX ga0 hm => ih _ _ _ _ hW hX ga0 hm) hm
  exact key _ _ _ _ _ hW hX ga0 (Nat.lt_succ_self _)
set_option maxRecDepth 100000 in
set_option maxHeartbeats 4000000 in
theorem kX9_skipBlanks {G : xG} {B : Nat × Nat} {τ : Tau} {cs : List va_E} {a0 pa0 : Nat} (d : Nat) (hd : 1 ≤ d) (hW : WT G B τ cs) (ga0 : τ a0 = some (.inl (9, pa0)))  : X G yX9_skipBlanks cX9_skipBlanks 1 none d [.ref (G.1 + a0)] cs (wN G B τ cs [9]) := by
  refine X.of false (by decide +kernel) (by decide) (Nat.le_of_ble_eq_true rfl) ?_
  show Z (RX9, cX9_skipBlanks, 1, none, false) G d _ 0 [(0, .ref (G.1 + a0))] [] cs
  have hP : ∀ (τ1 : Tau) (c1 : List va_E), WT G B τ1 c1 → Fx [9] τ cs τ1 c1 → wN G B τ cs [9] none c1 := fun τ1 c1 h1 h2 => ⟨τ1, rfl, h1, h2⟩
  have hX : Fx [9] τ cs τ cs := Fx.rf
  skip
  refine z_loc (L' := [(0, .ref (G.1 + a0))]) (List.forall_mem_cons.mpr ⟨rfl, (fun _ h => nomatch h)⟩) ?_
  exact bX9_skipBlanks_0 hd hW hX ga0   hP 

