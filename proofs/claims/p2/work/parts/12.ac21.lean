set_option maxRecDepth 100000 in
set_option maxHeartbeats 4000000 in
theorem eX5_spell_2 {G : xG} {d : Nat} {Post : xP} {B : Nat × Nat} {τ0 τ : Tau} {c0 cs : List va_E} {a0 : Nat} {a1 : Nat} {l2 : Int} {n2 : Nat} (hd : 4 ≤ d) (hW : WT G B τ cs) (hX : Fx [5] τ0 c0 τ cs) (ga0 : oT τ a0 5) (ga1 : a1 < xN) (gl2 : rng l2) (i0 : 0 ≤ l2)  (hP : ∀ (τ1 : Tau) (c1 : List va_E), WT G B τ1 c1 → Fx [5] τ0 c0 τ1 c1 → Post none c1)  (ih_2 : ∀ {τ : Tau} {cs : List va_E} {a0 : Nat} {a1 : Nat} {l2 : Int} (hW : WT G B τ cs) (hX : Fx [5] τ0 c0 τ cs) (ga0 : oT τ a0 5) (ga1 : a1 < xN) (gl2 : rng l2) (i0 : 0 ≤ l2) , (100 - l2).toNat < n2 → Z (RX5, cX5_spell, 3, none, false) G d Post 2 [(0, .ref (G.1 + a0)), (1, .ref (G.2.2.2.1 a1)), (2, .int (Int32.ofInt l2))] [] cs) (hm_2 : (100 - l2).toNat < n2 + 1) : Z (RX5, cX5_spell, 3, none, false) G d Post 2 [(0, .ref (G.1 + a0)), (1, .ref (G.2.2.2.1 a1)), (2, .int (Int32.ofInt l2))] [] cs := by
  refine z_iload_n dX5_spell_2 rfl rfl ?_
  refine z_aload_n dX5_spell_3 rfl rfl ?_
  have hX0 := kJ0_length_8abf5 1 (Nat.le_refl _) hW ga1 
  refine z_callVS (As := []) ga1 eJ0_length_8abf5 sJ0_length_8abf5 lX5_35 rfl dX5_spell_4 hX0 (Nat.le_trans (by decide) hd) rfl (Nat.le_of_ble_eq_true rfl) (fun r cs1 hp => ?_)
  obtain ⟨hcs, r2, rfl, gr2, ⟨n1_0, n1_1⟩⟩ := hp
  obtain rfl := hcs.symm
  refine z_st (st' := [.int (Int32.ofInt r2), .int (Int32.ofInt l2)]) rfl ?_
  refine i_icmp_ge (tgt := 26) dX5_spell_7 (by decide) gl2 gr2 (fun h3 => ?_) (fun h3 => ?_)
  · exact z_return dX5_spell_26 rfl (hP _ _ hW hX)
  · refine z_aload_n dX5_spell_10 rfl rfl ?_
    refine z_aload_n dX5_spell_11 rfl rfl ?_
    refine z_iload_n dX5_spell_12 rfl rfl ?_
    have hX0 := kJ0_charAt_5068e 3 (Nat.le_refl _) hW ga1 gl2 (by omega) (by omega)
    refine z_callVS (As := [_]) ga1 eJ0_charAt_5068e sJ0_charAt_5068e lX5_40 rfl dX5_spell_13 hX0 (Nat.le_trans (by decide) hd) rfl (Nat.le_of_ble_eq_true rfl) (fun r cs1 hp => ?_)
    obtain ⟨hcs, r5, rfl, gr5, _⟩ := hp
    obtain rfl := hcs.symm
    refine z_st (st' := [.int (Int32.ofInt r5), .ref (G.1 + a0)]) rfl ?_
    have hX0 := kX5_put 1 (Nat.le_refl _) hW ga0 gr5 
    refine z_callV (As := [_]) eX5_put sX5_put lX5_44 rfl dX5_spell_16 (hW.os ga0).choose_spec hX0 (Nat.le_trans (by decide) hd) rfl (Nat.le_of_ble_eq_true rfl) (fun r cs hp => ?_)
    obtain ⟨τ, r7, rfl, gr7, hW, k8, n6_0⟩ := hp
    have hX := hX.tr k8 (by decide)
    have ga0 := k8.1.s ga0
    clear hX0
    refine z_st (st' := [.int (Int32.ofInt r7)]) rfl ?_
    refine z_pop dX5_spell_19 rfl ?_
    refine tw_iinc (l := l2) dX5_spell_20 rfl (by decide) (fun z9 gz9 ez9 => ?_)
    first | have ez9 := ez9 ⟨by omega, by omega⟩ | clear ez9
    refine z_loc (L' := [(0, .ref (G.1 + a0)), (1, .ref (G.2.2.2.1 a1)), (2, .int (Int32.ofInt z9))]) (List.forall_mem_cons.mpr ⟨rfl, (List.forall_mem_cons.mpr ⟨rfl, (List.forall_mem_cons.mpr ⟨rfl, (fun _ h => nomatch h)⟩)⟩)⟩) ?_
    refine z_goto (tgt := 2) dX5_spell_23 (by decide) ?_
    refine z_loc (L' := [(0, .ref (G.1 + a0)), (1, .ref (G.2.2.2.1 a1)), (2, .int (Int32.ofInt z9))]) (List.forall_mem_cons.mpr ⟨rfl, (List.forall_mem_cons.mpr ⟨rfl, (List.forall_mem_cons.mpr ⟨rfl, (fun _ h => nomatch h)⟩)⟩)⟩) ?_
    exact ih_2 hW hX ga0 ga1 gz9 (by omega)  (by omega)
set_option maxRecDepth 100000 in
set_option maxHeartbeats 4000000 in
theorem bX5_spell_2 {G : xG} {d : Nat} {Post : xP} {B : Nat × Nat} {τ0 τ : Tau} {c0 cs : List va_E} {a0 : Nat} {a1 : Nat} {l2 : Int} (hd : 4 ≤ d) (hW : WT G B τ cs) (hX : Fx [5] τ0 c0 τ cs) (ga0 : oT τ a0 5) (ga1 : a1 < xN) (gl2 : rng l2) (i0 : 0 ≤ l2)  (hP : ∀ (τ1 : Tau) (c1 : List va_E), WT G B τ1 c1 → Fx [5] τ0 c0 τ1 c1 → Post none c1)  : Z (RX5, cX5_spell, 3, none, false) G d Post 2 [(0, .ref (G.1 + a0)), (1, .ref (G.2.2.2.1 a1)), (2, .int (Int32.ofInt l2))] [] cs := by
  have key : ∀ (n : Nat) (τ : Tau) (cs : List va_E) (a0 : Nat) (a1 : Nat) (l2 : Int) (hW : WT G B τ cs) (hX : Fx [5] τ0 c0 τ cs) (ga0 : oT τ a0 5) (ga1 : a1 < xN) (gl2 : rng l2) (i0 : 0 ≤ l2) , (100 - l2).toNat < n → Z (RX5, cX5_spell, 3, none, false) G d Post 2 [(0, .ref (G.1 + a0)), (1, .ref (G.2.2.2.1 a1)), (2, .int (Int32.ofInt l2))] [] cs := by
    intro n
    induction n with
    | zero => intro τ cs a0 a1 l2 hW hX ga0 ga1 gl2 i0 hm; exact absurd hm (Nat.not_lt_zero _)
    | succ n ih =>
      intro τ cs a0 a1 l2 hW hX ga0 ga1 gl2 i0 hm
      exact eX5_spell_2 hd hW hX ga0 ga1 gl2 i0 hP  (fun hW hX ga0 ga1 gl2 i0 hm => ih _ _ _ _ _ hW hX ga0 ga1 gl2 i0 hm) hm
  exact key _ _ _ _ _ _ hW hX ga0 ga1 gl2 i0 (Nat.lt_succ_self _)
set_option maxRecDepth 100000 in
set_option maxHeartbeats 4000000 in
theorem kX5_spell {G : xG} {B : Nat × Nat} {τ : Tau} {cs : List va_E} {a0 : Nat} {a1 : Nat} (d : Nat) (hd : 4 ≤ d) (hW : WT G B τ cs) (ga0 : oT τ a0 5) (ga1 : a1 < xN)  : X G yX5_spell cX5_spell 3 none d [.ref (G.1 + a0), .ref (G.2.2.2.1 a1)] cs (wN G B τ cs [5]) := by
  refine X.of false (by decide +kernel) (by decide) (Nat.le_of_ble_eq_true rfl) ?_
  show Z (RX5, cX5_spell, 3, none, false) G d _ 0 [(0, .ref (G.1 + a0)), (1, .ref (G.2.2.2.1 a1))] [] cs
  have hP : ∀ (τ1 : Tau) (c1 : List va_E), WT G B τ1 c1 → Fx [5] τ cs τ1 c1 → wN G B τ cs [5] none c1 := fun τ1 c1 h1 h2 => ⟨τ1, rfl, h1, h2⟩
  have hX : Fx [5] τ cs τ cs := Fx.rf
  skip
  refine z_iconst (v := Int32.ofInt 0) dX5_spell_0 rfl ?_
  refine z_istore_n dX5_spell_1 rfl (by decide) ?_
  refine z_loc (L' := [(0, .ref (G.1 + a0)), (1, .ref (G.2.2.2.1 a1)), (2, .int (Int32.ofInt 0))]) (List.forall_mem_cons.mpr ⟨rfl, (List.forall_mem_cons.mpr ⟨rfl, (List.forall_mem_cons.mpr ⟨rfl, (fun _ h => nomatch h)⟩)⟩)⟩) ?_
  refine z_loc (L' := [(0, .ref (G.1 + a0)), (1, .ref (G.2.2.2.1 a1)), (2, .int (Int32.ofInt 0))]) (List.forall_mem_cons.mpr ⟨rfl, (List.forall_mem_cons.mpr ⟨rfl, (List.forall_mem_cons.mpr ⟨rfl, (fun _ h => nomatch h)⟩)⟩)⟩) ?_
  exact bX5_spell_2 hd hW hX ga0 ga1 (show rng 0 from ⟨by decide, by decide⟩) (by omega)  hP 

set_option maxRecDepth 100000 in
set_option maxHeartbeats 4000000 in
theorem eX4_spellTo_13 {G : xG} {d : Nat} {Post : xP} {B : Nat × Nat} {τ0 τ : Tau} {c0 cs : List va_E} {a0 pa0 : Nat} {a1 : Nat} {l2 : Int} {l3 : Int} {n13 : Nat} (hd : 2 ≤ d) (hW : WT G B τ cs) (hX : Fx [5] τ0 c0 τ cs) (ga0 : τ a0 = some (.inl (4, pa0))) (ga1 : oT τ a1 5) (gl2 : rng l2) (gl3 : rng l3) (i0 : iv 0 29 l2) (i1 : 0 ≤ l3)  (hP : ∀ (τ1 : Tau) (c1 : List va_E), WT G B τ1 c1 → Fx [5] τ0 c0 τ1 c1 → Post none c1)  (ih_13 : ∀ {τ : Tau} {cs : List va_E} {a0 pa0 : Nat} {a1 : Nat} {l2 : Int} {l3 : Int} (hW : WT G B τ cs) (hX : Fx [5] τ0 c0 τ cs) (ga0 : τ a0 = some (.inl (4, pa0))) (ga1 : oT τ a1 5) (gl2 : rng l2) (gl3 : rng l3) (i0 : iv 0 29 l2) (i1 : 0 ≤ l3) , (16 - l3).toNat < n13 → Z (RX4, cX4_spellTo, 4, none, false) G d Post 13 [(0, .ref (G.1 + a0)), (1, .ref (G.1 + a1)), (2, .int (Int32.ofInt l2)), (3, .int (Int32.ofInt l3))] [] cs) (hm_13 : (16 - l3).toNat < n13 + 1) : Z (RX4, cX4_spellTo, 4, none, false) G d Post 13 [(0, .ref (G.1 + a0)), (1, .ref (G.1 + a1)), (2, .int (Int32.ofInt l2)), (3, .int (Int32.ofInt l3))] [] cs := by
  refine z_iload_n dX4_spellTo_13 rfl rfl ?_
  refine z_aload_n dX4_spellTo_14 rfl rfl ?_
  refine tw_getA hW ga0 (by decide) (by decide) rfl kX4 fX4_15 dX4_spellTo_15 (fun b1 _ gb1 => ?_)
  refine z_iload_n dX4_spellTo_18 rfl rfl ?_
  refine tw_iald hW gb1 (by omega) (by omega) dX4_spellTo_19 (fun x2 _ vx2 gx2 => ?_)
  refine i_icmp_ge (tgt := 45) dX4_spellTo_20 (by decide) gl3 gx2 (fun h3 => ?_) (fun h3 => ?_)
  · exact z_return dX4_spellTo_45 rfl (hP _ _ hW hX)
  · refine z_aload_n dX4_spellTo_23 rfl rfl ?_
    refine z_aload_n dX4_spellTo_24 rfl rfl ?_
    refine tw_getA hW ga0 (by decide) (by decide) rfl kX4 fX4_11 dX4_spellTo_25 (fun b4 _ gb4 => ?_)
    refine z_iload_n dX4_spellTo_28 rfl rfl ?_
    refine z_bipush (v := Int32.ofInt 16) dX4_spellTo_29 (by decide) ?_
    refine tw_imul dX4_spellTo_31 (fun z5 gz5 ez5 => ?_)
    first | have ez5 := ez5 ⟨by omega, by omega⟩ | clear ez5
    refine z_iload_n dX4_spellTo_32 rfl rfl ?_
    refine tw_iadd dX4_spellTo_33 (fun z6 gz6 ez6 => ?_)
    first | have ez6 := ez6 ⟨by omega, by omega⟩ | clear ez6
    refine tw_cald hW gb4 (by omega) (by omega) dX4_spellTo_34 (fun x7 _ vx7 gx7 => ?_)
    have hX0 := kX5_put 1 (Nat.le_refl _) hW ga1 gx7 
    refine z_callV (As := [_]) eX5_put sX5_put lX4_65 rfl dX4_spellTo_35 (hW.os ga1).choose_spec hX0 (Nat.le_trans (by decide) hd) rfl (Nat.le_of_ble_eq_true rfl) (fun r cs hp => ?_)
    obtain ⟨τ, r9, rfl, gr9, hW, k10, n8_0⟩ := hp
    have hX := hX.tr k10 (by decide)
    have ga0 := k10.1.e ga0 (by decide)
    have ga1 := k10.1.s ga1
    clear hX0
    refine z_st (st' := [.int (Int32.ofInt r9)]) rfl ?_
    refine z_pop dX4_spellTo_38 rfl ?_
    refine tw_iinc (l := l3) dX4_spellTo_39 rfl (by decide) (fun z11 gz11 ez11 => ?_)
    first | have ez11 := ez11 ⟨by omega, by omega⟩ | clear ez11
    refine z_loc (L' := [(0, .ref (G.1 + a0)), (1, .ref (G.1 + a1)), (2, .int (Int32.ofInt l2)), (3, .int (Int32.ofInt z11))]) (List.forall_mem_cons.mpr ⟨rfl, (List.forall_mem_cons.mpr ⟨rfl, (List.forall_mem_cons.mpr ⟨rfl, (List.forall_mem_cons.mpr ⟨rfl, (fun _ h => nomatch h)⟩)⟩)⟩)⟩) ?_
    refine z_goto (tgt := 13) dX4_spellTo_42 (by decide) ?_
    refine z_loc (L' := [(0, .ref (G.1 + a0)), (1, .ref (G.1 + a1)), (2, .int (Int32.ofInt l2)), (3, .int (Int32.ofInt z11))]) (List.forall_mem_cons.mpr ⟨rfl, (List.forall_mem_cons.mpr ⟨rfl, (List.forall_mem_cons.mpr ⟨rfl, (List.forall_mem_cons.mpr ⟨rfl, (fun _ h => nomatch h)⟩)⟩)⟩)⟩) ?_
    exact ih_13 hW hX ga0 ga1 gl2 gz11 (by omega) (by omega)  (by omega)
set_option maxRecDepth 100000 in
set_option maxHeartbeats 4000000 in
theorem bX4_spellTo_13 {G : xG} {d : Nat} {Post : xP} {B : Nat × Nat} {τ0 τ : Tau} {c0 cs : List va_E} {a0 pa0 : Nat} {a1 : Nat} {l2 : Int} {l3 : Int} (hd : 2 ≤ d) (hW : WT G B τ cs) (hX : Fx [5] τ0 c0 τ cs) (ga0 : τ a0 = some (.inl (4, pa0))) (ga1 : oT τ a1 5) (gl2 : rng l2) (gl3 : rng l3) (i0 : iv 0 29 l2) (i1 : 0 ≤ l3)  (hP : ∀ (τ1 : Tau) (c1 : List va_E), WT G B τ1 c1 → Fx [5] τ0 c0 τ1 c1 → Post none c1)  : Z (RX4, cX4_spellTo, 4, none, false) G d Post 13 [(0, .ref (G.1 + a0)), (1, .ref (G.1 + a1)), (2, .int (Int32.ofInt l2)), (3, .int (Int32.ofInt l3))] [] cs := by
  have key : ∀ (n : Nat) (τ : Tau) (cs : List va_E) (a0 pa0 : Nat) (a1 : Nat) (l2 : Int) (l3 : Int) (hW : WT G B τ cs) (hX : Fx [5] τ0 c0 τ cs) (ga0 : τ a0 = some (.inl (4, pa0))) (ga1 : oT τ a1 5) (gl2 : rng l2) (gl3 : rng l3) (i0 : iv 0 29 l2) (i1 : 0 ≤ l3) , (16 - l3).toNat < n → Z (RX4, cX4_spellTo, 4, none, false) G d Post 13 [(0, .ref (G.1 + a0)), (1, .ref (G.1 + a1)), (2, .int (Int32.ofInt l2)), (3, .int (Int32.ofInt l3))] [] cs := by
    intro n
    induction n with
    | zero => intro τ cs a0 pa0 a1 l2 l3 hW hX ga0 ga1 gl2 gl3 i0 i1 hm; exact absurd hm (Nat.not_lt_zero _)
    | succ n ih =>
      intro τ cs a0 pa0 a1 l2 l3 hW hX ga0 ga1 gl2 gl3 i0 i1 hm
      exact eX4_spellTo_13 hd hW hX ga0 ga1 gl2 gl3 i0 i1 hP  (fun hW hX ga0 ga1 gl2 gl3 i0 i1 hm => ih _ _ _ _ _ _ _ hW hX ga0 ga1 gl2 gl3 i0 i1 hm) hm
  exact key _ _ _ _ _ _ _ _ hW hX ga0 ga1 gl2 gl3 i0 i1 (Nat.lt_succ_self _)
set_option maxRecDepth 100000 in
set_option maxHeartbeats 4000000 in
theorem kX4_spellTo {G : xG} {B : Nat × Nat} {τ : Tau} {cs : List va_E} {a0 pa0 : Nat} {a1 : Nat} {l2 : Int} (d : Nat) (hd : 2 ≤ d) (hW : WT G B τ cs) (ga0 : τ a0 = some (.inl (4, pa0))) (ga1 : oT τ a1 5) (gl2 : rng l2)  : X G yX4_spellTo cX4_spellTo 4 none d [.ref (G.1 + a0), .ref (G.1 + a1), .int (Int32.ofInt l2)] cs (wN G B τ cs [5]) := by
  refine X.of false (by decide +kernel) (by decide) (Nat.le_of_ble_eq_true rfl) ?_
  show Z (RX4, cX4_spellTo, 4, none, false) G d _ 0 [(0, .ref (G.1 + a0)), (1, .ref (G.1 + a1)), (2, .int (Int32.ofInt l2))] [] cs
  have hP : ∀ (τ1 : Tau) (c1 : List va_E), WT G B τ1 c1 → Fx [5] τ cs τ1 c1 → wN G B τ cs [5] none c1 := fun τ1 c1 h1 h2 => ⟨τ1, rfl, h1, h2⟩
  have hX : Fx [5] τ cs τ cs := Fx.rf
  skip
  refine z_iload_n dX4_spellTo_0 rfl rfl ?_
  refine i_if_lt (tgt := 10) dX4_spellTo_1 (by decide) gl2 (fun h1 => ?_) (fun h1 => ?_)
  · exact z_return dX4_spellTo_10 rfl (hP _ _ hW hX)
  · refine z_iload_n dX4_spellTo_4 rfl rfl ?_
    refine z_bipush (v := Int32.ofInt 30) dX4_spellTo_5 (by decide) ?_
    refine i_icmp_lt (tgt := 11) dX4_spellTo_7 (by decide) gl2 (show rng 30 from ⟨by decide, by decide⟩) (fun h2 => ?_) (fun h2 => ?_)
    · refine z_iconst (v := Int32.ofInt 0) dX4_spellTo_11 rfl ?_
      refine z_istore_n dX4_spellTo_12 rfl (by decide) ?_
      refine z_loc (L' := [(0, .ref (G.1 + a0)), (1, .ref (G.1 + a1)), (2, .int (Int32.ofInt l2)), (3, .int (Int32.ofInt 0))]) (List.forall_mem_cons.mpr ⟨rfl, (List.forall_mem_cons.mpr ⟨rfl, (List.forall_mem_cons.mpr ⟨rfl, (List.forall_mem_cons.mpr ⟨rfl, (fun _ h => nomatch h)⟩)⟩)⟩)⟩) ?_
      refine z_loc (L' := [(0, .ref (G.1 + a0)), (1, .ref (G.1 + a1)), (2, .int (Int32.ofInt l2)), (3, .int (Int32.ofInt 0))]) (List.forall_mem_cons.mpr ⟨rfl, (List.forall_mem_cons.mpr ⟨rfl, (List.forall_mem_cons.mpr ⟨rfl, (List.forall_mem_cons.mpr ⟨rfl, (fun _ h => nomatch h)⟩)⟩)⟩)⟩) ?_
      exact bX4_spellTo_13 hd hW hX ga0 ga1 gl2 (show rng 0 from ⟨by decide, by decide⟩) (by omega) (by omega)  hP 
    · exact z_return dX4_spellTo_10 rfl (hP _ _ hW hX)

set_option maxRecDepth 100000 in
set_option maxHeartbeats 4000000 in
theorem kX8_endTag {G : xG} {B : Nat × Nat} {τ : Tau} {cs : List va_E} {a0 pa0 : Nat} {l1 : Int} (d : Nat) (hd : 5 ≤ d) (hW : WT G B τ cs) (ga0 : τ a0 = some (.inl (8, pa0))) (gl1 : rng l1)  : X G yX8_endTag cX8_endTag 2 none d [.ref (G.1 + a0), .int (Int32.ofInt l1)] cs (wN G B τ cs [5]) := by
  refine X.of false (by decide +kernel) (by decide) (Nat.le_of_ble_eq_true rfl) ?_
  show Z (RX8, cX8_endTag, 2, none, false) G d _ 0 [(0, .ref (G.1 + a0)), (1, .int (Int32.ofInt l1))] [] cs
  have hP : ∀ (τ1 : Tau) (c1 : List va_E), WT G B τ1 c1 → Fx [5] τ cs τ1 c1 → wN G B τ cs [5] none c1 := fun τ1 c1 h1 h2 => ⟨τ1, rfl, h1, h2⟩
  have hX : Fx [5] τ cs τ cs := Fx.rf
  skip
  refine z_aload_n dX8_endTag_0 rfl rfl ?_
  refine tw_getO hW ga0 (by decide) (by decide) rfl kX8 fX8_46 dX8_endTag_1 (fun b1 pb1 gb1 => ?_)
  have gb1 : oT τ b1 5 := ⟨_, gb1⟩
  refine z_ldcS (i := 14) (tx := "</") (by decide +kernel) dX8_endTag_4 ?_
  have hX0 := kX5_spell 4 (Nat.le_refl _) hW gb1 (show 14 < xN by decide) 
  refine z_callV (As := [_]) eX5_spell sX5_spell lX8_85 rfl dX8_endTag_6 (hW.os gb1).choose_spec hX0 (Nat.le_trans (by decide) hd) rfl (Nat.le_of_ble_eq_true rfl) (fun r cs hp => ?_)
  obtain ⟨τ, rfl, hW, k4⟩ := hp
  have hX := hX.tr k4 (by decide)
  have ga0 := k4.1.e ga0 (by decide)
  clear hX0
  refine z_st (st' := []) rfl ?_
  refine z_aload_n dX8_endTag_9 rfl rfl ?_
  refine tw_getO hW ga0 (by decide) (by decide) rfl kX8 fX8_38 dX8_endTag_10 (fun b5 pb5 gb5 => ?_)
  refine z_aload_n dX8_endTag_13 rfl rfl ?_
  refine tw_getO hW ga0 (by decide) (by decide) rfl kX8 fX8_46 dX8_endTag_14 (fun b6 pb6 gb6 => ?_)
  have gb6 : oT τ b6 5 := ⟨_, gb6⟩
  refine z_iload_n dX8_endTag_17 rfl rfl ?_
  have hX0 := kX4_spellTo 2 (Nat.le_refl _) hW gb5 gb6 gl1 
  refine z_callV (As := [_, _]) eX4_spellTo sX4_spellTo lX8_112 rfl dX8_endTag_18 (hW.ob gb5 (by decide)).choose_spec hX0 (Nat.le_trans (by decide) hd) rfl (Nat.le_of_ble_eq_true rfl) (fun r cs hp => ?_)
  obtain ⟨τ, rfl, hW, k9⟩ := hp
  have hX := hX.tr k9 (by decide)
  have ga0 := k9.1.e ga0 (by decide)
  clear hX0
  refine z_st (st' := []) rfl ?_
  refine z_aload_n dX8_endTag_21 rfl rfl ?_
  refine tw_getO hW ga0 (by decide) (by decide) rfl kX8 fX8_46 dX8_endTag_22 (fun b10 pb10 gb10 => ?_)
  have gb10 : oT τ b10 5 := ⟨_, gb10⟩
  refine z_bipush (v := Int32.ofInt 62) dX8_endTag_25 (by decide) ?_
  have hX0 := kX5_put 1 (Nat.le_refl _) hW gb10 (show rng 62 from ⟨by decide, by decide⟩) 
  refine z_callV (As := [_]) eX5_put sX5_put lX8_89 rfl dX8_endTag_27 (hW.os gb10).choose_spec hX0 (Nat.le_trans (by decide) hd) rfl (Nat.le_of_ble_eq_true rfl) (fun r cs hp => ?_)
  obtain ⟨τ, r12, rfl, gr12, hW, k13, n11_0⟩ := hp
  have hX := hX.tr k13 (by decide)
  have ga0 := k13.1.e ga0 (by decide)
  clear hX0
  refine z_st (st' := [.int (Int32.ofInt r12)]) rfl ?_
  refine z_pop dX8_endTag_30 rfl ?_
  exact z_return dX8_endTag_31 rfl (hP _ _ hW hX)

set_option maxRecDepth 100000 in
set_option maxHeartbeats 4000000 in
theorem kX8_hasElement {G : xG} {B : Nat × Nat} {τ : Tau} {cs : List va_E} {a0 pa0 : Nat} {l1 : Int} {l2 : Int} {l3 : Int} (d : Nat) (hd : 2 ≤ d) (hW : WT G B τ cs) (ga0 : τ a0 = some (.inl (8, pa0))) (gl1 : rng l1) (gl2 : rng l2) (gl3 : rng l3)  : X G yX8_hasElement cX8_hasElement 4 (some .boolean) d [.ref (G.1 + a0), .int (Int32.ofInt l1), .int (Int32.ofInt l2), .int (Int32.ofInt l3)] cs (rI cs (fun r => (iv 0 1 r))) := by
  refine X.of false (by decide +kernel) (by decide) (Nat.le_of_ble_eq_true rfl) ?_
  show Z (RX8, cX8_hasElement, 4, some .boolean, false) G d _ 0 [(0, .ref (G.1 + a0)), (1, .int (Int32.ofInt l1)), (2, .int (Int32.ofInt l2)), (3, .int (Int32.ofInt l3))] [] cs
  have hP : ∀ r : Int, rng r → ((iv 0 1 r)) → rI cs (fun r => (iv 0 1 r)) (some (.int (Int32.ofInt r))) cs := fun r h1 h2 => ⟨rfl, r, rfl, h1, h2⟩
  refine z_aload_n dX8_hasElement_0 rfl rfl ?_
  refine tw_getO hW ga0 (by decide) (by decide) rfl kX8 fX8_38 dX8_hasElement_1 (fun b1 pb1 gb1 => ?_)
  refine z_iload_n dX8_hasElement_4 rfl rfl ?_
  refine z_iload_n dX8_hasElement_5 rfl rfl ?_
  have hX0 := kX4_shape 1 (Nat.le_refl _) hW gb1 gl2 gl3 
  refine z_callV (As := [_, _]) eX4_shape sX4_shape lX8_103 rfl dX8_hasElement_6 (hW.ob gb1 (by decide)).choose_spec hX0 (Nat.le_trans (by decide) hd) rfl (Nat.le_of_ble_eq_true rfl) (fun r cs1 hp => ?_)
  obtain ⟨hcs, r3, rfl, gr3, _⟩ := hp
  obtain rfl := hcs.symm
  refine z_st (st' := [.int (Int32.ofInt r3)]) rfl ?_
  refine z_iconst (v := Int32.ofInt 3) dX8_hasElement_9 rfl ?_
  refine i_icmp_ne (tgt := 33) dX8_hasElement_10 (by decide) gr3 (show rng 3 from ⟨by decide, by decide⟩) (fun h4 => ?_) (fun h4 => ?_)
  · refine z_aload_n dX8_hasElement_33 rfl rfl ?_
    refine tw_getO hW ga0 (by decide) (by decide) rfl kX8 fX8_38 dX8_hasElement_34 (fun b5 pb5 gb5 => ?_)
    refine z_iload_n dX8_hasElement_37 rfl rfl ?_
    have hX0 := kX4_implicit 1 (Nat.le_refl _) hW gb5 gl2 
    refine z_callV (As := [_]) eX4_implicit sX4_implicit lX8_148 rfl dX8_hasElement_38 (hW.ob gb5 (by decide)).choose_spec hX0 (Nat.le_trans (by decide) hd) rfl (Nat.le_of_ble_eq_true rfl) (fun r cs1 hp => ?_)
    obtain ⟨hcs, r7, rfl, gr7, _⟩ := hp
    obtain rfl := hcs.symm
    refine z_st (st' := [.int (Int32.ofInt r7)]) rfl ?_
    refine z_iload_n dX8_hasElement_41 rfl rfl ?_
    refine i_icmp_ne (tgt := 57) dX8_hasElement_42 (by decide) gr7 gl3 (fun h8 => ?_) (fun h8 => ?_)
    · refine z_iconst (v := Int32.ofInt 1) dX8_hasElement_57 rfl ?_
      refine z_goto (tgt := 62) dX8_hasElement_58 (by decide) ?_
      exact z_ireturn dX8_hasElement_62 rfl (nar01 (b01 ⟨by decide, by decide⟩)) (hP _ (show rng 1 from ⟨by decide, by decide⟩) (by omega))
    · refine z_aload_n dX8_hasElement_45 rfl rfl ?_
      refine tw_getO hW ga0 (by decide) (by decide) rfl kX8 fX8_42 dX8_hasElement_46 (fun b9 pb9 gb9 => ?_)
      refine z_iload_n dX8_hasElement_49 rfl rfl ?_
      refine z_iload_n dX8_hasElement_50 rfl rfl ?_
      have hX0 := kX1_head 1 (Nat.le_refl _) hW gb9 gl1 gl3 
      refine z_callV (As := [_, _]) eX1_head sX1_head lX8_145 rfl dX8_hasElement_51 (hW.ob gb9 (by decide)).choose_spec hX0 (Nat.le_trans (by decide) hd) rfl (Nat.le_of_ble_eq_true rfl) (fun r cs1 hp => ?_)
      obtain ⟨hcs, r11, rfl, gr11, _⟩ := hp
      obtain rfl := hcs.symm
      refine z_st (st' := [.int (Int32.ofInt r11)]) rfl ?_
      refine i_if_le (tgt := 61) dX8_hasElement_54 (by decide) gr11 (fun h12 => ?_) (fun h12 => ?_)
      · refine z_iconst (v := Int32.ofInt 0) dX8_hasElement_61 rfl ?_
        exact z_ireturn dX8_hasElement_62 rfl (nar01 (b01 ⟨by decide, by decide⟩)) (hP _ (show rng 0 from ⟨by decide, by decide⟩) (by omega))
      · refine z_iconst (v := Int32.ofInt 1) dX8_hasElement_57 rfl ?_
        refine z_goto (tgt := 62) dX8_hasElement_58 (by decide) ?_
        exact z_ireturn dX8_hasElement_62 rfl (nar01 (b01 ⟨by decide, by decide⟩)) (hP _ (show rng 1 from ⟨by decide, by decide⟩) (by omega))
  · refine z_aload_n dX8_hasElement_13 rfl rfl ?_
    refine tw_getO hW ga0 (by decide) (by decide) rfl kX8 fX8_42 dX8_hasElement_14 (fun b13 pb13 gb13 => ?_)
    refine z_iload_n dX8_hasElement_17 rfl rfl ?_
    refine z_iload_n dX8_hasElement_18 rfl rfl ?_
    have hX0 := kX1_head 1 (Nat.le_refl _) hW gb13 gl1 gl3 
    refine z_callV (As := [_, _]) eX1_head sX1_head lX8_145 rfl dX8_hasElement_19 (hW.ob gb13 (by decide)).choose_spec hX0 (Nat.le_trans (by decide) hd) rfl (Nat.le_of_ble_eq_true rfl) (fun r cs1 hp => ?_)
    obtain ⟨hcs, r15, rfl, gr15, _⟩ := hp
    obtain rfl := hcs.symm
    refine z_st (st' := [.int (Int32.ofInt r15)]) rfl ?_
    refine z_bipush (v := Int32.ofInt (-2)) dX8_hasElement_22 (by decide) ?_
    refine i_icmp_eq (tgt := 31) dX8_hasElement_24 (by decide) gr15 (show rng (-2) from ⟨by decide, by decide⟩) (fun h16 => ?_) (fun h16 => ?_)
    · refine z_iconst (v := Int32.ofInt 0) dX8_hasElement_31 rfl ?_
      exact z_ireturn dX8_hasElement_32 rfl (nar01 (b01 ⟨by decide, by decide⟩)) (hP _ (show rng 0 from ⟨by decide, by decide⟩) (by omega))
    · refine z_iconst (v := Int32.ofInt 1) dX8_hasElement_27 rfl ?_
      refine z_goto (tgt := 32) dX8_hasElement_28 (by decide) ?_
      exact z_ireturn dX8_hasElement_32 rfl (nar01 (b01 ⟨by decide, by decide⟩)) (hP _ (show rng 1 from ⟨by decide, by decide⟩) (by omega))

set_option maxRecDepth 100000 in
set_option maxHeartbeats 4000000 in
theorem bX8_hasContent_47 {G : xG} {d : Nat} {Post : xP} {B : Nat × Nat} {τ : Tau} {cs : List va_E} {a0 pa0 : Nat} {l1 : Int} {l2 : Int} {l3 : Int} {n11 : Nat} (hd : 3 ≤ d) (hW : WT G B τ cs) (ga0 : τ a0 = some (.inl (8, pa0))) (gl1 : rng l1) (gl2 : rng l2) (gl3 : rng l3) (i0 : 1 ≤ 4 - l3) (hm_11 : (4 - l3).toNat < n11 + 1) (hP : ∀ r : Int, rng r → ((iv 0 1 r)) → Post (some (.int (Int32.ofInt r))) cs) (ih_11 : ∀ {a0 pa0 : Nat} {l1 : Int} {l2 : Int} {l3 : Int} (hW : WT G B τ cs) (ga0 : τ a0 = some (.inl (8, pa0))) (gl1 : rng l1) (gl2 : rng l2) (gl3 : rng l3)  , (4 - l3).toNat < n11 → Z (RX8, cX8_hasContent, 4, some .boolean, false) G d Post 11 [(0, .ref (G.1 + a0)), (1, .int (Int32.ofInt l1)), (2, .int (Int32.ofInt l2)), (3, .int (Int32.ofInt l3))] [] cs) : Z (RX8, cX8_hasContent, 4, some .boolean, false) G d Post 47 [(0, .ref (G.1 + a0)), (1, .int (Int32.ofInt l1)), (2, .int (Int32.ofInt l2)), (3, .int (Int32.ofInt l3))] [] cs := by
  refine tw_iinc (l := l3) dX8_hasContent_47 rfl (by decide) (fun z1 gz1 ez1 => ?_)
  first | have ez1 := ez1 ⟨by omega, by omega⟩ | clear ez1
  refine z_loc (L' := [(0, .ref (G.1 + a0)), (1, .int (Int32.ofInt l1)), (2, .int (Int32.ofInt l2)), (3, .int (Int32.ofInt z1))]) (List.forall_mem_cons.mpr ⟨rfl, (List.forall_mem_cons.mpr ⟨rfl, (List.forall_mem_cons.mpr ⟨rfl, (List.forall_mem_cons.mpr ⟨rfl, (fun _ h => nomatch h)⟩)⟩)⟩)⟩) ?_
  refine z_goto (tgt := 11) dX8_hasContent_50 (by decide) ?_
  refine z_loc (L' := [(0, .ref (G.1 + a0)), (1, .int (Int32.ofInt l1)), (2, .int (Int32.ofInt l2)), (3, .int (Int32.ofInt z1))]) (List.forall_mem_cons.mpr ⟨rfl, (List.forall_mem_cons.mpr ⟨rfl, (List.forall_mem_cons.mpr ⟨rfl, (List.forall_mem_cons.mpr ⟨rfl, (fun _ h => nomatch h)⟩)⟩)⟩)⟩) ?_
  exact ih_11 hW ga0 gl1 gl2 gz1   (by omega)
set_option maxRecDepth 100000 in
set_option maxHeartbeats 4000000 in
theorem eX8_hasContent_11 {G : xG} {d : Nat} {Post : xP} {B : Nat × Nat} {τ : Tau} {cs : List va_E} {a0 pa0 : Nat} {l1 : Int} {l2 : Int} {l3 : Int} {n11 : Nat} (hd : 3 ≤ d) (hW : WT G B τ cs) (ga0 : τ a0 = some (.inl (8, pa0))) (gl1 : rng l1) (gl2 : rng l2) (gl3 : rng l3)   (hP : ∀ r : Int, rng r → ((iv 0 1 r)) → Post (some (.int (Int32.ofInt r))) cs)  (ih_11 : ∀ {a0 pa0 : Nat} {l1 : Int} {l2 : Int} {l3 : Int} (hW : WT G B τ cs) (ga0 : τ a0 = some (.inl (8, pa0))) (gl1 : rng l1) (gl2 : rng l2) (gl3 : rng l3)  , (4 - l3).toNat < n11 → Z (RX8, cX8_hasContent, 4, some .boolean, false) G d Post 11 [(0, .ref (G.1 + a0)), (1, .int (Int32.ofInt l1)), (2, .int (Int32.ofInt l2)), (3, .int (Int32.ofInt l3))] [] cs) (hm_11 : (4 - l3).toNat < n11 + 1) : Z (RX8, cX8_hasContent, 4, some .boolean, false) G d Post 11 [(0, .ref (G.1 + a0)), (1, .int (Int32.ofInt l1)), (2, .int (Int32.ofInt l2)), (3, .int (Int32.ofInt l3))] [] cs := by
  refine z_iload_n dX8_hasContent_11 rfl rfl ?_
  refine z_aload_n dX8_hasContent_12 rfl rfl ?_
  refine tw_getO hW ga0 (by decide) (by decide) rfl kX8 fX8_38 dX8_hasContent_13 (fun b1 pb1 gb1 => ?_)
  refine z_iload_n dX8_hasContent_16 rfl rfl ?_
  have hX0 := kX4_fieldCount 1 (Nat.le_refl _) hW gb1 gl2 
  refine z_callV (As := [_]) eX4_fieldCount sX4_fieldCount lX8_126 rfl dX8_hasContent_17 (hW.ob gb1 (by decide)).choose_spec hX0 (Nat.le_trans (by decide) hd) rfl (Nat.le_of_ble_eq_true rfl) (fun r cs1 hp => ?_)
  obtain ⟨hcs, r3, rfl, gr3, n2_0⟩ := hp
  obtain rfl := hcs.symm
  refine z_st (st' := [.int (Int32.ofInt r3), .int (Int32.ofInt l3)]) rfl ?_
  refine i_icmp_ge (tgt := 53) dX8_hasContent_20 (by decide) gl3 gr3 (fun h4 => ?_) (fun h4 => ?_)
  · refine z_iconst (v := Int32.ofInt 0) dX8_hasContent_53 rfl ?_
    exact z_ireturn dX8_hasContent_54 rfl (nar01 (b01 ⟨by decide, by decide⟩)) (hP _ (show rng 0 from ⟨by decide, by decide⟩) (by omega))
  · refine z_aload_n dX8_hasContent_23 rfl rfl ?_
    refine tw_getO hW ga0 (by decide) (by decide) rfl kX8 fX8_38 dX8_hasContent_24 (fun b5 pb5 gb5 => ?_)
    refine z_iload_n dX8_hasContent_27 rfl rfl ?_
    refine z_iload_n dX8_hasContent_28 rfl rfl ?_
    have hX0 := kX4_isAttribute 1 (Nat.le_refl _) hW gb5 gl2 gl3 
    refine z_callV (As := [_, _]) eX4_isAttribute sX4_isAttribute lX8_129 rfl dX8_hasContent_29 (hW.ob gb5 (by decide)).choose_spec hX0 (Nat.le_trans (by decide) hd) rfl (Nat.le_of_ble_eq_true rfl) (fun r cs1 hp => ?_)
    obtain ⟨hcs, r7, rfl, gr7, n6_0⟩ := hp
    obtain rfl := hcs.symm
    refine z_st (st' := [.int (Int32.ofInt r7)]) rfl ?_
    refine i_if_ne (tgt := 47) dX8_hasContent_32 (by decide) gr7 (fun h8 => ?_) (fun h8 => ?_)
    · refine z_loc (L' := [(0, .ref (G.1 + a0)), (1, .int (Int32.ofInt l1)), (2, .int (Int32.ofInt l2)), (3, .int (Int32.ofInt l3))]) (List.forall_mem_cons.mpr ⟨rfl, (List.forall_mem_cons.mpr ⟨rfl, (List.forall_mem_cons.mpr ⟨rfl, (List.forall_mem_cons.mpr ⟨rfl, (fun _ h => nomatch h)⟩)⟩)⟩)⟩) ?_
      exact bX8_hasContent_47 hd hW ga0 gl1 gl2 gl3 (by omega) (by omega) hP ih_11
    · refine z_aload_n dX8_hasContent_35 rfl rfl ?_
      refine z_iload_n dX8_hasContent_36 rfl rfl ?_
      refine z_iload_n dX8_hasContent_37 rfl rfl ?_
      refine z_iload_n dX8_hasContent_38 rfl rfl ?_
      have hX0 := kX8_hasElement 2 (Nat.le_refl _) hW ga0 gl1 gl2 gl3 
      refine z_callV (As := [_, _, _]) eX8_hasElement sX8_hasElement lX8_141 rfl dX8_hasContent_39 (hW.ob ga0 (by decide)).choose_spec hX0 (Nat.le_trans (by decide) hd) rfl (Nat.le_of_ble_eq_true rfl) (fun r cs1 hp => ?_)
      obtain ⟨hcs, r10, rfl, gr10, n9_0⟩ := hp
      obtain rfl := hcs.symm
      refine z_st (st' := [.int (Int32.ofInt r10)]) rfl ?_
      refine i_if_eq (tgt := 47) dX8_hasContent_42 (by decide) gr10 (fun h11 => ?_) (fun h11 => ?_)
      · refine z_loc (L' := [(0, .ref (G.1 + a0)), (1, .int (Int32.ofInt l1)), (2, .int (Int32.ofInt l2)), (3, .int (Int32.ofInt l3))]) (List.forall_mem_cons.mpr ⟨rfl, (List.forall_mem_cons.mpr ⟨rfl, (List.forall_mem_cons.mpr ⟨rfl, (List.forall_mem_cons.mpr ⟨rfl, (fun _ h => nomatch h)⟩)⟩)⟩)⟩) ?_
        exact bX8_hasContent_47 hd hW ga0 gl1 gl2 gl3 (by omega) (by omega) hP ih_11
      · refine z_iconst (v := Int32.ofInt 1) dX8_hasContent_45 rfl ?_
        exact z_ireturn dX8_hasContent_46 rfl (nar01 (b01 ⟨by decide, by decide⟩)) (hP _ (show rng 1 from ⟨by decide, by decide⟩) (by omega))
set_option maxRecDepth 100000 in
set_option maxHeartbeats 4000000 in
theorem bX8_hasContent_11 {G : xG} {d : Nat} {Post : xP} {B : Nat × Nat} {τ : Tau} {cs : List va_E} {a0 pa0 : Nat} {l1 : Int} {l2 : Int} {l3 : Int} (hd : 3 ≤ d) (hW : WT G B τ cs) (ga0 : τ a0 = some (.inl (8, pa0))) (gl1 : rng l1) (gl2 : rng l2) (gl3 : rng l3)   (hP : ∀ r : Int, rng r → ((iv 0 1 r)) → Post (some (.int (Int32.ofInt r))) cs)  : Z (RX8, cX8_hasContent, 4, some .boolean, false) G d Post 11 [(0, .ref (G.1 + a0)), (1, .int (Int32.ofInt l1)), (2, .int (Int32.ofInt l2)), (3, .int (Int32.ofInt l3))] [] cs := by
  have key : ∀ (n : Nat) (a0 pa0 : Nat) (l1 : Int) (l2 : Int) (l3 : Int) (hW : WT G B τ cs) (ga0 : τ a0 = some (.inl (8, pa0))) (gl1 : rng l1) (gl2 : rng l2) (gl3 : rng l3)  , (4 - l3).toNat < n → Z (RX8, cX8_hasContent, 4, some .boolean, false) G d Post 11 [(0, .ref (G.1 + a0)), (1, .int (Int32.ofInt l1)), (2, .int (Int32.ofInt l2)), (3, .int (Int32.ofInt l3))] [] cs := by
    intro n
    induction n with
    | zero => intro a0 pa0 l1 l2 l3 hW ga0 gl1 gl2 gl3 hm; exact absurd hm (Nat.not_lt_zero _)
    | succ n ih =>
      intro a0 pa0 l1 l2 l3 hW ga0 gl1 gl2 gl3 hm
      exact eX8_hasContent_11 hd hW ga0 gl1 gl2 gl3 hP  (fun hW ga0 gl1 gl2 gl3 hm => ih _ _ _ _ _ hW ga0 gl1 gl2 gl3 hm) hm
  exact key _ _ _ _ _ _ hW ga0 gl1 gl2 gl3 (Nat.lt_succ_self _)
set_option maxRecDepth 100000 in
set_option maxHeartbeats 4000000 in
theorem kX8_hasContent {G : xG} {B : Nat × Nat} {τ : Tau} {cs : List va_E} {a0 pa0 : Nat} {l1 : Int} (d : Nat) (hd : 3 ≤ d) (hW : WT G B τ cs) (ga0 : τ a0 = some (.inl (8, pa0))) (gl1 : rng l1)  : X G yX8_hasContent cX8_hasContent 4 (some .boolean) d [.ref (G.1 + a0), .int (Int32.ofInt l1)] cs (rI cs (fun r => (iv 0 1 r))) := by
  refine X.of false (by decide +kernel) (by decide) (Nat.le_of_ble_eq_true rfl) ?_
  show Z (RX8, cX8_hasContent, 4, some .boolean, false) G d _ 0 [(0, .ref (G.1 + a0)), (1, .int (Int32.ofInt l1))] [] cs
  have hP : ∀ r : Int, rng r → ((iv 0 1 r)) → rI cs (fun r => (iv 0 1 r)) (some (.int (Int32.ofInt r))) cs := fun r h1 h2 => ⟨rfl, r, rfl, h1, h2⟩
  refine z_aload_n dX8_hasContent_0 rfl rfl ?_
  refine tw_getO hW ga0 (by decide) (by decide) rfl kX8 fX8_42 dX8_hasContent_1 (fun b1 pb1 gb1 => ?_)
  refine z_iload_n dX8_hasContent_4 rfl rfl ?_
  have hX0 := kX1_classOf 1 (Nat.le_refl _) hW gb1 gl1 
  refine z_callV (As := [_]) eX1_classOf sX1_classOf lX8_99 rfl dX8_hasContent_5 (hW.ob gb1 (by decide)).choose_spec hX0 (Nat.le_trans (by decide) hd) rfl (Nat.le_of_ble_eq_true rfl) (fun r cs1 hp => ?_)
  obtain ⟨hcs, r3, rfl, gr3, _⟩ := hp
  obtain rfl := hcs.symm
  refine z_st (st' := [.int (Int32.ofInt r3)]) rfl ?_
  refine z_istore_n dX8_hasContent_8 rfl (by decide) ?_
  refine z_loc (L' := [(0, .ref (G.1 + a0)), (1, .int (Int32.ofInt l1)), (2, .int (Int32.ofInt r3))]) (List.forall_mem_cons.mpr ⟨rfl, (List.forall_mem_cons.mpr ⟨rfl, (List.forall_mem_cons.mpr ⟨rfl, (fun _ h => nomatch h)⟩)⟩)⟩) ?_
  refine z_iconst (v := Int32.ofInt 0) dX8_hasContent_9 rfl ?_
  refine z_istore_n dX8_hasContent_10 rfl (by decide) ?_
  refine z_loc (L' := [(0, .ref (G.1 + a0)), (1, .int (Int32.ofInt l1)), (2, .int (Int32.ofInt r3)), (3, .int (Int32.ofInt 0))]) (List.forall_mem_cons.mpr ⟨rfl, (List.forall_mem_cons.mpr ⟨rfl, (List.forall_mem_cons.mpr ⟨rfl, (List.forall_mem_cons.mpr ⟨rfl, (fun _ h => nomatch h)⟩)⟩)⟩)⟩) ?_
  refine z_loc (L' := [(0, .ref (G.1 + a0)), (1, .int (Int32.ofInt l1)), (2, .int (Int32.ofInt r3)), (3, .int (Int32.ofInt 0))]) (List.forall_mem_cons.mpr ⟨rfl, (List.forall_mem_cons.mpr ⟨rfl, (List.forall_mem_cons.mpr ⟨rfl, (List.forall_mem_cons.mpr ⟨rfl, (fun _ h => nomatch h)⟩)⟩)⟩)⟩) ?_
  exact bX8_hasContent_11 hd hW ga0 gl1 gr3 (show rng 0 from ⟨by decide, by decide⟩)   hP 

set_option maxRecDepth 100000 in
set_option maxHeartbeats 4000000 in
theorem kX8_nameOf {G : xG} {B : Nat × Nat} {τ : Tau} {cs : List va_E} {a0 pa0 : Nat} {l1 : Int} {l2 : Int} {l3 : Int} (d : Nat) (hd : 2 ≤ d) (hW : WT G B τ cs) (ga0 : τ a0 = some (.inl (8, pa0))) (gl1 : rng l1) (gl2 : rng l2) (gl3 : rng l3)  : X G yX8_nameOf cX8_nameOf 5 (some .int) d [.ref (G.1 + a0), .int (Int32.ofInt l1), .int (Int32.ofInt l2), .int (Int32.ofInt l3)] cs (rI cs (fun r => True)) := by
  refine X.of false (by decide +kernel) (by decide) (Nat.le_of_ble_eq_true rfl) ?_
  show Z (RX8, cX8_nameOf, 5, some .int, false) G d _ 0 [(0, .ref (G.1 + a0)), (1, .int (Int32.ofInt l1)), (2, .int (Int32.ofInt l2)), (3, .int (Int32.ofInt l3))] [] cs
  have hP : ∀ r : Int, rng r → (True) → rI cs (fun r => True) (some (.int (Int32.ofInt r))) cs := fun r h1 h2 => ⟨rfl, r, rfl, h1, h2⟩
  refine z_aload_n dX8_nameOf_0 rfl rfl ?_
  refine tw_getO hW ga0 (by decide) (by decide) rfl kX8 fX8_42 dX8_nameOf_1 (fun b1 pb1 gb1 => ?_)
  refine z_iload_n dX8_nameOf_4 rfl rfl ?_
  have hX0 := kX1_classOf 1 (Nat.le_refl _) hW gb1 gl2 
  refine z_callV (As := [_]) eX1_classOf sX1_classOf lX8_99 rfl dX8_nameOf_5 (hW.ob gb1 (by decide)).choose_spec hX0 (Nat.le_trans (by decide) hd) rfl (Nat.le_of_ble_eq_true rfl) (fun r cs1 hp => ?_)
  obtain ⟨hcs, r3, rfl, gr3, _⟩ := hp
  obtain rfl := hcs.symm
  refine z_st (st' := [.int (Int32.ofInt r3)]) rfl ?_
  refine z_istore dX8_nameOf_8 (by decide) ?_
  refine z_loc (L' := [(0, .ref (G.1 + a0)), (1, .int (Int32.ofInt l1)), (2, .int (Int32.ofInt l2)), (3, .int (Int32.ofInt l3)), (4, .int (Int32.ofInt r3))]) (List.forall_mem_cons.mpr ⟨rfl, (List.forall_mem_cons.mpr ⟨rfl, (List.forall_mem_cons.mpr ⟨rfl, (List.forall_mem_cons.mpr ⟨rfl, (List.forall_mem_cons.mpr ⟨rfl, (fun _ h => nomatch h)⟩)⟩)⟩)⟩)⟩) ?_
  refine z_aload_n dX8_nameOf_10 rfl rfl ?_
  refine tw_getO hW ga0 (by decide) (by decide) rfl kX8 fX8_38 dX8_nameOf_11 (fun b4 pb4 gb4 => ?_)
  refine z_iload dX8_nameOf_14 rfl ?_
  refine z_iload_n dX8_nameOf_16 rfl rfl ?_
  have hX0 := kX4_shape 1 (Nat.le_refl _) hW gb4 gr3 gl3 
  refine z_callV (As := [_, _]) eX4_shape sX4_shape lX8_103 rfl dX8_nameOf_17 (hW.ob gb4 (by decide)).choose_spec hX0 (Nat.le_trans (by decide) hd) rfl (Nat.le_of_ble_eq_true rfl) (fun r cs1 hp => ?_)
  obtain ⟨hcs, r6, rfl, gr6, _⟩ := hp
  obtain rfl := hcs.symm
  refine z_st (st' := [.int (Int32.ofInt r6)]) rfl ?_
  refine z_iconst (v := Int32.ofInt 3) dX8_nameOf_20 rfl ?_
  refine i_icmp_ne (tgt := 33) dX8_nameOf_21 (by decide) gr6 (show rng 3 from ⟨by decide, by decide⟩) (fun h7 => ?_) (fun h7 => ?_)
  · refine z_aload_n dX8_nameOf_33 rfl rfl ?_
    refine tw_getO hW ga0 (by decide) (by decide) rfl kX8 fX8_42 dX8_nameOf_34 (fun b8 pb8 gb8 => ?_)
    refine z_iload_n dX8_nameOf_37 rfl rfl ?_
    have hX0 := kX1_classOf 1 (Nat.le_refl _) hW gb8 gl1 
    refine z_callV (As := [_]) eX1_classOf sX1_classOf lX8_99 rfl dX8_nameOf_38 (hW.ob gb8 (by decide)).choose_spec hX0 (Nat.le_trans (by decide) hd) rfl (Nat.le_of_ble_eq_true rfl) (fun r cs1 hp => ?_)
    obtain ⟨hcs, r10, rfl, gr10, _⟩ := hp
    obtain rfl := hcs.symm
    refine z_st (st' := [.int (Int32.ofInt r10)]) rfl ?_
    exact z_ireturn dX8_nameOf_41 rfl rfl (hP _ gr10 trivial)
  · refine z_iload dX8_nameOf_24 rfl ?_
    refine z_iload_n dX8_nameOf_26 rfl rfl ?_
    have hX0 := kX4_fieldName 0 (Nat.le_refl _) hW gr3 gl3 
    refine z_callS (As := [_, _]) eX4_fieldName sX4_fieldName lX8_109 dX8_nameOf_27 hX0 (Nat.le_trans (by decide) hd) rfl (Nat.le_of_ble_eq_true rfl) (fun r cs1 hp => ?_)
    obtain ⟨hcs, r12, rfl, gr12, n11_0⟩ := hp
    obtain rfl := hcs.symm
    refine z_st (st' := [.int (Int32.ofInt r12)]) rfl ?_
    refine z_goto (tgt := 41) dX8_nameOf_30 (by decide) ?_
    exact z_ireturn dX8_nameOf_41 rfl rfl (hP _ gr12 trivial)

set_option maxRecDepth 100000 in
set_option maxHeartbeats 4000000 in
theorem eX8_number_61 {G : xG} {d : Nat} {Post : xP} {B : Nat × Nat} {τ0 τ : Tau} {c0 cs : List va_E} {a0 pa0 : Nat} {l2 : Int} {l4 : Int} {l6 : Int} {n61 : Nat} (hd : 2 ≤ d) (hW : WT G B τ cs) (hX : Fx [5] τ0 c0 τ cs) (ga0 : τ a0 = some (.inl (8, pa0))) (gl2 : rngL l2) (gl4 : rngL l4) (gl6 : rng l6)   (hP : ∀ (τ1 : Tau) (c1 : List va_E), WT G B τ1 c1 → Fx [5] τ0 c0 τ1 c1 → Post none c1)  (ih_61 : ∀ {τ : Tau} {cs : List va_E} {a0 pa0 : Nat} {l2 : Int} {l4 : Int} {l6 : Int} (hW : WT G B τ cs) (hX : Fx [5] τ0 c0 τ cs) (ga0 : τ a0 = some (.inl (8, pa0))) (gl2 : rngL l2) (gl4 : rngL l4) (gl6 : rng l6)  , (10 - l6).toNat < n61 → Z (RX8, cX8_number, 7, none, false) G d Post 61 [(0, .ref (G.1 + a0)), (2, .long (Int64.ofInt l2)), (4, .long (Int64.ofInt l4)), (6, .int (Int32.ofInt l6))] [] cs) (hm_61 : (10 - l6).toNat < n61 + 1) : Z (RX8, cX8_number, 7, none, false) G d Post 61 [(0, .ref (G.1 + a0)), (2, .long (Int64.ofInt l2)), (4, .long (Int64.ofInt l4)), (6, .int (Int32.ofInt l6))] [] cs := by
  refine z_iload dX8_number_61 rfl ?_
  refine z_bipush (v := Int32.ofInt 10) dX8_number_63 (by decide) ?_
  refine i_icmp_ge (tgt := 109) dX8_number_65 (by decide) gl6 (show rng 10 from ⟨by decide, by decide⟩) (fun h1 => ?_) (fun h1 => ?_)
  · exact z_return dX8_number_109 rfl (hP _ _ hW hX)
  · refine z_lload dX8_number_68 rfl ?_
    refine z_lconst (v := Int64.ofInt 0) dX8_number_70 (by decide) ?_
    refine i_lcmp_le (tgt := 109) dX8_number_71 dX8_number_72 (by decide) gl4 (show rngL 0 from ⟨by decide, by decide⟩) (fun h2 => ?_) (fun h2 => ?_)
    · exact z_return dX8_number_109 rfl (hP _ _ hW hX)
    · refine z_aload_n dX8_number_75 rfl rfl ?_
      refine tw_getO hW ga0 (by decide) (by decide) rfl kX8 fX8_46 dX8_number_76 (fun b3 pb3 gb3 => ?_)
      have gb3 : oT τ b3 5 := ⟨_, gb3⟩
      refine z_bipush (v := Int32.ofInt 48) dX8_number_79 (by decide) ?_
      refine z_lload_n dX8_number_81 rfl rfl ?_
      refine z_lload dX8_number_82 rfl ?_
      refine tw_ldiv dX8_number_84 (by omega) gl4 (fun z4 gz4 => ?_)
      refine i_ldc2 (n := 10) qX8_179 rfl dX8_number_85 ?_
      refine tw_lrem dX8_number_88 (by decide) (show rngL 10 from ⟨by decide, by decide⟩) (fun z5 gz5 => ?_)
      refine tw_l2i dX8_number_89 (fun z6 gz6 => ?_)
      refine tw_iadd dX8_number_90 (fun z7 gz7 ez7 => ?_)
      first | have ez7 := ez7 ⟨by omega, by omega⟩ | clear ez7
      have hX0 := kX5_put 1 (Nat.le_refl _) hW gb3 gz7 
      refine z_callV (As := [_]) eX5_put sX5_put lX8_89 rfl dX8_number_91 (hW.os gb3).choose_spec hX0 (Nat.le_trans (by decide) hd) rfl (Nat.le_of_ble_eq_true rfl) (fun r cs hp => ?_)
      obtain ⟨τ, r9, rfl, gr9, hW, k10, n8_0⟩ := hp
      have hX := hX.tr k10 (by decide)
      have ga0 := k10.1.e ga0 (by decide)
      clear hX0
      refine z_st (st' := [.int (Int32.ofInt r9)]) rfl ?_
      refine z_pop dX8_number_94 rfl ?_
      refine z_lload dX8_number_95 rfl ?_
      refine i_ldc2 (n := 10) qX8_179 rfl dX8_number_97 ?_
      refine tw_ldiv dX8_number_100 (by decide) (show rngL 10 from ⟨by decide, by decide⟩) (fun z11 gz11 => ?_)
      refine z_lstore dX8_number_101 (by decide) ?_
      refine z_loc (L' := [(0, .ref (G.1 + a0)), (2, .long (Int64.ofInt l2)), (4, .long (Int64.ofInt z11)), (6, .int (Int32.ofInt l6))]) (List.forall_mem_cons.mpr ⟨rfl, (List.forall_mem_cons.mpr ⟨rfl, (List.forall_mem_cons.mpr ⟨rfl, (List.forall_mem_cons.mpr ⟨rfl, (fun _ h => nomatch h)⟩)⟩)⟩)⟩) ?_
      refine tw_iinc (l := l6) dX8_number_103 rfl (by decide) (fun z12 gz12 ez12 => ?_)
      first | have ez12 := ez12 ⟨by omega, by omega⟩ | clear ez12
      refine z_loc (L' := [(0, .ref (G.1 + a0)), (2, .long (Int64.ofInt l2)), (4, .long (Int64.ofInt z11)), (6, .int (Int32.ofInt z12))]) (List.forall_mem_cons.mpr ⟨rfl, (List.forall_mem_cons.mpr ⟨rfl, (List.forall_mem_cons.mpr ⟨rfl, (List.forall_mem_cons.mpr ⟨rfl, (fun _ h => nomatch h)⟩)⟩)⟩)⟩) ?_
      refine z_goto (tgt := 61) dX8_number_106 (by decide) ?_
      refine z_loc (L' := [(0, .ref (G.1 + a0)), (2, .long (Int64.ofInt l2)), (4, .long (Int64.ofInt z11)), (6, .int (Int32.ofInt z12))]) (List.forall_mem_cons.mpr ⟨rfl, (List.forall_mem_cons.mpr ⟨rfl, (List.forall_mem_cons.mpr ⟨rfl, (List.forall_mem_cons.mpr ⟨rfl, (fun _ h => nomatch h)⟩)⟩)⟩)⟩) ?_
      exact ih_61 hW hX ga0 gl2 gz11 gz12   (by omega)
set_option maxRecDepth 100000 in
set_option maxHeartbeats 4000000 in
theorem bX8_number_61 {G : xG} {d : Nat} {Post : xP} {B : Nat × Nat} {τ0 τ : Tau} {c0 cs : List va_E} {a0 pa0 : Nat} {l2 : Int} {l4 : Int} {l6 : Int} (hd : 2 ≤ d) (hW : WT G B τ cs) (hX : Fx [5] τ0 c0 τ cs) (ga0 : τ a0 = some (.inl (8, pa0))) (gl2 : rngL l2) (gl4 : rngL l4) (gl6 : rng l6)   (hP : ∀ (τ1 : Tau) (c1 : List va_E), WT G B τ1 c1 → Fx [5] τ0 c0 τ1 c1 → Post none c1)  : Z (RX8, cX8_number, 7, none, false) G d Post 61 [(0, .ref (G.1 + a0)), (2, .long (Int64.ofInt l2)), (4, .long (Int64.ofInt l4)), (6, .int (Int32.ofInt l6))] [] cs := by
  have key : ∀ (n : Nat) (τ : Tau) (cs : List va_E) (a0 pa0 : Nat) (l2 : Int) (l4 : Int) (l6 : Int) (hW : WT G B τ cs) (hX : Fx [5] τ0 c0 τ cs) (ga0 : τ a0 = some (.inl (8, pa0))) (gl2 : rngL l2) (gl4 : rngL l4) (gl6 : rng l6)  , (10 - l6).toNat < n → Z (RX8, cX8_number, 7, none, false) G d Post 61 [(0, .ref (G.1 + a0)), (2, .long (Int64.ofInt l2)), (4, .long (Int64.ofInt l4)), (6, .int (Int32.ofInt l6))] [] cs := by
    intro n
    induction n with
    | zero => intro τ cs a0 pa0 l2 l4 l6 hW hX ga0 gl2 gl4 gl6 hm; exact absurd hm (Nat.not_lt_zero _)
    | succ n ih =>
      intro τ cs a0 pa0 l2 l4 l6 hW hX ga0 gl2 gl4 gl6 hm
      exact eX8_number_61 hd hW hX ga0 gl2 gl4 gl6 hP  (fun hW hX ga0 gl2 gl4 gl6 hm => ih _ _ _ _ _ _ _ hW hX ga0 gl2 gl4 gl6 hm) hm
  exact key _ _ _ _ _ _ _ _ hW hX ga0 gl2 gl4 gl6 (Nat.lt_succ_self _)
set_option maxRecDepth 100000 in
set_option maxHeartbeats 4000000 in
theorem bX8_number_58 {G : xG} {d : Nat} {Post : xP} {B : Nat × Nat} {τ0 τ : Tau} {c0 cs : List va_E} {a0 pa0 : Nat} {l2 : Int} {l4 : Int} (hd : 2 ≤ d) (hW : WT G B τ cs) (hX : Fx [5] τ0 c0 τ cs) (ga0 : τ a0 = some (.inl (8, pa0))) (gl2 : rngL l2) (gl4 : rngL l4)   (hP : ∀ (τ1 : Tau) (c1 : List va_E), WT G B τ1 c1 → Fx [5] τ0 c0 τ1 c1 → Post none c1)  : Z (RX8, cX8_number, 7, none, false) G d Post 58 [(0, .ref (G.1 + a0)), (2, .long (Int64.ofInt l2)), (4, .long (Int64.ofInt l4))] [] cs := by
  refine z_iconst (v := Int32.ofInt 0) dX8_number_58 rfl ?_
  refine z_istore dX8_number_59 (by decide) ?_
  refine z_loc (L' := [(0, .ref (G.1 + a0)), (2, .long (Int64.ofInt l2)), (4, .long (Int64.ofInt l4)), (6, .int (Int32.ofInt 0))]) (List.forall_mem_cons.mpr ⟨rfl, (List.forall_mem_cons.mpr ⟨rfl, (List.forall_mem_cons.mpr ⟨rfl, (List.forall_mem_cons.mpr ⟨rfl, (fun _ h => nomatch h)⟩)⟩)⟩)⟩) ?_
  refine z_loc (L' := [(0, .ref (G.1 + a0)), (2, .long (Int64.ofInt l2)), (4, .long (Int64.ofInt l4)), (6, .int (Int32.ofInt 0))]) (List.forall_mem_cons.mpr ⟨rfl, (List.forall_mem_cons.mpr ⟨rfl, (List.forall_mem_cons.mpr ⟨rfl, (List.forall_mem_cons.mpr ⟨rfl, (fun _ h => nomatch h)⟩)⟩)⟩)⟩) ?_
  exact bX8_number_61 hd hW hX ga0 gl2 gl4 (show rng 0 from ⟨by decide, by decide⟩)   hP 
set_option maxRecDepth 100000 in
set_option maxHeartbeats 4000000 in
theorem bX8_number_44 {G : xG} {d : Nat} {Post : xP} {B : Nat × Nat} {τ0 τ : Tau} {c0 cs : List va_E} {a0 pa0 : Nat} {l1 : Int} {l2 : Int} {l4 : Int} (hd : 2 ≤ d) (hW : WT G B τ cs) (hX : Fx [5] τ0 c0 τ cs) (ga0 : τ a0 = some (.inl (8, pa0))) (gl1 : rng l1) (gl2 : rngL l2) (gl4 : rngL l4)   (hP : ∀ (τ1 : Tau) (c1 : List va_E), WT G B τ1 c1 → Fx [5] τ0 c0 τ1 c1 → Post none c1)  : Z (RX8, cX8_number, 7, none, false) G d Post 44 [(0, .ref (G.1 + a0)), (1, .int (Int32.ofInt l1)), (2, .long (Int64.ofInt l2)), (4, .long (Int64.ofInt l4))] [] cs := by
  refine z_iload_n dX8_number_44 rfl rfl ?_
  refine i_if_ge (tgt := 58) dX8_number_45 (by decide) gl1 (fun h1 => ?_) (fun h1 => ?_)
  · refine z_loc (L' := [(0, .ref (G.1 + a0)), (2, .long (Int64.ofInt l2)), (4, .long (Int64.ofInt l4))]) (List.forall_mem_cons.mpr ⟨rfl, (List.forall_mem_cons.mpr ⟨rfl, (List.forall_mem_cons.mpr ⟨rfl, (fun _ h => nomatch h)⟩)⟩)⟩) ?_
    exact bX8_number_58 hd hW hX ga0 gl2 gl4   hP 
  · refine z_aload_n dX8_number_48 rfl rfl ?_
    refine tw_getO hW ga0 (by decide) (by decide) rfl kX8 fX8_46 dX8_number_49 (fun b2 pb2 gb2 => ?_)
    have gb2 : oT τ b2 5 := ⟨_, gb2⟩
    refine z_bipush (v := Int32.ofInt 45) dX8_number_52 (by decide) ?_
    have hX0 := kX5_put 1 (Nat.le_refl _) hW gb2 (show rng 45 from ⟨by decide, by decide⟩) 
    refine z_callV (As := [_]) eX5_put sX5_put lX8_89 rfl dX8_number_54 (hW.os gb2).choose_spec hX0 (Nat.le_trans (by decide) hd) rfl (Nat.le_of_ble_eq_true rfl) (fun r cs hp => ?_)
    obtain ⟨τ, r4, rfl, gr4, hW, k5, n3_0⟩ := hp
    have hX := hX.tr k5 (by decide)
    have ga0 := k5.1.e ga0 (by decide)
    clear hX0
    refine z_st (st' := [.int (Int32.ofInt r4)]) rfl ?_
    refine z_pop dX8_number_57 rfl ?_
    refine z_loc (L' := [(0, .ref (G.1 + a0)), (2, .long (Int64.ofInt l2)), (4, .long (Int64.ofInt l4))]) (List.forall_mem_cons.mpr ⟨rfl, (List.forall_mem_cons.mpr ⟨rfl, (List.forall_mem_cons.mpr ⟨rfl, (fun _ h => nomatch h)⟩)⟩)⟩) ?_
    exact bX8_number_58 hd hW hX ga0 gl2 gl4   hP 
set_option maxRecDepth 100000 in
set_option maxHeartbeats 4000000 in
theorem eX8_number_12 {G : xG} {d : Nat} {Post : xP} {B : Nat × Nat} {τ0 τ : Tau} {c0 cs : List va_E} {a0 pa0 : Nat} {l1 : Int} {l2 : Int} {l4 : Int} {l6 : Int} {n12 : Nat} (hd : 2 ≤ d) (hW : WT G B τ cs) (hX : Fx [5] τ0 c0 τ cs) (ga0 : τ a0 = some (.inl (8, pa0))) (gl1 : rng l1) (gl2 : rngL l2) (gl4 : rngL l4) (gl6 : rng l6)   (hP : ∀ (τ1 : Tau) (c1 : List va_E), WT G B τ1 c1 → Fx [5] τ0 c0 τ1 c1 → Post none c1)  (ih_12 : ∀ {τ : Tau} {cs : List va_E} {a0 pa0 : Nat} {l1 : Int} {l2 : Int} {l4 : Int} {l6 : Int} (hW : WT G B τ cs) (hX : Fx [5] τ0 c0 τ cs) (ga0 : τ a0 = some (.inl (8, pa0))) (gl1 : rng l1) (gl2 : rngL l2) (gl4 : rngL l4) (gl6 : rng l6)  , (9 - l6).toNat < n12 → Z (RX8, cX8_number, 7, none, false) G d Post 12 [(0, .ref (G.1 + a0)), (1, .int (Int32.ofInt l1)), (2, .long (Int64.ofInt l2)), (4, .long (Int64.ofInt l4)), (6, .int (Int32.ofInt l6))] [] cs) (hm_12 : (9 - l6).toNat < n12 + 1) : Z (RX8, cX8_number, 7, none, false) G d Post 12 [(0, .ref (G.1 + a0)), (1, .int (Int32.ofInt l1)), (2, .long (Int64.ofInt l2)), (4, .long (Int64.ofInt l4)), (6, .int (Int32.ofInt l6))] [] cs := by
  refine z_iload dX8_number_12 rfl ?_
  refine z_bipush (v := Int32.ofInt 9) dX8_number_14 (by decide) ?_
  refine i_icmp_ge (tgt := 44) dX8_number_16 (by decide) gl6 (show rng 9 from ⟨by decide, by decide⟩) (fun h1 => ?_) (fun h1 => ?_)
  · refine z_loc (L' := [(0, .ref (G.1 + a0)), (1, .int (Int32.ofInt l1)), (2, .long (Int64.ofInt l2)), (4, .long (Int64.ofInt l4))]) (List.forall_mem_cons.mpr ⟨rfl, (List.forall_mem_cons.mpr ⟨rfl, (List.forall_mem_cons.mpr ⟨rfl, (List.forall_mem_cons.mpr ⟨rfl, (fun _ h => nomatch h)⟩)⟩)⟩)⟩) ?_
    exact bX8_number_44 hd hW hX ga0 gl1 gl2 gl4   hP 
  · refine z_lload dX8_number_19 rfl ?_
    refine i_ldc2 (n := 10) qX8_179 rfl dX8_number_21 ?_
    refine tw_lmul dX8_number_24 (fun z2 gz2 => ?_)
    refine z_lload_n dX8_number_25 rfl rfl ?_
    refine i_lcmp_gt (tgt := 44) dX8_number_26 dX8_number_27 (by decide) gz2 gl2 (fun h3 => ?_) (fun h3 => ?_)
    · refine z_loc (L' := [(0, .ref (G.1 + a0)), (1, .int (Int32.ofInt l1)), (2, .long (Int64.ofInt l2)), (4, .long (Int64.ofInt l4))]) (List.forall_mem_cons.mpr ⟨rfl, (List.forall_mem_cons.mpr ⟨rfl, (List.forall_mem_cons.mpr ⟨rfl, (List.forall_mem_cons.mpr ⟨rfl, (fun _ h => nomatch h)⟩)⟩)⟩)⟩) ?_
      exact bX8_number_44 hd hW hX ga0 gl1 gl2 gl4   hP 
    · refine z_lload dX8_number_30 rfl ?_
      refine i_ldc2 (n := 10) qX8_179 rfl dX8_number_32 ?_
      refine tw_lmul dX8_number_35 (fun z4 gz4 => ?_)
      refine z_lstore dX8_number_36 (by decide) ?_
      refine z_loc (L' := [(0, .ref (G.1 + a0)), (1, .int (Int32.ofInt l1)), (2, .long (Int64.ofInt l2)), (4, .long (Int64.ofInt z4)), (6, .int (Int32.ofInt l6))]) (List.forall_mem_cons.mpr ⟨rfl, (List.forall_mem_cons.mpr ⟨rfl, (List.forall_mem_cons.mpr ⟨rfl, (List.forall_mem_cons.mpr ⟨rfl, (List.forall_mem_cons.mpr ⟨rfl, (fun _ h => nomatch h)⟩)⟩)⟩)⟩)⟩) ?_
      refine tw_iinc (l := l6) dX8_number_38 rfl (by decide) (fun z5 gz5 ez5 => ?_)
      first | have ez5 := ez5 ⟨by omega, by omega⟩ | clear ez5
      refine z_loc (L' := [(0, .ref (G.1 + a0)), (1, .int (Int32.ofInt l1)), (2, .long (Int64.ofInt l2)), (4, .long (Int64.ofInt z4)), (6, .int (Int32.ofInt z5))]) (List.forall_mem_cons.mpr ⟨rfl, (List.forall_mem_cons.mpr ⟨rfl, (List.forall_mem_cons.mpr ⟨rfl, (List.forall_mem_cons.mpr ⟨rfl, (List.forall_mem_cons.mpr ⟨rfl, (fun _ h => nomatch h)⟩)⟩)⟩)⟩)⟩) ?_
      refine z_goto (tgt := 12) dX8_number_41 (by decide) ?_
      refine z_loc (L' := [(0, .ref (G.1 + a0)), (1, .int (Int32.ofInt l1)), (2, .long (Int64.ofInt l2)), (4, .long (Int64.ofInt z4)), (6, .int (Int32.ofInt z5))]) (List.forall_mem_cons.mpr ⟨rfl, (List.forall_mem_cons.mpr ⟨rfl, (List.forall_mem_cons.mpr ⟨rfl, (List.forall_mem_cons.mpr ⟨rfl, (List.forall_mem_cons.mpr ⟨rfl, (fun _ h => nomatch h)⟩)⟩)⟩)⟩)⟩) ?_
      exact ih_12 hW hX ga0 gl1 gl2 gz4 gz5   (by omega)
set_option maxRecDepth 100000 in
set_option maxHeartbeats 4000000 in
theorem bX8_number_12 {G : xG} {d : Nat} {Post : xP} {B : Nat × Nat} {τ0 τ : Tau} {c0 cs : List va_E} {a0 pa0 : Nat} {l1 : Int} {l2 : Int} {l4 : Int} {l6 : Int} (hd : 2 ≤ d) (hW : WT G B τ cs) (hX : Fx [5] τ0 c0 τ cs) (ga0 : τ a0 = some (.inl (8, pa0))) (gl1 : rng l1) (gl2 : rngL l2) (gl4 : rngL l4) (gl6 : rng l6)   (hP : ∀ (τ1 : Tau) (c1 : List va_E), WT G B τ1 c1 → Fx [5] τ0 c0 τ1 c1 → Post none c1)  : Z (RX8, cX8_number, 7, none, false) G d Post 12 [(0, .ref (G.1 + a0)), (1, .int (Int32.ofInt l1)), (2, .long (Int64.ofInt l2)), (4, .long (Int64.ofInt l4)), (6, .int (Int32.ofInt l6))] [] cs := by
  have key : ∀ (n : Nat) (τ : Tau) (cs : List va_E) (a0 pa0 : Nat) (l1 : Int) (l2 : Int) (l4 : Int) (l6 : Int) (hW : WT G B τ cs) (hX : Fx [5] τ0 c0 τ cs) (ga0 : τ a0 = some (.inl (8, pa0))) (gl1 : rng l1) (gl2 : rngL l2) (gl4 : rngL l4) (gl6 : rng l6)  , (9 - l6).toNat < n → Z (RX8, cX8_number, 7, none, false) G d Post 12 [(0, .ref (G.1 + a0)), (1, .int (Int32.ofInt l1)), (2, .long (Int64.ofInt l2)), (4, .long (Int64.ofInt l4)), (6, .int (Int32.ofInt l6))] [] cs := by
    intro n
    induction n with
    | zero => intro τ cs a0 pa0 l1 l2 l4 l6 hW hX ga0 gl1 gl2 gl4 gl6 hm; exact absurd hm (Nat.not_lt_zero _)
    | succ n ih =>
      intro τ cs a0 pa0 l1 l2 l4 l6 hW hX ga0 gl1 gl2 gl4 gl6 hm
      exact eX8_number_12 hd hW hX ga0 gl1 gl2 gl4 gl6 hP  (fun hW hX ga0 gl1 gl2 gl4 gl6 hm => ih _ _ _ _ _ _ _ _ hW hX ga0 gl1 gl2 gl4 gl6 hm) hm
  exact key _ _ _ _ _ _ _ _ _ hW hX ga0 gl1 gl2 gl4 gl6 (Nat.lt_succ_self _)
set_option maxRecDepth 100000 in
set_option maxHeartbeats 4000000 in
theorem kX8_number {G : xG} {B : Nat × Nat} {τ : Tau} {cs : List va_E} {a0 pa0 : Nat} {l1 : Int} (d : Nat) (hd : 2 ≤ d) (hW : WT G B τ cs) (ga0 : τ a0 = some (.inl (8, pa0))) (gl1 : rng l1)  : X G yX8_number cX8_number 7 none d [.ref (G.1 + a0), .int (Int32.ofInt l1)] cs (wN G B τ cs [5]) := by
  refine X.of false (by decide +kernel) (by decide) (Nat.le_of_ble_eq_true rfl) ?_
  show Z (RX8, cX8_number, 7, none, false) G d _ 0 [(0, .ref (G.1 + a0)), (1, .int (Int32.ofInt l1))] [] cs
  have hP : ∀ (τ1 : Tau) (c1 : List va_E), WT G B τ1 c1 → Fx [5] τ cs τ1 c1 → wN G B τ cs [5] none c1 := fun τ1 c1 h1 h2 => ⟨τ1, rfl, h1, h2⟩
  have hX : Fx [5] τ cs τ cs := Fx.rf
  skip
  refine z_iload_n dX8_number_0 rfl rfl ?_
  refine tw_i2l dX8_number_1 (fun z1 gz1 => ?_)
  refine tw_mabsl lX8_173 sJ9_abs_067f4 bJ9 dX8_number_2 (Nat.le_trans (by decide) hd) (Nat.le_of_ble_eq_true rfl) (fun z2 gz2 => ?_)
  refine z_lstore_n dX8_number_5 rfl (by decide) ?_
  refine z_loc (L' := [(0, .ref (G.1 + a0)), (1, .int (Int32.ofInt l1)), (2, .long (Int64.ofInt z2))]) (List.forall_mem_cons.mpr ⟨rfl, (List.forall_mem_cons.mpr ⟨rfl, (List.forall_mem_cons.mpr ⟨rfl, (fun _ h => nomatch h)⟩)⟩)⟩) ?_
  refine z_lconst (v := Int64.ofInt 1) dX8_number_6 (by decide) ?_
  refine z_lstore dX8_number_7 (by decide) ?_
  refine z_loc (L' := [(0, .ref (G.1 + a0)), (1, .int (Int32.ofInt l1)), (2, .long (Int64.ofInt z2)), (4, .long (Int64.ofInt 1))]) (List.forall_mem_cons.mpr ⟨rfl, (List.forall_mem_cons.mpr ⟨rfl, (List.forall_mem_cons.mpr ⟨rfl, (List.forall_mem_cons.mpr ⟨rfl, (fun _ h => nomatch h)⟩)⟩)⟩)⟩) ?_
  refine z_iconst (v := Int32.ofInt 0) dX8_number_9 rfl ?_
  refine z_istore dX8_number_10 (by decide) ?_
  refine z_loc (L' := [(0, .ref (G.1 + a0)), (1, .int (Int32.ofInt l1)), (2, .long (Int64.ofInt z2)), (4, .long (Int64.ofInt 1)), (6, .int (Int32.ofInt 0))]) (List.forall_mem_cons.mpr ⟨rfl, (List.forall_mem_cons.mpr ⟨rfl, (List.forall_mem_cons.mpr ⟨rfl, (List.forall_mem_cons.mpr ⟨rfl, (List.forall_mem_cons.mpr ⟨rfl, (fun _ h => nomatch h)⟩)⟩)⟩)⟩)⟩) ?_
  refine z_loc (L' := [(0, .ref (G.1 + a0)), (1, .int (Int32.ofInt l1)), (2, .long (Int64.ofInt z2)), (4, .long (Int64.ofInt 1)), (6, .int (Int32.ofInt 0))]) (List.forall_mem_cons.mpr ⟨rfl, (List.forall_mem_cons.mpr ⟨rfl, (List.forall_mem_cons.mpr ⟨rfl, (List.forall_mem_cons.mpr ⟨rfl, (List.forall_mem_cons.mpr ⟨rfl, (fun _ h => nomatch h)⟩)⟩)⟩)⟩)⟩) ?_
  exact bX8_number_12 hd hW hX ga0 gl1 gz2 (show rngL 1 from ⟨by decide, by decide⟩) (show rng 0 from ⟨by decide, by decide⟩)   hP 
