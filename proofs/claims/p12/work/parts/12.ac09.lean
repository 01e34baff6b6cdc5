set_option maxRecDepth 100000 in
set_option maxHeartbeats 4000000 in
theorem eX1_putText_37 {G : xG} {d : Nat} {Post : xP} {B : Nat × Nat} {τ0 τ : Tau} {c0 cs : List va_E} {a0 pa0 : Nat} {a3 : Nat} {l4 : Int} {l6 : Int} {l7 : Int} {n37 : Nat} (hd : 1 ≤ d) (hW : WT G B τ cs) (hX : Fx [1] τ0 c0 τ cs) (ga0 : τ a0 = some (.inl (1, pa0))) (ga3 : oT τ a3 5) (gl4 : rng l4) (gl6 : rng l6) (gl7 : rng l7) (i0 : iv 0 119 l6) (i1 : 0 ≤ l7)  (hP : ∀ (τ1 : Tau) (c1 : List va_E), WT G B τ1 c1 → Fx [1] τ0 c0 τ1 c1 → Post none c1)  (ih_37 : ∀ {τ : Tau} {cs : List va_E} {a0 pa0 : Nat} {a3 : Nat} {l4 : Int} {l6 : Int} {l7 : Int} (hW : WT G B τ cs) (hX : Fx [1] τ0 c0 τ cs) (ga0 : τ a0 = some (.inl (1, pa0))) (ga3 : oT τ a3 5) (gl4 : rng l4) (gl6 : rng l6) (gl7 : rng l7) (i0 : iv 0 119 l6) (i1 : 0 ≤ l7) , (20 - l7).toNat < n37 → Z (RX1, cX1_putText, 8, none, false) G d Post 37 [(0, .ref (G.1 + a0)), (3, .ref (G.1 + a3)), (4, .int (Int32.ofInt l4)), (6, .int (Int32.ofInt l6)), (7, .int (Int32.ofInt l7))] [] cs) (hm_37 : (20 - l7).toNat < n37 + 1) : Z (RX1, cX1_putText, 8, none, false) G d Post 37 [(0, .ref (G.1 + a0)), (3, .ref (G.1 + a3)), (4, .int (Int32.ofInt l4)), (6, .int (Int32.ofInt l6)), (7, .int (Int32.ofInt l7))] [] cs := by
  refine z_iload dX1_putText_37 rfl ?_
  refine z_bipush (v := Int32.ofInt 20) dX1_putText_39 (by decide) ?_
  refine i_icmp_ge (tgt := 84) dX1_putText_41 (by decide) gl7 (show rng 20 from ⟨by decide, by decide⟩) (fun h1 => ?_) (fun h1 => ?_)
  · exact z_return dX1_putText_84 rfl (hP _ _ hW hX)
  · refine z_iload dX1_putText_44 rfl ?_
    refine z_aload_n dX1_putText_46 rfl rfl ?_
    refine tw_getA hW ga0 (by decide) (by decide) rfl kX1 fX1_15 dX1_putText_47 (fun b2 _ gb2 => ?_)
    refine z_iload dX1_putText_50 rfl ?_
    refine tw_iald hW gb2 (by omega) (by omega) dX1_putText_52 (fun x3 _ vx3 gx3 => ?_)
    refine i_icmp_ge (tgt := 84) dX1_putText_53 (by decide) gl7 gx3 (fun h4 => ?_) (fun h4 => ?_)
    · exact z_return dX1_putText_84 rfl (hP _ _ hW hX)
    · refine z_aload_n dX1_putText_56 rfl rfl ?_
      refine tw_getA hW ga0 (by decide) (by decide) rfl kX1 fX1_18 dX1_putText_57 (fun b5 _ gb5 => ?_)
      refine z_iload dX1_putText_60 rfl ?_
      refine z_bipush (v := Int32.ofInt 20) dX1_putText_62 (by decide) ?_
      refine tw_imul dX1_putText_64 (fun z6 gz6 ez6 => ?_)
      first | have ez6 := ez6 ⟨by omega, by omega⟩ | clear ez6
      refine z_iload dX1_putText_65 rfl ?_
      refine tw_iadd dX1_putText_67 (fun z7 gz7 ez7 => ?_)
      first | have ez7 := ez7 ⟨by omega, by omega⟩ | clear ez7
      refine z_aload_n dX1_putText_68 rfl rfl ?_
      refine z_iload dX1_putText_69 rfl ?_
      refine z_iload dX1_putText_71 rfl ?_
      refine tw_iadd dX1_putText_73 (fun z8 gz8 ez8 => ?_)
      first | have ez8 := ez8 ⟨by omega, by omega⟩ | clear ez8
      have hX0 := kX5_at 0 (Nat.le_refl _) hW ga3 gz8 
      refine z_callV (As := [_]) eX5_at sX5_at lX1_54 rfl dX1_putText_74 (hW.os ga3).choose_spec hX0 (Nat.le_trans (by decide) hd) rfl (Nat.le_of_ble_eq_true rfl) (fun r cs1 hp => ?_)
      obtain ⟨hcs, r10, rfl, gr10, n9_0⟩ := hp
      obtain rfl := hcs.symm
      refine z_st (st' := [.int (Int32.ofInt r10), .int (Int32.ofInt z7), .ref (G.1 + b5)]) rfl ?_
      refine tw_iast hW hX gb5 (by omega) (by omega) (any_okT (by decide) _) (Or.inr (show (1 : Nat) ∈ _ by decide)) dX1_putText_77 (fun c1 q _ => nA hW gb5 (show (2147483648 : Int) ≠ 600 by decide) (show (2147483648 : Int) ≠ 601 by decide) c1 q) (fun cs hW hX _ _ => ?_)
      refine tw_iinc (l := l7) dX1_putText_78 rfl (by decide) (fun z11 gz11 ez11 => ?_)
      first | have ez11 := ez11 ⟨by omega, by omega⟩ | clear ez11
      refine z_loc (L' := [(0, .ref (G.1 + a0)), (3, .ref (G.1 + a3)), (4, .int (Int32.ofInt l4)), (6, .int (Int32.ofInt l6)), (7, .int (Int32.ofInt z11))]) (List.forall_mem_cons.mpr ⟨rfl, (List.forall_mem_cons.mpr ⟨rfl, (List.forall_mem_cons.mpr ⟨rfl, (List.forall_mem_cons.mpr ⟨rfl, (List.forall_mem_cons.mpr ⟨rfl, (fun _ h => nomatch h)⟩)⟩)⟩)⟩)⟩) ?_
      refine z_goto (tgt := 37) dX1_putText_81 (by decide) ?_
      refine z_loc (L' := [(0, .ref (G.1 + a0)), (3, .ref (G.1 + a3)), (4, .int (Int32.ofInt l4)), (6, .int (Int32.ofInt l6)), (7, .int (Int32.ofInt z11))]) (List.forall_mem_cons.mpr ⟨rfl, (List.forall_mem_cons.mpr ⟨rfl, (List.forall_mem_cons.mpr ⟨rfl, (List.forall_mem_cons.mpr ⟨rfl, (List.forall_mem_cons.mpr ⟨rfl, (fun _ h => nomatch h)⟩)⟩)⟩)⟩)⟩) ?_
      exact ih_37 hW hX ga0 ga3 gl4 gl6 gz11 (by omega) (by omega)  (by omega)
set_option maxRecDepth 100000 in
set_option maxHeartbeats 4000000 in
theorem bX1_putText_37 {G : xG} {d : Nat} {Post : xP} {B : Nat × Nat} {τ0 τ : Tau} {c0 cs : List va_E} {a0 pa0 : Nat} {a3 : Nat} {l4 : Int} {l6 : Int} {l7 : Int} (hd : 1 ≤ d) (hW : WT G B τ cs) (hX : Fx [1] τ0 c0 τ cs) (ga0 : τ a0 = some (.inl (1, pa0))) (ga3 : oT τ a3 5) (gl4 : rng l4) (gl6 : rng l6) (gl7 : rng l7) (i0 : iv 0 119 l6) (i1 : 0 ≤ l7)  (hP : ∀ (τ1 : Tau) (c1 : List va_E), WT G B τ1 c1 → Fx [1] τ0 c0 τ1 c1 → Post none c1)  : Z (RX1, cX1_putText, 8, none, false) G d Post 37 [(0, .ref (G.1 + a0)), (3, .ref (G.1 + a3)), (4, .int (Int32.ofInt l4)), (6, .int (Int32.ofInt l6)), (7, .int (Int32.ofInt l7))] [] cs := by
  have key : ∀ (n : Nat) (τ : Tau) (cs : List va_E) (a0 pa0 : Nat) (a3 : Nat) (l4 : Int) (l6 : Int) (l7 : Int) (hW : WT G B τ cs) (hX : Fx [1] τ0 c0 τ cs) (ga0 : τ a0 = some (.inl (1, pa0))) (ga3 : oT τ a3 5) (gl4 : rng l4) (gl6 : rng l6) (gl7 : rng l7) (i0 : iv 0 119 l6) (i1 : 0 ≤ l7) , (20 - l7).toNat < n → Z (RX1, cX1_putText, 8, none, false) G d Post 37 [(0, .ref (G.1 + a0)), (3, .ref (G.1 + a3)), (4, .int (Int32.ofInt l4)), (6, .int (Int32.ofInt l6)), (7, .int (Int32.ofInt l7))] [] cs := by
    intro n
    induction n with
    | zero => intro τ cs a0 pa0 a3 l4 l6 l7 hW hX ga0 ga3 gl4 gl6 gl7 i0 i1 hm; exact absurd hm (Nat.not_lt_zero _)
    | succ n ih =>
      intro τ cs a0 pa0 a3 l4 l6 l7 hW hX ga0 ga3 gl4 gl6 gl7 i0 i1 hm
      exact eX1_putText_37 hd hW hX ga0 ga3 gl4 gl6 gl7 i0 i1 hP  (fun hW hX ga0 ga3 gl4 gl6 gl7 i0 i1 hm => ih _ _ _ _ _ _ _ _ hW hX ga0 ga3 gl4 gl6 gl7 i0 i1 hm) hm
  exact key _ _ _ _ _ _ _ _ _ hW hX ga0 ga3 gl4 gl6 gl7 i0 i1 (Nat.lt_succ_self _)
set_option maxRecDepth 100000 in
set_option maxHeartbeats 4000000 in
theorem kX1_putText {G : xG} {B : Nat × Nat} {τ : Tau} {cs : List va_E} {a0 pa0 : Nat} {l1 : Int} {l2 : Int} {a3 : Nat} {l4 : Int} {l5 : Int} (d : Nat) (hd : 1 ≤ d) (hW : WT G B τ cs) (ga0 : τ a0 = some (.inl (1, pa0))) (gl1 : rng l1) (gl2 : rng l2) (ga3 : oT τ a3 5) (gl4 : rng l4) (gl5 : rng l5)  : X G yX1_putText cX1_putText 8 none d [.ref (G.1 + a0), .int (Int32.ofInt l1), .int (Int32.ofInt l2), .ref (G.1 + a3), .int (Int32.ofInt l4), .int (Int32.ofInt l5)] cs (wN G B τ cs [1]) := by
  refine X.of false (by decide +kernel) (by decide) (Nat.le_of_ble_eq_true rfl) ?_
  show Z (RX1, cX1_putText, 8, none, false) G d _ 0 [(0, .ref (G.1 + a0)), (1, .int (Int32.ofInt l1)), (2, .int (Int32.ofInt l2)), (3, .ref (G.1 + a3)), (4, .int (Int32.ofInt l4)), (5, .int (Int32.ofInt l5))] [] cs
  have hP : ∀ (τ1 : Tau) (c1 : List va_E), WT G B τ1 c1 → Fx [1] τ cs τ1 c1 → wN G B τ cs [1] none c1 := fun τ1 c1 h1 h2 => ⟨τ1, rfl, h1, h2⟩
  have hX : Fx [1] τ cs τ cs := Fx.rf
  skip
  refine z_aload_n dX1_putText_0 rfl rfl ?_
  refine z_iload_n dX1_putText_1 rfl rfl ?_
  refine z_iload_n dX1_putText_2 rfl rfl ?_
  have hX0 := kX1_hasField 0 (Nat.le_refl _) hW ga0 gl1 gl2 
  refine z_callV (As := [_, _]) eX1_hasField sX1_hasField lX1_29 rfl dX1_putText_3 (hW.ob ga0 (by decide)).choose_spec hX0 (Nat.le_trans (by decide) hd) rfl (Nat.le_of_ble_eq_true rfl) (fun r cs1 hp => ?_)
  obtain ⟨hcs, r2, rfl, gr2, ⟨n1_0, n1_1⟩⟩ := hp
  obtain rfl := hcs.symm
  refine z_st (st' := [.int (Int32.ofInt r2)]) rfl ?_
  refine i_if_ne (tgt := 10) dX1_putText_6 (by decide) gr2 (fun h3 => ?_) (fun h3 => ?_)
  · refine z_iload_n dX1_putText_10 rfl rfl ?_
    refine z_iconst (v := Int32.ofInt 4) dX1_putText_11 rfl ?_
    refine tw_imul dX1_putText_12 (fun z4 gz4 ez4 => ?_)
    first | have ez4 := ez4 ⟨by omega, by omega⟩ | clear ez4
    refine z_iload_n dX1_putText_13 rfl rfl ?_
    refine tw_iadd dX1_putText_14 (fun z5 gz5 ez5 => ?_)
    first | have ez5 := ez5 ⟨by omega, by omega⟩ | clear ez5
    refine z_istore dX1_putText_15 (by decide) ?_
    refine z_loc (L' := [(0, .ref (G.1 + a0)), (1, .int (Int32.ofInt l1)), (2, .int (Int32.ofInt l2)), (3, .ref (G.1 + a3)), (4, .int (Int32.ofInt l4)), (5, .int (Int32.ofInt l5)), (6, .int (Int32.ofInt z5))]) (List.forall_mem_cons.mpr ⟨rfl, (List.forall_mem_cons.mpr ⟨rfl, (List.forall_mem_cons.mpr ⟨rfl, (List.forall_mem_cons.mpr ⟨rfl, (List.forall_mem_cons.mpr ⟨rfl, (List.forall_mem_cons.mpr ⟨rfl, (List.forall_mem_cons.mpr ⟨rfl, (fun _ h => nomatch h)⟩)⟩)⟩)⟩)⟩)⟩)⟩) ?_
    refine z_aload_n dX1_putText_17 rfl rfl ?_
    refine tw_getA hW ga0 (by decide) (by decide) rfl kX1 fX1_15 dX1_putText_18 (fun b6 _ gb6 => ?_)
    refine z_iload dX1_putText_21 rfl ?_
    refine z_iload dX1_putText_23 rfl ?_
    refine z_iload dX1_putText_25 rfl ?_
    refine tw_isub dX1_putText_27 (fun z7 gz7 ez7 => ?_)
    first | have ez7 := ez7 ⟨by omega, by omega⟩ | clear ez7
    refine z_bipush (v := Int32.ofInt 20) dX1_putText_28 (by decide) ?_
    refine tw_mmin lX1_49 sJ9_min_7cf53 bJ9 dX1_putText_30 (Nat.le_trans (by decide) hd) (Nat.le_of_ble_eq_true rfl) (fun z8 gz8 => ?_)
    refine tw_iast hW hX gb6 (by omega) (by omega) (any_okT (by decide) _) (Or.inr (show (1 : Nat) ∈ _ by decide)) dX1_putText_33 (fun c1 q _ => nA hW gb6 (show (2147483648 : Int) ≠ 600 by decide) (show (2147483648 : Int) ≠ 601 by decide) c1 q) (fun cs hW hX _ _ => ?_)
    refine z_iconst (v := Int32.ofInt 0) dX1_putText_34 rfl ?_
    refine z_istore dX1_putText_35 (by decide) ?_
    refine z_loc (L' := [(0, .ref (G.1 + a0)), (1, .int (Int32.ofInt l1)), (2, .int (Int32.ofInt l2)), (3, .ref (G.1 + a3)), (4, .int (Int32.ofInt l4)), (5, .int (Int32.ofInt l5)), (6, .int (Int32.ofInt z5)), (7, .int (Int32.ofInt 0))]) (List.forall_mem_cons.mpr ⟨rfl, (List.forall_mem_cons.mpr ⟨rfl, (List.forall_mem_cons.mpr ⟨rfl, (List.forall_mem_cons.mpr ⟨rfl, (List.forall_mem_cons.mpr ⟨rfl, (List.forall_mem_cons.mpr ⟨rfl, (List.forall_mem_cons.mpr ⟨rfl, (List.forall_mem_cons.mpr ⟨rfl, (fun _ h => nomatch h)⟩)⟩)⟩)⟩)⟩)⟩)⟩)⟩) ?_
    refine z_loc (L' := [(0, .ref (G.1 + a0)), (3, .ref (G.1 + a3)), (4, .int (Int32.ofInt l4)), (6, .int (Int32.ofInt z5)), (7, .int (Int32.ofInt 0))]) (List.forall_mem_cons.mpr ⟨rfl, (List.forall_mem_cons.mpr ⟨rfl, (List.forall_mem_cons.mpr ⟨rfl, (List.forall_mem_cons.mpr ⟨rfl, (List.forall_mem_cons.mpr ⟨rfl, (fun _ h => nomatch h)⟩)⟩)⟩)⟩)⟩) ?_
    exact bX1_putText_37 hd hW hX ga0 ga3 gl4 gz5 (show rng 0 from ⟨by decide, by decide⟩) (by omega) (by omega)  hP 
  · exact z_return dX1_putText_9 rfl (hP _ _ hW hX)

set_option maxRecDepth 100000 in
set_option maxHeartbeats 4000000 in
theorem bX3_fillsNumber_128 {G : xG} {d : Nat} {Post : xP} {B : Nat × Nat} {τ0 τ : Tau} {c0 cs : List va_E} {a0 pm : Nat} {l1 : Int} {l2 : Int} {s0 : Int} (hd : 2 ≤ d) (hW : WT G B τ cs) (hX : Fx [1] τ0 c0 τ cs) (ga0 : τ a0 = some (.inl (3, pm))) (gl1 : rng l1) (gl2 : rng l2) (gs0 : rngL s0)   (hP : ∀ (τ1 : Tau) (c1 : List va_E) (r : Int), WT G B τ1 c1 → Fx [1] τ0 c0 τ1 c1 → rng r → ((iv 0 1 r)) → Post (some (.int (Int32.ofInt r))) c1)  : Z (RX3, cX3_fillsNumber, 10, some .boolean, false) G d Post 128 [(0, .ref (G.1 + a0)), (1, .int (Int32.ofInt l1)), (2, .int (Int32.ofInt l2))] [.long (Int64.ofInt s0)] cs := by
  have hpm := hW.2.1.2.2.2.2.2.2.1 _ _ ga0
  refine z_lstore dX3_fillsNumber_128 (by decide) ?_
  refine z_loc (L' := [(0, .ref (G.1 + a0)), (1, .int (Int32.ofInt l1)), (2, .int (Int32.ofInt l2)), (7, .long (Int64.ofInt s0))]) (List.forall_mem_cons.mpr ⟨rfl, (List.forall_mem_cons.mpr ⟨rfl, (List.forall_mem_cons.mpr ⟨rfl, (List.forall_mem_cons.mpr ⟨rfl, (fun _ h => nomatch h)⟩)⟩)⟩)⟩) ?_
  refine z_lload dX3_fillsNumber_130 rfl ?_
  refine z_lload dX3_fillsNumber_132 rfl ?_
  refine tw_l2i dX3_fillsNumber_134 (fun z1 gz1 => ?_)
  refine tw_i2l dX3_fillsNumber_135 (fun z2 gz2 => ?_)
  refine i_lcmp_eq (tgt := 142) dX3_fillsNumber_136 dX3_fillsNumber_137 (by decide) gs0 gz2 (fun h3 => ?_) (fun h3 => ?_)
  · refine z_aload_n dX3_fillsNumber_142 rfl rfl ?_
    refine tw_getO hW ga0 (by decide) (by decide) rfl kX3 fX3_37 dX3_fillsNumber_143 (fun b4 pb4 gb4 => ?_)
    refine z_iload_n dX3_fillsNumber_146 rfl rfl ?_
    refine z_iload_n dX3_fillsNumber_147 rfl rfl ?_
    refine z_lload dX3_fillsNumber_148 rfl ?_
    refine tw_l2i dX3_fillsNumber_150 (fun z5 gz5 => ?_)
    have hX0 := kX1_putHead 1 (Nat.le_refl _) hW gb4 gl1 gl2 gz5 
    refine z_callV (As := [_, _, _]) eX1_putHead sX1_putHead lX3_152 rfl dX3_fillsNumber_151 (hW.ob gb4 (by decide)).choose_spec hX0 (Nat.le_trans (by decide) hd) rfl (Nat.le_of_ble_eq_true rfl) (fun r cs hp => ?_)
    obtain ⟨τ, rfl, hW, k8⟩ := hp
    have hX := hX.tr k8 (by decide)
    have ga0 := k8.1.e ga0 (by decide)
    clear hX0
    refine z_st (st' := []) rfl ?_
    refine z_iconst (v := Int32.ofInt 1) dX3_fillsNumber_154 rfl ?_
    exact z_ireturn dX3_fillsNumber_155 rfl (nar01 (b01 ⟨by decide, by decide⟩)) (hP _ _ _ hW hX (show rng 1 from ⟨by decide, by decide⟩) (by omega))
  · refine z_iconst (v := Int32.ofInt 0) dX3_fillsNumber_140 rfl ?_
    exact z_ireturn dX3_fillsNumber_141 rfl (nar01 (b01 ⟨by decide, by decide⟩)) (hP _ _ _ hW hX (show rng 0 from ⟨by decide, by decide⟩) (by omega))
set_option maxRecDepth 100000 in
set_option maxHeartbeats 4000000 in
theorem eX3_fillsNumber_62 {G : xG} {d : Nat} {Post : xP} {B : Nat × Nat} {τ0 τ : Tau} {c0 cs : List va_E} {a0 pm : Nat} {l1 : Int} {l2 : Int} {l4 : Int} {l5 : Int} {l7 : Int} {l9 : Int} {n62 : Nat} (hd : 2 ≤ d) (hW : WT G B τ cs) (hX : Fx [1] τ0 c0 τ cs) (ga0 : τ a0 = some (.inl (3, pm))) (gl1 : rng l1) (gl2 : rng l2) (gl4 : rng l4) (gl5 : rng l5) (bl5 : iv 0 1 l5) (gl7 : rngL l7) (gl9 : rng l9)   (hP : ∀ (τ1 : Tau) (c1 : List va_E) (r : Int), WT G B τ1 c1 → Fx [1] τ0 c0 τ1 c1 → rng r → ((iv 0 1 r)) → Post (some (.int (Int32.ofInt r))) c1)  (ih_62 : ∀ {τ : Tau} {cs : List va_E} {a0 pm : Nat} {l1 : Int} {l2 : Int} {l4 : Int} {l5 : Int} {l7 : Int} {l9 : Int} (hW : WT G B τ cs) (hX : Fx [1] τ0 c0 τ cs) (ga0 : τ a0 = some (.inl (3, pm))) (gl1 : rng l1) (gl2 : rng l2) (gl4 : rng l4) (gl5 : rng l5) (bl5 : iv 0 1 l5) (gl7 : rngL l7) (gl9 : rng l9)  , (l4 - l9).toNat < n62 → Z (RX3, cX3_fillsNumber, 10, some .boolean, false) G d Post 62 [(0, .ref (G.1 + a0)), (1, .int (Int32.ofInt l1)), (2, .int (Int32.ofInt l2)), (4, .int (Int32.ofInt l4)), (5, .int (Int32.ofInt l5)), (7, .long (Int64.ofInt l7)), (9, .int (Int32.ofInt l9))] [] cs) (hm_62 : (l4 - l9).toNat < n62 + 1) : Z (RX3, cX3_fillsNumber, 10, some .boolean, false) G d Post 62 [(0, .ref (G.1 + a0)), (1, .int (Int32.ofInt l1)), (2, .int (Int32.ofInt l2)), (4, .int (Int32.ofInt l4)), (5, .int (Int32.ofInt l5)), (7, .long (Int64.ofInt l7)), (9, .int (Int32.ofInt l9))] [] cs := by
  have hpm := hW.2.1.2.2.2.2.2.2.1 _ _ ga0
  refine z_iload dX3_fillsNumber_62 rfl ?_
  refine z_iload dX3_fillsNumber_64 rfl ?_
  refine i_icmp_ge (tgt := 115) dX3_fillsNumber_66 (by decide) gl9 gl4 (fun h1 => ?_) (fun h1 => ?_)
  · refine z_iload dX3_fillsNumber_115 rfl ?_
    refine i_if_eq (tgt := 126) dX3_fillsNumber_117 (by decide) gl5 (fun h2 => ?_) (fun h2 => ?_)
    · refine z_lload dX3_fillsNumber_126 rfl ?_
      refine z_loc (L' := [(0, .ref (G.1 + a0)), (1, .int (Int32.ofInt l1)), (2, .int (Int32.ofInt l2))]) (List.forall_mem_cons.mpr ⟨rfl, (List.forall_mem_cons.mpr ⟨rfl, (List.forall_mem_cons.mpr ⟨rfl, (fun _ h => nomatch h)⟩)⟩)⟩) ?_
      exact bX3_fillsNumber_128 hd hW hX ga0 gl1 gl2 gl7   hP 
    · refine z_lload dX3_fillsNumber_120 rfl ?_
      refine tw_lneg dX3_fillsNumber_122 (fun z3 gz3 => ?_)
      refine z_goto (tgt := 128) dX3_fillsNumber_123 (by decide) ?_
      refine z_loc (L' := [(0, .ref (G.1 + a0)), (1, .int (Int32.ofInt l1)), (2, .int (Int32.ofInt l2))]) (List.forall_mem_cons.mpr ⟨rfl, (List.forall_mem_cons.mpr ⟨rfl, (List.forall_mem_cons.mpr ⟨rfl, (fun _ h => nomatch h)⟩)⟩)⟩) ?_
      exact bX3_fillsNumber_128 hd hW hX ga0 gl1 gl2 gz3   hP 
  · refine z_aload_n dX3_fillsNumber_69 rfl rfl ?_
    refine tw_getO hW ga0 (by decide) (by decide) rfl kX3 fX3_35 dX3_fillsNumber_70 (fun b4 pb4 gb4 => ?_)
    have gb4 : oT τ b4 5 := ⟨_, gb4⟩
    refine z_iload dX3_fillsNumber_73 rfl ?_
    have hX0 := kX5_at 0 (Nat.le_refl _) hW gb4 gl9 
    refine z_callV (As := [_]) eX5_at sX5_at lX3_211 rfl dX3_fillsNumber_75 (hW.os gb4).choose_spec hX0 (Nat.le_trans (by decide) hd) rfl (Nat.le_of_ble_eq_true rfl) (fun r cs1 hp => ?_)
    obtain ⟨hcs, r6, rfl, gr6, n5_0⟩ := hp
    obtain rfl := hcs.symm
    refine z_st (st' := [.int (Int32.ofInt r6)]) rfl ?_
    have hX0 := kX10_isDigit 0 (Nat.le_refl _) hW gr6 
    refine z_callSN (As := [_]) eX10_isDigit sX10_isDigit lX3_214 dX3_fillsNumber_78 hX0 (Nat.le_trans (by decide) hd) rfl (Nat.le_of_ble_eq_true rfl) (fun r cs1 hp => ?_)
    obtain ⟨hcs, r8, rfl, gr8, n7_0⟩ := hp
    obtain rfl := hcs.symm
    refine z_st (st' := [.int (Int32.ofInt r8)]) rfl ?_
    refine i_if_ne (tgt := 86) dX3_fillsNumber_81 (by decide) gr8 (fun h9 => ?_) (fun h9 => ?_)
    · refine z_lload dX3_fillsNumber_86 rfl ?_
      refine i_ldc2 (n := 10) qX3_228 rfl dX3_fillsNumber_88 ?_
      refine tw_lmul dX3_fillsNumber_91 (fun z10 gz10 => ?_)
      refine z_aload_n dX3_fillsNumber_92 rfl rfl ?_
      refine tw_getO hW ga0 (by decide) (by decide) rfl kX3 fX3_35 dX3_fillsNumber_93 (fun b11 pb11 gb11 => ?_)
      have gb11 : oT τ b11 5 := ⟨_, gb11⟩
      refine z_iload dX3_fillsNumber_96 rfl ?_
      have hX0 := kX5_at 0 (Nat.le_refl _) hW gb11 gl9 
      refine z_callV (As := [_]) eX5_at sX5_at lX3_211 rfl dX3_fillsNumber_98 (hW.os gb11).choose_spec hX0 (Nat.le_trans (by decide) hd) rfl (Nat.le_of_ble_eq_true rfl) (fun r cs1 hp => ?_)
      obtain ⟨hcs, r13, rfl, gr13, n12_0⟩ := hp
      obtain rfl := hcs.symm
      refine z_st (st' := [.int (Int32.ofInt r13), .long (Int64.ofInt z10)]) rfl ?_
      refine tw_i2l dX3_fillsNumber_101 (fun z14 gz14 => ?_)
      refine tw_ladd dX3_fillsNumber_102 (fun z15 gz15 => ?_)
      refine i_ldc2 (n := 48) qX3_230 rfl dX3_fillsNumber_103 ?_
      refine tw_lsub dX3_fillsNumber_106 (fun z16 gz16 => ?_)
      refine z_lstore dX3_fillsNumber_107 (by decide) ?_
      refine z_loc (L' := [(0, .ref (G.1 + a0)), (1, .int (Int32.ofInt l1)), (2, .int (Int32.ofInt l2)), (4, .int (Int32.ofInt l4)), (5, .int (Int32.ofInt l5)), (7, .long (Int64.ofInt z16)), (9, .int (Int32.ofInt l9))]) (List.forall_mem_cons.mpr ⟨rfl, (List.forall_mem_cons.mpr ⟨rfl, (List.forall_mem_cons.mpr ⟨rfl, (List.forall_mem_cons.mpr ⟨rfl, (List.forall_mem_cons.mpr ⟨rfl, (List.forall_mem_cons.mpr ⟨rfl, (List.forall_mem_cons.mpr ⟨rfl, (fun _ h => nomatch h)⟩)⟩)⟩)⟩)⟩)⟩)⟩) ?_
      refine tw_iinc (l := l9) dX3_fillsNumber_109 rfl (by decide) (fun z17 gz17 ez17 => ?_)
      first | have ez17 := ez17 ⟨by omega, by omega⟩ | clear ez17
      refine z_loc (L' := [(0, .ref (G.1 + a0)), (1, .int (Int32.ofInt l1)), (2, .int (Int32.ofInt l2)), (4, .int (Int32.ofInt l4)), (5, .int (Int32.ofInt l5)), (7, .long (Int64.ofInt z16)), (9, .int (Int32.ofInt z17))]) (List.forall_mem_cons.mpr ⟨rfl, (List.forall_mem_cons.mpr ⟨rfl, (List.forall_mem_cons.mpr ⟨rfl, (List.forall_mem_cons.mpr ⟨rfl, (List.forall_mem_cons.mpr ⟨rfl, (List.forall_mem_cons.mpr ⟨rfl, (List.forall_mem_cons.mpr ⟨rfl, (fun _ h => nomatch h)⟩)⟩)⟩)⟩)⟩)⟩)⟩) ?_
      refine z_goto (tgt := 62) dX3_fillsNumber_112 (by decide) ?_
      refine z_loc (L' := [(0, .ref (G.1 + a0)), (1, .int (Int32.ofInt l1)), (2, .int (Int32.ofInt l2)), (4, .int (Int32.ofInt l4)), (5, .int (Int32.ofInt l5)), (7, .long (Int64.ofInt z16)), (9, .int (Int32.ofInt z17))]) (List.forall_mem_cons.mpr ⟨rfl, (List.forall_mem_cons.mpr ⟨rfl, (List.forall_mem_cons.mpr ⟨rfl, (List.forall_mem_cons.mpr ⟨rfl, (List.forall_mem_cons.mpr ⟨rfl, (List.forall_mem_cons.mpr ⟨rfl, (List.forall_mem_cons.mpr ⟨rfl, (fun _ h => nomatch h)⟩)⟩)⟩)⟩)⟩)⟩)⟩) ?_
      exact ih_62 hW hX ga0 gl1 gl2 gl4 gl5 (by omega) gz16 gz17   (by omega)
    · refine z_iconst (v := Int32.ofInt 0) dX3_fillsNumber_84 rfl ?_
      exact z_ireturn dX3_fillsNumber_85 rfl (nar01 (b01 ⟨by decide, by decide⟩)) (hP _ _ _ hW hX (show rng 0 from ⟨by decide, by decide⟩) (by omega))
set_option maxRecDepth 100000 in
set_option maxHeartbeats 4000000 in
theorem bX3_fillsNumber_62 {G : xG} {d : Nat} {Post : xP} {B : Nat × Nat} {τ0 τ : Tau} {c0 cs : List va_E} {a0 pm : Nat} {l1 : Int} {l2 : Int} {l4 : Int} {l5 : Int} {l7 : Int} {l9 : Int} (hd : 2 ≤ d) (hW : WT G B τ cs) (hX : Fx [1] τ0 c0 τ cs) (ga0 : τ a0 = some (.inl (3, pm))) (gl1 : rng l1) (gl2 : rng l2) (gl4 : rng l4) (gl5 : rng l5) (bl5 : iv 0 1 l5) (gl7 : rngL l7) (gl9 : rng l9)   (hP : ∀ (τ1 : Tau) (c1 : List va_E) (r : Int), WT G B τ1 c1 → Fx [1] τ0 c0 τ1 c1 → rng r → ((iv 0 1 r)) → Post (some (.int (Int32.ofInt r))) c1)  : Z (RX3, cX3_fillsNumber, 10, some .boolean, false) G d Post 62 [(0, .ref (G.1 + a0)), (1, .int (Int32.ofInt l1)), (2, .int (Int32.ofInt l2)), (4, .int (Int32.ofInt l4)), (5, .int (Int32.ofInt l5)), (7, .long (Int64.ofInt l7)), (9, .int (Int32.ofInt l9))] [] cs := by
  have key : ∀ (n : Nat) (τ : Tau) (cs : List va_E) (a0 pm : Nat) (l1 : Int) (l2 : Int) (l4 : Int) (l5 : Int) (l7 : Int) (l9 : Int) (hW : WT G B τ cs) (hX : Fx [1] τ0 c0 τ cs) (ga0 : τ a0 = some (.inl (3, pm))) (gl1 : rng l1) (gl2 : rng l2) (gl4 : rng l4) (gl5 : rng l5) (bl5 : iv 0 1 l5) (gl7 : rngL l7) (gl9 : rng l9)  , (l4 - l9).toNat < n → Z (RX3, cX3_fillsNumber, 10, some .boolean, false) G d Post 62 [(0, .ref (G.1 + a0)), (1, .int (Int32.ofInt l1)), (2, .int (Int32.ofInt l2)), (4, .int (Int32.ofInt l4)), (5, .int (Int32.ofInt l5)), (7, .long (Int64.ofInt l7)), (9, .int (Int32.ofInt l9))] [] cs := by
    intro n
    induction n with
    | zero => intro τ cs a0 pm l1 l2 l4 l5 l7 l9 hW hX ga0 gl1 gl2 gl4 gl5 bl5 gl7 gl9 hm; exact absurd hm (Nat.not_lt_zero _)
    | succ n ih =>
      intro τ cs a0 pm l1 l2 l4 l5 l7 l9 hW hX ga0 gl1 gl2 gl4 gl5 bl5 gl7 gl9 hm
      exact eX3_fillsNumber_62 hd hW hX ga0 gl1 gl2 gl4 gl5 bl5 gl7 gl9 hP  (fun hW hX ga0 gl1 gl2 gl4 gl5 bl5 gl7 gl9 hm => ih _ _ _ _ _ _ _ _ _ _ hW hX ga0 gl1 gl2 gl4 gl5 bl5 gl7 gl9 hm) hm
  exact key _ _ _ _ _ _ _ _ _ _ _ hW hX ga0 gl1 gl2 gl4 gl5 bl5 gl7 gl9 (Nat.lt_succ_self _)
set_option maxRecDepth 100000 in
set_option maxHeartbeats 4000000 in
theorem bX3_fillsNumber_32 {G : xG} {d : Nat} {Post : xP} {B : Nat × Nat} {τ0 τ : Tau} {c0 cs : List va_E} {a0 pm : Nat} {l1 : Int} {l2 : Int} {l4 : Int} {l5 : Int} {s0 : Int} (hd : 2 ≤ d) (hW : WT G B τ cs) (hX : Fx [1] τ0 c0 τ cs) (ga0 : τ a0 = some (.inl (3, pm))) (gl1 : rng l1) (gl2 : rng l2) (gl4 : rng l4) (gl5 : rng l5) (bl5 : iv 0 1 l5) (gs0 : rng s0)   (hP : ∀ (τ1 : Tau) (c1 : List va_E) (r : Int), WT G B τ1 c1 → Fx [1] τ0 c0 τ1 c1 → rng r → ((iv 0 1 r)) → Post (some (.int (Int32.ofInt r))) c1)  : Z (RX3, cX3_fillsNumber, 10, some .boolean, false) G d Post 32 [(0, .ref (G.1 + a0)), (1, .int (Int32.ofInt l1)), (2, .int (Int32.ofInt l2)), (4, .int (Int32.ofInt l4)), (5, .int (Int32.ofInt l5))] [.int (Int32.ofInt s0)] cs := by
  have hpm := hW.2.1.2.2.2.2.2.2.1 _ _ ga0
  refine z_istore dX3_fillsNumber_32 (by decide) ?_
  refine z_loc (L' := [(0, .ref (G.1 + a0)), (1, .int (Int32.ofInt l1)), (2, .int (Int32.ofInt l2)), (4, .int (Int32.ofInt l4)), (5, .int (Int32.ofInt l5)), (6, .int (Int32.ofInt s0))]) (List.forall_mem_cons.mpr ⟨rfl, (List.forall_mem_cons.mpr ⟨rfl, (List.forall_mem_cons.mpr ⟨rfl, (List.forall_mem_cons.mpr ⟨rfl, (List.forall_mem_cons.mpr ⟨rfl, (List.forall_mem_cons.mpr ⟨rfl, (fun _ h => nomatch h)⟩)⟩)⟩)⟩)⟩)⟩) ?_
  refine z_iload dX3_fillsNumber_34 rfl ?_
  refine z_iload dX3_fillsNumber_36 rfl ?_
  refine tw_isub dX3_fillsNumber_38 (fun z1 gz1 ez1 => ?_)
  first | have ez1 := ez1 ⟨by omega, by omega⟩ | clear ez1
  refine z_iconst (v := Int32.ofInt 1) dX3_fillsNumber_39 rfl ?_
  refine i_icmp_lt (tgt := 53) dX3_fillsNumber_40 (by decide) gz1 (show rng 1 from ⟨by decide, by decide⟩) (fun h2 => ?_) (fun h2 => ?_)
  · refine z_iconst (v := Int32.ofInt 0) dX3_fillsNumber_53 rfl ?_
    exact z_ireturn dX3_fillsNumber_54 rfl (nar01 (b01 ⟨by decide, by decide⟩)) (hP _ _ _ hW hX (show rng 0 from ⟨by decide, by decide⟩) (by omega))
  · refine z_iload dX3_fillsNumber_43 rfl ?_
    refine z_iload dX3_fillsNumber_45 rfl ?_
    refine tw_isub dX3_fillsNumber_47 (fun z3 gz3 ez3 => ?_)
    first | have ez3 := ez3 ⟨by omega, by omega⟩ | clear ez3
    refine z_bipush (v := Int32.ofInt 10) dX3_fillsNumber_48 (by decide) ?_
    refine i_icmp_le (tgt := 55) dX3_fillsNumber_50 (by decide) gz3 (show rng 10 from ⟨by decide, by decide⟩) (fun h4 => ?_) (fun h4 => ?_)
    · refine z_lconst (v := Int64.ofInt 0) dX3_fillsNumber_55 (by decide) ?_
      refine z_lstore dX3_fillsNumber_56 (by decide) ?_
      refine z_loc (L' := [(0, .ref (G.1 + a0)), (1, .int (Int32.ofInt l1)), (2, .int (Int32.ofInt l2)), (4, .int (Int32.ofInt l4)), (5, .int (Int32.ofInt l5)), (6, .int (Int32.ofInt s0)), (7, .long (Int64.ofInt 0))]) (List.forall_mem_cons.mpr ⟨rfl, (List.forall_mem_cons.mpr ⟨rfl, (List.forall_mem_cons.mpr ⟨rfl, (List.forall_mem_cons.mpr ⟨rfl, (List.forall_mem_cons.mpr ⟨rfl, (List.forall_mem_cons.mpr ⟨rfl, (List.forall_mem_cons.mpr ⟨rfl, (fun _ h => nomatch h)⟩)⟩)⟩)⟩)⟩)⟩)⟩) ?_
      refine z_iload dX3_fillsNumber_58 rfl ?_
      refine z_istore dX3_fillsNumber_60 (by decide) ?_
      refine z_loc (L' := [(0, .ref (G.1 + a0)), (1, .int (Int32.ofInt l1)), (2, .int (Int32.ofInt l2)), (4, .int (Int32.ofInt l4)), (5, .int (Int32.ofInt l5)), (6, .int (Int32.ofInt s0)), (7, .long (Int64.ofInt 0)), (9, .int (Int32.ofInt s0))]) (List.forall_mem_cons.mpr ⟨rfl, (List.forall_mem_cons.mpr ⟨rfl, (List.forall_mem_cons.mpr ⟨rfl, (List.forall_mem_cons.mpr ⟨rfl, (List.forall_mem_cons.mpr ⟨rfl, (List.forall_mem_cons.mpr ⟨rfl, (List.forall_mem_cons.mpr ⟨rfl, (List.forall_mem_cons.mpr ⟨rfl, (fun _ h => nomatch h)⟩)⟩)⟩)⟩)⟩)⟩)⟩)⟩) ?_
      refine z_loc (L' := [(0, .ref (G.1 + a0)), (1, .int (Int32.ofInt l1)), (2, .int (Int32.ofInt l2)), (4, .int (Int32.ofInt l4)), (5, .int (Int32.ofInt l5)), (7, .long (Int64.ofInt 0)), (9, .int (Int32.ofInt s0))]) (List.forall_mem_cons.mpr ⟨rfl, (List.forall_mem_cons.mpr ⟨rfl, (List.forall_mem_cons.mpr ⟨rfl, (List.forall_mem_cons.mpr ⟨rfl, (List.forall_mem_cons.mpr ⟨rfl, (List.forall_mem_cons.mpr ⟨rfl, (List.forall_mem_cons.mpr ⟨rfl, (fun _ h => nomatch h)⟩)⟩)⟩)⟩)⟩)⟩)⟩) ?_
      exact bX3_fillsNumber_62 hd hW hX ga0 gl1 gl2 gl4 gl5 (by omega) (show rngL 0 from ⟨by decide, by decide⟩) gs0   hP 
    · refine z_iconst (v := Int32.ofInt 0) dX3_fillsNumber_53 rfl ?_
      exact z_ireturn dX3_fillsNumber_54 rfl (nar01 (b01 ⟨by decide, by decide⟩)) (hP _ _ _ hW hX (show rng 0 from ⟨by decide, by decide⟩) (by omega))
set_option maxRecDepth 100000 in
set_option maxHeartbeats 4000000 in
theorem bX3_fillsNumber_18 {G : xG} {d : Nat} {Post : xP} {B : Nat × Nat} {τ0 τ : Tau} {c0 cs : List va_E} {a0 pm : Nat} {l1 : Int} {l2 : Int} {l3 : Int} {l4 : Int} {s0 : Int} (hd : 2 ≤ d) (hW : WT G B τ cs) (hX : Fx [1] τ0 c0 τ cs) (ga0 : τ a0 = some (.inl (3, pm))) (gl1 : rng l1) (gl2 : rng l2) (gl3 : rng l3) (gl4 : rng l4) (gs0 : rng s0) (bs0 : iv 0 1 s0)   (hP : ∀ (τ1 : Tau) (c1 : List va_E) (r : Int), WT G B τ1 c1 → Fx [1] τ0 c0 τ1 c1 → rng r → ((iv 0 1 r)) → Post (some (.int (Int32.ofInt r))) c1)  : Z (RX3, cX3_fillsNumber, 10, some .boolean, false) G d Post 18 [(0, .ref (G.1 + a0)), (1, .int (Int32.ofInt l1)), (2, .int (Int32.ofInt l2)), (3, .int (Int32.ofInt l3)), (4, .int (Int32.ofInt l4))] [.int (Int32.ofInt s0)] cs := by
  have hpm := hW.2.1.2.2.2.2.2.2.1 _ _ ga0
  refine z_istore dX3_fillsNumber_18 (by decide) ?_
  refine z_loc (L' := [(0, .ref (G.1 + a0)), (1, .int (Int32.ofInt l1)), (2, .int (Int32.ofInt l2)), (3, .int (Int32.ofInt l3)), (4, .int (Int32.ofInt l4)), (5, .int (Int32.ofInt s0))]) (List.forall_mem_cons.mpr ⟨rfl, (List.forall_mem_cons.mpr ⟨rfl, (List.forall_mem_cons.mpr ⟨rfl, (List.forall_mem_cons.mpr ⟨rfl, (List.forall_mem_cons.mpr ⟨rfl, (List.forall_mem_cons.mpr ⟨rfl, (fun _ h => nomatch h)⟩)⟩)⟩)⟩)⟩)⟩) ?_
  refine z_iload dX3_fillsNumber_20 rfl ?_
  refine i_if_eq (tgt := 31) dX3_fillsNumber_22 (by decide) gs0 (fun h1 => ?_) (fun h1 => ?_)
  · refine z_iload_n dX3_fillsNumber_31 rfl rfl ?_
    refine z_loc (L' := [(0, .ref (G.1 + a0)), (1, .int (Int32.ofInt l1)), (2, .int (Int32.ofInt l2)), (4, .int (Int32.ofInt l4)), (5, .int (Int32.ofInt s0))]) (List.forall_mem_cons.mpr ⟨rfl, (List.forall_mem_cons.mpr ⟨rfl, (List.forall_mem_cons.mpr ⟨rfl, (List.forall_mem_cons.mpr ⟨rfl, (List.forall_mem_cons.mpr ⟨rfl, (fun _ h => nomatch h)⟩)⟩)⟩)⟩)⟩) ?_
    exact bX3_fillsNumber_32 hd hW hX ga0 gl1 gl2 gl4 gs0 (by omega) gl3   hP 
  · refine z_iload_n dX3_fillsNumber_25 rfl rfl ?_
    refine z_iconst (v := Int32.ofInt 1) dX3_fillsNumber_26 rfl ?_
    refine tw_iadd dX3_fillsNumber_27 (fun z2 gz2 ez2 => ?_)
    first | have ez2 := ez2 ⟨by omega, by omega⟩ | clear ez2
    refine z_goto (tgt := 32) dX3_fillsNumber_28 (by decide) ?_
    refine z_loc (L' := [(0, .ref (G.1 + a0)), (1, .int (Int32.ofInt l1)), (2, .int (Int32.ofInt l2)), (4, .int (Int32.ofInt l4)), (5, .int (Int32.ofInt s0))]) (List.forall_mem_cons.mpr ⟨rfl, (List.forall_mem_cons.mpr ⟨rfl, (List.forall_mem_cons.mpr ⟨rfl, (List.forall_mem_cons.mpr ⟨rfl, (List.forall_mem_cons.mpr ⟨rfl, (fun _ h => nomatch h)⟩)⟩)⟩)⟩)⟩) ?_
    exact bX3_fillsNumber_32 hd hW hX ga0 gl1 gl2 gl4 gs0 (by omega) gz2   hP 
set_option maxRecDepth 100000 in
set_option maxHeartbeats 4000000 in
theorem kX3_fillsNumber {G : xG} {B : Nat × Nat} {τ : Tau} {cs : List va_E} {a0 pm : Nat} {l1 : Int} {l2 : Int} {l3 : Int} {l4 : Int} (d : Nat) (hd : 2 ≤ d) (hW : WT G B τ cs) (ga0 : τ a0 = some (.inl (3, pm))) (gl1 : rng l1) (gl2 : rng l2) (gl3 : rng l3) (gl4 : rng l4)  : X G yX3_fillsNumber cX3_fillsNumber 10 (some .boolean) d [.ref (G.1 + a0), .int (Int32.ofInt l1), .int (Int32.ofInt l2), .int (Int32.ofInt l3), .int (Int32.ofInt l4)] cs (wI G B τ cs [1] (fun r => (iv 0 1 r))) := by
  refine X.of false (by decide +kernel) (by decide) (Nat.le_of_ble_eq_true rfl) ?_
  show Z (RX3, cX3_fillsNumber, 10, some .boolean, false) G d _ 0 [(0, .ref (G.1 + a0)), (1, .int (Int32.ofInt l1)), (2, .int (Int32.ofInt l2)), (3, .int (Int32.ofInt l3)), (4, .int (Int32.ofInt l4))] [] cs
  have hP : ∀ (τ1 : Tau) (c1 : List va_E) (r : Int), WT G B τ1 c1 → Fx [1] τ cs τ1 c1 → rng r → ((iv 0 1 r)) → wI G B τ cs [1] (fun r => (iv 0 1 r)) (some (.int (Int32.ofInt r))) c1 := fun τ1 c1 r h1 h2 h3 h4 => ⟨τ1, r, rfl, h3, h1, h2, h4⟩
  have hX : Fx [1] τ cs τ cs := Fx.rf
  skip
  have hpm := hW.2.1.2.2.2.2.2.2.1 _ _ ga0
  refine z_aload_n dX3_fillsNumber_0 rfl rfl ?_
  refine tw_getO hW ga0 (by decide) (by decide) rfl kX3 fX3_35 dX3_fillsNumber_1 (fun b1 pb1 gb1 => ?_)
  have gb1 : oT τ b1 5 := ⟨_, gb1⟩
  refine z_iload_n dX3_fillsNumber_4 rfl rfl ?_
  have hX0 := kX5_at 0 (Nat.le_refl _) hW gb1 gl3 
  refine z_callV (As := [_]) eX5_at sX5_at lX3_211 rfl dX3_fillsNumber_5 (hW.os gb1).choose_spec hX0 (Nat.le_trans (by decide) hd) rfl (Nat.le_of_ble_eq_true rfl) (fun r cs1 hp => ?_)
  obtain ⟨hcs, r3, rfl, gr3, n2_0⟩ := hp
  obtain rfl := hcs.symm
  refine z_st (st' := [.int (Int32.ofInt r3)]) rfl ?_
  refine z_bipush (v := Int32.ofInt 45) dX3_fillsNumber_8 (by decide) ?_
  refine i_icmp_ne (tgt := 17) dX3_fillsNumber_10 (by decide) gr3 (show rng 45 from ⟨by decide, by decide⟩) (fun h4 => ?_) (fun h4 => ?_)
  · refine z_iconst (v := Int32.ofInt 0) dX3_fillsNumber_17 rfl ?_
    refine z_loc (L' := [(0, .ref (G.1 + a0)), (1, .int (Int32.ofInt l1)), (2, .int (Int32.ofInt l2)), (3, .int (Int32.ofInt l3)), (4, .int (Int32.ofInt l4))]) (List.forall_mem_cons.mpr ⟨rfl, (List.forall_mem_cons.mpr ⟨rfl, (List.forall_mem_cons.mpr ⟨rfl, (List.forall_mem_cons.mpr ⟨rfl, (List.forall_mem_cons.mpr ⟨rfl, (fun _ h => nomatch h)⟩)⟩)⟩)⟩)⟩) ?_
    exact bX3_fillsNumber_18 hd hW hX ga0 gl1 gl2 gl3 gl4 (show rng 0 from ⟨by decide, by decide⟩) ⟨by decide, by decide⟩   hP 
  · refine z_iconst (v := Int32.ofInt 1) dX3_fillsNumber_13 rfl ?_
    refine z_goto (tgt := 18) dX3_fillsNumber_14 (by decide) ?_
    refine z_loc (L' := [(0, .ref (G.1 + a0)), (1, .int (Int32.ofInt l1)), (2, .int (Int32.ofInt l2)), (3, .int (Int32.ofInt l3)), (4, .int (Int32.ofInt l4))]) (List.forall_mem_cons.mpr ⟨rfl, (List.forall_mem_cons.mpr ⟨rfl, (List.forall_mem_cons.mpr ⟨rfl, (List.forall_mem_cons.mpr ⟨rfl, (List.forall_mem_cons.mpr ⟨rfl, (fun _ h => nomatch h)⟩)⟩)⟩)⟩)⟩) ?_
    exact bX3_fillsNumber_18 hd hW hX ga0 gl1 gl2 gl3 gl4 (show rng 1 from ⟨by decide, by decide⟩) ⟨by decide, by decide⟩   hP 

set_option maxRecDepth 100000 in
set_option maxHeartbeats 4000000 in
theorem kX3_fills {G : xG} {B : Nat × Nat} {τ : Tau} {cs : List va_E} {a0 pm : Nat} {l1 : Int} {l2 : Int} {l3 : Int} {l4 : Int} (d : Nat) (hd : 3 ≤ d) (hW : WT G B τ cs) (ga0 : τ a0 = some (.inl (3, pm))) (gl1 : rng l1) (gl2 : rng l2) (gl3 : rng l3) (gl4 : rng l4)  : X G yX3_fills cX3_fills 5 (some .boolean) d [.ref (G.1 + a0), .int (Int32.ofInt l1), .int (Int32.ofInt l2), .int (Int32.ofInt l3), .int (Int32.ofInt l4)] cs (wI G B τ cs [1] (fun r => (iv 0 1 r))) := by
  refine X.of false (by decide +kernel) (by decide) (Nat.le_of_ble_eq_true rfl) ?_
  show Z (RX3, cX3_fills, 5, some .boolean, false) G d _ 0 [(0, .ref (G.1 + a0)), (1, .int (Int32.ofInt l1)), (2, .int (Int32.ofInt l2)), (3, .int (Int32.ofInt l3)), (4, .int (Int32.ofInt l4))] [] cs
  have hP : ∀ (τ1 : Tau) (c1 : List va_E) (r : Int), WT G B τ1 c1 → Fx [1] τ cs τ1 c1 → rng r → ((iv 0 1 r)) → wI G B τ cs [1] (fun r => (iv 0 1 r)) (some (.int (Int32.ofInt r))) c1 := fun τ1 c1 r h1 h2 h3 h4 => ⟨τ1, r, rfl, h3, h1, h2, h4⟩
  have hX : Fx [1] τ cs τ cs := Fx.rf
  skip
  have hpm := hW.2.1.2.2.2.2.2.2.1 _ _ ga0
  refine z_aload_n dX3_fills_0 rfl rfl ?_
  refine tw_getO hW ga0 (by decide) (by decide) rfl kX3 fX3_15 dX3_fills_1 (fun b1 pb1 gb1 => ?_)
  refine z_aload_n dX3_fills_4 rfl rfl ?_
  refine tw_getO hW ga0 (by decide) (by decide) rfl kX3 fX3_37 dX3_fills_5 (fun b2 pb2 gb2 => ?_)
  refine z_iload_n dX3_fills_8 rfl rfl ?_
  have hX0 := kX1_classOf 1 (Nat.le_refl _) hW gb2 gl1 
  refine z_callV (As := [_]) eX1_classOf sX1_classOf lX3_122 rfl dX3_fills_9 (hW.ob gb2 (by decide)).choose_spec hX0 (Nat.le_trans (by decide) hd) rfl (Nat.le_of_ble_eq_true rfl) (fun r cs1 hp => ?_)
  obtain ⟨hcs, r4, rfl, gr4, _⟩ := hp
  obtain rfl := hcs.symm
  refine z_st (st' := [.int (Int32.ofInt r4), .ref (G.1 + b1)]) rfl ?_
  refine z_iload_n dX3_fills_12 rfl rfl ?_
  have hX0 := kX4_shape 1 (Nat.le_refl _) hW gb1 gr4 gl2 
  refine z_callV (As := [_, _]) eX4_shape sX4_shape lX3_132 rfl dX3_fills_13 (hW.ob gb1 (by decide)).choose_spec hX0 (Nat.le_trans (by decide) hd) rfl (Nat.le_of_ble_eq_true rfl) (fun r cs1 hp => ?_)
  obtain ⟨hcs, r6, rfl, gr6, _⟩ := hp
  obtain rfl := hcs.symm
  refine z_st (st' := [.int (Int32.ofInt r6)]) rfl ?_
  refine z_iconst (v := Int32.ofInt 1) dX3_fills_16 rfl ?_
  refine i_icmp_ne (tgt := 30) dX3_fills_17 (by decide) gr6 (show rng 1 from ⟨by decide, by decide⟩) (fun h7 => ?_) (fun h7 => ?_)
  · refine z_aload_n dX3_fills_30 rfl rfl ?_
    refine tw_getO hW ga0 (by decide) (by decide) rfl kX3 fX3_35 dX3_fills_31 (fun b8 pb8 gb8 => ?_)
    have gb8 : oT τ b8 5 := ⟨_, gb8⟩
    refine z_iload_n dX3_fills_34 rfl rfl ?_
    refine z_iload dX3_fills_35 rfl ?_
    have hX0 := kX10_isFieldText 1 (Nat.le_refl _) hW gb8 gl3 gl4 
    refine z_callSN (As := [_, _, _]) eX10_isFieldText sX10_isFieldText lX3_220 dX3_fills_37 hX0 (Nat.le_trans (by decide) hd) rfl (Nat.le_of_ble_eq_true rfl) (fun r cs1 hp => ?_)
    obtain ⟨hcs, r10, rfl, gr10, n9_0⟩ := hp
    obtain rfl := hcs.symm
    refine z_st (st' := [.int (Int32.ofInt r10)]) rfl ?_
    refine i_if_ne (tgt := 45) dX3_fills_40 (by decide) gr10 (fun h11 => ?_) (fun h11 => ?_)
    · refine z_aload_n dX3_fills_45 rfl rfl ?_
      refine tw_getO hW ga0 (by decide) (by decide) rfl kX3 fX3_37 dX3_fills_46 (fun b12 pb12 gb12 => ?_)
      refine z_iload_n dX3_fills_49 rfl rfl ?_
      refine z_iload_n dX3_fills_50 rfl rfl ?_
      refine z_aload_n dX3_fills_51 rfl rfl ?_
      refine tw_getO hW ga0 (by decide) (by decide) rfl kX3 fX3_35 dX3_fills_52 (fun b13 pb13 gb13 => ?_)
      have gb13 : oT τ b13 5 := ⟨_, gb13⟩
      refine z_iload_n dX3_fills_55 rfl rfl ?_
      refine z_iload dX3_fills_56 rfl ?_
      have hX0 := kX1_putText 1 (Nat.le_refl _) hW gb12 gl1 gl2 gb13 gl3 gl4 
      refine z_callV (As := [_, _, _, _, _]) eX1_putText sX1_putText lX3_224 rfl dX3_fills_58 (hW.ob gb12 (by decide)).choose_spec hX0 (Nat.le_trans (by decide) hd) rfl (Nat.le_of_ble_eq_true rfl) (fun r cs hp => ?_)
      obtain ⟨τ, rfl, hW, k16⟩ := hp
      have hX := hX.tr k16 (by decide)
      have ga0 := k16.1.e ga0 (by decide)
      clear hX0
      refine z_st (st' := []) rfl ?_
      refine z_iconst (v := Int32.ofInt 1) dX3_fills_61 rfl ?_
      exact z_ireturn dX3_fills_62 rfl (nar01 (b01 ⟨by decide, by decide⟩)) (hP _ _ _ hW hX (show rng 1 from ⟨by decide, by decide⟩) (by omega))
    · refine z_iconst (v := Int32.ofInt 0) dX3_fills_43 rfl ?_
      exact z_ireturn dX3_fills_44 rfl (nar01 (b01 ⟨by decide, by decide⟩)) (hP _ _ _ hW hX (show rng 0 from ⟨by decide, by decide⟩) (by omega))
  · refine z_aload_n dX3_fills_20 rfl rfl ?_
    refine z_iload_n dX3_fills_21 rfl rfl ?_
    refine z_iload_n dX3_fills_22 rfl rfl ?_
    refine z_iload_n dX3_fills_23 rfl rfl ?_
    refine z_iload dX3_fills_24 rfl ?_
    have hX0 := kX3_fillsNumber 2 (Nat.le_refl _) hW ga0 gl1 gl2 gl3 gl4 
    refine z_callV (As := [_, _, _, _]) eX3_fillsNumber sX3_fillsNumber lX3_217 rfl dX3_fills_26 (hW.ob ga0 (by decide)).choose_spec hX0 (Nat.le_trans (by decide) hd) rfl (Nat.le_of_ble_eq_true rfl) (fun r cs hp => ?_)
    obtain ⟨τ, r18, rfl, gr18, hW, k19, n17_0⟩ := hp
    have hX := hX.tr k19 (by decide)
    have ga0 := k19.1.e ga0 (by decide)
    clear hX0
    refine z_st (st' := [.int (Int32.ofInt r18)]) rfl ?_
    exact z_ireturn dX3_fills_29 rfl (nar01 (b01 (by omega))) (hP _ _ _ hW hX gr18 (by omega))

set_option maxRecDepth 100000 in
set_option maxHeartbeats 4000000 in
theorem bX3_elementWithId_27 {G : xG} {d : Nat} {Post : xP} {B : Nat × Nat} {τ : Tau} {cs : List va_E} {a0 pm : Nat} {l1 : Int} {l2 : Int} {n2 : Nat} (hd : 0 ≤ d) (hW : WT G B τ cs) (ga0 : τ a0 = some (.inl (3, pm))) (gl1 : rng l1) (gl2 : rng l2) (i0 : 1 ≤ (pm : Nat) - l2) (i1 : 0 ≤ l2) (hm_2 : ((pm : Nat) - l2).toNat < n2 + 1) (hP : ∀ r : Int, rng r → (True) → Post (some (.int (Int32.ofInt r))) cs) (ih_2 : ∀ {a0 pm : Nat} {l1 : Int} {l2 : Int} (hW : WT G B τ cs) (ga0 : τ a0 = some (.inl (3, pm))) (gl1 : rng l1) (gl2 : rng l2) (i0 : 0 ≤ l2) , ((pm : Nat) - l2).toNat < n2 → Z (RX3, cX3_elementWithId, 3, some .int, false) G d Post 2 [(0, .ref (G.1 + a0)), (1, .int (Int32.ofInt l1)), (2, .int (Int32.ofInt l2))] [] cs) : Z (RX3, cX3_elementWithId, 3, some .int, false) G d Post 27 [(0, .ref (G.1 + a0)), (1, .int (Int32.ofInt l1)), (2, .int (Int32.ofInt l2))] [] cs := by
  have hpm := hW.2.1.2.2.2.2.2.2.1 _ _ ga0
  refine tw_iinc (l := l2) dX3_elementWithId_27 rfl (by decide) (fun z1 gz1 ez1 => ?_)
  first | have ez1 := ez1 ⟨by omega, by omega⟩ | clear ez1
  refine z_loc (L' := [(0, .ref (G.1 + a0)), (1, .int (Int32.ofInt l1)), (2, .int (Int32.ofInt z1))]) (List.forall_mem_cons.mpr ⟨rfl, (List.forall_mem_cons.mpr ⟨rfl, (List.forall_mem_cons.mpr ⟨rfl, (fun _ h => nomatch h)⟩)⟩)⟩) ?_
  refine z_goto (tgt := 2) dX3_elementWithId_30 (by decide) ?_
  refine z_loc (L' := [(0, .ref (G.1 + a0)), (1, .int (Int32.ofInt l1)), (2, .int (Int32.ofInt z1))]) (List.forall_mem_cons.mpr ⟨rfl, (List.forall_mem_cons.mpr ⟨rfl, (List.forall_mem_cons.mpr ⟨rfl, (fun _ h => nomatch h)⟩)⟩)⟩) ?_
  exact ih_2 hW ga0 gl1 gz1 (by omega)  (by omega)
set_option maxRecDepth 100000 in
set_option maxHeartbeats 4000000 in
theorem eX3_elementWithId_2 {G : xG} {d : Nat} {Post : xP} {B : Nat × Nat} {τ : Tau} {cs : List va_E} {a0 pm : Nat} {l1 : Int} {l2 : Int} {n2 : Nat} (hd : 0 ≤ d) (hW : WT G B τ cs) (ga0 : τ a0 = some (.inl (3, pm))) (gl1 : rng l1) (gl2 : rng l2) (i0 : 0 ≤ l2)  (hP : ∀ r : Int, rng r → (True) → Post (some (.int (Int32.ofInt r))) cs)  (ih_2 : ∀ {a0 pm : Nat} {l1 : Int} {l2 : Int} (hW : WT G B τ cs) (ga0 : τ a0 = some (.inl (3, pm))) (gl1 : rng l1) (gl2 : rng l2) (i0 : 0 ≤ l2) , ((pm : Nat) - l2).toNat < n2 → Z (RX3, cX3_elementWithId, 3, some .int, false) G d Post 2 [(0, .ref (G.1 + a0)), (1, .int (Int32.ofInt l1)), (2, .int (Int32.ofInt l2))] [] cs) (hm_2 : ((pm : Nat) - l2).toNat < n2 + 1) : Z (RX3, cX3_elementWithId, 3, some .int, false) G d Post 2 [(0, .ref (G.1 + a0)), (1, .int (Int32.ofInt l1)), (2, .int (Int32.ofInt l2))] [] cs := by
  have hpm := hW.2.1.2.2.2.2.2.2.1 _ _ ga0
  refine z_iload_n dX3_elementWithId_2 rfl rfl ?_
  refine z_aload_n dX3_elementWithId_3 rfl rfl ?_
  refine tw_getA hW ga0 (by decide) (by decide) rfl kX3 fX3_66 dX3_elementWithId_4 (fun b1 _ gb1 => ?_)
  refine tw_alen (t0 := 0) hW gb1 rfl dX3_elementWithId_7 (fun x2 qx2 gx2 => ?_)
  refine i_icmp_ge (tgt := 33) dX3_elementWithId_8 (by decide) gl2 gx2 (fun h3 => ?_) (fun h3 => ?_)
  · refine z_iconst (v := Int32.ofInt (-1)) dX3_elementWithId_33 rfl ?_
    exact z_ireturn dX3_elementWithId_34 rfl rfl (hP _ (show rng (-1) from ⟨by decide, by decide⟩) trivial)
  · refine z_aload_n dX3_elementWithId_11 rfl rfl ?_
    refine tw_getA hW ga0 (by decide) (by decide) rfl kX3 fX3_66 dX3_elementWithId_12 (fun b4 _ gb4 => ?_)
    refine z_iload_n dX3_elementWithId_15 rfl rfl ?_
    refine tw_iald hW gb4 (by omega) (by omega) dX3_elementWithId_16 (fun x5 _ vx5 gx5 => ?_)
    refine z_iload_n dX3_elementWithId_17 rfl rfl ?_
    refine i_icmp_ne (tgt := 27) dX3_elementWithId_18 (by decide) gx5 gl1 (fun h6 => ?_) (fun h6 => ?_)
    · refine z_loc (L' := [(0, .ref (G.1 + a0)), (1, .int (Int32.ofInt l1)), (2, .int (Int32.ofInt l2))]) (List.forall_mem_cons.mpr ⟨rfl, (List.forall_mem_cons.mpr ⟨rfl, (List.forall_mem_cons.mpr ⟨rfl, (fun _ h => nomatch h)⟩)⟩)⟩) ?_
      exact bX3_elementWithId_27 hd hW ga0 gl1 gl2 (by omega) (by omega) (by omega) hP ih_2
    · refine z_iload_n dX3_elementWithId_21 rfl rfl ?_
      refine i_if_eq (tgt := 27) dX3_elementWithId_22 (by decide) gl1 (fun h7 => ?_) (fun h7 => ?_)
      · refine z_loc (L' := [(0, .ref (G.1 + a0)), (1, .int (Int32.ofInt l1)), (2, .int (Int32.ofInt l2))]) (List.forall_mem_cons.mpr ⟨rfl, (List.forall_mem_cons.mpr ⟨rfl, (List.forall_mem_cons.mpr ⟨rfl, (fun _ h => nomatch h)⟩)⟩)⟩) ?_
        exact bX3_elementWithId_27 hd hW ga0 gl1 gl2 (by omega) (by omega) (by omega) hP ih_2
      · refine z_iload_n dX3_elementWithId_25 rfl rfl ?_
        exact z_ireturn dX3_elementWithId_26 rfl rfl (hP _ gl2 trivial)
set_option maxRecDepth 100000 in
set_option maxHeartbeats 4000000 in
theorem bX3_elementWithId_2 {G : xG} {d : Nat} {Post : xP} {B : Nat × Nat} {τ : Tau} {cs : List va_E} {a0 pm : Nat} {l1 : Int} {l2 : Int} (hd : 0 ≤ d) (hW : WT G B τ cs) (ga0 : τ a0 = some (.inl (3, pm))) (gl1 : rng l1) (gl2 : rng l2) (i0 : 0 ≤ l2)  (hP : ∀ r : Int, rng r → (True) → Post (some (.int (Int32.ofInt r))) cs)  : Z (RX3, cX3_elementWithId, 3, some .int, false) G d Post 2 [(0, .ref (G.1 + a0)), (1, .int (Int32.ofInt l1)), (2, .int (Int32.ofInt l2))] [] cs := by
  have key : ∀ (n : Nat) (a0 pm : Nat) (l1 : Int) (l2 : Int) (hW : WT G B τ cs) (ga0 : τ a0 = some (.inl (3, pm))) (gl1 : rng l1) (gl2 : rng l2) (i0 : 0 ≤ l2) , ((pm : Nat) - l2).toNat < n → Z (RX3, cX3_elementWithId, 3, some .int, false) G d Post 2 [(0, .ref (G.1 + a0)), (1, .int (Int32.ofInt l1)), (2, .int (Int32.ofInt l2))] [] cs := by
    intro n
    induction n with
    | zero => intro a0 pm l1 l2 hW ga0 gl1 gl2 i0 hm; exact absurd hm (Nat.not_lt_zero _)
    | succ n ih =>
      intro a0 pm l1 l2 hW ga0 gl1 gl2 i0 hm
      exact eX3_elementWithId_2 hd hW ga0 gl1 gl2 i0 hP  (fun hW ga0 gl1 gl2 i0 hm => ih _ _ _ _ hW ga0 gl1 gl2 i0 hm) hm
  exact key _ _ _ _ _ hW ga0 gl1 gl2 i0 (Nat.lt_succ_self _)
set_option maxRecDepth 100000 in
set_option maxHeartbeats 4000000 in
theorem kX3_elementWithId {G : xG} {B : Nat × Nat} {τ : Tau} {cs : List va_E} {a0 pm : Nat} {l1 : Int} (d : Nat) (hd : 0 ≤ d) (hW : WT G B τ cs) (ga0 : τ a0 = some (.inl (3, pm))) (gl1 : rng l1)  : X G yX3_elementWithId cX3_elementWithId 3 (some .int) d [.ref (G.1 + a0), .int (Int32.ofInt l1)] cs (rI cs (fun r => True)) := by
  refine X.of false (by decide +kernel) (by decide) (Nat.le_of_ble_eq_true rfl) ?_
  show Z (RX3, cX3_elementWithId, 3, some .int, false) G d _ 0 [(0, .ref (G.1 + a0)), (1, .int (Int32.ofInt l1))] [] cs
  have hP : ∀ r : Int, rng r → (True) → rI cs (fun r => True) (some (.int (Int32.ofInt r))) cs := fun r h1 h2 => ⟨rfl, r, rfl, h1, h2⟩
  have hpm := hW.2.1.2.2.2.2.2.2.1 _ _ ga0
  refine z_iconst (v := Int32.ofInt 0) dX3_elementWithId_0 rfl ?_
  refine z_istore_n dX3_elementWithId_1 rfl (by decide) ?_
  refine z_loc (L' := [(0, .ref (G.1 + a0)), (1, .int (Int32.ofInt l1)), (2, .int (Int32.ofInt 0))]) (List.forall_mem_cons.mpr ⟨rfl, (List.forall_mem_cons.mpr ⟨rfl, (List.forall_mem_cons.mpr ⟨rfl, (fun _ h => nomatch h)⟩)⟩)⟩) ?_
  refine z_loc (L' := [(0, .ref (G.1 + a0)), (1, .int (Int32.ofInt l1)), (2, .int (Int32.ofInt 0))]) (List.forall_mem_cons.mpr ⟨rfl, (List.forall_mem_cons.mpr ⟨rfl, (List.forall_mem_cons.mpr ⟨rfl, (fun _ h => nomatch h)⟩)⟩)⟩) ?_
  exact bX3_elementWithId_2 hd hW ga0 gl1 (show rng 0 from ⟨by decide, by decide⟩) (by omega)  hP 

