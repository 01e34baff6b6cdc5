/-! WRITING: an element within others: the depth bounds it -/
def EC (G : xG) (B : Nat × Nat) (lo : Int) (D : Nat) : Prop := ∀ {τ : Tau} {cs : List va_E} {a0 pa0 : Nat} {l1 l2 l3 l4 l5 : Int} (d : Nat) (hd : D ≤ d) (hW : WT G B τ cs) (ga0 : τ a0 = some (.inl (8, pa0))) (g1 : rng l1) (g2 : rng l2) (g3 : rng l3) (g4 : rng l4) (g5 : rng l5) (p0 : iv 0 7 l4) (p1 : iv 0 20 l5) (p2 : lo ≤ l5), X G yX8_element cX8_element 8 none d [.ref (G.1 + a0), .int (Int32.ofInt l1), .int (Int32.ofInt l2), .int (Int32.ofInt l3), .int (Int32.ofInt l4), .int (Int32.ofInt l5)] cs (wN G B τ cs [5, 8])
def CC (G : xG) (B : Nat × Nat) (lo : Int) (D : Nat) : Prop := ∀ {τ : Tau} {cs : List va_E} {a0 pa0 : Nat} {l1 l2 l3 : Int} (d : Nat) (hd : D ≤ d) (hW : WT G B τ cs) (ga0 : τ a0 = some (.inl (8, pa0))) (g1 : rng l1) (g2 : rng l2) (g3 : rng l3) (p0 : iv 0 19 l3) (p1 : lo ≤ l3), X G yX8_content cX8_content 7 none d [.ref (G.1 + a0), .int (Int32.ofInt l1), .int (Int32.ofInt l2), .int (Int32.ofInt l3)] cs (wN G B τ cs [5, 8])

set_option maxRecDepth 100000 in
set_option maxHeartbeats 4000000 in
theorem eX8_items_3 {G : xG} {d : Nat} {Post : xP} {B : Nat × Nat} {τ0 τ : Tau} {c0 cs : List va_E} {a0 pa0 : Nat} {l1 : Int} {l2 : Int} {l3 : Int} {l4 : Int} {n3 : Nat} {lo : Int} {D : Nat} (hD : 12 ≤ D) (hE : EC G B lo D) (hd : D + 1 ≤ d) (hW : WT G B τ cs) (hX : Fx [5, 8] τ0 c0 τ cs) (ga0 : τ a0 = some (.inl (8, pa0))) (gl1 : rng l1) (gl2 : rng l2) (gl3 : rng l3) (gl4 : rng l4) (i0 : 0 ≤ l4) (i1 : iv 0 19 l3) (i2 : lo ≤ l3 + 1)  (hP : ∀ (τ1 : Tau) (c1 : List va_E), WT G B τ1 c1 → Fx [5, 8] τ0 c0 τ1 c1 → Post none c1)  (ih_3 : ∀ {τ : Tau} {cs : List va_E} {a0 pa0 : Nat} {l1 : Int} {l2 : Int} {l3 : Int} {l4 : Int} (hW : WT G B τ cs) (hX : Fx [5, 8] τ0 c0 τ cs) (ga0 : τ a0 = some (.inl (8, pa0))) (gl1 : rng l1) (gl2 : rng l2) (gl3 : rng l3) (gl4 : rng l4) (i0 : 0 ≤ l4) (i1 : iv 0 19 l3) (i2 : lo ≤ l3 + 1) , (8 - l4).toNat < n3 → Z (RX8, cX8_items, 5, none, false) G d Post 3 [(0, .ref (G.1 + a0)), (1, .int (Int32.ofInt l1)), (2, .int (Int32.ofInt l2)), (3, .int (Int32.ofInt l3)), (4, .int (Int32.ofInt l4))] [] cs) (hm_3 : (8 - l4).toNat < n3 + 1) : Z (RX8, cX8_items, 5, none, false) G d Post 3 [(0, .ref (G.1 + a0)), (1, .int (Int32.ofInt l1)), (2, .int (Int32.ofInt l2)), (3, .int (Int32.ofInt l3)), (4, .int (Int32.ofInt l4))] [] cs := by
  refine z_iload dX8_items_3 rfl ?_
  refine z_bipush (v := Int32.ofInt 8) dX8_items_5 (by decide) ?_
  refine i_icmp_ge (tgt := 52) dX8_items_7 (by decide) gl4 (show rng 8 from ⟨by decide, by decide⟩) (fun h1 => ?_) (fun h1 => ?_)
  · exact z_return dX8_items_52 rfl (hP _ _ hW hX)
  · refine z_iload dX8_items_10 rfl ?_
    refine z_aload_n dX8_items_12 rfl rfl ?_
    refine tw_getO hW ga0 (by decide) (by decide) rfl kX8 fX8_42 dX8_items_13 (fun b2 pb2 gb2 => ?_)
    refine z_iload_n dX8_items_16 rfl rfl ?_
    refine z_iload_n dX8_items_17 rfl rfl ?_
    have hX0 := kX1_head 1 (Nat.le_refl _) hW gb2 gl1 gl2 
    refine z_callV (As := [_, _]) eX1_head sX1_head lX8_145 rfl dX8_items_18 (hW.ob gb2 (by decide)).choose_spec hX0 (by omega) rfl (Nat.le_of_ble_eq_true rfl) (fun r cs1 hp => ?_)
    obtain ⟨hcs, r4, rfl, gr4, _⟩ := hp
    obtain rfl := hcs.symm
    refine z_st (st' := [.int (Int32.ofInt r4), .int (Int32.ofInt l4)]) rfl ?_
    refine i_icmp_ge (tgt := 52) dX8_items_21 (by decide) gl4 gr4 (fun h5 => ?_) (fun h5 => ?_)
    · exact z_return dX8_items_52 rfl (hP _ _ hW hX)
    · refine z_aload_n dX8_items_24 rfl rfl ?_
      refine z_aload_n dX8_items_25 rfl rfl ?_
      refine tw_getO hW ga0 (by decide) (by decide) rfl kX8 fX8_42 dX8_items_26 (fun b6 pb6 gb6 => ?_)
      refine z_iload_n dX8_items_29 rfl rfl ?_
      refine z_iload_n dX8_items_30 rfl rfl ?_
      refine z_iload dX8_items_31 rfl ?_
      have hX0 := kX1_cell 1 (Nat.le_refl _) hW gb6 gl1 gl2 gl4 
      refine z_callV (As := [_, _, _]) eX1_cell sX1_cell lX8_158 rfl dX8_items_33 (hW.ob gb6 (by decide)).choose_spec hX0 (by omega) rfl (Nat.le_of_ble_eq_true rfl) (fun r cs1 hp => ?_)
      obtain ⟨hcs, r8, rfl, gr8, _⟩ := hp
      obtain rfl := hcs.symm
      refine z_st (st' := [.int (Int32.ofInt r8), .ref (G.1 + a0)]) rfl ?_
      refine z_iload_n dX8_items_36 rfl rfl ?_
      refine z_iload_n dX8_items_37 rfl rfl ?_
      refine z_iload dX8_items_38 rfl ?_
      refine z_iload_n dX8_items_40 rfl rfl ?_
      refine z_iconst (v := Int32.ofInt 1) dX8_items_41 rfl ?_
      refine tw_iadd dX8_items_42 (fun z9 gz9 ez9 => ?_)
      first | have ez9 := ez9 ⟨by omega, by omega⟩ | clear ez9
      have hX0 := hE D (Nat.le_refl _) hW ga0 gr8 gl1 gl2 gl4 gz9 (by omega) (by omega) (by omega)
      refine z_callV (As := [_, _, _, _, _]) eX8_element sX8_element lX8_151 rfl dX8_items_43 (hW.ob ga0 (by decide)).choose_spec hX0 (by omega) rfl (Nat.le_of_ble_eq_true rfl) (fun r cs hp => ?_)
      obtain ⟨τ, rfl, hW, k12⟩ := hp
      have hX := hX.tr k12 (by decide)
      have ga0 := k12.1.e ga0 (by decide)
      clear hX0
      refine z_st (st' := []) rfl ?_
      refine tw_iinc (l := l4) dX8_items_46 rfl (by decide) (fun z13 gz13 ez13 => ?_)
      first | have ez13 := ez13 ⟨by omega, by omega⟩ | clear ez13
      refine z_loc (L' := [(0, .ref (G.1 + a0)), (1, .int (Int32.ofInt l1)), (2, .int (Int32.ofInt l2)), (3, .int (Int32.ofInt l3)), (4, .int (Int32.ofInt z13))]) (List.forall_mem_cons.mpr ⟨rfl, (List.forall_mem_cons.mpr ⟨rfl, (List.forall_mem_cons.mpr ⟨rfl, (List.forall_mem_cons.mpr ⟨rfl, (List.forall_mem_cons.mpr ⟨rfl, (fun _ h => nomatch h)⟩)⟩)⟩)⟩)⟩) ?_
      refine z_goto (tgt := 3) dX8_items_49 (by decide) ?_
      refine z_loc (L' := [(0, .ref (G.1 + a0)), (1, .int (Int32.ofInt l1)), (2, .int (Int32.ofInt l2)), (3, .int (Int32.ofInt l3)), (4, .int (Int32.ofInt z13))]) (List.forall_mem_cons.mpr ⟨rfl, (List.forall_mem_cons.mpr ⟨rfl, (List.forall_mem_cons.mpr ⟨rfl, (List.forall_mem_cons.mpr ⟨rfl, (List.forall_mem_cons.mpr ⟨rfl, (fun _ h => nomatch h)⟩)⟩)⟩)⟩)⟩) ?_
      exact ih_3 hW hX ga0 gl1 gl2 gl3 gz13 (by omega) (by omega) (by omega)  (by omega)
set_option maxRecDepth 100000 in
set_option maxHeartbeats 4000000 in
theorem bX8_items_3 {G : xG} {d : Nat} {Post : xP} {B : Nat × Nat} {τ0 τ : Tau} {c0 cs : List va_E} {a0 pa0 : Nat} {l1 : Int} {l2 : Int} {l3 : Int} {l4 : Int} {lo : Int} {D : Nat} (hD : 12 ≤ D) (hE : EC G B lo D) (hd : D + 1 ≤ d) (hW : WT G B τ cs) (hX : Fx [5, 8] τ0 c0 τ cs) (ga0 : τ a0 = some (.inl (8, pa0))) (gl1 : rng l1) (gl2 : rng l2) (gl3 : rng l3) (gl4 : rng l4) (i0 : 0 ≤ l4) (i1 : iv 0 19 l3) (i2 : lo ≤ l3 + 1)  (hP : ∀ (τ1 : Tau) (c1 : List va_E), WT G B τ1 c1 → Fx [5, 8] τ0 c0 τ1 c1 → Post none c1)  : Z (RX8, cX8_items, 5, none, false) G d Post 3 [(0, .ref (G.1 + a0)), (1, .int (Int32.ofInt l1)), (2, .int (Int32.ofInt l2)), (3, .int (Int32.ofInt l3)), (4, .int (Int32.ofInt l4))] [] cs := by
  have key : ∀ (n : Nat) (τ : Tau) (cs : List va_E) (a0 pa0 : Nat) (l1 : Int) (l2 : Int) (l3 : Int) (l4 : Int) (hW : WT G B τ cs) (hX : Fx [5, 8] τ0 c0 τ cs) (ga0 : τ a0 = some (.inl (8, pa0))) (gl1 : rng l1) (gl2 : rng l2) (gl3 : rng l3) (gl4 : rng l4) (i0 : 0 ≤ l4) (i1 : iv 0 19 l3) (i2 : lo ≤ l3 + 1) , (8 - l4).toNat < n → Z (RX8, cX8_items, 5, none, false) G d Post 3 [(0, .ref (G.1 + a0)), (1, .int (Int32.ofInt l1)), (2, .int (Int32.ofInt l2)), (3, .int (Int32.ofInt l3)), (4, .int (Int32.ofInt l4))] [] cs := by
    intro n
    induction n with
    | zero => intro τ cs a0 pa0 l1 l2 l3 l4 hW hX ga0 gl1 gl2 gl3 gl4 i0 i1 i2 hm; exact absurd hm (Nat.not_lt_zero _)
    | succ n ih =>
      intro τ cs a0 pa0 l1 l2 l3 l4 hW hX ga0 gl1 gl2 gl3 gl4 i0 i1 i2 hm
      exact eX8_items_3 hD hE hd hW hX ga0 gl1 gl2 gl3 gl4 i0 i1 i2 hP  (fun hW hX ga0 gl1 gl2 gl3 gl4 i0 i1 i2 hm => ih _ _ _ _ _ _ _ _ hW hX ga0 gl1 gl2 gl3 gl4 i0 i1 i2 hm) hm
  exact key _ _ _ _ _ _ _ _ _ hW hX ga0 gl1 gl2 gl3 gl4 i0 i1 i2 (Nat.lt_succ_self _)
set_option maxRecDepth 100000 in
set_option maxHeartbeats 4000000 in
theorem kX8_items {G : xG} {B : Nat × Nat} {τ : Tau} {cs : List va_E} {a0 pa0 : Nat} {l1 : Int} {l2 : Int} {l3 : Int} {lo : Int} {D : Nat} (hD : 12 ≤ D) (hE : EC G B lo D) (d : Nat) (hd : D + 1 ≤ d) (hW : WT G B τ cs) (ga0 : τ a0 = some (.inl (8, pa0))) (gl1 : rng l1) (gl2 : rng l2) (gl3 : rng l3) (p0 : iv 0 19 l3) (p1 : lo ≤ l3 + 1) : X G yX8_items cX8_items 5 none d [.ref (G.1 + a0), .int (Int32.ofInt l1), .int (Int32.ofInt l2), .int (Int32.ofInt l3)] cs (wN G B τ cs [5, 8]) := by
  refine X.of false (by decide +kernel) (by decide) (Nat.le_of_ble_eq_true rfl) ?_
  show Z (RX8, cX8_items, 5, none, false) G d _ 0 [(0, .ref (G.1 + a0)), (1, .int (Int32.ofInt l1)), (2, .int (Int32.ofInt l2)), (3, .int (Int32.ofInt l3))] [] cs
  have hP : ∀ (τ1 : Tau) (c1 : List va_E), WT G B τ1 c1 → Fx [5, 8] τ cs τ1 c1 → wN G B τ cs [5, 8] none c1 := fun τ1 c1 h1 h2 => ⟨τ1, rfl, h1, h2⟩
  have hX : Fx [5, 8] τ cs τ cs := Fx.rf
  skip
  refine z_iconst (v := Int32.ofInt 0) dX8_items_0 rfl ?_
  refine z_istore dX8_items_1 (by decide) ?_
  refine z_loc (L' := [(0, .ref (G.1 + a0)), (1, .int (Int32.ofInt l1)), (2, .int (Int32.ofInt l2)), (3, .int (Int32.ofInt l3)), (4, .int (Int32.ofInt 0))]) (List.forall_mem_cons.mpr ⟨rfl, (List.forall_mem_cons.mpr ⟨rfl, (List.forall_mem_cons.mpr ⟨rfl, (List.forall_mem_cons.mpr ⟨rfl, (List.forall_mem_cons.mpr ⟨rfl, (fun _ h => nomatch h)⟩)⟩)⟩)⟩)⟩) ?_
  refine z_loc (L' := [(0, .ref (G.1 + a0)), (1, .int (Int32.ofInt l1)), (2, .int (Int32.ofInt l2)), (3, .int (Int32.ofInt l3)), (4, .int (Int32.ofInt 0))]) (List.forall_mem_cons.mpr ⟨rfl, (List.forall_mem_cons.mpr ⟨rfl, (List.forall_mem_cons.mpr ⟨rfl, (List.forall_mem_cons.mpr ⟨rfl, (List.forall_mem_cons.mpr ⟨rfl, (fun _ h => nomatch h)⟩)⟩)⟩)⟩)⟩) ?_
  exact bX8_items_3 hD hE hd hW hX ga0 gl1 gl2 gl3 (show rng 0 from ⟨by decide, by decide⟩) (by omega) (by omega) (by omega)  hP 

set_option maxRecDepth 100000 in
set_option maxHeartbeats 4000000 in
theorem bX8_content_180 {G : xG} {d : Nat} {Post : xP} {B : Nat × Nat} {τ0 τ : Tau} {c0 cs : List va_E} {a0 pa0 : Nat} {l6 : Int} {lo : Int} {D : Nat} (hD : 12 ≤ D) (hE : EC G B lo D) (hd : D + 2 ≤ d) (hW : WT G B τ cs) (hX : Fx [5, 8] τ0 c0 τ cs) (ga0 : τ a0 = some (.inl (8, pa0))) (gl6 : rng l6)   (hP : ∀ (τ1 : Tau) (c1 : List va_E), WT G B τ1 c1 → Fx [5, 8] τ0 c0 τ1 c1 → Post none c1)  : Z (RX8, cX8_content, 7, none, false) G d Post 180 [(0, .ref (G.1 + a0)), (6, .int (Int32.ofInt l6))] [] cs := by
  refine z_aload_n dX8_content_180 rfl rfl ?_
  refine z_iload dX8_content_181 rfl ?_
  have hX0 := kX8_endTag 5 (Nat.le_refl _) hW ga0 gl6 
  refine z_callV (As := [_]) eX8_endTag sX8_endTag lX8_95 rfl dX8_content_183 (hW.ob ga0 (by decide)).choose_spec hX0 (by omega) rfl (Nat.le_of_ble_eq_true rfl) (fun r cs hp => ?_)
  obtain ⟨τ, rfl, hW, k3⟩ := hp
  have hX := hX.tr k3 (by decide)
  have ga0 := k3.1.e ga0 (by decide)
  clear hX0
  refine z_st (st' := []) rfl ?_
  exact z_return dX8_content_186 rfl (hP _ _ hW hX)
set_option maxRecDepth 100000 in
set_option maxHeartbeats 4000000 in
theorem bX8_content_147 {G : xG} {d : Nat} {Post : xP} {B : Nat × Nat} {τ0 τ : Tau} {c0 cs : List va_E} {a0 pa0 : Nat} {l1 : Int} {l2 : Int} {l3 : Int} {l5 : Int} {l6 : Int} {lo : Int} {D : Nat} (hD : 12 ≤ D) (hE : EC G B lo D) (hd : D + 2 ≤ d) (hW : WT G B τ cs) (hX : Fx [5, 8] τ0 c0 τ cs) (ga0 : τ a0 = some (.inl (8, pa0))) (gl1 : rng l1) (gl2 : rng l2) (gl3 : rng l3) (gl5 : rng l5) (gl6 : rng l6) (i0 : iv 0 19 l3) (i1 : lo ≤ l3 + 1)  (hP : ∀ (τ1 : Tau) (c1 : List va_E), WT G B τ1 c1 → Fx [5, 8] τ0 c0 τ1 c1 → Post none c1)  : Z (RX8, cX8_content, 7, none, false) G d Post 147 [(0, .ref (G.1 + a0)), (1, .int (Int32.ofInt l1)), (2, .int (Int32.ofInt l2)), (3, .int (Int32.ofInt l3)), (5, .int (Int32.ofInt l5)), (6, .int (Int32.ofInt l6))] [] cs := by
  refine z_aload_n dX8_content_147 rfl rfl ?_
  refine tw_getO hW ga0 (by decide) (by decide) rfl kX8 fX8_46 dX8_content_148 (fun b1 pb1 gb1 => ?_)
  have gb1 : oT τ b1 5 := ⟨_, gb1⟩
  refine z_bipush (v := Int32.ofInt 62) dX8_content_151 (by decide) ?_
  have hX0 := kX5_put 1 (Nat.le_refl _) hW gb1 (show rng 62 from ⟨by decide, by decide⟩) 
  refine z_callV (As := [_]) eX5_put sX5_put lX8_89 rfl dX8_content_153 (hW.os gb1).choose_spec hX0 (by omega) rfl (Nat.le_of_ble_eq_true rfl) (fun r cs hp => ?_)
  obtain ⟨τ, r3, rfl, gr3, hW, k4, n2_0⟩ := hp
  have hX := hX.tr k4 (by decide)
  have ga0 := k4.1.e ga0 (by decide)
  clear hX0
  refine z_st (st' := [.int (Int32.ofInt r3)]) rfl ?_
  refine z_pop dX8_content_156 rfl ?_
  refine z_iload dX8_content_157 rfl ?_
  refine z_iconst (v := Int32.ofInt 4) dX8_content_159 rfl ?_
  refine i_icmp_ne (tgt := 173) dX8_content_160 (by decide) gl5 (show rng 4 from ⟨by decide, by decide⟩) (fun h5 => ?_) (fun h5 => ?_)
  · refine z_aload_n dX8_content_173 rfl rfl ?_
    refine z_iload_n dX8_content_174 rfl rfl ?_
    refine z_iload_n dX8_content_175 rfl rfl ?_
    refine z_iconst (v := Int32.ofInt 0) dX8_content_176 rfl ?_
    have hX0 := kX8_single 6 (Nat.le_refl _) hW ga0 gl1 gl2 (show rng 0 from ⟨by decide, by decide⟩) (by omega)
    refine z_callV (As := [_, _, _]) eX8_single sX8_single lX8_135 rfl dX8_content_177 (hW.ob ga0 (by decide)).choose_spec hX0 (by omega) rfl (Nat.le_of_ble_eq_true rfl) (fun r cs hp => ?_)
    obtain ⟨τ, rfl, hW, k8⟩ := hp
    have hX := hX.tr k8 (by decide)
    have ga0 := k8.1.e ga0 (by decide)
    clear hX0
    refine z_st (st' := []) rfl ?_
    refine z_loc (L' := [(0, .ref (G.1 + a0)), (6, .int (Int32.ofInt l6))]) (List.forall_mem_cons.mpr ⟨rfl, (List.forall_mem_cons.mpr ⟨rfl, (fun _ h => nomatch h)⟩)⟩) ?_
    exact bX8_content_180 hD hE hd hW hX ga0 gl6   hP 
  · refine z_aload_n dX8_content_163 rfl rfl ?_
    refine z_iload_n dX8_content_164 rfl rfl ?_
    refine z_iload_n dX8_content_165 rfl rfl ?_
    refine z_iload_n dX8_content_166 rfl rfl ?_
    have hX0 := kX8_items hD hE (D + 1) (Nat.le_refl _) hW ga0 gl1 gl2 gl3 (by omega) (by omega)
    refine z_callV (As := [_, _, _]) eX8_items sX8_items lX8_155 rfl dX8_content_167 (hW.ob ga0 (by decide)).choose_spec hX0 (by omega) rfl (Nat.le_of_ble_eq_true rfl) (fun r cs hp => ?_)
    obtain ⟨τ, rfl, hW, k11⟩ := hp
    have hX := hX.tr k11 (by decide)
    have ga0 := k11.1.e ga0 (by decide)
    clear hX0
    refine z_st (st' := []) rfl ?_
    refine z_goto (tgt := 180) dX8_content_170 (by decide) ?_
    refine z_loc (L' := [(0, .ref (G.1 + a0)), (6, .int (Int32.ofInt l6))]) (List.forall_mem_cons.mpr ⟨rfl, (List.forall_mem_cons.mpr ⟨rfl, (fun _ h => nomatch h)⟩)⟩) ?_
    exact bX8_content_180 hD hE hd hW hX ga0 gl6   hP 
set_option maxRecDepth 100000 in
set_option maxHeartbeats 4000000 in
theorem kX8_content {G : xG} {B : Nat × Nat} {τ : Tau} {cs : List va_E} {a0 pa0 : Nat} {l1 : Int} {l2 : Int} {l3 : Int} {lo : Int} {D : Nat} (hD : 12 ≤ D) (hE : EC G B lo D) (d : Nat) (hd : D + 2 ≤ d) (hW : WT G B τ cs) (ga0 : τ a0 = some (.inl (8, pa0))) (gl1 : rng l1) (gl2 : rng l2) (gl3 : rng l3) (p0 : iv 0 19 l3) (p1 : lo ≤ l3 + 1) : X G yX8_content cX8_content 7 none d [.ref (G.1 + a0), .int (Int32.ofInt l1), .int (Int32.ofInt l2), .int (Int32.ofInt l3)] cs (wN G B τ cs [5, 8]) := by
  refine X.of false (by decide +kernel) (by decide) (Nat.le_of_ble_eq_true rfl) ?_
  show Z (RX8, cX8_content, 7, none, false) G d _ 0 [(0, .ref (G.1 + a0)), (1, .int (Int32.ofInt l1)), (2, .int (Int32.ofInt l2)), (3, .int (Int32.ofInt l3))] [] cs
  have hP : ∀ (τ1 : Tau) (c1 : List va_E), WT G B τ1 c1 → Fx [5, 8] τ cs τ1 c1 → wN G B τ cs [5, 8] none c1 := fun τ1 c1 h1 h2 => ⟨τ1, rfl, h1, h2⟩
  have hX : Fx [5, 8] τ cs τ cs := Fx.rf
  skip
  refine z_aload_n dX8_content_0 rfl rfl ?_
  refine tw_getO hW ga0 (by decide) (by decide) rfl kX8 fX8_42 dX8_content_1 (fun b1 pb1 gb1 => ?_)
  refine z_iload_n dX8_content_4 rfl rfl ?_
  have hX0 := kX1_classOf 1 (Nat.le_refl _) hW gb1 gl1 
  refine z_callV (As := [_]) eX1_classOf sX1_classOf lX8_99 rfl dX8_content_5 (hW.ob gb1 (by decide)).choose_spec hX0 (by omega) rfl (Nat.le_of_ble_eq_true rfl) (fun r cs1 hp => ?_)
  obtain ⟨hcs, r3, rfl, gr3, _⟩ := hp
  obtain rfl := hcs.symm
  refine z_st (st' := [.int (Int32.ofInt r3)]) rfl ?_
  refine z_istore dX8_content_8 (by decide) ?_
  refine z_loc (L' := [(0, .ref (G.1 + a0)), (1, .int (Int32.ofInt l1)), (2, .int (Int32.ofInt l2)), (3, .int (Int32.ofInt l3)), (4, .int (Int32.ofInt r3))]) (List.forall_mem_cons.mpr ⟨rfl, (List.forall_mem_cons.mpr ⟨rfl, (List.forall_mem_cons.mpr ⟨rfl, (List.forall_mem_cons.mpr ⟨rfl, (List.forall_mem_cons.mpr ⟨rfl, (fun _ h => nomatch h)⟩)⟩)⟩)⟩)⟩) ?_
  refine z_aload_n dX8_content_10 rfl rfl ?_
  refine tw_getO hW ga0 (by decide) (by decide) rfl kX8 fX8_38 dX8_content_11 (fun b4 pb4 gb4 => ?_)
  refine z_iload dX8_content_14 rfl ?_
  refine z_iload_n dX8_content_16 rfl rfl ?_
  have hX0 := kX4_shape 1 (Nat.le_refl _) hW gb4 gr3 gl2 
  refine z_callV (As := [_, _]) eX4_shape sX4_shape lX8_103 rfl dX8_content_17 (hW.ob gb4 (by decide)).choose_spec hX0 (by omega) rfl (Nat.le_of_ble_eq_true rfl) (fun r cs1 hp => ?_)
  obtain ⟨hcs, r6, rfl, gr6, _⟩ := hp
  obtain rfl := hcs.symm
  refine z_st (st' := [.int (Int32.ofInt r6)]) rfl ?_
  refine z_istore dX8_content_20 (by decide) ?_
  refine z_loc (L' := [(0, .ref (G.1 + a0)), (1, .int (Int32.ofInt l1)), (2, .int (Int32.ofInt l2)), (3, .int (Int32.ofInt l3)), (4, .int (Int32.ofInt r3)), (5, .int (Int32.ofInt r6))]) (List.forall_mem_cons.mpr ⟨rfl, (List.forall_mem_cons.mpr ⟨rfl, (List.forall_mem_cons.mpr ⟨rfl, (List.forall_mem_cons.mpr ⟨rfl, (List.forall_mem_cons.mpr ⟨rfl, (List.forall_mem_cons.mpr ⟨rfl, (fun _ h => nomatch h)⟩)⟩)⟩)⟩)⟩)⟩) ?_
  refine z_iload dX8_content_22 rfl ?_
  refine i_if_eq (tgt := 40) dX8_content_24 (by decide) gr6 (fun h7 => ?_) (fun h7 => ?_)
  · exact z_return dX8_content_40 rfl (hP _ _ hW hX)
  · refine z_aload_n dX8_content_27 rfl rfl ?_
    refine tw_getO hW ga0 (by decide) (by decide) rfl kX8 fX8_38 dX8_content_28 (fun b8 pb8 gb8 => ?_)
    refine z_iload dX8_content_31 rfl ?_
    refine z_iload_n dX8_content_33 rfl rfl ?_
    have hX0 := kX4_isAttribute 1 (Nat.le_refl _) hW gb8 gr3 gl2 
    refine z_callV (As := [_, _]) eX4_isAttribute sX4_isAttribute lX8_129 rfl dX8_content_34 (hW.ob gb8 (by decide)).choose_spec hX0 (by omega) rfl (Nat.le_of_ble_eq_true rfl) (fun r cs1 hp => ?_)
    obtain ⟨hcs, r10, rfl, gr10, n9_0⟩ := hp
    obtain rfl := hcs.symm
    refine z_st (st' := [.int (Int32.ofInt r10)]) rfl ?_
    refine i_if_eq (tgt := 41) dX8_content_37 (by decide) gr10 (fun h11 => ?_) (fun h11 => ?_)
    · refine z_iload dX8_content_41 rfl ?_
      refine z_iconst (v := Int32.ofInt 3) dX8_content_43 rfl ?_
      refine i_icmp_ne (tgt := 67) dX8_content_44 (by decide) gr6 (show rng 3 from ⟨by decide, by decide⟩) (fun h12 => ?_) (fun h12 => ?_)
      · refine z_aload_n dX8_content_67 rfl rfl ?_
        refine tw_getO hW ga0 (by decide) (by decide) rfl kX8 fX8_38 dX8_content_68 (fun b13 pb13 gb13 => ?_)
        refine z_iload dX8_content_71 rfl ?_
        have hX0 := kX4_implicit 1 (Nat.le_refl _) hW gb13 gr3 
        refine z_callV (As := [_]) eX4_implicit sX4_implicit lX8_148 rfl dX8_content_73 (hW.ob gb13 (by decide)).choose_spec hX0 (by omega) rfl (Nat.le_of_ble_eq_true rfl) (fun r cs1 hp => ?_)
        obtain ⟨hcs, r15, rfl, gr15, _⟩ := hp
        obtain rfl := hcs.symm
        refine z_st (st' := [.int (Int32.ofInt r15)]) rfl ?_
        refine z_iload_n dX8_content_76 rfl rfl ?_
        refine i_icmp_ne (tgt := 88) dX8_content_77 (by decide) gr15 gl2 (fun h16 => ?_) (fun h16 => ?_)
        · refine z_iload dX8_content_88 rfl ?_
          refine z_iload_n dX8_content_90 rfl rfl ?_
          have hX0 := kX4_fieldName 0 (Nat.le_refl _) hW gr3 gl2 
          refine z_callS (As := [_, _]) eX4_fieldName sX4_fieldName lX8_109 dX8_content_91 hX0 (by omega) rfl (Nat.le_of_ble_eq_true rfl) (fun r cs1 hp => ?_)
          obtain ⟨hcs, r18, rfl, gr18, n17_0⟩ := hp
          obtain rfl := hcs.symm
          refine z_st (st' := [.int (Int32.ofInt r18)]) rfl ?_
          refine z_istore dX8_content_94 (by decide) ?_
          refine z_loc (L' := [(0, .ref (G.1 + a0)), (1, .int (Int32.ofInt l1)), (2, .int (Int32.ofInt l2)), (3, .int (Int32.ofInt l3)), (4, .int (Int32.ofInt r3)), (5, .int (Int32.ofInt r6)), (6, .int (Int32.ofInt r18))]) (List.forall_mem_cons.mpr ⟨rfl, (List.forall_mem_cons.mpr ⟨rfl, (List.forall_mem_cons.mpr ⟨rfl, (List.forall_mem_cons.mpr ⟨rfl, (List.forall_mem_cons.mpr ⟨rfl, (List.forall_mem_cons.mpr ⟨rfl, (List.forall_mem_cons.mpr ⟨rfl, (fun _ h => nomatch h)⟩)⟩)⟩)⟩)⟩)⟩)⟩) ?_
          refine z_aload_n dX8_content_96 rfl rfl ?_
          refine tw_getO hW ga0 (by decide) (by decide) rfl kX8 fX8_46 dX8_content_97 (fun b19 pb19 gb19 => ?_)
          have gb19 : oT τ b19 5 := ⟨_, gb19⟩
          refine z_bipush (v := Int32.ofInt 60) dX8_content_100 (by decide) ?_
          have hX0 := kX5_put 1 (Nat.le_refl _) hW gb19 (show rng 60 from ⟨by decide, by decide⟩) 
          refine z_callV (As := [_]) eX5_put sX5_put lX8_89 rfl dX8_content_102 (hW.os gb19).choose_spec hX0 (by omega) rfl (Nat.le_of_ble_eq_true rfl) (fun r cs hp => ?_)
          obtain ⟨τ, r21, rfl, gr21, hW, k22, n20_0⟩ := hp
          have hX := hX.tr k22 (by decide)
          have ga0 := k22.1.e ga0 (by decide)
          clear hX0
          refine z_st (st' := [.int (Int32.ofInt r21)]) rfl ?_
          refine z_pop dX8_content_105 rfl ?_
          refine z_aload_n dX8_content_106 rfl rfl ?_
          refine tw_getO hW ga0 (by decide) (by decide) rfl kX8 fX8_38 dX8_content_107 (fun b23 pb23 gb23 => ?_)
          refine z_aload_n dX8_content_110 rfl rfl ?_
          refine tw_getO hW ga0 (by decide) (by decide) rfl kX8 fX8_46 dX8_content_111 (fun b24 pb24 gb24 => ?_)
          have gb24 : oT τ b24 5 := ⟨_, gb24⟩
          refine z_iload dX8_content_114 rfl ?_
          have hX0 := kX4_spellTo 2 (Nat.le_refl _) hW gb23 gb24 gr18 
          refine z_callV (As := [_, _]) eX4_spellTo sX4_spellTo lX8_112 rfl dX8_content_116 (hW.ob gb23 (by decide)).choose_spec hX0 (by omega) rfl (Nat.le_of_ble_eq_true rfl) (fun r cs hp => ?_)
          obtain ⟨τ, rfl, hW, k27⟩ := hp
          have hX := hX.tr k27 (by decide)
          have ga0 := k27.1.e ga0 (by decide)
          clear hX0
          refine z_st (st' := []) rfl ?_
          refine z_iload dX8_content_119 rfl ?_
          refine z_iconst (v := Int32.ofInt 1) dX8_content_121 rfl ?_
          refine i_icmp_eq (tgt := 147) dX8_content_122 (by decide) gr6 (show rng 1 from ⟨by decide, by decide⟩) (fun h28 => ?_) (fun h28 => ?_)
          · refine z_loc (L' := [(0, .ref (G.1 + a0)), (1, .int (Int32.ofInt l1)), (2, .int (Int32.ofInt l2)), (3, .int (Int32.ofInt l3)), (5, .int (Int32.ofInt r6)), (6, .int (Int32.ofInt r18))]) (List.forall_mem_cons.mpr ⟨rfl, (List.forall_mem_cons.mpr ⟨rfl, (List.forall_mem_cons.mpr ⟨rfl, (List.forall_mem_cons.mpr ⟨rfl, (List.forall_mem_cons.mpr ⟨rfl, (List.forall_mem_cons.mpr ⟨rfl, (fun _ h => nomatch h)⟩)⟩)⟩)⟩)⟩)⟩) ?_
            exact bX8_content_147 hD hE hd hW hX ga0 gl1 gl2 gl3 gr6 gr18 (by omega) (by omega)  hP 
          · refine z_aload_n dX8_content_125 rfl rfl ?_
            refine tw_getO hW ga0 (by decide) (by decide) rfl kX8 fX8_42 dX8_content_126 (fun b29 pb29 gb29 => ?_)
            refine z_iload_n dX8_content_129 rfl rfl ?_
            refine z_iload_n dX8_content_130 rfl rfl ?_
            have hX0 := kX1_head 1 (Nat.le_refl _) hW gb29 gl1 gl2 
            refine z_callV (As := [_, _]) eX1_head sX1_head lX8_145 rfl dX8_content_131 (hW.ob gb29 (by decide)).choose_spec hX0 (by omega) rfl (Nat.le_of_ble_eq_true rfl) (fun r cs1 hp => ?_)
            obtain ⟨hcs, r31, rfl, gr31, _⟩ := hp
            obtain rfl := hcs.symm
            refine z_st (st' := [.int (Int32.ofInt r31)]) rfl ?_
            refine i_if_ne (tgt := 147) dX8_content_134 (by decide) gr31 (fun h32 => ?_) (fun h32 => ?_)
            · refine z_loc (L' := [(0, .ref (G.1 + a0)), (1, .int (Int32.ofInt l1)), (2, .int (Int32.ofInt l2)), (3, .int (Int32.ofInt l3)), (5, .int (Int32.ofInt r6)), (6, .int (Int32.ofInt r18))]) (List.forall_mem_cons.mpr ⟨rfl, (List.forall_mem_cons.mpr ⟨rfl, (List.forall_mem_cons.mpr ⟨rfl, (List.forall_mem_cons.mpr ⟨rfl, (List.forall_mem_cons.mpr ⟨rfl, (List.forall_mem_cons.mpr ⟨rfl, (fun _ h => nomatch h)⟩)⟩)⟩)⟩)⟩)⟩) ?_
              exact bX8_content_147 hD hE hd hW hX ga0 gl1 gl2 gl3 gr6 gr18 (by omega) (by omega)  hP 
            · refine z_aload_n dX8_content_137 rfl rfl ?_
              refine tw_getO hW ga0 (by decide) (by decide) rfl kX8 fX8_46 dX8_content_138 (fun b33 pb33 gb33 => ?_)
              have gb33 : oT τ b33 5 := ⟨_, gb33⟩
              refine z_ldcS (i := 13) (tx := "/>") (by decide +kernel) dX8_content_141 ?_
              have hX0 := kX5_spell 4 (Nat.le_refl _) hW gb33 (show 13 < xN by decide) 
              refine z_callV (As := [_]) eX5_spell sX5_spell lX8_85 rfl dX8_content_143 (hW.os gb33).choose_spec hX0 (by omega) rfl (Nat.le_of_ble_eq_true rfl) (fun r cs hp => ?_)
              obtain ⟨τ, rfl, hW, k36⟩ := hp
              have hX := hX.tr k36 (by decide)
              have ga0 := k36.1.e ga0 (by decide)
              clear hX0
              refine z_st (st' := []) rfl ?_
              exact z_return dX8_content_146 rfl (hP _ _ hW hX)
        · refine z_aload_n dX8_content_80 rfl rfl ?_
          refine z_iload_n dX8_content_81 rfl rfl ?_
          refine z_iload_n dX8_content_82 rfl rfl ?_
          refine z_iload_n dX8_content_83 rfl rfl ?_
          have hX0 := kX8_items hD hE (D + 1) (Nat.le_refl _) hW ga0 gl1 gl2 gl3 (by omega) (by omega)
          refine z_callV (As := [_, _, _]) eX8_items sX8_items lX8_155 rfl dX8_content_84 (hW.ob ga0 (by decide)).choose_spec hX0 (by omega) rfl (Nat.le_of_ble_eq_true rfl) (fun r cs hp => ?_)
          obtain ⟨τ, rfl, hW, k39⟩ := hp
          have hX := hX.tr k39 (by decide)
          have ga0 := k39.1.e ga0 (by decide)
          clear hX0
          refine z_st (st' := []) rfl ?_
          exact z_return dX8_content_87 rfl (hP _ _ hW hX)
      · refine z_aload_n dX8_content_47 rfl rfl ?_
        refine z_aload_n dX8_content_48 rfl rfl ?_
        refine tw_getO hW ga0 (by decide) (by decide) rfl kX8 fX8_42 dX8_content_49 (fun b40 pb40 gb40 => ?_)
        refine z_iload_n dX8_content_52 rfl rfl ?_
        refine z_iload_n dX8_content_53 rfl rfl ?_
        have hX0 := kX1_head 1 (Nat.le_refl _) hW gb40 gl1 gl2 
        refine z_callV (As := [_, _]) eX1_head sX1_head lX8_145 rfl dX8_content_54 (hW.ob gb40 (by decide)).choose_spec hX0 (by omega) rfl (Nat.le_of_ble_eq_true rfl) (fun r cs1 hp => ?_)
        obtain ⟨hcs, r42, rfl, gr42, _⟩ := hp
        obtain rfl := hcs.symm
        refine z_st (st' := [.int (Int32.ofInt r42), .ref (G.1 + a0)]) rfl ?_
        refine z_iload_n dX8_content_57 rfl rfl ?_
        refine z_iload_n dX8_content_58 rfl rfl ?_
        refine z_iconst (v := Int32.ofInt 0) dX8_content_59 rfl ?_
        refine z_iload_n dX8_content_60 rfl rfl ?_
        refine z_iconst (v := Int32.ofInt 1) dX8_content_61 rfl ?_
        refine tw_iadd dX8_content_62 (fun z43 gz43 ez43 => ?_)
        first | have ez43 := ez43 ⟨by omega, by omega⟩ | clear ez43
        have hX0 := hE D (Nat.le_refl _) hW ga0 gr42 gl1 gl2 (show rng 0 from ⟨by decide, by decide⟩) gz43 (by omega) (by omega) (by omega)
        refine z_callV (As := [_, _, _, _, _]) eX8_element sX8_element lX8_151 rfl dX8_content_63 (hW.ob ga0 (by decide)).choose_spec hX0 (by omega) rfl (Nat.le_of_ble_eq_true rfl) (fun r cs hp => ?_)
        obtain ⟨τ, rfl, hW, k46⟩ := hp
        have hX := hX.tr k46 (by decide)
        have ga0 := k46.1.e ga0 (by decide)
        clear hX0
        refine z_st (st' := []) rfl ?_
        exact z_return dX8_content_66 rfl (hP _ _ hW hX)
    · exact z_return dX8_content_40 rfl (hP _ _ hW hX)

set_option maxRecDepth 100000 in
set_option maxHeartbeats 4000000 in
theorem eX8_element_158 {G : xG} {d : Nat} {Post : xP} {B : Nat × Nat} {τ0 τ : Tau} {c0 cs : List va_E} {a0 pa0 : Nat} {l1 : Int} {l5 : Int} {l6 : Int} {l7 : Int} {n158 : Nat} {lo : Int} {D : Nat} (hD : 12 ≤ D) (hC : CC G B lo D) (hd : D + 1 ≤ d) (hW : WT G B τ cs) (hX : Fx [5, 8] τ0 c0 τ cs) (ga0 : τ a0 = some (.inl (8, pa0))) (gl1 : rng l1) (gl5 : rng l5) (gl6 : rng l6) (gl7 : rng l7) (i0 : l5 ≤ 19) (i1 : iv 0 20 l5) (i2 : lo ≤ l5)  (hP : ∀ (τ1 : Tau) (c1 : List va_E), WT G B τ1 c1 → Fx [5, 8] τ0 c0 τ1 c1 → Post none c1)  (ih_158 : ∀ {τ : Tau} {cs : List va_E} {a0 pa0 : Nat} {l1 : Int} {l5 : Int} {l6 : Int} {l7 : Int} (hW : WT G B τ cs) (hX : Fx [5, 8] τ0 c0 τ cs) (ga0 : τ a0 = some (.inl (8, pa0))) (gl1 : rng l1) (gl5 : rng l5) (gl6 : rng l6) (gl7 : rng l7) (i0 : l5 ≤ 19) (i1 : iv 0 20 l5) (i2 : lo ≤ l5) , (4 - l7).toNat < n158 → Z (RX8, cX8_element, 8, none, false) G d Post 158 [(0, .ref (G.1 + a0)), (1, .int (Int32.ofInt l1)), (5, .int (Int32.ofInt l5)), (6, .int (Int32.ofInt l6)), (7, .int (Int32.ofInt l7))] [] cs) (hm_158 : (4 - l7).toNat < n158 + 1) : Z (RX8, cX8_element, 8, none, false) G d Post 158 [(0, .ref (G.1 + a0)), (1, .int (Int32.ofInt l1)), (5, .int (Int32.ofInt l5)), (6, .int (Int32.ofInt l6)), (7, .int (Int32.ofInt l7))] [] cs := by
  refine z_iload dX8_element_158 rfl ?_
  refine z_iconst (v := Int32.ofInt 4) dX8_element_160 rfl ?_
  refine i_icmp_ge (tgt := 179) dX8_element_161 (by decide) gl7 (show rng 4 from ⟨by decide, by decide⟩) (fun h1 => ?_) (fun h1 => ?_)
  · refine z_aload_n dX8_element_179 rfl rfl ?_
    refine z_iload dX8_element_180 rfl ?_
    have hX0 := kX8_endTag 5 (Nat.le_refl _) hW ga0 gl6 
    refine z_callV (As := [_]) eX8_endTag sX8_endTag lX8_95 rfl dX8_element_182 (hW.ob ga0 (by decide)).choose_spec hX0 (by omega) rfl (Nat.le_of_ble_eq_true rfl) (fun r cs hp => ?_)
    obtain ⟨τ, rfl, hW, k4⟩ := hp
    have hX := hX.tr k4 (by decide)
    have ga0 := k4.1.e ga0 (by decide)
    clear hX0
    refine z_st (st' := []) rfl ?_
    exact z_return dX8_element_185 rfl (hP _ _ hW hX)
  · refine z_aload_n dX8_element_164 rfl rfl ?_
    refine z_iload_n dX8_element_165 rfl rfl ?_
    refine z_iload dX8_element_166 rfl ?_
    refine z_iload dX8_element_168 rfl ?_
    have hX0 := hC D (Nat.le_refl _) hW ga0 gl1 gl7 gl5 (by omega) (by omega)
    refine z_callV (As := [_, _, _]) eX8_content sX8_content lX8_92 rfl dX8_element_170 (hW.ob ga0 (by decide)).choose_spec hX0 (by omega) rfl (Nat.le_of_ble_eq_true rfl) (fun r cs hp => ?_)
    obtain ⟨τ, rfl, hW, k7⟩ := hp
    have hX := hX.tr k7 (by decide)
    have ga0 := k7.1.e ga0 (by decide)
    clear hX0
    refine z_st (st' := []) rfl ?_
    refine tw_iinc (l := l7) dX8_element_173 rfl (by decide) (fun z8 gz8 ez8 => ?_)
    first | have ez8 := ez8 ⟨by omega, by omega⟩ | clear ez8
    refine z_loc (L' := [(0, .ref (G.1 + a0)), (1, .int (Int32.ofInt l1)), (5, .int (Int32.ofInt l5)), (6, .int (Int32.ofInt l6)), (7, .int (Int32.ofInt z8))]) (List.forall_mem_cons.mpr ⟨rfl, (List.forall_mem_cons.mpr ⟨rfl, (List.forall_mem_cons.mpr ⟨rfl, (List.forall_mem_cons.mpr ⟨rfl, (List.forall_mem_cons.mpr ⟨rfl, (fun _ h => nomatch h)⟩)⟩)⟩)⟩)⟩) ?_
    refine z_goto (tgt := 158) dX8_element_176 (by decide) ?_
    refine z_loc (L' := [(0, .ref (G.1 + a0)), (1, .int (Int32.ofInt l1)), (5, .int (Int32.ofInt l5)), (6, .int (Int32.ofInt l6)), (7, .int (Int32.ofInt z8))]) (List.forall_mem_cons.mpr ⟨rfl, (List.forall_mem_cons.mpr ⟨rfl, (List.forall_mem_cons.mpr ⟨rfl, (List.forall_mem_cons.mpr ⟨rfl, (List.forall_mem_cons.mpr ⟨rfl, (fun _ h => nomatch h)⟩)⟩)⟩)⟩)⟩) ?_
    exact ih_158 hW hX ga0 gl1 gl5 gl6 gz8 (by omega) (by omega) (by omega)  (by omega)
set_option maxRecDepth 100000 in
set_option maxHeartbeats 4000000 in
theorem bX8_element_158 {G : xG} {d : Nat} {Post : xP} {B : Nat × Nat} {τ0 τ : Tau} {c0 cs : List va_E} {a0 pa0 : Nat} {l1 : Int} {l5 : Int} {l6 : Int} {l7 : Int} {lo : Int} {D : Nat} (hD : 12 ≤ D) (hC : CC G B lo D) (hd : D + 1 ≤ d) (hW : WT G B τ cs) (hX : Fx [5, 8] τ0 c0 τ cs) (ga0 : τ a0 = some (.inl (8, pa0))) (gl1 : rng l1) (gl5 : rng l5) (gl6 : rng l6) (gl7 : rng l7) (i0 : l5 ≤ 19) (i1 : iv 0 20 l5) (i2 : lo ≤ l5)  (hP : ∀ (τ1 : Tau) (c1 : List va_E), WT G B τ1 c1 → Fx [5, 8] τ0 c0 τ1 c1 → Post none c1)  : Z (RX8, cX8_element, 8, none, false) G d Post 158 [(0, .ref (G.1 + a0)), (1, .int (Int32.ofInt l1)), (5, .int (Int32.ofInt l5)), (6, .int (Int32.ofInt l6)), (7, .int (Int32.ofInt l7))] [] cs := by
  have key : ∀ (n : Nat) (τ : Tau) (cs : List va_E) (a0 pa0 : Nat) (l1 : Int) (l5 : Int) (l6 : Int) (l7 : Int) (hW : WT G B τ cs) (hX : Fx [5, 8] τ0 c0 τ cs) (ga0 : τ a0 = some (.inl (8, pa0))) (gl1 : rng l1) (gl5 : rng l5) (gl6 : rng l6) (gl7 : rng l7) (i0 : l5 ≤ 19) (i1 : iv 0 20 l5) (i2 : lo ≤ l5) , (4 - l7).toNat < n → Z (RX8, cX8_element, 8, none, false) G d Post 158 [(0, .ref (G.1 + a0)), (1, .int (Int32.ofInt l1)), (5, .int (Int32.ofInt l5)), (6, .int (Int32.ofInt l6)), (7, .int (Int32.ofInt l7))] [] cs := by
    intro n
    induction n with
    | zero => intro τ cs a0 pa0 l1 l5 l6 l7 hW hX ga0 gl1 gl5 gl6 gl7 i0 i1 i2 hm; exact absurd hm (Nat.not_lt_zero _)
    | succ n ih =>
      intro τ cs a0 pa0 l1 l5 l6 l7 hW hX ga0 gl1 gl5 gl6 gl7 i0 i1 i2 hm
      exact eX8_element_158 hD hC hd hW hX ga0 gl1 gl5 gl6 gl7 i0 i1 i2 hP  (fun hW hX ga0 gl1 gl5 gl6 gl7 i0 i1 i2 hm => ih _ _ _ _ _ _ _ _ hW hX ga0 gl1 gl5 gl6 gl7 i0 i1 i2 hm) hm
  exact key _ _ _ _ _ _ _ _ _ hW hX ga0 gl1 gl5 gl6 gl7 i0 i1 i2 (Nat.lt_succ_self _)
set_option maxRecDepth 100000 in
set_option maxHeartbeats 4000000 in
theorem bX8_element_54 {G : xG} {d : Nat} {Post : xP} {B : Nat × Nat} {τ0 τ : Tau} {c0 cs : List va_E} {a0 pa0 : Nat} {l1 : Int} {l2 : Int} {l3 : Int} {l4 : Int} {l5 : Int} {lo : Int} {D : Nat} (hD : 12 ≤ D) (hC : CC G B lo D) (hd : D + 1 ≤ d) (hW : WT G B τ cs) (hX : Fx [5, 8] τ0 c0 τ cs) (ga0 : τ a0 = some (.inl (8, pa0))) (gl1 : rng l1) (gl2 : rng l2) (gl3 : rng l3) (gl4 : rng l4) (gl5 : rng l5) (i0 : iv 0 29 l1) (i1 : iv 0 7 l4) (i2 : iv 0 20 l5) (i3 : lo ≤ l5)  (hP : ∀ (τ1 : Tau) (c1 : List va_E), WT G B τ1 c1 → Fx [5, 8] τ0 c0 τ1 c1 → Post none c1)  : Z (RX8, cX8_element, 8, none, false) G d Post 54 [(0, .ref (G.1 + a0)), (1, .int (Int32.ofInt l1)), (2, .int (Int32.ofInt l2)), (3, .int (Int32.ofInt l3)), (4, .int (Int32.ofInt l4)), (5, .int (Int32.ofInt l5))] [] cs := by
  refine z_iload dX8_element_54 rfl ?_
  refine z_aload_n dX8_element_56 rfl rfl ?_
  refine tw_getI hW ga0 (by decide) (by decide) rfl kX8 fX8_53 dX8_element_57 (fun x1 _ vx1 gx1 => ?_)
  refine i_icmp_lt (tgt := 69) dX8_element_60 (by decide) gl5 gx1 (fun h2 => ?_) (fun h2 => ?_)
  · refine z_aload_n dX8_element_69 rfl rfl ?_
    refine z_dup dX8_element_70 rfl ?_
    refine tw_getI hW ga0 (by decide) (by decide) rfl kX8 fX8_30 dX8_element_71 (fun x3 _ vx3 gx3 => ?_)
    refine z_iconst (v := Int32.ofInt 1) dX8_element_74 rfl ?_
    refine tw_iadd dX8_element_75 (fun z4 gz4 ez4 => ?_)
    first | have ez4 := ez4 ⟨by omega, by omega⟩ | clear ez4
    refine tw_putI hW hX ga0 (by decide) (by decide) rfl kX8 fX8_30 dX8_element_76 rfl rfl rfl (any_ok _) (by decide) (fun c1 q _ _ => nT hW ga0 (by decide) c1 q) (fun cs hW hX _ _ _ => ?_)
    refine z_aload_n dX8_element_79 rfl rfl ?_
    refine tw_getA hW ga0 (by decide) (by decide) rfl kX8 fX8_9 dX8_element_80 (fun b6 _ gb6 => ?_)
    refine z_iload_n dX8_element_83 rfl rfl ?_
    refine z_aload_n dX8_element_84 rfl rfl ?_
    refine tw_getI hW ga0 (by decide) (by decide) rfl kX8 fX8_30 dX8_element_85 (fun x7 _ vx7 gx7 => ?_)
    refine tw_iast hW hX gb6 (by omega) (by omega) (any_ok _) (Or.inl rfl) dX8_element_88 (fun c1 q _ => nA hW gb6 (show (2147483647 : Int) ≠ 600 by decide) (show (2147483647 : Int) ≠ 601 by decide) c1 q) (fun cs hW hX _ _ => ?_)
    refine z_aload_n dX8_element_89 rfl rfl ?_
    refine tw_getA hW ga0 (by decide) (by decide) rfl kX8 fX8_15 dX8_element_90 (fun b8 _ gb8 => ?_)
    refine z_iload_n dX8_element_93 rfl rfl ?_
    refine z_iload_n dX8_element_94 rfl rfl ?_
    refine tw_iast hW hX gb8 (by omega) (by omega) (any_ok _) (Or.inl rfl) dX8_element_95 (fun c1 q _ => nA hW gb8 (show (2147483647 : Int) ≠ 600 by decide) (show (2147483647 : Int) ≠ 601 by decide) c1 q) (fun cs hW hX _ _ => ?_)
    refine z_aload_n dX8_element_96 rfl rfl ?_
    refine tw_getA hW ga0 (by decide) (by decide) rfl kX8 fX8_18 dX8_element_97 (fun b9 _ gb9 => ?_)
    refine z_iload_n dX8_element_100 rfl rfl ?_
    refine z_iload_n dX8_element_101 rfl rfl ?_
    refine tw_iast hW hX gb9 (by omega) (by omega) (any_ok _) (Or.inl rfl) dX8_element_102 (fun c1 q _ => nA hW gb9 (show (2147483647 : Int) ≠ 600 by decide) (show (2147483647 : Int) ≠ 601 by decide) c1 q) (fun cs hW hX _ _ => ?_)
    refine z_aload_n dX8_element_103 rfl rfl ?_
    refine tw_getA hW ga0 (by decide) (by decide) rfl kX8 fX8_21 dX8_element_104 (fun b10 _ gb10 => ?_)
    refine z_iload_n dX8_element_107 rfl rfl ?_
    refine z_iload dX8_element_108 rfl ?_
    refine tw_iast hW hX gb10 (by omega) (by omega) (iv_ok (by omega) (by decide) (by decide)) (Or.inl rfl) dX8_element_110 (fun c1 q _ => nA hW gb10 (show (7 : Int) ≠ 600 by decide) (show (7 : Int) ≠ 601 by decide) c1 q) (fun cs hW hX _ _ => ?_)
    refine z_aload_n dX8_element_111 rfl rfl ?_
    refine z_iload_n dX8_element_112 rfl rfl ?_
    refine z_iload_n dX8_element_113 rfl rfl ?_
    refine z_iload_n dX8_element_114 rfl rfl ?_
    have hX0 := kX8_nameOf 2 (Nat.le_refl _) hW ga0 gl1 gl2 gl3 
    refine z_callV (As := [_, _, _]) eX8_nameOf sX8_nameOf lX8_72 rfl dX8_element_115 (hW.ob ga0 (by decide)).choose_spec hX0 (by omega) rfl (Nat.le_of_ble_eq_true rfl) (fun r cs1 hp => ?_)
    obtain ⟨hcs, r12, rfl, gr12, _⟩ := hp
    obtain rfl := hcs.symm
    refine z_st (st' := [.int (Int32.ofInt r12)]) rfl ?_
    refine z_istore dX8_element_118 (by decide) ?_
    refine z_loc (L' := [(0, .ref (G.1 + a0)), (1, .int (Int32.ofInt l1)), (2, .int (Int32.ofInt l2)), (3, .int (Int32.ofInt l3)), (4, .int (Int32.ofInt l4)), (5, .int (Int32.ofInt l5)), (6, .int (Int32.ofInt r12))]) (List.forall_mem_cons.mpr ⟨rfl, (List.forall_mem_cons.mpr ⟨rfl, (List.forall_mem_cons.mpr ⟨rfl, (List.forall_mem_cons.mpr ⟨rfl, (List.forall_mem_cons.mpr ⟨rfl, (List.forall_mem_cons.mpr ⟨rfl, (List.forall_mem_cons.mpr ⟨rfl, (fun _ h => nomatch h)⟩)⟩)⟩)⟩)⟩)⟩)⟩) ?_
    refine z_aload_n dX8_element_120 rfl rfl ?_
    refine z_iload_n dX8_element_121 rfl rfl ?_
    refine z_iload dX8_element_122 rfl ?_
    have hX0 := kX8_startTag 7 (Nat.le_refl _) hW ga0 gl1 gr12 (by omega)
    refine z_callV (As := [_, _]) eX8_startTag sX8_startTag lX8_76 rfl dX8_element_124 (hW.ob ga0 (by decide)).choose_spec hX0 (by omega) rfl (Nat.le_of_ble_eq_true rfl) (fun r cs hp => ?_)
    obtain ⟨τ, rfl, hW, k15⟩ := hp
    have hX := hX.tr k15 (by decide)
    have ga0 := k15.1.e ga0 (by decide)
    clear hX0
    refine z_st (st' := []) rfl ?_
    refine z_aload_n dX8_element_127 rfl rfl ?_
    refine z_iload_n dX8_element_128 rfl rfl ?_
    have hX0 := kX8_hasContent 3 (Nat.le_refl _) hW ga0 gl1 
    refine z_callV (As := [_]) eX8_hasContent sX8_hasContent lX8_80 rfl dX8_element_129 (hW.ob ga0 (by decide)).choose_spec hX0 (by omega) rfl (Nat.le_of_ble_eq_true rfl) (fun r cs1 hp => ?_)
    obtain ⟨hcs, r17, rfl, gr17, n16_0⟩ := hp
    obtain rfl := hcs.symm
    refine z_st (st' := [.int (Int32.ofInt r17)]) rfl ?_
    refine i_if_ne (tgt := 145) dX8_element_132 (by decide) gr17 (fun h18 => ?_) (fun h18 => ?_)
    · refine z_aload_n dX8_element_145 rfl rfl ?_
      refine tw_getO hW ga0 (by decide) (by decide) rfl kX8 fX8_46 dX8_element_146 (fun b19 pb19 gb19 => ?_)
      have gb19 : oT τ b19 5 := ⟨_, gb19⟩
      refine z_bipush (v := Int32.ofInt 62) dX8_element_149 (by decide) ?_
      have hX0 := kX5_put 1 (Nat.le_refl _) hW gb19 (show rng 62 from ⟨by decide, by decide⟩) 
      refine z_callV (As := [_]) eX5_put sX5_put lX8_89 rfl dX8_element_151 (hW.os gb19).choose_spec hX0 (by omega) rfl (Nat.le_of_ble_eq_true rfl) (fun r cs hp => ?_)
      obtain ⟨τ, r21, rfl, gr21, hW, k22, n20_0⟩ := hp
      have hX := hX.tr k22 (by decide)
      have ga0 := k22.1.e ga0 (by decide)
      clear hX0
      refine z_st (st' := [.int (Int32.ofInt r21)]) rfl ?_
      refine z_pop dX8_element_154 rfl ?_
      refine z_iconst (v := Int32.ofInt 0) dX8_element_155 rfl ?_
      refine z_istore dX8_element_156 (by decide) ?_
      refine z_loc (L' := [(0, .ref (G.1 + a0)), (1, .int (Int32.ofInt l1)), (2, .int (Int32.ofInt l2)), (3, .int (Int32.ofInt l3)), (4, .int (Int32.ofInt l4)), (5, .int (Int32.ofInt l5)), (6, .int (Int32.ofInt r12)), (7, .int (Int32.ofInt 0))]) (List.forall_mem_cons.mpr ⟨rfl, (List.forall_mem_cons.mpr ⟨rfl, (List.forall_mem_cons.mpr ⟨rfl, (List.forall_mem_cons.mpr ⟨rfl, (List.forall_mem_cons.mpr ⟨rfl, (List.forall_mem_cons.mpr ⟨rfl, (List.forall_mem_cons.mpr ⟨rfl, (List.forall_mem_cons.mpr ⟨rfl, (fun _ h => nomatch h)⟩)⟩)⟩)⟩)⟩)⟩)⟩)⟩) ?_
      refine z_loc (L' := [(0, .ref (G.1 + a0)), (1, .int (Int32.ofInt l1)), (5, .int (Int32.ofInt l5)), (6, .int (Int32.ofInt r12)), (7, .int (Int32.ofInt 0))]) (List.forall_mem_cons.mpr ⟨rfl, (List.forall_mem_cons.mpr ⟨rfl, (List.forall_mem_cons.mpr ⟨rfl, (List.forall_mem_cons.mpr ⟨rfl, (List.forall_mem_cons.mpr ⟨rfl, (fun _ h => nomatch h)⟩)⟩)⟩)⟩)⟩) ?_
      exact bX8_element_158 hD hC hd hW hX ga0 gl1 gl5 gr12 (show rng 0 from ⟨by decide, by decide⟩) (by omega) (by omega) (by omega)  hP 
    · refine z_aload_n dX8_element_135 rfl rfl ?_
      refine tw_getO hW ga0 (by decide) (by decide) rfl kX8 fX8_46 dX8_element_136 (fun b23 pb23 gb23 => ?_)
      have gb23 : oT τ b23 5 := ⟨_, gb23⟩
      refine z_ldcS (i := 13) (tx := "/>") (by decide +kernel) dX8_element_139 ?_
      have hX0 := kX5_spell 4 (Nat.le_refl _) hW gb23 (show 13 < xN by decide) 
      refine z_callV (As := [_]) eX5_spell sX5_spell lX8_85 rfl dX8_element_141 (hW.os gb23).choose_spec hX0 (by omega) rfl (Nat.le_of_ble_eq_true rfl) (fun r cs hp => ?_)
      obtain ⟨τ, rfl, hW, k26⟩ := hp
      have hX := hX.tr k26 (by decide)
      have ga0 := k26.1.e ga0 (by decide)
      clear hX0
      refine z_st (st' := []) rfl ?_
      exact z_return dX8_element_144 rfl (hP _ _ hW hX)
  · refine z_aload_n dX8_element_63 rfl rfl ?_
    refine z_iconst (v := Int32.ofInt 1) dX8_element_64 rfl ?_
    refine tw_putI hW hX ga0 (by decide) (by decide) rfl kX8 fX8_34 dX8_element_65 rfl (nar01 (b01 ⟨by decide, by decide⟩)) (fit01 (b01 ⟨by decide, by decide⟩)) (iv_ok ⟨by decide, by decide⟩ (by decide) (by decide)) (by decide) (fun c1 q _ _ => nT hW ga0 (by decide) c1 q) (fun cs hW hX _ _ _ => ?_)
    exact z_return dX8_element_68 rfl (hP _ _ hW hX)
set_option maxRecDepth 100000 in
set_option maxHeartbeats 4000000 in
theorem kX8_element {G : xG} {B : Nat × Nat} {τ : Tau} {cs : List va_E} {a0 pa0 : Nat} {l1 : Int} {l2 : Int} {l3 : Int} {l4 : Int} {l5 : Int} {lo : Int} {D : Nat} (hD : 12 ≤ D) (hC : CC G B lo D) (d : Nat) (hd : D + 1 ≤ d) (hW : WT G B τ cs) (ga0 : τ a0 = some (.inl (8, pa0))) (gl1 : rng l1) (gl2 : rng l2) (gl3 : rng l3) (gl4 : rng l4) (gl5 : rng l5) (p0 : iv 0 7 l4) (p1 : iv 0 20 l5) (p2 : lo ≤ l5) : X G yX8_element cX8_element 8 none d [.ref (G.1 + a0), .int (Int32.ofInt l1), .int (Int32.ofInt l2), .int (Int32.ofInt l3), .int (Int32.ofInt l4), .int (Int32.ofInt l5)] cs (wN G B τ cs [5, 8]) := by
  refine X.of false (by decide +kernel) (by decide) (Nat.le_of_ble_eq_true rfl) ?_
  show Z (RX8, cX8_element, 8, none, false) G d _ 0 [(0, .ref (G.1 + a0)), (1, .int (Int32.ofInt l1)), (2, .int (Int32.ofInt l2)), (3, .int (Int32.ofInt l3)), (4, .int (Int32.ofInt l4)), (5, .int (Int32.ofInt l5))] [] cs
  have hP : ∀ (τ1 : Tau) (c1 : List va_E), WT G B τ1 c1 → Fx [5, 8] τ cs τ1 c1 → wN G B τ cs [5, 8] none c1 := fun τ1 c1 h1 h2 => ⟨τ1, rfl, h1, h2⟩
  have hX : Fx [5, 8] τ cs τ cs := Fx.rf
  skip
  refine z_aload_n dX8_element_0 rfl rfl ?_
  refine tw_getI hW ga0 (by decide) (by decide) rfl kX8 fX8_34 dX8_element_1 (fun x1 _ vx1 gx1 => ?_)
  refine i_if_ne (tgt := 28) dX8_element_4 (by decide) gx1 (fun h2 => ?_) (fun h2 => ?_)
  · exact z_return dX8_element_28 rfl (hP _ _ hW hX)
  · refine z_aload_n dX8_element_7 rfl rfl ?_
    refine tw_getO hW ga0 (by decide) (by decide) rfl kX8 fX8_46 dX8_element_8 (fun b3 pb3 gb3 => ?_)
    have gb3 : oT τ b3 5 := ⟨_, gb3⟩
    have hX0 := kX5_hasOverflowed 0 (Nat.le_refl _) hW gb3 
    refine z_callV (As := []) eX5_hasOverflowed sX5_hasOverflowed lX8_56 rfl dX8_element_11 (hW.os gb3).choose_spec hX0 (by omega) rfl (Nat.le_of_ble_eq_true rfl) (fun r cs1 hp => ?_)
    obtain ⟨hcs, r5, rfl, gr5, n4_0⟩ := hp
    obtain rfl := hcs.symm
    refine z_st (st' := [.int (Int32.ofInt r5)]) rfl ?_
    refine i_if_ne (tgt := 28) dX8_element_14 (by decide) gr5 (fun h6 => ?_) (fun h6 => ?_)
    · exact z_return dX8_element_28 rfl (hP _ _ hW hX)
    · refine z_aload_n dX8_element_17 rfl rfl ?_
      refine tw_getO hW ga0 (by decide) (by decide) rfl kX8 fX8_42 dX8_element_18 (fun b7 pb7 gb7 => ?_)
      refine z_iload_n dX8_element_21 rfl rfl ?_
      have hX0 := kX1_has 0 (Nat.le_refl _) hW gb7 gl1 
      refine z_callV (As := [_]) eX1_has sX1_has lX8_62 rfl dX8_element_22 (hW.ob gb7 (by decide)).choose_spec hX0 (by omega) rfl (Nat.le_of_ble_eq_true rfl) (fun r cs1 hp => ?_)
      obtain ⟨hcs, r9, rfl, gr9, ⟨n8_0, n8_1⟩⟩ := hp
      obtain rfl := hcs.symm
      refine z_st (st' := [.int (Int32.ofInt r9)]) rfl ?_
      refine i_if_ne (tgt := 29) dX8_element_25 (by decide) gr9 (fun h10 => ?_) (fun h10 => ?_)
      · refine z_aload_n dX8_element_29 rfl rfl ?_
        refine tw_getI hW ga0 (by decide) (by decide) rfl kX8 fX8_50 dX8_element_30 (fun x11 _ vx11 gx11 => ?_)
        refine z_iconst (v := Int32.ofInt 3) dX8_element_33 rfl ?_
        refine i_icmp_eq (tgt := 54) dX8_element_34 (by decide) gx11 (show rng 3 from ⟨by decide, by decide⟩) (fun h12 => ?_) (fun h12 => ?_)
        · refine z_loc (L' := [(0, .ref (G.1 + a0)), (1, .int (Int32.ofInt l1)), (2, .int (Int32.ofInt l2)), (3, .int (Int32.ofInt l3)), (4, .int (Int32.ofInt l4)), (5, .int (Int32.ofInt l5))]) (List.forall_mem_cons.mpr ⟨rfl, (List.forall_mem_cons.mpr ⟨rfl, (List.forall_mem_cons.mpr ⟨rfl, (List.forall_mem_cons.mpr ⟨rfl, (List.forall_mem_cons.mpr ⟨rfl, (List.forall_mem_cons.mpr ⟨rfl, (fun _ h => nomatch h)⟩)⟩)⟩)⟩)⟩)⟩) ?_
          exact bX8_element_54 hD hC hd hW hX ga0 gl1 gl2 gl3 gl4 gl5 (by omega) (by omega) (by omega) (by omega)  hP 
        · refine z_aload_n dX8_element_37 rfl rfl ?_
          refine tw_getA hW ga0 (by decide) (by decide) rfl kX8 fX8_9 dX8_element_38 (fun b13 _ gb13 => ?_)
          refine z_iload_n dX8_element_41 rfl rfl ?_
          refine tw_iald hW gb13 (by omega) (by omega) dX8_element_42 (fun x14 _ vx14 gx14 => ?_)
          refine i_if_le (tgt := 54) dX8_element_43 (by decide) gx14 (fun h15 => ?_) (fun h15 => ?_)
          · refine z_loc (L' := [(0, .ref (G.1 + a0)), (1, .int (Int32.ofInt l1)), (2, .int (Int32.ofInt l2)), (3, .int (Int32.ofInt l3)), (4, .int (Int32.ofInt l4)), (5, .int (Int32.ofInt l5))]) (List.forall_mem_cons.mpr ⟨rfl, (List.forall_mem_cons.mpr ⟨rfl, (List.forall_mem_cons.mpr ⟨rfl, (List.forall_mem_cons.mpr ⟨rfl, (List.forall_mem_cons.mpr ⟨rfl, (List.forall_mem_cons.mpr ⟨rfl, (fun _ h => nomatch h)⟩)⟩)⟩)⟩)⟩)⟩) ?_
            exact bX8_element_54 hD hC hd hW hX ga0 gl1 gl2 gl3 gl4 gl5 (by omega) (by omega) (by omega) (by omega)  hP 
          · refine z_aload_n dX8_element_46 rfl rfl ?_
            refine z_iload_n dX8_element_47 rfl rfl ?_
            refine z_iload_n dX8_element_48 rfl rfl ?_
            refine z_iload_n dX8_element_49 rfl rfl ?_
            have hX0 := kX8_reference 6 (Nat.le_refl _) hW ga0 gl1 gl2 gl3 (by omega)
            refine z_callV (As := [_, _, _]) eX8_reference sX8_reference lX8_68 rfl dX8_element_50 (hW.ob ga0 (by decide)).choose_spec hX0 (by omega) rfl (Nat.le_of_ble_eq_true rfl) (fun r cs hp => ?_)
            obtain ⟨τ, rfl, hW, k18⟩ := hp
            have hX := hX.tr k18 (by decide)
            have ga0 := k18.1.e ga0 (by decide)
            clear hX0
            refine z_st (st' := []) rfl ?_
            exact z_return dX8_element_53 rfl (hP _ _ hW hX)
      · exact z_return dX8_element_28 rfl (hP _ _ hW hX)
