set_option maxRecDepth 100000 in
set_option maxHeartbeats 4000000 in
theorem kX6_attributeCount {G : xG} {B : Nat × Nat} {τ : Tau} {cs : List va_E} {a0 pa0 : Nat} {l1 : Int} (d : Nat) (hd : 1 ≤ d) (hW : WT G B τ cs) (ga0 : τ a0 = some (.inl (6, pa0))) (gl1 : rng l1)  : X G yX6_attributeCount cX6_attributeCount 2 (some .int) d [.ref (G.1 + a0), .int (Int32.ofInt l1)] cs (rI cs (fun r => ((0 ≤ l1 ∧ l1 < fld cs a0 16 ∧ r = elt cs 12 l1) ∨ (¬ (0 ≤ l1 ∧ l1 < fld cs a0 16) ∧ r = 0)) ∧ (iv 0 601 r))) := by
  refine X.of false (by decide +kernel) (by decide) (Nat.le_of_ble_eq_true rfl) ?_
  show Z (RX6, cX6_attributeCount, 2, some .int, false) G d _ 0 [(0, .ref (G.1 + a0)), (1, .int (Int32.ofInt l1))] [] cs
  have hP : ∀ r : Int, rng r → (((0 ≤ l1 ∧ l1 < fld cs a0 16 ∧ r = elt cs 12 l1) ∨ (¬ (0 ≤ l1 ∧ l1 < fld cs a0 16) ∧ r = 0)) ∧ (iv 0 601 r)) → rI cs (fun r => ((0 ≤ l1 ∧ l1 < fld cs a0 16 ∧ r = elt cs 12 l1) ∨ (¬ (0 ≤ l1 ∧ l1 < fld cs a0 16) ∧ r = 0)) ∧ (iv 0 601 r)) (some (.int (Int32.ofInt r))) cs := fun r h1 h2 => ⟨rfl, r, rfl, h1, h2⟩
  refine z_aload_n dX6_attributeCount_0 rfl rfl ?_
  refine z_iload_n dX6_attributeCount_1 rfl rfl ?_
  have hX0 := kX6_has 0 (Nat.le_refl _) hW ga0 gl1 
  refine z_callV (As := [_]) eX6_has sX6_has lX6_75 rfl dX6_attributeCount_2 (hW.ob ga0 (by decide)).choose_spec hX0 (Nat.le_trans (by decide) hd) rfl (Nat.le_of_ble_eq_true rfl) (fun r cs1 hp => ?_)
  obtain ⟨hcs, r2, rfl, gr2, ⟨n1_0, n1_1, n1_2⟩⟩ := hp
  obtain rfl := hcs.symm
  refine z_st (st' := [.int (Int32.ofInt r2)]) rfl ?_
  refine i_if_eq (tgt := 17) dX6_attributeCount_5 (by decide) gr2 (fun h3 => ?_) (fun h3 => ?_)
  · refine z_iconst (v := Int32.ofInt 0) dX6_attributeCount_17 rfl ?_
    exact z_ireturn dX6_attributeCount_18 rfl rfl (hP _ (show rng 0 from ⟨by decide, by decide⟩) ⟨by omega, by omega⟩)
  · refine z_aload_n dX6_attributeCount_8 rfl rfl ?_
    refine tw_getA hW ga0 (by decide) (by decide) rfl kX6 fX6_40 dX6_attributeCount_9 (fun b4 _ gb4 => ?_)
    refine z_iload_n dX6_attributeCount_12 rfl rfl ?_
    refine tw_iald hW gb4 (by omega) (by omega) dX6_attributeCount_13 (fun x5 qx5 vx5 gx5 => ?_)
    rw [hW.2.1.2.2.2.2.1 _ gb4] at qx5
    refine z_goto (tgt := 18) dX6_attributeCount_14 (by decide) ?_
    exact z_ireturn dX6_attributeCount_18 rfl rfl (hP _ gx5 ⟨by omega, by omega⟩)

set_option maxRecDepth 100000 in
set_option maxHeartbeats 4000000 in
theorem kX6_firstAttribute {G : xG} {B : Nat × Nat} {τ : Tau} {cs : List va_E} {a0 pa0 : Nat} {l1 : Int} (d : Nat) (hd : 1 ≤ d) (hW : WT G B τ cs) (ga0 : τ a0 = some (.inl (6, pa0))) (gl1 : rng l1)  : X G yX6_firstAttribute cX6_firstAttribute 2 (some .int) d [.ref (G.1 + a0), .int (Int32.ofInt l1)] cs (rI cs (fun r => ((0 ≤ l1 ∧ l1 < fld cs a0 16 ∧ r = elt cs 11 l1) ∨ (¬ (0 ≤ l1 ∧ l1 < fld cs a0 16) ∧ r = 0)) ∧ (iv 0 601 r))) := by
  refine X.of false (by decide +kernel) (by decide) (Nat.le_of_ble_eq_true rfl) ?_
  show Z (RX6, cX6_firstAttribute, 2, some .int, false) G d _ 0 [(0, .ref (G.1 + a0)), (1, .int (Int32.ofInt l1))] [] cs
  have hP : ∀ r : Int, rng r → (((0 ≤ l1 ∧ l1 < fld cs a0 16 ∧ r = elt cs 11 l1) ∨ (¬ (0 ≤ l1 ∧ l1 < fld cs a0 16) ∧ r = 0)) ∧ (iv 0 601 r)) → rI cs (fun r => ((0 ≤ l1 ∧ l1 < fld cs a0 16 ∧ r = elt cs 11 l1) ∨ (¬ (0 ≤ l1 ∧ l1 < fld cs a0 16) ∧ r = 0)) ∧ (iv 0 601 r)) (some (.int (Int32.ofInt r))) cs := fun r h1 h2 => ⟨rfl, r, rfl, h1, h2⟩
  refine z_aload_n dX6_firstAttribute_0 rfl rfl ?_
  refine z_iload_n dX6_firstAttribute_1 rfl rfl ?_
  have hX0 := kX6_has 0 (Nat.le_refl _) hW ga0 gl1 
  refine z_callV (As := [_]) eX6_has sX6_has lX6_75 rfl dX6_firstAttribute_2 (hW.ob ga0 (by decide)).choose_spec hX0 (Nat.le_trans (by decide) hd) rfl (Nat.le_of_ble_eq_true rfl) (fun r cs1 hp => ?_)
  obtain ⟨hcs, r2, rfl, gr2, ⟨n1_0, n1_1, n1_2⟩⟩ := hp
  obtain rfl := hcs.symm
  refine z_st (st' := [.int (Int32.ofInt r2)]) rfl ?_
  refine i_if_eq (tgt := 17) dX6_firstAttribute_5 (by decide) gr2 (fun h3 => ?_) (fun h3 => ?_)
  · refine z_iconst (v := Int32.ofInt 0) dX6_firstAttribute_17 rfl ?_
    exact z_ireturn dX6_firstAttribute_18 rfl rfl (hP _ (show rng 0 from ⟨by decide, by decide⟩) ⟨by omega, by omega⟩)
  · refine z_aload_n dX6_firstAttribute_8 rfl rfl ?_
    refine tw_getA hW ga0 (by decide) (by decide) rfl kX6 fX6_37 dX6_firstAttribute_9 (fun b4 _ gb4 => ?_)
    refine z_iload_n dX6_firstAttribute_12 rfl rfl ?_
    refine tw_iald hW gb4 (by omega) (by omega) dX6_firstAttribute_13 (fun x5 qx5 vx5 gx5 => ?_)
    rw [hW.2.1.2.2.1 _ gb4] at qx5
    refine z_goto (tgt := 18) dX6_firstAttribute_14 (by decide) ?_
    exact z_ireturn dX6_firstAttribute_18 rfl rfl (hP _ gx5 ⟨by omega, by omega⟩)

set_option maxRecDepth 100000 in
set_option maxHeartbeats 4000000 in
theorem eX6_attributeNamed_9 {G : xG} {d : Nat} {Post : xP} {B : Nat × Nat} {τ : Tau} {cs : List va_E} {a0 pa0 : Nat} {l1 : Int} {a2 : Nat} {l3 : Int} {l4 : Int} {n9 : Nat} (hd : 5 ≤ d) (hW : WT G B τ cs) (ga0 : τ a0 = some (.inl (6, pa0))) (gl1 : rng l1) (ga2 : a2 < xN) (gl3 : rng l3) (gl4 : rng l4) (i0 : (0 ≤ l1 ∧ l1 < fld cs a0 16 ∧ l3 = elt cs 11 l1) ∨ (¬ (0 ≤ l1 ∧ l1 < fld cs a0 16) ∧ l3 = 0)) (i1 : 0 ≤ l4) (i2 : l3 ≤ l4)  (hP : ∀ r : Int, rng r → (True) → Post (some (.int (Int32.ofInt r))) cs)  (ih_9 : ∀ {a0 pa0 : Nat} {l1 : Int} {a2 : Nat} {l3 : Int} {l4 : Int} (hW : WT G B τ cs) (ga0 : τ a0 = some (.inl (6, pa0))) (gl1 : rng l1) (ga2 : a2 < xN) (gl3 : rng l3) (gl4 : rng l4) (i0 : (0 ≤ l1 ∧ l1 < fld cs a0 16 ∧ l3 = elt cs 11 l1) ∨ (¬ (0 ≤ l1 ∧ l1 < fld cs a0 16) ∧ l3 = 0)) (i1 : 0 ≤ l4) (i2 : l3 ≤ l4) , (601 - l4).toNat < n9 → Z (RX6, cX6_attributeNamed, 5, some .int, false) G d Post 9 [(0, .ref (G.1 + a0)), (1, .int (Int32.ofInt l1)), (2, .ref (G.2.2.2.1 a2)), (3, .int (Int32.ofInt l3)), (4, .int (Int32.ofInt l4))] [] cs) (hm_9 : (601 - l4).toNat < n9 + 1) : Z (RX6, cX6_attributeNamed, 5, some .int, false) G d Post 9 [(0, .ref (G.1 + a0)), (1, .int (Int32.ofInt l1)), (2, .ref (G.2.2.2.1 a2)), (3, .int (Int32.ofInt l3)), (4, .int (Int32.ofInt l4))] [] cs := by
  have h3 : a0 = 3 := hW.2.1.1 _ _ ga0
  have hTR := hW.2.2.2.2.2.1 l1
  rw [← h3] at hTR
  have hsz := hW.fiv (k := 17) ga0 (by decide) (by decide) rfl
  have he1 := hW.eiv hW.2.1.2.2.2.1 l1
  refine z_iload dX6_attributeNamed_9 rfl ?_
  refine z_iload_n dX6_attributeNamed_11 rfl rfl ?_
  refine z_aload_n dX6_attributeNamed_12 rfl rfl ?_
  refine z_iload_n dX6_attributeNamed_13 rfl rfl ?_
  have hX0 := kX6_attributeCount 1 (Nat.le_refl _) hW ga0 gl1 
  refine z_callV (As := [_]) eX6_attributeCount sX6_attributeCount lX6_100 rfl dX6_attributeNamed_14 (hW.ob ga0 (by decide)).choose_spec hX0 (Nat.le_trans (by decide) hd) rfl (Nat.le_of_ble_eq_true rfl) (fun r cs1 hp => ?_)
  obtain ⟨hcs, r2, rfl, gr2, ⟨n1_0, n1_1⟩⟩ := hp
  obtain rfl := hcs.symm
  refine z_st (st' := [.int (Int32.ofInt r2), .int (Int32.ofInt l3), .int (Int32.ofInt l4)]) rfl ?_
  refine tw_iadd dX6_attributeNamed_17 (fun z3 gz3 ez3 => ?_)
  first | have ez3 := ez3 ⟨by omega, by omega⟩ | skip
  refine i_icmp_ge (tgt := 55) dX6_attributeNamed_18 (by decide) gl4 gz3 (fun h4 => ?_) (fun h4 => ?_)
  · refine z_iconst (v := Int32.ofInt (-1)) dX6_attributeNamed_55 rfl ?_
    exact z_ireturn dX6_attributeNamed_56 rfl rfl (hP _ (show rng (-1) from ⟨by decide, by decide⟩) trivial)
  · refine z_aload_n dX6_attributeNamed_21 rfl rfl ?_
    refine tw_getO hW ga0 (by decide) (by decide) rfl kX6 fX6_18 dX6_attributeNamed_22 (fun b5 pb5 gb5 => ?_)
    have gb5 : oT τ b5 5 := ⟨_, gb5⟩
    refine z_aload_n dX6_attributeNamed_25 rfl rfl ?_
    refine tw_getA hW ga0 (by decide) (by decide) rfl kX6 fX6_53 dX6_attributeNamed_26 (fun b6 _ gb6 => ?_)
    refine z_iload dX6_attributeNamed_29 rfl ?_
    refine tw_iald hW gb6 (by omega) (by omega) dX6_attributeNamed_31 (fun x7 _ vx7 gx7 => ?_)
    refine z_aload_n dX6_attributeNamed_32 rfl rfl ?_
    refine tw_getA hW ga0 (by decide) (by decide) rfl kX6 fX6_56 dX6_attributeNamed_33 (fun b8 _ gb8 => ?_)
    refine z_iload dX6_attributeNamed_36 rfl ?_
    refine tw_iald hW gb8 (by omega) (by omega) dX6_attributeNamed_38 (fun x9 _ vx9 gx9 => ?_)
    refine z_aload_n dX6_attributeNamed_39 rfl rfl ?_
    have hX0 := kX5_isAt 4 (Nat.le_refl _) hW gb5 gx7 gx9 ga2 
    refine z_callV (As := [_, _, _]) eX5_isAt sX5_isAt lX6_103 rfl dX6_attributeNamed_40 (hW.os gb5).choose_spec hX0 (Nat.le_trans (by decide) hd) rfl (Nat.le_of_ble_eq_true rfl) (fun r cs1 hp => ?_)
    obtain ⟨hcs, r11, rfl, gr11, n10_0⟩ := hp
    obtain rfl := hcs.symm
    refine z_st (st' := [.int (Int32.ofInt r11)]) rfl ?_
    refine i_if_eq (tgt := 49) dX6_attributeNamed_43 (by decide) gr11 (fun h12 => ?_) (fun h12 => ?_)
    · refine tw_iinc (l := l4) dX6_attributeNamed_49 rfl (by decide) (fun z13 gz13 ez13 => ?_)
      first | have ez13 := ez13 ⟨by omega, by omega⟩ | skip
      refine z_loc (L' := [(0, .ref (G.1 + a0)), (1, .int (Int32.ofInt l1)), (2, .ref (G.2.2.2.1 a2)), (3, .int (Int32.ofInt l3)), (4, .int (Int32.ofInt z13))]) (List.forall_mem_cons.mpr ⟨rfl, (List.forall_mem_cons.mpr ⟨rfl, (List.forall_mem_cons.mpr ⟨rfl, (List.forall_mem_cons.mpr ⟨rfl, (List.forall_mem_cons.mpr ⟨rfl, (fun _ h => nomatch h)⟩)⟩)⟩)⟩)⟩) ?_
      refine z_goto (tgt := 9) dX6_attributeNamed_52 (by decide) ?_
      refine z_loc (L' := [(0, .ref (G.1 + a0)), (1, .int (Int32.ofInt l1)), (2, .ref (G.2.2.2.1 a2)), (3, .int (Int32.ofInt l3)), (4, .int (Int32.ofInt z13))]) (List.forall_mem_cons.mpr ⟨rfl, (List.forall_mem_cons.mpr ⟨rfl, (List.forall_mem_cons.mpr ⟨rfl, (List.forall_mem_cons.mpr ⟨rfl, (List.forall_mem_cons.mpr ⟨rfl, (fun _ h => nomatch h)⟩)⟩)⟩)⟩)⟩) ?_
      exact ih_9 hW ga0 gl1 ga2 gl3 gz13 (by omega) (by omega) (by omega)  (by omega)
    · refine z_iload dX6_attributeNamed_46 rfl ?_
      exact z_ireturn dX6_attributeNamed_48 rfl rfl (hP _ gl4 trivial)
set_option maxRecDepth 100000 in
set_option maxHeartbeats 4000000 in
theorem bX6_attributeNamed_9 {G : xG} {d : Nat} {Post : xP} {B : Nat × Nat} {τ : Tau} {cs : List va_E} {a0 pa0 : Nat} {l1 : Int} {a2 : Nat} {l3 : Int} {l4 : Int} (hd : 5 ≤ d) (hW : WT G B τ cs) (ga0 : τ a0 = some (.inl (6, pa0))) (gl1 : rng l1) (ga2 : a2 < xN) (gl3 : rng l3) (gl4 : rng l4) (i0 : (0 ≤ l1 ∧ l1 < fld cs a0 16 ∧ l3 = elt cs 11 l1) ∨ (¬ (0 ≤ l1 ∧ l1 < fld cs a0 16) ∧ l3 = 0)) (i1 : 0 ≤ l4) (i2 : l3 ≤ l4)  (hP : ∀ r : Int, rng r → (True) → Post (some (.int (Int32.ofInt r))) cs)  : Z (RX6, cX6_attributeNamed, 5, some .int, false) G d Post 9 [(0, .ref (G.1 + a0)), (1, .int (Int32.ofInt l1)), (2, .ref (G.2.2.2.1 a2)), (3, .int (Int32.ofInt l3)), (4, .int (Int32.ofInt l4))] [] cs := by
  have key : ∀ (n : Nat) (a0 pa0 : Nat) (l1 : Int) (a2 : Nat) (l3 : Int) (l4 : Int) (hW : WT G B τ cs) (ga0 : τ a0 = some (.inl (6, pa0))) (gl1 : rng l1) (ga2 : a2 < xN) (gl3 : rng l3) (gl4 : rng l4) (i0 : (0 ≤ l1 ∧ l1 < fld cs a0 16 ∧ l3 = elt cs 11 l1) ∨ (¬ (0 ≤ l1 ∧ l1 < fld cs a0 16) ∧ l3 = 0)) (i1 : 0 ≤ l4) (i2 : l3 ≤ l4) , (601 - l4).toNat < n → Z (RX6, cX6_attributeNamed, 5, some .int, false) G d Post 9 [(0, .ref (G.1 + a0)), (1, .int (Int32.ofInt l1)), (2, .ref (G.2.2.2.1 a2)), (3, .int (Int32.ofInt l3)), (4, .int (Int32.ofInt l4))] [] cs := by
    intro n
    induction n with
    | zero => intro a0 pa0 l1 a2 l3 l4 hW ga0 gl1 ga2 gl3 gl4 i0 i1 i2 hm; exact absurd hm (Nat.not_lt_zero _)
    | succ n ih =>
      intro a0 pa0 l1 a2 l3 l4 hW ga0 gl1 ga2 gl3 gl4 i0 i1 i2 hm
      exact eX6_attributeNamed_9 hd hW ga0 gl1 ga2 gl3 gl4 i0 i1 i2 hP  (fun hW ga0 gl1 ga2 gl3 gl4 i0 i1 i2 hm => ih _ _ _ _ _ _ hW ga0 gl1 ga2 gl3 gl4 i0 i1 i2 hm) hm
  exact key _ _ _ _ _ _ _ hW ga0 gl1 ga2 gl3 gl4 i0 i1 i2 (Nat.lt_succ_self _)
set_option maxRecDepth 100000 in
set_option maxHeartbeats 4000000 in
theorem kX6_attributeNamed {G : xG} {B : Nat × Nat} {τ : Tau} {cs : List va_E} {a0 pa0 : Nat} {l1 : Int} {a2 : Nat} (d : Nat) (hd : 5 ≤ d) (hW : WT G B τ cs) (ga0 : τ a0 = some (.inl (6, pa0))) (gl1 : rng l1) (ga2 : a2 < xN)  : X G yX6_attributeNamed cX6_attributeNamed 5 (some .int) d [.ref (G.1 + a0), .int (Int32.ofInt l1), .ref (G.2.2.2.1 a2)] cs (rI cs (fun r => True)) := by
  refine X.of false (by decide +kernel) (by decide) (Nat.le_of_ble_eq_true rfl) ?_
  show Z (RX6, cX6_attributeNamed, 5, some .int, false) G d _ 0 [(0, .ref (G.1 + a0)), (1, .int (Int32.ofInt l1)), (2, .ref (G.2.2.2.1 a2))] [] cs
  have hP : ∀ r : Int, rng r → (True) → rI cs (fun r => True) (some (.int (Int32.ofInt r))) cs := fun r h1 h2 => ⟨rfl, r, rfl, h1, h2⟩
  refine z_aload_n dX6_attributeNamed_0 rfl rfl ?_
  refine z_iload_n dX6_attributeNamed_1 rfl rfl ?_
  have hX0 := kX6_firstAttribute 1 (Nat.le_refl _) hW ga0 gl1 
  refine z_callV (As := [_]) eX6_firstAttribute sX6_firstAttribute lX6_96 rfl dX6_attributeNamed_2 (hW.ob ga0 (by decide)).choose_spec hX0 (Nat.le_trans (by decide) hd) rfl (Nat.le_of_ble_eq_true rfl) (fun r cs1 hp => ?_)
  obtain ⟨hcs, r2, rfl, gr2, ⟨n1_0, n1_1⟩⟩ := hp
  obtain rfl := hcs.symm
  refine z_st (st' := [.int (Int32.ofInt r2)]) rfl ?_
  refine z_istore_n dX6_attributeNamed_5 rfl (by decide) ?_
  refine z_loc (L' := [(0, .ref (G.1 + a0)), (1, .int (Int32.ofInt l1)), (2, .ref (G.2.2.2.1 a2)), (3, .int (Int32.ofInt r2))]) (List.forall_mem_cons.mpr ⟨rfl, (List.forall_mem_cons.mpr ⟨rfl, (List.forall_mem_cons.mpr ⟨rfl, (List.forall_mem_cons.mpr ⟨rfl, (fun _ h => nomatch h)⟩)⟩)⟩)⟩) ?_
  refine z_iload_n dX6_attributeNamed_6 rfl rfl ?_
  refine z_istore dX6_attributeNamed_7 (by decide) ?_
  refine z_loc (L' := [(0, .ref (G.1 + a0)), (1, .int (Int32.ofInt l1)), (2, .ref (G.2.2.2.1 a2)), (3, .int (Int32.ofInt r2)), (4, .int (Int32.ofInt r2))]) (List.forall_mem_cons.mpr ⟨rfl, (List.forall_mem_cons.mpr ⟨rfl, (List.forall_mem_cons.mpr ⟨rfl, (List.forall_mem_cons.mpr ⟨rfl, (List.forall_mem_cons.mpr ⟨rfl, (fun _ h => nomatch h)⟩)⟩)⟩)⟩)⟩) ?_
  refine z_loc (L' := [(0, .ref (G.1 + a0)), (1, .int (Int32.ofInt l1)), (2, .ref (G.2.2.2.1 a2)), (3, .int (Int32.ofInt r2)), (4, .int (Int32.ofInt r2))]) (List.forall_mem_cons.mpr ⟨rfl, (List.forall_mem_cons.mpr ⟨rfl, (List.forall_mem_cons.mpr ⟨rfl, (List.forall_mem_cons.mpr ⟨rfl, (List.forall_mem_cons.mpr ⟨rfl, (fun _ h => nomatch h)⟩)⟩)⟩)⟩)⟩) ?_
  exact bX6_attributeNamed_9 hd hW ga0 gl1 ga2 gr2 gr2 (by omega) (by omega) (by omega)  hP 

set_option maxRecDepth 100000 in
set_option maxHeartbeats 4000000 in
theorem kX6_nameFrom {G : xG} {B : Nat × Nat} {τ : Tau} {cs : List va_E} {a0 pa0 : Nat} {l1 : Int} (d : Nat) (hd : 1 ≤ d) (hW : WT G B τ cs) (ga0 : τ a0 = some (.inl (6, pa0))) (gl1 : rng l1)  : X G yX6_nameFrom cX6_nameFrom 2 (some .int) d [.ref (G.1 + a0), .int (Int32.ofInt l1)] cs (rI cs (fun r => True)) := by
  refine X.of false (by decide +kernel) (by decide) (Nat.le_of_ble_eq_true rfl) ?_
  show Z (RX6, cX6_nameFrom, 2, some .int, false) G d _ 0 [(0, .ref (G.1 + a0)), (1, .int (Int32.ofInt l1))] [] cs
  have hP : ∀ r : Int, rng r → (True) → rI cs (fun r => True) (some (.int (Int32.ofInt r))) cs := fun r h1 h2 => ⟨rfl, r, rfl, h1, h2⟩
  refine z_aload_n dX6_nameFrom_0 rfl rfl ?_
  refine z_iload_n dX6_nameFrom_1 rfl rfl ?_
  have hX0 := kX6_has 0 (Nat.le_refl _) hW ga0 gl1 
  refine z_callV (As := [_]) eX6_has sX6_has lX6_75 rfl dX6_nameFrom_2 (hW.ob ga0 (by decide)).choose_spec hX0 (Nat.le_trans (by decide) hd) rfl (Nat.le_of_ble_eq_true rfl) (fun r cs1 hp => ?_)
  obtain ⟨hcs, r2, rfl, gr2, ⟨n1_0, n1_1, n1_2⟩⟩ := hp
  obtain rfl := hcs.symm
  refine z_st (st' := [.int (Int32.ofInt r2)]) rfl ?_
  refine i_if_eq (tgt := 17) dX6_nameFrom_5 (by decide) gr2 (fun h3 => ?_) (fun h3 => ?_)
  · refine z_iconst (v := Int32.ofInt 0) dX6_nameFrom_17 rfl ?_
    exact z_ireturn dX6_nameFrom_18 rfl rfl (hP _ (show rng 0 from ⟨by decide, by decide⟩) trivial)
  · refine z_aload_n dX6_nameFrom_8 rfl rfl ?_
    refine tw_getA hW ga0 (by decide) (by decide) rfl kX6 fX6_25 dX6_nameFrom_9 (fun b4 _ gb4 => ?_)
    refine z_iload_n dX6_nameFrom_12 rfl rfl ?_
    refine tw_iald hW gb4 (by omega) (by omega) dX6_nameFrom_13 (fun x5 _ vx5 gx5 => ?_)
    refine z_goto (tgt := 18) dX6_nameFrom_14 (by decide) ?_
    exact z_ireturn dX6_nameFrom_18 rfl rfl (hP _ gx5 trivial)

set_option maxRecDepth 100000 in
set_option maxHeartbeats 4000000 in
theorem kX6_nameTo {G : xG} {B : Nat × Nat} {τ : Tau} {cs : List va_E} {a0 pa0 : Nat} {l1 : Int} (d : Nat) (hd : 1 ≤ d) (hW : WT G B τ cs) (ga0 : τ a0 = some (.inl (6, pa0))) (gl1 : rng l1)  : X G yX6_nameTo cX6_nameTo 2 (some .int) d [.ref (G.1 + a0), .int (Int32.ofInt l1)] cs (rI cs (fun r => True)) := by
  refine X.of false (by decide +kernel) (by decide) (Nat.le_of_ble_eq_true rfl) ?_
  show Z (RX6, cX6_nameTo, 2, some .int, false) G d _ 0 [(0, .ref (G.1 + a0)), (1, .int (Int32.ofInt l1))] [] cs
  have hP : ∀ r : Int, rng r → (True) → rI cs (fun r => True) (some (.int (Int32.ofInt r))) cs := fun r h1 h2 => ⟨rfl, r, rfl, h1, h2⟩
  refine z_aload_n dX6_nameTo_0 rfl rfl ?_
  refine z_iload_n dX6_nameTo_1 rfl rfl ?_
  have hX0 := kX6_has 0 (Nat.le_refl _) hW ga0 gl1 
  refine z_callV (As := [_]) eX6_has sX6_has lX6_75 rfl dX6_nameTo_2 (hW.ob ga0 (by decide)).choose_spec hX0 (Nat.le_trans (by decide) hd) rfl (Nat.le_of_ble_eq_true rfl) (fun r cs1 hp => ?_)
  obtain ⟨hcs, r2, rfl, gr2, ⟨n1_0, n1_1, n1_2⟩⟩ := hp
  obtain rfl := hcs.symm
  refine z_st (st' := [.int (Int32.ofInt r2)]) rfl ?_
  refine i_if_eq (tgt := 17) dX6_nameTo_5 (by decide) gr2 (fun h3 => ?_) (fun h3 => ?_)
  · refine z_iconst (v := Int32.ofInt 0) dX6_nameTo_17 rfl ?_
    exact z_ireturn dX6_nameTo_18 rfl rfl (hP _ (show rng 0 from ⟨by decide, by decide⟩) trivial)
  · refine z_aload_n dX6_nameTo_8 rfl rfl ?_
    refine tw_getA hW ga0 (by decide) (by decide) rfl kX6 fX6_28 dX6_nameTo_9 (fun b4 _ gb4 => ?_)
    refine z_iload_n dX6_nameTo_12 rfl rfl ?_
    refine tw_iald hW gb4 (by omega) (by omega) dX6_nameTo_13 (fun x5 _ vx5 gx5 => ?_)
    refine z_goto (tgt := 18) dX6_nameTo_14 (by decide) ?_
    exact z_ireturn dX6_nameTo_18 rfl rfl (hP _ gx5 trivial)

set_option maxRecDepth 100000 in
set_option maxHeartbeats 4000000 in
theorem bX3_isPlacedInList_50 {G : xG} {d : Nat} {Post : xP} {B : Nat × Nat} {τ0 τ : Tau} {c0 cs : List va_E} {a0 pm : Nat} {l1 : Int} {l2 : Int} {l3 : Int} {l4 : Int} {s0 : Int} (hd : 6 ≤ d) (hW : WT G B τ cs) (hX : Fx [1, 3] τ0 c0 τ cs) (ga0 : τ a0 = some (.inl (3, pm))) (gl1 : rng l1) (gl2 : rng l2) (gl3 : rng l3) (gl4 : rng l4) (gs0 : rng s0) (i0 : 0 ≤ l1) (i1 : l1 < (pm : Nat)) (i2 : iv 0 29 l2)  (hP : ∀ (τ1 : Tau) (c1 : List va_E) (r : Int), WT G B τ1 c1 → Fx [1, 3] τ0 c0 τ1 c1 → rng r → ((iv 0 1 r)) → Post (some (.int (Int32.ofInt r))) c1)  : Z (RX3, cX3_isPlacedInList, 6, some .boolean, false) G d Post 50 [(0, .ref (G.1 + a0)), (1, .int (Int32.ofInt l1)), (2, .int (Int32.ofInt l2)), (3, .int (Int32.ofInt l3)), (4, .int (Int32.ofInt l4))] [.int (Int32.ofInt s0)] cs := by
  have hpm := hW.2.1.2.2.2.2.2.2.1 _ _ ga0
  refine z_istore dX3_isPlacedInList_50 (by decide) ?_
  refine z_loc (L' := [(0, .ref (G.1 + a0)), (1, .int (Int32.ofInt l1)), (2, .int (Int32.ofInt l2)), (3, .int (Int32.ofInt l3)), (4, .int (Int32.ofInt l4)), (5, .int (Int32.ofInt s0))]) (List.forall_mem_cons.mpr ⟨rfl, (List.forall_mem_cons.mpr ⟨rfl, (List.forall_mem_cons.mpr ⟨rfl, (List.forall_mem_cons.mpr ⟨rfl, (List.forall_mem_cons.mpr ⟨rfl, (List.forall_mem_cons.mpr ⟨rfl, (fun _ h => nomatch h)⟩)⟩)⟩)⟩)⟩)⟩) ?_
  refine z_iload dX3_isPlacedInList_52 rfl ?_
  refine z_iconst (v := Int32.ofInt (-1)) dX3_isPlacedInList_54 rfl ?_
  refine i_icmp_ne (tgt := 60) dX3_isPlacedInList_55 (by decide) gs0 (show rng (-1) from ⟨by decide, by decide⟩) (fun h1 => ?_) (fun h1 => ?_)
  · refine z_aload_n dX3_isPlacedInList_60 rfl rfl ?_
    refine tw_getO hW ga0 (by decide) (by decide) rfl kX3 fX3_19 dX3_isPlacedInList_61 (fun b2 pb2 gb2 => ?_)
    refine z_iload_n dX3_isPlacedInList_64 rfl rfl ?_
    refine z_ldcS (i := 24) (tx := "reference") (by decide +kernel) dX3_isPlacedInList_65 ?_
    have hX0 := kX6_attributeNamed 5 (Nat.le_refl _) hW gb2 gl1 (show 24 < xN by decide) 
    refine z_callV (As := [_, _]) eX6_attributeNamed sX6_attributeNamed lX3_140 rfl dX3_isPlacedInList_67 (hW.ob gb2 (by decide)).choose_spec hX0 (Nat.le_trans (by decide) hd) rfl (Nat.le_of_ble_eq_true rfl) (fun r cs1 hp => ?_)
    obtain ⟨hcs, r4, rfl, gr4, _⟩ := hp
    obtain rfl := hcs.symm
    refine z_st (st' := [.int (Int32.ofInt r4)]) rfl ?_
    refine z_iconst (v := Int32.ofInt (-1)) dX3_isPlacedInList_70 rfl ?_
    refine i_icmp_eq (tgt := 94) dX3_isPlacedInList_71 (by decide) gr4 (show rng (-1) from ⟨by decide, by decide⟩) (fun h5 => ?_) (fun h5 => ?_)
    · refine z_aload_n dX3_isPlacedInList_94 rfl rfl ?_
      refine z_iload_n dX3_isPlacedInList_95 rfl rfl ?_
      refine z_iload dX3_isPlacedInList_96 rfl ?_
      have hX0 := kX3_begins 2 (Nat.le_refl _) hW ga0 gl1 gl4 (by omega) (by omega)
      refine z_callV (As := [_, _]) eX3_begins sX3_begins lX3_100 rfl dX3_isPlacedInList_98 (hW.ob ga0 (by decide)).choose_spec hX0 (Nat.le_trans (by decide) hd) rfl (Nat.le_of_ble_eq_true rfl) (fun r cs hp => ?_)
      obtain ⟨τ, r7, rfl, gr7, hW, k8, n6_0⟩ := hp
      have hX := hX.tr k8 (by decide)
      have ga0 := k8.1.e ga0 (by decide)
      clear hX0
      refine z_st (st' := [.int (Int32.ofInt r7)]) rfl ?_
      refine i_if_ne (tgt := 106) dX3_isPlacedInList_101 (by decide) gr7 (fun h9 => ?_) (fun h9 => ?_)
      · refine z_aload_n dX3_isPlacedInList_106 rfl rfl ?_
        refine tw_getO hW ga0 (by decide) (by decide) rfl kX3 fX3_37 dX3_isPlacedInList_107 (fun b10 pb10 gb10 => ?_)
        refine z_iload_n dX3_isPlacedInList_110 rfl rfl ?_
        refine z_iload_n dX3_isPlacedInList_111 rfl rfl ?_
        refine z_iload dX3_isPlacedInList_112 rfl ?_
        refine z_iconst (v := Int32.ofInt 1) dX3_isPlacedInList_114 rfl ?_
        refine tw_isub dX3_isPlacedInList_115 (fun z11 gz11 ez11 => ?_)
        first | have ez11 := ez11 ⟨by omega, by omega⟩ | clear ez11
        refine z_aload_n dX3_isPlacedInList_116 rfl rfl ?_
        refine tw_getA hW ga0 (by decide) (by decide) rfl kX3 fX3_57 dX3_isPlacedInList_117 (fun b12 _ gb12 => ?_)
        refine z_iload_n dX3_isPlacedInList_120 rfl rfl ?_
        refine tw_iald hW gb12 (by omega) (by omega) dX3_isPlacedInList_121 (fun x13 _ vx13 gx13 => ?_)
        have hX0 := kX1_putCell 1 (Nat.le_refl _) hW gb10 gl2 gl3 gz11 gx13 
        refine z_callV (As := [_, _, _, _]) eX1_putCell sX1_putCell lX3_160 rfl dX3_isPlacedInList_122 (hW.ob gb10 (by decide)).choose_spec hX0 (Nat.le_trans (by decide) hd) rfl (Nat.le_of_ble_eq_true rfl) (fun r cs hp => ?_)
        obtain ⟨τ, rfl, hW, k16⟩ := hp
        have hX := hX.tr k16 (by decide)
        have ga0 := k16.1.e ga0 (by decide)
        clear hX0
        refine z_st (st' := []) rfl ?_
        refine z_iconst (v := Int32.ofInt 1) dX3_isPlacedInList_125 rfl ?_
        exact z_ireturn dX3_isPlacedInList_126 rfl (nar01 (b01 ⟨by decide, by decide⟩)) (hP _ _ _ hW hX (show rng 1 from ⟨by decide, by decide⟩) (by omega))
      · refine z_iconst (v := Int32.ofInt 0) dX3_isPlacedInList_104 rfl ?_
        exact z_ireturn dX3_isPlacedInList_105 rfl (nar01 (b01 ⟨by decide, by decide⟩)) (hP _ _ _ hW hX (show rng 0 from ⟨by decide, by decide⟩) (by omega))
    · refine z_aload_n dX3_isPlacedInList_74 rfl rfl ?_
      refine z_iload_n dX3_isPlacedInList_75 rfl rfl ?_
      refine z_iconst (v := Int32.ofInt 4) dX3_isPlacedInList_76 rfl ?_
      refine z_iload_n dX3_isPlacedInList_77 rfl rfl ?_
      refine z_iload_n dX3_isPlacedInList_78 rfl rfl ?_
      have hX0 := kX3_takesRole 0 (Nat.le_refl _) hW ga0 gl1 (show rng 4 from ⟨by decide, by decide⟩) gl2 gl3 (by omega) (by omega) (by omega)
      refine z_callV (As := [_, _, _, _]) eX3_takesRole sX3_takesRole lX3_118 rfl dX3_isPlacedInList_79 (hW.ob ga0 (by decide)).choose_spec hX0 (Nat.le_trans (by decide) hd) rfl (Nat.le_of_ble_eq_true rfl) (fun r cs hp => ?_)
      obtain ⟨τ, rfl, hW, k19⟩ := hp
      have hX := hX.tr k19 (by decide)
      have ga0 := k19.1.e ga0 (by decide)
      clear hX0
      refine z_st (st' := []) rfl ?_
      refine z_aload_n dX3_isPlacedInList_82 rfl rfl ?_
      refine tw_getA hW ga0 (by decide) (by decide) rfl kX3 fX3_63 dX3_isPlacedInList_83 (fun b20 _ gb20 => ?_)
      refine z_iload_n dX3_isPlacedInList_86 rfl rfl ?_
      refine z_iload dX3_isPlacedInList_87 rfl ?_
      refine z_iconst (v := Int32.ofInt 1) dX3_isPlacedInList_89 rfl ?_
      refine tw_isub dX3_isPlacedInList_90 (fun z21 gz21 ez21 => ?_)
      first | have ez21 := ez21 ⟨by omega, by omega⟩ | clear ez21
      refine tw_iast hW hX gb20 (by omega) (by omega) (any_ok _) (Or.inl rfl) dX3_isPlacedInList_91 (fun c1 q _ => nA hW gb20 (show (2147483647 : Int) ≠ 600 by decide) (show (2147483647 : Int) ≠ 601 by decide) c1 q) (fun cs hW hX _ _ => ?_)
      refine z_iconst (v := Int32.ofInt 1) dX3_isPlacedInList_92 rfl ?_
      exact z_ireturn dX3_isPlacedInList_93 rfl (nar01 (b01 ⟨by decide, by decide⟩)) (hP _ _ _ hW hX (show rng 1 from ⟨by decide, by decide⟩) (by omega))
  · refine z_iconst (v := Int32.ofInt 0) dX3_isPlacedInList_58 rfl ?_
    exact z_ireturn dX3_isPlacedInList_59 rfl (nar01 (b01 ⟨by decide, by decide⟩)) (hP _ _ _ hW hX (show rng 0 from ⟨by decide, by decide⟩) (by omega))
set_option maxRecDepth 100000 in
set_option maxHeartbeats 4000000 in
theorem kX3_isPlacedInList {G : xG} {B : Nat × Nat} {τ : Tau} {cs : List va_E} {a0 pm : Nat} {l1 : Int} {l2 : Int} {l3 : Int} (d : Nat) (hd : 6 ≤ d) (hW : WT G B τ cs) (ga0 : τ a0 = some (.inl (3, pm))) (gl1 : rng l1) (gl2 : rng l2) (gl3 : rng l3) (p0 : 0 ≤ l1) (p1 : l1 < (pm : Nat)) (p2 : iv 0 29 l2) : X G yX3_isPlacedInList cX3_isPlacedInList 6 (some .boolean) d [.ref (G.1 + a0), .int (Int32.ofInt l1), .int (Int32.ofInt l2), .int (Int32.ofInt l3)] cs (wI G B τ cs [1, 3] (fun r => (iv 0 1 r))) := by
  refine X.of false (by decide +kernel) (by decide) (Nat.le_of_ble_eq_true rfl) ?_
  show Z (RX3, cX3_isPlacedInList, 6, some .boolean, false) G d _ 0 [(0, .ref (G.1 + a0)), (1, .int (Int32.ofInt l1)), (2, .int (Int32.ofInt l2)), (3, .int (Int32.ofInt l3))] [] cs
  have hP : ∀ (τ1 : Tau) (c1 : List va_E) (r : Int), WT G B τ1 c1 → Fx [1, 3] τ cs τ1 c1 → rng r → ((iv 0 1 r)) → wI G B τ cs [1, 3] (fun r => (iv 0 1 r)) (some (.int (Int32.ofInt r))) c1 := fun τ1 c1 r h1 h2 h3 h4 => ⟨τ1, r, rfl, h3, h1, h2, h4⟩
  have hX : Fx [1, 3] τ cs τ cs := Fx.rf
  skip
  have hpm := hW.2.1.2.2.2.2.2.2.1 _ _ ga0
  refine z_aload_n dX3_isPlacedInList_0 rfl rfl ?_
  refine tw_getO hW ga0 (by decide) (by decide) rfl kX3 fX3_15 dX3_isPlacedInList_1 (fun b1 pb1 gb1 => ?_)
  refine z_aload_n dX3_isPlacedInList_4 rfl rfl ?_
  refine tw_getO hW ga0 (by decide) (by decide) rfl kX3 fX3_29 dX3_isPlacedInList_5 (fun b2 pb2 gb2 => ?_)
  have gb2 : oT τ b2 5 := ⟨_, gb2⟩
  refine z_aload_n dX3_isPlacedInList_8 rfl rfl ?_
  refine tw_getO hW ga0 (by decide) (by decide) rfl kX3 fX3_19 dX3_isPlacedInList_9 (fun b3 pb3 gb3 => ?_)
  refine z_iload_n dX3_isPlacedInList_12 rfl rfl ?_
  have hX0 := kX6_nameFrom 1 (Nat.le_refl _) hW gb3 gl1 
  refine z_callV (As := [_]) eX6_nameFrom sX6_nameFrom lX3_88 rfl dX3_isPlacedInList_13 (hW.ob gb3 (by decide)).choose_spec hX0 (Nat.le_trans (by decide) hd) rfl (Nat.le_of_ble_eq_true rfl) (fun r cs1 hp => ?_)
  obtain ⟨hcs, r5, rfl, gr5, _⟩ := hp
  obtain rfl := hcs.symm
  refine z_st (st' := [.int (Int32.ofInt r5), .ref (G.1 + b2), .ref (G.1 + b1)]) rfl ?_
  refine z_aload_n dX3_isPlacedInList_16 rfl rfl ?_
  refine tw_getO hW ga0 (by decide) (by decide) rfl kX3 fX3_19 dX3_isPlacedInList_17 (fun b6 pb6 gb6 => ?_)
  refine z_iload_n dX3_isPlacedInList_20 rfl rfl ?_
  have hX0 := kX6_nameTo 1 (Nat.le_refl _) hW gb6 gl1 
  refine z_callV (As := [_]) eX6_nameTo sX6_nameTo lX3_91 rfl dX3_isPlacedInList_21 (hW.ob gb6 (by decide)).choose_spec hX0 (Nat.le_trans (by decide) hd) rfl (Nat.le_of_ble_eq_true rfl) (fun r cs1 hp => ?_)
  obtain ⟨hcs, r8, rfl, gr8, _⟩ := hp
  obtain rfl := hcs.symm
  refine z_st (st' := [.int (Int32.ofInt r8), .int (Int32.ofInt r5), .ref (G.1 + b2), .ref (G.1 + b1)]) rfl ?_
  have hX0 := kX4_readableClass 2 (Nat.le_refl _) hW gb1 gb2 gr5 gr8 
  refine z_callV (As := [_, _, _]) eX4_readableClass sX4_readableClass lX3_94 rfl dX3_isPlacedInList_24 (hW.ob gb1 (by decide)).choose_spec hX0 (Nat.le_trans (by decide) hd) rfl (Nat.le_of_ble_eq_true rfl) (fun r cs1 hp => ?_)
  obtain ⟨hcs, r10, rfl, gr10, _⟩ := hp
  obtain rfl := hcs.symm
  refine z_st (st' := [.int (Int32.ofInt r10)]) rfl ?_
  refine z_istore dX3_isPlacedInList_27 (by decide) ?_
  refine z_loc (L' := [(0, .ref (G.1 + a0)), (1, .int (Int32.ofInt l1)), (2, .int (Int32.ofInt l2)), (3, .int (Int32.ofInt l3)), (4, .int (Int32.ofInt r10))]) (List.forall_mem_cons.mpr ⟨rfl, (List.forall_mem_cons.mpr ⟨rfl, (List.forall_mem_cons.mpr ⟨rfl, (List.forall_mem_cons.mpr ⟨rfl, (List.forall_mem_cons.mpr ⟨rfl, (fun _ h => nomatch h)⟩)⟩)⟩)⟩)⟩) ?_
  refine z_iload dX3_isPlacedInList_29 rfl ?_
  refine z_iconst (v := Int32.ofInt (-1)) dX3_isPlacedInList_31 rfl ?_
  refine i_icmp_ne (tgt := 39) dX3_isPlacedInList_32 (by decide) gr10 (show rng (-1) from ⟨by decide, by decide⟩) (fun h11 => ?_) (fun h11 => ?_)
  · refine z_aload_n dX3_isPlacedInList_39 rfl rfl ?_
    refine tw_getO hW ga0 (by decide) (by decide) rfl kX3 fX3_37 dX3_isPlacedInList_40 (fun b12 pb12 gb12 => ?_)
    refine z_iload_n dX3_isPlacedInList_43 rfl rfl ?_
    refine z_iload_n dX3_isPlacedInList_44 rfl rfl ?_
    refine z_bipush (v := Int32.ofInt (-2)) dX3_isPlacedInList_45 (by decide) ?_
    have hX0 := kX1_append 2 (Nat.le_refl _) hW gb12 gl2 gl3 (show rng (-2) from ⟨by decide, by decide⟩) 
    refine z_callV (As := [_, _, _]) eX1_append sX1_append lX3_156 rfl dX3_isPlacedInList_47 (hW.ob gb12 (by decide)).choose_spec hX0 (Nat.le_trans (by decide) hd) rfl (Nat.le_of_ble_eq_true rfl) (fun r cs hp => ?_)
    obtain ⟨τ, r14, rfl, gr14, hW, k15, _⟩ := hp
    have hX := hX.tr k15 (by decide)
    have ga0 := k15.1.e ga0 (by decide)
    clear hX0
    refine z_st (st' := [.int (Int32.ofInt r14)]) rfl ?_
    refine z_loc (L' := [(0, .ref (G.1 + a0)), (1, .int (Int32.ofInt l1)), (2, .int (Int32.ofInt l2)), (3, .int (Int32.ofInt l3)), (4, .int (Int32.ofInt r10))]) (List.forall_mem_cons.mpr ⟨rfl, (List.forall_mem_cons.mpr ⟨rfl, (List.forall_mem_cons.mpr ⟨rfl, (List.forall_mem_cons.mpr ⟨rfl, (List.forall_mem_cons.mpr ⟨rfl, (fun _ h => nomatch h)⟩)⟩)⟩)⟩)⟩) ?_
    exact bX3_isPlacedInList_50 hd hW hX ga0 gl1 gl2 gl3 gr10 gr14 (by omega) (by omega) (by omega)  hP 
  · refine z_iconst (v := Int32.ofInt (-1)) dX3_isPlacedInList_35 rfl ?_
    refine z_goto (tgt := 50) dX3_isPlacedInList_36 (by decide) ?_
    refine z_loc (L' := [(0, .ref (G.1 + a0)), (1, .int (Int32.ofInt l1)), (2, .int (Int32.ofInt l2)), (3, .int (Int32.ofInt l3)), (4, .int (Int32.ofInt r10))]) (List.forall_mem_cons.mpr ⟨rfl, (List.forall_mem_cons.mpr ⟨rfl, (List.forall_mem_cons.mpr ⟨rfl, (List.forall_mem_cons.mpr ⟨rfl, (List.forall_mem_cons.mpr ⟨rfl, (fun _ h => nomatch h)⟩)⟩)⟩)⟩)⟩) ?_
    exact bX3_isPlacedInList_50 hd hW hX ga0 gl1 gl2 gl3 gr10 (show rng (-1) from ⟨by decide, by decide⟩) (by omega) (by omega) (by omega)  hP 

set_option maxRecDepth 100000 in
set_option maxHeartbeats 4000000 in
theorem kX6_hasAttribute {G : xG} {B : Nat × Nat} {τ : Tau} {cs : List va_E} {a0 pa0 : Nat} {l1 : Int} (d : Nat) (hd : 0 ≤ d) (hW : WT G B τ cs) (ga0 : τ a0 = some (.inl (6, pa0))) (gl1 : rng l1)  : X G yX6_hasAttribute cX6_hasAttribute 2 (some .boolean) d [.ref (G.1 + a0), .int (Int32.ofInt l1)] cs (rI cs (fun r => (iv 0 1 r) ∧ (r = 0 ∨ iv 0 599 l1))) := by
  refine X.of false (by decide +kernel) (by decide) (Nat.le_of_ble_eq_true rfl) ?_
  show Z (RX6, cX6_hasAttribute, 2, some .boolean, false) G d _ 0 [(0, .ref (G.1 + a0)), (1, .int (Int32.ofInt l1))] [] cs
  have hP : ∀ r : Int, rng r → ((iv 0 1 r) ∧ (r = 0 ∨ iv 0 599 l1)) → rI cs (fun r => (iv 0 1 r) ∧ (r = 0 ∨ iv 0 599 l1)) (some (.int (Int32.ofInt r))) cs := fun r h1 h2 => ⟨rfl, r, rfl, h1, h2⟩
  refine z_iload_n dX6_hasAttribute_0 rfl rfl ?_
  refine i_if_lt (tgt := 16) dX6_hasAttribute_1 (by decide) gl1 (fun h1 => ?_) (fun h1 => ?_)
  · refine z_iconst (v := Int32.ofInt 0) dX6_hasAttribute_16 rfl ?_
    exact z_ireturn dX6_hasAttribute_17 rfl (nar01 (b01 ⟨by decide, by decide⟩)) (hP _ (show rng 0 from ⟨by decide, by decide⟩) ⟨by omega, by omega⟩)
  · refine z_iload_n dX6_hasAttribute_4 rfl rfl ?_
    refine z_aload_n dX6_hasAttribute_5 rfl rfl ?_
    refine tw_getI hW ga0 (by decide) (by decide) rfl kX6 fX6_69 dX6_hasAttribute_6 (fun x2 _ vx2 gx2 => ?_)
    refine i_icmp_ge (tgt := 16) dX6_hasAttribute_9 (by decide) gl1 gx2 (fun h3 => ?_) (fun h3 => ?_)
    · refine z_iconst (v := Int32.ofInt 0) dX6_hasAttribute_16 rfl ?_
      exact z_ireturn dX6_hasAttribute_17 rfl (nar01 (b01 ⟨by decide, by decide⟩)) (hP _ (show rng 0 from ⟨by decide, by decide⟩) ⟨by omega, by omega⟩)
    · refine z_iconst (v := Int32.ofInt 1) dX6_hasAttribute_12 rfl ?_
      refine z_goto (tgt := 17) dX6_hasAttribute_13 (by decide) ?_
      exact z_ireturn dX6_hasAttribute_17 rfl (nar01 (b01 ⟨by decide, by decide⟩)) (hP _ (show rng 1 from ⟨by decide, by decide⟩) ⟨by omega, by omega⟩)

set_option maxRecDepth 100000 in
set_option maxHeartbeats 4000000 in
theorem kX6_valueFrom {G : xG} {B : Nat × Nat} {τ : Tau} {cs : List va_E} {a0 pa0 : Nat} {l1 : Int} (d : Nat) (hd : 1 ≤ d) (hW : WT G B τ cs) (ga0 : τ a0 = some (.inl (6, pa0))) (gl1 : rng l1)  : X G yX6_valueFrom cX6_valueFrom 2 (some .int) d [.ref (G.1 + a0), .int (Int32.ofInt l1)] cs (rI cs (fun r => True)) := by
  refine X.of false (by decide +kernel) (by decide) (Nat.le_of_ble_eq_true rfl) ?_
  show Z (RX6, cX6_valueFrom, 2, some .int, false) G d _ 0 [(0, .ref (G.1 + a0)), (1, .int (Int32.ofInt l1))] [] cs
  have hP : ∀ r : Int, rng r → (True) → rI cs (fun r => True) (some (.int (Int32.ofInt r))) cs := fun r h1 h2 => ⟨rfl, r, rfl, h1, h2⟩
  refine z_aload_n dX6_valueFrom_0 rfl rfl ?_
  refine z_iload_n dX6_valueFrom_1 rfl rfl ?_
  have hX0 := kX6_hasAttribute 0 (Nat.le_refl _) hW ga0 gl1 
  refine z_callV (As := [_]) eX6_hasAttribute sX6_hasAttribute lX6_89 rfl dX6_valueFrom_2 (hW.ob ga0 (by decide)).choose_spec hX0 (Nat.le_trans (by decide) hd) rfl (Nat.le_of_ble_eq_true rfl) (fun r cs1 hp => ?_)
  obtain ⟨hcs, r2, rfl, gr2, ⟨n1_0, n1_1⟩⟩ := hp
  obtain rfl := hcs.symm
  refine z_st (st' := [.int (Int32.ofInt r2)]) rfl ?_
  refine i_if_eq (tgt := 17) dX6_valueFrom_5 (by decide) gr2 (fun h3 => ?_) (fun h3 => ?_)
  · refine z_iconst (v := Int32.ofInt 0) dX6_valueFrom_17 rfl ?_
    exact z_ireturn dX6_valueFrom_18 rfl rfl (hP _ (show rng 0 from ⟨by decide, by decide⟩) trivial)
  · refine z_aload_n dX6_valueFrom_8 rfl rfl ?_
    refine tw_getA hW ga0 (by decide) (by decide) rfl kX6 fX6_59 dX6_valueFrom_9 (fun b4 _ gb4 => ?_)
    refine z_iload_n dX6_valueFrom_12 rfl rfl ?_
    refine tw_iald hW gb4 (by omega) (by omega) dX6_valueFrom_13 (fun x5 _ vx5 gx5 => ?_)
    refine z_goto (tgt := 18) dX6_valueFrom_14 (by decide) ?_
    exact z_ireturn dX6_valueFrom_18 rfl rfl (hP _ gx5 trivial)

set_option maxRecDepth 100000 in
set_option maxHeartbeats 4000000 in
theorem kX6_valueTo {G : xG} {B : Nat × Nat} {τ : Tau} {cs : List va_E} {a0 pa0 : Nat} {l1 : Int} (d : Nat) (hd : 1 ≤ d) (hW : WT G B τ cs) (ga0 : τ a0 = some (.inl (6, pa0))) (gl1 : rng l1)  : X G yX6_valueTo cX6_valueTo 2 (some .int) d [.ref (G.1 + a0), .int (Int32.ofInt l1)] cs (rI cs (fun r => (iv 0 3000 r))) := by
  refine X.of false (by decide +kernel) (by decide) (Nat.le_of_ble_eq_true rfl) ?_
  show Z (RX6, cX6_valueTo, 2, some .int, false) G d _ 0 [(0, .ref (G.1 + a0)), (1, .int (Int32.ofInt l1))] [] cs
  have hP : ∀ r : Int, rng r → ((iv 0 3000 r)) → rI cs (fun r => (iv 0 3000 r)) (some (.int (Int32.ofInt r))) cs := fun r h1 h2 => ⟨rfl, r, rfl, h1, h2⟩
  refine z_aload_n dX6_valueTo_0 rfl rfl ?_
  refine z_iload_n dX6_valueTo_1 rfl rfl ?_
  have hX0 := kX6_hasAttribute 0 (Nat.le_refl _) hW ga0 gl1 
  refine z_callV (As := [_]) eX6_hasAttribute sX6_hasAttribute lX6_89 rfl dX6_valueTo_2 (hW.ob ga0 (by decide)).choose_spec hX0 (Nat.le_trans (by decide) hd) rfl (Nat.le_of_ble_eq_true rfl) (fun r cs1 hp => ?_)
  obtain ⟨hcs, r2, rfl, gr2, ⟨n1_0, n1_1⟩⟩ := hp
  obtain rfl := hcs.symm
  refine z_st (st' := [.int (Int32.ofInt r2)]) rfl ?_
  refine i_if_eq (tgt := 17) dX6_valueTo_5 (by decide) gr2 (fun h3 => ?_) (fun h3 => ?_)
  · refine z_iconst (v := Int32.ofInt 0) dX6_valueTo_17 rfl ?_
    exact z_ireturn dX6_valueTo_18 rfl rfl (hP _ (show rng 0 from ⟨by decide, by decide⟩) (by omega))
  · refine z_aload_n dX6_valueTo_8 rfl rfl ?_
    refine tw_getA hW ga0 (by decide) (by decide) rfl kX6 fX6_62 dX6_valueTo_9 (fun b4 _ gb4 => ?_)
    refine z_iload_n dX6_valueTo_12 rfl rfl ?_
    refine tw_iald hW gb4 (by omega) (by omega) dX6_valueTo_13 (fun x5 _ vx5 gx5 => ?_)
    refine z_goto (tgt := 18) dX6_valueTo_14 (by decide) ?_
    exact z_ireturn dX6_valueTo_18 rfl rfl (hP _ gx5 (by omega))

set_option maxRecDepth 100000 in
set_option maxHeartbeats 4000000 in
theorem kX3_isPlacedAsTarget {G : xG} {B : Nat × Nat} {τ : Tau} {cs : List va_E} {a0 pm : Nat} {l1 : Int} {l2 : Int} {l3 : Int} (d : Nat) (hd : 6 ≤ d) (hW : WT G B τ cs) (ga0 : τ a0 = some (.inl (3, pm))) (gl1 : rng l1) (gl2 : rng l2) (gl3 : rng l3) (p0 : 0 ≤ l1) (p1 : l1 < (pm : Nat)) (p2 : iv 0 29 l2) : X G yX3_isPlacedAsTarget cX3_isPlacedAsTarget 6 (some .boolean) d [.ref (G.1 + a0), .int (Int32.ofInt l1), .int (Int32.ofInt l2), .int (Int32.ofInt l3)] cs (wI G B τ cs [1, 3] (fun r => (iv 0 1 r))) := by
  refine X.of false (by decide +kernel) (by decide) (Nat.le_of_ble_eq_true rfl) ?_
  show Z (RX3, cX3_isPlacedAsTarget, 6, some .boolean, false) G d _ 0 [(0, .ref (G.1 + a0)), (1, .int (Int32.ofInt l1)), (2, .int (Int32.ofInt l2)), (3, .int (Int32.ofInt l3))] [] cs
  have hP : ∀ (τ1 : Tau) (c1 : List va_E) (r : Int), WT G B τ1 c1 → Fx [1, 3] τ cs τ1 c1 → rng r → ((iv 0 1 r)) → wI G B τ cs [1, 3] (fun r => (iv 0 1 r)) (some (.int (Int32.ofInt r))) c1 := fun τ1 c1 r h1 h2 h3 h4 => ⟨τ1, r, rfl, h3, h1, h2, h4⟩
  have hX : Fx [1, 3] τ cs τ cs := Fx.rf
  skip
  have hpm := hW.2.1.2.2.2.2.2.2.1 _ _ ga0
  refine z_aload_n dX3_isPlacedAsTarget_0 rfl rfl ?_
  refine tw_getO hW ga0 (by decide) (by decide) rfl kX3 fX3_19 dX3_isPlacedAsTarget_1 (fun b1 pb1 gb1 => ?_)
  refine z_iload_n dX3_isPlacedAsTarget_4 rfl rfl ?_
  refine z_ldcS (i := 24) (tx := "reference") (by decide +kernel) dX3_isPlacedAsTarget_5 ?_
  have hX0 := kX6_attributeNamed 5 (Nat.le_refl _) hW gb1 gl1 (show 24 < xN by decide) 
  refine z_callV (As := [_, _]) eX6_attributeNamed sX6_attributeNamed lX3_140 rfl dX3_isPlacedAsTarget_7 (hW.ob gb1 (by decide)).choose_spec hX0 (Nat.le_trans (by decide) hd) rfl (Nat.le_of_ble_eq_true rfl) (fun r cs1 hp => ?_)
  obtain ⟨hcs, r3, rfl, gr3, _⟩ := hp
  obtain rfl := hcs.symm
  refine z_st (st' := [.int (Int32.ofInt r3)]) rfl ?_
  refine z_iconst (v := Int32.ofInt (-1)) dX3_isPlacedAsTarget_10 rfl ?_
  refine i_icmp_eq (tgt := 24) dX3_isPlacedAsTarget_11 (by decide) gr3 (show rng (-1) from ⟨by decide, by decide⟩) (fun h4 => ?_) (fun h4 => ?_)
  · refine z_aload_n dX3_isPlacedAsTarget_24 rfl rfl ?_
    refine tw_getO hW ga0 (by decide) (by decide) rfl kX3 fX3_19 dX3_isPlacedAsTarget_25 (fun b5 pb5 gb5 => ?_)
    refine z_iload_n dX3_isPlacedAsTarget_28 rfl rfl ?_
    refine z_ldcS (i := 25) (tx := "class") (by decide +kernel) dX3_isPlacedAsTarget_29 ?_
    have hX0 := kX6_attributeNamed 5 (Nat.le_refl _) hW gb5 gl1 (show 25 < xN by decide) 
    refine z_callV (As := [_, _]) eX6_attributeNamed sX6_attributeNamed lX3_140 rfl dX3_isPlacedAsTarget_31 (hW.ob gb5 (by decide)).choose_spec hX0 (Nat.le_trans (by decide) hd) rfl (Nat.le_of_ble_eq_true rfl) (fun r cs1 hp => ?_)
    obtain ⟨hcs, r7, rfl, gr7, _⟩ := hp
    obtain rfl := hcs.symm
    refine z_st (st' := [.int (Int32.ofInt r7)]) rfl ?_
    refine z_istore dX3_isPlacedAsTarget_34 (by decide) ?_
    refine z_loc (L' := [(0, .ref (G.1 + a0)), (1, .int (Int32.ofInt l1)), (2, .int (Int32.ofInt l2)), (3, .int (Int32.ofInt l3)), (4, .int (Int32.ofInt r7))]) (List.forall_mem_cons.mpr ⟨rfl, (List.forall_mem_cons.mpr ⟨rfl, (List.forall_mem_cons.mpr ⟨rfl, (List.forall_mem_cons.mpr ⟨rfl, (List.forall_mem_cons.mpr ⟨rfl, (fun _ h => nomatch h)⟩)⟩)⟩)⟩)⟩) ?_
    refine z_iload dX3_isPlacedAsTarget_36 rfl ?_
    refine z_iconst (v := Int32.ofInt (-1)) dX3_isPlacedAsTarget_38 rfl ?_
    refine i_icmp_ne (tgt := 44) dX3_isPlacedAsTarget_39 (by decide) gr7 (show rng (-1) from ⟨by decide, by decide⟩) (fun h8 => ?_) (fun h8 => ?_)
    · refine z_aload_n dX3_isPlacedAsTarget_44 rfl rfl ?_
      refine tw_getO hW ga0 (by decide) (by decide) rfl kX3 fX3_15 dX3_isPlacedAsTarget_45 (fun b9 pb9 gb9 => ?_)
      refine z_aload_n dX3_isPlacedAsTarget_48 rfl rfl ?_
      refine tw_getO hW ga0 (by decide) (by decide) rfl kX3 fX3_35 dX3_isPlacedAsTarget_49 (fun b10 pb10 gb10 => ?_)
      have gb10 : oT τ b10 5 := ⟨_, gb10⟩
      refine z_aload_n dX3_isPlacedAsTarget_52 rfl rfl ?_
      refine tw_getO hW ga0 (by decide) (by decide) rfl kX3 fX3_19 dX3_isPlacedAsTarget_53 (fun b11 pb11 gb11 => ?_)
      refine z_iload dX3_isPlacedAsTarget_56 rfl ?_
      have hX0 := kX6_valueFrom 1 (Nat.le_refl _) hW gb11 gr7 
      refine z_callV (As := [_]) eX6_valueFrom sX6_valueFrom lX3_146 rfl dX3_isPlacedAsTarget_58 (hW.ob gb11 (by decide)).choose_spec hX0 (Nat.le_trans (by decide) hd) rfl (Nat.le_of_ble_eq_true rfl) (fun r cs1 hp => ?_)
      obtain ⟨hcs, r13, rfl, gr13, _⟩ := hp
      obtain rfl := hcs.symm
      refine z_st (st' := [.int (Int32.ofInt r13), .ref (G.1 + b10), .ref (G.1 + b9)]) rfl ?_
      refine z_aload_n dX3_isPlacedAsTarget_61 rfl rfl ?_
      refine tw_getO hW ga0 (by decide) (by decide) rfl kX3 fX3_19 dX3_isPlacedAsTarget_62 (fun b14 pb14 gb14 => ?_)
      refine z_iload dX3_isPlacedAsTarget_65 rfl ?_
      have hX0 := kX6_valueTo 1 (Nat.le_refl _) hW gb14 gr7 
      refine z_callV (As := [_]) eX6_valueTo sX6_valueTo lX3_149 rfl dX3_isPlacedAsTarget_67 (hW.ob gb14 (by decide)).choose_spec hX0 (Nat.le_trans (by decide) hd) rfl (Nat.le_of_ble_eq_true rfl) (fun r cs1 hp => ?_)
      obtain ⟨hcs, r16, rfl, gr16, n15_0⟩ := hp
      obtain rfl := hcs.symm
      refine z_st (st' := [.int (Int32.ofInt r16), .int (Int32.ofInt r13), .ref (G.1 + b10), .ref (G.1 + b9)]) rfl ?_
      have hX0 := kX4_readableClass 2 (Nat.le_refl _) hW gb9 gb10 gr13 gr16 
      refine z_callV (As := [_, _, _]) eX4_readableClass sX4_readableClass lX3_94 rfl dX3_isPlacedAsTarget_70 (hW.ob gb9 (by decide)).choose_spec hX0 (Nat.le_trans (by decide) hd) rfl (Nat.le_of_ble_eq_true rfl) (fun r cs1 hp => ?_)
      obtain ⟨hcs, r18, rfl, gr18, _⟩ := hp
      obtain rfl := hcs.symm
      refine z_st (st' := [.int (Int32.ofInt r18)]) rfl ?_
      refine z_istore dX3_isPlacedAsTarget_73 (by decide) ?_
      refine z_loc (L' := [(0, .ref (G.1 + a0)), (1, .int (Int32.ofInt l1)), (2, .int (Int32.ofInt l2)), (3, .int (Int32.ofInt l3)), (4, .int (Int32.ofInt r7)), (5, .int (Int32.ofInt r18))]) (List.forall_mem_cons.mpr ⟨rfl, (List.forall_mem_cons.mpr ⟨rfl, (List.forall_mem_cons.mpr ⟨rfl, (List.forall_mem_cons.mpr ⟨rfl, (List.forall_mem_cons.mpr ⟨rfl, (List.forall_mem_cons.mpr ⟨rfl, (fun _ h => nomatch h)⟩)⟩)⟩)⟩)⟩)⟩) ?_
      refine z_aload_n dX3_isPlacedAsTarget_75 rfl rfl ?_
      refine z_iload_n dX3_isPlacedAsTarget_76 rfl rfl ?_
      refine z_iload dX3_isPlacedAsTarget_77 rfl ?_
      have hX0 := kX3_begins 2 (Nat.le_refl _) hW ga0 gl1 gr18 (by omega) (by omega)
      refine z_callV (As := [_, _]) eX3_begins sX3_begins lX3_100 rfl dX3_isPlacedAsTarget_79 (hW.ob ga0 (by decide)).choose_spec hX0 (Nat.le_trans (by decide) hd) rfl (Nat.le_of_ble_eq_true rfl) (fun r cs hp => ?_)
      obtain ⟨τ, r20, rfl, gr20, hW, k21, n19_0⟩ := hp
      have hX := hX.tr k21 (by decide)
      have ga0 := k21.1.e ga0 (by decide)
      clear hX0
      refine z_st (st' := [.int (Int32.ofInt r20)]) rfl ?_
      refine i_if_ne (tgt := 87) dX3_isPlacedAsTarget_82 (by decide) gr20 (fun h22 => ?_) (fun h22 => ?_)
      · refine z_aload_n dX3_isPlacedAsTarget_87 rfl rfl ?_
        refine tw_getA hW ga0 (by decide) (by decide) rfl kX3 fX3_60 dX3_isPlacedAsTarget_88 (fun b23 _ gb23 => ?_)
        refine z_iload_n dX3_isPlacedAsTarget_91 rfl rfl ?_
        refine z_iload_n dX3_isPlacedAsTarget_92 rfl rfl ?_
        refine tw_iast hW hX gb23 (by omega) (by omega) (any_ok _) (Or.inl rfl) dX3_isPlacedAsTarget_93 (fun c1 q _ => nA hW gb23 (show (2147483647 : Int) ≠ 600 by decide) (show (2147483647 : Int) ≠ 601 by decide) c1 q) (fun cs hW hX _ _ => ?_)
        refine z_aload_n dX3_isPlacedAsTarget_94 rfl rfl ?_
        refine tw_getO hW ga0 (by decide) (by decide) rfl kX3 fX3_37 dX3_isPlacedAsTarget_95 (fun b24 pb24 gb24 => ?_)
        refine z_iload_n dX3_isPlacedAsTarget_98 rfl rfl ?_
        refine z_iload_n dX3_isPlacedAsTarget_99 rfl rfl ?_
        refine z_aload_n dX3_isPlacedAsTarget_100 rfl rfl ?_
        refine tw_getA hW ga0 (by decide) (by decide) rfl kX3 fX3_57 dX3_isPlacedAsTarget_101 (fun b25 _ gb25 => ?_)
        refine z_iload_n dX3_isPlacedAsTarget_104 rfl rfl ?_
        refine tw_iald hW gb25 (by omega) (by omega) dX3_isPlacedAsTarget_105 (fun x26 _ vx26 gx26 => ?_)
        have hX0 := kX1_putHead 1 (Nat.le_refl _) hW gb24 gl2 gl3 gx26 
        refine z_callV (As := [_, _, _]) eX1_putHead sX1_putHead lX3_152 rfl dX3_isPlacedAsTarget_106 (hW.ob gb24 (by decide)).choose_spec hX0 (Nat.le_trans (by decide) hd) rfl (Nat.le_of_ble_eq_true rfl) (fun r cs hp => ?_)
        obtain ⟨τ, rfl, hW, k29⟩ := hp
        have hX := hX.tr k29 (by decide)
        have ga0 := k29.1.e ga0 (by decide)
        clear hX0
        refine z_st (st' := []) rfl ?_
        refine z_iconst (v := Int32.ofInt 1) dX3_isPlacedAsTarget_109 rfl ?_
        exact z_ireturn dX3_isPlacedAsTarget_110 rfl (nar01 (b01 ⟨by decide, by decide⟩)) (hP _ _ _ hW hX (show rng 1 from ⟨by decide, by decide⟩) (by omega))
      · refine z_iconst (v := Int32.ofInt 0) dX3_isPlacedAsTarget_85 rfl ?_
        exact z_ireturn dX3_isPlacedAsTarget_86 rfl (nar01 (b01 ⟨by decide, by decide⟩)) (hP _ _ _ hW hX (show rng 0 from ⟨by decide, by decide⟩) (by omega))
    · refine z_iconst (v := Int32.ofInt 0) dX3_isPlacedAsTarget_42 rfl ?_
      exact z_ireturn dX3_isPlacedAsTarget_43 rfl (nar01 (b01 ⟨by decide, by decide⟩)) (hP _ _ _ hW hX (show rng 0 from ⟨by decide, by decide⟩) (by omega))
  · refine z_aload_n dX3_isPlacedAsTarget_14 rfl rfl ?_
    refine z_iload_n dX3_isPlacedAsTarget_15 rfl rfl ?_
    refine z_iconst (v := Int32.ofInt 4) dX3_isPlacedAsTarget_16 rfl ?_
    refine z_iload_n dX3_isPlacedAsTarget_17 rfl rfl ?_
    refine z_iload_n dX3_isPlacedAsTarget_18 rfl rfl ?_
    have hX0 := kX3_takesRole 0 (Nat.le_refl _) hW ga0 gl1 (show rng 4 from ⟨by decide, by decide⟩) gl2 gl3 (by omega) (by omega) (by omega)
    refine z_callV (As := [_, _, _, _]) eX3_takesRole sX3_takesRole lX3_118 rfl dX3_isPlacedAsTarget_19 (hW.ob ga0 (by decide)).choose_spec hX0 (Nat.le_trans (by decide) hd) rfl (Nat.le_of_ble_eq_true rfl) (fun r cs hp => ?_)
    obtain ⟨τ, rfl, hW, k32⟩ := hp
    have hX := hX.tr k32 (by decide)
    have ga0 := k32.1.e ga0 (by decide)
    clear hX0
    refine z_st (st' := []) rfl ?_
    refine z_iconst (v := Int32.ofInt 1) dX3_isPlacedAsTarget_22 rfl ?_
    exact z_ireturn dX3_isPlacedAsTarget_23 rfl (nar01 (b01 ⟨by decide, by decide⟩)) (hP _ _ _ hW hX (show rng 1 from ⟨by decide, by decide⟩) (by omega))

