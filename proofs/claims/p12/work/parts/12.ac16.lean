set_option maxRecDepth 100000 in
set_option maxHeartbeats 4000000 in
theorem eX6_hasKey_11 {G : xG} {d : Nat} {Post : xP} {B : Nat × Nat} {τ : Tau} {cs : List va_E} {a0 pa0 : Nat} {l1 : Int} {l2 : Int} {l3 : Int} {l4 : Int} {l5 : Int} {n11 : Nat} (hd : 2 ≤ d) (hW : WT G B τ cs) (ga0 : τ a0 = some (.inl (6, pa0))) (gl1 : rng l1) (gl2 : rng l2) (gl3 : rng l3) (gl4 : rng l4) (gl5 : rng l5) (i0 : (0 ≤ l1 ∧ l1 < fld cs a0 16 ∧ l4 = elt cs 11 l1) ∨ (¬ (0 ≤ l1 ∧ l1 < fld cs a0 16) ∧ l4 = 0)) (i1 : 0 ≤ l5) (i2 : l4 ≤ l5)  (hP : ∀ r : Int, rng r → ((iv 0 1 r)) → Post (some (.int (Int32.ofInt r))) cs)  (ih_11 : ∀ {a0 pa0 : Nat} {l1 : Int} {l2 : Int} {l3 : Int} {l4 : Int} {l5 : Int} (hW : WT G B τ cs) (ga0 : τ a0 = some (.inl (6, pa0))) (gl1 : rng l1) (gl2 : rng l2) (gl3 : rng l3) (gl4 : rng l4) (gl5 : rng l5) (i0 : (0 ≤ l1 ∧ l1 < fld cs a0 16 ∧ l4 = elt cs 11 l1) ∨ (¬ (0 ≤ l1 ∧ l1 < fld cs a0 16) ∧ l4 = 0)) (i1 : 0 ≤ l5) (i2 : l4 ≤ l5) , (601 - l5).toNat < n11 → Z (RX6, cX6_hasKey, 6, some .boolean, false) G d Post 11 [(0, .ref (G.1 + a0)), (1, .int (Int32.ofInt l1)), (2, .int (Int32.ofInt l2)), (3, .int (Int32.ofInt l3)), (4, .int (Int32.ofInt l4)), (5, .int (Int32.ofInt l5))] [] cs) (hm_11 : (601 - l5).toNat < n11 + 1) : Z (RX6, cX6_hasKey, 6, some .boolean, false) G d Post 11 [(0, .ref (G.1 + a0)), (1, .int (Int32.ofInt l1)), (2, .int (Int32.ofInt l2)), (3, .int (Int32.ofInt l3)), (4, .int (Int32.ofInt l4)), (5, .int (Int32.ofInt l5))] [] cs := by
  have h3 : a0 = 3 := hW.2.1.1 _ _ ga0
  have hTR := hW.2.2.2.2.2.1 l1
  rw [← h3] at hTR
  have hsz := hW.fiv (k := 17) ga0 (by decide) (by decide) rfl
  have he1 := hW.eiv hW.2.1.2.2.2.1 l1
  refine z_iload dX6_hasKey_11 rfl ?_
  refine z_iload dX6_hasKey_13 rfl ?_
  refine z_aload_n dX6_hasKey_15 rfl rfl ?_
  refine z_iload_n dX6_hasKey_16 rfl rfl ?_
  have hX0 := kX6_attributeCount 1 (Nat.le_refl _) hW ga0 gl1 
  refine z_callV (As := [_]) eX6_attributeCount sX6_attributeCount lX6_100 rfl dX6_hasKey_17 (hW.ob ga0 (by decide)).choose_spec hX0 (Nat.le_trans (by decide) hd) rfl (Nat.le_of_ble_eq_true rfl) (fun r cs1 hp => ?_)
  obtain ⟨hcs, r2, rfl, gr2, ⟨n1_0, n1_1⟩⟩ := hp
  obtain rfl := hcs.symm
  refine z_st (st' := [.int (Int32.ofInt r2), .int (Int32.ofInt l4), .int (Int32.ofInt l5)]) rfl ?_
  refine tw_iadd dX6_hasKey_20 (fun z3 gz3 ez3 => ?_)
  first | have ez3 := ez3 ⟨by omega, by omega⟩ | skip
  refine i_icmp_ge (tgt := 59) dX6_hasKey_21 (by decide) gl5 gz3 (fun h4 => ?_) (fun h4 => ?_)
  · refine z_iconst (v := Int32.ofInt 0) dX6_hasKey_59 rfl ?_
    exact z_ireturn dX6_hasKey_60 rfl (nar01 (b01 ⟨by decide, by decide⟩)) (hP _ (show rng 0 from ⟨by decide, by decide⟩) (by omega))
  · refine z_aload_n dX6_hasKey_24 rfl rfl ?_
    refine z_aload_n dX6_hasKey_25 rfl rfl ?_
    refine tw_getA hW ga0 (by decide) (by decide) rfl kX6 fX6_53 dX6_hasKey_26 (fun b5 _ gb5 => ?_)
    refine z_iload dX6_hasKey_29 rfl ?_
    refine tw_iald hW gb5 (by omega) (by omega) dX6_hasKey_31 (fun x6 _ vx6 gx6 => ?_)
    refine z_aload_n dX6_hasKey_32 rfl rfl ?_
    refine tw_getA hW ga0 (by decide) (by decide) rfl kX6 fX6_56 dX6_hasKey_33 (fun b7 _ gb7 => ?_)
    refine z_iload dX6_hasKey_36 rfl ?_
    refine tw_iald hW gb7 (by omega) (by omega) dX6_hasKey_38 (fun x8 _ vx8 gx8 => ?_)
    refine z_aload_n dX6_hasKey_39 rfl rfl ?_
    refine tw_getO hW ga0 (by decide) (by decide) rfl kX6 fX6_18 dX6_hasKey_40 (fun b9 pb9 gb9 => ?_)
    have gb9 : oT τ b9 5 := ⟨_, gb9⟩
    refine z_iload_n dX6_hasKey_43 rfl rfl ?_
    refine z_iload_n dX6_hasKey_44 rfl rfl ?_
    have hX0 := kX6_isSpelt 1 (Nat.le_refl _) hW ga0 gx6 gx8 gb9 gl2 gl3 
    refine z_callV (As := [_, _, _, _, _]) eX6_isSpelt sX6_isSpelt lX6_92 rfl dX6_hasKey_45 (hW.ob ga0 (by decide)).choose_spec hX0 (Nat.le_trans (by decide) hd) rfl (Nat.le_of_ble_eq_true rfl) (fun r cs1 hp => ?_)
    obtain ⟨hcs, r11, rfl, gr11, n10_0⟩ := hp
    obtain rfl := hcs.symm
    refine z_st (st' := [.int (Int32.ofInt r11)]) rfl ?_
    refine i_if_eq (tgt := 53) dX6_hasKey_48 (by decide) gr11 (fun h12 => ?_) (fun h12 => ?_)
    · refine tw_iinc (l := l5) dX6_hasKey_53 rfl (by decide) (fun z13 gz13 ez13 => ?_)
      first | have ez13 := ez13 ⟨by omega, by omega⟩ | skip
      refine z_loc (L' := [(0, .ref (G.1 + a0)), (1, .int (Int32.ofInt l1)), (2, .int (Int32.ofInt l2)), (3, .int (Int32.ofInt l3)), (4, .int (Int32.ofInt l4)), (5, .int (Int32.ofInt z13))]) (List.forall_mem_cons.mpr ⟨rfl, (List.forall_mem_cons.mpr ⟨rfl, (List.forall_mem_cons.mpr ⟨rfl, (List.forall_mem_cons.mpr ⟨rfl, (List.forall_mem_cons.mpr ⟨rfl, (List.forall_mem_cons.mpr ⟨rfl, (fun _ h => nomatch h)⟩)⟩)⟩)⟩)⟩)⟩) ?_
      refine z_goto (tgt := 11) dX6_hasKey_56 (by decide) ?_
      refine z_loc (L' := [(0, .ref (G.1 + a0)), (1, .int (Int32.ofInt l1)), (2, .int (Int32.ofInt l2)), (3, .int (Int32.ofInt l3)), (4, .int (Int32.ofInt l4)), (5, .int (Int32.ofInt z13))]) (List.forall_mem_cons.mpr ⟨rfl, (List.forall_mem_cons.mpr ⟨rfl, (List.forall_mem_cons.mpr ⟨rfl, (List.forall_mem_cons.mpr ⟨rfl, (List.forall_mem_cons.mpr ⟨rfl, (List.forall_mem_cons.mpr ⟨rfl, (fun _ h => nomatch h)⟩)⟩)⟩)⟩)⟩)⟩) ?_
      exact ih_11 hW ga0 gl1 gl2 gl3 gl4 gz13 (by omega) (by omega) (by omega)  (by omega)
    · refine z_iconst (v := Int32.ofInt 1) dX6_hasKey_51 rfl ?_
      exact z_ireturn dX6_hasKey_52 rfl (nar01 (b01 ⟨by decide, by decide⟩)) (hP _ (show rng 1 from ⟨by decide, by decide⟩) (by omega))
set_option maxRecDepth 100000 in
set_option maxHeartbeats 4000000 in
theorem bX6_hasKey_11 {G : xG} {d : Nat} {Post : xP} {B : Nat × Nat} {τ : Tau} {cs : List va_E} {a0 pa0 : Nat} {l1 : Int} {l2 : Int} {l3 : Int} {l4 : Int} {l5 : Int} (hd : 2 ≤ d) (hW : WT G B τ cs) (ga0 : τ a0 = some (.inl (6, pa0))) (gl1 : rng l1) (gl2 : rng l2) (gl3 : rng l3) (gl4 : rng l4) (gl5 : rng l5) (i0 : (0 ≤ l1 ∧ l1 < fld cs a0 16 ∧ l4 = elt cs 11 l1) ∨ (¬ (0 ≤ l1 ∧ l1 < fld cs a0 16) ∧ l4 = 0)) (i1 : 0 ≤ l5) (i2 : l4 ≤ l5)  (hP : ∀ r : Int, rng r → ((iv 0 1 r)) → Post (some (.int (Int32.ofInt r))) cs)  : Z (RX6, cX6_hasKey, 6, some .boolean, false) G d Post 11 [(0, .ref (G.1 + a0)), (1, .int (Int32.ofInt l1)), (2, .int (Int32.ofInt l2)), (3, .int (Int32.ofInt l3)), (4, .int (Int32.ofInt l4)), (5, .int (Int32.ofInt l5))] [] cs := by
  have key : ∀ (n : Nat) (a0 pa0 : Nat) (l1 : Int) (l2 : Int) (l3 : Int) (l4 : Int) (l5 : Int) (hW : WT G B τ cs) (ga0 : τ a0 = some (.inl (6, pa0))) (gl1 : rng l1) (gl2 : rng l2) (gl3 : rng l3) (gl4 : rng l4) (gl5 : rng l5) (i0 : (0 ≤ l1 ∧ l1 < fld cs a0 16 ∧ l4 = elt cs 11 l1) ∨ (¬ (0 ≤ l1 ∧ l1 < fld cs a0 16) ∧ l4 = 0)) (i1 : 0 ≤ l5) (i2 : l4 ≤ l5) , (601 - l5).toNat < n → Z (RX6, cX6_hasKey, 6, some .boolean, false) G d Post 11 [(0, .ref (G.1 + a0)), (1, .int (Int32.ofInt l1)), (2, .int (Int32.ofInt l2)), (3, .int (Int32.ofInt l3)), (4, .int (Int32.ofInt l4)), (5, .int (Int32.ofInt l5))] [] cs := by
    intro n
    induction n with
    | zero => intro a0 pa0 l1 l2 l3 l4 l5 hW ga0 gl1 gl2 gl3 gl4 gl5 i0 i1 i2 hm; exact absurd hm (Nat.not_lt_zero _)
    | succ n ih =>
      intro a0 pa0 l1 l2 l3 l4 l5 hW ga0 gl1 gl2 gl3 gl4 gl5 i0 i1 i2 hm
      exact eX6_hasKey_11 hd hW ga0 gl1 gl2 gl3 gl4 gl5 i0 i1 i2 hP  (fun hW ga0 gl1 gl2 gl3 gl4 gl5 i0 i1 i2 hm => ih _ _ _ _ _ _ _ hW ga0 gl1 gl2 gl3 gl4 gl5 i0 i1 i2 hm) hm
  exact key _ _ _ _ _ _ _ _ hW ga0 gl1 gl2 gl3 gl4 gl5 i0 i1 i2 (Nat.lt_succ_self _)
set_option maxRecDepth 100000 in
set_option maxHeartbeats 4000000 in
theorem kX6_hasKey {G : xG} {B : Nat × Nat} {τ : Tau} {cs : List va_E} {a0 pa0 : Nat} {l1 : Int} {l2 : Int} {l3 : Int} (d : Nat) (hd : 2 ≤ d) (hW : WT G B τ cs) (ga0 : τ a0 = some (.inl (6, pa0))) (gl1 : rng l1) (gl2 : rng l2) (gl3 : rng l3)  : X G yX6_hasKey cX6_hasKey 6 (some .boolean) d [.ref (G.1 + a0), .int (Int32.ofInt l1), .int (Int32.ofInt l2), .int (Int32.ofInt l3)] cs (rI cs (fun r => (iv 0 1 r))) := by
  refine X.of false (by decide +kernel) (by decide) (Nat.le_of_ble_eq_true rfl) ?_
  show Z (RX6, cX6_hasKey, 6, some .boolean, false) G d _ 0 [(0, .ref (G.1 + a0)), (1, .int (Int32.ofInt l1)), (2, .int (Int32.ofInt l2)), (3, .int (Int32.ofInt l3))] [] cs
  have hP : ∀ r : Int, rng r → ((iv 0 1 r)) → rI cs (fun r => (iv 0 1 r)) (some (.int (Int32.ofInt r))) cs := fun r h1 h2 => ⟨rfl, r, rfl, h1, h2⟩
  refine z_aload_n dX6_hasKey_0 rfl rfl ?_
  refine z_iload_n dX6_hasKey_1 rfl rfl ?_
  have hX0 := kX6_firstAttribute 1 (Nat.le_refl _) hW ga0 gl1 
  refine z_callV (As := [_]) eX6_firstAttribute sX6_firstAttribute lX6_96 rfl dX6_hasKey_2 (hW.ob ga0 (by decide)).choose_spec hX0 (Nat.le_trans (by decide) hd) rfl (Nat.le_of_ble_eq_true rfl) (fun r cs1 hp => ?_)
  obtain ⟨hcs, r2, rfl, gr2, ⟨n1_0, n1_1⟩⟩ := hp
  obtain rfl := hcs.symm
  refine z_st (st' := [.int (Int32.ofInt r2)]) rfl ?_
  refine z_istore dX6_hasKey_5 (by decide) ?_
  refine z_loc (L' := [(0, .ref (G.1 + a0)), (1, .int (Int32.ofInt l1)), (2, .int (Int32.ofInt l2)), (3, .int (Int32.ofInt l3)), (4, .int (Int32.ofInt r2))]) (List.forall_mem_cons.mpr ⟨rfl, (List.forall_mem_cons.mpr ⟨rfl, (List.forall_mem_cons.mpr ⟨rfl, (List.forall_mem_cons.mpr ⟨rfl, (List.forall_mem_cons.mpr ⟨rfl, (fun _ h => nomatch h)⟩)⟩)⟩)⟩)⟩) ?_
  refine z_iload dX6_hasKey_7 rfl ?_
  refine z_istore dX6_hasKey_9 (by decide) ?_
  refine z_loc (L' := [(0, .ref (G.1 + a0)), (1, .int (Int32.ofInt l1)), (2, .int (Int32.ofInt l2)), (3, .int (Int32.ofInt l3)), (4, .int (Int32.ofInt r2)), (5, .int (Int32.ofInt r2))]) (List.forall_mem_cons.mpr ⟨rfl, (List.forall_mem_cons.mpr ⟨rfl, (List.forall_mem_cons.mpr ⟨rfl, (List.forall_mem_cons.mpr ⟨rfl, (List.forall_mem_cons.mpr ⟨rfl, (List.forall_mem_cons.mpr ⟨rfl, (fun _ h => nomatch h)⟩)⟩)⟩)⟩)⟩)⟩) ?_
  refine z_loc (L' := [(0, .ref (G.1 + a0)), (1, .int (Int32.ofInt l1)), (2, .int (Int32.ofInt l2)), (3, .int (Int32.ofInt l3)), (4, .int (Int32.ofInt r2)), (5, .int (Int32.ofInt r2))]) (List.forall_mem_cons.mpr ⟨rfl, (List.forall_mem_cons.mpr ⟨rfl, (List.forall_mem_cons.mpr ⟨rfl, (List.forall_mem_cons.mpr ⟨rfl, (List.forall_mem_cons.mpr ⟨rfl, (List.forall_mem_cons.mpr ⟨rfl, (fun _ h => nomatch h)⟩)⟩)⟩)⟩)⟩)⟩) ?_
  exact bX6_hasKey_11 hd hW ga0 gl1 gl2 gl3 gr2 gr2 (by omega) (by omega) (by omega)  hP 

set_option maxRecDepth 100000 in
set_option maxHeartbeats 4000000 in
theorem kX9_named {G : xG} {B : Nat × Nat} {τ : Tau} {cs : List va_E} {a0 pa0 : Nat} (d : Nat) (hd : 5 ≤ d) (hW : WT G B τ cs) (ga0 : τ a0 = some (.inl (9, pa0)))  : X G yX9_named cX9_named 1 (some .int) d [.ref (G.1 + a0)] cs (wI G B τ cs [9] (fun r => True)) := by
  refine X.of false (by decide +kernel) (by decide) (Nat.le_of_ble_eq_true rfl) ?_
  show Z (RX9, cX9_named, 1, some .int, false) G d _ 0 [(0, .ref (G.1 + a0))] [] cs
  have hP : ∀ (τ1 : Tau) (c1 : List va_E) (r : Int), WT G B τ1 c1 → Fx [9] τ cs τ1 c1 → rng r → (True) → wI G B τ cs [9] (fun r => True) (some (.int (Int32.ofInt r))) c1 := fun τ1 c1 r h1 h2 h3 h4 => ⟨τ1, r, rfl, h3, h1, h2, h4⟩
  have hX : Fx [9] τ cs τ cs := Fx.rf
  skip
  refine z_aload_n dX9_named_0 rfl rfl ?_
  refine z_ldcS (i := 15) (tx := "&amp;") (by decide +kernel) dX9_named_1 ?_
  have hX0 := kX9_comes 4 (Nat.le_refl _) hW ga0 (show 15 < xN by decide) 
  refine z_callV (As := [_]) eX9_comes sX9_comes lX9_64 rfl dX9_named_3 (hW.ob ga0 (by decide)).choose_spec hX0 (Nat.le_trans (by decide) hd) rfl (Nat.le_of_ble_eq_true rfl) (fun r cs1 hp => ?_)
  obtain ⟨hcs, r2, rfl, gr2, n1_0⟩ := hp
  obtain rfl := hcs.symm
  refine z_st (st' := [.int (Int32.ofInt r2)]) rfl ?_
  refine i_if_eq (tgt := 22) dX9_named_6 (by decide) gr2 (fun h3 => ?_) (fun h3 => ?_)
  · refine z_aload_n dX9_named_22 rfl rfl ?_
    refine z_ldcS (i := 16) (tx := "&lt;") (by decide +kernel) dX9_named_23 ?_
    have hX0 := kX9_comes 4 (Nat.le_refl _) hW ga0 (show 16 < xN by decide) 
    refine z_callV (As := [_]) eX9_comes sX9_comes lX9_64 rfl dX9_named_25 (hW.ob ga0 (by decide)).choose_spec hX0 (Nat.le_trans (by decide) hd) rfl (Nat.le_of_ble_eq_true rfl) (fun r cs1 hp => ?_)
    obtain ⟨hcs, r5, rfl, gr5, n4_0⟩ := hp
    obtain rfl := hcs.symm
    refine z_st (st' := [.int (Int32.ofInt r5)]) rfl ?_
    refine i_if_eq (tgt := 44) dX9_named_28 (by decide) gr5 (fun h6 => ?_) (fun h6 => ?_)
    · refine z_aload_n dX9_named_44 rfl rfl ?_
      refine z_ldcS (i := 17) (tx := "&gt;") (by decide +kernel) dX9_named_45 ?_
      have hX0 := kX9_comes 4 (Nat.le_refl _) hW ga0 (show 17 < xN by decide) 
      refine z_callV (As := [_]) eX9_comes sX9_comes lX9_64 rfl dX9_named_47 (hW.ob ga0 (by decide)).choose_spec hX0 (Nat.le_trans (by decide) hd) rfl (Nat.le_of_ble_eq_true rfl) (fun r cs1 hp => ?_)
      obtain ⟨hcs, r8, rfl, gr8, n7_0⟩ := hp
      obtain rfl := hcs.symm
      refine z_st (st' := [.int (Int32.ofInt r8)]) rfl ?_
      refine i_if_eq (tgt := 66) dX9_named_50 (by decide) gr8 (fun h9 => ?_) (fun h9 => ?_)
      · refine z_aload_n dX9_named_66 rfl rfl ?_
        refine z_ldcS (i := 18) (tx := "&quot;") (by decide +kernel) dX9_named_67 ?_
        have hX0 := kX9_comes 4 (Nat.le_refl _) hW ga0 (show 18 < xN by decide) 
        refine z_callV (As := [_]) eX9_comes sX9_comes lX9_64 rfl dX9_named_69 (hW.ob ga0 (by decide)).choose_spec hX0 (Nat.le_trans (by decide) hd) rfl (Nat.le_of_ble_eq_true rfl) (fun r cs1 hp => ?_)
        obtain ⟨hcs, r11, rfl, gr11, n10_0⟩ := hp
        obtain rfl := hcs.symm
        refine z_st (st' := [.int (Int32.ofInt r11)]) rfl ?_
        refine i_if_eq (tgt := 89) dX9_named_72 (by decide) gr11 (fun h12 => ?_) (fun h12 => ?_)
        · refine z_aload_n dX9_named_89 rfl rfl ?_
          refine z_ldcS (i := 19) (tx := "&apos;") (by decide +kernel) dX9_named_90 ?_
          have hX0 := kX9_comes 4 (Nat.le_refl _) hW ga0 (show 19 < xN by decide) 
          refine z_callV (As := [_]) eX9_comes sX9_comes lX9_64 rfl dX9_named_92 (hW.ob ga0 (by decide)).choose_spec hX0 (Nat.le_trans (by decide) hd) rfl (Nat.le_of_ble_eq_true rfl) (fun r cs1 hp => ?_)
          obtain ⟨hcs, r14, rfl, gr14, n13_0⟩ := hp
          obtain rfl := hcs.symm
          refine z_st (st' := [.int (Int32.ofInt r14)]) rfl ?_
          refine i_if_eq (tgt := 112) dX9_named_95 (by decide) gr14 (fun h15 => ?_) (fun h15 => ?_)
          · refine z_iconst (v := Int32.ofInt (-1)) dX9_named_112 rfl ?_
            exact z_ireturn dX9_named_113 rfl rfl (hP _ _ _ hW hX (show rng (-1) from ⟨by decide, by decide⟩) trivial)
          · refine z_aload_n dX9_named_98 rfl rfl ?_
            refine z_dup dX9_named_99 rfl ?_
            refine tw_getI hW ga0 (by decide) (by decide) rfl kX9 fX9_9 dX9_named_100 (fun x16 _ vx16 gx16 => ?_)
            refine z_bipush (v := Int32.ofInt 6) dX9_named_103 (by decide) ?_
            refine tw_iadd dX9_named_105 (fun z17 gz17 ez17 => ?_)
            first | have ez17 := ez17 ⟨by omega, by omega⟩ | clear ez17
            refine tw_putI hW hX ga0 (by decide) (by decide) rfl kX9 fX9_9 dX9_named_106 rfl rfl rfl (any_ok _) (by decide) (fun c1 q _ _ => nT hW ga0 (by decide) c1 q) (fun cs hW hX _ _ _ => ?_)
            refine z_bipush (v := Int32.ofInt 39) dX9_named_109 (by decide) ?_
            exact z_ireturn dX9_named_111 rfl rfl (hP _ _ _ hW hX (show rng 39 from ⟨by decide, by decide⟩) trivial)
        · refine z_aload_n dX9_named_75 rfl rfl ?_
          refine z_dup dX9_named_76 rfl ?_
          refine tw_getI hW ga0 (by decide) (by decide) rfl kX9 fX9_9 dX9_named_77 (fun x19 _ vx19 gx19 => ?_)
          refine z_bipush (v := Int32.ofInt 6) dX9_named_80 (by decide) ?_
          refine tw_iadd dX9_named_82 (fun z20 gz20 ez20 => ?_)
          first | have ez20 := ez20 ⟨by omega, by omega⟩ | clear ez20
          refine tw_putI hW hX ga0 (by decide) (by decide) rfl kX9 fX9_9 dX9_named_83 rfl rfl rfl (any_ok _) (by decide) (fun c1 q _ _ => nT hW ga0 (by decide) c1 q) (fun cs hW hX _ _ _ => ?_)
          refine z_bipush (v := Int32.ofInt 34) dX9_named_86 (by decide) ?_
          exact z_ireturn dX9_named_88 rfl rfl (hP _ _ _ hW hX (show rng 34 from ⟨by decide, by decide⟩) trivial)
      · refine z_aload_n dX9_named_53 rfl rfl ?_
        refine z_dup dX9_named_54 rfl ?_
        refine tw_getI hW ga0 (by decide) (by decide) rfl kX9 fX9_9 dX9_named_55 (fun x22 _ vx22 gx22 => ?_)
        refine z_iconst (v := Int32.ofInt 4) dX9_named_58 rfl ?_
        refine tw_iadd dX9_named_59 (fun z23 gz23 ez23 => ?_)
        first | have ez23 := ez23 ⟨by omega, by omega⟩ | clear ez23
        refine tw_putI hW hX ga0 (by decide) (by decide) rfl kX9 fX9_9 dX9_named_60 rfl rfl rfl (any_ok _) (by decide) (fun c1 q _ _ => nT hW ga0 (by decide) c1 q) (fun cs hW hX _ _ _ => ?_)
        refine z_bipush (v := Int32.ofInt 62) dX9_named_63 (by decide) ?_
        exact z_ireturn dX9_named_65 rfl rfl (hP _ _ _ hW hX (show rng 62 from ⟨by decide, by decide⟩) trivial)
    · refine z_aload_n dX9_named_31 rfl rfl ?_
      refine z_dup dX9_named_32 rfl ?_
      refine tw_getI hW ga0 (by decide) (by decide) rfl kX9 fX9_9 dX9_named_33 (fun x25 _ vx25 gx25 => ?_)
      refine z_iconst (v := Int32.ofInt 4) dX9_named_36 rfl ?_
      refine tw_iadd dX9_named_37 (fun z26 gz26 ez26 => ?_)
      first | have ez26 := ez26 ⟨by omega, by omega⟩ | clear ez26
      refine tw_putI hW hX ga0 (by decide) (by decide) rfl kX9 fX9_9 dX9_named_38 rfl rfl rfl (any_ok _) (by decide) (fun c1 q _ _ => nT hW ga0 (by decide) c1 q) (fun cs hW hX _ _ _ => ?_)
      refine z_bipush (v := Int32.ofInt 60) dX9_named_41 (by decide) ?_
      exact z_ireturn dX9_named_43 rfl rfl (hP _ _ _ hW hX (show rng 60 from ⟨by decide, by decide⟩) trivial)
  · refine z_aload_n dX9_named_9 rfl rfl ?_
    refine z_dup dX9_named_10 rfl ?_
    refine tw_getI hW ga0 (by decide) (by decide) rfl kX9 fX9_9 dX9_named_11 (fun x28 _ vx28 gx28 => ?_)
    refine z_iconst (v := Int32.ofInt 5) dX9_named_14 rfl ?_
    refine tw_iadd dX9_named_15 (fun z29 gz29 ez29 => ?_)
    first | have ez29 := ez29 ⟨by omega, by omega⟩ | clear ez29
    refine tw_putI hW hX ga0 (by decide) (by decide) rfl kX9 fX9_9 dX9_named_16 rfl rfl rfl (any_ok _) (by decide) (fun c1 q _ _ => nT hW ga0 (by decide) c1 q) (fun cs hW hX _ _ _ => ?_)
    refine z_bipush (v := Int32.ofInt 38) dX9_named_19 (by decide) ?_
    exact z_ireturn dX9_named_21 rfl rfl (hP _ _ _ hW hX (show rng 38 from ⟨by decide, by decide⟩) trivial)

set_option maxRecDepth 100000 in
set_option maxHeartbeats 4000000 in
theorem bX9_digit_43 {G : xG} {d : Nat} {Post : xP} {B : Nat × Nat} {τ : Tau} {cs : List va_E} {l0 : Int} {l1 : Int} (hd : 0 ≤ d) (hW : WT G B τ cs) (gl0 : rng l0) (gl1 : rng l1)   (hP : ∀ r : Int, rng r → (True) → Post (some (.int (Int32.ofInt r))) cs)  : Z (RX9, cX9_digit, 2, some .int, false) G d Post 43 [(0, .int (Int32.ofInt l0)), (1, .int (Int32.ofInt l1))] [] cs := by
  refine z_iload_n dX9_digit_43 rfl rfl ?_
  refine z_bipush (v := Int32.ofInt 16) dX9_digit_44 (by decide) ?_
  refine i_icmp_ne (tgt := 69) dX9_digit_46 (by decide) gl1 (show rng 16 from ⟨by decide, by decide⟩) (fun h1 => ?_) (fun h1 => ?_)
  · refine z_iconst (v := Int32.ofInt (-1)) dX9_digit_69 rfl ?_
    exact z_ireturn dX9_digit_70 rfl rfl (hP _ (show rng (-1) from ⟨by decide, by decide⟩) trivial)
  · refine z_iload_n dX9_digit_49 rfl rfl ?_
    refine z_bipush (v := Int32.ofInt 65) dX9_digit_50 (by decide) ?_
    refine i_icmp_lt (tgt := 69) dX9_digit_52 (by decide) gl0 (show rng 65 from ⟨by decide, by decide⟩) (fun h2 => ?_) (fun h2 => ?_)
    · refine z_iconst (v := Int32.ofInt (-1)) dX9_digit_69 rfl ?_
      exact z_ireturn dX9_digit_70 rfl rfl (hP _ (show rng (-1) from ⟨by decide, by decide⟩) trivial)
    · refine z_iload_n dX9_digit_55 rfl rfl ?_
      refine z_bipush (v := Int32.ofInt 70) dX9_digit_56 (by decide) ?_
      refine i_icmp_gt (tgt := 69) dX9_digit_58 (by decide) gl0 (show rng 70 from ⟨by decide, by decide⟩) (fun h3 => ?_) (fun h3 => ?_)
      · refine z_iconst (v := Int32.ofInt (-1)) dX9_digit_69 rfl ?_
        exact z_ireturn dX9_digit_70 rfl rfl (hP _ (show rng (-1) from ⟨by decide, by decide⟩) trivial)
      · refine z_iload_n dX9_digit_61 rfl rfl ?_
        refine z_bipush (v := Int32.ofInt 65) dX9_digit_62 (by decide) ?_
        refine tw_isub dX9_digit_64 (fun z4 gz4 ez4 => ?_)
        first | have ez4 := ez4 ⟨by omega, by omega⟩ | clear ez4
        refine z_bipush (v := Int32.ofInt 10) dX9_digit_65 (by decide) ?_
        refine tw_iadd dX9_digit_67 (fun z5 gz5 ez5 => ?_)
        first | have ez5 := ez5 ⟨by omega, by omega⟩ | clear ez5
        exact z_ireturn dX9_digit_68 rfl rfl (hP _ gz5 trivial)
set_option maxRecDepth 100000 in
set_option maxHeartbeats 4000000 in
theorem bX9_digit_17 {G : xG} {d : Nat} {Post : xP} {B : Nat × Nat} {τ : Tau} {cs : List va_E} {l0 : Int} {l1 : Int} (hd : 0 ≤ d) (hW : WT G B τ cs) (gl0 : rng l0) (gl1 : rng l1)   (hP : ∀ r : Int, rng r → (True) → Post (some (.int (Int32.ofInt r))) cs)  : Z (RX9, cX9_digit, 2, some .int, false) G d Post 17 [(0, .int (Int32.ofInt l0)), (1, .int (Int32.ofInt l1))] [] cs := by
  refine z_iload_n dX9_digit_17 rfl rfl ?_
  refine z_bipush (v := Int32.ofInt 16) dX9_digit_18 (by decide) ?_
  refine i_icmp_ne (tgt := 43) dX9_digit_20 (by decide) gl1 (show rng 16 from ⟨by decide, by decide⟩) (fun h1 => ?_) (fun h1 => ?_)
  · refine z_loc (L' := [(0, .int (Int32.ofInt l0)), (1, .int (Int32.ofInt l1))]) (List.forall_mem_cons.mpr ⟨rfl, (List.forall_mem_cons.mpr ⟨rfl, (fun _ h => nomatch h)⟩)⟩) ?_
    exact bX9_digit_43 hd hW gl0 gl1   hP 
  · refine z_iload_n dX9_digit_23 rfl rfl ?_
    refine z_bipush (v := Int32.ofInt 97) dX9_digit_24 (by decide) ?_
    refine i_icmp_lt (tgt := 43) dX9_digit_26 (by decide) gl0 (show rng 97 from ⟨by decide, by decide⟩) (fun h2 => ?_) (fun h2 => ?_)
    · refine z_loc (L' := [(0, .int (Int32.ofInt l0)), (1, .int (Int32.ofInt l1))]) (List.forall_mem_cons.mpr ⟨rfl, (List.forall_mem_cons.mpr ⟨rfl, (fun _ h => nomatch h)⟩)⟩) ?_
      exact bX9_digit_43 hd hW gl0 gl1   hP 
    · refine z_iload_n dX9_digit_29 rfl rfl ?_
      refine z_bipush (v := Int32.ofInt 102) dX9_digit_30 (by decide) ?_
      refine i_icmp_gt (tgt := 43) dX9_digit_32 (by decide) gl0 (show rng 102 from ⟨by decide, by decide⟩) (fun h3 => ?_) (fun h3 => ?_)
      · refine z_loc (L' := [(0, .int (Int32.ofInt l0)), (1, .int (Int32.ofInt l1))]) (List.forall_mem_cons.mpr ⟨rfl, (List.forall_mem_cons.mpr ⟨rfl, (fun _ h => nomatch h)⟩)⟩) ?_
        exact bX9_digit_43 hd hW gl0 gl1   hP 
      · refine z_iload_n dX9_digit_35 rfl rfl ?_
        refine z_bipush (v := Int32.ofInt 97) dX9_digit_36 (by decide) ?_
        refine tw_isub dX9_digit_38 (fun z4 gz4 ez4 => ?_)
        first | have ez4 := ez4 ⟨by omega, by omega⟩ | clear ez4
        refine z_bipush (v := Int32.ofInt 10) dX9_digit_39 (by decide) ?_
        refine tw_iadd dX9_digit_41 (fun z5 gz5 ez5 => ?_)
        first | have ez5 := ez5 ⟨by omega, by omega⟩ | clear ez5
        exact z_ireturn dX9_digit_42 rfl rfl (hP _ gz5 trivial)
set_option maxRecDepth 100000 in
set_option maxHeartbeats 4000000 in
theorem kX9_digit {G : xG} {B : Nat × Nat} {τ : Tau} {cs : List va_E} {l0 : Int} {l1 : Int} (d : Nat) (hd : 0 ≤ d) (hW : WT G B τ cs) (gl0 : rng l0) (gl1 : rng l1)  : X G yX9_digit cX9_digit 2 (some .int) d [.int (Int32.ofInt l0), .int (Int32.ofInt l1)] cs (rI cs (fun r => True)) := by
  refine X.of false (by decide +kernel) (by decide) (Nat.le_of_ble_eq_true rfl) ?_
  show Z (RX9, cX9_digit, 2, some .int, false) G d _ 0 [(0, .int (Int32.ofInt l0)), (1, .int (Int32.ofInt l1))] [] cs
  have hP : ∀ r : Int, rng r → (True) → rI cs (fun r => True) (some (.int (Int32.ofInt r))) cs := fun r h1 h2 => ⟨rfl, r, rfl, h1, h2⟩
  refine z_iload_n dX9_digit_0 rfl rfl ?_
  refine z_bipush (v := Int32.ofInt 48) dX9_digit_1 (by decide) ?_
  refine i_icmp_lt (tgt := 17) dX9_digit_3 (by decide) gl0 (show rng 48 from ⟨by decide, by decide⟩) (fun h1 => ?_) (fun h1 => ?_)
  · refine z_loc (L' := [(0, .int (Int32.ofInt l0)), (1, .int (Int32.ofInt l1))]) (List.forall_mem_cons.mpr ⟨rfl, (List.forall_mem_cons.mpr ⟨rfl, (fun _ h => nomatch h)⟩)⟩) ?_
    exact bX9_digit_17 hd hW gl0 gl1   hP 
  · refine z_iload_n dX9_digit_6 rfl rfl ?_
    refine z_bipush (v := Int32.ofInt 57) dX9_digit_7 (by decide) ?_
    refine i_icmp_gt (tgt := 17) dX9_digit_9 (by decide) gl0 (show rng 57 from ⟨by decide, by decide⟩) (fun h2 => ?_) (fun h2 => ?_)
    · refine z_loc (L' := [(0, .int (Int32.ofInt l0)), (1, .int (Int32.ofInt l1))]) (List.forall_mem_cons.mpr ⟨rfl, (List.forall_mem_cons.mpr ⟨rfl, (fun _ h => nomatch h)⟩)⟩) ?_
      exact bX9_digit_17 hd hW gl0 gl1   hP 
    · refine z_iload_n dX9_digit_12 rfl rfl ?_
      refine z_bipush (v := Int32.ofInt 48) dX9_digit_13 (by decide) ?_
      refine tw_isub dX9_digit_15 (fun z3 gz3 ez3 => ?_)
      first | have ez3 := ez3 ⟨by omega, by omega⟩ | clear ez3
      exact z_ireturn dX9_digit_16 rfl rfl (hP _ gz3 trivial)

set_option maxRecDepth 100000 in
set_option maxHeartbeats 4000000 in
theorem bX9_numbered_112 {G : xG} {d : Nat} {Post : xP} {B : Nat × Nat} {τ0 τ : Tau} {c0 cs : List va_E} {a0 pa0 : Nat} {l3 : Int} {l4 : Int} {l5 : Int} (hd : 1 ≤ d) (hW : WT G B τ cs) (hX : Fx [9] τ0 c0 τ cs) (ga0 : τ a0 = some (.inl (9, pa0))) (gl3 : rng l3) (gl4 : rng l4) (gl5 : rng l5)   (hP : ∀ (τ1 : Tau) (c1 : List va_E) (r : Int), WT G B τ1 c1 → Fx [9] τ0 c0 τ1 c1 → rng r → (True) → Post (some (.int (Int32.ofInt r))) c1)  : Z (RX9, cX9_numbered, 7, some .int, false) G d Post 112 [(0, .ref (G.1 + a0)), (3, .int (Int32.ofInt l3)), (4, .int (Int32.ofInt l4)), (5, .int (Int32.ofInt l5))] [] cs := by
  refine z_iload dX9_numbered_112 rfl ?_
  refine z_iload_n dX9_numbered_114 rfl rfl ?_
  refine i_icmp_eq (tgt := 140) dX9_numbered_115 (by decide) gl4 gl3 (fun h1 => ?_) (fun h1 => ?_)
  · refine z_iconst (v := Int32.ofInt (-1)) dX9_numbered_140 rfl ?_
    exact z_ireturn dX9_numbered_141 rfl rfl (hP _ _ _ hW hX (show rng (-1) from ⟨by decide, by decide⟩) trivial)
  · refine z_aload_n dX9_numbered_118 rfl rfl ?_
    refine tw_getO hW ga0 (by decide) (by decide) rfl kX9 fX9_24 dX9_numbered_119 (fun b2 pb2 gb2 => ?_)
    have gb2 : oT τ b2 5 := ⟨_, gb2⟩
    refine z_iload dX9_numbered_122 rfl ?_
    have hX0 := kX5_at 0 (Nat.le_refl _) hW gb2 gl4 
    refine z_callV (As := [_]) eX5_at sX5_at lX9_47 rfl dX9_numbered_124 (hW.os gb2).choose_spec hX0 (Nat.le_trans (by decide) hd) rfl (Nat.le_of_ble_eq_true rfl) (fun r cs1 hp => ?_)
    obtain ⟨hcs, r4, rfl, gr4, n3_0⟩ := hp
    obtain rfl := hcs.symm
    refine z_st (st' := [.int (Int32.ofInt r4)]) rfl ?_
    refine z_bipush (v := Int32.ofInt 59) dX9_numbered_127 (by decide) ?_
    refine i_icmp_ne (tgt := 140) dX9_numbered_129 (by decide) gr4 (show rng 59 from ⟨by decide, by decide⟩) (fun h5 => ?_) (fun h5 => ?_)
    · refine z_iconst (v := Int32.ofInt (-1)) dX9_numbered_140 rfl ?_
      exact z_ireturn dX9_numbered_141 rfl rfl (hP _ _ _ hW hX (show rng (-1) from ⟨by decide, by decide⟩) trivial)
    · refine z_iload dX9_numbered_132 rfl ?_
      have hX0 := kX10_isSign 0 (Nat.le_refl _) hW gl5 
      refine z_callSN (As := [_]) eX10_isSign sX10_isSign lX9_159 dX9_numbered_134 hX0 (Nat.le_trans (by decide) hd) rfl (Nat.le_of_ble_eq_true rfl) (fun r cs1 hp => ?_)
      obtain ⟨hcs, r7, rfl, gr7, n6_0⟩ := hp
      obtain rfl := hcs.symm
      refine z_st (st' := [.int (Int32.ofInt r7)]) rfl ?_
      refine i_if_ne (tgt := 142) dX9_numbered_137 (by decide) gr7 (fun h8 => ?_) (fun h8 => ?_)
      · refine z_aload_n dX9_numbered_142 rfl rfl ?_
        refine z_iload dX9_numbered_143 rfl ?_
        refine z_iconst (v := Int32.ofInt 1) dX9_numbered_145 rfl ?_
        refine tw_iadd dX9_numbered_146 (fun z9 gz9 ez9 => ?_)
        first | have ez9 := ez9 ⟨by omega, by omega⟩ | clear ez9
        refine tw_putI hW hX ga0 (by decide) (by decide) rfl kX9 fX9_9 dX9_numbered_147 rfl rfl rfl (any_ok _) (by decide) (fun c1 q _ _ => nT hW ga0 (by decide) c1 q) (fun cs hW hX _ _ _ => ?_)
        refine z_iload dX9_numbered_150 rfl ?_
        exact z_ireturn dX9_numbered_152 rfl rfl (hP _ _ _ hW hX gl5 trivial)
      · refine z_iconst (v := Int32.ofInt (-1)) dX9_numbered_140 rfl ?_
        exact z_ireturn dX9_numbered_141 rfl rfl (hP _ _ _ hW hX (show rng (-1) from ⟨by decide, by decide⟩) trivial)
set_option maxRecDepth 100000 in
set_option maxHeartbeats 4000000 in
theorem eX9_numbered_60 {G : xG} {d : Nat} {Post : xP} {B : Nat × Nat} {τ0 τ : Tau} {c0 cs : List va_E} {a0 pa0 : Nat} {l2 : Int} {l3 : Int} {l4 : Int} {l5 : Int} {l6 : Int} {n60 : Nat} (hd : 1 ≤ d) (hW : WT G B τ cs) (hX : Fx [9] τ0 c0 τ cs) (ga0 : τ a0 = some (.inl (9, pa0))) (gl2 : rng l2) (gl3 : rng l3) (gl4 : rng l4) (gl5 : rng l5) (gl6 : rng l6)   (hP : ∀ (τ1 : Tau) (c1 : List va_E) (r : Int), WT G B τ1 c1 → Fx [9] τ0 c0 τ1 c1 → rng r → (True) → Post (some (.int (Int32.ofInt r))) c1)  (ih_60 : ∀ {τ : Tau} {cs : List va_E} {a0 pa0 : Nat} {l2 : Int} {l3 : Int} {l4 : Int} {l5 : Int} {l6 : Int} (hW : WT G B τ cs) (hX : Fx [9] τ0 c0 τ cs) (ga0 : τ a0 = some (.inl (9, pa0))) (gl2 : rng l2) (gl3 : rng l3) (gl4 : rng l4) (gl5 : rng l5) (gl6 : rng l6)  , (6 - l6).toNat < n60 → Z (RX9, cX9_numbered, 7, some .int, false) G d Post 60 [(0, .ref (G.1 + a0)), (2, .int (Int32.ofInt l2)), (3, .int (Int32.ofInt l3)), (4, .int (Int32.ofInt l4)), (5, .int (Int32.ofInt l5)), (6, .int (Int32.ofInt l6))] [] cs) (hm_60 : (6 - l6).toNat < n60 + 1) : Z (RX9, cX9_numbered, 7, some .int, false) G d Post 60 [(0, .ref (G.1 + a0)), (2, .int (Int32.ofInt l2)), (3, .int (Int32.ofInt l3)), (4, .int (Int32.ofInt l4)), (5, .int (Int32.ofInt l5)), (6, .int (Int32.ofInt l6))] [] cs := by
  refine z_iload dX9_numbered_60 rfl ?_
  refine z_bipush (v := Int32.ofInt 6) dX9_numbered_62 (by decide) ?_
  refine i_icmp_ge (tgt := 112) dX9_numbered_64 (by decide) gl6 (show rng 6 from ⟨by decide, by decide⟩) (fun h1 => ?_) (fun h1 => ?_)
  · refine z_loc (L' := [(0, .ref (G.1 + a0)), (3, .int (Int32.ofInt l3)), (4, .int (Int32.ofInt l4)), (5, .int (Int32.ofInt l5))]) (List.forall_mem_cons.mpr ⟨rfl, (List.forall_mem_cons.mpr ⟨rfl, (List.forall_mem_cons.mpr ⟨rfl, (List.forall_mem_cons.mpr ⟨rfl, (fun _ h => nomatch h)⟩)⟩)⟩)⟩) ?_
    exact bX9_numbered_112 hd hW hX ga0 gl3 gl4 gl5   hP 
  · refine z_aload_n dX9_numbered_67 rfl rfl ?_
    refine tw_getO hW ga0 (by decide) (by decide) rfl kX9 fX9_24 dX9_numbered_68 (fun b2 pb2 gb2 => ?_)
    have gb2 : oT τ b2 5 := ⟨_, gb2⟩
    refine z_iload dX9_numbered_71 rfl ?_
    have hX0 := kX5_at 0 (Nat.le_refl _) hW gb2 gl4 
    refine z_callV (As := [_]) eX5_at sX5_at lX9_47 rfl dX9_numbered_73 (hW.os gb2).choose_spec hX0 (Nat.le_trans (by decide) hd) rfl (Nat.le_of_ble_eq_true rfl) (fun r cs1 hp => ?_)
    obtain ⟨hcs, r4, rfl, gr4, n3_0⟩ := hp
    obtain rfl := hcs.symm
    refine z_st (st' := [.int (Int32.ofInt r4)]) rfl ?_
    refine z_iload_n dX9_numbered_76 rfl rfl ?_
    have hX0 := kX9_digit 0 (Nat.le_refl _) hW gr4 gl2 
    refine z_callS (As := [_, _]) eX9_digit sX9_digit lX9_155 dX9_numbered_77 hX0 (Nat.le_trans (by decide) hd) rfl (Nat.le_of_ble_eq_true rfl) (fun r cs1 hp => ?_)
    obtain ⟨hcs, r6, rfl, gr6, _⟩ := hp
    obtain rfl := hcs.symm
    refine z_st (st' := [.int (Int32.ofInt r6)]) rfl ?_
    refine i_if_lt (tgt := 112) dX9_numbered_80 (by decide) gr6 (fun h7 => ?_) (fun h7 => ?_)
    · refine z_loc (L' := [(0, .ref (G.1 + a0)), (3, .int (Int32.ofInt l3)), (4, .int (Int32.ofInt l4)), (5, .int (Int32.ofInt l5))]) (List.forall_mem_cons.mpr ⟨rfl, (List.forall_mem_cons.mpr ⟨rfl, (List.forall_mem_cons.mpr ⟨rfl, (List.forall_mem_cons.mpr ⟨rfl, (fun _ h => nomatch h)⟩)⟩)⟩)⟩) ?_
      exact bX9_numbered_112 hd hW hX ga0 gl3 gl4 gl5   hP 
    · refine z_iload dX9_numbered_83 rfl ?_
      refine z_iload_n dX9_numbered_85 rfl rfl ?_
      refine tw_imul dX9_numbered_86 (fun z8 gz8 ez8 => ?_)
      first | have ez8 := ez8 ⟨by omega, by omega⟩ | clear ez8
      refine z_aload_n dX9_numbered_87 rfl rfl ?_
      refine tw_getO hW ga0 (by decide) (by decide) rfl kX9 fX9_24 dX9_numbered_88 (fun b9 pb9 gb9 => ?_)
      have gb9 : oT τ b9 5 := ⟨_, gb9⟩
      refine z_iload dX9_numbered_91 rfl ?_
      have hX0 := kX5_at 0 (Nat.le_refl _) hW gb9 gl4 
      refine z_callV (As := [_]) eX5_at sX5_at lX9_47 rfl dX9_numbered_93 (hW.os gb9).choose_spec hX0 (Nat.le_trans (by decide) hd) rfl (Nat.le_of_ble_eq_true rfl) (fun r cs1 hp => ?_)
      obtain ⟨hcs, r11, rfl, gr11, n10_0⟩ := hp
      obtain rfl := hcs.symm
      refine z_st (st' := [.int (Int32.ofInt r11), .int (Int32.ofInt z8)]) rfl ?_
      refine z_iload_n dX9_numbered_96 rfl rfl ?_
      have hX0 := kX9_digit 0 (Nat.le_refl _) hW gr11 gl2 
      refine z_callS (As := [_, _]) eX9_digit sX9_digit lX9_155 dX9_numbered_97 hX0 (Nat.le_trans (by decide) hd) rfl (Nat.le_of_ble_eq_true rfl) (fun r cs1 hp => ?_)
      obtain ⟨hcs, r13, rfl, gr13, _⟩ := hp
      obtain rfl := hcs.symm
      refine z_st (st' := [.int (Int32.ofInt r13), .int (Int32.ofInt z8)]) rfl ?_
      refine tw_iadd dX9_numbered_100 (fun z14 gz14 ez14 => ?_)
      first | have ez14 := ez14 ⟨by omega, by omega⟩ | clear ez14
      refine z_istore dX9_numbered_101 (by decide) ?_
      refine z_loc (L' := [(0, .ref (G.1 + a0)), (2, .int (Int32.ofInt l2)), (3, .int (Int32.ofInt l3)), (4, .int (Int32.ofInt l4)), (5, .int (Int32.ofInt z14)), (6, .int (Int32.ofInt l6))]) (List.forall_mem_cons.mpr ⟨rfl, (List.forall_mem_cons.mpr ⟨rfl, (List.forall_mem_cons.mpr ⟨rfl, (List.forall_mem_cons.mpr ⟨rfl, (List.forall_mem_cons.mpr ⟨rfl, (List.forall_mem_cons.mpr ⟨rfl, (fun _ h => nomatch h)⟩)⟩)⟩)⟩)⟩)⟩) ?_
      refine tw_iinc (l := l4) dX9_numbered_103 rfl (by decide) (fun z15 gz15 ez15 => ?_)
      first | have ez15 := ez15 ⟨by omega, by omega⟩ | clear ez15
      refine z_loc (L' := [(0, .ref (G.1 + a0)), (2, .int (Int32.ofInt l2)), (3, .int (Int32.ofInt l3)), (4, .int (Int32.ofInt z15)), (5, .int (Int32.ofInt z14)), (6, .int (Int32.ofInt l6))]) (List.forall_mem_cons.mpr ⟨rfl, (List.forall_mem_cons.mpr ⟨rfl, (List.forall_mem_cons.mpr ⟨rfl, (List.forall_mem_cons.mpr ⟨rfl, (List.forall_mem_cons.mpr ⟨rfl, (List.forall_mem_cons.mpr ⟨rfl, (fun _ h => nomatch h)⟩)⟩)⟩)⟩)⟩)⟩) ?_
      refine tw_iinc (l := l6) dX9_numbered_106 rfl (by decide) (fun z16 gz16 ez16 => ?_)
      first | have ez16 := ez16 ⟨by omega, by omega⟩ | clear ez16
      refine z_loc (L' := [(0, .ref (G.1 + a0)), (2, .int (Int32.ofInt l2)), (3, .int (Int32.ofInt l3)), (4, .int (Int32.ofInt z15)), (5, .int (Int32.ofInt z14)), (6, .int (Int32.ofInt z16))]) (List.forall_mem_cons.mpr ⟨rfl, (List.forall_mem_cons.mpr ⟨rfl, (List.forall_mem_cons.mpr ⟨rfl, (List.forall_mem_cons.mpr ⟨rfl, (List.forall_mem_cons.mpr ⟨rfl, (List.forall_mem_cons.mpr ⟨rfl, (fun _ h => nomatch h)⟩)⟩)⟩)⟩)⟩)⟩) ?_
      refine z_goto (tgt := 60) dX9_numbered_109 (by decide) ?_
      refine z_loc (L' := [(0, .ref (G.1 + a0)), (2, .int (Int32.ofInt l2)), (3, .int (Int32.ofInt l3)), (4, .int (Int32.ofInt z15)), (5, .int (Int32.ofInt z14)), (6, .int (Int32.ofInt z16))]) (List.forall_mem_cons.mpr ⟨rfl, (List.forall_mem_cons.mpr ⟨rfl, (List.forall_mem_cons.mpr ⟨rfl, (List.forall_mem_cons.mpr ⟨rfl, (List.forall_mem_cons.mpr ⟨rfl, (List.forall_mem_cons.mpr ⟨rfl, (fun _ h => nomatch h)⟩)⟩)⟩)⟩)⟩)⟩) ?_
      exact ih_60 hW hX ga0 gl2 gl3 gz15 gz14 gz16   (by omega)
set_option maxRecDepth 100000 in
set_option maxHeartbeats 4000000 in
theorem bX9_numbered_60 {G : xG} {d : Nat} {Post : xP} {B : Nat × Nat} {τ0 τ : Tau} {c0 cs : List va_E} {a0 pa0 : Nat} {l2 : Int} {l3 : Int} {l4 : Int} {l5 : Int} {l6 : Int} (hd : 1 ≤ d) (hW : WT G B τ cs) (hX : Fx [9] τ0 c0 τ cs) (ga0 : τ a0 = some (.inl (9, pa0))) (gl2 : rng l2) (gl3 : rng l3) (gl4 : rng l4) (gl5 : rng l5) (gl6 : rng l6)   (hP : ∀ (τ1 : Tau) (c1 : List va_E) (r : Int), WT G B τ1 c1 → Fx [9] τ0 c0 τ1 c1 → rng r → (True) → Post (some (.int (Int32.ofInt r))) c1)  : Z (RX9, cX9_numbered, 7, some .int, false) G d Post 60 [(0, .ref (G.1 + a0)), (2, .int (Int32.ofInt l2)), (3, .int (Int32.ofInt l3)), (4, .int (Int32.ofInt l4)), (5, .int (Int32.ofInt l5)), (6, .int (Int32.ofInt l6))] [] cs := by
  have key : ∀ (n : Nat) (τ : Tau) (cs : List va_E) (a0 pa0 : Nat) (l2 : Int) (l3 : Int) (l4 : Int) (l5 : Int) (l6 : Int) (hW : WT G B τ cs) (hX : Fx [9] τ0 c0 τ cs) (ga0 : τ a0 = some (.inl (9, pa0))) (gl2 : rng l2) (gl3 : rng l3) (gl4 : rng l4) (gl5 : rng l5) (gl6 : rng l6)  , (6 - l6).toNat < n → Z (RX9, cX9_numbered, 7, some .int, false) G d Post 60 [(0, .ref (G.1 + a0)), (2, .int (Int32.ofInt l2)), (3, .int (Int32.ofInt l3)), (4, .int (Int32.ofInt l4)), (5, .int (Int32.ofInt l5)), (6, .int (Int32.ofInt l6))] [] cs := by
    intro n
    induction n with
    | zero => intro τ cs a0 pa0 l2 l3 l4 l5 l6 hW hX ga0 gl2 gl3 gl4 gl5 gl6 hm; exact absurd hm (Nat.not_lt_zero _)
    | succ n ih =>
      intro τ cs a0 pa0 l2 l3 l4 l5 l6 hW hX ga0 gl2 gl3 gl4 gl5 gl6 hm
      exact eX9_numbered_60 hd hW hX ga0 gl2 gl3 gl4 gl5 gl6 hP  (fun hW hX ga0 gl2 gl3 gl4 gl5 gl6 hm => ih _ _ _ _ _ _ _ _ _ hW hX ga0 gl2 gl3 gl4 gl5 gl6 hm) hm
  exact key _ _ _ _ _ _ _ _ _ _ hW hX ga0 gl2 gl3 gl4 gl5 gl6 (Nat.lt_succ_self _)
set_option maxRecDepth 100000 in
set_option maxHeartbeats 4000000 in
theorem bX9_numbered_49 {G : xG} {d : Nat} {Post : xP} {B : Nat × Nat} {τ0 τ : Tau} {c0 cs : List va_E} {a0 pa0 : Nat} {l2 : Int} {s0 : Int} {s1 : Int} (hd : 1 ≤ d) (hW : WT G B τ cs) (hX : Fx [9] τ0 c0 τ cs) (ga0 : τ a0 = some (.inl (9, pa0))) (gl2 : rng l2) (gs0 : rng s0) (gs1 : rng s1)   (hP : ∀ (τ1 : Tau) (c1 : List va_E) (r : Int), WT G B τ1 c1 → Fx [9] τ0 c0 τ1 c1 → rng r → (True) → Post (some (.int (Int32.ofInt r))) c1)  : Z (RX9, cX9_numbered, 7, some .int, false) G d Post 49 [(0, .ref (G.1 + a0)), (2, .int (Int32.ofInt l2))] [.int (Int32.ofInt s0), .int (Int32.ofInt s1)] cs := by
  refine tw_iadd dX9_numbered_49 (fun z1 gz1 ez1 => ?_)
  first | have ez1 := ez1 ⟨by omega, by omega⟩ | clear ez1
  refine z_istore_n dX9_numbered_50 rfl (by decide) ?_
  refine z_loc (L' := [(0, .ref (G.1 + a0)), (2, .int (Int32.ofInt l2)), (3, .int (Int32.ofInt z1))]) (List.forall_mem_cons.mpr ⟨rfl, (List.forall_mem_cons.mpr ⟨rfl, (List.forall_mem_cons.mpr ⟨rfl, (fun _ h => nomatch h)⟩)⟩)⟩) ?_
  refine z_iload_n dX9_numbered_51 rfl rfl ?_
  refine z_istore dX9_numbered_52 (by decide) ?_
  refine z_loc (L' := [(0, .ref (G.1 + a0)), (2, .int (Int32.ofInt l2)), (3, .int (Int32.ofInt z1)), (4, .int (Int32.ofInt z1))]) (List.forall_mem_cons.mpr ⟨rfl, (List.forall_mem_cons.mpr ⟨rfl, (List.forall_mem_cons.mpr ⟨rfl, (List.forall_mem_cons.mpr ⟨rfl, (fun _ h => nomatch h)⟩)⟩)⟩)⟩) ?_
  refine z_iconst (v := Int32.ofInt 0) dX9_numbered_54 rfl ?_
  refine z_istore dX9_numbered_55 (by decide) ?_
  refine z_loc (L' := [(0, .ref (G.1 + a0)), (2, .int (Int32.ofInt l2)), (3, .int (Int32.ofInt z1)), (4, .int (Int32.ofInt z1)), (5, .int (Int32.ofInt 0))]) (List.forall_mem_cons.mpr ⟨rfl, (List.forall_mem_cons.mpr ⟨rfl, (List.forall_mem_cons.mpr ⟨rfl, (List.forall_mem_cons.mpr ⟨rfl, (List.forall_mem_cons.mpr ⟨rfl, (fun _ h => nomatch h)⟩)⟩)⟩)⟩)⟩) ?_
  refine z_iconst (v := Int32.ofInt 0) dX9_numbered_57 rfl ?_
  refine z_istore dX9_numbered_58 (by decide) ?_
  refine z_loc (L' := [(0, .ref (G.1 + a0)), (2, .int (Int32.ofInt l2)), (3, .int (Int32.ofInt z1)), (4, .int (Int32.ofInt z1)), (5, .int (Int32.ofInt 0)), (6, .int (Int32.ofInt 0))]) (List.forall_mem_cons.mpr ⟨rfl, (List.forall_mem_cons.mpr ⟨rfl, (List.forall_mem_cons.mpr ⟨rfl, (List.forall_mem_cons.mpr ⟨rfl, (List.forall_mem_cons.mpr ⟨rfl, (List.forall_mem_cons.mpr ⟨rfl, (fun _ h => nomatch h)⟩)⟩)⟩)⟩)⟩)⟩) ?_
  refine z_loc (L' := [(0, .ref (G.1 + a0)), (2, .int (Int32.ofInt l2)), (3, .int (Int32.ofInt z1)), (4, .int (Int32.ofInt z1)), (5, .int (Int32.ofInt 0)), (6, .int (Int32.ofInt 0))]) (List.forall_mem_cons.mpr ⟨rfl, (List.forall_mem_cons.mpr ⟨rfl, (List.forall_mem_cons.mpr ⟨rfl, (List.forall_mem_cons.mpr ⟨rfl, (List.forall_mem_cons.mpr ⟨rfl, (List.forall_mem_cons.mpr ⟨rfl, (fun _ h => nomatch h)⟩)⟩)⟩)⟩)⟩)⟩) ?_
  exact bX9_numbered_60 hd hW hX ga0 gl2 gz1 gz1 (show rng 0 from ⟨by decide, by decide⟩) (show rng 0 from ⟨by decide, by decide⟩)   hP 
set_option maxRecDepth 100000 in
set_option maxHeartbeats 4000000 in
theorem bX9_numbered_35 {G : xG} {d : Nat} {Post : xP} {B : Nat × Nat} {τ0 τ : Tau} {c0 cs : List va_E} {a0 pa0 : Nat} {l1 : Int} {s0 : Int} (hd : 1 ≤ d) (hW : WT G B τ cs) (hX : Fx [9] τ0 c0 τ cs) (ga0 : τ a0 = some (.inl (9, pa0))) (gl1 : rng l1) (bl1 : iv 0 1 l1) (gs0 : rng s0)   (hP : ∀ (τ1 : Tau) (c1 : List va_E) (r : Int), WT G B τ1 c1 → Fx [9] τ0 c0 τ1 c1 → rng r → (True) → Post (some (.int (Int32.ofInt r))) c1)  : Z (RX9, cX9_numbered, 7, some .int, false) G d Post 35 [(0, .ref (G.1 + a0)), (1, .int (Int32.ofInt l1))] [.int (Int32.ofInt s0)] cs := by
  refine z_istore_n dX9_numbered_35 rfl (by decide) ?_
  refine z_loc (L' := [(0, .ref (G.1 + a0)), (1, .int (Int32.ofInt l1)), (2, .int (Int32.ofInt s0))]) (List.forall_mem_cons.mpr ⟨rfl, (List.forall_mem_cons.mpr ⟨rfl, (List.forall_mem_cons.mpr ⟨rfl, (fun _ h => nomatch h)⟩)⟩)⟩) ?_
  refine z_aload_n dX9_numbered_36 rfl rfl ?_
  refine tw_getI hW ga0 (by decide) (by decide) rfl kX9 fX9_9 dX9_numbered_37 (fun x1 _ vx1 gx1 => ?_)
  refine z_iload_n dX9_numbered_40 rfl rfl ?_
  refine i_if_eq (tgt := 48) dX9_numbered_41 (by decide) gl1 (fun h2 => ?_) (fun h2 => ?_)
  · refine z_iconst (v := Int32.ofInt 2) dX9_numbered_48 rfl ?_
    refine z_loc (L' := [(0, .ref (G.1 + a0)), (2, .int (Int32.ofInt s0))]) (List.forall_mem_cons.mpr ⟨rfl, (List.forall_mem_cons.mpr ⟨rfl, (fun _ h => nomatch h)⟩)⟩) ?_
    exact bX9_numbered_49 hd hW hX ga0 gs0 (show rng 2 from ⟨by decide, by decide⟩) gx1   hP 
  · refine z_iconst (v := Int32.ofInt 3) dX9_numbered_44 rfl ?_
    refine z_goto (tgt := 49) dX9_numbered_45 (by decide) ?_
    refine z_loc (L' := [(0, .ref (G.1 + a0)), (2, .int (Int32.ofInt s0))]) (List.forall_mem_cons.mpr ⟨rfl, (List.forall_mem_cons.mpr ⟨rfl, (fun _ h => nomatch h)⟩)⟩) ?_
    exact bX9_numbered_49 hd hW hX ga0 gs0 (show rng 3 from ⟨by decide, by decide⟩) gx1   hP 
set_option maxRecDepth 100000 in
set_option maxHeartbeats 4000000 in
theorem bX9_numbered_23 {G : xG} {d : Nat} {Post : xP} {B : Nat × Nat} {τ0 τ : Tau} {c0 cs : List va_E} {a0 pa0 : Nat} {s0 : Int} (hd : 1 ≤ d) (hW : WT G B τ cs) (hX : Fx [9] τ0 c0 τ cs) (ga0 : τ a0 = some (.inl (9, pa0))) (gs0 : rng s0) (bs0 : iv 0 1 s0)   (hP : ∀ (τ1 : Tau) (c1 : List va_E) (r : Int), WT G B τ1 c1 → Fx [9] τ0 c0 τ1 c1 → rng r → (True) → Post (some (.int (Int32.ofInt r))) c1)  : Z (RX9, cX9_numbered, 7, some .int, false) G d Post 23 [(0, .ref (G.1 + a0))] [.int (Int32.ofInt s0)] cs := by
  refine z_istore_n dX9_numbered_23 rfl (by decide) ?_
  refine z_loc (L' := [(0, .ref (G.1 + a0)), (1, .int (Int32.ofInt s0))]) (List.forall_mem_cons.mpr ⟨rfl, (List.forall_mem_cons.mpr ⟨rfl, (fun _ h => nomatch h)⟩)⟩) ?_
  refine z_iload_n dX9_numbered_24 rfl rfl ?_
  refine i_if_eq (tgt := 33) dX9_numbered_25 (by decide) gs0 (fun h1 => ?_) (fun h1 => ?_)
  · refine z_bipush (v := Int32.ofInt 10) dX9_numbered_33 (by decide) ?_
    refine z_loc (L' := [(0, .ref (G.1 + a0)), (1, .int (Int32.ofInt s0))]) (List.forall_mem_cons.mpr ⟨rfl, (List.forall_mem_cons.mpr ⟨rfl, (fun _ h => nomatch h)⟩)⟩) ?_
    exact bX9_numbered_35 hd hW hX ga0 gs0 (by omega) (show rng 10 from ⟨by decide, by decide⟩)   hP 
  · refine z_bipush (v := Int32.ofInt 16) dX9_numbered_28 (by decide) ?_
    refine z_goto (tgt := 35) dX9_numbered_30 (by decide) ?_
    refine z_loc (L' := [(0, .ref (G.1 + a0)), (1, .int (Int32.ofInt s0))]) (List.forall_mem_cons.mpr ⟨rfl, (List.forall_mem_cons.mpr ⟨rfl, (fun _ h => nomatch h)⟩)⟩) ?_
    exact bX9_numbered_35 hd hW hX ga0 gs0 (by omega) (show rng 16 from ⟨by decide, by decide⟩)   hP 
set_option maxRecDepth 100000 in
set_option maxHeartbeats 4000000 in
theorem kX9_numbered {G : xG} {B : Nat × Nat} {τ : Tau} {cs : List va_E} {a0 pa0 : Nat} (d : Nat) (hd : 1 ≤ d) (hW : WT G B τ cs) (ga0 : τ a0 = some (.inl (9, pa0)))  : X G yX9_numbered cX9_numbered 7 (some .int) d [.ref (G.1 + a0)] cs (wI G B τ cs [9] (fun r => True)) := by
  refine X.of false (by decide +kernel) (by decide) (Nat.le_of_ble_eq_true rfl) ?_
  show Z (RX9, cX9_numbered, 7, some .int, false) G d _ 0 [(0, .ref (G.1 + a0))] [] cs
  have hP : ∀ (τ1 : Tau) (c1 : List va_E) (r : Int), WT G B τ1 c1 → Fx [9] τ cs τ1 c1 → rng r → (True) → wI G B τ cs [9] (fun r => True) (some (.int (Int32.ofInt r))) c1 := fun τ1 c1 r h1 h2 h3 h4 => ⟨τ1, r, rfl, h3, h1, h2, h4⟩
  have hX : Fx [9] τ cs τ cs := Fx.rf
  skip
  refine z_aload_n dX9_numbered_0 rfl rfl ?_
  refine tw_getO hW ga0 (by decide) (by decide) rfl kX9 fX9_24 dX9_numbered_1 (fun b1 pb1 gb1 => ?_)
  have gb1 : oT τ b1 5 := ⟨_, gb1⟩
  refine z_aload_n dX9_numbered_4 rfl rfl ?_
  refine tw_getI hW ga0 (by decide) (by decide) rfl kX9 fX9_9 dX9_numbered_5 (fun x2 _ vx2 gx2 => ?_)
  refine z_iconst (v := Int32.ofInt 2) dX9_numbered_8 rfl ?_
  refine tw_iadd dX9_numbered_9 (fun z3 gz3 ez3 => ?_)
  first | have ez3 := ez3 ⟨by omega, by omega⟩ | clear ez3
  have hX0 := kX5_at 0 (Nat.le_refl _) hW gb1 gz3 
  refine z_callV (As := [_]) eX5_at sX5_at lX9_47 rfl dX9_numbered_10 (hW.os gb1).choose_spec hX0 (Nat.le_trans (by decide) hd) rfl (Nat.le_of_ble_eq_true rfl) (fun r cs1 hp => ?_)
  obtain ⟨hcs, r5, rfl, gr5, n4_0⟩ := hp
  obtain rfl := hcs.symm
  refine z_st (st' := [.int (Int32.ofInt r5)]) rfl ?_
  refine z_bipush (v := Int32.ofInt 120) dX9_numbered_13 (by decide) ?_
  refine i_icmp_ne (tgt := 22) dX9_numbered_15 (by decide) gr5 (show rng 120 from ⟨by decide, by decide⟩) (fun h6 => ?_) (fun h6 => ?_)
  · refine z_iconst (v := Int32.ofInt 0) dX9_numbered_22 rfl ?_
    refine z_loc (L' := [(0, .ref (G.1 + a0))]) (List.forall_mem_cons.mpr ⟨rfl, (fun _ h => nomatch h)⟩) ?_
    exact bX9_numbered_23 hd hW hX ga0 (show rng 0 from ⟨by decide, by decide⟩) ⟨by decide, by decide⟩   hP 
  · refine z_iconst (v := Int32.ofInt 1) dX9_numbered_18 rfl ?_
    refine z_goto (tgt := 23) dX9_numbered_19 (by decide) ?_
    refine z_loc (L' := [(0, .ref (G.1 + a0))]) (List.forall_mem_cons.mpr ⟨rfl, (fun _ h => nomatch h)⟩) ?_
    exact bX9_numbered_23 hd hW hX ga0 (show rng 1 from ⟨by decide, by decide⟩) ⟨by decide, by decide⟩   hP 

