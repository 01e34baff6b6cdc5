set_option maxRecDepth 100000 in
set_option maxHeartbeats 4000000 in
theorem eJ7_fill_53178_5 {G : xG} {d : Nat} {Post : xP} {B : Nat × Nat} {τ0 τ : Tau} {c0 cs : List va_E} {a0 : Nat} {l1 : Int} {l2 : Int} {l3 : Int} {n5 : Nat} (hd : 0 ≤ d) (hW : WT G B τ cs) (hX : Fx [] τ0 c0 τ cs) (ga0 : τ a0 = some (.inr (0, 30, (-2147483648), 2147483647))) (gl1 : rng l1) (gl2 : rng l2) (gl3 : rng l3) (i0 : 0 ≤ l2) (i1 : l3 = 30)  (hP : ∀ (τ1 : Tau) (c1 : List va_E), WT G B τ1 c1 → Fx [] τ0 c0 τ1 c1 → Post none c1)  (ih_5 : ∀ {τ : Tau} {cs : List va_E} {a0 : Nat} {l1 : Int} {l2 : Int} {l3 : Int} (hW : WT G B τ cs) (hX : Fx [] τ0 c0 τ cs) (ga0 : τ a0 = some (.inr (0, 30, (-2147483648), 2147483647))) (gl1 : rng l1) (gl2 : rng l2) (gl3 : rng l3) (i0 : 0 ≤ l2) (i1 : l3 = 30) , (30 - l2).toNat < n5 → Z (RJ7, cJ7_fill_53178, 4, none, false) G d Post 5 [(0, .ref (G.1 + a0)), (1, .int (Int32.ofInt l1)), (2, .int (Int32.ofInt l2)), (3, .int (Int32.ofInt l3))] [] cs) (hm_5 : (30 - l2).toNat < n5 + 1) : Z (RJ7, cJ7_fill_53178, 4, none, false) G d Post 5 [(0, .ref (G.1 + a0)), (1, .int (Int32.ofInt l1)), (2, .int (Int32.ofInt l2)), (3, .int (Int32.ofInt l3))] [] cs := by
  refine z_iload_n dJ7_fill_53178_5 rfl rfl ?_
  refine z_iload_n dJ7_fill_53178_6 rfl rfl ?_
  refine i_icmp_ge (tgt := 20) dJ7_fill_53178_7 (by decide) gl2 gl3 (fun h1 => ?_) (fun h1 => ?_)
  · exact z_return dJ7_fill_53178_20 rfl (hP _ _ hW hX)
  · refine z_aload_n dJ7_fill_53178_10 rfl rfl ?_
    refine z_iload_n dJ7_fill_53178_11 rfl rfl ?_
    refine z_iload_n dJ7_fill_53178_12 rfl rfl ?_
    refine tw_iast hW hX ga0 (by omega) (by omega) (any_ok _) (Or.inl rfl) dJ7_fill_53178_13 (fun c1 q _ => nA hW ga0 (show (2147483647 : Int) ≠ 600 by decide) (show (2147483647 : Int) ≠ 601 by decide) c1 q) (fun cs hW hX _ _ => ?_)
    refine tw_iinc (l := l2) dJ7_fill_53178_14 rfl (by decide) (fun z2 gz2 ez2 => ?_)
    first | have ez2 := ez2 ⟨by omega, by omega⟩ | clear ez2
    refine z_loc (L' := [(0, .ref (G.1 + a0)), (1, .int (Int32.ofInt l1)), (2, .int (Int32.ofInt z2)), (3, .int (Int32.ofInt l3))]) (List.forall_mem_cons.mpr ⟨rfl, (List.forall_mem_cons.mpr ⟨rfl, (List.forall_mem_cons.mpr ⟨rfl, (List.forall_mem_cons.mpr ⟨rfl, (fun _ h => nomatch h)⟩)⟩)⟩)⟩) ?_
    refine z_goto (tgt := 5) dJ7_fill_53178_17 (by decide) ?_
    refine z_loc (L' := [(0, .ref (G.1 + a0)), (1, .int (Int32.ofInt l1)), (2, .int (Int32.ofInt z2)), (3, .int (Int32.ofInt l3))]) (List.forall_mem_cons.mpr ⟨rfl, (List.forall_mem_cons.mpr ⟨rfl, (List.forall_mem_cons.mpr ⟨rfl, (List.forall_mem_cons.mpr ⟨rfl, (fun _ h => nomatch h)⟩)⟩)⟩)⟩) ?_
    exact ih_5 hW hX ga0 gl1 gz2 gl3 (by omega) (by omega)  (by omega)
set_option maxRecDepth 100000 in
set_option maxHeartbeats 4000000 in
theorem bJ7_fill_53178_5 {G : xG} {d : Nat} {Post : xP} {B : Nat × Nat} {τ0 τ : Tau} {c0 cs : List va_E} {a0 : Nat} {l1 : Int} {l2 : Int} {l3 : Int} (hd : 0 ≤ d) (hW : WT G B τ cs) (hX : Fx [] τ0 c0 τ cs) (ga0 : τ a0 = some (.inr (0, 30, (-2147483648), 2147483647))) (gl1 : rng l1) (gl2 : rng l2) (gl3 : rng l3) (i0 : 0 ≤ l2) (i1 : l3 = 30)  (hP : ∀ (τ1 : Tau) (c1 : List va_E), WT G B τ1 c1 → Fx [] τ0 c0 τ1 c1 → Post none c1)  : Z (RJ7, cJ7_fill_53178, 4, none, false) G d Post 5 [(0, .ref (G.1 + a0)), (1, .int (Int32.ofInt l1)), (2, .int (Int32.ofInt l2)), (3, .int (Int32.ofInt l3))] [] cs := by
  have key : ∀ (n : Nat) (τ : Tau) (cs : List va_E) (a0 : Nat) (l1 : Int) (l2 : Int) (l3 : Int) (hW : WT G B τ cs) (hX : Fx [] τ0 c0 τ cs) (ga0 : τ a0 = some (.inr (0, 30, (-2147483648), 2147483647))) (gl1 : rng l1) (gl2 : rng l2) (gl3 : rng l3) (i0 : 0 ≤ l2) (i1 : l3 = 30) , (30 - l2).toNat < n → Z (RJ7, cJ7_fill_53178, 4, none, false) G d Post 5 [(0, .ref (G.1 + a0)), (1, .int (Int32.ofInt l1)), (2, .int (Int32.ofInt l2)), (3, .int (Int32.ofInt l3))] [] cs := by
    intro n
    induction n with
    | zero => intro τ cs a0 l1 l2 l3 hW hX ga0 gl1 gl2 gl3 i0 i1 hm; exact absurd hm (Nat.not_lt_zero _)
    | succ n ih =>
      intro τ cs a0 l1 l2 l3 hW hX ga0 gl1 gl2 gl3 i0 i1 hm
      exact eJ7_fill_53178_5 hd hW hX ga0 gl1 gl2 gl3 i0 i1 hP  (fun hW hX ga0 gl1 gl2 gl3 i0 i1 hm => ih _ _ _ _ _ _ hW hX ga0 gl1 gl2 gl3 i0 i1 hm) hm
  exact key _ _ _ _ _ _ _ hW hX ga0 gl1 gl2 gl3 i0 i1 (Nat.lt_succ_self _)
set_option maxRecDepth 100000 in
set_option maxHeartbeats 4000000 in
theorem kJ7_fill_53178 {G : xG} {B : Nat × Nat} {τ : Tau} {cs : List va_E} {a0 : Nat} {l1 : Int} (d : Nat) (hd : 0 ≤ d) (hW : WT G B τ cs) (ga0 : τ a0 = some (.inr (0, 30, (-2147483648), 2147483647))) (gl1 : rng l1)  : X G yJ7_fill_53178 cJ7_fill_53178 4 none d [.ref (G.1 + a0), .int (Int32.ofInt l1)] cs (wN G B τ cs []) := by
  refine X.of false (by decide +kernel) (by decide) (Nat.le_of_ble_eq_true rfl) ?_
  show Z (RJ7, cJ7_fill_53178, 4, none, false) G d _ 0 [(0, .ref (G.1 + a0)), (1, .int (Int32.ofInt l1))] [] cs
  have hP : ∀ (τ1 : Tau) (c1 : List va_E), WT G B τ1 c1 → Fx [] τ cs τ1 c1 → wN G B τ cs [] none c1 := fun τ1 c1 h1 h2 => ⟨τ1, rfl, h1, h2⟩
  have hX : Fx [] τ cs τ cs := Fx.rf
  skip
  refine z_iconst (v := Int32.ofInt 0) dJ7_fill_53178_0 rfl ?_
  refine z_istore_n dJ7_fill_53178_1 rfl (by decide) ?_
  refine z_loc (L' := [(0, .ref (G.1 + a0)), (1, .int (Int32.ofInt l1)), (2, .int (Int32.ofInt 0))]) (List.forall_mem_cons.mpr ⟨rfl, (List.forall_mem_cons.mpr ⟨rfl, (List.forall_mem_cons.mpr ⟨rfl, (fun _ h => nomatch h)⟩)⟩)⟩) ?_
  refine z_aload_n dJ7_fill_53178_2 rfl rfl ?_
  refine tw_alen (t0 := 0) hW ga0 rfl dJ7_fill_53178_3 (fun x1 qx1 gx1 => ?_)
  refine z_istore_n dJ7_fill_53178_4 rfl (by decide) ?_
  refine z_loc (L' := [(0, .ref (G.1 + a0)), (1, .int (Int32.ofInt l1)), (2, .int (Int32.ofInt 0)), (3, .int (Int32.ofInt x1))]) (List.forall_mem_cons.mpr ⟨rfl, (List.forall_mem_cons.mpr ⟨rfl, (List.forall_mem_cons.mpr ⟨rfl, (List.forall_mem_cons.mpr ⟨rfl, (fun _ h => nomatch h)⟩)⟩)⟩)⟩) ?_
  refine z_loc (L' := [(0, .ref (G.1 + a0)), (1, .int (Int32.ofInt l1)), (2, .int (Int32.ofInt 0)), (3, .int (Int32.ofInt x1))]) (List.forall_mem_cons.mpr ⟨rfl, (List.forall_mem_cons.mpr ⟨rfl, (List.forall_mem_cons.mpr ⟨rfl, (List.forall_mem_cons.mpr ⟨rfl, (fun _ h => nomatch h)⟩)⟩)⟩)⟩) ?_
  exact bJ7_fill_53178_5 hd hW hX ga0 gl1 (show rng 0 from ⟨by decide, by decide⟩) gx1 (by omega) (by omega)  hP 

set_option maxRecDepth 100000 in
set_option maxHeartbeats 4000000 in
theorem kX10_isDigit {G : xG} {B : Nat × Nat} {τ : Tau} {cs : List va_E} {l0 : Int} (d : Nat) (hd : 0 ≤ d) (hW : WT G B τ cs) (gl0 : rng l0)  : X G yX10_isDigit cX10_isDigit 1 (some .boolean) d [.int (Int32.ofInt l0)] cs (rI cs (fun r => (iv 0 1 r))) := by
  refine X.of false (by decide +kernel) (by decide) (Nat.le_of_ble_eq_true rfl) ?_
  show Z (RX10, cX10_isDigit, 1, some .boolean, false) G d _ 0 [(0, .int (Int32.ofInt l0))] [] cs
  have hP : ∀ r : Int, rng r → ((iv 0 1 r)) → rI cs (fun r => (iv 0 1 r)) (some (.int (Int32.ofInt r))) cs := fun r h1 h2 => ⟨rfl, r, rfl, h1, h2⟩
  refine z_iload_n dX10_isDigit_0 rfl rfl ?_
  refine z_bipush (v := Int32.ofInt 48) dX10_isDigit_1 (by decide) ?_
  refine i_icmp_lt (tgt := 16) dX10_isDigit_3 (by decide) gl0 (show rng 48 from ⟨by decide, by decide⟩) (fun h1 => ?_) (fun h1 => ?_)
  · refine z_iconst (v := Int32.ofInt 0) dX10_isDigit_16 rfl ?_
    exact z_ireturn dX10_isDigit_17 rfl (nar01 (b01 ⟨by decide, by decide⟩)) (hP _ (show rng 0 from ⟨by decide, by decide⟩) (by omega))
  · refine z_iload_n dX10_isDigit_6 rfl rfl ?_
    refine z_bipush (v := Int32.ofInt 57) dX10_isDigit_7 (by decide) ?_
    refine i_icmp_gt (tgt := 16) dX10_isDigit_9 (by decide) gl0 (show rng 57 from ⟨by decide, by decide⟩) (fun h2 => ?_) (fun h2 => ?_)
    · refine z_iconst (v := Int32.ofInt 0) dX10_isDigit_16 rfl ?_
      exact z_ireturn dX10_isDigit_17 rfl (nar01 (b01 ⟨by decide, by decide⟩)) (hP _ (show rng 0 from ⟨by decide, by decide⟩) (by omega))
    · refine z_iconst (v := Int32.ofInt 1) dX10_isDigit_12 rfl ?_
      refine z_goto (tgt := 17) dX10_isDigit_13 (by decide) ?_
      exact z_ireturn dX10_isDigit_17 rfl (nar01 (b01 ⟨by decide, by decide⟩)) (hP _ (show rng 1 from ⟨by decide, by decide⟩) (by omega))

set_option maxRecDepth 100000 in
set_option maxHeartbeats 4000000 in
theorem bX10_isLetter_12 {G : xG} {d : Nat} {Post : xP} {B : Nat × Nat} {τ : Tau} {cs : List va_E} {l0 : Int} (hd : 0 ≤ d) (hW : WT G B τ cs) (gl0 : rng l0)   (hP : ∀ r : Int, rng r → ((iv 0 1 r)) → Post (some (.int (Int32.ofInt r))) cs)  : Z (RX10, cX10_isLetter, 1, some .boolean, false) G d Post 12 [(0, .int (Int32.ofInt l0))] [] cs := by
  refine z_iload_n dX10_isLetter_12 rfl rfl ?_
  refine z_bipush (v := Int32.ofInt 65) dX10_isLetter_13 (by decide) ?_
  refine i_icmp_lt (tgt := 28) dX10_isLetter_15 (by decide) gl0 (show rng 65 from ⟨by decide, by decide⟩) (fun h1 => ?_) (fun h1 => ?_)
  · refine z_iconst (v := Int32.ofInt 0) dX10_isLetter_28 rfl ?_
    exact z_ireturn dX10_isLetter_29 rfl (nar01 (b01 ⟨by decide, by decide⟩)) (hP _ (show rng 0 from ⟨by decide, by decide⟩) (by omega))
  · refine z_iload_n dX10_isLetter_18 rfl rfl ?_
    refine z_bipush (v := Int32.ofInt 90) dX10_isLetter_19 (by decide) ?_
    refine i_icmp_gt (tgt := 28) dX10_isLetter_21 (by decide) gl0 (show rng 90 from ⟨by decide, by decide⟩) (fun h2 => ?_) (fun h2 => ?_)
    · refine z_iconst (v := Int32.ofInt 0) dX10_isLetter_28 rfl ?_
      exact z_ireturn dX10_isLetter_29 rfl (nar01 (b01 ⟨by decide, by decide⟩)) (hP _ (show rng 0 from ⟨by decide, by decide⟩) (by omega))
    · refine z_iconst (v := Int32.ofInt 1) dX10_isLetter_24 rfl ?_
      refine z_goto (tgt := 29) dX10_isLetter_25 (by decide) ?_
      exact z_ireturn dX10_isLetter_29 rfl (nar01 (b01 ⟨by decide, by decide⟩)) (hP _ (show rng 1 from ⟨by decide, by decide⟩) (by omega))
set_option maxRecDepth 100000 in
set_option maxHeartbeats 4000000 in
theorem kX10_isLetter {G : xG} {B : Nat × Nat} {τ : Tau} {cs : List va_E} {l0 : Int} (d : Nat) (hd : 0 ≤ d) (hW : WT G B τ cs) (gl0 : rng l0)  : X G yX10_isLetter cX10_isLetter 1 (some .boolean) d [.int (Int32.ofInt l0)] cs (rI cs (fun r => (iv 0 1 r))) := by
  refine X.of false (by decide +kernel) (by decide) (Nat.le_of_ble_eq_true rfl) ?_
  show Z (RX10, cX10_isLetter, 1, some .boolean, false) G d _ 0 [(0, .int (Int32.ofInt l0))] [] cs
  have hP : ∀ r : Int, rng r → ((iv 0 1 r)) → rI cs (fun r => (iv 0 1 r)) (some (.int (Int32.ofInt r))) cs := fun r h1 h2 => ⟨rfl, r, rfl, h1, h2⟩
  refine z_iload_n dX10_isLetter_0 rfl rfl ?_
  refine z_bipush (v := Int32.ofInt 97) dX10_isLetter_1 (by decide) ?_
  refine i_icmp_lt (tgt := 12) dX10_isLetter_3 (by decide) gl0 (show rng 97 from ⟨by decide, by decide⟩) (fun h1 => ?_) (fun h1 => ?_)
  · refine z_loc (L' := [(0, .int (Int32.ofInt l0))]) (List.forall_mem_cons.mpr ⟨rfl, (fun _ h => nomatch h)⟩) ?_
    exact bX10_isLetter_12 hd hW gl0   hP 
  · refine z_iload_n dX10_isLetter_6 rfl rfl ?_
    refine z_bipush (v := Int32.ofInt 122) dX10_isLetter_7 (by decide) ?_
    refine i_icmp_le (tgt := 24) dX10_isLetter_9 (by decide) gl0 (show rng 122 from ⟨by decide, by decide⟩) (fun h2 => ?_) (fun h2 => ?_)
    · refine z_iconst (v := Int32.ofInt 1) dX10_isLetter_24 rfl ?_
      refine z_goto (tgt := 29) dX10_isLetter_25 (by decide) ?_
      exact z_ireturn dX10_isLetter_29 rfl (nar01 (b01 ⟨by decide, by decide⟩)) (hP _ (show rng 1 from ⟨by decide, by decide⟩) (by omega))
    · refine z_loc (L' := [(0, .int (Int32.ofInt l0))]) (List.forall_mem_cons.mpr ⟨rfl, (fun _ h => nomatch h)⟩) ?_
      exact bX10_isLetter_12 hd hW gl0   hP 

set_option maxRecDepth 100000 in
set_option maxHeartbeats 4000000 in
theorem kX0_isNameSign {G : xG} {B : Nat × Nat} {τ : Tau} {cs : List va_E} {l0 : Int} (d : Nat) (hd : 1 ≤ d) (hW : WT G B τ cs) (gl0 : rng l0)  : X G yX0_isNameSign cX0_isNameSign 1 (some .boolean) d [.int (Int32.ofInt l0)] cs (rI cs (fun r => (iv 0 1 r))) := by
  refine X.of false (by decide +kernel) (by decide) (Nat.le_of_ble_eq_true rfl) ?_
  show Z (RX0, cX0_isNameSign, 1, some .boolean, false) G d _ 0 [(0, .int (Int32.ofInt l0))] [] cs
  have hP : ∀ r : Int, rng r → ((iv 0 1 r)) → rI cs (fun r => (iv 0 1 r)) (some (.int (Int32.ofInt r))) cs := fun r h1 h2 => ⟨rfl, r, rfl, h1, h2⟩
  refine z_iload_n dX0_isNameSign_0 rfl rfl ?_
  have hX0 := kX10_isLetter 0 (Nat.le_refl _) hW gl0 
  refine z_callSN (As := [_]) eX10_isLetter sX10_isLetter lX0_92 dX0_isNameSign_1 hX0 (Nat.le_trans (by decide) hd) rfl (Nat.le_of_ble_eq_true rfl) (fun r cs1 hp => ?_)
  obtain ⟨hcs, r2, rfl, gr2, n1_0⟩ := hp
  obtain rfl := hcs.symm
  refine z_st (st' := [.int (Int32.ofInt r2)]) rfl ?_
  refine i_if_ne (tgt := 26) dX0_isNameSign_4 (by decide) gr2 (fun h3 => ?_) (fun h3 => ?_)
  · refine z_iconst (v := Int32.ofInt 1) dX0_isNameSign_26 rfl ?_
    refine z_goto (tgt := 31) dX0_isNameSign_27 (by decide) ?_
    exact z_ireturn dX0_isNameSign_31 rfl (nar01 (b01 ⟨by decide, by decide⟩)) (hP _ (show rng 1 from ⟨by decide, by decide⟩) (by omega))
  · refine z_iload_n dX0_isNameSign_7 rfl rfl ?_
    have hX0 := kX10_isDigit 0 (Nat.le_refl _) hW gl0 
    refine z_callSN (As := [_]) eX10_isDigit sX10_isDigit lX0_83 dX0_isNameSign_8 hX0 (Nat.le_trans (by decide) hd) rfl (Nat.le_of_ble_eq_true rfl) (fun r cs1 hp => ?_)
    obtain ⟨hcs, r5, rfl, gr5, n4_0⟩ := hp
    obtain rfl := hcs.symm
    refine z_st (st' := [.int (Int32.ofInt r5)]) rfl ?_
    refine i_if_ne (tgt := 26) dX0_isNameSign_11 (by decide) gr5 (fun h6 => ?_) (fun h6 => ?_)
    · refine z_iconst (v := Int32.ofInt 1) dX0_isNameSign_26 rfl ?_
      refine z_goto (tgt := 31) dX0_isNameSign_27 (by decide) ?_
      exact z_ireturn dX0_isNameSign_31 rfl (nar01 (b01 ⟨by decide, by decide⟩)) (hP _ (show rng 1 from ⟨by decide, by decide⟩) (by omega))
    · refine z_iload_n dX0_isNameSign_14 rfl rfl ?_
      refine z_bipush (v := Int32.ofInt 95) dX0_isNameSign_15 (by decide) ?_
      refine i_icmp_eq (tgt := 26) dX0_isNameSign_17 (by decide) gl0 (show rng 95 from ⟨by decide, by decide⟩) (fun h7 => ?_) (fun h7 => ?_)
      · refine z_iconst (v := Int32.ofInt 1) dX0_isNameSign_26 rfl ?_
        refine z_goto (tgt := 31) dX0_isNameSign_27 (by decide) ?_
        exact z_ireturn dX0_isNameSign_31 rfl (nar01 (b01 ⟨by decide, by decide⟩)) (hP _ (show rng 1 from ⟨by decide, by decide⟩) (by omega))
      · refine z_iload_n dX0_isNameSign_20 rfl rfl ?_
        refine z_bipush (v := Int32.ofInt 36) dX0_isNameSign_21 (by decide) ?_
        refine i_icmp_ne (tgt := 30) dX0_isNameSign_23 (by decide) gl0 (show rng 36 from ⟨by decide, by decide⟩) (fun h8 => ?_) (fun h8 => ?_)
        · refine z_iconst (v := Int32.ofInt 0) dX0_isNameSign_30 rfl ?_
          exact z_ireturn dX0_isNameSign_31 rfl (nar01 (b01 ⟨by decide, by decide⟩)) (hP _ (show rng 0 from ⟨by decide, by decide⟩) (by omega))
        · refine z_iconst (v := Int32.ofInt 1) dX0_isNameSign_26 rfl ?_
          refine z_goto (tgt := 31) dX0_isNameSign_27 (by decide) ?_
          exact z_ireturn dX0_isNameSign_31 rfl (nar01 (b01 ⟨by decide, by decide⟩)) (hP _ (show rng 1 from ⟨by decide, by decide⟩) (by omega))

set_option maxRecDepth 100000 in
set_option maxHeartbeats 4000000 in
theorem kX4_letterOn {G : xG} {B : Nat × Nat} {τ : Tau} {cs : List va_E} {a0 pa0 : Nat} {l1 : Int} {l2 : Int} (d : Nat) (hd : 0 ≤ d) (hW : WT G B τ cs) (ga0 : τ a0 = some (.inl (4, pa0))) (gl1 : rng l1) (gl2 : rng l2)  : X G yX4_letterOn cX4_letterOn 3 none d [.ref (G.1 + a0), .int (Int32.ofInt l1), .int (Int32.ofInt l2)] cs (wN G B τ cs [4]) := by
  refine X.of false (by decide +kernel) (by decide) (Nat.le_of_ble_eq_true rfl) ?_
  show Z (RX4, cX4_letterOn, 3, none, false) G d _ 0 [(0, .ref (G.1 + a0)), (1, .int (Int32.ofInt l1)), (2, .int (Int32.ofInt l2))] [] cs
  have hP : ∀ (τ1 : Tau) (c1 : List va_E), WT G B τ1 c1 → Fx [4] τ cs τ1 c1 → wN G B τ cs [4] none c1 := fun τ1 c1 h1 h2 => ⟨τ1, rfl, h1, h2⟩
  have hX : Fx [4] τ cs τ cs := Fx.rf
  skip
  refine z_iload_n dX4_letterOn_0 rfl rfl ?_
  refine i_if_lt (tgt := 49) dX4_letterOn_1 (by decide) gl1 (fun h1 => ?_) (fun h1 => ?_)
  · exact z_return dX4_letterOn_49 rfl (hP _ _ hW hX)
  · refine z_iload_n dX4_letterOn_4 rfl rfl ?_
    refine z_bipush (v := Int32.ofInt 30) dX4_letterOn_5 (by decide) ?_
    refine i_icmp_ge (tgt := 49) dX4_letterOn_7 (by decide) gl1 (show rng 30 from ⟨by decide, by decide⟩) (fun h2 => ?_) (fun h2 => ?_)
    · exact z_return dX4_letterOn_49 rfl (hP _ _ hW hX)
    · refine z_aload_n dX4_letterOn_10 rfl rfl ?_
      refine tw_getA hW ga0 (by decide) (by decide) rfl kX4 fX4_15 dX4_letterOn_11 (fun b3 qb3 gb3 => ?_)
      refine z_iload_n dX4_letterOn_14 rfl rfl ?_
      refine tw_iald hW gb3 (by omega) (by omega) dX4_letterOn_15 (fun x4 qx4 vx4 gx4 => ?_)
      refine z_bipush (v := Int32.ofInt 16) dX4_letterOn_16 (by decide) ?_
      refine i_icmp_ge (tgt := 49) dX4_letterOn_18 (by decide) gx4 (show rng 16 from ⟨by decide, by decide⟩) (fun h5 => ?_) (fun h5 => ?_)
      · exact z_return dX4_letterOn_49 rfl (hP _ _ hW hX)
      · refine z_aload_n dX4_letterOn_21 rfl rfl ?_
        refine tw_getA hW ga0 (by decide) (by decide) rfl kX4 fX4_11 dX4_letterOn_22 (fun b6 qb6 gb6 => ?_)
        refine z_iload_n dX4_letterOn_25 rfl rfl ?_
        refine z_bipush (v := Int32.ofInt 16) dX4_letterOn_26 (by decide) ?_
        refine tw_imul dX4_letterOn_28 (fun z7 gz7 ez7 => ?_)
        first | have ez7 := ez7 ⟨by omega, by omega⟩ | clear ez7
        refine z_aload_n dX4_letterOn_29 rfl rfl ?_
        refine tw_getA hW ga0 (by decide) (by decide) rfl kX4 fX4_15 dX4_letterOn_30 (fun b8 qb8 gb8 => ?_)
        obtain rfl : b3 = b8 := by omega
        refine z_iload_n dX4_letterOn_33 rfl rfl ?_
        refine tw_iald hW gb3 (by omega) (by omega) dX4_letterOn_34 (fun x9 qx9 vx9 gx9 => ?_)
        refine tw_iadd dX4_letterOn_35 (fun z10 gz10 ez10 => ?_)
        first | have ez10 := ez10 ⟨by omega, by omega⟩ | clear ez10
        refine z_iload_n dX4_letterOn_36 rfl rfl ?_
        refine tw_i2c dX4_letterOn_37 (fun z11 gz11 vz11 => ?_)
        refine tw_cast hW hX gb6 (by omega) (by omega) (char_ok _) (Or.inr (show (4 : Nat) ∈ _ by decide)) dX4_letterOn_38 (fun c1 q _ => nA hW gb6 (show (65535 : Int) ≠ 600 by decide) (show (65535 : Int) ≠ 601 by decide) c1 q) (fun cs hW hX hfr _ => ?_)
        have qb3 := qb3.trans (fldR_fr (k := 1) hfr ga0 gb6).symm
        have qb6 := qb6.trans (fldR_fr (k := 0) hfr ga0 gb6).symm
        have s12 := elt_fr (i := l1) hfr gb3 gb6 (by decide)
        clear hfr
        refine z_aload_n dX4_letterOn_39 rfl rfl ?_
        refine tw_getA hW ga0 (by decide) (by decide) rfl kX4 fX4_15 dX4_letterOn_40 (fun b13 qb13 gb13 => ?_)
        obtain rfl : b3 = b13 := by omega
        refine z_iload_n dX4_letterOn_43 rfl rfl ?_
        refine z_dup2 dX4_letterOn_44 rfl rfl ?_
        refine tw_iald hW gb3 (by omega) (by omega) dX4_letterOn_45 (fun x14 qx14 vx14 gx14 => ?_)
        refine z_iconst (v := Int32.ofInt 1) dX4_letterOn_46 rfl ?_
        refine tw_iadd dX4_letterOn_47 (fun z15 gz15 ez15 => ?_)
        first | have ez15 := ez15 ⟨by omega, by omega⟩ | clear ez15
        refine tw_iast hW hX gb3 (by omega) (by omega) (iv_ok (by omega) (by decide) (by decide)) (Or.inr (show (4 : Nat) ∈ _ by decide)) dX4_letterOn_48 (fun c1 q _ => nA hW gb3 (show (16 : Int) ≠ 600 by decide) (show (16 : Int) ≠ 601 by decide) c1 q) (fun cs hW hX hfr _ => ?_)
        have qb3 := qb3.trans (fldR_fr (k := 1) hfr ga0 gb3).symm
        have qb6 := qb6.trans (fldR_fr (k := 0) hfr ga0 gb3).symm
        clear hfr
        exact z_return dX4_letterOn_49 rfl (hP _ _ hW hX)

set_option maxRecDepth 100000 in
set_option maxHeartbeats 4000000 in
theorem kX4_spellOn {G : xG} {B : Nat × Nat} {τ : Tau} {cs : List va_E} {a0 pa0 : Nat} {l1 : Int} {l2 : Int} (d : Nat) (hd : 1 ≤ d) (hW : WT G B τ cs) (ga0 : τ a0 = some (.inl (4, pa0))) (gl1 : rng l1) (gl2 : rng l2)  : X G yX4_spellOn cX4_spellOn 3 none d [.ref (G.1 + a0), .int (Int32.ofInt l1), .int (Int32.ofInt l2)] cs (wN G B τ cs [4]) := by
  refine X.of false (by decide +kernel) (by decide) (Nat.le_of_ble_eq_true rfl) ?_
  show Z (RX4, cX4_spellOn, 3, none, false) G d _ 0 [(0, .ref (G.1 + a0)), (1, .int (Int32.ofInt l1)), (2, .int (Int32.ofInt l2))] [] cs
  have hP : ∀ (τ1 : Tau) (c1 : List va_E), WT G B τ1 c1 → Fx [4] τ cs τ1 c1 → wN G B τ cs [4] none c1 := fun τ1 c1 h1 h2 => ⟨τ1, rfl, h1, h2⟩
  have hX : Fx [4] τ cs τ cs := Fx.rf
  skip
  refine z_iload_n dX4_spellOn_0 rfl rfl ?_
  refine z_bipush (v := Int32.ofInt 36) dX4_spellOn_1 (by decide) ?_
  refine i_icmp_ne (tgt := 23) dX4_spellOn_3 (by decide) gl2 (show rng 36 from ⟨by decide, by decide⟩) (fun h1 => ?_) (fun h1 => ?_)
  · refine z_aload_n dX4_spellOn_23 rfl rfl ?_
    refine z_iload_n dX4_spellOn_24 rfl rfl ?_
    refine z_iload_n dX4_spellOn_25 rfl rfl ?_
    have hX0 := kX4_letterOn 0 (Nat.le_refl _) hW ga0 gl1 gl2 
    refine z_callV (As := [_, _]) eX4_letterOn sX4_letterOn lX4_61 rfl dX4_spellOn_26 (hW.ob ga0 (by decide)).choose_spec hX0 (Nat.le_trans (by decide) hd) rfl (Nat.le_of_ble_eq_true rfl) (fun r cs hp => ?_)
    obtain ⟨τ, rfl, hW, k4⟩ := hp
    have hX := hX.tr k4 (by decide)
    have ga0 := k4.1.e ga0 (by decide)
    clear hX0
    refine z_st (st' := []) rfl ?_
    refine z_iload_n dX4_spellOn_29 rfl rfl ?_
    refine z_bipush (v := Int32.ofInt 95) dX4_spellOn_30 (by decide) ?_
    refine i_icmp_ne (tgt := 42) dX4_spellOn_32 (by decide) gl2 (show rng 95 from ⟨by decide, by decide⟩) (fun h5 => ?_) (fun h5 => ?_)
    · exact z_return dX4_spellOn_42 rfl (hP _ _ hW hX)
    · refine z_aload_n dX4_spellOn_35 rfl rfl ?_
      refine z_iload_n dX4_spellOn_36 rfl rfl ?_
      refine z_bipush (v := Int32.ofInt 95) dX4_spellOn_37 (by decide) ?_
      have hX0 := kX4_letterOn 0 (Nat.le_refl _) hW ga0 gl1 (show rng 95 from ⟨by decide, by decide⟩) 
      refine z_callV (As := [_, _]) eX4_letterOn sX4_letterOn lX4_61 rfl dX4_spellOn_39 (hW.ob ga0 (by decide)).choose_spec hX0 (Nat.le_trans (by decide) hd) rfl (Nat.le_of_ble_eq_true rfl) (fun r cs hp => ?_)
      obtain ⟨τ, rfl, hW, k8⟩ := hp
      have hX := hX.tr k8 (by decide)
      have ga0 := k8.1.e ga0 (by decide)
      clear hX0
      refine z_st (st' := []) rfl ?_
      exact z_return dX4_spellOn_42 rfl (hP _ _ hW hX)
  · refine z_aload_n dX4_spellOn_6 rfl rfl ?_
    refine z_iload_n dX4_spellOn_7 rfl rfl ?_
    refine z_bipush (v := Int32.ofInt 95) dX4_spellOn_8 (by decide) ?_
    have hX0 := kX4_letterOn 0 (Nat.le_refl _) hW ga0 gl1 (show rng 95 from ⟨by decide, by decide⟩) 
    refine z_callV (As := [_, _]) eX4_letterOn sX4_letterOn lX4_61 rfl dX4_spellOn_10 (hW.ob ga0 (by decide)).choose_spec hX0 (Nat.le_trans (by decide) hd) rfl (Nat.le_of_ble_eq_true rfl) (fun r cs hp => ?_)
    obtain ⟨τ, rfl, hW, k11⟩ := hp
    have hX := hX.tr k11 (by decide)
    have ga0 := k11.1.e ga0 (by decide)
    clear hX0
    refine z_st (st' := []) rfl ?_
    refine z_aload_n dX4_spellOn_13 rfl rfl ?_
    refine z_iload_n dX4_spellOn_14 rfl rfl ?_
    refine z_bipush (v := Int32.ofInt 45) dX4_spellOn_15 (by decide) ?_
    have hX0 := kX4_letterOn 0 (Nat.le_refl _) hW ga0 gl1 (show rng 45 from ⟨by decide, by decide⟩) 
    refine z_callV (As := [_, _]) eX4_letterOn sX4_letterOn lX4_61 rfl dX4_spellOn_17 (hW.ob ga0 (by decide)).choose_spec hX0 (Nat.le_trans (by decide) hd) rfl (Nat.le_of_ble_eq_true rfl) (fun r cs hp => ?_)
    obtain ⟨τ, rfl, hW, k14⟩ := hp
    have hX := hX.tr k14 (by decide)
    have ga0 := k14.1.e ga0 (by decide)
    clear hX0
    refine z_st (st' := []) rfl ?_
    refine z_goto (tgt := 42) dX4_spellOn_20 (by decide) ?_
    exact z_return dX4_spellOn_42 rfl (hP _ _ hW hX)

set_option maxRecDepth 100000 in
set_option maxHeartbeats 4000000 in
theorem eX0_isNameRight_38 {G : xG} {d : Nat} {Post : xP} {B : Nat × Nat} {τ0 τ : Tau} {c0 cs : List va_E} {a0 pa0 : Nat} {l1 : Int} {l2 : Int} {n38 : Nat} (hd : 2 ≤ d) (hW : WT G B τ cs) (hX : Fx [0, 4] τ0 c0 τ cs) (ga0 : τ a0 = some (.inl (0, pa0))) (gl1 : rng l1) (gl2 : rng l2)   (hP : ∀ (τ1 : Tau) (c1 : List va_E) (r : Int), WT G B τ1 c1 → Fx [0, 4] τ0 c0 τ1 c1 → rng r → ((iv 0 1 r)) → Post (some (.int (Int32.ofInt r))) c1)  (ih_38 : ∀ {τ : Tau} {cs : List va_E} {a0 pa0 : Nat} {l1 : Int} {l2 : Int} (hW : WT G B τ cs) (hX : Fx [0, 4] τ0 c0 τ cs) (ga0 : τ a0 = some (.inl (0, pa0))) (gl1 : rng l1) (gl2 : rng l2)  , (8 - l2).toNat < n38 → Z (RX0, cX0_isNameRight, 3, some .boolean, false) G d Post 38 [(0, .ref (G.1 + a0)), (1, .int (Int32.ofInt l1)), (2, .int (Int32.ofInt l2))] [] cs) (hm_38 : (8 - l2).toNat < n38 + 1) : Z (RX0, cX0_isNameRight, 3, some .boolean, false) G d Post 38 [(0, .ref (G.1 + a0)), (1, .int (Int32.ofInt l1)), (2, .int (Int32.ofInt l2))] [] cs := by
  refine z_iload_n dX0_isNameRight_38 rfl rfl ?_
  refine z_bipush (v := Int32.ofInt 8) dX0_isNameRight_39 (by decide) ?_
  refine i_icmp_ge (tgt := 96) dX0_isNameRight_41 (by decide) gl2 (show rng 8 from ⟨by decide, by decide⟩) (fun h1 => ?_) (fun h1 => ?_)
  · refine z_iconst (v := Int32.ofInt 1) dX0_isNameRight_96 rfl ?_
    exact z_ireturn dX0_isNameRight_97 rfl (nar01 (b01 ⟨by decide, by decide⟩)) (hP _ _ _ hW hX (show rng 1 from ⟨by decide, by decide⟩) (by omega))
  · refine z_aload_n dX0_isNameRight_44 rfl rfl ?_
    refine tw_getO hW ga0 (by decide) (by decide) rfl kX0 fX0_15 dX0_isNameRight_45 (fun b2 pb2 gb2 => ?_)
    have gb2 : oT τ b2 5 := ⟨_, gb2⟩
    refine z_aload_n dX0_isNameRight_48 rfl rfl ?_
    refine tw_getI hW ga0 (by decide) (by decide) rfl kX0 fX0_9 dX0_isNameRight_49 (fun x3 _ vx3 gx3 => ?_)
    have hX0 := kX5_at 0 (Nat.le_refl _) hW gb2 gx3 
    refine z_callV (As := [_]) eX5_at sX5_at lX0_62 rfl dX0_isNameRight_52 (hW.os gb2).choose_spec hX0 (Nat.le_trans (by decide) hd) rfl (Nat.le_of_ble_eq_true rfl) (fun r cs1 hp => ?_)
    obtain ⟨hcs, r5, rfl, gr5, n4_0⟩ := hp
    obtain rfl := hcs.symm
    refine z_st (st' := [.int (Int32.ofInt r5)]) rfl ?_
    have hX0 := kX0_isNameSign 1 (Nat.le_refl _) hW gr5 
    refine z_callS (As := [_]) eX0_isNameSign sX0_isNameSign lX0_86 dX0_isNameRight_55 hX0 (Nat.le_trans (by decide) hd) rfl (Nat.le_of_ble_eq_true rfl) (fun r cs1 hp => ?_)
    obtain ⟨hcs, r7, rfl, gr7, n6_0⟩ := hp
    obtain rfl := hcs.symm
    refine z_st (st' := [.int (Int32.ofInt r7)]) rfl ?_
    refine i_if_eq (tgt := 96) dX0_isNameRight_58 (by decide) gr7 (fun h8 => ?_) (fun h8 => ?_)
    · refine z_iconst (v := Int32.ofInt 1) dX0_isNameRight_96 rfl ?_
      exact z_ireturn dX0_isNameRight_97 rfl (nar01 (b01 ⟨by decide, by decide⟩)) (hP _ _ _ hW hX (show rng 1 from ⟨by decide, by decide⟩) (by omega))
    · refine z_aload_n dX0_isNameRight_61 rfl rfl ?_
      refine tw_getO hW ga0 (by decide) (by decide) rfl kX0 fX0_19 dX0_isNameRight_62 (fun b9 pb9 gb9 => ?_)
      refine z_iload_n dX0_isNameRight_65 rfl rfl ?_
      refine z_aload_n dX0_isNameRight_66 rfl rfl ?_
      refine tw_getO hW ga0 (by decide) (by decide) rfl kX0 fX0_15 dX0_isNameRight_67 (fun b10 pb10 gb10 => ?_)
      have gb10 : oT τ b10 5 := ⟨_, gb10⟩
      refine z_aload_n dX0_isNameRight_70 rfl rfl ?_
      refine tw_getI hW ga0 (by decide) (by decide) rfl kX0 fX0_9 dX0_isNameRight_71 (fun x11 _ vx11 gx11 => ?_)
      have hX0 := kX5_at 0 (Nat.le_refl _) hW gb10 gx11 
      refine z_callV (As := [_]) eX5_at sX5_at lX0_62 rfl dX0_isNameRight_74 (hW.os gb10).choose_spec hX0 (Nat.le_trans (by decide) hd) rfl (Nat.le_of_ble_eq_true rfl) (fun r cs1 hp => ?_)
      obtain ⟨hcs, r13, rfl, gr13, n12_0⟩ := hp
      obtain rfl := hcs.symm
      refine z_st (st' := [.int (Int32.ofInt r13), .int (Int32.ofInt l1), .ref (G.1 + b9)]) rfl ?_
      have hX0 := kX4_spellOn 1 (Nat.le_refl _) hW gb9 gl1 gr13 
      refine z_callV (As := [_, _]) eX4_spellOn sX4_spellOn lX0_89 rfl dX0_isNameRight_77 (hW.ob gb9 (by decide)).choose_spec hX0 (Nat.le_trans (by decide) hd) rfl (Nat.le_of_ble_eq_true rfl) (fun r cs hp => ?_)
      obtain ⟨τ, rfl, hW, k16⟩ := hp
      have hX := hX.tr k16 (by decide)
      have ga0 := k16.1.e ga0 (by decide)
      clear hX0
      refine z_st (st' := []) rfl ?_
      refine z_aload_n dX0_isNameRight_80 rfl rfl ?_
      refine z_dup dX0_isNameRight_81 rfl ?_
      refine tw_getI hW ga0 (by decide) (by decide) rfl kX0 fX0_9 dX0_isNameRight_82 (fun x17 _ vx17 gx17 => ?_)
      refine z_iconst (v := Int32.ofInt 1) dX0_isNameRight_85 rfl ?_
      refine tw_iadd dX0_isNameRight_86 (fun z18 gz18 ez18 => ?_)
      first | have ez18 := ez18 ⟨by omega, by omega⟩ | clear ez18
      refine tw_putI hW hX ga0 (by decide) (by decide) rfl kX0 fX0_9 dX0_isNameRight_87 rfl rfl rfl (any_ok _) (by decide) (fun c1 q _ _ => nT hW ga0 (by decide) c1 q) (fun cs hW hX _ _ _ => ?_)
      refine tw_iinc (l := l2) dX0_isNameRight_90 rfl (by decide) (fun z20 gz20 ez20 => ?_)
      first | have ez20 := ez20 ⟨by omega, by omega⟩ | clear ez20
      refine z_loc (L' := [(0, .ref (G.1 + a0)), (1, .int (Int32.ofInt l1)), (2, .int (Int32.ofInt z20))]) (List.forall_mem_cons.mpr ⟨rfl, (List.forall_mem_cons.mpr ⟨rfl, (List.forall_mem_cons.mpr ⟨rfl, (fun _ h => nomatch h)⟩)⟩)⟩) ?_
      refine z_goto (tgt := 38) dX0_isNameRight_93 (by decide) ?_
      refine z_loc (L' := [(0, .ref (G.1 + a0)), (1, .int (Int32.ofInt l1)), (2, .int (Int32.ofInt z20))]) (List.forall_mem_cons.mpr ⟨rfl, (List.forall_mem_cons.mpr ⟨rfl, (List.forall_mem_cons.mpr ⟨rfl, (fun _ h => nomatch h)⟩)⟩)⟩) ?_
      exact ih_38 hW hX ga0 gl1 gz20   (by omega)
set_option maxRecDepth 100000 in
set_option maxHeartbeats 4000000 in
theorem bX0_isNameRight_38 {G : xG} {d : Nat} {Post : xP} {B : Nat × Nat} {τ0 τ : Tau} {c0 cs : List va_E} {a0 pa0 : Nat} {l1 : Int} {l2 : Int} (hd : 2 ≤ d) (hW : WT G B τ cs) (hX : Fx [0, 4] τ0 c0 τ cs) (ga0 : τ a0 = some (.inl (0, pa0))) (gl1 : rng l1) (gl2 : rng l2)   (hP : ∀ (τ1 : Tau) (c1 : List va_E) (r : Int), WT G B τ1 c1 → Fx [0, 4] τ0 c0 τ1 c1 → rng r → ((iv 0 1 r)) → Post (some (.int (Int32.ofInt r))) c1)  : Z (RX0, cX0_isNameRight, 3, some .boolean, false) G d Post 38 [(0, .ref (G.1 + a0)), (1, .int (Int32.ofInt l1)), (2, .int (Int32.ofInt l2))] [] cs := by
  have key : ∀ (n : Nat) (τ : Tau) (cs : List va_E) (a0 pa0 : Nat) (l1 : Int) (l2 : Int) (hW : WT G B τ cs) (hX : Fx [0, 4] τ0 c0 τ cs) (ga0 : τ a0 = some (.inl (0, pa0))) (gl1 : rng l1) (gl2 : rng l2)  , (8 - l2).toNat < n → Z (RX0, cX0_isNameRight, 3, some .boolean, false) G d Post 38 [(0, .ref (G.1 + a0)), (1, .int (Int32.ofInt l1)), (2, .int (Int32.ofInt l2))] [] cs := by
    intro n
    induction n with
    | zero => intro τ cs a0 pa0 l1 l2 hW hX ga0 gl1 gl2 hm; exact absurd hm (Nat.not_lt_zero _)
    | succ n ih =>
      intro τ cs a0 pa0 l1 l2 hW hX ga0 gl1 gl2 hm
      exact eX0_isNameRight_38 hd hW hX ga0 gl1 gl2 hP  (fun hW hX ga0 gl1 gl2 hm => ih _ _ _ _ _ _ hW hX ga0 gl1 gl2 hm) hm
  exact key _ _ _ _ _ _ _ hW hX ga0 gl1 gl2 (Nat.lt_succ_self _)
set_option maxRecDepth 100000 in
set_option maxHeartbeats 4000000 in
theorem kX0_isNameRight {G : xG} {B : Nat × Nat} {τ : Tau} {cs : List va_E} {a0 pa0 : Nat} {l1 : Int} (d : Nat) (hd : 2 ≤ d) (hW : WT G B τ cs) (ga0 : τ a0 = some (.inl (0, pa0))) (gl1 : rng l1)  : X G yX0_isNameRight cX0_isNameRight 3 (some .boolean) d [.ref (G.1 + a0), .int (Int32.ofInt l1)] cs (wI G B τ cs [0, 4] (fun r => (iv 0 1 r))) := by
  refine X.of false (by decide +kernel) (by decide) (Nat.le_of_ble_eq_true rfl) ?_
  show Z (RX0, cX0_isNameRight, 3, some .boolean, false) G d _ 0 [(0, .ref (G.1 + a0)), (1, .int (Int32.ofInt l1))] [] cs
  have hP : ∀ (τ1 : Tau) (c1 : List va_E) (r : Int), WT G B τ1 c1 → Fx [0, 4] τ cs τ1 c1 → rng r → ((iv 0 1 r)) → wI G B τ cs [0, 4] (fun r => (iv 0 1 r)) (some (.int (Int32.ofInt r))) c1 := fun τ1 c1 r h1 h2 h3 h4 => ⟨τ1, r, rfl, h3, h1, h2, h4⟩
  have hX : Fx [0, 4] τ cs τ cs := Fx.rf
  skip
  refine z_aload_n dX0_isNameRight_0 rfl rfl ?_
  refine tw_getO hW ga0 (by decide) (by decide) rfl kX0 fX0_15 dX0_isNameRight_1 (fun b1 pb1 gb1 => ?_)
  have gb1 : oT τ b1 5 := ⟨_, gb1⟩
  refine z_aload_n dX0_isNameRight_4 rfl rfl ?_
  refine tw_getI hW ga0 (by decide) (by decide) rfl kX0 fX0_9 dX0_isNameRight_5 (fun x2 _ vx2 gx2 => ?_)
  have hX0 := kX5_at 0 (Nat.le_refl _) hW gb1 gx2 
  refine z_callV (As := [_]) eX5_at sX5_at lX0_62 rfl dX0_isNameRight_8 (hW.os gb1).choose_spec hX0 (Nat.le_trans (by decide) hd) rfl (Nat.le_of_ble_eq_true rfl) (fun r cs1 hp => ?_)
  obtain ⟨hcs, r4, rfl, gr4, n3_0⟩ := hp
  obtain rfl := hcs.symm
  refine z_st (st' := [.int (Int32.ofInt r4)]) rfl ?_
  have hX0 := kX10_isDigit 0 (Nat.le_refl _) hW gr4 
  refine z_callSN (As := [_]) eX10_isDigit sX10_isDigit lX0_83 dX0_isNameRight_11 hX0 (Nat.le_trans (by decide) hd) rfl (Nat.le_of_ble_eq_true rfl) (fun r cs1 hp => ?_)
  obtain ⟨hcs, r6, rfl, gr6, n5_0⟩ := hp
  obtain rfl := hcs.symm
  refine z_st (st' := [.int (Int32.ofInt r6)]) rfl ?_
  refine i_if_ne (tgt := 34) dX0_isNameRight_14 (by decide) gr6 (fun h7 => ?_) (fun h7 => ?_)
  · refine z_iconst (v := Int32.ofInt 0) dX0_isNameRight_34 rfl ?_
    exact z_ireturn dX0_isNameRight_35 rfl (nar01 (b01 ⟨by decide, by decide⟩)) (hP _ _ _ hW hX (show rng 0 from ⟨by decide, by decide⟩) (by omega))
  · refine z_aload_n dX0_isNameRight_17 rfl rfl ?_
    refine tw_getO hW ga0 (by decide) (by decide) rfl kX0 fX0_15 dX0_isNameRight_18 (fun b8 pb8 gb8 => ?_)
    have gb8 : oT τ b8 5 := ⟨_, gb8⟩
    refine z_aload_n dX0_isNameRight_21 rfl rfl ?_
    refine tw_getI hW ga0 (by decide) (by decide) rfl kX0 fX0_9 dX0_isNameRight_22 (fun x9 _ vx9 gx9 => ?_)
    have hX0 := kX5_at 0 (Nat.le_refl _) hW gb8 gx9 
    refine z_callV (As := [_]) eX5_at sX5_at lX0_62 rfl dX0_isNameRight_25 (hW.os gb8).choose_spec hX0 (Nat.le_trans (by decide) hd) rfl (Nat.le_of_ble_eq_true rfl) (fun r cs1 hp => ?_)
    obtain ⟨hcs, r11, rfl, gr11, n10_0⟩ := hp
    obtain rfl := hcs.symm
    refine z_st (st' := [.int (Int32.ofInt r11)]) rfl ?_
    have hX0 := kX0_isNameSign 1 (Nat.le_refl _) hW gr11 
    refine z_callS (As := [_]) eX0_isNameSign sX0_isNameSign lX0_86 dX0_isNameRight_28 hX0 (Nat.le_trans (by decide) hd) rfl (Nat.le_of_ble_eq_true rfl) (fun r cs1 hp => ?_)
    obtain ⟨hcs, r13, rfl, gr13, n12_0⟩ := hp
    obtain rfl := hcs.symm
    refine z_st (st' := [.int (Int32.ofInt r13)]) rfl ?_
    refine i_if_ne (tgt := 36) dX0_isNameRight_31 (by decide) gr13 (fun h14 => ?_) (fun h14 => ?_)
    · refine z_iconst (v := Int32.ofInt 0) dX0_isNameRight_36 rfl ?_
      refine z_istore_n dX0_isNameRight_37 rfl (by decide) ?_
      refine z_loc (L' := [(0, .ref (G.1 + a0)), (1, .int (Int32.ofInt l1)), (2, .int (Int32.ofInt 0))]) (List.forall_mem_cons.mpr ⟨rfl, (List.forall_mem_cons.mpr ⟨rfl, (List.forall_mem_cons.mpr ⟨rfl, (fun _ h => nomatch h)⟩)⟩)⟩) ?_
      refine z_loc (L' := [(0, .ref (G.1 + a0)), (1, .int (Int32.ofInt l1)), (2, .int (Int32.ofInt 0))]) (List.forall_mem_cons.mpr ⟨rfl, (List.forall_mem_cons.mpr ⟨rfl, (List.forall_mem_cons.mpr ⟨rfl, (fun _ h => nomatch h)⟩)⟩)⟩) ?_
      exact bX0_isNameRight_38 hd hW hX ga0 gl1 (show rng 0 from ⟨by decide, by decide⟩)   hP 
    · refine z_iconst (v := Int32.ofInt 0) dX0_isNameRight_34 rfl ?_
      exact z_ireturn dX0_isNameRight_35 rfl (nar01 (b01 ⟨by decide, by decide⟩)) (hP _ _ _ hW hX (show rng 0 from ⟨by decide, by decide⟩) (by omega))

set_option maxRecDepth 100000 in
set_option maxHeartbeats 4000000 in
theorem kX0_shapeOf {G : xG} {B : Nat × Nat} {τ : Tau} {cs : List va_E} {l0 : Int} (d : Nat) (hd : 0 ≤ d) (hW : WT G B τ cs) (gl0 : rng l0)  : X G yX0_shapeOf cX0_shapeOf 1 (some .int) d [.int (Int32.ofInt l0)] cs (rI cs (fun r => True)) := by
  refine X.of false (by decide +kernel) (by decide) (Nat.le_of_ble_eq_true rfl) ?_
  show Z (RX0, cX0_shapeOf, 1, some .int, false) G d _ 0 [(0, .int (Int32.ofInt l0))] [] cs
  have hP : ∀ r : Int, rng r → (True) → rI cs (fun r => True) (some (.int (Int32.ofInt r))) cs := fun r h1 h2 => ⟨rfl, r, rfl, h1, h2⟩
  refine z_iload_n dX0_shapeOf_0 rfl rfl ?_
  rcases (show (¬ l0 = 105 ∧ ¬ l0 = 108 ∧ ¬ l0 = 114 ∧ ¬ l0 = 116) ∨ l0 = 105 ∨ l0 = 108 ∨ l0 = 114 ∨ l0 = 116 by omega) with h1 | h1 | h1 | h1 | h1
  · refine tw_look (off := 51) (tgt := 52) dX0_shapeOf_1 (by decide) gl0 (by simp only [Op.lookupswitch.offset]; rw [if_neg (by omega)]; rw [if_neg (by omega)]; rw [if_neg (by omega)]; rw [if_neg (by omega)]; first | done | rfl) (by decide) ?_
    refine z_iconst (v := Int32.ofInt 0) dX0_shapeOf_52 rfl ?_
    exact z_ireturn dX0_shapeOf_53 rfl rfl (hP _ (show rng 0 from ⟨by decide, by decide⟩) trivial)
  · refine tw_look (off := 43) (tgt := 44) dX0_shapeOf_1 (by decide) gl0 (by rw [h1]; rfl) (by decide) ?_
    refine z_iconst (v := Int32.ofInt 1) dX0_shapeOf_44 rfl ?_
    exact z_ireturn dX0_shapeOf_45 rfl rfl (hP _ (show rng 1 from ⟨by decide, by decide⟩) trivial)
  · refine tw_look (off := 49) (tgt := 50) dX0_shapeOf_1 (by decide) gl0 (by rw [h1]; rfl) (by decide) ?_
    refine z_iconst (v := Int32.ofInt 4) dX0_shapeOf_50 rfl ?_
    exact z_ireturn dX0_shapeOf_51 rfl rfl (hP _ (show rng 4 from ⟨by decide, by decide⟩) trivial)
  · refine tw_look (off := 47) (tgt := 48) dX0_shapeOf_1 (by decide) gl0 (by rw [h1]; rfl) (by decide) ?_
    refine z_iconst (v := Int32.ofInt 3) dX0_shapeOf_48 rfl ?_
    exact z_ireturn dX0_shapeOf_49 rfl rfl (hP _ (show rng 3 from ⟨by decide, by decide⟩) trivial)
  · refine tw_look (off := 45) (tgt := 46) dX0_shapeOf_1 (by decide) gl0 (by rw [h1]; rfl) (by decide) ?_
    refine z_iconst (v := Int32.ofInt 2) dX0_shapeOf_46 rfl ?_
    exact z_ireturn dX0_shapeOf_47 rfl rfl (hP _ (show rng 2 from ⟨by decide, by decide⟩) trivial)

set_option maxRecDepth 100000 in
set_option maxHeartbeats 4000000 in
theorem kX0_skips {G : xG} {B : Nat × Nat} {τ : Tau} {cs : List va_E} {a0 pa0 : Nat} {l1 : Int} (d : Nat) (hd : 1 ≤ d) (hW : WT G B τ cs) (ga0 : τ a0 = some (.inl (0, pa0))) (gl1 : rng l1)  : X G yX0_skips cX0_skips 2 (some .boolean) d [.ref (G.1 + a0), .int (Int32.ofInt l1)] cs (wI G B τ cs [0] (fun r => (iv 0 1 r))) := by
  refine X.of false (by decide +kernel) (by decide) (Nat.le_of_ble_eq_true rfl) ?_
  show Z (RX0, cX0_skips, 2, some .boolean, false) G d _ 0 [(0, .ref (G.1 + a0)), (1, .int (Int32.ofInt l1))] [] cs
  have hP : ∀ (τ1 : Tau) (c1 : List va_E) (r : Int), WT G B τ1 c1 → Fx [0] τ cs τ1 c1 → rng r → ((iv 0 1 r)) → wI G B τ cs [0] (fun r => (iv 0 1 r)) (some (.int (Int32.ofInt r))) c1 := fun τ1 c1 r h1 h2 h3 h4 => ⟨τ1, r, rfl, h3, h1, h2, h4⟩
  have hX : Fx [0] τ cs τ cs := Fx.rf
  skip
  refine z_aload_n dX0_skips_0 rfl rfl ?_
  refine tw_getO hW ga0 (by decide) (by decide) rfl kX0 fX0_15 dX0_skips_1 (fun b1 pb1 gb1 => ?_)
  have gb1 : oT τ b1 5 := ⟨_, gb1⟩
  refine z_aload_n dX0_skips_4 rfl rfl ?_
  refine tw_getI hW ga0 (by decide) (by decide) rfl kX0 fX0_9 dX0_skips_5 (fun x2 _ vx2 gx2 => ?_)
  have hX0 := kX5_at 0 (Nat.le_refl _) hW gb1 gx2 
  refine z_callV (As := [_]) eX5_at sX5_at lX0_62 rfl dX0_skips_8 (hW.os gb1).choose_spec hX0 (Nat.le_trans (by decide) hd) rfl (Nat.le_of_ble_eq_true rfl) (fun r cs1 hp => ?_)
  obtain ⟨hcs, r4, rfl, gr4, n3_0⟩ := hp
  obtain rfl := hcs.symm
  refine z_st (st' := [.int (Int32.ofInt r4)]) rfl ?_
  refine z_iload_n dX0_skips_11 rfl rfl ?_
  refine i_icmp_eq (tgt := 17) dX0_skips_12 (by decide) gr4 gl1 (fun h5 => ?_) (fun h5 => ?_)
  · refine z_aload_n dX0_skips_17 rfl rfl ?_
    refine z_dup dX0_skips_18 rfl ?_
    refine tw_getI hW ga0 (by decide) (by decide) rfl kX0 fX0_9 dX0_skips_19 (fun x6 _ vx6 gx6 => ?_)
    refine z_iconst (v := Int32.ofInt 1) dX0_skips_22 rfl ?_
    refine tw_iadd dX0_skips_23 (fun z7 gz7 ez7 => ?_)
    first | have ez7 := ez7 ⟨by omega, by omega⟩ | clear ez7
    refine tw_putI hW hX ga0 (by decide) (by decide) rfl kX0 fX0_9 dX0_skips_24 rfl rfl rfl (any_ok _) (by decide) (fun c1 q _ _ => nT hW ga0 (by decide) c1 q) (fun cs hW hX _ _ _ => ?_)
    refine z_iconst (v := Int32.ofInt 1) dX0_skips_27 rfl ?_
    exact z_ireturn dX0_skips_28 rfl (nar01 (b01 ⟨by decide, by decide⟩)) (hP _ _ _ hW hX (show rng 1 from ⟨by decide, by decide⟩) (by omega))
  · refine z_iconst (v := Int32.ofInt 0) dX0_skips_15 rfl ?_
    exact z_ireturn dX0_skips_16 rfl (nar01 (b01 ⟨by decide, by decide⟩)) (hP _ _ _ hW hX (show rng 0 from ⟨by decide, by decide⟩) (by omega))

set_option maxRecDepth 100000 in
set_option maxHeartbeats 4000000 in
theorem kX4_fieldName {G : xG} {B : Nat × Nat} {τ : Tau} {cs : List va_E} {l0 : Int} {l1 : Int} (d : Nat) (hd : 0 ≤ d) (hW : WT G B τ cs) (gl0 : rng l0) (gl1 : rng l1)  : X G yX4_fieldName cX4_fieldName 2 (some .int) d [.int (Int32.ofInt l0), .int (Int32.ofInt l1)] cs (rI cs (fun r => (iv (-100) 100 l0 → iv (-100) 100 l1 → r = 6 + (4 * l0 + l1)))) := by
  refine X.of false (by decide +kernel) (by decide) (Nat.le_of_ble_eq_true rfl) ?_
  show Z (RX4, cX4_fieldName, 2, some .int, false) G d _ 0 [(0, .int (Int32.ofInt l0)), (1, .int (Int32.ofInt l1))] [] cs
  have hP : ∀ r : Int, rng r → ((iv (-100) 100 l0 → iv (-100) 100 l1 → r = 6 + (4 * l0 + l1))) → rI cs (fun r => (iv (-100) 100 l0 → iv (-100) 100 l1 → r = 6 + (4 * l0 + l1))) (some (.int (Int32.ofInt r))) cs := fun r h1 h2 => ⟨rfl, r, rfl, h1, h2⟩
  refine z_bipush (v := Int32.ofInt 6) dX4_fieldName_0 (by decide) ?_
  refine z_iload_n dX4_fieldName_2 rfl rfl ?_
  refine z_iconst (v := Int32.ofInt 4) dX4_fieldName_3 rfl ?_
  refine tw_imul dX4_fieldName_4 (fun z1 gz1 ez1 => ?_)
  first | have ez1 := ez1 ⟨by omega, by omega⟩ | skip
  refine tw_iadd dX4_fieldName_5 (fun z2 gz2 ez2 => ?_)
  first | have ez2 := ez2 ⟨by omega, by omega⟩ | skip
  refine z_iload_n dX4_fieldName_6 rfl rfl ?_
  refine tw_iadd dX4_fieldName_7 (fun z3 gz3 ez3 => ?_)
  first | have ez3 := ez3 ⟨by omega, by omega⟩ | skip
  exact z_ireturn dX4_fieldName_8 rfl rfl (hP _ gz3 (by omega))
