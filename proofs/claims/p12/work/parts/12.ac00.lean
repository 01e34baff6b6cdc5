set_option maxRecDepth 100000 in
set_option maxHeartbeats 4000000 in
theorem eJ7_fill_53178_5 {G : xG} {d : Nat} {Post : xP} {B : Nat × Nat} {τ0 τ : Tau} {c0 cs : List va_E} {a0 : Nat} {l1 : Int} {l2 : Int} {l3 : Int} {n5 : Nat} (hd : 0 ≤ d) (hW : WT G B τ cs) (hX : Fx [] τ0 c0 τ cs) (ga0 : τ a0 = some (.inr (0, 30, (-2147483648), 2147483647))) (gl1 : rng l1) (gl2 : rng l2) (gl3 : rng l3) (i0 : 0 ≤ l2) (i1 : l3 = 30)  (hP : ∀ (τ1 : Tau) (c1 : List va_E), WT G B τ1 c1 → Fx [] τ0 c0 τ1 c1 → Post none c1)  (ih_5 : ∀ {τ : Tau} {cs : List va_E} {a0 : Nat} {l1 : Int} {l2 : Int} {l3 : Int} (hW : WT G B τ cs) (hX : Fx [] τ0 c0 τ cs) (ga0 : τ a0 = some (.inr (0, 30, (-2147483648), 2147483647))) (gl1 : rng l1) (gl2 : rng l2) (gl3 : rng l3) (i0 : 0 ≤ l2) (i1 : l3 = 30) , (30 - l2).toNat < n5 → Z (RJ7, cJ7_fill_53178, 4, none, false) G d Post 5 [(0, .ref (G.1 + a0)), (1, .int (Int32.ofInt l1)), (2, .int (Int32.ofInt l2)), (3, .int (Int32.ofInt l3))] [] cs) (hm_5 : (30 - l2).toNat < n5 + 1) : Z (RJ7, cJ7_fill_53178, 4, none, false) G d Post 5 [(0, .ref (G.1 + a0)), (1, .int (Int32.ofInt l1)), (2, .int (Int32.ofInt l2)), (3, .int (Int32.ofInt l3))] [] cs := by
  refine z_iload_n dJ7_fill_53178_5 rfl rfl ?_
  refine z_iload_n dJ7_fill_53178_6 rfl rfl ?_
  refine i_icmp_ge (tgt := 20) dJ7_fill_53178_7 (by decide) gl2 gl3 (fun h1 => ?_) (fun h1 => ?_)
  · exact z_return dJ7_fill_53178_20 rfl (hP _ _ hW hX)
  · refine z_aload_n dJ7_fill_53178_10 rfl rfl ?_
    refine z_iload_n dJ7_fill_53178_11 rfl rfl ?_
    refine z_iload_n dJ7_fill_53178_12 rfl rfl ?_
    refine tw_iast hW hX ga0 (by omega) (by omega) (any_ok _) (Or.inl rfl) dJ7_fill_53178_13 (fun c1 q _ => nA hW ga0 (show (2147483647 : Int) ≠ 600 by decide) (show (2147483647 : Int) ≠ 601 by decide) c1 q) (fun cs hW hX _ _ => ?_)
    refine tw_iinc (l := l2) dJ7_fill_53178_14 rfl (by decide) (fun z2 gz2 ez2 => ?_)
    first | have ez2 := ez2 ⟨by omega, by omega⟩ | clear ez2
    refine z_loc (L' := [(0, .ref (G.1 + a0)), (1, .int (Int32.ofInt l1)), (2, .int (Int32.ofInt z2)), (3, .int (Int32.ofInt l3))]) (List.forall_mem_cons.mpr ⟨rfl, (List.forall_mem_cons.mpr ⟨rfl, (List.forall_mem_cons.mpr ⟨rfl, (List.forall_mem_cons.mpr ⟨rfl, (fun _ h => nomatch h)⟩)⟩)⟩)⟩) ?_
    refine z_goto (tgt := 5) dJ7_fill_53178_17 (by decide) ?_
    refine z_loc (L' := [(0, .ref (G.1 + a0)), (1, .int (Int32.ofInt l1)), (2, .int (Int32.ofInt z2)), (3, .int (Int32.ofInt l3))]) (List.forall_mem_cons.mpr ⟨rfl, (List.forall_mem_cons.mpr ⟨rfl, (List.forall_mem_cons.mpr ⟨rfl, (List.forall_mem_cons.mpr ⟨rfl, (fun _ h => nomatch h)⟩)⟩)⟩)⟩) ?_
    exact ih_5 hW hX ga0 gl1 gz2 gl3 (by omega) (by omega)  (by omega)
set_option maxRecDepth 100000 in
set_option maxHeartbeats 4000000 in
theorem bJ7_fill_53178_5 {G : xG} {d : Nat} {Post : xP} {B : Nat × Nat} {τ0 τ : Tau} {c0 cs : List va_E} {a0 : Nat} {l1 : Int} {l2 : Int} {l3 : Int} (hd : 0 ≤ d) (hW : WT G B τ cs) (hX : Fx [] τ0 c0 τ cs) (ga0 : τ a0 = some (.inr (0, 30, (-2147483648), 2147483647))) (gl1 : rng l1) (gl2 : rng l2) (gl3 : rng l3) (i0 : 0 ≤ l2) (i1 : l3 = 30)  (hP : ∀ (τ1 : Tau) (c1 : List va_E), WT G B τ1 c1 → Fx [] τ0 c0 τ1 c1 → Post none c1)  : Z (RJ7, cJ7_fill_53178, 4, none, false) G d Post 5 [(0, .ref (G.1 + a0)), (1, .int (Int32.ofInt l1)), (2, .int (Int32.ofInt l2)), (3, .int (Int32.ofInt l3))] [] cs := by
  have key : ∀ (n : Nat) (τ : Tau) (cs : List va_E) (a0 : Nat) (l1 : Int) (l2 : Int) (l3 : Int) (hW : WT G B τ cs) (hX : Fx [] τ0 c0 τ cs) (ga0 : τ a0 = some (.inr (0, 30, (-2147483648), 2147483647))) (gl1 : rng l1) (gl2 : rng l2) (gl3 : rng l3) (i0 : 0 ≤ l2) (i1 : l3 = 30) , (30 - l2).toNat < n → Z (RJ7, cJ7_fill_53178, 4, none, false) G d Post 5 [(0, .ref (G.1 + a0)), (1, .int (Int32.ofInt l1)), (2, .int (Int32.ofInt l2)), (3, .int (Int32.ofInt l3))] [] cs := by
    intro n
    induction n with
    | zero => intro τ cs a0 l1 l2 l3 hW hX ga0 gl1 gl2 gl3 i0 i1 hm; exact absurd hm (Nat.not_lt_zero _)
    | succ n ih =>
      intro τ cs a0 l1 l2 l3 hW hX ga0 gl1 gl2 gl3 i0 i1 hm
      exact eJ7_fill_53178_5 hd hW hX ga0 gl1 gl2 gl3 i0 i1 hP  (fun hW hX ga0 gl1 gl2 gl3 i0 i1 hm => ih _ _ _ _ _ _ hW hX ga0 gl1 gl2 gl3 i0 i1 hm) hm
  exact key _ _ _ _ _ _ _ hW hX ga0 gl1 gl2 gl3 i0 i1 (Nat.lt_succ_self _)
set_option maxRecDepth 100000 in
set_option maxHeartbeats 4000000 in
theorem kJ7_fill_53178 {G : xG} {B : Nat × Nat} {τ : Tau} {cs : List va_E} {a0 : Nat} {l1 : Int} (d : Nat) (hd : 0 ≤ d) (hW : WT G B τ cs) (ga0 : τ a0 = some (.inr (0, 30, (-2147483648), 2147483647))) (gl1 : rng l1)  : X G yJ7_fill_53178 cJ7_fill_53178 4 none d [.ref (G.1 + a0), .int (Int32.ofInt l1)] cs (wN G B τ cs []) := by
  refine X.of false (by decide +kernel) (by decide) (Nat.le_of_ble_eq_true rfl) ?_
  show Z (RJ7, cJ7_fill_53178, 4, none, false) G d _ 0 [(0, .ref (G.1 + a0)), (1, .int (Int32.ofInt l1))] [] cs
  have hP : ∀ (τ1 : Tau) (c1 : List va_E), WT G B τ1 c1 → Fx [] τ cs τ1 c1 → wN G B τ cs [] none c1 := fun τ1 c1 h1 h2 => ⟨τ1, rfl, h1, h2⟩
  have hX : Fx [] τ cs τ cs := Fx.rf
  skip
  refine z_iconst (v := Int32.ofInt 0) dJ7_fill_53178_0 rfl ?_
  refine z_istore_n dJ7_fill_53178_1 rfl (by decide) ?_
  refine z_loc (L' := [(0, .ref (G.1 + a0)), (1, .int (Int32.ofInt l1)), (2, .int (Int32.ofInt 0))]) (List.forall_mem_cons.mpr ⟨rfl, (List.forall_mem_cons.mpr ⟨rfl, (List.forall_mem_cons.mpr ⟨rfl, (fun _ h => nomatch h)⟩)⟩)⟩) ?_
  refine z_aload_n dJ7_fill_53178_2 rfl rfl ?_
  refine tw_alen (t0 := 0) hW ga0 rfl dJ7_fill_53178_3 (fun x1 qx1 gx1 => ?_)
  refine z_istore_n dJ7_fill_53178_4 rfl (by decide) ?_
  refine z_loc (L' := [(0, .ref (G.1 + a0)), (1, .int (Int32.ofInt l1)), (2, .int (Int32.ofInt 0)), (3, .int (Int32.ofInt x1))]) (List.forall_mem_cons.mpr ⟨rfl, (List.forall_mem_cons.mpr ⟨rfl, (List.forall_mem_cons.mpr ⟨rfl, (List.forall_mem_cons.mpr ⟨rfl, (fun _ h => nomatch h)⟩)⟩)⟩)⟩) ?_
  refine z_loc (L' := [(0, .ref (G.1 + a0)), (1, .int (Int32.ofInt l1)), (2, .int (Int32.ofInt 0)), (3, .int (Int32.ofInt x1))]) (List.forall_mem_cons.mpr ⟨rfl, (List.forall_mem_cons.mpr ⟨rfl, (List.forall_mem_cons.mpr ⟨rfl, (List.forall_mem_cons.mpr ⟨rfl, (fun _ h => nomatch h)⟩)⟩)⟩)⟩) ?_
  exact bJ7_fill_53178_5 hd hW hX ga0 gl1 (show rng 0 from ⟨by decide, by decide⟩) gx1 (by omega) (by omega)  hP 

set_option maxRecDepth 100000 in
set_option maxHeartbeats 4000000 in
theorem kX10_isDigit {G : xG} {B : Nat × Nat} {τ : Tau} {cs : List va_E} {l0 : Int} (d : Nat) (hd : 0 ≤ d) (hW : WT G B τ cs) (gl0 : rng l0)  : X G yX10_isDigit cX10_isDigit 1 (some .boolean) d [.int (Int32.ofInt l0)] cs (rI cs (fun r => (iv 0 1 r))) := by
  refine X.of false (by decide +kernel) (by decide) (Nat.le_of_ble_eq_true rfl) ?_
  show Z (RX10, cX10_isDigit, 1, some .boolean, false) G d _ 0 [(0, .int (Int32.ofInt l0))] [] cs
  have hP : ∀ r : Int, rng r → ((iv 0 1 r)) → rI cs (fun r => (iv 0 1 r)) (some (.int (Int32.ofInt r))) cs := fun r h1 h2 => ⟨rfl, r, rfl, h1, h2⟩
  refine z_iload_n dX10_isDigit_0 rfl rfl ?_
  refine z_bipush (v := Int32.ofInt 48) dX10_isDigit_1 (by decide) ?_
  refine i_icmp_lt (tgt := 16) dX10_isDigit_3 (by decide) gl0 (show rng 48 from ⟨by decide, by decide⟩) (fun h1 => ?_) (fun h1 => ?_)
  · refine z_iconst (v := Int32.ofInt 0) dX10_isDigit_16 rfl ?_
    exact z_ireturn dX10_isDigit_17 rfl (nar01 (b01 ⟨by decide, by decide⟩)) (hP _ (show rng 0 from ⟨by decide, by decide⟩) (by omega))
  · refine z_iload_n dX10_isDigit_6 rfl rfl ?_
    refine z_bipush (v := Int32.ofInt 57) dX10_isDigit_7 (by decide) ?_
    refine i_icmp_gt (tgt := 16) dX10_isDigit_9 (by decide) gl0 (show rng 57 from ⟨by decide, by decide⟩) (fun h2 => ?_) (fun h2 => ?_)
    · refine z_iconst (v := Int32.ofInt 0) dX10_isDigit_16 rfl ?_
      exact z_ireturn dX10_isDigit_17 rfl (nar01 (b01 ⟨by decide, by decide⟩)) (hP _ (show rng 0 from ⟨by decide, by decide⟩) (by omega))
    · refine z_iconst (v := Int32.ofInt 1) dX10_isDigit_12 rfl ?_
      refine z_goto (tgt := 17) dX10_isDigit_13 (by decide) ?_
      exact z_ireturn dX10_isDigit_17 rfl (nar01 (b01 ⟨by decide, by decide⟩)) (hP _ (show rng 1 from ⟨by decide, by decide⟩) (by omega))

set_option maxRecDepth 100000 in
set_option maxHeartbeats 4000000 in
theorem bX10_isLetter_12 {G : xG} {d : Nat} {Post : xP} {B : Nat × Nat} {τ : Tau} {cs : List va_E} {l0 : Int} (hd : 0 ≤ d) (hW : WT G B τ cs) (gl0 : rng l0)   (hP : ∀ r : Int, rng r → ((iv 0 1 r)) → Post (some (.int (Int32.ofInt r))) cs)  : Z (RX10, cX10_isLetter, 1, some .boolean, false) G d Post 12 [(0, .int (Int32.ofInt l0))] [] cs := by
  refine z_iload_n dX10_isLetter_12 rfl rfl ?_
  refine z_bipush (v := Int32.ofInt 65) dX10_isLetter_13 (by decide) ?_
  refine i_icmp_lt (tgt := 28) dX10_isLetter_15 (by decide) gl0 (show rng 65 from ⟨by decide, by decide⟩) (fun h1 => ?_) (fun h1 => ?_)
  · refine z_iconst (v := Int32.ofInt 0) dX10_isLetter_28 rfl ?_
    exact z_ireturn dX10_isLetter_29 rfl (nar01 (b01 ⟨by decide, by decide⟩)) (hP _ (show rng 0 from ⟨by decide, by decide⟩) (by omega))
  · refine z_iload_n dX10_isLetter_18 rfl rfl ?_
    refine z_bipush (v := Int32.ofInt 90) dX10_isLetter_19 (by decide) ?_
    refine i_icmp_gt (tgt := 28) dX10_isLetter_21 (by decide) gl0 (show rng 90 from ⟨by decide, by decide⟩) (fun h2 => ?_) (fun h2 => ?_)
    · refine z_iconst (v := Int32.ofInt 0) dX10_isLetter_28 rfl ?_
      exact z_ireturn dX10_isLetter_29 rfl (nar01 (b01 ⟨by decide, by decide⟩)) (hP _ (show rng 0 from ⟨by decide, by decide⟩) (by omega))
    · refine z_iconst (v := Int32.ofInt 1) dX10_isLetter_24 rfl ?_
      refine z_goto (tgt := 29) dX10_isLetter_25 (by decide) ?_
      exact z_ireturn dX10_isLetter_29 rfl (nar01 (b01 ⟨by decide, by decide⟩)) (hP _ (show rng 1 from ⟨by decide, by decide⟩) (by omega))
set_option maxRecDepth 100000 in
set_option maxHeartbeats 4000000 in
theorem kX10_isLetter {G : xG} {B : Nat × Nat} {τ : Tau} {cs : List va_E} {l0 : Int} (d : Nat) (hd : 0 ≤ d) (hW : WT G B τ cs) (gl0 : rng l0)  : X G yX10_isLetter cX10_isLetter 1 (some .boolean) d [.int (Int32.ofInt l0)] cs (rI cs (fun r => (iv 0 1 r))) := by
  refine X.of false (by decide +kernel) (by decide) (Nat.le_of_ble_eq_true rfl) ?_
  show Z (RX10, cX10_isLetter, 1, some .boolean, false) G d _ 0 [(0, .int (Int32.ofInt l0))] [] cs
  have hP : ∀ r : Int, rng r → ((iv 0 1 r)) → rI cs (fun r => (iv 0 1 r)) (some (.int (Int32.ofInt r))) cs := fun r h1 h2 => ⟨rfl, r, rfl, h1, h2⟩
  refine z_iload_n dX10_isLetter_0 rfl rfl ?_
  refine z_bipush (v := Int32.ofInt 97) dX10_isLetter_1 (by decide) ?_
  refine i_icmp_lt (tgt := 12) dX10_isLetter_3 (by decide) gl0 (show rng 97 from ⟨by decide, by decide⟩) (fun h1 => ?_) (fun h1 => ?_)
  · refine z_loc (L' := [(0, .int (Int32.ofInt l0))]) (List.forall_mem_cons.mpr ⟨rfl, (fun _ h => nomatch h)⟩) ?_
    exact bX10_isLetter_12 hd hW gl0   hP 
  · refine z_iload_n dX10_isLetter_6 rfl rfl ?_
    refine z_bipush (v := Int32.ofInt 122) dX10_isLetter_7 (by decide) ?_
    refine i_icmp_le (tgt := 24) dX10_isLetter_9 (by decide) gl0 (show rng 122 from ⟨by decide, by decide⟩) (fun h2 => ?_) (fun h2 => ?_)
    · refine z_iconst (v := Int32.ofInt 1) dX10_isLetter_24 rfl ?_
      refine z_goto (tgt := 29) dX10_isLetter_25 (by decide) ?_
      exact z_ireturn dX10_isLetter_29 rfl (nar01 (b01 ⟨by decide, by decide⟩)) (hP _ (show rng 1 from ⟨by decide, by decide⟩) (by omega))
    · refine z_loc (L' := [(0, .int (Int32.ofInt l0))]) (List.forall_mem_cons.mpr ⟨rfl, (fun _ h => nomatch h)⟩) ?_
      exact bX10_isLetter_12 hd hW gl0   hP 

set_option maxRecDepth 100000 in
set_option maxHeartbeats 4000000 in
theorem kX4_fieldName {G : xG} {B : Nat × Nat} {τ : Tau} {cs : List va_E} {l0 : Int} {l1 : Int} (d : Nat) (hd : 0 ≤ d) (hW : WT G B τ cs) (gl0 : rng l0) (gl1 : rng l1)  : X G yX4_fieldName cX4_fieldName 2 (some .int) d [.int (Int32.ofInt l0), .int (Int32.ofInt l1)] cs (rI cs (fun r => (iv (-100) 100 l0 → iv (-100) 100 l1 → r = 6 + (4 * l0 + l1)))) := by
  refine X.of false (by decide +kernel) (by decide) (Nat.le_of_ble_eq_true rfl) ?_
  show Z (RX4, cX4_fieldName, 2, some .int, false) G d _ 0 [(0, .int (Int32.ofInt l0)), (1, .int (Int32.ofInt l1))] [] cs
  have hP : ∀ r : Int, rng r → ((iv (-100) 100 l0 → iv (-100) 100 l1 → r = 6 + (4 * l0 + l1))) → rI cs (fun r => (iv (-100) 100 l0 → iv (-100) 100 l1 → r = 6 + (4 * l0 + l1))) (some (.int (Int32.ofInt r))) cs := fun r h1 h2 => ⟨rfl, r, rfl, h1, h2⟩
  refine z_bipush (v := Int32.ofInt 6) dX4_fieldName_0 (by decide) ?_
  refine z_iload_n dX4_fieldName_2 rfl rfl ?_
  refine z_iconst (v := Int32.ofInt 4) dX4_fieldName_3 rfl ?_
  refine tw_imul dX4_fieldName_4 (fun z1 gz1 ez1 => ?_)
  first | have ez1 := ez1 ⟨by omega, by omega⟩ | skip
  refine tw_iadd dX4_fieldName_5 (fun z2 gz2 ez2 => ?_)
  first | have ez2 := ez2 ⟨by omega, by omega⟩ | skip
  refine z_iload_n dX4_fieldName_6 rfl rfl ?_
  refine tw_iadd dX4_fieldName_7 (fun z3 gz3 ez3 => ?_)
  first | have ez3 := ez3 ⟨by omega, by omega⟩ | skip
  exact z_ireturn dX4_fieldName_8 rfl rfl (hP _ gz3 (by omega))

