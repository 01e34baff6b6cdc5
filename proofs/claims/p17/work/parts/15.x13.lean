def wX10_unit  (a1 : Int) (S : St) (K : Int → St → Prop) : Prop := rng a1 → (wX10_isSign (a1) S (fun r2 S1 => (rng (r2) ∧ ((r2 = 0 → K (0) S1) ∧ ((¬ (r2 = 0)) → (wX5_put 1 (a1) S1 (fun r6 S5 => (rng (r6) ∧ ((r6 = 0 → K (0) S5) ∧ ((¬ (r6 = 0)) → K (1) S5))))))))))
set_option maxRecDepth 100000 in
set_option maxHeartbeats 4000000 in
theorem lX10_unit {G : xG} {v : Nat → Nat} {sh : Nat → Option Sh} {B : Nat × Nat} {c0 : List va_E}  {a1 : Int} {S : St} {cs : List va_E} {K : Int → St → Prop} (d : Nat) (hd : 2 ≤ d) (hT : sb shC sh) (hS : ∀ b x, sh b = some x → ¬ isS b) (hW : Wv G v sh B c0 S cs) (g1 : rng a1) (hw : wX10_unit a1 S K) : X G yX10_unit cX10_unit 2 (some .boolean) d [.ref (G.1 + v 0), .int (Int32.ofInt a1)] cs (vI G v sh B c0 K) := by
  refine X.of false (by decide +kernel) (by decide) (Nat.le_of_ble_eq_true rfl) ?_
  show Z (RX10, cX10_unit, 2, some .boolean, false) G d _ 0 [(0, .ref (G.1 + v 0)), (1, .int (Int32.ofInt a1))] [] cs
  have hP : ∀ (x : Int) (S : St) (cs : List va_E), K x S → Wv G v sh B c0 S cs → vI G v sh B c0 K (some (.int (Int32.ofInt x))) cs := fun x S cs a b => ⟨x, S, rfl, a, b⟩
  unfold wX10_unit at hw
  have hw := hw g1
  refine z_iload_n dX10_unit_0 rfl rfl ?_
  have hX := lX10_isSign 0 (Nat.le_refl _) hT hS hW g1 hw
  refine z_callS (As := [_]) eX10_isSign sX10_isSign lX10_56 dX10_unit_1 hX (Nat.le_trans (by decide) hd) rfl (Nat.le_of_ble_eq_true rfl) (fun r cs hp => ?_)
  obtain ⟨r2, S1, rfl, hw, hW⟩ := hp
  refine z_st (st' := [.int (Int32.ofInt (r2))]) rfl ?_
  obtain ⟨q4, hw⟩ := hw
  refine i_if_eq (tgt := 22) dX10_unit_4 (by decide) q4 (fun h3 => ?_) (fun h3 => ?_)
  · have hw := hw.1 h3
    refine z_iconst (v := Int32.ofInt 0) dX10_unit_22 rfl ?_
    exact z_ireturn dX10_unit_23 rfl (nar01 (by decide)) (hP _ _ _ hw hW)
  · have hw := hw.2 h3
    refine z_aload_n dX10_unit_7 rfl rfl ?_
    refine v_getR hW (hT 0 _ rfl) rfl kX10 fX10_12 dX10_unit_8 ?_
    refine z_iload_n dX10_unit_11 rfl rfl ?_
    have hX := lX5_put 1 (Nat.le_refl _) hW (show isS 1 by unfold isS; decide) (fun b x h e => hS b x h (e ▸ (show isS 1 by unfold isS; decide))) g1 hw
    refine z_callV (As := [_]) eX5_put sX5_put lX10_60 rfl dX10_unit_12 (hW.sg (show isS 1 by unfold isS; decide) (fun b x h e => hS b x h (e ▸ (show isS 1 by unfold isS; decide)))).choose_spec.choose_spec.choose_spec.choose_spec.1.choose_spec.1 hX (Nat.le_trans (by decide) hd) rfl (Nat.le_of_ble_eq_true rfl) (fun r cs hp => ?_)
    obtain ⟨r6, S5, rfl, hw, hW⟩ := hp
    refine z_st (st' := [.int (Int32.ofInt (r6))]) rfl ?_
    obtain ⟨q8, hw⟩ := hw
    refine i_if_eq (tgt := 22) dX10_unit_15 (by decide) q8 (fun h7 => ?_) (fun h7 => ?_)
    · have hw := hw.1 h7
      refine z_iconst (v := Int32.ofInt 0) dX10_unit_22 rfl ?_
      exact z_ireturn dX10_unit_23 rfl (nar01 (by decide)) (hP _ _ _ hw hW)
    · have hw := hw.2 h7
      refine z_iconst (v := Int32.ofInt 1) dX10_unit_18 rfl ?_
      refine z_goto (tgt := 23) dX10_unit_19 (by decide) ?_
      exact z_ireturn dX10_unit_23 rfl (nar01 (by decide)) (hP _ _ _ hw hW)

def wX10_make  (a1 : Int) (S : St) (K : Int → St → Prop) : Prop := rng a1 → (wX4_isClass (a1) S (fun r2 S1 => (rng (r2) ∧ ((r2 = 0 → K ((-1)) S1) ∧ ((¬ (r2 = 0)) → (wX4_references (a1) S1 (fun r6 S5 => (rng (r6) ∧ (wX1_born (a1) (r6) S5 (fun r8 S7 => K (r8) S7))))))))))
set_option maxRecDepth 100000 in
set_option maxHeartbeats 4000000 in
theorem lX10_make {G : xG} {v : Nat → Nat} {sh : Nat → Option Sh} {B : Nat × Nat} {c0 : List va_E}  {a1 : Int} {S : St} {cs : List va_E} {K : Int → St → Prop} (d : Nat) (hd : 2 ≤ d) (hT : sb shC sh) (hS : ∀ b x, sh b = some x → ¬ isS b) (hW : Wv G v sh B c0 S cs) (g1 : rng a1) (hw : wX10_make a1 S K) : X G yX10_make cX10_make 2 (some .int) d [.ref (G.1 + v 0), .int (Int32.ofInt a1)] cs (vI G v sh B c0 K) := by
  refine X.of false (by decide +kernel) (by decide) (Nat.le_of_ble_eq_true rfl) ?_
  show Z (RX10, cX10_make, 2, some .int, false) G d _ 0 [(0, .ref (G.1 + v 0)), (1, .int (Int32.ofInt a1))] [] cs
  have hP : ∀ (x : Int) (S : St) (cs : List va_E), K x S → Wv G v sh B c0 S cs → vI G v sh B c0 K (some (.int (Int32.ofInt x))) cs := fun x S cs a b => ⟨x, S, rfl, a, b⟩
  unfold wX10_make at hw
  have hw := hw g1
  refine z_aload_n dX10_make_0 rfl rfl ?_
  refine v_getR hW (hT 0 _ rfl) rfl kX10 fX10_32 dX10_make_1 ?_
  refine z_iload_n dX10_make_4 rfl rfl ?_
  have hX := lX4_isClass 0 (Nat.le_refl _) hT hS hW g1 hw
  refine z_callV (As := [_]) eX4_isClass sX4_isClass lX10_79 rfl dX10_make_5 (hW.at (hT 24 _ rfl)) hX (Nat.le_trans (by decide) hd) rfl (Nat.le_of_ble_eq_true rfl) (fun r cs hp => ?_)
  obtain ⟨r2, S1, rfl, hw, hW⟩ := hp
  refine z_st (st' := [.int (Int32.ofInt (r2))]) rfl ?_
  obtain ⟨q4, hw⟩ := hw
  refine i_if_eq (tgt := 30) dX10_make_8 (by decide) q4 (fun h3 => ?_) (fun h3 => ?_)
  · have hw := hw.1 h3
    refine z_iconst (v := Int32.ofInt (-1)) dX10_make_30 rfl ?_
    exact z_ireturn dX10_make_31 rfl rfl (hP _ _ _ hw hW)
  · have hw := hw.2 h3
    refine z_aload_n dX10_make_11 rfl rfl ?_
    refine v_getR hW (hT 0 _ rfl) rfl kX10 fX10_42 dX10_make_12 ?_
    refine z_iload_n dX10_make_15 rfl rfl ?_
    refine z_aload_n dX10_make_16 rfl rfl ?_
    refine v_getR hW (hT 0 _ rfl) rfl kX10 fX10_32 dX10_make_17 ?_
    refine z_iload_n dX10_make_20 rfl rfl ?_
    have hX := lX4_references 1 (Nat.le_refl _) hT hS hW g1 hw
    refine z_callV (As := [_]) eX4_references sX4_references lX10_82 rfl dX10_make_21 (hW.at (hT 24 _ rfl)) hX (Nat.le_trans (by decide) hd) rfl (Nat.le_of_ble_eq_true rfl) (fun r cs hp => ?_)
    obtain ⟨r6, S5, rfl, hw, hW⟩ := hp
    refine z_st (st' := [.int (Int32.ofInt (r6)), .int (Int32.ofInt (a1)), .ref (G.1 + v 42)]) rfl ?_
    obtain ⟨q9, hw⟩ := hw
    have hX := lX1_born 0 (Nat.le_refl _) hT hS hW g1 q9 hw
    refine z_callV (As := [_, _]) eX1_born sX1_born lX10_86 rfl dX10_make_24 (hW.at (hT 42 _ rfl)) hX (Nat.le_trans (by decide) hd) rfl (Nat.le_of_ble_eq_true rfl) (fun r cs hp => ?_)
    obtain ⟨r8, S7, rfl, hw, hW⟩ := hp
    refine z_st (st' := [.int (Int32.ofInt (r8))]) rfl ?_
    refine z_goto (tgt := 31) dX10_make_27 (by decide) ?_
    exact z_ireturn dX10_make_31 rfl rfl (hP _ _ _ hw hW)

def wX10_shapeIn  (a1 a2 : Int) (S : St) (K : Int → St → Prop) : Prop := rng a1 → rng a2 → (wX1_has (a1) S (fun r2 S1 => (rng (r2) ∧ ((r2 = 0 → K (0) S1) ∧ ((¬ (r2 = 0)) → (wX1_classOf (a1) S1 (fun r6 S5 => (rng (r6) ∧ (wX4_shape (r6) (a2) S5 (fun r8 S7 => K (r8) S7))))))))))
set_option maxRecDepth 100000 in
set_option maxHeartbeats 4000000 in
theorem lX10_shapeIn {G : xG} {v : Nat → Nat} {sh : Nat → Option Sh} {B : Nat × Nat} {c0 : List va_E}  {a1 a2 : Int} {S : St} {cs : List va_E} {K : Int → St → Prop} (d : Nat) (hd : 2 ≤ d) (hT : sb shC sh) (hS : ∀ b x, sh b = some x → ¬ isS b) (hW : Wv G v sh B c0 S cs) (g1 : rng a1) (g2 : rng a2) (hw : wX10_shapeIn a1 a2 S K) : X G yX10_shapeIn cX10_shapeIn 4 (some .int) d [.ref (G.1 + v 0), .ref (G.1 + v 42), .int (Int32.ofInt a1), .int (Int32.ofInt a2)] cs (vI G v sh B c0 K) := by
  refine X.of false (by decide +kernel) (by decide) (Nat.le_of_ble_eq_true rfl) ?_
  show Z (RX10, cX10_shapeIn, 4, some .int, false) G d _ 0 [(0, .ref (G.1 + v 0)), (1, .ref (G.1 + v 42)), (2, .int (Int32.ofInt a1)), (3, .int (Int32.ofInt a2))] [] cs
  have hP : ∀ (x : Int) (S : St) (cs : List va_E), K x S → Wv G v sh B c0 S cs → vI G v sh B c0 K (some (.int (Int32.ofInt x))) cs := fun x S cs a b => ⟨x, S, rfl, a, b⟩
  unfold wX10_shapeIn at hw
  have hw := hw g1 g2
  refine z_aload_n dX10_shapeIn_0 rfl rfl ?_
  refine z_iload_n dX10_shapeIn_1 rfl rfl ?_
  have hX := lX1_has 0 (Nat.le_refl _) hT hS hW g1 hw
  refine z_callV (As := [_]) eX1_has sX1_has lX10_94 rfl dX10_shapeIn_2 (hW.at (hT 42 _ rfl)) hX (Nat.le_trans (by decide) hd) rfl (Nat.le_of_ble_eq_true rfl) (fun r cs hp => ?_)
  obtain ⟨r2, S1, rfl, hw, hW⟩ := hp
  refine z_st (st' := [.int (Int32.ofInt (r2))]) rfl ?_
  obtain ⟨q4, hw⟩ := hw
  refine i_if_eq (tgt := 24) dX10_shapeIn_5 (by decide) q4 (fun h3 => ?_) (fun h3 => ?_)
  · have hw := hw.1 h3
    refine z_iconst (v := Int32.ofInt 0) dX10_shapeIn_24 rfl ?_
    exact z_ireturn dX10_shapeIn_25 rfl rfl (hP _ _ _ hw hW)
  · have hw := hw.2 h3
    refine z_aload_n dX10_shapeIn_8 rfl rfl ?_
    refine v_getR hW (hT 0 _ rfl) rfl kX10 fX10_32 dX10_shapeIn_9 ?_
    refine z_aload_n dX10_shapeIn_12 rfl rfl ?_
    refine z_iload_n dX10_shapeIn_13 rfl rfl ?_
    have hX := lX1_classOf 1 (Nat.le_refl _) hT hS hW g1 hw
    refine z_callV (As := [_]) eX1_classOf sX1_classOf lX10_175 rfl dX10_shapeIn_14 (hW.at (hT 42 _ rfl)) hX (Nat.le_trans (by decide) hd) rfl (Nat.le_of_ble_eq_true rfl) (fun r cs hp => ?_)
    obtain ⟨r6, S5, rfl, hw, hW⟩ := hp
    refine z_st (st' := [.int (Int32.ofInt (r6)), .ref (G.1 + v 24)]) rfl ?_
    refine z_iload_n dX10_shapeIn_17 rfl rfl ?_
    obtain ⟨q9, hw⟩ := hw
    have hX := lX4_shape 1 (Nat.le_refl _) hT hS hW q9 g2 hw
    refine z_callV (As := [_, _]) eX4_shape sX4_shape lX10_187 rfl dX10_shapeIn_18 (hW.at (hT 24 _ rfl)) hX (Nat.le_trans (by decide) hd) rfl (Nat.le_of_ble_eq_true rfl) (fun r cs hp => ?_)
    obtain ⟨r8, S7, rfl, hw, hW⟩ := hp
    refine z_st (st' := [.int (Int32.ofInt (r8))]) rfl ?_
    refine z_goto (tgt := 25) dX10_shapeIn_21 (by decide) ?_
    exact z_ireturn dX10_shapeIn_25 rfl rfl (hP _ _ _ hw hW)

def wX10_set_46  (l1 l2 l3 s0 : Int) (S : St) (K : Int → St → Prop) : Prop := (rng (s0) ∧ ((s0 = 0 → (iv 0 1 (s0) ∧ K (s0) S)) ∧ ((¬ (s0 = 0)) → (rng (l1) ∧ (rng (l2) ∧ (rng (l3) ∧ (wX1_putHead (l1) (l2) (l3) S (fun r5 S4 => (iv 0 1 (s0) ∧ K (s0) S4)))))))))
set_option maxRecDepth 100000 in
set_option maxHeartbeats 4000000 in
theorem ubX10_set_46 {G : xG} {v : Nat → Nat} {sh : Nat → Option Sh} {B : Nat × Nat} {c0 : List va_E} {d : Nat} {Post : xP} {l1 l2 l3 s0 : Int} {S : St} {cs : List va_E} {K : Int → St → Prop} (hd : 3 ≤ d) (hT : sb shC sh) (hS : ∀ b x, sh b = some x → ¬ isS b) (hW : Wv G v sh B c0 S cs) (hP : ∀ (x : Int) (S : St) (cs : List va_E), K x S → Wv G v sh B c0 S cs → Post (some (.int (Int32.ofInt x))) cs)  (hw : wX10_set_46 l1 l2 l3 s0 S K ) : Z (RX10, cX10_set, 6, some .boolean, false) G d Post 46 [(0, .ref (G.1 + v 0)), (1, .int (Int32.ofInt (l1))), (2, .int (Int32.ofInt (l2))), (3, .int (Int32.ofInt (l3)))] [.int (Int32.ofInt (s0))] cs := by
  unfold wX10_set_46 at hw
  refine z_istore dX10_set_46 (by decide) ?_
  refine z_loc (L' := [(0, .ref (G.1 + v 0)), (1, .int (Int32.ofInt (l1))), (2, .int (Int32.ofInt (l2))), (3, .int (Int32.ofInt (l3))), (5, .int (Int32.ofInt (s0)))]) (List.forall_mem_cons.mpr ⟨rfl, (List.forall_mem_cons.mpr ⟨rfl, (List.forall_mem_cons.mpr ⟨rfl, (List.forall_mem_cons.mpr ⟨rfl, (List.forall_mem_cons.mpr ⟨rfl, (fun _ h => nomatch h)⟩)⟩)⟩)⟩)⟩) ?_
  refine z_iload dX10_set_48 rfl ?_
  obtain ⟨q2, hw⟩ := hw
  refine i_if_eq (tgt := 63) dX10_set_50 (by decide) q2 (fun h1 => ?_) (fun h1 => ?_)
  · have hw := hw.1 h1
    refine z_iload dX10_set_63 rfl ?_
    obtain ⟨q3, hw⟩ := hw
    exact z_ireturn dX10_set_65 rfl (nar01 (b01 q3)) (hP _ _ _ hw hW)
  · have hw := hw.2 h1
    refine z_aload_n dX10_set_53 rfl rfl ?_
    refine v_getR hW (hT 0 _ rfl) rfl kX10 fX10_42 dX10_set_54 ?_
    refine z_iload_n dX10_set_57 rfl rfl ?_
    refine z_iload_n dX10_set_58 rfl rfl ?_
    refine z_iload_n dX10_set_59 rfl rfl ?_
    obtain ⟨q6, hw⟩ := hw
    obtain ⟨q7, hw⟩ := hw
    obtain ⟨q8, hw⟩ := hw
    have hX := lX1_putHead 1 (Nat.le_refl _) hT hS hW q6 q7 q8 hw
    refine z_callV (As := [_, _, _]) eX1_putHead sX1_putHead lX10_97 rfl dX10_set_60 (hW.at (hT 42 _ rfl)) hX (Nat.le_trans (by decide) hd) rfl (Nat.le_of_ble_eq_true rfl) (fun r cs hp => ?_)
    obtain ⟨r5, S4, rfl, hw, hW⟩ := hp
    refine z_st (st' := []) rfl ?_
    refine z_iload dX10_set_63 rfl ?_
    obtain ⟨q9, hw⟩ := hw
    exact z_ireturn dX10_set_65 rfl (nar01 (b01 q9)) (hP _ _ _ hw hW)
def wX10_set_41  (l1 l2 l3 : Int) (S : St) (K : Int → St → Prop) : Prop := wX10_set_46 (l1) (l2) (l3) (1) S K
set_option maxRecDepth 100000 in
set_option maxHeartbeats 4000000 in
theorem ubX10_set_41 {G : xG} {v : Nat → Nat} {sh : Nat → Option Sh} {B : Nat × Nat} {c0 : List va_E} {d : Nat} {Post : xP} {l1 l2 l3 : Int} {S : St} {cs : List va_E} {K : Int → St → Prop} (hd : 3 ≤ d) (hT : sb shC sh) (hS : ∀ b x, sh b = some x → ¬ isS b) (hW : Wv G v sh B c0 S cs) (hP : ∀ (x : Int) (S : St) (cs : List va_E), K x S → Wv G v sh B c0 S cs → Post (some (.int (Int32.ofInt x))) cs)  (hw : wX10_set_41 l1 l2 l3 S K ) : Z (RX10, cX10_set, 6, some .boolean, false) G d Post 41 [(0, .ref (G.1 + v 0)), (1, .int (Int32.ofInt (l1))), (2, .int (Int32.ofInt (l2))), (3, .int (Int32.ofInt (l3)))] [] cs := by
  unfold wX10_set_41 at hw
  refine z_iconst (v := Int32.ofInt 1) dX10_set_41 rfl ?_
  refine z_goto (tgt := 46) dX10_set_42 (by decide) ?_
  refine z_loc (L' := [(0, .ref (G.1 + v 0)), (1, .int (Int32.ofInt (l1))), (2, .int (Int32.ofInt (l2))), (3, .int (Int32.ofInt (l3)))]) (List.forall_mem_cons.mpr ⟨rfl, (List.forall_mem_cons.mpr ⟨rfl, (List.forall_mem_cons.mpr ⟨rfl, (List.forall_mem_cons.mpr ⟨rfl, (fun _ h => nomatch h)⟩)⟩)⟩)⟩) ?_
  exact ubX10_set_46 hd hT hS hW hP  hw
def wX10_set_45  (l1 l2 l3 : Int) (S : St) (K : Int → St → Prop) : Prop := wX10_set_46 (l1) (l2) (l3) (0) S K
set_option maxRecDepth 100000 in
set_option maxHeartbeats 4000000 in
theorem ubX10_set_45 {G : xG} {v : Nat → Nat} {sh : Nat → Option Sh} {B : Nat × Nat} {c0 : List va_E} {d : Nat} {Post : xP} {l1 l2 l3 : Int} {S : St} {cs : List va_E} {K : Int → St → Prop} (hd : 3 ≤ d) (hT : sb shC sh) (hS : ∀ b x, sh b = some x → ¬ isS b) (hW : Wv G v sh B c0 S cs) (hP : ∀ (x : Int) (S : St) (cs : List va_E), K x S → Wv G v sh B c0 S cs → Post (some (.int (Int32.ofInt x))) cs)  (hw : wX10_set_45 l1 l2 l3 S K ) : Z (RX10, cX10_set, 6, some .boolean, false) G d Post 45 [(0, .ref (G.1 + v 0)), (1, .int (Int32.ofInt (l1))), (2, .int (Int32.ofInt (l2))), (3, .int (Int32.ofInt (l3)))] [] cs := by
  unfold wX10_set_45 at hw
  refine z_iconst (v := Int32.ofInt 0) dX10_set_45 rfl ?_
  refine z_loc (L' := [(0, .ref (G.1 + v 0)), (1, .int (Int32.ofInt (l1))), (2, .int (Int32.ofInt (l2))), (3, .int (Int32.ofInt (l3)))]) (List.forall_mem_cons.mpr ⟨rfl, (List.forall_mem_cons.mpr ⟨rfl, (List.forall_mem_cons.mpr ⟨rfl, (List.forall_mem_cons.mpr ⟨rfl, (fun _ h => nomatch h)⟩)⟩)⟩)⟩) ?_
  exact ubX10_set_46 hd hT hS hW hP  hw
def wX10_set  (a1 a2 a3 : Int) (S : St) (K : Int → St → Prop) : Prop := rng a1 → rng a2 → rng a3 → (wX10_shapeIn (a1) (a2) S (fun r2 S1 => (rng (r2) ∧ ((r2 = 1 → wX10_set_41 (a1) (a2) (a3) S1 K) ∧ ((¬ (r2 = 1)) → ((¬ r2 = 3 → wX10_set_45 (a1) (a2) (a3) S1 K) ∧ ((¬ (¬ r2 = 3)) → ((a3 = (-2) → wX10_set_41 (a1) (a2) (a3) S1 K) ∧ ((¬ (a3 = (-2))) → (wX1_has (a3) S1 (fun r8 S7 => (rng (r8) ∧ ((r8 = 0 → wX10_set_45 (a1) (a2) (a3) S7 K) ∧ ((¬ (r8 = 0)) → wX10_set_41 (a1) (a2) (a3) S7 K))))))))))))))
set_option maxRecDepth 100000 in
set_option maxHeartbeats 4000000 in
theorem lX10_set {G : xG} {v : Nat → Nat} {sh : Nat → Option Sh} {B : Nat × Nat} {c0 : List va_E}  {a1 a2 a3 : Int} {S : St} {cs : List va_E} {K : Int → St → Prop} (d : Nat) (hd : 3 ≤ d) (hT : sb shC sh) (hS : ∀ b x, sh b = some x → ¬ isS b) (hW : Wv G v sh B c0 S cs) (g1 : rng a1) (g2 : rng a2) (g3 : rng a3) (hw : wX10_set a1 a2 a3 S K) : X G yX10_set cX10_set 6 (some .boolean) d [.ref (G.1 + v 0), .int (Int32.ofInt a1), .int (Int32.ofInt a2), .int (Int32.ofInt a3)] cs (vI G v sh B c0 K) := by
  refine X.of false (by decide +kernel) (by decide) (Nat.le_of_ble_eq_true rfl) ?_
  show Z (RX10, cX10_set, 6, some .boolean, false) G d _ 0 [(0, .ref (G.1 + v 0)), (1, .int (Int32.ofInt a1)), (2, .int (Int32.ofInt a2)), (3, .int (Int32.ofInt a3))] [] cs
  have hP : ∀ (x : Int) (S : St) (cs : List va_E), K x S → Wv G v sh B c0 S cs → vI G v sh B c0 K (some (.int (Int32.ofInt x))) cs := fun x S cs a b => ⟨x, S, rfl, a, b⟩
  unfold wX10_set at hw
  have hw := hw g1 g2 g3
  refine z_aload_n dX10_set_0 rfl rfl ?_
  refine z_aload_n dX10_set_1 rfl rfl ?_
  refine v_getR hW (hT 0 _ rfl) rfl kX10 fX10_42 dX10_set_2 ?_
  refine z_iload_n dX10_set_5 rfl rfl ?_
  refine z_iload_n dX10_set_6 rfl rfl ?_
  have hX := lX10_shapeIn 2 (Nat.le_refl _) hT hS hW g1 g2 hw
  refine z_callV (As := [_, _, _]) eX10_shapeIn sX10_shapeIn lX10_90 rfl dX10_set_7 (hW.at (hT 0 _ rfl)) hX (Nat.le_trans (by decide) hd) rfl (Nat.le_of_ble_eq_true rfl) (fun r cs hp => ?_)
  obtain ⟨r2, S1, rfl, hw, hW⟩ := hp
  refine z_st (st' := [.int (Int32.ofInt (r2))]) rfl ?_
  refine z_istore dX10_set_10 (by decide) ?_
  refine z_loc (L' := [(0, .ref (G.1 + v 0)), (1, .int (Int32.ofInt (a1))), (2, .int (Int32.ofInt (a2))), (3, .int (Int32.ofInt (a3))), (4, .int (Int32.ofInt (r2)))]) (List.forall_mem_cons.mpr ⟨rfl, (List.forall_mem_cons.mpr ⟨rfl, (List.forall_mem_cons.mpr ⟨rfl, (List.forall_mem_cons.mpr ⟨rfl, (List.forall_mem_cons.mpr ⟨rfl, (fun _ h => nomatch h)⟩)⟩)⟩)⟩)⟩) ?_
  refine z_iload dX10_set_12 rfl ?_
  refine z_iconst (v := Int32.ofInt 1) dX10_set_14 rfl ?_
  obtain ⟨q4, hw⟩ := hw
  refine i_icmp_eq (tgt := 41) dX10_set_15 (by decide) q4 ⟨by decide, by decide⟩ (fun h3 => ?_) (fun h3 => ?_)
  · have hw := hw.1 h3
    refine z_loc (L' := [(0, .ref (G.1 + v 0)), (1, .int (Int32.ofInt (a1))), (2, .int (Int32.ofInt (a2))), (3, .int (Int32.ofInt (a3)))]) (List.forall_mem_cons.mpr ⟨rfl, (List.forall_mem_cons.mpr ⟨rfl, (List.forall_mem_cons.mpr ⟨rfl, (List.forall_mem_cons.mpr ⟨rfl, (fun _ h => nomatch h)⟩)⟩)⟩)⟩) ?_
    exact ubX10_set_41 hd hT hS hW hP  hw
  · have hw := hw.2 h3
    refine z_iload dX10_set_18 rfl ?_
    refine z_iconst (v := Int32.ofInt 3) dX10_set_20 rfl ?_
    refine i_icmp_ne (tgt := 45) dX10_set_21 (by decide) q4 ⟨by decide, by decide⟩ (fun h5 => ?_) (fun h5 => ?_)
    · have hw := hw.1 h5
      refine z_loc (L' := [(0, .ref (G.1 + v 0)), (1, .int (Int32.ofInt (a1))), (2, .int (Int32.ofInt (a2))), (3, .int (Int32.ofInt (a3)))]) (List.forall_mem_cons.mpr ⟨rfl, (List.forall_mem_cons.mpr ⟨rfl, (List.forall_mem_cons.mpr ⟨rfl, (List.forall_mem_cons.mpr ⟨rfl, (fun _ h => nomatch h)⟩)⟩)⟩)⟩) ?_
      exact ubX10_set_45 hd hT hS hW hP  hw
    · have hw := hw.2 h5
      refine z_iload_n dX10_set_24 rfl rfl ?_
      refine z_bipush (v := Int32.ofInt (-2)) dX10_set_25 (by decide) ?_
      refine i_icmp_eq (tgt := 41) dX10_set_27 (by decide) g3 ⟨by decide, by decide⟩ (fun h6 => ?_) (fun h6 => ?_)
      · have hw := hw.1 h6
        refine z_loc (L' := [(0, .ref (G.1 + v 0)), (1, .int (Int32.ofInt (a1))), (2, .int (Int32.ofInt (a2))), (3, .int (Int32.ofInt (a3)))]) (List.forall_mem_cons.mpr ⟨rfl, (List.forall_mem_cons.mpr ⟨rfl, (List.forall_mem_cons.mpr ⟨rfl, (List.forall_mem_cons.mpr ⟨rfl, (fun _ h => nomatch h)⟩)⟩)⟩)⟩) ?_
        exact ubX10_set_41 hd hT hS hW hP  hw
      · have hw := hw.2 h6
        refine z_aload_n dX10_set_30 rfl rfl ?_
        refine v_getR hW (hT 0 _ rfl) rfl kX10 fX10_42 dX10_set_31 ?_
        refine z_iload_n dX10_set_34 rfl rfl ?_
        have hX := lX1_has 0 (Nat.le_refl _) hT hS hW g3 hw
        refine z_callV (As := [_]) eX1_has sX1_has lX10_94 rfl dX10_set_35 (hW.at (hT 42 _ rfl)) hX (Nat.le_trans (by decide) hd) rfl (Nat.le_of_ble_eq_true rfl) (fun r cs hp => ?_)
        obtain ⟨r8, S7, rfl, hw, hW⟩ := hp
        refine z_st (st' := [.int (Int32.ofInt (r8))]) rfl ?_
        obtain ⟨q10, hw⟩ := hw
        refine i_if_eq (tgt := 45) dX10_set_38 (by decide) q10 (fun h9 => ?_) (fun h9 => ?_)
        · have hw := hw.1 h9
          refine z_loc (L' := [(0, .ref (G.1 + v 0)), (1, .int (Int32.ofInt (a1))), (2, .int (Int32.ofInt (a2))), (3, .int (Int32.ofInt (a3)))]) (List.forall_mem_cons.mpr ⟨rfl, (List.forall_mem_cons.mpr ⟨rfl, (List.forall_mem_cons.mpr ⟨rfl, (List.forall_mem_cons.mpr ⟨rfl, (fun _ h => nomatch h)⟩)⟩)⟩)⟩) ?_
          exact ubX10_set_45 hd hT hS hW hP  hw
        · have hw := hw.2 h9
          refine z_loc (L' := [(0, .ref (G.1 + v 0)), (1, .int (Int32.ofInt (a1))), (2, .int (Int32.ofInt (a2))), (3, .int (Int32.ofInt (a3)))]) (List.forall_mem_cons.mpr ⟨rfl, (List.forall_mem_cons.mpr ⟨rfl, (List.forall_mem_cons.mpr ⟨rfl, (List.forall_mem_cons.mpr ⟨rfl, (fun _ h => nomatch h)⟩)⟩)⟩)⟩) ?_
          exact ubX10_set_41 hd hT hS hW hP  hw

def wX10_isFieldText_12'  (l2 l3 : Int) (S : St) (K : Int → St → Prop) (B12 : Int → Int → St → Prop) : Prop := (rng (l3) ∧ (rng (l2) ∧ ((l2 ≤ l3 → K (1) S) ∧ ((¬ (l2 ≤ l3)) → (wX5_at 1 (l3) S (fun r5 S4 => (rng (r5) ∧ ((32 ≤ r5 → B12 (l2) ((l3 + 1)) S4) ∧ ((¬ (32 ≤ r5)) → K (0) S4)))))))))
set_option maxRecDepth 100000 in
set_option maxHeartbeats 4000000 in
theorem ubX10_isFieldText_12' {G : xG} {v : Nat → Nat} {sh : Nat → Option Sh} {B : Nat × Nat} {c0 : List va_E} {d : Nat} {Post : xP} {l2 l3 : Int} {S : St} {cs : List va_E} {K : Int → St → Prop} {B12 : Int → Int → St → Prop} (hd : 1 ≤ d) (hT : sb shC sh) (hS : ∀ b x, sh b = some x → ¬ isS b) (hW : Wv G v sh B c0 S cs) (hP : ∀ (x : Int) (S : St) (cs : List va_E), K x S → Wv G v sh B c0 S cs → Post (some (.int (Int32.ofInt x))) cs) (hB12 : ∀ (l2 : Int) (l3 : Int) (S : St) (cs : List va_E), B12 l2 l3 S → Wv G v sh B c0 S cs → Z (RX10, cX10_isFieldText, 4, some .boolean, false) G d Post 12 [(0, .ref (G.1 + v 1)), (2, .int (Int32.ofInt (l2))), (3, .int (Int32.ofInt (l3)))] [] cs) (hw : wX10_isFieldText_12' l2 l3 S K B12) : Z (RX10, cX10_isFieldText, 4, some .boolean, false) G d Post 12 [(0, .ref (G.1 + v 1)), (2, .int (Int32.ofInt (l2))), (3, .int (Int32.ofInt (l3)))] [] cs := by
  unfold wX10_isFieldText_12' at hw
  refine z_iload_n dX10_isFieldText_12 rfl rfl ?_
  refine z_iload_n dX10_isFieldText_13 rfl rfl ?_
  obtain ⟨q2, hw⟩ := hw
  obtain ⟨q3, hw⟩ := hw
  refine i_icmp_ge (tgt := 35) dX10_isFieldText_14 (by decide) q2 q3 (fun h1 => ?_) (fun h1 => ?_)
  · have hw := hw.1 h1
    refine z_iconst (v := Int32.ofInt 1) dX10_isFieldText_35 rfl ?_
    exact z_ireturn dX10_isFieldText_36 rfl (nar01 (by decide)) (hP _ _ _ hw hW)
  · have hw := hw.2 h1
    refine z_aload_n dX10_isFieldText_17 rfl rfl ?_
    refine z_iload_n dX10_isFieldText_18 rfl rfl ?_
    have hX := lX5_at 0 (Nat.le_refl _) hW (show isS 1 by unfold isS; decide) (fun b x h e => hS b x h (e ▸ (show isS 1 by unfold isS; decide))) q2 hw
    refine z_callV (As := [_]) eX5_at sX5_at lX10_129 rfl dX10_isFieldText_19 (hW.sg (show isS 1 by unfold isS; decide) (fun b x h e => hS b x h (e ▸ (show isS 1 by unfold isS; decide)))).choose_spec.choose_spec.choose_spec.choose_spec.1.choose_spec.1 hX (Nat.le_trans (by decide) hd) rfl (Nat.le_of_ble_eq_true rfl) (fun r cs hp => ?_)
    obtain ⟨r5, S4, rfl, hw, hW⟩ := hp
    refine z_st (st' := [.int (Int32.ofInt (r5))]) rfl ?_
    refine z_bipush (v := Int32.ofInt 32) dX10_isFieldText_22 (by decide) ?_
    obtain ⟨q7, hw⟩ := hw
    refine i_icmp_ge (tgt := 29) dX10_isFieldText_24 (by decide) q7 ⟨by decide, by decide⟩ (fun h6 => ?_) (fun h6 => ?_)
    · have hw := hw.1 h6
      refine i_iinc (l := l3) dX10_isFieldText_29 rfl (by decide) ?_
      refine z_loc (L' := [(0, .ref (G.1 + v 1)), (2, .int (Int32.ofInt (l2))), (3, .int (Int32.ofInt ((l3 + 1))))]) (List.forall_mem_cons.mpr ⟨rfl, (List.forall_mem_cons.mpr ⟨rfl, (List.forall_mem_cons.mpr ⟨rfl, (fun _ h => nomatch h)⟩)⟩)⟩) ?_
      refine z_goto (tgt := 12) dX10_isFieldText_32 (by decide) ?_
      refine z_loc (L' := [(0, .ref (G.1 + v 1)), (2, .int (Int32.ofInt (l2))), (3, .int (Int32.ofInt ((l3 + 1))))]) (List.forall_mem_cons.mpr ⟨rfl, (List.forall_mem_cons.mpr ⟨rfl, (List.forall_mem_cons.mpr ⟨rfl, (fun _ h => nomatch h)⟩)⟩)⟩) ?_
      exact hB12 _ _ _ _ hw hW
    · have hw := hw.2 h6
      refine z_iconst (v := Int32.ofInt 0) dX10_isFieldText_27 rfl ?_
      exact z_ireturn dX10_isFieldText_28 rfl (nar01 (by decide)) (hP _ _ _ hw hW)
def wX10_isFieldText_12  (l2 l3 : Int) (S : St) (K : Int → St → Prop) : Prop := ∃ (Iv : Int → Int → St → Prop) (mu : Int → Int → St → Nat), Iv l2 l3 S ∧ ∀ (l2 l3 : Int) (S : St), Iv l2 l3 S → wX10_isFieldText_12' l2 l3 S K  (fun ml2 ml3 T => Iv ml2 ml3 T ∧ mu ml2 ml3 T < mu l2 l3 S)
set_option maxRecDepth 100000 in
set_option maxHeartbeats 4000000 in
theorem ubX10_isFieldText_12 {G : xG} {v : Nat → Nat} {sh : Nat → Option Sh} {B : Nat × Nat} {c0 : List va_E} {d : Nat} {Post : xP} {l2 l3 : Int} {S : St} {cs : List va_E} {K : Int → St → Prop} (hd : 1 ≤ d) (hT : sb shC sh) (hS : ∀ b x, sh b = some x → ¬ isS b) (hW : Wv G v sh B c0 S cs) (hP : ∀ (x : Int) (S : St) (cs : List va_E), K x S → Wv G v sh B c0 S cs → Post (some (.int (Int32.ofInt x))) cs)  (hw : wX10_isFieldText_12 l2 l3 S K ) : Z (RX10, cX10_isFieldText, 4, some .boolean, false) G d Post 12 [(0, .ref (G.1 + v 1)), (2, .int (Int32.ofInt (l2))), (3, .int (Int32.ofInt (l3)))] [] cs := by
  unfold wX10_isFieldText_12 at hw
  obtain ⟨Iv, mu, h0, hs⟩ := hw
  have key : ∀ (n : Nat) (l2 l3 : Int) (S : St) (cs : List va_E), mu l2 l3 S < n → Iv l2 l3 S → Wv G v sh B c0 S cs → Z (RX10, cX10_isFieldText, 4, some .boolean, false) G d Post 12 [(0, .ref (G.1 + v 1)), (2, .int (Int32.ofInt (l2))), (3, .int (Int32.ofInt (l3)))] [] cs := by
    intro n
    induction n with
    | zero => intro l2 l3 S cs hn; exact absurd hn (Nat.not_lt_zero _)
    | succ n ih =>
      intro l2 l3 S cs hn hI hW
      exact ubX10_isFieldText_12' hd hT hS hW hP  (fun l2 l3 S cs hb hW => ih l2 l3 S cs (Nat.lt_of_lt_of_le hb.2 (Nat.le_of_lt_succ hn)) hb.1 hW) (hs l2 l3 S hI)
  exact key _ _ _ _ _ (Nat.lt_succ_self _) h0 hW
def wX10_isFieldText  (a1 a2 : Int) (S : St) (K : Int → St → Prop) : Prop := rng a1 → rng a2 → (rng ((a2 - a1)) ∧ (((a2 - a1) ≤ 20 → wX10_isFieldText_12 (a2) (a1) S K) ∧ ((¬ ((a2 - a1) ≤ 20)) → K (0) S)))
set_option maxRecDepth 100000 in
set_option maxHeartbeats 4000000 in
theorem lX10_isFieldText {G : xG} {v : Nat → Nat} {sh : Nat → Option Sh} {B : Nat × Nat} {c0 : List va_E}  {a1 a2 : Int} {S : St} {cs : List va_E} {K : Int → St → Prop} (d : Nat) (hd : 1 ≤ d) (hT : sb shC sh) (hS : ∀ b x, sh b = some x → ¬ isS b) (hW : Wv G v sh B c0 S cs) (g1 : rng a1) (g2 : rng a2) (hw : wX10_isFieldText a1 a2 S K) : X G yX10_isFieldText cX10_isFieldText 4 (some .boolean) d [.ref (G.1 + v 1), .int (Int32.ofInt a1), .int (Int32.ofInt a2)] cs (vI G v sh B c0 K) := by
  refine X.of false (by decide +kernel) (by decide) (Nat.le_of_ble_eq_true rfl) ?_
  show Z (RX10, cX10_isFieldText, 4, some .boolean, false) G d _ 0 [(0, .ref (G.1 + v 1)), (1, .int (Int32.ofInt a1)), (2, .int (Int32.ofInt a2))] [] cs
  have hP : ∀ (x : Int) (S : St) (cs : List va_E), K x S → Wv G v sh B c0 S cs → vI G v sh B c0 K (some (.int (Int32.ofInt x))) cs := fun x S cs a b => ⟨x, S, rfl, a, b⟩
  unfold wX10_isFieldText at hw
  have hw := hw g1 g2
  refine z_iload_n dX10_isFieldText_0 rfl rfl ?_
  refine z_iload_n dX10_isFieldText_1 rfl rfl ?_
  refine i_isub dX10_isFieldText_2 ?_
  refine z_bipush (v := Int32.ofInt 20) dX10_isFieldText_3 (by decide) ?_
  obtain ⟨q2, hw⟩ := hw
  refine i_icmp_le (tgt := 10) dX10_isFieldText_5 (by decide) q2 ⟨by decide, by decide⟩ (fun h1 => ?_) (fun h1 => ?_)
  · have hw := hw.1 h1
    refine z_iload_n dX10_isFieldText_10 rfl rfl ?_
    refine z_istore_n dX10_isFieldText_11 rfl (by decide) ?_
    refine z_loc (L' := [(0, .ref (G.1 + v 1)), (1, .int (Int32.ofInt (a1))), (2, .int (Int32.ofInt (a2))), (3, .int (Int32.ofInt (a1)))]) (List.forall_mem_cons.mpr ⟨rfl, (List.forall_mem_cons.mpr ⟨rfl, (List.forall_mem_cons.mpr ⟨rfl, (List.forall_mem_cons.mpr ⟨rfl, (fun _ h => nomatch h)⟩)⟩)⟩)⟩) ?_
    refine z_loc (L' := [(0, .ref (G.1 + v 1)), (2, .int (Int32.ofInt (a2))), (3, .int (Int32.ofInt (a1)))]) (List.forall_mem_cons.mpr ⟨rfl, (List.forall_mem_cons.mpr ⟨rfl, (List.forall_mem_cons.mpr ⟨rfl, (fun _ h => nomatch h)⟩)⟩)⟩) ?_
    exact ubX10_isFieldText_12 hd hT hS hW hP  hw
  · have hw := hw.2 h1
    refine z_iconst (v := Int32.ofInt 0) dX10_isFieldText_8 rfl ?_
    exact z_ireturn dX10_isFieldText_9 rfl (nar01 (by decide)) (hP _ _ _ hw hW)

def wX10_text  (a1 a2 : Int) (S : St) (K : Int → St → Prop) : Prop := rng a1 → rng a2 → (wX10_shapeIn (a1) (a2) S (fun r2 S1 => (rng (r2) ∧ ((¬ r2 = 2 → K (0) S1) ∧ ((¬ (¬ r2 = 2)) → (wX5_length 1 S1 (fun r6 S5 => (rng (r6) ∧ (wX10_isFieldText (0) (r6) S5 (fun r8 S7 => (rng (r8) ∧ ((¬ r8 = 0 → (wX5_length 1 S7 (fun r13 S12 => (rng (r13) ∧ (wX1_putText (a1) (a2) (0) (r13) S12 (fun r15 S14 => (wX5_clear 1 S14 (fun r18 S17 => K (1) S17)))))))) ∧ ((¬ (¬ r8 = 0)) → K (0) S7)))))))))))))
set_option maxRecDepth 100000 in
set_option maxHeartbeats 4000000 in
theorem lX10_text {G : xG} {v : Nat → Nat} {sh : Nat → Option Sh} {B : Nat × Nat} {c0 : List va_E}  {a1 a2 : Int} {S : St} {cs : List va_E} {K : Int → St → Prop} (d : Nat) (hd : 3 ≤ d) (hT : sb shC sh) (hS : ∀ b x, sh b = some x → ¬ isS b) (hW : Wv G v sh B c0 S cs) (g1 : rng a1) (g2 : rng a2) (hw : wX10_text a1 a2 S K) : X G yX10_text cX10_text 3 (some .boolean) d [.ref (G.1 + v 0), .int (Int32.ofInt a1), .int (Int32.ofInt a2)] cs (vI G v sh B c0 K) := by
  refine X.of false (by decide +kernel) (by decide) (Nat.le_of_ble_eq_true rfl) ?_
  show Z (RX10, cX10_text, 3, some .boolean, false) G d _ 0 [(0, .ref (G.1 + v 0)), (1, .int (Int32.ofInt a1)), (2, .int (Int32.ofInt a2))] [] cs
  have hP : ∀ (x : Int) (S : St) (cs : List va_E), K x S → Wv G v sh B c0 S cs → vI G v sh B c0 K (some (.int (Int32.ofInt x))) cs := fun x S cs a b => ⟨x, S, rfl, a, b⟩
  unfold wX10_text at hw
  have hw := hw g1 g2
  refine z_aload_n dX10_text_0 rfl rfl ?_
  refine z_aload_n dX10_text_1 rfl rfl ?_
  refine v_getR hW (hT 0 _ rfl) rfl kX10 fX10_42 dX10_text_2 ?_
  refine z_iload_n dX10_text_5 rfl rfl ?_
  refine z_iload_n dX10_text_6 rfl rfl ?_
  have hX := lX10_shapeIn 2 (Nat.le_refl _) hT hS hW g1 g2 hw
  refine z_callV (As := [_, _, _]) eX10_shapeIn sX10_shapeIn lX10_90 rfl dX10_text_7 (hW.at (hT 0 _ rfl)) hX (Nat.le_trans (by decide) hd) rfl (Nat.le_of_ble_eq_true rfl) (fun r cs hp => ?_)
  obtain ⟨r2, S1, rfl, hw, hW⟩ := hp
  refine z_st (st' := [.int (Int32.ofInt (r2))]) rfl ?_
  refine z_iconst (v := Int32.ofInt 2) dX10_text_10 rfl ?_
  obtain ⟨q4, hw⟩ := hw
  refine i_icmp_ne (tgt := 32) dX10_text_11 (by decide) q4 ⟨by decide, by decide⟩ (fun h3 => ?_) (fun h3 => ?_)
  · have hw := hw.1 h3
    refine z_iconst (v := Int32.ofInt 0) dX10_text_32 rfl ?_
    exact z_ireturn dX10_text_33 rfl (nar01 (by decide)) (hP _ _ _ hw hW)
  · have hw := hw.2 h3
    refine z_aload_n dX10_text_14 rfl rfl ?_
    refine v_getR hW (hT 0 _ rfl) rfl kX10 fX10_12 dX10_text_15 ?_
    refine z_iconst (v := Int32.ofInt 0) dX10_text_18 rfl ?_
    refine z_aload_n dX10_text_19 rfl rfl ?_
    refine v_getR hW (hT 0 _ rfl) rfl kX10 fX10_12 dX10_text_20 ?_
    have hX := lX5_length 0 (Nat.le_refl _) hW (show isS 1 by unfold isS; decide) (fun b x h e => hS b x h (e ▸ (show isS 1 by unfold isS; decide)))  hw
    refine z_callV (As := []) eX5_length sX5_length lX10_101 rfl dX10_text_23 (hW.sg (show isS 1 by unfold isS; decide) (fun b x h e => hS b x h (e ▸ (show isS 1 by unfold isS; decide)))).choose_spec.choose_spec.choose_spec.choose_spec.1.choose_spec.1 hX (Nat.le_trans (by decide) hd) rfl (Nat.le_of_ble_eq_true rfl) (fun r cs hp => ?_)
    obtain ⟨r6, S5, rfl, hw, hW⟩ := hp
    refine z_st (st' := [.int (Int32.ofInt (r6)), .int (Int32.ofInt (0)), .ref (G.1 + v 1)]) rfl ?_
    obtain ⟨q9, hw⟩ := hw
    have hX := lX10_isFieldText 1 (Nat.le_refl _) hT hS hW ⟨by decide, by decide⟩ q9 hw
    refine z_callS (As := [_, _, _]) eX10_isFieldText sX10_isFieldText lX10_104 dX10_text_26 hX (Nat.le_trans (by decide) hd) rfl (Nat.le_of_ble_eq_true rfl) (fun r cs hp => ?_)
    obtain ⟨r8, S7, rfl, hw, hW⟩ := hp
    refine z_st (st' := [.int (Int32.ofInt (r8))]) rfl ?_
    obtain ⟨q11, hw⟩ := hw
    refine i_if_ne (tgt := 34) dX10_text_29 (by decide) q11 (fun h10 => ?_) (fun h10 => ?_)
    · have hw := hw.1 h10
      refine z_aload_n dX10_text_34 rfl rfl ?_
      refine v_getR hW (hT 0 _ rfl) rfl kX10 fX10_42 dX10_text_35 ?_
      refine z_iload_n dX10_text_38 rfl rfl ?_
      refine z_iload_n dX10_text_39 rfl rfl ?_
      refine z_aload_n dX10_text_40 rfl rfl ?_
      refine v_getR hW (hT 0 _ rfl) rfl kX10 fX10_12 dX10_text_41 ?_
      refine z_iconst (v := Int32.ofInt 0) dX10_text_44 rfl ?_
      refine z_aload_n dX10_text_45 rfl rfl ?_
      refine v_getR hW (hT 0 _ rfl) rfl kX10 fX10_12 dX10_text_46 ?_
      have hX := lX5_length 0 (Nat.le_refl _) hW (show isS 1 by unfold isS; decide) (fun b x h e => hS b x h (e ▸ (show isS 1 by unfold isS; decide)))  hw
      refine z_callV (As := []) eX5_length sX5_length lX10_101 rfl dX10_text_49 (hW.sg (show isS 1 by unfold isS; decide) (fun b x h e => hS b x h (e ▸ (show isS 1 by unfold isS; decide)))).choose_spec.choose_spec.choose_spec.choose_spec.1.choose_spec.1 hX (Nat.le_trans (by decide) hd) rfl (Nat.le_of_ble_eq_true rfl) (fun r cs hp => ?_)
      obtain ⟨r13, S12, rfl, hw, hW⟩ := hp
      refine z_st (st' := [.int (Int32.ofInt (r13)), .int (Int32.ofInt (0)), .ref (G.1 + v 1), .int (Int32.ofInt (a2)), .int (Int32.ofInt (a1)), .ref (G.1 + v 42)]) rfl ?_
      obtain ⟨q16, hw⟩ := hw
      have hX := lX1_putText 1 (Nat.le_refl _) hT hS hW g1 g2 ⟨by decide, by decide⟩ q16 hw
      refine z_callV (As := [_, _, _, _, _]) eX1_putText sX1_putText lX10_108 rfl dX10_text_52 (hW.at (hT 42 _ rfl)) hX (Nat.le_trans (by decide) hd) rfl (Nat.le_of_ble_eq_true rfl) (fun r cs hp => ?_)
      obtain ⟨r15, S14, rfl, hw, hW⟩ := hp
      refine z_st (st' := []) rfl ?_
      refine z_aload_n dX10_text_55 rfl rfl ?_
      refine v_getR hW (hT 0 _ rfl) rfl kX10 fX10_12 dX10_text_56 ?_
      have hX := lX5_clear 0 (Nat.le_refl _) hW (show isS 1 by unfold isS; decide) (fun b x h e => hS b x h (e ▸ (show isS 1 by unfold isS; decide)))  hw
      refine z_callV (As := []) eX5_clear sX5_clear lX10_72 rfl dX10_text_59 (hW.sg (show isS 1 by unfold isS; decide) (fun b x h e => hS b x h (e ▸ (show isS 1 by unfold isS; decide)))).choose_spec.choose_spec.choose_spec.choose_spec.1.choose_spec.1 hX (Nat.le_trans (by decide) hd) rfl (Nat.le_of_ble_eq_true rfl) (fun r cs hp => ?_)
      obtain ⟨r18, S17, rfl, hw, hW⟩ := hp
      refine z_st (st' := []) rfl ?_
      refine z_iconst (v := Int32.ofInt 1) dX10_text_62 rfl ?_
      exact z_ireturn dX10_text_63 rfl (nar01 (by decide)) (hP _ _ _ hw hW)
    · have hw := hw.2 h10
      refine z_iconst (v := Int32.ofInt 0) dX10_text_32 rfl ?_
      exact z_ireturn dX10_text_33 rfl (nar01 (by decide)) (hP _ _ _ hw hW)

def wX10_add  (a1 a2 a3 : Int) (S : St) (K : Int → St → Prop) : Prop := rng a1 → rng a2 → rng a3 → (wX10_shapeIn (a1) (a2) S (fun r2 S1 => (rng (r2) ∧ ((¬ r2 = 4 → K ((-1)) S1) ∧ ((¬ (¬ r2 = 4)) → (wX1_has (a3) S1 (fun r6 S5 => (rng (r6) ∧ ((¬ r6 = 0 → (wX1_append (a1) (a2) (a3) S5 (fun r10 S9 => K (r10) S9))) ∧ ((¬ (¬ r6 = 0)) → K ((-1)) S5))))))))))
set_option maxRecDepth 100000 in
set_option maxHeartbeats 4000000 in
theorem lX10_add {G : xG} {v : Nat → Nat} {sh : Nat → Option Sh} {B : Nat × Nat} {c0 : List va_E}  {a1 a2 a3 : Int} {S : St} {cs : List va_E} {K : Int → St → Prop} (d : Nat) (hd : 3 ≤ d) (hT : sb shC sh) (hS : ∀ b x, sh b = some x → ¬ isS b) (hW : Wv G v sh B c0 S cs) (g1 : rng a1) (g2 : rng a2) (g3 : rng a3) (hw : wX10_add a1 a2 a3 S K) : X G yX10_add cX10_add 4 (some .int) d [.ref (G.1 + v 0), .int (Int32.ofInt a1), .int (Int32.ofInt a2), .int (Int32.ofInt a3)] cs (vI G v sh B c0 K) := by
  refine X.of false (by decide +kernel) (by decide) (Nat.le_of_ble_eq_true rfl) ?_
  show Z (RX10, cX10_add, 4, some .int, false) G d _ 0 [(0, .ref (G.1 + v 0)), (1, .int (Int32.ofInt a1)), (2, .int (Int32.ofInt a2)), (3, .int (Int32.ofInt a3))] [] cs
  have hP : ∀ (x : Int) (S : St) (cs : List va_E), K x S → Wv G v sh B c0 S cs → vI G v sh B c0 K (some (.int (Int32.ofInt x))) cs := fun x S cs a b => ⟨x, S, rfl, a, b⟩
  unfold wX10_add at hw
  have hw := hw g1 g2 g3
  refine z_aload_n dX10_add_0 rfl rfl ?_
  refine z_aload_n dX10_add_1 rfl rfl ?_
  refine v_getR hW (hT 0 _ rfl) rfl kX10 fX10_42 dX10_add_2 ?_
  refine z_iload_n dX10_add_5 rfl rfl ?_
  refine z_iload_n dX10_add_6 rfl rfl ?_
  have hX := lX10_shapeIn 2 (Nat.le_refl _) hT hS hW g1 g2 hw
  refine z_callV (As := [_, _, _]) eX10_shapeIn sX10_shapeIn lX10_90 rfl dX10_add_7 (hW.at (hT 0 _ rfl)) hX (Nat.le_trans (by decide) hd) rfl (Nat.le_of_ble_eq_true rfl) (fun r cs hp => ?_)
  obtain ⟨r2, S1, rfl, hw, hW⟩ := hp
  refine z_st (st' := [.int (Int32.ofInt (r2))]) rfl ?_
  refine z_iconst (v := Int32.ofInt 4) dX10_add_10 rfl ?_
  obtain ⟨q4, hw⟩ := hw
  refine i_icmp_ne (tgt := 25) dX10_add_11 (by decide) q4 ⟨by decide, by decide⟩ (fun h3 => ?_) (fun h3 => ?_)
  · have hw := hw.1 h3
    refine z_iconst (v := Int32.ofInt (-1)) dX10_add_25 rfl ?_
    exact z_ireturn dX10_add_26 rfl rfl (hP _ _ _ hw hW)
  · have hw := hw.2 h3
    refine z_aload_n dX10_add_14 rfl rfl ?_
    refine v_getR hW (hT 0 _ rfl) rfl kX10 fX10_42 dX10_add_15 ?_
    refine z_iload_n dX10_add_18 rfl rfl ?_
    have hX := lX1_has 0 (Nat.le_refl _) hT hS hW g3 hw
    refine z_callV (As := [_]) eX1_has sX1_has lX10_94 rfl dX10_add_19 (hW.at (hT 42 _ rfl)) hX (Nat.le_trans (by decide) hd) rfl (Nat.le_of_ble_eq_true rfl) (fun r cs hp => ?_)
    obtain ⟨r6, S5, rfl, hw, hW⟩ := hp
    refine z_st (st' := [.int (Int32.ofInt (r6))]) rfl ?_
    obtain ⟨q8, hw⟩ := hw
    refine i_if_ne (tgt := 27) dX10_add_22 (by decide) q8 (fun h7 => ?_) (fun h7 => ?_)
    · have hw := hw.1 h7
      refine z_aload_n dX10_add_27 rfl rfl ?_
      refine v_getR hW (hT 0 _ rfl) rfl kX10 fX10_42 dX10_add_28 ?_
      refine z_iload_n dX10_add_31 rfl rfl ?_
      refine z_iload_n dX10_add_32 rfl rfl ?_
      refine z_iload_n dX10_add_33 rfl rfl ?_
      have hX := lX1_append 2 (Nat.le_refl _) hT hS hW g1 g2 g3 hw
      refine z_callV (As := [_, _, _]) eX1_append sX1_append lX10_112 rfl dX10_add_34 (hW.at (hT 42 _ rfl)) hX (Nat.le_trans (by decide) hd) rfl (Nat.le_of_ble_eq_true rfl) (fun r cs hp => ?_)
      obtain ⟨r10, S9, rfl, hw, hW⟩ := hp
      refine z_st (st' := [.int (Int32.ofInt (r10))]) rfl ?_
      exact z_ireturn dX10_add_37 rfl rfl (hP _ _ _ hw hW)
    · have hw := hw.2 h7
      refine z_iconst (v := Int32.ofInt (-1)) dX10_add_25 rfl ?_
      exact z_ireturn dX10_add_26 rfl rfl (hP _ _ _ hw hW)

def wX10_sign  (a1 : Int) (S : St) (K : Int → St → Prop) : Prop := rng a1 → (wX5_has 20 (a1) S (fun r2 S1 => (rng (r2) ∧ ((r2 = 0 → K ((-1)) S1) ∧ ((¬ (r2 = 0)) → (wX5_at 20 (a1) S1 (fun r6 S5 => K (r6) S5)))))))
set_option maxRecDepth 100000 in
set_option maxHeartbeats 4000000 in
theorem lX10_sign {G : xG} {v : Nat → Nat} {sh : Nat → Option Sh} {B : Nat × Nat} {c0 : List va_E}  {a1 : Int} {S : St} {cs : List va_E} {K : Int → St → Prop} (d : Nat) (hd : 1 ≤ d) (hT : sb shC sh) (hS : ∀ b x, sh b = some x → ¬ isS b) (hW : Wv G v sh B c0 S cs) (g1 : rng a1) (hw : wX10_sign a1 S K) : X G yX10_sign cX10_sign 2 (some .int) d [.ref (G.1 + v 0), .int (Int32.ofInt a1)] cs (vI G v sh B c0 K) := by
  refine X.of false (by decide +kernel) (by decide) (Nat.le_of_ble_eq_true rfl) ?_
  show Z (RX10, cX10_sign, 2, some .int, false) G d _ 0 [(0, .ref (G.1 + v 0)), (1, .int (Int32.ofInt a1))] [] cs
  have hP : ∀ (x : Int) (S : St) (cs : List va_E), K x S → Wv G v sh B c0 S cs → vI G v sh B c0 K (some (.int (Int32.ofInt x))) cs := fun x S cs a b => ⟨x, S, rfl, a, b⟩
  unfold wX10_sign at hw
  have hw := hw g1
  refine z_aload_n dX10_sign_0 rfl rfl ?_
  refine v_getR hW (hT 0 _ rfl) rfl kX10 fX10_23 dX10_sign_1 ?_
  refine z_iload_n dX10_sign_4 rfl rfl ?_
  have hX := lX5_has 0 (Nat.le_refl _) hW (show isS 20 by unfold isS; decide) (fun b x h e => hS b x h (e ▸ (show isS 20 by unfold isS; decide))) g1 hw
  refine z_callV (As := [_]) eX5_has sX5_has lX10_128 rfl dX10_sign_5 (hW.sg (show isS 20 by unfold isS; decide) (fun b x h e => hS b x h (e ▸ (show isS 20 by unfold isS; decide)))).choose_spec.choose_spec.choose_spec.choose_spec.1.choose_spec.1 hX (Nat.le_trans (by decide) hd) rfl (Nat.le_of_ble_eq_true rfl) (fun r cs hp => ?_)
  obtain ⟨r2, S1, rfl, hw, hW⟩ := hp
  refine z_st (st' := [.int (Int32.ofInt (r2))]) rfl ?_
  obtain ⟨q4, hw⟩ := hw
  refine i_if_eq (tgt := 22) dX10_sign_8 (by decide) q4 (fun h3 => ?_) (fun h3 => ?_)
  · have hw := hw.1 h3
    refine z_iconst (v := Int32.ofInt (-1)) dX10_sign_22 rfl ?_
    exact z_ireturn dX10_sign_23 rfl rfl (hP _ _ _ hw hW)
  · have hw := hw.2 h3
    refine z_aload_n dX10_sign_11 rfl rfl ?_
    refine v_getR hW (hT 0 _ rfl) rfl kX10 fX10_23 dX10_sign_12 ?_
    refine z_iload_n dX10_sign_15 rfl rfl ?_
    have hX := lX5_at 0 (Nat.le_refl _) hW (show isS 20 by unfold isS; decide) (fun b x h e => hS b x h (e ▸ (show isS 20 by unfold isS; decide))) g1 hw
    refine z_callV (As := [_]) eX5_at sX5_at lX10_129 rfl dX10_sign_16 (hW.sg (show isS 20 by unfold isS; decide) (fun b x h e => hS b x h (e ▸ (show isS 20 by unfold isS; decide)))).choose_spec.choose_spec.choose_spec.choose_spec.1.choose_spec.1 hX (Nat.le_trans (by decide) hd) rfl (Nat.le_of_ble_eq_true rfl) (fun r cs hp => ?_)
    obtain ⟨r6, S5, rfl, hw, hW⟩ := hp
    refine z_st (st' := [.int (Int32.ofInt (r6))]) rfl ?_
    refine z_goto (tgt := 23) dX10_sign_19 (by decide) ?_
    exact z_ireturn dX10_sign_23 rfl rfl (hP _ _ _ hw hW)

