def wX4_beginClass  (S : St) (K : Int → St → Prop) : Prop := (iv 0 6 (S.1 33 8) → ((S.1 33 8 < 6 → ((0 : Int) ≤ S.1 33 8 ∧ S.1 33 8 < (30 : Int) ∧ (∀ S4, S4 = pA S 35 (S.1 33 8) (0) → (iv 0 6 (S4.1 33 8) → ((0 : Int) ≤ S4.1 33 8 ∧ S4.1 33 8 < (6 : Int) ∧ (∀ S7, S7 = pA S4 38 (S4.1 33 8) (0) → (iv 0 6 (S7.1 33 8) → ((0 : Int) ≤ S7.1 33 8 ∧ S7.1 33 8 < (6 : Int) ∧ (∀ S10, S10 = pA S7 39 (S7.1 33 8) ((-1)) → (iv 0 6 (S10.1 33 8) → ((0 : Int) ≤ S10.1 33 8 ∧ S10.1 33 8 < (6 : Int) ∧ (∀ S13, S13 = pA S10 40 (S10.1 33 8) (0) → (iv 0 6 (S13.1 33 8) → ((0 : Int) ≤ S13.1 33 8 ∧ S13.1 33 8 < (6 : Int) ∧ (∀ S16, S16 = pA S13 41 (S13.1 33 8) (0) → (iv 0 6 (S16.1 33 8) → (iv 0 6 ((S16.1 33 8 + 1)) ∧ (∀ S18, S18 = pI S16 33 8 ((S16.1 33 8 + 1)) → K 0 S18)))))))))))))))))) ∧ ((¬ (S.1 33 8 < 6)) → K 0 S)))
set_option maxRecDepth 100000 in
set_option maxHeartbeats 4000000 in
theorem lX4_beginClass {G : xG} {v : Nat → Nat} {sh : Nat → Option Sh} {B : Nat × Nat} {c0 : List va_E}  {S : St} {cs : List va_E} {K : Int → St → Prop} (d : Nat) (hd : 0 ≤ d) (hT : sb shC sh) (hS : ∀ b x, sh b = some x → ¬ isS b) (hW : Wv G v sh B c0 S cs)  (hw : wX4_beginClass  S K) : X G yX4_beginClass cX4_beginClass 1 none d [.ref (G.1 + v 33)] cs (vV G v sh B c0 K) := by
  refine X.of false (by decide +kernel) (by decide) (Nat.le_of_ble_eq_true rfl) ?_
  show Z (RX4, cX4_beginClass, 1, none, false) G d _ 0 [(0, .ref (G.1 + v 33))] [] cs
  have hP : ∀ (x : Int) (S : St) (cs : List va_E), K x S → Wv G v sh B c0 S cs → vV G v sh B c0 K (none) cs := fun x S cs a b => ⟨x, S, rfl, a, b⟩
  unfold wX4_beginClass at hw
  refine z_aload_n dX4_beginClass_0 rfl rfl ?_
  have q1 : iv 0 6 (S.1 33 8) := hW.iI 33 8
  have hw := hw q1
  refine v_getI hW (hT 33 _ rfl) rfl kX4 fX4_38 dX4_beginClass_1 ?_
  refine z_bipush (v := Int32.ofInt 6) dX4_beginClass_4 (by decide) ?_
  refine i_icmp_lt (tgt := 10) dX4_beginClass_6 (by decide) (rngq q1 (by decide) (by decide)) ⟨by decide, by decide⟩ (fun h2 => ?_) (fun h2 => ?_)
  · have hw := hw.1 h2
    refine z_aload_n dX4_beginClass_10 rfl rfl ?_
    refine v_getR hW (hT 33 _ rfl) rfl kX4 fX4_15 dX4_beginClass_11 ?_
    refine z_aload_n dX4_beginClass_14 rfl rfl ?_
    refine v_getI hW (hT 33 _ rfl) rfl kX4 fX4_38 dX4_beginClass_15 ?_
    refine z_iconst (v := Int32.ofInt 0) dX4_beginClass_18 rfl ?_
    obtain ⟨q3a, q3b, hw⟩ := hw
    refine v_iast hW (hT 35 _ rfl) (by decide) (by unfold isS; decide) q3a q3b (by decide) ⟨by decide, by decide⟩ dX4_beginClass_19 (fun cs hW => ?_)
    obtain ⟨S4, hS4⟩ : ∃ x, x = pA S 35 (S.1 33 8) (0) := ⟨_, rfl⟩
    rw [← hS4] at hW
    have hw := hw S4 hS4
    refine z_aload_n dX4_beginClass_20 rfl rfl ?_
    refine v_getR hW (hT 33 _ rfl) rfl kX4 fX4_26 dX4_beginClass_21 ?_
    refine z_aload_n dX4_beginClass_24 rfl rfl ?_
    have q5 : iv 0 6 (S4.1 33 8) := hW.iI 33 8
    have hw := hw q5
    refine v_getI hW (hT 33 _ rfl) rfl kX4 fX4_38 dX4_beginClass_25 ?_
    refine z_iconst (v := Int32.ofInt 0) dX4_beginClass_28 rfl ?_
    obtain ⟨q6a, q6b, hw⟩ := hw
    refine v_iast hW (hT 38 _ rfl) (by decide) (by unfold isS; decide) q6a q6b (by decide) ⟨by decide, by decide⟩ dX4_beginClass_29 (fun cs hW => ?_)
    obtain ⟨S7, hS7⟩ : ∃ x, x = pA S4 38 (S4.1 33 8) (0) := ⟨_, rfl⟩
    rw [← hS7] at hW
    have hw := hw S7 hS7
    refine z_aload_n dX4_beginClass_30 rfl rfl ?_
    refine v_getR hW (hT 33 _ rfl) rfl kX4 fX4_29 dX4_beginClass_31 ?_
    refine z_aload_n dX4_beginClass_34 rfl rfl ?_
    have q8 : iv 0 6 (S7.1 33 8) := hW.iI 33 8
    have hw := hw q8
    refine v_getI hW (hT 33 _ rfl) rfl kX4 fX4_38 dX4_beginClass_35 ?_
    refine z_iconst (v := Int32.ofInt (-1)) dX4_beginClass_38 rfl ?_
    obtain ⟨q9a, q9b, hw⟩ := hw
    refine v_iast hW (hT 39 _ rfl) (by decide) (by unfold isS; decide) q9a q9b (by decide) ⟨by decide, by decide⟩ dX4_beginClass_39 (fun cs hW => ?_)
    obtain ⟨S10, hS10⟩ : ∃ x, x = pA S7 39 (S7.1 33 8) ((-1)) := ⟨_, rfl⟩
    rw [← hS10] at hW
    have hw := hw S10 hS10
    refine z_aload_n dX4_beginClass_40 rfl rfl ?_
    refine v_getR hW (hT 33 _ rfl) rfl kX4 fX4_32 dX4_beginClass_41 ?_
    refine z_aload_n dX4_beginClass_44 rfl rfl ?_
    have q11 : iv 0 6 (S10.1 33 8) := hW.iI 33 8
    have hw := hw q11
    refine v_getI hW (hT 33 _ rfl) rfl kX4 fX4_38 dX4_beginClass_45 ?_
    refine z_iconst (v := Int32.ofInt 0) dX4_beginClass_48 rfl ?_
    obtain ⟨q12a, q12b, hw⟩ := hw
    refine v_iast hW (hT 40 _ rfl) (by decide) (by unfold isS; decide) q12a q12b (by decide) ⟨by decide, by decide⟩ dX4_beginClass_49 (fun cs hW => ?_)
    obtain ⟨S13, hS13⟩ : ∃ x, x = pA S10 40 (S10.1 33 8) (0) := ⟨_, rfl⟩
    rw [← hS13] at hW
    have hw := hw S13 hS13
    refine z_aload_n dX4_beginClass_50 rfl rfl ?_
    refine v_getR hW (hT 33 _ rfl) rfl kX4 fX4_35 dX4_beginClass_51 ?_
    refine z_aload_n dX4_beginClass_54 rfl rfl ?_
    have q14 : iv 0 6 (S13.1 33 8) := hW.iI 33 8
    have hw := hw q14
    refine v_getI hW (hT 33 _ rfl) rfl kX4 fX4_38 dX4_beginClass_55 ?_
    refine z_iconst (v := Int32.ofInt 0) dX4_beginClass_58 rfl ?_
    obtain ⟨q15a, q15b, hw⟩ := hw
    refine v_zast hW (hT 41 _ rfl) (by decide) (by unfold isS; decide) q15a q15b (by decide) (by decide) ⟨by decide, by decide⟩ dX4_beginClass_59 (fun cs hW => ?_)
    obtain ⟨S16, hS16⟩ : ∃ x, x = pA S13 41 (S13.1 33 8) (0) := ⟨_, rfl⟩
    rw [← hS16] at hW
    have hw := hw S16 hS16
    refine z_aload_n dX4_beginClass_60 rfl rfl ?_
    refine z_dup dX4_beginClass_61 rfl ?_
    have q17 : iv 0 6 (S16.1 33 8) := hW.iI 33 8
    have hw := hw q17
    refine v_getI hW (hT 33 _ rfl) rfl kX4 fX4_38 dX4_beginClass_62 ?_
    refine z_iconst (v := Int32.ofInt 1) dX4_beginClass_65 rfl ?_
    refine i_iadd dX4_beginClass_66 ?_
    obtain ⟨q19, hw⟩ := hw
    refine v_putI hW (hT 33 _ rfl) (by decide) (by unfold isS; decide) rfl kX4 fX4_38 dX4_beginClass_67 rfl rfl rfl q19 (fun cs hW => ?_)
    obtain ⟨S18, hS18⟩ : ∃ x, x = pI S16 33 8 ((S16.1 33 8 + 1)) := ⟨_, rfl⟩
    rw [← hS18] at hW
    have hw := hw S18 hS18
    exact z_return dX4_beginClass_70 rfl (hP 0 _ _ hw hW)
  · have hw := hw.2 h2
    exact z_return dX4_beginClass_9 rfl (hP 0 _ _ hw hW)

def wX0_isClassRight_89  (S : St) (K : Int → St → Prop) : Prop := (wX0_skips (41) S (fun r2 S1 => (iv 0 1 (r2) ∧ K (r2) S1)))
set_option maxRecDepth 100000 in
set_option maxHeartbeats 4000000 in
theorem ubX0_isClassRight_89 {G : xG} {v : Nat → Nat} {sh : Nat → Option Sh} {B : Nat × Nat} {c0 : List va_E} {d : Nat} {Post : xP} {S : St} {cs : List va_E} {K : Int → St → Prop} (hd : 4 ≤ d) (hT : sb shC sh) (hS : ∀ b x, sh b = some x → ¬ isS b) (hU : sb shT sh) (hW : Wv G v sh B c0 S cs) (hP : ∀ (x : Int) (S : St) (cs : List va_E), K x S → Wv G v sh B c0 S cs → Post (some (.int (Int32.ofInt x))) cs)  (hw : wX0_isClassRight_89  S K ) : Z (RX0, cX0_isClassRight, 4, some .boolean, false) G d Post 89 [(0, .ref (G.1 + v 200))] [] cs := by
  unfold wX0_isClassRight_89 at hw
  refine z_aload_n dX0_isClassRight_89 rfl rfl ?_
  refine z_bipush (v := Int32.ofInt 41) dX0_isClassRight_90 (by decide) ?_
  have hX := lX0_skips 1 (Nat.le_refl _) hT hS hU hW ⟨by decide, by decide⟩ hw
  refine z_callV (As := [_]) eX0_skips sX0_skips lX0_32 rfl dX0_isClassRight_92 (hW.at (hU 200 _ rfl)) hX (Nat.le_trans (by decide) hd) rfl (Nat.le_of_ble_eq_true rfl) (fun r cs hp => ?_)
  obtain ⟨r2, S1, rfl, hw, hW⟩ := hp
  refine z_st (st' := [.int (Int32.ofInt (r2))]) rfl ?_
  obtain ⟨q3, hw⟩ := hw
  exact z_ireturn dX0_isClassRight_95 rfl (nar01 (b01 q3)) (hP _ _ _ hw hW)
def wX0_isClassRight_82  (l1 l3 s0 : Int) (S : St) (K : Int → St → Prop) (B41 : Int → Int → Int → St → Prop) : Prop := B41 (l1) (s0) ((l3 + 1)) S
set_option maxRecDepth 100000 in
set_option maxHeartbeats 4000000 in
theorem ubX0_isClassRight_82 {G : xG} {v : Nat → Nat} {sh : Nat → Option Sh} {B : Nat × Nat} {c0 : List va_E} {d : Nat} {Post : xP} {l1 l3 s0 : Int} {S : St} {cs : List va_E} {K : Int → St → Prop} {B41 : Int → Int → Int → St → Prop} (hd : 4 ≤ d) (hT : sb shC sh) (hS : ∀ b x, sh b = some x → ¬ isS b) (hU : sb shT sh) (hW : Wv G v sh B c0 S cs) (hP : ∀ (x : Int) (S : St) (cs : List va_E), K x S → Wv G v sh B c0 S cs → Post (some (.int (Int32.ofInt x))) cs) (hB41 : ∀ (l1 : Int) (l2 : Int) (l3 : Int) (S : St) (cs : List va_E), B41 l1 l2 l3 S → Wv G v sh B c0 S cs → Z (RX0, cX0_isClassRight, 4, some .boolean, false) G d Post 41 [(0, .ref (G.1 + v 200)), (1, .int (Int32.ofInt (l1))), (2, .int (Int32.ofInt (l2))), (3, .int (Int32.ofInt (l3)))] [] cs) (hw : wX0_isClassRight_82 l1 l3 s0 S K B41) : Z (RX0, cX0_isClassRight, 4, some .boolean, false) G d Post 82 [(0, .ref (G.1 + v 200)), (1, .int (Int32.ofInt (l1))), (3, .int (Int32.ofInt (l3)))] [.int (Int32.ofInt (s0))] cs := by
  unfold wX0_isClassRight_82 at hw
  refine z_istore_n dX0_isClassRight_82 rfl (by decide) ?_
  refine z_loc (L' := [(0, .ref (G.1 + v 200)), (1, .int (Int32.ofInt (l1))), (2, .int (Int32.ofInt (s0))), (3, .int (Int32.ofInt (l3)))]) (List.forall_mem_cons.mpr ⟨rfl, (List.forall_mem_cons.mpr ⟨rfl, (List.forall_mem_cons.mpr ⟨rfl, (List.forall_mem_cons.mpr ⟨rfl, (fun _ h => nomatch h)⟩)⟩)⟩)⟩) ?_
  refine i_iinc (l := l3) dX0_isClassRight_83 rfl (by decide) ?_
  refine z_loc (L' := [(0, .ref (G.1 + v 200)), (1, .int (Int32.ofInt (l1))), (2, .int (Int32.ofInt (s0))), (3, .int (Int32.ofInt ((l3 + 1))))]) (List.forall_mem_cons.mpr ⟨rfl, (List.forall_mem_cons.mpr ⟨rfl, (List.forall_mem_cons.mpr ⟨rfl, (List.forall_mem_cons.mpr ⟨rfl, (fun _ h => nomatch h)⟩)⟩)⟩)⟩) ?_
  refine z_goto (tgt := 41) dX0_isClassRight_86 (by decide) ?_
  refine z_loc (L' := [(0, .ref (G.1 + v 200)), (1, .int (Int32.ofInt (l1))), (2, .int (Int32.ofInt (s0))), (3, .int (Int32.ofInt ((l3 + 1))))]) (List.forall_mem_cons.mpr ⟨rfl, (List.forall_mem_cons.mpr ⟨rfl, (List.forall_mem_cons.mpr ⟨rfl, (List.forall_mem_cons.mpr ⟨rfl, (fun _ h => nomatch h)⟩)⟩)⟩)⟩) ?_
  exact hB41 _ _ _ _ _ hw hW
def wX0_isClassRight_81  (l1 l3 : Int) (S : St) (K : Int → St → Prop) (B41 : Int → Int → Int → St → Prop) : Prop := wX0_isClassRight_82 (l1) (l3) (0) S K B41
set_option maxRecDepth 100000 in
set_option maxHeartbeats 4000000 in
theorem ubX0_isClassRight_81 {G : xG} {v : Nat → Nat} {sh : Nat → Option Sh} {B : Nat × Nat} {c0 : List va_E} {d : Nat} {Post : xP} {l1 l3 : Int} {S : St} {cs : List va_E} {K : Int → St → Prop} {B41 : Int → Int → Int → St → Prop} (hd : 4 ≤ d) (hT : sb shC sh) (hS : ∀ b x, sh b = some x → ¬ isS b) (hU : sb shT sh) (hW : Wv G v sh B c0 S cs) (hP : ∀ (x : Int) (S : St) (cs : List va_E), K x S → Wv G v sh B c0 S cs → Post (some (.int (Int32.ofInt x))) cs) (hB41 : ∀ (l1 : Int) (l2 : Int) (l3 : Int) (S : St) (cs : List va_E), B41 l1 l2 l3 S → Wv G v sh B c0 S cs → Z (RX0, cX0_isClassRight, 4, some .boolean, false) G d Post 41 [(0, .ref (G.1 + v 200)), (1, .int (Int32.ofInt (l1))), (2, .int (Int32.ofInt (l2))), (3, .int (Int32.ofInt (l3)))] [] cs) (hw : wX0_isClassRight_81 l1 l3 S K B41) : Z (RX0, cX0_isClassRight, 4, some .boolean, false) G d Post 81 [(0, .ref (G.1 + v 200)), (1, .int (Int32.ofInt (l1))), (3, .int (Int32.ofInt (l3)))] [] cs := by
  unfold wX0_isClassRight_81 at hw
  refine z_iconst (v := Int32.ofInt 0) dX0_isClassRight_81 rfl ?_
  refine z_loc (L' := [(0, .ref (G.1 + v 200)), (1, .int (Int32.ofInt (l1))), (3, .int (Int32.ofInt (l3)))]) (List.forall_mem_cons.mpr ⟨rfl, (List.forall_mem_cons.mpr ⟨rfl, (List.forall_mem_cons.mpr ⟨rfl, (fun _ h => nomatch h)⟩)⟩)⟩) ?_
  exact ubX0_isClassRight_82 hd hT hS hU hW hP hB41 hw
def wX0_isClassRight_41'  (l1 l2 l3 : Int) (S : St) (K : Int → St → Prop) (B41 : Int → Int → Int → St → Prop) : Prop := (rng (l3) ∧ ((4 ≤ l3 → wX0_isClassRight_89 S K) ∧ ((¬ (4 ≤ l3)) → (rng (l2) ∧ ((l2 = 0 → wX0_isClassRight_89 S K) ∧ ((¬ (l2 = 0)) → (rng (l1) ∧ (wX0_isFieldRight (l1) (l3) S (fun r6 S5 => (rng (r6) ∧ ((¬ r6 = 0 → (rng ((l3 + 1)) ∧ ((4 ≤ (l3 + 1) → wX0_isClassRight_81 (l1) (l3) S5 K B41) ∧ ((¬ (4 ≤ (l3 + 1))) → (wX0_skips (44) S5 (fun r13 S12 => (rng (r13) ∧ ((r13 = 0 → wX0_isClassRight_81 (l1) (l3) S12 K B41) ∧ ((¬ (r13 = 0)) → wX0_isClassRight_82 (l1) (l3) (1) S12 K B41))))))))) ∧ ((¬ (¬ r6 = 0)) → K (0) S5))))))))))))
set_option maxRecDepth 100000 in
set_option maxHeartbeats 4000000 in
theorem ubX0_isClassRight_41' {G : xG} {v : Nat → Nat} {sh : Nat → Option Sh} {B : Nat × Nat} {c0 : List va_E} {d : Nat} {Post : xP} {l1 l2 l3 : Int} {S : St} {cs : List va_E} {K : Int → St → Prop} {B41 : Int → Int → Int → St → Prop} (hd : 4 ≤ d) (hT : sb shC sh) (hS : ∀ b x, sh b = some x → ¬ isS b) (hU : sb shT sh) (hW : Wv G v sh B c0 S cs) (hP : ∀ (x : Int) (S : St) (cs : List va_E), K x S → Wv G v sh B c0 S cs → Post (some (.int (Int32.ofInt x))) cs) (hB41 : ∀ (l1 : Int) (l2 : Int) (l3 : Int) (S : St) (cs : List va_E), B41 l1 l2 l3 S → Wv G v sh B c0 S cs → Z (RX0, cX0_isClassRight, 4, some .boolean, false) G d Post 41 [(0, .ref (G.1 + v 200)), (1, .int (Int32.ofInt (l1))), (2, .int (Int32.ofInt (l2))), (3, .int (Int32.ofInt (l3)))] [] cs) (hw : wX0_isClassRight_41' l1 l2 l3 S K B41) : Z (RX0, cX0_isClassRight, 4, some .boolean, false) G d Post 41 [(0, .ref (G.1 + v 200)), (1, .int (Int32.ofInt (l1))), (2, .int (Int32.ofInt (l2))), (3, .int (Int32.ofInt (l3)))] [] cs := by
  unfold wX0_isClassRight_41' at hw
  refine z_iload_n dX0_isClassRight_41 rfl rfl ?_
  refine z_iconst (v := Int32.ofInt 4) dX0_isClassRight_42 rfl ?_
  obtain ⟨q2, hw⟩ := hw
  refine i_icmp_ge (tgt := 89) dX0_isClassRight_43 (by decide) q2 ⟨by decide, by decide⟩ (fun h1 => ?_) (fun h1 => ?_)
  · have hw := hw.1 h1
    refine z_loc (L' := [(0, .ref (G.1 + v 200))]) (List.forall_mem_cons.mpr ⟨rfl, (fun _ h => nomatch h)⟩) ?_
    exact ubX0_isClassRight_89 hd hT hS hU hW hP  hw
  · have hw := hw.2 h1
    refine z_iload_n dX0_isClassRight_46 rfl rfl ?_
    obtain ⟨q4, hw⟩ := hw
    refine i_if_eq (tgt := 89) dX0_isClassRight_47 (by decide) q4 (fun h3 => ?_) (fun h3 => ?_)
    · have hw := hw.1 h3
      refine z_loc (L' := [(0, .ref (G.1 + v 200))]) (List.forall_mem_cons.mpr ⟨rfl, (fun _ h => nomatch h)⟩) ?_
      exact ubX0_isClassRight_89 hd hT hS hU hW hP  hw
    · have hw := hw.2 h3
      refine z_aload_n dX0_isClassRight_50 rfl rfl ?_
      refine z_iload_n dX0_isClassRight_51 rfl rfl ?_
      refine z_iload_n dX0_isClassRight_52 rfl rfl ?_
      obtain ⟨q7, hw⟩ := hw
      have hX := lX0_isFieldRight 3 (Nat.le_refl _) hT hS hU hW q7 q2 hw
      refine z_callV (As := [_, _]) eX0_isFieldRight sX0_isFieldRight lX0_51 rfl dX0_isClassRight_53 (hW.at (hU 200 _ rfl)) hX (Nat.le_trans (by decide) hd) rfl (Nat.le_of_ble_eq_true rfl) (fun r cs hp => ?_)
      obtain ⟨r6, S5, rfl, hw, hW⟩ := hp
      refine z_st (st' := [.int (Int32.ofInt (r6))]) rfl ?_
      obtain ⟨q9, hw⟩ := hw
      refine i_if_ne (tgt := 61) dX0_isClassRight_56 (by decide) q9 (fun h8 => ?_) (fun h8 => ?_)
      · have hw := hw.1 h8
        refine z_iload_n dX0_isClassRight_61 rfl rfl ?_
        refine z_iconst (v := Int32.ofInt 1) dX0_isClassRight_62 rfl ?_
        refine i_iadd dX0_isClassRight_63 ?_
        refine z_iconst (v := Int32.ofInt 4) dX0_isClassRight_64 rfl ?_
        obtain ⟨q11, hw⟩ := hw
        refine i_icmp_ge (tgt := 81) dX0_isClassRight_65 (by decide) q11 ⟨by decide, by decide⟩ (fun h10 => ?_) (fun h10 => ?_)
        · have hw := hw.1 h10
          refine z_loc (L' := [(0, .ref (G.1 + v 200)), (1, .int (Int32.ofInt (l1))), (3, .int (Int32.ofInt (l3)))]) (List.forall_mem_cons.mpr ⟨rfl, (List.forall_mem_cons.mpr ⟨rfl, (List.forall_mem_cons.mpr ⟨rfl, (fun _ h => nomatch h)⟩)⟩)⟩) ?_
          exact ubX0_isClassRight_81 hd hT hS hU hW hP hB41 hw
        · have hw := hw.2 h10
          refine z_aload_n dX0_isClassRight_68 rfl rfl ?_
          refine z_bipush (v := Int32.ofInt 44) dX0_isClassRight_69 (by decide) ?_
          have hX := lX0_skips 1 (Nat.le_refl _) hT hS hU hW ⟨by decide, by decide⟩ hw
          refine z_callV (As := [_]) eX0_skips sX0_skips lX0_32 rfl dX0_isClassRight_71 (hW.at (hU 200 _ rfl)) hX (Nat.le_trans (by decide) hd) rfl (Nat.le_of_ble_eq_true rfl) (fun r cs hp => ?_)
          obtain ⟨r13, S12, rfl, hw, hW⟩ := hp
          refine z_st (st' := [.int (Int32.ofInt (r13))]) rfl ?_
          obtain ⟨q15, hw⟩ := hw
          refine i_if_eq (tgt := 81) dX0_isClassRight_74 (by decide) q15 (fun h14 => ?_) (fun h14 => ?_)
          · have hw := hw.1 h14
            refine z_loc (L' := [(0, .ref (G.1 + v 200)), (1, .int (Int32.ofInt (l1))), (3, .int (Int32.ofInt (l3)))]) (List.forall_mem_cons.mpr ⟨rfl, (List.forall_mem_cons.mpr ⟨rfl, (List.forall_mem_cons.mpr ⟨rfl, (fun _ h => nomatch h)⟩)⟩)⟩) ?_
            exact ubX0_isClassRight_81 hd hT hS hU hW hP hB41 hw
          · have hw := hw.2 h14
            refine z_iconst (v := Int32.ofInt 1) dX0_isClassRight_77 rfl ?_
            refine z_goto (tgt := 82) dX0_isClassRight_78 (by decide) ?_
            refine z_loc (L' := [(0, .ref (G.1 + v 200)), (1, .int (Int32.ofInt (l1))), (3, .int (Int32.ofInt (l3)))]) (List.forall_mem_cons.mpr ⟨rfl, (List.forall_mem_cons.mpr ⟨rfl, (List.forall_mem_cons.mpr ⟨rfl, (fun _ h => nomatch h)⟩)⟩)⟩) ?_
            exact ubX0_isClassRight_82 hd hT hS hU hW hP hB41 hw
      · have hw := hw.2 h8
        refine z_iconst (v := Int32.ofInt 0) dX0_isClassRight_59 rfl ?_
        exact z_ireturn dX0_isClassRight_60 rfl (nar01 (by decide)) (hP _ _ _ hw hW)
def wX0_isClassRight_41  (l1 l2 l3 : Int) (S : St) (K : Int → St → Prop) : Prop := ∃ (Iv : Int → Int → Int → St → Prop) (mu : Int → Int → Int → St → Nat), Iv l1 l2 l3 S ∧ ∀ (l1 l2 l3 : Int) (S : St), Iv l1 l2 l3 S → wX0_isClassRight_41' l1 l2 l3 S K  (fun ml1 ml2 ml3 T => Iv ml1 ml2 ml3 T ∧ mu ml1 ml2 ml3 T < mu l1 l2 l3 S)
set_option maxRecDepth 100000 in
set_option maxHeartbeats 4000000 in
theorem ubX0_isClassRight_41 {G : xG} {v : Nat → Nat} {sh : Nat → Option Sh} {B : Nat × Nat} {c0 : List va_E} {d : Nat} {Post : xP} {l1 l2 l3 : Int} {S : St} {cs : List va_E} {K : Int → St → Prop} (hd : 4 ≤ d) (hT : sb shC sh) (hS : ∀ b x, sh b = some x → ¬ isS b) (hU : sb shT sh) (hW : Wv G v sh B c0 S cs) (hP : ∀ (x : Int) (S : St) (cs : List va_E), K x S → Wv G v sh B c0 S cs → Post (some (.int (Int32.ofInt x))) cs)  (hw : wX0_isClassRight_41 l1 l2 l3 S K ) : Z (RX0, cX0_isClassRight, 4, some .boolean, false) G d Post 41 [(0, .ref (G.1 + v 200)), (1, .int (Int32.ofInt (l1))), (2, .int (Int32.ofInt (l2))), (3, .int (Int32.ofInt (l3)))] [] cs := by
  unfold wX0_isClassRight_41 at hw
  obtain ⟨Iv, mu, h0, hs⟩ := hw
  have key : ∀ (n : Nat) (l1 l2 l3 : Int) (S : St) (cs : List va_E), mu l1 l2 l3 S < n → Iv l1 l2 l3 S → Wv G v sh B c0 S cs → Z (RX0, cX0_isClassRight, 4, some .boolean, false) G d Post 41 [(0, .ref (G.1 + v 200)), (1, .int (Int32.ofInt (l1))), (2, .int (Int32.ofInt (l2))), (3, .int (Int32.ofInt (l3)))] [] cs := by
    intro n
    induction n with
    | zero => intro l1 l2 l3 S cs hn; exact absurd hn (Nat.not_lt_zero _)
    | succ n ih =>
      intro l1 l2 l3 S cs hn hI hW
      exact ubX0_isClassRight_41' hd hT hS hU hW hP  (fun l1 l2 l3 S cs hb hW => ih l1 l2 l3 S cs (Nat.lt_of_lt_of_le hb.2 (Nat.le_of_lt_succ hn)) hb.1 hW) (hs l1 l2 l3 S hI)
  exact key _ _ _ _ _ _ (Nat.lt_succ_self _) h0 hW
def wX0_isClassRight  (a1 : Int) (S : St) (K : Int → St → Prop) : Prop := rng a1 → (wX4_beginClass S (fun r2 S1 => (wX0_isNameRight (a1) S1 (fun r4 S3 => (rng (r4) ∧ ((r4 = 0 → K (0) S3) ∧ ((¬ (r4 = 0)) → (wX0_skips (40) S3 (fun r8 S7 => (rng (r8) ∧ ((¬ r8 = 0 → (wX0_skips (41) S7 (fun r12 S11 => (rng (r12) ∧ ((r12 = 0 → wX0_isClassRight_41 (a1) (1) (0) S11 K) ∧ ((¬ (r12 = 0)) → K (1) S11)))))) ∧ ((¬ (¬ r8 = 0)) → K (0) S7))))))))))))
set_option maxRecDepth 100000 in
set_option maxHeartbeats 4000000 in
theorem lX0_isClassRight {G : xG} {v : Nat → Nat} {sh : Nat → Option Sh} {B : Nat × Nat} {c0 : List va_E}  {a1 : Int} {S : St} {cs : List va_E} {K : Int → St → Prop} (d : Nat) (hd : 4 ≤ d) (hT : sb shC sh) (hS : ∀ b x, sh b = some x → ¬ isS b) (hU : sb shT sh) (hW : Wv G v sh B c0 S cs) (g1 : rng a1) (hw : wX0_isClassRight a1 S K) : X G yX0_isClassRight cX0_isClassRight 4 (some .boolean) d [.ref (G.1 + v 200), .int (Int32.ofInt a1)] cs (vI G v sh B c0 K) := by
  refine X.of false (by decide +kernel) (by decide) (Nat.le_of_ble_eq_true rfl) ?_
  show Z (RX0, cX0_isClassRight, 4, some .boolean, false) G d _ 0 [(0, .ref (G.1 + v 200)), (1, .int (Int32.ofInt a1))] [] cs
  have hP : ∀ (x : Int) (S : St) (cs : List va_E), K x S → Wv G v sh B c0 S cs → vI G v sh B c0 K (some (.int (Int32.ofInt x))) cs := fun x S cs a b => ⟨x, S, rfl, a, b⟩
  unfold wX0_isClassRight at hw
  have hw := hw g1
  refine z_aload_n dX0_isClassRight_0 rfl rfl ?_
  refine v_getR hW (hU 200 _ rfl) rfl kX0 fX0_19 dX0_isClassRight_1 ?_
  have hX := lX4_beginClass 0 (Nat.le_refl _) hT hS hW  hw
  refine z_callV (As := []) eX4_beginClass sX4_beginClass lX0_45 rfl dX0_isClassRight_4 (hW.at (hT 33 _ rfl)) hX (Nat.le_trans (by decide) hd) rfl (Nat.le_of_ble_eq_true rfl) (fun r cs hp => ?_)
  obtain ⟨r2, S1, rfl, hw, hW⟩ := hp
  refine z_st (st' := []) rfl ?_
  refine z_aload_n dX0_isClassRight_7 rfl rfl ?_
  refine z_iload_n dX0_isClassRight_8 rfl rfl ?_
  have hX := lX0_isNameRight 2 (Nat.le_refl _) hT hS hU hW g1 hw
  refine z_callV (As := [_]) eX0_isNameRight sX0_isNameRight lX0_48 rfl dX0_isClassRight_9 (hW.at (hU 200 _ rfl)) hX (Nat.le_trans (by decide) hd) rfl (Nat.le_of_ble_eq_true rfl) (fun r cs hp => ?_)
  obtain ⟨r4, S3, rfl, hw, hW⟩ := hp
  refine z_st (st' := [.int (Int32.ofInt (r4))]) rfl ?_
  obtain ⟨q6, hw⟩ := hw
  refine i_if_eq (tgt := 24) dX0_isClassRight_12 (by decide) q6 (fun h5 => ?_) (fun h5 => ?_)
  · have hw := hw.1 h5
    refine z_iconst (v := Int32.ofInt 0) dX0_isClassRight_24 rfl ?_
    exact z_ireturn dX0_isClassRight_25 rfl (nar01 (by decide)) (hP _ _ _ hw hW)
  · have hw := hw.2 h5
    refine z_aload_n dX0_isClassRight_15 rfl rfl ?_
    refine z_bipush (v := Int32.ofInt 40) dX0_isClassRight_16 (by decide) ?_
    have hX := lX0_skips 1 (Nat.le_refl _) hT hS hU hW ⟨by decide, by decide⟩ hw
    refine z_callV (As := [_]) eX0_skips sX0_skips lX0_32 rfl dX0_isClassRight_18 (hW.at (hU 200 _ rfl)) hX (Nat.le_trans (by decide) hd) rfl (Nat.le_of_ble_eq_true rfl) (fun r cs hp => ?_)
    obtain ⟨r8, S7, rfl, hw, hW⟩ := hp
    refine z_st (st' := [.int (Int32.ofInt (r8))]) rfl ?_
    obtain ⟨q10, hw⟩ := hw
    refine i_if_ne (tgt := 26) dX0_isClassRight_21 (by decide) q10 (fun h9 => ?_) (fun h9 => ?_)
    · have hw := hw.1 h9
      refine z_aload_n dX0_isClassRight_26 rfl rfl ?_
      refine z_bipush (v := Int32.ofInt 41) dX0_isClassRight_27 (by decide) ?_
      have hX := lX0_skips 1 (Nat.le_refl _) hT hS hU hW ⟨by decide, by decide⟩ hw
      refine z_callV (As := [_]) eX0_skips sX0_skips lX0_32 rfl dX0_isClassRight_29 (hW.at (hU 200 _ rfl)) hX (Nat.le_trans (by decide) hd) rfl (Nat.le_of_ble_eq_true rfl) (fun r cs hp => ?_)
      obtain ⟨r12, S11, rfl, hw, hW⟩ := hp
      refine z_st (st' := [.int (Int32.ofInt (r12))]) rfl ?_
      obtain ⟨q14, hw⟩ := hw
      refine i_if_eq (tgt := 37) dX0_isClassRight_32 (by decide) q14 (fun h13 => ?_) (fun h13 => ?_)
      · have hw := hw.1 h13
        refine z_iconst (v := Int32.ofInt 1) dX0_isClassRight_37 rfl ?_
        refine z_istore_n dX0_isClassRight_38 rfl (by decide) ?_
        refine z_loc (L' := [(0, .ref (G.1 + v 200)), (1, .int (Int32.ofInt (a1))), (2, .int (Int32.ofInt (1)))]) (List.forall_mem_cons.mpr ⟨rfl, (List.forall_mem_cons.mpr ⟨rfl, (List.forall_mem_cons.mpr ⟨rfl, (fun _ h => nomatch h)⟩)⟩)⟩) ?_
        refine z_iconst (v := Int32.ofInt 0) dX0_isClassRight_39 rfl ?_
        refine z_istore_n dX0_isClassRight_40 rfl (by decide) ?_
        refine z_loc (L' := [(0, .ref (G.1 + v 200)), (1, .int (Int32.ofInt (a1))), (2, .int (Int32.ofInt (1))), (3, .int (Int32.ofInt (0)))]) (List.forall_mem_cons.mpr ⟨rfl, (List.forall_mem_cons.mpr ⟨rfl, (List.forall_mem_cons.mpr ⟨rfl, (List.forall_mem_cons.mpr ⟨rfl, (fun _ h => nomatch h)⟩)⟩)⟩)⟩) ?_
        refine z_loc (L' := [(0, .ref (G.1 + v 200)), (1, .int (Int32.ofInt (a1))), (2, .int (Int32.ofInt (1))), (3, .int (Int32.ofInt (0)))]) (List.forall_mem_cons.mpr ⟨rfl, (List.forall_mem_cons.mpr ⟨rfl, (List.forall_mem_cons.mpr ⟨rfl, (List.forall_mem_cons.mpr ⟨rfl, (fun _ h => nomatch h)⟩)⟩)⟩)⟩) ?_
        exact ubX0_isClassRight_41 hd hT hS hU hW hP  hw
      · have hw := hw.2 h13
        refine z_iconst (v := Int32.ofInt 1) dX0_isClassRight_35 rfl ?_
        exact z_ireturn dX0_isClassRight_36 rfl (nar01 (by decide)) (hP _ _ _ hw hW)
    · have hw := hw.2 h9
      refine z_iconst (v := Int32.ofInt 0) dX0_isClassRight_24 rfl ?_
      exact z_ireturn dX0_isClassRight_25 rfl (nar01 (by decide)) (hP _ _ _ hw hW)

def wX4_clear  (S : St) (K : Int → St → Prop) : Prop := (∀ S1, S1 = pI S 33 8 (0) → K 0 S1)
set_option maxRecDepth 100000 in
set_option maxHeartbeats 4000000 in
theorem lX4_clear {G : xG} {v : Nat → Nat} {sh : Nat → Option Sh} {B : Nat × Nat} {c0 : List va_E}  {S : St} {cs : List va_E} {K : Int → St → Prop} (d : Nat) (hd : 0 ≤ d) (hT : sb shC sh) (hS : ∀ b x, sh b = some x → ¬ isS b) (hW : Wv G v sh B c0 S cs)  (hw : wX4_clear  S K) : X G yX4_clear cX4_clear 1 none d [.ref (G.1 + v 33)] cs (vV G v sh B c0 K) := by
  refine X.of false (by decide +kernel) (by decide) (Nat.le_of_ble_eq_true rfl) ?_
  show Z (RX4, cX4_clear, 1, none, false) G d _ 0 [(0, .ref (G.1 + v 33))] [] cs
  have hP : ∀ (x : Int) (S : St) (cs : List va_E), K x S → Wv G v sh B c0 S cs → vV G v sh B c0 K (none) cs := fun x S cs a b => ⟨x, S, rfl, a, b⟩
  unfold wX4_clear at hw
  refine z_aload_n dX4_clear_0 rfl rfl ?_
  refine z_iconst (v := Int32.ofInt 0) dX4_clear_1 rfl ?_
  refine v_putI hW (hT 33 _ rfl) (by decide) (by unfold isS; decide) rfl kX4 fX4_38 dX4_clear_2 rfl rfl rfl ⟨by decide, by decide⟩ (fun cs hW => ?_)
  obtain ⟨S1, hS1⟩ : ∃ x, x = pI S 33 8 (0) := ⟨_, rfl⟩
  rw [← hS1] at hW
  have hw := hw S1 hS1
  exact z_return dX4_clear_5 rfl (hP 0 _ _ hw hW)

def wX0_firstWrong_63  (S : St) (K : Int → St → Prop) : Prop := (iv (-2147483648) 2147483647 (S.1 200 2) → (wX5_length 1 S (fun r3 S2 => (rng (r3) ∧ ((r3 ≤ S.1 200 2 → (wX4_obeysNameRules S2 (fun r7 S6 => (rng (r7) ∧ ((r7 = 0 → (iv (-2147483648) 2147483647 (S6.1 200 2) → K (S6.1 200 2) S6)) ∧ ((¬ (r7 = 0)) → K ((-1)) S6)))))) ∧ ((¬ (r3 ≤ S.1 200 2)) → (iv (-2147483648) 2147483647 (S2.1 200 2) → K (S2.1 200 2) S2)))))))
set_option maxRecDepth 100000 in
set_option maxHeartbeats 4000000 in
theorem ubX0_firstWrong_63 {G : xG} {v : Nat → Nat} {sh : Nat → Option Sh} {B : Nat × Nat} {c0 : List va_E} {d : Nat} {Post : xP} {S : St} {cs : List va_E} {K : Int → St → Prop} (hd : 7 ≤ d) (hT : sb shC sh) (hS : ∀ b x, sh b = some x → ¬ isS b) (hU : sb shT sh) (hW : Wv G v sh B c0 S cs) (hP : ∀ (x : Int) (S : St) (cs : List va_E), K x S → Wv G v sh B c0 S cs → Post (some (.int (Int32.ofInt x))) cs)  (hw : wX0_firstWrong_63  S K ) : Z (RX0, cX0_firstWrong, 3, some .int, false) G d Post 63 [(0, .ref (G.1 + v 200))] [] cs := by
  unfold wX0_firstWrong_63 at hw
  refine z_aload_n dX0_firstWrong_63 rfl rfl ?_
  have q1 : iv (-2147483648) 2147483647 (S.1 200 2) := hW.iI 200 2
  have hw := hw q1
  refine v_getI hW (hU 200 _ rfl) rfl kX0 fX0_9 dX0_firstWrong_64 ?_
  refine z_aload_n dX0_firstWrong_67 rfl rfl ?_
  refine v_getR hW (hU 200 _ rfl) rfl kX0 fX0_15 dX0_firstWrong_68 ?_
  have hX := lX5_length 0 (Nat.le_refl _) hW (show isS 1 by unfold isS; decide) (fun b x h e => hS b x h (e ▸ (show isS 1 by unfold isS; decide)))  hw
  refine z_callV (As := []) eX5_length sX5_length lX0_35 rfl dX0_firstWrong_71 (hW.sg (show isS 1 by unfold isS; decide) (fun b x h e => hS b x h (e ▸ (show isS 1 by unfold isS; decide)))).choose_spec.choose_spec.choose_spec.choose_spec.1.choose_spec.1 hX (Nat.le_trans (by decide) hd) rfl (Nat.le_of_ble_eq_true rfl) (fun r cs hp => ?_)
  obtain ⟨r3, S2, rfl, hw, hW⟩ := hp
  refine z_st (st' := [.int (Int32.ofInt (r3)), .int (Int32.ofInt (S.1 200 2))]) rfl ?_
  obtain ⟨q5, hw⟩ := hw
  refine i_icmp_ge (tgt := 82) dX0_firstWrong_74 (by decide) (rngq q1 (by decide) (by decide)) q5 (fun h4 => ?_) (fun h4 => ?_)
  · have hw := hw.1 h4
    refine z_aload_n dX0_firstWrong_82 rfl rfl ?_
    refine v_getR hW (hU 200 _ rfl) rfl kX0 fX0_19 dX0_firstWrong_83 ?_
    have hX := lX4_obeysNameRules 6 (Nat.le_refl _) hT hS hW  hw
    refine z_callV (As := []) eX4_obeysNameRules sX4_obeysNameRules lX0_41 rfl dX0_firstWrong_86 (hW.at (hT 33 _ rfl)) hX (Nat.le_trans (by decide) hd) rfl (Nat.le_of_ble_eq_true rfl) (fun r cs hp => ?_)
    obtain ⟨r7, S6, rfl, hw, hW⟩ := hp
    refine z_st (st' := [.int (Int32.ofInt (r7))]) rfl ?_
    obtain ⟨q9, hw⟩ := hw
    refine i_if_eq (tgt := 96) dX0_firstWrong_89 (by decide) q9 (fun h8 => ?_) (fun h8 => ?_)
    · have hw := hw.1 h8
      refine z_aload_n dX0_firstWrong_96 rfl rfl ?_
      have q10 : iv (-2147483648) 2147483647 (S6.1 200 2) := hW.iI 200 2
      have hw := hw q10
      refine v_getI hW (hU 200 _ rfl) rfl kX0 fX0_9 dX0_firstWrong_97 ?_
      exact z_ireturn dX0_firstWrong_100 rfl rfl (hP _ _ _ hw hW)
    · have hw := hw.2 h8
      refine z_iconst (v := Int32.ofInt (-1)) dX0_firstWrong_92 rfl ?_
      refine z_goto (tgt := 100) dX0_firstWrong_93 (by decide) ?_
      exact z_ireturn dX0_firstWrong_100 rfl rfl (hP _ _ _ hw hW)
  · have hw := hw.2 h4
    refine z_aload_n dX0_firstWrong_77 rfl rfl ?_
    have q11 : iv (-2147483648) 2147483647 (S2.1 200 2) := hW.iI 200 2
    have hw := hw q11
    refine v_getI hW (hU 200 _ rfl) rfl kX0 fX0_9 dX0_firstWrong_78 ?_
    exact z_ireturn dX0_firstWrong_81 rfl rfl (hP _ _ _ hw hW)
def wX0_firstWrong_56  (l2 s0 : Int) (S : St) (K : Int → St → Prop) (B11 : Int → Int → St → Prop) : Prop := B11 (s0) ((l2 + 1)) S
set_option maxRecDepth 100000 in
set_option maxHeartbeats 4000000 in
theorem ubX0_firstWrong_56 {G : xG} {v : Nat → Nat} {sh : Nat → Option Sh} {B : Nat × Nat} {c0 : List va_E} {d : Nat} {Post : xP} {l2 s0 : Int} {S : St} {cs : List va_E} {K : Int → St → Prop} {B11 : Int → Int → St → Prop} (hd : 7 ≤ d) (hT : sb shC sh) (hS : ∀ b x, sh b = some x → ¬ isS b) (hU : sb shT sh) (hW : Wv G v sh B c0 S cs) (hP : ∀ (x : Int) (S : St) (cs : List va_E), K x S → Wv G v sh B c0 S cs → Post (some (.int (Int32.ofInt x))) cs) (hB11 : ∀ (l1 : Int) (l2 : Int) (S : St) (cs : List va_E), B11 l1 l2 S → Wv G v sh B c0 S cs → Z (RX0, cX0_firstWrong, 3, some .int, false) G d Post 11 [(0, .ref (G.1 + v 200)), (1, .int (Int32.ofInt (l1))), (2, .int (Int32.ofInt (l2)))] [] cs) (hw : wX0_firstWrong_56 l2 s0 S K B11) : Z (RX0, cX0_firstWrong, 3, some .int, false) G d Post 56 [(0, .ref (G.1 + v 200)), (2, .int (Int32.ofInt (l2)))] [.int (Int32.ofInt (s0))] cs := by
  unfold wX0_firstWrong_56 at hw
  refine z_istore_n dX0_firstWrong_56 rfl (by decide) ?_
  refine z_loc (L' := [(0, .ref (G.1 + v 200)), (1, .int (Int32.ofInt (s0))), (2, .int (Int32.ofInt (l2)))]) (List.forall_mem_cons.mpr ⟨rfl, (List.forall_mem_cons.mpr ⟨rfl, (List.forall_mem_cons.mpr ⟨rfl, (fun _ h => nomatch h)⟩)⟩)⟩) ?_
  refine i_iinc (l := l2) dX0_firstWrong_57 rfl (by decide) ?_
  refine z_loc (L' := [(0, .ref (G.1 + v 200)), (1, .int (Int32.ofInt (s0))), (2, .int (Int32.ofInt ((l2 + 1))))]) (List.forall_mem_cons.mpr ⟨rfl, (List.forall_mem_cons.mpr ⟨rfl, (List.forall_mem_cons.mpr ⟨rfl, (fun _ h => nomatch h)⟩)⟩)⟩) ?_
  refine z_goto (tgt := 11) dX0_firstWrong_60 (by decide) ?_
  refine z_loc (L' := [(0, .ref (G.1 + v 200)), (1, .int (Int32.ofInt (s0))), (2, .int (Int32.ofInt ((l2 + 1))))]) (List.forall_mem_cons.mpr ⟨rfl, (List.forall_mem_cons.mpr ⟨rfl, (List.forall_mem_cons.mpr ⟨rfl, (fun _ h => nomatch h)⟩)⟩)⟩) ?_
  exact hB11 _ _ _ _ hw hW
def wX0_firstWrong_55  (l2 : Int) (S : St) (K : Int → St → Prop) (B11 : Int → Int → St → Prop) : Prop := wX0_firstWrong_56 (l2) (0) S K B11
set_option maxRecDepth 100000 in
set_option maxHeartbeats 4000000 in
theorem ubX0_firstWrong_55 {G : xG} {v : Nat → Nat} {sh : Nat → Option Sh} {B : Nat × Nat} {c0 : List va_E} {d : Nat} {Post : xP} {l2 : Int} {S : St} {cs : List va_E} {K : Int → St → Prop} {B11 : Int → Int → St → Prop} (hd : 7 ≤ d) (hT : sb shC sh) (hS : ∀ b x, sh b = some x → ¬ isS b) (hU : sb shT sh) (hW : Wv G v sh B c0 S cs) (hP : ∀ (x : Int) (S : St) (cs : List va_E), K x S → Wv G v sh B c0 S cs → Post (some (.int (Int32.ofInt x))) cs) (hB11 : ∀ (l1 : Int) (l2 : Int) (S : St) (cs : List va_E), B11 l1 l2 S → Wv G v sh B c0 S cs → Z (RX0, cX0_firstWrong, 3, some .int, false) G d Post 11 [(0, .ref (G.1 + v 200)), (1, .int (Int32.ofInt (l1))), (2, .int (Int32.ofInt (l2)))] [] cs) (hw : wX0_firstWrong_55 l2 S K B11) : Z (RX0, cX0_firstWrong, 3, some .int, false) G d Post 55 [(0, .ref (G.1 + v 200)), (2, .int (Int32.ofInt (l2)))] [] cs := by
  unfold wX0_firstWrong_55 at hw
  refine z_iconst (v := Int32.ofInt 0) dX0_firstWrong_55 rfl ?_
  refine z_loc (L' := [(0, .ref (G.1 + v 200)), (2, .int (Int32.ofInt (l2)))]) (List.forall_mem_cons.mpr ⟨rfl, (List.forall_mem_cons.mpr ⟨rfl, (fun _ h => nomatch h)⟩)⟩) ?_
  exact ubX0_firstWrong_56 hd hT hS hU hW hP hB11 hw
def wX0_firstWrong_11'  (l1 l2 : Int) (S : St) (K : Int → St → Prop) (B11 : Int → Int → St → Prop) : Prop := (rng (l2) ∧ ((6 ≤ l2 → wX0_firstWrong_63 S K) ∧ ((¬ (6 ≤ l2)) → (rng (l1) ∧ ((l1 = 0 → wX0_firstWrong_63 S K) ∧ ((¬ (l1 = 0)) → (wX0_isClassRight (l2) S (fun r6 S5 => (rng (r6) ∧ ((¬ r6 = 0 → (rng ((l2 + 1)) ∧ ((6 ≤ (l2 + 1) → wX0_firstWrong_55 (l2) S5 K B11) ∧ ((¬ (6 ≤ (l2 + 1))) → (wX0_skips (59) S5 (fun r12 S11 => (rng (r12) ∧ ((r12 = 0 → wX0_firstWrong_55 (l2) S11 K B11) ∧ ((¬ (r12 = 0)) → wX0_firstWrong_56 (l2) (1) S11 K B11))))))))) ∧ ((¬ (¬ r6 = 0)) → (iv (-2147483648) 2147483647 (S5.1 200 2) → K (S5.1 200 2) S5))))))))))))
set_option maxRecDepth 100000 in
set_option maxHeartbeats 4000000 in
theorem ubX0_firstWrong_11' {G : xG} {v : Nat → Nat} {sh : Nat → Option Sh} {B : Nat × Nat} {c0 : List va_E} {d : Nat} {Post : xP} {l1 l2 : Int} {S : St} {cs : List va_E} {K : Int → St → Prop} {B11 : Int → Int → St → Prop} (hd : 7 ≤ d) (hT : sb shC sh) (hS : ∀ b x, sh b = some x → ¬ isS b) (hU : sb shT sh) (hW : Wv G v sh B c0 S cs) (hP : ∀ (x : Int) (S : St) (cs : List va_E), K x S → Wv G v sh B c0 S cs → Post (some (.int (Int32.ofInt x))) cs) (hB11 : ∀ (l1 : Int) (l2 : Int) (S : St) (cs : List va_E), B11 l1 l2 S → Wv G v sh B c0 S cs → Z (RX0, cX0_firstWrong, 3, some .int, false) G d Post 11 [(0, .ref (G.1 + v 200)), (1, .int (Int32.ofInt (l1))), (2, .int (Int32.ofInt (l2)))] [] cs) (hw : wX0_firstWrong_11' l1 l2 S K B11) : Z (RX0, cX0_firstWrong, 3, some .int, false) G d Post 11 [(0, .ref (G.1 + v 200)), (1, .int (Int32.ofInt (l1))), (2, .int (Int32.ofInt (l2)))] [] cs := by
  unfold wX0_firstWrong_11' at hw
  refine z_iload_n dX0_firstWrong_11 rfl rfl ?_
  refine z_bipush (v := Int32.ofInt 6) dX0_firstWrong_12 (by decide) ?_
  obtain ⟨q2, hw⟩ := hw
  refine i_icmp_ge (tgt := 63) dX0_firstWrong_14 (by decide) q2 ⟨by decide, by decide⟩ (fun h1 => ?_) (fun h1 => ?_)
  · have hw := hw.1 h1
    refine z_loc (L' := [(0, .ref (G.1 + v 200))]) (List.forall_mem_cons.mpr ⟨rfl, (fun _ h => nomatch h)⟩) ?_
    exact ubX0_firstWrong_63 hd hT hS hU hW hP  hw
  · have hw := hw.2 h1
    refine z_iload_n dX0_firstWrong_17 rfl rfl ?_
    obtain ⟨q4, hw⟩ := hw
    refine i_if_eq (tgt := 63) dX0_firstWrong_18 (by decide) q4 (fun h3 => ?_) (fun h3 => ?_)
    · have hw := hw.1 h3
      refine z_loc (L' := [(0, .ref (G.1 + v 200))]) (List.forall_mem_cons.mpr ⟨rfl, (fun _ h => nomatch h)⟩) ?_
      exact ubX0_firstWrong_63 hd hT hS hU hW hP  hw
    · have hw := hw.2 h3
      refine z_aload_n dX0_firstWrong_21 rfl rfl ?_
      refine z_iload_n dX0_firstWrong_22 rfl rfl ?_
      have hX := lX0_isClassRight 4 (Nat.le_refl _) hT hS hU hW q2 hw
      refine z_callV (As := [_]) eX0_isClassRight sX0_isClassRight lX0_28 rfl dX0_firstWrong_23 (hW.at (hU 200 _ rfl)) hX (Nat.le_trans (by decide) hd) rfl (Nat.le_of_ble_eq_true rfl) (fun r cs hp => ?_)
      obtain ⟨r6, S5, rfl, hw, hW⟩ := hp
      refine z_st (st' := [.int (Int32.ofInt (r6))]) rfl ?_
      obtain ⟨q8, hw⟩ := hw
      refine i_if_ne (tgt := 34) dX0_firstWrong_26 (by decide) q8 (fun h7 => ?_) (fun h7 => ?_)
      · have hw := hw.1 h7
        refine z_iload_n dX0_firstWrong_34 rfl rfl ?_
        refine z_iconst (v := Int32.ofInt 1) dX0_firstWrong_35 rfl ?_
        refine i_iadd dX0_firstWrong_36 ?_
        refine z_bipush (v := Int32.ofInt 6) dX0_firstWrong_37 (by decide) ?_
        obtain ⟨q10, hw⟩ := hw
        refine i_icmp_ge (tgt := 55) dX0_firstWrong_39 (by decide) q10 ⟨by decide, by decide⟩ (fun h9 => ?_) (fun h9 => ?_)
        · have hw := hw.1 h9
          refine z_loc (L' := [(0, .ref (G.1 + v 200)), (2, .int (Int32.ofInt (l2)))]) (List.forall_mem_cons.mpr ⟨rfl, (List.forall_mem_cons.mpr ⟨rfl, (fun _ h => nomatch h)⟩)⟩) ?_
          exact ubX0_firstWrong_55 hd hT hS hU hW hP hB11 hw
        · have hw := hw.2 h9
          refine z_aload_n dX0_firstWrong_42 rfl rfl ?_
          refine z_bipush (v := Int32.ofInt 59) dX0_firstWrong_43 (by decide) ?_
          have hX := lX0_skips 1 (Nat.le_refl _) hT hS hU hW ⟨by decide, by decide⟩ hw
          refine z_callV (As := [_]) eX0_skips sX0_skips lX0_32 rfl dX0_firstWrong_45 (hW.at (hU 200 _ rfl)) hX (Nat.le_trans (by decide) hd) rfl (Nat.le_of_ble_eq_true rfl) (fun r cs hp => ?_)
          obtain ⟨r12, S11, rfl, hw, hW⟩ := hp
          refine z_st (st' := [.int (Int32.ofInt (r12))]) rfl ?_
          obtain ⟨q14, hw⟩ := hw
          refine i_if_eq (tgt := 55) dX0_firstWrong_48 (by decide) q14 (fun h13 => ?_) (fun h13 => ?_)
          · have hw := hw.1 h13
            refine z_loc (L' := [(0, .ref (G.1 + v 200)), (2, .int (Int32.ofInt (l2)))]) (List.forall_mem_cons.mpr ⟨rfl, (List.forall_mem_cons.mpr ⟨rfl, (fun _ h => nomatch h)⟩)⟩) ?_
            exact ubX0_firstWrong_55 hd hT hS hU hW hP hB11 hw
          · have hw := hw.2 h13
            refine z_iconst (v := Int32.ofInt 1) dX0_firstWrong_51 rfl ?_
            refine z_goto (tgt := 56) dX0_firstWrong_52 (by decide) ?_
            refine z_loc (L' := [(0, .ref (G.1 + v 200)), (2, .int (Int32.ofInt (l2)))]) (List.forall_mem_cons.mpr ⟨rfl, (List.forall_mem_cons.mpr ⟨rfl, (fun _ h => nomatch h)⟩)⟩) ?_
            exact ubX0_firstWrong_56 hd hT hS hU hW hP hB11 hw
      · have hw := hw.2 h7
        refine z_aload_n dX0_firstWrong_29 rfl rfl ?_
        have q15 : iv (-2147483648) 2147483647 (S5.1 200 2) := hW.iI 200 2
        have hw := hw q15
        refine v_getI hW (hU 200 _ rfl) rfl kX0 fX0_9 dX0_firstWrong_30 ?_
        exact z_ireturn dX0_firstWrong_33 rfl rfl (hP _ _ _ hw hW)
def wX0_firstWrong_11  (l1 l2 : Int) (S : St) (K : Int → St → Prop) : Prop := ∃ (Iv : Int → Int → St → Prop) (mu : Int → Int → St → Nat), Iv l1 l2 S ∧ ∀ (l1 l2 : Int) (S : St), Iv l1 l2 S → wX0_firstWrong_11' l1 l2 S K  (fun ml1 ml2 T => Iv ml1 ml2 T ∧ mu ml1 ml2 T < mu l1 l2 S)
set_option maxRecDepth 100000 in
set_option maxHeartbeats 4000000 in
theorem ubX0_firstWrong_11 {G : xG} {v : Nat → Nat} {sh : Nat → Option Sh} {B : Nat × Nat} {c0 : List va_E} {d : Nat} {Post : xP} {l1 l2 : Int} {S : St} {cs : List va_E} {K : Int → St → Prop} (hd : 7 ≤ d) (hT : sb shC sh) (hS : ∀ b x, sh b = some x → ¬ isS b) (hU : sb shT sh) (hW : Wv G v sh B c0 S cs) (hP : ∀ (x : Int) (S : St) (cs : List va_E), K x S → Wv G v sh B c0 S cs → Post (some (.int (Int32.ofInt x))) cs)  (hw : wX0_firstWrong_11 l1 l2 S K ) : Z (RX0, cX0_firstWrong, 3, some .int, false) G d Post 11 [(0, .ref (G.1 + v 200)), (1, .int (Int32.ofInt (l1))), (2, .int (Int32.ofInt (l2)))] [] cs := by
  unfold wX0_firstWrong_11 at hw
  obtain ⟨Iv, mu, h0, hs⟩ := hw
  have key : ∀ (n : Nat) (l1 l2 : Int) (S : St) (cs : List va_E), mu l1 l2 S < n → Iv l1 l2 S → Wv G v sh B c0 S cs → Z (RX0, cX0_firstWrong, 3, some .int, false) G d Post 11 [(0, .ref (G.1 + v 200)), (1, .int (Int32.ofInt (l1))), (2, .int (Int32.ofInt (l2)))] [] cs := by
    intro n
    induction n with
    | zero => intro l1 l2 S cs hn; exact absurd hn (Nat.not_lt_zero _)
    | succ n ih =>
      intro l1 l2 S cs hn hI hW
      exact ubX0_firstWrong_11' hd hT hS hU hW hP  (fun l1 l2 S cs hb hW => ih l1 l2 S cs (Nat.lt_of_lt_of_le hb.2 (Nat.le_of_lt_succ hn)) hb.1 hW) (hs l1 l2 S hI)
  exact key _ _ _ _ _ (Nat.lt_succ_self _) h0 hW
def wX0_firstWrong  (S : St) (K : Int → St → Prop) : Prop := (wX4_clear S (fun r2 S1 => wX0_firstWrong_11 (1) (0) S1 K))
set_option maxRecDepth 100000 in
set_option maxHeartbeats 4000000 in
theorem lX0_firstWrong {G : xG} {v : Nat → Nat} {sh : Nat → Option Sh} {B : Nat × Nat} {c0 : List va_E}  {S : St} {cs : List va_E} {K : Int → St → Prop} (d : Nat) (hd : 7 ≤ d) (hT : sb shC sh) (hS : ∀ b x, sh b = some x → ¬ isS b) (hU : sb shT sh) (hW : Wv G v sh B c0 S cs)  (hw : wX0_firstWrong  S K) : X G yX0_firstWrong cX0_firstWrong 3 (some .int) d [.ref (G.1 + v 200)] cs (vI G v sh B c0 K) := by
  refine X.of false (by decide +kernel) (by decide) (Nat.le_of_ble_eq_true rfl) ?_
  show Z (RX0, cX0_firstWrong, 3, some .int, false) G d _ 0 [(0, .ref (G.1 + v 200))] [] cs
  have hP : ∀ (x : Int) (S : St) (cs : List va_E), K x S → Wv G v sh B c0 S cs → vI G v sh B c0 K (some (.int (Int32.ofInt x))) cs := fun x S cs a b => ⟨x, S, rfl, a, b⟩
  unfold wX0_firstWrong at hw
  refine z_aload_n dX0_firstWrong_0 rfl rfl ?_
  refine v_getR hW (hU 200 _ rfl) rfl kX0 fX0_19 dX0_firstWrong_1 ?_
  have hX := lX4_clear 0 (Nat.le_refl _) hT hS hW  hw
  refine z_callV (As := []) eX4_clear sX4_clear lX0_23 rfl dX0_firstWrong_4 (hW.at (hT 33 _ rfl)) hX (Nat.le_trans (by decide) hd) rfl (Nat.le_of_ble_eq_true rfl) (fun r cs hp => ?_)
  obtain ⟨r2, S1, rfl, hw, hW⟩ := hp
  refine z_st (st' := []) rfl ?_
  refine z_iconst (v := Int32.ofInt 1) dX0_firstWrong_7 rfl ?_
  refine z_istore_n dX0_firstWrong_8 rfl (by decide) ?_
  refine z_loc (L' := [(0, .ref (G.1 + v 200)), (1, .int (Int32.ofInt (1)))]) (List.forall_mem_cons.mpr ⟨rfl, (List.forall_mem_cons.mpr ⟨rfl, (fun _ h => nomatch h)⟩)⟩) ?_
  refine z_iconst (v := Int32.ofInt 0) dX0_firstWrong_9 rfl ?_
  refine z_istore_n dX0_firstWrong_10 rfl (by decide) ?_
  refine z_loc (L' := [(0, .ref (G.1 + v 200)), (1, .int (Int32.ofInt (1))), (2, .int (Int32.ofInt (0)))]) (List.forall_mem_cons.mpr ⟨rfl, (List.forall_mem_cons.mpr ⟨rfl, (List.forall_mem_cons.mpr ⟨rfl, (fun _ h => nomatch h)⟩)⟩)⟩) ?_
  refine z_loc (L' := [(0, .ref (G.1 + v 200)), (1, .int (Int32.ofInt (1))), (2, .int (Int32.ofInt (0)))]) (List.forall_mem_cons.mpr ⟨rfl, (List.forall_mem_cons.mpr ⟨rfl, (List.forall_mem_cons.mpr ⟨rfl, (fun _ h => nomatch h)⟩)⟩)⟩) ?_
  exact ubX0_firstWrong_11 hd hT hS hU hW hP  hw

