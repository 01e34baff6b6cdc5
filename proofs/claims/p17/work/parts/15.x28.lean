def wX4_readableClass_b_3'  (l2 l3 l4 : Int) (S : St) (K : Int → St → Prop) (B3 : Int → Int → Int → St → Prop) : Prop := (iv 0 6 (S.1 24 8) → (rng (l4) ∧ ((S.1 24 8 ≤ l4 → K ((-1)) S) ∧ ((¬ (S.1 24 8 ≤ l4)) → (rng (l2) ∧ (rng (l3) ∧ (wX4_spells_b (l4) (l2) (l3) S (fun r5 S4 => (rng (r5) ∧ ((r5 = 0 → B3 (l2) (l3) ((l4 + 1)) S4) ∧ ((¬ (r5 = 0)) → ((0 : Int) ≤ l4 ∧ l4 < (6 : Int) ∧ (iv 0 1 (S4.2 32 (l4)) → ((S4.2 32 (l4) = 0 → K (l4) S4) ∧ ((¬ (S4.2 32 (l4) = 0)) → K ((-1)) S4)))))))))))))))
set_option maxRecDepth 100000 in
set_option maxHeartbeats 4000000 in
theorem ubX4_readableClass_b_3' {G : xG} {v : Nat → Nat} {sh : Nat → Option Sh} {B : Nat × Nat} {c0 : List va_E} {d : Nat} {Post : xP} {l2 l3 l4 : Int} {S : St} {cs : List va_E} {K : Int → St → Prop} {B3 : Int → Int → Int → St → Prop} (hd : 2 ≤ d) (hT : sb shC sh) (hS : ∀ b x, sh b = some x → ¬ isS b) (hW : Wv G v sh B c0 S cs) (hP : ∀ (x : Int) (S : St) (cs : List va_E), K x S → Wv G v sh B c0 S cs → Post (some (.int (Int32.ofInt x))) cs) (hB3 : ∀ (l2 : Int) (l3 : Int) (l4 : Int) (S : St) (cs : List va_E), B3 l2 l3 l4 S → Wv G v sh B c0 S cs → Z (RX4, cX4_readableClass, 5, some .int, false) G d Post 3 [(0, .ref (G.1 + v 24)), (1, .ref (G.1 + v 4)), (2, .int (Int32.ofInt (l2))), (3, .int (Int32.ofInt (l3))), (4, .int (Int32.ofInt (l4)))] [] cs) (hw : wX4_readableClass_b_3' l2 l3 l4 S K B3) : Z (RX4, cX4_readableClass, 5, some .int, false) G d Post 3 [(0, .ref (G.1 + v 24)), (1, .ref (G.1 + v 4)), (2, .int (Int32.ofInt (l2))), (3, .int (Int32.ofInt (l3))), (4, .int (Int32.ofInt (l4)))] [] cs := by
  unfold wX4_readableClass_b_3' at hw
  refine z_iload dX4_readableClass_3 rfl ?_
  refine z_aload_n dX4_readableClass_5 rfl rfl ?_
  have q1 : iv 0 6 (S.1 24 8) := hW.iI 24 8
  have hw := hw q1
  refine v_getI hW (hT 24 _ rfl) rfl kX4 fX4_38 dX4_readableClass_6 ?_
  obtain ⟨q3, hw⟩ := hw
  refine i_icmp_ge (tgt := 47) dX4_readableClass_9 (by decide) q3 (rngq q1 (by decide) (by decide)) (fun h2 => ?_) (fun h2 => ?_)
  · have hw := hw.1 h2
    refine z_iconst (v := Int32.ofInt (-1)) dX4_readableClass_47 rfl ?_
    exact z_ireturn dX4_readableClass_48 rfl rfl (hP _ _ _ hw hW)
  · have hw := hw.2 h2
    refine z_aload_n dX4_readableClass_12 rfl rfl ?_
    refine z_iload dX4_readableClass_13 rfl ?_
    refine z_aload_n dX4_readableClass_15 rfl rfl ?_
    refine z_iload_n dX4_readableClass_16 rfl rfl ?_
    refine z_iload_n dX4_readableClass_17 rfl rfl ?_
    obtain ⟨q6, hw⟩ := hw
    obtain ⟨q7, hw⟩ := hw
    have hX := lX4_spells_b 1 (Nat.le_refl _) hT hS hW q3 q6 q7 hw
    refine z_callV (As := [_, _, _, _]) eX4_spells sX4_spells lX4_73 rfl dX4_readableClass_18 (hW.at (hT 24 _ rfl)) hX (Nat.le_trans (by decide) hd) rfl (Nat.le_of_ble_eq_true rfl) (fun r cs hp => ?_)
    obtain ⟨r5, S4, rfl, hw, hW⟩ := hp
    refine z_st (st' := [.int (Int32.ofInt (r5))]) rfl ?_
    obtain ⟨q9, hw⟩ := hw
    refine i_if_eq (tgt := 41) dX4_readableClass_21 (by decide) q9 (fun h8 => ?_) (fun h8 => ?_)
    · have hw := hw.1 h8
      refine i_iinc (l := l4) dX4_readableClass_41 rfl (by decide) ?_
      refine z_loc (L' := [(0, .ref (G.1 + v 24)), (1, .ref (G.1 + v 4)), (2, .int (Int32.ofInt (l2))), (3, .int (Int32.ofInt (l3))), (4, .int (Int32.ofInt ((l4 + 1))))]) (List.forall_mem_cons.mpr ⟨rfl, (List.forall_mem_cons.mpr ⟨rfl, (List.forall_mem_cons.mpr ⟨rfl, (List.forall_mem_cons.mpr ⟨rfl, (List.forall_mem_cons.mpr ⟨rfl, (fun _ h => nomatch h)⟩)⟩)⟩)⟩)⟩) ?_
      refine z_goto (tgt := 3) dX4_readableClass_44 (by decide) ?_
      refine z_loc (L' := [(0, .ref (G.1 + v 24)), (1, .ref (G.1 + v 4)), (2, .int (Int32.ofInt (l2))), (3, .int (Int32.ofInt (l3))), (4, .int (Int32.ofInt ((l4 + 1))))]) (List.forall_mem_cons.mpr ⟨rfl, (List.forall_mem_cons.mpr ⟨rfl, (List.forall_mem_cons.mpr ⟨rfl, (List.forall_mem_cons.mpr ⟨rfl, (List.forall_mem_cons.mpr ⟨rfl, (fun _ h => nomatch h)⟩)⟩)⟩)⟩)⟩) ?_
      exact hB3 _ _ _ _ _ hw hW
    · have hw := hw.2 h8
      refine z_aload_n dX4_readableClass_24 rfl rfl ?_
      refine v_getR hW (hT 24 _ rfl) rfl kX4 fX4_35 dX4_readableClass_25 ?_
      refine z_iload dX4_readableClass_28 rfl ?_
      obtain ⟨q10a, q10b, hw⟩ := hw
      have q11 : iv 0 1 (S4.2 32 (l4)) := hW.iA 32 _
      have hw := hw q11
      refine v_zald hW (hT 32 _ rfl) q10a q10b (by decide) dX4_readableClass_30 ?_
      refine i_if_eq (tgt := 38) dX4_readableClass_31 (by decide) (rngq q11 (by decide) (by decide)) (fun h12 => ?_) (fun h12 => ?_)
      · have hw := hw.1 h12
        refine z_iload dX4_readableClass_38 rfl ?_
        exact z_ireturn dX4_readableClass_40 rfl rfl (hP _ _ _ hw hW)
      · have hw := hw.2 h12
        refine z_iconst (v := Int32.ofInt (-1)) dX4_readableClass_34 rfl ?_
        refine z_goto (tgt := 40) dX4_readableClass_35 (by decide) ?_
        exact z_ireturn dX4_readableClass_40 rfl rfl (hP _ _ _ hw hW)
def wX4_readableClass_b_3  (l2 l3 l4 : Int) (S : St) (K : Int → St → Prop) : Prop := ∃ (Iv : Int → Int → Int → St → Prop) (mu : Int → Int → Int → St → Nat), Iv l2 l3 l4 S ∧ ∀ (l2 l3 l4 : Int) (S : St), Iv l2 l3 l4 S → wX4_readableClass_b_3' l2 l3 l4 S K  (fun ml2 ml3 ml4 T => Iv ml2 ml3 ml4 T ∧ mu ml2 ml3 ml4 T < mu l2 l3 l4 S)
set_option maxRecDepth 100000 in
set_option maxHeartbeats 4000000 in
theorem ubX4_readableClass_b_3 {G : xG} {v : Nat → Nat} {sh : Nat → Option Sh} {B : Nat × Nat} {c0 : List va_E} {d : Nat} {Post : xP} {l2 l3 l4 : Int} {S : St} {cs : List va_E} {K : Int → St → Prop} (hd : 2 ≤ d) (hT : sb shC sh) (hS : ∀ b x, sh b = some x → ¬ isS b) (hW : Wv G v sh B c0 S cs) (hP : ∀ (x : Int) (S : St) (cs : List va_E), K x S → Wv G v sh B c0 S cs → Post (some (.int (Int32.ofInt x))) cs)  (hw : wX4_readableClass_b_3 l2 l3 l4 S K ) : Z (RX4, cX4_readableClass, 5, some .int, false) G d Post 3 [(0, .ref (G.1 + v 24)), (1, .ref (G.1 + v 4)), (2, .int (Int32.ofInt (l2))), (3, .int (Int32.ofInt (l3))), (4, .int (Int32.ofInt (l4)))] [] cs := by
  unfold wX4_readableClass_b_3 at hw
  obtain ⟨Iv, mu, h0, hs⟩ := hw
  have key : ∀ (n : Nat) (l2 l3 l4 : Int) (S : St) (cs : List va_E), mu l2 l3 l4 S < n → Iv l2 l3 l4 S → Wv G v sh B c0 S cs → Z (RX4, cX4_readableClass, 5, some .int, false) G d Post 3 [(0, .ref (G.1 + v 24)), (1, .ref (G.1 + v 4)), (2, .int (Int32.ofInt (l2))), (3, .int (Int32.ofInt (l3))), (4, .int (Int32.ofInt (l4)))] [] cs := by
    intro n
    induction n with
    | zero => intro l2 l3 l4 S cs hn; exact absurd hn (Nat.not_lt_zero _)
    | succ n ih =>
      intro l2 l3 l4 S cs hn hI hW
      exact ubX4_readableClass_b_3' hd hT hS hW hP  (fun l2 l3 l4 S cs hb hW => ih l2 l3 l4 S cs (Nat.lt_of_lt_of_le hb.2 (Nat.le_of_lt_succ hn)) hb.1 hW) (hs l2 l3 l4 S hI)
  exact key _ _ _ _ _ _ (Nat.lt_succ_self _) h0 hW
def wX4_readableClass_b  (a1 a2 : Int) (S : St) (K : Int → St → Prop) : Prop := rng a1 → rng a2 → wX4_readableClass_b_3 (a1) (a2) (0) S K
set_option maxRecDepth 100000 in
set_option maxHeartbeats 4000000 in
theorem lX4_readableClass_b {G : xG} {v : Nat → Nat} {sh : Nat → Option Sh} {B : Nat × Nat} {c0 : List va_E}  {a1 a2 : Int} {S : St} {cs : List va_E} {K : Int → St → Prop} (d : Nat) (hd : 2 ≤ d) (hT : sb shC sh) (hS : ∀ b x, sh b = some x → ¬ isS b) (hW : Wv G v sh B c0 S cs) (g1 : rng a1) (g2 : rng a2) (hw : wX4_readableClass_b a1 a2 S K) : X G yX4_readableClass cX4_readableClass 5 (some .int) d [.ref (G.1 + v 24), .ref (G.1 + v 4), .int (Int32.ofInt a1), .int (Int32.ofInt a2)] cs (vI G v sh B c0 K) := by
  refine X.of false (by decide +kernel) (by decide) (Nat.le_of_ble_eq_true rfl) ?_
  show Z (RX4, cX4_readableClass, 5, some .int, false) G d _ 0 [(0, .ref (G.1 + v 24)), (1, .ref (G.1 + v 4)), (2, .int (Int32.ofInt a1)), (3, .int (Int32.ofInt a2))] [] cs
  have hP : ∀ (x : Int) (S : St) (cs : List va_E), K x S → Wv G v sh B c0 S cs → vI G v sh B c0 K (some (.int (Int32.ofInt x))) cs := fun x S cs a b => ⟨x, S, rfl, a, b⟩
  unfold wX4_readableClass_b at hw
  have hw := hw g1 g2
  refine z_iconst (v := Int32.ofInt 0) dX4_readableClass_0 rfl ?_
  refine z_istore dX4_readableClass_1 (by decide) ?_
  refine z_loc (L' := [(0, .ref (G.1 + v 24)), (1, .ref (G.1 + v 4)), (2, .int (Int32.ofInt (a1))), (3, .int (Int32.ofInt (a2))), (4, .int (Int32.ofInt (0)))]) (List.forall_mem_cons.mpr ⟨rfl, (List.forall_mem_cons.mpr ⟨rfl, (List.forall_mem_cons.mpr ⟨rfl, (List.forall_mem_cons.mpr ⟨rfl, (List.forall_mem_cons.mpr ⟨rfl, (fun _ h => nomatch h)⟩)⟩)⟩)⟩)⟩) ?_
  refine z_loc (L' := [(0, .ref (G.1 + v 24)), (1, .ref (G.1 + v 4)), (2, .int (Int32.ofInt (a1))), (3, .int (Int32.ofInt (a2))), (4, .int (Int32.ofInt (0)))]) (List.forall_mem_cons.mpr ⟨rfl, (List.forall_mem_cons.mpr ⟨rfl, (List.forall_mem_cons.mpr ⟨rfl, (List.forall_mem_cons.mpr ⟨rfl, (List.forall_mem_cons.mpr ⟨rfl, (fun _ h => nomatch h)⟩)⟩)⟩)⟩)⟩) ?_
  exact ubX4_readableClass_b_3 hd hT hS hW hP  hw

def wX3_isPlacedAsTarget (m : Nat)  (a1 a2 a3 : Int) (S : St) (K : Int → St → Prop) : Prop := rng a1 → rng a2 → rng a3 → (wX6_attributeNamed (a1) S (fun r2 S1 => (rng (r2) ∧ ((r2 = (-1) → (wX6_attributeNamed_b (a1) S1 (fun r6 S5 => (rng (r6) ∧ ((¬ r6 = (-1) → (wX6_valueFrom (r6) S5 (fun r10 S9 => (wX6_valueTo (r6) S9 (fun r12 S11 => (rng (r10) ∧ (rng (r12) ∧ (wX4_readableClass_b (r10) (r12) S11 (fun r14 S13 => (rng (r14) ∧ (wX3_begins m (a1) (r14) S13 (fun r18 S17 => (rng (r18) ∧ ((¬ r18 = 0 → ((0 : Int) ≤ a1 ∧ a1 < (m : Int) ∧ (iv (-2147483648) 2147483647 (a3) ∧ (∀ S23, S23 = pA S17 233 (a1) (a3) → ((0 : Int) ≤ a1 ∧ a1 < (m : Int) ∧ (iv 0 29 (S23.2 232 (a1)) → (wX1_putHead_b (a2) (a3) (S23.2 232 (a1)) S23 (fun r28 S27 => K (1) S27)))))))) ∧ ((¬ (¬ r18 = 0)) → K (0) S17))))))))))))))) ∧ ((¬ (¬ r6 = (-1))) → K (0) S5)))))) ∧ ((¬ (r2 = (-1))) → (wX3_takesRole m (a1) (4) (a2) (a3) S1 (fun r30 S29 => K (1) S29)))))))
set_option maxRecDepth 100000 in
set_option maxHeartbeats 4000000 in
theorem lX3_isPlacedAsTarget {G : xG} {v : Nat → Nat} {sh : Nat → Option Sh} {B : Nat × Nat} {c0 : List va_E} {m : Nat}  {a1 a2 a3 : Int} {S : St} {cs : List va_E} {K : Int → St → Prop} (d : Nat) (hd : 6 ≤ d) (hm : m ≤ 200) (hT : sb shC sh) (hS : ∀ b x, sh b = some x → ¬ isS b) (hU : sb (shMe m) sh) (hW : Wv G v sh B c0 S cs) (g1 : rng a1) (g2 : rng a2) (g3 : rng a3) (hw : wX3_isPlacedAsTarget m a1 a2 a3 S K) : X G yX3_isPlacedAsTarget cX3_isPlacedAsTarget 6 (some .boolean) d [.ref (G.1 + v 230), .int (Int32.ofInt a1), .int (Int32.ofInt a2), .int (Int32.ofInt a3)] cs (vI G v sh B c0 K) := by
  refine X.of false (by decide +kernel) (by decide) (Nat.le_of_ble_eq_true rfl) ?_
  show Z (RX3, cX3_isPlacedAsTarget, 6, some .boolean, false) G d _ 0 [(0, .ref (G.1 + v 230)), (1, .int (Int32.ofInt a1)), (2, .int (Int32.ofInt a2)), (3, .int (Int32.ofInt a3))] [] cs
  have hP : ∀ (x : Int) (S : St) (cs : List va_E), K x S → Wv G v sh B c0 S cs → vI G v sh B c0 K (some (.int (Int32.ofInt x))) cs := fun x S cs a b => ⟨x, S, rfl, a, b⟩
  unfold wX3_isPlacedAsTarget at hw
  have hw := hw g1 g2 g3
  refine z_aload_n dX3_isPlacedAsTarget_0 rfl rfl ?_
  refine v_getR hW (hU 230 _ rfl) rfl kX3 fX3_19 dX3_isPlacedAsTarget_1 ?_
  refine z_iload_n dX3_isPlacedAsTarget_4 rfl rfl ?_
  refine z_ldcS (i := 24) (tx := "reference") (by decide +kernel) dX3_isPlacedAsTarget_5 ?_
  have hX := lX6_attributeNamed 5 (Nat.le_refl _) hT hS (sbt sbX6_X3 hU) hW g1 hw
  refine z_callV (As := [_, _]) eX6_attributeNamed sX6_attributeNamed lX3_140 rfl dX3_isPlacedAsTarget_7 (hW.at (hU 3 _ rfl)) hX (Nat.le_trans (by decide) hd) rfl (Nat.le_of_ble_eq_true rfl) (fun r cs hp => ?_)
  obtain ⟨r2, S1, rfl, hw, hW⟩ := hp
  refine z_st (st' := [.int (Int32.ofInt (r2))]) rfl ?_
  refine z_iconst (v := Int32.ofInt (-1)) dX3_isPlacedAsTarget_10 rfl ?_
  obtain ⟨q4, hw⟩ := hw
  refine i_icmp_eq (tgt := 24) dX3_isPlacedAsTarget_11 (by decide) q4 ⟨by decide, by decide⟩ (fun h3 => ?_) (fun h3 => ?_)
  · have hw := hw.1 h3
    refine z_aload_n dX3_isPlacedAsTarget_24 rfl rfl ?_
    refine v_getR hW (hU 230 _ rfl) rfl kX3 fX3_19 dX3_isPlacedAsTarget_25 ?_
    refine z_iload_n dX3_isPlacedAsTarget_28 rfl rfl ?_
    refine z_ldcS (i := 25) (tx := "class") (by decide +kernel) dX3_isPlacedAsTarget_29 ?_
    have hX := lX6_attributeNamed_b 5 (Nat.le_refl _) hT hS (sbt sbX6_X3 hU) hW g1 hw
    refine z_callV (As := [_, _]) eX6_attributeNamed sX6_attributeNamed lX3_140 rfl dX3_isPlacedAsTarget_31 (hW.at (hU 3 _ rfl)) hX (Nat.le_trans (by decide) hd) rfl (Nat.le_of_ble_eq_true rfl) (fun r cs hp => ?_)
    obtain ⟨r6, S5, rfl, hw, hW⟩ := hp
    refine z_st (st' := [.int (Int32.ofInt (r6))]) rfl ?_
    refine z_istore dX3_isPlacedAsTarget_34 (by decide) ?_
    refine z_loc (L' := [(0, .ref (G.1 + v 230)), (1, .int (Int32.ofInt (a1))), (2, .int (Int32.ofInt (a2))), (3, .int (Int32.ofInt (a3))), (4, .int (Int32.ofInt (r6)))]) (List.forall_mem_cons.mpr ⟨rfl, (List.forall_mem_cons.mpr ⟨rfl, (List.forall_mem_cons.mpr ⟨rfl, (List.forall_mem_cons.mpr ⟨rfl, (List.forall_mem_cons.mpr ⟨rfl, (fun _ h => nomatch h)⟩)⟩)⟩)⟩)⟩) ?_
    refine z_iload dX3_isPlacedAsTarget_36 rfl ?_
    refine z_iconst (v := Int32.ofInt (-1)) dX3_isPlacedAsTarget_38 rfl ?_
    obtain ⟨q8, hw⟩ := hw
    refine i_icmp_ne (tgt := 44) dX3_isPlacedAsTarget_39 (by decide) q8 ⟨by decide, by decide⟩ (fun h7 => ?_) (fun h7 => ?_)
    · have hw := hw.1 h7
      refine z_aload_n dX3_isPlacedAsTarget_44 rfl rfl ?_
      refine v_getR hW (hU 230 _ rfl) rfl kX3 fX3_15 dX3_isPlacedAsTarget_45 ?_
      refine z_aload_n dX3_isPlacedAsTarget_48 rfl rfl ?_
      refine v_getR hW (hU 230 _ rfl) rfl kX3 fX3_35 dX3_isPlacedAsTarget_49 ?_
      refine z_aload_n dX3_isPlacedAsTarget_52 rfl rfl ?_
      refine v_getR hW (hU 230 _ rfl) rfl kX3 fX3_19 dX3_isPlacedAsTarget_53 ?_
      refine z_iload dX3_isPlacedAsTarget_56 rfl ?_
      have hX := lX6_valueFrom 1 (Nat.le_refl _) hT hS (sbt sbX6_X3 hU) hW q8 hw
      refine z_callV (As := [_]) eX6_valueFrom sX6_valueFrom lX3_146 rfl dX3_isPlacedAsTarget_58 (hW.at (hU 3 _ rfl)) hX (Nat.le_trans (by decide) hd) rfl (Nat.le_of_ble_eq_true rfl) (fun r cs hp => ?_)
      obtain ⟨r10, S9, rfl, hw, hW⟩ := hp
      refine z_st (st' := [.int (Int32.ofInt (r10)), .ref (G.1 + v 4), .ref (G.1 + v 24)]) rfl ?_
      refine z_aload_n dX3_isPlacedAsTarget_61 rfl rfl ?_
      refine v_getR hW (hU 230 _ rfl) rfl kX3 fX3_19 dX3_isPlacedAsTarget_62 ?_
      refine z_iload dX3_isPlacedAsTarget_65 rfl ?_
      have hX := lX6_valueTo 1 (Nat.le_refl _) hT hS (sbt sbX6_X3 hU) hW q8 hw
      refine z_callV (As := [_]) eX6_valueTo sX6_valueTo lX3_149 rfl dX3_isPlacedAsTarget_67 (hW.at (hU 3 _ rfl)) hX (Nat.le_trans (by decide) hd) rfl (Nat.le_of_ble_eq_true rfl) (fun r cs hp => ?_)
      obtain ⟨r12, S11, rfl, hw, hW⟩ := hp
      refine z_st (st' := [.int (Int32.ofInt (r12)), .int (Int32.ofInt (r10)), .ref (G.1 + v 4), .ref (G.1 + v 24)]) rfl ?_
      obtain ⟨q15, hw⟩ := hw
      obtain ⟨q16, hw⟩ := hw
      have hX := lX4_readableClass_b 2 (Nat.le_refl _) hT hS hW q15 q16 hw
      refine z_callV (As := [_, _, _]) eX4_readableClass sX4_readableClass lX3_94 rfl dX3_isPlacedAsTarget_70 (hW.at (hT 24 _ rfl)) hX (Nat.le_trans (by decide) hd) rfl (Nat.le_of_ble_eq_true rfl) (fun r cs hp => ?_)
      obtain ⟨r14, S13, rfl, hw, hW⟩ := hp
      refine z_st (st' := [.int (Int32.ofInt (r14))]) rfl ?_
      refine z_istore dX3_isPlacedAsTarget_73 (by decide) ?_
      refine z_loc (L' := [(0, .ref (G.1 + v 230)), (1, .int (Int32.ofInt (a1))), (2, .int (Int32.ofInt (a2))), (3, .int (Int32.ofInt (a3))), (4, .int (Int32.ofInt (r6))), (5, .int (Int32.ofInt (r14)))]) (List.forall_mem_cons.mpr ⟨rfl, (List.forall_mem_cons.mpr ⟨rfl, (List.forall_mem_cons.mpr ⟨rfl, (List.forall_mem_cons.mpr ⟨rfl, (List.forall_mem_cons.mpr ⟨rfl, (List.forall_mem_cons.mpr ⟨rfl, (fun _ h => nomatch h)⟩)⟩)⟩)⟩)⟩)⟩) ?_
      refine z_aload_n dX3_isPlacedAsTarget_75 rfl rfl ?_
      refine z_iload_n dX3_isPlacedAsTarget_76 rfl rfl ?_
      refine z_iload dX3_isPlacedAsTarget_77 rfl ?_
      obtain ⟨q19, hw⟩ := hw
      have hX := lX3_begins 2 (Nat.le_refl _) hm hT hS hU hW g1 q19 hw
      refine z_callV (As := [_, _]) eX3_begins sX3_begins lX3_100 rfl dX3_isPlacedAsTarget_79 (hW.at (hU 230 _ rfl)) hX (Nat.le_trans (by decide) hd) rfl (Nat.le_of_ble_eq_true rfl) (fun r cs hp => ?_)
      obtain ⟨r18, S17, rfl, hw, hW⟩ := hp
      refine z_st (st' := [.int (Int32.ofInt (r18))]) rfl ?_
      obtain ⟨q21, hw⟩ := hw
      refine i_if_ne (tgt := 87) dX3_isPlacedAsTarget_82 (by decide) q21 (fun h20 => ?_) (fun h20 => ?_)
      · have hw := hw.1 h20
        refine z_aload_n dX3_isPlacedAsTarget_87 rfl rfl ?_
        refine v_getR hW (hU 230 _ rfl) rfl kX3 fX3_60 dX3_isPlacedAsTarget_88 ?_
        refine z_iload_n dX3_isPlacedAsTarget_91 rfl rfl ?_
        refine z_iload_n dX3_isPlacedAsTarget_92 rfl rfl ?_
        obtain ⟨q22a, q22b, hw⟩ := hw
        obtain ⟨q24, hw⟩ := hw
        refine v_iast hW (hU 233 _ rfl) (by decide) (by unfold isS; decide) q22a q22b (m_lt hm) q24 dX3_isPlacedAsTarget_93 (fun cs hW => ?_)
        obtain ⟨S23, hS23⟩ : ∃ x, x = pA S17 233 (a1) (a3) := ⟨_, rfl⟩
        rw [← hS23] at hW
        have hw := hw S23 hS23
        refine z_aload_n dX3_isPlacedAsTarget_94 rfl rfl ?_
        refine v_getR hW (hU 230 _ rfl) rfl kX3 fX3_37 dX3_isPlacedAsTarget_95 ?_
        refine z_iload_n dX3_isPlacedAsTarget_98 rfl rfl ?_
        refine z_iload_n dX3_isPlacedAsTarget_99 rfl rfl ?_
        refine z_aload_n dX3_isPlacedAsTarget_100 rfl rfl ?_
        refine v_getR hW (hU 230 _ rfl) rfl kX3 fX3_57 dX3_isPlacedAsTarget_101 ?_
        refine z_iload_n dX3_isPlacedAsTarget_104 rfl rfl ?_
        obtain ⟨q25a, q25b, hw⟩ := hw
        have q26 : iv 0 29 (S23.2 232 (a1)) := hW.iA 232 _
        have hw := hw q26
        refine v_iald hW (hU 232 _ rfl) q25a q25b (m_lt hm) dX3_isPlacedAsTarget_105 ?_
        have hX := lX1_putHead_b 1 (Nat.le_refl _) hT hS hW g2 g3 (rngq q26 (by decide) (by decide)) hw
        refine z_callV (As := [_, _, _]) eX1_putHead sX1_putHead lX3_152 rfl dX3_isPlacedAsTarget_106 (hW.at (hT 50 _ rfl)) hX (Nat.le_trans (by decide) hd) rfl (Nat.le_of_ble_eq_true rfl) (fun r cs hp => ?_)
        obtain ⟨r28, S27, rfl, hw, hW⟩ := hp
        refine z_st (st' := []) rfl ?_
        refine z_iconst (v := Int32.ofInt 1) dX3_isPlacedAsTarget_109 rfl ?_
        exact z_ireturn dX3_isPlacedAsTarget_110 rfl (nar01 (by decide)) (hP _ _ _ hw hW)
      · have hw := hw.2 h20
        refine z_iconst (v := Int32.ofInt 0) dX3_isPlacedAsTarget_85 rfl ?_
        exact z_ireturn dX3_isPlacedAsTarget_86 rfl (nar01 (by decide)) (hP _ _ _ hw hW)
    · have hw := hw.2 h7
      refine z_iconst (v := Int32.ofInt 0) dX3_isPlacedAsTarget_42 rfl ?_
      exact z_ireturn dX3_isPlacedAsTarget_43 rfl (nar01 (by decide)) (hP _ _ _ hw hW)
  · have hw := hw.2 h3
    refine z_aload_n dX3_isPlacedAsTarget_14 rfl rfl ?_
    refine z_iload_n dX3_isPlacedAsTarget_15 rfl rfl ?_
    refine z_iconst (v := Int32.ofInt 4) dX3_isPlacedAsTarget_16 rfl ?_
    refine z_iload_n dX3_isPlacedAsTarget_17 rfl rfl ?_
    refine z_iload_n dX3_isPlacedAsTarget_18 rfl rfl ?_
    have hX := lX3_takesRole 0 (Nat.le_refl _) hm hT hS hU hW g1 ⟨by decide, by decide⟩ g2 g3 hw
    refine z_callV (As := [_, _, _, _]) eX3_takesRole sX3_takesRole lX3_118 rfl dX3_isPlacedAsTarget_19 (hW.at (hU 230 _ rfl)) hX (Nat.le_trans (by decide) hd) rfl (Nat.le_of_ble_eq_true rfl) (fun r cs hp => ?_)
    obtain ⟨r30, S29, rfl, hw, hW⟩ := hp
    refine z_st (st' := []) rfl ?_
    refine z_iconst (v := Int32.ofInt 1) dX3_isPlacedAsTarget_22 rfl ?_
    exact z_ireturn dX3_isPlacedAsTarget_23 rfl (nar01 (by decide)) (hP _ _ _ hw hW)

def wX4_fieldNamed_45  (l1 l2 l4 l5 l6 : Int) (S : St) (K : Int → St → Prop) (B3 : Int → Int → Int → Int → Int → St → Prop) : Prop := B3 (l1) (l2) (l4) (l5) ((l6 + 1)) S
set_option maxRecDepth 100000 in
set_option maxHeartbeats 4000000 in
theorem ubX4_fieldNamed_45 {G : xG} {v : Nat → Nat} {sh : Nat → Option Sh} {B : Nat × Nat} {c0 : List va_E} {d : Nat} {Post : xP} {l1 l2 l4 l5 l6 : Int} {S : St} {cs : List va_E} {K : Int → St → Prop} {B3 : Int → Int → Int → Int → Int → St → Prop} (hd : 2 ≤ d) (hT : sb shC sh) (hS : ∀ b x, sh b = some x → ¬ isS b) (hW : Wv G v sh B c0 S cs) (hP : ∀ (x : Int) (S : St) (cs : List va_E), K x S → Wv G v sh B c0 S cs → Post (some (.int (Int32.ofInt x))) cs) (hB3 : ∀ (l1 : Int) (l2 : Int) (l4 : Int) (l5 : Int) (l6 : Int) (S : St) (cs : List va_E), B3 l1 l2 l4 l5 l6 S → Wv G v sh B c0 S cs → Z (RX4, cX4_fieldNamed, 7, some .int, false) G d Post 3 [(0, .ref (G.1 + v 24)), (1, .int (Int32.ofInt (l1))), (2, .int (Int32.ofInt (l2))), (3, .ref (G.1 + v 1)), (4, .int (Int32.ofInt (l4))), (5, .int (Int32.ofInt (l5))), (6, .int (Int32.ofInt (l6)))] [] cs) (hw : wX4_fieldNamed_45 l1 l2 l4 l5 l6 S K B3) : Z (RX4, cX4_fieldNamed, 7, some .int, false) G d Post 45 [(0, .ref (G.1 + v 24)), (1, .int (Int32.ofInt (l1))), (2, .int (Int32.ofInt (l2))), (3, .ref (G.1 + v 1)), (4, .int (Int32.ofInt (l4))), (5, .int (Int32.ofInt (l5))), (6, .int (Int32.ofInt (l6)))] [] cs := by
  unfold wX4_fieldNamed_45 at hw
  refine i_iinc (l := l6) dX4_fieldNamed_45 rfl (by decide) ?_
  refine z_loc (L' := [(0, .ref (G.1 + v 24)), (1, .int (Int32.ofInt (l1))), (2, .int (Int32.ofInt (l2))), (3, .ref (G.1 + v 1)), (4, .int (Int32.ofInt (l4))), (5, .int (Int32.ofInt (l5))), (6, .int (Int32.ofInt ((l6 + 1))))]) (List.forall_mem_cons.mpr ⟨rfl, (List.forall_mem_cons.mpr ⟨rfl, (List.forall_mem_cons.mpr ⟨rfl, (List.forall_mem_cons.mpr ⟨rfl, (List.forall_mem_cons.mpr ⟨rfl, (List.forall_mem_cons.mpr ⟨rfl, (List.forall_mem_cons.mpr ⟨rfl, (fun _ h => nomatch h)⟩)⟩)⟩)⟩)⟩)⟩)⟩) ?_
  refine z_goto (tgt := 3) dX4_fieldNamed_48 (by decide) ?_
  refine z_loc (L' := [(0, .ref (G.1 + v 24)), (1, .int (Int32.ofInt (l1))), (2, .int (Int32.ofInt (l2))), (3, .ref (G.1 + v 1)), (4, .int (Int32.ofInt (l4))), (5, .int (Int32.ofInt (l5))), (6, .int (Int32.ofInt ((l6 + 1))))]) (List.forall_mem_cons.mpr ⟨rfl, (List.forall_mem_cons.mpr ⟨rfl, (List.forall_mem_cons.mpr ⟨rfl, (List.forall_mem_cons.mpr ⟨rfl, (List.forall_mem_cons.mpr ⟨rfl, (List.forall_mem_cons.mpr ⟨rfl, (List.forall_mem_cons.mpr ⟨rfl, (fun _ h => nomatch h)⟩)⟩)⟩)⟩)⟩)⟩)⟩) ?_
  exact hB3 _ _ _ _ _ _ _ hw hW
def wX4_fieldNamed_3'  (l1 l2 l4 l5 l6 : Int) (S : St) (K : Int → St → Prop) (B3 : Int → Int → Int → Int → Int → St → Prop) : Prop := (rng (l1) ∧ (wX4_fieldCount (l1) S (fun r2 S1 => (rng (l6) ∧ (rng (r2) ∧ ((r2 ≤ l6 → K ((-1)) S1) ∧ ((¬ (r2 ≤ l6)) → (wX4_isAttribute (l1) (l6) S1 (fun r8 S7 => (rng (r8) ∧ (rng (l2) ∧ ((¬ r8 = l2 → wX4_fieldNamed_45 (l1) (l2) (l4) (l5) (l6) S7 K B3) ∧ ((¬ (¬ r8 = l2)) → (wX4_fieldName (l1) (l6) S7 (fun r13 S12 => (rng (r13) ∧ (rng (l4) ∧ (rng (l5) ∧ (wX4_spells (r13) (l4) (l5) S12 (fun r15 S14 => (rng (r15) ∧ ((r15 = 0 → wX4_fieldNamed_45 (l1) (l2) (l4) (l5) (l6) S14 K B3) ∧ ((¬ (r15 = 0)) → K (l6) S14)))))))))))))))))))))))
set_option maxRecDepth 100000 in
set_option maxHeartbeats 4000000 in
theorem ubX4_fieldNamed_3' {G : xG} {v : Nat → Nat} {sh : Nat → Option Sh} {B : Nat × Nat} {c0 : List va_E} {d : Nat} {Post : xP} {l1 l2 l4 l5 l6 : Int} {S : St} {cs : List va_E} {K : Int → St → Prop} {B3 : Int → Int → Int → Int → Int → St → Prop} (hd : 2 ≤ d) (hT : sb shC sh) (hS : ∀ b x, sh b = some x → ¬ isS b) (hW : Wv G v sh B c0 S cs) (hP : ∀ (x : Int) (S : St) (cs : List va_E), K x S → Wv G v sh B c0 S cs → Post (some (.int (Int32.ofInt x))) cs) (hB3 : ∀ (l1 : Int) (l2 : Int) (l4 : Int) (l5 : Int) (l6 : Int) (S : St) (cs : List va_E), B3 l1 l2 l4 l5 l6 S → Wv G v sh B c0 S cs → Z (RX4, cX4_fieldNamed, 7, some .int, false) G d Post 3 [(0, .ref (G.1 + v 24)), (1, .int (Int32.ofInt (l1))), (2, .int (Int32.ofInt (l2))), (3, .ref (G.1 + v 1)), (4, .int (Int32.ofInt (l4))), (5, .int (Int32.ofInt (l5))), (6, .int (Int32.ofInt (l6)))] [] cs) (hw : wX4_fieldNamed_3' l1 l2 l4 l5 l6 S K B3) : Z (RX4, cX4_fieldNamed, 7, some .int, false) G d Post 3 [(0, .ref (G.1 + v 24)), (1, .int (Int32.ofInt (l1))), (2, .int (Int32.ofInt (l2))), (3, .ref (G.1 + v 1)), (4, .int (Int32.ofInt (l4))), (5, .int (Int32.ofInt (l5))), (6, .int (Int32.ofInt (l6)))] [] cs := by
  unfold wX4_fieldNamed_3' at hw
  refine z_iload dX4_fieldNamed_3 rfl ?_
  refine z_aload_n dX4_fieldNamed_5 rfl rfl ?_
  refine z_iload_n dX4_fieldNamed_6 rfl rfl ?_
  obtain ⟨q3, hw⟩ := hw
  have hX := lX4_fieldCount 1 (Nat.le_refl _) hT hS hW q3 hw
  refine z_callV (As := [_]) eX4_fieldCount sX4_fieldCount lX4_77 rfl dX4_fieldNamed_7 (hW.at (hT 24 _ rfl)) hX (Nat.le_trans (by decide) hd) rfl (Nat.le_of_ble_eq_true rfl) (fun r cs hp => ?_)
  obtain ⟨r2, S1, rfl, hw, hW⟩ := hp
  refine z_st (st' := [.int (Int32.ofInt (r2)), .int (Int32.ofInt (l6))]) rfl ?_
  obtain ⟨q5, hw⟩ := hw
  obtain ⟨q6, hw⟩ := hw
  refine i_icmp_ge (tgt := 51) dX4_fieldNamed_10 (by decide) q5 q6 (fun h4 => ?_) (fun h4 => ?_)
  · have hw := hw.1 h4
    refine z_iconst (v := Int32.ofInt (-1)) dX4_fieldNamed_51 rfl ?_
    exact z_ireturn dX4_fieldNamed_52 rfl rfl (hP _ _ _ hw hW)
  · have hw := hw.2 h4
    refine z_aload_n dX4_fieldNamed_13 rfl rfl ?_
    refine z_iload_n dX4_fieldNamed_14 rfl rfl ?_
    refine z_iload dX4_fieldNamed_15 rfl ?_
    have hX := lX4_isAttribute 1 (Nat.le_refl _) hT hS hW q3 q5 hw
    refine z_callV (As := [_, _]) eX4_isAttribute sX4_isAttribute lX4_80 rfl dX4_fieldNamed_17 (hW.at (hT 24 _ rfl)) hX (Nat.le_trans (by decide) hd) rfl (Nat.le_of_ble_eq_true rfl) (fun r cs hp => ?_)
    obtain ⟨r8, S7, rfl, hw, hW⟩ := hp
    refine z_st (st' := [.int (Int32.ofInt (r8))]) rfl ?_
    refine z_iload_n dX4_fieldNamed_20 rfl rfl ?_
    obtain ⟨q10, hw⟩ := hw
    obtain ⟨q11, hw⟩ := hw
    refine i_icmp_ne (tgt := 45) dX4_fieldNamed_21 (by decide) q10 q11 (fun h9 => ?_) (fun h9 => ?_)
    · have hw := hw.1 h9
      refine z_loc (L' := [(0, .ref (G.1 + v 24)), (1, .int (Int32.ofInt (l1))), (2, .int (Int32.ofInt (l2))), (3, .ref (G.1 + v 1)), (4, .int (Int32.ofInt (l4))), (5, .int (Int32.ofInt (l5))), (6, .int (Int32.ofInt (l6)))]) (List.forall_mem_cons.mpr ⟨rfl, (List.forall_mem_cons.mpr ⟨rfl, (List.forall_mem_cons.mpr ⟨rfl, (List.forall_mem_cons.mpr ⟨rfl, (List.forall_mem_cons.mpr ⟨rfl, (List.forall_mem_cons.mpr ⟨rfl, (List.forall_mem_cons.mpr ⟨rfl, (fun _ h => nomatch h)⟩)⟩)⟩)⟩)⟩)⟩)⟩) ?_
      exact ubX4_fieldNamed_45 hd hT hS hW hP hB3 hw
    · have hw := hw.2 h9
      refine z_aload_n dX4_fieldNamed_24 rfl rfl ?_
      refine z_iload_n dX4_fieldNamed_25 rfl rfl ?_
      refine z_iload dX4_fieldNamed_26 rfl ?_
      have hX := lX4_fieldName 0 (Nat.le_refl _) hT hS hW q3 q5 hw
      refine z_callS (As := [_, _]) eX4_fieldName sX4_fieldName lX4_58 dX4_fieldNamed_28 hX (Nat.le_trans (by decide) hd) rfl (Nat.le_of_ble_eq_true rfl) (fun r cs hp => ?_)
      obtain ⟨r13, S12, rfl, hw, hW⟩ := hp
      refine z_st (st' := [.int (Int32.ofInt (r13)), .ref (G.1 + v 24)]) rfl ?_
      refine z_aload_n dX4_fieldNamed_31 rfl rfl ?_
      refine z_iload dX4_fieldNamed_32 rfl ?_
      refine z_iload dX4_fieldNamed_34 rfl ?_
      obtain ⟨q16, hw⟩ := hw
      obtain ⟨q17, hw⟩ := hw
      obtain ⟨q18, hw⟩ := hw
      have hX := lX4_spells 1 (Nat.le_refl _) hT hS hW q16 q17 q18 hw
      refine z_callV (As := [_, _, _, _]) eX4_spells sX4_spells lX4_73 rfl dX4_fieldNamed_36 (hW.at (hT 24 _ rfl)) hX (Nat.le_trans (by decide) hd) rfl (Nat.le_of_ble_eq_true rfl) (fun r cs hp => ?_)
      obtain ⟨r15, S14, rfl, hw, hW⟩ := hp
      refine z_st (st' := [.int (Int32.ofInt (r15))]) rfl ?_
      obtain ⟨q20, hw⟩ := hw
      refine i_if_eq (tgt := 45) dX4_fieldNamed_39 (by decide) q20 (fun h19 => ?_) (fun h19 => ?_)
      · have hw := hw.1 h19
        refine z_loc (L' := [(0, .ref (G.1 + v 24)), (1, .int (Int32.ofInt (l1))), (2, .int (Int32.ofInt (l2))), (3, .ref (G.1 + v 1)), (4, .int (Int32.ofInt (l4))), (5, .int (Int32.ofInt (l5))), (6, .int (Int32.ofInt (l6)))]) (List.forall_mem_cons.mpr ⟨rfl, (List.forall_mem_cons.mpr ⟨rfl, (List.forall_mem_cons.mpr ⟨rfl, (List.forall_mem_cons.mpr ⟨rfl, (List.forall_mem_cons.mpr ⟨rfl, (List.forall_mem_cons.mpr ⟨rfl, (List.forall_mem_cons.mpr ⟨rfl, (fun _ h => nomatch h)⟩)⟩)⟩)⟩)⟩)⟩)⟩) ?_
        exact ubX4_fieldNamed_45 hd hT hS hW hP hB3 hw
      · have hw := hw.2 h19
        refine z_iload dX4_fieldNamed_42 rfl ?_
        exact z_ireturn dX4_fieldNamed_44 rfl rfl (hP _ _ _ hw hW)
def wX4_fieldNamed_3  (l1 l2 l4 l5 l6 : Int) (S : St) (K : Int → St → Prop) : Prop := ∃ (Iv : Int → Int → Int → Int → Int → St → Prop) (mu : Int → Int → Int → Int → Int → St → Nat), Iv l1 l2 l4 l5 l6 S ∧ ∀ (l1 l2 l4 l5 l6 : Int) (S : St), Iv l1 l2 l4 l5 l6 S → wX4_fieldNamed_3' l1 l2 l4 l5 l6 S K  (fun ml1 ml2 ml4 ml5 ml6 T => Iv ml1 ml2 ml4 ml5 ml6 T ∧ mu ml1 ml2 ml4 ml5 ml6 T < mu l1 l2 l4 l5 l6 S)
set_option maxRecDepth 100000 in
set_option maxHeartbeats 4000000 in
theorem ubX4_fieldNamed_3 {G : xG} {v : Nat → Nat} {sh : Nat → Option Sh} {B : Nat × Nat} {c0 : List va_E} {d : Nat} {Post : xP} {l1 l2 l4 l5 l6 : Int} {S : St} {cs : List va_E} {K : Int → St → Prop} (hd : 2 ≤ d) (hT : sb shC sh) (hS : ∀ b x, sh b = some x → ¬ isS b) (hW : Wv G v sh B c0 S cs) (hP : ∀ (x : Int) (S : St) (cs : List va_E), K x S → Wv G v sh B c0 S cs → Post (some (.int (Int32.ofInt x))) cs)  (hw : wX4_fieldNamed_3 l1 l2 l4 l5 l6 S K ) : Z (RX4, cX4_fieldNamed, 7, some .int, false) G d Post 3 [(0, .ref (G.1 + v 24)), (1, .int (Int32.ofInt (l1))), (2, .int (Int32.ofInt (l2))), (3, .ref (G.1 + v 1)), (4, .int (Int32.ofInt (l4))), (5, .int (Int32.ofInt (l5))), (6, .int (Int32.ofInt (l6)))] [] cs := by
  unfold wX4_fieldNamed_3 at hw
  obtain ⟨Iv, mu, h0, hs⟩ := hw
  have key : ∀ (n : Nat) (l1 l2 l4 l5 l6 : Int) (S : St) (cs : List va_E), mu l1 l2 l4 l5 l6 S < n → Iv l1 l2 l4 l5 l6 S → Wv G v sh B c0 S cs → Z (RX4, cX4_fieldNamed, 7, some .int, false) G d Post 3 [(0, .ref (G.1 + v 24)), (1, .int (Int32.ofInt (l1))), (2, .int (Int32.ofInt (l2))), (3, .ref (G.1 + v 1)), (4, .int (Int32.ofInt (l4))), (5, .int (Int32.ofInt (l5))), (6, .int (Int32.ofInt (l6)))] [] cs := by
    intro n
    induction n with
    | zero => intro l1 l2 l4 l5 l6 S cs hn; exact absurd hn (Nat.not_lt_zero _)
    | succ n ih =>
      intro l1 l2 l4 l5 l6 S cs hn hI hW
      exact ubX4_fieldNamed_3' hd hT hS hW hP  (fun l1 l2 l4 l5 l6 S cs hb hW => ih l1 l2 l4 l5 l6 S cs (Nat.lt_of_lt_of_le hb.2 (Nat.le_of_lt_succ hn)) hb.1 hW) (hs l1 l2 l4 l5 l6 S hI)
  exact key _ _ _ _ _ _ _ _ (Nat.lt_succ_self _) h0 hW
def wX4_fieldNamed  (a1 a2 a3 a4 : Int) (S : St) (K : Int → St → Prop) : Prop := rng a1 → rng a2 → rng a3 → rng a4 → wX4_fieldNamed_3 (a1) (a2) (a3) (a4) (0) S K
set_option maxRecDepth 100000 in
set_option maxHeartbeats 4000000 in
theorem lX4_fieldNamed {G : xG} {v : Nat → Nat} {sh : Nat → Option Sh} {B : Nat × Nat} {c0 : List va_E}  {a1 a2 a3 a4 : Int} {S : St} {cs : List va_E} {K : Int → St → Prop} (d : Nat) (hd : 2 ≤ d) (hT : sb shC sh) (hS : ∀ b x, sh b = some x → ¬ isS b) (hW : Wv G v sh B c0 S cs) (g1 : rng a1) (g2 : rng a2) (g3 : rng a3) (g4 : rng a4) (hw : wX4_fieldNamed a1 a2 a3 a4 S K) : X G yX4_fieldNamed cX4_fieldNamed 7 (some .int) d [.ref (G.1 + v 24), .int (Int32.ofInt a1), .int (Int32.ofInt a2), .ref (G.1 + v 1), .int (Int32.ofInt a3), .int (Int32.ofInt a4)] cs (vI G v sh B c0 K) := by
  refine X.of false (by decide +kernel) (by decide) (Nat.le_of_ble_eq_true rfl) ?_
  show Z (RX4, cX4_fieldNamed, 7, some .int, false) G d _ 0 [(0, .ref (G.1 + v 24)), (1, .int (Int32.ofInt a1)), (2, .int (Int32.ofInt a2)), (3, .ref (G.1 + v 1)), (4, .int (Int32.ofInt a3)), (5, .int (Int32.ofInt a4))] [] cs
  have hP : ∀ (x : Int) (S : St) (cs : List va_E), K x S → Wv G v sh B c0 S cs → vI G v sh B c0 K (some (.int (Int32.ofInt x))) cs := fun x S cs a b => ⟨x, S, rfl, a, b⟩
  unfold wX4_fieldNamed at hw
  have hw := hw g1 g2 g3 g4
  refine z_iconst (v := Int32.ofInt 0) dX4_fieldNamed_0 rfl ?_
  refine z_istore dX4_fieldNamed_1 (by decide) ?_
  refine z_loc (L' := [(0, .ref (G.1 + v 24)), (1, .int (Int32.ofInt (a1))), (2, .int (Int32.ofInt (a2))), (3, .ref (G.1 + v 1)), (4, .int (Int32.ofInt (a3))), (5, .int (Int32.ofInt (a4))), (6, .int (Int32.ofInt (0)))]) (List.forall_mem_cons.mpr ⟨rfl, (List.forall_mem_cons.mpr ⟨rfl, (List.forall_mem_cons.mpr ⟨rfl, (List.forall_mem_cons.mpr ⟨rfl, (List.forall_mem_cons.mpr ⟨rfl, (List.forall_mem_cons.mpr ⟨rfl, (List.forall_mem_cons.mpr ⟨rfl, (fun _ h => nomatch h)⟩)⟩)⟩)⟩)⟩)⟩)⟩) ?_
  refine z_loc (L' := [(0, .ref (G.1 + v 24)), (1, .int (Int32.ofInt (a1))), (2, .int (Int32.ofInt (a2))), (3, .ref (G.1 + v 1)), (4, .int (Int32.ofInt (a3))), (5, .int (Int32.ofInt (a4))), (6, .int (Int32.ofInt (0)))]) (List.forall_mem_cons.mpr ⟨rfl, (List.forall_mem_cons.mpr ⟨rfl, (List.forall_mem_cons.mpr ⟨rfl, (List.forall_mem_cons.mpr ⟨rfl, (List.forall_mem_cons.mpr ⟨rfl, (List.forall_mem_cons.mpr ⟨rfl, (List.forall_mem_cons.mpr ⟨rfl, (fun _ h => nomatch h)⟩)⟩)⟩)⟩)⟩)⟩)⟩) ?_
  exact ubX4_fieldNamed_3 hd hT hS hW hP  hw

def wX3_isPlacedInObject_157 (m : Nat)  (l2 l4 s0 s1 : Int) (S : St) (K : Int → St → Prop) : Prop := (rng (s1) ∧ (rng (s0) ∧ (rng (l2) ∧ (rng (l4) ∧ (wX3_takesRole m (s1) (s0) (l2) (l4) S (fun r2 S1 => K (1) S1))))))
set_option maxRecDepth 100000 in
set_option maxHeartbeats 4000000 in
theorem ubX3_isPlacedInObject_157 {G : xG} {v : Nat → Nat} {sh : Nat → Option Sh} {B : Nat × Nat} {c0 : List va_E} {m : Nat} {d : Nat} {Post : xP} {l2 l4 s0 s1 : Int} {S : St} {cs : List va_E} {K : Int → St → Prop} (hd : 7 ≤ d) (hm : m ≤ 200) (hT : sb shC sh) (hS : ∀ b x, sh b = some x → ¬ isS b) (hU : sb (shMe m) sh) (hW : Wv G v sh B c0 S cs) (hP : ∀ (x : Int) (S : St) (cs : List va_E), K x S → Wv G v sh B c0 S cs → Post (some (.int (Int32.ofInt x))) cs)  (hw : wX3_isPlacedInObject_157 m l2 l4 s0 s1 S K ) : Z (RX3, cX3_isPlacedInObject, 6, some .boolean, false) G d Post 157 [(0, .ref (G.1 + v 230)), (2, .int (Int32.ofInt (l2))), (4, .int (Int32.ofInt (l4)))] [.int (Int32.ofInt (s0)), .int (Int32.ofInt (s1)), .ref (G.1 + v 230)] cs := by
  unfold wX3_isPlacedInObject_157 at hw
  refine z_iload_n dX3_isPlacedInObject_157 rfl rfl ?_
  refine z_iload dX3_isPlacedInObject_158 rfl ?_
  obtain ⟨q3, hw⟩ := hw
  obtain ⟨q4, hw⟩ := hw
  obtain ⟨q5, hw⟩ := hw
  obtain ⟨q6, hw⟩ := hw
  have hX := lX3_takesRole 0 (Nat.le_refl _) hm hT hS hU hW q3 q4 q5 q6 hw
  refine z_callV (As := [_, _, _, _]) eX3_takesRole sX3_takesRole lX3_118 rfl dX3_isPlacedInObject_160 (hW.at (hU 230 _ rfl)) hX (Nat.le_trans (by decide) hd) rfl (Nat.le_of_ble_eq_true rfl) (fun r cs hp => ?_)
  obtain ⟨r2, S1, rfl, hw, hW⟩ := hp
  refine z_st (st' := []) rfl ?_
  refine z_iconst (v := Int32.ofInt 1) dX3_isPlacedInObject_163 rfl ?_
  exact z_ireturn dX3_isPlacedInObject_164 rfl (nar01 (by decide)) (hP _ _ _ hw hW)
def wX3_isPlacedInObject_71 (m : Nat)  (l1 l2 l3 l4 l5 : Int) (S : St) (K : Int → St → Prop) : Prop := (rng (l4) ∧ ((l4 = (-1) → K (0) S) ∧ ((¬ (l4 = (-1))) → (rng (l5) ∧ ((l4 = l5 → K (0) S) ∧ ((¬ (l4 = l5)) → ((0 : Int) ≤ l2 ∧ l2 < (30 : Int) ∧ (iv (-2147483648) 2147483647 (S.2 236 (l2)) → (((bnd ((bsr (S.2 236 (l2)) (l4))) (1)) = 0 → ((0 : Int) ≤ l2 ∧ l2 < (30 : Int) ∧ (iv (-2147483648) 2147483647 (S.2 236 (l2)) → ((0 : Int) ≤ l2 ∧ l2 < (30 : Int) ∧ (iv (-2147483648) 2147483647 ((bor (S.2 236 (l2)) ((bsl (1) (l4))))) ∧ (∀ S11, S11 = pA S 236 (l2) ((bor (S.2 236 (l2)) ((bsl (1) (l4))))) → (rng (l3) ∧ (wX4_shape (l3) (l4) S11 (fun r14 S13 => (rng (r14) ∧ ((¬ r14 = 3 → (wX4_shape (l3) (l4) S13 (fun r19 S18 => (rng (r19) ∧ ((¬ r19 = 4 → wX3_isPlacedInObject_157 m (l2) (l4) (3) (l1) S18 K) ∧ ((¬ (¬ r19 = 4)) → wX3_isPlacedInObject_157 m (l2) (l4) (2) (l1) S18 K)))))) ∧ ((¬ (¬ r14 = 3)) → (rng (l1) ∧ (rng (l2) ∧ (wX3_isPlacedAsTarget m (l1) (l2) (l4) S13 (fun r23 S22 => (iv 0 1 (r23) ∧ K (r23) S22))))))))))))))))) ∧ ((¬ ((bnd ((bsr (S.2 236 (l2)) (l4))) (1)) = 0)) → K (0) S))))))))))
set_option maxRecDepth 100000 in
set_option maxHeartbeats 4000000 in
theorem ubX3_isPlacedInObject_71 {G : xG} {v : Nat → Nat} {sh : Nat → Option Sh} {B : Nat × Nat} {c0 : List va_E} {m : Nat} {d : Nat} {Post : xP} {l1 l2 l3 l4 l5 : Int} {S : St} {cs : List va_E} {K : Int → St → Prop} (hd : 7 ≤ d) (hm : m ≤ 200) (hT : sb shC sh) (hS : ∀ b x, sh b = some x → ¬ isS b) (hU : sb (shMe m) sh) (hW : Wv G v sh B c0 S cs) (hP : ∀ (x : Int) (S : St) (cs : List va_E), K x S → Wv G v sh B c0 S cs → Post (some (.int (Int32.ofInt x))) cs)  (hw : wX3_isPlacedInObject_71 m l1 l2 l3 l4 l5 S K ) : Z (RX3, cX3_isPlacedInObject, 6, some .boolean, false) G d Post 71 [(0, .ref (G.1 + v 230)), (1, .int (Int32.ofInt (l1))), (2, .int (Int32.ofInt (l2))), (3, .int (Int32.ofInt (l3))), (4, .int (Int32.ofInt (l4))), (5, .int (Int32.ofInt (l5)))] [] cs := by
  unfold wX3_isPlacedInObject_71 at hw
  refine z_iload dX3_isPlacedInObject_71 rfl ?_
  refine z_iconst (v := Int32.ofInt (-1)) dX3_isPlacedInObject_73 rfl ?_
  obtain ⟨q2, hw⟩ := hw
  refine i_icmp_eq (tgt := 98) dX3_isPlacedInObject_74 (by decide) q2 ⟨by decide, by decide⟩ (fun h1 => ?_) (fun h1 => ?_)
  · have hw := hw.1 h1
    refine z_iconst (v := Int32.ofInt 0) dX3_isPlacedInObject_98 rfl ?_
    exact z_ireturn dX3_isPlacedInObject_99 rfl (nar01 (by decide)) (hP _ _ _ hw hW)
  · have hw := hw.2 h1
    refine z_iload dX3_isPlacedInObject_77 rfl ?_
    refine z_iload dX3_isPlacedInObject_79 rfl ?_
    obtain ⟨q4, hw⟩ := hw
    refine i_icmp_eq (tgt := 98) dX3_isPlacedInObject_81 (by decide) q2 q4 (fun h3 => ?_) (fun h3 => ?_)
    · have hw := hw.1 h3
      refine z_iconst (v := Int32.ofInt 0) dX3_isPlacedInObject_98 rfl ?_
      exact z_ireturn dX3_isPlacedInObject_99 rfl (nar01 (by decide)) (hP _ _ _ hw hW)
    · have hw := hw.2 h3
      refine z_aload_n dX3_isPlacedInObject_84 rfl rfl ?_
      refine v_getR hW (hU 230 _ rfl) rfl kX3 fX3_9 dX3_isPlacedInObject_85 ?_
      refine z_iload_n dX3_isPlacedInObject_88 rfl rfl ?_
      obtain ⟨q5a, q5b, hw⟩ := hw
      have q6 : iv (-2147483648) 2147483647 (S.2 236 (l2)) := hW.iA 236 _
      have hw := hw q6
      refine v_iald hW (hU 236 _ rfl) q5a q5b (by decide) dX3_isPlacedInObject_89 ?_
      refine z_iload dX3_isPlacedInObject_90 rfl ?_
      refine v_ishr dX3_isPlacedInObject_92 ?_
      refine z_iconst (v := Int32.ofInt 1) dX3_isPlacedInObject_93 rfl ?_
      refine v_iand dX3_isPlacedInObject_94 ?_
      refine i_if_eq (tgt := 100) dX3_isPlacedInObject_95 (by decide) (rng_of _) (fun h7 => ?_) (fun h7 => ?_)
      · have hw := hw.1 h7
        refine z_aload_n dX3_isPlacedInObject_100 rfl rfl ?_
        refine v_getR hW (hU 230 _ rfl) rfl kX3 fX3_9 dX3_isPlacedInObject_101 ?_
        refine z_iload_n dX3_isPlacedInObject_104 rfl rfl ?_
        refine z_dup2 dX3_isPlacedInObject_105 rfl rfl ?_
        obtain ⟨q8a, q8b, hw⟩ := hw
        have q9 : iv (-2147483648) 2147483647 (S.2 236 (l2)) := hW.iA 236 _
        have hw := hw q9
        refine v_iald hW (hU 236 _ rfl) q8a q8b (by decide) dX3_isPlacedInObject_106 ?_
        refine z_iconst (v := Int32.ofInt 1) dX3_isPlacedInObject_107 rfl ?_
        refine z_iload dX3_isPlacedInObject_108 rfl ?_
        refine v_ishl dX3_isPlacedInObject_110 ?_
        refine v_ior dX3_isPlacedInObject_111 ?_
        obtain ⟨q10a, q10b, hw⟩ := hw
        obtain ⟨q12, hw⟩ := hw
        refine v_iast hW (hU 236 _ rfl) (by decide) (by unfold isS; decide) q10a q10b (by decide) q12 dX3_isPlacedInObject_112 (fun cs hW => ?_)
        obtain ⟨S11, hS11⟩ : ∃ x, x = pA S 236 (l2) ((bor (S.2 236 (l2)) ((bsl (1) (l4))))) := ⟨_, rfl⟩
        rw [← hS11] at hW
        have hw := hw S11 hS11
        refine z_aload_n dX3_isPlacedInObject_113 rfl rfl ?_
        refine v_getR hW (hU 230 _ rfl) rfl kX3 fX3_15 dX3_isPlacedInObject_114 ?_
        refine z_iload_n dX3_isPlacedInObject_117 rfl rfl ?_
        refine z_iload dX3_isPlacedInObject_118 rfl ?_
        obtain ⟨q15, hw⟩ := hw
        have hX := lX4_shape 1 (Nat.le_refl _) hT hS hW q15 q2 hw
        refine z_callV (As := [_, _]) eX4_shape sX4_shape lX3_132 rfl dX3_isPlacedInObject_120 (hW.at (hT 24 _ rfl)) hX (Nat.le_trans (by decide) hd) rfl (Nat.le_of_ble_eq_true rfl) (fun r cs hp => ?_)
        obtain ⟨r14, S13, rfl, hw, hW⟩ := hp
        refine z_st (st' := [.int (Int32.ofInt (r14))]) rfl ?_
        refine z_iconst (v := Int32.ofInt 3) dX3_isPlacedInObject_123 rfl ?_
        obtain ⟨q17, hw⟩ := hw
        refine i_icmp_ne (tgt := 136) dX3_isPlacedInObject_124 (by decide) q17 ⟨by decide, by decide⟩ (fun h16 => ?_) (fun h16 => ?_)
        · have hw := hw.1 h16
          refine z_aload_n dX3_isPlacedInObject_136 rfl rfl ?_
          refine z_iload_n dX3_isPlacedInObject_137 rfl rfl ?_
          refine z_aload_n dX3_isPlacedInObject_138 rfl rfl ?_
          refine v_getR hW (hU 230 _ rfl) rfl kX3 fX3_15 dX3_isPlacedInObject_139 ?_
          refine z_iload_n dX3_isPlacedInObject_142 rfl rfl ?_
          refine z_iload dX3_isPlacedInObject_143 rfl ?_
          have hX := lX4_shape 1 (Nat.le_refl _) hT hS hW q15 q2 hw
          refine z_callV (As := [_, _]) eX4_shape sX4_shape lX3_132 rfl dX3_isPlacedInObject_145 (hW.at (hT 24 _ rfl)) hX (Nat.le_trans (by decide) hd) rfl (Nat.le_of_ble_eq_true rfl) (fun r cs hp => ?_)
          obtain ⟨r19, S18, rfl, hw, hW⟩ := hp
          refine z_st (st' := [.int (Int32.ofInt (r19)), .int (Int32.ofInt (l1)), .ref (G.1 + v 230)]) rfl ?_
          refine z_iconst (v := Int32.ofInt 4) dX3_isPlacedInObject_148 rfl ?_
          obtain ⟨q21, hw⟩ := hw
          refine i_icmp_ne (tgt := 156) dX3_isPlacedInObject_149 (by decide) q21 ⟨by decide, by decide⟩ (fun h20 => ?_) (fun h20 => ?_)
          · have hw := hw.1 h20
            refine z_iconst (v := Int32.ofInt 3) dX3_isPlacedInObject_156 rfl ?_
            refine z_loc (L' := [(0, .ref (G.1 + v 230)), (2, .int (Int32.ofInt (l2))), (4, .int (Int32.ofInt (l4)))]) (List.forall_mem_cons.mpr ⟨rfl, (List.forall_mem_cons.mpr ⟨rfl, (List.forall_mem_cons.mpr ⟨rfl, (fun _ h => nomatch h)⟩)⟩)⟩) ?_
            exact ubX3_isPlacedInObject_157 hd hm hT hS hU hW hP  hw
          · have hw := hw.2 h20
            refine z_iconst (v := Int32.ofInt 2) dX3_isPlacedInObject_152 rfl ?_
            refine z_goto (tgt := 157) dX3_isPlacedInObject_153 (by decide) ?_
            refine z_loc (L' := [(0, .ref (G.1 + v 230)), (2, .int (Int32.ofInt (l2))), (4, .int (Int32.ofInt (l4)))]) (List.forall_mem_cons.mpr ⟨rfl, (List.forall_mem_cons.mpr ⟨rfl, (List.forall_mem_cons.mpr ⟨rfl, (fun _ h => nomatch h)⟩)⟩)⟩) ?_
            exact ubX3_isPlacedInObject_157 hd hm hT hS hU hW hP  hw
        · have hw := hw.2 h16
          refine z_aload_n dX3_isPlacedInObject_127 rfl rfl ?_
          refine z_iload_n dX3_isPlacedInObject_128 rfl rfl ?_
          refine z_iload_n dX3_isPlacedInObject_129 rfl rfl ?_
          refine z_iload dX3_isPlacedInObject_130 rfl ?_
          obtain ⟨q24, hw⟩ := hw
          obtain ⟨q25, hw⟩ := hw
          have hX := lX3_isPlacedAsTarget 6 (Nat.le_refl _) hm hT hS hU hW q24 q25 q2 hw
          refine z_callV (As := [_, _, _]) eX3_isPlacedAsTarget sX3_isPlacedAsTarget lX3_135 rfl dX3_isPlacedInObject_132 (hW.at (hU 230 _ rfl)) hX (Nat.le_trans (by decide) hd) rfl (Nat.le_of_ble_eq_true rfl) (fun r cs hp => ?_)
          obtain ⟨r23, S22, rfl, hw, hW⟩ := hp
          refine z_st (st' := [.int (Int32.ofInt (r23))]) rfl ?_
          obtain ⟨q26, hw⟩ := hw
          exact z_ireturn dX3_isPlacedInObject_135 rfl (nar01 (b01 q26)) (hP _ _ _ hw hW)
      · have hw := hw.2 h7
        refine z_iconst (v := Int32.ofInt 0) dX3_isPlacedInObject_98 rfl ?_
        exact z_ireturn dX3_isPlacedInObject_99 rfl (nar01 (by decide)) (hP _ _ _ hw hW)
def wX3_isPlacedInObject (m : Nat)  (a1 a2 : Int) (S : St) (K : Int → St → Prop) : Prop := rng a1 → rng a2 → (wX1_classOf_b (a2) S (fun r2 S1 => (wX6_nameFrom (a1) S1 (fun r4 S3 => (wX6_nameTo (a1) S3 (fun r6 S5 => (rng (r2) ∧ (rng (r4) ∧ (rng (r6) ∧ (wX4_fieldNamed (r2) (0) (r4) (r6) S5 (fun r8 S7 => (wX4_implicit (r2) S7 (fun r13 S12 => (rng (r8) ∧ ((¬ r8 = (-1) → wX3_isPlacedInObject_71 m (a1) (a2) (r2) (r8) (r13) S12 K) ∧ ((¬ (¬ r8 = (-1))) → (rng (r13) ∧ ((r13 = (-1) → wX3_isPlacedInObject_71 m (a1) (a2) (r2) (r8) (r13) S12 K) ∧ ((¬ (r13 = (-1))) → (wX3_isPlacedInList m (a1) (a2) (r13) S12 (fun r19 S18 => (iv 0 1 (r19) ∧ K (r19) S18))))))))))))))))))))))
set_option maxRecDepth 100000 in
set_option maxHeartbeats 4000000 in
theorem lX3_isPlacedInObject {G : xG} {v : Nat → Nat} {sh : Nat → Option Sh} {B : Nat × Nat} {c0 : List va_E} {m : Nat}  {a1 a2 : Int} {S : St} {cs : List va_E} {K : Int → St → Prop} (d : Nat) (hd : 7 ≤ d) (hm : m ≤ 200) (hT : sb shC sh) (hS : ∀ b x, sh b = some x → ¬ isS b) (hU : sb (shMe m) sh) (hW : Wv G v sh B c0 S cs) (g1 : rng a1) (g2 : rng a2) (hw : wX3_isPlacedInObject m a1 a2 S K) : X G yX3_isPlacedInObject cX3_isPlacedInObject 6 (some .boolean) d [.ref (G.1 + v 230), .int (Int32.ofInt a1), .int (Int32.ofInt a2)] cs (vI G v sh B c0 K) := by
  refine X.of false (by decide +kernel) (by decide) (Nat.le_of_ble_eq_true rfl) ?_
  show Z (RX3, cX3_isPlacedInObject, 6, some .boolean, false) G d _ 0 [(0, .ref (G.1 + v 230)), (1, .int (Int32.ofInt a1)), (2, .int (Int32.ofInt a2))] [] cs
  have hP : ∀ (x : Int) (S : St) (cs : List va_E), K x S → Wv G v sh B c0 S cs → vI G v sh B c0 K (some (.int (Int32.ofInt x))) cs := fun x S cs a b => ⟨x, S, rfl, a, b⟩
  unfold wX3_isPlacedInObject at hw
  have hw := hw g1 g2
  refine z_aload_n dX3_isPlacedInObject_0 rfl rfl ?_
  refine v_getR hW (hU 230 _ rfl) rfl kX3 fX3_37 dX3_isPlacedInObject_1 ?_
  refine z_iload_n dX3_isPlacedInObject_4 rfl rfl ?_
  have hX := lX1_classOf_b 1 (Nat.le_refl _) hT hS hW g2 hw
  refine z_callV (As := [_]) eX1_classOf sX1_classOf lX3_122 rfl dX3_isPlacedInObject_5 (hW.at (hT 50 _ rfl)) hX (Nat.le_trans (by decide) hd) rfl (Nat.le_of_ble_eq_true rfl) (fun r cs hp => ?_)
  obtain ⟨r2, S1, rfl, hw, hW⟩ := hp
  refine z_st (st' := [.int (Int32.ofInt (r2))]) rfl ?_
  refine z_istore_n dX3_isPlacedInObject_8 rfl (by decide) ?_
  refine z_loc (L' := [(0, .ref (G.1 + v 230)), (1, .int (Int32.ofInt (a1))), (2, .int (Int32.ofInt (a2))), (3, .int (Int32.ofInt (r2)))]) (List.forall_mem_cons.mpr ⟨rfl, (List.forall_mem_cons.mpr ⟨rfl, (List.forall_mem_cons.mpr ⟨rfl, (List.forall_mem_cons.mpr ⟨rfl, (fun _ h => nomatch h)⟩)⟩)⟩)⟩) ?_
  refine z_aload_n dX3_isPlacedInObject_9 rfl rfl ?_
  refine v_getR hW (hU 230 _ rfl) rfl kX3 fX3_15 dX3_isPlacedInObject_10 ?_
  refine z_iload_n dX3_isPlacedInObject_13 rfl rfl ?_
  refine z_iconst (v := Int32.ofInt 0) dX3_isPlacedInObject_14 rfl ?_
  refine z_aload_n dX3_isPlacedInObject_15 rfl rfl ?_
  refine v_getR hW (hU 230 _ rfl) rfl kX3 fX3_29 dX3_isPlacedInObject_16 ?_
  refine z_aload_n dX3_isPlacedInObject_19 rfl rfl ?_
  refine v_getR hW (hU 230 _ rfl) rfl kX3 fX3_19 dX3_isPlacedInObject_20 ?_
  refine z_iload_n dX3_isPlacedInObject_23 rfl rfl ?_
  have hX := lX6_nameFrom 1 (Nat.le_refl _) hT hS (sbt sbX6_X3 hU) hW g1 hw
  refine z_callV (As := [_]) eX6_nameFrom sX6_nameFrom lX3_88 rfl dX3_isPlacedInObject_24 (hW.at (hU 3 _ rfl)) hX (Nat.le_trans (by decide) hd) rfl (Nat.le_of_ble_eq_true rfl) (fun r cs hp => ?_)
  obtain ⟨r4, S3, rfl, hw, hW⟩ := hp
  refine z_st (st' := [.int (Int32.ofInt (r4)), .ref (G.1 + v 1), .int (Int32.ofInt (0)), .int (Int32.ofInt (r2)), .ref (G.1 + v 24)]) rfl ?_
  refine z_aload_n dX3_isPlacedInObject_27 rfl rfl ?_
  refine v_getR hW (hU 230 _ rfl) rfl kX3 fX3_19 dX3_isPlacedInObject_28 ?_
  refine z_iload_n dX3_isPlacedInObject_31 rfl rfl ?_
  have hX := lX6_nameTo 1 (Nat.le_refl _) hT hS (sbt sbX6_X3 hU) hW g1 hw
  refine z_callV (As := [_]) eX6_nameTo sX6_nameTo lX3_91 rfl dX3_isPlacedInObject_32 (hW.at (hU 3 _ rfl)) hX (Nat.le_trans (by decide) hd) rfl (Nat.le_of_ble_eq_true rfl) (fun r cs hp => ?_)
  obtain ⟨r6, S5, rfl, hw, hW⟩ := hp
  refine z_st (st' := [.int (Int32.ofInt (r6)), .int (Int32.ofInt (r4)), .ref (G.1 + v 1), .int (Int32.ofInt (0)), .int (Int32.ofInt (r2)), .ref (G.1 + v 24)]) rfl ?_
  obtain ⟨q9, hw⟩ := hw
  obtain ⟨q10, hw⟩ := hw
  obtain ⟨q11, hw⟩ := hw
  have hX := lX4_fieldNamed 2 (Nat.le_refl _) hT hS hW q9 ⟨by decide, by decide⟩ q10 q11 hw
  refine z_callV (As := [_, _, _, _, _]) eX4_fieldNamed sX4_fieldNamed lX3_125 rfl dX3_isPlacedInObject_35 (hW.at (hT 24 _ rfl)) hX (Nat.le_trans (by decide) hd) rfl (Nat.le_of_ble_eq_true rfl) (fun r cs hp => ?_)
  obtain ⟨r8, S7, rfl, hw, hW⟩ := hp
  refine z_st (st' := [.int (Int32.ofInt (r8))]) rfl ?_
  refine z_istore dX3_isPlacedInObject_38 (by decide) ?_
  refine z_loc (L' := [(0, .ref (G.1 + v 230)), (1, .int (Int32.ofInt (a1))), (2, .int (Int32.ofInt (a2))), (3, .int (Int32.ofInt (r2))), (4, .int (Int32.ofInt (r8)))]) (List.forall_mem_cons.mpr ⟨rfl, (List.forall_mem_cons.mpr ⟨rfl, (List.forall_mem_cons.mpr ⟨rfl, (List.forall_mem_cons.mpr ⟨rfl, (List.forall_mem_cons.mpr ⟨rfl, (fun _ h => nomatch h)⟩)⟩)⟩)⟩)⟩) ?_
  refine z_aload_n dX3_isPlacedInObject_40 rfl rfl ?_
  refine v_getR hW (hU 230 _ rfl) rfl kX3 fX3_15 dX3_isPlacedInObject_41 ?_
  refine z_iload_n dX3_isPlacedInObject_44 rfl rfl ?_
  have hX := lX4_implicit 1 (Nat.le_refl _) hT hS hW q9 hw
  refine z_callV (As := [_]) eX4_implicit sX4_implicit lX3_129 rfl dX3_isPlacedInObject_45 (hW.at (hT 24 _ rfl)) hX (Nat.le_trans (by decide) hd) rfl (Nat.le_of_ble_eq_true rfl) (fun r cs hp => ?_)
  obtain ⟨r13, S12, rfl, hw, hW⟩ := hp
  refine z_st (st' := [.int (Int32.ofInt (r13))]) rfl ?_
  refine z_istore dX3_isPlacedInObject_48 (by decide) ?_
  refine z_loc (L' := [(0, .ref (G.1 + v 230)), (1, .int (Int32.ofInt (a1))), (2, .int (Int32.ofInt (a2))), (3, .int (Int32.ofInt (r2))), (4, .int (Int32.ofInt (r8))), (5, .int (Int32.ofInt (r13)))]) (List.forall_mem_cons.mpr ⟨rfl, (List.forall_mem_cons.mpr ⟨rfl, (List.forall_mem_cons.mpr ⟨rfl, (List.forall_mem_cons.mpr ⟨rfl, (List.forall_mem_cons.mpr ⟨rfl, (List.forall_mem_cons.mpr ⟨rfl, (fun _ h => nomatch h)⟩)⟩)⟩)⟩)⟩)⟩) ?_
  refine z_iload dX3_isPlacedInObject_50 rfl ?_
  refine z_iconst (v := Int32.ofInt (-1)) dX3_isPlacedInObject_52 rfl ?_
  obtain ⟨q15, hw⟩ := hw
  refine i_icmp_ne (tgt := 71) dX3_isPlacedInObject_53 (by decide) q15 ⟨by decide, by decide⟩ (fun h14 => ?_) (fun h14 => ?_)
  · have hw := hw.1 h14
    refine z_loc (L' := [(0, .ref (G.1 + v 230)), (1, .int (Int32.ofInt (a1))), (2, .int (Int32.ofInt (a2))), (3, .int (Int32.ofInt (r2))), (4, .int (Int32.ofInt (r8))), (5, .int (Int32.ofInt (r13)))]) (List.forall_mem_cons.mpr ⟨rfl, (List.forall_mem_cons.mpr ⟨rfl, (List.forall_mem_cons.mpr ⟨rfl, (List.forall_mem_cons.mpr ⟨rfl, (List.forall_mem_cons.mpr ⟨rfl, (List.forall_mem_cons.mpr ⟨rfl, (fun _ h => nomatch h)⟩)⟩)⟩)⟩)⟩)⟩) ?_
    exact ubX3_isPlacedInObject_71 hd hm hT hS hU hW hP  hw
  · have hw := hw.2 h14
    refine z_iload dX3_isPlacedInObject_56 rfl ?_
    refine z_iconst (v := Int32.ofInt (-1)) dX3_isPlacedInObject_58 rfl ?_
    obtain ⟨q17, hw⟩ := hw
    refine i_icmp_eq (tgt := 71) dX3_isPlacedInObject_59 (by decide) q17 ⟨by decide, by decide⟩ (fun h16 => ?_) (fun h16 => ?_)
    · have hw := hw.1 h16
      refine z_loc (L' := [(0, .ref (G.1 + v 230)), (1, .int (Int32.ofInt (a1))), (2, .int (Int32.ofInt (a2))), (3, .int (Int32.ofInt (r2))), (4, .int (Int32.ofInt (r8))), (5, .int (Int32.ofInt (r13)))]) (List.forall_mem_cons.mpr ⟨rfl, (List.forall_mem_cons.mpr ⟨rfl, (List.forall_mem_cons.mpr ⟨rfl, (List.forall_mem_cons.mpr ⟨rfl, (List.forall_mem_cons.mpr ⟨rfl, (List.forall_mem_cons.mpr ⟨rfl, (fun _ h => nomatch h)⟩)⟩)⟩)⟩)⟩)⟩) ?_
      exact ubX3_isPlacedInObject_71 hd hm hT hS hU hW hP  hw
    · have hw := hw.2 h16
      refine z_aload_n dX3_isPlacedInObject_62 rfl rfl ?_
      refine z_iload_n dX3_isPlacedInObject_63 rfl rfl ?_
      refine z_iload_n dX3_isPlacedInObject_64 rfl rfl ?_
      refine z_iload dX3_isPlacedInObject_65 rfl ?_
      have hX := lX3_isPlacedInList 6 (Nat.le_refl _) hm hT hS hU hW g1 g2 q17 hw
      refine z_callV (As := [_, _, _]) eX3_isPlacedInList sX3_isPlacedInList lX3_107 rfl dX3_isPlacedInObject_67 (hW.at (hU 230 _ rfl)) hX (Nat.le_trans (by decide) hd) rfl (Nat.le_of_ble_eq_true rfl) (fun r cs hp => ?_)
      obtain ⟨r19, S18, rfl, hw, hW⟩ := hp
      refine z_st (st' := [.int (Int32.ofInt (r19))]) rfl ?_
      obtain ⟨q20, hw⟩ := hw
      exact z_ireturn dX3_isPlacedInObject_70 rfl (nar01 (b01 q20)) (hP _ _ _ hw hW)

