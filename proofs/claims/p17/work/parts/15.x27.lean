def wX1_head_b  (a1 a2 : Int) (S : St) (K : Int → St → Prop) : Prop := rng a1 → rng a2 → (wX1_hasField_b (a1) (a2) S (fun r2 S1 => (rng (r2) ∧ ((r2 = 0 → K (0) S1) ∧ ((¬ (r2 = 0)) → ((0 : Int) ≤ ((a1 * 4) + a2) ∧ ((a1 * 4) + a2) < (120 : Int) ∧ (iv (-2147483648) 2147483647 (S1.2 52 (((a1 * 4) + a2))) → K (S1.2 52 (((a1 * 4) + a2))) S1)))))))
set_option maxRecDepth 100000 in
set_option maxHeartbeats 4000000 in
theorem lX1_head_b {G : xG} {v : Nat → Nat} {sh : Nat → Option Sh} {B : Nat × Nat} {c0 : List va_E}  {a1 a2 : Int} {S : St} {cs : List va_E} {K : Int → St → Prop} (d : Nat) (hd : 1 ≤ d) (hT : sb shC sh) (hS : ∀ b x, sh b = some x → ¬ isS b) (hW : Wv G v sh B c0 S cs) (g1 : rng a1) (g2 : rng a2) (hw : wX1_head_b a1 a2 S K) : X G yX1_head cX1_head 3 (some .int) d [.ref (G.1 + v 50), .int (Int32.ofInt a1), .int (Int32.ofInt a2)] cs (vI G v sh B c0 K) := by
  refine X.of false (by decide +kernel) (by decide) (Nat.le_of_ble_eq_true rfl) ?_
  show Z (RX1, cX1_head, 3, some .int, false) G d _ 0 [(0, .ref (G.1 + v 50)), (1, .int (Int32.ofInt a1)), (2, .int (Int32.ofInt a2))] [] cs
  have hP : ∀ (x : Int) (S : St) (cs : List va_E), K x S → Wv G v sh B c0 S cs → vI G v sh B c0 K (some (.int (Int32.ofInt x))) cs := fun x S cs a b => ⟨x, S, rfl, a, b⟩
  unfold wX1_head_b at hw
  have hw := hw g1 g2
  refine z_aload_n dX1_head_0 rfl rfl ?_
  refine z_iload_n dX1_head_1 rfl rfl ?_
  refine z_iload_n dX1_head_2 rfl rfl ?_
  have hX := lX1_hasField_b 0 (Nat.le_refl _) hT hS hW g1 g2 hw
  refine z_callV (As := [_, _]) eX1_hasField sX1_hasField lX1_29 rfl dX1_head_3 (hW.at (hT 50 _ rfl)) hX (Nat.le_trans (by decide) hd) rfl (Nat.le_of_ble_eq_true rfl) (fun r cs hp => ?_)
  obtain ⟨r2, S1, rfl, hw, hW⟩ := hp
  refine z_st (st' := [.int (Int32.ofInt (r2))]) rfl ?_
  obtain ⟨q4, hw⟩ := hw
  refine i_if_eq (tgt := 22) dX1_head_6 (by decide) q4 (fun h3 => ?_) (fun h3 => ?_)
  · have hw := hw.1 h3
    refine z_iconst (v := Int32.ofInt 0) dX1_head_22 rfl ?_
    exact z_ireturn dX1_head_23 rfl rfl (hP _ _ _ hw hW)
  · have hw := hw.2 h3
    refine z_aload_n dX1_head_9 rfl rfl ?_
    refine v_getR hW (hT 50 _ rfl) rfl kX1 fX1_15 dX1_head_10 ?_
    refine z_iload_n dX1_head_13 rfl rfl ?_
    refine z_iconst (v := Int32.ofInt 4) dX1_head_14 rfl ?_
    refine i_imul dX1_head_15 ?_
    refine z_iload_n dX1_head_16 rfl rfl ?_
    refine i_iadd dX1_head_17 ?_
    obtain ⟨q5a, q5b, hw⟩ := hw
    have q6 : iv (-2147483648) 2147483647 (S1.2 52 (((a1 * 4) + a2))) := hW.iA 52 _
    have hw := hw q6
    refine v_iald hW (hT 52 _ rfl) q5a q5b (by decide) dX1_head_18 ?_
    refine z_goto (tgt := 23) dX1_head_19 (by decide) ?_
    exact z_ireturn dX1_head_23 rfl rfl (hP _ _ _ hw hW)

def wX1_append_b  (a1 a2 a3 : Int) (S : St) (K : Int → St → Prop) : Prop := rng a1 → rng a2 → rng a3 → (wX1_head_b (a1) (a2) S (fun r2 S1 => (rng (r2) ∧ ((r2 < 8 → (rng ((r2 + 1)) ∧ (wX1_putHead_b (a1) (a2) ((r2 + 1)) S1 (fun r6 S5 => (wX1_putCell_b (a1) (a2) (r2) (a3) S5 (fun r9 S8 => K ((r2 + 1)) S8)))))) ∧ ((¬ (r2 < 8)) → K ((-1)) S1)))))
set_option maxRecDepth 100000 in
set_option maxHeartbeats 4000000 in
theorem lX1_append_b {G : xG} {v : Nat → Nat} {sh : Nat → Option Sh} {B : Nat × Nat} {c0 : List va_E}  {a1 a2 a3 : Int} {S : St} {cs : List va_E} {K : Int → St → Prop} (d : Nat) (hd : 2 ≤ d) (hT : sb shC sh) (hS : ∀ b x, sh b = some x → ¬ isS b) (hW : Wv G v sh B c0 S cs) (g1 : rng a1) (g2 : rng a2) (g3 : rng a3) (hw : wX1_append_b a1 a2 a3 S K) : X G yX1_append cX1_append 5 (some .int) d [.ref (G.1 + v 50), .int (Int32.ofInt a1), .int (Int32.ofInt a2), .int (Int32.ofInt a3)] cs (vI G v sh B c0 K) := by
  refine X.of false (by decide +kernel) (by decide) (Nat.le_of_ble_eq_true rfl) ?_
  show Z (RX1, cX1_append, 5, some .int, false) G d _ 0 [(0, .ref (G.1 + v 50)), (1, .int (Int32.ofInt a1)), (2, .int (Int32.ofInt a2)), (3, .int (Int32.ofInt a3))] [] cs
  have hP : ∀ (x : Int) (S : St) (cs : List va_E), K x S → Wv G v sh B c0 S cs → vI G v sh B c0 K (some (.int (Int32.ofInt x))) cs := fun x S cs a b => ⟨x, S, rfl, a, b⟩
  unfold wX1_append_b at hw
  have hw := hw g1 g2 g3
  refine z_aload_n dX1_append_0 rfl rfl ?_
  refine z_iload_n dX1_append_1 rfl rfl ?_
  refine z_iload_n dX1_append_2 rfl rfl ?_
  have hX := lX1_head_b 1 (Nat.le_refl _) hT hS hW g1 g2 hw
  refine z_callV (As := [_, _]) eX1_head sX1_head lX1_37 rfl dX1_append_3 (hW.at (hT 50 _ rfl)) hX (Nat.le_trans (by decide) hd) rfl (Nat.le_of_ble_eq_true rfl) (fun r cs hp => ?_)
  obtain ⟨r2, S1, rfl, hw, hW⟩ := hp
  refine z_st (st' := [.int (Int32.ofInt (r2))]) rfl ?_
  refine z_istore dX1_append_6 (by decide) ?_
  refine z_loc (L' := [(0, .ref (G.1 + v 50)), (1, .int (Int32.ofInt (a1))), (2, .int (Int32.ofInt (a2))), (3, .int (Int32.ofInt (a3))), (4, .int (Int32.ofInt (r2)))]) (List.forall_mem_cons.mpr ⟨rfl, (List.forall_mem_cons.mpr ⟨rfl, (List.forall_mem_cons.mpr ⟨rfl, (List.forall_mem_cons.mpr ⟨rfl, (List.forall_mem_cons.mpr ⟨rfl, (fun _ h => nomatch h)⟩)⟩)⟩)⟩)⟩) ?_
  refine z_iload dX1_append_8 rfl ?_
  refine z_bipush (v := Int32.ofInt 8) dX1_append_10 (by decide) ?_
  obtain ⟨q4, hw⟩ := hw
  refine i_icmp_lt (tgt := 17) dX1_append_12 (by decide) q4 ⟨by decide, by decide⟩ (fun h3 => ?_) (fun h3 => ?_)
  · have hw := hw.1 h3
    refine z_aload_n dX1_append_17 rfl rfl ?_
    refine z_iload_n dX1_append_18 rfl rfl ?_
    refine z_iload_n dX1_append_19 rfl rfl ?_
    refine z_iload dX1_append_20 rfl ?_
    refine z_iconst (v := Int32.ofInt 1) dX1_append_22 rfl ?_
    refine i_iadd dX1_append_23 ?_
    obtain ⟨q7, hw⟩ := hw
    have hX := lX1_putHead_b 1 (Nat.le_refl _) hT hS hW g1 g2 q7 hw
    refine z_callV (As := [_, _, _]) eX1_putHead sX1_putHead lX1_41 rfl dX1_append_24 (hW.at (hT 50 _ rfl)) hX (Nat.le_trans (by decide) hd) rfl (Nat.le_of_ble_eq_true rfl) (fun r cs hp => ?_)
    obtain ⟨r6, S5, rfl, hw, hW⟩ := hp
    refine z_st (st' := []) rfl ?_
    refine z_aload_n dX1_append_27 rfl rfl ?_
    refine z_iload_n dX1_append_28 rfl rfl ?_
    refine z_iload_n dX1_append_29 rfl rfl ?_
    refine z_iload dX1_append_30 rfl ?_
    refine z_iload_n dX1_append_32 rfl rfl ?_
    have hX := lX1_putCell_b 1 (Nat.le_refl _) hT hS hW g1 g2 q4 g3 hw
    refine z_callV (As := [_, _, _, _]) eX1_putCell sX1_putCell lX1_45 rfl dX1_append_33 (hW.at (hT 50 _ rfl)) hX (Nat.le_trans (by decide) hd) rfl (Nat.le_of_ble_eq_true rfl) (fun r cs hp => ?_)
    obtain ⟨r9, S8, rfl, hw, hW⟩ := hp
    refine z_st (st' := []) rfl ?_
    refine z_iload dX1_append_36 rfl ?_
    refine z_iconst (v := Int32.ofInt 1) dX1_append_38 rfl ?_
    refine i_iadd dX1_append_39 ?_
    exact z_ireturn dX1_append_40 rfl rfl (hP _ _ _ hw hW)
  · have hw := hw.2 h3
    refine z_iconst (v := Int32.ofInt (-1)) dX1_append_15 rfl ?_
    exact z_ireturn dX1_append_16 rfl rfl (hP _ _ _ hw hW)

def wX3_isPlacedInList_50 (m : Nat)  (l1 l2 l3 l4 s0 : Int) (S : St) (K : Int → St → Prop) : Prop := (rng (s0) ∧ ((¬ s0 = (-1) → (rng (l1) ∧ (wX6_attributeNamed (l1) S (fun r4 S3 => (rng (r4) ∧ ((r4 = (-1) → (rng (l4) ∧ (wX3_begins m (l1) (l4) S3 (fun r9 S8 => (rng (r9) ∧ ((¬ r9 = 0 → ((0 : Int) ≤ l1 ∧ l1 < (m : Int) ∧ (iv 0 29 (S8.2 232 (l1)) → (rng (l2) ∧ (rng (l3) ∧ (rng ((s0 - 1)) ∧ (wX1_putCell_b (l2) (l3) ((s0 - 1)) (S8.2 232 (l1)) S8 (fun r16 S15 => K (1) S15)))))))) ∧ ((¬ (¬ r9 = 0)) → K (0) S8))))))) ∧ ((¬ (r4 = (-1))) → (rng (l2) ∧ (rng (l3) ∧ (wX3_takesRole m (l1) (4) (l2) (l3) S3 (fun r21 S20 => ((0 : Int) ≤ l1 ∧ l1 < (m : Int) ∧ (iv (-2147483648) 2147483647 ((s0 - 1)) ∧ (∀ S25, S25 = pA S20 234 (l1) ((s0 - 1)) → K (1) S25)))))))))))))) ∧ ((¬ (¬ s0 = (-1))) → K (0) S)))
set_option maxRecDepth 100000 in
set_option maxHeartbeats 4000000 in
theorem ubX3_isPlacedInList_50 {G : xG} {v : Nat → Nat} {sh : Nat → Option Sh} {B : Nat × Nat} {c0 : List va_E} {m : Nat} {d : Nat} {Post : xP} {l1 l2 l3 l4 s0 : Int} {S : St} {cs : List va_E} {K : Int → St → Prop} (hd : 6 ≤ d) (hm : m ≤ 200) (hT : sb shC sh) (hS : ∀ b x, sh b = some x → ¬ isS b) (hU : sb (shMe m) sh) (hW : Wv G v sh B c0 S cs) (hP : ∀ (x : Int) (S : St) (cs : List va_E), K x S → Wv G v sh B c0 S cs → Post (some (.int (Int32.ofInt x))) cs)  (hw : wX3_isPlacedInList_50 m l1 l2 l3 l4 s0 S K ) : Z (RX3, cX3_isPlacedInList, 6, some .boolean, false) G d Post 50 [(0, .ref (G.1 + v 230)), (1, .int (Int32.ofInt (l1))), (2, .int (Int32.ofInt (l2))), (3, .int (Int32.ofInt (l3))), (4, .int (Int32.ofInt (l4)))] [.int (Int32.ofInt (s0))] cs := by
  unfold wX3_isPlacedInList_50 at hw
  refine z_istore dX3_isPlacedInList_50 (by decide) ?_
  refine z_loc (L' := [(0, .ref (G.1 + v 230)), (1, .int (Int32.ofInt (l1))), (2, .int (Int32.ofInt (l2))), (3, .int (Int32.ofInt (l3))), (4, .int (Int32.ofInt (l4))), (5, .int (Int32.ofInt (s0)))]) (List.forall_mem_cons.mpr ⟨rfl, (List.forall_mem_cons.mpr ⟨rfl, (List.forall_mem_cons.mpr ⟨rfl, (List.forall_mem_cons.mpr ⟨rfl, (List.forall_mem_cons.mpr ⟨rfl, (List.forall_mem_cons.mpr ⟨rfl, (fun _ h => nomatch h)⟩)⟩)⟩)⟩)⟩)⟩) ?_
  refine z_iload dX3_isPlacedInList_52 rfl ?_
  refine z_iconst (v := Int32.ofInt (-1)) dX3_isPlacedInList_54 rfl ?_
  obtain ⟨q2, hw⟩ := hw
  refine i_icmp_ne (tgt := 60) dX3_isPlacedInList_55 (by decide) q2 ⟨by decide, by decide⟩ (fun h1 => ?_) (fun h1 => ?_)
  · have hw := hw.1 h1
    refine z_aload_n dX3_isPlacedInList_60 rfl rfl ?_
    refine v_getR hW (hU 230 _ rfl) rfl kX3 fX3_19 dX3_isPlacedInList_61 ?_
    refine z_iload_n dX3_isPlacedInList_64 rfl rfl ?_
    refine z_ldcS (i := 24) (tx := "reference") (by decide +kernel) dX3_isPlacedInList_65 ?_
    obtain ⟨q5, hw⟩ := hw
    have hX := lX6_attributeNamed 5 (Nat.le_refl _) hT hS (sbt sbX6_X3 hU) hW q5 hw
    refine z_callV (As := [_, _]) eX6_attributeNamed sX6_attributeNamed lX3_140 rfl dX3_isPlacedInList_67 (hW.at (hU 3 _ rfl)) hX (Nat.le_trans (by decide) hd) rfl (Nat.le_of_ble_eq_true rfl) (fun r cs hp => ?_)
    obtain ⟨r4, S3, rfl, hw, hW⟩ := hp
    refine z_st (st' := [.int (Int32.ofInt (r4))]) rfl ?_
    refine z_iconst (v := Int32.ofInt (-1)) dX3_isPlacedInList_70 rfl ?_
    obtain ⟨q7, hw⟩ := hw
    refine i_icmp_eq (tgt := 94) dX3_isPlacedInList_71 (by decide) q7 ⟨by decide, by decide⟩ (fun h6 => ?_) (fun h6 => ?_)
    · have hw := hw.1 h6
      refine z_aload_n dX3_isPlacedInList_94 rfl rfl ?_
      refine z_iload_n dX3_isPlacedInList_95 rfl rfl ?_
      refine z_iload dX3_isPlacedInList_96 rfl ?_
      obtain ⟨q10, hw⟩ := hw
      have hX := lX3_begins 2 (Nat.le_refl _) hm hT hS hU hW q5 q10 hw
      refine z_callV (As := [_, _]) eX3_begins sX3_begins lX3_100 rfl dX3_isPlacedInList_98 (hW.at (hU 230 _ rfl)) hX (Nat.le_trans (by decide) hd) rfl (Nat.le_of_ble_eq_true rfl) (fun r cs hp => ?_)
      obtain ⟨r9, S8, rfl, hw, hW⟩ := hp
      refine z_st (st' := [.int (Int32.ofInt (r9))]) rfl ?_
      obtain ⟨q12, hw⟩ := hw
      refine i_if_ne (tgt := 106) dX3_isPlacedInList_101 (by decide) q12 (fun h11 => ?_) (fun h11 => ?_)
      · have hw := hw.1 h11
        refine z_aload_n dX3_isPlacedInList_106 rfl rfl ?_
        refine v_getR hW (hU 230 _ rfl) rfl kX3 fX3_37 dX3_isPlacedInList_107 ?_
        refine z_iload_n dX3_isPlacedInList_110 rfl rfl ?_
        refine z_iload_n dX3_isPlacedInList_111 rfl rfl ?_
        refine z_iload dX3_isPlacedInList_112 rfl ?_
        refine z_iconst (v := Int32.ofInt 1) dX3_isPlacedInList_114 rfl ?_
        refine i_isub dX3_isPlacedInList_115 ?_
        refine z_aload_n dX3_isPlacedInList_116 rfl rfl ?_
        refine v_getR hW (hU 230 _ rfl) rfl kX3 fX3_57 dX3_isPlacedInList_117 ?_
        refine z_iload_n dX3_isPlacedInList_120 rfl rfl ?_
        obtain ⟨q13a, q13b, hw⟩ := hw
        have q14 : iv 0 29 (S8.2 232 (l1)) := hW.iA 232 _
        have hw := hw q14
        refine v_iald hW (hU 232 _ rfl) q13a q13b (m_lt hm) dX3_isPlacedInList_121 ?_
        obtain ⟨q17, hw⟩ := hw
        obtain ⟨q18, hw⟩ := hw
        obtain ⟨q19, hw⟩ := hw
        have hX := lX1_putCell_b 1 (Nat.le_refl _) hT hS hW q17 q18 q19 (rngq q14 (by decide) (by decide)) hw
        refine z_callV (As := [_, _, _, _]) eX1_putCell sX1_putCell lX3_160 rfl dX3_isPlacedInList_122 (hW.at (hT 50 _ rfl)) hX (Nat.le_trans (by decide) hd) rfl (Nat.le_of_ble_eq_true rfl) (fun r cs hp => ?_)
        obtain ⟨r16, S15, rfl, hw, hW⟩ := hp
        refine z_st (st' := []) rfl ?_
        refine z_iconst (v := Int32.ofInt 1) dX3_isPlacedInList_125 rfl ?_
        exact z_ireturn dX3_isPlacedInList_126 rfl (nar01 (by decide)) (hP _ _ _ hw hW)
      · have hw := hw.2 h11
        refine z_iconst (v := Int32.ofInt 0) dX3_isPlacedInList_104 rfl ?_
        exact z_ireturn dX3_isPlacedInList_105 rfl (nar01 (by decide)) (hP _ _ _ hw hW)
    · have hw := hw.2 h6
      refine z_aload_n dX3_isPlacedInList_74 rfl rfl ?_
      refine z_iload_n dX3_isPlacedInList_75 rfl rfl ?_
      refine z_iconst (v := Int32.ofInt 4) dX3_isPlacedInList_76 rfl ?_
      refine z_iload_n dX3_isPlacedInList_77 rfl rfl ?_
      refine z_iload_n dX3_isPlacedInList_78 rfl rfl ?_
      obtain ⟨q22, hw⟩ := hw
      obtain ⟨q23, hw⟩ := hw
      have hX := lX3_takesRole 0 (Nat.le_refl _) hm hT hS hU hW q5 ⟨by decide, by decide⟩ q22 q23 hw
      refine z_callV (As := [_, _, _, _]) eX3_takesRole sX3_takesRole lX3_118 rfl dX3_isPlacedInList_79 (hW.at (hU 230 _ rfl)) hX (Nat.le_trans (by decide) hd) rfl (Nat.le_of_ble_eq_true rfl) (fun r cs hp => ?_)
      obtain ⟨r21, S20, rfl, hw, hW⟩ := hp
      refine z_st (st' := []) rfl ?_
      refine z_aload_n dX3_isPlacedInList_82 rfl rfl ?_
      refine v_getR hW (hU 230 _ rfl) rfl kX3 fX3_63 dX3_isPlacedInList_83 ?_
      refine z_iload_n dX3_isPlacedInList_86 rfl rfl ?_
      refine z_iload dX3_isPlacedInList_87 rfl ?_
      refine z_iconst (v := Int32.ofInt 1) dX3_isPlacedInList_89 rfl ?_
      refine i_isub dX3_isPlacedInList_90 ?_
      obtain ⟨q24a, q24b, hw⟩ := hw
      obtain ⟨q26, hw⟩ := hw
      refine v_iast hW (hU 234 _ rfl) (by decide) (by unfold isS; decide) q24a q24b (m_lt hm) q26 dX3_isPlacedInList_91 (fun cs hW => ?_)
      obtain ⟨S25, hS25⟩ : ∃ x, x = pA S20 234 (l1) ((s0 - 1)) := ⟨_, rfl⟩
      rw [← hS25] at hW
      have hw := hw S25 hS25
      refine z_iconst (v := Int32.ofInt 1) dX3_isPlacedInList_92 rfl ?_
      exact z_ireturn dX3_isPlacedInList_93 rfl (nar01 (by decide)) (hP _ _ _ hw hW)
  · have hw := hw.2 h1
    refine z_iconst (v := Int32.ofInt 0) dX3_isPlacedInList_58 rfl ?_
    exact z_ireturn dX3_isPlacedInList_59 rfl (nar01 (by decide)) (hP _ _ _ hw hW)
def wX3_isPlacedInList (m : Nat)  (a1 a2 a3 : Int) (S : St) (K : Int → St → Prop) : Prop := rng a1 → rng a2 → rng a3 → (wX6_nameFrom (a1) S (fun r2 S1 => (wX6_nameTo (a1) S1 (fun r4 S3 => (rng (r2) ∧ (rng (r4) ∧ (wX4_readableClass (r2) (r4) S3 (fun r6 S5 => (rng (r6) ∧ ((¬ r6 = (-1) → (wX1_append_b (a2) (a3) ((-2)) S5 (fun r12 S11 => wX3_isPlacedInList_50 m (a1) (a2) (a3) (r6) (r12) S11 K))) ∧ ((¬ (¬ r6 = (-1))) → wX3_isPlacedInList_50 m (a1) (a2) (a3) (r6) ((-1)) S5 K)))))))))))
set_option maxRecDepth 100000 in
set_option maxHeartbeats 4000000 in
theorem lX3_isPlacedInList {G : xG} {v : Nat → Nat} {sh : Nat → Option Sh} {B : Nat × Nat} {c0 : List va_E} {m : Nat}  {a1 a2 a3 : Int} {S : St} {cs : List va_E} {K : Int → St → Prop} (d : Nat) (hd : 6 ≤ d) (hm : m ≤ 200) (hT : sb shC sh) (hS : ∀ b x, sh b = some x → ¬ isS b) (hU : sb (shMe m) sh) (hW : Wv G v sh B c0 S cs) (g1 : rng a1) (g2 : rng a2) (g3 : rng a3) (hw : wX3_isPlacedInList m a1 a2 a3 S K) : X G yX3_isPlacedInList cX3_isPlacedInList 6 (some .boolean) d [.ref (G.1 + v 230), .int (Int32.ofInt a1), .int (Int32.ofInt a2), .int (Int32.ofInt a3)] cs (vI G v sh B c0 K) := by
  refine X.of false (by decide +kernel) (by decide) (Nat.le_of_ble_eq_true rfl) ?_
  show Z (RX3, cX3_isPlacedInList, 6, some .boolean, false) G d _ 0 [(0, .ref (G.1 + v 230)), (1, .int (Int32.ofInt a1)), (2, .int (Int32.ofInt a2)), (3, .int (Int32.ofInt a3))] [] cs
  have hP : ∀ (x : Int) (S : St) (cs : List va_E), K x S → Wv G v sh B c0 S cs → vI G v sh B c0 K (some (.int (Int32.ofInt x))) cs := fun x S cs a b => ⟨x, S, rfl, a, b⟩
  unfold wX3_isPlacedInList at hw
  have hw := hw g1 g2 g3
  refine z_aload_n dX3_isPlacedInList_0 rfl rfl ?_
  refine v_getR hW (hU 230 _ rfl) rfl kX3 fX3_15 dX3_isPlacedInList_1 ?_
  refine z_aload_n dX3_isPlacedInList_4 rfl rfl ?_
  refine v_getR hW (hU 230 _ rfl) rfl kX3 fX3_29 dX3_isPlacedInList_5 ?_
  refine z_aload_n dX3_isPlacedInList_8 rfl rfl ?_
  refine v_getR hW (hU 230 _ rfl) rfl kX3 fX3_19 dX3_isPlacedInList_9 ?_
  refine z_iload_n dX3_isPlacedInList_12 rfl rfl ?_
  have hX := lX6_nameFrom 1 (Nat.le_refl _) hT hS (sbt sbX6_X3 hU) hW g1 hw
  refine z_callV (As := [_]) eX6_nameFrom sX6_nameFrom lX3_88 rfl dX3_isPlacedInList_13 (hW.at (hU 3 _ rfl)) hX (Nat.le_trans (by decide) hd) rfl (Nat.le_of_ble_eq_true rfl) (fun r cs hp => ?_)
  obtain ⟨r2, S1, rfl, hw, hW⟩ := hp
  refine z_st (st' := [.int (Int32.ofInt (r2)), .ref (G.1 + v 1), .ref (G.1 + v 24)]) rfl ?_
  refine z_aload_n dX3_isPlacedInList_16 rfl rfl ?_
  refine v_getR hW (hU 230 _ rfl) rfl kX3 fX3_19 dX3_isPlacedInList_17 ?_
  refine z_iload_n dX3_isPlacedInList_20 rfl rfl ?_
  have hX := lX6_nameTo 1 (Nat.le_refl _) hT hS (sbt sbX6_X3 hU) hW g1 hw
  refine z_callV (As := [_]) eX6_nameTo sX6_nameTo lX3_91 rfl dX3_isPlacedInList_21 (hW.at (hU 3 _ rfl)) hX (Nat.le_trans (by decide) hd) rfl (Nat.le_of_ble_eq_true rfl) (fun r cs hp => ?_)
  obtain ⟨r4, S3, rfl, hw, hW⟩ := hp
  refine z_st (st' := [.int (Int32.ofInt (r4)), .int (Int32.ofInt (r2)), .ref (G.1 + v 1), .ref (G.1 + v 24)]) rfl ?_
  obtain ⟨q7, hw⟩ := hw
  obtain ⟨q8, hw⟩ := hw
  have hX := lX4_readableClass 2 (Nat.le_refl _) hT hS hW q7 q8 hw
  refine z_callV (As := [_, _, _]) eX4_readableClass sX4_readableClass lX3_94 rfl dX3_isPlacedInList_24 (hW.at (hT 24 _ rfl)) hX (Nat.le_trans (by decide) hd) rfl (Nat.le_of_ble_eq_true rfl) (fun r cs hp => ?_)
  obtain ⟨r6, S5, rfl, hw, hW⟩ := hp
  refine z_st (st' := [.int (Int32.ofInt (r6))]) rfl ?_
  refine z_istore dX3_isPlacedInList_27 (by decide) ?_
  refine z_loc (L' := [(0, .ref (G.1 + v 230)), (1, .int (Int32.ofInt (a1))), (2, .int (Int32.ofInt (a2))), (3, .int (Int32.ofInt (a3))), (4, .int (Int32.ofInt (r6)))]) (List.forall_mem_cons.mpr ⟨rfl, (List.forall_mem_cons.mpr ⟨rfl, (List.forall_mem_cons.mpr ⟨rfl, (List.forall_mem_cons.mpr ⟨rfl, (List.forall_mem_cons.mpr ⟨rfl, (fun _ h => nomatch h)⟩)⟩)⟩)⟩)⟩) ?_
  refine z_iload dX3_isPlacedInList_29 rfl ?_
  refine z_iconst (v := Int32.ofInt (-1)) dX3_isPlacedInList_31 rfl ?_
  obtain ⟨q10, hw⟩ := hw
  refine i_icmp_ne (tgt := 39) dX3_isPlacedInList_32 (by decide) q10 ⟨by decide, by decide⟩ (fun h9 => ?_) (fun h9 => ?_)
  · have hw := hw.1 h9
    refine z_aload_n dX3_isPlacedInList_39 rfl rfl ?_
    refine v_getR hW (hU 230 _ rfl) rfl kX3 fX3_37 dX3_isPlacedInList_40 ?_
    refine z_iload_n dX3_isPlacedInList_43 rfl rfl ?_
    refine z_iload_n dX3_isPlacedInList_44 rfl rfl ?_
    refine z_bipush (v := Int32.ofInt (-2)) dX3_isPlacedInList_45 (by decide) ?_
    have hX := lX1_append_b 2 (Nat.le_refl _) hT hS hW g2 g3 ⟨by decide, by decide⟩ hw
    refine z_callV (As := [_, _, _]) eX1_append sX1_append lX3_156 rfl dX3_isPlacedInList_47 (hW.at (hT 50 _ rfl)) hX (Nat.le_trans (by decide) hd) rfl (Nat.le_of_ble_eq_true rfl) (fun r cs hp => ?_)
    obtain ⟨r12, S11, rfl, hw, hW⟩ := hp
    refine z_st (st' := [.int (Int32.ofInt (r12))]) rfl ?_
    refine z_loc (L' := [(0, .ref (G.1 + v 230)), (1, .int (Int32.ofInt (a1))), (2, .int (Int32.ofInt (a2))), (3, .int (Int32.ofInt (a3))), (4, .int (Int32.ofInt (r6)))]) (List.forall_mem_cons.mpr ⟨rfl, (List.forall_mem_cons.mpr ⟨rfl, (List.forall_mem_cons.mpr ⟨rfl, (List.forall_mem_cons.mpr ⟨rfl, (List.forall_mem_cons.mpr ⟨rfl, (fun _ h => nomatch h)⟩)⟩)⟩)⟩)⟩) ?_
    exact ubX3_isPlacedInList_50 hd hm hT hS hU hW hP  hw
  · have hw := hw.2 h9
    refine z_iconst (v := Int32.ofInt (-1)) dX3_isPlacedInList_35 rfl ?_
    refine z_goto (tgt := 50) dX3_isPlacedInList_36 (by decide) ?_
    refine z_loc (L' := [(0, .ref (G.1 + v 230)), (1, .int (Int32.ofInt (a1))), (2, .int (Int32.ofInt (a2))), (3, .int (Int32.ofInt (a3))), (4, .int (Int32.ofInt (r6)))]) (List.forall_mem_cons.mpr ⟨rfl, (List.forall_mem_cons.mpr ⟨rfl, (List.forall_mem_cons.mpr ⟨rfl, (List.forall_mem_cons.mpr ⟨rfl, (List.forall_mem_cons.mpr ⟨rfl, (fun _ h => nomatch h)⟩)⟩)⟩)⟩)⟩) ?_
    exact ubX3_isPlacedInList_50 hd hm hT hS hU hW hP  hw

def wX5_isAt_b_15'  (l1 l4 : Int) (S : St) (K : Int → St → Prop) (B15 : Int → Int → St → Prop) : Prop := (rng (l4) ∧ ((5 ≤ l4 → K (1) S) ∧ ((¬ (5 ≤ l4)) → (rng ((l1 + l4)) ∧ (wX5_at 1 ((l1 + l4)) S (fun r4 S3 => ((0 : Int) ≤ l4 ∧ l4 < (5 : Int) ∧ (rng (r4) ∧ ((r4 = (sch 25 (l4)) → B15 (l1) ((l4 + 1)) S3) ∧ ((¬ (r4 = (sch 25 (l4)))) → K (0) S3))))))))))
set_option maxRecDepth 100000 in
set_option maxHeartbeats 4000000 in
theorem ubX5_isAt_b_15' {G : xG} {v : Nat → Nat} {sh : Nat → Option Sh} {B : Nat × Nat} {c0 : List va_E} {d : Nat} {Post : xP} {l1 l4 : Int} {S : St} {cs : List va_E} {K : Int → St → Prop} {B15 : Int → Int → St → Prop} (hd : 4 ≤ d) (hT : sb shC sh) (hS : ∀ b x, sh b = some x → ¬ isS b) (hW : Wv G v sh B c0 S cs) (hP : ∀ (x : Int) (S : St) (cs : List va_E), K x S → Wv G v sh B c0 S cs → Post (some (.int (Int32.ofInt x))) cs) (hB15 : ∀ (l1 : Int) (l4 : Int) (S : St) (cs : List va_E), B15 l1 l4 S → Wv G v sh B c0 S cs → Z (RX5, cX5_isAt, 5, some .boolean, false) G d Post 15 [(0, .ref (G.1 + v 1)), (1, .int (Int32.ofInt (l1))), (3, .ref (G.2.2.2.1 25)), (4, .int (Int32.ofInt (l4)))] [] cs) (hw : wX5_isAt_b_15' l1 l4 S K B15) : Z (RX5, cX5_isAt, 5, some .boolean, false) G d Post 15 [(0, .ref (G.1 + v 1)), (1, .int (Int32.ofInt (l1))), (3, .ref (G.2.2.2.1 25)), (4, .int (Int32.ofInt (l4)))] [] cs := by
  unfold wX5_isAt_b_15' at hw
  refine z_iload dX5_isAt_15 rfl ?_
  refine z_aload_n dX5_isAt_17 rfl rfl ?_
  refine z_callVS (As := []) (show 25 < xN by decide) eJ0_length_8abf5 sJ0_length_8abf5 lX5_35 rfl dX5_isAt_18 (c_length 1 (Nat.le_refl _) (show 25 < xN by decide)) (Nat.le_trans (by decide) hd) rfl (Nat.le_of_ble_eq_true rfl) (fun r cs1 hp => ?_)
  obtain ⟨rfl, rfl⟩ := hp
  refine z_st (st' := [.int (Int32.ofInt (5)), .int (Int32.ofInt (l4))]) rfl ?_
  obtain ⟨q2, hw⟩ := hw
  refine i_icmp_ge (tgt := 49) dX5_isAt_21 (by decide) q2 ⟨by decide, by decide⟩ (fun h1 => ?_) (fun h1 => ?_)
  · have hw := hw.1 h1
    refine z_iconst (v := Int32.ofInt 1) dX5_isAt_49 rfl ?_
    exact z_ireturn dX5_isAt_50 rfl (nar01 (by decide)) (hP _ _ _ hw hW)
  · have hw := hw.2 h1
    refine z_aload_n dX5_isAt_24 rfl rfl ?_
    refine z_iload_n dX5_isAt_25 rfl rfl ?_
    refine z_iload dX5_isAt_26 rfl ?_
    refine i_iadd dX5_isAt_28 ?_
    obtain ⟨q5, hw⟩ := hw
    have hX := lX5_at 0 (Nat.le_refl _) hW (show isS 1 by unfold isS; decide) (fun b x h e => hS b x h (e ▸ (show isS 1 by unfold isS; decide))) q5 hw
    refine z_callV (As := [_]) eX5_at sX5_at lX5_52 rfl dX5_isAt_29 (hW.sg (show isS 1 by unfold isS; decide) (fun b x h e => hS b x h (e ▸ (show isS 1 by unfold isS; decide)))).choose_spec.choose_spec.choose_spec.choose_spec.1.choose_spec.1 hX (Nat.le_trans (by decide) hd) rfl (Nat.le_of_ble_eq_true rfl) (fun r cs hp => ?_)
    obtain ⟨r4, S3, rfl, hw, hW⟩ := hp
    refine z_st (st' := [.int (Int32.ofInt (r4))]) rfl ?_
    refine z_aload_n dX5_isAt_32 rfl rfl ?_
    refine z_iload dX5_isAt_33 rfl ?_
    obtain ⟨q6a, q6b, hw⟩ := hw
    refine z_callVS (As := [_]) (show 25 < xN by decide) eJ0_charAt_5068e sJ0_charAt_5068e lX5_40 rfl dX5_isAt_35 (c_charAt 3 (Nat.le_refl _) (show 25 < xN by decide) (oI_in (n := 5) q6a q6b (by decide))) (Nat.le_trans (by decide) hd) rfl (Nat.le_of_ble_eq_true rfl) (fun r cs1 hp => ?_)
    obtain ⟨rfl, rfl⟩ := hp
    refine z_st (st' := [.int (Int32.ofInt ((sch 25 (l4)))), .int (Int32.ofInt (r4))]) (by unfold sch; rw [Int32.ofInt_toInt]; rfl) ?_
    obtain ⟨q8, hw⟩ := hw
    refine i_icmp_eq (tgt := 43) dX5_isAt_38 (by decide) q8 (rng_of _) (fun h7 => ?_) (fun h7 => ?_)
    · have hw := hw.1 h7
      refine i_iinc (l := l4) dX5_isAt_43 rfl (by decide) ?_
      refine z_loc (L' := [(0, .ref (G.1 + v 1)), (1, .int (Int32.ofInt (l1))), (3, .ref (G.2.2.2.1 25)), (4, .int (Int32.ofInt ((l4 + 1))))]) (List.forall_mem_cons.mpr ⟨rfl, (List.forall_mem_cons.mpr ⟨rfl, (List.forall_mem_cons.mpr ⟨rfl, (List.forall_mem_cons.mpr ⟨rfl, (fun _ h => nomatch h)⟩)⟩)⟩)⟩) ?_
      refine z_goto (tgt := 15) dX5_isAt_46 (by decide) ?_
      refine z_loc (L' := [(0, .ref (G.1 + v 1)), (1, .int (Int32.ofInt (l1))), (3, .ref (G.2.2.2.1 25)), (4, .int (Int32.ofInt ((l4 + 1))))]) (List.forall_mem_cons.mpr ⟨rfl, (List.forall_mem_cons.mpr ⟨rfl, (List.forall_mem_cons.mpr ⟨rfl, (List.forall_mem_cons.mpr ⟨rfl, (fun _ h => nomatch h)⟩)⟩)⟩)⟩) ?_
      exact hB15 _ _ _ _ hw hW
    · have hw := hw.2 h7
      refine z_iconst (v := Int32.ofInt 0) dX5_isAt_41 rfl ?_
      exact z_ireturn dX5_isAt_42 rfl (nar01 (by decide)) (hP _ _ _ hw hW)
def wX5_isAt_b_15  (l1 l4 : Int) (S : St) (K : Int → St → Prop) : Prop := ∃ (Iv : Int → Int → St → Prop) (mu : Int → Int → St → Nat), Iv l1 l4 S ∧ ∀ (l1 l4 : Int) (S : St), Iv l1 l4 S → wX5_isAt_b_15' l1 l4 S K  (fun ml1 ml4 T => Iv ml1 ml4 T ∧ mu ml1 ml4 T < mu l1 l4 S)
set_option maxRecDepth 100000 in
set_option maxHeartbeats 4000000 in
theorem ubX5_isAt_b_15 {G : xG} {v : Nat → Nat} {sh : Nat → Option Sh} {B : Nat × Nat} {c0 : List va_E} {d : Nat} {Post : xP} {l1 l4 : Int} {S : St} {cs : List va_E} {K : Int → St → Prop} (hd : 4 ≤ d) (hT : sb shC sh) (hS : ∀ b x, sh b = some x → ¬ isS b) (hW : Wv G v sh B c0 S cs) (hP : ∀ (x : Int) (S : St) (cs : List va_E), K x S → Wv G v sh B c0 S cs → Post (some (.int (Int32.ofInt x))) cs)  (hw : wX5_isAt_b_15 l1 l4 S K ) : Z (RX5, cX5_isAt, 5, some .boolean, false) G d Post 15 [(0, .ref (G.1 + v 1)), (1, .int (Int32.ofInt (l1))), (3, .ref (G.2.2.2.1 25)), (4, .int (Int32.ofInt (l4)))] [] cs := by
  unfold wX5_isAt_b_15 at hw
  obtain ⟨Iv, mu, h0, hs⟩ := hw
  have key : ∀ (n : Nat) (l1 l4 : Int) (S : St) (cs : List va_E), mu l1 l4 S < n → Iv l1 l4 S → Wv G v sh B c0 S cs → Z (RX5, cX5_isAt, 5, some .boolean, false) G d Post 15 [(0, .ref (G.1 + v 1)), (1, .int (Int32.ofInt (l1))), (3, .ref (G.2.2.2.1 25)), (4, .int (Int32.ofInt (l4)))] [] cs := by
    intro n
    induction n with
    | zero => intro l1 l4 S cs hn; exact absurd hn (Nat.not_lt_zero _)
    | succ n ih =>
      intro l1 l4 S cs hn hI hW
      exact ubX5_isAt_b_15' hd hT hS hW hP  (fun l1 l4 S cs hb hW => ih l1 l4 S cs (Nat.lt_of_lt_of_le hb.2 (Nat.le_of_lt_succ hn)) hb.1 hW) (hs l1 l4 S hI)
  exact key _ _ _ _ _ (Nat.lt_succ_self _) h0 hW
def wX5_isAt_b  (a1 a2 : Int) (S : St) (K : Int → St → Prop) : Prop := rng a1 → rng a2 → (rng ((a2 - a1)) ∧ (((a2 - a1) = 5 → wX5_isAt_b_15 (a1) (0) S K) ∧ ((¬ ((a2 - a1) = 5)) → K (0) S)))
set_option maxRecDepth 100000 in
set_option maxHeartbeats 4000000 in
theorem lX5_isAt_b {G : xG} {v : Nat → Nat} {sh : Nat → Option Sh} {B : Nat × Nat} {c0 : List va_E}  {a1 a2 : Int} {S : St} {cs : List va_E} {K : Int → St → Prop} (d : Nat) (hd : 4 ≤ d) (hT : sb shC sh) (hS : ∀ b x, sh b = some x → ¬ isS b) (hW : Wv G v sh B c0 S cs) (g1 : rng a1) (g2 : rng a2) (hw : wX5_isAt_b a1 a2 S K) : X G yX5_isAt cX5_isAt 5 (some .boolean) d [.ref (G.1 + v 1), .int (Int32.ofInt a1), .int (Int32.ofInt a2), .ref (G.2.2.2.1 25)] cs (vI G v sh B c0 K) := by
  refine X.of false (by decide +kernel) (by decide) (Nat.le_of_ble_eq_true rfl) ?_
  show Z (RX5, cX5_isAt, 5, some .boolean, false) G d _ 0 [(0, .ref (G.1 + v 1)), (1, .int (Int32.ofInt a1)), (2, .int (Int32.ofInt a2)), (3, .ref (G.2.2.2.1 25))] [] cs
  have hP : ∀ (x : Int) (S : St) (cs : List va_E), K x S → Wv G v sh B c0 S cs → vI G v sh B c0 K (some (.int (Int32.ofInt x))) cs := fun x S cs a b => ⟨x, S, rfl, a, b⟩
  unfold wX5_isAt_b at hw
  have hw := hw g1 g2
  refine z_iload_n dX5_isAt_0 rfl rfl ?_
  refine z_iload_n dX5_isAt_1 rfl rfl ?_
  refine i_isub dX5_isAt_2 ?_
  refine z_aload_n dX5_isAt_3 rfl rfl ?_
  refine z_callVS (As := []) (show 25 < xN by decide) eJ0_length_8abf5 sJ0_length_8abf5 lX5_35 rfl dX5_isAt_4 (c_length 1 (Nat.le_refl _) (show 25 < xN by decide)) (Nat.le_trans (by decide) hd) rfl (Nat.le_of_ble_eq_true rfl) (fun r cs1 hp => ?_)
  obtain ⟨rfl, rfl⟩ := hp
  refine z_st (st' := [.int (Int32.ofInt (5)), .int (Int32.ofInt ((a2 - a1)))]) rfl ?_
  obtain ⟨q2, hw⟩ := hw
  refine i_icmp_eq (tgt := 12) dX5_isAt_7 (by decide) q2 ⟨by decide, by decide⟩ (fun h1 => ?_) (fun h1 => ?_)
  · have hw := hw.1 h1
    refine z_iconst (v := Int32.ofInt 0) dX5_isAt_12 rfl ?_
    refine z_istore dX5_isAt_13 (by decide) ?_
    refine z_loc (L' := [(0, .ref (G.1 + v 1)), (1, .int (Int32.ofInt (a1))), (2, .int (Int32.ofInt (a2))), (3, .ref (G.2.2.2.1 25)), (4, .int (Int32.ofInt (0)))]) (List.forall_mem_cons.mpr ⟨rfl, (List.forall_mem_cons.mpr ⟨rfl, (List.forall_mem_cons.mpr ⟨rfl, (List.forall_mem_cons.mpr ⟨rfl, (List.forall_mem_cons.mpr ⟨rfl, (fun _ h => nomatch h)⟩)⟩)⟩)⟩)⟩) ?_
    refine z_loc (L' := [(0, .ref (G.1 + v 1)), (1, .int (Int32.ofInt (a1))), (3, .ref (G.2.2.2.1 25)), (4, .int (Int32.ofInt (0)))]) (List.forall_mem_cons.mpr ⟨rfl, (List.forall_mem_cons.mpr ⟨rfl, (List.forall_mem_cons.mpr ⟨rfl, (List.forall_mem_cons.mpr ⟨rfl, (fun _ h => nomatch h)⟩)⟩)⟩)⟩) ?_
    exact ubX5_isAt_b_15 hd hT hS hW hP  hw
  · have hw := hw.2 h1
    refine z_iconst (v := Int32.ofInt 0) dX5_isAt_10 rfl ?_
    exact z_ireturn dX5_isAt_11 rfl (nar01 (by decide)) (hP _ _ _ hw hW)

def wX6_attributeNamed_b_9'  (l1 l3 l4 : Int) (S : St) (K : Int → St → Prop) (B9 : Int → Int → Int → St → Prop) : Prop := (rng (l1) ∧ (wX6_attributeCount (l1) S (fun r2 S1 => (rng (l4) ∧ (rng ((l3 + r2)) ∧ (((l3 + r2) ≤ l4 → K ((-1)) S1) ∧ ((¬ ((l3 + r2) ≤ l4)) → ((0 : Int) ≤ l4 ∧ l4 < (600 : Int) ∧ (iv (-2147483648) 2147483647 (S1.2 16 (l4)) → ((0 : Int) ≤ l4 ∧ l4 < (600 : Int) ∧ (iv (-2147483648) 2147483647 (S1.2 17 (l4)) → (wX5_isAt_b (S1.2 16 (l4)) (S1.2 17 (l4)) S1 (fun r12 S11 => (rng (r12) ∧ ((r12 = 0 → B9 (l1) (l3) ((l4 + 1)) S11) ∧ ((¬ (r12 = 0)) → K (l4) S11))))))))))))))))
set_option maxRecDepth 100000 in
set_option maxHeartbeats 4000000 in
theorem ubX6_attributeNamed_b_9' {G : xG} {v : Nat → Nat} {sh : Nat → Option Sh} {B : Nat × Nat} {c0 : List va_E} {d : Nat} {Post : xP} {l1 l3 l4 : Int} {S : St} {cs : List va_E} {K : Int → St → Prop} {B9 : Int → Int → Int → St → Prop} (hd : 5 ≤ d) (hT : sb shC sh) (hS : ∀ b x, sh b = some x → ¬ isS b) (hU : sb shTr sh) (hW : Wv G v sh B c0 S cs) (hP : ∀ (x : Int) (S : St) (cs : List va_E), K x S → Wv G v sh B c0 S cs → Post (some (.int (Int32.ofInt x))) cs) (hB9 : ∀ (l1 : Int) (l3 : Int) (l4 : Int) (S : St) (cs : List va_E), B9 l1 l3 l4 S → Wv G v sh B c0 S cs → Z (RX6, cX6_attributeNamed, 5, some .int, false) G d Post 9 [(0, .ref (G.1 + v 3)), (1, .int (Int32.ofInt (l1))), (2, .ref (G.2.2.2.1 25)), (3, .int (Int32.ofInt (l3))), (4, .int (Int32.ofInt (l4)))] [] cs) (hw : wX6_attributeNamed_b_9' l1 l3 l4 S K B9) : Z (RX6, cX6_attributeNamed, 5, some .int, false) G d Post 9 [(0, .ref (G.1 + v 3)), (1, .int (Int32.ofInt (l1))), (2, .ref (G.2.2.2.1 25)), (3, .int (Int32.ofInt (l3))), (4, .int (Int32.ofInt (l4)))] [] cs := by
  unfold wX6_attributeNamed_b_9' at hw
  refine z_iload dX6_attributeNamed_9 rfl ?_
  refine z_iload_n dX6_attributeNamed_11 rfl rfl ?_
  refine z_aload_n dX6_attributeNamed_12 rfl rfl ?_
  refine z_iload_n dX6_attributeNamed_13 rfl rfl ?_
  obtain ⟨q3, hw⟩ := hw
  have hX := lX6_attributeCount 1 (Nat.le_refl _) hT hS hU hW q3 hw
  refine z_callV (As := [_]) eX6_attributeCount sX6_attributeCount lX6_100 rfl dX6_attributeNamed_14 (hW.at (hU 3 _ rfl)) hX (Nat.le_trans (by decide) hd) rfl (Nat.le_of_ble_eq_true rfl) (fun r cs hp => ?_)
  obtain ⟨r2, S1, rfl, hw, hW⟩ := hp
  refine z_st (st' := [.int (Int32.ofInt (r2)), .int (Int32.ofInt (l3)), .int (Int32.ofInt (l4))]) rfl ?_
  refine i_iadd dX6_attributeNamed_17 ?_
  obtain ⟨q5, hw⟩ := hw
  obtain ⟨q6, hw⟩ := hw
  refine i_icmp_ge (tgt := 55) dX6_attributeNamed_18 (by decide) q5 q6 (fun h4 => ?_) (fun h4 => ?_)
  · have hw := hw.1 h4
    refine z_iconst (v := Int32.ofInt (-1)) dX6_attributeNamed_55 rfl ?_
    exact z_ireturn dX6_attributeNamed_56 rfl rfl (hP _ _ _ hw hW)
  · have hw := hw.2 h4
    refine z_aload_n dX6_attributeNamed_21 rfl rfl ?_
    refine v_getR hW (hU 3 _ rfl) rfl kX6 fX6_18 dX6_attributeNamed_22 ?_
    refine z_aload_n dX6_attributeNamed_25 rfl rfl ?_
    refine v_getR hW (hU 3 _ rfl) rfl kX6 fX6_53 dX6_attributeNamed_26 ?_
    refine z_iload dX6_attributeNamed_29 rfl ?_
    obtain ⟨q7a, q7b, hw⟩ := hw
    have q8 : iv (-2147483648) 2147483647 (S1.2 16 (l4)) := hW.iA 16 _
    have hw := hw q8
    refine v_iald hW (hT 16 _ rfl) q7a q7b (by decide) dX6_attributeNamed_31 ?_
    refine z_aload_n dX6_attributeNamed_32 rfl rfl ?_
    refine v_getR hW (hU 3 _ rfl) rfl kX6 fX6_56 dX6_attributeNamed_33 ?_
    refine z_iload dX6_attributeNamed_36 rfl ?_
    obtain ⟨q9a, q9b, hw⟩ := hw
    have q10 : iv (-2147483648) 2147483647 (S1.2 17 (l4)) := hW.iA 17 _
    have hw := hw q10
    refine v_iald hW (hT 17 _ rfl) q9a q9b (by decide) dX6_attributeNamed_38 ?_
    refine z_aload_n dX6_attributeNamed_39 rfl rfl ?_
    have hX := lX5_isAt_b 4 (Nat.le_refl _) hT hS hW (rngq q8 (by decide) (by decide)) (rngq q10 (by decide) (by decide)) hw
    refine z_callV (As := [_, _, _]) eX5_isAt sX5_isAt lX6_103 rfl dX6_attributeNamed_40 (hW.sg (show isS 1 by unfold isS; decide) (fun b x h e => hS b x h (e ▸ (show isS 1 by unfold isS; decide)))).choose_spec.choose_spec.choose_spec.choose_spec.1.choose_spec.1 hX (Nat.le_trans (by decide) hd) rfl (Nat.le_of_ble_eq_true rfl) (fun r cs hp => ?_)
    obtain ⟨r12, S11, rfl, hw, hW⟩ := hp
    refine z_st (st' := [.int (Int32.ofInt (r12))]) rfl ?_
    obtain ⟨q14, hw⟩ := hw
    refine i_if_eq (tgt := 49) dX6_attributeNamed_43 (by decide) q14 (fun h13 => ?_) (fun h13 => ?_)
    · have hw := hw.1 h13
      refine i_iinc (l := l4) dX6_attributeNamed_49 rfl (by decide) ?_
      refine z_loc (L' := [(0, .ref (G.1 + v 3)), (1, .int (Int32.ofInt (l1))), (2, .ref (G.2.2.2.1 25)), (3, .int (Int32.ofInt (l3))), (4, .int (Int32.ofInt ((l4 + 1))))]) (List.forall_mem_cons.mpr ⟨rfl, (List.forall_mem_cons.mpr ⟨rfl, (List.forall_mem_cons.mpr ⟨rfl, (List.forall_mem_cons.mpr ⟨rfl, (List.forall_mem_cons.mpr ⟨rfl, (fun _ h => nomatch h)⟩)⟩)⟩)⟩)⟩) ?_
      refine z_goto (tgt := 9) dX6_attributeNamed_52 (by decide) ?_
      refine z_loc (L' := [(0, .ref (G.1 + v 3)), (1, .int (Int32.ofInt (l1))), (2, .ref (G.2.2.2.1 25)), (3, .int (Int32.ofInt (l3))), (4, .int (Int32.ofInt ((l4 + 1))))]) (List.forall_mem_cons.mpr ⟨rfl, (List.forall_mem_cons.mpr ⟨rfl, (List.forall_mem_cons.mpr ⟨rfl, (List.forall_mem_cons.mpr ⟨rfl, (List.forall_mem_cons.mpr ⟨rfl, (fun _ h => nomatch h)⟩)⟩)⟩)⟩)⟩) ?_
      exact hB9 _ _ _ _ _ hw hW
    · have hw := hw.2 h13
      refine z_iload dX6_attributeNamed_46 rfl ?_
      exact z_ireturn dX6_attributeNamed_48 rfl rfl (hP _ _ _ hw hW)
def wX6_attributeNamed_b_9  (l1 l3 l4 : Int) (S : St) (K : Int → St → Prop) : Prop := ∃ (Iv : Int → Int → Int → St → Prop) (mu : Int → Int → Int → St → Nat), Iv l1 l3 l4 S ∧ ∀ (l1 l3 l4 : Int) (S : St), Iv l1 l3 l4 S → wX6_attributeNamed_b_9' l1 l3 l4 S K  (fun ml1 ml3 ml4 T => Iv ml1 ml3 ml4 T ∧ mu ml1 ml3 ml4 T < mu l1 l3 l4 S)
set_option maxRecDepth 100000 in
set_option maxHeartbeats 4000000 in
theorem ubX6_attributeNamed_b_9 {G : xG} {v : Nat → Nat} {sh : Nat → Option Sh} {B : Nat × Nat} {c0 : List va_E} {d : Nat} {Post : xP} {l1 l3 l4 : Int} {S : St} {cs : List va_E} {K : Int → St → Prop} (hd : 5 ≤ d) (hT : sb shC sh) (hS : ∀ b x, sh b = some x → ¬ isS b) (hU : sb shTr sh) (hW : Wv G v sh B c0 S cs) (hP : ∀ (x : Int) (S : St) (cs : List va_E), K x S → Wv G v sh B c0 S cs → Post (some (.int (Int32.ofInt x))) cs)  (hw : wX6_attributeNamed_b_9 l1 l3 l4 S K ) : Z (RX6, cX6_attributeNamed, 5, some .int, false) G d Post 9 [(0, .ref (G.1 + v 3)), (1, .int (Int32.ofInt (l1))), (2, .ref (G.2.2.2.1 25)), (3, .int (Int32.ofInt (l3))), (4, .int (Int32.ofInt (l4)))] [] cs := by
  unfold wX6_attributeNamed_b_9 at hw
  obtain ⟨Iv, mu, h0, hs⟩ := hw
  have key : ∀ (n : Nat) (l1 l3 l4 : Int) (S : St) (cs : List va_E), mu l1 l3 l4 S < n → Iv l1 l3 l4 S → Wv G v sh B c0 S cs → Z (RX6, cX6_attributeNamed, 5, some .int, false) G d Post 9 [(0, .ref (G.1 + v 3)), (1, .int (Int32.ofInt (l1))), (2, .ref (G.2.2.2.1 25)), (3, .int (Int32.ofInt (l3))), (4, .int (Int32.ofInt (l4)))] [] cs := by
    intro n
    induction n with
    | zero => intro l1 l3 l4 S cs hn; exact absurd hn (Nat.not_lt_zero _)
    | succ n ih =>
      intro l1 l3 l4 S cs hn hI hW
      exact ubX6_attributeNamed_b_9' hd hT hS hU hW hP  (fun l1 l3 l4 S cs hb hW => ih l1 l3 l4 S cs (Nat.lt_of_lt_of_le hb.2 (Nat.le_of_lt_succ hn)) hb.1 hW) (hs l1 l3 l4 S hI)
  exact key _ _ _ _ _ _ (Nat.lt_succ_self _) h0 hW
def wX6_attributeNamed_b  (a1 : Int) (S : St) (K : Int → St → Prop) : Prop := rng a1 → (wX6_firstAttribute (a1) S (fun r2 S1 => wX6_attributeNamed_b_9 (a1) (r2) (r2) S1 K))
set_option maxRecDepth 100000 in
set_option maxHeartbeats 4000000 in
theorem lX6_attributeNamed_b {G : xG} {v : Nat → Nat} {sh : Nat → Option Sh} {B : Nat × Nat} {c0 : List va_E}  {a1 : Int} {S : St} {cs : List va_E} {K : Int → St → Prop} (d : Nat) (hd : 5 ≤ d) (hT : sb shC sh) (hS : ∀ b x, sh b = some x → ¬ isS b) (hU : sb shTr sh) (hW : Wv G v sh B c0 S cs) (g1 : rng a1) (hw : wX6_attributeNamed_b a1 S K) : X G yX6_attributeNamed cX6_attributeNamed 5 (some .int) d [.ref (G.1 + v 3), .int (Int32.ofInt a1), .ref (G.2.2.2.1 25)] cs (vI G v sh B c0 K) := by
  refine X.of false (by decide +kernel) (by decide) (Nat.le_of_ble_eq_true rfl) ?_
  show Z (RX6, cX6_attributeNamed, 5, some .int, false) G d _ 0 [(0, .ref (G.1 + v 3)), (1, .int (Int32.ofInt a1)), (2, .ref (G.2.2.2.1 25))] [] cs
  have hP : ∀ (x : Int) (S : St) (cs : List va_E), K x S → Wv G v sh B c0 S cs → vI G v sh B c0 K (some (.int (Int32.ofInt x))) cs := fun x S cs a b => ⟨x, S, rfl, a, b⟩
  unfold wX6_attributeNamed_b at hw
  have hw := hw g1
  refine z_aload_n dX6_attributeNamed_0 rfl rfl ?_
  refine z_iload_n dX6_attributeNamed_1 rfl rfl ?_
  have hX := lX6_firstAttribute 1 (Nat.le_refl _) hT hS hU hW g1 hw
  refine z_callV (As := [_]) eX6_firstAttribute sX6_firstAttribute lX6_96 rfl dX6_attributeNamed_2 (hW.at (hU 3 _ rfl)) hX (Nat.le_trans (by decide) hd) rfl (Nat.le_of_ble_eq_true rfl) (fun r cs hp => ?_)
  obtain ⟨r2, S1, rfl, hw, hW⟩ := hp
  refine z_st (st' := [.int (Int32.ofInt (r2))]) rfl ?_
  refine z_istore_n dX6_attributeNamed_5 rfl (by decide) ?_
  refine z_loc (L' := [(0, .ref (G.1 + v 3)), (1, .int (Int32.ofInt (a1))), (2, .ref (G.2.2.2.1 25)), (3, .int (Int32.ofInt (r2)))]) (List.forall_mem_cons.mpr ⟨rfl, (List.forall_mem_cons.mpr ⟨rfl, (List.forall_mem_cons.mpr ⟨rfl, (List.forall_mem_cons.mpr ⟨rfl, (fun _ h => nomatch h)⟩)⟩)⟩)⟩) ?_
  refine z_iload_n dX6_attributeNamed_6 rfl rfl ?_
  refine z_istore dX6_attributeNamed_7 (by decide) ?_
  refine z_loc (L' := [(0, .ref (G.1 + v 3)), (1, .int (Int32.ofInt (a1))), (2, .ref (G.2.2.2.1 25)), (3, .int (Int32.ofInt (r2))), (4, .int (Int32.ofInt (r2)))]) (List.forall_mem_cons.mpr ⟨rfl, (List.forall_mem_cons.mpr ⟨rfl, (List.forall_mem_cons.mpr ⟨rfl, (List.forall_mem_cons.mpr ⟨rfl, (List.forall_mem_cons.mpr ⟨rfl, (fun _ h => nomatch h)⟩)⟩)⟩)⟩)⟩) ?_
  refine z_loc (L' := [(0, .ref (G.1 + v 3)), (1, .int (Int32.ofInt (a1))), (2, .ref (G.2.2.2.1 25)), (3, .int (Int32.ofInt (r2))), (4, .int (Int32.ofInt (r2)))]) (List.forall_mem_cons.mpr ⟨rfl, (List.forall_mem_cons.mpr ⟨rfl, (List.forall_mem_cons.mpr ⟨rfl, (List.forall_mem_cons.mpr ⟨rfl, (List.forall_mem_cons.mpr ⟨rfl, (fun _ h => nomatch h)⟩)⟩)⟩)⟩)⟩) ?_
  exact ubX6_attributeNamed_b_9 hd hT hS hU hW hP  hw

def wX4_spells_b_28'  (l1 l3 l5 : Int) (S : St) (K : Int → St → Prop) (B28 : Int → Int → Int → St → Prop) : Prop := ((0 : Int) ≤ l1 ∧ l1 < (30 : Int) ∧ (iv 0 16 (S.2 26 (l1)) → (rng (l5) ∧ ((S.2 26 (l1) ≤ l5 → K (1) S) ∧ ((¬ (S.2 26 (l1) ≤ l5)) → ((0 : Int) ≤ ((l1 * 16) + l5) ∧ ((l1 * 16) + l5) < (480 : Int) ∧ (iv 0 65535 (S.2 25 (((l1 * 16) + l5))) → (rng ((l3 + l5)) ∧ (wX5_at 4 ((l3 + l5)) S (fun r8 S7 => (rng (r8) ∧ ((S.2 25 (((l1 * 16) + l5)) = r8 → B28 (l1) (l3) ((l5 + 1)) S7) ∧ ((¬ (S.2 25 (((l1 * 16) + l5)) = r8)) → K (0) S7)))))))))))))
set_option maxRecDepth 100000 in
set_option maxHeartbeats 4000000 in
theorem ubX4_spells_b_28' {G : xG} {v : Nat → Nat} {sh : Nat → Option Sh} {B : Nat × Nat} {c0 : List va_E} {d : Nat} {Post : xP} {l1 l3 l5 : Int} {S : St} {cs : List va_E} {K : Int → St → Prop} {B28 : Int → Int → Int → St → Prop} (hd : 1 ≤ d) (hT : sb shC sh) (hS : ∀ b x, sh b = some x → ¬ isS b) (hW : Wv G v sh B c0 S cs) (hP : ∀ (x : Int) (S : St) (cs : List va_E), K x S → Wv G v sh B c0 S cs → Post (some (.int (Int32.ofInt x))) cs) (hB28 : ∀ (l1 : Int) (l3 : Int) (l5 : Int) (S : St) (cs : List va_E), B28 l1 l3 l5 S → Wv G v sh B c0 S cs → Z (RX4, cX4_spells, 6, some .boolean, false) G d Post 28 [(0, .ref (G.1 + v 24)), (1, .int (Int32.ofInt (l1))), (2, .ref (G.1 + v 4)), (3, .int (Int32.ofInt (l3))), (5, .int (Int32.ofInt (l5)))] [] cs) (hw : wX4_spells_b_28' l1 l3 l5 S K B28) : Z (RX4, cX4_spells, 6, some .boolean, false) G d Post 28 [(0, .ref (G.1 + v 24)), (1, .int (Int32.ofInt (l1))), (2, .ref (G.1 + v 4)), (3, .int (Int32.ofInt (l3))), (5, .int (Int32.ofInt (l5)))] [] cs := by
  unfold wX4_spells_b_28' at hw
  refine z_iload dX4_spells_28 rfl ?_
  refine z_aload_n dX4_spells_30 rfl rfl ?_
  refine v_getR hW (hT 24 _ rfl) rfl kX4 fX4_15 dX4_spells_31 ?_
  refine z_iload_n dX4_spells_34 rfl rfl ?_
  obtain ⟨q1a, q1b, hw⟩ := hw
  have q2 : iv 0 16 (S.2 26 (l1)) := hW.iA 26 _
  have hw := hw q2
  refine v_iald hW (hT 26 _ rfl) q1a q1b (by decide) dX4_spells_35 ?_
  obtain ⟨q4, hw⟩ := hw
  refine i_icmp_ge (tgt := 70) dX4_spells_36 (by decide) q4 (rngq q2 (by decide) (by decide)) (fun h3 => ?_) (fun h3 => ?_)
  · have hw := hw.1 h3
    refine z_iconst (v := Int32.ofInt 1) dX4_spells_70 rfl ?_
    exact z_ireturn dX4_spells_71 rfl (nar01 (by decide)) (hP _ _ _ hw hW)
  · have hw := hw.2 h3
    refine z_aload_n dX4_spells_39 rfl rfl ?_
    refine v_getR hW (hT 24 _ rfl) rfl kX4 fX4_11 dX4_spells_40 ?_
    refine z_iload_n dX4_spells_43 rfl rfl ?_
    refine z_bipush (v := Int32.ofInt 16) dX4_spells_44 (by decide) ?_
    refine i_imul dX4_spells_46 ?_
    refine z_iload dX4_spells_47 rfl ?_
    refine i_iadd dX4_spells_49 ?_
    obtain ⟨q5a, q5b, hw⟩ := hw
    have q6 : iv 0 65535 (S.2 25 (((l1 * 16) + l5))) := hW.iA 25 _
    have hw := hw q6
    refine v_cald hW (hT 25 _ rfl) q5a q5b (by decide) dX4_spells_50 ?_
    refine z_aload_n dX4_spells_51 rfl rfl ?_
    refine z_iload_n dX4_spells_52 rfl rfl ?_
    refine z_iload dX4_spells_53 rfl ?_
    refine i_iadd dX4_spells_55 ?_
    obtain ⟨q9, hw⟩ := hw
    have hX := lX5_at 0 (Nat.le_refl _) hW (show isS 4 by unfold isS; decide) (fun b x h e => hS b x h (e ▸ (show isS 4 by unfold isS; decide))) q9 hw
    refine z_callV (As := [_]) eX5_at sX5_at lX4_70 rfl dX4_spells_56 (hW.sg (show isS 4 by unfold isS; decide) (fun b x h e => hS b x h (e ▸ (show isS 4 by unfold isS; decide)))).choose_spec.choose_spec.choose_spec.choose_spec.1.choose_spec.1 hX (Nat.le_trans (by decide) hd) rfl (Nat.le_of_ble_eq_true rfl) (fun r cs hp => ?_)
    obtain ⟨r8, S7, rfl, hw, hW⟩ := hp
    refine z_st (st' := [.int (Int32.ofInt (r8)), .int (Int32.ofInt (S.2 25 (((l1 * 16) + l5))))]) rfl ?_
    obtain ⟨q11, hw⟩ := hw
    refine i_icmp_eq (tgt := 64) dX4_spells_59 (by decide) (rngq q6 (by decide) (by decide)) q11 (fun h10 => ?_) (fun h10 => ?_)
    · have hw := hw.1 h10
      refine i_iinc (l := l5) dX4_spells_64 rfl (by decide) ?_
      refine z_loc (L' := [(0, .ref (G.1 + v 24)), (1, .int (Int32.ofInt (l1))), (2, .ref (G.1 + v 4)), (3, .int (Int32.ofInt (l3))), (5, .int (Int32.ofInt ((l5 + 1))))]) (List.forall_mem_cons.mpr ⟨rfl, (List.forall_mem_cons.mpr ⟨rfl, (List.forall_mem_cons.mpr ⟨rfl, (List.forall_mem_cons.mpr ⟨rfl, (List.forall_mem_cons.mpr ⟨rfl, (fun _ h => nomatch h)⟩)⟩)⟩)⟩)⟩) ?_
      refine z_goto (tgt := 28) dX4_spells_67 (by decide) ?_
      refine z_loc (L' := [(0, .ref (G.1 + v 24)), (1, .int (Int32.ofInt (l1))), (2, .ref (G.1 + v 4)), (3, .int (Int32.ofInt (l3))), (5, .int (Int32.ofInt ((l5 + 1))))]) (List.forall_mem_cons.mpr ⟨rfl, (List.forall_mem_cons.mpr ⟨rfl, (List.forall_mem_cons.mpr ⟨rfl, (List.forall_mem_cons.mpr ⟨rfl, (List.forall_mem_cons.mpr ⟨rfl, (fun _ h => nomatch h)⟩)⟩)⟩)⟩)⟩) ?_
      exact hB28 _ _ _ _ _ hw hW
    · have hw := hw.2 h10
      refine z_iconst (v := Int32.ofInt 0) dX4_spells_62 rfl ?_
      exact z_ireturn dX4_spells_63 rfl (nar01 (by decide)) (hP _ _ _ hw hW)
def wX4_spells_b_28  (l1 l3 l5 : Int) (S : St) (K : Int → St → Prop) : Prop := ∃ (Iv : Int → Int → Int → St → Prop) (mu : Int → Int → Int → St → Nat), Iv l1 l3 l5 S ∧ ∀ (l1 l3 l5 : Int) (S : St), Iv l1 l3 l5 S → wX4_spells_b_28' l1 l3 l5 S K  (fun ml1 ml3 ml5 T => Iv ml1 ml3 ml5 T ∧ mu ml1 ml3 ml5 T < mu l1 l3 l5 S)
set_option maxRecDepth 100000 in
set_option maxHeartbeats 4000000 in
theorem ubX4_spells_b_28 {G : xG} {v : Nat → Nat} {sh : Nat → Option Sh} {B : Nat × Nat} {c0 : List va_E} {d : Nat} {Post : xP} {l1 l3 l5 : Int} {S : St} {cs : List va_E} {K : Int → St → Prop} (hd : 1 ≤ d) (hT : sb shC sh) (hS : ∀ b x, sh b = some x → ¬ isS b) (hW : Wv G v sh B c0 S cs) (hP : ∀ (x : Int) (S : St) (cs : List va_E), K x S → Wv G v sh B c0 S cs → Post (some (.int (Int32.ofInt x))) cs)  (hw : wX4_spells_b_28 l1 l3 l5 S K ) : Z (RX4, cX4_spells, 6, some .boolean, false) G d Post 28 [(0, .ref (G.1 + v 24)), (1, .int (Int32.ofInt (l1))), (2, .ref (G.1 + v 4)), (3, .int (Int32.ofInt (l3))), (5, .int (Int32.ofInt (l5)))] [] cs := by
  unfold wX4_spells_b_28 at hw
  obtain ⟨Iv, mu, h0, hs⟩ := hw
  have key : ∀ (n : Nat) (l1 l3 l5 : Int) (S : St) (cs : List va_E), mu l1 l3 l5 S < n → Iv l1 l3 l5 S → Wv G v sh B c0 S cs → Z (RX4, cX4_spells, 6, some .boolean, false) G d Post 28 [(0, .ref (G.1 + v 24)), (1, .int (Int32.ofInt (l1))), (2, .ref (G.1 + v 4)), (3, .int (Int32.ofInt (l3))), (5, .int (Int32.ofInt (l5)))] [] cs := by
    intro n
    induction n with
    | zero => intro l1 l3 l5 S cs hn; exact absurd hn (Nat.not_lt_zero _)
    | succ n ih =>
      intro l1 l3 l5 S cs hn hI hW
      exact ubX4_spells_b_28' hd hT hS hW hP  (fun l1 l3 l5 S cs hb hW => ih l1 l3 l5 S cs (Nat.lt_of_lt_of_le hb.2 (Nat.le_of_lt_succ hn)) hb.1 hW) (hs l1 l3 l5 S hI)
  exact key _ _ _ _ _ _ (Nat.lt_succ_self _) h0 hW
def wX4_spells_b  (a1 a2 a3 : Int) (S : St) (K : Int → St → Prop) : Prop := rng a1 → rng a2 → rng a3 → ((a1 < 0 → K (0) S) ∧ ((¬ (a1 < 0)) → ((30 ≤ a1 → K (0) S) ∧ ((¬ (30 ≤ a1)) → ((0 : Int) ≤ a1 ∧ a1 < (30 : Int) ∧ (iv 0 16 (S.2 26 (a1)) → (rng ((a3 - a2)) ∧ ((S.2 26 (a1) = (a3 - a2) → wX4_spells_b_28 (a1) (a2) (0) S K) ∧ ((¬ (S.2 26 (a1) = (a3 - a2))) → K (0) S)))))))))
set_option maxRecDepth 100000 in
set_option maxHeartbeats 4000000 in
theorem lX4_spells_b {G : xG} {v : Nat → Nat} {sh : Nat → Option Sh} {B : Nat × Nat} {c0 : List va_E}  {a1 a2 a3 : Int} {S : St} {cs : List va_E} {K : Int → St → Prop} (d : Nat) (hd : 1 ≤ d) (hT : sb shC sh) (hS : ∀ b x, sh b = some x → ¬ isS b) (hW : Wv G v sh B c0 S cs) (g1 : rng a1) (g2 : rng a2) (g3 : rng a3) (hw : wX4_spells_b a1 a2 a3 S K) : X G yX4_spells cX4_spells 6 (some .boolean) d [.ref (G.1 + v 24), .int (Int32.ofInt a1), .ref (G.1 + v 4), .int (Int32.ofInt a2), .int (Int32.ofInt a3)] cs (vI G v sh B c0 K) := by
  refine X.of false (by decide +kernel) (by decide) (Nat.le_of_ble_eq_true rfl) ?_
  show Z (RX4, cX4_spells, 6, some .boolean, false) G d _ 0 [(0, .ref (G.1 + v 24)), (1, .int (Int32.ofInt a1)), (2, .ref (G.1 + v 4)), (3, .int (Int32.ofInt a2)), (4, .int (Int32.ofInt a3))] [] cs
  have hP : ∀ (x : Int) (S : St) (cs : List va_E), K x S → Wv G v sh B c0 S cs → vI G v sh B c0 K (some (.int (Int32.ofInt x))) cs := fun x S cs a b => ⟨x, S, rfl, a, b⟩
  unfold wX4_spells_b at hw
  have hw := hw g1 g2 g3
  refine z_iload_n dX4_spells_0 rfl rfl ?_
  refine i_if_lt (tgt := 23) dX4_spells_1 (by decide) g1 (fun h1 => ?_) (fun h1 => ?_)
  · have hw := hw.1 h1
    refine z_iconst (v := Int32.ofInt 0) dX4_spells_23 rfl ?_
    exact z_ireturn dX4_spells_24 rfl (nar01 (by decide)) (hP _ _ _ hw hW)
  · have hw := hw.2 h1
    refine z_iload_n dX4_spells_4 rfl rfl ?_
    refine z_bipush (v := Int32.ofInt 30) dX4_spells_5 (by decide) ?_
    refine i_icmp_ge (tgt := 23) dX4_spells_7 (by decide) g1 ⟨by decide, by decide⟩ (fun h2 => ?_) (fun h2 => ?_)
    · have hw := hw.1 h2
      refine z_iconst (v := Int32.ofInt 0) dX4_spells_23 rfl ?_
      exact z_ireturn dX4_spells_24 rfl (nar01 (by decide)) (hP _ _ _ hw hW)
    · have hw := hw.2 h2
      refine z_aload_n dX4_spells_10 rfl rfl ?_
      refine v_getR hW (hT 24 _ rfl) rfl kX4 fX4_15 dX4_spells_11 ?_
      refine z_iload_n dX4_spells_14 rfl rfl ?_
      obtain ⟨q3a, q3b, hw⟩ := hw
      have q4 : iv 0 16 (S.2 26 (a1)) := hW.iA 26 _
      have hw := hw q4
      refine v_iald hW (hT 26 _ rfl) q3a q3b (by decide) dX4_spells_15 ?_
      refine z_iload dX4_spells_16 rfl ?_
      refine z_iload_n dX4_spells_18 rfl rfl ?_
      refine i_isub dX4_spells_19 ?_
      obtain ⟨q6, hw⟩ := hw
      refine i_icmp_eq (tgt := 25) dX4_spells_20 (by decide) (rngq q4 (by decide) (by decide)) q6 (fun h5 => ?_) (fun h5 => ?_)
      · have hw := hw.1 h5
        refine z_iconst (v := Int32.ofInt 0) dX4_spells_25 rfl ?_
        refine z_istore dX4_spells_26 (by decide) ?_
        refine z_loc (L' := [(0, .ref (G.1 + v 24)), (1, .int (Int32.ofInt (a1))), (2, .ref (G.1 + v 4)), (3, .int (Int32.ofInt (a2))), (4, .int (Int32.ofInt (a3))), (5, .int (Int32.ofInt (0)))]) (List.forall_mem_cons.mpr ⟨rfl, (List.forall_mem_cons.mpr ⟨rfl, (List.forall_mem_cons.mpr ⟨rfl, (List.forall_mem_cons.mpr ⟨rfl, (List.forall_mem_cons.mpr ⟨rfl, (List.forall_mem_cons.mpr ⟨rfl, (fun _ h => nomatch h)⟩)⟩)⟩)⟩)⟩)⟩) ?_
        refine z_loc (L' := [(0, .ref (G.1 + v 24)), (1, .int (Int32.ofInt (a1))), (2, .ref (G.1 + v 4)), (3, .int (Int32.ofInt (a2))), (5, .int (Int32.ofInt (0)))]) (List.forall_mem_cons.mpr ⟨rfl, (List.forall_mem_cons.mpr ⟨rfl, (List.forall_mem_cons.mpr ⟨rfl, (List.forall_mem_cons.mpr ⟨rfl, (List.forall_mem_cons.mpr ⟨rfl, (fun _ h => nomatch h)⟩)⟩)⟩)⟩)⟩) ?_
        exact ubX4_spells_b_28 hd hT hS hW hP  hw
      · have hw := hw.2 h5
        refine z_iconst (v := Int32.ofInt 0) dX4_spells_23 rfl ?_
        exact z_ireturn dX4_spells_24 rfl (nar01 (by decide)) (hP _ _ _ hw hW)

