def wX2_pairs_22  (l1 l2 : Int) (S : St) (K : Int → St → Prop) : Prop := (rng (l1) ∧ (wX1_has (l1) S (fun r2 S1 => (rng (l2) ∧ (wX1_has_c (l2) S1 (fun r5 S4 => (rng (r2) ∧ (rng (r5) ∧ ((¬ r2 = r5 → K (0) S4) ∧ ((¬ (¬ r2 = r5)) → K (1) S4))))))))))
set_option maxRecDepth 100000 in
set_option maxHeartbeats 4000000 in
theorem ubX2_pairs_22 {G : xG} {v : Nat → Nat} {sh : Nat → Option Sh} {B : Nat × Nat} {c0 : List va_E} {d : Nat} {Post : xP} {l1 l2 : Int} {S : St} {cs : List va_E} {K : Int → St → Prop} (hd : 2 ≤ d) (hT : sb shC sh) (hS : ∀ b x, sh b = some x → ¬ isS b) (hU : sb shLi sh) (hW : Wv G v sh B c0 S cs) (hP : ∀ (x : Int) (S : St) (cs : List va_E), K x S → Wv G v sh B c0 S cs → Post (some (.int (Int32.ofInt x))) cs)  (hw : wX2_pairs_22 l1 l2 S K ) : Z (RX2, cX2_pairs, 3, some .boolean, false) G d Post 22 [(0, .ref (G.1 + v 250)), (1, .int (Int32.ofInt (l1))), (2, .int (Int32.ofInt (l2)))] [] cs := by
  unfold wX2_pairs_22 at hw
  refine z_aload_n dX2_pairs_22 rfl rfl ?_
  refine v_getR hW (hU 250 _ rfl) rfl kX2 fX2_29 dX2_pairs_23 ?_
  refine z_iload_n dX2_pairs_26 rfl rfl ?_
  obtain ⟨q3, hw⟩ := hw
  have hX := lX1_has 0 (Nat.le_refl _) hT hS hW q3 hw
  refine z_callV (As := [_]) eX1_has sX1_has lX2_49 rfl dX2_pairs_27 (hW.at (hT 42 _ rfl)) hX (Nat.le_trans (by decide) hd) rfl (Nat.le_of_ble_eq_true rfl) (fun r cs hp => ?_)
  obtain ⟨r2, S1, rfl, hw, hW⟩ := hp
  refine z_st (st' := [.int (Int32.ofInt (r2))]) rfl ?_
  refine z_aload_n dX2_pairs_30 rfl rfl ?_
  refine v_getR hW (hU 250 _ rfl) rfl kX2 fX2_33 dX2_pairs_31 ?_
  refine z_iload_n dX2_pairs_34 rfl rfl ?_
  obtain ⟨q6, hw⟩ := hw
  have hX := lX1_has_c 0 (Nat.le_refl _) hT hS hW q6 hw
  refine z_callV (As := [_]) eX1_has sX1_has lX2_49 rfl dX2_pairs_35 (hW.at (hT 46 _ rfl)) hX (Nat.le_trans (by decide) hd) rfl (Nat.le_of_ble_eq_true rfl) (fun r cs hp => ?_)
  obtain ⟨r5, S4, rfl, hw, hW⟩ := hp
  refine z_st (st' := [.int (Int32.ofInt (r5)), .int (Int32.ofInt (r2))]) rfl ?_
  obtain ⟨q8, hw⟩ := hw
  obtain ⟨q9, hw⟩ := hw
  refine i_icmp_ne (tgt := 45) dX2_pairs_38 (by decide) q8 q9 (fun h7 => ?_) (fun h7 => ?_)
  · have hw := hw.1 h7
    refine z_iconst (v := Int32.ofInt 0) dX2_pairs_45 rfl ?_
    exact z_ireturn dX2_pairs_46 rfl (nar01 (by decide)) (hP _ _ _ hw hW)
  · have hw := hw.2 h7
    refine z_iconst (v := Int32.ofInt 1) dX2_pairs_41 rfl ?_
    refine z_goto (tgt := 46) dX2_pairs_42 (by decide) ?_
    exact z_ireturn dX2_pairs_46 rfl (nar01 (by decide)) (hP _ _ _ hw hW)
def wX2_pairs_69  (l1 l2 : Int) (S : St) (K : Int → St → Prop) : Prop := ((0 : Int) ≤ l1 ∧ l1 < (30 : Int) ∧ (iv (-2147483648) 2147483647 (S.2 251 (l1)) → (rng (l2) ∧ ((¬ S.2 251 (l1) = l2 → K (0) S) ∧ ((¬ (¬ S.2 251 (l1) = l2)) → K (1) S)))))
set_option maxRecDepth 100000 in
set_option maxHeartbeats 4000000 in
theorem ubX2_pairs_69 {G : xG} {v : Nat → Nat} {sh : Nat → Option Sh} {B : Nat × Nat} {c0 : List va_E} {d : Nat} {Post : xP} {l1 l2 : Int} {S : St} {cs : List va_E} {K : Int → St → Prop} (hd : 2 ≤ d) (hT : sb shC sh) (hS : ∀ b x, sh b = some x → ¬ isS b) (hU : sb shLi sh) (hW : Wv G v sh B c0 S cs) (hP : ∀ (x : Int) (S : St) (cs : List va_E), K x S → Wv G v sh B c0 S cs → Post (some (.int (Int32.ofInt x))) cs)  (hw : wX2_pairs_69 l1 l2 S K ) : Z (RX2, cX2_pairs, 3, some .boolean, false) G d Post 69 [(0, .ref (G.1 + v 250)), (1, .int (Int32.ofInt (l1))), (2, .int (Int32.ofInt (l2)))] [] cs := by
  unfold wX2_pairs_69 at hw
  refine z_aload_n dX2_pairs_69 rfl rfl ?_
  refine v_getR hW (hU 250 _ rfl) rfl kX2 fX2_9 dX2_pairs_70 ?_
  refine z_iload_n dX2_pairs_73 rfl rfl ?_
  obtain ⟨q1a, q1b, hw⟩ := hw
  have q2 : iv (-2147483648) 2147483647 (S.2 251 (l1)) := hW.iA 251 _
  have hw := hw q2
  refine v_iald hW (hU 251 _ rfl) q1a q1b (by decide) dX2_pairs_74 ?_
  refine z_iload_n dX2_pairs_75 rfl rfl ?_
  obtain ⟨q4, hw⟩ := hw
  refine i_icmp_ne (tgt := 83) dX2_pairs_76 (by decide) (rngq q2 (by decide) (by decide)) q4 (fun h3 => ?_) (fun h3 => ?_)
  · have hw := hw.1 h3
    refine z_iconst (v := Int32.ofInt 0) dX2_pairs_83 rfl ?_
    exact z_ireturn dX2_pairs_84 rfl (nar01 (by decide)) (hP _ _ _ hw hW)
  · have hw := hw.2 h3
    refine z_iconst (v := Int32.ofInt 1) dX2_pairs_79 rfl ?_
    refine z_goto (tgt := 84) dX2_pairs_80 (by decide) ?_
    exact z_ireturn dX2_pairs_84 rfl (nar01 (by decide)) (hP _ _ _ hw hW)
def wX2_pairs  (a1 a2 : Int) (S : St) (K : Int → St → Prop) : Prop := rng a1 → rng a2 → (wX1_has (a1) S (fun r2 S1 => (rng (r2) ∧ ((r2 = 0 → wX2_pairs_22 (a1) (a2) S1 K) ∧ ((¬ (r2 = 0)) → (wX1_has_c (a2) S1 (fun r6 S5 => (rng (r6) ∧ ((¬ r6 = 0 → ((0 : Int) ≤ a1 ∧ a1 < (30 : Int) ∧ (iv (-2147483648) 2147483647 (S5.2 251 (a1)) → ((¬ S5.2 251 (a1) = (-2) → wX2_pairs_69 (a1) (a2) S5 K) ∧ ((¬ (¬ S5.2 251 (a1) = (-2))) → ((0 : Int) ≤ a2 ∧ a2 < (30 : Int) ∧ (iv (-2147483648) 2147483647 (S5.2 252 (a2)) → ((S5.2 252 (a2) = (-2) → (wX1_classOf (a1) S5 (fun r16 S15 => (wX1_classOf_c (a2) S15 (fun r18 S17 => (rng (r16) ∧ (rng (r18) ∧ ((¬ r16 = r18 → K (0) S17) ∧ ((¬ (¬ r16 = r18)) → (iv 0 30 (S17.1 250 6) → ((S17.1 250 6 < 30 → ((0 : Int) ≤ a1 ∧ a1 < (30 : Int) ∧ (iv (-2147483648) 2147483647 (a2) ∧ (∀ S25, S25 = pA S17 251 (a1) (a2) → ((0 : Int) ≤ a2 ∧ a2 < (30 : Int) ∧ (iv (-2147483648) 2147483647 (a1) ∧ (∀ S28, S28 = pA S25 252 (a2) (a1) → (iv 0 30 (S28.1 250 6) → ((0 : Int) ≤ S28.1 250 6 ∧ S28.1 250 6 < (30 : Int) ∧ (iv 0 29 (a1) ∧ (∀ S32, S32 = pA S28 253 (S28.1 250 6) (a1) → (iv 0 30 (S32.1 250 6) → (iv 0 30 ((S32.1 250 6 + 1)) ∧ (∀ S35, S35 = pI S32 250 6 ((S32.1 250 6 + 1)) → K (1) S35)))))))))))))) ∧ ((¬ (S17.1 250 6 < 30)) → K (0) S17)))))))))))) ∧ ((¬ (S5.2 252 (a2) = (-2))) → wX2_pairs_69 (a1) (a2) S5 K))))))))) ∧ ((¬ (¬ r6 = 0)) → wX2_pairs_22 (a1) (a2) S5 K))))))))))
set_option maxRecDepth 100000 in
set_option maxHeartbeats 4000000 in
theorem lX2_pairs {G : xG} {v : Nat → Nat} {sh : Nat → Option Sh} {B : Nat × Nat} {c0 : List va_E}  {a1 a2 : Int} {S : St} {cs : List va_E} {K : Int → St → Prop} (d : Nat) (hd : 2 ≤ d) (hT : sb shC sh) (hS : ∀ b x, sh b = some x → ¬ isS b) (hU : sb shLi sh) (hW : Wv G v sh B c0 S cs) (g1 : rng a1) (g2 : rng a2) (hw : wX2_pairs a1 a2 S K) : X G yX2_pairs cX2_pairs 3 (some .boolean) d [.ref (G.1 + v 250), .int (Int32.ofInt a1), .int (Int32.ofInt a2)] cs (vI G v sh B c0 K) := by
  refine X.of false (by decide +kernel) (by decide) (Nat.le_of_ble_eq_true rfl) ?_
  show Z (RX2, cX2_pairs, 3, some .boolean, false) G d _ 0 [(0, .ref (G.1 + v 250)), (1, .int (Int32.ofInt a1)), (2, .int (Int32.ofInt a2))] [] cs
  have hP : ∀ (x : Int) (S : St) (cs : List va_E), K x S → Wv G v sh B c0 S cs → vI G v sh B c0 K (some (.int (Int32.ofInt x))) cs := fun x S cs a b => ⟨x, S, rfl, a, b⟩
  unfold wX2_pairs at hw
  have hw := hw g1 g2
  refine z_aload_n dX2_pairs_0 rfl rfl ?_
  refine v_getR hW (hU 250 _ rfl) rfl kX2 fX2_29 dX2_pairs_1 ?_
  refine z_iload_n dX2_pairs_4 rfl rfl ?_
  have hX := lX1_has 0 (Nat.le_refl _) hT hS hW g1 hw
  refine z_callV (As := [_]) eX1_has sX1_has lX2_49 rfl dX2_pairs_5 (hW.at (hT 42 _ rfl)) hX (Nat.le_trans (by decide) hd) rfl (Nat.le_of_ble_eq_true rfl) (fun r cs hp => ?_)
  obtain ⟨r2, S1, rfl, hw, hW⟩ := hp
  refine z_st (st' := [.int (Int32.ofInt (r2))]) rfl ?_
  obtain ⟨q4, hw⟩ := hw
  refine i_if_eq (tgt := 22) dX2_pairs_8 (by decide) q4 (fun h3 => ?_) (fun h3 => ?_)
  · have hw := hw.1 h3
    refine z_loc (L' := [(0, .ref (G.1 + v 250)), (1, .int (Int32.ofInt (a1))), (2, .int (Int32.ofInt (a2)))]) (List.forall_mem_cons.mpr ⟨rfl, (List.forall_mem_cons.mpr ⟨rfl, (List.forall_mem_cons.mpr ⟨rfl, (fun _ h => nomatch h)⟩)⟩)⟩) ?_
    exact ubX2_pairs_22 hd hT hS hU hW hP  hw
  · have hw := hw.2 h3
    refine z_aload_n dX2_pairs_11 rfl rfl ?_
    refine v_getR hW (hU 250 _ rfl) rfl kX2 fX2_33 dX2_pairs_12 ?_
    refine z_iload_n dX2_pairs_15 rfl rfl ?_
    have hX := lX1_has_c 0 (Nat.le_refl _) hT hS hW g2 hw
    refine z_callV (As := [_]) eX1_has sX1_has lX2_49 rfl dX2_pairs_16 (hW.at (hT 46 _ rfl)) hX (Nat.le_trans (by decide) hd) rfl (Nat.le_of_ble_eq_true rfl) (fun r cs hp => ?_)
    obtain ⟨r6, S5, rfl, hw, hW⟩ := hp
    refine z_st (st' := [.int (Int32.ofInt (r6))]) rfl ?_
    obtain ⟨q8, hw⟩ := hw
    refine i_if_ne (tgt := 47) dX2_pairs_19 (by decide) q8 (fun h7 => ?_) (fun h7 => ?_)
    · have hw := hw.1 h7
      refine z_aload_n dX2_pairs_47 rfl rfl ?_
      refine v_getR hW (hU 250 _ rfl) rfl kX2 fX2_9 dX2_pairs_48 ?_
      refine z_iload_n dX2_pairs_51 rfl rfl ?_
      obtain ⟨q9a, q9b, hw⟩ := hw
      have q10 : iv (-2147483648) 2147483647 (S5.2 251 (a1)) := hW.iA 251 _
      have hw := hw q10
      refine v_iald hW (hU 251 _ rfl) q9a q9b (by decide) dX2_pairs_52 ?_
      refine z_bipush (v := Int32.ofInt (-2)) dX2_pairs_53 (by decide) ?_
      refine i_icmp_ne (tgt := 69) dX2_pairs_55 (by decide) (rngq q10 (by decide) (by decide)) ⟨by decide, by decide⟩ (fun h11 => ?_) (fun h11 => ?_)
      · have hw := hw.1 h11
        refine z_loc (L' := [(0, .ref (G.1 + v 250)), (1, .int (Int32.ofInt (a1))), (2, .int (Int32.ofInt (a2)))]) (List.forall_mem_cons.mpr ⟨rfl, (List.forall_mem_cons.mpr ⟨rfl, (List.forall_mem_cons.mpr ⟨rfl, (fun _ h => nomatch h)⟩)⟩)⟩) ?_
        exact ubX2_pairs_69 hd hT hS hU hW hP  hw
      · have hw := hw.2 h11
        refine z_aload_n dX2_pairs_58 rfl rfl ?_
        refine v_getR hW (hU 250 _ rfl) rfl kX2 fX2_15 dX2_pairs_59 ?_
        refine z_iload_n dX2_pairs_62 rfl rfl ?_
        obtain ⟨q12a, q12b, hw⟩ := hw
        have q13 : iv (-2147483648) 2147483647 (S5.2 252 (a2)) := hW.iA 252 _
        have hw := hw q13
        refine v_iald hW (hU 252 _ rfl) q12a q12b (by decide) dX2_pairs_63 ?_
        refine z_bipush (v := Int32.ofInt (-2)) dX2_pairs_64 (by decide) ?_
        refine i_icmp_eq (tgt := 85) dX2_pairs_66 (by decide) (rngq q13 (by decide) (by decide)) ⟨by decide, by decide⟩ (fun h14 => ?_) (fun h14 => ?_)
        · have hw := hw.1 h14
          refine z_aload_n dX2_pairs_85 rfl rfl ?_
          refine v_getR hW (hU 250 _ rfl) rfl kX2 fX2_29 dX2_pairs_86 ?_
          refine z_iload_n dX2_pairs_89 rfl rfl ?_
          have hX := lX1_classOf 1 (Nat.le_refl _) hT hS hW g1 hw
          refine z_callV (As := [_]) eX1_classOf sX1_classOf lX2_55 rfl dX2_pairs_90 (hW.at (hT 42 _ rfl)) hX (Nat.le_trans (by decide) hd) rfl (Nat.le_of_ble_eq_true rfl) (fun r cs hp => ?_)
          obtain ⟨r16, S15, rfl, hw, hW⟩ := hp
          refine z_st (st' := [.int (Int32.ofInt (r16))]) rfl ?_
          refine z_aload_n dX2_pairs_93 rfl rfl ?_
          refine v_getR hW (hU 250 _ rfl) rfl kX2 fX2_33 dX2_pairs_94 ?_
          refine z_iload_n dX2_pairs_97 rfl rfl ?_
          have hX := lX1_classOf_c 1 (Nat.le_refl _) hT hS hW g2 hw
          refine z_callV (As := [_]) eX1_classOf sX1_classOf lX2_55 rfl dX2_pairs_98 (hW.at (hT 46 _ rfl)) hX (Nat.le_trans (by decide) hd) rfl (Nat.le_of_ble_eq_true rfl) (fun r cs hp => ?_)
          obtain ⟨r18, S17, rfl, hw, hW⟩ := hp
          refine z_st (st' := [.int (Int32.ofInt (r18)), .int (Int32.ofInt (r16))]) rfl ?_
          obtain ⟨q20, hw⟩ := hw
          obtain ⟨q21, hw⟩ := hw
          refine i_icmp_ne (tgt := 113) dX2_pairs_101 (by decide) q20 q21 (fun h19 => ?_) (fun h19 => ?_)
          · have hw := hw.1 h19
            refine z_iconst (v := Int32.ofInt 0) dX2_pairs_113 rfl ?_
            exact z_ireturn dX2_pairs_114 rfl (nar01 (by decide)) (hP _ _ _ hw hW)
          · have hw := hw.2 h19
            refine z_aload_n dX2_pairs_104 rfl rfl ?_
            have q22 : iv 0 30 (S17.1 250 6) := hW.iI 250 6
            have hw := hw q22
            refine v_getI hW (hU 250 _ rfl) rfl kX2 fX2_21 dX2_pairs_105 ?_
            refine z_bipush (v := Int32.ofInt 30) dX2_pairs_108 (by decide) ?_
            refine i_icmp_lt (tgt := 115) dX2_pairs_110 (by decide) (rngq q22 (by decide) (by decide)) ⟨by decide, by decide⟩ (fun h23 => ?_) (fun h23 => ?_)
            · have hw := hw.1 h23
              refine z_aload_n dX2_pairs_115 rfl rfl ?_
              refine v_getR hW (hU 250 _ rfl) rfl kX2 fX2_9 dX2_pairs_116 ?_
              refine z_iload_n dX2_pairs_119 rfl rfl ?_
              refine z_iload_n dX2_pairs_120 rfl rfl ?_
              obtain ⟨q24a, q24b, hw⟩ := hw
              obtain ⟨q26, hw⟩ := hw
              refine v_iast hW (hU 251 _ rfl) (by decide) (by unfold isS; decide) q24a q24b (by decide) q26 dX2_pairs_121 (fun cs hW => ?_)
              obtain ⟨S25, hS25⟩ : ∃ x, x = pA S17 251 (a1) (a2) := ⟨_, rfl⟩
              rw [← hS25] at hW
              have hw := hw S25 hS25
              refine z_aload_n dX2_pairs_122 rfl rfl ?_
              refine v_getR hW (hU 250 _ rfl) rfl kX2 fX2_15 dX2_pairs_123 ?_
              refine z_iload_n dX2_pairs_126 rfl rfl ?_
              refine z_iload_n dX2_pairs_127 rfl rfl ?_
              obtain ⟨q27a, q27b, hw⟩ := hw
              obtain ⟨q29, hw⟩ := hw
              refine v_iast hW (hU 252 _ rfl) (by decide) (by unfold isS; decide) q27a q27b (by decide) q29 dX2_pairs_128 (fun cs hW => ?_)
              obtain ⟨S28, hS28⟩ : ∃ x, x = pA S25 252 (a2) (a1) := ⟨_, rfl⟩
              rw [← hS28] at hW
              have hw := hw S28 hS28
              refine z_aload_n dX2_pairs_129 rfl rfl ?_
              refine v_getR hW (hU 250 _ rfl) rfl kX2 fX2_18 dX2_pairs_130 ?_
              refine z_aload_n dX2_pairs_133 rfl rfl ?_
              have q30 : iv 0 30 (S28.1 250 6) := hW.iI 250 6
              have hw := hw q30
              refine v_getI hW (hU 250 _ rfl) rfl kX2 fX2_21 dX2_pairs_134 ?_
              refine z_iload_n dX2_pairs_137 rfl rfl ?_
              obtain ⟨q31a, q31b, hw⟩ := hw
              obtain ⟨q33, hw⟩ := hw
              refine v_iast hW (hU 253 _ rfl) (by decide) (by unfold isS; decide) q31a q31b (by decide) q33 dX2_pairs_138 (fun cs hW => ?_)
              obtain ⟨S32, hS32⟩ : ∃ x, x = pA S28 253 (S28.1 250 6) (a1) := ⟨_, rfl⟩
              rw [← hS32] at hW
              have hw := hw S32 hS32
              refine z_aload_n dX2_pairs_139 rfl rfl ?_
              refine z_dup dX2_pairs_140 rfl ?_
              have q34 : iv 0 30 (S32.1 250 6) := hW.iI 250 6
              have hw := hw q34
              refine v_getI hW (hU 250 _ rfl) rfl kX2 fX2_21 dX2_pairs_141 ?_
              refine z_iconst (v := Int32.ofInt 1) dX2_pairs_144 rfl ?_
              refine i_iadd dX2_pairs_145 ?_
              obtain ⟨q36, hw⟩ := hw
              refine v_putI hW (hU 250 _ rfl) (by decide) (by unfold isS; decide) rfl kX2 fX2_21 dX2_pairs_146 rfl rfl rfl q36 (fun cs hW => ?_)
              obtain ⟨S35, hS35⟩ : ∃ x, x = pI S32 250 6 ((S32.1 250 6 + 1)) := ⟨_, rfl⟩
              rw [← hS35] at hW
              have hw := hw S35 hS35
              refine z_iconst (v := Int32.ofInt 1) dX2_pairs_149 rfl ?_
              exact z_ireturn dX2_pairs_150 rfl (nar01 (by decide)) (hP _ _ _ hw hW)
            · have hw := hw.2 h23
              refine z_iconst (v := Int32.ofInt 0) dX2_pairs_113 rfl ?_
              exact z_ireturn dX2_pairs_114 rfl (nar01 (by decide)) (hP _ _ _ hw hW)
        · have hw := hw.2 h14
          refine z_loc (L' := [(0, .ref (G.1 + v 250)), (1, .int (Int32.ofInt (a1))), (2, .int (Int32.ofInt (a2)))]) (List.forall_mem_cons.mpr ⟨rfl, (List.forall_mem_cons.mpr ⟨rfl, (List.forall_mem_cons.mpr ⟨rfl, (fun _ h => nomatch h)⟩)⟩)⟩) ?_
          exact ubX2_pairs_69 hd hT hS hU hW hP  hw
    · have hw := hw.2 h7
      refine z_loc (L' := [(0, .ref (G.1 + v 250)), (1, .int (Int32.ofInt (a1))), (2, .int (Int32.ofInt (a2)))]) (List.forall_mem_cons.mpr ⟨rfl, (List.forall_mem_cons.mpr ⟨rfl, (List.forall_mem_cons.mpr ⟨rfl, (fun _ h => nomatch h)⟩)⟩)⟩) ?_
      exact ubX2_pairs_22 hd hT hS hU hW hP  hw

def wX2_areListsAlike_3'  (l1 l2 l3 l4 : Int) (S : St) (K : Int → St → Prop) (B3 : Int → Int → Int → Int → St → Prop) : Prop := (rng (l4) ∧ ((8 ≤ l4 → K (1) S) ∧ ((¬ (8 ≤ l4)) → (rng (l1) ∧ (rng (l3) ∧ (wX1_head (l1) (l3) S (fun r4 S3 => (rng (r4) ∧ ((r4 ≤ l4 → K (1) S3) ∧ ((¬ (r4 ≤ l4)) → (wX1_cell (l1) (l3) (l4) S3 (fun r10 S9 => (rng (l2) ∧ (wX1_cell_b (l2) (l3) (l4) S9 (fun r12 S11 => (rng (r10) ∧ (rng (r12) ∧ (wX2_pairs (r10) (r12) S11 (fun r15 S14 => (rng (r15) ∧ ((¬ r15 = 0 → B3 (l1) (l2) (l3) ((l4 + 1)) S14) ∧ ((¬ (¬ r15 = 0)) → K (0) S14))))))))))))))))))))))
set_option maxRecDepth 100000 in
set_option maxHeartbeats 4000000 in
theorem ubX2_areListsAlike_3' {G : xG} {v : Nat → Nat} {sh : Nat → Option Sh} {B : Nat × Nat} {c0 : List va_E} {d : Nat} {Post : xP} {l1 l2 l3 l4 : Int} {S : St} {cs : List va_E} {K : Int → St → Prop} {B3 : Int → Int → Int → Int → St → Prop} (hd : 3 ≤ d) (hT : sb shC sh) (hS : ∀ b x, sh b = some x → ¬ isS b) (hU : sb shLi sh) (hW : Wv G v sh B c0 S cs) (hP : ∀ (x : Int) (S : St) (cs : List va_E), K x S → Wv G v sh B c0 S cs → Post (some (.int (Int32.ofInt x))) cs) (hB3 : ∀ (l1 : Int) (l2 : Int) (l3 : Int) (l4 : Int) (S : St) (cs : List va_E), B3 l1 l2 l3 l4 S → Wv G v sh B c0 S cs → Z (RX2, cX2_areListsAlike, 5, some .boolean, false) G d Post 3 [(0, .ref (G.1 + v 250)), (1, .int (Int32.ofInt (l1))), (2, .int (Int32.ofInt (l2))), (3, .int (Int32.ofInt (l3))), (4, .int (Int32.ofInt (l4)))] [] cs) (hw : wX2_areListsAlike_3' l1 l2 l3 l4 S K B3) : Z (RX2, cX2_areListsAlike, 5, some .boolean, false) G d Post 3 [(0, .ref (G.1 + v 250)), (1, .int (Int32.ofInt (l1))), (2, .int (Int32.ofInt (l2))), (3, .int (Int32.ofInt (l3))), (4, .int (Int32.ofInt (l4)))] [] cs := by
  unfold wX2_areListsAlike_3' at hw
  refine z_iload dX2_areListsAlike_3 rfl ?_
  refine z_bipush (v := Int32.ofInt 8) dX2_areListsAlike_5 (by decide) ?_
  obtain ⟨q2, hw⟩ := hw
  refine i_icmp_ge (tgt := 61) dX2_areListsAlike_7 (by decide) q2 ⟨by decide, by decide⟩ (fun h1 => ?_) (fun h1 => ?_)
  · have hw := hw.1 h1
    refine z_iconst (v := Int32.ofInt 1) dX2_areListsAlike_61 rfl ?_
    exact z_ireturn dX2_areListsAlike_62 rfl (nar01 (by decide)) (hP _ _ _ hw hW)
  · have hw := hw.2 h1
    refine z_iload dX2_areListsAlike_10 rfl ?_
    refine z_aload_n dX2_areListsAlike_12 rfl rfl ?_
    refine v_getR hW (hU 250 _ rfl) rfl kX2 fX2_29 dX2_areListsAlike_13 ?_
    refine z_iload_n dX2_areListsAlike_16 rfl rfl ?_
    refine z_iload_n dX2_areListsAlike_17 rfl rfl ?_
    obtain ⟨q5, hw⟩ := hw
    obtain ⟨q6, hw⟩ := hw
    have hX := lX1_head 1 (Nat.le_refl _) hT hS hW q5 q6 hw
    refine z_callV (As := [_, _]) eX1_head sX1_head lX2_68 rfl dX2_areListsAlike_18 (hW.at (hT 42 _ rfl)) hX (Nat.le_trans (by decide) hd) rfl (Nat.le_of_ble_eq_true rfl) (fun r cs hp => ?_)
    obtain ⟨r4, S3, rfl, hw, hW⟩ := hp
    refine z_st (st' := [.int (Int32.ofInt (r4)), .int (Int32.ofInt (l4))]) rfl ?_
    obtain ⟨q8, hw⟩ := hw
    refine i_icmp_ge (tgt := 61) dX2_areListsAlike_21 (by decide) q2 q8 (fun h7 => ?_) (fun h7 => ?_)
    · have hw := hw.1 h7
      refine z_iconst (v := Int32.ofInt 1) dX2_areListsAlike_61 rfl ?_
      exact z_ireturn dX2_areListsAlike_62 rfl (nar01 (by decide)) (hP _ _ _ hw hW)
    · have hw := hw.2 h7
      refine z_aload_n dX2_areListsAlike_24 rfl rfl ?_
      refine z_aload_n dX2_areListsAlike_25 rfl rfl ?_
      refine v_getR hW (hU 250 _ rfl) rfl kX2 fX2_29 dX2_areListsAlike_26 ?_
      refine z_iload_n dX2_areListsAlike_29 rfl rfl ?_
      refine z_iload_n dX2_areListsAlike_30 rfl rfl ?_
      refine z_iload dX2_areListsAlike_31 rfl ?_
      have hX := lX1_cell 1 (Nat.le_refl _) hT hS hW q5 q6 q2 hw
      refine z_callV (As := [_, _, _]) eX1_cell sX1_cell lX2_78 rfl dX2_areListsAlike_33 (hW.at (hT 42 _ rfl)) hX (Nat.le_trans (by decide) hd) rfl (Nat.le_of_ble_eq_true rfl) (fun r cs hp => ?_)
      obtain ⟨r10, S9, rfl, hw, hW⟩ := hp
      refine z_st (st' := [.int (Int32.ofInt (r10)), .ref (G.1 + v 250)]) rfl ?_
      refine z_aload_n dX2_areListsAlike_36 rfl rfl ?_
      refine v_getR hW (hU 250 _ rfl) rfl kX2 fX2_33 dX2_areListsAlike_37 ?_
      refine z_iload_n dX2_areListsAlike_40 rfl rfl ?_
      refine z_iload_n dX2_areListsAlike_41 rfl rfl ?_
      refine z_iload dX2_areListsAlike_42 rfl ?_
      obtain ⟨q13, hw⟩ := hw
      have hX := lX1_cell_b 1 (Nat.le_refl _) hT hS hW q13 q6 q2 hw
      refine z_callV (As := [_, _, _]) eX1_cell sX1_cell lX2_78 rfl dX2_areListsAlike_44 (hW.at (hT 46 _ rfl)) hX (Nat.le_trans (by decide) hd) rfl (Nat.le_of_ble_eq_true rfl) (fun r cs hp => ?_)
      obtain ⟨r12, S11, rfl, hw, hW⟩ := hp
      refine z_st (st' := [.int (Int32.ofInt (r12)), .int (Int32.ofInt (r10)), .ref (G.1 + v 250)]) rfl ?_
      obtain ⟨q16, hw⟩ := hw
      obtain ⟨q17, hw⟩ := hw
      have hX := lX2_pairs 2 (Nat.le_refl _) hT hS hU hW q16 q17 hw
      refine z_callV (As := [_, _]) eX2_pairs sX2_pairs lX2_42 rfl dX2_areListsAlike_47 (hW.at (hU 250 _ rfl)) hX (Nat.le_trans (by decide) hd) rfl (Nat.le_of_ble_eq_true rfl) (fun r cs hp => ?_)
      obtain ⟨r15, S14, rfl, hw, hW⟩ := hp
      refine z_st (st' := [.int (Int32.ofInt (r15))]) rfl ?_
      obtain ⟨q19, hw⟩ := hw
      refine i_if_ne (tgt := 55) dX2_areListsAlike_50 (by decide) q19 (fun h18 => ?_) (fun h18 => ?_)
      · have hw := hw.1 h18
        refine i_iinc (l := l4) dX2_areListsAlike_55 rfl (by decide) ?_
        refine z_loc (L' := [(0, .ref (G.1 + v 250)), (1, .int (Int32.ofInt (l1))), (2, .int (Int32.ofInt (l2))), (3, .int (Int32.ofInt (l3))), (4, .int (Int32.ofInt ((l4 + 1))))]) (List.forall_mem_cons.mpr ⟨rfl, (List.forall_mem_cons.mpr ⟨rfl, (List.forall_mem_cons.mpr ⟨rfl, (List.forall_mem_cons.mpr ⟨rfl, (List.forall_mem_cons.mpr ⟨rfl, (fun _ h => nomatch h)⟩)⟩)⟩)⟩)⟩) ?_
        refine z_goto (tgt := 3) dX2_areListsAlike_58 (by decide) ?_
        refine z_loc (L' := [(0, .ref (G.1 + v 250)), (1, .int (Int32.ofInt (l1))), (2, .int (Int32.ofInt (l2))), (3, .int (Int32.ofInt (l3))), (4, .int (Int32.ofInt ((l4 + 1))))]) (List.forall_mem_cons.mpr ⟨rfl, (List.forall_mem_cons.mpr ⟨rfl, (List.forall_mem_cons.mpr ⟨rfl, (List.forall_mem_cons.mpr ⟨rfl, (List.forall_mem_cons.mpr ⟨rfl, (fun _ h => nomatch h)⟩)⟩)⟩)⟩)⟩) ?_
        exact hB3 _ _ _ _ _ _ hw hW
      · have hw := hw.2 h18
        refine z_iconst (v := Int32.ofInt 0) dX2_areListsAlike_53 rfl ?_
        exact z_ireturn dX2_areListsAlike_54 rfl (nar01 (by decide)) (hP _ _ _ hw hW)
def wX2_areListsAlike_3  (l1 l2 l3 l4 : Int) (S : St) (K : Int → St → Prop) : Prop := ∃ (Iv : Int → Int → Int → Int → St → Prop) (mu : Int → Int → Int → Int → St → Nat), Iv l1 l2 l3 l4 S ∧ ∀ (l1 l2 l3 l4 : Int) (S : St), Iv l1 l2 l3 l4 S → wX2_areListsAlike_3' l1 l2 l3 l4 S K  (fun ml1 ml2 ml3 ml4 T => Iv ml1 ml2 ml3 ml4 T ∧ mu ml1 ml2 ml3 ml4 T < mu l1 l2 l3 l4 S)
set_option maxRecDepth 100000 in
set_option maxHeartbeats 4000000 in
theorem ubX2_areListsAlike_3 {G : xG} {v : Nat → Nat} {sh : Nat → Option Sh} {B : Nat × Nat} {c0 : List va_E} {d : Nat} {Post : xP} {l1 l2 l3 l4 : Int} {S : St} {cs : List va_E} {K : Int → St → Prop} (hd : 3 ≤ d) (hT : sb shC sh) (hS : ∀ b x, sh b = some x → ¬ isS b) (hU : sb shLi sh) (hW : Wv G v sh B c0 S cs) (hP : ∀ (x : Int) (S : St) (cs : List va_E), K x S → Wv G v sh B c0 S cs → Post (some (.int (Int32.ofInt x))) cs)  (hw : wX2_areListsAlike_3 l1 l2 l3 l4 S K ) : Z (RX2, cX2_areListsAlike, 5, some .boolean, false) G d Post 3 [(0, .ref (G.1 + v 250)), (1, .int (Int32.ofInt (l1))), (2, .int (Int32.ofInt (l2))), (3, .int (Int32.ofInt (l3))), (4, .int (Int32.ofInt (l4)))] [] cs := by
  unfold wX2_areListsAlike_3 at hw
  obtain ⟨Iv, mu, h0, hs⟩ := hw
  have key : ∀ (n : Nat) (l1 l2 l3 l4 : Int) (S : St) (cs : List va_E), mu l1 l2 l3 l4 S < n → Iv l1 l2 l3 l4 S → Wv G v sh B c0 S cs → Z (RX2, cX2_areListsAlike, 5, some .boolean, false) G d Post 3 [(0, .ref (G.1 + v 250)), (1, .int (Int32.ofInt (l1))), (2, .int (Int32.ofInt (l2))), (3, .int (Int32.ofInt (l3))), (4, .int (Int32.ofInt (l4)))] [] cs := by
    intro n
    induction n with
    | zero => intro l1 l2 l3 l4 S cs hn; exact absurd hn (Nat.not_lt_zero _)
    | succ n ih =>
      intro l1 l2 l3 l4 S cs hn hI hW
      exact ubX2_areListsAlike_3' hd hT hS hU hW hP  (fun l1 l2 l3 l4 S cs hb hW => ih l1 l2 l3 l4 S cs (Nat.lt_of_lt_of_le hb.2 (Nat.le_of_lt_succ hn)) hb.1 hW) (hs l1 l2 l3 l4 S hI)
  exact key _ _ _ _ _ _ _ (Nat.lt_succ_self _) h0 hW
def wX2_areListsAlike  (a1 a2 a3 : Int) (S : St) (K : Int → St → Prop) : Prop := rng a1 → rng a2 → rng a3 → wX2_areListsAlike_3 (a1) (a2) (a3) (0) S K
set_option maxRecDepth 100000 in
set_option maxHeartbeats 4000000 in
theorem lX2_areListsAlike {G : xG} {v : Nat → Nat} {sh : Nat → Option Sh} {B : Nat × Nat} {c0 : List va_E}  {a1 a2 a3 : Int} {S : St} {cs : List va_E} {K : Int → St → Prop} (d : Nat) (hd : 3 ≤ d) (hT : sb shC sh) (hS : ∀ b x, sh b = some x → ¬ isS b) (hU : sb shLi sh) (hW : Wv G v sh B c0 S cs) (g1 : rng a1) (g2 : rng a2) (g3 : rng a3) (hw : wX2_areListsAlike a1 a2 a3 S K) : X G yX2_areListsAlike cX2_areListsAlike 5 (some .boolean) d [.ref (G.1 + v 250), .int (Int32.ofInt a1), .int (Int32.ofInt a2), .int (Int32.ofInt a3)] cs (vI G v sh B c0 K) := by
  refine X.of false (by decide +kernel) (by decide) (Nat.le_of_ble_eq_true rfl) ?_
  show Z (RX2, cX2_areListsAlike, 5, some .boolean, false) G d _ 0 [(0, .ref (G.1 + v 250)), (1, .int (Int32.ofInt a1)), (2, .int (Int32.ofInt a2)), (3, .int (Int32.ofInt a3))] [] cs
  have hP : ∀ (x : Int) (S : St) (cs : List va_E), K x S → Wv G v sh B c0 S cs → vI G v sh B c0 K (some (.int (Int32.ofInt x))) cs := fun x S cs a b => ⟨x, S, rfl, a, b⟩
  unfold wX2_areListsAlike at hw
  have hw := hw g1 g2 g3
  refine z_iconst (v := Int32.ofInt 0) dX2_areListsAlike_0 rfl ?_
  refine z_istore dX2_areListsAlike_1 (by decide) ?_
  refine z_loc (L' := [(0, .ref (G.1 + v 250)), (1, .int (Int32.ofInt (a1))), (2, .int (Int32.ofInt (a2))), (3, .int (Int32.ofInt (a3))), (4, .int (Int32.ofInt (0)))]) (List.forall_mem_cons.mpr ⟨rfl, (List.forall_mem_cons.mpr ⟨rfl, (List.forall_mem_cons.mpr ⟨rfl, (List.forall_mem_cons.mpr ⟨rfl, (List.forall_mem_cons.mpr ⟨rfl, (fun _ h => nomatch h)⟩)⟩)⟩)⟩)⟩) ?_
  refine z_loc (L' := [(0, .ref (G.1 + v 250)), (1, .int (Int32.ofInt (a1))), (2, .int (Int32.ofInt (a2))), (3, .int (Int32.ofInt (a3))), (4, .int (Int32.ofInt (0)))]) (List.forall_mem_cons.mpr ⟨rfl, (List.forall_mem_cons.mpr ⟨rfl, (List.forall_mem_cons.mpr ⟨rfl, (List.forall_mem_cons.mpr ⟨rfl, (List.forall_mem_cons.mpr ⟨rfl, (fun _ h => nomatch h)⟩)⟩)⟩)⟩)⟩) ?_
  exact ubX2_areListsAlike_3 hd hT hS hU hW hP  hw

def wX2_areTextsAlike_3'  (l1 l2 l3 l4 : Int) (S : St) (K : Int → St → Prop) (B3 : Int → Int → Int → Int → St → Prop) : Prop := (rng (l4) ∧ ((20 ≤ l4 → K (1) S) ∧ ((¬ (20 ≤ l4)) → (rng (l1) ∧ (rng (l3) ∧ (wX1_head (l1) (l3) S (fun r4 S3 => (rng (r4) ∧ ((r4 ≤ l4 → K (1) S3) ∧ ((¬ (r4 ≤ l4)) → (wX1_cell (l1) (l3) (l4) S3 (fun r10 S9 => (rng (l2) ∧ (wX1_cell_b (l2) (l3) (l4) S9 (fun r12 S11 => (rng (r10) ∧ (rng (r12) ∧ ((r10 = r12 → B3 (l1) (l2) (l3) ((l4 + 1)) S11) ∧ ((¬ (r10 = r12)) → K (0) S11)))))))))))))))))))
set_option maxRecDepth 100000 in
set_option maxHeartbeats 4000000 in
theorem ubX2_areTextsAlike_3' {G : xG} {v : Nat → Nat} {sh : Nat → Option Sh} {B : Nat × Nat} {c0 : List va_E} {d : Nat} {Post : xP} {l1 l2 l3 l4 : Int} {S : St} {cs : List va_E} {K : Int → St → Prop} {B3 : Int → Int → Int → Int → St → Prop} (hd : 2 ≤ d) (hT : sb shC sh) (hS : ∀ b x, sh b = some x → ¬ isS b) (hU : sb shLi sh) (hW : Wv G v sh B c0 S cs) (hP : ∀ (x : Int) (S : St) (cs : List va_E), K x S → Wv G v sh B c0 S cs → Post (some (.int (Int32.ofInt x))) cs) (hB3 : ∀ (l1 : Int) (l2 : Int) (l3 : Int) (l4 : Int) (S : St) (cs : List va_E), B3 l1 l2 l3 l4 S → Wv G v sh B c0 S cs → Z (RX2, cX2_areTextsAlike, 5, some .boolean, false) G d Post 3 [(0, .ref (G.1 + v 250)), (1, .int (Int32.ofInt (l1))), (2, .int (Int32.ofInt (l2))), (3, .int (Int32.ofInt (l3))), (4, .int (Int32.ofInt (l4)))] [] cs) (hw : wX2_areTextsAlike_3' l1 l2 l3 l4 S K B3) : Z (RX2, cX2_areTextsAlike, 5, some .boolean, false) G d Post 3 [(0, .ref (G.1 + v 250)), (1, .int (Int32.ofInt (l1))), (2, .int (Int32.ofInt (l2))), (3, .int (Int32.ofInt (l3))), (4, .int (Int32.ofInt (l4)))] [] cs := by
  unfold wX2_areTextsAlike_3' at hw
  refine z_iload dX2_areTextsAlike_3 rfl ?_
  refine z_bipush (v := Int32.ofInt 20) dX2_areTextsAlike_5 (by decide) ?_
  obtain ⟨q2, hw⟩ := hw
  refine i_icmp_ge (tgt := 57) dX2_areTextsAlike_7 (by decide) q2 ⟨by decide, by decide⟩ (fun h1 => ?_) (fun h1 => ?_)
  · have hw := hw.1 h1
    refine z_iconst (v := Int32.ofInt 1) dX2_areTextsAlike_57 rfl ?_
    exact z_ireturn dX2_areTextsAlike_58 rfl (nar01 (by decide)) (hP _ _ _ hw hW)
  · have hw := hw.2 h1
    refine z_iload dX2_areTextsAlike_10 rfl ?_
    refine z_aload_n dX2_areTextsAlike_12 rfl rfl ?_
    refine v_getR hW (hU 250 _ rfl) rfl kX2 fX2_29 dX2_areTextsAlike_13 ?_
    refine z_iload_n dX2_areTextsAlike_16 rfl rfl ?_
    refine z_iload_n dX2_areTextsAlike_17 rfl rfl ?_
    obtain ⟨q5, hw⟩ := hw
    obtain ⟨q6, hw⟩ := hw
    have hX := lX1_head 1 (Nat.le_refl _) hT hS hW q5 q6 hw
    refine z_callV (As := [_, _]) eX1_head sX1_head lX2_68 rfl dX2_areTextsAlike_18 (hW.at (hT 42 _ rfl)) hX (Nat.le_trans (by decide) hd) rfl (Nat.le_of_ble_eq_true rfl) (fun r cs hp => ?_)
    obtain ⟨r4, S3, rfl, hw, hW⟩ := hp
    refine z_st (st' := [.int (Int32.ofInt (r4)), .int (Int32.ofInt (l4))]) rfl ?_
    obtain ⟨q8, hw⟩ := hw
    refine i_icmp_ge (tgt := 57) dX2_areTextsAlike_21 (by decide) q2 q8 (fun h7 => ?_) (fun h7 => ?_)
    · have hw := hw.1 h7
      refine z_iconst (v := Int32.ofInt 1) dX2_areTextsAlike_57 rfl ?_
      exact z_ireturn dX2_areTextsAlike_58 rfl (nar01 (by decide)) (hP _ _ _ hw hW)
    · have hw := hw.2 h7
      refine z_aload_n dX2_areTextsAlike_24 rfl rfl ?_
      refine v_getR hW (hU 250 _ rfl) rfl kX2 fX2_29 dX2_areTextsAlike_25 ?_
      refine z_iload_n dX2_areTextsAlike_28 rfl rfl ?_
      refine z_iload_n dX2_areTextsAlike_29 rfl rfl ?_
      refine z_iload dX2_areTextsAlike_30 rfl ?_
      have hX := lX1_cell 1 (Nat.le_refl _) hT hS hW q5 q6 q2 hw
      refine z_callV (As := [_, _, _]) eX1_cell sX1_cell lX2_78 rfl dX2_areTextsAlike_32 (hW.at (hT 42 _ rfl)) hX (Nat.le_trans (by decide) hd) rfl (Nat.le_of_ble_eq_true rfl) (fun r cs hp => ?_)
      obtain ⟨r10, S9, rfl, hw, hW⟩ := hp
      refine z_st (st' := [.int (Int32.ofInt (r10))]) rfl ?_
      refine z_aload_n dX2_areTextsAlike_35 rfl rfl ?_
      refine v_getR hW (hU 250 _ rfl) rfl kX2 fX2_33 dX2_areTextsAlike_36 ?_
      refine z_iload_n dX2_areTextsAlike_39 rfl rfl ?_
      refine z_iload_n dX2_areTextsAlike_40 rfl rfl ?_
      refine z_iload dX2_areTextsAlike_41 rfl ?_
      obtain ⟨q13, hw⟩ := hw
      have hX := lX1_cell_b 1 (Nat.le_refl _) hT hS hW q13 q6 q2 hw
      refine z_callV (As := [_, _, _]) eX1_cell sX1_cell lX2_78 rfl dX2_areTextsAlike_43 (hW.at (hT 46 _ rfl)) hX (Nat.le_trans (by decide) hd) rfl (Nat.le_of_ble_eq_true rfl) (fun r cs hp => ?_)
      obtain ⟨r12, S11, rfl, hw, hW⟩ := hp
      refine z_st (st' := [.int (Int32.ofInt (r12)), .int (Int32.ofInt (r10))]) rfl ?_
      obtain ⟨q15, hw⟩ := hw
      obtain ⟨q16, hw⟩ := hw
      refine i_icmp_eq (tgt := 51) dX2_areTextsAlike_46 (by decide) q15 q16 (fun h14 => ?_) (fun h14 => ?_)
      · have hw := hw.1 h14
        refine i_iinc (l := l4) dX2_areTextsAlike_51 rfl (by decide) ?_
        refine z_loc (L' := [(0, .ref (G.1 + v 250)), (1, .int (Int32.ofInt (l1))), (2, .int (Int32.ofInt (l2))), (3, .int (Int32.ofInt (l3))), (4, .int (Int32.ofInt ((l4 + 1))))]) (List.forall_mem_cons.mpr ⟨rfl, (List.forall_mem_cons.mpr ⟨rfl, (List.forall_mem_cons.mpr ⟨rfl, (List.forall_mem_cons.mpr ⟨rfl, (List.forall_mem_cons.mpr ⟨rfl, (fun _ h => nomatch h)⟩)⟩)⟩)⟩)⟩) ?_
        refine z_goto (tgt := 3) dX2_areTextsAlike_54 (by decide) ?_
        refine z_loc (L' := [(0, .ref (G.1 + v 250)), (1, .int (Int32.ofInt (l1))), (2, .int (Int32.ofInt (l2))), (3, .int (Int32.ofInt (l3))), (4, .int (Int32.ofInt ((l4 + 1))))]) (List.forall_mem_cons.mpr ⟨rfl, (List.forall_mem_cons.mpr ⟨rfl, (List.forall_mem_cons.mpr ⟨rfl, (List.forall_mem_cons.mpr ⟨rfl, (List.forall_mem_cons.mpr ⟨rfl, (fun _ h => nomatch h)⟩)⟩)⟩)⟩)⟩) ?_
        exact hB3 _ _ _ _ _ _ hw hW
      · have hw := hw.2 h14
        refine z_iconst (v := Int32.ofInt 0) dX2_areTextsAlike_49 rfl ?_
        exact z_ireturn dX2_areTextsAlike_50 rfl (nar01 (by decide)) (hP _ _ _ hw hW)
def wX2_areTextsAlike_3  (l1 l2 l3 l4 : Int) (S : St) (K : Int → St → Prop) : Prop := ∃ (Iv : Int → Int → Int → Int → St → Prop) (mu : Int → Int → Int → Int → St → Nat), Iv l1 l2 l3 l4 S ∧ ∀ (l1 l2 l3 l4 : Int) (S : St), Iv l1 l2 l3 l4 S → wX2_areTextsAlike_3' l1 l2 l3 l4 S K  (fun ml1 ml2 ml3 ml4 T => Iv ml1 ml2 ml3 ml4 T ∧ mu ml1 ml2 ml3 ml4 T < mu l1 l2 l3 l4 S)
set_option maxRecDepth 100000 in
set_option maxHeartbeats 4000000 in
theorem ubX2_areTextsAlike_3 {G : xG} {v : Nat → Nat} {sh : Nat → Option Sh} {B : Nat × Nat} {c0 : List va_E} {d : Nat} {Post : xP} {l1 l2 l3 l4 : Int} {S : St} {cs : List va_E} {K : Int → St → Prop} (hd : 2 ≤ d) (hT : sb shC sh) (hS : ∀ b x, sh b = some x → ¬ isS b) (hU : sb shLi sh) (hW : Wv G v sh B c0 S cs) (hP : ∀ (x : Int) (S : St) (cs : List va_E), K x S → Wv G v sh B c0 S cs → Post (some (.int (Int32.ofInt x))) cs)  (hw : wX2_areTextsAlike_3 l1 l2 l3 l4 S K ) : Z (RX2, cX2_areTextsAlike, 5, some .boolean, false) G d Post 3 [(0, .ref (G.1 + v 250)), (1, .int (Int32.ofInt (l1))), (2, .int (Int32.ofInt (l2))), (3, .int (Int32.ofInt (l3))), (4, .int (Int32.ofInt (l4)))] [] cs := by
  unfold wX2_areTextsAlike_3 at hw
  obtain ⟨Iv, mu, h0, hs⟩ := hw
  have key : ∀ (n : Nat) (l1 l2 l3 l4 : Int) (S : St) (cs : List va_E), mu l1 l2 l3 l4 S < n → Iv l1 l2 l3 l4 S → Wv G v sh B c0 S cs → Z (RX2, cX2_areTextsAlike, 5, some .boolean, false) G d Post 3 [(0, .ref (G.1 + v 250)), (1, .int (Int32.ofInt (l1))), (2, .int (Int32.ofInt (l2))), (3, .int (Int32.ofInt (l3))), (4, .int (Int32.ofInt (l4)))] [] cs := by
    intro n
    induction n with
    | zero => intro l1 l2 l3 l4 S cs hn; exact absurd hn (Nat.not_lt_zero _)
    | succ n ih =>
      intro l1 l2 l3 l4 S cs hn hI hW
      exact ubX2_areTextsAlike_3' hd hT hS hU hW hP  (fun l1 l2 l3 l4 S cs hb hW => ih l1 l2 l3 l4 S cs (Nat.lt_of_lt_of_le hb.2 (Nat.le_of_lt_succ hn)) hb.1 hW) (hs l1 l2 l3 l4 S hI)
  exact key _ _ _ _ _ _ _ (Nat.lt_succ_self _) h0 hW
def wX2_areTextsAlike  (a1 a2 a3 : Int) (S : St) (K : Int → St → Prop) : Prop := rng a1 → rng a2 → rng a3 → wX2_areTextsAlike_3 (a1) (a2) (a3) (0) S K
set_option maxRecDepth 100000 in
set_option maxHeartbeats 4000000 in
theorem lX2_areTextsAlike {G : xG} {v : Nat → Nat} {sh : Nat → Option Sh} {B : Nat × Nat} {c0 : List va_E}  {a1 a2 a3 : Int} {S : St} {cs : List va_E} {K : Int → St → Prop} (d : Nat) (hd : 2 ≤ d) (hT : sb shC sh) (hS : ∀ b x, sh b = some x → ¬ isS b) (hU : sb shLi sh) (hW : Wv G v sh B c0 S cs) (g1 : rng a1) (g2 : rng a2) (g3 : rng a3) (hw : wX2_areTextsAlike a1 a2 a3 S K) : X G yX2_areTextsAlike cX2_areTextsAlike 5 (some .boolean) d [.ref (G.1 + v 250), .int (Int32.ofInt a1), .int (Int32.ofInt a2), .int (Int32.ofInt a3)] cs (vI G v sh B c0 K) := by
  refine X.of false (by decide +kernel) (by decide) (Nat.le_of_ble_eq_true rfl) ?_
  show Z (RX2, cX2_areTextsAlike, 5, some .boolean, false) G d _ 0 [(0, .ref (G.1 + v 250)), (1, .int (Int32.ofInt a1)), (2, .int (Int32.ofInt a2)), (3, .int (Int32.ofInt a3))] [] cs
  have hP : ∀ (x : Int) (S : St) (cs : List va_E), K x S → Wv G v sh B c0 S cs → vI G v sh B c0 K (some (.int (Int32.ofInt x))) cs := fun x S cs a b => ⟨x, S, rfl, a, b⟩
  unfold wX2_areTextsAlike at hw
  have hw := hw g1 g2 g3
  refine z_iconst (v := Int32.ofInt 0) dX2_areTextsAlike_0 rfl ?_
  refine z_istore dX2_areTextsAlike_1 (by decide) ?_
  refine z_loc (L' := [(0, .ref (G.1 + v 250)), (1, .int (Int32.ofInt (a1))), (2, .int (Int32.ofInt (a2))), (3, .int (Int32.ofInt (a3))), (4, .int (Int32.ofInt (0)))]) (List.forall_mem_cons.mpr ⟨rfl, (List.forall_mem_cons.mpr ⟨rfl, (List.forall_mem_cons.mpr ⟨rfl, (List.forall_mem_cons.mpr ⟨rfl, (List.forall_mem_cons.mpr ⟨rfl, (fun _ h => nomatch h)⟩)⟩)⟩)⟩)⟩) ?_
  refine z_loc (L' := [(0, .ref (G.1 + v 250)), (1, .int (Int32.ofInt (a1))), (2, .int (Int32.ofInt (a2))), (3, .int (Int32.ofInt (a3))), (4, .int (Int32.ofInt (0)))]) (List.forall_mem_cons.mpr ⟨rfl, (List.forall_mem_cons.mpr ⟨rfl, (List.forall_mem_cons.mpr ⟨rfl, (List.forall_mem_cons.mpr ⟨rfl, (List.forall_mem_cons.mpr ⟨rfl, (fun _ h => nomatch h)⟩)⟩)⟩)⟩)⟩) ?_
  exact ubX2_areTextsAlike_3 hd hT hS hU hW hP  hw

def wX1_hasField_c  (a1 a2 : Int) (S : St) (K : Int → St → Prop) : Prop := rng a1 → rng a2 → ((a1 < 0 → K (0) S) ∧ ((¬ (a1 < 0)) → (iv 0 30 (S.1 46 3) → ((S.1 46 3 ≤ a1 → K (0) S) ∧ ((¬ (S.1 46 3 ≤ a1)) → ((a2 < 0 → K (0) S) ∧ ((¬ (a2 < 0)) → ((4 ≤ a2 → K (0) S) ∧ ((¬ (4 ≤ a2)) → K (1) S)))))))))
set_option maxRecDepth 100000 in
set_option maxHeartbeats 4000000 in
theorem lX1_hasField_c {G : xG} {v : Nat → Nat} {sh : Nat → Option Sh} {B : Nat × Nat} {c0 : List va_E}  {a1 a2 : Int} {S : St} {cs : List va_E} {K : Int → St → Prop} (d : Nat) (hd : 0 ≤ d) (hT : sb shC sh) (hS : ∀ b x, sh b = some x → ¬ isS b) (hW : Wv G v sh B c0 S cs) (g1 : rng a1) (g2 : rng a2) (hw : wX1_hasField_c a1 a2 S K) : X G yX1_hasField cX1_hasField 3 (some .boolean) d [.ref (G.1 + v 46), .int (Int32.ofInt a1), .int (Int32.ofInt a2)] cs (vI G v sh B c0 K) := by
  refine X.of false (by decide +kernel) (by decide) (Nat.le_of_ble_eq_true rfl) ?_
  show Z (RX1, cX1_hasField, 3, some .boolean, false) G d _ 0 [(0, .ref (G.1 + v 46)), (1, .int (Int32.ofInt a1)), (2, .int (Int32.ofInt a2))] [] cs
  have hP : ∀ (x : Int) (S : St) (cs : List va_E), K x S → Wv G v sh B c0 S cs → vI G v sh B c0 K (some (.int (Int32.ofInt x))) cs := fun x S cs a b => ⟨x, S, rfl, a, b⟩
  unfold wX1_hasField_c at hw
  have hw := hw g1 g2
  refine z_iload_n dX1_hasField_0 rfl rfl ?_
  refine i_if_lt (tgt := 25) dX1_hasField_1 (by decide) g1 (fun h1 => ?_) (fun h1 => ?_)
  · have hw := hw.1 h1
    refine z_iconst (v := Int32.ofInt 0) dX1_hasField_25 rfl ?_
    exact z_ireturn dX1_hasField_26 rfl (nar01 (by decide)) (hP _ _ _ hw hW)
  · have hw := hw.2 h1
    refine z_iload_n dX1_hasField_4 rfl rfl ?_
    refine z_aload_n dX1_hasField_5 rfl rfl ?_
    have q2 : iv 0 30 (S.1 46 3) := hW.iI 46 3
    have hw := hw q2
    refine v_getI hW (hT 46 _ rfl) rfl kX1 fX1_21 dX1_hasField_6 ?_
    refine i_icmp_ge (tgt := 25) dX1_hasField_9 (by decide) g1 (rngq q2 (by decide) (by decide)) (fun h3 => ?_) (fun h3 => ?_)
    · have hw := hw.1 h3
      refine z_iconst (v := Int32.ofInt 0) dX1_hasField_25 rfl ?_
      exact z_ireturn dX1_hasField_26 rfl (nar01 (by decide)) (hP _ _ _ hw hW)
    · have hw := hw.2 h3
      refine z_iload_n dX1_hasField_12 rfl rfl ?_
      refine i_if_lt (tgt := 25) dX1_hasField_13 (by decide) g2 (fun h4 => ?_) (fun h4 => ?_)
      · have hw := hw.1 h4
        refine z_iconst (v := Int32.ofInt 0) dX1_hasField_25 rfl ?_
        exact z_ireturn dX1_hasField_26 rfl (nar01 (by decide)) (hP _ _ _ hw hW)
      · have hw := hw.2 h4
        refine z_iload_n dX1_hasField_16 rfl rfl ?_
        refine z_iconst (v := Int32.ofInt 4) dX1_hasField_17 rfl ?_
        refine i_icmp_ge (tgt := 25) dX1_hasField_18 (by decide) g2 ⟨by decide, by decide⟩ (fun h5 => ?_) (fun h5 => ?_)
        · have hw := hw.1 h5
          refine z_iconst (v := Int32.ofInt 0) dX1_hasField_25 rfl ?_
          exact z_ireturn dX1_hasField_26 rfl (nar01 (by decide)) (hP _ _ _ hw hW)
        · have hw := hw.2 h5
          refine z_iconst (v := Int32.ofInt 1) dX1_hasField_21 rfl ?_
          refine z_goto (tgt := 26) dX1_hasField_22 (by decide) ?_
          exact z_ireturn dX1_hasField_26 rfl (nar01 (by decide)) (hP _ _ _ hw hW)

def wX1_head_c  (a1 a2 : Int) (S : St) (K : Int → St → Prop) : Prop := rng a1 → rng a2 → (wX1_hasField_c (a1) (a2) S (fun r2 S1 => (rng (r2) ∧ ((r2 = 0 → K (0) S1) ∧ ((¬ (r2 = 0)) → ((0 : Int) ≤ ((a1 * 4) + a2) ∧ ((a1 * 4) + a2) < (120 : Int) ∧ (iv (-2147483648) 2147483647 (S1.2 48 (((a1 * 4) + a2))) → K (S1.2 48 (((a1 * 4) + a2))) S1)))))))
set_option maxRecDepth 100000 in
set_option maxHeartbeats 4000000 in
theorem lX1_head_c {G : xG} {v : Nat → Nat} {sh : Nat → Option Sh} {B : Nat × Nat} {c0 : List va_E}  {a1 a2 : Int} {S : St} {cs : List va_E} {K : Int → St → Prop} (d : Nat) (hd : 1 ≤ d) (hT : sb shC sh) (hS : ∀ b x, sh b = some x → ¬ isS b) (hW : Wv G v sh B c0 S cs) (g1 : rng a1) (g2 : rng a2) (hw : wX1_head_c a1 a2 S K) : X G yX1_head cX1_head 3 (some .int) d [.ref (G.1 + v 46), .int (Int32.ofInt a1), .int (Int32.ofInt a2)] cs (vI G v sh B c0 K) := by
  refine X.of false (by decide +kernel) (by decide) (Nat.le_of_ble_eq_true rfl) ?_
  show Z (RX1, cX1_head, 3, some .int, false) G d _ 0 [(0, .ref (G.1 + v 46)), (1, .int (Int32.ofInt a1)), (2, .int (Int32.ofInt a2))] [] cs
  have hP : ∀ (x : Int) (S : St) (cs : List va_E), K x S → Wv G v sh B c0 S cs → vI G v sh B c0 K (some (.int (Int32.ofInt x))) cs := fun x S cs a b => ⟨x, S, rfl, a, b⟩
  unfold wX1_head_c at hw
  have hw := hw g1 g2
  refine z_aload_n dX1_head_0 rfl rfl ?_
  refine z_iload_n dX1_head_1 rfl rfl ?_
  refine z_iload_n dX1_head_2 rfl rfl ?_
  have hX := lX1_hasField_c 0 (Nat.le_refl _) hT hS hW g1 g2 hw
  refine z_callV (As := [_, _]) eX1_hasField sX1_hasField lX1_29 rfl dX1_head_3 (hW.at (hT 46 _ rfl)) hX (Nat.le_trans (by decide) hd) rfl (Nat.le_of_ble_eq_true rfl) (fun r cs hp => ?_)
  obtain ⟨r2, S1, rfl, hw, hW⟩ := hp
  refine z_st (st' := [.int (Int32.ofInt (r2))]) rfl ?_
  obtain ⟨q4, hw⟩ := hw
  refine i_if_eq (tgt := 22) dX1_head_6 (by decide) q4 (fun h3 => ?_) (fun h3 => ?_)
  · have hw := hw.1 h3
    refine z_iconst (v := Int32.ofInt 0) dX1_head_22 rfl ?_
    exact z_ireturn dX1_head_23 rfl rfl (hP _ _ _ hw hW)
  · have hw := hw.2 h3
    refine z_aload_n dX1_head_9 rfl rfl ?_
    refine v_getR hW (hT 46 _ rfl) rfl kX1 fX1_15 dX1_head_10 ?_
    refine z_iload_n dX1_head_13 rfl rfl ?_
    refine z_iconst (v := Int32.ofInt 4) dX1_head_14 rfl ?_
    refine i_imul dX1_head_15 ?_
    refine z_iload_n dX1_head_16 rfl rfl ?_
    refine i_iadd dX1_head_17 ?_
    obtain ⟨q5a, q5b, hw⟩ := hw
    have q6 : iv (-2147483648) 2147483647 (S1.2 48 (((a1 * 4) + a2))) := hW.iA 48 _
    have hw := hw q6
    refine v_iald hW (hT 48 _ rfl) q5a q5b (by decide) dX1_head_18 ?_
    refine z_goto (tgt := 23) dX1_head_19 (by decide) ?_
    exact z_ireturn dX1_head_23 rfl rfl (hP _ _ _ hw hW)

