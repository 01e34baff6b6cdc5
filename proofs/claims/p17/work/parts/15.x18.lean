def wX9_skipsToValue  (S : St) (K : Int → St → Prop) : Prop := (iv (-2147483648) 2147483647 (S.1 220 3) → (wX5_at 1 (S.1 220 3) S (fun r3 S2 => (rng (r3) ∧ ((r3 = 61 → (iv (-2147483648) 2147483647 (S2.1 220 3) → (iv (-2147483648) 2147483647 ((S2.1 220 3 + 1)) ∧ (∀ S7, S7 = pI S2 220 3 ((S2.1 220 3 + 1)) → (iv (-2147483648) 2147483647 (S7.1 220 3) → (wX5_at 1 (S7.1 220 3) S7 (fun r11 S10 => (rng (r11) ∧ ((r11 = 34 → (iv (-2147483648) 2147483647 (S10.1 220 3) → (iv (-2147483648) 2147483647 ((S10.1 220 3 + 1)) ∧ (∀ S15, S15 = pI S10 220 3 ((S10.1 220 3 + 1)) → K (1) S15)))) ∧ ((¬ (r11 = 34)) → (iv (-2147483648) 2147483647 (S10.1 220 3) → (wX5_at 1 (S10.1 220 3) S10 (fun r19 S18 => (rng (r19) ∧ ((r19 = 39 → (iv (-2147483648) 2147483647 (S18.1 220 3) → (iv (-2147483648) 2147483647 ((S18.1 220 3 + 1)) ∧ (∀ S23, S23 = pI S18 220 3 ((S18.1 220 3 + 1)) → K (1) S23)))) ∧ ((¬ (r19 = 39)) → K (0) S18)))))))))))))))) ∧ ((¬ (r3 = 61)) → K (0) S2))))))
set_option maxRecDepth 100000 in
set_option maxHeartbeats 4000000 in
theorem lX9_skipsToValue {G : xG} {v : Nat → Nat} {sh : Nat → Option Sh} {B : Nat × Nat} {c0 : List va_E}  {S : St} {cs : List va_E} {K : Int → St → Prop} (d : Nat) (hd : 1 ≤ d) (hT : sb shC sh) (hS : ∀ b x, sh b = some x → ¬ isS b) (hU : sb shXT sh) (hW : Wv G v sh B c0 S cs)  (hw : wX9_skipsToValue  S K) : X G yX9_skipsToValue cX9_skipsToValue 1 (some .boolean) d [.ref (G.1 + v 220)] cs (vI G v sh B c0 K) := by
  refine X.of false (by decide +kernel) (by decide) (Nat.le_of_ble_eq_true rfl) ?_
  show Z (RX9, cX9_skipsToValue, 1, some .boolean, false) G d _ 0 [(0, .ref (G.1 + v 220))] [] cs
  have hP : ∀ (x : Int) (S : St) (cs : List va_E), K x S → Wv G v sh B c0 S cs → vI G v sh B c0 K (some (.int (Int32.ofInt x))) cs := fun x S cs a b => ⟨x, S, rfl, a, b⟩
  unfold wX9_skipsToValue at hw
  refine z_aload_n dX9_skipsToValue_0 rfl rfl ?_
  refine v_getR hW (hU 220 _ rfl) rfl kX9 fX9_24 dX9_skipsToValue_1 ?_
  refine z_aload_n dX9_skipsToValue_4 rfl rfl ?_
  have q1 : iv (-2147483648) 2147483647 (S.1 220 3) := hW.iI 220 3
  have hw := hw q1
  refine v_getI hW (hU 220 _ rfl) rfl kX9 fX9_9 dX9_skipsToValue_5 ?_
  have hX := lX5_at 0 (Nat.le_refl _) hW (show isS 1 by unfold isS; decide) (fun b x h e => hS b x h (e ▸ (show isS 1 by unfold isS; decide))) (rngq q1 (by decide) (by decide)) hw
  refine z_callV (As := [_]) eX5_at sX5_at lX9_47 rfl dX9_skipsToValue_8 (hW.sg (show isS 1 by unfold isS; decide) (fun b x h e => hS b x h (e ▸ (show isS 1 by unfold isS; decide)))).choose_spec.choose_spec.choose_spec.choose_spec.1.choose_spec.1 hX (Nat.le_trans (by decide) hd) rfl (Nat.le_of_ble_eq_true rfl) (fun r cs hp => ?_)
  obtain ⟨r3, S2, rfl, hw, hW⟩ := hp
  refine z_st (st' := [.int (Int32.ofInt (r3))]) rfl ?_
  refine z_bipush (v := Int32.ofInt 61) dX9_skipsToValue_11 (by decide) ?_
  obtain ⟨q5, hw⟩ := hw
  refine i_icmp_eq (tgt := 18) dX9_skipsToValue_13 (by decide) q5 ⟨by decide, by decide⟩ (fun h4 => ?_) (fun h4 => ?_)
  · have hw := hw.1 h4
    refine z_aload_n dX9_skipsToValue_18 rfl rfl ?_
    refine z_dup dX9_skipsToValue_19 rfl ?_
    have q6 : iv (-2147483648) 2147483647 (S2.1 220 3) := hW.iI 220 3
    have hw := hw q6
    refine v_getI hW (hU 220 _ rfl) rfl kX9 fX9_9 dX9_skipsToValue_20 ?_
    refine z_iconst (v := Int32.ofInt 1) dX9_skipsToValue_23 rfl ?_
    refine i_iadd dX9_skipsToValue_24 ?_
    obtain ⟨q8, hw⟩ := hw
    refine v_putI hW (hU 220 _ rfl) (by decide) (by unfold isS; decide) rfl kX9 fX9_9 dX9_skipsToValue_25 rfl rfl rfl q8 (fun cs hW => ?_)
    obtain ⟨S7, hS7⟩ : ∃ x, x = pI S2 220 3 ((S2.1 220 3 + 1)) := ⟨_, rfl⟩
    rw [← hS7] at hW
    have hw := hw S7 hS7
    refine z_aload_n dX9_skipsToValue_28 rfl rfl ?_
    refine v_getR hW (hU 220 _ rfl) rfl kX9 fX9_24 dX9_skipsToValue_29 ?_
    refine z_aload_n dX9_skipsToValue_32 rfl rfl ?_
    have q9 : iv (-2147483648) 2147483647 (S7.1 220 3) := hW.iI 220 3
    have hw := hw q9
    refine v_getI hW (hU 220 _ rfl) rfl kX9 fX9_9 dX9_skipsToValue_33 ?_
    have hX := lX5_at 0 (Nat.le_refl _) hW (show isS 1 by unfold isS; decide) (fun b x h e => hS b x h (e ▸ (show isS 1 by unfold isS; decide))) (rngq q9 (by decide) (by decide)) hw
    refine z_callV (As := [_]) eX5_at sX5_at lX9_47 rfl dX9_skipsToValue_36 (hW.sg (show isS 1 by unfold isS; decide) (fun b x h e => hS b x h (e ▸ (show isS 1 by unfold isS; decide)))).choose_spec.choose_spec.choose_spec.choose_spec.1.choose_spec.1 hX (Nat.le_trans (by decide) hd) rfl (Nat.le_of_ble_eq_true rfl) (fun r cs hp => ?_)
    obtain ⟨r11, S10, rfl, hw, hW⟩ := hp
    refine z_st (st' := [.int (Int32.ofInt (r11))]) rfl ?_
    refine z_bipush (v := Int32.ofInt 34) dX9_skipsToValue_39 (by decide) ?_
    obtain ⟨q13, hw⟩ := hw
    refine i_icmp_eq (tgt := 62) dX9_skipsToValue_41 (by decide) q13 ⟨by decide, by decide⟩ (fun h12 => ?_) (fun h12 => ?_)
    · have hw := hw.1 h12
      refine z_aload_n dX9_skipsToValue_62 rfl rfl ?_
      refine z_dup dX9_skipsToValue_63 rfl ?_
      have q14 : iv (-2147483648) 2147483647 (S10.1 220 3) := hW.iI 220 3
      have hw := hw q14
      refine v_getI hW (hU 220 _ rfl) rfl kX9 fX9_9 dX9_skipsToValue_64 ?_
      refine z_iconst (v := Int32.ofInt 1) dX9_skipsToValue_67 rfl ?_
      refine i_iadd dX9_skipsToValue_68 ?_
      obtain ⟨q16, hw⟩ := hw
      refine v_putI hW (hU 220 _ rfl) (by decide) (by unfold isS; decide) rfl kX9 fX9_9 dX9_skipsToValue_69 rfl rfl rfl q16 (fun cs hW => ?_)
      obtain ⟨S15, hS15⟩ : ∃ x, x = pI S10 220 3 ((S10.1 220 3 + 1)) := ⟨_, rfl⟩
      rw [← hS15] at hW
      have hw := hw S15 hS15
      refine z_iconst (v := Int32.ofInt 1) dX9_skipsToValue_72 rfl ?_
      exact z_ireturn dX9_skipsToValue_73 rfl (nar01 (by decide)) (hP _ _ _ hw hW)
    · have hw := hw.2 h12
      refine z_aload_n dX9_skipsToValue_44 rfl rfl ?_
      refine v_getR hW (hU 220 _ rfl) rfl kX9 fX9_24 dX9_skipsToValue_45 ?_
      refine z_aload_n dX9_skipsToValue_48 rfl rfl ?_
      have q17 : iv (-2147483648) 2147483647 (S10.1 220 3) := hW.iI 220 3
      have hw := hw q17
      refine v_getI hW (hU 220 _ rfl) rfl kX9 fX9_9 dX9_skipsToValue_49 ?_
      have hX := lX5_at 0 (Nat.le_refl _) hW (show isS 1 by unfold isS; decide) (fun b x h e => hS b x h (e ▸ (show isS 1 by unfold isS; decide))) (rngq q17 (by decide) (by decide)) hw
      refine z_callV (As := [_]) eX5_at sX5_at lX9_47 rfl dX9_skipsToValue_52 (hW.sg (show isS 1 by unfold isS; decide) (fun b x h e => hS b x h (e ▸ (show isS 1 by unfold isS; decide)))).choose_spec.choose_spec.choose_spec.choose_spec.1.choose_spec.1 hX (Nat.le_trans (by decide) hd) rfl (Nat.le_of_ble_eq_true rfl) (fun r cs hp => ?_)
      obtain ⟨r19, S18, rfl, hw, hW⟩ := hp
      refine z_st (st' := [.int (Int32.ofInt (r19))]) rfl ?_
      refine z_bipush (v := Int32.ofInt 39) dX9_skipsToValue_55 (by decide) ?_
      obtain ⟨q21, hw⟩ := hw
      refine i_icmp_eq (tgt := 62) dX9_skipsToValue_57 (by decide) q21 ⟨by decide, by decide⟩ (fun h20 => ?_) (fun h20 => ?_)
      · have hw := hw.1 h20
        refine z_aload_n dX9_skipsToValue_62 rfl rfl ?_
        refine z_dup dX9_skipsToValue_63 rfl ?_
        have q22 : iv (-2147483648) 2147483647 (S18.1 220 3) := hW.iI 220 3
        have hw := hw q22
        refine v_getI hW (hU 220 _ rfl) rfl kX9 fX9_9 dX9_skipsToValue_64 ?_
        refine z_iconst (v := Int32.ofInt 1) dX9_skipsToValue_67 rfl ?_
        refine i_iadd dX9_skipsToValue_68 ?_
        obtain ⟨q24, hw⟩ := hw
        refine v_putI hW (hU 220 _ rfl) (by decide) (by unfold isS; decide) rfl kX9 fX9_9 dX9_skipsToValue_69 rfl rfl rfl q24 (fun cs hW => ?_)
        obtain ⟨S23, hS23⟩ : ∃ x, x = pI S18 220 3 ((S18.1 220 3 + 1)) := ⟨_, rfl⟩
        rw [← hS23] at hW
        have hw := hw S23 hS23
        refine z_iconst (v := Int32.ofInt 1) dX9_skipsToValue_72 rfl ?_
        exact z_ireturn dX9_skipsToValue_73 rfl (nar01 (by decide)) (hP _ _ _ hw hW)
      · have hw := hw.2 h20
        refine z_iconst (v := Int32.ofInt 0) dX9_skipsToValue_60 rfl ?_
        exact z_ireturn dX9_skipsToValue_61 rfl (nar01 (by decide)) (hP _ _ _ hw hW)
  · have hw := hw.2 h4
    refine z_iconst (v := Int32.ofInt 0) dX9_skipsToValue_16 rfl ?_
    exact z_ireturn dX9_skipsToValue_17 rfl (nar01 (by decide)) (hP _ _ _ hw hW)

def wX9_attribute_122  (l2 l3 l4 l5 : Int) (S : St) (K : Int → St → Prop) : Prop := (iv (-2147483648) 2147483647 (S.1 220 3) → (wX5_at 1 (S.1 220 3) S (fun r3 S2 => (rng (r3) ∧ (rng (l4) ∧ ((r3 = l4 → (iv (-2147483648) 2147483647 (S2.1 220 3) → (iv (-2147483648) 2147483647 ((S2.1 220 3 + 1)) ∧ (∀ S8, S8 = pI S2 220 3 ((S2.1 220 3 + 1)) → (rng (l2) ∧ (rng (l3) ∧ (rng (l5) ∧ (wX6_addAttribute (l2) (l3) (l5) S8 (fun r11 S10 => K 0 S10))))))))) ∧ ((¬ (r3 = l4)) → (iv (-2147483648) 2147483647 (S2.1 220 3) → (∀ S16, S16 = pI S2 220 6 (S2.1 220 3) → K 0 S16)))))))))
set_option maxRecDepth 100000 in
set_option maxHeartbeats 4000000 in
theorem ubX9_attribute_122 {G : xG} {v : Nat → Nat} {sh : Nat → Option Sh} {B : Nat × Nat} {c0 : List va_E} {d : Nat} {Post : xP} {l2 l3 l4 l5 : Int} {S : St} {cs : List va_E} {K : Int → St → Prop} (hd : 7 ≤ d) (hT : sb shC sh) (hS : ∀ b x, sh b = some x → ¬ isS b) (hU : sb shXT sh) (hW : Wv G v sh B c0 S cs) (hP : ∀ (x : Int) (S : St) (cs : List va_E), K x S → Wv G v sh B c0 S cs → Post (none) cs)  (hw : wX9_attribute_122 l2 l3 l4 l5 S K ) : Z (RX9, cX9_attribute, 8, none, false) G d Post 122 [(0, .ref (G.1 + v 220)), (2, .int (Int32.ofInt (l2))), (3, .int (Int32.ofInt (l3))), (4, .int (Int32.ofInt (l4))), (5, .int (Int32.ofInt (l5)))] [] cs := by
  unfold wX9_attribute_122 at hw
  refine z_aload_n dX9_attribute_122 rfl rfl ?_
  refine v_getR hW (hU 220 _ rfl) rfl kX9 fX9_24 dX9_attribute_123 ?_
  refine z_aload_n dX9_attribute_126 rfl rfl ?_
  have q1 : iv (-2147483648) 2147483647 (S.1 220 3) := hW.iI 220 3
  have hw := hw q1
  refine v_getI hW (hU 220 _ rfl) rfl kX9 fX9_9 dX9_attribute_127 ?_
  have hX := lX5_at 0 (Nat.le_refl _) hW (show isS 1 by unfold isS; decide) (fun b x h e => hS b x h (e ▸ (show isS 1 by unfold isS; decide))) (rngq q1 (by decide) (by decide)) hw
  refine z_callV (As := [_]) eX5_at sX5_at lX9_47 rfl dX9_attribute_130 (hW.sg (show isS 1 by unfold isS; decide) (fun b x h e => hS b x h (e ▸ (show isS 1 by unfold isS; decide)))).choose_spec.choose_spec.choose_spec.choose_spec.1.choose_spec.1 hX (Nat.le_trans (by decide) hd) rfl (Nat.le_of_ble_eq_true rfl) (fun r cs hp => ?_)
  obtain ⟨r3, S2, rfl, hw, hW⟩ := hp
  refine z_st (st' := [.int (Int32.ofInt (r3))]) rfl ?_
  refine z_iload dX9_attribute_133 rfl ?_
  obtain ⟨q5, hw⟩ := hw
  obtain ⟨q6, hw⟩ := hw
  refine i_icmp_eq (tgt := 147) dX9_attribute_135 (by decide) q5 q6 (fun h4 => ?_) (fun h4 => ?_)
  · have hw := hw.1 h4
    refine z_aload_n dX9_attribute_147 rfl rfl ?_
    refine z_dup dX9_attribute_148 rfl ?_
    have q7 : iv (-2147483648) 2147483647 (S2.1 220 3) := hW.iI 220 3
    have hw := hw q7
    refine v_getI hW (hU 220 _ rfl) rfl kX9 fX9_9 dX9_attribute_149 ?_
    refine z_iconst (v := Int32.ofInt 1) dX9_attribute_152 rfl ?_
    refine i_iadd dX9_attribute_153 ?_
    obtain ⟨q9, hw⟩ := hw
    refine v_putI hW (hU 220 _ rfl) (by decide) (by unfold isS; decide) rfl kX9 fX9_9 dX9_attribute_154 rfl rfl rfl q9 (fun cs hW => ?_)
    obtain ⟨S8, hS8⟩ : ∃ x, x = pI S2 220 3 ((S2.1 220 3 + 1)) := ⟨_, rfl⟩
    rw [← hS8] at hW
    have hw := hw S8 hS8
    refine z_aload_n dX9_attribute_157 rfl rfl ?_
    refine v_getR hW (hU 220 _ rfl) rfl kX9 fX9_28 dX9_attribute_158 ?_
    refine z_iload_n dX9_attribute_161 rfl rfl ?_
    refine z_iload_n dX9_attribute_162 rfl rfl ?_
    refine z_iload dX9_attribute_163 rfl ?_
    obtain ⟨q12, hw⟩ := hw
    obtain ⟨q13, hw⟩ := hw
    obtain ⟨q14, hw⟩ := hw
    have hX := lX6_addAttribute 1 (Nat.le_refl _) hT hS (sbt sbX6_X9 hU) hW q12 q13 q14 hw
    refine z_callV (As := [_, _, _]) eX6_addAttribute sX6_addAttribute lX9_121 rfl dX9_attribute_165 (hW.at (hU 3 _ rfl)) hX (Nat.le_trans (by decide) hd) rfl (Nat.le_of_ble_eq_true rfl) (fun r cs hp => ?_)
    obtain ⟨r11, S10, rfl, hw, hW⟩ := hp
    refine z_st (st' := []) rfl ?_
    exact z_return dX9_attribute_168 rfl (hP 0 _ _ hw hW)
  · have hw := hw.2 h4
    refine z_aload_n dX9_attribute_138 rfl rfl ?_
    refine z_aload_n dX9_attribute_139 rfl rfl ?_
    have q15 : iv (-2147483648) 2147483647 (S2.1 220 3) := hW.iI 220 3
    have hw := hw q15
    refine v_getI hW (hU 220 _ rfl) rfl kX9 fX9_9 dX9_attribute_140 ?_
    refine v_putI hW (hU 220 _ rfl) (by decide) (by unfold isS; decide) rfl kX9 fX9_21 dX9_attribute_143 rfl rfl rfl q15 (fun cs hW => ?_)
    obtain ⟨S16, hS16⟩ : ∃ x, x = pI S2 220 6 (S2.1 220 3) := ⟨_, rfl⟩
    rw [← hS16] at hW
    have hw := hw S16 hS16
    exact z_return dX9_attribute_146 rfl (hP 0 _ _ hw hW)
def wX9_attribute_76'  (l2 l3 l4 l5 l6 : Int) (S : St) (K : Int → St → Prop) (B76 : Int → Int → Int → Int → Int → St → Prop) : Prop := (rng (l6) ∧ ((3000 ≤ l6 → wX9_attribute_122 (l2) (l3) (l4) (l5) S K) ∧ ((¬ (3000 ≤ l6)) → (rng (l4) ∧ (wX9_endsValue (l4) S (fun r4 S3 => (rng (r4) ∧ ((¬ r4 = 0 → wX9_attribute_122 (l2) (l3) (l4) (l5) S3 K) ∧ ((¬ (¬ r4 = 0)) → (wX9_decoded S3 (fun r9 S8 => (rng (r9) ∧ ((¬ r9 = (-1) → (wX5_put 4 (r9) S8 (fun r13 S12 => B76 (l2) (l3) (l4) (l5) ((l6 + 1)) S12))) ∧ ((¬ (¬ r9 = (-1))) → K 0 S8))))))))))))))
set_option maxRecDepth 100000 in
set_option maxHeartbeats 4000000 in
theorem ubX9_attribute_76' {G : xG} {v : Nat → Nat} {sh : Nat → Option Sh} {B : Nat × Nat} {c0 : List va_E} {d : Nat} {Post : xP} {l2 l3 l4 l5 l6 : Int} {S : St} {cs : List va_E} {K : Int → St → Prop} {B76 : Int → Int → Int → Int → Int → St → Prop} (hd : 7 ≤ d) (hT : sb shC sh) (hS : ∀ b x, sh b = some x → ¬ isS b) (hU : sb shXT sh) (hW : Wv G v sh B c0 S cs) (hP : ∀ (x : Int) (S : St) (cs : List va_E), K x S → Wv G v sh B c0 S cs → Post (none) cs) (hB76 : ∀ (l2 : Int) (l3 : Int) (l4 : Int) (l5 : Int) (l6 : Int) (S : St) (cs : List va_E), B76 l2 l3 l4 l5 l6 S → Wv G v sh B c0 S cs → Z (RX9, cX9_attribute, 8, none, false) G d Post 76 [(0, .ref (G.1 + v 220)), (2, .int (Int32.ofInt (l2))), (3, .int (Int32.ofInt (l3))), (4, .int (Int32.ofInt (l4))), (5, .int (Int32.ofInt (l5))), (6, .int (Int32.ofInt (l6)))] [] cs) (hw : wX9_attribute_76' l2 l3 l4 l5 l6 S K B76) : Z (RX9, cX9_attribute, 8, none, false) G d Post 76 [(0, .ref (G.1 + v 220)), (2, .int (Int32.ofInt (l2))), (3, .int (Int32.ofInt (l3))), (4, .int (Int32.ofInt (l4))), (5, .int (Int32.ofInt (l5))), (6, .int (Int32.ofInt (l6)))] [] cs := by
  unfold wX9_attribute_76' at hw
  refine z_iload dX9_attribute_76 rfl ?_
  refine z_sipush (v := Int32.ofInt 3000) dX9_attribute_78 (by decide) ?_
  obtain ⟨q2, hw⟩ := hw
  refine i_icmp_ge (tgt := 122) dX9_attribute_81 (by decide) q2 ⟨by decide, by decide⟩ (fun h1 => ?_) (fun h1 => ?_)
  · have hw := hw.1 h1
    refine z_loc (L' := [(0, .ref (G.1 + v 220)), (2, .int (Int32.ofInt (l2))), (3, .int (Int32.ofInt (l3))), (4, .int (Int32.ofInt (l4))), (5, .int (Int32.ofInt (l5)))]) (List.forall_mem_cons.mpr ⟨rfl, (List.forall_mem_cons.mpr ⟨rfl, (List.forall_mem_cons.mpr ⟨rfl, (List.forall_mem_cons.mpr ⟨rfl, (List.forall_mem_cons.mpr ⟨rfl, (fun _ h => nomatch h)⟩)⟩)⟩)⟩)⟩) ?_
    exact ubX9_attribute_122 hd hT hS hU hW hP  hw
  · have hw := hw.2 h1
    refine z_aload_n dX9_attribute_84 rfl rfl ?_
    refine z_iload dX9_attribute_85 rfl ?_
    obtain ⟨q5, hw⟩ := hw
    have hX := lX9_endsValue 1 (Nat.le_refl _) hT hS hU hW q5 hw
    refine z_callV (As := [_]) eX9_endsValue sX9_endsValue lX9_112 rfl dX9_attribute_87 (hW.at (hU 220 _ rfl)) hX (Nat.le_trans (by decide) hd) rfl (Nat.le_of_ble_eq_true rfl) (fun r cs hp => ?_)
    obtain ⟨r4, S3, rfl, hw, hW⟩ := hp
    refine z_st (st' := [.int (Int32.ofInt (r4))]) rfl ?_
    obtain ⟨q7, hw⟩ := hw
    refine i_if_ne (tgt := 122) dX9_attribute_90 (by decide) q7 (fun h6 => ?_) (fun h6 => ?_)
    · have hw := hw.1 h6
      refine z_loc (L' := [(0, .ref (G.1 + v 220)), (2, .int (Int32.ofInt (l2))), (3, .int (Int32.ofInt (l3))), (4, .int (Int32.ofInt (l4))), (5, .int (Int32.ofInt (l5)))]) (List.forall_mem_cons.mpr ⟨rfl, (List.forall_mem_cons.mpr ⟨rfl, (List.forall_mem_cons.mpr ⟨rfl, (List.forall_mem_cons.mpr ⟨rfl, (List.forall_mem_cons.mpr ⟨rfl, (fun _ h => nomatch h)⟩)⟩)⟩)⟩)⟩) ?_
      exact ubX9_attribute_122 hd hT hS hU hW hP  hw
    · have hw := hw.2 h6
      refine z_aload_n dX9_attribute_93 rfl rfl ?_
      have hX := lX9_decoded 6 (Nat.le_refl _) hT hS hU hW  hw
      refine z_callV (As := []) eX9_decoded sX9_decoded lX9_115 rfl dX9_attribute_94 (hW.at (hU 220 _ rfl)) hX (Nat.le_trans (by decide) hd) rfl (Nat.le_of_ble_eq_true rfl) (fun r cs hp => ?_)
      obtain ⟨r9, S8, rfl, hw, hW⟩ := hp
      refine z_st (st' := [.int (Int32.ofInt (r9))]) rfl ?_
      refine z_istore dX9_attribute_97 (by decide) ?_
      refine z_loc (L' := [(0, .ref (G.1 + v 220)), (2, .int (Int32.ofInt (l2))), (3, .int (Int32.ofInt (l3))), (4, .int (Int32.ofInt (l4))), (5, .int (Int32.ofInt (l5))), (6, .int (Int32.ofInt (l6))), (7, .int (Int32.ofInt (r9)))]) (List.forall_mem_cons.mpr ⟨rfl, (List.forall_mem_cons.mpr ⟨rfl, (List.forall_mem_cons.mpr ⟨rfl, (List.forall_mem_cons.mpr ⟨rfl, (List.forall_mem_cons.mpr ⟨rfl, (List.forall_mem_cons.mpr ⟨rfl, (List.forall_mem_cons.mpr ⟨rfl, (fun _ h => nomatch h)⟩)⟩)⟩)⟩)⟩)⟩)⟩) ?_
      refine z_iload dX9_attribute_99 rfl ?_
      refine z_iconst (v := Int32.ofInt (-1)) dX9_attribute_101 rfl ?_
      obtain ⟨q11, hw⟩ := hw
      refine i_icmp_ne (tgt := 106) dX9_attribute_102 (by decide) q11 ⟨by decide, by decide⟩ (fun h10 => ?_) (fun h10 => ?_)
      · have hw := hw.1 h10
        refine z_aload_n dX9_attribute_106 rfl rfl ?_
        refine v_getR hW (hU 220 _ rfl) rfl kX9 fX9_38 dX9_attribute_107 ?_
        refine z_iload dX9_attribute_110 rfl ?_
        have hX := lX5_put 1 (Nat.le_refl _) hW (show isS 4 by unfold isS; decide) (fun b x h e => hS b x h (e ▸ (show isS 4 by unfold isS; decide))) q11 hw
        refine z_callV (As := [_]) eX5_put sX5_put lX9_118 rfl dX9_attribute_112 (hW.sg (show isS 4 by unfold isS; decide) (fun b x h e => hS b x h (e ▸ (show isS 4 by unfold isS; decide)))).choose_spec.choose_spec.choose_spec.choose_spec.1.choose_spec.1 hX (Nat.le_trans (by decide) hd) rfl (Nat.le_of_ble_eq_true rfl) (fun r cs hp => ?_)
        obtain ⟨r13, S12, rfl, hw, hW⟩ := hp
        refine z_st (st' := [.int (Int32.ofInt (r13))]) rfl ?_
        refine z_pop dX9_attribute_115 rfl ?_
        refine i_iinc (l := l6) dX9_attribute_116 rfl (by decide) ?_
        refine z_loc (L' := [(0, .ref (G.1 + v 220)), (2, .int (Int32.ofInt (l2))), (3, .int (Int32.ofInt (l3))), (4, .int (Int32.ofInt (l4))), (5, .int (Int32.ofInt (l5))), (6, .int (Int32.ofInt ((l6 + 1)))), (7, .int (Int32.ofInt (r9)))]) (List.forall_mem_cons.mpr ⟨rfl, (List.forall_mem_cons.mpr ⟨rfl, (List.forall_mem_cons.mpr ⟨rfl, (List.forall_mem_cons.mpr ⟨rfl, (List.forall_mem_cons.mpr ⟨rfl, (List.forall_mem_cons.mpr ⟨rfl, (List.forall_mem_cons.mpr ⟨rfl, (fun _ h => nomatch h)⟩)⟩)⟩)⟩)⟩)⟩)⟩) ?_
        refine z_goto (tgt := 76) dX9_attribute_119 (by decide) ?_
        refine z_loc (L' := [(0, .ref (G.1 + v 220)), (2, .int (Int32.ofInt (l2))), (3, .int (Int32.ofInt (l3))), (4, .int (Int32.ofInt (l4))), (5, .int (Int32.ofInt (l5))), (6, .int (Int32.ofInt ((l6 + 1))))]) (List.forall_mem_cons.mpr ⟨rfl, (List.forall_mem_cons.mpr ⟨rfl, (List.forall_mem_cons.mpr ⟨rfl, (List.forall_mem_cons.mpr ⟨rfl, (List.forall_mem_cons.mpr ⟨rfl, (List.forall_mem_cons.mpr ⟨rfl, (fun _ h => nomatch h)⟩)⟩)⟩)⟩)⟩)⟩) ?_
        exact hB76 _ _ _ _ _ _ _ hw hW
      · have hw := hw.2 h10
        exact z_return dX9_attribute_105 rfl (hP 0 _ _ hw hW)
def wX9_attribute_76  (l2 l3 l4 l5 l6 : Int) (S : St) (K : Int → St → Prop) : Prop := ∃ (Iv : Int → Int → Int → Int → Int → St → Prop) (mu : Int → Int → Int → Int → Int → St → Nat), Iv l2 l3 l4 l5 l6 S ∧ ∀ (l2 l3 l4 l5 l6 : Int) (S : St), Iv l2 l3 l4 l5 l6 S → wX9_attribute_76' l2 l3 l4 l5 l6 S K  (fun ml2 ml3 ml4 ml5 ml6 T => Iv ml2 ml3 ml4 ml5 ml6 T ∧ mu ml2 ml3 ml4 ml5 ml6 T < mu l2 l3 l4 l5 l6 S)
set_option maxRecDepth 100000 in
set_option maxHeartbeats 4000000 in
theorem ubX9_attribute_76 {G : xG} {v : Nat → Nat} {sh : Nat → Option Sh} {B : Nat × Nat} {c0 : List va_E} {d : Nat} {Post : xP} {l2 l3 l4 l5 l6 : Int} {S : St} {cs : List va_E} {K : Int → St → Prop} (hd : 7 ≤ d) (hT : sb shC sh) (hS : ∀ b x, sh b = some x → ¬ isS b) (hU : sb shXT sh) (hW : Wv G v sh B c0 S cs) (hP : ∀ (x : Int) (S : St) (cs : List va_E), K x S → Wv G v sh B c0 S cs → Post (none) cs)  (hw : wX9_attribute_76 l2 l3 l4 l5 l6 S K ) : Z (RX9, cX9_attribute, 8, none, false) G d Post 76 [(0, .ref (G.1 + v 220)), (2, .int (Int32.ofInt (l2))), (3, .int (Int32.ofInt (l3))), (4, .int (Int32.ofInt (l4))), (5, .int (Int32.ofInt (l5))), (6, .int (Int32.ofInt (l6)))] [] cs := by
  unfold wX9_attribute_76 at hw
  obtain ⟨Iv, mu, h0, hs⟩ := hw
  have key : ∀ (n : Nat) (l2 l3 l4 l5 l6 : Int) (S : St) (cs : List va_E), mu l2 l3 l4 l5 l6 S < n → Iv l2 l3 l4 l5 l6 S → Wv G v sh B c0 S cs → Z (RX9, cX9_attribute, 8, none, false) G d Post 76 [(0, .ref (G.1 + v 220)), (2, .int (Int32.ofInt (l2))), (3, .int (Int32.ofInt (l3))), (4, .int (Int32.ofInt (l4))), (5, .int (Int32.ofInt (l5))), (6, .int (Int32.ofInt (l6)))] [] cs := by
    intro n
    induction n with
    | zero => intro l2 l3 l4 l5 l6 S cs hn; exact absurd hn (Nat.not_lt_zero _)
    | succ n ih =>
      intro l2 l3 l4 l5 l6 S cs hn hI hW
      exact ubX9_attribute_76' hd hT hS hU hW hP  (fun l2 l3 l4 l5 l6 S cs hb hW => ih l2 l3 l4 l5 l6 S cs (Nat.lt_of_lt_of_le hb.2 (Nat.le_of_lt_succ hn)) hb.1 hW) (hs l2 l3 l4 l5 l6 S hI)
  exact key _ _ _ _ _ _ _ _ (Nat.lt_succ_self _) h0 hW
def wX9_attribute  (a1 : Int) (S : St) (K : Int → St → Prop) : Prop := rng a1 → (iv (-2147483648) 2147483647 (S.1 220 3) → (wX9_skipName S (fun r3 S2 => (iv (-2147483648) 2147483647 (S2.1 220 3) → (wX6_hasKey (a1) (S.1 220 3) (S2.1 220 3) S2 (fun r6 S5 => (rng (r6) ∧ ((r6 = 0 → (wX9_skipsToValue S5 (fun r10 S9 => (rng (r10) ∧ ((¬ r10 = 0 → (iv (-2147483648) 2147483647 (S9.1 220 3) → (rng ((S9.1 220 3 - 1)) ∧ (wX5_at 1 ((S9.1 220 3 - 1)) S9 (fun r15 S14 => (wX5_length 4 S14 (fun r18 S17 => wX9_attribute_76 (S.1 220 3) (S2.1 220 3) (r15) (r18) (0) S17 K))))))) ∧ ((¬ (¬ r10 = 0)) → (iv (-2147483648) 2147483647 (S9.1 220 3) → (∀ S20, S20 = pI S9 220 6 (S9.1 220 3) → K 0 S20)))))))) ∧ ((¬ (r6 = 0)) → (∀ S21, S21 = pI S5 220 6 (S.1 220 3) → K 0 S21))))))))))
set_option maxRecDepth 100000 in
set_option maxHeartbeats 4000000 in
theorem lX9_attribute {G : xG} {v : Nat → Nat} {sh : Nat → Option Sh} {B : Nat × Nat} {c0 : List va_E}  {a1 : Int} {S : St} {cs : List va_E} {K : Int → St → Prop} (d : Nat) (hd : 7 ≤ d) (hT : sb shC sh) (hS : ∀ b x, sh b = some x → ¬ isS b) (hU : sb shXT sh) (hW : Wv G v sh B c0 S cs) (g1 : rng a1) (hw : wX9_attribute a1 S K) : X G yX9_attribute cX9_attribute 8 none d [.ref (G.1 + v 220), .int (Int32.ofInt a1)] cs (vV G v sh B c0 K) := by
  refine X.of false (by decide +kernel) (by decide) (Nat.le_of_ble_eq_true rfl) ?_
  show Z (RX9, cX9_attribute, 8, none, false) G d _ 0 [(0, .ref (G.1 + v 220)), (1, .int (Int32.ofInt a1))] [] cs
  have hP : ∀ (x : Int) (S : St) (cs : List va_E), K x S → Wv G v sh B c0 S cs → vV G v sh B c0 K (none) cs := fun x S cs a b => ⟨x, S, rfl, a, b⟩
  unfold wX9_attribute at hw
  have hw := hw g1
  refine z_aload_n dX9_attribute_0 rfl rfl ?_
  have q1 : iv (-2147483648) 2147483647 (S.1 220 3) := hW.iI 220 3
  have hw := hw q1
  refine v_getI hW (hU 220 _ rfl) rfl kX9 fX9_9 dX9_attribute_1 ?_
  refine z_istore_n dX9_attribute_4 rfl (by decide) ?_
  refine z_loc (L' := [(0, .ref (G.1 + v 220)), (1, .int (Int32.ofInt (a1))), (2, .int (Int32.ofInt (S.1 220 3)))]) (List.forall_mem_cons.mpr ⟨rfl, (List.forall_mem_cons.mpr ⟨rfl, (List.forall_mem_cons.mpr ⟨rfl, (fun _ h => nomatch h)⟩)⟩)⟩) ?_
  refine z_aload_n dX9_attribute_5 rfl rfl ?_
  have hX := lX9_skipName 2 (Nat.le_refl _) hT hS hU hW  hw
  refine z_callV (As := []) eX9_skipName sX9_skipName lX9_83 rfl dX9_attribute_6 (hW.at (hU 220 _ rfl)) hX (Nat.le_trans (by decide) hd) rfl (Nat.le_of_ble_eq_true rfl) (fun r cs hp => ?_)
  obtain ⟨r3, S2, rfl, hw, hW⟩ := hp
  refine z_st (st' := []) rfl ?_
  refine z_aload_n dX9_attribute_9 rfl rfl ?_
  have q4 : iv (-2147483648) 2147483647 (S2.1 220 3) := hW.iI 220 3
  have hw := hw q4
  refine v_getI hW (hU 220 _ rfl) rfl kX9 fX9_9 dX9_attribute_10 ?_
  refine z_istore_n dX9_attribute_13 rfl (by decide) ?_
  refine z_loc (L' := [(0, .ref (G.1 + v 220)), (1, .int (Int32.ofInt (a1))), (2, .int (Int32.ofInt (S.1 220 3))), (3, .int (Int32.ofInt (S2.1 220 3)))]) (List.forall_mem_cons.mpr ⟨rfl, (List.forall_mem_cons.mpr ⟨rfl, (List.forall_mem_cons.mpr ⟨rfl, (List.forall_mem_cons.mpr ⟨rfl, (fun _ h => nomatch h)⟩)⟩)⟩)⟩) ?_
  refine z_aload_n dX9_attribute_14 rfl rfl ?_
  refine v_getR hW (hU 220 _ rfl) rfl kX9 fX9_28 dX9_attribute_15 ?_
  refine z_iload_n dX9_attribute_18 rfl rfl ?_
  refine z_iload_n dX9_attribute_19 rfl rfl ?_
  refine z_iload_n dX9_attribute_20 rfl rfl ?_
  have hX := lX6_hasKey 2 (Nat.le_refl _) hT hS (sbt sbX6_X9 hU) hW g1 (rngq q1 (by decide) (by decide)) (rngq q4 (by decide) (by decide)) hw
  refine z_callV (As := [_, _, _]) eX6_hasKey sX6_hasKey lX9_105 rfl dX9_attribute_21 (hW.at (hU 3 _ rfl)) hX (Nat.le_trans (by decide) hd) rfl (Nat.le_of_ble_eq_true rfl) (fun r cs hp => ?_)
  obtain ⟨r6, S5, rfl, hw, hW⟩ := hp
  refine z_st (st' := [.int (Int32.ofInt (r6))]) rfl ?_
  obtain ⟨q8, hw⟩ := hw
  refine i_if_eq (tgt := 33) dX9_attribute_24 (by decide) q8 (fun h7 => ?_) (fun h7 => ?_)
  · have hw := hw.1 h7
    refine z_aload_n dX9_attribute_33 rfl rfl ?_
    have hX := lX9_skipsToValue 1 (Nat.le_refl _) hT hS hU hW  hw
    refine z_callV (As := []) eX9_skipsToValue sX9_skipsToValue lX9_109 rfl dX9_attribute_34 (hW.at (hU 220 _ rfl)) hX (Nat.le_trans (by decide) hd) rfl (Nat.le_of_ble_eq_true rfl) (fun r cs hp => ?_)
    obtain ⟨r10, S9, rfl, hw, hW⟩ := hp
    refine z_st (st' := [.int (Int32.ofInt (r10))]) rfl ?_
    obtain ⟨q12, hw⟩ := hw
    refine i_if_ne (tgt := 49) dX9_attribute_37 (by decide) q12 (fun h11 => ?_) (fun h11 => ?_)
    · have hw := hw.1 h11
      refine z_aload_n dX9_attribute_49 rfl rfl ?_
      refine v_getR hW (hU 220 _ rfl) rfl kX9 fX9_24 dX9_attribute_50 ?_
      refine z_aload_n dX9_attribute_53 rfl rfl ?_
      have q13 : iv (-2147483648) 2147483647 (S9.1 220 3) := hW.iI 220 3
      have hw := hw q13
      refine v_getI hW (hU 220 _ rfl) rfl kX9 fX9_9 dX9_attribute_54 ?_
      refine z_iconst (v := Int32.ofInt 1) dX9_attribute_57 rfl ?_
      refine i_isub dX9_attribute_58 ?_
      obtain ⟨q16, hw⟩ := hw
      have hX := lX5_at 0 (Nat.le_refl _) hW (show isS 1 by unfold isS; decide) (fun b x h e => hS b x h (e ▸ (show isS 1 by unfold isS; decide))) q16 hw
      refine z_callV (As := [_]) eX5_at sX5_at lX9_47 rfl dX9_attribute_59 (hW.sg (show isS 1 by unfold isS; decide) (fun b x h e => hS b x h (e ▸ (show isS 1 by unfold isS; decide)))).choose_spec.choose_spec.choose_spec.choose_spec.1.choose_spec.1 hX (Nat.le_trans (by decide) hd) rfl (Nat.le_of_ble_eq_true rfl) (fun r cs hp => ?_)
      obtain ⟨r15, S14, rfl, hw, hW⟩ := hp
      refine z_st (st' := [.int (Int32.ofInt (r15))]) rfl ?_
      refine z_istore dX9_attribute_62 (by decide) ?_
      refine z_loc (L' := [(0, .ref (G.1 + v 220)), (1, .int (Int32.ofInt (a1))), (2, .int (Int32.ofInt (S.1 220 3))), (3, .int (Int32.ofInt (S2.1 220 3))), (4, .int (Int32.ofInt (r15)))]) (List.forall_mem_cons.mpr ⟨rfl, (List.forall_mem_cons.mpr ⟨rfl, (List.forall_mem_cons.mpr ⟨rfl, (List.forall_mem_cons.mpr ⟨rfl, (List.forall_mem_cons.mpr ⟨rfl, (fun _ h => nomatch h)⟩)⟩)⟩)⟩)⟩) ?_
      refine z_aload_n dX9_attribute_64 rfl rfl ?_
      refine v_getR hW (hU 220 _ rfl) rfl kX9 fX9_38 dX9_attribute_65 ?_
      have hX := lX5_length 0 (Nat.le_refl _) hW (show isS 4 by unfold isS; decide) (fun b x h e => hS b x h (e ▸ (show isS 4 by unfold isS; decide)))  hw
      refine z_callV (As := []) eX5_length sX5_length lX9_80 rfl dX9_attribute_68 (hW.sg (show isS 4 by unfold isS; decide) (fun b x h e => hS b x h (e ▸ (show isS 4 by unfold isS; decide)))).choose_spec.choose_spec.choose_spec.choose_spec.1.choose_spec.1 hX (Nat.le_trans (by decide) hd) rfl (Nat.le_of_ble_eq_true rfl) (fun r cs hp => ?_)
      obtain ⟨r18, S17, rfl, hw, hW⟩ := hp
      refine z_st (st' := [.int (Int32.ofInt (r18))]) rfl ?_
      refine z_istore dX9_attribute_71 (by decide) ?_
      refine z_loc (L' := [(0, .ref (G.1 + v 220)), (1, .int (Int32.ofInt (a1))), (2, .int (Int32.ofInt (S.1 220 3))), (3, .int (Int32.ofInt (S2.1 220 3))), (4, .int (Int32.ofInt (r15))), (5, .int (Int32.ofInt (r18)))]) (List.forall_mem_cons.mpr ⟨rfl, (List.forall_mem_cons.mpr ⟨rfl, (List.forall_mem_cons.mpr ⟨rfl, (List.forall_mem_cons.mpr ⟨rfl, (List.forall_mem_cons.mpr ⟨rfl, (List.forall_mem_cons.mpr ⟨rfl, (fun _ h => nomatch h)⟩)⟩)⟩)⟩)⟩)⟩) ?_
      refine z_iconst (v := Int32.ofInt 0) dX9_attribute_73 rfl ?_
      refine z_istore dX9_attribute_74 (by decide) ?_
      refine z_loc (L' := [(0, .ref (G.1 + v 220)), (1, .int (Int32.ofInt (a1))), (2, .int (Int32.ofInt (S.1 220 3))), (3, .int (Int32.ofInt (S2.1 220 3))), (4, .int (Int32.ofInt (r15))), (5, .int (Int32.ofInt (r18))), (6, .int (Int32.ofInt (0)))]) (List.forall_mem_cons.mpr ⟨rfl, (List.forall_mem_cons.mpr ⟨rfl, (List.forall_mem_cons.mpr ⟨rfl, (List.forall_mem_cons.mpr ⟨rfl, (List.forall_mem_cons.mpr ⟨rfl, (List.forall_mem_cons.mpr ⟨rfl, (List.forall_mem_cons.mpr ⟨rfl, (fun _ h => nomatch h)⟩)⟩)⟩)⟩)⟩)⟩)⟩) ?_
      refine z_loc (L' := [(0, .ref (G.1 + v 220)), (2, .int (Int32.ofInt (S.1 220 3))), (3, .int (Int32.ofInt (S2.1 220 3))), (4, .int (Int32.ofInt (r15))), (5, .int (Int32.ofInt (r18))), (6, .int (Int32.ofInt (0)))]) (List.forall_mem_cons.mpr ⟨rfl, (List.forall_mem_cons.mpr ⟨rfl, (List.forall_mem_cons.mpr ⟨rfl, (List.forall_mem_cons.mpr ⟨rfl, (List.forall_mem_cons.mpr ⟨rfl, (List.forall_mem_cons.mpr ⟨rfl, (fun _ h => nomatch h)⟩)⟩)⟩)⟩)⟩)⟩) ?_
      exact ubX9_attribute_76 hd hT hS hU hW hP  hw
    · have hw := hw.2 h11
      refine z_aload_n dX9_attribute_40 rfl rfl ?_
      refine z_aload_n dX9_attribute_41 rfl rfl ?_
      have q19 : iv (-2147483648) 2147483647 (S9.1 220 3) := hW.iI 220 3
      have hw := hw q19
      refine v_getI hW (hU 220 _ rfl) rfl kX9 fX9_9 dX9_attribute_42 ?_
      refine v_putI hW (hU 220 _ rfl) (by decide) (by unfold isS; decide) rfl kX9 fX9_21 dX9_attribute_45 rfl rfl rfl q19 (fun cs hW => ?_)
      obtain ⟨S20, hS20⟩ : ∃ x, x = pI S9 220 6 (S9.1 220 3) := ⟨_, rfl⟩
      rw [← hS20] at hW
      have hw := hw S20 hS20
      exact z_return dX9_attribute_48 rfl (hP 0 _ _ hw hW)
  · have hw := hw.2 h7
    refine z_aload_n dX9_attribute_27 rfl rfl ?_
    refine z_iload_n dX9_attribute_28 rfl rfl ?_
    refine v_putI hW (hU 220 _ rfl) (by decide) (by unfold isS; decide) rfl kX9 fX9_21 dX9_attribute_29 rfl rfl rfl q1 (fun cs hW => ?_)
    obtain ⟨S21, hS21⟩ : ∃ x, x = pI S5 220 6 (S.1 220 3) := ⟨_, rfl⟩
    rw [← hS21] at hW
    have hw := hw S21 hS21
    exact z_return dX9_attribute_32 rfl (hP 0 _ _ hw hW)

def wX6_begin_115  (S : St) (K : Int → St → Prop) : Prop := (iv 0 200 (S.1 3 16) → (iv 0 200 ((S.1 3 16 + 1)) ∧ (TRS (pI S 3 16 ((S.1 3 16 + 1))) ∧ (∀ S2, S2 = pI S 3 16 ((S.1 3 16 + 1)) → (iv 0 200 (S2.1 3 16) → K ((S2.1 3 16 - 1)) S2)))))
set_option maxRecDepth 100000 in
set_option maxHeartbeats 4000000 in
theorem ubX6_begin_115 {G : xG} {v : Nat → Nat} {sh : Nat → Option Sh} {B : Nat × Nat} {c0 : List va_E} {d : Nat} {Post : xP} {S : St} {cs : List va_E} {K : Int → St → Prop} (hd : 1 ≤ d) (hT : sb shC sh) (hS : ∀ b x, sh b = some x → ¬ isS b) (hU : sb shTr sh) (hW : Wv G v sh B c0 S cs) (hP : ∀ (x : Int) (S : St) (cs : List va_E), K x S → Wv G v sh B c0 S cs → Post (some (.int (Int32.ofInt x))) cs)  (hw : wX6_begin_115  S K ) : Z (RX6, cX6_begin, 4, some .int, false) G d Post 115 [(0, .ref (G.1 + v 3))] [] cs := by
  unfold wX6_begin_115 at hw
  refine z_aload_n dX6_begin_115 rfl rfl ?_
  refine z_dup dX6_begin_116 rfl ?_
  have q1 : iv 0 200 (S.1 3 16) := hW.iI 3 16
  have hw := hw q1
  refine v_getI hW (hU 3 _ rfl) rfl kX6 fX6_65 dX6_begin_117 ?_
  refine z_iconst (v := Int32.ofInt 1) dX6_begin_120 rfl ?_
  refine i_iadd dX6_begin_121 ?_
  obtain ⟨q3, hw⟩ := hw
  obtain ⟨q4, hw⟩ := hw
  refine v_putI3 hW (hU 3 _ rfl) (by decide) (hU 3 _ rfl) rfl rfl (hT 11 _ rfl) (hT 12 _ rfl) q4 (by unfold isS; decide) rfl kX6 fX6_65 dX6_begin_122 rfl rfl rfl q3 (fun cs hW => ?_)
  obtain ⟨S2, hS2⟩ : ∃ x, x = pI S 3 16 ((S.1 3 16 + 1)) := ⟨_, rfl⟩
  rw [← hS2] at hW
  have hw := hw S2 hS2
  refine z_aload_n dX6_begin_125 rfl rfl ?_
  have q5 : iv 0 200 (S2.1 3 16) := hW.iI 3 16
  have hw := hw q5
  refine v_getI hW (hU 3 _ rfl) rfl kX6 fX6_65 dX6_begin_126 ?_
  refine z_iconst (v := Int32.ofInt 1) dX6_begin_129 rfl ?_
  refine i_isub dX6_begin_130 ?_
  exact z_ireturn dX6_begin_131 rfl rfl (hP _ _ _ hw hW)
def wX6_begin  (a1 a2 a3 : Int) (S : St) (K : Int → St → Prop) : Prop := rng a1 → rng a2 → rng a3 → (iv 0 200 (S.1 3 16) → ((S.1 3 16 < 200 → ((0 : Int) ≤ S.1 3 16 ∧ S.1 3 16 < (200 : Int) ∧ (iv (-2147483648) 2147483647 (a1) ∧ (∀ S4, S4 = pA S 6 (S.1 3 16) (a1) → (iv 0 200 (S4.1 3 16) → ((0 : Int) ≤ S4.1 3 16 ∧ S4.1 3 16 < (200 : Int) ∧ (iv (-2147483648) 2147483647 ((a1 + 1)) ∧ (∀ S8, S8 = pA S4 7 (S4.1 3 16) ((a1 + 1)) → (iv 0 200 (S8.1 3 16) → ((0 : Int) ≤ S8.1 3 16 ∧ S8.1 3 16 < (200 : Int) ∧ (iv (-2147483648) 2147483647 (a2) ∧ (∀ S12, S12 = pA S8 8 (S8.1 3 16) (a2) → (iv 0 200 (S12.1 3 16) → ((0 : Int) ≤ S12.1 3 16 ∧ S12.1 3 16 < (200 : Int) ∧ (iv (-1) 199 (a3) ∧ (∀ S16, S16 = pA S12 9 (S12.1 3 16) (a3) → (iv 0 200 (S16.1 3 16) → ((0 : Int) ≤ S16.1 3 16 ∧ S16.1 3 16 < (200 : Int) ∧ (∀ S20, S20 = pA S16 10 (S16.1 3 16) (0) → (iv 0 200 (S20.1 3 16) → (iv 0 600 (S20.1 3 17) → ((0 : Int) ≤ S20.1 3 16 ∧ S20.1 3 16 < (200 : Int) ∧ (TRS (pA S20 11 (S20.1 3 16) (S20.1 3 17)) ∧ (∀ S24, S24 = pA S20 11 (S20.1 3 16) (S20.1 3 17) → (iv 0 200 (S24.1 3 16) → ((0 : Int) ≤ S24.1 3 16 ∧ S24.1 3 16 < (200 : Int) ∧ (TRS (pA S24 12 (S24.1 3 16) (0)) ∧ (∀ S28, S28 = pA S24 12 (S24.1 3 16) (0) → (iv 0 200 (S28.1 3 16) → ((0 : Int) ≤ S28.1 3 16 ∧ S28.1 3 16 < (200 : Int) ∧ (∀ S32, S32 = pA S28 15 (S28.1 3 16) (0) → (wX6_has (a3) S32 (fun r34 S33 => (rng (r34) ∧ ((r34 = 0 → wX6_begin_115 S33 K) ∧ ((¬ (r34 = 0)) → ((0 : Int) ≤ a3 ∧ a3 < (200 : Int) ∧ (iv (-2147483648) 2147483647 (S33.2 10 (a3)) → ((0 : Int) ≤ a3 ∧ a3 < (200 : Int) ∧ (iv (-2147483648) 2147483647 ((S33.2 10 (a3) + 1)) ∧ (∀ S40, S40 = pA S33 10 (a3) ((S33.2 10 (a3) + 1)) → wX6_begin_115 S40 K))))))))))))))))))))))))))))))))))))))))) ∧ ((¬ (S.1 3 16 < 200)) → K ((-1)) S)))
set_option maxRecDepth 100000 in
set_option maxHeartbeats 4000000 in
theorem lX6_begin {G : xG} {v : Nat → Nat} {sh : Nat → Option Sh} {B : Nat × Nat} {c0 : List va_E}  {a1 a2 a3 : Int} {S : St} {cs : List va_E} {K : Int → St → Prop} (d : Nat) (hd : 1 ≤ d) (hT : sb shC sh) (hS : ∀ b x, sh b = some x → ¬ isS b) (hU : sb shTr sh) (hW : Wv G v sh B c0 S cs) (g1 : rng a1) (g2 : rng a2) (g3 : rng a3) (hw : wX6_begin a1 a2 a3 S K) : X G yX6_begin cX6_begin 4 (some .int) d [.ref (G.1 + v 3), .int (Int32.ofInt a1), .int (Int32.ofInt a2), .int (Int32.ofInt a3)] cs (vI G v sh B c0 K) := by
  refine X.of false (by decide +kernel) (by decide) (Nat.le_of_ble_eq_true rfl) ?_
  show Z (RX6, cX6_begin, 4, some .int, false) G d _ 0 [(0, .ref (G.1 + v 3)), (1, .int (Int32.ofInt a1)), (2, .int (Int32.ofInt a2)), (3, .int (Int32.ofInt a3))] [] cs
  have hP : ∀ (x : Int) (S : St) (cs : List va_E), K x S → Wv G v sh B c0 S cs → vI G v sh B c0 K (some (.int (Int32.ofInt x))) cs := fun x S cs a b => ⟨x, S, rfl, a, b⟩
  unfold wX6_begin at hw
  have hw := hw g1 g2 g3
  refine z_aload_n dX6_begin_0 rfl rfl ?_
  have q1 : iv 0 200 (S.1 3 16) := hW.iI 3 16
  have hw := hw q1
  refine v_getI hW (hU 3 _ rfl) rfl kX6 fX6_65 dX6_begin_1 ?_
  refine z_sipush (v := Int32.ofInt 200) dX6_begin_4 (by decide) ?_
  refine i_icmp_lt (tgt := 12) dX6_begin_7 (by decide) (rngq q1 (by decide) (by decide)) ⟨by decide, by decide⟩ (fun h2 => ?_) (fun h2 => ?_)
  · have hw := hw.1 h2
    refine z_aload_n dX6_begin_12 rfl rfl ?_
    refine v_getR hW (hU 3 _ rfl) rfl kX6 fX6_21 dX6_begin_13 ?_
    refine z_aload_n dX6_begin_16 rfl rfl ?_
    refine v_getI hW (hU 3 _ rfl) rfl kX6 fX6_65 dX6_begin_17 ?_
    refine z_iload_n dX6_begin_20 rfl rfl ?_
    obtain ⟨q3a, q3b, hw⟩ := hw
    obtain ⟨q5, hw⟩ := hw
    refine v_iast hW (hT 6 _ rfl) (by decide) (by unfold isS; decide) q3a q3b (by decide) q5 dX6_begin_21 (fun cs hW => ?_)
    obtain ⟨S4, hS4⟩ : ∃ x, x = pA S 6 (S.1 3 16) (a1) := ⟨_, rfl⟩
    rw [← hS4] at hW
    have hw := hw S4 hS4
    refine z_aload_n dX6_begin_22 rfl rfl ?_
    refine v_getR hW (hU 3 _ rfl) rfl kX6 fX6_25 dX6_begin_23 ?_
    refine z_aload_n dX6_begin_26 rfl rfl ?_
    have q6 : iv 0 200 (S4.1 3 16) := hW.iI 3 16
    have hw := hw q6
    refine v_getI hW (hU 3 _ rfl) rfl kX6 fX6_65 dX6_begin_27 ?_
    refine z_iload_n dX6_begin_30 rfl rfl ?_
    refine z_iconst (v := Int32.ofInt 1) dX6_begin_31 rfl ?_
    refine i_iadd dX6_begin_32 ?_
    obtain ⟨q7a, q7b, hw⟩ := hw
    obtain ⟨q9, hw⟩ := hw
    refine v_iast hW (hT 7 _ rfl) (by decide) (by unfold isS; decide) q7a q7b (by decide) q9 dX6_begin_33 (fun cs hW => ?_)
    obtain ⟨S8, hS8⟩ : ∃ x, x = pA S4 7 (S4.1 3 16) ((a1 + 1)) := ⟨_, rfl⟩
    rw [← hS8] at hW
    have hw := hw S8 hS8
    refine z_aload_n dX6_begin_34 rfl rfl ?_
    refine v_getR hW (hU 3 _ rfl) rfl kX6 fX6_28 dX6_begin_35 ?_
    refine z_aload_n dX6_begin_38 rfl rfl ?_
    have q10 : iv 0 200 (S8.1 3 16) := hW.iI 3 16
    have hw := hw q10
    refine v_getI hW (hU 3 _ rfl) rfl kX6 fX6_65 dX6_begin_39 ?_
    refine z_iload_n dX6_begin_42 rfl rfl ?_
    obtain ⟨q11a, q11b, hw⟩ := hw
    obtain ⟨q13, hw⟩ := hw
    refine v_iast hW (hT 8 _ rfl) (by decide) (by unfold isS; decide) q11a q11b (by decide) q13 dX6_begin_43 (fun cs hW => ?_)
    obtain ⟨S12, hS12⟩ : ∃ x, x = pA S8 8 (S8.1 3 16) (a2) := ⟨_, rfl⟩
    rw [← hS12] at hW
    have hw := hw S12 hS12
    refine z_aload_n dX6_begin_44 rfl rfl ?_
    refine v_getR hW (hU 3 _ rfl) rfl kX6 fX6_31 dX6_begin_45 ?_
    refine z_aload_n dX6_begin_48 rfl rfl ?_
    have q14 : iv 0 200 (S12.1 3 16) := hW.iI 3 16
    have hw := hw q14
    refine v_getI hW (hU 3 _ rfl) rfl kX6 fX6_65 dX6_begin_49 ?_
    refine z_iload_n dX6_begin_52 rfl rfl ?_
    obtain ⟨q15a, q15b, hw⟩ := hw
    obtain ⟨q17, hw⟩ := hw
    refine v_iast hW (hT 9 _ rfl) (by decide) (by unfold isS; decide) q15a q15b (by decide) q17 dX6_begin_53 (fun cs hW => ?_)
    obtain ⟨S16, hS16⟩ : ∃ x, x = pA S12 9 (S12.1 3 16) (a3) := ⟨_, rfl⟩
    rw [← hS16] at hW
    have hw := hw S16 hS16
    refine z_aload_n dX6_begin_54 rfl rfl ?_
    refine v_getR hW (hU 3 _ rfl) rfl kX6 fX6_34 dX6_begin_55 ?_
    refine z_aload_n dX6_begin_58 rfl rfl ?_
    have q18 : iv 0 200 (S16.1 3 16) := hW.iI 3 16
    have hw := hw q18
    refine v_getI hW (hU 3 _ rfl) rfl kX6 fX6_65 dX6_begin_59 ?_
    refine z_iconst (v := Int32.ofInt 0) dX6_begin_62 rfl ?_
    obtain ⟨q19a, q19b, hw⟩ := hw
    refine v_iast hW (hT 10 _ rfl) (by decide) (by unfold isS; decide) q19a q19b (by decide) ⟨by decide, by decide⟩ dX6_begin_63 (fun cs hW => ?_)
    obtain ⟨S20, hS20⟩ : ∃ x, x = pA S16 10 (S16.1 3 16) (0) := ⟨_, rfl⟩
    rw [← hS20] at hW
    have hw := hw S20 hS20
    refine z_aload_n dX6_begin_64 rfl rfl ?_
    refine v_getR hW (hU 3 _ rfl) rfl kX6 fX6_37 dX6_begin_65 ?_
    refine z_aload_n dX6_begin_68 rfl rfl ?_
    have q21 : iv 0 200 (S20.1 3 16) := hW.iI 3 16
    have hw := hw q21
    refine v_getI hW (hU 3 _ rfl) rfl kX6 fX6_65 dX6_begin_69 ?_
    refine z_aload_n dX6_begin_72 rfl rfl ?_
    have q22 : iv 0 600 (S20.1 3 17) := hW.iI 3 17
    have hw := hw q22
    refine v_getI hW (hU 3 _ rfl) rfl kX6 fX6_69 dX6_begin_73 ?_
    obtain ⟨q23a, q23b, hw⟩ := hw
    obtain ⟨q25, hw⟩ := hw
    refine v_iast3 hW (hT 11 _ rfl) (by decide) (hU 3 _ rfl) rfl rfl (hT 11 _ rfl) (hT 12 _ rfl) q25 (by unfold isS; decide) q23a q23b (by decide) q22 dX6_begin_76 (fun cs hW => ?_)
    obtain ⟨S24, hS24⟩ : ∃ x, x = pA S20 11 (S20.1 3 16) (S20.1 3 17) := ⟨_, rfl⟩
    rw [← hS24] at hW
    have hw := hw S24 hS24
    refine z_aload_n dX6_begin_77 rfl rfl ?_
    refine v_getR hW (hU 3 _ rfl) rfl kX6 fX6_40 dX6_begin_78 ?_
    refine z_aload_n dX6_begin_81 rfl rfl ?_
    have q26 : iv 0 200 (S24.1 3 16) := hW.iI 3 16
    have hw := hw q26
    refine v_getI hW (hU 3 _ rfl) rfl kX6 fX6_65 dX6_begin_82 ?_
    refine z_iconst (v := Int32.ofInt 0) dX6_begin_85 rfl ?_
    obtain ⟨q27a, q27b, hw⟩ := hw
    obtain ⟨q29, hw⟩ := hw
    refine v_iast3 hW (hT 12 _ rfl) (by decide) (hU 3 _ rfl) rfl rfl (hT 11 _ rfl) (hT 12 _ rfl) q29 (by unfold isS; decide) q27a q27b (by decide) ⟨by decide, by decide⟩ dX6_begin_86 (fun cs hW => ?_)
    obtain ⟨S28, hS28⟩ : ∃ x, x = pA S24 12 (S24.1 3 16) (0) := ⟨_, rfl⟩
    rw [← hS28] at hW
    have hw := hw S28 hS28
    refine z_aload_n dX6_begin_87 rfl rfl ?_
    refine v_getR hW (hU 3 _ rfl) rfl kX6 fX6_49 dX6_begin_88 ?_
    refine z_aload_n dX6_begin_91 rfl rfl ?_
    have q30 : iv 0 200 (S28.1 3 16) := hW.iI 3 16
    have hw := hw q30
    refine v_getI hW (hU 3 _ rfl) rfl kX6 fX6_65 dX6_begin_92 ?_
    refine z_iconst (v := Int32.ofInt 0) dX6_begin_95 rfl ?_
    obtain ⟨q31a, q31b, hw⟩ := hw
    refine v_zast hW (hT 15 _ rfl) (by decide) (by unfold isS; decide) q31a q31b (by decide) (by decide) ⟨by decide, by decide⟩ dX6_begin_96 (fun cs hW => ?_)
    obtain ⟨S32, hS32⟩ : ∃ x, x = pA S28 15 (S28.1 3 16) (0) := ⟨_, rfl⟩
    rw [← hS32] at hW
    have hw := hw S32 hS32
    refine z_aload_n dX6_begin_97 rfl rfl ?_
    refine z_iload_n dX6_begin_98 rfl rfl ?_
    have hX := lX6_has 0 (Nat.le_refl _) hT hS hU hW g3 hw
    refine z_callV (As := [_]) eX6_has sX6_has lX6_75 rfl dX6_begin_99 (hW.at (hU 3 _ rfl)) hX (Nat.le_trans (by decide) hd) rfl (Nat.le_of_ble_eq_true rfl) (fun r cs hp => ?_)
    obtain ⟨r34, S33, rfl, hw, hW⟩ := hp
    refine z_st (st' := [.int (Int32.ofInt (r34))]) rfl ?_
    obtain ⟨q36, hw⟩ := hw
    refine i_if_eq (tgt := 115) dX6_begin_102 (by decide) q36 (fun h35 => ?_) (fun h35 => ?_)
    · have hw := hw.1 h35
      refine z_loc (L' := [(0, .ref (G.1 + v 3))]) (List.forall_mem_cons.mpr ⟨rfl, (fun _ h => nomatch h)⟩) ?_
      exact ubX6_begin_115 hd hT hS hU hW hP  hw
    · have hw := hw.2 h35
      refine z_aload_n dX6_begin_105 rfl rfl ?_
      refine v_getR hW (hU 3 _ rfl) rfl kX6 fX6_34 dX6_begin_106 ?_
      refine z_iload_n dX6_begin_109 rfl rfl ?_
      refine z_dup2 dX6_begin_110 rfl rfl ?_
      obtain ⟨q37a, q37b, hw⟩ := hw
      have q38 : iv (-2147483648) 2147483647 (S33.2 10 (a3)) := hW.iA 10 _
      have hw := hw q38
      refine v_iald hW (hT 10 _ rfl) q37a q37b (by decide) dX6_begin_111 ?_
      refine z_iconst (v := Int32.ofInt 1) dX6_begin_112 rfl ?_
      refine i_iadd dX6_begin_113 ?_
      obtain ⟨q39a, q39b, hw⟩ := hw
      obtain ⟨q41, hw⟩ := hw
      refine v_iast hW (hT 10 _ rfl) (by decide) (by unfold isS; decide) q39a q39b (by decide) q41 dX6_begin_114 (fun cs hW => ?_)
      obtain ⟨S40, hS40⟩ : ∃ x, x = pA S33 10 (a3) ((S33.2 10 (a3) + 1)) := ⟨_, rfl⟩
      rw [← hS40] at hW
      have hw := hw S40 hS40
      refine z_loc (L' := [(0, .ref (G.1 + v 3))]) (List.forall_mem_cons.mpr ⟨rfl, (fun _ h => nomatch h)⟩) ?_
      exact ubX6_begin_115 hd hT hS hU hW hP  hw
  · have hw := hw.2 h2
    refine z_iconst (v := Int32.ofInt (-1)) dX6_begin_10 rfl ?_
    exact z_ireturn dX6_begin_11 rfl rfl (hP _ _ _ hw hW)

