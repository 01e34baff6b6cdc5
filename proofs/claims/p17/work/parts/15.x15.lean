def wX9_skipsToName  (S : St) (K : Int → St → Prop) : Prop := (iv (-2147483648) 2147483647 (S.1 220 3) → (wX9_skipBlanks S (fun r3 S2 => (iv (-2147483648) 2147483647 (S2.1 220 3) → ((S2.1 220 3 ≤ S.1 220 3 → K (0) S2) ∧ ((¬ (S2.1 220 3 ≤ S.1 220 3)) → (wX5_at 1 (S2.1 220 3) S2 (fun r7 S6 => (rng (r7) ∧ (wX9_isNameBegin (r7) S6 (fun r9 S8 => (rng (r9) ∧ ((r9 = 0 → K (0) S8) ∧ ((¬ (r9 = 0)) → K (1) S8))))))))))))))
set_option maxRecDepth 100000 in
set_option maxHeartbeats 4000000 in
theorem lX9_skipsToName {G : xG} {v : Nat → Nat} {sh : Nat → Option Sh} {B : Nat × Nat} {c0 : List va_E}  {S : St} {cs : List va_E} {K : Int → St → Prop} (d : Nat) (hd : 2 ≤ d) (hT : sb shC sh) (hS : ∀ b x, sh b = some x → ¬ isS b) (hU : sb shXT sh) (hW : Wv G v sh B c0 S cs)  (hw : wX9_skipsToName  S K) : X G yX9_skipsToName cX9_skipsToName 2 (some .boolean) d [.ref (G.1 + v 220)] cs (vI G v sh B c0 K) := by
  refine X.of false (by decide +kernel) (by decide) (Nat.le_of_ble_eq_true rfl) ?_
  show Z (RX9, cX9_skipsToName, 2, some .boolean, false) G d _ 0 [(0, .ref (G.1 + v 220))] [] cs
  have hP : ∀ (x : Int) (S : St) (cs : List va_E), K x S → Wv G v sh B c0 S cs → vI G v sh B c0 K (some (.int (Int32.ofInt x))) cs := fun x S cs a b => ⟨x, S, rfl, a, b⟩
  unfold wX9_skipsToName at hw
  refine z_aload_n dX9_skipsToName_0 rfl rfl ?_
  have q1 : iv (-2147483648) 2147483647 (S.1 220 3) := hW.iI 220 3
  have hw := hw q1
  refine v_getI hW (hU 220 _ rfl) rfl kX9 fX9_9 dX9_skipsToName_1 ?_
  refine z_istore_n dX9_skipsToName_4 rfl (by decide) ?_
  refine z_loc (L' := [(0, .ref (G.1 + v 220)), (1, .int (Int32.ofInt (S.1 220 3)))]) (List.forall_mem_cons.mpr ⟨rfl, (List.forall_mem_cons.mpr ⟨rfl, (fun _ h => nomatch h)⟩)⟩) ?_
  refine z_aload_n dX9_skipsToName_5 rfl rfl ?_
  have hX := lX9_skipBlanks 1 (Nat.le_refl _) hT hS hU hW  hw
  refine z_callV (As := []) eX9_skipBlanks sX9_skipBlanks lX9_44 rfl dX9_skipsToName_6 (hW.at (hU 220 _ rfl)) hX (Nat.le_trans (by decide) hd) rfl (Nat.le_of_ble_eq_true rfl) (fun r cs hp => ?_)
  obtain ⟨r3, S2, rfl, hw, hW⟩ := hp
  refine z_st (st' := []) rfl ?_
  refine z_aload_n dX9_skipsToName_9 rfl rfl ?_
  have q4 : iv (-2147483648) 2147483647 (S2.1 220 3) := hW.iI 220 3
  have hw := hw q4
  refine v_getI hW (hU 220 _ rfl) rfl kX9 fX9_9 dX9_skipsToName_10 ?_
  refine z_iload_n dX9_skipsToName_13 rfl rfl ?_
  refine i_icmp_le (tgt := 38) dX9_skipsToName_14 (by decide) (rngq q4 (by decide) (by decide)) (rngq q1 (by decide) (by decide)) (fun h5 => ?_) (fun h5 => ?_)
  · have hw := hw.1 h5
    refine z_iconst (v := Int32.ofInt 0) dX9_skipsToName_38 rfl ?_
    exact z_ireturn dX9_skipsToName_39 rfl (nar01 (by decide)) (hP _ _ _ hw hW)
  · have hw := hw.2 h5
    refine z_aload_n dX9_skipsToName_17 rfl rfl ?_
    refine v_getR hW (hU 220 _ rfl) rfl kX9 fX9_24 dX9_skipsToName_18 ?_
    refine z_aload_n dX9_skipsToName_21 rfl rfl ?_
    refine v_getI hW (hU 220 _ rfl) rfl kX9 fX9_9 dX9_skipsToName_22 ?_
    have hX := lX5_at 0 (Nat.le_refl _) hW (show isS 1 by unfold isS; decide) (fun b x h e => hS b x h (e ▸ (show isS 1 by unfold isS; decide))) (rngq q4 (by decide) (by decide)) hw
    refine z_callV (As := [_]) eX5_at sX5_at lX9_47 rfl dX9_skipsToName_25 (hW.sg (show isS 1 by unfold isS; decide) (fun b x h e => hS b x h (e ▸ (show isS 1 by unfold isS; decide)))).choose_spec.choose_spec.choose_spec.choose_spec.1.choose_spec.1 hX (Nat.le_trans (by decide) hd) rfl (Nat.le_of_ble_eq_true rfl) (fun r cs hp => ?_)
    obtain ⟨r7, S6, rfl, hw, hW⟩ := hp
    refine z_st (st' := [.int (Int32.ofInt (r7))]) rfl ?_
    obtain ⟨q10, hw⟩ := hw
    have hX := lX9_isNameBegin 1 (Nat.le_refl _) hT hS hW q10 hw
    refine z_callS (As := [_]) eX9_isNameBegin sX9_isNameBegin lX9_101 dX9_skipsToName_28 hX (Nat.le_trans (by decide) hd) rfl (Nat.le_of_ble_eq_true rfl) (fun r cs hp => ?_)
    obtain ⟨r9, S8, rfl, hw, hW⟩ := hp
    refine z_st (st' := [.int (Int32.ofInt (r9))]) rfl ?_
    obtain ⟨q12, hw⟩ := hw
    refine i_if_eq (tgt := 38) dX9_skipsToName_31 (by decide) q12 (fun h11 => ?_) (fun h11 => ?_)
    · have hw := hw.1 h11
      refine z_iconst (v := Int32.ofInt 0) dX9_skipsToName_38 rfl ?_
      exact z_ireturn dX9_skipsToName_39 rfl (nar01 (by decide)) (hP _ _ _ hw hW)
    · have hw := hw.2 h11
      refine z_iconst (v := Int32.ofInt 1) dX9_skipsToName_34 rfl ?_
      refine z_goto (tgt := 39) dX9_skipsToName_35 (by decide) ?_
      exact z_ireturn dX9_skipsToName_39 rfl (nar01 (by decide)) (hP _ _ _ hw hW)

def wX6_addAttribute  (a1 a2 a3 : Int) (S : St) (K : Int → St → Prop) : Prop := rng a1 → rng a2 → rng a3 → (iv 0 200 (S.1 3 16) → ((S.1 3 16 = 0 → K 0 S) ∧ ((¬ (S.1 3 16 = 0)) → (iv 0 600 (S.1 3 17) → ((S.1 3 17 < 600 → ((0 : Int) ≤ S.1 3 17 ∧ S.1 3 17 < (600 : Int) ∧ (iv (-2147483648) 2147483647 (a1) ∧ (∀ S6, S6 = pA S 16 (S.1 3 17) (a1) → (iv 0 600 (S6.1 3 17) → ((0 : Int) ≤ S6.1 3 17 ∧ S6.1 3 17 < (600 : Int) ∧ (iv (-2147483648) 2147483647 (a2) ∧ (∀ S10, S10 = pA S6 17 (S6.1 3 17) (a2) → (iv 0 600 (S10.1 3 17) → ((0 : Int) ≤ S10.1 3 17 ∧ S10.1 3 17 < (600 : Int) ∧ (iv (-2147483648) 2147483647 (a3) ∧ (∀ S14, S14 = pA S10 18 (S10.1 3 17) (a3) → (iv 0 600 (S14.1 3 17) → (wX5_length 4 S14 (fun r18 S17 => ((0 : Int) ≤ S14.1 3 17 ∧ S14.1 3 17 < (600 : Int) ∧ (iv 0 3000 (r18) ∧ (∀ S20, S20 = pA S17 19 (S14.1 3 17) (r18) → (iv 0 600 (S20.1 3 17) → (iv 0 600 ((S20.1 3 17 + 1)) ∧ (TRS (pI S20 3 17 ((S20.1 3 17 + 1))) ∧ (∀ S23, S23 = pI S20 3 17 ((S20.1 3 17 + 1)) → (iv 0 200 (S23.1 3 16) → ((0 : Int) ≤ (S23.1 3 16 - 1) ∧ (S23.1 3 16 - 1) < (200 : Int) ∧ (iv 0 601 (S23.2 12 ((S23.1 3 16 - 1))) → ((0 : Int) ≤ (S23.1 3 16 - 1) ∧ (S23.1 3 16 - 1) < (200 : Int) ∧ (iv 0 601 ((S23.2 12 ((S23.1 3 16 - 1)) + 1)) ∧ (TRS (pA S23 12 ((S23.1 3 16 - 1)) ((S23.2 12 ((S23.1 3 16 - 1)) + 1))) ∧ (∀ S30, S30 = pA S23 12 ((S23.1 3 16 - 1)) ((S23.2 12 ((S23.1 3 16 - 1)) + 1)) → K 0 S30))))))))))))))))))))))))))))) ∧ ((¬ (S.1 3 17 < 600)) → K 0 S))))))
set_option maxRecDepth 100000 in
set_option maxHeartbeats 4000000 in
theorem lX6_addAttribute {G : xG} {v : Nat → Nat} {sh : Nat → Option Sh} {B : Nat × Nat} {c0 : List va_E}  {a1 a2 a3 : Int} {S : St} {cs : List va_E} {K : Int → St → Prop} (d : Nat) (hd : 1 ≤ d) (hT : sb shC sh) (hS : ∀ b x, sh b = some x → ¬ isS b) (hU : sb shTr sh) (hW : Wv G v sh B c0 S cs) (g1 : rng a1) (g2 : rng a2) (g3 : rng a3) (hw : wX6_addAttribute a1 a2 a3 S K) : X G yX6_addAttribute cX6_addAttribute 4 none d [.ref (G.1 + v 3), .int (Int32.ofInt a1), .int (Int32.ofInt a2), .int (Int32.ofInt a3)] cs (vV G v sh B c0 K) := by
  refine X.of false (by decide +kernel) (by decide) (Nat.le_of_ble_eq_true rfl) ?_
  show Z (RX6, cX6_addAttribute, 4, none, false) G d _ 0 [(0, .ref (G.1 + v 3)), (1, .int (Int32.ofInt a1)), (2, .int (Int32.ofInt a2)), (3, .int (Int32.ofInt a3))] [] cs
  have hP : ∀ (x : Int) (S : St) (cs : List va_E), K x S → Wv G v sh B c0 S cs → vV G v sh B c0 K (none) cs := fun x S cs a b => ⟨x, S, rfl, a, b⟩
  unfold wX6_addAttribute at hw
  have hw := hw g1 g2 g3
  refine z_aload_n dX6_addAttribute_0 rfl rfl ?_
  have q1 : iv 0 200 (S.1 3 16) := hW.iI 3 16
  have hw := hw q1
  refine v_getI hW (hU 3 _ rfl) rfl kX6 fX6_65 dX6_addAttribute_1 ?_
  refine i_if_eq (tgt := 17) dX6_addAttribute_4 (by decide) (rngq q1 (by decide) (by decide)) (fun h2 => ?_) (fun h2 => ?_)
  · have hw := hw.1 h2
    exact z_return dX6_addAttribute_17 rfl (hP 0 _ _ hw hW)
  · have hw := hw.2 h2
    refine z_aload_n dX6_addAttribute_7 rfl rfl ?_
    have q3 : iv 0 600 (S.1 3 17) := hW.iI 3 17
    have hw := hw q3
    refine v_getI hW (hU 3 _ rfl) rfl kX6 fX6_69 dX6_addAttribute_8 ?_
    refine z_sipush (v := Int32.ofInt 600) dX6_addAttribute_11 (by decide) ?_
    refine i_icmp_lt (tgt := 18) dX6_addAttribute_14 (by decide) (rngq q3 (by decide) (by decide)) ⟨by decide, by decide⟩ (fun h4 => ?_) (fun h4 => ?_)
    · have hw := hw.1 h4
      refine z_aload_n dX6_addAttribute_18 rfl rfl ?_
      refine v_getR hW (hU 3 _ rfl) rfl kX6 fX6_53 dX6_addAttribute_19 ?_
      refine z_aload_n dX6_addAttribute_22 rfl rfl ?_
      refine v_getI hW (hU 3 _ rfl) rfl kX6 fX6_69 dX6_addAttribute_23 ?_
      refine z_iload_n dX6_addAttribute_26 rfl rfl ?_
      obtain ⟨q5a, q5b, hw⟩ := hw
      obtain ⟨q7, hw⟩ := hw
      refine v_iast hW (hT 16 _ rfl) (by decide) (by unfold isS; decide) q5a q5b (by decide) q7 dX6_addAttribute_27 (fun cs hW => ?_)
      obtain ⟨S6, hS6⟩ : ∃ x, x = pA S 16 (S.1 3 17) (a1) := ⟨_, rfl⟩
      rw [← hS6] at hW
      have hw := hw S6 hS6
      refine z_aload_n dX6_addAttribute_28 rfl rfl ?_
      refine v_getR hW (hU 3 _ rfl) rfl kX6 fX6_56 dX6_addAttribute_29 ?_
      refine z_aload_n dX6_addAttribute_32 rfl rfl ?_
      have q8 : iv 0 600 (S6.1 3 17) := hW.iI 3 17
      have hw := hw q8
      refine v_getI hW (hU 3 _ rfl) rfl kX6 fX6_69 dX6_addAttribute_33 ?_
      refine z_iload_n dX6_addAttribute_36 rfl rfl ?_
      obtain ⟨q9a, q9b, hw⟩ := hw
      obtain ⟨q11, hw⟩ := hw
      refine v_iast hW (hT 17 _ rfl) (by decide) (by unfold isS; decide) q9a q9b (by decide) q11 dX6_addAttribute_37 (fun cs hW => ?_)
      obtain ⟨S10, hS10⟩ : ∃ x, x = pA S6 17 (S6.1 3 17) (a2) := ⟨_, rfl⟩
      rw [← hS10] at hW
      have hw := hw S10 hS10
      refine z_aload_n dX6_addAttribute_38 rfl rfl ?_
      refine v_getR hW (hU 3 _ rfl) rfl kX6 fX6_59 dX6_addAttribute_39 ?_
      refine z_aload_n dX6_addAttribute_42 rfl rfl ?_
      have q12 : iv 0 600 (S10.1 3 17) := hW.iI 3 17
      have hw := hw q12
      refine v_getI hW (hU 3 _ rfl) rfl kX6 fX6_69 dX6_addAttribute_43 ?_
      refine z_iload_n dX6_addAttribute_46 rfl rfl ?_
      obtain ⟨q13a, q13b, hw⟩ := hw
      obtain ⟨q15, hw⟩ := hw
      refine v_iast hW (hT 18 _ rfl) (by decide) (by unfold isS; decide) q13a q13b (by decide) q15 dX6_addAttribute_47 (fun cs hW => ?_)
      obtain ⟨S14, hS14⟩ : ∃ x, x = pA S10 18 (S10.1 3 17) (a3) := ⟨_, rfl⟩
      rw [← hS14] at hW
      have hw := hw S14 hS14
      refine z_aload_n dX6_addAttribute_48 rfl rfl ?_
      refine v_getR hW (hU 3 _ rfl) rfl kX6 fX6_62 dX6_addAttribute_49 ?_
      refine z_aload_n dX6_addAttribute_52 rfl rfl ?_
      have q16 : iv 0 600 (S14.1 3 17) := hW.iI 3 17
      have hw := hw q16
      refine v_getI hW (hU 3 _ rfl) rfl kX6 fX6_69 dX6_addAttribute_53 ?_
      refine z_aload_n dX6_addAttribute_56 rfl rfl ?_
      refine v_getR hW (hU 3 _ rfl) rfl kX6 fX6_12 dX6_addAttribute_57 ?_
      have hX := lX5_length 0 (Nat.le_refl _) hW (show isS 4 by unfold isS; decide) (fun b x h e => hS b x h (e ▸ (show isS 4 by unfold isS; decide)))  hw
      refine z_callV (As := []) eX5_length sX5_length lX6_79 rfl dX6_addAttribute_60 (hW.sg (show isS 4 by unfold isS; decide) (fun b x h e => hS b x h (e ▸ (show isS 4 by unfold isS; decide)))).choose_spec.choose_spec.choose_spec.choose_spec.1.choose_spec.1 hX (Nat.le_trans (by decide) hd) rfl (Nat.le_of_ble_eq_true rfl) (fun r cs hp => ?_)
      obtain ⟨r18, S17, rfl, hw, hW⟩ := hp
      refine z_st (st' := [.int (Int32.ofInt (r18)), .int (Int32.ofInt (S14.1 3 17)), .ref (G.1 + v 19)]) rfl ?_
      obtain ⟨q19a, q19b, hw⟩ := hw
      obtain ⟨q21, hw⟩ := hw
      refine v_iast hW (hT 19 _ rfl) (by decide) (by unfold isS; decide) q19a q19b (by decide) q21 dX6_addAttribute_63 (fun cs hW => ?_)
      obtain ⟨S20, hS20⟩ : ∃ x, x = pA S17 19 (S14.1 3 17) (r18) := ⟨_, rfl⟩
      rw [← hS20] at hW
      have hw := hw S20 hS20
      refine z_aload_n dX6_addAttribute_64 rfl rfl ?_
      refine z_dup dX6_addAttribute_65 rfl ?_
      have q22 : iv 0 600 (S20.1 3 17) := hW.iI 3 17
      have hw := hw q22
      refine v_getI hW (hU 3 _ rfl) rfl kX6 fX6_69 dX6_addAttribute_66 ?_
      refine z_iconst (v := Int32.ofInt 1) dX6_addAttribute_69 rfl ?_
      refine i_iadd dX6_addAttribute_70 ?_
      obtain ⟨q24, hw⟩ := hw
      obtain ⟨q25, hw⟩ := hw
      refine v_putI3 hW (hU 3 _ rfl) (by decide) (hU 3 _ rfl) rfl rfl (hT 11 _ rfl) (hT 12 _ rfl) q25 (by unfold isS; decide) rfl kX6 fX6_69 dX6_addAttribute_71 rfl rfl rfl q24 (fun cs hW => ?_)
      obtain ⟨S23, hS23⟩ : ∃ x, x = pI S20 3 17 ((S20.1 3 17 + 1)) := ⟨_, rfl⟩
      rw [← hS23] at hW
      have hw := hw S23 hS23
      refine z_aload_n dX6_addAttribute_74 rfl rfl ?_
      refine v_getR hW (hU 3 _ rfl) rfl kX6 fX6_40 dX6_addAttribute_75 ?_
      refine z_aload_n dX6_addAttribute_78 rfl rfl ?_
      have q26 : iv 0 200 (S23.1 3 16) := hW.iI 3 16
      have hw := hw q26
      refine v_getI hW (hU 3 _ rfl) rfl kX6 fX6_65 dX6_addAttribute_79 ?_
      refine z_iconst (v := Int32.ofInt 1) dX6_addAttribute_82 rfl ?_
      refine i_isub dX6_addAttribute_83 ?_
      refine z_dup2 dX6_addAttribute_84 rfl rfl ?_
      obtain ⟨q27a, q27b, hw⟩ := hw
      have q28 : iv 0 601 (S23.2 12 ((S23.1 3 16 - 1))) := hW.iA 12 _
      have hw := hw q28
      refine v_iald hW (hT 12 _ rfl) q27a q27b (by decide) dX6_addAttribute_85 ?_
      refine z_iconst (v := Int32.ofInt 1) dX6_addAttribute_86 rfl ?_
      refine i_iadd dX6_addAttribute_87 ?_
      obtain ⟨q29a, q29b, hw⟩ := hw
      obtain ⟨q31, hw⟩ := hw
      obtain ⟨q32, hw⟩ := hw
      refine v_iast3 hW (hT 12 _ rfl) (by decide) (hU 3 _ rfl) rfl rfl (hT 11 _ rfl) (hT 12 _ rfl) q32 (by unfold isS; decide) q29a q29b (by decide) q31 dX6_addAttribute_88 (fun cs hW => ?_)
      obtain ⟨S30, hS30⟩ : ∃ x, x = pA S23 12 ((S23.1 3 16 - 1)) ((S23.2 12 ((S23.1 3 16 - 1)) + 1)) := ⟨_, rfl⟩
      rw [← hS30] at hW
      have hw := hw S30 hS30
      exact z_return dX6_addAttribute_89 rfl (hP 0 _ _ hw hW)
    · have hw := hw.2 h4
      exact z_return dX6_addAttribute_17 rfl (hP 0 _ _ hw hW)

def wX9_endsValue  (a1 : Int) (S : St) (K : Int → St → Prop) : Prop := rng a1 → (iv (-2147483648) 2147483647 (S.1 220 3) → (wX5_at 1 (S.1 220 3) S (fun r3 S2 => (rng (r3) ∧ ((r3 = a1 → K (1) S2) ∧ ((¬ (r3 = a1)) → ((r3 = 60 → K (1) S2) ∧ ((¬ (r3 = 60)) → ((¬ r3 = (-1) → K (0) S2) ∧ ((¬ (¬ r3 = (-1))) → K (1) S2))))))))))
set_option maxRecDepth 100000 in
set_option maxHeartbeats 4000000 in
theorem lX9_endsValue {G : xG} {v : Nat → Nat} {sh : Nat → Option Sh} {B : Nat × Nat} {c0 : List va_E}  {a1 : Int} {S : St} {cs : List va_E} {K : Int → St → Prop} (d : Nat) (hd : 1 ≤ d) (hT : sb shC sh) (hS : ∀ b x, sh b = some x → ¬ isS b) (hU : sb shXT sh) (hW : Wv G v sh B c0 S cs) (g1 : rng a1) (hw : wX9_endsValue a1 S K) : X G yX9_endsValue cX9_endsValue 3 (some .boolean) d [.ref (G.1 + v 220), .int (Int32.ofInt a1)] cs (vI G v sh B c0 K) := by
  refine X.of false (by decide +kernel) (by decide) (Nat.le_of_ble_eq_true rfl) ?_
  show Z (RX9, cX9_endsValue, 3, some .boolean, false) G d _ 0 [(0, .ref (G.1 + v 220)), (1, .int (Int32.ofInt a1))] [] cs
  have hP : ∀ (x : Int) (S : St) (cs : List va_E), K x S → Wv G v sh B c0 S cs → vI G v sh B c0 K (some (.int (Int32.ofInt x))) cs := fun x S cs a b => ⟨x, S, rfl, a, b⟩
  unfold wX9_endsValue at hw
  have hw := hw g1
  refine z_aload_n dX9_endsValue_0 rfl rfl ?_
  refine v_getR hW (hU 220 _ rfl) rfl kX9 fX9_24 dX9_endsValue_1 ?_
  refine z_aload_n dX9_endsValue_4 rfl rfl ?_
  have q1 : iv (-2147483648) 2147483647 (S.1 220 3) := hW.iI 220 3
  have hw := hw q1
  refine v_getI hW (hU 220 _ rfl) rfl kX9 fX9_9 dX9_endsValue_5 ?_
  have hX := lX5_at 0 (Nat.le_refl _) hW (show isS 1 by unfold isS; decide) (fun b x h e => hS b x h (e ▸ (show isS 1 by unfold isS; decide))) (rngq q1 (by decide) (by decide)) hw
  refine z_callV (As := [_]) eX5_at sX5_at lX9_47 rfl dX9_endsValue_8 (hW.sg (show isS 1 by unfold isS; decide) (fun b x h e => hS b x h (e ▸ (show isS 1 by unfold isS; decide)))).choose_spec.choose_spec.choose_spec.choose_spec.1.choose_spec.1 hX (Nat.le_trans (by decide) hd) rfl (Nat.le_of_ble_eq_true rfl) (fun r cs hp => ?_)
  obtain ⟨r3, S2, rfl, hw, hW⟩ := hp
  refine z_st (st' := [.int (Int32.ofInt (r3))]) rfl ?_
  refine z_istore_n dX9_endsValue_11 rfl (by decide) ?_
  refine z_loc (L' := [(0, .ref (G.1 + v 220)), (1, .int (Int32.ofInt (a1))), (2, .int (Int32.ofInt (r3)))]) (List.forall_mem_cons.mpr ⟨rfl, (List.forall_mem_cons.mpr ⟨rfl, (List.forall_mem_cons.mpr ⟨rfl, (fun _ h => nomatch h)⟩)⟩)⟩) ?_
  refine z_iload_n dX9_endsValue_12 rfl rfl ?_
  refine z_iload_n dX9_endsValue_13 rfl rfl ?_
  obtain ⟨q5, hw⟩ := hw
  refine i_icmp_eq (tgt := 28) dX9_endsValue_14 (by decide) q5 g1 (fun h4 => ?_) (fun h4 => ?_)
  · have hw := hw.1 h4
    refine z_iconst (v := Int32.ofInt 1) dX9_endsValue_28 rfl ?_
    refine z_goto (tgt := 33) dX9_endsValue_29 (by decide) ?_
    exact z_ireturn dX9_endsValue_33 rfl (nar01 (by decide)) (hP _ _ _ hw hW)
  · have hw := hw.2 h4
    refine z_iload_n dX9_endsValue_17 rfl rfl ?_
    refine z_bipush (v := Int32.ofInt 60) dX9_endsValue_18 (by decide) ?_
    refine i_icmp_eq (tgt := 28) dX9_endsValue_20 (by decide) q5 ⟨by decide, by decide⟩ (fun h6 => ?_) (fun h6 => ?_)
    · have hw := hw.1 h6
      refine z_iconst (v := Int32.ofInt 1) dX9_endsValue_28 rfl ?_
      refine z_goto (tgt := 33) dX9_endsValue_29 (by decide) ?_
      exact z_ireturn dX9_endsValue_33 rfl (nar01 (by decide)) (hP _ _ _ hw hW)
    · have hw := hw.2 h6
      refine z_iload_n dX9_endsValue_23 rfl rfl ?_
      refine z_iconst (v := Int32.ofInt (-1)) dX9_endsValue_24 rfl ?_
      refine i_icmp_ne (tgt := 32) dX9_endsValue_25 (by decide) q5 ⟨by decide, by decide⟩ (fun h7 => ?_) (fun h7 => ?_)
      · have hw := hw.1 h7
        refine z_iconst (v := Int32.ofInt 0) dX9_endsValue_32 rfl ?_
        exact z_ireturn dX9_endsValue_33 rfl (nar01 (by decide)) (hP _ _ _ hw hW)
      · have hw := hw.2 h7
        refine z_iconst (v := Int32.ofInt 1) dX9_endsValue_28 rfl ?_
        refine z_goto (tgt := 33) dX9_endsValue_29 (by decide) ?_
        exact z_ireturn dX9_endsValue_33 rfl (nar01 (by decide)) (hP _ _ _ hw hW)

def wX9_comes_c_2'  (l2 : Int) (S : St) (K : Int → St → Prop) (B2 : Int → St → Prop) : Prop := (rng (l2) ∧ ((5 ≤ l2 → K (1) S) ∧ ((¬ (5 ≤ l2)) → (iv (-2147483648) 2147483647 (S.1 220 3) → (rng ((S.1 220 3 + l2)) ∧ (wX5_at 1 ((S.1 220 3 + l2)) S (fun r5 S4 => ((0 : Int) ≤ l2 ∧ l2 < (5 : Int) ∧ (rng (r5) ∧ ((r5 = (sch 15 (l2)) → B2 ((l2 + 1)) S4) ∧ ((¬ (r5 = (sch 15 (l2)))) → K (0) S4)))))))))))
set_option maxRecDepth 100000 in
set_option maxHeartbeats 4000000 in
theorem ubX9_comes_c_2' {G : xG} {v : Nat → Nat} {sh : Nat → Option Sh} {B : Nat × Nat} {c0 : List va_E} {d : Nat} {Post : xP} {l2 : Int} {S : St} {cs : List va_E} {K : Int → St → Prop} {B2 : Int → St → Prop} (hd : 4 ≤ d) (hT : sb shC sh) (hS : ∀ b x, sh b = some x → ¬ isS b) (hU : sb shXT sh) (hW : Wv G v sh B c0 S cs) (hP : ∀ (x : Int) (S : St) (cs : List va_E), K x S → Wv G v sh B c0 S cs → Post (some (.int (Int32.ofInt x))) cs) (hB2 : ∀ (l2 : Int) (S : St) (cs : List va_E), B2 l2 S → Wv G v sh B c0 S cs → Z (RX9, cX9_comes, 3, some .boolean, false) G d Post 2 [(0, .ref (G.1 + v 220)), (1, .ref (G.2.2.2.1 15)), (2, .int (Int32.ofInt (l2)))] [] cs) (hw : wX9_comes_c_2' l2 S K B2) : Z (RX9, cX9_comes, 3, some .boolean, false) G d Post 2 [(0, .ref (G.1 + v 220)), (1, .ref (G.2.2.2.1 15)), (2, .int (Int32.ofInt (l2)))] [] cs := by
  unfold wX9_comes_c_2' at hw
  refine z_iload_n dX9_comes_2 rfl rfl ?_
  refine z_aload_n dX9_comes_3 rfl rfl ?_
  refine z_callVS (As := []) (show 15 < xN by decide) eJ0_length_8abf5 sJ0_length_8abf5 lX9_162 rfl dX9_comes_4 (c_length 1 (Nat.le_refl _) (show 15 < xN by decide)) (Nat.le_trans (by decide) hd) rfl (Nat.le_of_ble_eq_true rfl) (fun r cs1 hp => ?_)
  obtain ⟨rfl, rfl⟩ := hp
  refine z_st (st' := [.int (Int32.ofInt (5)), .int (Int32.ofInt (l2))]) rfl ?_
  obtain ⟨q2, hw⟩ := hw
  refine i_icmp_ge (tgt := 39) dX9_comes_7 (by decide) q2 ⟨by decide, by decide⟩ (fun h1 => ?_) (fun h1 => ?_)
  · have hw := hw.1 h1
    refine z_iconst (v := Int32.ofInt 1) dX9_comes_39 rfl ?_
    exact z_ireturn dX9_comes_40 rfl (nar01 (by decide)) (hP _ _ _ hw hW)
  · have hw := hw.2 h1
    refine z_aload_n dX9_comes_10 rfl rfl ?_
    refine v_getR hW (hU 220 _ rfl) rfl kX9 fX9_24 dX9_comes_11 ?_
    refine z_aload_n dX9_comes_14 rfl rfl ?_
    have q3 : iv (-2147483648) 2147483647 (S.1 220 3) := hW.iI 220 3
    have hw := hw q3
    refine v_getI hW (hU 220 _ rfl) rfl kX9 fX9_9 dX9_comes_15 ?_
    refine z_iload_n dX9_comes_18 rfl rfl ?_
    refine i_iadd dX9_comes_19 ?_
    obtain ⟨q6, hw⟩ := hw
    have hX := lX5_at 0 (Nat.le_refl _) hW (show isS 1 by unfold isS; decide) (fun b x h e => hS b x h (e ▸ (show isS 1 by unfold isS; decide))) q6 hw
    refine z_callV (As := [_]) eX5_at sX5_at lX9_47 rfl dX9_comes_20 (hW.sg (show isS 1 by unfold isS; decide) (fun b x h e => hS b x h (e ▸ (show isS 1 by unfold isS; decide)))).choose_spec.choose_spec.choose_spec.choose_spec.1.choose_spec.1 hX (Nat.le_trans (by decide) hd) rfl (Nat.le_of_ble_eq_true rfl) (fun r cs hp => ?_)
    obtain ⟨r5, S4, rfl, hw, hW⟩ := hp
    refine z_st (st' := [.int (Int32.ofInt (r5))]) rfl ?_
    refine z_aload_n dX9_comes_23 rfl rfl ?_
    refine z_iload_n dX9_comes_24 rfl rfl ?_
    obtain ⟨q7a, q7b, hw⟩ := hw
    refine z_callVS (As := [_]) (show 15 < xN by decide) eJ0_charAt_5068e sJ0_charAt_5068e lX9_165 rfl dX9_comes_25 (c_charAt 3 (Nat.le_refl _) (show 15 < xN by decide) (oI_in (n := 5) q7a q7b (by decide))) (Nat.le_trans (by decide) hd) rfl (Nat.le_of_ble_eq_true rfl) (fun r cs1 hp => ?_)
    obtain ⟨rfl, rfl⟩ := hp
    refine z_st (st' := [.int (Int32.ofInt ((sch 15 (l2)))), .int (Int32.ofInt (r5))]) (by unfold sch; rw [Int32.ofInt_toInt]; rfl) ?_
    obtain ⟨q9, hw⟩ := hw
    refine i_icmp_eq (tgt := 33) dX9_comes_28 (by decide) q9 (rng_of _) (fun h8 => ?_) (fun h8 => ?_)
    · have hw := hw.1 h8
      refine i_iinc (l := l2) dX9_comes_33 rfl (by decide) ?_
      refine z_loc (L' := [(0, .ref (G.1 + v 220)), (1, .ref (G.2.2.2.1 15)), (2, .int (Int32.ofInt ((l2 + 1))))]) (List.forall_mem_cons.mpr ⟨rfl, (List.forall_mem_cons.mpr ⟨rfl, (List.forall_mem_cons.mpr ⟨rfl, (fun _ h => nomatch h)⟩)⟩)⟩) ?_
      refine z_goto (tgt := 2) dX9_comes_36 (by decide) ?_
      refine z_loc (L' := [(0, .ref (G.1 + v 220)), (1, .ref (G.2.2.2.1 15)), (2, .int (Int32.ofInt ((l2 + 1))))]) (List.forall_mem_cons.mpr ⟨rfl, (List.forall_mem_cons.mpr ⟨rfl, (List.forall_mem_cons.mpr ⟨rfl, (fun _ h => nomatch h)⟩)⟩)⟩) ?_
      exact hB2 _ _ _ hw hW
    · have hw := hw.2 h8
      refine z_iconst (v := Int32.ofInt 0) dX9_comes_31 rfl ?_
      exact z_ireturn dX9_comes_32 rfl (nar01 (by decide)) (hP _ _ _ hw hW)
def wX9_comes_c_2  (l2 : Int) (S : St) (K : Int → St → Prop) : Prop := ∃ (Iv : Int → St → Prop) (mu : Int → St → Nat), Iv l2 S ∧ ∀ (l2 : Int) (S : St), Iv l2 S → wX9_comes_c_2' l2 S K  (fun ml2 T => Iv ml2 T ∧ mu ml2 T < mu l2 S)
set_option maxRecDepth 100000 in
set_option maxHeartbeats 4000000 in
theorem ubX9_comes_c_2 {G : xG} {v : Nat → Nat} {sh : Nat → Option Sh} {B : Nat × Nat} {c0 : List va_E} {d : Nat} {Post : xP} {l2 : Int} {S : St} {cs : List va_E} {K : Int → St → Prop} (hd : 4 ≤ d) (hT : sb shC sh) (hS : ∀ b x, sh b = some x → ¬ isS b) (hU : sb shXT sh) (hW : Wv G v sh B c0 S cs) (hP : ∀ (x : Int) (S : St) (cs : List va_E), K x S → Wv G v sh B c0 S cs → Post (some (.int (Int32.ofInt x))) cs)  (hw : wX9_comes_c_2 l2 S K ) : Z (RX9, cX9_comes, 3, some .boolean, false) G d Post 2 [(0, .ref (G.1 + v 220)), (1, .ref (G.2.2.2.1 15)), (2, .int (Int32.ofInt (l2)))] [] cs := by
  unfold wX9_comes_c_2 at hw
  obtain ⟨Iv, mu, h0, hs⟩ := hw
  have key : ∀ (n : Nat) (l2 : Int) (S : St) (cs : List va_E), mu l2 S < n → Iv l2 S → Wv G v sh B c0 S cs → Z (RX9, cX9_comes, 3, some .boolean, false) G d Post 2 [(0, .ref (G.1 + v 220)), (1, .ref (G.2.2.2.1 15)), (2, .int (Int32.ofInt (l2)))] [] cs := by
    intro n
    induction n with
    | zero => intro l2 S cs hn; exact absurd hn (Nat.not_lt_zero _)
    | succ n ih =>
      intro l2 S cs hn hI hW
      exact ubX9_comes_c_2' hd hT hS hU hW hP  (fun l2 S cs hb hW => ih l2 S cs (Nat.lt_of_lt_of_le hb.2 (Nat.le_of_lt_succ hn)) hb.1 hW) (hs l2 S hI)
  exact key _ _ _ _ (Nat.lt_succ_self _) h0 hW
def wX9_comes_c  (S : St) (K : Int → St → Prop) : Prop := wX9_comes_c_2 (0) S K
set_option maxRecDepth 100000 in
set_option maxHeartbeats 4000000 in
theorem lX9_comes_c {G : xG} {v : Nat → Nat} {sh : Nat → Option Sh} {B : Nat × Nat} {c0 : List va_E}  {S : St} {cs : List va_E} {K : Int → St → Prop} (d : Nat) (hd : 4 ≤ d) (hT : sb shC sh) (hS : ∀ b x, sh b = some x → ¬ isS b) (hU : sb shXT sh) (hW : Wv G v sh B c0 S cs)  (hw : wX9_comes_c  S K) : X G yX9_comes cX9_comes 3 (some .boolean) d [.ref (G.1 + v 220), .ref (G.2.2.2.1 15)] cs (vI G v sh B c0 K) := by
  refine X.of false (by decide +kernel) (by decide) (Nat.le_of_ble_eq_true rfl) ?_
  show Z (RX9, cX9_comes, 3, some .boolean, false) G d _ 0 [(0, .ref (G.1 + v 220)), (1, .ref (G.2.2.2.1 15))] [] cs
  have hP : ∀ (x : Int) (S : St) (cs : List va_E), K x S → Wv G v sh B c0 S cs → vI G v sh B c0 K (some (.int (Int32.ofInt x))) cs := fun x S cs a b => ⟨x, S, rfl, a, b⟩
  unfold wX9_comes_c at hw
  refine z_iconst (v := Int32.ofInt 0) dX9_comes_0 rfl ?_
  refine z_istore_n dX9_comes_1 rfl (by decide) ?_
  refine z_loc (L' := [(0, .ref (G.1 + v 220)), (1, .ref (G.2.2.2.1 15)), (2, .int (Int32.ofInt (0)))]) (List.forall_mem_cons.mpr ⟨rfl, (List.forall_mem_cons.mpr ⟨rfl, (List.forall_mem_cons.mpr ⟨rfl, (fun _ h => nomatch h)⟩)⟩)⟩) ?_
  refine z_loc (L' := [(0, .ref (G.1 + v 220)), (1, .ref (G.2.2.2.1 15)), (2, .int (Int32.ofInt (0)))]) (List.forall_mem_cons.mpr ⟨rfl, (List.forall_mem_cons.mpr ⟨rfl, (List.forall_mem_cons.mpr ⟨rfl, (fun _ h => nomatch h)⟩)⟩)⟩) ?_
  exact ubX9_comes_c_2 hd hT hS hU hW hP  hw

def wX9_comes_d_2'  (l2 : Int) (S : St) (K : Int → St → Prop) (B2 : Int → St → Prop) : Prop := (rng (l2) ∧ ((4 ≤ l2 → K (1) S) ∧ ((¬ (4 ≤ l2)) → (iv (-2147483648) 2147483647 (S.1 220 3) → (rng ((S.1 220 3 + l2)) ∧ (wX5_at 1 ((S.1 220 3 + l2)) S (fun r5 S4 => ((0 : Int) ≤ l2 ∧ l2 < (4 : Int) ∧ (rng (r5) ∧ ((r5 = (sch 16 (l2)) → B2 ((l2 + 1)) S4) ∧ ((¬ (r5 = (sch 16 (l2)))) → K (0) S4)))))))))))
set_option maxRecDepth 100000 in
set_option maxHeartbeats 4000000 in
theorem ubX9_comes_d_2' {G : xG} {v : Nat → Nat} {sh : Nat → Option Sh} {B : Nat × Nat} {c0 : List va_E} {d : Nat} {Post : xP} {l2 : Int} {S : St} {cs : List va_E} {K : Int → St → Prop} {B2 : Int → St → Prop} (hd : 4 ≤ d) (hT : sb shC sh) (hS : ∀ b x, sh b = some x → ¬ isS b) (hU : sb shXT sh) (hW : Wv G v sh B c0 S cs) (hP : ∀ (x : Int) (S : St) (cs : List va_E), K x S → Wv G v sh B c0 S cs → Post (some (.int (Int32.ofInt x))) cs) (hB2 : ∀ (l2 : Int) (S : St) (cs : List va_E), B2 l2 S → Wv G v sh B c0 S cs → Z (RX9, cX9_comes, 3, some .boolean, false) G d Post 2 [(0, .ref (G.1 + v 220)), (1, .ref (G.2.2.2.1 16)), (2, .int (Int32.ofInt (l2)))] [] cs) (hw : wX9_comes_d_2' l2 S K B2) : Z (RX9, cX9_comes, 3, some .boolean, false) G d Post 2 [(0, .ref (G.1 + v 220)), (1, .ref (G.2.2.2.1 16)), (2, .int (Int32.ofInt (l2)))] [] cs := by
  unfold wX9_comes_d_2' at hw
  refine z_iload_n dX9_comes_2 rfl rfl ?_
  refine z_aload_n dX9_comes_3 rfl rfl ?_
  refine z_callVS (As := []) (show 16 < xN by decide) eJ0_length_8abf5 sJ0_length_8abf5 lX9_162 rfl dX9_comes_4 (c_length 1 (Nat.le_refl _) (show 16 < xN by decide)) (Nat.le_trans (by decide) hd) rfl (Nat.le_of_ble_eq_true rfl) (fun r cs1 hp => ?_)
  obtain ⟨rfl, rfl⟩ := hp
  refine z_st (st' := [.int (Int32.ofInt (4)), .int (Int32.ofInt (l2))]) rfl ?_
  obtain ⟨q2, hw⟩ := hw
  refine i_icmp_ge (tgt := 39) dX9_comes_7 (by decide) q2 ⟨by decide, by decide⟩ (fun h1 => ?_) (fun h1 => ?_)
  · have hw := hw.1 h1
    refine z_iconst (v := Int32.ofInt 1) dX9_comes_39 rfl ?_
    exact z_ireturn dX9_comes_40 rfl (nar01 (by decide)) (hP _ _ _ hw hW)
  · have hw := hw.2 h1
    refine z_aload_n dX9_comes_10 rfl rfl ?_
    refine v_getR hW (hU 220 _ rfl) rfl kX9 fX9_24 dX9_comes_11 ?_
    refine z_aload_n dX9_comes_14 rfl rfl ?_
    have q3 : iv (-2147483648) 2147483647 (S.1 220 3) := hW.iI 220 3
    have hw := hw q3
    refine v_getI hW (hU 220 _ rfl) rfl kX9 fX9_9 dX9_comes_15 ?_
    refine z_iload_n dX9_comes_18 rfl rfl ?_
    refine i_iadd dX9_comes_19 ?_
    obtain ⟨q6, hw⟩ := hw
    have hX := lX5_at 0 (Nat.le_refl _) hW (show isS 1 by unfold isS; decide) (fun b x h e => hS b x h (e ▸ (show isS 1 by unfold isS; decide))) q6 hw
    refine z_callV (As := [_]) eX5_at sX5_at lX9_47 rfl dX9_comes_20 (hW.sg (show isS 1 by unfold isS; decide) (fun b x h e => hS b x h (e ▸ (show isS 1 by unfold isS; decide)))).choose_spec.choose_spec.choose_spec.choose_spec.1.choose_spec.1 hX (Nat.le_trans (by decide) hd) rfl (Nat.le_of_ble_eq_true rfl) (fun r cs hp => ?_)
    obtain ⟨r5, S4, rfl, hw, hW⟩ := hp
    refine z_st (st' := [.int (Int32.ofInt (r5))]) rfl ?_
    refine z_aload_n dX9_comes_23 rfl rfl ?_
    refine z_iload_n dX9_comes_24 rfl rfl ?_
    obtain ⟨q7a, q7b, hw⟩ := hw
    refine z_callVS (As := [_]) (show 16 < xN by decide) eJ0_charAt_5068e sJ0_charAt_5068e lX9_165 rfl dX9_comes_25 (c_charAt 3 (Nat.le_refl _) (show 16 < xN by decide) (oI_in (n := 4) q7a q7b (by decide))) (Nat.le_trans (by decide) hd) rfl (Nat.le_of_ble_eq_true rfl) (fun r cs1 hp => ?_)
    obtain ⟨rfl, rfl⟩ := hp
    refine z_st (st' := [.int (Int32.ofInt ((sch 16 (l2)))), .int (Int32.ofInt (r5))]) (by unfold sch; rw [Int32.ofInt_toInt]; rfl) ?_
    obtain ⟨q9, hw⟩ := hw
    refine i_icmp_eq (tgt := 33) dX9_comes_28 (by decide) q9 (rng_of _) (fun h8 => ?_) (fun h8 => ?_)
    · have hw := hw.1 h8
      refine i_iinc (l := l2) dX9_comes_33 rfl (by decide) ?_
      refine z_loc (L' := [(0, .ref (G.1 + v 220)), (1, .ref (G.2.2.2.1 16)), (2, .int (Int32.ofInt ((l2 + 1))))]) (List.forall_mem_cons.mpr ⟨rfl, (List.forall_mem_cons.mpr ⟨rfl, (List.forall_mem_cons.mpr ⟨rfl, (fun _ h => nomatch h)⟩)⟩)⟩) ?_
      refine z_goto (tgt := 2) dX9_comes_36 (by decide) ?_
      refine z_loc (L' := [(0, .ref (G.1 + v 220)), (1, .ref (G.2.2.2.1 16)), (2, .int (Int32.ofInt ((l2 + 1))))]) (List.forall_mem_cons.mpr ⟨rfl, (List.forall_mem_cons.mpr ⟨rfl, (List.forall_mem_cons.mpr ⟨rfl, (fun _ h => nomatch h)⟩)⟩)⟩) ?_
      exact hB2 _ _ _ hw hW
    · have hw := hw.2 h8
      refine z_iconst (v := Int32.ofInt 0) dX9_comes_31 rfl ?_
      exact z_ireturn dX9_comes_32 rfl (nar01 (by decide)) (hP _ _ _ hw hW)
def wX9_comes_d_2  (l2 : Int) (S : St) (K : Int → St → Prop) : Prop := ∃ (Iv : Int → St → Prop) (mu : Int → St → Nat), Iv l2 S ∧ ∀ (l2 : Int) (S : St), Iv l2 S → wX9_comes_d_2' l2 S K  (fun ml2 T => Iv ml2 T ∧ mu ml2 T < mu l2 S)
set_option maxRecDepth 100000 in
set_option maxHeartbeats 4000000 in
theorem ubX9_comes_d_2 {G : xG} {v : Nat → Nat} {sh : Nat → Option Sh} {B : Nat × Nat} {c0 : List va_E} {d : Nat} {Post : xP} {l2 : Int} {S : St} {cs : List va_E} {K : Int → St → Prop} (hd : 4 ≤ d) (hT : sb shC sh) (hS : ∀ b x, sh b = some x → ¬ isS b) (hU : sb shXT sh) (hW : Wv G v sh B c0 S cs) (hP : ∀ (x : Int) (S : St) (cs : List va_E), K x S → Wv G v sh B c0 S cs → Post (some (.int (Int32.ofInt x))) cs)  (hw : wX9_comes_d_2 l2 S K ) : Z (RX9, cX9_comes, 3, some .boolean, false) G d Post 2 [(0, .ref (G.1 + v 220)), (1, .ref (G.2.2.2.1 16)), (2, .int (Int32.ofInt (l2)))] [] cs := by
  unfold wX9_comes_d_2 at hw
  obtain ⟨Iv, mu, h0, hs⟩ := hw
  have key : ∀ (n : Nat) (l2 : Int) (S : St) (cs : List va_E), mu l2 S < n → Iv l2 S → Wv G v sh B c0 S cs → Z (RX9, cX9_comes, 3, some .boolean, false) G d Post 2 [(0, .ref (G.1 + v 220)), (1, .ref (G.2.2.2.1 16)), (2, .int (Int32.ofInt (l2)))] [] cs := by
    intro n
    induction n with
    | zero => intro l2 S cs hn; exact absurd hn (Nat.not_lt_zero _)
    | succ n ih =>
      intro l2 S cs hn hI hW
      exact ubX9_comes_d_2' hd hT hS hU hW hP  (fun l2 S cs hb hW => ih l2 S cs (Nat.lt_of_lt_of_le hb.2 (Nat.le_of_lt_succ hn)) hb.1 hW) (hs l2 S hI)
  exact key _ _ _ _ (Nat.lt_succ_self _) h0 hW
def wX9_comes_d  (S : St) (K : Int → St → Prop) : Prop := wX9_comes_d_2 (0) S K
set_option maxRecDepth 100000 in
set_option maxHeartbeats 4000000 in
theorem lX9_comes_d {G : xG} {v : Nat → Nat} {sh : Nat → Option Sh} {B : Nat × Nat} {c0 : List va_E}  {S : St} {cs : List va_E} {K : Int → St → Prop} (d : Nat) (hd : 4 ≤ d) (hT : sb shC sh) (hS : ∀ b x, sh b = some x → ¬ isS b) (hU : sb shXT sh) (hW : Wv G v sh B c0 S cs)  (hw : wX9_comes_d  S K) : X G yX9_comes cX9_comes 3 (some .boolean) d [.ref (G.1 + v 220), .ref (G.2.2.2.1 16)] cs (vI G v sh B c0 K) := by
  refine X.of false (by decide +kernel) (by decide) (Nat.le_of_ble_eq_true rfl) ?_
  show Z (RX9, cX9_comes, 3, some .boolean, false) G d _ 0 [(0, .ref (G.1 + v 220)), (1, .ref (G.2.2.2.1 16))] [] cs
  have hP : ∀ (x : Int) (S : St) (cs : List va_E), K x S → Wv G v sh B c0 S cs → vI G v sh B c0 K (some (.int (Int32.ofInt x))) cs := fun x S cs a b => ⟨x, S, rfl, a, b⟩
  unfold wX9_comes_d at hw
  refine z_iconst (v := Int32.ofInt 0) dX9_comes_0 rfl ?_
  refine z_istore_n dX9_comes_1 rfl (by decide) ?_
  refine z_loc (L' := [(0, .ref (G.1 + v 220)), (1, .ref (G.2.2.2.1 16)), (2, .int (Int32.ofInt (0)))]) (List.forall_mem_cons.mpr ⟨rfl, (List.forall_mem_cons.mpr ⟨rfl, (List.forall_mem_cons.mpr ⟨rfl, (fun _ h => nomatch h)⟩)⟩)⟩) ?_
  refine z_loc (L' := [(0, .ref (G.1 + v 220)), (1, .ref (G.2.2.2.1 16)), (2, .int (Int32.ofInt (0)))]) (List.forall_mem_cons.mpr ⟨rfl, (List.forall_mem_cons.mpr ⟨rfl, (List.forall_mem_cons.mpr ⟨rfl, (fun _ h => nomatch h)⟩)⟩)⟩) ?_
  exact ubX9_comes_d_2 hd hT hS hU hW hP  hw

def wX9_comes_e_2'  (l2 : Int) (S : St) (K : Int → St → Prop) (B2 : Int → St → Prop) : Prop := (rng (l2) ∧ ((4 ≤ l2 → K (1) S) ∧ ((¬ (4 ≤ l2)) → (iv (-2147483648) 2147483647 (S.1 220 3) → (rng ((S.1 220 3 + l2)) ∧ (wX5_at 1 ((S.1 220 3 + l2)) S (fun r5 S4 => ((0 : Int) ≤ l2 ∧ l2 < (4 : Int) ∧ (rng (r5) ∧ ((r5 = (sch 17 (l2)) → B2 ((l2 + 1)) S4) ∧ ((¬ (r5 = (sch 17 (l2)))) → K (0) S4)))))))))))
set_option maxRecDepth 100000 in
set_option maxHeartbeats 4000000 in
theorem ubX9_comes_e_2' {G : xG} {v : Nat → Nat} {sh : Nat → Option Sh} {B : Nat × Nat} {c0 : List va_E} {d : Nat} {Post : xP} {l2 : Int} {S : St} {cs : List va_E} {K : Int → St → Prop} {B2 : Int → St → Prop} (hd : 4 ≤ d) (hT : sb shC sh) (hS : ∀ b x, sh b = some x → ¬ isS b) (hU : sb shXT sh) (hW : Wv G v sh B c0 S cs) (hP : ∀ (x : Int) (S : St) (cs : List va_E), K x S → Wv G v sh B c0 S cs → Post (some (.int (Int32.ofInt x))) cs) (hB2 : ∀ (l2 : Int) (S : St) (cs : List va_E), B2 l2 S → Wv G v sh B c0 S cs → Z (RX9, cX9_comes, 3, some .boolean, false) G d Post 2 [(0, .ref (G.1 + v 220)), (1, .ref (G.2.2.2.1 17)), (2, .int (Int32.ofInt (l2)))] [] cs) (hw : wX9_comes_e_2' l2 S K B2) : Z (RX9, cX9_comes, 3, some .boolean, false) G d Post 2 [(0, .ref (G.1 + v 220)), (1, .ref (G.2.2.2.1 17)), (2, .int (Int32.ofInt (l2)))] [] cs := by
  unfold wX9_comes_e_2' at hw
  refine z_iload_n dX9_comes_2 rfl rfl ?_
  refine z_aload_n dX9_comes_3 rfl rfl ?_
  refine z_callVS (As := []) (show 17 < xN by decide) eJ0_length_8abf5 sJ0_length_8abf5 lX9_162 rfl dX9_comes_4 (c_length 1 (Nat.le_refl _) (show 17 < xN by decide)) (Nat.le_trans (by decide) hd) rfl (Nat.le_of_ble_eq_true rfl) (fun r cs1 hp => ?_)
  obtain ⟨rfl, rfl⟩ := hp
  refine z_st (st' := [.int (Int32.ofInt (4)), .int (Int32.ofInt (l2))]) rfl ?_
  obtain ⟨q2, hw⟩ := hw
  refine i_icmp_ge (tgt := 39) dX9_comes_7 (by decide) q2 ⟨by decide, by decide⟩ (fun h1 => ?_) (fun h1 => ?_)
  · have hw := hw.1 h1
    refine z_iconst (v := Int32.ofInt 1) dX9_comes_39 rfl ?_
    exact z_ireturn dX9_comes_40 rfl (nar01 (by decide)) (hP _ _ _ hw hW)
  · have hw := hw.2 h1
    refine z_aload_n dX9_comes_10 rfl rfl ?_
    refine v_getR hW (hU 220 _ rfl) rfl kX9 fX9_24 dX9_comes_11 ?_
    refine z_aload_n dX9_comes_14 rfl rfl ?_
    have q3 : iv (-2147483648) 2147483647 (S.1 220 3) := hW.iI 220 3
    have hw := hw q3
    refine v_getI hW (hU 220 _ rfl) rfl kX9 fX9_9 dX9_comes_15 ?_
    refine z_iload_n dX9_comes_18 rfl rfl ?_
    refine i_iadd dX9_comes_19 ?_
    obtain ⟨q6, hw⟩ := hw
    have hX := lX5_at 0 (Nat.le_refl _) hW (show isS 1 by unfold isS; decide) (fun b x h e => hS b x h (e ▸ (show isS 1 by unfold isS; decide))) q6 hw
    refine z_callV (As := [_]) eX5_at sX5_at lX9_47 rfl dX9_comes_20 (hW.sg (show isS 1 by unfold isS; decide) (fun b x h e => hS b x h (e ▸ (show isS 1 by unfold isS; decide)))).choose_spec.choose_spec.choose_spec.choose_spec.1.choose_spec.1 hX (Nat.le_trans (by decide) hd) rfl (Nat.le_of_ble_eq_true rfl) (fun r cs hp => ?_)
    obtain ⟨r5, S4, rfl, hw, hW⟩ := hp
    refine z_st (st' := [.int (Int32.ofInt (r5))]) rfl ?_
    refine z_aload_n dX9_comes_23 rfl rfl ?_
    refine z_iload_n dX9_comes_24 rfl rfl ?_
    obtain ⟨q7a, q7b, hw⟩ := hw
    refine z_callVS (As := [_]) (show 17 < xN by decide) eJ0_charAt_5068e sJ0_charAt_5068e lX9_165 rfl dX9_comes_25 (c_charAt 3 (Nat.le_refl _) (show 17 < xN by decide) (oI_in (n := 4) q7a q7b (by decide))) (Nat.le_trans (by decide) hd) rfl (Nat.le_of_ble_eq_true rfl) (fun r cs1 hp => ?_)
    obtain ⟨rfl, rfl⟩ := hp
    refine z_st (st' := [.int (Int32.ofInt ((sch 17 (l2)))), .int (Int32.ofInt (r5))]) (by unfold sch; rw [Int32.ofInt_toInt]; rfl) ?_
    obtain ⟨q9, hw⟩ := hw
    refine i_icmp_eq (tgt := 33) dX9_comes_28 (by decide) q9 (rng_of _) (fun h8 => ?_) (fun h8 => ?_)
    · have hw := hw.1 h8
      refine i_iinc (l := l2) dX9_comes_33 rfl (by decide) ?_
      refine z_loc (L' := [(0, .ref (G.1 + v 220)), (1, .ref (G.2.2.2.1 17)), (2, .int (Int32.ofInt ((l2 + 1))))]) (List.forall_mem_cons.mpr ⟨rfl, (List.forall_mem_cons.mpr ⟨rfl, (List.forall_mem_cons.mpr ⟨rfl, (fun _ h => nomatch h)⟩)⟩)⟩) ?_
      refine z_goto (tgt := 2) dX9_comes_36 (by decide) ?_
      refine z_loc (L' := [(0, .ref (G.1 + v 220)), (1, .ref (G.2.2.2.1 17)), (2, .int (Int32.ofInt ((l2 + 1))))]) (List.forall_mem_cons.mpr ⟨rfl, (List.forall_mem_cons.mpr ⟨rfl, (List.forall_mem_cons.mpr ⟨rfl, (fun _ h => nomatch h)⟩)⟩)⟩) ?_
      exact hB2 _ _ _ hw hW
    · have hw := hw.2 h8
      refine z_iconst (v := Int32.ofInt 0) dX9_comes_31 rfl ?_
      exact z_ireturn dX9_comes_32 rfl (nar01 (by decide)) (hP _ _ _ hw hW)
def wX9_comes_e_2  (l2 : Int) (S : St) (K : Int → St → Prop) : Prop := ∃ (Iv : Int → St → Prop) (mu : Int → St → Nat), Iv l2 S ∧ ∀ (l2 : Int) (S : St), Iv l2 S → wX9_comes_e_2' l2 S K  (fun ml2 T => Iv ml2 T ∧ mu ml2 T < mu l2 S)
set_option maxRecDepth 100000 in
set_option maxHeartbeats 4000000 in
theorem ubX9_comes_e_2 {G : xG} {v : Nat → Nat} {sh : Nat → Option Sh} {B : Nat × Nat} {c0 : List va_E} {d : Nat} {Post : xP} {l2 : Int} {S : St} {cs : List va_E} {K : Int → St → Prop} (hd : 4 ≤ d) (hT : sb shC sh) (hS : ∀ b x, sh b = some x → ¬ isS b) (hU : sb shXT sh) (hW : Wv G v sh B c0 S cs) (hP : ∀ (x : Int) (S : St) (cs : List va_E), K x S → Wv G v sh B c0 S cs → Post (some (.int (Int32.ofInt x))) cs)  (hw : wX9_comes_e_2 l2 S K ) : Z (RX9, cX9_comes, 3, some .boolean, false) G d Post 2 [(0, .ref (G.1 + v 220)), (1, .ref (G.2.2.2.1 17)), (2, .int (Int32.ofInt (l2)))] [] cs := by
  unfold wX9_comes_e_2 at hw
  obtain ⟨Iv, mu, h0, hs⟩ := hw
  have key : ∀ (n : Nat) (l2 : Int) (S : St) (cs : List va_E), mu l2 S < n → Iv l2 S → Wv G v sh B c0 S cs → Z (RX9, cX9_comes, 3, some .boolean, false) G d Post 2 [(0, .ref (G.1 + v 220)), (1, .ref (G.2.2.2.1 17)), (2, .int (Int32.ofInt (l2)))] [] cs := by
    intro n
    induction n with
    | zero => intro l2 S cs hn; exact absurd hn (Nat.not_lt_zero _)
    | succ n ih =>
      intro l2 S cs hn hI hW
      exact ubX9_comes_e_2' hd hT hS hU hW hP  (fun l2 S cs hb hW => ih l2 S cs (Nat.lt_of_lt_of_le hb.2 (Nat.le_of_lt_succ hn)) hb.1 hW) (hs l2 S hI)
  exact key _ _ _ _ (Nat.lt_succ_self _) h0 hW
def wX9_comes_e  (S : St) (K : Int → St → Prop) : Prop := wX9_comes_e_2 (0) S K
set_option maxRecDepth 100000 in
set_option maxHeartbeats 4000000 in
theorem lX9_comes_e {G : xG} {v : Nat → Nat} {sh : Nat → Option Sh} {B : Nat × Nat} {c0 : List va_E}  {S : St} {cs : List va_E} {K : Int → St → Prop} (d : Nat) (hd : 4 ≤ d) (hT : sb shC sh) (hS : ∀ b x, sh b = some x → ¬ isS b) (hU : sb shXT sh) (hW : Wv G v sh B c0 S cs)  (hw : wX9_comes_e  S K) : X G yX9_comes cX9_comes 3 (some .boolean) d [.ref (G.1 + v 220), .ref (G.2.2.2.1 17)] cs (vI G v sh B c0 K) := by
  refine X.of false (by decide +kernel) (by decide) (Nat.le_of_ble_eq_true rfl) ?_
  show Z (RX9, cX9_comes, 3, some .boolean, false) G d _ 0 [(0, .ref (G.1 + v 220)), (1, .ref (G.2.2.2.1 17))] [] cs
  have hP : ∀ (x : Int) (S : St) (cs : List va_E), K x S → Wv G v sh B c0 S cs → vI G v sh B c0 K (some (.int (Int32.ofInt x))) cs := fun x S cs a b => ⟨x, S, rfl, a, b⟩
  unfold wX9_comes_e at hw
  refine z_iconst (v := Int32.ofInt 0) dX9_comes_0 rfl ?_
  refine z_istore_n dX9_comes_1 rfl (by decide) ?_
  refine z_loc (L' := [(0, .ref (G.1 + v 220)), (1, .ref (G.2.2.2.1 17)), (2, .int (Int32.ofInt (0)))]) (List.forall_mem_cons.mpr ⟨rfl, (List.forall_mem_cons.mpr ⟨rfl, (List.forall_mem_cons.mpr ⟨rfl, (fun _ h => nomatch h)⟩)⟩)⟩) ?_
  refine z_loc (L' := [(0, .ref (G.1 + v 220)), (1, .ref (G.2.2.2.1 17)), (2, .int (Int32.ofInt (0)))]) (List.forall_mem_cons.mpr ⟨rfl, (List.forall_mem_cons.mpr ⟨rfl, (List.forall_mem_cons.mpr ⟨rfl, (fun _ h => nomatch h)⟩)⟩)⟩) ?_
  exact ubX9_comes_e_2 hd hT hS hU hW hP  hw

