def wX10_isDigit  (a1 : Int) (S : St) (K : Int → St → Prop) : Prop := rng a1 → ((a1 < 48 → K (0) S) ∧ ((¬ (a1 < 48)) → ((57 < a1 → K (0) S) ∧ ((¬ (57 < a1)) → K (1) S))))
set_option maxRecDepth 100000 in
set_option maxHeartbeats 4000000 in
theorem lX10_isDigit {G : xG} {v : Nat → Nat} {sh : Nat → Option Sh} {B : Nat × Nat} {c0 : List va_E}  {a1 : Int} {S : St} {cs : List va_E} {K : Int → St → Prop} (d : Nat) (hd : 0 ≤ d) (hT : sb shC sh) (hS : ∀ b x, sh b = some x → ¬ isS b) (hW : Wv G v sh B c0 S cs) (g1 : rng a1) (hw : wX10_isDigit a1 S K) : X G yX10_isDigit cX10_isDigit 1 (some .boolean) d [.int (Int32.ofInt a1)] cs (vI G v sh B c0 K) := by
  refine X.of false (by decide +kernel) (by decide) (Nat.le_of_ble_eq_true rfl) ?_
  show Z (RX10, cX10_isDigit, 1, some .boolean, false) G d _ 0 [(0, .int (Int32.ofInt a1))] [] cs
  have hP : ∀ (x : Int) (S : St) (cs : List va_E), K x S → Wv G v sh B c0 S cs → vI G v sh B c0 K (some (.int (Int32.ofInt x))) cs := fun x S cs a b => ⟨x, S, rfl, a, b⟩
  unfold wX10_isDigit at hw
  have hw := hw g1
  refine z_iload_n dX10_isDigit_0 rfl rfl ?_
  refine z_bipush (v := Int32.ofInt 48) dX10_isDigit_1 (by decide) ?_
  refine i_icmp_lt (tgt := 16) dX10_isDigit_3 (by decide) g1 ⟨by decide, by decide⟩ (fun h1 => ?_) (fun h1 => ?_)
  · have hw := hw.1 h1
    refine z_iconst (v := Int32.ofInt 0) dX10_isDigit_16 rfl ?_
    exact z_ireturn dX10_isDigit_17 rfl (nar01 (by decide)) (hP _ _ _ hw hW)
  · have hw := hw.2 h1
    refine z_iload_n dX10_isDigit_6 rfl rfl ?_
    refine z_bipush (v := Int32.ofInt 57) dX10_isDigit_7 (by decide) ?_
    refine i_icmp_gt (tgt := 16) dX10_isDigit_9 (by decide) g1 ⟨by decide, by decide⟩ (fun h2 => ?_) (fun h2 => ?_)
    · have hw := hw.1 h2
      refine z_iconst (v := Int32.ofInt 0) dX10_isDigit_16 rfl ?_
      exact z_ireturn dX10_isDigit_17 rfl (nar01 (by decide)) (hP _ _ _ hw hW)
    · have hw := hw.2 h2
      refine z_iconst (v := Int32.ofInt 1) dX10_isDigit_12 rfl ?_
      refine z_goto (tgt := 17) dX10_isDigit_13 (by decide) ?_
      exact z_ireturn dX10_isDigit_17 rfl (nar01 (by decide)) (hP _ _ _ hw hW)

def wX0_isNameSign  (a1 : Int) (S : St) (K : Int → St → Prop) : Prop := rng a1 → (wX10_isLetter (a1) S (fun r2 S1 => (rng (r2) ∧ ((¬ r2 = 0 → K (1) S1) ∧ ((¬ (¬ r2 = 0)) → (wX10_isDigit (a1) S1 (fun r6 S5 => (rng (r6) ∧ ((¬ r6 = 0 → K (1) S5) ∧ ((¬ (¬ r6 = 0)) → ((a1 = 95 → K (1) S5) ∧ ((¬ (a1 = 95)) → ((¬ a1 = 36 → K (0) S5) ∧ ((¬ (¬ a1 = 36)) → K (1) S5))))))))))))))
set_option maxRecDepth 100000 in
set_option maxHeartbeats 4000000 in
theorem lX0_isNameSign {G : xG} {v : Nat → Nat} {sh : Nat → Option Sh} {B : Nat × Nat} {c0 : List va_E}  {a1 : Int} {S : St} {cs : List va_E} {K : Int → St → Prop} (d : Nat) (hd : 1 ≤ d) (hT : sb shC sh) (hS : ∀ b x, sh b = some x → ¬ isS b) (hW : Wv G v sh B c0 S cs) (g1 : rng a1) (hw : wX0_isNameSign a1 S K) : X G yX0_isNameSign cX0_isNameSign 1 (some .boolean) d [.int (Int32.ofInt a1)] cs (vI G v sh B c0 K) := by
  refine X.of false (by decide +kernel) (by decide) (Nat.le_of_ble_eq_true rfl) ?_
  show Z (RX0, cX0_isNameSign, 1, some .boolean, false) G d _ 0 [(0, .int (Int32.ofInt a1))] [] cs
  have hP : ∀ (x : Int) (S : St) (cs : List va_E), K x S → Wv G v sh B c0 S cs → vI G v sh B c0 K (some (.int (Int32.ofInt x))) cs := fun x S cs a b => ⟨x, S, rfl, a, b⟩
  unfold wX0_isNameSign at hw
  have hw := hw g1
  refine z_iload_n dX0_isNameSign_0 rfl rfl ?_
  have hX := lX10_isLetter 0 (Nat.le_refl _) hT hS hW g1 hw
  refine z_callSN (As := [_]) eX10_isLetter sX10_isLetter lX0_92 dX0_isNameSign_1 hX (Nat.le_trans (by decide) hd) rfl (Nat.le_of_ble_eq_true rfl) (fun r cs hp => ?_)
  obtain ⟨r2, S1, rfl, hw, hW⟩ := hp
  refine z_st (st' := [.int (Int32.ofInt (r2))]) rfl ?_
  obtain ⟨q4, hw⟩ := hw
  refine i_if_ne (tgt := 26) dX0_isNameSign_4 (by decide) q4 (fun h3 => ?_) (fun h3 => ?_)
  · have hw := hw.1 h3
    refine z_iconst (v := Int32.ofInt 1) dX0_isNameSign_26 rfl ?_
    refine z_goto (tgt := 31) dX0_isNameSign_27 (by decide) ?_
    exact z_ireturn dX0_isNameSign_31 rfl (nar01 (by decide)) (hP _ _ _ hw hW)
  · have hw := hw.2 h3
    refine z_iload_n dX0_isNameSign_7 rfl rfl ?_
    have hX := lX10_isDigit 0 (Nat.le_refl _) hT hS hW g1 hw
    refine z_callSN (As := [_]) eX10_isDigit sX10_isDigit lX0_83 dX0_isNameSign_8 hX (Nat.le_trans (by decide) hd) rfl (Nat.le_of_ble_eq_true rfl) (fun r cs hp => ?_)
    obtain ⟨r6, S5, rfl, hw, hW⟩ := hp
    refine z_st (st' := [.int (Int32.ofInt (r6))]) rfl ?_
    obtain ⟨q8, hw⟩ := hw
    refine i_if_ne (tgt := 26) dX0_isNameSign_11 (by decide) q8 (fun h7 => ?_) (fun h7 => ?_)
    · have hw := hw.1 h7
      refine z_iconst (v := Int32.ofInt 1) dX0_isNameSign_26 rfl ?_
      refine z_goto (tgt := 31) dX0_isNameSign_27 (by decide) ?_
      exact z_ireturn dX0_isNameSign_31 rfl (nar01 (by decide)) (hP _ _ _ hw hW)
    · have hw := hw.2 h7
      refine z_iload_n dX0_isNameSign_14 rfl rfl ?_
      refine z_bipush (v := Int32.ofInt 95) dX0_isNameSign_15 (by decide) ?_
      refine i_icmp_eq (tgt := 26) dX0_isNameSign_17 (by decide) g1 ⟨by decide, by decide⟩ (fun h9 => ?_) (fun h9 => ?_)
      · have hw := hw.1 h9
        refine z_iconst (v := Int32.ofInt 1) dX0_isNameSign_26 rfl ?_
        refine z_goto (tgt := 31) dX0_isNameSign_27 (by decide) ?_
        exact z_ireturn dX0_isNameSign_31 rfl (nar01 (by decide)) (hP _ _ _ hw hW)
      · have hw := hw.2 h9
        refine z_iload_n dX0_isNameSign_20 rfl rfl ?_
        refine z_bipush (v := Int32.ofInt 36) dX0_isNameSign_21 (by decide) ?_
        refine i_icmp_ne (tgt := 30) dX0_isNameSign_23 (by decide) g1 ⟨by decide, by decide⟩ (fun h10 => ?_) (fun h10 => ?_)
        · have hw := hw.1 h10
          refine z_iconst (v := Int32.ofInt 0) dX0_isNameSign_30 rfl ?_
          exact z_ireturn dX0_isNameSign_31 rfl (nar01 (by decide)) (hP _ _ _ hw hW)
        · have hw := hw.2 h10
          refine z_iconst (v := Int32.ofInt 1) dX0_isNameSign_26 rfl ?_
          refine z_goto (tgt := 31) dX0_isNameSign_27 (by decide) ?_
          exact z_ireturn dX0_isNameSign_31 rfl (nar01 (by decide)) (hP _ _ _ hw hW)

def wX4_letterOn  (a1 a2 : Int) (S : St) (K : Int → St → Prop) : Prop := rng a1 → rng a2 → ((a1 < 0 → K 0 S) ∧ ((¬ (a1 < 0)) → ((30 ≤ a1 → K 0 S) ∧ ((¬ (30 ≤ a1)) → ((0 : Int) ≤ a1 ∧ a1 < (30 : Int) ∧ (iv 0 16 (S.2 35 (a1)) → ((16 ≤ S.2 35 (a1) → K 0 S) ∧ ((¬ (16 ≤ S.2 35 (a1))) → ((0 : Int) ≤ a1 ∧ a1 < (30 : Int) ∧ (iv 0 16 (S.2 35 (a1)) → (iv 0 65535 (a2) ∧ ((0 : Int) ≤ ((a1 * 16) + S.2 35 (a1)) ∧ ((a1 * 16) + S.2 35 (a1)) < (480 : Int) ∧ (∀ S10, S10 = pA S 34 (((a1 * 16) + S.2 35 (a1))) (a2) → ((0 : Int) ≤ a1 ∧ a1 < (30 : Int) ∧ (iv 0 16 (S10.2 35 (a1)) → ((0 : Int) ≤ a1 ∧ a1 < (30 : Int) ∧ (iv 0 16 ((S10.2 35 (a1) + 1)) ∧ (∀ S14, S14 = pA S10 35 (a1) ((S10.2 35 (a1) + 1)) → K 0 S14))))))))))))))))))
set_option maxRecDepth 100000 in
set_option maxHeartbeats 4000000 in
theorem lX4_letterOn {G : xG} {v : Nat → Nat} {sh : Nat → Option Sh} {B : Nat × Nat} {c0 : List va_E}  {a1 a2 : Int} {S : St} {cs : List va_E} {K : Int → St → Prop} (d : Nat) (hd : 0 ≤ d) (hT : sb shC sh) (hS : ∀ b x, sh b = some x → ¬ isS b) (hW : Wv G v sh B c0 S cs) (g1 : rng a1) (g2 : rng a2) (hw : wX4_letterOn a1 a2 S K) : X G yX4_letterOn cX4_letterOn 3 none d [.ref (G.1 + v 33), .int (Int32.ofInt a1), .int (Int32.ofInt a2)] cs (vV G v sh B c0 K) := by
  refine X.of false (by decide +kernel) (by decide) (Nat.le_of_ble_eq_true rfl) ?_
  show Z (RX4, cX4_letterOn, 3, none, false) G d _ 0 [(0, .ref (G.1 + v 33)), (1, .int (Int32.ofInt a1)), (2, .int (Int32.ofInt a2))] [] cs
  have hP : ∀ (x : Int) (S : St) (cs : List va_E), K x S → Wv G v sh B c0 S cs → vV G v sh B c0 K (none) cs := fun x S cs a b => ⟨x, S, rfl, a, b⟩
  unfold wX4_letterOn at hw
  have hw := hw g1 g2
  refine z_iload_n dX4_letterOn_0 rfl rfl ?_
  refine i_if_lt (tgt := 49) dX4_letterOn_1 (by decide) g1 (fun h1 => ?_) (fun h1 => ?_)
  · have hw := hw.1 h1
    exact z_return dX4_letterOn_49 rfl (hP 0 _ _ hw hW)
  · have hw := hw.2 h1
    refine z_iload_n dX4_letterOn_4 rfl rfl ?_
    refine z_bipush (v := Int32.ofInt 30) dX4_letterOn_5 (by decide) ?_
    refine i_icmp_ge (tgt := 49) dX4_letterOn_7 (by decide) g1 ⟨by decide, by decide⟩ (fun h2 => ?_) (fun h2 => ?_)
    · have hw := hw.1 h2
      exact z_return dX4_letterOn_49 rfl (hP 0 _ _ hw hW)
    · have hw := hw.2 h2
      refine z_aload_n dX4_letterOn_10 rfl rfl ?_
      refine v_getR hW (hT 33 _ rfl) rfl kX4 fX4_15 dX4_letterOn_11 ?_
      refine z_iload_n dX4_letterOn_14 rfl rfl ?_
      obtain ⟨q3a, q3b, hw⟩ := hw
      have q4 : iv 0 16 (S.2 35 (a1)) := hW.iA 35 _
      have hw := hw q4
      refine v_iald hW (hT 35 _ rfl) q3a q3b (by decide) dX4_letterOn_15 ?_
      refine z_bipush (v := Int32.ofInt 16) dX4_letterOn_16 (by decide) ?_
      refine i_icmp_ge (tgt := 49) dX4_letterOn_18 (by decide) (rngq q4 (by decide) (by decide)) ⟨by decide, by decide⟩ (fun h5 => ?_) (fun h5 => ?_)
      · have hw := hw.1 h5
        exact z_return dX4_letterOn_49 rfl (hP 0 _ _ hw hW)
      · have hw := hw.2 h5
        refine z_aload_n dX4_letterOn_21 rfl rfl ?_
        refine v_getR hW (hT 33 _ rfl) rfl kX4 fX4_11 dX4_letterOn_22 ?_
        refine z_iload_n dX4_letterOn_25 rfl rfl ?_
        refine z_bipush (v := Int32.ofInt 16) dX4_letterOn_26 (by decide) ?_
        refine i_imul dX4_letterOn_28 ?_
        refine z_aload_n dX4_letterOn_29 rfl rfl ?_
        refine v_getR hW (hT 33 _ rfl) rfl kX4 fX4_15 dX4_letterOn_30 ?_
        refine z_iload_n dX4_letterOn_33 rfl rfl ?_
        obtain ⟨q6a, q6b, hw⟩ := hw
        have q7 : iv 0 16 (S.2 35 (a1)) := hW.iA 35 _
        have hw := hw q7
        refine v_iald hW (hT 35 _ rfl) q6a q6b (by decide) dX4_letterOn_34 ?_
        refine i_iadd dX4_letterOn_35 ?_
        refine z_iload_n dX4_letterOn_36 rfl rfl ?_
        obtain ⟨q8, hw⟩ := hw
        refine v_i2c q8 dX4_letterOn_37 ?_
        obtain ⟨q9a, q9b, hw⟩ := hw
        refine v_cast hW (hT 34 _ rfl) (by decide) (by unfold isS; decide) q9a q9b (by decide) q8 q8 dX4_letterOn_38 (fun cs hW => ?_)
        obtain ⟨S10, hS10⟩ : ∃ x, x = pA S 34 (((a1 * 16) + S.2 35 (a1))) (a2) := ⟨_, rfl⟩
        rw [← hS10] at hW
        have hw := hw S10 hS10
        refine z_aload_n dX4_letterOn_39 rfl rfl ?_
        refine v_getR hW (hT 33 _ rfl) rfl kX4 fX4_15 dX4_letterOn_40 ?_
        refine z_iload_n dX4_letterOn_43 rfl rfl ?_
        refine z_dup2 dX4_letterOn_44 rfl rfl ?_
        obtain ⟨q11a, q11b, hw⟩ := hw
        have q12 : iv 0 16 (S10.2 35 (a1)) := hW.iA 35 _
        have hw := hw q12
        refine v_iald hW (hT 35 _ rfl) q11a q11b (by decide) dX4_letterOn_45 ?_
        refine z_iconst (v := Int32.ofInt 1) dX4_letterOn_46 rfl ?_
        refine i_iadd dX4_letterOn_47 ?_
        obtain ⟨q13a, q13b, hw⟩ := hw
        obtain ⟨q15, hw⟩ := hw
        refine v_iast hW (hT 35 _ rfl) (by decide) (by unfold isS; decide) q13a q13b (by decide) q15 dX4_letterOn_48 (fun cs hW => ?_)
        obtain ⟨S14, hS14⟩ : ∃ x, x = pA S10 35 (a1) ((S10.2 35 (a1) + 1)) := ⟨_, rfl⟩
        rw [← hS14] at hW
        have hw := hw S14 hS14
        exact z_return dX4_letterOn_49 rfl (hP 0 _ _ hw hW)

def wX4_spellOn  (a1 a2 : Int) (S : St) (K : Int → St → Prop) : Prop := rng a1 → rng a2 → ((¬ a2 = 36 → (wX4_letterOn (a1) (a2) S (fun r3 S2 => ((¬ a2 = 95 → K 0 S2) ∧ ((¬ (¬ a2 = 95)) → (wX4_letterOn (a1) (95) S2 (fun r6 S5 => K 0 S5))))))) ∧ ((¬ (¬ a2 = 36)) → (wX4_letterOn (a1) (95) S (fun r8 S7 => (wX4_letterOn (a1) (45) S7 (fun r10 S9 => K 0 S9))))))
set_option maxRecDepth 100000 in
set_option maxHeartbeats 4000000 in
theorem lX4_spellOn {G : xG} {v : Nat → Nat} {sh : Nat → Option Sh} {B : Nat × Nat} {c0 : List va_E}  {a1 a2 : Int} {S : St} {cs : List va_E} {K : Int → St → Prop} (d : Nat) (hd : 1 ≤ d) (hT : sb shC sh) (hS : ∀ b x, sh b = some x → ¬ isS b) (hW : Wv G v sh B c0 S cs) (g1 : rng a1) (g2 : rng a2) (hw : wX4_spellOn a1 a2 S K) : X G yX4_spellOn cX4_spellOn 3 none d [.ref (G.1 + v 33), .int (Int32.ofInt a1), .int (Int32.ofInt a2)] cs (vV G v sh B c0 K) := by
  refine X.of false (by decide +kernel) (by decide) (Nat.le_of_ble_eq_true rfl) ?_
  show Z (RX4, cX4_spellOn, 3, none, false) G d _ 0 [(0, .ref (G.1 + v 33)), (1, .int (Int32.ofInt a1)), (2, .int (Int32.ofInt a2))] [] cs
  have hP : ∀ (x : Int) (S : St) (cs : List va_E), K x S → Wv G v sh B c0 S cs → vV G v sh B c0 K (none) cs := fun x S cs a b => ⟨x, S, rfl, a, b⟩
  unfold wX4_spellOn at hw
  have hw := hw g1 g2
  refine z_iload_n dX4_spellOn_0 rfl rfl ?_
  refine z_bipush (v := Int32.ofInt 36) dX4_spellOn_1 (by decide) ?_
  refine i_icmp_ne (tgt := 23) dX4_spellOn_3 (by decide) g2 ⟨by decide, by decide⟩ (fun h1 => ?_) (fun h1 => ?_)
  · have hw := hw.1 h1
    refine z_aload_n dX4_spellOn_23 rfl rfl ?_
    refine z_iload_n dX4_spellOn_24 rfl rfl ?_
    refine z_iload_n dX4_spellOn_25 rfl rfl ?_
    have hX := lX4_letterOn 0 (Nat.le_refl _) hT hS hW g1 g2 hw
    refine z_callV (As := [_, _]) eX4_letterOn sX4_letterOn lX4_61 rfl dX4_spellOn_26 (hW.at (hT 33 _ rfl)) hX (Nat.le_trans (by decide) hd) rfl (Nat.le_of_ble_eq_true rfl) (fun r cs hp => ?_)
    obtain ⟨r3, S2, rfl, hw, hW⟩ := hp
    refine z_st (st' := []) rfl ?_
    refine z_iload_n dX4_spellOn_29 rfl rfl ?_
    refine z_bipush (v := Int32.ofInt 95) dX4_spellOn_30 (by decide) ?_
    refine i_icmp_ne (tgt := 42) dX4_spellOn_32 (by decide) g2 ⟨by decide, by decide⟩ (fun h4 => ?_) (fun h4 => ?_)
    · have hw := hw.1 h4
      exact z_return dX4_spellOn_42 rfl (hP 0 _ _ hw hW)
    · have hw := hw.2 h4
      refine z_aload_n dX4_spellOn_35 rfl rfl ?_
      refine z_iload_n dX4_spellOn_36 rfl rfl ?_
      refine z_bipush (v := Int32.ofInt 95) dX4_spellOn_37 (by decide) ?_
      have hX := lX4_letterOn 0 (Nat.le_refl _) hT hS hW g1 ⟨by decide, by decide⟩ hw
      refine z_callV (As := [_, _]) eX4_letterOn sX4_letterOn lX4_61 rfl dX4_spellOn_39 (hW.at (hT 33 _ rfl)) hX (Nat.le_trans (by decide) hd) rfl (Nat.le_of_ble_eq_true rfl) (fun r cs hp => ?_)
      obtain ⟨r6, S5, rfl, hw, hW⟩ := hp
      refine z_st (st' := []) rfl ?_
      exact z_return dX4_spellOn_42 rfl (hP 0 _ _ hw hW)
  · have hw := hw.2 h1
    refine z_aload_n dX4_spellOn_6 rfl rfl ?_
    refine z_iload_n dX4_spellOn_7 rfl rfl ?_
    refine z_bipush (v := Int32.ofInt 95) dX4_spellOn_8 (by decide) ?_
    have hX := lX4_letterOn 0 (Nat.le_refl _) hT hS hW g1 ⟨by decide, by decide⟩ hw
    refine z_callV (As := [_, _]) eX4_letterOn sX4_letterOn lX4_61 rfl dX4_spellOn_10 (hW.at (hT 33 _ rfl)) hX (Nat.le_trans (by decide) hd) rfl (Nat.le_of_ble_eq_true rfl) (fun r cs hp => ?_)
    obtain ⟨r8, S7, rfl, hw, hW⟩ := hp
    refine z_st (st' := []) rfl ?_
    refine z_aload_n dX4_spellOn_13 rfl rfl ?_
    refine z_iload_n dX4_spellOn_14 rfl rfl ?_
    refine z_bipush (v := Int32.ofInt 45) dX4_spellOn_15 (by decide) ?_
    have hX := lX4_letterOn 0 (Nat.le_refl _) hT hS hW g1 ⟨by decide, by decide⟩ hw
    refine z_callV (As := [_, _]) eX4_letterOn sX4_letterOn lX4_61 rfl dX4_spellOn_17 (hW.at (hT 33 _ rfl)) hX (Nat.le_trans (by decide) hd) rfl (Nat.le_of_ble_eq_true rfl) (fun r cs hp => ?_)
    obtain ⟨r10, S9, rfl, hw, hW⟩ := hp
    refine z_st (st' := []) rfl ?_
    refine z_goto (tgt := 42) dX4_spellOn_20 (by decide) ?_
    exact z_return dX4_spellOn_42 rfl (hP 0 _ _ hw hW)

def wX0_isNameRight_38'  (l1 l2 : Int) (S : St) (K : Int → St → Prop) (B38 : Int → Int → St → Prop) : Prop := (rng (l2) ∧ ((8 ≤ l2 → K (1) S) ∧ ((¬ (8 ≤ l2)) → (iv (-2147483648) 2147483647 (S.1 200 2) → (wX5_at 1 (S.1 200 2) S (fun r5 S4 => (rng (r5) ∧ (wX0_isNameSign (r5) S4 (fun r7 S6 => (rng (r7) ∧ ((r7 = 0 → K (1) S6) ∧ ((¬ (r7 = 0)) → (iv (-2147483648) 2147483647 (S6.1 200 2) → (wX5_at 1 (S6.1 200 2) S6 (fun r13 S12 => (rng (l1) ∧ (rng (r13) ∧ (wX4_spellOn (l1) (r13) S12 (fun r15 S14 => (iv (-2147483648) 2147483647 (S14.1 200 2) → (iv (-2147483648) 2147483647 ((S14.1 200 2 + 1)) ∧ (∀ S19, S19 = pI S14 200 2 ((S14.1 200 2 + 1)) → B38 (l1) ((l2 + 1)) S19))))))))))))))))))))))
set_option maxRecDepth 100000 in
set_option maxHeartbeats 4000000 in
theorem ubX0_isNameRight_38' {G : xG} {v : Nat → Nat} {sh : Nat → Option Sh} {B : Nat × Nat} {c0 : List va_E} {d : Nat} {Post : xP} {l1 l2 : Int} {S : St} {cs : List va_E} {K : Int → St → Prop} {B38 : Int → Int → St → Prop} (hd : 2 ≤ d) (hT : sb shC sh) (hS : ∀ b x, sh b = some x → ¬ isS b) (hU : sb shT sh) (hW : Wv G v sh B c0 S cs) (hP : ∀ (x : Int) (S : St) (cs : List va_E), K x S → Wv G v sh B c0 S cs → Post (some (.int (Int32.ofInt x))) cs) (hB38 : ∀ (l1 : Int) (l2 : Int) (S : St) (cs : List va_E), B38 l1 l2 S → Wv G v sh B c0 S cs → Z (RX0, cX0_isNameRight, 3, some .boolean, false) G d Post 38 [(0, .ref (G.1 + v 200)), (1, .int (Int32.ofInt (l1))), (2, .int (Int32.ofInt (l2)))] [] cs) (hw : wX0_isNameRight_38' l1 l2 S K B38) : Z (RX0, cX0_isNameRight, 3, some .boolean, false) G d Post 38 [(0, .ref (G.1 + v 200)), (1, .int (Int32.ofInt (l1))), (2, .int (Int32.ofInt (l2)))] [] cs := by
  unfold wX0_isNameRight_38' at hw
  refine z_iload_n dX0_isNameRight_38 rfl rfl ?_
  refine z_bipush (v := Int32.ofInt 8) dX0_isNameRight_39 (by decide) ?_
  obtain ⟨q2, hw⟩ := hw
  refine i_icmp_ge (tgt := 96) dX0_isNameRight_41 (by decide) q2 ⟨by decide, by decide⟩ (fun h1 => ?_) (fun h1 => ?_)
  · have hw := hw.1 h1
    refine z_iconst (v := Int32.ofInt 1) dX0_isNameRight_96 rfl ?_
    exact z_ireturn dX0_isNameRight_97 rfl (nar01 (by decide)) (hP _ _ _ hw hW)
  · have hw := hw.2 h1
    refine z_aload_n dX0_isNameRight_44 rfl rfl ?_
    refine v_getR hW (hU 200 _ rfl) rfl kX0 fX0_15 dX0_isNameRight_45 ?_
    refine z_aload_n dX0_isNameRight_48 rfl rfl ?_
    have q3 : iv (-2147483648) 2147483647 (S.1 200 2) := hW.iI 200 2
    have hw := hw q3
    refine v_getI hW (hU 200 _ rfl) rfl kX0 fX0_9 dX0_isNameRight_49 ?_
    have hX := lX5_at 0 (Nat.le_refl _) hW (show isS 1 by unfold isS; decide) (fun b x h e => hS b x h (e ▸ (show isS 1 by unfold isS; decide))) (rngq q3 (by decide) (by decide)) hw
    refine z_callV (As := [_]) eX5_at sX5_at lX0_62 rfl dX0_isNameRight_52 (hW.sg (show isS 1 by unfold isS; decide) (fun b x h e => hS b x h (e ▸ (show isS 1 by unfold isS; decide)))).choose_spec.choose_spec.choose_spec.choose_spec.1.choose_spec.1 hX (Nat.le_trans (by decide) hd) rfl (Nat.le_of_ble_eq_true rfl) (fun r cs hp => ?_)
    obtain ⟨r5, S4, rfl, hw, hW⟩ := hp
    refine z_st (st' := [.int (Int32.ofInt (r5))]) rfl ?_
    obtain ⟨q8, hw⟩ := hw
    have hX := lX0_isNameSign 1 (Nat.le_refl _) hT hS hW q8 hw
    refine z_callS (As := [_]) eX0_isNameSign sX0_isNameSign lX0_86 dX0_isNameRight_55 hX (Nat.le_trans (by decide) hd) rfl (Nat.le_of_ble_eq_true rfl) (fun r cs hp => ?_)
    obtain ⟨r7, S6, rfl, hw, hW⟩ := hp
    refine z_st (st' := [.int (Int32.ofInt (r7))]) rfl ?_
    obtain ⟨q10, hw⟩ := hw
    refine i_if_eq (tgt := 96) dX0_isNameRight_58 (by decide) q10 (fun h9 => ?_) (fun h9 => ?_)
    · have hw := hw.1 h9
      refine z_iconst (v := Int32.ofInt 1) dX0_isNameRight_96 rfl ?_
      exact z_ireturn dX0_isNameRight_97 rfl (nar01 (by decide)) (hP _ _ _ hw hW)
    · have hw := hw.2 h9
      refine z_aload_n dX0_isNameRight_61 rfl rfl ?_
      refine v_getR hW (hU 200 _ rfl) rfl kX0 fX0_19 dX0_isNameRight_62 ?_
      refine z_iload_n dX0_isNameRight_65 rfl rfl ?_
      refine z_aload_n dX0_isNameRight_66 rfl rfl ?_
      refine v_getR hW (hU 200 _ rfl) rfl kX0 fX0_15 dX0_isNameRight_67 ?_
      refine z_aload_n dX0_isNameRight_70 rfl rfl ?_
      have q11 : iv (-2147483648) 2147483647 (S6.1 200 2) := hW.iI 200 2
      have hw := hw q11
      refine v_getI hW (hU 200 _ rfl) rfl kX0 fX0_9 dX0_isNameRight_71 ?_
      have hX := lX5_at 0 (Nat.le_refl _) hW (show isS 1 by unfold isS; decide) (fun b x h e => hS b x h (e ▸ (show isS 1 by unfold isS; decide))) (rngq q11 (by decide) (by decide)) hw
      refine z_callV (As := [_]) eX5_at sX5_at lX0_62 rfl dX0_isNameRight_74 (hW.sg (show isS 1 by unfold isS; decide) (fun b x h e => hS b x h (e ▸ (show isS 1 by unfold isS; decide)))).choose_spec.choose_spec.choose_spec.choose_spec.1.choose_spec.1 hX (Nat.le_trans (by decide) hd) rfl (Nat.le_of_ble_eq_true rfl) (fun r cs hp => ?_)
      obtain ⟨r13, S12, rfl, hw, hW⟩ := hp
      refine z_st (st' := [.int (Int32.ofInt (r13)), .int (Int32.ofInt (l1)), .ref (G.1 + v 33)]) rfl ?_
      obtain ⟨q16, hw⟩ := hw
      obtain ⟨q17, hw⟩ := hw
      have hX := lX4_spellOn 1 (Nat.le_refl _) hT hS hW q16 q17 hw
      refine z_callV (As := [_, _]) eX4_spellOn sX4_spellOn lX0_89 rfl dX0_isNameRight_77 (hW.at (hT 33 _ rfl)) hX (Nat.le_trans (by decide) hd) rfl (Nat.le_of_ble_eq_true rfl) (fun r cs hp => ?_)
      obtain ⟨r15, S14, rfl, hw, hW⟩ := hp
      refine z_st (st' := []) rfl ?_
      refine z_aload_n dX0_isNameRight_80 rfl rfl ?_
      refine z_dup dX0_isNameRight_81 rfl ?_
      have q18 : iv (-2147483648) 2147483647 (S14.1 200 2) := hW.iI 200 2
      have hw := hw q18
      refine v_getI hW (hU 200 _ rfl) rfl kX0 fX0_9 dX0_isNameRight_82 ?_
      refine z_iconst (v := Int32.ofInt 1) dX0_isNameRight_85 rfl ?_
      refine i_iadd dX0_isNameRight_86 ?_
      obtain ⟨q20, hw⟩ := hw
      refine v_putI hW (hU 200 _ rfl) (by decide) (by unfold isS; decide) rfl kX0 fX0_9 dX0_isNameRight_87 rfl rfl rfl q20 (fun cs hW => ?_)
      obtain ⟨S19, hS19⟩ : ∃ x, x = pI S14 200 2 ((S14.1 200 2 + 1)) := ⟨_, rfl⟩
      rw [← hS19] at hW
      have hw := hw S19 hS19
      refine i_iinc (l := l2) dX0_isNameRight_90 rfl (by decide) ?_
      refine z_loc (L' := [(0, .ref (G.1 + v 200)), (1, .int (Int32.ofInt (l1))), (2, .int (Int32.ofInt ((l2 + 1))))]) (List.forall_mem_cons.mpr ⟨rfl, (List.forall_mem_cons.mpr ⟨rfl, (List.forall_mem_cons.mpr ⟨rfl, (fun _ h => nomatch h)⟩)⟩)⟩) ?_
      refine z_goto (tgt := 38) dX0_isNameRight_93 (by decide) ?_
      refine z_loc (L' := [(0, .ref (G.1 + v 200)), (1, .int (Int32.ofInt (l1))), (2, .int (Int32.ofInt ((l2 + 1))))]) (List.forall_mem_cons.mpr ⟨rfl, (List.forall_mem_cons.mpr ⟨rfl, (List.forall_mem_cons.mpr ⟨rfl, (fun _ h => nomatch h)⟩)⟩)⟩) ?_
      exact hB38 _ _ _ _ hw hW
def wX0_isNameRight_38  (l1 l2 : Int) (S : St) (K : Int → St → Prop) : Prop := ∃ (Iv : Int → Int → St → Prop) (mu : Int → Int → St → Nat), Iv l1 l2 S ∧ ∀ (l1 l2 : Int) (S : St), Iv l1 l2 S → wX0_isNameRight_38' l1 l2 S K  (fun ml1 ml2 T => Iv ml1 ml2 T ∧ mu ml1 ml2 T < mu l1 l2 S)
set_option maxRecDepth 100000 in
set_option maxHeartbeats 4000000 in
theorem ubX0_isNameRight_38 {G : xG} {v : Nat → Nat} {sh : Nat → Option Sh} {B : Nat × Nat} {c0 : List va_E} {d : Nat} {Post : xP} {l1 l2 : Int} {S : St} {cs : List va_E} {K : Int → St → Prop} (hd : 2 ≤ d) (hT : sb shC sh) (hS : ∀ b x, sh b = some x → ¬ isS b) (hU : sb shT sh) (hW : Wv G v sh B c0 S cs) (hP : ∀ (x : Int) (S : St) (cs : List va_E), K x S → Wv G v sh B c0 S cs → Post (some (.int (Int32.ofInt x))) cs)  (hw : wX0_isNameRight_38 l1 l2 S K ) : Z (RX0, cX0_isNameRight, 3, some .boolean, false) G d Post 38 [(0, .ref (G.1 + v 200)), (1, .int (Int32.ofInt (l1))), (2, .int (Int32.ofInt (l2)))] [] cs := by
  unfold wX0_isNameRight_38 at hw
  obtain ⟨Iv, mu, h0, hs⟩ := hw
  have key : ∀ (n : Nat) (l1 l2 : Int) (S : St) (cs : List va_E), mu l1 l2 S < n → Iv l1 l2 S → Wv G v sh B c0 S cs → Z (RX0, cX0_isNameRight, 3, some .boolean, false) G d Post 38 [(0, .ref (G.1 + v 200)), (1, .int (Int32.ofInt (l1))), (2, .int (Int32.ofInt (l2)))] [] cs := by
    intro n
    induction n with
    | zero => intro l1 l2 S cs hn; exact absurd hn (Nat.not_lt_zero _)
    | succ n ih =>
      intro l1 l2 S cs hn hI hW
      exact ubX0_isNameRight_38' hd hT hS hU hW hP  (fun l1 l2 S cs hb hW => ih l1 l2 S cs (Nat.lt_of_lt_of_le hb.2 (Nat.le_of_lt_succ hn)) hb.1 hW) (hs l1 l2 S hI)
  exact key _ _ _ _ _ (Nat.lt_succ_self _) h0 hW
def wX0_isNameRight  (a1 : Int) (S : St) (K : Int → St → Prop) : Prop := rng a1 → (iv (-2147483648) 2147483647 (S.1 200 2) → (wX5_at 1 (S.1 200 2) S (fun r3 S2 => (rng (r3) ∧ (wX10_isDigit (r3) S2 (fun r5 S4 => (rng (r5) ∧ ((¬ r5 = 0 → K (0) S4) ∧ ((¬ (¬ r5 = 0)) → (iv (-2147483648) 2147483647 (S4.1 200 2) → (wX5_at 1 (S4.1 200 2) S4 (fun r11 S10 => (rng (r11) ∧ (wX0_isNameSign (r11) S10 (fun r13 S12 => (rng (r13) ∧ ((¬ r13 = 0 → wX0_isNameRight_38 (a1) (0) S12 K) ∧ ((¬ (¬ r13 = 0)) → K (0) S12))))))))))))))))))
set_option maxRecDepth 100000 in
set_option maxHeartbeats 4000000 in
theorem lX0_isNameRight {G : xG} {v : Nat → Nat} {sh : Nat → Option Sh} {B : Nat × Nat} {c0 : List va_E}  {a1 : Int} {S : St} {cs : List va_E} {K : Int → St → Prop} (d : Nat) (hd : 2 ≤ d) (hT : sb shC sh) (hS : ∀ b x, sh b = some x → ¬ isS b) (hU : sb shT sh) (hW : Wv G v sh B c0 S cs) (g1 : rng a1) (hw : wX0_isNameRight a1 S K) : X G yX0_isNameRight cX0_isNameRight 3 (some .boolean) d [.ref (G.1 + v 200), .int (Int32.ofInt a1)] cs (vI G v sh B c0 K) := by
  refine X.of false (by decide +kernel) (by decide) (Nat.le_of_ble_eq_true rfl) ?_
  show Z (RX0, cX0_isNameRight, 3, some .boolean, false) G d _ 0 [(0, .ref (G.1 + v 200)), (1, .int (Int32.ofInt a1))] [] cs
  have hP : ∀ (x : Int) (S : St) (cs : List va_E), K x S → Wv G v sh B c0 S cs → vI G v sh B c0 K (some (.int (Int32.ofInt x))) cs := fun x S cs a b => ⟨x, S, rfl, a, b⟩
  unfold wX0_isNameRight at hw
  have hw := hw g1
  refine z_aload_n dX0_isNameRight_0 rfl rfl ?_
  refine v_getR hW (hU 200 _ rfl) rfl kX0 fX0_15 dX0_isNameRight_1 ?_
  refine z_aload_n dX0_isNameRight_4 rfl rfl ?_
  have q1 : iv (-2147483648) 2147483647 (S.1 200 2) := hW.iI 200 2
  have hw := hw q1
  refine v_getI hW (hU 200 _ rfl) rfl kX0 fX0_9 dX0_isNameRight_5 ?_
  have hX := lX5_at 0 (Nat.le_refl _) hW (show isS 1 by unfold isS; decide) (fun b x h e => hS b x h (e ▸ (show isS 1 by unfold isS; decide))) (rngq q1 (by decide) (by decide)) hw
  refine z_callV (As := [_]) eX5_at sX5_at lX0_62 rfl dX0_isNameRight_8 (hW.sg (show isS 1 by unfold isS; decide) (fun b x h e => hS b x h (e ▸ (show isS 1 by unfold isS; decide)))).choose_spec.choose_spec.choose_spec.choose_spec.1.choose_spec.1 hX (Nat.le_trans (by decide) hd) rfl (Nat.le_of_ble_eq_true rfl) (fun r cs hp => ?_)
  obtain ⟨r3, S2, rfl, hw, hW⟩ := hp
  refine z_st (st' := [.int (Int32.ofInt (r3))]) rfl ?_
  obtain ⟨q6, hw⟩ := hw
  have hX := lX10_isDigit 0 (Nat.le_refl _) hT hS hW q6 hw
  refine z_callSN (As := [_]) eX10_isDigit sX10_isDigit lX0_83 dX0_isNameRight_11 hX (Nat.le_trans (by decide) hd) rfl (Nat.le_of_ble_eq_true rfl) (fun r cs hp => ?_)
  obtain ⟨r5, S4, rfl, hw, hW⟩ := hp
  refine z_st (st' := [.int (Int32.ofInt (r5))]) rfl ?_
  obtain ⟨q8, hw⟩ := hw
  refine i_if_ne (tgt := 34) dX0_isNameRight_14 (by decide) q8 (fun h7 => ?_) (fun h7 => ?_)
  · have hw := hw.1 h7
    refine z_iconst (v := Int32.ofInt 0) dX0_isNameRight_34 rfl ?_
    exact z_ireturn dX0_isNameRight_35 rfl (nar01 (by decide)) (hP _ _ _ hw hW)
  · have hw := hw.2 h7
    refine z_aload_n dX0_isNameRight_17 rfl rfl ?_
    refine v_getR hW (hU 200 _ rfl) rfl kX0 fX0_15 dX0_isNameRight_18 ?_
    refine z_aload_n dX0_isNameRight_21 rfl rfl ?_
    have q9 : iv (-2147483648) 2147483647 (S4.1 200 2) := hW.iI 200 2
    have hw := hw q9
    refine v_getI hW (hU 200 _ rfl) rfl kX0 fX0_9 dX0_isNameRight_22 ?_
    have hX := lX5_at 0 (Nat.le_refl _) hW (show isS 1 by unfold isS; decide) (fun b x h e => hS b x h (e ▸ (show isS 1 by unfold isS; decide))) (rngq q9 (by decide) (by decide)) hw
    refine z_callV (As := [_]) eX5_at sX5_at lX0_62 rfl dX0_isNameRight_25 (hW.sg (show isS 1 by unfold isS; decide) (fun b x h e => hS b x h (e ▸ (show isS 1 by unfold isS; decide)))).choose_spec.choose_spec.choose_spec.choose_spec.1.choose_spec.1 hX (Nat.le_trans (by decide) hd) rfl (Nat.le_of_ble_eq_true rfl) (fun r cs hp => ?_)
    obtain ⟨r11, S10, rfl, hw, hW⟩ := hp
    refine z_st (st' := [.int (Int32.ofInt (r11))]) rfl ?_
    obtain ⟨q14, hw⟩ := hw
    have hX := lX0_isNameSign 1 (Nat.le_refl _) hT hS hW q14 hw
    refine z_callS (As := [_]) eX0_isNameSign sX0_isNameSign lX0_86 dX0_isNameRight_28 hX (Nat.le_trans (by decide) hd) rfl (Nat.le_of_ble_eq_true rfl) (fun r cs hp => ?_)
    obtain ⟨r13, S12, rfl, hw, hW⟩ := hp
    refine z_st (st' := [.int (Int32.ofInt (r13))]) rfl ?_
    obtain ⟨q16, hw⟩ := hw
    refine i_if_ne (tgt := 36) dX0_isNameRight_31 (by decide) q16 (fun h15 => ?_) (fun h15 => ?_)
    · have hw := hw.1 h15
      refine z_iconst (v := Int32.ofInt 0) dX0_isNameRight_36 rfl ?_
      refine z_istore_n dX0_isNameRight_37 rfl (by decide) ?_
      refine z_loc (L' := [(0, .ref (G.1 + v 200)), (1, .int (Int32.ofInt (a1))), (2, .int (Int32.ofInt (0)))]) (List.forall_mem_cons.mpr ⟨rfl, (List.forall_mem_cons.mpr ⟨rfl, (List.forall_mem_cons.mpr ⟨rfl, (fun _ h => nomatch h)⟩)⟩)⟩) ?_
      refine z_loc (L' := [(0, .ref (G.1 + v 200)), (1, .int (Int32.ofInt (a1))), (2, .int (Int32.ofInt (0)))]) (List.forall_mem_cons.mpr ⟨rfl, (List.forall_mem_cons.mpr ⟨rfl, (List.forall_mem_cons.mpr ⟨rfl, (fun _ h => nomatch h)⟩)⟩)⟩) ?_
      exact ubX0_isNameRight_38 hd hT hS hU hW hP  hw
    · have hw := hw.2 h15
      refine z_iconst (v := Int32.ofInt 0) dX0_isNameRight_34 rfl ?_
      exact z_ireturn dX0_isNameRight_35 rfl (nar01 (by decide)) (hP _ _ _ hw hW)

def wX0_shapeOf  (a1 : Int) (S : St) (K : Int → St → Prop) : Prop := rng a1 → ((a1 = 105 → K (1) S) ∧ ((a1 = 108 → K (4) S) ∧ ((a1 = 114 → K (3) S) ∧ ((a1 = 116 → K (2) S) ∧ ((¬ a1 = 105 ∧ ¬ a1 = 108 ∧ ¬ a1 = 114 ∧ ¬ a1 = 116) → K (0) S)))))
set_option maxRecDepth 100000 in
set_option maxHeartbeats 4000000 in
theorem lX0_shapeOf {G : xG} {v : Nat → Nat} {sh : Nat → Option Sh} {B : Nat × Nat} {c0 : List va_E}  {a1 : Int} {S : St} {cs : List va_E} {K : Int → St → Prop} (d : Nat) (hd : 0 ≤ d) (hT : sb shC sh) (hS : ∀ b x, sh b = some x → ¬ isS b) (hW : Wv G v sh B c0 S cs) (g1 : rng a1) (hw : wX0_shapeOf a1 S K) : X G yX0_shapeOf cX0_shapeOf 1 (some .int) d [.int (Int32.ofInt a1)] cs (vI G v sh B c0 K) := by
  refine X.of false (by decide +kernel) (by decide) (Nat.le_of_ble_eq_true rfl) ?_
  show Z (RX0, cX0_shapeOf, 1, some .int, false) G d _ 0 [(0, .int (Int32.ofInt a1))] [] cs
  have hP : ∀ (x : Int) (S : St) (cs : List va_E), K x S → Wv G v sh B c0 S cs → vI G v sh B c0 K (some (.int (Int32.ofInt x))) cs := fun x S cs a b => ⟨x, S, rfl, a, b⟩
  unfold wX0_shapeOf at hw
  have hw := hw g1
  refine z_iload_n dX0_shapeOf_0 rfl rfl ?_
  rcases (show a1 = 105 ∨ a1 = 108 ∨ a1 = 114 ∨ a1 = 116 ∨ (¬ a1 = 105 ∧ ¬ a1 = 108 ∧ ¬ a1 = 114 ∧ ¬ a1 = 116) by omega) with h1 | h1 | h1 | h1 | h1
  · have hw := hw.1 h1
    refine tw_look (off := 43) (tgt := 44) dX0_shapeOf_1 (by decide) g1 (by rw [h1]; decide) (by decide) ?_
    refine z_iconst (v := Int32.ofInt 1) dX0_shapeOf_44 rfl ?_
    exact z_ireturn dX0_shapeOf_45 rfl rfl (hP _ _ _ hw hW)
  · have hw := hw.2.1 h1
    refine tw_look (off := 49) (tgt := 50) dX0_shapeOf_1 (by decide) g1 (by rw [h1]; decide) (by decide) ?_
    refine z_iconst (v := Int32.ofInt 4) dX0_shapeOf_50 rfl ?_
    exact z_ireturn dX0_shapeOf_51 rfl rfl (hP _ _ _ hw hW)
  · have hw := hw.2.2.1 h1
    refine tw_look (off := 47) (tgt := 48) dX0_shapeOf_1 (by decide) g1 (by rw [h1]; decide) (by decide) ?_
    refine z_iconst (v := Int32.ofInt 3) dX0_shapeOf_48 rfl ?_
    exact z_ireturn dX0_shapeOf_49 rfl rfl (hP _ _ _ hw hW)
  · have hw := hw.2.2.2.1 h1
    refine tw_look (off := 45) (tgt := 46) dX0_shapeOf_1 (by decide) g1 (by rw [h1]; decide) (by decide) ?_
    refine z_iconst (v := Int32.ofInt 2) dX0_shapeOf_46 rfl ?_
    exact z_ireturn dX0_shapeOf_47 rfl rfl (hP _ _ _ hw hW)
  · have hw := hw.2.2.2.2 h1
    refine tw_look (off := 51) (tgt := 52) dX0_shapeOf_1 (by decide) g1 (by obtain ⟨g0, g1, g2, g3⟩ := h1; simp [Op.lookupswitch.offset, Ne.symm g0, Ne.symm g1, Ne.symm g2, Ne.symm g3, g0, g1, g2, g3]) (by decide) ?_
    refine z_iconst (v := Int32.ofInt 0) dX0_shapeOf_52 rfl ?_
    exact z_ireturn dX0_shapeOf_53 rfl rfl (hP _ _ _ hw hW)

def wX4_putShape  (a1 a2 a3 : Int) (S : St) (K : Int → St → Prop) : Prop := rng a1 → rng a2 → rng a3 → (wX4_isField_b (a1) (a2) S (fun r2 S1 => (rng (r2) ∧ ((r2 = 0 → K 0 S1) ∧ ((¬ (r2 = 0)) → ((0 : Int) ≤ ((a1 * 4) + a2) ∧ ((a1 * 4) + a2) < (24 : Int) ∧ (iv (-2147483648) 2147483647 (a3) ∧ (∀ S6, S6 = pA S1 36 (((a1 * 4) + a2)) (a3) → ((0 : Int) ≤ a1 ∧ a1 < (6 : Int) ∧ (iv (-2147483648) 2147483647 (S6.2 40 (a1)) → ((¬ a3 = 3 → ((0 : Int) ≤ a1 ∧ a1 < (6 : Int) ∧ (iv (-2147483648) 2147483647 ((bor (S6.2 40 (a1)) (0))) ∧ (∀ S12, S12 = pA S6 40 (a1) ((bor (S6.2 40 (a1)) (0))) → K 0 S12)))) ∧ ((¬ (¬ a3 = 3)) → ((0 : Int) ≤ a1 ∧ a1 < (6 : Int) ∧ (iv (-2147483648) 2147483647 ((bor (S6.2 40 (a1)) ((bsl (1) (a2))))) ∧ (∀ S15, S15 = pA S6 40 (a1) ((bor (S6.2 40 (a1)) ((bsl (1) (a2))))) → K 0 S15)))))))))))))))
set_option maxRecDepth 100000 in
set_option maxHeartbeats 4000000 in
theorem lX4_putShape {G : xG} {v : Nat → Nat} {sh : Nat → Option Sh} {B : Nat × Nat} {c0 : List va_E}  {a1 a2 a3 : Int} {S : St} {cs : List va_E} {K : Int → St → Prop} (d : Nat) (hd : 1 ≤ d) (hT : sb shC sh) (hS : ∀ b x, sh b = some x → ¬ isS b) (hW : Wv G v sh B c0 S cs) (g1 : rng a1) (g2 : rng a2) (g3 : rng a3) (hw : wX4_putShape a1 a2 a3 S K) : X G yX4_putShape cX4_putShape 4 none d [.ref (G.1 + v 33), .int (Int32.ofInt a1), .int (Int32.ofInt a2), .int (Int32.ofInt a3)] cs (vV G v sh B c0 K) := by
  refine X.of false (by decide +kernel) (by decide) (Nat.le_of_ble_eq_true rfl) ?_
  show Z (RX4, cX4_putShape, 4, none, false) G d _ 0 [(0, .ref (G.1 + v 33)), (1, .int (Int32.ofInt a1)), (2, .int (Int32.ofInt a2)), (3, .int (Int32.ofInt a3))] [] cs
  have hP : ∀ (x : Int) (S : St) (cs : List va_E), K x S → Wv G v sh B c0 S cs → vV G v sh B c0 K (none) cs := fun x S cs a b => ⟨x, S, rfl, a, b⟩
  unfold wX4_putShape at hw
  have hw := hw g1 g2 g3
  refine z_aload_n dX4_putShape_0 rfl rfl ?_
  refine z_iload_n dX4_putShape_1 rfl rfl ?_
  refine z_iload_n dX4_putShape_2 rfl rfl ?_
  have hX := lX4_isField_b 0 (Nat.le_refl _) hT hS hW g1 g2 hw
  refine z_callV (As := [_, _]) eX4_isField sX4_isField lX4_46 rfl dX4_putShape_3 (hW.at (hT 33 _ rfl)) hX (Nat.le_trans (by decide) hd) rfl (Nat.le_of_ble_eq_true rfl) (fun r cs hp => ?_)
  obtain ⟨r2, S1, rfl, hw, hW⟩ := hp
  refine z_st (st' := [.int (Int32.ofInt (r2))]) rfl ?_
  obtain ⟨q4, hw⟩ := hw
  refine i_if_eq (tgt := 41) dX4_putShape_6 (by decide) q4 (fun h3 => ?_) (fun h3 => ?_)
  · have hw := hw.1 h3
    exact z_return dX4_putShape_41 rfl (hP 0 _ _ hw hW)
  · have hw := hw.2 h3
    refine z_aload_n dX4_putShape_9 rfl rfl ?_
    refine v_getR hW (hT 33 _ rfl) rfl kX4 fX4_19 dX4_putShape_10 ?_
    refine z_iload_n dX4_putShape_13 rfl rfl ?_
    refine z_iconst (v := Int32.ofInt 4) dX4_putShape_14 rfl ?_
    refine i_imul dX4_putShape_15 ?_
    refine z_iload_n dX4_putShape_16 rfl rfl ?_
    refine i_iadd dX4_putShape_17 ?_
    refine z_iload_n dX4_putShape_18 rfl rfl ?_
    obtain ⟨q5a, q5b, hw⟩ := hw
    obtain ⟨q7, hw⟩ := hw
    refine v_iast hW (hT 36 _ rfl) (by decide) (by unfold isS; decide) q5a q5b (by decide) q7 dX4_putShape_19 (fun cs hW => ?_)
    obtain ⟨S6, hS6⟩ : ∃ x, x = pA S1 36 (((a1 * 4) + a2)) (a3) := ⟨_, rfl⟩
    rw [← hS6] at hW
    have hw := hw S6 hS6
    refine z_aload_n dX4_putShape_20 rfl rfl ?_
    refine v_getR hW (hT 33 _ rfl) rfl kX4 fX4_32 dX4_putShape_21 ?_
    refine z_iload_n dX4_putShape_24 rfl rfl ?_
    refine z_dup2 dX4_putShape_25 rfl rfl ?_
    obtain ⟨q8a, q8b, hw⟩ := hw
    have q9 : iv (-2147483648) 2147483647 (S6.2 40 (a1)) := hW.iA 40 _
    have hw := hw q9
    refine v_iald hW (hT 40 _ rfl) q8a q8b (by decide) dX4_putShape_26 ?_
    refine z_iload_n dX4_putShape_27 rfl rfl ?_
    refine z_iconst (v := Int32.ofInt 3) dX4_putShape_28 rfl ?_
    refine i_icmp_ne (tgt := 38) dX4_putShape_29 (by decide) g3 ⟨by decide, by decide⟩ (fun h10 => ?_) (fun h10 => ?_)
    · have hw := hw.1 h10
      refine z_iconst (v := Int32.ofInt 0) dX4_putShape_38 rfl ?_
      refine v_ior dX4_putShape_39 ?_
      obtain ⟨q11a, q11b, hw⟩ := hw
      obtain ⟨q13, hw⟩ := hw
      refine v_iast hW (hT 40 _ rfl) (by decide) (by unfold isS; decide) q11a q11b (by decide) q13 dX4_putShape_40 (fun cs hW => ?_)
      obtain ⟨S12, hS12⟩ : ∃ x, x = pA S6 40 (a1) ((bor (S6.2 40 (a1)) (0))) := ⟨_, rfl⟩
      rw [← hS12] at hW
      have hw := hw S12 hS12
      exact z_return dX4_putShape_41 rfl (hP 0 _ _ hw hW)
    · have hw := hw.2 h10
      refine z_iconst (v := Int32.ofInt 1) dX4_putShape_32 rfl ?_
      refine z_iload_n dX4_putShape_33 rfl rfl ?_
      refine v_ishl dX4_putShape_34 ?_
      refine z_goto (tgt := 39) dX4_putShape_35 (by decide) ?_
      refine v_ior dX4_putShape_39 ?_
      obtain ⟨q14a, q14b, hw⟩ := hw
      obtain ⟨q16, hw⟩ := hw
      refine v_iast hW (hT 40 _ rfl) (by decide) (by unfold isS; decide) q14a q14b (by decide) q16 dX4_putShape_40 (fun cs hW => ?_)
      obtain ⟨S15, hS15⟩ : ∃ x, x = pA S6 40 (a1) ((bor (S6.2 40 (a1)) ((bsl (1) (a2))))) := ⟨_, rfl⟩
      rw [← hS15] at hW
      have hw := hw S15 hS15
      exact z_return dX4_putShape_41 rfl (hP 0 _ _ hw hW)

def wX0_isFieldRight_114  (l1 l2 l3 : Int) (S : St) (K : Int → St → Prop) : Prop := (rng (l3) ∧ ((¬ l3 = 4 → K (1) S) ∧ ((¬ (¬ l3 = 4)) → (rng (l1) ∧ (wX4_implicit_b (l1) S (fun r4 S3 => (rng (r4) ∧ ((¬ r4 = (-1) → K (1) S3) ∧ ((¬ (¬ r4 = (-1))) → (wX0_skips (42) S3 (fun r9 S8 => (rng (r9) ∧ ((r9 = 0 → K (1) S8) ∧ ((¬ (r9 = 0)) → (rng (l2) ∧ (wX4_putImplicit (l1) (l2) S8 (fun r13 S12 => K (1) S12)))))))))))))))))
set_option maxRecDepth 100000 in
set_option maxHeartbeats 4000000 in
theorem ubX0_isFieldRight_114 {G : xG} {v : Nat → Nat} {sh : Nat → Option Sh} {B : Nat × Nat} {c0 : List va_E} {d : Nat} {Post : xP} {l1 l2 l3 : Int} {S : St} {cs : List va_E} {K : Int → St → Prop} (hd : 3 ≤ d) (hT : sb shC sh) (hS : ∀ b x, sh b = some x → ¬ isS b) (hU : sb shT sh) (hW : Wv G v sh B c0 S cs) (hP : ∀ (x : Int) (S : St) (cs : List va_E), K x S → Wv G v sh B c0 S cs → Post (some (.int (Int32.ofInt x))) cs)  (hw : wX0_isFieldRight_114 l1 l2 l3 S K ) : Z (RX0, cX0_isFieldRight, 5, some .boolean, false) G d Post 114 [(0, .ref (G.1 + v 200)), (1, .int (Int32.ofInt (l1))), (2, .int (Int32.ofInt (l2))), (3, .int (Int32.ofInt (l3)))] [] cs := by
  unfold wX0_isFieldRight_114 at hw
  refine z_iload_n dX0_isFieldRight_114 rfl rfl ?_
  refine z_iconst (v := Int32.ofInt 4) dX0_isFieldRight_115 rfl ?_
  obtain ⟨q2, hw⟩ := hw
  refine i_icmp_ne (tgt := 149) dX0_isFieldRight_116 (by decide) q2 ⟨by decide, by decide⟩ (fun h1 => ?_) (fun h1 => ?_)
  · have hw := hw.1 h1
    refine z_iconst (v := Int32.ofInt 1) dX0_isFieldRight_149 rfl ?_
    exact z_ireturn dX0_isFieldRight_150 rfl (nar01 (by decide)) (hP _ _ _ hw hW)
  · have hw := hw.2 h1
    refine z_aload_n dX0_isFieldRight_119 rfl rfl ?_
    refine v_getR hW (hU 200 _ rfl) rfl kX0 fX0_19 dX0_isFieldRight_120 ?_
    refine z_iload_n dX0_isFieldRight_123 rfl rfl ?_
    obtain ⟨q5, hw⟩ := hw
    have hX := lX4_implicit_b 1 (Nat.le_refl _) hT hS hW q5 hw
    refine z_callV (As := [_]) eX4_implicit sX4_implicit lX0_77 rfl dX0_isFieldRight_124 (hW.at (hT 33 _ rfl)) hX (Nat.le_trans (by decide) hd) rfl (Nat.le_of_ble_eq_true rfl) (fun r cs hp => ?_)
    obtain ⟨r4, S3, rfl, hw, hW⟩ := hp
    refine z_st (st' := [.int (Int32.ofInt (r4))]) rfl ?_
    refine z_iconst (v := Int32.ofInt (-1)) dX0_isFieldRight_127 rfl ?_
    obtain ⟨q7, hw⟩ := hw
    refine i_icmp_ne (tgt := 149) dX0_isFieldRight_128 (by decide) q7 ⟨by decide, by decide⟩ (fun h6 => ?_) (fun h6 => ?_)
    · have hw := hw.1 h6
      refine z_iconst (v := Int32.ofInt 1) dX0_isFieldRight_149 rfl ?_
      exact z_ireturn dX0_isFieldRight_150 rfl (nar01 (by decide)) (hP _ _ _ hw hW)
    · have hw := hw.2 h6
      refine z_aload_n dX0_isFieldRight_131 rfl rfl ?_
      refine z_bipush (v := Int32.ofInt 42) dX0_isFieldRight_132 (by decide) ?_
      have hX := lX0_skips 1 (Nat.le_refl _) hT hS hU hW ⟨by decide, by decide⟩ hw
      refine z_callV (As := [_]) eX0_skips sX0_skips lX0_32 rfl dX0_isFieldRight_134 (hW.at (hU 200 _ rfl)) hX (Nat.le_trans (by decide) hd) rfl (Nat.le_of_ble_eq_true rfl) (fun r cs hp => ?_)
      obtain ⟨r9, S8, rfl, hw, hW⟩ := hp
      refine z_st (st' := [.int (Int32.ofInt (r9))]) rfl ?_
      obtain ⟨q11, hw⟩ := hw
      refine i_if_eq (tgt := 149) dX0_isFieldRight_137 (by decide) q11 (fun h10 => ?_) (fun h10 => ?_)
      · have hw := hw.1 h10
        refine z_iconst (v := Int32.ofInt 1) dX0_isFieldRight_149 rfl ?_
        exact z_ireturn dX0_isFieldRight_150 rfl (nar01 (by decide)) (hP _ _ _ hw hW)
      · have hw := hw.2 h10
        refine z_aload_n dX0_isFieldRight_140 rfl rfl ?_
        refine v_getR hW (hU 200 _ rfl) rfl kX0 fX0_19 dX0_isFieldRight_141 ?_
        refine z_iload_n dX0_isFieldRight_144 rfl rfl ?_
        refine z_iload_n dX0_isFieldRight_145 rfl rfl ?_
        obtain ⟨q14, hw⟩ := hw
        have hX := lX4_putImplicit 1 (Nat.le_refl _) hT hS hW q5 q14 hw
        refine z_callV (As := [_, _]) eX4_putImplicit sX4_putImplicit lX0_80 rfl dX0_isFieldRight_146 (hW.at (hT 33 _ rfl)) hX (Nat.le_trans (by decide) hd) rfl (Nat.le_of_ble_eq_true rfl) (fun r cs hp => ?_)
        obtain ⟨r13, S12, rfl, hw, hW⟩ := hp
        refine z_st (st' := []) rfl ?_
        refine z_iconst (v := Int32.ofInt 1) dX0_isFieldRight_149 rfl ?_
        exact z_ireturn dX0_isFieldRight_150 rfl (nar01 (by decide)) (hP _ _ _ hw hW)
def wX0_isFieldRight_86  (l1 l2 l3 s0 : Int) (S : St) (K : Int → St → Prop) : Prop := (rng (s0) ∧ ((s0 = 0 → wX0_isFieldRight_114 (l1) (l2) (l3) S K) ∧ ((¬ (s0 = 0)) → (wX0_skips (64) S (fun r4 S3 => (rng (r4) ∧ ((r4 = 0 → wX0_isFieldRight_114 (l1) (l2) (l3) S3 K) ∧ ((¬ (r4 = 0)) → (rng (l1) ∧ (rng (l2) ∧ (wX4_putAttribute (l1) (l2) S3 (fun r8 S7 => K (1) S7))))))))))))
set_option maxRecDepth 100000 in
set_option maxHeartbeats 4000000 in
theorem ubX0_isFieldRight_86 {G : xG} {v : Nat → Nat} {sh : Nat → Option Sh} {B : Nat × Nat} {c0 : List va_E} {d : Nat} {Post : xP} {l1 l2 l3 s0 : Int} {S : St} {cs : List va_E} {K : Int → St → Prop} (hd : 3 ≤ d) (hT : sb shC sh) (hS : ∀ b x, sh b = some x → ¬ isS b) (hU : sb shT sh) (hW : Wv G v sh B c0 S cs) (hP : ∀ (x : Int) (S : St) (cs : List va_E), K x S → Wv G v sh B c0 S cs → Post (some (.int (Int32.ofInt x))) cs)  (hw : wX0_isFieldRight_86 l1 l2 l3 s0 S K ) : Z (RX0, cX0_isFieldRight, 5, some .boolean, false) G d Post 86 [(0, .ref (G.1 + v 200)), (1, .int (Int32.ofInt (l1))), (2, .int (Int32.ofInt (l2))), (3, .int (Int32.ofInt (l3)))] [.int (Int32.ofInt (s0))] cs := by
  unfold wX0_isFieldRight_86 at hw
  refine z_istore dX0_isFieldRight_86 (by decide) ?_
  refine z_loc (L' := [(0, .ref (G.1 + v 200)), (1, .int (Int32.ofInt (l1))), (2, .int (Int32.ofInt (l2))), (3, .int (Int32.ofInt (l3))), (4, .int (Int32.ofInt (s0)))]) (List.forall_mem_cons.mpr ⟨rfl, (List.forall_mem_cons.mpr ⟨rfl, (List.forall_mem_cons.mpr ⟨rfl, (List.forall_mem_cons.mpr ⟨rfl, (List.forall_mem_cons.mpr ⟨rfl, (fun _ h => nomatch h)⟩)⟩)⟩)⟩)⟩) ?_
  refine z_iload dX0_isFieldRight_88 rfl ?_
  obtain ⟨q2, hw⟩ := hw
  refine i_if_eq (tgt := 114) dX0_isFieldRight_90 (by decide) q2 (fun h1 => ?_) (fun h1 => ?_)
  · have hw := hw.1 h1
    refine z_loc (L' := [(0, .ref (G.1 + v 200)), (1, .int (Int32.ofInt (l1))), (2, .int (Int32.ofInt (l2))), (3, .int (Int32.ofInt (l3)))]) (List.forall_mem_cons.mpr ⟨rfl, (List.forall_mem_cons.mpr ⟨rfl, (List.forall_mem_cons.mpr ⟨rfl, (List.forall_mem_cons.mpr ⟨rfl, (fun _ h => nomatch h)⟩)⟩)⟩)⟩) ?_
    exact ubX0_isFieldRight_114 hd hT hS hU hW hP  hw
  · have hw := hw.2 h1
    refine z_aload_n dX0_isFieldRight_93 rfl rfl ?_
    refine z_bipush (v := Int32.ofInt 64) dX0_isFieldRight_94 (by decide) ?_
    have hX := lX0_skips 1 (Nat.le_refl _) hT hS hU hW ⟨by decide, by decide⟩ hw
    refine z_callV (As := [_]) eX0_skips sX0_skips lX0_32 rfl dX0_isFieldRight_96 (hW.at (hU 200 _ rfl)) hX (Nat.le_trans (by decide) hd) rfl (Nat.le_of_ble_eq_true rfl) (fun r cs hp => ?_)
    obtain ⟨r4, S3, rfl, hw, hW⟩ := hp
    refine z_st (st' := [.int (Int32.ofInt (r4))]) rfl ?_
    obtain ⟨q6, hw⟩ := hw
    refine i_if_eq (tgt := 114) dX0_isFieldRight_99 (by decide) q6 (fun h5 => ?_) (fun h5 => ?_)
    · have hw := hw.1 h5
      refine z_loc (L' := [(0, .ref (G.1 + v 200)), (1, .int (Int32.ofInt (l1))), (2, .int (Int32.ofInt (l2))), (3, .int (Int32.ofInt (l3)))]) (List.forall_mem_cons.mpr ⟨rfl, (List.forall_mem_cons.mpr ⟨rfl, (List.forall_mem_cons.mpr ⟨rfl, (List.forall_mem_cons.mpr ⟨rfl, (fun _ h => nomatch h)⟩)⟩)⟩)⟩) ?_
      exact ubX0_isFieldRight_114 hd hT hS hU hW hP  hw
    · have hw := hw.2 h5
      refine z_aload_n dX0_isFieldRight_102 rfl rfl ?_
      refine v_getR hW (hU 200 _ rfl) rfl kX0 fX0_19 dX0_isFieldRight_103 ?_
      refine z_iload_n dX0_isFieldRight_106 rfl rfl ?_
      refine z_iload_n dX0_isFieldRight_107 rfl rfl ?_
      obtain ⟨q9, hw⟩ := hw
      obtain ⟨q10, hw⟩ := hw
      have hX := lX4_putAttribute 1 (Nat.le_refl _) hT hS hW q9 q10 hw
      refine z_callV (As := [_, _]) eX4_putAttribute sX4_putAttribute lX0_73 rfl dX0_isFieldRight_108 (hW.at (hT 33 _ rfl)) hX (Nat.le_trans (by decide) hd) rfl (Nat.le_of_ble_eq_true rfl) (fun r cs hp => ?_)
      obtain ⟨r8, S7, rfl, hw, hW⟩ := hp
      refine z_st (st' := []) rfl ?_
      refine z_goto (tgt := 149) dX0_isFieldRight_111 (by decide) ?_
      refine z_iconst (v := Int32.ofInt 1) dX0_isFieldRight_149 rfl ?_
      exact z_ireturn dX0_isFieldRight_150 rfl (nar01 (by decide)) (hP _ _ _ hw hW)
def wX0_isFieldRight_81  (l1 l2 l3 : Int) (S : St) (K : Int → St → Prop) : Prop := wX0_isFieldRight_86 (l1) (l2) (l3) (1) S K
set_option maxRecDepth 100000 in
set_option maxHeartbeats 4000000 in
theorem ubX0_isFieldRight_81 {G : xG} {v : Nat → Nat} {sh : Nat → Option Sh} {B : Nat × Nat} {c0 : List va_E} {d : Nat} {Post : xP} {l1 l2 l3 : Int} {S : St} {cs : List va_E} {K : Int → St → Prop} (hd : 3 ≤ d) (hT : sb shC sh) (hS : ∀ b x, sh b = some x → ¬ isS b) (hU : sb shT sh) (hW : Wv G v sh B c0 S cs) (hP : ∀ (x : Int) (S : St) (cs : List va_E), K x S → Wv G v sh B c0 S cs → Post (some (.int (Int32.ofInt x))) cs)  (hw : wX0_isFieldRight_81 l1 l2 l3 S K ) : Z (RX0, cX0_isFieldRight, 5, some .boolean, false) G d Post 81 [(0, .ref (G.1 + v 200)), (1, .int (Int32.ofInt (l1))), (2, .int (Int32.ofInt (l2))), (3, .int (Int32.ofInt (l3)))] [] cs := by
  unfold wX0_isFieldRight_81 at hw
  refine z_iconst (v := Int32.ofInt 1) dX0_isFieldRight_81 rfl ?_
  refine z_goto (tgt := 86) dX0_isFieldRight_82 (by decide) ?_
  refine z_loc (L' := [(0, .ref (G.1 + v 200)), (1, .int (Int32.ofInt (l1))), (2, .int (Int32.ofInt (l2))), (3, .int (Int32.ofInt (l3)))]) (List.forall_mem_cons.mpr ⟨rfl, (List.forall_mem_cons.mpr ⟨rfl, (List.forall_mem_cons.mpr ⟨rfl, (List.forall_mem_cons.mpr ⟨rfl, (fun _ h => nomatch h)⟩)⟩)⟩)⟩) ?_
  exact ubX0_isFieldRight_86 hd hT hS hU hW hP  hw
def wX0_isFieldRight  (a1 a2 : Int) (S : St) (K : Int → St → Prop) : Prop := rng a1 → rng a2 → (wX4_beginField S (fun r2 S1 => (wX4_fieldName (a1) (a2) S1 (fun r4 S3 => (rng (r4) ∧ (wX0_isNameRight (r4) S3 (fun r6 S5 => (rng (r6) ∧ ((r6 = 0 → K (0) S5) ∧ ((¬ (r6 = 0)) → (wX0_skips (58) S5 (fun r11 S10 => (rng (r11) ∧ ((¬ r11 = 0 → (iv (-2147483648) 2147483647 (S10.1 200 2) → (wX5_at 1 (S10.1 200 2) S10 (fun r16 S15 => (rng (r16) ∧ (wX0_shapeOf (r16) S15 (fun r18 S17 => (rng (r18) ∧ ((¬ r18 = 0 → (iv (-2147483648) 2147483647 (S17.1 200 2) → (iv (-2147483648) 2147483647 ((S17.1 200 2 + 1)) ∧ (∀ S23, S23 = pI S17 200 2 ((S17.1 200 2 + 1)) → (wX4_putShape (a1) (a2) (r18) S23 (fun r26 S25 => ((r18 = 1 → wX0_isFieldRight_81 (a1) (a2) (r18) S25 K) ∧ ((¬ (r18 = 1)) → ((¬ r18 = 2 → wX0_isFieldRight_86 (a1) (a2) (r18) (0) S25 K) ∧ ((¬ (¬ r18 = 2)) → wX0_isFieldRight_81 (a1) (a2) (r18) S25 K)))))))))) ∧ ((¬ (¬ r18 = 0)) → K (0) S17)))))))))) ∧ ((¬ (¬ r11 = 0)) → K (0) S10)))))))))))))))
set_option maxRecDepth 100000 in
set_option maxHeartbeats 4000000 in
theorem lX0_isFieldRight {G : xG} {v : Nat → Nat} {sh : Nat → Option Sh} {B : Nat × Nat} {c0 : List va_E}  {a1 a2 : Int} {S : St} {cs : List va_E} {K : Int → St → Prop} (d : Nat) (hd : 3 ≤ d) (hT : sb shC sh) (hS : ∀ b x, sh b = some x → ¬ isS b) (hU : sb shT sh) (hW : Wv G v sh B c0 S cs) (g1 : rng a1) (g2 : rng a2) (hw : wX0_isFieldRight a1 a2 S K) : X G yX0_isFieldRight cX0_isFieldRight 5 (some .boolean) d [.ref (G.1 + v 200), .int (Int32.ofInt a1), .int (Int32.ofInt a2)] cs (vI G v sh B c0 K) := by
  refine X.of false (by decide +kernel) (by decide) (Nat.le_of_ble_eq_true rfl) ?_
  show Z (RX0, cX0_isFieldRight, 5, some .boolean, false) G d _ 0 [(0, .ref (G.1 + v 200)), (1, .int (Int32.ofInt a1)), (2, .int (Int32.ofInt a2))] [] cs
  have hP : ∀ (x : Int) (S : St) (cs : List va_E), K x S → Wv G v sh B c0 S cs → vI G v sh B c0 K (some (.int (Int32.ofInt x))) cs := fun x S cs a b => ⟨x, S, rfl, a, b⟩
  unfold wX0_isFieldRight at hw
  have hw := hw g1 g2
  refine z_aload_n dX0_isFieldRight_0 rfl rfl ?_
  refine v_getR hW (hU 200 _ rfl) rfl kX0 fX0_19 dX0_isFieldRight_1 ?_
  have hX := lX4_beginField 1 (Nat.le_refl _) hT hS hW  hw
  refine z_callV (As := []) eX4_beginField sX4_beginField lX0_55 rfl dX0_isFieldRight_4 (hW.at (hT 33 _ rfl)) hX (Nat.le_trans (by decide) hd) rfl (Nat.le_of_ble_eq_true rfl) (fun r cs hp => ?_)
  obtain ⟨r2, S1, rfl, hw, hW⟩ := hp
  refine z_st (st' := []) rfl ?_
  refine z_aload_n dX0_isFieldRight_7 rfl rfl ?_
  refine z_iload_n dX0_isFieldRight_8 rfl rfl ?_
  refine z_iload_n dX0_isFieldRight_9 rfl rfl ?_
  have hX := lX4_fieldName 0 (Nat.le_refl _) hT hS hW g1 g2 hw
  refine z_callS (As := [_, _]) eX4_fieldName sX4_fieldName lX0_58 dX0_isFieldRight_10 hX (Nat.le_trans (by decide) hd) rfl (Nat.le_of_ble_eq_true rfl) (fun r cs hp => ?_)
  obtain ⟨r4, S3, rfl, hw, hW⟩ := hp
  refine z_st (st' := [.int (Int32.ofInt (r4)), .ref (G.1 + v 200)]) rfl ?_
  obtain ⟨q7, hw⟩ := hw
  have hX := lX0_isNameRight 2 (Nat.le_refl _) hT hS hU hW q7 hw
  refine z_callV (As := [_]) eX0_isNameRight sX0_isNameRight lX0_48 rfl dX0_isFieldRight_13 (hW.at (hU 200 _ rfl)) hX (Nat.le_trans (by decide) hd) rfl (Nat.le_of_ble_eq_true rfl) (fun r cs hp => ?_)
  obtain ⟨r6, S5, rfl, hw, hW⟩ := hp
  refine z_st (st' := [.int (Int32.ofInt (r6))]) rfl ?_
  obtain ⟨q9, hw⟩ := hw
  refine i_if_eq (tgt := 28) dX0_isFieldRight_16 (by decide) q9 (fun h8 => ?_) (fun h8 => ?_)
  · have hw := hw.1 h8
    refine z_iconst (v := Int32.ofInt 0) dX0_isFieldRight_28 rfl ?_
    exact z_ireturn dX0_isFieldRight_29 rfl (nar01 (by decide)) (hP _ _ _ hw hW)
  · have hw := hw.2 h8
    refine z_aload_n dX0_isFieldRight_19 rfl rfl ?_
    refine z_bipush (v := Int32.ofInt 58) dX0_isFieldRight_20 (by decide) ?_
    have hX := lX0_skips 1 (Nat.le_refl _) hT hS hU hW ⟨by decide, by decide⟩ hw
    refine z_callV (As := [_]) eX0_skips sX0_skips lX0_32 rfl dX0_isFieldRight_22 (hW.at (hU 200 _ rfl)) hX (Nat.le_trans (by decide) hd) rfl (Nat.le_of_ble_eq_true rfl) (fun r cs hp => ?_)
    obtain ⟨r11, S10, rfl, hw, hW⟩ := hp
    refine z_st (st' := [.int (Int32.ofInt (r11))]) rfl ?_
    obtain ⟨q13, hw⟩ := hw
    refine i_if_ne (tgt := 30) dX0_isFieldRight_25 (by decide) q13 (fun h12 => ?_) (fun h12 => ?_)
    · have hw := hw.1 h12
      refine z_aload_n dX0_isFieldRight_30 rfl rfl ?_
      refine v_getR hW (hU 200 _ rfl) rfl kX0 fX0_15 dX0_isFieldRight_31 ?_
      refine z_aload_n dX0_isFieldRight_34 rfl rfl ?_
      have q14 : iv (-2147483648) 2147483647 (S10.1 200 2) := hW.iI 200 2
      have hw := hw q14
      refine v_getI hW (hU 200 _ rfl) rfl kX0 fX0_9 dX0_isFieldRight_35 ?_
      have hX := lX5_at 0 (Nat.le_refl _) hW (show isS 1 by unfold isS; decide) (fun b x h e => hS b x h (e ▸ (show isS 1 by unfold isS; decide))) (rngq q14 (by decide) (by decide)) hw
      refine z_callV (As := [_]) eX5_at sX5_at lX0_62 rfl dX0_isFieldRight_38 (hW.sg (show isS 1 by unfold isS; decide) (fun b x h e => hS b x h (e ▸ (show isS 1 by unfold isS; decide)))).choose_spec.choose_spec.choose_spec.choose_spec.1.choose_spec.1 hX (Nat.le_trans (by decide) hd) rfl (Nat.le_of_ble_eq_true rfl) (fun r cs hp => ?_)
      obtain ⟨r16, S15, rfl, hw, hW⟩ := hp
      refine z_st (st' := [.int (Int32.ofInt (r16))]) rfl ?_
      obtain ⟨q19, hw⟩ := hw
      have hX := lX0_shapeOf 0 (Nat.le_refl _) hT hS hW q19 hw
      refine z_callS (As := [_]) eX0_shapeOf sX0_shapeOf lX0_66 dX0_isFieldRight_41 hX (Nat.le_trans (by decide) hd) rfl (Nat.le_of_ble_eq_true rfl) (fun r cs hp => ?_)
      obtain ⟨r18, S17, rfl, hw, hW⟩ := hp
      refine z_st (st' := [.int (Int32.ofInt (r18))]) rfl ?_
      refine z_istore_n dX0_isFieldRight_44 rfl (by decide) ?_
      refine z_loc (L' := [(0, .ref (G.1 + v 200)), (1, .int (Int32.ofInt (a1))), (2, .int (Int32.ofInt (a2))), (3, .int (Int32.ofInt (r18)))]) (List.forall_mem_cons.mpr ⟨rfl, (List.forall_mem_cons.mpr ⟨rfl, (List.forall_mem_cons.mpr ⟨rfl, (List.forall_mem_cons.mpr ⟨rfl, (fun _ h => nomatch h)⟩)⟩)⟩)⟩) ?_
      refine z_iload_n dX0_isFieldRight_45 rfl rfl ?_
      obtain ⟨q21, hw⟩ := hw
      refine i_if_ne (tgt := 51) dX0_isFieldRight_46 (by decide) q21 (fun h20 => ?_) (fun h20 => ?_)
      · have hw := hw.1 h20
        refine z_aload_n dX0_isFieldRight_51 rfl rfl ?_
        refine z_dup dX0_isFieldRight_52 rfl ?_
        have q22 : iv (-2147483648) 2147483647 (S17.1 200 2) := hW.iI 200 2
        have hw := hw q22
        refine v_getI hW (hU 200 _ rfl) rfl kX0 fX0_9 dX0_isFieldRight_53 ?_
        refine z_iconst (v := Int32.ofInt 1) dX0_isFieldRight_56 rfl ?_
        refine i_iadd dX0_isFieldRight_57 ?_
        obtain ⟨q24, hw⟩ := hw
        refine v_putI hW (hU 200 _ rfl) (by decide) (by unfold isS; decide) rfl kX0 fX0_9 dX0_isFieldRight_58 rfl rfl rfl q24 (fun cs hW => ?_)
        obtain ⟨S23, hS23⟩ : ∃ x, x = pI S17 200 2 ((S17.1 200 2 + 1)) := ⟨_, rfl⟩
        rw [← hS23] at hW
        have hw := hw S23 hS23
        refine z_aload_n dX0_isFieldRight_61 rfl rfl ?_
        refine v_getR hW (hU 200 _ rfl) rfl kX0 fX0_19 dX0_isFieldRight_62 ?_
        refine z_iload_n dX0_isFieldRight_65 rfl rfl ?_
        refine z_iload_n dX0_isFieldRight_66 rfl rfl ?_
        refine z_iload_n dX0_isFieldRight_67 rfl rfl ?_
        have hX := lX4_putShape 1 (Nat.le_refl _) hT hS hW g1 g2 q21 hw
        refine z_callV (As := [_, _, _]) eX4_putShape sX4_putShape lX0_69 rfl dX0_isFieldRight_68 (hW.at (hT 33 _ rfl)) hX (Nat.le_trans (by decide) hd) rfl (Nat.le_of_ble_eq_true rfl) (fun r cs hp => ?_)
        obtain ⟨r26, S25, rfl, hw, hW⟩ := hp
        refine z_st (st' := []) rfl ?_
        refine z_iload_n dX0_isFieldRight_71 rfl rfl ?_
        refine z_iconst (v := Int32.ofInt 1) dX0_isFieldRight_72 rfl ?_
        refine i_icmp_eq (tgt := 81) dX0_isFieldRight_73 (by decide) q21 ⟨by decide, by decide⟩ (fun h27 => ?_) (fun h27 => ?_)
        · have hw := hw.1 h27
          refine z_loc (L' := [(0, .ref (G.1 + v 200)), (1, .int (Int32.ofInt (a1))), (2, .int (Int32.ofInt (a2))), (3, .int (Int32.ofInt (r18)))]) (List.forall_mem_cons.mpr ⟨rfl, (List.forall_mem_cons.mpr ⟨rfl, (List.forall_mem_cons.mpr ⟨rfl, (List.forall_mem_cons.mpr ⟨rfl, (fun _ h => nomatch h)⟩)⟩)⟩)⟩) ?_
          exact ubX0_isFieldRight_81 hd hT hS hU hW hP  hw
        · have hw := hw.2 h27
          refine z_iload_n dX0_isFieldRight_76 rfl rfl ?_
          refine z_iconst (v := Int32.ofInt 2) dX0_isFieldRight_77 rfl ?_
          refine i_icmp_ne (tgt := 85) dX0_isFieldRight_78 (by decide) q21 ⟨by decide, by decide⟩ (fun h28 => ?_) (fun h28 => ?_)
          · have hw := hw.1 h28
            refine z_iconst (v := Int32.ofInt 0) dX0_isFieldRight_85 rfl ?_
            refine z_loc (L' := [(0, .ref (G.1 + v 200)), (1, .int (Int32.ofInt (a1))), (2, .int (Int32.ofInt (a2))), (3, .int (Int32.ofInt (r18)))]) (List.forall_mem_cons.mpr ⟨rfl, (List.forall_mem_cons.mpr ⟨rfl, (List.forall_mem_cons.mpr ⟨rfl, (List.forall_mem_cons.mpr ⟨rfl, (fun _ h => nomatch h)⟩)⟩)⟩)⟩) ?_
            exact ubX0_isFieldRight_86 hd hT hS hU hW hP  hw
          · have hw := hw.2 h28
            refine z_loc (L' := [(0, .ref (G.1 + v 200)), (1, .int (Int32.ofInt (a1))), (2, .int (Int32.ofInt (a2))), (3, .int (Int32.ofInt (r18)))]) (List.forall_mem_cons.mpr ⟨rfl, (List.forall_mem_cons.mpr ⟨rfl, (List.forall_mem_cons.mpr ⟨rfl, (List.forall_mem_cons.mpr ⟨rfl, (fun _ h => nomatch h)⟩)⟩)⟩)⟩) ?_
            exact ubX0_isFieldRight_81 hd hT hS hU hW hP  hw
      · have hw := hw.2 h20
        refine z_iconst (v := Int32.ofInt 0) dX0_isFieldRight_49 rfl ?_
        exact z_ireturn dX0_isFieldRight_50 rfl (nar01 (by decide)) (hP _ _ _ hw hW)
    · have hw := hw.2 h12
      refine z_iconst (v := Int32.ofInt 0) dX0_isFieldRight_28 rfl ?_
      exact z_ireturn dX0_isFieldRight_29 rfl (nar01 (by decide)) (hP _ _ _ hw hW)

