def wX9_decoded_59  (s0 : Int) (S : St) (K : Int → St → Prop) : Prop := (rng (s0) ∧ ((¬ s0 = (-1) → K (s0) S) ∧ ((¬ (¬ s0 = (-1))) → (iv (-2147483648) 2147483647 (S.1 220 3) → (∀ S4, S4 = pI S 220 6 (S.1 220 3) → K (s0) S4)))))
set_option maxRecDepth 100000 in
set_option maxHeartbeats 4000000 in
theorem ubX9_decoded_59 {G : xG} {v : Nat → Nat} {sh : Nat → Option Sh} {B : Nat × Nat} {c0 : List va_E} {d : Nat} {Post : xP} {s0 : Int} {S : St} {cs : List va_E} {K : Int → St → Prop} (hd : 6 ≤ d) (hT : sb shC sh) (hS : ∀ b x, sh b = some x → ¬ isS b) (hU : sb shXT sh) (hW : Wv G v sh B c0 S cs) (hP : ∀ (x : Int) (S : St) (cs : List va_E), K x S → Wv G v sh B c0 S cs → Post (some (.int (Int32.ofInt x))) cs)  (hw : wX9_decoded_59 s0 S K ) : Z (RX9, cX9_decoded, 3, some .int, false) G d Post 59 [(0, .ref (G.1 + v 220))] [.int (Int32.ofInt (s0))] cs := by
  unfold wX9_decoded_59 at hw
  refine z_istore_n dX9_decoded_59 rfl (by decide) ?_
  refine z_loc (L' := [(0, .ref (G.1 + v 220)), (2, .int (Int32.ofInt (s0)))]) (List.forall_mem_cons.mpr ⟨rfl, (List.forall_mem_cons.mpr ⟨rfl, (fun _ h => nomatch h)⟩)⟩) ?_
  refine z_iload_n dX9_decoded_60 rfl rfl ?_
  refine z_iconst (v := Int32.ofInt (-1)) dX9_decoded_61 rfl ?_
  obtain ⟨q2, hw⟩ := hw
  refine i_icmp_ne (tgt := 73) dX9_decoded_62 (by decide) q2 ⟨by decide, by decide⟩ (fun h1 => ?_) (fun h1 => ?_)
  · have hw := hw.1 h1
    refine z_iload_n dX9_decoded_73 rfl rfl ?_
    exact z_ireturn dX9_decoded_74 rfl rfl (hP _ _ _ hw hW)
  · have hw := hw.2 h1
    refine z_aload_n dX9_decoded_65 rfl rfl ?_
    refine z_aload_n dX9_decoded_66 rfl rfl ?_
    have q3 : iv (-2147483648) 2147483647 (S.1 220 3) := hW.iI 220 3
    have hw := hw q3
    refine v_getI hW (hU 220 _ rfl) rfl kX9 fX9_9 dX9_decoded_67 ?_
    refine v_putI hW (hU 220 _ rfl) (by decide) (by unfold isS; decide) rfl kX9 fX9_21 dX9_decoded_70 rfl rfl rfl q3 (fun cs hW => ?_)
    obtain ⟨S4, hS4⟩ : ∃ x, x = pI S 220 6 (S.1 220 3) := ⟨_, rfl⟩
    rw [← hS4] at hW
    have hw := hw S4 hS4
    refine z_iload_n dX9_decoded_73 rfl rfl ?_
    exact z_ireturn dX9_decoded_74 rfl rfl (hP _ _ _ hw hW)
def wX9_decoded  (S : St) (K : Int → St → Prop) : Prop := (iv (-2147483648) 2147483647 (S.1 220 3) → (wX5_at 1 (S.1 220 3) S (fun r3 S2 => (rng (r3) ∧ ((r3 = 38 → (iv (-2147483648) 2147483647 (S2.1 220 3) → (rng ((S2.1 220 3 + 1)) ∧ (wX5_at 1 ((S2.1 220 3 + 1)) S2 (fun r8 S7 => (rng (r8) ∧ ((¬ r8 = 35 → (wX9_named S7 (fun r13 S12 => wX9_decoded_59 (r13) S12 K))) ∧ ((¬ (¬ r8 = 35)) → (wX9_numbered S7 (fun r15 S14 => wX9_decoded_59 (r15) S14 K)))))))))) ∧ ((¬ (r3 = 38)) → (iv (-2147483648) 2147483647 (S2.1 220 3) → (iv (-2147483648) 2147483647 ((S2.1 220 3 + 1)) ∧ (∀ S17, S17 = pI S2 220 3 ((S2.1 220 3 + 1)) → K (r3) S17)))))))))
set_option maxRecDepth 100000 in
set_option maxHeartbeats 4000000 in
theorem lX9_decoded {G : xG} {v : Nat → Nat} {sh : Nat → Option Sh} {B : Nat × Nat} {c0 : List va_E}  {S : St} {cs : List va_E} {K : Int → St → Prop} (d : Nat) (hd : 6 ≤ d) (hT : sb shC sh) (hS : ∀ b x, sh b = some x → ¬ isS b) (hU : sb shXT sh) (hW : Wv G v sh B c0 S cs)  (hw : wX9_decoded  S K) : X G yX9_decoded cX9_decoded 3 (some .int) d [.ref (G.1 + v 220)] cs (vI G v sh B c0 K) := by
  refine X.of false (by decide +kernel) (by decide) (Nat.le_of_ble_eq_true rfl) ?_
  show Z (RX9, cX9_decoded, 3, some .int, false) G d _ 0 [(0, .ref (G.1 + v 220))] [] cs
  have hP : ∀ (x : Int) (S : St) (cs : List va_E), K x S → Wv G v sh B c0 S cs → vI G v sh B c0 K (some (.int (Int32.ofInt x))) cs := fun x S cs a b => ⟨x, S, rfl, a, b⟩
  unfold wX9_decoded at hw
  refine z_aload_n dX9_decoded_0 rfl rfl ?_
  refine v_getR hW (hU 220 _ rfl) rfl kX9 fX9_24 dX9_decoded_1 ?_
  refine z_aload_n dX9_decoded_4 rfl rfl ?_
  have q1 : iv (-2147483648) 2147483647 (S.1 220 3) := hW.iI 220 3
  have hw := hw q1
  refine v_getI hW (hU 220 _ rfl) rfl kX9 fX9_9 dX9_decoded_5 ?_
  have hX := lX5_at 0 (Nat.le_refl _) hW (show isS 1 by unfold isS; decide) (fun b x h e => hS b x h (e ▸ (show isS 1 by unfold isS; decide))) (rngq q1 (by decide) (by decide)) hw
  refine z_callV (As := [_]) eX5_at sX5_at lX9_47 rfl dX9_decoded_8 (hW.sg (show isS 1 by unfold isS; decide) (fun b x h e => hS b x h (e ▸ (show isS 1 by unfold isS; decide)))).choose_spec.choose_spec.choose_spec.choose_spec.1.choose_spec.1 hX (Nat.le_trans (by decide) hd) rfl (Nat.le_of_ble_eq_true rfl) (fun r cs hp => ?_)
  obtain ⟨r3, S2, rfl, hw, hW⟩ := hp
  refine z_st (st' := [.int (Int32.ofInt (r3))]) rfl ?_
  refine z_istore_n dX9_decoded_11 rfl (by decide) ?_
  refine z_loc (L' := [(0, .ref (G.1 + v 220)), (1, .int (Int32.ofInt (r3)))]) (List.forall_mem_cons.mpr ⟨rfl, (List.forall_mem_cons.mpr ⟨rfl, (fun _ h => nomatch h)⟩)⟩) ?_
  refine z_iload_n dX9_decoded_12 rfl rfl ?_
  refine z_bipush (v := Int32.ofInt 38) dX9_decoded_13 (by decide) ?_
  obtain ⟨q5, hw⟩ := hw
  refine i_icmp_eq (tgt := 30) dX9_decoded_15 (by decide) q5 ⟨by decide, by decide⟩ (fun h4 => ?_) (fun h4 => ?_)
  · have hw := hw.1 h4
    refine z_aload_n dX9_decoded_30 rfl rfl ?_
    refine v_getR hW (hU 220 _ rfl) rfl kX9 fX9_24 dX9_decoded_31 ?_
    refine z_aload_n dX9_decoded_34 rfl rfl ?_
    have q6 : iv (-2147483648) 2147483647 (S2.1 220 3) := hW.iI 220 3
    have hw := hw q6
    refine v_getI hW (hU 220 _ rfl) rfl kX9 fX9_9 dX9_decoded_35 ?_
    refine z_iconst (v := Int32.ofInt 1) dX9_decoded_38 rfl ?_
    refine i_iadd dX9_decoded_39 ?_
    obtain ⟨q9, hw⟩ := hw
    have hX := lX5_at 0 (Nat.le_refl _) hW (show isS 1 by unfold isS; decide) (fun b x h e => hS b x h (e ▸ (show isS 1 by unfold isS; decide))) q9 hw
    refine z_callV (As := [_]) eX5_at sX5_at lX9_47 rfl dX9_decoded_40 (hW.sg (show isS 1 by unfold isS; decide) (fun b x h e => hS b x h (e ▸ (show isS 1 by unfold isS; decide)))).choose_spec.choose_spec.choose_spec.choose_spec.1.choose_spec.1 hX (Nat.le_trans (by decide) hd) rfl (Nat.le_of_ble_eq_true rfl) (fun r cs hp => ?_)
    obtain ⟨r8, S7, rfl, hw, hW⟩ := hp
    refine z_st (st' := [.int (Int32.ofInt (r8))]) rfl ?_
    refine z_bipush (v := Int32.ofInt 35) dX9_decoded_43 (by decide) ?_
    obtain ⟨q11, hw⟩ := hw
    refine i_icmp_ne (tgt := 55) dX9_decoded_45 (by decide) q11 ⟨by decide, by decide⟩ (fun h10 => ?_) (fun h10 => ?_)
    · have hw := hw.1 h10
      refine z_aload_n dX9_decoded_55 rfl rfl ?_
      have hX := lX9_named 5 (Nat.le_refl _) hT hS hU hW  hw
      refine z_callV (As := []) eX9_named sX9_named lX9_142 rfl dX9_decoded_56 (hW.at (hU 220 _ rfl)) hX (Nat.le_trans (by decide) hd) rfl (Nat.le_of_ble_eq_true rfl) (fun r cs hp => ?_)
      obtain ⟨r13, S12, rfl, hw, hW⟩ := hp
      refine z_st (st' := [.int (Int32.ofInt (r13))]) rfl ?_
      refine z_loc (L' := [(0, .ref (G.1 + v 220))]) (List.forall_mem_cons.mpr ⟨rfl, (fun _ h => nomatch h)⟩) ?_
      exact ubX9_decoded_59 hd hT hS hU hW hP  hw
    · have hw := hw.2 h10
      refine z_aload_n dX9_decoded_48 rfl rfl ?_
      have hX := lX9_numbered 1 (Nat.le_refl _) hT hS hU hW  hw
      refine z_callV (As := []) eX9_numbered sX9_numbered lX9_139 rfl dX9_decoded_49 (hW.at (hU 220 _ rfl)) hX (Nat.le_trans (by decide) hd) rfl (Nat.le_of_ble_eq_true rfl) (fun r cs hp => ?_)
      obtain ⟨r15, S14, rfl, hw, hW⟩ := hp
      refine z_st (st' := [.int (Int32.ofInt (r15))]) rfl ?_
      refine z_goto (tgt := 59) dX9_decoded_52 (by decide) ?_
      refine z_loc (L' := [(0, .ref (G.1 + v 220))]) (List.forall_mem_cons.mpr ⟨rfl, (fun _ h => nomatch h)⟩) ?_
      exact ubX9_decoded_59 hd hT hS hU hW hP  hw
  · have hw := hw.2 h4
    refine z_aload_n dX9_decoded_18 rfl rfl ?_
    refine z_dup dX9_decoded_19 rfl ?_
    have q16 : iv (-2147483648) 2147483647 (S2.1 220 3) := hW.iI 220 3
    have hw := hw q16
    refine v_getI hW (hU 220 _ rfl) rfl kX9 fX9_9 dX9_decoded_20 ?_
    refine z_iconst (v := Int32.ofInt 1) dX9_decoded_23 rfl ?_
    refine i_iadd dX9_decoded_24 ?_
    obtain ⟨q18, hw⟩ := hw
    refine v_putI hW (hU 220 _ rfl) (by decide) (by unfold isS; decide) rfl kX9 fX9_9 dX9_decoded_25 rfl rfl rfl q18 (fun cs hW => ?_)
    obtain ⟨S17, hS17⟩ : ∃ x, x = pI S2 220 3 ((S2.1 220 3 + 1)) := ⟨_, rfl⟩
    rw [← hS17] at hW
    have hw := hw S17 hS17
    refine z_iload_n dX9_decoded_28 rfl rfl ?_
    exact z_ireturn dX9_decoded_29 rfl rfl (hP _ _ _ hw hW)

def wX9_isNameSign  (a1 : Int) (S : St) (K : Int → St → Prop) : Prop := rng a1 → (wX10_isLetter (a1) S (fun r2 S1 => (rng (r2) ∧ ((¬ r2 = 0 → K (1) S1) ∧ ((¬ (¬ r2 = 0)) → (wX10_isDigit (a1) S1 (fun r6 S5 => (rng (r6) ∧ ((¬ r6 = 0 → K (1) S5) ∧ ((¬ (¬ r6 = 0)) → ((a1 = 95 → K (1) S5) ∧ ((¬ (a1 = 95)) → ((a1 = 45 → K (1) S5) ∧ ((¬ (a1 = 45)) → ((¬ a1 = 46 → K (0) S5) ∧ ((¬ (¬ a1 = 46)) → K (1) S5))))))))))))))))
set_option maxRecDepth 100000 in
set_option maxHeartbeats 4000000 in
theorem lX9_isNameSign {G : xG} {v : Nat → Nat} {sh : Nat → Option Sh} {B : Nat × Nat} {c0 : List va_E}  {a1 : Int} {S : St} {cs : List va_E} {K : Int → St → Prop} (d : Nat) (hd : 1 ≤ d) (hT : sb shC sh) (hS : ∀ b x, sh b = some x → ¬ isS b) (hW : Wv G v sh B c0 S cs) (g1 : rng a1) (hw : wX9_isNameSign a1 S K) : X G yX9_isNameSign cX9_isNameSign 1 (some .boolean) d [.int (Int32.ofInt a1)] cs (vI G v sh B c0 K) := by
  refine X.of false (by decide +kernel) (by decide) (Nat.le_of_ble_eq_true rfl) ?_
  show Z (RX9, cX9_isNameSign, 1, some .boolean, false) G d _ 0 [(0, .int (Int32.ofInt a1))] [] cs
  have hP : ∀ (x : Int) (S : St) (cs : List va_E), K x S → Wv G v sh B c0 S cs → vI G v sh B c0 K (some (.int (Int32.ofInt x))) cs := fun x S cs a b => ⟨x, S, rfl, a, b⟩
  unfold wX9_isNameSign at hw
  have hw := hw g1
  refine z_iload_n dX9_isNameSign_0 rfl rfl ?_
  have hX := lX10_isLetter 0 (Nat.le_refl _) hT hS hW g1 hw
  refine z_callSN (As := [_]) eX10_isLetter sX10_isLetter lX9_175 dX9_isNameSign_1 hX (Nat.le_trans (by decide) hd) rfl (Nat.le_of_ble_eq_true rfl) (fun r cs hp => ?_)
  obtain ⟨r2, S1, rfl, hw, hW⟩ := hp
  refine z_st (st' := [.int (Int32.ofInt (r2))]) rfl ?_
  obtain ⟨q4, hw⟩ := hw
  refine i_if_ne (tgt := 32) dX9_isNameSign_4 (by decide) q4 (fun h3 => ?_) (fun h3 => ?_)
  · have hw := hw.1 h3
    refine z_iconst (v := Int32.ofInt 1) dX9_isNameSign_32 rfl ?_
    refine z_goto (tgt := 37) dX9_isNameSign_33 (by decide) ?_
    exact z_ireturn dX9_isNameSign_37 rfl (nar01 (by decide)) (hP _ _ _ hw hW)
  · have hw := hw.2 h3
    refine z_iload_n dX9_isNameSign_7 rfl rfl ?_
    have hX := lX10_isDigit 0 (Nat.le_refl _) hT hS hW g1 hw
    refine z_callSN (As := [_]) eX10_isDigit sX10_isDigit lX9_178 dX9_isNameSign_8 hX (Nat.le_trans (by decide) hd) rfl (Nat.le_of_ble_eq_true rfl) (fun r cs hp => ?_)
    obtain ⟨r6, S5, rfl, hw, hW⟩ := hp
    refine z_st (st' := [.int (Int32.ofInt (r6))]) rfl ?_
    obtain ⟨q8, hw⟩ := hw
    refine i_if_ne (tgt := 32) dX9_isNameSign_11 (by decide) q8 (fun h7 => ?_) (fun h7 => ?_)
    · have hw := hw.1 h7
      refine z_iconst (v := Int32.ofInt 1) dX9_isNameSign_32 rfl ?_
      refine z_goto (tgt := 37) dX9_isNameSign_33 (by decide) ?_
      exact z_ireturn dX9_isNameSign_37 rfl (nar01 (by decide)) (hP _ _ _ hw hW)
    · have hw := hw.2 h7
      refine z_iload_n dX9_isNameSign_14 rfl rfl ?_
      refine z_bipush (v := Int32.ofInt 95) dX9_isNameSign_15 (by decide) ?_
      refine i_icmp_eq (tgt := 32) dX9_isNameSign_17 (by decide) g1 ⟨by decide, by decide⟩ (fun h9 => ?_) (fun h9 => ?_)
      · have hw := hw.1 h9
        refine z_iconst (v := Int32.ofInt 1) dX9_isNameSign_32 rfl ?_
        refine z_goto (tgt := 37) dX9_isNameSign_33 (by decide) ?_
        exact z_ireturn dX9_isNameSign_37 rfl (nar01 (by decide)) (hP _ _ _ hw hW)
      · have hw := hw.2 h9
        refine z_iload_n dX9_isNameSign_20 rfl rfl ?_
        refine z_bipush (v := Int32.ofInt 45) dX9_isNameSign_21 (by decide) ?_
        refine i_icmp_eq (tgt := 32) dX9_isNameSign_23 (by decide) g1 ⟨by decide, by decide⟩ (fun h10 => ?_) (fun h10 => ?_)
        · have hw := hw.1 h10
          refine z_iconst (v := Int32.ofInt 1) dX9_isNameSign_32 rfl ?_
          refine z_goto (tgt := 37) dX9_isNameSign_33 (by decide) ?_
          exact z_ireturn dX9_isNameSign_37 rfl (nar01 (by decide)) (hP _ _ _ hw hW)
        · have hw := hw.2 h10
          refine z_iload_n dX9_isNameSign_26 rfl rfl ?_
          refine z_bipush (v := Int32.ofInt 46) dX9_isNameSign_27 (by decide) ?_
          refine i_icmp_ne (tgt := 36) dX9_isNameSign_29 (by decide) g1 ⟨by decide, by decide⟩ (fun h11 => ?_) (fun h11 => ?_)
          · have hw := hw.1 h11
            refine z_iconst (v := Int32.ofInt 0) dX9_isNameSign_36 rfl ?_
            exact z_ireturn dX9_isNameSign_37 rfl (nar01 (by decide)) (hP _ _ _ hw hW)
          · have hw := hw.2 h11
            refine z_iconst (v := Int32.ofInt 1) dX9_isNameSign_32 rfl ?_
            refine z_goto (tgt := 37) dX9_isNameSign_33 (by decide) ?_
            exact z_ireturn dX9_isNameSign_37 rfl (nar01 (by decide)) (hP _ _ _ hw hW)

def wX9_skipName_18'  (S : St) (K : Int → St → Prop) (B18 : St → Prop) : Prop := (iv (-2147483648) 2147483647 (S.1 220 3) → (wX5_length 1 S (fun r3 S2 => (rng (r3) ∧ ((r3 ≤ S.1 220 3 → K 0 S2) ∧ ((¬ (r3 ≤ S.1 220 3)) → (iv (-2147483648) 2147483647 (S2.1 220 3) → (wX5_at 1 (S2.1 220 3) S2 (fun r8 S7 => (rng (r8) ∧ (wX9_isNameSign (r8) S7 (fun r10 S9 => (rng (r10) ∧ ((r10 = 0 → K 0 S9) ∧ ((¬ (r10 = 0)) → (iv (-2147483648) 2147483647 (S9.1 220 3) → (iv (-2147483648) 2147483647 ((S9.1 220 3 + 1)) ∧ (∀ S15, S15 = pI S9 220 3 ((S9.1 220 3 + 1)) → B18 S15))))))))))))))))))
set_option maxRecDepth 100000 in
set_option maxHeartbeats 4000000 in
theorem ubX9_skipName_18' {G : xG} {v : Nat → Nat} {sh : Nat → Option Sh} {B : Nat × Nat} {c0 : List va_E} {d : Nat} {Post : xP} {S : St} {cs : List va_E} {K : Int → St → Prop} {B18 : St → Prop} (hd : 2 ≤ d) (hT : sb shC sh) (hS : ∀ b x, sh b = some x → ¬ isS b) (hU : sb shXT sh) (hW : Wv G v sh B c0 S cs) (hP : ∀ (x : Int) (S : St) (cs : List va_E), K x S → Wv G v sh B c0 S cs → Post (none) cs) (hB18 : ∀  (S : St) (cs : List va_E), B18  S → Wv G v sh B c0 S cs → Z (RX9, cX9_skipName, 1, none, false) G d Post 18 [(0, .ref (G.1 + v 220))] [] cs) (hw : wX9_skipName_18'  S K B18) : Z (RX9, cX9_skipName, 1, none, false) G d Post 18 [(0, .ref (G.1 + v 220))] [] cs := by
  unfold wX9_skipName_18' at hw
  refine z_aload_n dX9_skipName_18 rfl rfl ?_
  have q1 : iv (-2147483648) 2147483647 (S.1 220 3) := hW.iI 220 3
  have hw := hw q1
  refine v_getI hW (hU 220 _ rfl) rfl kX9 fX9_9 dX9_skipName_19 ?_
  refine z_aload_n dX9_skipName_22 rfl rfl ?_
  refine v_getR hW (hU 220 _ rfl) rfl kX9 fX9_24 dX9_skipName_23 ?_
  have hX := lX5_length 0 (Nat.le_refl _) hW (show isS 1 by unfold isS; decide) (fun b x h e => hS b x h (e ▸ (show isS 1 by unfold isS; decide)))  hw
  refine z_callV (As := []) eX5_length sX5_length lX9_80 rfl dX9_skipName_26 (hW.sg (show isS 1 by unfold isS; decide) (fun b x h e => hS b x h (e ▸ (show isS 1 by unfold isS; decide)))).choose_spec.choose_spec.choose_spec.choose_spec.1.choose_spec.1 hX (Nat.le_trans (by decide) hd) rfl (Nat.le_of_ble_eq_true rfl) (fun r cs hp => ?_)
  obtain ⟨r3, S2, rfl, hw, hW⟩ := hp
  refine z_st (st' := [.int (Int32.ofInt (r3)), .int (Int32.ofInt (S.1 220 3))]) rfl ?_
  obtain ⟨q5, hw⟩ := hw
  refine i_icmp_ge (tgt := 62) dX9_skipName_29 (by decide) (rngq q1 (by decide) (by decide)) q5 (fun h4 => ?_) (fun h4 => ?_)
  · have hw := hw.1 h4
    exact z_return dX9_skipName_62 rfl (hP 0 _ _ hw hW)
  · have hw := hw.2 h4
    refine z_aload_n dX9_skipName_32 rfl rfl ?_
    refine v_getR hW (hU 220 _ rfl) rfl kX9 fX9_24 dX9_skipName_33 ?_
    refine z_aload_n dX9_skipName_36 rfl rfl ?_
    have q6 : iv (-2147483648) 2147483647 (S2.1 220 3) := hW.iI 220 3
    have hw := hw q6
    refine v_getI hW (hU 220 _ rfl) rfl kX9 fX9_9 dX9_skipName_37 ?_
    have hX := lX5_at 0 (Nat.le_refl _) hW (show isS 1 by unfold isS; decide) (fun b x h e => hS b x h (e ▸ (show isS 1 by unfold isS; decide))) (rngq q6 (by decide) (by decide)) hw
    refine z_callV (As := [_]) eX5_at sX5_at lX9_47 rfl dX9_skipName_40 (hW.sg (show isS 1 by unfold isS; decide) (fun b x h e => hS b x h (e ▸ (show isS 1 by unfold isS; decide)))).choose_spec.choose_spec.choose_spec.choose_spec.1.choose_spec.1 hX (Nat.le_trans (by decide) hd) rfl (Nat.le_of_ble_eq_true rfl) (fun r cs hp => ?_)
    obtain ⟨r8, S7, rfl, hw, hW⟩ := hp
    refine z_st (st' := [.int (Int32.ofInt (r8))]) rfl ?_
    obtain ⟨q11, hw⟩ := hw
    have hX := lX9_isNameSign 1 (Nat.le_refl _) hT hS hW q11 hw
    refine z_callS (As := [_]) eX9_isNameSign sX9_isNameSign lX9_172 dX9_skipName_43 hX (Nat.le_trans (by decide) hd) rfl (Nat.le_of_ble_eq_true rfl) (fun r cs hp => ?_)
    obtain ⟨r10, S9, rfl, hw, hW⟩ := hp
    refine z_st (st' := [.int (Int32.ofInt (r10))]) rfl ?_
    obtain ⟨q13, hw⟩ := hw
    refine i_if_eq (tgt := 62) dX9_skipName_46 (by decide) q13 (fun h12 => ?_) (fun h12 => ?_)
    · have hw := hw.1 h12
      exact z_return dX9_skipName_62 rfl (hP 0 _ _ hw hW)
    · have hw := hw.2 h12
      refine z_aload_n dX9_skipName_49 rfl rfl ?_
      refine z_dup dX9_skipName_50 rfl ?_
      have q14 : iv (-2147483648) 2147483647 (S9.1 220 3) := hW.iI 220 3
      have hw := hw q14
      refine v_getI hW (hU 220 _ rfl) rfl kX9 fX9_9 dX9_skipName_51 ?_
      refine z_iconst (v := Int32.ofInt 1) dX9_skipName_54 rfl ?_
      refine i_iadd dX9_skipName_55 ?_
      obtain ⟨q16, hw⟩ := hw
      refine v_putI hW (hU 220 _ rfl) (by decide) (by unfold isS; decide) rfl kX9 fX9_9 dX9_skipName_56 rfl rfl rfl q16 (fun cs hW => ?_)
      obtain ⟨S15, hS15⟩ : ∃ x, x = pI S9 220 3 ((S9.1 220 3 + 1)) := ⟨_, rfl⟩
      rw [← hS15] at hW
      have hw := hw S15 hS15
      refine z_goto (tgt := 18) dX9_skipName_59 (by decide) ?_
      refine z_loc (L' := [(0, .ref (G.1 + v 220))]) (List.forall_mem_cons.mpr ⟨rfl, (fun _ h => nomatch h)⟩) ?_
      exact hB18  _ _ hw hW
def wX9_skipName_18  (S : St) (K : Int → St → Prop) : Prop := ∃ (Iv : St → Prop) (mu : St → Nat), Iv  S ∧ ∀ (S : St), Iv  S → wX9_skipName_18'  S K  (fun  T => Iv  T ∧ mu  T < mu  S)
set_option maxRecDepth 100000 in
set_option maxHeartbeats 4000000 in
theorem ubX9_skipName_18 {G : xG} {v : Nat → Nat} {sh : Nat → Option Sh} {B : Nat × Nat} {c0 : List va_E} {d : Nat} {Post : xP} {S : St} {cs : List va_E} {K : Int → St → Prop} (hd : 2 ≤ d) (hT : sb shC sh) (hS : ∀ b x, sh b = some x → ¬ isS b) (hU : sb shXT sh) (hW : Wv G v sh B c0 S cs) (hP : ∀ (x : Int) (S : St) (cs : List va_E), K x S → Wv G v sh B c0 S cs → Post (none) cs)  (hw : wX9_skipName_18  S K ) : Z (RX9, cX9_skipName, 1, none, false) G d Post 18 [(0, .ref (G.1 + v 220))] [] cs := by
  unfold wX9_skipName_18 at hw
  obtain ⟨Iv, mu, h0, hs⟩ := hw
  have key : ∀ (n : Nat) (S : St) (cs : List va_E), mu  S < n → Iv  S → Wv G v sh B c0 S cs → Z (RX9, cX9_skipName, 1, none, false) G d Post 18 [(0, .ref (G.1 + v 220))] [] cs := by
    intro n
    induction n with
    | zero => intro  S cs hn; exact absurd hn (Nat.not_lt_zero _)
    | succ n ih =>
      intro  S cs hn hI hW
      exact ubX9_skipName_18' hd hT hS hU hW hP  (fun  S cs hb hW => ih  S cs (Nat.lt_of_lt_of_le hb.2 (Nat.le_of_lt_succ hn)) hb.1 hW) (hs  S hI)
  exact key _  _ _ (Nat.lt_succ_self _) h0 hW
def wX9_skipName  (S : St) (K : Int → St → Prop) : Prop := (iv (-2147483648) 2147483647 (S.1 220 3) → (wX5_at 1 (S.1 220 3) S (fun r3 S2 => (rng (r3) ∧ (wX9_isNameBegin (r3) S2 (fun r5 S4 => (rng (r5) ∧ ((¬ r5 = 0 → wX9_skipName_18 S4 K) ∧ ((¬ (¬ r5 = 0)) → K 0 S4)))))))))
set_option maxRecDepth 100000 in
set_option maxHeartbeats 4000000 in
theorem lX9_skipName {G : xG} {v : Nat → Nat} {sh : Nat → Option Sh} {B : Nat × Nat} {c0 : List va_E}  {S : St} {cs : List va_E} {K : Int → St → Prop} (d : Nat) (hd : 2 ≤ d) (hT : sb shC sh) (hS : ∀ b x, sh b = some x → ¬ isS b) (hU : sb shXT sh) (hW : Wv G v sh B c0 S cs)  (hw : wX9_skipName  S K) : X G yX9_skipName cX9_skipName 1 none d [.ref (G.1 + v 220)] cs (vV G v sh B c0 K) := by
  refine X.of false (by decide +kernel) (by decide) (Nat.le_of_ble_eq_true rfl) ?_
  show Z (RX9, cX9_skipName, 1, none, false) G d _ 0 [(0, .ref (G.1 + v 220))] [] cs
  have hP : ∀ (x : Int) (S : St) (cs : List va_E), K x S → Wv G v sh B c0 S cs → vV G v sh B c0 K (none) cs := fun x S cs a b => ⟨x, S, rfl, a, b⟩
  unfold wX9_skipName at hw
  refine z_aload_n dX9_skipName_0 rfl rfl ?_
  refine v_getR hW (hU 220 _ rfl) rfl kX9 fX9_24 dX9_skipName_1 ?_
  refine z_aload_n dX9_skipName_4 rfl rfl ?_
  have q1 : iv (-2147483648) 2147483647 (S.1 220 3) := hW.iI 220 3
  have hw := hw q1
  refine v_getI hW (hU 220 _ rfl) rfl kX9 fX9_9 dX9_skipName_5 ?_
  have hX := lX5_at 0 (Nat.le_refl _) hW (show isS 1 by unfold isS; decide) (fun b x h e => hS b x h (e ▸ (show isS 1 by unfold isS; decide))) (rngq q1 (by decide) (by decide)) hw
  refine z_callV (As := [_]) eX5_at sX5_at lX9_47 rfl dX9_skipName_8 (hW.sg (show isS 1 by unfold isS; decide) (fun b x h e => hS b x h (e ▸ (show isS 1 by unfold isS; decide)))).choose_spec.choose_spec.choose_spec.choose_spec.1.choose_spec.1 hX (Nat.le_trans (by decide) hd) rfl (Nat.le_of_ble_eq_true rfl) (fun r cs hp => ?_)
  obtain ⟨r3, S2, rfl, hw, hW⟩ := hp
  refine z_st (st' := [.int (Int32.ofInt (r3))]) rfl ?_
  obtain ⟨q6, hw⟩ := hw
  have hX := lX9_isNameBegin 1 (Nat.le_refl _) hT hS hW q6 hw
  refine z_callS (As := [_]) eX9_isNameBegin sX9_isNameBegin lX9_101 dX9_skipName_11 hX (Nat.le_trans (by decide) hd) rfl (Nat.le_of_ble_eq_true rfl) (fun r cs hp => ?_)
  obtain ⟨r5, S4, rfl, hw, hW⟩ := hp
  refine z_st (st' := [.int (Int32.ofInt (r5))]) rfl ?_
  obtain ⟨q8, hw⟩ := hw
  refine i_if_ne (tgt := 18) dX9_skipName_14 (by decide) q8 (fun h7 => ?_) (fun h7 => ?_)
  · have hw := hw.1 h7
    refine z_loc (L' := [(0, .ref (G.1 + v 220))]) (List.forall_mem_cons.mpr ⟨rfl, (fun _ h => nomatch h)⟩) ?_
    exact ubX9_skipName_18 hd hT hS hU hW hP  hw
  · have hw := hw.2 h7
    exact z_return dX9_skipName_17 rfl (hP 0 _ _ hw hW)

def wX6_attributeCount  (a1 : Int) (S : St) (K : Int → St → Prop) : Prop := rng a1 → (wX6_has (a1) S (fun r2 S1 => (rng (r2) ∧ ((r2 = 0 → K (0) S1) ∧ ((¬ (r2 = 0)) → ((0 : Int) ≤ a1 ∧ a1 < (200 : Int) ∧ (iv 0 601 (S1.2 12 (a1)) → K (S1.2 12 (a1)) S1)))))))
set_option maxRecDepth 100000 in
set_option maxHeartbeats 4000000 in
theorem lX6_attributeCount {G : xG} {v : Nat → Nat} {sh : Nat → Option Sh} {B : Nat × Nat} {c0 : List va_E}  {a1 : Int} {S : St} {cs : List va_E} {K : Int → St → Prop} (d : Nat) (hd : 1 ≤ d) (hT : sb shC sh) (hS : ∀ b x, sh b = some x → ¬ isS b) (hU : sb shTr sh) (hW : Wv G v sh B c0 S cs) (g1 : rng a1) (hw : wX6_attributeCount a1 S K) : X G yX6_attributeCount cX6_attributeCount 2 (some .int) d [.ref (G.1 + v 3), .int (Int32.ofInt a1)] cs (vI G v sh B c0 K) := by
  refine X.of false (by decide +kernel) (by decide) (Nat.le_of_ble_eq_true rfl) ?_
  show Z (RX6, cX6_attributeCount, 2, some .int, false) G d _ 0 [(0, .ref (G.1 + v 3)), (1, .int (Int32.ofInt a1))] [] cs
  have hP : ∀ (x : Int) (S : St) (cs : List va_E), K x S → Wv G v sh B c0 S cs → vI G v sh B c0 K (some (.int (Int32.ofInt x))) cs := fun x S cs a b => ⟨x, S, rfl, a, b⟩
  unfold wX6_attributeCount at hw
  have hw := hw g1
  refine z_aload_n dX6_attributeCount_0 rfl rfl ?_
  refine z_iload_n dX6_attributeCount_1 rfl rfl ?_
  have hX := lX6_has 0 (Nat.le_refl _) hT hS hU hW g1 hw
  refine z_callV (As := [_]) eX6_has sX6_has lX6_75 rfl dX6_attributeCount_2 (hW.at (hU 3 _ rfl)) hX (Nat.le_trans (by decide) hd) rfl (Nat.le_of_ble_eq_true rfl) (fun r cs hp => ?_)
  obtain ⟨r2, S1, rfl, hw, hW⟩ := hp
  refine z_st (st' := [.int (Int32.ofInt (r2))]) rfl ?_
  obtain ⟨q4, hw⟩ := hw
  refine i_if_eq (tgt := 17) dX6_attributeCount_5 (by decide) q4 (fun h3 => ?_) (fun h3 => ?_)
  · have hw := hw.1 h3
    refine z_iconst (v := Int32.ofInt 0) dX6_attributeCount_17 rfl ?_
    exact z_ireturn dX6_attributeCount_18 rfl rfl (hP _ _ _ hw hW)
  · have hw := hw.2 h3
    refine z_aload_n dX6_attributeCount_8 rfl rfl ?_
    refine v_getR hW (hU 3 _ rfl) rfl kX6 fX6_40 dX6_attributeCount_9 ?_
    refine z_iload_n dX6_attributeCount_12 rfl rfl ?_
    obtain ⟨q5a, q5b, hw⟩ := hw
    have q6 : iv 0 601 (S1.2 12 (a1)) := hW.iA 12 _
    have hw := hw q6
    refine v_iald hW (hT 12 _ rfl) q5a q5b (by decide) dX6_attributeCount_13 ?_
    refine z_goto (tgt := 18) dX6_attributeCount_14 (by decide) ?_
    exact z_ireturn dX6_attributeCount_18 rfl rfl (hP _ _ _ hw hW)

def wX6_isSpelt_16'  (l1 l2 l4 l6 : Int) (S : St) (K : Int → St → Prop) (B16 : Int → Int → Int → Int → St → Prop) : Prop := (rng (l6) ∧ (rng ((l2 - l1)) ∧ (((l2 - l1) ≤ l6 → K (1) S) ∧ ((¬ ((l2 - l1) ≤ l6)) → (rng ((l1 + l6)) ∧ (wX5_at 1 ((l1 + l6)) S (fun r5 S4 => (rng ((l4 + l6)) ∧ (wX5_at 1 ((l4 + l6)) S4 (fun r8 S7 => (rng (r5) ∧ (rng (r8) ∧ ((r5 = r8 → B16 (l1) (l2) (l4) ((l6 + 1)) S7) ∧ ((¬ (r5 = r8)) → K (0) S7))))))))))))))
set_option maxRecDepth 100000 in
set_option maxHeartbeats 4000000 in
theorem ubX6_isSpelt_16' {G : xG} {v : Nat → Nat} {sh : Nat → Option Sh} {B : Nat × Nat} {c0 : List va_E} {d : Nat} {Post : xP} {l1 l2 l4 l6 : Int} {S : St} {cs : List va_E} {K : Int → St → Prop} {B16 : Int → Int → Int → Int → St → Prop} (hd : 1 ≤ d) (hT : sb shC sh) (hS : ∀ b x, sh b = some x → ¬ isS b) (hU : sb shTr sh) (hW : Wv G v sh B c0 S cs) (hP : ∀ (x : Int) (S : St) (cs : List va_E), K x S → Wv G v sh B c0 S cs → Post (some (.int (Int32.ofInt x))) cs) (hB16 : ∀ (l1 : Int) (l2 : Int) (l4 : Int) (l6 : Int) (S : St) (cs : List va_E), B16 l1 l2 l4 l6 S → Wv G v sh B c0 S cs → Z (RX6, cX6_isSpelt, 7, some .boolean, false) G d Post 16 [(0, .ref (G.1 + v 3)), (1, .int (Int32.ofInt (l1))), (2, .int (Int32.ofInt (l2))), (3, .ref (G.1 + v 1)), (4, .int (Int32.ofInt (l4))), (6, .int (Int32.ofInt (l6)))] [] cs) (hw : wX6_isSpelt_16' l1 l2 l4 l6 S K B16) : Z (RX6, cX6_isSpelt, 7, some .boolean, false) G d Post 16 [(0, .ref (G.1 + v 3)), (1, .int (Int32.ofInt (l1))), (2, .int (Int32.ofInt (l2))), (3, .ref (G.1 + v 1)), (4, .int (Int32.ofInt (l4))), (6, .int (Int32.ofInt (l6)))] [] cs := by
  unfold wX6_isSpelt_16' at hw
  refine z_iload dX6_isSpelt_16 rfl ?_
  refine z_iload_n dX6_isSpelt_18 rfl rfl ?_
  refine z_iload_n dX6_isSpelt_19 rfl rfl ?_
  refine i_isub dX6_isSpelt_20 ?_
  obtain ⟨q2, hw⟩ := hw
  obtain ⟨q3, hw⟩ := hw
  refine i_icmp_ge (tgt := 55) dX6_isSpelt_21 (by decide) q2 q3 (fun h1 => ?_) (fun h1 => ?_)
  · have hw := hw.1 h1
    refine z_iconst (v := Int32.ofInt 1) dX6_isSpelt_55 rfl ?_
    exact z_ireturn dX6_isSpelt_56 rfl (nar01 (by decide)) (hP _ _ _ hw hW)
  · have hw := hw.2 h1
    refine z_aload_n dX6_isSpelt_24 rfl rfl ?_
    refine v_getR hW (hU 3 _ rfl) rfl kX6 fX6_18 dX6_isSpelt_25 ?_
    refine z_iload_n dX6_isSpelt_28 rfl rfl ?_
    refine z_iload dX6_isSpelt_29 rfl ?_
    refine i_iadd dX6_isSpelt_31 ?_
    obtain ⟨q6, hw⟩ := hw
    have hX := lX5_at 0 (Nat.le_refl _) hW (show isS 1 by unfold isS; decide) (fun b x h e => hS b x h (e ▸ (show isS 1 by unfold isS; decide))) q6 hw
    refine z_callV (As := [_]) eX5_at sX5_at lX6_107 rfl dX6_isSpelt_32 (hW.sg (show isS 1 by unfold isS; decide) (fun b x h e => hS b x h (e ▸ (show isS 1 by unfold isS; decide)))).choose_spec.choose_spec.choose_spec.choose_spec.1.choose_spec.1 hX (Nat.le_trans (by decide) hd) rfl (Nat.le_of_ble_eq_true rfl) (fun r cs hp => ?_)
    obtain ⟨r5, S4, rfl, hw, hW⟩ := hp
    refine z_st (st' := [.int (Int32.ofInt (r5))]) rfl ?_
    refine z_aload_n dX6_isSpelt_35 rfl rfl ?_
    refine z_iload dX6_isSpelt_36 rfl ?_
    refine z_iload dX6_isSpelt_38 rfl ?_
    refine i_iadd dX6_isSpelt_40 ?_
    obtain ⟨q9, hw⟩ := hw
    have hX := lX5_at 0 (Nat.le_refl _) hW (show isS 1 by unfold isS; decide) (fun b x h e => hS b x h (e ▸ (show isS 1 by unfold isS; decide))) q9 hw
    refine z_callV (As := [_]) eX5_at sX5_at lX6_107 rfl dX6_isSpelt_41 (hW.sg (show isS 1 by unfold isS; decide) (fun b x h e => hS b x h (e ▸ (show isS 1 by unfold isS; decide)))).choose_spec.choose_spec.choose_spec.choose_spec.1.choose_spec.1 hX (Nat.le_trans (by decide) hd) rfl (Nat.le_of_ble_eq_true rfl) (fun r cs hp => ?_)
    obtain ⟨r8, S7, rfl, hw, hW⟩ := hp
    refine z_st (st' := [.int (Int32.ofInt (r8)), .int (Int32.ofInt (r5))]) rfl ?_
    obtain ⟨q11, hw⟩ := hw
    obtain ⟨q12, hw⟩ := hw
    refine i_icmp_eq (tgt := 49) dX6_isSpelt_44 (by decide) q11 q12 (fun h10 => ?_) (fun h10 => ?_)
    · have hw := hw.1 h10
      refine i_iinc (l := l6) dX6_isSpelt_49 rfl (by decide) ?_
      refine z_loc (L' := [(0, .ref (G.1 + v 3)), (1, .int (Int32.ofInt (l1))), (2, .int (Int32.ofInt (l2))), (3, .ref (G.1 + v 1)), (4, .int (Int32.ofInt (l4))), (6, .int (Int32.ofInt ((l6 + 1))))]) (List.forall_mem_cons.mpr ⟨rfl, (List.forall_mem_cons.mpr ⟨rfl, (List.forall_mem_cons.mpr ⟨rfl, (List.forall_mem_cons.mpr ⟨rfl, (List.forall_mem_cons.mpr ⟨rfl, (List.forall_mem_cons.mpr ⟨rfl, (fun _ h => nomatch h)⟩)⟩)⟩)⟩)⟩)⟩) ?_
      refine z_goto (tgt := 16) dX6_isSpelt_52 (by decide) ?_
      refine z_loc (L' := [(0, .ref (G.1 + v 3)), (1, .int (Int32.ofInt (l1))), (2, .int (Int32.ofInt (l2))), (3, .ref (G.1 + v 1)), (4, .int (Int32.ofInt (l4))), (6, .int (Int32.ofInt ((l6 + 1))))]) (List.forall_mem_cons.mpr ⟨rfl, (List.forall_mem_cons.mpr ⟨rfl, (List.forall_mem_cons.mpr ⟨rfl, (List.forall_mem_cons.mpr ⟨rfl, (List.forall_mem_cons.mpr ⟨rfl, (List.forall_mem_cons.mpr ⟨rfl, (fun _ h => nomatch h)⟩)⟩)⟩)⟩)⟩)⟩) ?_
      exact hB16 _ _ _ _ _ _ hw hW
    · have hw := hw.2 h10
      refine z_iconst (v := Int32.ofInt 0) dX6_isSpelt_47 rfl ?_
      exact z_ireturn dX6_isSpelt_48 rfl (nar01 (by decide)) (hP _ _ _ hw hW)
def wX6_isSpelt_16  (l1 l2 l4 l6 : Int) (S : St) (K : Int → St → Prop) : Prop := ∃ (Iv : Int → Int → Int → Int → St → Prop) (mu : Int → Int → Int → Int → St → Nat), Iv l1 l2 l4 l6 S ∧ ∀ (l1 l2 l4 l6 : Int) (S : St), Iv l1 l2 l4 l6 S → wX6_isSpelt_16' l1 l2 l4 l6 S K  (fun ml1 ml2 ml4 ml6 T => Iv ml1 ml2 ml4 ml6 T ∧ mu ml1 ml2 ml4 ml6 T < mu l1 l2 l4 l6 S)
set_option maxRecDepth 100000 in
set_option maxHeartbeats 4000000 in
theorem ubX6_isSpelt_16 {G : xG} {v : Nat → Nat} {sh : Nat → Option Sh} {B : Nat × Nat} {c0 : List va_E} {d : Nat} {Post : xP} {l1 l2 l4 l6 : Int} {S : St} {cs : List va_E} {K : Int → St → Prop} (hd : 1 ≤ d) (hT : sb shC sh) (hS : ∀ b x, sh b = some x → ¬ isS b) (hU : sb shTr sh) (hW : Wv G v sh B c0 S cs) (hP : ∀ (x : Int) (S : St) (cs : List va_E), K x S → Wv G v sh B c0 S cs → Post (some (.int (Int32.ofInt x))) cs)  (hw : wX6_isSpelt_16 l1 l2 l4 l6 S K ) : Z (RX6, cX6_isSpelt, 7, some .boolean, false) G d Post 16 [(0, .ref (G.1 + v 3)), (1, .int (Int32.ofInt (l1))), (2, .int (Int32.ofInt (l2))), (3, .ref (G.1 + v 1)), (4, .int (Int32.ofInt (l4))), (6, .int (Int32.ofInt (l6)))] [] cs := by
  unfold wX6_isSpelt_16 at hw
  obtain ⟨Iv, mu, h0, hs⟩ := hw
  have key : ∀ (n : Nat) (l1 l2 l4 l6 : Int) (S : St) (cs : List va_E), mu l1 l2 l4 l6 S < n → Iv l1 l2 l4 l6 S → Wv G v sh B c0 S cs → Z (RX6, cX6_isSpelt, 7, some .boolean, false) G d Post 16 [(0, .ref (G.1 + v 3)), (1, .int (Int32.ofInt (l1))), (2, .int (Int32.ofInt (l2))), (3, .ref (G.1 + v 1)), (4, .int (Int32.ofInt (l4))), (6, .int (Int32.ofInt (l6)))] [] cs := by
    intro n
    induction n with
    | zero => intro l1 l2 l4 l6 S cs hn; exact absurd hn (Nat.not_lt_zero _)
    | succ n ih =>
      intro l1 l2 l4 l6 S cs hn hI hW
      exact ubX6_isSpelt_16' hd hT hS hU hW hP  (fun l1 l2 l4 l6 S cs hb hW => ih l1 l2 l4 l6 S cs (Nat.lt_of_lt_of_le hb.2 (Nat.le_of_lt_succ hn)) hb.1 hW) (hs l1 l2 l4 l6 S hI)
  exact key _ _ _ _ _ _ _ (Nat.lt_succ_self _) h0 hW
def wX6_isSpelt  (a1 a2 a3 a4 : Int) (S : St) (K : Int → St → Prop) : Prop := rng a1 → rng a2 → rng a3 → rng a4 → (rng ((a2 - a1)) ∧ (rng ((a4 - a3)) ∧ (((a2 - a1) = (a4 - a3) → wX6_isSpelt_16 (a1) (a2) (a3) (0) S K) ∧ ((¬ ((a2 - a1) = (a4 - a3))) → K (0) S))))
set_option maxRecDepth 100000 in
set_option maxHeartbeats 4000000 in
theorem lX6_isSpelt {G : xG} {v : Nat → Nat} {sh : Nat → Option Sh} {B : Nat × Nat} {c0 : List va_E}  {a1 a2 a3 a4 : Int} {S : St} {cs : List va_E} {K : Int → St → Prop} (d : Nat) (hd : 1 ≤ d) (hT : sb shC sh) (hS : ∀ b x, sh b = some x → ¬ isS b) (hU : sb shTr sh) (hW : Wv G v sh B c0 S cs) (g1 : rng a1) (g2 : rng a2) (g3 : rng a3) (g4 : rng a4) (hw : wX6_isSpelt a1 a2 a3 a4 S K) : X G yX6_isSpelt cX6_isSpelt 7 (some .boolean) d [.ref (G.1 + v 3), .int (Int32.ofInt a1), .int (Int32.ofInt a2), .ref (G.1 + v 1), .int (Int32.ofInt a3), .int (Int32.ofInt a4)] cs (vI G v sh B c0 K) := by
  refine X.of false (by decide +kernel) (by decide) (Nat.le_of_ble_eq_true rfl) ?_
  show Z (RX6, cX6_isSpelt, 7, some .boolean, false) G d _ 0 [(0, .ref (G.1 + v 3)), (1, .int (Int32.ofInt a1)), (2, .int (Int32.ofInt a2)), (3, .ref (G.1 + v 1)), (4, .int (Int32.ofInt a3)), (5, .int (Int32.ofInt a4))] [] cs
  have hP : ∀ (x : Int) (S : St) (cs : List va_E), K x S → Wv G v sh B c0 S cs → vI G v sh B c0 K (some (.int (Int32.ofInt x))) cs := fun x S cs a b => ⟨x, S, rfl, a, b⟩
  unfold wX6_isSpelt at hw
  have hw := hw g1 g2 g3 g4
  refine z_iload_n dX6_isSpelt_0 rfl rfl ?_
  refine z_iload_n dX6_isSpelt_1 rfl rfl ?_
  refine i_isub dX6_isSpelt_2 ?_
  refine z_iload dX6_isSpelt_3 rfl ?_
  refine z_iload dX6_isSpelt_5 rfl ?_
  refine i_isub dX6_isSpelt_7 ?_
  obtain ⟨q2, hw⟩ := hw
  obtain ⟨q3, hw⟩ := hw
  refine i_icmp_eq (tgt := 13) dX6_isSpelt_8 (by decide) q2 q3 (fun h1 => ?_) (fun h1 => ?_)
  · have hw := hw.1 h1
    refine z_iconst (v := Int32.ofInt 0) dX6_isSpelt_13 rfl ?_
    refine z_istore dX6_isSpelt_14 (by decide) ?_
    refine z_loc (L' := [(0, .ref (G.1 + v 3)), (1, .int (Int32.ofInt (a1))), (2, .int (Int32.ofInt (a2))), (3, .ref (G.1 + v 1)), (4, .int (Int32.ofInt (a3))), (5, .int (Int32.ofInt (a4))), (6, .int (Int32.ofInt (0)))]) (List.forall_mem_cons.mpr ⟨rfl, (List.forall_mem_cons.mpr ⟨rfl, (List.forall_mem_cons.mpr ⟨rfl, (List.forall_mem_cons.mpr ⟨rfl, (List.forall_mem_cons.mpr ⟨rfl, (List.forall_mem_cons.mpr ⟨rfl, (List.forall_mem_cons.mpr ⟨rfl, (fun _ h => nomatch h)⟩)⟩)⟩)⟩)⟩)⟩)⟩) ?_
    refine z_loc (L' := [(0, .ref (G.1 + v 3)), (1, .int (Int32.ofInt (a1))), (2, .int (Int32.ofInt (a2))), (3, .ref (G.1 + v 1)), (4, .int (Int32.ofInt (a3))), (6, .int (Int32.ofInt (0)))]) (List.forall_mem_cons.mpr ⟨rfl, (List.forall_mem_cons.mpr ⟨rfl, (List.forall_mem_cons.mpr ⟨rfl, (List.forall_mem_cons.mpr ⟨rfl, (List.forall_mem_cons.mpr ⟨rfl, (List.forall_mem_cons.mpr ⟨rfl, (fun _ h => nomatch h)⟩)⟩)⟩)⟩)⟩)⟩) ?_
    exact ubX6_isSpelt_16 hd hT hS hU hW hP  hw
  · have hw := hw.2 h1
    refine z_iconst (v := Int32.ofInt 0) dX6_isSpelt_11 rfl ?_
    exact z_ireturn dX6_isSpelt_12 rfl (nar01 (by decide)) (hP _ _ _ hw hW)

def wX6_firstAttribute  (a1 : Int) (S : St) (K : Int → St → Prop) : Prop := rng a1 → (wX6_has (a1) S (fun r2 S1 => (rng (r2) ∧ ((r2 = 0 → K (0) S1) ∧ ((¬ (r2 = 0)) → ((0 : Int) ≤ a1 ∧ a1 < (200 : Int) ∧ (iv 0 600 (S1.2 11 (a1)) → K (S1.2 11 (a1)) S1)))))))
set_option maxRecDepth 100000 in
set_option maxHeartbeats 4000000 in
theorem lX6_firstAttribute {G : xG} {v : Nat → Nat} {sh : Nat → Option Sh} {B : Nat × Nat} {c0 : List va_E}  {a1 : Int} {S : St} {cs : List va_E} {K : Int → St → Prop} (d : Nat) (hd : 1 ≤ d) (hT : sb shC sh) (hS : ∀ b x, sh b = some x → ¬ isS b) (hU : sb shTr sh) (hW : Wv G v sh B c0 S cs) (g1 : rng a1) (hw : wX6_firstAttribute a1 S K) : X G yX6_firstAttribute cX6_firstAttribute 2 (some .int) d [.ref (G.1 + v 3), .int (Int32.ofInt a1)] cs (vI G v sh B c0 K) := by
  refine X.of false (by decide +kernel) (by decide) (Nat.le_of_ble_eq_true rfl) ?_
  show Z (RX6, cX6_firstAttribute, 2, some .int, false) G d _ 0 [(0, .ref (G.1 + v 3)), (1, .int (Int32.ofInt a1))] [] cs
  have hP : ∀ (x : Int) (S : St) (cs : List va_E), K x S → Wv G v sh B c0 S cs → vI G v sh B c0 K (some (.int (Int32.ofInt x))) cs := fun x S cs a b => ⟨x, S, rfl, a, b⟩
  unfold wX6_firstAttribute at hw
  have hw := hw g1
  refine z_aload_n dX6_firstAttribute_0 rfl rfl ?_
  refine z_iload_n dX6_firstAttribute_1 rfl rfl ?_
  have hX := lX6_has 0 (Nat.le_refl _) hT hS hU hW g1 hw
  refine z_callV (As := [_]) eX6_has sX6_has lX6_75 rfl dX6_firstAttribute_2 (hW.at (hU 3 _ rfl)) hX (Nat.le_trans (by decide) hd) rfl (Nat.le_of_ble_eq_true rfl) (fun r cs hp => ?_)
  obtain ⟨r2, S1, rfl, hw, hW⟩ := hp
  refine z_st (st' := [.int (Int32.ofInt (r2))]) rfl ?_
  obtain ⟨q4, hw⟩ := hw
  refine i_if_eq (tgt := 17) dX6_firstAttribute_5 (by decide) q4 (fun h3 => ?_) (fun h3 => ?_)
  · have hw := hw.1 h3
    refine z_iconst (v := Int32.ofInt 0) dX6_firstAttribute_17 rfl ?_
    exact z_ireturn dX6_firstAttribute_18 rfl rfl (hP _ _ _ hw hW)
  · have hw := hw.2 h3
    refine z_aload_n dX6_firstAttribute_8 rfl rfl ?_
    refine v_getR hW (hU 3 _ rfl) rfl kX6 fX6_37 dX6_firstAttribute_9 ?_
    refine z_iload_n dX6_firstAttribute_12 rfl rfl ?_
    obtain ⟨q5a, q5b, hw⟩ := hw
    have q6 : iv 0 600 (S1.2 11 (a1)) := hW.iA 11 _
    have hw := hw q6
    refine v_iald hW (hT 11 _ rfl) q5a q5b (by decide) dX6_firstAttribute_13 ?_
    refine z_goto (tgt := 18) dX6_firstAttribute_14 (by decide) ?_
    exact z_ireturn dX6_firstAttribute_18 rfl rfl (hP _ _ _ hw hW)

def wX6_hasKey_11'  (l1 l2 l3 l4 l5 : Int) (S : St) (K : Int → St → Prop) (B11 : Int → Int → Int → Int → Int → St → Prop) : Prop := (rng (l1) ∧ (wX6_attributeCount (l1) S (fun r2 S1 => (rng (l5) ∧ (rng ((l4 + r2)) ∧ (((l4 + r2) ≤ l5 → K (0) S1) ∧ ((¬ ((l4 + r2) ≤ l5)) → ((0 : Int) ≤ l5 ∧ l5 < (600 : Int) ∧ (iv (-2147483648) 2147483647 (S1.2 16 (l5)) → ((0 : Int) ≤ l5 ∧ l5 < (600 : Int) ∧ (iv (-2147483648) 2147483647 (S1.2 17 (l5)) → (rng (l2) ∧ (rng (l3) ∧ (wX6_isSpelt (S1.2 16 (l5)) (S1.2 17 (l5)) (l2) (l3) S1 (fun r12 S11 => (rng (r12) ∧ ((r12 = 0 → B11 (l1) (l2) (l3) (l4) ((l5 + 1)) S11) ∧ ((¬ (r12 = 0)) → K (1) S11))))))))))))))))))
set_option maxRecDepth 100000 in
set_option maxHeartbeats 4000000 in
theorem ubX6_hasKey_11' {G : xG} {v : Nat → Nat} {sh : Nat → Option Sh} {B : Nat × Nat} {c0 : List va_E} {d : Nat} {Post : xP} {l1 l2 l3 l4 l5 : Int} {S : St} {cs : List va_E} {K : Int → St → Prop} {B11 : Int → Int → Int → Int → Int → St → Prop} (hd : 2 ≤ d) (hT : sb shC sh) (hS : ∀ b x, sh b = some x → ¬ isS b) (hU : sb shTr sh) (hW : Wv G v sh B c0 S cs) (hP : ∀ (x : Int) (S : St) (cs : List va_E), K x S → Wv G v sh B c0 S cs → Post (some (.int (Int32.ofInt x))) cs) (hB11 : ∀ (l1 : Int) (l2 : Int) (l3 : Int) (l4 : Int) (l5 : Int) (S : St) (cs : List va_E), B11 l1 l2 l3 l4 l5 S → Wv G v sh B c0 S cs → Z (RX6, cX6_hasKey, 6, some .boolean, false) G d Post 11 [(0, .ref (G.1 + v 3)), (1, .int (Int32.ofInt (l1))), (2, .int (Int32.ofInt (l2))), (3, .int (Int32.ofInt (l3))), (4, .int (Int32.ofInt (l4))), (5, .int (Int32.ofInt (l5)))] [] cs) (hw : wX6_hasKey_11' l1 l2 l3 l4 l5 S K B11) : Z (RX6, cX6_hasKey, 6, some .boolean, false) G d Post 11 [(0, .ref (G.1 + v 3)), (1, .int (Int32.ofInt (l1))), (2, .int (Int32.ofInt (l2))), (3, .int (Int32.ofInt (l3))), (4, .int (Int32.ofInt (l4))), (5, .int (Int32.ofInt (l5)))] [] cs := by
  unfold wX6_hasKey_11' at hw
  refine z_iload dX6_hasKey_11 rfl ?_
  refine z_iload dX6_hasKey_13 rfl ?_
  refine z_aload_n dX6_hasKey_15 rfl rfl ?_
  refine z_iload_n dX6_hasKey_16 rfl rfl ?_
  obtain ⟨q3, hw⟩ := hw
  have hX := lX6_attributeCount 1 (Nat.le_refl _) hT hS hU hW q3 hw
  refine z_callV (As := [_]) eX6_attributeCount sX6_attributeCount lX6_100 rfl dX6_hasKey_17 (hW.at (hU 3 _ rfl)) hX (Nat.le_trans (by decide) hd) rfl (Nat.le_of_ble_eq_true rfl) (fun r cs hp => ?_)
  obtain ⟨r2, S1, rfl, hw, hW⟩ := hp
  refine z_st (st' := [.int (Int32.ofInt (r2)), .int (Int32.ofInt (l4)), .int (Int32.ofInt (l5))]) rfl ?_
  refine i_iadd dX6_hasKey_20 ?_
  obtain ⟨q5, hw⟩ := hw
  obtain ⟨q6, hw⟩ := hw
  refine i_icmp_ge (tgt := 59) dX6_hasKey_21 (by decide) q5 q6 (fun h4 => ?_) (fun h4 => ?_)
  · have hw := hw.1 h4
    refine z_iconst (v := Int32.ofInt 0) dX6_hasKey_59 rfl ?_
    exact z_ireturn dX6_hasKey_60 rfl (nar01 (by decide)) (hP _ _ _ hw hW)
  · have hw := hw.2 h4
    refine z_aload_n dX6_hasKey_24 rfl rfl ?_
    refine z_aload_n dX6_hasKey_25 rfl rfl ?_
    refine v_getR hW (hU 3 _ rfl) rfl kX6 fX6_53 dX6_hasKey_26 ?_
    refine z_iload dX6_hasKey_29 rfl ?_
    obtain ⟨q7a, q7b, hw⟩ := hw
    have q8 : iv (-2147483648) 2147483647 (S1.2 16 (l5)) := hW.iA 16 _
    have hw := hw q8
    refine v_iald hW (hT 16 _ rfl) q7a q7b (by decide) dX6_hasKey_31 ?_
    refine z_aload_n dX6_hasKey_32 rfl rfl ?_
    refine v_getR hW (hU 3 _ rfl) rfl kX6 fX6_56 dX6_hasKey_33 ?_
    refine z_iload dX6_hasKey_36 rfl ?_
    obtain ⟨q9a, q9b, hw⟩ := hw
    have q10 : iv (-2147483648) 2147483647 (S1.2 17 (l5)) := hW.iA 17 _
    have hw := hw q10
    refine v_iald hW (hT 17 _ rfl) q9a q9b (by decide) dX6_hasKey_38 ?_
    refine z_aload_n dX6_hasKey_39 rfl rfl ?_
    refine v_getR hW (hU 3 _ rfl) rfl kX6 fX6_18 dX6_hasKey_40 ?_
    refine z_iload_n dX6_hasKey_43 rfl rfl ?_
    refine z_iload_n dX6_hasKey_44 rfl rfl ?_
    obtain ⟨q13, hw⟩ := hw
    obtain ⟨q14, hw⟩ := hw
    have hX := lX6_isSpelt 1 (Nat.le_refl _) hT hS hU hW (rngq q8 (by decide) (by decide)) (rngq q10 (by decide) (by decide)) q13 q14 hw
    refine z_callV (As := [_, _, _, _, _]) eX6_isSpelt sX6_isSpelt lX6_92 rfl dX6_hasKey_45 (hW.at (hU 3 _ rfl)) hX (Nat.le_trans (by decide) hd) rfl (Nat.le_of_ble_eq_true rfl) (fun r cs hp => ?_)
    obtain ⟨r12, S11, rfl, hw, hW⟩ := hp
    refine z_st (st' := [.int (Int32.ofInt (r12))]) rfl ?_
    obtain ⟨q16, hw⟩ := hw
    refine i_if_eq (tgt := 53) dX6_hasKey_48 (by decide) q16 (fun h15 => ?_) (fun h15 => ?_)
    · have hw := hw.1 h15
      refine i_iinc (l := l5) dX6_hasKey_53 rfl (by decide) ?_
      refine z_loc (L' := [(0, .ref (G.1 + v 3)), (1, .int (Int32.ofInt (l1))), (2, .int (Int32.ofInt (l2))), (3, .int (Int32.ofInt (l3))), (4, .int (Int32.ofInt (l4))), (5, .int (Int32.ofInt ((l5 + 1))))]) (List.forall_mem_cons.mpr ⟨rfl, (List.forall_mem_cons.mpr ⟨rfl, (List.forall_mem_cons.mpr ⟨rfl, (List.forall_mem_cons.mpr ⟨rfl, (List.forall_mem_cons.mpr ⟨rfl, (List.forall_mem_cons.mpr ⟨rfl, (fun _ h => nomatch h)⟩)⟩)⟩)⟩)⟩)⟩) ?_
      refine z_goto (tgt := 11) dX6_hasKey_56 (by decide) ?_
      refine z_loc (L' := [(0, .ref (G.1 + v 3)), (1, .int (Int32.ofInt (l1))), (2, .int (Int32.ofInt (l2))), (3, .int (Int32.ofInt (l3))), (4, .int (Int32.ofInt (l4))), (5, .int (Int32.ofInt ((l5 + 1))))]) (List.forall_mem_cons.mpr ⟨rfl, (List.forall_mem_cons.mpr ⟨rfl, (List.forall_mem_cons.mpr ⟨rfl, (List.forall_mem_cons.mpr ⟨rfl, (List.forall_mem_cons.mpr ⟨rfl, (List.forall_mem_cons.mpr ⟨rfl, (fun _ h => nomatch h)⟩)⟩)⟩)⟩)⟩)⟩) ?_
      exact hB11 _ _ _ _ _ _ _ hw hW
    · have hw := hw.2 h15
      refine z_iconst (v := Int32.ofInt 1) dX6_hasKey_51 rfl ?_
      exact z_ireturn dX6_hasKey_52 rfl (nar01 (by decide)) (hP _ _ _ hw hW)
def wX6_hasKey_11  (l1 l2 l3 l4 l5 : Int) (S : St) (K : Int → St → Prop) : Prop := ∃ (Iv : Int → Int → Int → Int → Int → St → Prop) (mu : Int → Int → Int → Int → Int → St → Nat), Iv l1 l2 l3 l4 l5 S ∧ ∀ (l1 l2 l3 l4 l5 : Int) (S : St), Iv l1 l2 l3 l4 l5 S → wX6_hasKey_11' l1 l2 l3 l4 l5 S K  (fun ml1 ml2 ml3 ml4 ml5 T => Iv ml1 ml2 ml3 ml4 ml5 T ∧ mu ml1 ml2 ml3 ml4 ml5 T < mu l1 l2 l3 l4 l5 S)
set_option maxRecDepth 100000 in
set_option maxHeartbeats 4000000 in
theorem ubX6_hasKey_11 {G : xG} {v : Nat → Nat} {sh : Nat → Option Sh} {B : Nat × Nat} {c0 : List va_E} {d : Nat} {Post : xP} {l1 l2 l3 l4 l5 : Int} {S : St} {cs : List va_E} {K : Int → St → Prop} (hd : 2 ≤ d) (hT : sb shC sh) (hS : ∀ b x, sh b = some x → ¬ isS b) (hU : sb shTr sh) (hW : Wv G v sh B c0 S cs) (hP : ∀ (x : Int) (S : St) (cs : List va_E), K x S → Wv G v sh B c0 S cs → Post (some (.int (Int32.ofInt x))) cs)  (hw : wX6_hasKey_11 l1 l2 l3 l4 l5 S K ) : Z (RX6, cX6_hasKey, 6, some .boolean, false) G d Post 11 [(0, .ref (G.1 + v 3)), (1, .int (Int32.ofInt (l1))), (2, .int (Int32.ofInt (l2))), (3, .int (Int32.ofInt (l3))), (4, .int (Int32.ofInt (l4))), (5, .int (Int32.ofInt (l5)))] [] cs := by
  unfold wX6_hasKey_11 at hw
  obtain ⟨Iv, mu, h0, hs⟩ := hw
  have key : ∀ (n : Nat) (l1 l2 l3 l4 l5 : Int) (S : St) (cs : List va_E), mu l1 l2 l3 l4 l5 S < n → Iv l1 l2 l3 l4 l5 S → Wv G v sh B c0 S cs → Z (RX6, cX6_hasKey, 6, some .boolean, false) G d Post 11 [(0, .ref (G.1 + v 3)), (1, .int (Int32.ofInt (l1))), (2, .int (Int32.ofInt (l2))), (3, .int (Int32.ofInt (l3))), (4, .int (Int32.ofInt (l4))), (5, .int (Int32.ofInt (l5)))] [] cs := by
    intro n
    induction n with
    | zero => intro l1 l2 l3 l4 l5 S cs hn; exact absurd hn (Nat.not_lt_zero _)
    | succ n ih =>
      intro l1 l2 l3 l4 l5 S cs hn hI hW
      exact ubX6_hasKey_11' hd hT hS hU hW hP  (fun l1 l2 l3 l4 l5 S cs hb hW => ih l1 l2 l3 l4 l5 S cs (Nat.lt_of_lt_of_le hb.2 (Nat.le_of_lt_succ hn)) hb.1 hW) (hs l1 l2 l3 l4 l5 S hI)
  exact key _ _ _ _ _ _ _ _ (Nat.lt_succ_self _) h0 hW
def wX6_hasKey  (a1 a2 a3 : Int) (S : St) (K : Int → St → Prop) : Prop := rng a1 → rng a2 → rng a3 → (wX6_firstAttribute (a1) S (fun r2 S1 => wX6_hasKey_11 (a1) (a2) (a3) (r2) (r2) S1 K))
set_option maxRecDepth 100000 in
set_option maxHeartbeats 4000000 in
theorem lX6_hasKey {G : xG} {v : Nat → Nat} {sh : Nat → Option Sh} {B : Nat × Nat} {c0 : List va_E}  {a1 a2 a3 : Int} {S : St} {cs : List va_E} {K : Int → St → Prop} (d : Nat) (hd : 2 ≤ d) (hT : sb shC sh) (hS : ∀ b x, sh b = some x → ¬ isS b) (hU : sb shTr sh) (hW : Wv G v sh B c0 S cs) (g1 : rng a1) (g2 : rng a2) (g3 : rng a3) (hw : wX6_hasKey a1 a2 a3 S K) : X G yX6_hasKey cX6_hasKey 6 (some .boolean) d [.ref (G.1 + v 3), .int (Int32.ofInt a1), .int (Int32.ofInt a2), .int (Int32.ofInt a3)] cs (vI G v sh B c0 K) := by
  refine X.of false (by decide +kernel) (by decide) (Nat.le_of_ble_eq_true rfl) ?_
  show Z (RX6, cX6_hasKey, 6, some .boolean, false) G d _ 0 [(0, .ref (G.1 + v 3)), (1, .int (Int32.ofInt a1)), (2, .int (Int32.ofInt a2)), (3, .int (Int32.ofInt a3))] [] cs
  have hP : ∀ (x : Int) (S : St) (cs : List va_E), K x S → Wv G v sh B c0 S cs → vI G v sh B c0 K (some (.int (Int32.ofInt x))) cs := fun x S cs a b => ⟨x, S, rfl, a, b⟩
  unfold wX6_hasKey at hw
  have hw := hw g1 g2 g3
  refine z_aload_n dX6_hasKey_0 rfl rfl ?_
  refine z_iload_n dX6_hasKey_1 rfl rfl ?_
  have hX := lX6_firstAttribute 1 (Nat.le_refl _) hT hS hU hW g1 hw
  refine z_callV (As := [_]) eX6_firstAttribute sX6_firstAttribute lX6_96 rfl dX6_hasKey_2 (hW.at (hU 3 _ rfl)) hX (Nat.le_trans (by decide) hd) rfl (Nat.le_of_ble_eq_true rfl) (fun r cs hp => ?_)
  obtain ⟨r2, S1, rfl, hw, hW⟩ := hp
  refine z_st (st' := [.int (Int32.ofInt (r2))]) rfl ?_
  refine z_istore dX6_hasKey_5 (by decide) ?_
  refine z_loc (L' := [(0, .ref (G.1 + v 3)), (1, .int (Int32.ofInt (a1))), (2, .int (Int32.ofInt (a2))), (3, .int (Int32.ofInt (a3))), (4, .int (Int32.ofInt (r2)))]) (List.forall_mem_cons.mpr ⟨rfl, (List.forall_mem_cons.mpr ⟨rfl, (List.forall_mem_cons.mpr ⟨rfl, (List.forall_mem_cons.mpr ⟨rfl, (List.forall_mem_cons.mpr ⟨rfl, (fun _ h => nomatch h)⟩)⟩)⟩)⟩)⟩) ?_
  refine z_iload dX6_hasKey_7 rfl ?_
  refine z_istore dX6_hasKey_9 (by decide) ?_
  refine z_loc (L' := [(0, .ref (G.1 + v 3)), (1, .int (Int32.ofInt (a1))), (2, .int (Int32.ofInt (a2))), (3, .int (Int32.ofInt (a3))), (4, .int (Int32.ofInt (r2))), (5, .int (Int32.ofInt (r2)))]) (List.forall_mem_cons.mpr ⟨rfl, (List.forall_mem_cons.mpr ⟨rfl, (List.forall_mem_cons.mpr ⟨rfl, (List.forall_mem_cons.mpr ⟨rfl, (List.forall_mem_cons.mpr ⟨rfl, (List.forall_mem_cons.mpr ⟨rfl, (fun _ h => nomatch h)⟩)⟩)⟩)⟩)⟩)⟩) ?_
  refine z_loc (L' := [(0, .ref (G.1 + v 3)), (1, .int (Int32.ofInt (a1))), (2, .int (Int32.ofInt (a2))), (3, .int (Int32.ofInt (a3))), (4, .int (Int32.ofInt (r2))), (5, .int (Int32.ofInt (r2)))]) (List.forall_mem_cons.mpr ⟨rfl, (List.forall_mem_cons.mpr ⟨rfl, (List.forall_mem_cons.mpr ⟨rfl, (List.forall_mem_cons.mpr ⟨rfl, (List.forall_mem_cons.mpr ⟨rfl, (List.forall_mem_cons.mpr ⟨rfl, (fun _ h => nomatch h)⟩)⟩)⟩)⟩)⟩)⟩) ?_
  exact ubX6_hasKey_11 hd hT hS hU hW hP  hw

