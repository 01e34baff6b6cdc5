def wX10_take  (S : St) (K : Int → St → Prop) : Prop := (wX5_become 1 20 S (fun r2 S1 => (wX5_length 1 S1 (fun r4 S3 => K (r4) S3))))
set_option maxRecDepth 100000 in
set_option maxHeartbeats 4000000 in
theorem lX10_take {G : xG} {v : Nat → Nat} {sh : Nat → Option Sh} {B : Nat × Nat} {c0 : List va_E}  {S : St} {cs : List va_E} {K : Int → St → Prop} (d : Nat) (hd : 3 ≤ d) (hT : sb shC sh) (hS : ∀ b x, sh b = some x → ¬ isS b) (hW : Wv G v sh B c0 S cs)  (hw : wX10_take  S K) : X G yX10_take cX10_take 1 (some .int) d [.ref (G.1 + v 0)] cs (vI G v sh B c0 K) := by
  refine X.of false (by decide +kernel) (by decide) (Nat.le_of_ble_eq_true rfl) ?_
  show Z (RX10, cX10_take, 1, some .int, false) G d _ 0 [(0, .ref (G.1 + v 0))] [] cs
  have hP : ∀ (x : Int) (S : St) (cs : List va_E), K x S → Wv G v sh B c0 S cs → vI G v sh B c0 K (some (.int (Int32.ofInt x))) cs := fun x S cs a b => ⟨x, S, rfl, a, b⟩
  unfold wX10_take at hw
  refine z_aload_n dX10_take_0 rfl rfl ?_
  refine v_getR hW (hT 0 _ rfl) rfl kX10 fX10_12 dX10_take_1 ?_
  refine z_aload_n dX10_take_4 rfl rfl ?_
  refine v_getR hW (hT 0 _ rfl) rfl kX10 fX10_23 dX10_take_5 ?_
  have hX := lX5_become 2 (Nat.le_refl _) hW (show isS 1 by unfold isS; decide) (show isS 20 by unfold isS; decide) (by decide) hS  hw
  refine z_callV (As := [_]) eX5_become sX5_become lX10_132 rfl dX10_take_8 (hW.sg (show isS 1 by unfold isS; decide) (fun b x h e => hS b x h (e ▸ (show isS 1 by unfold isS; decide)))).choose_spec.choose_spec.choose_spec.choose_spec.1.choose_spec.1 hX (Nat.le_trans (by decide) hd) rfl (Nat.le_of_ble_eq_true rfl) (fun r cs hp => ?_)
  obtain ⟨r2, S1, rfl, hw, hW⟩ := hp
  refine z_st (st' := []) rfl ?_
  refine z_aload_n dX10_take_11 rfl rfl ?_
  refine v_getR hW (hT 0 _ rfl) rfl kX10 fX10_12 dX10_take_12 ?_
  have hX := lX5_length 0 (Nat.le_refl _) hW (show isS 1 by unfold isS; decide) (fun b x h e => hS b x h (e ▸ (show isS 1 by unfold isS; decide)))  hw
  refine z_callV (As := []) eX5_length sX5_length lX10_101 rfl dX10_take_15 (hW.sg (show isS 1 by unfold isS; decide) (fun b x h e => hS b x h (e ▸ (show isS 1 by unfold isS; decide)))).choose_spec.choose_spec.choose_spec.choose_spec.1.choose_spec.1 hX (Nat.le_trans (by decide) hd) rfl (Nat.le_of_ble_eq_true rfl) (fun r cs hp => ?_)
  obtain ⟨r4, S3, rfl, hw, hW⟩ := hp
  refine z_st (st' := [.int (Int32.ofInt (r4))]) rfl ?_
  exact z_ireturn dX10_take_18 rfl rfl (hP _ _ _ hw hW)

def wX10_forbid  (a1 a2 : Int) (S : St) (K : Int → St → Prop) : Prop := rng a1 → rng a2 → (wX4_isForbidden (a1) S (fun r2 S1 => (wX4_putForbidden (a1) (a2) S1 (fun r4 S3 => (iv 0 1 (r2) ∧ K (r2) S3)))))
set_option maxRecDepth 100000 in
set_option maxHeartbeats 4000000 in
theorem lX10_forbid {G : xG} {v : Nat → Nat} {sh : Nat → Option Sh} {B : Nat × Nat} {c0 : List va_E}  {a1 a2 : Int} {S : St} {cs : List va_E} {K : Int → St → Prop} (d : Nat) (hd : 2 ≤ d) (hT : sb shC sh) (hS : ∀ b x, sh b = some x → ¬ isS b) (hW : Wv G v sh B c0 S cs) (g1 : rng a1) (g2 : rng a2) (hw : wX10_forbid a1 a2 S K) : X G yX10_forbid cX10_forbid 4 (some .boolean) d [.ref (G.1 + v 0), .int (Int32.ofInt a1), .int (Int32.ofInt a2)] cs (vI G v sh B c0 K) := by
  refine X.of false (by decide +kernel) (by decide) (Nat.le_of_ble_eq_true rfl) ?_
  show Z (RX10, cX10_forbid, 4, some .boolean, false) G d _ 0 [(0, .ref (G.1 + v 0)), (1, .int (Int32.ofInt a1)), (2, .int (Int32.ofInt a2))] [] cs
  have hP : ∀ (x : Int) (S : St) (cs : List va_E), K x S → Wv G v sh B c0 S cs → vI G v sh B c0 K (some (.int (Int32.ofInt x))) cs := fun x S cs a b => ⟨x, S, rfl, a, b⟩
  unfold wX10_forbid at hw
  have hw := hw g1 g2
  refine z_aload_n dX10_forbid_0 rfl rfl ?_
  refine v_getR hW (hT 0 _ rfl) rfl kX10 fX10_32 dX10_forbid_1 ?_
  refine z_iload_n dX10_forbid_4 rfl rfl ?_
  have hX := lX4_isForbidden 1 (Nat.le_refl _) hT hS hW g1 hw
  refine z_callV (As := [_]) eX4_isForbidden sX4_isForbidden lX10_136 rfl dX10_forbid_5 (hW.at (hT 24 _ rfl)) hX (Nat.le_trans (by decide) hd) rfl (Nat.le_of_ble_eq_true rfl) (fun r cs hp => ?_)
  obtain ⟨r2, S1, rfl, hw, hW⟩ := hp
  refine z_st (st' := [.int (Int32.ofInt (r2))]) rfl ?_
  refine z_istore_n dX10_forbid_8 rfl (by decide) ?_
  refine z_loc (L' := [(0, .ref (G.1 + v 0)), (1, .int (Int32.ofInt (a1))), (2, .int (Int32.ofInt (a2))), (3, .int (Int32.ofInt (r2)))]) (List.forall_mem_cons.mpr ⟨rfl, (List.forall_mem_cons.mpr ⟨rfl, (List.forall_mem_cons.mpr ⟨rfl, (List.forall_mem_cons.mpr ⟨rfl, (fun _ h => nomatch h)⟩)⟩)⟩)⟩) ?_
  refine z_aload_n dX10_forbid_9 rfl rfl ?_
  refine v_getR hW (hT 0 _ rfl) rfl kX10 fX10_32 dX10_forbid_10 ?_
  refine z_iload_n dX10_forbid_13 rfl rfl ?_
  refine z_iload_n dX10_forbid_14 rfl rfl ?_
  have hX := lX4_putForbidden 1 (Nat.le_refl _) hT hS hW g1 g2 hw
  refine z_callV (As := [_, _]) eX4_putForbidden sX4_putForbidden lX10_139 rfl dX10_forbid_15 (hW.at (hT 24 _ rfl)) hX (Nat.le_trans (by decide) hd) rfl (Nat.le_of_ble_eq_true rfl) (fun r cs hp => ?_)
  obtain ⟨r4, S3, rfl, hw, hW⟩ := hp
  refine z_st (st' := []) rfl ?_
  refine z_iload_n dX10_forbid_18 rfl rfl ?_
  obtain ⟨q5, hw⟩ := hw
  exact z_ireturn dX10_forbid_19 rfl (nar01 (b01 q5)) (hP _ _ _ hw hW)

def wX10_isBlank  (a1 : Int) (S : St) (K : Int → St → Prop) : Prop := rng a1 → ((a1 = 32 → K (1) S) ∧ ((¬ (a1 = 32)) → ((a1 = 9 → K (1) S) ∧ ((¬ (a1 = 9)) → ((a1 = 10 → K (1) S) ∧ ((¬ (a1 = 10)) → ((¬ a1 = 13 → K (0) S) ∧ ((¬ (¬ a1 = 13)) → K (1) S))))))))
set_option maxRecDepth 100000 in
set_option maxHeartbeats 4000000 in
theorem lX10_isBlank {G : xG} {v : Nat → Nat} {sh : Nat → Option Sh} {B : Nat × Nat} {c0 : List va_E}  {a1 : Int} {S : St} {cs : List va_E} {K : Int → St → Prop} (d : Nat) (hd : 0 ≤ d) (hT : sb shC sh) (hS : ∀ b x, sh b = some x → ¬ isS b) (hW : Wv G v sh B c0 S cs) (g1 : rng a1) (hw : wX10_isBlank a1 S K) : X G yX10_isBlank cX10_isBlank 1 (some .boolean) d [.int (Int32.ofInt a1)] cs (vI G v sh B c0 K) := by
  refine X.of false (by decide +kernel) (by decide) (Nat.le_of_ble_eq_true rfl) ?_
  show Z (RX10, cX10_isBlank, 1, some .boolean, false) G d _ 0 [(0, .int (Int32.ofInt a1))] [] cs
  have hP : ∀ (x : Int) (S : St) (cs : List va_E), K x S → Wv G v sh B c0 S cs → vI G v sh B c0 K (some (.int (Int32.ofInt x))) cs := fun x S cs a b => ⟨x, S, rfl, a, b⟩
  unfold wX10_isBlank at hw
  have hw := hw g1
  refine z_iload_n dX10_isBlank_0 rfl rfl ?_
  refine z_bipush (v := Int32.ofInt 32) dX10_isBlank_1 (by decide) ?_
  refine i_icmp_eq (tgt := 24) dX10_isBlank_3 (by decide) g1 ⟨by decide, by decide⟩ (fun h1 => ?_) (fun h1 => ?_)
  · have hw := hw.1 h1
    refine z_iconst (v := Int32.ofInt 1) dX10_isBlank_24 rfl ?_
    refine z_goto (tgt := 29) dX10_isBlank_25 (by decide) ?_
    exact z_ireturn dX10_isBlank_29 rfl (nar01 (by decide)) (hP _ _ _ hw hW)
  · have hw := hw.2 h1
    refine z_iload_n dX10_isBlank_6 rfl rfl ?_
    refine z_bipush (v := Int32.ofInt 9) dX10_isBlank_7 (by decide) ?_
    refine i_icmp_eq (tgt := 24) dX10_isBlank_9 (by decide) g1 ⟨by decide, by decide⟩ (fun h2 => ?_) (fun h2 => ?_)
    · have hw := hw.1 h2
      refine z_iconst (v := Int32.ofInt 1) dX10_isBlank_24 rfl ?_
      refine z_goto (tgt := 29) dX10_isBlank_25 (by decide) ?_
      exact z_ireturn dX10_isBlank_29 rfl (nar01 (by decide)) (hP _ _ _ hw hW)
    · have hw := hw.2 h2
      refine z_iload_n dX10_isBlank_12 rfl rfl ?_
      refine z_bipush (v := Int32.ofInt 10) dX10_isBlank_13 (by decide) ?_
      refine i_icmp_eq (tgt := 24) dX10_isBlank_15 (by decide) g1 ⟨by decide, by decide⟩ (fun h3 => ?_) (fun h3 => ?_)
      · have hw := hw.1 h3
        refine z_iconst (v := Int32.ofInt 1) dX10_isBlank_24 rfl ?_
        refine z_goto (tgt := 29) dX10_isBlank_25 (by decide) ?_
        exact z_ireturn dX10_isBlank_29 rfl (nar01 (by decide)) (hP _ _ _ hw hW)
      · have hw := hw.2 h3
        refine z_iload_n dX10_isBlank_18 rfl rfl ?_
        refine z_bipush (v := Int32.ofInt 13) dX10_isBlank_19 (by decide) ?_
        refine i_icmp_ne (tgt := 28) dX10_isBlank_21 (by decide) g1 ⟨by decide, by decide⟩ (fun h4 => ?_) (fun h4 => ?_)
        · have hw := hw.1 h4
          refine z_iconst (v := Int32.ofInt 0) dX10_isBlank_28 rfl ?_
          exact z_ireturn dX10_isBlank_29 rfl (nar01 (by decide)) (hP _ _ _ hw hW)
        · have hw := hw.2 h4
          refine z_iconst (v := Int32.ofInt 1) dX10_isBlank_24 rfl ?_
          refine z_goto (tgt := 29) dX10_isBlank_25 (by decide) ?_
          exact z_ireturn dX10_isBlank_29 rfl (nar01 (by decide)) (hP _ _ _ hw hW)

def wX9_skipBlanks_0'  (S : St) (K : Int → St → Prop) (B0 : St → Prop) : Prop := (iv (-2147483648) 2147483647 (S.1 220 3) → (wX5_length 1 S (fun r3 S2 => (rng (r3) ∧ ((r3 ≤ S.1 220 3 → K 0 S2) ∧ ((¬ (r3 ≤ S.1 220 3)) → (iv (-2147483648) 2147483647 (S2.1 220 3) → (wX5_at 1 (S2.1 220 3) S2 (fun r8 S7 => (rng (r8) ∧ (wX10_isBlank (r8) S7 (fun r10 S9 => (rng (r10) ∧ ((r10 = 0 → K 0 S9) ∧ ((¬ (r10 = 0)) → (iv (-2147483648) 2147483647 (S9.1 220 3) → (iv (-2147483648) 2147483647 ((S9.1 220 3 + 1)) ∧ (∀ S15, S15 = pI S9 220 3 ((S9.1 220 3 + 1)) → B0 S15))))))))))))))))))
set_option maxRecDepth 100000 in
set_option maxHeartbeats 4000000 in
theorem ubX9_skipBlanks_0' {G : xG} {v : Nat → Nat} {sh : Nat → Option Sh} {B : Nat × Nat} {c0 : List va_E} {d : Nat} {Post : xP} {S : St} {cs : List va_E} {K : Int → St → Prop} {B0 : St → Prop} (hd : 1 ≤ d) (hT : sb shC sh) (hS : ∀ b x, sh b = some x → ¬ isS b) (hU : sb shXT sh) (hW : Wv G v sh B c0 S cs) (hP : ∀ (x : Int) (S : St) (cs : List va_E), K x S → Wv G v sh B c0 S cs → Post (none) cs) (hB0 : ∀  (S : St) (cs : List va_E), B0  S → Wv G v sh B c0 S cs → Z (RX9, cX9_skipBlanks, 1, none, false) G d Post 0 [(0, .ref (G.1 + v 220))] [] cs) (hw : wX9_skipBlanks_0'  S K B0) : Z (RX9, cX9_skipBlanks, 1, none, false) G d Post 0 [(0, .ref (G.1 + v 220))] [] cs := by
  unfold wX9_skipBlanks_0' at hw
  refine z_aload_n dX9_skipBlanks_0 rfl rfl ?_
  have q1 : iv (-2147483648) 2147483647 (S.1 220 3) := hW.iI 220 3
  have hw := hw q1
  refine v_getI hW (hU 220 _ rfl) rfl kX9 fX9_9 dX9_skipBlanks_1 ?_
  refine z_aload_n dX9_skipBlanks_4 rfl rfl ?_
  refine v_getR hW (hU 220 _ rfl) rfl kX9 fX9_24 dX9_skipBlanks_5 ?_
  have hX := lX5_length 0 (Nat.le_refl _) hW (show isS 1 by unfold isS; decide) (fun b x h e => hS b x h (e ▸ (show isS 1 by unfold isS; decide)))  hw
  refine z_callV (As := []) eX5_length sX5_length lX9_80 rfl dX9_skipBlanks_8 (hW.sg (show isS 1 by unfold isS; decide) (fun b x h e => hS b x h (e ▸ (show isS 1 by unfold isS; decide)))).choose_spec.choose_spec.choose_spec.choose_spec.1.choose_spec.1 hX (Nat.le_trans (by decide) hd) rfl (Nat.le_of_ble_eq_true rfl) (fun r cs hp => ?_)
  obtain ⟨r3, S2, rfl, hw, hW⟩ := hp
  refine z_st (st' := [.int (Int32.ofInt (r3)), .int (Int32.ofInt (S.1 220 3))]) rfl ?_
  obtain ⟨q5, hw⟩ := hw
  refine i_icmp_ge (tgt := 44) dX9_skipBlanks_11 (by decide) (rngq q1 (by decide) (by decide)) q5 (fun h4 => ?_) (fun h4 => ?_)
  · have hw := hw.1 h4
    exact z_return dX9_skipBlanks_44 rfl (hP 0 _ _ hw hW)
  · have hw := hw.2 h4
    refine z_aload_n dX9_skipBlanks_14 rfl rfl ?_
    refine v_getR hW (hU 220 _ rfl) rfl kX9 fX9_24 dX9_skipBlanks_15 ?_
    refine z_aload_n dX9_skipBlanks_18 rfl rfl ?_
    have q6 : iv (-2147483648) 2147483647 (S2.1 220 3) := hW.iI 220 3
    have hw := hw q6
    refine v_getI hW (hU 220 _ rfl) rfl kX9 fX9_9 dX9_skipBlanks_19 ?_
    have hX := lX5_at 0 (Nat.le_refl _) hW (show isS 1 by unfold isS; decide) (fun b x h e => hS b x h (e ▸ (show isS 1 by unfold isS; decide))) (rngq q6 (by decide) (by decide)) hw
    refine z_callV (As := [_]) eX5_at sX5_at lX9_47 rfl dX9_skipBlanks_22 (hW.sg (show isS 1 by unfold isS; decide) (fun b x h e => hS b x h (e ▸ (show isS 1 by unfold isS; decide)))).choose_spec.choose_spec.choose_spec.choose_spec.1.choose_spec.1 hX (Nat.le_trans (by decide) hd) rfl (Nat.le_of_ble_eq_true rfl) (fun r cs hp => ?_)
    obtain ⟨r8, S7, rfl, hw, hW⟩ := hp
    refine z_st (st' := [.int (Int32.ofInt (r8))]) rfl ?_
    obtain ⟨q11, hw⟩ := hw
    have hX := lX10_isBlank 0 (Nat.le_refl _) hT hS hW q11 hw
    refine z_callSN (As := [_]) eX10_isBlank sX10_isBlank lX9_169 dX9_skipBlanks_25 hX (Nat.le_trans (by decide) hd) rfl (Nat.le_of_ble_eq_true rfl) (fun r cs hp => ?_)
    obtain ⟨r10, S9, rfl, hw, hW⟩ := hp
    refine z_st (st' := [.int (Int32.ofInt (r10))]) rfl ?_
    obtain ⟨q13, hw⟩ := hw
    refine i_if_eq (tgt := 44) dX9_skipBlanks_28 (by decide) q13 (fun h12 => ?_) (fun h12 => ?_)
    · have hw := hw.1 h12
      exact z_return dX9_skipBlanks_44 rfl (hP 0 _ _ hw hW)
    · have hw := hw.2 h12
      refine z_aload_n dX9_skipBlanks_31 rfl rfl ?_
      refine z_dup dX9_skipBlanks_32 rfl ?_
      have q14 : iv (-2147483648) 2147483647 (S9.1 220 3) := hW.iI 220 3
      have hw := hw q14
      refine v_getI hW (hU 220 _ rfl) rfl kX9 fX9_9 dX9_skipBlanks_33 ?_
      refine z_iconst (v := Int32.ofInt 1) dX9_skipBlanks_36 rfl ?_
      refine i_iadd dX9_skipBlanks_37 ?_
      obtain ⟨q16, hw⟩ := hw
      refine v_putI hW (hU 220 _ rfl) (by decide) (by unfold isS; decide) rfl kX9 fX9_9 dX9_skipBlanks_38 rfl rfl rfl q16 (fun cs hW => ?_)
      obtain ⟨S15, hS15⟩ : ∃ x, x = pI S9 220 3 ((S9.1 220 3 + 1)) := ⟨_, rfl⟩
      rw [← hS15] at hW
      have hw := hw S15 hS15
      refine z_goto (tgt := 0) dX9_skipBlanks_41 (by decide) ?_
      refine z_loc (L' := [(0, .ref (G.1 + v 220))]) (List.forall_mem_cons.mpr ⟨rfl, (fun _ h => nomatch h)⟩) ?_
      exact hB0  _ _ hw hW
def wX9_skipBlanks_0  (S : St) (K : Int → St → Prop) : Prop := ∃ (Iv : St → Prop) (mu : St → Nat), Iv  S ∧ ∀ (S : St), Iv  S → wX9_skipBlanks_0'  S K  (fun  T => Iv  T ∧ mu  T < mu  S)
set_option maxRecDepth 100000 in
set_option maxHeartbeats 4000000 in
theorem ubX9_skipBlanks_0 {G : xG} {v : Nat → Nat} {sh : Nat → Option Sh} {B : Nat × Nat} {c0 : List va_E} {d : Nat} {Post : xP} {S : St} {cs : List va_E} {K : Int → St → Prop} (hd : 1 ≤ d) (hT : sb shC sh) (hS : ∀ b x, sh b = some x → ¬ isS b) (hU : sb shXT sh) (hW : Wv G v sh B c0 S cs) (hP : ∀ (x : Int) (S : St) (cs : List va_E), K x S → Wv G v sh B c0 S cs → Post (none) cs)  (hw : wX9_skipBlanks_0  S K ) : Z (RX9, cX9_skipBlanks, 1, none, false) G d Post 0 [(0, .ref (G.1 + v 220))] [] cs := by
  unfold wX9_skipBlanks_0 at hw
  obtain ⟨Iv, mu, h0, hs⟩ := hw
  have key : ∀ (n : Nat) (S : St) (cs : List va_E), mu  S < n → Iv  S → Wv G v sh B c0 S cs → Z (RX9, cX9_skipBlanks, 1, none, false) G d Post 0 [(0, .ref (G.1 + v 220))] [] cs := by
    intro n
    induction n with
    | zero => intro  S cs hn; exact absurd hn (Nat.not_lt_zero _)
    | succ n ih =>
      intro  S cs hn hI hW
      exact ubX9_skipBlanks_0' hd hT hS hU hW hP  (fun  S cs hb hW => ih  S cs (Nat.lt_of_lt_of_le hb.2 (Nat.le_of_lt_succ hn)) hb.1 hW) (hs  S hI)
  exact key _  _ _ (Nat.lt_succ_self _) h0 hW
def wX9_skipBlanks  (S : St) (K : Int → St → Prop) : Prop := wX9_skipBlanks_0 S K
set_option maxRecDepth 100000 in
set_option maxHeartbeats 4000000 in
theorem lX9_skipBlanks {G : xG} {v : Nat → Nat} {sh : Nat → Option Sh} {B : Nat × Nat} {c0 : List va_E}  {S : St} {cs : List va_E} {K : Int → St → Prop} (d : Nat) (hd : 1 ≤ d) (hT : sb shC sh) (hS : ∀ b x, sh b = some x → ¬ isS b) (hU : sb shXT sh) (hW : Wv G v sh B c0 S cs)  (hw : wX9_skipBlanks  S K) : X G yX9_skipBlanks cX9_skipBlanks 1 none d [.ref (G.1 + v 220)] cs (vV G v sh B c0 K) := by
  refine X.of false (by decide +kernel) (by decide) (Nat.le_of_ble_eq_true rfl) ?_
  show Z (RX9, cX9_skipBlanks, 1, none, false) G d _ 0 [(0, .ref (G.1 + v 220))] [] cs
  have hP : ∀ (x : Int) (S : St) (cs : List va_E), K x S → Wv G v sh B c0 S cs → vV G v sh B c0 K (none) cs := fun x S cs a b => ⟨x, S, rfl, a, b⟩
  unfold wX9_skipBlanks at hw
  refine z_loc (L' := [(0, .ref (G.1 + v 220))]) (List.forall_mem_cons.mpr ⟨rfl, (fun _ h => nomatch h)⟩) ?_
  exact ubX9_skipBlanks_0 hd hT hS hU hW hP  hw

def wX9_comes_2'  (l2 : Int) (S : St) (K : Int → St → Prop) (B2 : Int → St → Prop) : Prop := (rng (l2) ∧ ((4 ≤ l2 → K (1) S) ∧ ((¬ (4 ≤ l2)) → (iv (-2147483648) 2147483647 (S.1 220 3) → (rng ((S.1 220 3 + l2)) ∧ (wX5_at 1 ((S.1 220 3 + l2)) S (fun r5 S4 => ((0 : Int) ≤ l2 ∧ l2 < (4 : Int) ∧ (rng (r5) ∧ ((r5 = (sch 20 (l2)) → B2 ((l2 + 1)) S4) ∧ ((¬ (r5 = (sch 20 (l2)))) → K (0) S4)))))))))))
set_option maxRecDepth 100000 in
set_option maxHeartbeats 4000000 in
theorem ubX9_comes_2' {G : xG} {v : Nat → Nat} {sh : Nat → Option Sh} {B : Nat × Nat} {c0 : List va_E} {d : Nat} {Post : xP} {l2 : Int} {S : St} {cs : List va_E} {K : Int → St → Prop} {B2 : Int → St → Prop} (hd : 4 ≤ d) (hT : sb shC sh) (hS : ∀ b x, sh b = some x → ¬ isS b) (hU : sb shXT sh) (hW : Wv G v sh B c0 S cs) (hP : ∀ (x : Int) (S : St) (cs : List va_E), K x S → Wv G v sh B c0 S cs → Post (some (.int (Int32.ofInt x))) cs) (hB2 : ∀ (l2 : Int) (S : St) (cs : List va_E), B2 l2 S → Wv G v sh B c0 S cs → Z (RX9, cX9_comes, 3, some .boolean, false) G d Post 2 [(0, .ref (G.1 + v 220)), (1, .ref (G.2.2.2.1 20)), (2, .int (Int32.ofInt (l2)))] [] cs) (hw : wX9_comes_2' l2 S K B2) : Z (RX9, cX9_comes, 3, some .boolean, false) G d Post 2 [(0, .ref (G.1 + v 220)), (1, .ref (G.2.2.2.1 20)), (2, .int (Int32.ofInt (l2)))] [] cs := by
  unfold wX9_comes_2' at hw
  refine z_iload_n dX9_comes_2 rfl rfl ?_
  refine z_aload_n dX9_comes_3 rfl rfl ?_
  refine z_callVS (As := []) (show 20 < xN by decide) eJ0_length_8abf5 sJ0_length_8abf5 lX9_162 rfl dX9_comes_4 (c_length 1 (Nat.le_refl _) (show 20 < xN by decide)) (Nat.le_trans (by decide) hd) rfl (Nat.le_of_ble_eq_true rfl) (fun r cs1 hp => ?_)
  obtain ⟨rfl, rfl⟩ := hp
  refine z_st (st' := [.int (Int32.ofInt (4)), .int (Int32.ofInt (l2))]) rfl ?_
  obtain ⟨q2, hw⟩ := hw
  refine i_icmp_ge (tgt := 39) dX9_comes_7 (by decide) q2 ⟨by decide, by decide⟩ (fun h1 => ?_) (fun h1 => ?_)
  · have hw := hw.1 h1
    refine z_iconst (v := Int32.ofInt 1) dX9_comes_39 rfl ?_
    exact z_ireturn dX9_comes_40 rfl (nar01 (by decide)) (hP _ _ _ hw hW)
  · have hw := hw.2 h1
    refine z_aload_n dX9_comes_10 rfl rfl ?_
    refine v_getR hW (hU 220 _ rfl) rfl kX9 fX9_24 dX9_comes_11 ?_
    refine z_aload_n dX9_comes_14 rfl rfl ?_
    have q3 : iv (-2147483648) 2147483647 (S.1 220 3) := hW.iI 220 3
    have hw := hw q3
    refine v_getI hW (hU 220 _ rfl) rfl kX9 fX9_9 dX9_comes_15 ?_
    refine z_iload_n dX9_comes_18 rfl rfl ?_
    refine i_iadd dX9_comes_19 ?_
    obtain ⟨q6, hw⟩ := hw
    have hX := lX5_at 0 (Nat.le_refl _) hW (show isS 1 by unfold isS; decide) (fun b x h e => hS b x h (e ▸ (show isS 1 by unfold isS; decide))) q6 hw
    refine z_callV (As := [_]) eX5_at sX5_at lX9_47 rfl dX9_comes_20 (hW.sg (show isS 1 by unfold isS; decide) (fun b x h e => hS b x h (e ▸ (show isS 1 by unfold isS; decide)))).choose_spec.choose_spec.choose_spec.choose_spec.1.choose_spec.1 hX (Nat.le_trans (by decide) hd) rfl (Nat.le_of_ble_eq_true rfl) (fun r cs hp => ?_)
    obtain ⟨r5, S4, rfl, hw, hW⟩ := hp
    refine z_st (st' := [.int (Int32.ofInt (r5))]) rfl ?_
    refine z_aload_n dX9_comes_23 rfl rfl ?_
    refine z_iload_n dX9_comes_24 rfl rfl ?_
    obtain ⟨q7a, q7b, hw⟩ := hw
    refine z_callVS (As := [_]) (show 20 < xN by decide) eJ0_charAt_5068e sJ0_charAt_5068e lX9_165 rfl dX9_comes_25 (c_charAt 3 (Nat.le_refl _) (show 20 < xN by decide) (oI_in (n := 4) q7a q7b (by decide))) (Nat.le_trans (by decide) hd) rfl (Nat.le_of_ble_eq_true rfl) (fun r cs1 hp => ?_)
    obtain ⟨rfl, rfl⟩ := hp
    refine z_st (st' := [.int (Int32.ofInt ((sch 20 (l2)))), .int (Int32.ofInt (r5))]) (by unfold sch; rw [Int32.ofInt_toInt]; rfl) ?_
    obtain ⟨q9, hw⟩ := hw
    refine i_icmp_eq (tgt := 33) dX9_comes_28 (by decide) q9 (rng_of _) (fun h8 => ?_) (fun h8 => ?_)
    · have hw := hw.1 h8
      refine i_iinc (l := l2) dX9_comes_33 rfl (by decide) ?_
      refine z_loc (L' := [(0, .ref (G.1 + v 220)), (1, .ref (G.2.2.2.1 20)), (2, .int (Int32.ofInt ((l2 + 1))))]) (List.forall_mem_cons.mpr ⟨rfl, (List.forall_mem_cons.mpr ⟨rfl, (List.forall_mem_cons.mpr ⟨rfl, (fun _ h => nomatch h)⟩)⟩)⟩) ?_
      refine z_goto (tgt := 2) dX9_comes_36 (by decide) ?_
      refine z_loc (L' := [(0, .ref (G.1 + v 220)), (1, .ref (G.2.2.2.1 20)), (2, .int (Int32.ofInt ((l2 + 1))))]) (List.forall_mem_cons.mpr ⟨rfl, (List.forall_mem_cons.mpr ⟨rfl, (List.forall_mem_cons.mpr ⟨rfl, (fun _ h => nomatch h)⟩)⟩)⟩) ?_
      exact hB2 _ _ _ hw hW
    · have hw := hw.2 h8
      refine z_iconst (v := Int32.ofInt 0) dX9_comes_31 rfl ?_
      exact z_ireturn dX9_comes_32 rfl (nar01 (by decide)) (hP _ _ _ hw hW)
def wX9_comes_2  (l2 : Int) (S : St) (K : Int → St → Prop) : Prop := ∃ (Iv : Int → St → Prop) (mu : Int → St → Nat), Iv l2 S ∧ ∀ (l2 : Int) (S : St), Iv l2 S → wX9_comes_2' l2 S K  (fun ml2 T => Iv ml2 T ∧ mu ml2 T < mu l2 S)
set_option maxRecDepth 100000 in
set_option maxHeartbeats 4000000 in
theorem ubX9_comes_2 {G : xG} {v : Nat → Nat} {sh : Nat → Option Sh} {B : Nat × Nat} {c0 : List va_E} {d : Nat} {Post : xP} {l2 : Int} {S : St} {cs : List va_E} {K : Int → St → Prop} (hd : 4 ≤ d) (hT : sb shC sh) (hS : ∀ b x, sh b = some x → ¬ isS b) (hU : sb shXT sh) (hW : Wv G v sh B c0 S cs) (hP : ∀ (x : Int) (S : St) (cs : List va_E), K x S → Wv G v sh B c0 S cs → Post (some (.int (Int32.ofInt x))) cs)  (hw : wX9_comes_2 l2 S K ) : Z (RX9, cX9_comes, 3, some .boolean, false) G d Post 2 [(0, .ref (G.1 + v 220)), (1, .ref (G.2.2.2.1 20)), (2, .int (Int32.ofInt (l2)))] [] cs := by
  unfold wX9_comes_2 at hw
  obtain ⟨Iv, mu, h0, hs⟩ := hw
  have key : ∀ (n : Nat) (l2 : Int) (S : St) (cs : List va_E), mu l2 S < n → Iv l2 S → Wv G v sh B c0 S cs → Z (RX9, cX9_comes, 3, some .boolean, false) G d Post 2 [(0, .ref (G.1 + v 220)), (1, .ref (G.2.2.2.1 20)), (2, .int (Int32.ofInt (l2)))] [] cs := by
    intro n
    induction n with
    | zero => intro l2 S cs hn; exact absurd hn (Nat.not_lt_zero _)
    | succ n ih =>
      intro l2 S cs hn hI hW
      exact ubX9_comes_2' hd hT hS hU hW hP  (fun l2 S cs hb hW => ih l2 S cs (Nat.lt_of_lt_of_le hb.2 (Nat.le_of_lt_succ hn)) hb.1 hW) (hs l2 S hI)
  exact key _ _ _ _ (Nat.lt_succ_self _) h0 hW
def wX9_comes  (S : St) (K : Int → St → Prop) : Prop := wX9_comes_2 (0) S K
set_option maxRecDepth 100000 in
set_option maxHeartbeats 4000000 in
theorem lX9_comes {G : xG} {v : Nat → Nat} {sh : Nat → Option Sh} {B : Nat × Nat} {c0 : List va_E}  {S : St} {cs : List va_E} {K : Int → St → Prop} (d : Nat) (hd : 4 ≤ d) (hT : sb shC sh) (hS : ∀ b x, sh b = some x → ¬ isS b) (hU : sb shXT sh) (hW : Wv G v sh B c0 S cs)  (hw : wX9_comes  S K) : X G yX9_comes cX9_comes 3 (some .boolean) d [.ref (G.1 + v 220), .ref (G.2.2.2.1 20)] cs (vI G v sh B c0 K) := by
  refine X.of false (by decide +kernel) (by decide) (Nat.le_of_ble_eq_true rfl) ?_
  show Z (RX9, cX9_comes, 3, some .boolean, false) G d _ 0 [(0, .ref (G.1 + v 220)), (1, .ref (G.2.2.2.1 20))] [] cs
  have hP : ∀ (x : Int) (S : St) (cs : List va_E), K x S → Wv G v sh B c0 S cs → vI G v sh B c0 K (some (.int (Int32.ofInt x))) cs := fun x S cs a b => ⟨x, S, rfl, a, b⟩
  unfold wX9_comes at hw
  refine z_iconst (v := Int32.ofInt 0) dX9_comes_0 rfl ?_
  refine z_istore_n dX9_comes_1 rfl (by decide) ?_
  refine z_loc (L' := [(0, .ref (G.1 + v 220)), (1, .ref (G.2.2.2.1 20)), (2, .int (Int32.ofInt (0)))]) (List.forall_mem_cons.mpr ⟨rfl, (List.forall_mem_cons.mpr ⟨rfl, (List.forall_mem_cons.mpr ⟨rfl, (fun _ h => nomatch h)⟩)⟩)⟩) ?_
  refine z_loc (L' := [(0, .ref (G.1 + v 220)), (1, .ref (G.2.2.2.1 20)), (2, .int (Int32.ofInt (0)))]) (List.forall_mem_cons.mpr ⟨rfl, (List.forall_mem_cons.mpr ⟨rfl, (List.forall_mem_cons.mpr ⟨rfl, (fun _ h => nomatch h)⟩)⟩)⟩) ?_
  exact ubX9_comes_2 hd hT hS hU hW hP  hw

def wX9_comes_b_2'  (l2 : Int) (S : St) (K : Int → St → Prop) (B2 : Int → St → Prop) : Prop := (rng (l2) ∧ ((9 ≤ l2 → K (1) S) ∧ ((¬ (9 ≤ l2)) → (iv (-2147483648) 2147483647 (S.1 220 3) → (rng ((S.1 220 3 + l2)) ∧ (wX5_at 1 ((S.1 220 3 + l2)) S (fun r5 S4 => ((0 : Int) ≤ l2 ∧ l2 < (9 : Int) ∧ (rng (r5) ∧ ((r5 = (sch 22 (l2)) → B2 ((l2 + 1)) S4) ∧ ((¬ (r5 = (sch 22 (l2)))) → K (0) S4)))))))))))
set_option maxRecDepth 100000 in
set_option maxHeartbeats 4000000 in
theorem ubX9_comes_b_2' {G : xG} {v : Nat → Nat} {sh : Nat → Option Sh} {B : Nat × Nat} {c0 : List va_E} {d : Nat} {Post : xP} {l2 : Int} {S : St} {cs : List va_E} {K : Int → St → Prop} {B2 : Int → St → Prop} (hd : 4 ≤ d) (hT : sb shC sh) (hS : ∀ b x, sh b = some x → ¬ isS b) (hU : sb shXT sh) (hW : Wv G v sh B c0 S cs) (hP : ∀ (x : Int) (S : St) (cs : List va_E), K x S → Wv G v sh B c0 S cs → Post (some (.int (Int32.ofInt x))) cs) (hB2 : ∀ (l2 : Int) (S : St) (cs : List va_E), B2 l2 S → Wv G v sh B c0 S cs → Z (RX9, cX9_comes, 3, some .boolean, false) G d Post 2 [(0, .ref (G.1 + v 220)), (1, .ref (G.2.2.2.1 22)), (2, .int (Int32.ofInt (l2)))] [] cs) (hw : wX9_comes_b_2' l2 S K B2) : Z (RX9, cX9_comes, 3, some .boolean, false) G d Post 2 [(0, .ref (G.1 + v 220)), (1, .ref (G.2.2.2.1 22)), (2, .int (Int32.ofInt (l2)))] [] cs := by
  unfold wX9_comes_b_2' at hw
  refine z_iload_n dX9_comes_2 rfl rfl ?_
  refine z_aload_n dX9_comes_3 rfl rfl ?_
  refine z_callVS (As := []) (show 22 < xN by decide) eJ0_length_8abf5 sJ0_length_8abf5 lX9_162 rfl dX9_comes_4 (c_length 1 (Nat.le_refl _) (show 22 < xN by decide)) (Nat.le_trans (by decide) hd) rfl (Nat.le_of_ble_eq_true rfl) (fun r cs1 hp => ?_)
  obtain ⟨rfl, rfl⟩ := hp
  refine z_st (st' := [.int (Int32.ofInt (9)), .int (Int32.ofInt (l2))]) rfl ?_
  obtain ⟨q2, hw⟩ := hw
  refine i_icmp_ge (tgt := 39) dX9_comes_7 (by decide) q2 ⟨by decide, by decide⟩ (fun h1 => ?_) (fun h1 => ?_)
  · have hw := hw.1 h1
    refine z_iconst (v := Int32.ofInt 1) dX9_comes_39 rfl ?_
    exact z_ireturn dX9_comes_40 rfl (nar01 (by decide)) (hP _ _ _ hw hW)
  · have hw := hw.2 h1
    refine z_aload_n dX9_comes_10 rfl rfl ?_
    refine v_getR hW (hU 220 _ rfl) rfl kX9 fX9_24 dX9_comes_11 ?_
    refine z_aload_n dX9_comes_14 rfl rfl ?_
    have q3 : iv (-2147483648) 2147483647 (S.1 220 3) := hW.iI 220 3
    have hw := hw q3
    refine v_getI hW (hU 220 _ rfl) rfl kX9 fX9_9 dX9_comes_15 ?_
    refine z_iload_n dX9_comes_18 rfl rfl ?_
    refine i_iadd dX9_comes_19 ?_
    obtain ⟨q6, hw⟩ := hw
    have hX := lX5_at 0 (Nat.le_refl _) hW (show isS 1 by unfold isS; decide) (fun b x h e => hS b x h (e ▸ (show isS 1 by unfold isS; decide))) q6 hw
    refine z_callV (As := [_]) eX5_at sX5_at lX9_47 rfl dX9_comes_20 (hW.sg (show isS 1 by unfold isS; decide) (fun b x h e => hS b x h (e ▸ (show isS 1 by unfold isS; decide)))).choose_spec.choose_spec.choose_spec.choose_spec.1.choose_spec.1 hX (Nat.le_trans (by decide) hd) rfl (Nat.le_of_ble_eq_true rfl) (fun r cs hp => ?_)
    obtain ⟨r5, S4, rfl, hw, hW⟩ := hp
    refine z_st (st' := [.int (Int32.ofInt (r5))]) rfl ?_
    refine z_aload_n dX9_comes_23 rfl rfl ?_
    refine z_iload_n dX9_comes_24 rfl rfl ?_
    obtain ⟨q7a, q7b, hw⟩ := hw
    refine z_callVS (As := [_]) (show 22 < xN by decide) eJ0_charAt_5068e sJ0_charAt_5068e lX9_165 rfl dX9_comes_25 (c_charAt 3 (Nat.le_refl _) (show 22 < xN by decide) (oI_in (n := 9) q7a q7b (by decide))) (Nat.le_trans (by decide) hd) rfl (Nat.le_of_ble_eq_true rfl) (fun r cs1 hp => ?_)
    obtain ⟨rfl, rfl⟩ := hp
    refine z_st (st' := [.int (Int32.ofInt ((sch 22 (l2)))), .int (Int32.ofInt (r5))]) (by unfold sch; rw [Int32.ofInt_toInt]; rfl) ?_
    obtain ⟨q9, hw⟩ := hw
    refine i_icmp_eq (tgt := 33) dX9_comes_28 (by decide) q9 (rng_of _) (fun h8 => ?_) (fun h8 => ?_)
    · have hw := hw.1 h8
      refine i_iinc (l := l2) dX9_comes_33 rfl (by decide) ?_
      refine z_loc (L' := [(0, .ref (G.1 + v 220)), (1, .ref (G.2.2.2.1 22)), (2, .int (Int32.ofInt ((l2 + 1))))]) (List.forall_mem_cons.mpr ⟨rfl, (List.forall_mem_cons.mpr ⟨rfl, (List.forall_mem_cons.mpr ⟨rfl, (fun _ h => nomatch h)⟩)⟩)⟩) ?_
      refine z_goto (tgt := 2) dX9_comes_36 (by decide) ?_
      refine z_loc (L' := [(0, .ref (G.1 + v 220)), (1, .ref (G.2.2.2.1 22)), (2, .int (Int32.ofInt ((l2 + 1))))]) (List.forall_mem_cons.mpr ⟨rfl, (List.forall_mem_cons.mpr ⟨rfl, (List.forall_mem_cons.mpr ⟨rfl, (fun _ h => nomatch h)⟩)⟩)⟩) ?_
      exact hB2 _ _ _ hw hW
    · have hw := hw.2 h8
      refine z_iconst (v := Int32.ofInt 0) dX9_comes_31 rfl ?_
      exact z_ireturn dX9_comes_32 rfl (nar01 (by decide)) (hP _ _ _ hw hW)
def wX9_comes_b_2  (l2 : Int) (S : St) (K : Int → St → Prop) : Prop := ∃ (Iv : Int → St → Prop) (mu : Int → St → Nat), Iv l2 S ∧ ∀ (l2 : Int) (S : St), Iv l2 S → wX9_comes_b_2' l2 S K  (fun ml2 T => Iv ml2 T ∧ mu ml2 T < mu l2 S)
set_option maxRecDepth 100000 in
set_option maxHeartbeats 4000000 in
theorem ubX9_comes_b_2 {G : xG} {v : Nat → Nat} {sh : Nat → Option Sh} {B : Nat × Nat} {c0 : List va_E} {d : Nat} {Post : xP} {l2 : Int} {S : St} {cs : List va_E} {K : Int → St → Prop} (hd : 4 ≤ d) (hT : sb shC sh) (hS : ∀ b x, sh b = some x → ¬ isS b) (hU : sb shXT sh) (hW : Wv G v sh B c0 S cs) (hP : ∀ (x : Int) (S : St) (cs : List va_E), K x S → Wv G v sh B c0 S cs → Post (some (.int (Int32.ofInt x))) cs)  (hw : wX9_comes_b_2 l2 S K ) : Z (RX9, cX9_comes, 3, some .boolean, false) G d Post 2 [(0, .ref (G.1 + v 220)), (1, .ref (G.2.2.2.1 22)), (2, .int (Int32.ofInt (l2)))] [] cs := by
  unfold wX9_comes_b_2 at hw
  obtain ⟨Iv, mu, h0, hs⟩ := hw
  have key : ∀ (n : Nat) (l2 : Int) (S : St) (cs : List va_E), mu l2 S < n → Iv l2 S → Wv G v sh B c0 S cs → Z (RX9, cX9_comes, 3, some .boolean, false) G d Post 2 [(0, .ref (G.1 + v 220)), (1, .ref (G.2.2.2.1 22)), (2, .int (Int32.ofInt (l2)))] [] cs := by
    intro n
    induction n with
    | zero => intro l2 S cs hn; exact absurd hn (Nat.not_lt_zero _)
    | succ n ih =>
      intro l2 S cs hn hI hW
      exact ubX9_comes_b_2' hd hT hS hU hW hP  (fun l2 S cs hb hW => ih l2 S cs (Nat.lt_of_lt_of_le hb.2 (Nat.le_of_lt_succ hn)) hb.1 hW) (hs l2 S hI)
  exact key _ _ _ _ (Nat.lt_succ_self _) h0 hW
def wX9_comes_b  (S : St) (K : Int → St → Prop) : Prop := wX9_comes_b_2 (0) S K
set_option maxRecDepth 100000 in
set_option maxHeartbeats 4000000 in
theorem lX9_comes_b {G : xG} {v : Nat → Nat} {sh : Nat → Option Sh} {B : Nat × Nat} {c0 : List va_E}  {S : St} {cs : List va_E} {K : Int → St → Prop} (d : Nat) (hd : 4 ≤ d) (hT : sb shC sh) (hS : ∀ b x, sh b = some x → ¬ isS b) (hU : sb shXT sh) (hW : Wv G v sh B c0 S cs)  (hw : wX9_comes_b  S K) : X G yX9_comes cX9_comes 3 (some .boolean) d [.ref (G.1 + v 220), .ref (G.2.2.2.1 22)] cs (vI G v sh B c0 K) := by
  refine X.of false (by decide +kernel) (by decide) (Nat.le_of_ble_eq_true rfl) ?_
  show Z (RX9, cX9_comes, 3, some .boolean, false) G d _ 0 [(0, .ref (G.1 + v 220)), (1, .ref (G.2.2.2.1 22))] [] cs
  have hP : ∀ (x : Int) (S : St) (cs : List va_E), K x S → Wv G v sh B c0 S cs → vI G v sh B c0 K (some (.int (Int32.ofInt x))) cs := fun x S cs a b => ⟨x, S, rfl, a, b⟩
  unfold wX9_comes_b at hw
  refine z_iconst (v := Int32.ofInt 0) dX9_comes_0 rfl ?_
  refine z_istore_n dX9_comes_1 rfl (by decide) ?_
  refine z_loc (L' := [(0, .ref (G.1 + v 220)), (1, .ref (G.2.2.2.1 22)), (2, .int (Int32.ofInt (0)))]) (List.forall_mem_cons.mpr ⟨rfl, (List.forall_mem_cons.mpr ⟨rfl, (List.forall_mem_cons.mpr ⟨rfl, (fun _ h => nomatch h)⟩)⟩)⟩) ?_
  refine z_loc (L' := [(0, .ref (G.1 + v 220)), (1, .ref (G.2.2.2.1 22)), (2, .int (Int32.ofInt (0)))]) (List.forall_mem_cons.mpr ⟨rfl, (List.forall_mem_cons.mpr ⟨rfl, (List.forall_mem_cons.mpr ⟨rfl, (fun _ h => nomatch h)⟩)⟩)⟩) ?_
  exact ubX9_comes_b_2 hd hT hS hU hW hP  hw

def wX6_size  (S : St) (K : Int → St → Prop) : Prop := (iv 0 200 (S.1 3 16) → K (S.1 3 16) S)
set_option maxRecDepth 100000 in
set_option maxHeartbeats 4000000 in
theorem lX6_size {G : xG} {v : Nat → Nat} {sh : Nat → Option Sh} {B : Nat × Nat} {c0 : List va_E}  {S : St} {cs : List va_E} {K : Int → St → Prop} (d : Nat) (hd : 0 ≤ d) (hT : sb shC sh) (hS : ∀ b x, sh b = some x → ¬ isS b) (hU : sb shTr sh) (hW : Wv G v sh B c0 S cs)  (hw : wX6_size  S K) : X G yX6_size cX6_size 1 (some .int) d [.ref (G.1 + v 3)] cs (vI G v sh B c0 K) := by
  refine X.of false (by decide +kernel) (by decide) (Nat.le_of_ble_eq_true rfl) ?_
  show Z (RX6, cX6_size, 1, some .int, false) G d _ 0 [(0, .ref (G.1 + v 3))] [] cs
  have hP : ∀ (x : Int) (S : St) (cs : List va_E), K x S → Wv G v sh B c0 S cs → vI G v sh B c0 K (some (.int (Int32.ofInt x))) cs := fun x S cs a b => ⟨x, S, rfl, a, b⟩
  unfold wX6_size at hw
  refine z_aload_n dX6_size_0 rfl rfl ?_
  have q1 : iv 0 200 (S.1 3 16) := hW.iI 3 16
  have hw := hw q1
  refine v_getI hW (hU 3 _ rfl) rfl kX6 fX6_65 dX6_size_1 ?_
  exact z_ireturn dX6_size_4 rfl rfl (hP _ _ _ hw hW)

def wX6_has  (a1 : Int) (S : St) (K : Int → St → Prop) : Prop := rng a1 → ((a1 < 0 → K (0) S) ∧ ((¬ (a1 < 0)) → (iv 0 200 (S.1 3 16) → ((S.1 3 16 ≤ a1 → K (0) S) ∧ ((¬ (S.1 3 16 ≤ a1)) → K (1) S)))))
set_option maxRecDepth 100000 in
set_option maxHeartbeats 4000000 in
theorem lX6_has {G : xG} {v : Nat → Nat} {sh : Nat → Option Sh} {B : Nat × Nat} {c0 : List va_E}  {a1 : Int} {S : St} {cs : List va_E} {K : Int → St → Prop} (d : Nat) (hd : 0 ≤ d) (hT : sb shC sh) (hS : ∀ b x, sh b = some x → ¬ isS b) (hU : sb shTr sh) (hW : Wv G v sh B c0 S cs) (g1 : rng a1) (hw : wX6_has a1 S K) : X G yX6_has cX6_has 2 (some .boolean) d [.ref (G.1 + v 3), .int (Int32.ofInt a1)] cs (vI G v sh B c0 K) := by
  refine X.of false (by decide +kernel) (by decide) (Nat.le_of_ble_eq_true rfl) ?_
  show Z (RX6, cX6_has, 2, some .boolean, false) G d _ 0 [(0, .ref (G.1 + v 3)), (1, .int (Int32.ofInt a1))] [] cs
  have hP : ∀ (x : Int) (S : St) (cs : List va_E), K x S → Wv G v sh B c0 S cs → vI G v sh B c0 K (some (.int (Int32.ofInt x))) cs := fun x S cs a b => ⟨x, S, rfl, a, b⟩
  unfold wX6_has at hw
  have hw := hw g1
  refine z_iload_n dX6_has_0 rfl rfl ?_
  refine i_if_lt (tgt := 16) dX6_has_1 (by decide) g1 (fun h1 => ?_) (fun h1 => ?_)
  · have hw := hw.1 h1
    refine z_iconst (v := Int32.ofInt 0) dX6_has_16 rfl ?_
    exact z_ireturn dX6_has_17 rfl (nar01 (by decide)) (hP _ _ _ hw hW)
  · have hw := hw.2 h1
    refine z_iload_n dX6_has_4 rfl rfl ?_
    refine z_aload_n dX6_has_5 rfl rfl ?_
    have q2 : iv 0 200 (S.1 3 16) := hW.iI 3 16
    have hw := hw q2
    refine v_getI hW (hU 3 _ rfl) rfl kX6 fX6_65 dX6_has_6 ?_
    refine i_icmp_ge (tgt := 16) dX6_has_9 (by decide) g1 (rngq q2 (by decide) (by decide)) (fun h3 => ?_) (fun h3 => ?_)
    · have hw := hw.1 h3
      refine z_iconst (v := Int32.ofInt 0) dX6_has_16 rfl ?_
      exact z_ireturn dX6_has_17 rfl (nar01 (by decide)) (hP _ _ _ hw hW)
    · have hw := hw.2 h3
      refine z_iconst (v := Int32.ofInt 1) dX6_has_12 rfl ?_
      refine z_goto (tgt := 17) dX6_has_13 (by decide) ?_
      exact z_ireturn dX6_has_17 rfl (nar01 (by decide)) (hP _ _ _ hw hW)

def wX6_beginText  (a1 : Int) (S : St) (K : Int → St → Prop) : Prop := rng a1 → (wX6_has (a1) S (fun r2 S1 => (rng (r2) ∧ ((r2 = 0 → K 0 S1) ∧ ((¬ (r2 = 0)) → (wX5_length 4 S1 (fun r6 S5 => ((0 : Int) ≤ a1 ∧ a1 < (200 : Int) ∧ (iv (-2147483648) 2147483647 (r6) ∧ (∀ S8, S8 = pA S5 13 (a1) (r6) → (wX5_length 4 S8 (fun r11 S10 => ((0 : Int) ≤ a1 ∧ a1 < (200 : Int) ∧ (iv (-2147483648) 2147483647 (r11) ∧ (∀ S13, S13 = pA S10 14 (a1) (r11) → K 0 S13)))))))))))))))
set_option maxRecDepth 100000 in
set_option maxHeartbeats 4000000 in
theorem lX6_beginText {G : xG} {v : Nat → Nat} {sh : Nat → Option Sh} {B : Nat × Nat} {c0 : List va_E}  {a1 : Int} {S : St} {cs : List va_E} {K : Int → St → Prop} (d : Nat) (hd : 1 ≤ d) (hT : sb shC sh) (hS : ∀ b x, sh b = some x → ¬ isS b) (hU : sb shTr sh) (hW : Wv G v sh B c0 S cs) (g1 : rng a1) (hw : wX6_beginText a1 S K) : X G yX6_beginText cX6_beginText 2 none d [.ref (G.1 + v 3), .int (Int32.ofInt a1)] cs (vV G v sh B c0 K) := by
  refine X.of false (by decide +kernel) (by decide) (Nat.le_of_ble_eq_true rfl) ?_
  show Z (RX6, cX6_beginText, 2, none, false) G d _ 0 [(0, .ref (G.1 + v 3)), (1, .int (Int32.ofInt a1))] [] cs
  have hP : ∀ (x : Int) (S : St) (cs : List va_E), K x S → Wv G v sh B c0 S cs → vV G v sh B c0 K (none) cs := fun x S cs a b => ⟨x, S, rfl, a, b⟩
  unfold wX6_beginText at hw
  have hw := hw g1
  refine z_aload_n dX6_beginText_0 rfl rfl ?_
  refine z_iload_n dX6_beginText_1 rfl rfl ?_
  have hX := lX6_has 0 (Nat.le_refl _) hT hS hU hW g1 hw
  refine z_callV (As := [_]) eX6_has sX6_has lX6_75 rfl dX6_beginText_2 (hW.at (hU 3 _ rfl)) hX (Nat.le_trans (by decide) hd) rfl (Nat.le_of_ble_eq_true rfl) (fun r cs hp => ?_)
  obtain ⟨r2, S1, rfl, hw, hW⟩ := hp
  refine z_st (st' := [.int (Int32.ofInt (r2))]) rfl ?_
  obtain ⟨q4, hw⟩ := hw
  refine i_if_eq (tgt := 34) dX6_beginText_5 (by decide) q4 (fun h3 => ?_) (fun h3 => ?_)
  · have hw := hw.1 h3
    exact z_return dX6_beginText_34 rfl (hP 0 _ _ hw hW)
  · have hw := hw.2 h3
    refine z_aload_n dX6_beginText_8 rfl rfl ?_
    refine v_getR hW (hU 3 _ rfl) rfl kX6 fX6_43 dX6_beginText_9 ?_
    refine z_iload_n dX6_beginText_12 rfl rfl ?_
    refine z_aload_n dX6_beginText_13 rfl rfl ?_
    refine v_getR hW (hU 3 _ rfl) rfl kX6 fX6_12 dX6_beginText_14 ?_
    have hX := lX5_length 0 (Nat.le_refl _) hW (show isS 4 by unfold isS; decide) (fun b x h e => hS b x h (e ▸ (show isS 4 by unfold isS; decide)))  hw
    refine z_callV (As := []) eX5_length sX5_length lX6_79 rfl dX6_beginText_17 (hW.sg (show isS 4 by unfold isS; decide) (fun b x h e => hS b x h (e ▸ (show isS 4 by unfold isS; decide)))).choose_spec.choose_spec.choose_spec.choose_spec.1.choose_spec.1 hX (Nat.le_trans (by decide) hd) rfl (Nat.le_of_ble_eq_true rfl) (fun r cs hp => ?_)
    obtain ⟨r6, S5, rfl, hw, hW⟩ := hp
    refine z_st (st' := [.int (Int32.ofInt (r6)), .int (Int32.ofInt (a1)), .ref (G.1 + v 13)]) rfl ?_
    obtain ⟨q7a, q7b, hw⟩ := hw
    obtain ⟨q9, hw⟩ := hw
    refine v_iast hW (hT 13 _ rfl) (by decide) (by unfold isS; decide) q7a q7b (by decide) q9 dX6_beginText_20 (fun cs hW => ?_)
    obtain ⟨S8, hS8⟩ : ∃ x, x = pA S5 13 (a1) (r6) := ⟨_, rfl⟩
    rw [← hS8] at hW
    have hw := hw S8 hS8
    refine z_aload_n dX6_beginText_21 rfl rfl ?_
    refine v_getR hW (hU 3 _ rfl) rfl kX6 fX6_46 dX6_beginText_22 ?_
    refine z_iload_n dX6_beginText_25 rfl rfl ?_
    refine z_aload_n dX6_beginText_26 rfl rfl ?_
    refine v_getR hW (hU 3 _ rfl) rfl kX6 fX6_12 dX6_beginText_27 ?_
    have hX := lX5_length 0 (Nat.le_refl _) hW (show isS 4 by unfold isS; decide) (fun b x h e => hS b x h (e ▸ (show isS 4 by unfold isS; decide)))  hw
    refine z_callV (As := []) eX5_length sX5_length lX6_79 rfl dX6_beginText_30 (hW.sg (show isS 4 by unfold isS; decide) (fun b x h e => hS b x h (e ▸ (show isS 4 by unfold isS; decide)))).choose_spec.choose_spec.choose_spec.choose_spec.1.choose_spec.1 hX (Nat.le_trans (by decide) hd) rfl (Nat.le_of_ble_eq_true rfl) (fun r cs hp => ?_)
    obtain ⟨r11, S10, rfl, hw, hW⟩ := hp
    refine z_st (st' := [.int (Int32.ofInt (r11)), .int (Int32.ofInt (a1)), .ref (G.1 + v 14)]) rfl ?_
    obtain ⟨q12a, q12b, hw⟩ := hw
    obtain ⟨q14, hw⟩ := hw
    refine v_iast hW (hT 14 _ rfl) (by decide) (by unfold isS; decide) q12a q12b (by decide) q14 dX6_beginText_33 (fun cs hW => ?_)
    obtain ⟨S13, hS13⟩ : ∃ x, x = pA S10 14 (a1) (r11) := ⟨_, rfl⟩
    rw [← hS13] at hW
    have hw := hw S13 hS13
    exact z_return dX6_beginText_34 rfl (hP 0 _ _ hw hW)

def wX9_isNameBegin  (a1 : Int) (S : St) (K : Int → St → Prop) : Prop := rng a1 → (wX10_isLetter (a1) S (fun r2 S1 => (rng (r2) ∧ ((¬ r2 = 0 → K (1) S1) ∧ ((¬ (¬ r2 = 0)) → ((¬ a1 = 95 → K (0) S1) ∧ ((¬ (¬ a1 = 95)) → K (1) S1)))))))
set_option maxRecDepth 100000 in
set_option maxHeartbeats 4000000 in
theorem lX9_isNameBegin {G : xG} {v : Nat → Nat} {sh : Nat → Option Sh} {B : Nat × Nat} {c0 : List va_E}  {a1 : Int} {S : St} {cs : List va_E} {K : Int → St → Prop} (d : Nat) (hd : 1 ≤ d) (hT : sb shC sh) (hS : ∀ b x, sh b = some x → ¬ isS b) (hW : Wv G v sh B c0 S cs) (g1 : rng a1) (hw : wX9_isNameBegin a1 S K) : X G yX9_isNameBegin cX9_isNameBegin 1 (some .boolean) d [.int (Int32.ofInt a1)] cs (vI G v sh B c0 K) := by
  refine X.of false (by decide +kernel) (by decide) (Nat.le_of_ble_eq_true rfl) ?_
  show Z (RX9, cX9_isNameBegin, 1, some .boolean, false) G d _ 0 [(0, .int (Int32.ofInt a1))] [] cs
  have hP : ∀ (x : Int) (S : St) (cs : List va_E), K x S → Wv G v sh B c0 S cs → vI G v sh B c0 K (some (.int (Int32.ofInt x))) cs := fun x S cs a b => ⟨x, S, rfl, a, b⟩
  unfold wX9_isNameBegin at hw
  have hw := hw g1
  refine z_iload_n dX9_isNameBegin_0 rfl rfl ?_
  have hX := lX10_isLetter 0 (Nat.le_refl _) hT hS hW g1 hw
  refine z_callSN (As := [_]) eX10_isLetter sX10_isLetter lX9_175 dX9_isNameBegin_1 hX (Nat.le_trans (by decide) hd) rfl (Nat.le_of_ble_eq_true rfl) (fun r cs hp => ?_)
  obtain ⟨r2, S1, rfl, hw, hW⟩ := hp
  refine z_st (st' := [.int (Int32.ofInt (r2))]) rfl ?_
  obtain ⟨q4, hw⟩ := hw
  refine i_if_ne (tgt := 13) dX9_isNameBegin_4 (by decide) q4 (fun h3 => ?_) (fun h3 => ?_)
  · have hw := hw.1 h3
    refine z_iconst (v := Int32.ofInt 1) dX9_isNameBegin_13 rfl ?_
    refine z_goto (tgt := 18) dX9_isNameBegin_14 (by decide) ?_
    exact z_ireturn dX9_isNameBegin_18 rfl (nar01 (by decide)) (hP _ _ _ hw hW)
  · have hw := hw.2 h3
    refine z_iload_n dX9_isNameBegin_7 rfl rfl ?_
    refine z_bipush (v := Int32.ofInt 95) dX9_isNameBegin_8 (by decide) ?_
    refine i_icmp_ne (tgt := 17) dX9_isNameBegin_10 (by decide) g1 ⟨by decide, by decide⟩ (fun h5 => ?_) (fun h5 => ?_)
    · have hw := hw.1 h5
      refine z_iconst (v := Int32.ofInt 0) dX9_isNameBegin_17 rfl ?_
      exact z_ireturn dX9_isNameBegin_18 rfl (nar01 (by decide)) (hP _ _ _ hw hW)
    · have hw := hw.2 h5
      refine z_iconst (v := Int32.ofInt 1) dX9_isNameBegin_13 rfl ?_
      refine z_goto (tgt := 18) dX9_isNameBegin_14 (by decide) ?_
      exact z_ireturn dX9_isNameBegin_18 rfl (nar01 (by decide)) (hP _ _ _ hw hW)

