def wX4_obeysNameRules_24'  (l1 l2 : Int) (S : St) (K : Int → St → Prop) (B2 : Int → St → Prop) (B24 : Int → Int → St → Prop) : Prop := ((0 : Int) ≤ l1 ∧ l1 < (6 : Int) ∧ (iv 0 4 (S.2 38 (l1)) → (rng (l2) ∧ ((S.2 38 (l1) ≤ l2 → B2 ((l1 + 1)) S) ∧ ((¬ (S.2 38 (l1) ≤ l2)) → (rng (l1) ∧ (wX4_isFieldNameFree (l1) (l2) S (fun r6 S5 => (rng (r6) ∧ ((¬ r6 = 0 → B24 (l1) ((l2 + 1)) S5) ∧ ((¬ (¬ r6 = 0)) → K (0) S5)))))))))))
set_option maxRecDepth 100000 in
set_option maxHeartbeats 4000000 in
theorem ubX4_obeysNameRules_24' {G : xG} {v : Nat → Nat} {sh : Nat → Option Sh} {B : Nat × Nat} {c0 : List va_E} {d : Nat} {Post : xP} {l1 l2 : Int} {S : St} {cs : List va_E} {K : Int → St → Prop} {B2 : Int → St → Prop} {B24 : Int → Int → St → Prop} (hd : 6 ≤ d) (hT : sb shC sh) (hS : ∀ b x, sh b = some x → ¬ isS b) (hW : Wv G v sh B c0 S cs) (hP : ∀ (x : Int) (S : St) (cs : List va_E), K x S → Wv G v sh B c0 S cs → Post (some (.int (Int32.ofInt x))) cs) (hB2 : ∀ (l1 : Int) (S : St) (cs : List va_E), B2 l1 S → Wv G v sh B c0 S cs → Z (RX4, cX4_obeysNameRules, 3, some .boolean, false) G d Post 2 [(0, .ref (G.1 + v 33)), (1, .int (Int32.ofInt (l1)))] [] cs) (hB24 : ∀ (l1 : Int) (l2 : Int) (S : St) (cs : List va_E), B24 l1 l2 S → Wv G v sh B c0 S cs → Z (RX4, cX4_obeysNameRules, 3, some .boolean, false) G d Post 24 [(0, .ref (G.1 + v 33)), (1, .int (Int32.ofInt (l1))), (2, .int (Int32.ofInt (l2)))] [] cs) (hw : wX4_obeysNameRules_24' l1 l2 S K B2 B24) : Z (RX4, cX4_obeysNameRules, 3, some .boolean, false) G d Post 24 [(0, .ref (G.1 + v 33)), (1, .int (Int32.ofInt (l1))), (2, .int (Int32.ofInt (l2)))] [] cs := by
  unfold wX4_obeysNameRules_24' at hw
  refine z_iload_n dX4_obeysNameRules_24 rfl rfl ?_
  refine z_aload_n dX4_obeysNameRules_25 rfl rfl ?_
  refine v_getR hW (hT 33 _ rfl) rfl kX4 fX4_26 dX4_obeysNameRules_26 ?_
  refine z_iload_n dX4_obeysNameRules_29 rfl rfl ?_
  obtain ⟨q1a, q1b, hw⟩ := hw
  have q2 : iv 0 4 (S.2 38 (l1)) := hW.iA 38 _
  have hw := hw q2
  refine v_iald hW (hT 38 _ rfl) q1a q1b (by decide) dX4_obeysNameRules_30 ?_
  obtain ⟨q4, hw⟩ := hw
  refine i_icmp_ge (tgt := 51) dX4_obeysNameRules_31 (by decide) q4 (rngq q2 (by decide) (by decide)) (fun h3 => ?_) (fun h3 => ?_)
  · have hw := hw.1 h3
    refine i_iinc (l := l1) dX4_obeysNameRules_51 rfl (by decide) ?_
    refine z_loc (L' := [(0, .ref (G.1 + v 33)), (1, .int (Int32.ofInt ((l1 + 1)))), (2, .int (Int32.ofInt (l2)))]) (List.forall_mem_cons.mpr ⟨rfl, (List.forall_mem_cons.mpr ⟨rfl, (List.forall_mem_cons.mpr ⟨rfl, (fun _ h => nomatch h)⟩)⟩)⟩) ?_
    refine z_goto (tgt := 2) dX4_obeysNameRules_54 (by decide) ?_
    refine z_loc (L' := [(0, .ref (G.1 + v 33)), (1, .int (Int32.ofInt ((l1 + 1))))]) (List.forall_mem_cons.mpr ⟨rfl, (List.forall_mem_cons.mpr ⟨rfl, (fun _ h => nomatch h)⟩)⟩) ?_
    exact hB2 _ _ _ hw hW
  · have hw := hw.2 h3
    refine z_aload_n dX4_obeysNameRules_34 rfl rfl ?_
    refine z_iload_n dX4_obeysNameRules_35 rfl rfl ?_
    refine z_iload_n dX4_obeysNameRules_36 rfl rfl ?_
    obtain ⟨q7, hw⟩ := hw
    have hX := lX4_isFieldNameFree 5 (Nat.le_refl _) hT hS hW q7 q4 hw
    refine z_callV (As := [_, _]) eX4_isFieldNameFree sX4_isFieldNameFree lX4_87 rfl dX4_obeysNameRules_37 (hW.at (hT 33 _ rfl)) hX (Nat.le_trans (by decide) hd) rfl (Nat.le_of_ble_eq_true rfl) (fun r cs hp => ?_)
    obtain ⟨r6, S5, rfl, hw, hW⟩ := hp
    refine z_st (st' := [.int (Int32.ofInt (r6))]) rfl ?_
    obtain ⟨q9, hw⟩ := hw
    refine i_if_ne (tgt := 45) dX4_obeysNameRules_40 (by decide) q9 (fun h8 => ?_) (fun h8 => ?_)
    · have hw := hw.1 h8
      refine i_iinc (l := l2) dX4_obeysNameRules_45 rfl (by decide) ?_
      refine z_loc (L' := [(0, .ref (G.1 + v 33)), (1, .int (Int32.ofInt (l1))), (2, .int (Int32.ofInt ((l2 + 1))))]) (List.forall_mem_cons.mpr ⟨rfl, (List.forall_mem_cons.mpr ⟨rfl, (List.forall_mem_cons.mpr ⟨rfl, (fun _ h => nomatch h)⟩)⟩)⟩) ?_
      refine z_goto (tgt := 24) dX4_obeysNameRules_48 (by decide) ?_
      refine z_loc (L' := [(0, .ref (G.1 + v 33)), (1, .int (Int32.ofInt (l1))), (2, .int (Int32.ofInt ((l2 + 1))))]) (List.forall_mem_cons.mpr ⟨rfl, (List.forall_mem_cons.mpr ⟨rfl, (List.forall_mem_cons.mpr ⟨rfl, (fun _ h => nomatch h)⟩)⟩)⟩) ?_
      exact hB24 _ _ _ _ hw hW
    · have hw := hw.2 h8
      refine z_iconst (v := Int32.ofInt 0) dX4_obeysNameRules_43 rfl ?_
      exact z_ireturn dX4_obeysNameRules_44 rfl (nar01 (by decide)) (hP _ _ _ hw hW)
def wX4_obeysNameRules_24  (l1 l2 : Int) (S : St) (K : Int → St → Prop) (B2 : Int → St → Prop) : Prop := ∃ (Iv : Int → Int → St → Prop) (mu : Int → Int → St → Nat), Iv l1 l2 S ∧ ∀ (l1 l2 : Int) (S : St), Iv l1 l2 S → wX4_obeysNameRules_24' l1 l2 S K B2 (fun ml1 ml2 T => Iv ml1 ml2 T ∧ mu ml1 ml2 T < mu l1 l2 S)
set_option maxRecDepth 100000 in
set_option maxHeartbeats 4000000 in
theorem ubX4_obeysNameRules_24 {G : xG} {v : Nat → Nat} {sh : Nat → Option Sh} {B : Nat × Nat} {c0 : List va_E} {d : Nat} {Post : xP} {l1 l2 : Int} {S : St} {cs : List va_E} {K : Int → St → Prop} {B2 : Int → St → Prop} (hd : 6 ≤ d) (hT : sb shC sh) (hS : ∀ b x, sh b = some x → ¬ isS b) (hW : Wv G v sh B c0 S cs) (hP : ∀ (x : Int) (S : St) (cs : List va_E), K x S → Wv G v sh B c0 S cs → Post (some (.int (Int32.ofInt x))) cs) (hB2 : ∀ (l1 : Int) (S : St) (cs : List va_E), B2 l1 S → Wv G v sh B c0 S cs → Z (RX4, cX4_obeysNameRules, 3, some .boolean, false) G d Post 2 [(0, .ref (G.1 + v 33)), (1, .int (Int32.ofInt (l1)))] [] cs) (hw : wX4_obeysNameRules_24 l1 l2 S K B2) : Z (RX4, cX4_obeysNameRules, 3, some .boolean, false) G d Post 24 [(0, .ref (G.1 + v 33)), (1, .int (Int32.ofInt (l1))), (2, .int (Int32.ofInt (l2)))] [] cs := by
  unfold wX4_obeysNameRules_24 at hw
  obtain ⟨Iv, mu, h0, hs⟩ := hw
  have key : ∀ (n : Nat) (l1 l2 : Int) (S : St) (cs : List va_E), mu l1 l2 S < n → Iv l1 l2 S → Wv G v sh B c0 S cs → Z (RX4, cX4_obeysNameRules, 3, some .boolean, false) G d Post 24 [(0, .ref (G.1 + v 33)), (1, .int (Int32.ofInt (l1))), (2, .int (Int32.ofInt (l2)))] [] cs := by
    intro n
    induction n with
    | zero => intro l1 l2 S cs hn; exact absurd hn (Nat.not_lt_zero _)
    | succ n ih =>
      intro l1 l2 S cs hn hI hW
      exact ubX4_obeysNameRules_24' hd hT hS hW hP hB2 (fun l1 l2 S cs hb hW => ih l1 l2 S cs (Nat.lt_of_lt_of_le hb.2 (Nat.le_of_lt_succ hn)) hb.1 hW) (hs l1 l2 S hI)
  exact key _ _ _ _ _ (Nat.lt_succ_self _) h0 hW
def wX4_obeysNameRules_2'  (l1 : Int) (S : St) (K : Int → St → Prop) (B2 : Int → St → Prop) : Prop := (iv 0 6 (S.1 33 8) → (rng (l1) ∧ ((S.1 33 8 ≤ l1 → K (1) S) ∧ ((¬ (S.1 33 8 ≤ l1)) → (wX4_hasTwin (l1) (0) (l1) S (fun r5 S4 => (rng (r5) ∧ ((r5 = 0 → wX4_obeysNameRules_24 (l1) (0) S4 K B2) ∧ ((¬ (r5 = 0)) → K (0) S4)))))))))
set_option maxRecDepth 100000 in
set_option maxHeartbeats 4000000 in
theorem ubX4_obeysNameRules_2' {G : xG} {v : Nat → Nat} {sh : Nat → Option Sh} {B : Nat × Nat} {c0 : List va_E} {d : Nat} {Post : xP} {l1 : Int} {S : St} {cs : List va_E} {K : Int → St → Prop} {B2 : Int → St → Prop} (hd : 6 ≤ d) (hT : sb shC sh) (hS : ∀ b x, sh b = some x → ¬ isS b) (hW : Wv G v sh B c0 S cs) (hP : ∀ (x : Int) (S : St) (cs : List va_E), K x S → Wv G v sh B c0 S cs → Post (some (.int (Int32.ofInt x))) cs) (hB2 : ∀ (l1 : Int) (S : St) (cs : List va_E), B2 l1 S → Wv G v sh B c0 S cs → Z (RX4, cX4_obeysNameRules, 3, some .boolean, false) G d Post 2 [(0, .ref (G.1 + v 33)), (1, .int (Int32.ofInt (l1)))] [] cs) (hw : wX4_obeysNameRules_2' l1 S K B2) : Z (RX4, cX4_obeysNameRules, 3, some .boolean, false) G d Post 2 [(0, .ref (G.1 + v 33)), (1, .int (Int32.ofInt (l1)))] [] cs := by
  unfold wX4_obeysNameRules_2' at hw
  refine z_iload_n dX4_obeysNameRules_2 rfl rfl ?_
  refine z_aload_n dX4_obeysNameRules_3 rfl rfl ?_
  have q1 : iv 0 6 (S.1 33 8) := hW.iI 33 8
  have hw := hw q1
  refine v_getI hW (hT 33 _ rfl) rfl kX4 fX4_38 dX4_obeysNameRules_4 ?_
  obtain ⟨q3, hw⟩ := hw
  refine i_icmp_ge (tgt := 57) dX4_obeysNameRules_7 (by decide) q3 (rngq q1 (by decide) (by decide)) (fun h2 => ?_) (fun h2 => ?_)
  · have hw := hw.1 h2
    refine z_iconst (v := Int32.ofInt 1) dX4_obeysNameRules_57 rfl ?_
    exact z_ireturn dX4_obeysNameRules_58 rfl (nar01 (by decide)) (hP _ _ _ hw hW)
  · have hw := hw.2 h2
    refine z_aload_n dX4_obeysNameRules_10 rfl rfl ?_
    refine z_iload_n dX4_obeysNameRules_11 rfl rfl ?_
    refine z_iconst (v := Int32.ofInt 0) dX4_obeysNameRules_12 rfl ?_
    refine z_iload_n dX4_obeysNameRules_13 rfl rfl ?_
    have hX := lX4_hasTwin 1 (Nat.le_refl _) hT hS hW q3 ⟨by decide, by decide⟩ q3 hw
    refine z_callV (As := [_, _, _]) eX4_hasTwin sX4_hasTwin lX4_83 rfl dX4_obeysNameRules_14 (hW.at (hT 33 _ rfl)) hX (Nat.le_trans (by decide) hd) rfl (Nat.le_of_ble_eq_true rfl) (fun r cs hp => ?_)
    obtain ⟨r5, S4, rfl, hw, hW⟩ := hp
    refine z_st (st' := [.int (Int32.ofInt (r5))]) rfl ?_
    obtain ⟨q7, hw⟩ := hw
    refine i_if_eq (tgt := 22) dX4_obeysNameRules_17 (by decide) q7 (fun h6 => ?_) (fun h6 => ?_)
    · have hw := hw.1 h6
      refine z_iconst (v := Int32.ofInt 0) dX4_obeysNameRules_22 rfl ?_
      refine z_istore_n dX4_obeysNameRules_23 rfl (by decide) ?_
      refine z_loc (L' := [(0, .ref (G.1 + v 33)), (1, .int (Int32.ofInt (l1))), (2, .int (Int32.ofInt (0)))]) (List.forall_mem_cons.mpr ⟨rfl, (List.forall_mem_cons.mpr ⟨rfl, (List.forall_mem_cons.mpr ⟨rfl, (fun _ h => nomatch h)⟩)⟩)⟩) ?_
      refine z_loc (L' := [(0, .ref (G.1 + v 33)), (1, .int (Int32.ofInt (l1))), (2, .int (Int32.ofInt (0)))]) (List.forall_mem_cons.mpr ⟨rfl, (List.forall_mem_cons.mpr ⟨rfl, (List.forall_mem_cons.mpr ⟨rfl, (fun _ h => nomatch h)⟩)⟩)⟩) ?_
      exact ubX4_obeysNameRules_24 hd hT hS hW hP hB2 hw
    · have hw := hw.2 h6
      refine z_iconst (v := Int32.ofInt 0) dX4_obeysNameRules_20 rfl ?_
      exact z_ireturn dX4_obeysNameRules_21 rfl (nar01 (by decide)) (hP _ _ _ hw hW)
def wX4_obeysNameRules_2  (l1 : Int) (S : St) (K : Int → St → Prop) : Prop := ∃ (Iv : Int → St → Prop) (mu : Int → St → Nat), Iv l1 S ∧ ∀ (l1 : Int) (S : St), Iv l1 S → wX4_obeysNameRules_2' l1 S K  (fun ml1 T => Iv ml1 T ∧ mu ml1 T < mu l1 S)
set_option maxRecDepth 100000 in
set_option maxHeartbeats 4000000 in
theorem ubX4_obeysNameRules_2 {G : xG} {v : Nat → Nat} {sh : Nat → Option Sh} {B : Nat × Nat} {c0 : List va_E} {d : Nat} {Post : xP} {l1 : Int} {S : St} {cs : List va_E} {K : Int → St → Prop} (hd : 6 ≤ d) (hT : sb shC sh) (hS : ∀ b x, sh b = some x → ¬ isS b) (hW : Wv G v sh B c0 S cs) (hP : ∀ (x : Int) (S : St) (cs : List va_E), K x S → Wv G v sh B c0 S cs → Post (some (.int (Int32.ofInt x))) cs)  (hw : wX4_obeysNameRules_2 l1 S K ) : Z (RX4, cX4_obeysNameRules, 3, some .boolean, false) G d Post 2 [(0, .ref (G.1 + v 33)), (1, .int (Int32.ofInt (l1)))] [] cs := by
  unfold wX4_obeysNameRules_2 at hw
  obtain ⟨Iv, mu, h0, hs⟩ := hw
  have key : ∀ (n : Nat) (l1 : Int) (S : St) (cs : List va_E), mu l1 S < n → Iv l1 S → Wv G v sh B c0 S cs → Z (RX4, cX4_obeysNameRules, 3, some .boolean, false) G d Post 2 [(0, .ref (G.1 + v 33)), (1, .int (Int32.ofInt (l1)))] [] cs := by
    intro n
    induction n with
    | zero => intro l1 S cs hn; exact absurd hn (Nat.not_lt_zero _)
    | succ n ih =>
      intro l1 S cs hn hI hW
      exact ubX4_obeysNameRules_2' hd hT hS hW hP  (fun l1 S cs hb hW => ih l1 S cs (Nat.lt_of_lt_of_le hb.2 (Nat.le_of_lt_succ hn)) hb.1 hW) (hs l1 S hI)
  exact key _ _ _ _ (Nat.lt_succ_self _) h0 hW
def wX4_obeysNameRules  (S : St) (K : Int → St → Prop) : Prop := wX4_obeysNameRules_2 (0) S K
set_option maxRecDepth 100000 in
set_option maxHeartbeats 4000000 in
theorem lX4_obeysNameRules {G : xG} {v : Nat → Nat} {sh : Nat → Option Sh} {B : Nat × Nat} {c0 : List va_E}  {S : St} {cs : List va_E} {K : Int → St → Prop} (d : Nat) (hd : 6 ≤ d) (hT : sb shC sh) (hS : ∀ b x, sh b = some x → ¬ isS b) (hW : Wv G v sh B c0 S cs)  (hw : wX4_obeysNameRules  S K) : X G yX4_obeysNameRules cX4_obeysNameRules 3 (some .boolean) d [.ref (G.1 + v 33)] cs (vI G v sh B c0 K) := by
  refine X.of false (by decide +kernel) (by decide) (Nat.le_of_ble_eq_true rfl) ?_
  show Z (RX4, cX4_obeysNameRules, 3, some .boolean, false) G d _ 0 [(0, .ref (G.1 + v 33))] [] cs
  have hP : ∀ (x : Int) (S : St) (cs : List va_E), K x S → Wv G v sh B c0 S cs → vI G v sh B c0 K (some (.int (Int32.ofInt x))) cs := fun x S cs a b => ⟨x, S, rfl, a, b⟩
  unfold wX4_obeysNameRules at hw
  refine z_iconst (v := Int32.ofInt 0) dX4_obeysNameRules_0 rfl ?_
  refine z_istore_n dX4_obeysNameRules_1 rfl (by decide) ?_
  refine z_loc (L' := [(0, .ref (G.1 + v 33)), (1, .int (Int32.ofInt (0)))]) (List.forall_mem_cons.mpr ⟨rfl, (List.forall_mem_cons.mpr ⟨rfl, (fun _ h => nomatch h)⟩)⟩) ?_
  refine z_loc (L' := [(0, .ref (G.1 + v 33)), (1, .int (Int32.ofInt (0)))]) (List.forall_mem_cons.mpr ⟨rfl, (List.forall_mem_cons.mpr ⟨rfl, (fun _ h => nomatch h)⟩)⟩) ?_
  exact ubX4_obeysNameRules_2 hd hT hS hW hP  hw

def wX0_skips  (a1 : Int) (S : St) (K : Int → St → Prop) : Prop := rng a1 → (iv (-2147483648) 2147483647 (S.1 200 2) → (wX5_at 1 (S.1 200 2) S (fun r3 S2 => (rng (r3) ∧ ((r3 = a1 → (iv (-2147483648) 2147483647 (S2.1 200 2) → (iv (-2147483648) 2147483647 ((S2.1 200 2 + 1)) ∧ (∀ S7, S7 = pI S2 200 2 ((S2.1 200 2 + 1)) → K (1) S7)))) ∧ ((¬ (r3 = a1)) → K (0) S2))))))
set_option maxRecDepth 100000 in
set_option maxHeartbeats 4000000 in
theorem lX0_skips {G : xG} {v : Nat → Nat} {sh : Nat → Option Sh} {B : Nat × Nat} {c0 : List va_E}  {a1 : Int} {S : St} {cs : List va_E} {K : Int → St → Prop} (d : Nat) (hd : 1 ≤ d) (hT : sb shC sh) (hS : ∀ b x, sh b = some x → ¬ isS b) (hU : sb shT sh) (hW : Wv G v sh B c0 S cs) (g1 : rng a1) (hw : wX0_skips a1 S K) : X G yX0_skips cX0_skips 2 (some .boolean) d [.ref (G.1 + v 200), .int (Int32.ofInt a1)] cs (vI G v sh B c0 K) := by
  refine X.of false (by decide +kernel) (by decide) (Nat.le_of_ble_eq_true rfl) ?_
  show Z (RX0, cX0_skips, 2, some .boolean, false) G d _ 0 [(0, .ref (G.1 + v 200)), (1, .int (Int32.ofInt a1))] [] cs
  have hP : ∀ (x : Int) (S : St) (cs : List va_E), K x S → Wv G v sh B c0 S cs → vI G v sh B c0 K (some (.int (Int32.ofInt x))) cs := fun x S cs a b => ⟨x, S, rfl, a, b⟩
  unfold wX0_skips at hw
  have hw := hw g1
  refine z_aload_n dX0_skips_0 rfl rfl ?_
  refine v_getR hW (hU 200 _ rfl) rfl kX0 fX0_15 dX0_skips_1 ?_
  refine z_aload_n dX0_skips_4 rfl rfl ?_
  have q1 : iv (-2147483648) 2147483647 (S.1 200 2) := hW.iI 200 2
  have hw := hw q1
  refine v_getI hW (hU 200 _ rfl) rfl kX0 fX0_9 dX0_skips_5 ?_
  have hX := lX5_at 0 (Nat.le_refl _) hW (show isS 1 by unfold isS; decide) (fun b x h e => hS b x h (e ▸ (show isS 1 by unfold isS; decide))) (rngq q1 (by decide) (by decide)) hw
  refine z_callV (As := [_]) eX5_at sX5_at lX0_62 rfl dX0_skips_8 (hW.sg (show isS 1 by unfold isS; decide) (fun b x h e => hS b x h (e ▸ (show isS 1 by unfold isS; decide)))).choose_spec.choose_spec.choose_spec.choose_spec.1.choose_spec.1 hX (Nat.le_trans (by decide) hd) rfl (Nat.le_of_ble_eq_true rfl) (fun r cs hp => ?_)
  obtain ⟨r3, S2, rfl, hw, hW⟩ := hp
  refine z_st (st' := [.int (Int32.ofInt (r3))]) rfl ?_
  refine z_iload_n dX0_skips_11 rfl rfl ?_
  obtain ⟨q5, hw⟩ := hw
  refine i_icmp_eq (tgt := 17) dX0_skips_12 (by decide) q5 g1 (fun h4 => ?_) (fun h4 => ?_)
  · have hw := hw.1 h4
    refine z_aload_n dX0_skips_17 rfl rfl ?_
    refine z_dup dX0_skips_18 rfl ?_
    have q6 : iv (-2147483648) 2147483647 (S2.1 200 2) := hW.iI 200 2
    have hw := hw q6
    refine v_getI hW (hU 200 _ rfl) rfl kX0 fX0_9 dX0_skips_19 ?_
    refine z_iconst (v := Int32.ofInt 1) dX0_skips_22 rfl ?_
    refine i_iadd dX0_skips_23 ?_
    obtain ⟨q8, hw⟩ := hw
    refine v_putI hW (hU 200 _ rfl) (by decide) (by unfold isS; decide) rfl kX0 fX0_9 dX0_skips_24 rfl rfl rfl q8 (fun cs hW => ?_)
    obtain ⟨S7, hS7⟩ : ∃ x, x = pI S2 200 2 ((S2.1 200 2 + 1)) := ⟨_, rfl⟩
    rw [← hS7] at hW
    have hw := hw S7 hS7
    refine z_iconst (v := Int32.ofInt 1) dX0_skips_27 rfl ?_
    exact z_ireturn dX0_skips_28 rfl (nar01 (by decide)) (hP _ _ _ hw hW)
  · have hw := hw.2 h4
    refine z_iconst (v := Int32.ofInt 0) dX0_skips_15 rfl ?_
    exact z_ireturn dX0_skips_16 rfl (nar01 (by decide)) (hP _ _ _ hw hW)

def wX4_isClass_b  (a1 : Int) (S : St) (K : Int → St → Prop) : Prop := rng a1 → ((a1 < 0 → K (0) S) ∧ ((¬ (a1 < 0)) → (iv 0 6 (S.1 33 8) → ((S.1 33 8 ≤ a1 → K (0) S) ∧ ((¬ (S.1 33 8 ≤ a1)) → K (1) S)))))
set_option maxRecDepth 100000 in
set_option maxHeartbeats 4000000 in
theorem lX4_isClass_b {G : xG} {v : Nat → Nat} {sh : Nat → Option Sh} {B : Nat × Nat} {c0 : List va_E}  {a1 : Int} {S : St} {cs : List va_E} {K : Int → St → Prop} (d : Nat) (hd : 0 ≤ d) (hT : sb shC sh) (hS : ∀ b x, sh b = some x → ¬ isS b) (hW : Wv G v sh B c0 S cs) (g1 : rng a1) (hw : wX4_isClass_b a1 S K) : X G yX4_isClass cX4_isClass 2 (some .boolean) d [.ref (G.1 + v 33), .int (Int32.ofInt a1)] cs (vI G v sh B c0 K) := by
  refine X.of false (by decide +kernel) (by decide) (Nat.le_of_ble_eq_true rfl) ?_
  show Z (RX4, cX4_isClass, 2, some .boolean, false) G d _ 0 [(0, .ref (G.1 + v 33)), (1, .int (Int32.ofInt a1))] [] cs
  have hP : ∀ (x : Int) (S : St) (cs : List va_E), K x S → Wv G v sh B c0 S cs → vI G v sh B c0 K (some (.int (Int32.ofInt x))) cs := fun x S cs a b => ⟨x, S, rfl, a, b⟩
  unfold wX4_isClass_b at hw
  have hw := hw g1
  refine z_iload_n dX4_isClass_0 rfl rfl ?_
  refine i_if_lt (tgt := 16) dX4_isClass_1 (by decide) g1 (fun h1 => ?_) (fun h1 => ?_)
  · have hw := hw.1 h1
    refine z_iconst (v := Int32.ofInt 0) dX4_isClass_16 rfl ?_
    exact z_ireturn dX4_isClass_17 rfl (nar01 (by decide)) (hP _ _ _ hw hW)
  · have hw := hw.2 h1
    refine z_iload_n dX4_isClass_4 rfl rfl ?_
    refine z_aload_n dX4_isClass_5 rfl rfl ?_
    have q2 : iv 0 6 (S.1 33 8) := hW.iI 33 8
    have hw := hw q2
    refine v_getI hW (hT 33 _ rfl) rfl kX4 fX4_38 dX4_isClass_6 ?_
    refine i_icmp_ge (tgt := 16) dX4_isClass_9 (by decide) g1 (rngq q2 (by decide) (by decide)) (fun h3 => ?_) (fun h3 => ?_)
    · have hw := hw.1 h3
      refine z_iconst (v := Int32.ofInt 0) dX4_isClass_16 rfl ?_
      exact z_ireturn dX4_isClass_17 rfl (nar01 (by decide)) (hP _ _ _ hw hW)
    · have hw := hw.2 h3
      refine z_iconst (v := Int32.ofInt 1) dX4_isClass_12 rfl ?_
      refine z_goto (tgt := 17) dX4_isClass_13 (by decide) ?_
      exact z_ireturn dX4_isClass_17 rfl (nar01 (by decide)) (hP _ _ _ hw hW)

def wX4_implicit_b  (a1 : Int) (S : St) (K : Int → St → Prop) : Prop := rng a1 → (wX4_isClass_b (a1) S (fun r2 S1 => (rng (r2) ∧ ((r2 = 0 → K ((-1)) S1) ∧ ((¬ (r2 = 0)) → ((0 : Int) ≤ a1 ∧ a1 < (6 : Int) ∧ (iv (-2147483648) 2147483647 (S1.2 39 (a1)) → K (S1.2 39 (a1)) S1)))))))
set_option maxRecDepth 100000 in
set_option maxHeartbeats 4000000 in
theorem lX4_implicit_b {G : xG} {v : Nat → Nat} {sh : Nat → Option Sh} {B : Nat × Nat} {c0 : List va_E}  {a1 : Int} {S : St} {cs : List va_E} {K : Int → St → Prop} (d : Nat) (hd : 1 ≤ d) (hT : sb shC sh) (hS : ∀ b x, sh b = some x → ¬ isS b) (hW : Wv G v sh B c0 S cs) (g1 : rng a1) (hw : wX4_implicit_b a1 S K) : X G yX4_implicit cX4_implicit 2 (some .int) d [.ref (G.1 + v 33), .int (Int32.ofInt a1)] cs (vI G v sh B c0 K) := by
  refine X.of false (by decide +kernel) (by decide) (Nat.le_of_ble_eq_true rfl) ?_
  show Z (RX4, cX4_implicit, 2, some .int, false) G d _ 0 [(0, .ref (G.1 + v 33)), (1, .int (Int32.ofInt a1))] [] cs
  have hP : ∀ (x : Int) (S : St) (cs : List va_E), K x S → Wv G v sh B c0 S cs → vI G v sh B c0 K (some (.int (Int32.ofInt x))) cs := fun x S cs a b => ⟨x, S, rfl, a, b⟩
  unfold wX4_implicit_b at hw
  have hw := hw g1
  refine z_aload_n dX4_implicit_0 rfl rfl ?_
  refine z_iload_n dX4_implicit_1 rfl rfl ?_
  have hX := lX4_isClass_b 0 (Nat.le_refl _) hT hS hW g1 hw
  refine z_callV (As := [_]) eX4_isClass sX4_isClass lX4_42 rfl dX4_implicit_2 (hW.at (hT 33 _ rfl)) hX (Nat.le_trans (by decide) hd) rfl (Nat.le_of_ble_eq_true rfl) (fun r cs hp => ?_)
  obtain ⟨r2, S1, rfl, hw, hW⟩ := hp
  refine z_st (st' := [.int (Int32.ofInt (r2))]) rfl ?_
  obtain ⟨q4, hw⟩ := hw
  refine i_if_eq (tgt := 17) dX4_implicit_5 (by decide) q4 (fun h3 => ?_) (fun h3 => ?_)
  · have hw := hw.1 h3
    refine z_iconst (v := Int32.ofInt (-1)) dX4_implicit_17 rfl ?_
    exact z_ireturn dX4_implicit_18 rfl rfl (hP _ _ _ hw hW)
  · have hw := hw.2 h3
    refine z_aload_n dX4_implicit_8 rfl rfl ?_
    refine v_getR hW (hT 33 _ rfl) rfl kX4 fX4_29 dX4_implicit_9 ?_
    refine z_iload_n dX4_implicit_12 rfl rfl ?_
    obtain ⟨q5a, q5b, hw⟩ := hw
    have q6 : iv (-2147483648) 2147483647 (S1.2 39 (a1)) := hW.iA 39 _
    have hw := hw q6
    refine v_iald hW (hT 39 _ rfl) q5a q5b (by decide) dX4_implicit_13 ?_
    refine z_goto (tgt := 18) dX4_implicit_14 (by decide) ?_
    exact z_ireturn dX4_implicit_18 rfl rfl (hP _ _ _ hw hW)

def wX4_isField_b  (a1 a2 : Int) (S : St) (K : Int → St → Prop) : Prop := rng a1 → rng a2 → ((a1 < 0 → K (0) S) ∧ ((¬ (a1 < 0)) → (iv 0 6 (S.1 33 8) → ((S.1 33 8 ≤ a1 → K (0) S) ∧ ((¬ (S.1 33 8 ≤ a1)) → ((a2 < 0 → K (0) S) ∧ ((¬ (a2 < 0)) → ((0 : Int) ≤ a1 ∧ a1 < (6 : Int) ∧ (iv 0 4 (S.2 38 (a1)) → ((S.2 38 (a1) ≤ a2 → K (0) S) ∧ ((¬ (S.2 38 (a1) ≤ a2)) → K (1) S)))))))))))
set_option maxRecDepth 100000 in
set_option maxHeartbeats 4000000 in
theorem lX4_isField_b {G : xG} {v : Nat → Nat} {sh : Nat → Option Sh} {B : Nat × Nat} {c0 : List va_E}  {a1 a2 : Int} {S : St} {cs : List va_E} {K : Int → St → Prop} (d : Nat) (hd : 0 ≤ d) (hT : sb shC sh) (hS : ∀ b x, sh b = some x → ¬ isS b) (hW : Wv G v sh B c0 S cs) (g1 : rng a1) (g2 : rng a2) (hw : wX4_isField_b a1 a2 S K) : X G yX4_isField cX4_isField 3 (some .boolean) d [.ref (G.1 + v 33), .int (Int32.ofInt a1), .int (Int32.ofInt a2)] cs (vI G v sh B c0 K) := by
  refine X.of false (by decide +kernel) (by decide) (Nat.le_of_ble_eq_true rfl) ?_
  show Z (RX4, cX4_isField, 3, some .boolean, false) G d _ 0 [(0, .ref (G.1 + v 33)), (1, .int (Int32.ofInt a1)), (2, .int (Int32.ofInt a2))] [] cs
  have hP : ∀ (x : Int) (S : St) (cs : List va_E), K x S → Wv G v sh B c0 S cs → vI G v sh B c0 K (some (.int (Int32.ofInt x))) cs := fun x S cs a b => ⟨x, S, rfl, a, b⟩
  unfold wX4_isField_b at hw
  have hw := hw g1 g2
  refine z_iload_n dX4_isField_0 rfl rfl ?_
  refine i_if_lt (tgt := 30) dX4_isField_1 (by decide) g1 (fun h1 => ?_) (fun h1 => ?_)
  · have hw := hw.1 h1
    refine z_iconst (v := Int32.ofInt 0) dX4_isField_30 rfl ?_
    exact z_ireturn dX4_isField_31 rfl (nar01 (by decide)) (hP _ _ _ hw hW)
  · have hw := hw.2 h1
    refine z_iload_n dX4_isField_4 rfl rfl ?_
    refine z_aload_n dX4_isField_5 rfl rfl ?_
    have q2 : iv 0 6 (S.1 33 8) := hW.iI 33 8
    have hw := hw q2
    refine v_getI hW (hT 33 _ rfl) rfl kX4 fX4_38 dX4_isField_6 ?_
    refine i_icmp_ge (tgt := 30) dX4_isField_9 (by decide) g1 (rngq q2 (by decide) (by decide)) (fun h3 => ?_) (fun h3 => ?_)
    · have hw := hw.1 h3
      refine z_iconst (v := Int32.ofInt 0) dX4_isField_30 rfl ?_
      exact z_ireturn dX4_isField_31 rfl (nar01 (by decide)) (hP _ _ _ hw hW)
    · have hw := hw.2 h3
      refine z_iload_n dX4_isField_12 rfl rfl ?_
      refine i_if_lt (tgt := 30) dX4_isField_13 (by decide) g2 (fun h4 => ?_) (fun h4 => ?_)
      · have hw := hw.1 h4
        refine z_iconst (v := Int32.ofInt 0) dX4_isField_30 rfl ?_
        exact z_ireturn dX4_isField_31 rfl (nar01 (by decide)) (hP _ _ _ hw hW)
      · have hw := hw.2 h4
        refine z_iload_n dX4_isField_16 rfl rfl ?_
        refine z_aload_n dX4_isField_17 rfl rfl ?_
        refine v_getR hW (hT 33 _ rfl) rfl kX4 fX4_26 dX4_isField_18 ?_
        refine z_iload_n dX4_isField_21 rfl rfl ?_
        obtain ⟨q5a, q5b, hw⟩ := hw
        have q6 : iv 0 4 (S.2 38 (a1)) := hW.iA 38 _
        have hw := hw q6
        refine v_iald hW (hT 38 _ rfl) q5a q5b (by decide) dX4_isField_22 ?_
        refine i_icmp_ge (tgt := 30) dX4_isField_23 (by decide) g2 (rngq q6 (by decide) (by decide)) (fun h7 => ?_) (fun h7 => ?_)
        · have hw := hw.1 h7
          refine z_iconst (v := Int32.ofInt 0) dX4_isField_30 rfl ?_
          exact z_ireturn dX4_isField_31 rfl (nar01 (by decide)) (hP _ _ _ hw hW)
        · have hw := hw.2 h7
          refine z_iconst (v := Int32.ofInt 1) dX4_isField_26 rfl ?_
          refine z_goto (tgt := 31) dX4_isField_27 (by decide) ?_
          exact z_ireturn dX4_isField_31 rfl (nar01 (by decide)) (hP _ _ _ hw hW)

def wX4_putImplicit  (a1 a2 : Int) (S : St) (K : Int → St → Prop) : Prop := rng a1 → rng a2 → (wX4_isField_b (a1) (a2) S (fun r2 S1 => (rng (r2) ∧ ((r2 = 0 → K 0 S1) ∧ ((¬ (r2 = 0)) → ((0 : Int) ≤ a1 ∧ a1 < (6 : Int) ∧ (iv (-2147483648) 2147483647 (a2) ∧ (∀ S6, S6 = pA S1 39 (a1) (a2) → K 0 S6))))))))
set_option maxRecDepth 100000 in
set_option maxHeartbeats 4000000 in
theorem lX4_putImplicit {G : xG} {v : Nat → Nat} {sh : Nat → Option Sh} {B : Nat × Nat} {c0 : List va_E}  {a1 a2 : Int} {S : St} {cs : List va_E} {K : Int → St → Prop} (d : Nat) (hd : 1 ≤ d) (hT : sb shC sh) (hS : ∀ b x, sh b = some x → ¬ isS b) (hW : Wv G v sh B c0 S cs) (g1 : rng a1) (g2 : rng a2) (hw : wX4_putImplicit a1 a2 S K) : X G yX4_putImplicit cX4_putImplicit 3 none d [.ref (G.1 + v 33), .int (Int32.ofInt a1), .int (Int32.ofInt a2)] cs (vV G v sh B c0 K) := by
  refine X.of false (by decide +kernel) (by decide) (Nat.le_of_ble_eq_true rfl) ?_
  show Z (RX4, cX4_putImplicit, 3, none, false) G d _ 0 [(0, .ref (G.1 + v 33)), (1, .int (Int32.ofInt a1)), (2, .int (Int32.ofInt a2))] [] cs
  have hP : ∀ (x : Int) (S : St) (cs : List va_E), K x S → Wv G v sh B c0 S cs → vV G v sh B c0 K (none) cs := fun x S cs a b => ⟨x, S, rfl, a, b⟩
  unfold wX4_putImplicit at hw
  have hw := hw g1 g2
  refine z_aload_n dX4_putImplicit_0 rfl rfl ?_
  refine z_iload_n dX4_putImplicit_1 rfl rfl ?_
  refine z_iload_n dX4_putImplicit_2 rfl rfl ?_
  have hX := lX4_isField_b 0 (Nat.le_refl _) hT hS hW g1 g2 hw
  refine z_callV (As := [_, _]) eX4_isField sX4_isField lX4_46 rfl dX4_putImplicit_3 (hW.at (hT 33 _ rfl)) hX (Nat.le_trans (by decide) hd) rfl (Nat.le_of_ble_eq_true rfl) (fun r cs hp => ?_)
  obtain ⟨r2, S1, rfl, hw, hW⟩ := hp
  refine z_st (st' := [.int (Int32.ofInt (r2))]) rfl ?_
  obtain ⟨q4, hw⟩ := hw
  refine i_if_eq (tgt := 16) dX4_putImplicit_6 (by decide) q4 (fun h3 => ?_) (fun h3 => ?_)
  · have hw := hw.1 h3
    exact z_return dX4_putImplicit_16 rfl (hP 0 _ _ hw hW)
  · have hw := hw.2 h3
    refine z_aload_n dX4_putImplicit_9 rfl rfl ?_
    refine v_getR hW (hT 33 _ rfl) rfl kX4 fX4_29 dX4_putImplicit_10 ?_
    refine z_iload_n dX4_putImplicit_13 rfl rfl ?_
    refine z_iload_n dX4_putImplicit_14 rfl rfl ?_
    obtain ⟨q5a, q5b, hw⟩ := hw
    obtain ⟨q7, hw⟩ := hw
    refine v_iast hW (hT 39 _ rfl) (by decide) (by unfold isS; decide) q5a q5b (by decide) q7 dX4_putImplicit_15 (fun cs hW => ?_)
    obtain ⟨S6, hS6⟩ : ∃ x, x = pA S1 39 (a1) (a2) := ⟨_, rfl⟩
    rw [← hS6] at hW
    have hw := hw S6 hS6
    exact z_return dX4_putImplicit_16 rfl (hP 0 _ _ hw hW)

def wX4_putAttribute  (a1 a2 : Int) (S : St) (K : Int → St → Prop) : Prop := rng a1 → rng a2 → (wX4_isField_b (a1) (a2) S (fun r2 S1 => (rng (r2) ∧ ((r2 = 0 → K 0 S1) ∧ ((¬ (r2 = 0)) → ((0 : Int) ≤ ((a1 * 4) + a2) ∧ ((a1 * 4) + a2) < (24 : Int) ∧ (∀ S6, S6 = pA S1 37 (((a1 * 4) + a2)) (1) → K 0 S6)))))))
set_option maxRecDepth 100000 in
set_option maxHeartbeats 4000000 in
theorem lX4_putAttribute {G : xG} {v : Nat → Nat} {sh : Nat → Option Sh} {B : Nat × Nat} {c0 : List va_E}  {a1 a2 : Int} {S : St} {cs : List va_E} {K : Int → St → Prop} (d : Nat) (hd : 1 ≤ d) (hT : sb shC sh) (hS : ∀ b x, sh b = some x → ¬ isS b) (hW : Wv G v sh B c0 S cs) (g1 : rng a1) (g2 : rng a2) (hw : wX4_putAttribute a1 a2 S K) : X G yX4_putAttribute cX4_putAttribute 3 none d [.ref (G.1 + v 33), .int (Int32.ofInt a1), .int (Int32.ofInt a2)] cs (vV G v sh B c0 K) := by
  refine X.of false (by decide +kernel) (by decide) (Nat.le_of_ble_eq_true rfl) ?_
  show Z (RX4, cX4_putAttribute, 3, none, false) G d _ 0 [(0, .ref (G.1 + v 33)), (1, .int (Int32.ofInt a1)), (2, .int (Int32.ofInt a2))] [] cs
  have hP : ∀ (x : Int) (S : St) (cs : List va_E), K x S → Wv G v sh B c0 S cs → vV G v sh B c0 K (none) cs := fun x S cs a b => ⟨x, S, rfl, a, b⟩
  unfold wX4_putAttribute at hw
  have hw := hw g1 g2
  refine z_aload_n dX4_putAttribute_0 rfl rfl ?_
  refine z_iload_n dX4_putAttribute_1 rfl rfl ?_
  refine z_iload_n dX4_putAttribute_2 rfl rfl ?_
  have hX := lX4_isField_b 0 (Nat.le_refl _) hT hS hW g1 g2 hw
  refine z_callV (As := [_, _]) eX4_isField sX4_isField lX4_46 rfl dX4_putAttribute_3 (hW.at (hT 33 _ rfl)) hX (Nat.le_trans (by decide) hd) rfl (Nat.le_of_ble_eq_true rfl) (fun r cs hp => ?_)
  obtain ⟨r2, S1, rfl, hw, hW⟩ := hp
  refine z_st (st' := [.int (Int32.ofInt (r2))]) rfl ?_
  obtain ⟨q4, hw⟩ := hw
  refine i_if_eq (tgt := 20) dX4_putAttribute_6 (by decide) q4 (fun h3 => ?_) (fun h3 => ?_)
  · have hw := hw.1 h3
    exact z_return dX4_putAttribute_20 rfl (hP 0 _ _ hw hW)
  · have hw := hw.2 h3
    refine z_aload_n dX4_putAttribute_9 rfl rfl ?_
    refine v_getR hW (hT 33 _ rfl) rfl kX4 fX4_22 dX4_putAttribute_10 ?_
    refine z_iload_n dX4_putAttribute_13 rfl rfl ?_
    refine z_iconst (v := Int32.ofInt 4) dX4_putAttribute_14 rfl ?_
    refine i_imul dX4_putAttribute_15 ?_
    refine z_iload_n dX4_putAttribute_16 rfl rfl ?_
    refine i_iadd dX4_putAttribute_17 ?_
    refine z_iconst (v := Int32.ofInt 1) dX4_putAttribute_18 rfl ?_
    obtain ⟨q5a, q5b, hw⟩ := hw
    refine v_zast hW (hT 37 _ rfl) (by decide) (by unfold isS; decide) q5a q5b (by decide) (by decide) ⟨by decide, by decide⟩ dX4_putAttribute_19 (fun cs hW => ?_)
    obtain ⟨S6, hS6⟩ : ∃ x, x = pA S1 37 (((a1 * 4) + a2)) (1) := ⟨_, rfl⟩
    rw [← hS6] at hW
    have hw := hw S6 hS6
    exact z_return dX4_putAttribute_20 rfl (hP 0 _ _ hw hW)

def wX4_beginField  (S : St) (K : Int → St → Prop) : Prop := (iv 0 6 (S.1 33 8) → (∀ x2 : Int, x2 = (S.1 33 8 - 1) → (rng (x2) ∧ (wX4_isClass_b (x2) S (fun r4 S3 => (rng (r4) ∧ ((r4 = 0 → K 0 S3) ∧ ((¬ (r4 = 0)) → ((0 : Int) ≤ x2 ∧ x2 < (6 : Int) ∧ (iv 0 4 (S3.2 38 (x2)) → ((S3.2 38 (x2) < 4 → ((0 : Int) ≤ x2 ∧ x2 < (6 : Int) ∧ (iv 0 4 (S3.2 38 (x2)) → (∀ x13 : Int, x13 = S3.2 38 (x2) → (wX4_fieldName (x2) (x13) S3 (fun r17 S16 => ((0 : Int) ≤ r17 ∧ r17 < (30 : Int) ∧ (∀ S19, S19 = pA S16 35 (r17) (0) → ((0 : Int) ≤ ((x2 * 4) + x13) ∧ ((x2 * 4) + x13) < (24 : Int) ∧ (∀ S21, S21 = pA S19 36 (((x2 * 4) + x13)) (0) → ((0 : Int) ≤ ((x2 * 4) + x13) ∧ ((x2 * 4) + x13) < (24 : Int) ∧ (∀ S23, S23 = pA S21 37 (((x2 * 4) + x13)) (0) → ((0 : Int) ≤ x2 ∧ x2 < (6 : Int) ∧ (iv 0 4 (S23.2 38 (x2)) → ((0 : Int) ≤ x2 ∧ x2 < (6 : Int) ∧ (iv 0 4 ((S23.2 38 (x2) + 1)) ∧ (∀ S27, S27 = pA S23 38 (x2) ((S23.2 38 (x2) + 1)) → K 0 S27))))))))))))))))) ∧ ((¬ (S3.2 38 (x2) < 4)) → K 0 S3))))))))))))
set_option maxRecDepth 100000 in
set_option maxHeartbeats 4000000 in
theorem lX4_beginField {G : xG} {v : Nat → Nat} {sh : Nat → Option Sh} {B : Nat × Nat} {c0 : List va_E}  {S : St} {cs : List va_E} {K : Int → St → Prop} (d : Nat) (hd : 1 ≤ d) (hT : sb shC sh) (hS : ∀ b x, sh b = some x → ¬ isS b) (hW : Wv G v sh B c0 S cs)  (hw : wX4_beginField  S K) : X G yX4_beginField cX4_beginField 3 none d [.ref (G.1 + v 33)] cs (vV G v sh B c0 K) := by
  refine X.of false (by decide +kernel) (by decide) (Nat.le_of_ble_eq_true rfl) ?_
  show Z (RX4, cX4_beginField, 3, none, false) G d _ 0 [(0, .ref (G.1 + v 33))] [] cs
  have hP : ∀ (x : Int) (S : St) (cs : List va_E), K x S → Wv G v sh B c0 S cs → vV G v sh B c0 K (none) cs := fun x S cs a b => ⟨x, S, rfl, a, b⟩
  unfold wX4_beginField at hw
  refine z_aload_n dX4_beginField_0 rfl rfl ?_
  have q1 : iv 0 6 (S.1 33 8) := hW.iI 33 8
  have hw := hw q1
  refine v_getI hW (hT 33 _ rfl) rfl kX4 fX4_38 dX4_beginField_1 ?_
  refine z_iconst (v := Int32.ofInt 1) dX4_beginField_4 rfl ?_
  refine i_isub dX4_beginField_5 ?_
  obtain ⟨x2, hx2⟩ : ∃ x : Int, x = (S.1 33 8 - 1) := ⟨_, rfl⟩
  have hw := hw x2 hx2
  refine z_st (st' := [.int (Int32.ofInt x2)]) (by rw [hx2]) ?_
  refine z_istore_n dX4_beginField_6 rfl (by decide) ?_
  refine z_loc (L' := [(0, .ref (G.1 + v 33)), (1, .int (Int32.ofInt (x2)))]) (List.forall_mem_cons.mpr ⟨rfl, (List.forall_mem_cons.mpr ⟨rfl, (fun _ h => nomatch h)⟩)⟩) ?_
  refine z_aload_n dX4_beginField_7 rfl rfl ?_
  refine z_iload_n dX4_beginField_8 rfl rfl ?_
  obtain ⟨q5, hw⟩ := hw
  have hX := lX4_isClass_b 0 (Nat.le_refl _) hT hS hW q5 hw
  refine z_callV (As := [_]) eX4_isClass sX4_isClass lX4_42 rfl dX4_beginField_9 (hW.at (hT 33 _ rfl)) hX (Nat.le_trans (by decide) hd) rfl (Nat.le_of_ble_eq_true rfl) (fun r cs hp => ?_)
  obtain ⟨r4, S3, rfl, hw, hW⟩ := hp
  refine z_st (st' := [.int (Int32.ofInt (r4))]) rfl ?_
  obtain ⟨q7, hw⟩ := hw
  refine i_if_eq (tgt := 25) dX4_beginField_12 (by decide) q7 (fun h6 => ?_) (fun h6 => ?_)
  · have hw := hw.1 h6
    exact z_return dX4_beginField_25 rfl (hP 0 _ _ hw hW)
  · have hw := hw.2 h6
    refine z_aload_n dX4_beginField_15 rfl rfl ?_
    refine v_getR hW (hT 33 _ rfl) rfl kX4 fX4_26 dX4_beginField_16 ?_
    refine z_iload_n dX4_beginField_19 rfl rfl ?_
    obtain ⟨q8a, q8b, hw⟩ := hw
    have q9 : iv 0 4 (S3.2 38 (x2)) := hW.iA 38 _
    have hw := hw q9
    refine v_iald hW (hT 38 _ rfl) q8a q8b (by decide) dX4_beginField_20 ?_
    refine z_iconst (v := Int32.ofInt 4) dX4_beginField_21 rfl ?_
    refine i_icmp_lt (tgt := 26) dX4_beginField_22 (by decide) (rngq q9 (by decide) (by decide)) ⟨by decide, by decide⟩ (fun h10 => ?_) (fun h10 => ?_)
    · have hw := hw.1 h10
      refine z_aload_n dX4_beginField_26 rfl rfl ?_
      refine v_getR hW (hT 33 _ rfl) rfl kX4 fX4_26 dX4_beginField_27 ?_
      refine z_iload_n dX4_beginField_30 rfl rfl ?_
      obtain ⟨q11a, q11b, hw⟩ := hw
      have q12 : iv 0 4 (S3.2 38 (x2)) := hW.iA 38 _
      have hw := hw q12
      refine v_iald hW (hT 38 _ rfl) q11a q11b (by decide) dX4_beginField_31 ?_
      obtain ⟨x13, hx13⟩ : ∃ x : Int, x = S3.2 38 (x2) := ⟨_, rfl⟩
      have hw := hw x13 hx13
      refine z_st (st' := [.int (Int32.ofInt x13)]) (by rw [hx13]) ?_
      have q14 : rng x13 := by rw [hx13]; exact (rngq q12 (by decide) (by decide))
      have q15 : iv 0 4 x13 := by rw [hx13]; exact q12
      refine z_istore_n dX4_beginField_32 rfl (by decide) ?_
      refine z_loc (L' := [(0, .ref (G.1 + v 33)), (1, .int (Int32.ofInt (x2))), (2, .int (Int32.ofInt (x13)))]) (List.forall_mem_cons.mpr ⟨rfl, (List.forall_mem_cons.mpr ⟨rfl, (List.forall_mem_cons.mpr ⟨rfl, (fun _ h => nomatch h)⟩)⟩)⟩) ?_
      refine z_aload_n dX4_beginField_33 rfl rfl ?_
      refine v_getR hW (hT 33 _ rfl) rfl kX4 fX4_15 dX4_beginField_34 ?_
      refine z_iload_n dX4_beginField_37 rfl rfl ?_
      refine z_iload_n dX4_beginField_38 rfl rfl ?_
      have hX := lX4_fieldName 0 (Nat.le_refl _) hT hS hW q5 q14 hw
      refine z_callS (As := [_, _]) eX4_fieldName sX4_fieldName lX4_58 dX4_beginField_39 hX (Nat.le_trans (by decide) hd) rfl (Nat.le_of_ble_eq_true rfl) (fun r cs hp => ?_)
      obtain ⟨r17, S16, rfl, hw, hW⟩ := hp
      refine z_st (st' := [.int (Int32.ofInt (r17)), .ref (G.1 + v 35)]) rfl ?_
      refine z_iconst (v := Int32.ofInt 0) dX4_beginField_42 rfl ?_
      obtain ⟨q18a, q18b, hw⟩ := hw
      refine v_iast hW (hT 35 _ rfl) (by decide) (by unfold isS; decide) q18a q18b (by decide) ⟨by decide, by decide⟩ dX4_beginField_43 (fun cs hW => ?_)
      obtain ⟨S19, hS19⟩ : ∃ x, x = pA S16 35 (r17) (0) := ⟨_, rfl⟩
      rw [← hS19] at hW
      have hw := hw S19 hS19
      refine z_aload_n dX4_beginField_44 rfl rfl ?_
      refine v_getR hW (hT 33 _ rfl) rfl kX4 fX4_19 dX4_beginField_45 ?_
      refine z_iload_n dX4_beginField_48 rfl rfl ?_
      refine z_iconst (v := Int32.ofInt 4) dX4_beginField_49 rfl ?_
      refine i_imul dX4_beginField_50 ?_
      refine z_iload_n dX4_beginField_51 rfl rfl ?_
      refine i_iadd dX4_beginField_52 ?_
      refine z_iconst (v := Int32.ofInt 0) dX4_beginField_53 rfl ?_
      obtain ⟨q20a, q20b, hw⟩ := hw
      refine v_iast hW (hT 36 _ rfl) (by decide) (by unfold isS; decide) q20a q20b (by decide) ⟨by decide, by decide⟩ dX4_beginField_54 (fun cs hW => ?_)
      obtain ⟨S21, hS21⟩ : ∃ x, x = pA S19 36 (((x2 * 4) + x13)) (0) := ⟨_, rfl⟩
      rw [← hS21] at hW
      have hw := hw S21 hS21
      refine z_aload_n dX4_beginField_55 rfl rfl ?_
      refine v_getR hW (hT 33 _ rfl) rfl kX4 fX4_22 dX4_beginField_56 ?_
      refine z_iload_n dX4_beginField_59 rfl rfl ?_
      refine z_iconst (v := Int32.ofInt 4) dX4_beginField_60 rfl ?_
      refine i_imul dX4_beginField_61 ?_
      refine z_iload_n dX4_beginField_62 rfl rfl ?_
      refine i_iadd dX4_beginField_63 ?_
      refine z_iconst (v := Int32.ofInt 0) dX4_beginField_64 rfl ?_
      obtain ⟨q22a, q22b, hw⟩ := hw
      refine v_zast hW (hT 37 _ rfl) (by decide) (by unfold isS; decide) q22a q22b (by decide) (by decide) ⟨by decide, by decide⟩ dX4_beginField_65 (fun cs hW => ?_)
      obtain ⟨S23, hS23⟩ : ∃ x, x = pA S21 37 (((x2 * 4) + x13)) (0) := ⟨_, rfl⟩
      rw [← hS23] at hW
      have hw := hw S23 hS23
      refine z_aload_n dX4_beginField_66 rfl rfl ?_
      refine v_getR hW (hT 33 _ rfl) rfl kX4 fX4_26 dX4_beginField_67 ?_
      refine z_iload_n dX4_beginField_70 rfl rfl ?_
      refine z_dup2 dX4_beginField_71 rfl rfl ?_
      obtain ⟨q24a, q24b, hw⟩ := hw
      have q25 : iv 0 4 (S23.2 38 (x2)) := hW.iA 38 _
      have hw := hw q25
      refine v_iald hW (hT 38 _ rfl) q24a q24b (by decide) dX4_beginField_72 ?_
      refine z_iconst (v := Int32.ofInt 1) dX4_beginField_73 rfl ?_
      refine i_iadd dX4_beginField_74 ?_
      obtain ⟨q26a, q26b, hw⟩ := hw
      obtain ⟨q28, hw⟩ := hw
      refine v_iast hW (hT 38 _ rfl) (by decide) (by unfold isS; decide) q26a q26b (by decide) q28 dX4_beginField_75 (fun cs hW => ?_)
      obtain ⟨S27, hS27⟩ : ∃ x, x = pA S23 38 (x2) ((S23.2 38 (x2) + 1)) := ⟨_, rfl⟩
      rw [← hS27] at hW
      have hw := hw S27 hS27
      exact z_return dX4_beginField_76 rfl (hP 0 _ _ hw hW)
    · have hw := hw.2 h10
      exact z_return dX4_beginField_25 rfl (hP 0 _ _ hw hW)

def wX10_isLetter_12  (l0 : Int) (S : St) (K : Int → St → Prop) : Prop := (rng (l0) ∧ ((l0 < 65 → K (0) S) ∧ ((¬ (l0 < 65)) → ((90 < l0 → K (0) S) ∧ ((¬ (90 < l0)) → K (1) S)))))
set_option maxRecDepth 100000 in
set_option maxHeartbeats 4000000 in
theorem ubX10_isLetter_12 {G : xG} {v : Nat → Nat} {sh : Nat → Option Sh} {B : Nat × Nat} {c0 : List va_E} {d : Nat} {Post : xP} {l0 : Int} {S : St} {cs : List va_E} {K : Int → St → Prop} (hd : 0 ≤ d) (hT : sb shC sh) (hS : ∀ b x, sh b = some x → ¬ isS b) (hW : Wv G v sh B c0 S cs) (hP : ∀ (x : Int) (S : St) (cs : List va_E), K x S → Wv G v sh B c0 S cs → Post (some (.int (Int32.ofInt x))) cs)  (hw : wX10_isLetter_12 l0 S K ) : Z (RX10, cX10_isLetter, 1, some .boolean, false) G d Post 12 [(0, .int (Int32.ofInt (l0)))] [] cs := by
  unfold wX10_isLetter_12 at hw
  refine z_iload_n dX10_isLetter_12 rfl rfl ?_
  refine z_bipush (v := Int32.ofInt 65) dX10_isLetter_13 (by decide) ?_
  obtain ⟨q2, hw⟩ := hw
  refine i_icmp_lt (tgt := 28) dX10_isLetter_15 (by decide) q2 ⟨by decide, by decide⟩ (fun h1 => ?_) (fun h1 => ?_)
  · have hw := hw.1 h1
    refine z_iconst (v := Int32.ofInt 0) dX10_isLetter_28 rfl ?_
    exact z_ireturn dX10_isLetter_29 rfl (nar01 (by decide)) (hP _ _ _ hw hW)
  · have hw := hw.2 h1
    refine z_iload_n dX10_isLetter_18 rfl rfl ?_
    refine z_bipush (v := Int32.ofInt 90) dX10_isLetter_19 (by decide) ?_
    refine i_icmp_gt (tgt := 28) dX10_isLetter_21 (by decide) q2 ⟨by decide, by decide⟩ (fun h3 => ?_) (fun h3 => ?_)
    · have hw := hw.1 h3
      refine z_iconst (v := Int32.ofInt 0) dX10_isLetter_28 rfl ?_
      exact z_ireturn dX10_isLetter_29 rfl (nar01 (by decide)) (hP _ _ _ hw hW)
    · have hw := hw.2 h3
      refine z_iconst (v := Int32.ofInt 1) dX10_isLetter_24 rfl ?_
      refine z_goto (tgt := 29) dX10_isLetter_25 (by decide) ?_
      exact z_ireturn dX10_isLetter_29 rfl (nar01 (by decide)) (hP _ _ _ hw hW)
def wX10_isLetter  (a1 : Int) (S : St) (K : Int → St → Prop) : Prop := rng a1 → ((a1 < 97 → wX10_isLetter_12 (a1) S K) ∧ ((¬ (a1 < 97)) → ((a1 ≤ 122 → K (1) S) ∧ ((¬ (a1 ≤ 122)) → wX10_isLetter_12 (a1) S K))))
set_option maxRecDepth 100000 in
set_option maxHeartbeats 4000000 in
theorem lX10_isLetter {G : xG} {v : Nat → Nat} {sh : Nat → Option Sh} {B : Nat × Nat} {c0 : List va_E}  {a1 : Int} {S : St} {cs : List va_E} {K : Int → St → Prop} (d : Nat) (hd : 0 ≤ d) (hT : sb shC sh) (hS : ∀ b x, sh b = some x → ¬ isS b) (hW : Wv G v sh B c0 S cs) (g1 : rng a1) (hw : wX10_isLetter a1 S K) : X G yX10_isLetter cX10_isLetter 1 (some .boolean) d [.int (Int32.ofInt a1)] cs (vI G v sh B c0 K) := by
  refine X.of false (by decide +kernel) (by decide) (Nat.le_of_ble_eq_true rfl) ?_
  show Z (RX10, cX10_isLetter, 1, some .boolean, false) G d _ 0 [(0, .int (Int32.ofInt a1))] [] cs
  have hP : ∀ (x : Int) (S : St) (cs : List va_E), K x S → Wv G v sh B c0 S cs → vI G v sh B c0 K (some (.int (Int32.ofInt x))) cs := fun x S cs a b => ⟨x, S, rfl, a, b⟩
  unfold wX10_isLetter at hw
  have hw := hw g1
  refine z_iload_n dX10_isLetter_0 rfl rfl ?_
  refine z_bipush (v := Int32.ofInt 97) dX10_isLetter_1 (by decide) ?_
  refine i_icmp_lt (tgt := 12) dX10_isLetter_3 (by decide) g1 ⟨by decide, by decide⟩ (fun h1 => ?_) (fun h1 => ?_)
  · have hw := hw.1 h1
    refine z_loc (L' := [(0, .int (Int32.ofInt (a1)))]) (List.forall_mem_cons.mpr ⟨rfl, (fun _ h => nomatch h)⟩) ?_
    exact ubX10_isLetter_12 hd hT hS hW hP  hw
  · have hw := hw.2 h1
    refine z_iload_n dX10_isLetter_6 rfl rfl ?_
    refine z_bipush (v := Int32.ofInt 122) dX10_isLetter_7 (by decide) ?_
    refine i_icmp_le (tgt := 24) dX10_isLetter_9 (by decide) g1 ⟨by decide, by decide⟩ (fun h2 => ?_) (fun h2 => ?_)
    · have hw := hw.1 h2
      refine z_iconst (v := Int32.ofInt 1) dX10_isLetter_24 rfl ?_
      refine z_goto (tgt := 29) dX10_isLetter_25 (by decide) ?_
      exact z_ireturn dX10_isLetter_29 rfl (nar01 (by decide)) (hP _ _ _ hw hW)
    · have hw := hw.2 h2
      refine z_loc (L' := [(0, .int (Int32.ofInt (a1)))]) (List.forall_mem_cons.mpr ⟨rfl, (fun _ h => nomatch h)⟩) ?_
      exact ubX10_isLetter_12 hd hT hS hW hP  hw

