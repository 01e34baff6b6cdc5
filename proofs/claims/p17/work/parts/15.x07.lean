def wX8_failure  (S : St) (K : Int → St → Prop) : Prop := (iv 0 1 (S.1 210 12) → ((S.1 210 12 = 0 → (wX5_hasOverflowed 22 S (fun r4 S3 => (rng (r4) ∧ ((r4 = 0 → K (0) S3) ∧ ((¬ (r4 = 0)) → K ((-4)) S3)))))) ∧ ((¬ (S.1 210 12 = 0)) → K ((-3)) S)))
set_option maxRecDepth 100000 in
set_option maxHeartbeats 4000000 in
theorem lX8_failure {G : xG} {v : Nat → Nat} {sh : Nat → Option Sh} {B : Nat × Nat} {c0 : List va_E}  {S : St} {cs : List va_E} {K : Int → St → Prop} (d : Nat) (hd : 1 ≤ d) (hT : sb shC sh) (hS : ∀ b x, sh b = some x → ¬ isS b) (hU : sb shW sh) (hW : Wv G v sh B c0 S cs)  (hw : wX8_failure  S K) : X G yX8_failure cX8_failure 1 (some .int) d [.ref (G.1 + v 210)] cs (vI G v sh B c0 K) := by
  refine X.of false (by decide +kernel) (by decide) (Nat.le_of_ble_eq_true rfl) ?_
  show Z (RX8, cX8_failure, 1, some .int, false) G d _ 0 [(0, .ref (G.1 + v 210))] [] cs
  have hP : ∀ (x : Int) (S : St) (cs : List va_E), K x S → Wv G v sh B c0 S cs → vI G v sh B c0 K (some (.int (Int32.ofInt x))) cs := fun x S cs a b => ⟨x, S, rfl, a, b⟩
  unfold wX8_failure at hw
  refine z_aload_n dX8_failure_0 rfl rfl ?_
  have q1 : iv 0 1 (S.1 210 12) := hW.iI 210 12
  have hw := hw q1
  refine v_getI hW (hU 210 _ rfl) rfl kX8 fX8_34 dX8_failure_1 ?_
  refine i_if_eq (tgt := 10) dX8_failure_4 (by decide) (rngq q1 (by decide) (by decide)) (fun h2 => ?_) (fun h2 => ?_)
  · have hw := hw.1 h2
    refine z_aload_n dX8_failure_10 rfl rfl ?_
    refine v_getR hW (hU 210 _ rfl) rfl kX8 fX8_46 dX8_failure_11 ?_
    have hX := lX5_hasOverflowed 0 (Nat.le_refl _) hW (show isS 22 by unfold isS; decide) (fun b x h e => hS b x h (e ▸ (show isS 22 by unfold isS; decide)))  hw
    refine z_callV (As := []) eX5_hasOverflowed sX5_hasOverflowed lX8_56 rfl dX8_failure_14 (hW.sg (show isS 22 by unfold isS; decide) (fun b x h e => hS b x h (e ▸ (show isS 22 by unfold isS; decide)))).choose_spec.choose_spec.choose_spec.choose_spec.1.choose_spec.1 hX (Nat.le_trans (by decide) hd) rfl (Nat.le_of_ble_eq_true rfl) (fun r cs hp => ?_)
    obtain ⟨r4, S3, rfl, hw, hW⟩ := hp
    refine z_st (st' := [.int (Int32.ofInt (r4))]) rfl ?_
    obtain ⟨q6, hw⟩ := hw
    refine i_if_eq (tgt := 25) dX8_failure_17 (by decide) q6 (fun h5 => ?_) (fun h5 => ?_)
    · have hw := hw.1 h5
      refine z_iconst (v := Int32.ofInt 0) dX8_failure_25 rfl ?_
      exact z_ireturn dX8_failure_26 rfl rfl (hP _ _ _ hw hW)
    · have hw := hw.2 h5
      refine z_bipush (v := Int32.ofInt (-4)) dX8_failure_20 (by decide) ?_
      refine z_goto (tgt := 26) dX8_failure_22 (by decide) ?_
      exact z_ireturn dX8_failure_26 rfl rfl (hP _ _ _ hw hW)
  · have hw := hw.2 h2
    refine z_bipush (v := Int32.ofInt (-3)) dX8_failure_7 (by decide) ?_
    exact z_ireturn dX8_failure_9 rfl rfl (hP _ _ _ hw hW)

def wX4_spellTo_13'  (l2 l3 : Int) (S : St) (K : Int → St → Prop) (B13 : Int → Int → St → Prop) : Prop := ((0 : Int) ≤ l2 ∧ l2 < (30 : Int) ∧ (iv 0 16 (S.2 26 (l2)) → (rng (l3) ∧ ((S.2 26 (l2) ≤ l3 → K 0 S) ∧ ((¬ (S.2 26 (l2) ≤ l3)) → ((0 : Int) ≤ ((l2 * 16) + l3) ∧ ((l2 * 16) + l3) < (480 : Int) ∧ (iv 0 65535 (S.2 25 (((l2 * 16) + l3))) → (wX5_put 22 (S.2 25 (((l2 * 16) + l3))) S (fun r8 S7 => B13 (l2) ((l3 + 1)) S7)))))))))
set_option maxRecDepth 100000 in
set_option maxHeartbeats 4000000 in
theorem ubX4_spellTo_13' {G : xG} {v : Nat → Nat} {sh : Nat → Option Sh} {B : Nat × Nat} {c0 : List va_E} {d : Nat} {Post : xP} {l2 l3 : Int} {S : St} {cs : List va_E} {K : Int → St → Prop} {B13 : Int → Int → St → Prop} (hd : 2 ≤ d) (hT : sb shC sh) (hS : ∀ b x, sh b = some x → ¬ isS b) (hW : Wv G v sh B c0 S cs) (hP : ∀ (x : Int) (S : St) (cs : List va_E), K x S → Wv G v sh B c0 S cs → Post (none) cs) (hB13 : ∀ (l2 : Int) (l3 : Int) (S : St) (cs : List va_E), B13 l2 l3 S → Wv G v sh B c0 S cs → Z (RX4, cX4_spellTo, 4, none, false) G d Post 13 [(0, .ref (G.1 + v 24)), (1, .ref (G.1 + v 22)), (2, .int (Int32.ofInt (l2))), (3, .int (Int32.ofInt (l3)))] [] cs) (hw : wX4_spellTo_13' l2 l3 S K B13) : Z (RX4, cX4_spellTo, 4, none, false) G d Post 13 [(0, .ref (G.1 + v 24)), (1, .ref (G.1 + v 22)), (2, .int (Int32.ofInt (l2))), (3, .int (Int32.ofInt (l3)))] [] cs := by
  unfold wX4_spellTo_13' at hw
  refine z_iload_n dX4_spellTo_13 rfl rfl ?_
  refine z_aload_n dX4_spellTo_14 rfl rfl ?_
  refine v_getR hW (hT 24 _ rfl) rfl kX4 fX4_15 dX4_spellTo_15 ?_
  refine z_iload_n dX4_spellTo_18 rfl rfl ?_
  obtain ⟨q1a, q1b, hw⟩ := hw
  have q2 : iv 0 16 (S.2 26 (l2)) := hW.iA 26 _
  have hw := hw q2
  refine v_iald hW (hT 26 _ rfl) q1a q1b (by decide) dX4_spellTo_19 ?_
  obtain ⟨q4, hw⟩ := hw
  refine i_icmp_ge (tgt := 45) dX4_spellTo_20 (by decide) q4 (rngq q2 (by decide) (by decide)) (fun h3 => ?_) (fun h3 => ?_)
  · have hw := hw.1 h3
    exact z_return dX4_spellTo_45 rfl (hP 0 _ _ hw hW)
  · have hw := hw.2 h3
    refine z_aload_n dX4_spellTo_23 rfl rfl ?_
    refine z_aload_n dX4_spellTo_24 rfl rfl ?_
    refine v_getR hW (hT 24 _ rfl) rfl kX4 fX4_11 dX4_spellTo_25 ?_
    refine z_iload_n dX4_spellTo_28 rfl rfl ?_
    refine z_bipush (v := Int32.ofInt 16) dX4_spellTo_29 (by decide) ?_
    refine i_imul dX4_spellTo_31 ?_
    refine z_iload_n dX4_spellTo_32 rfl rfl ?_
    refine i_iadd dX4_spellTo_33 ?_
    obtain ⟨q5a, q5b, hw⟩ := hw
    have q6 : iv 0 65535 (S.2 25 (((l2 * 16) + l3))) := hW.iA 25 _
    have hw := hw q6
    refine v_cald hW (hT 25 _ rfl) q5a q5b (by decide) dX4_spellTo_34 ?_
    have hX := lX5_put 1 (Nat.le_refl _) hW (show isS 22 by unfold isS; decide) (fun b x h e => hS b x h (e ▸ (show isS 22 by unfold isS; decide))) (rngq q6 (by decide) (by decide)) hw
    refine z_callV (As := [_]) eX5_put sX5_put lX4_65 rfl dX4_spellTo_35 (hW.sg (show isS 22 by unfold isS; decide) (fun b x h e => hS b x h (e ▸ (show isS 22 by unfold isS; decide)))).choose_spec.choose_spec.choose_spec.choose_spec.1.choose_spec.1 hX (Nat.le_trans (by decide) hd) rfl (Nat.le_of_ble_eq_true rfl) (fun r cs hp => ?_)
    obtain ⟨r8, S7, rfl, hw, hW⟩ := hp
    refine z_st (st' := [.int (Int32.ofInt (r8))]) rfl ?_
    refine z_pop dX4_spellTo_38 rfl ?_
    refine i_iinc (l := l3) dX4_spellTo_39 rfl (by decide) ?_
    refine z_loc (L' := [(0, .ref (G.1 + v 24)), (1, .ref (G.1 + v 22)), (2, .int (Int32.ofInt (l2))), (3, .int (Int32.ofInt ((l3 + 1))))]) (List.forall_mem_cons.mpr ⟨rfl, (List.forall_mem_cons.mpr ⟨rfl, (List.forall_mem_cons.mpr ⟨rfl, (List.forall_mem_cons.mpr ⟨rfl, (fun _ h => nomatch h)⟩)⟩)⟩)⟩) ?_
    refine z_goto (tgt := 13) dX4_spellTo_42 (by decide) ?_
    refine z_loc (L' := [(0, .ref (G.1 + v 24)), (1, .ref (G.1 + v 22)), (2, .int (Int32.ofInt (l2))), (3, .int (Int32.ofInt ((l3 + 1))))]) (List.forall_mem_cons.mpr ⟨rfl, (List.forall_mem_cons.mpr ⟨rfl, (List.forall_mem_cons.mpr ⟨rfl, (List.forall_mem_cons.mpr ⟨rfl, (fun _ h => nomatch h)⟩)⟩)⟩)⟩) ?_
    exact hB13 _ _ _ _ hw hW
def wX4_spellTo_13  (l2 l3 : Int) (S : St) (K : Int → St → Prop) : Prop := ∃ (Iv : Int → Int → St → Prop) (mu : Int → Int → St → Nat), Iv l2 l3 S ∧ ∀ (l2 l3 : Int) (S : St), Iv l2 l3 S → wX4_spellTo_13' l2 l3 S K  (fun ml2 ml3 T => Iv ml2 ml3 T ∧ mu ml2 ml3 T < mu l2 l3 S)
set_option maxRecDepth 100000 in
set_option maxHeartbeats 4000000 in
theorem ubX4_spellTo_13 {G : xG} {v : Nat → Nat} {sh : Nat → Option Sh} {B : Nat × Nat} {c0 : List va_E} {d : Nat} {Post : xP} {l2 l3 : Int} {S : St} {cs : List va_E} {K : Int → St → Prop} (hd : 2 ≤ d) (hT : sb shC sh) (hS : ∀ b x, sh b = some x → ¬ isS b) (hW : Wv G v sh B c0 S cs) (hP : ∀ (x : Int) (S : St) (cs : List va_E), K x S → Wv G v sh B c0 S cs → Post (none) cs)  (hw : wX4_spellTo_13 l2 l3 S K ) : Z (RX4, cX4_spellTo, 4, none, false) G d Post 13 [(0, .ref (G.1 + v 24)), (1, .ref (G.1 + v 22)), (2, .int (Int32.ofInt (l2))), (3, .int (Int32.ofInt (l3)))] [] cs := by
  unfold wX4_spellTo_13 at hw
  obtain ⟨Iv, mu, h0, hs⟩ := hw
  have key : ∀ (n : Nat) (l2 l3 : Int) (S : St) (cs : List va_E), mu l2 l3 S < n → Iv l2 l3 S → Wv G v sh B c0 S cs → Z (RX4, cX4_spellTo, 4, none, false) G d Post 13 [(0, .ref (G.1 + v 24)), (1, .ref (G.1 + v 22)), (2, .int (Int32.ofInt (l2))), (3, .int (Int32.ofInt (l3)))] [] cs := by
    intro n
    induction n with
    | zero => intro l2 l3 S cs hn; exact absurd hn (Nat.not_lt_zero _)
    | succ n ih =>
      intro l2 l3 S cs hn hI hW
      exact ubX4_spellTo_13' hd hT hS hW hP  (fun l2 l3 S cs hb hW => ih l2 l3 S cs (Nat.lt_of_lt_of_le hb.2 (Nat.le_of_lt_succ hn)) hb.1 hW) (hs l2 l3 S hI)
  exact key _ _ _ _ _ (Nat.lt_succ_self _) h0 hW
def wX4_spellTo  (a1 : Int) (S : St) (K : Int → St → Prop) : Prop := rng a1 → ((a1 < 0 → K 0 S) ∧ ((¬ (a1 < 0)) → ((a1 < 30 → wX4_spellTo_13 (a1) (0) S K) ∧ ((¬ (a1 < 30)) → K 0 S))))
set_option maxRecDepth 100000 in
set_option maxHeartbeats 4000000 in
theorem lX4_spellTo {G : xG} {v : Nat → Nat} {sh : Nat → Option Sh} {B : Nat × Nat} {c0 : List va_E}  {a1 : Int} {S : St} {cs : List va_E} {K : Int → St → Prop} (d : Nat) (hd : 2 ≤ d) (hT : sb shC sh) (hS : ∀ b x, sh b = some x → ¬ isS b) (hW : Wv G v sh B c0 S cs) (g1 : rng a1) (hw : wX4_spellTo a1 S K) : X G yX4_spellTo cX4_spellTo 4 none d [.ref (G.1 + v 24), .ref (G.1 + v 22), .int (Int32.ofInt a1)] cs (vV G v sh B c0 K) := by
  refine X.of false (by decide +kernel) (by decide) (Nat.le_of_ble_eq_true rfl) ?_
  show Z (RX4, cX4_spellTo, 4, none, false) G d _ 0 [(0, .ref (G.1 + v 24)), (1, .ref (G.1 + v 22)), (2, .int (Int32.ofInt a1))] [] cs
  have hP : ∀ (x : Int) (S : St) (cs : List va_E), K x S → Wv G v sh B c0 S cs → vV G v sh B c0 K (none) cs := fun x S cs a b => ⟨x, S, rfl, a, b⟩
  unfold wX4_spellTo at hw
  have hw := hw g1
  refine z_iload_n dX4_spellTo_0 rfl rfl ?_
  refine i_if_lt (tgt := 10) dX4_spellTo_1 (by decide) g1 (fun h1 => ?_) (fun h1 => ?_)
  · have hw := hw.1 h1
    exact z_return dX4_spellTo_10 rfl (hP 0 _ _ hw hW)
  · have hw := hw.2 h1
    refine z_iload_n dX4_spellTo_4 rfl rfl ?_
    refine z_bipush (v := Int32.ofInt 30) dX4_spellTo_5 (by decide) ?_
    refine i_icmp_lt (tgt := 11) dX4_spellTo_7 (by decide) g1 ⟨by decide, by decide⟩ (fun h2 => ?_) (fun h2 => ?_)
    · have hw := hw.1 h2
      refine z_iconst (v := Int32.ofInt 0) dX4_spellTo_11 rfl ?_
      refine z_istore_n dX4_spellTo_12 rfl (by decide) ?_
      refine z_loc (L' := [(0, .ref (G.1 + v 24)), (1, .ref (G.1 + v 22)), (2, .int (Int32.ofInt (a1))), (3, .int (Int32.ofInt (0)))]) (List.forall_mem_cons.mpr ⟨rfl, (List.forall_mem_cons.mpr ⟨rfl, (List.forall_mem_cons.mpr ⟨rfl, (List.forall_mem_cons.mpr ⟨rfl, (fun _ h => nomatch h)⟩)⟩)⟩)⟩) ?_
      refine z_loc (L' := [(0, .ref (G.1 + v 24)), (1, .ref (G.1 + v 22)), (2, .int (Int32.ofInt (a1))), (3, .int (Int32.ofInt (0)))]) (List.forall_mem_cons.mpr ⟨rfl, (List.forall_mem_cons.mpr ⟨rfl, (List.forall_mem_cons.mpr ⟨rfl, (List.forall_mem_cons.mpr ⟨rfl, (fun _ h => nomatch h)⟩)⟩)⟩)⟩) ?_
      exact ubX4_spellTo_13 hd hT hS hW hP  hw
    · have hw := hw.2 h2
      exact z_return dX4_spellTo_10 rfl (hP 0 _ _ hw hW)

def wX8_endTag  (a1 : Int) (S : St) (K : Int → St → Prop) : Prop := rng a1 → (wX5_spell 22 14 S (fun r2 S1 => (wX4_spellTo (a1) S1 (fun r4 S3 => (wX5_put 22 (62) S3 (fun r6 S5 => K 0 S5))))))
set_option maxRecDepth 100000 in
set_option maxHeartbeats 4000000 in
theorem lX8_endTag {G : xG} {v : Nat → Nat} {sh : Nat → Option Sh} {B : Nat × Nat} {c0 : List va_E}  {a1 : Int} {S : St} {cs : List va_E} {K : Int → St → Prop} (d : Nat) (hd : 5 ≤ d) (hT : sb shC sh) (hS : ∀ b x, sh b = some x → ¬ isS b) (hU : sb shW sh) (hW : Wv G v sh B c0 S cs) (g1 : rng a1) (hw : wX8_endTag a1 S K) : X G yX8_endTag cX8_endTag 2 none d [.ref (G.1 + v 210), .int (Int32.ofInt a1)] cs (vV G v sh B c0 K) := by
  refine X.of false (by decide +kernel) (by decide) (Nat.le_of_ble_eq_true rfl) ?_
  show Z (RX8, cX8_endTag, 2, none, false) G d _ 0 [(0, .ref (G.1 + v 210)), (1, .int (Int32.ofInt a1))] [] cs
  have hP : ∀ (x : Int) (S : St) (cs : List va_E), K x S → Wv G v sh B c0 S cs → vV G v sh B c0 K (none) cs := fun x S cs a b => ⟨x, S, rfl, a, b⟩
  unfold wX8_endTag at hw
  have hw := hw g1
  refine z_aload_n dX8_endTag_0 rfl rfl ?_
  refine v_getR hW (hU 210 _ rfl) rfl kX8 fX8_46 dX8_endTag_1 ?_
  refine z_ldcS (i := 14) (tx := "</") (by decide +kernel) dX8_endTag_4 ?_
  have hX := lX5_spell 4 (Nat.le_refl _) hW (show isS 22 by unfold isS; decide) (fun b x h e => hS b x h (e ▸ (show isS 22 by unfold isS; decide))) (show 14 < xN by decide)  hw
  refine z_callV (As := [_]) eX5_spell sX5_spell lX8_85 rfl dX8_endTag_6 (hW.sg (show isS 22 by unfold isS; decide) (fun b x h e => hS b x h (e ▸ (show isS 22 by unfold isS; decide)))).choose_spec.choose_spec.choose_spec.choose_spec.1.choose_spec.1 hX (Nat.le_trans (by decide) hd) rfl (Nat.le_of_ble_eq_true rfl) (fun r cs hp => ?_)
  obtain ⟨r2, S1, rfl, hw, hW⟩ := hp
  refine z_st (st' := []) rfl ?_
  refine z_aload_n dX8_endTag_9 rfl rfl ?_
  refine v_getR hW (hU 210 _ rfl) rfl kX8 fX8_38 dX8_endTag_10 ?_
  refine z_aload_n dX8_endTag_13 rfl rfl ?_
  refine v_getR hW (hU 210 _ rfl) rfl kX8 fX8_46 dX8_endTag_14 ?_
  refine z_iload_n dX8_endTag_17 rfl rfl ?_
  have hX := lX4_spellTo 2 (Nat.le_refl _) hT hS hW g1 hw
  refine z_callV (As := [_, _]) eX4_spellTo sX4_spellTo lX8_112 rfl dX8_endTag_18 (hW.at (hT 24 _ rfl)) hX (Nat.le_trans (by decide) hd) rfl (Nat.le_of_ble_eq_true rfl) (fun r cs hp => ?_)
  obtain ⟨r4, S3, rfl, hw, hW⟩ := hp
  refine z_st (st' := []) rfl ?_
  refine z_aload_n dX8_endTag_21 rfl rfl ?_
  refine v_getR hW (hU 210 _ rfl) rfl kX8 fX8_46 dX8_endTag_22 ?_
  refine z_bipush (v := Int32.ofInt 62) dX8_endTag_25 (by decide) ?_
  have hX := lX5_put 1 (Nat.le_refl _) hW (show isS 22 by unfold isS; decide) (fun b x h e => hS b x h (e ▸ (show isS 22 by unfold isS; decide))) ⟨by decide, by decide⟩ hw
  refine z_callV (As := [_]) eX5_put sX5_put lX8_89 rfl dX8_endTag_27 (hW.sg (show isS 22 by unfold isS; decide) (fun b x h e => hS b x h (e ▸ (show isS 22 by unfold isS; decide)))).choose_spec.choose_spec.choose_spec.choose_spec.1.choose_spec.1 hX (Nat.le_trans (by decide) hd) rfl (Nat.le_of_ble_eq_true rfl) (fun r cs hp => ?_)
  obtain ⟨r6, S5, rfl, hw, hW⟩ := hp
  refine z_st (st' := [.int (Int32.ofInt (r6))]) rfl ?_
  refine z_pop dX8_endTag_30 rfl ?_
  exact z_return dX8_endTag_31 rfl (hP 0 _ _ hw hW)

def wX8_escaped_76  (l1 : Int) (S : St) (K : Int → St → Prop) : Prop := (rng (l1) ∧ (wX5_put 22 (l1) S (fun r2 S1 => K 0 S1)))
set_option maxRecDepth 100000 in
set_option maxHeartbeats 4000000 in
theorem ubX8_escaped_76 {G : xG} {v : Nat → Nat} {sh : Nat → Option Sh} {B : Nat × Nat} {c0 : List va_E} {d : Nat} {Post : xP} {l1 : Int} {S : St} {cs : List va_E} {K : Int → St → Prop} (hd : 5 ≤ d) (hT : sb shC sh) (hS : ∀ b x, sh b = some x → ¬ isS b) (hU : sb shW sh) (hW : Wv G v sh B c0 S cs) (hP : ∀ (x : Int) (S : St) (cs : List va_E), K x S → Wv G v sh B c0 S cs → Post (none) cs)  (hw : wX8_escaped_76 l1 S K ) : Z (RX8, cX8_escaped, 3, none, false) G d Post 76 [(0, .ref (G.1 + v 210)), (1, .int (Int32.ofInt (l1)))] [] cs := by
  unfold wX8_escaped_76 at hw
  refine z_aload_n dX8_escaped_76 rfl rfl ?_
  refine v_getR hW (hU 210 _ rfl) rfl kX8 fX8_46 dX8_escaped_77 ?_
  refine z_iload_n dX8_escaped_80 rfl rfl ?_
  obtain ⟨q3, hw⟩ := hw
  have hX := lX5_put 1 (Nat.le_refl _) hW (show isS 22 by unfold isS; decide) (fun b x h e => hS b x h (e ▸ (show isS 22 by unfold isS; decide))) q3 hw
  refine z_callV (As := [_]) eX5_put sX5_put lX8_89 rfl dX8_escaped_81 (hW.sg (show isS 22 by unfold isS; decide) (fun b x h e => hS b x h (e ▸ (show isS 22 by unfold isS; decide)))).choose_spec.choose_spec.choose_spec.choose_spec.1.choose_spec.1 hX (Nat.le_trans (by decide) hd) rfl (Nat.le_of_ble_eq_true rfl) (fun r cs hp => ?_)
  obtain ⟨r2, S1, rfl, hw, hW⟩ := hp
  refine z_st (st' := [.int (Int32.ofInt (r2))]) rfl ?_
  refine z_pop dX8_escaped_84 rfl ?_
  exact z_return dX8_escaped_85 rfl (hP 0 _ _ hw hW)
def wX8_escaped  (a1 a2 : Int) (S : St) (K : Int → St → Prop) : Prop := rng a1 → rng a2 → ((¬ a1 = 38 → ((¬ a1 = 60 → ((¬ a1 = 62 → ((¬ a1 = 34 → wX8_escaped_76 (a1) S K) ∧ ((¬ (¬ a1 = 34)) → ((a2 = 0 → wX8_escaped_76 (a1) S K) ∧ ((¬ (a2 = 0)) → (wX5_spell 22 12 S (fun r7 S6 => K 0 S6))))))) ∧ ((¬ (¬ a1 = 62)) → (wX5_spell 22 11 S (fun r9 S8 => K 0 S8))))) ∧ ((¬ (¬ a1 = 60)) → (wX5_spell 22 10 S (fun r11 S10 => K 0 S10))))) ∧ ((¬ (¬ a1 = 38)) → (wX5_spell 22 9 S (fun r13 S12 => K 0 S12))))
set_option maxRecDepth 100000 in
set_option maxHeartbeats 4000000 in
theorem lX8_escaped {G : xG} {v : Nat → Nat} {sh : Nat → Option Sh} {B : Nat × Nat} {c0 : List va_E}  {a1 a2 : Int} {S : St} {cs : List va_E} {K : Int → St → Prop} (d : Nat) (hd : 5 ≤ d) (hT : sb shC sh) (hS : ∀ b x, sh b = some x → ¬ isS b) (hU : sb shW sh) (hW : Wv G v sh B c0 S cs) (g1 : rng a1) (g2 : rng a2) (hw : wX8_escaped a1 a2 S K) : X G yX8_escaped cX8_escaped 3 none d [.ref (G.1 + v 210), .int (Int32.ofInt a1), .int (Int32.ofInt a2)] cs (vV G v sh B c0 K) := by
  refine X.of false (by decide +kernel) (by decide) (Nat.le_of_ble_eq_true rfl) ?_
  show Z (RX8, cX8_escaped, 3, none, false) G d _ 0 [(0, .ref (G.1 + v 210)), (1, .int (Int32.ofInt a1)), (2, .int (Int32.ofInt a2))] [] cs
  have hP : ∀ (x : Int) (S : St) (cs : List va_E), K x S → Wv G v sh B c0 S cs → vV G v sh B c0 K (none) cs := fun x S cs a b => ⟨x, S, rfl, a, b⟩
  unfold wX8_escaped at hw
  have hw := hw g1 g2
  refine z_iload_n dX8_escaped_0 rfl rfl ?_
  refine z_bipush (v := Int32.ofInt 38) dX8_escaped_1 (by decide) ?_
  refine i_icmp_ne (tgt := 18) dX8_escaped_3 (by decide) g1 ⟨by decide, by decide⟩ (fun h1 => ?_) (fun h1 => ?_)
  · have hw := hw.1 h1
    refine z_iload_n dX8_escaped_18 rfl rfl ?_
    refine z_bipush (v := Int32.ofInt 60) dX8_escaped_19 (by decide) ?_
    refine i_icmp_ne (tgt := 36) dX8_escaped_21 (by decide) g1 ⟨by decide, by decide⟩ (fun h2 => ?_) (fun h2 => ?_)
    · have hw := hw.1 h2
      refine z_iload_n dX8_escaped_36 rfl rfl ?_
      refine z_bipush (v := Int32.ofInt 62) dX8_escaped_37 (by decide) ?_
      refine i_icmp_ne (tgt := 54) dX8_escaped_39 (by decide) g1 ⟨by decide, by decide⟩ (fun h3 => ?_) (fun h3 => ?_)
      · have hw := hw.1 h3
        refine z_iload_n dX8_escaped_54 rfl rfl ?_
        refine z_bipush (v := Int32.ofInt 34) dX8_escaped_55 (by decide) ?_
        refine i_icmp_ne (tgt := 76) dX8_escaped_57 (by decide) g1 ⟨by decide, by decide⟩ (fun h4 => ?_) (fun h4 => ?_)
        · have hw := hw.1 h4
          refine z_loc (L' := [(0, .ref (G.1 + v 210)), (1, .int (Int32.ofInt (a1)))]) (List.forall_mem_cons.mpr ⟨rfl, (List.forall_mem_cons.mpr ⟨rfl, (fun _ h => nomatch h)⟩)⟩) ?_
          exact ubX8_escaped_76 hd hT hS hU hW hP  hw
        · have hw := hw.2 h4
          refine z_iload_n dX8_escaped_60 rfl rfl ?_
          refine i_if_eq (tgt := 76) dX8_escaped_61 (by decide) g2 (fun h5 => ?_) (fun h5 => ?_)
          · have hw := hw.1 h5
            refine z_loc (L' := [(0, .ref (G.1 + v 210)), (1, .int (Int32.ofInt (a1)))]) (List.forall_mem_cons.mpr ⟨rfl, (List.forall_mem_cons.mpr ⟨rfl, (fun _ h => nomatch h)⟩)⟩) ?_
            exact ubX8_escaped_76 hd hT hS hU hW hP  hw
          · have hw := hw.2 h5
            refine z_aload_n dX8_escaped_64 rfl rfl ?_
            refine v_getR hW (hU 210 _ rfl) rfl kX8 fX8_46 dX8_escaped_65 ?_
            refine z_ldcS (i := 12) (tx := "&quot;") (by decide +kernel) dX8_escaped_68 ?_
            have hX := lX5_spell 4 (Nat.le_refl _) hW (show isS 22 by unfold isS; decide) (fun b x h e => hS b x h (e ▸ (show isS 22 by unfold isS; decide))) (show 12 < xN by decide)  hw
            refine z_callV (As := [_]) eX5_spell sX5_spell lX8_85 rfl dX8_escaped_70 (hW.sg (show isS 22 by unfold isS; decide) (fun b x h e => hS b x h (e ▸ (show isS 22 by unfold isS; decide)))).choose_spec.choose_spec.choose_spec.choose_spec.1.choose_spec.1 hX (Nat.le_trans (by decide) hd) rfl (Nat.le_of_ble_eq_true rfl) (fun r cs hp => ?_)
            obtain ⟨r7, S6, rfl, hw, hW⟩ := hp
            refine z_st (st' := []) rfl ?_
            refine z_goto (tgt := 85) dX8_escaped_73 (by decide) ?_
            exact z_return dX8_escaped_85 rfl (hP 0 _ _ hw hW)
      · have hw := hw.2 h3
        refine z_aload_n dX8_escaped_42 rfl rfl ?_
        refine v_getR hW (hU 210 _ rfl) rfl kX8 fX8_46 dX8_escaped_43 ?_
        refine z_ldcS (i := 11) (tx := "&gt;") (by decide +kernel) dX8_escaped_46 ?_
        have hX := lX5_spell 4 (Nat.le_refl _) hW (show isS 22 by unfold isS; decide) (fun b x h e => hS b x h (e ▸ (show isS 22 by unfold isS; decide))) (show 11 < xN by decide)  hw
        refine z_callV (As := [_]) eX5_spell sX5_spell lX8_85 rfl dX8_escaped_48 (hW.sg (show isS 22 by unfold isS; decide) (fun b x h e => hS b x h (e ▸ (show isS 22 by unfold isS; decide)))).choose_spec.choose_spec.choose_spec.choose_spec.1.choose_spec.1 hX (Nat.le_trans (by decide) hd) rfl (Nat.le_of_ble_eq_true rfl) (fun r cs hp => ?_)
        obtain ⟨r9, S8, rfl, hw, hW⟩ := hp
        refine z_st (st' := []) rfl ?_
        refine z_goto (tgt := 85) dX8_escaped_51 (by decide) ?_
        exact z_return dX8_escaped_85 rfl (hP 0 _ _ hw hW)
    · have hw := hw.2 h2
      refine z_aload_n dX8_escaped_24 rfl rfl ?_
      refine v_getR hW (hU 210 _ rfl) rfl kX8 fX8_46 dX8_escaped_25 ?_
      refine z_ldcS (i := 10) (tx := "&lt;") (by decide +kernel) dX8_escaped_28 ?_
      have hX := lX5_spell 4 (Nat.le_refl _) hW (show isS 22 by unfold isS; decide) (fun b x h e => hS b x h (e ▸ (show isS 22 by unfold isS; decide))) (show 10 < xN by decide)  hw
      refine z_callV (As := [_]) eX5_spell sX5_spell lX8_85 rfl dX8_escaped_30 (hW.sg (show isS 22 by unfold isS; decide) (fun b x h e => hS b x h (e ▸ (show isS 22 by unfold isS; decide)))).choose_spec.choose_spec.choose_spec.choose_spec.1.choose_spec.1 hX (Nat.le_trans (by decide) hd) rfl (Nat.le_of_ble_eq_true rfl) (fun r cs hp => ?_)
      obtain ⟨r11, S10, rfl, hw, hW⟩ := hp
      refine z_st (st' := []) rfl ?_
      refine z_goto (tgt := 85) dX8_escaped_33 (by decide) ?_
      exact z_return dX8_escaped_85 rfl (hP 0 _ _ hw hW)
  · have hw := hw.2 h1
    refine z_aload_n dX8_escaped_6 rfl rfl ?_
    refine v_getR hW (hU 210 _ rfl) rfl kX8 fX8_46 dX8_escaped_7 ?_
    refine z_ldcS (i := 9) (tx := "&amp;") (by decide +kernel) dX8_escaped_10 ?_
    have hX := lX5_spell 4 (Nat.le_refl _) hW (show isS 22 by unfold isS; decide) (fun b x h e => hS b x h (e ▸ (show isS 22 by unfold isS; decide))) (show 9 < xN by decide)  hw
    refine z_callV (As := [_]) eX5_spell sX5_spell lX8_85 rfl dX8_escaped_12 (hW.sg (show isS 22 by unfold isS; decide) (fun b x h e => hS b x h (e ▸ (show isS 22 by unfold isS; decide)))).choose_spec.choose_spec.choose_spec.choose_spec.1.choose_spec.1 hX (Nat.le_trans (by decide) hd) rfl (Nat.le_of_ble_eq_true rfl) (fun r cs hp => ?_)
    obtain ⟨r13, S12, rfl, hw, hW⟩ := hp
    refine z_st (st' := []) rfl ?_
    refine z_goto (tgt := 85) dX8_escaped_15 (by decide) ?_
    exact z_return dX8_escaped_85 rfl (hP 0 _ _ hw hW)

def wX8_number_61'  (l2 l4 l6 : Int) (S : St) (K : Int → St → Prop) (B61 : Int → Int → Int → St → Prop) : Prop := (rng (l6) ∧ ((10 ≤ l6 → K 0 S) ∧ ((¬ (10 ≤ l6)) → (rngL (l4) ∧ ((l4 ≤ 0 → K 0 S) ∧ ((¬ (l4 ≤ 0)) → (rngL (l2) ∧ (rngL (l4) ∧ ((¬ l4 = 0) ∧ (rngL ((Int.tdiv (l2) (l4))) ∧ (rng ((48 + ((Int.tdiv (l2) (l4)) - Int.tdiv ((Int.tdiv (l2) (l4))) (10) * 10))) ∧ (wX5_put 22 ((48 + ((Int.tdiv (l2) (l4)) - Int.tdiv ((Int.tdiv (l2) (l4))) (10) * 10))) S (fun r10 S9 => (rngL (l4) ∧ (∀ x13 : Int, x13 = (Int.tdiv (l4) (10)) → B61 (l2) (x13) ((l6 + 1)) S9)))))))))))))))
set_option maxRecDepth 100000 in
set_option maxHeartbeats 4000000 in
theorem ubX8_number_61' {G : xG} {v : Nat → Nat} {sh : Nat → Option Sh} {B : Nat × Nat} {c0 : List va_E} {d : Nat} {Post : xP} {l2 l4 l6 : Int} {S : St} {cs : List va_E} {K : Int → St → Prop} {B61 : Int → Int → Int → St → Prop} (hd : 2 ≤ d) (hT : sb shC sh) (hS : ∀ b x, sh b = some x → ¬ isS b) (hU : sb shW sh) (hW : Wv G v sh B c0 S cs) (hP : ∀ (x : Int) (S : St) (cs : List va_E), K x S → Wv G v sh B c0 S cs → Post (none) cs) (hB61 : ∀ (l2 : Int) (l4 : Int) (l6 : Int) (S : St) (cs : List va_E), B61 l2 l4 l6 S → Wv G v sh B c0 S cs → Z (RX8, cX8_number, 7, none, false) G d Post 61 [(0, .ref (G.1 + v 210)), (2, .long (Int64.ofInt (l2))), (4, .long (Int64.ofInt (l4))), (6, .int (Int32.ofInt (l6)))] [] cs) (hw : wX8_number_61' l2 l4 l6 S K B61) : Z (RX8, cX8_number, 7, none, false) G d Post 61 [(0, .ref (G.1 + v 210)), (2, .long (Int64.ofInt (l2))), (4, .long (Int64.ofInt (l4))), (6, .int (Int32.ofInt (l6)))] [] cs := by
  unfold wX8_number_61' at hw
  refine z_iload dX8_number_61 rfl ?_
  refine z_bipush (v := Int32.ofInt 10) dX8_number_63 (by decide) ?_
  obtain ⟨q2, hw⟩ := hw
  refine i_icmp_ge (tgt := 109) dX8_number_65 (by decide) q2 ⟨by decide, by decide⟩ (fun h1 => ?_) (fun h1 => ?_)
  · have hw := hw.1 h1
    exact z_return dX8_number_109 rfl (hP 0 _ _ hw hW)
  · have hw := hw.2 h1
    refine z_lload dX8_number_68 rfl ?_
    refine z_lconst (v := Int64.ofInt 0) dX8_number_70 (by decide) ?_
    obtain ⟨q3, hw⟩ := hw
    refine i_lcmp_le (tgt := 109) dX8_number_71 dX8_number_72 (by decide) q3 ⟨by decide, by decide⟩ (fun h4 => ?_) (fun h4 => ?_)
    · have hw := hw.1 h4
      exact z_return dX8_number_109 rfl (hP 0 _ _ hw hW)
    · have hw := hw.2 h4
      refine z_aload_n dX8_number_75 rfl rfl ?_
      refine v_getR hW (hU 210 _ rfl) rfl kX8 fX8_46 dX8_number_76 ?_
      refine z_bipush (v := Int32.ofInt 48) dX8_number_79 (by decide) ?_
      refine z_lload_n dX8_number_81 rfl rfl ?_
      refine z_lload dX8_number_82 rfl ?_
      obtain ⟨q5, hw⟩ := hw
      obtain ⟨q6, hw⟩ := hw
      obtain ⟨q7, hw⟩ := hw
      refine i_ldiv dX8_number_84 q7 q5 q6 ?_
      refine i_ldc2 (n := 10) qX8_179 rfl dX8_number_85 ?_
      obtain ⟨q8, hw⟩ := hw
      refine i_lrem dX8_number_88 (by decide) q8 ⟨by decide, by decide⟩ ?_
      refine i_l2i dX8_number_89 ?_
      refine i_iadd dX8_number_90 ?_
      obtain ⟨q11, hw⟩ := hw
      have hX := lX5_put 1 (Nat.le_refl _) hW (show isS 22 by unfold isS; decide) (fun b x h e => hS b x h (e ▸ (show isS 22 by unfold isS; decide))) q11 hw
      refine z_callV (As := [_]) eX5_put sX5_put lX8_89 rfl dX8_number_91 (hW.sg (show isS 22 by unfold isS; decide) (fun b x h e => hS b x h (e ▸ (show isS 22 by unfold isS; decide)))).choose_spec.choose_spec.choose_spec.choose_spec.1.choose_spec.1 hX (Nat.le_trans (by decide) hd) rfl (Nat.le_of_ble_eq_true rfl) (fun r cs hp => ?_)
      obtain ⟨r10, S9, rfl, hw, hW⟩ := hp
      refine z_st (st' := [.int (Int32.ofInt (r10))]) rfl ?_
      refine z_pop dX8_number_94 rfl ?_
      refine z_lload dX8_number_95 rfl ?_
      refine i_ldc2 (n := 10) qX8_179 rfl dX8_number_97 ?_
      obtain ⟨q12, hw⟩ := hw
      refine i_ldiv dX8_number_100 (by decide) q12 ⟨by decide, by decide⟩ ?_
      obtain ⟨x13, hx13⟩ : ∃ x : Int, x = (Int.tdiv (l4) (10)) := ⟨_, rfl⟩
      have hw := hw x13 hx13
      refine z_st (st' := [.long (Int64.ofInt x13)]) (by rw [hx13]) ?_
      refine z_lstore dX8_number_101 (by decide) ?_
      refine z_loc (L' := [(0, .ref (G.1 + v 210)), (2, .long (Int64.ofInt (l2))), (4, .long (Int64.ofInt (x13))), (6, .int (Int32.ofInt (l6)))]) (List.forall_mem_cons.mpr ⟨rfl, (List.forall_mem_cons.mpr ⟨rfl, (List.forall_mem_cons.mpr ⟨rfl, (List.forall_mem_cons.mpr ⟨rfl, (fun _ h => nomatch h)⟩)⟩)⟩)⟩) ?_
      refine i_iinc (l := l6) dX8_number_103 rfl (by decide) ?_
      refine z_loc (L' := [(0, .ref (G.1 + v 210)), (2, .long (Int64.ofInt (l2))), (4, .long (Int64.ofInt (x13))), (6, .int (Int32.ofInt ((l6 + 1))))]) (List.forall_mem_cons.mpr ⟨rfl, (List.forall_mem_cons.mpr ⟨rfl, (List.forall_mem_cons.mpr ⟨rfl, (List.forall_mem_cons.mpr ⟨rfl, (fun _ h => nomatch h)⟩)⟩)⟩)⟩) ?_
      refine z_goto (tgt := 61) dX8_number_106 (by decide) ?_
      refine z_loc (L' := [(0, .ref (G.1 + v 210)), (2, .long (Int64.ofInt (l2))), (4, .long (Int64.ofInt (x13))), (6, .int (Int32.ofInt ((l6 + 1))))]) (List.forall_mem_cons.mpr ⟨rfl, (List.forall_mem_cons.mpr ⟨rfl, (List.forall_mem_cons.mpr ⟨rfl, (List.forall_mem_cons.mpr ⟨rfl, (fun _ h => nomatch h)⟩)⟩)⟩)⟩) ?_
      exact hB61 _ _ _ _ _ hw hW
def wX8_number_61  (l2 l4 l6 : Int) (S : St) (K : Int → St → Prop) : Prop := ∃ (Iv : Int → Int → Int → St → Prop) (mu : Int → Int → Int → St → Nat), Iv l2 l4 l6 S ∧ ∀ (l2 l4 l6 : Int) (S : St), Iv l2 l4 l6 S → wX8_number_61' l2 l4 l6 S K  (fun ml2 ml4 ml6 T => Iv ml2 ml4 ml6 T ∧ mu ml2 ml4 ml6 T < mu l2 l4 l6 S)
set_option maxRecDepth 100000 in
set_option maxHeartbeats 4000000 in
theorem ubX8_number_61 {G : xG} {v : Nat → Nat} {sh : Nat → Option Sh} {B : Nat × Nat} {c0 : List va_E} {d : Nat} {Post : xP} {l2 l4 l6 : Int} {S : St} {cs : List va_E} {K : Int → St → Prop} (hd : 2 ≤ d) (hT : sb shC sh) (hS : ∀ b x, sh b = some x → ¬ isS b) (hU : sb shW sh) (hW : Wv G v sh B c0 S cs) (hP : ∀ (x : Int) (S : St) (cs : List va_E), K x S → Wv G v sh B c0 S cs → Post (none) cs)  (hw : wX8_number_61 l2 l4 l6 S K ) : Z (RX8, cX8_number, 7, none, false) G d Post 61 [(0, .ref (G.1 + v 210)), (2, .long (Int64.ofInt (l2))), (4, .long (Int64.ofInt (l4))), (6, .int (Int32.ofInt (l6)))] [] cs := by
  unfold wX8_number_61 at hw
  obtain ⟨Iv, mu, h0, hs⟩ := hw
  have key : ∀ (n : Nat) (l2 l4 l6 : Int) (S : St) (cs : List va_E), mu l2 l4 l6 S < n → Iv l2 l4 l6 S → Wv G v sh B c0 S cs → Z (RX8, cX8_number, 7, none, false) G d Post 61 [(0, .ref (G.1 + v 210)), (2, .long (Int64.ofInt (l2))), (4, .long (Int64.ofInt (l4))), (6, .int (Int32.ofInt (l6)))] [] cs := by
    intro n
    induction n with
    | zero => intro l2 l4 l6 S cs hn; exact absurd hn (Nat.not_lt_zero _)
    | succ n ih =>
      intro l2 l4 l6 S cs hn hI hW
      exact ubX8_number_61' hd hT hS hU hW hP  (fun l2 l4 l6 S cs hb hW => ih l2 l4 l6 S cs (Nat.lt_of_lt_of_le hb.2 (Nat.le_of_lt_succ hn)) hb.1 hW) (hs l2 l4 l6 S hI)
  exact key _ _ _ _ _ _ (Nat.lt_succ_self _) h0 hW
def wX8_number_58  (l2 l4 : Int) (S : St) (K : Int → St → Prop) : Prop := wX8_number_61 (l2) (l4) (0) S K
set_option maxRecDepth 100000 in
set_option maxHeartbeats 4000000 in
theorem ubX8_number_58 {G : xG} {v : Nat → Nat} {sh : Nat → Option Sh} {B : Nat × Nat} {c0 : List va_E} {d : Nat} {Post : xP} {l2 l4 : Int} {S : St} {cs : List va_E} {K : Int → St → Prop} (hd : 2 ≤ d) (hT : sb shC sh) (hS : ∀ b x, sh b = some x → ¬ isS b) (hU : sb shW sh) (hW : Wv G v sh B c0 S cs) (hP : ∀ (x : Int) (S : St) (cs : List va_E), K x S → Wv G v sh B c0 S cs → Post (none) cs)  (hw : wX8_number_58 l2 l4 S K ) : Z (RX8, cX8_number, 7, none, false) G d Post 58 [(0, .ref (G.1 + v 210)), (2, .long (Int64.ofInt (l2))), (4, .long (Int64.ofInt (l4)))] [] cs := by
  unfold wX8_number_58 at hw
  refine z_iconst (v := Int32.ofInt 0) dX8_number_58 rfl ?_
  refine z_istore dX8_number_59 (by decide) ?_
  refine z_loc (L' := [(0, .ref (G.1 + v 210)), (2, .long (Int64.ofInt (l2))), (4, .long (Int64.ofInt (l4))), (6, .int (Int32.ofInt (0)))]) (List.forall_mem_cons.mpr ⟨rfl, (List.forall_mem_cons.mpr ⟨rfl, (List.forall_mem_cons.mpr ⟨rfl, (List.forall_mem_cons.mpr ⟨rfl, (fun _ h => nomatch h)⟩)⟩)⟩)⟩) ?_
  refine z_loc (L' := [(0, .ref (G.1 + v 210)), (2, .long (Int64.ofInt (l2))), (4, .long (Int64.ofInt (l4))), (6, .int (Int32.ofInt (0)))]) (List.forall_mem_cons.mpr ⟨rfl, (List.forall_mem_cons.mpr ⟨rfl, (List.forall_mem_cons.mpr ⟨rfl, (List.forall_mem_cons.mpr ⟨rfl, (fun _ h => nomatch h)⟩)⟩)⟩)⟩) ?_
  exact ubX8_number_61 hd hT hS hU hW hP  hw
def wX8_number_44  (l1 l2 l4 : Int) (S : St) (K : Int → St → Prop) : Prop := (rng (l1) ∧ ((0 ≤ l1 → wX8_number_58 (l2) (l4) S K) ∧ ((¬ (0 ≤ l1)) → (wX5_put 22 (45) S (fun r4 S3 => wX8_number_58 (l2) (l4) S3 K)))))
set_option maxRecDepth 100000 in
set_option maxHeartbeats 4000000 in
theorem ubX8_number_44 {G : xG} {v : Nat → Nat} {sh : Nat → Option Sh} {B : Nat × Nat} {c0 : List va_E} {d : Nat} {Post : xP} {l1 l2 l4 : Int} {S : St} {cs : List va_E} {K : Int → St → Prop} (hd : 2 ≤ d) (hT : sb shC sh) (hS : ∀ b x, sh b = some x → ¬ isS b) (hU : sb shW sh) (hW : Wv G v sh B c0 S cs) (hP : ∀ (x : Int) (S : St) (cs : List va_E), K x S → Wv G v sh B c0 S cs → Post (none) cs)  (hw : wX8_number_44 l1 l2 l4 S K ) : Z (RX8, cX8_number, 7, none, false) G d Post 44 [(0, .ref (G.1 + v 210)), (1, .int (Int32.ofInt (l1))), (2, .long (Int64.ofInt (l2))), (4, .long (Int64.ofInt (l4)))] [] cs := by
  unfold wX8_number_44 at hw
  refine z_iload_n dX8_number_44 rfl rfl ?_
  obtain ⟨q2, hw⟩ := hw
  refine i_if_ge (tgt := 58) dX8_number_45 (by decide) q2 (fun h1 => ?_) (fun h1 => ?_)
  · have hw := hw.1 h1
    refine z_loc (L' := [(0, .ref (G.1 + v 210)), (2, .long (Int64.ofInt (l2))), (4, .long (Int64.ofInt (l4)))]) (List.forall_mem_cons.mpr ⟨rfl, (List.forall_mem_cons.mpr ⟨rfl, (List.forall_mem_cons.mpr ⟨rfl, (fun _ h => nomatch h)⟩)⟩)⟩) ?_
    exact ubX8_number_58 hd hT hS hU hW hP  hw
  · have hw := hw.2 h1
    refine z_aload_n dX8_number_48 rfl rfl ?_
    refine v_getR hW (hU 210 _ rfl) rfl kX8 fX8_46 dX8_number_49 ?_
    refine z_bipush (v := Int32.ofInt 45) dX8_number_52 (by decide) ?_
    have hX := lX5_put 1 (Nat.le_refl _) hW (show isS 22 by unfold isS; decide) (fun b x h e => hS b x h (e ▸ (show isS 22 by unfold isS; decide))) ⟨by decide, by decide⟩ hw
    refine z_callV (As := [_]) eX5_put sX5_put lX8_89 rfl dX8_number_54 (hW.sg (show isS 22 by unfold isS; decide) (fun b x h e => hS b x h (e ▸ (show isS 22 by unfold isS; decide)))).choose_spec.choose_spec.choose_spec.choose_spec.1.choose_spec.1 hX (Nat.le_trans (by decide) hd) rfl (Nat.le_of_ble_eq_true rfl) (fun r cs hp => ?_)
    obtain ⟨r4, S3, rfl, hw, hW⟩ := hp
    refine z_st (st' := [.int (Int32.ofInt (r4))]) rfl ?_
    refine z_pop dX8_number_57 rfl ?_
    refine z_loc (L' := [(0, .ref (G.1 + v 210)), (2, .long (Int64.ofInt (l2))), (4, .long (Int64.ofInt (l4)))]) (List.forall_mem_cons.mpr ⟨rfl, (List.forall_mem_cons.mpr ⟨rfl, (List.forall_mem_cons.mpr ⟨rfl, (fun _ h => nomatch h)⟩)⟩)⟩) ?_
    exact ubX8_number_58 hd hT hS hU hW hP  hw
def wX8_number_12'  (l1 l2 l4 l6 : Int) (S : St) (K : Int → St → Prop) (B12 : Int → Int → Int → Int → St → Prop) : Prop := (rng (l6) ∧ ((9 ≤ l6 → wX8_number_44 (l1) (l2) (l4) S K) ∧ ((¬ (9 ≤ l6)) → (rngL ((l4 * 10)) ∧ (rngL (l2) ∧ ((l2 < (l4 * 10) → wX8_number_44 (l1) (l2) (l4) S K) ∧ ((¬ (l2 < (l4 * 10))) → (∀ x6 : Int, x6 = (l4 * 10) → B12 (l1) (l2) (x6) ((l6 + 1)) S))))))))
set_option maxRecDepth 100000 in
set_option maxHeartbeats 4000000 in
theorem ubX8_number_12' {G : xG} {v : Nat → Nat} {sh : Nat → Option Sh} {B : Nat × Nat} {c0 : List va_E} {d : Nat} {Post : xP} {l1 l2 l4 l6 : Int} {S : St} {cs : List va_E} {K : Int → St → Prop} {B12 : Int → Int → Int → Int → St → Prop} (hd : 2 ≤ d) (hT : sb shC sh) (hS : ∀ b x, sh b = some x → ¬ isS b) (hU : sb shW sh) (hW : Wv G v sh B c0 S cs) (hP : ∀ (x : Int) (S : St) (cs : List va_E), K x S → Wv G v sh B c0 S cs → Post (none) cs) (hB12 : ∀ (l1 : Int) (l2 : Int) (l4 : Int) (l6 : Int) (S : St) (cs : List va_E), B12 l1 l2 l4 l6 S → Wv G v sh B c0 S cs → Z (RX8, cX8_number, 7, none, false) G d Post 12 [(0, .ref (G.1 + v 210)), (1, .int (Int32.ofInt (l1))), (2, .long (Int64.ofInt (l2))), (4, .long (Int64.ofInt (l4))), (6, .int (Int32.ofInt (l6)))] [] cs) (hw : wX8_number_12' l1 l2 l4 l6 S K B12) : Z (RX8, cX8_number, 7, none, false) G d Post 12 [(0, .ref (G.1 + v 210)), (1, .int (Int32.ofInt (l1))), (2, .long (Int64.ofInt (l2))), (4, .long (Int64.ofInt (l4))), (6, .int (Int32.ofInt (l6)))] [] cs := by
  unfold wX8_number_12' at hw
  refine z_iload dX8_number_12 rfl ?_
  refine z_bipush (v := Int32.ofInt 9) dX8_number_14 (by decide) ?_
  obtain ⟨q2, hw⟩ := hw
  refine i_icmp_ge (tgt := 44) dX8_number_16 (by decide) q2 ⟨by decide, by decide⟩ (fun h1 => ?_) (fun h1 => ?_)
  · have hw := hw.1 h1
    refine z_loc (L' := [(0, .ref (G.1 + v 210)), (1, .int (Int32.ofInt (l1))), (2, .long (Int64.ofInt (l2))), (4, .long (Int64.ofInt (l4)))]) (List.forall_mem_cons.mpr ⟨rfl, (List.forall_mem_cons.mpr ⟨rfl, (List.forall_mem_cons.mpr ⟨rfl, (List.forall_mem_cons.mpr ⟨rfl, (fun _ h => nomatch h)⟩)⟩)⟩)⟩) ?_
    exact ubX8_number_44 hd hT hS hU hW hP  hw
  · have hw := hw.2 h1
    refine z_lload dX8_number_19 rfl ?_
    refine i_ldc2 (n := 10) qX8_179 rfl dX8_number_21 ?_
    refine i_lmul dX8_number_24 ?_
    refine z_lload_n dX8_number_25 rfl rfl ?_
    obtain ⟨q3, hw⟩ := hw
    obtain ⟨q4, hw⟩ := hw
    refine i_lcmp_gt (tgt := 44) dX8_number_26 dX8_number_27 (by decide) q3 q4 (fun h5 => ?_) (fun h5 => ?_)
    · have hw := hw.1 h5
      refine z_loc (L' := [(0, .ref (G.1 + v 210)), (1, .int (Int32.ofInt (l1))), (2, .long (Int64.ofInt (l2))), (4, .long (Int64.ofInt (l4)))]) (List.forall_mem_cons.mpr ⟨rfl, (List.forall_mem_cons.mpr ⟨rfl, (List.forall_mem_cons.mpr ⟨rfl, (List.forall_mem_cons.mpr ⟨rfl, (fun _ h => nomatch h)⟩)⟩)⟩)⟩) ?_
      exact ubX8_number_44 hd hT hS hU hW hP  hw
    · have hw := hw.2 h5
      refine z_lload dX8_number_30 rfl ?_
      refine i_ldc2 (n := 10) qX8_179 rfl dX8_number_32 ?_
      refine i_lmul dX8_number_35 ?_
      obtain ⟨x6, hx6⟩ : ∃ x : Int, x = (l4 * 10) := ⟨_, rfl⟩
      have hw := hw x6 hx6
      refine z_st (st' := [.long (Int64.ofInt x6)]) (by rw [hx6]) ?_
      refine z_lstore dX8_number_36 (by decide) ?_
      refine z_loc (L' := [(0, .ref (G.1 + v 210)), (1, .int (Int32.ofInt (l1))), (2, .long (Int64.ofInt (l2))), (4, .long (Int64.ofInt (x6))), (6, .int (Int32.ofInt (l6)))]) (List.forall_mem_cons.mpr ⟨rfl, (List.forall_mem_cons.mpr ⟨rfl, (List.forall_mem_cons.mpr ⟨rfl, (List.forall_mem_cons.mpr ⟨rfl, (List.forall_mem_cons.mpr ⟨rfl, (fun _ h => nomatch h)⟩)⟩)⟩)⟩)⟩) ?_
      refine i_iinc (l := l6) dX8_number_38 rfl (by decide) ?_
      refine z_loc (L' := [(0, .ref (G.1 + v 210)), (1, .int (Int32.ofInt (l1))), (2, .long (Int64.ofInt (l2))), (4, .long (Int64.ofInt (x6))), (6, .int (Int32.ofInt ((l6 + 1))))]) (List.forall_mem_cons.mpr ⟨rfl, (List.forall_mem_cons.mpr ⟨rfl, (List.forall_mem_cons.mpr ⟨rfl, (List.forall_mem_cons.mpr ⟨rfl, (List.forall_mem_cons.mpr ⟨rfl, (fun _ h => nomatch h)⟩)⟩)⟩)⟩)⟩) ?_
      refine z_goto (tgt := 12) dX8_number_41 (by decide) ?_
      refine z_loc (L' := [(0, .ref (G.1 + v 210)), (1, .int (Int32.ofInt (l1))), (2, .long (Int64.ofInt (l2))), (4, .long (Int64.ofInt (x6))), (6, .int (Int32.ofInt ((l6 + 1))))]) (List.forall_mem_cons.mpr ⟨rfl, (List.forall_mem_cons.mpr ⟨rfl, (List.forall_mem_cons.mpr ⟨rfl, (List.forall_mem_cons.mpr ⟨rfl, (List.forall_mem_cons.mpr ⟨rfl, (fun _ h => nomatch h)⟩)⟩)⟩)⟩)⟩) ?_
      exact hB12 _ _ _ _ _ _ hw hW
def wX8_number_12  (l1 l2 l4 l6 : Int) (S : St) (K : Int → St → Prop) : Prop := ∃ (Iv : Int → Int → Int → Int → St → Prop) (mu : Int → Int → Int → Int → St → Nat), Iv l1 l2 l4 l6 S ∧ ∀ (l1 l2 l4 l6 : Int) (S : St), Iv l1 l2 l4 l6 S → wX8_number_12' l1 l2 l4 l6 S K  (fun ml1 ml2 ml4 ml6 T => Iv ml1 ml2 ml4 ml6 T ∧ mu ml1 ml2 ml4 ml6 T < mu l1 l2 l4 l6 S)
set_option maxRecDepth 100000 in
set_option maxHeartbeats 4000000 in
theorem ubX8_number_12 {G : xG} {v : Nat → Nat} {sh : Nat → Option Sh} {B : Nat × Nat} {c0 : List va_E} {d : Nat} {Post : xP} {l1 l2 l4 l6 : Int} {S : St} {cs : List va_E} {K : Int → St → Prop} (hd : 2 ≤ d) (hT : sb shC sh) (hS : ∀ b x, sh b = some x → ¬ isS b) (hU : sb shW sh) (hW : Wv G v sh B c0 S cs) (hP : ∀ (x : Int) (S : St) (cs : List va_E), K x S → Wv G v sh B c0 S cs → Post (none) cs)  (hw : wX8_number_12 l1 l2 l4 l6 S K ) : Z (RX8, cX8_number, 7, none, false) G d Post 12 [(0, .ref (G.1 + v 210)), (1, .int (Int32.ofInt (l1))), (2, .long (Int64.ofInt (l2))), (4, .long (Int64.ofInt (l4))), (6, .int (Int32.ofInt (l6)))] [] cs := by
  unfold wX8_number_12 at hw
  obtain ⟨Iv, mu, h0, hs⟩ := hw
  have key : ∀ (n : Nat) (l1 l2 l4 l6 : Int) (S : St) (cs : List va_E), mu l1 l2 l4 l6 S < n → Iv l1 l2 l4 l6 S → Wv G v sh B c0 S cs → Z (RX8, cX8_number, 7, none, false) G d Post 12 [(0, .ref (G.1 + v 210)), (1, .int (Int32.ofInt (l1))), (2, .long (Int64.ofInt (l2))), (4, .long (Int64.ofInt (l4))), (6, .int (Int32.ofInt (l6)))] [] cs := by
    intro n
    induction n with
    | zero => intro l1 l2 l4 l6 S cs hn; exact absurd hn (Nat.not_lt_zero _)
    | succ n ih =>
      intro l1 l2 l4 l6 S cs hn hI hW
      exact ubX8_number_12' hd hT hS hU hW hP  (fun l1 l2 l4 l6 S cs hb hW => ih l1 l2 l4 l6 S cs (Nat.lt_of_lt_of_le hb.2 (Nat.le_of_lt_succ hn)) hb.1 hW) (hs l1 l2 l4 l6 S hI)
  exact key _ _ _ _ _ _ _ (Nat.lt_succ_self _) h0 hW
def wX8_number  (a1 : Int) (S : St) (K : Int → St → Prop) : Prop := rng a1 → (rngL (a1) ∧ wX8_number_12 (a1) ((if 0 < a1 then a1 else -a1)) (1) (0) S K)
set_option maxRecDepth 100000 in
set_option maxHeartbeats 4000000 in
theorem lX8_number {G : xG} {v : Nat → Nat} {sh : Nat → Option Sh} {B : Nat × Nat} {c0 : List va_E}  {a1 : Int} {S : St} {cs : List va_E} {K : Int → St → Prop} (d : Nat) (hd : 2 ≤ d) (hT : sb shC sh) (hS : ∀ b x, sh b = some x → ¬ isS b) (hU : sb shW sh) (hW : Wv G v sh B c0 S cs) (g1 : rng a1) (hw : wX8_number a1 S K) : X G yX8_number cX8_number 7 none d [.ref (G.1 + v 210), .int (Int32.ofInt a1)] cs (vV G v sh B c0 K) := by
  refine X.of false (by decide +kernel) (by decide) (Nat.le_of_ble_eq_true rfl) ?_
  show Z (RX8, cX8_number, 7, none, false) G d _ 0 [(0, .ref (G.1 + v 210)), (1, .int (Int32.ofInt a1))] [] cs
  have hP : ∀ (x : Int) (S : St) (cs : List va_E), K x S → Wv G v sh B c0 S cs → vV G v sh B c0 K (none) cs := fun x S cs a b => ⟨x, S, rfl, a, b⟩
  unfold wX8_number at hw
  have hw := hw g1
  refine z_iload_n dX8_number_0 rfl rfl ?_
  refine i_i2l dX8_number_1 g1 ?_
  obtain ⟨q1, hw⟩ := hw
  refine v_mabsl lX8_173 sJ9_abs_067f4 bJ9 dX8_number_2 (Nat.le_trans (by decide) hd) (Nat.le_of_ble_eq_true rfl) q1 ?_
  refine z_lstore_n dX8_number_5 rfl (by decide) ?_
  refine z_loc (L' := [(0, .ref (G.1 + v 210)), (1, .int (Int32.ofInt (a1))), (2, .long (Int64.ofInt ((if 0 < a1 then a1 else -a1))))]) (List.forall_mem_cons.mpr ⟨rfl, (List.forall_mem_cons.mpr ⟨rfl, (List.forall_mem_cons.mpr ⟨rfl, (fun _ h => nomatch h)⟩)⟩)⟩) ?_
  refine z_lconst (v := Int64.ofInt 1) dX8_number_6 (by decide) ?_
  refine z_lstore dX8_number_7 (by decide) ?_
  refine z_loc (L' := [(0, .ref (G.1 + v 210)), (1, .int (Int32.ofInt (a1))), (2, .long (Int64.ofInt ((if 0 < a1 then a1 else -a1)))), (4, .long (Int64.ofInt (1)))]) (List.forall_mem_cons.mpr ⟨rfl, (List.forall_mem_cons.mpr ⟨rfl, (List.forall_mem_cons.mpr ⟨rfl, (List.forall_mem_cons.mpr ⟨rfl, (fun _ h => nomatch h)⟩)⟩)⟩)⟩) ?_
  refine z_iconst (v := Int32.ofInt 0) dX8_number_9 rfl ?_
  refine z_istore dX8_number_10 (by decide) ?_
  refine z_loc (L' := [(0, .ref (G.1 + v 210)), (1, .int (Int32.ofInt (a1))), (2, .long (Int64.ofInt ((if 0 < a1 then a1 else -a1)))), (4, .long (Int64.ofInt (1))), (6, .int (Int32.ofInt (0)))]) (List.forall_mem_cons.mpr ⟨rfl, (List.forall_mem_cons.mpr ⟨rfl, (List.forall_mem_cons.mpr ⟨rfl, (List.forall_mem_cons.mpr ⟨rfl, (List.forall_mem_cons.mpr ⟨rfl, (fun _ h => nomatch h)⟩)⟩)⟩)⟩)⟩) ?_
  refine z_loc (L' := [(0, .ref (G.1 + v 210)), (1, .int (Int32.ofInt (a1))), (2, .long (Int64.ofInt ((if 0 < a1 then a1 else -a1)))), (4, .long (Int64.ofInt (1))), (6, .int (Int32.ofInt (0)))]) (List.forall_mem_cons.mpr ⟨rfl, (List.forall_mem_cons.mpr ⟨rfl, (List.forall_mem_cons.mpr ⟨rfl, (List.forall_mem_cons.mpr ⟨rfl, (List.forall_mem_cons.mpr ⟨rfl, (fun _ h => nomatch h)⟩)⟩)⟩)⟩)⟩) ?_
  exact ubX8_number_12 hd hT hS hU hW hP  hw

