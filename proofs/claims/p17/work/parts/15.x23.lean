def wX7_placeOf_3'  (l1 l3 l4 : Int) (S : St) (K : Int → St → Prop) (B3 : Int → Int → Int → St → Prop) : Prop := (rng (l4) ∧ (rng (l3) ∧ ((l3 ≤ l4 → K (l3) S) ∧ ((¬ (l3 ≤ l4)) → (wX5_at 4 (l4) S (fun r5 S4 => (rng (r5) ∧ (rng (l1) ∧ ((¬ r5 = l1 → B3 (l1) (l3) ((l4 + 1)) S4) ∧ ((¬ (¬ r5 = l1)) → K (l4) S4))))))))))
set_option maxRecDepth 100000 in
set_option maxHeartbeats 4000000 in
theorem ubX7_placeOf_3' {G : xG} {v : Nat → Nat} {sh : Nat → Option Sh} {B : Nat × Nat} {c0 : List va_E} {d : Nat} {Post : xP} {l1 l3 l4 : Int} {S : St} {cs : List va_E} {K : Int → St → Prop} {B3 : Int → Int → Int → St → Prop} (hd : 1 ≤ d) (hT : sb shC sh) (hS : ∀ b x, sh b = some x → ¬ isS b) (hU : sb shWa sh) (hW : Wv G v sh B c0 S cs) (hP : ∀ (x : Int) (S : St) (cs : List va_E), K x S → Wv G v sh B c0 S cs → Post (some (.int (Int32.ofInt x))) cs) (hB3 : ∀ (l1 : Int) (l3 : Int) (l4 : Int) (S : St) (cs : List va_E), B3 l1 l3 l4 S → Wv G v sh B c0 S cs → Z (RX7, cX7_placeOf, 5, some .int, false) G d Post 3 [(0, .ref (G.1 + v 240)), (1, .int (Int32.ofInt (l1))), (3, .int (Int32.ofInt (l3))), (4, .int (Int32.ofInt (l4)))] [] cs) (hw : wX7_placeOf_3' l1 l3 l4 S K B3) : Z (RX7, cX7_placeOf, 5, some .int, false) G d Post 3 [(0, .ref (G.1 + v 240)), (1, .int (Int32.ofInt (l1))), (3, .int (Int32.ofInt (l3))), (4, .int (Int32.ofInt (l4)))] [] cs := by
  unfold wX7_placeOf_3' at hw
  refine z_iload dX7_placeOf_3 rfl ?_
  refine z_iload_n dX7_placeOf_5 rfl rfl ?_
  obtain ⟨q2, hw⟩ := hw
  obtain ⟨q3, hw⟩ := hw
  refine i_icmp_ge (tgt := 31) dX7_placeOf_6 (by decide) q2 q3 (fun h1 => ?_) (fun h1 => ?_)
  · have hw := hw.1 h1
    refine z_iload_n dX7_placeOf_31 rfl rfl ?_
    exact z_ireturn dX7_placeOf_32 rfl rfl (hP _ _ _ hw hW)
  · have hw := hw.2 h1
    refine z_aload_n dX7_placeOf_9 rfl rfl ?_
    refine v_getR hW (hU 240 _ rfl) rfl kX7 fX7_21 dX7_placeOf_10 ?_
    refine z_iload dX7_placeOf_13 rfl ?_
    have hX := lX5_at 0 (Nat.le_refl _) hW (show isS 4 by unfold isS; decide) (fun b x h e => hS b x h (e ▸ (show isS 4 by unfold isS; decide))) q2 hw
    refine z_callV (As := [_]) eX5_at sX5_at lX7_24 rfl dX7_placeOf_15 (hW.sg (show isS 4 by unfold isS; decide) (fun b x h e => hS b x h (e ▸ (show isS 4 by unfold isS; decide)))).choose_spec.choose_spec.choose_spec.choose_spec.1.choose_spec.1 hX (Nat.le_trans (by decide) hd) rfl (Nat.le_of_ble_eq_true rfl) (fun r cs hp => ?_)
    obtain ⟨r5, S4, rfl, hw, hW⟩ := hp
    refine z_st (st' := [.int (Int32.ofInt (r5))]) rfl ?_
    refine z_iload_n dX7_placeOf_18 rfl rfl ?_
    obtain ⟨q7, hw⟩ := hw
    obtain ⟨q8, hw⟩ := hw
    refine i_icmp_ne (tgt := 25) dX7_placeOf_19 (by decide) q7 q8 (fun h6 => ?_) (fun h6 => ?_)
    · have hw := hw.1 h6
      refine i_iinc (l := l4) dX7_placeOf_25 rfl (by decide) ?_
      refine z_loc (L' := [(0, .ref (G.1 + v 240)), (1, .int (Int32.ofInt (l1))), (3, .int (Int32.ofInt (l3))), (4, .int (Int32.ofInt ((l4 + 1))))]) (List.forall_mem_cons.mpr ⟨rfl, (List.forall_mem_cons.mpr ⟨rfl, (List.forall_mem_cons.mpr ⟨rfl, (List.forall_mem_cons.mpr ⟨rfl, (fun _ h => nomatch h)⟩)⟩)⟩)⟩) ?_
      refine z_goto (tgt := 3) dX7_placeOf_28 (by decide) ?_
      refine z_loc (L' := [(0, .ref (G.1 + v 240)), (1, .int (Int32.ofInt (l1))), (3, .int (Int32.ofInt (l3))), (4, .int (Int32.ofInt ((l4 + 1))))]) (List.forall_mem_cons.mpr ⟨rfl, (List.forall_mem_cons.mpr ⟨rfl, (List.forall_mem_cons.mpr ⟨rfl, (List.forall_mem_cons.mpr ⟨rfl, (fun _ h => nomatch h)⟩)⟩)⟩)⟩) ?_
      exact hB3 _ _ _ _ _ hw hW
    · have hw := hw.2 h6
      refine z_iload dX7_placeOf_22 rfl ?_
      exact z_ireturn dX7_placeOf_24 rfl rfl (hP _ _ _ hw hW)
def wX7_placeOf_3  (l1 l3 l4 : Int) (S : St) (K : Int → St → Prop) : Prop := ∃ (Iv : Int → Int → Int → St → Prop) (mu : Int → Int → Int → St → Nat), Iv l1 l3 l4 S ∧ ∀ (l1 l3 l4 : Int) (S : St), Iv l1 l3 l4 S → wX7_placeOf_3' l1 l3 l4 S K  (fun ml1 ml3 ml4 T => Iv ml1 ml3 ml4 T ∧ mu ml1 ml3 ml4 T < mu l1 l3 l4 S)
set_option maxRecDepth 100000 in
set_option maxHeartbeats 4000000 in
theorem ubX7_placeOf_3 {G : xG} {v : Nat → Nat} {sh : Nat → Option Sh} {B : Nat × Nat} {c0 : List va_E} {d : Nat} {Post : xP} {l1 l3 l4 : Int} {S : St} {cs : List va_E} {K : Int → St → Prop} (hd : 1 ≤ d) (hT : sb shC sh) (hS : ∀ b x, sh b = some x → ¬ isS b) (hU : sb shWa sh) (hW : Wv G v sh B c0 S cs) (hP : ∀ (x : Int) (S : St) (cs : List va_E), K x S → Wv G v sh B c0 S cs → Post (some (.int (Int32.ofInt x))) cs)  (hw : wX7_placeOf_3 l1 l3 l4 S K ) : Z (RX7, cX7_placeOf, 5, some .int, false) G d Post 3 [(0, .ref (G.1 + v 240)), (1, .int (Int32.ofInt (l1))), (3, .int (Int32.ofInt (l3))), (4, .int (Int32.ofInt (l4)))] [] cs := by
  unfold wX7_placeOf_3 at hw
  obtain ⟨Iv, mu, h0, hs⟩ := hw
  have key : ∀ (n : Nat) (l1 l3 l4 : Int) (S : St) (cs : List va_E), mu l1 l3 l4 S < n → Iv l1 l3 l4 S → Wv G v sh B c0 S cs → Z (RX7, cX7_placeOf, 5, some .int, false) G d Post 3 [(0, .ref (G.1 + v 240)), (1, .int (Int32.ofInt (l1))), (3, .int (Int32.ofInt (l3))), (4, .int (Int32.ofInt (l4)))] [] cs := by
    intro n
    induction n with
    | zero => intro l1 l3 l4 S cs hn; exact absurd hn (Nat.not_lt_zero _)
    | succ n ih =>
      intro l1 l3 l4 S cs hn hI hW
      exact ubX7_placeOf_3' hd hT hS hU hW hP  (fun l1 l3 l4 S cs hb hW => ih l1 l3 l4 S cs (Nat.lt_of_lt_of_le hb.2 (Nat.le_of_lt_succ hn)) hb.1 hW) (hs l1 l3 l4 S hI)
  exact key _ _ _ _ _ _ (Nat.lt_succ_self _) h0 hW
def wX7_placeOf  (a1 a2 a3 : Int) (S : St) (K : Int → St → Prop) : Prop := rng a1 → rng a2 → rng a3 → wX7_placeOf_3 (a1) (a3) (a2) S K
set_option maxRecDepth 100000 in
set_option maxHeartbeats 4000000 in
theorem lX7_placeOf {G : xG} {v : Nat → Nat} {sh : Nat → Option Sh} {B : Nat × Nat} {c0 : List va_E}  {a1 a2 a3 : Int} {S : St} {cs : List va_E} {K : Int → St → Prop} (d : Nat) (hd : 1 ≤ d) (hT : sb shC sh) (hS : ∀ b x, sh b = some x → ¬ isS b) (hU : sb shWa sh) (hW : Wv G v sh B c0 S cs) (g1 : rng a1) (g2 : rng a2) (g3 : rng a3) (hw : wX7_placeOf a1 a2 a3 S K) : X G yX7_placeOf cX7_placeOf 5 (some .int) d [.ref (G.1 + v 240), .int (Int32.ofInt a1), .int (Int32.ofInt a2), .int (Int32.ofInt a3)] cs (vI G v sh B c0 K) := by
  refine X.of false (by decide +kernel) (by decide) (Nat.le_of_ble_eq_true rfl) ?_
  show Z (RX7, cX7_placeOf, 5, some .int, false) G d _ 0 [(0, .ref (G.1 + v 240)), (1, .int (Int32.ofInt a1)), (2, .int (Int32.ofInt a2)), (3, .int (Int32.ofInt a3))] [] cs
  have hP : ∀ (x : Int) (S : St) (cs : List va_E), K x S → Wv G v sh B c0 S cs → vI G v sh B c0 K (some (.int (Int32.ofInt x))) cs := fun x S cs a b => ⟨x, S, rfl, a, b⟩
  unfold wX7_placeOf at hw
  have hw := hw g1 g2 g3
  refine z_iload_n dX7_placeOf_0 rfl rfl ?_
  refine z_istore dX7_placeOf_1 (by decide) ?_
  refine z_loc (L' := [(0, .ref (G.1 + v 240)), (1, .int (Int32.ofInt (a1))), (2, .int (Int32.ofInt (a2))), (3, .int (Int32.ofInt (a3))), (4, .int (Int32.ofInt (a2)))]) (List.forall_mem_cons.mpr ⟨rfl, (List.forall_mem_cons.mpr ⟨rfl, (List.forall_mem_cons.mpr ⟨rfl, (List.forall_mem_cons.mpr ⟨rfl, (List.forall_mem_cons.mpr ⟨rfl, (fun _ h => nomatch h)⟩)⟩)⟩)⟩)⟩) ?_
  refine z_loc (L' := [(0, .ref (G.1 + v 240)), (1, .int (Int32.ofInt (a1))), (3, .int (Int32.ofInt (a3))), (4, .int (Int32.ofInt (a2)))]) (List.forall_mem_cons.mpr ⟨rfl, (List.forall_mem_cons.mpr ⟨rfl, (List.forall_mem_cons.mpr ⟨rfl, (List.forall_mem_cons.mpr ⟨rfl, (fun _ h => nomatch h)⟩)⟩)⟩)⟩) ?_
  exact ubX7_placeOf_3 hd hT hS hU hW hP  hw

def wX7_rank_50'  (l3 l4 l5 : Int) (S : St) (K : Int → St → Prop) (B50 : Int → Int → Int → St → Prop) : Prop := (rng (l5) ∧ (rng (l3) ∧ ((l3 ≤ l5 → (rng (l4) ∧ ((¬ l4 = 1 → K (l4) S) ∧ ((¬ (¬ l4 = 1)) → K (0) S)))) ∧ ((¬ (l3 ≤ l5)) → (wX5_at 4 (l5) S (fun r7 S6 => (rng (r7) ∧ (wX10_isDigit (r7) S6 (fun r9 S8 => (rng (r9) ∧ ((¬ r9 = 0 → (wX5_at 4 (l5) S8 (fun r14 S13 => (∀ x15 : Int, x15 = (((l4 * 10) + r14) - 48) → B50 (l3) (x15) ((l5 + 1)) S13)))) ∧ ((¬ (¬ r9 = 0)) → K (0) S8))))))))))))
set_option maxRecDepth 100000 in
set_option maxHeartbeats 4000000 in
theorem ubX7_rank_50' {G : xG} {v : Nat → Nat} {sh : Nat → Option Sh} {B : Nat × Nat} {c0 : List va_E} {d : Nat} {Post : xP} {l3 l4 l5 : Int} {S : St} {cs : List va_E} {K : Int → St → Prop} {B50 : Int → Int → Int → St → Prop} (hd : 1 ≤ d) (hT : sb shC sh) (hS : ∀ b x, sh b = some x → ¬ isS b) (hU : sb shWa sh) (hW : Wv G v sh B c0 S cs) (hP : ∀ (x : Int) (S : St) (cs : List va_E), K x S → Wv G v sh B c0 S cs → Post (some (.int (Int32.ofInt x))) cs) (hB50 : ∀ (l3 : Int) (l4 : Int) (l5 : Int) (S : St) (cs : List va_E), B50 l3 l4 l5 S → Wv G v sh B c0 S cs → Z (RX7, cX7_rank, 6, some .int, false) G d Post 50 [(0, .ref (G.1 + v 240)), (3, .int (Int32.ofInt (l3))), (4, .int (Int32.ofInt (l4))), (5, .int (Int32.ofInt (l5)))] [] cs) (hw : wX7_rank_50' l3 l4 l5 S K B50) : Z (RX7, cX7_rank, 6, some .int, false) G d Post 50 [(0, .ref (G.1 + v 240)), (3, .int (Int32.ofInt (l3))), (4, .int (Int32.ofInt (l4))), (5, .int (Int32.ofInt (l5)))] [] cs := by
  unfold wX7_rank_50' at hw
  refine z_iload dX7_rank_50 rfl ?_
  refine z_iload_n dX7_rank_52 rfl rfl ?_
  obtain ⟨q2, hw⟩ := hw
  obtain ⟨q3, hw⟩ := hw
  refine i_icmp_ge (tgt := 99) dX7_rank_53 (by decide) q2 q3 (fun h1 => ?_) (fun h1 => ?_)
  · have hw := hw.1 h1
    refine z_iload dX7_rank_99 rfl ?_
    refine z_iconst (v := Int32.ofInt 1) dX7_rank_101 rfl ?_
    obtain ⟨q5, hw⟩ := hw
    refine i_icmp_ne (tgt := 109) dX7_rank_102 (by decide) q5 ⟨by decide, by decide⟩ (fun h4 => ?_) (fun h4 => ?_)
    · have hw := hw.1 h4
      refine z_iload dX7_rank_109 rfl ?_
      exact z_ireturn dX7_rank_111 rfl rfl (hP _ _ _ hw hW)
    · have hw := hw.2 h4
      refine z_iconst (v := Int32.ofInt 0) dX7_rank_105 rfl ?_
      refine z_goto (tgt := 111) dX7_rank_106 (by decide) ?_
      exact z_ireturn dX7_rank_111 rfl rfl (hP _ _ _ hw hW)
  · have hw := hw.2 h1
    refine z_aload_n dX7_rank_56 rfl rfl ?_
    refine v_getR hW (hU 240 _ rfl) rfl kX7 fX7_21 dX7_rank_57 ?_
    refine z_iload dX7_rank_60 rfl ?_
    have hX := lX5_at 0 (Nat.le_refl _) hW (show isS 4 by unfold isS; decide) (fun b x h e => hS b x h (e ▸ (show isS 4 by unfold isS; decide))) q2 hw
    refine z_callV (As := [_]) eX5_at sX5_at lX7_24 rfl dX7_rank_62 (hW.sg (show isS 4 by unfold isS; decide) (fun b x h e => hS b x h (e ▸ (show isS 4 by unfold isS; decide)))).choose_spec.choose_spec.choose_spec.choose_spec.1.choose_spec.1 hX (Nat.le_trans (by decide) hd) rfl (Nat.le_of_ble_eq_true rfl) (fun r cs hp => ?_)
    obtain ⟨r7, S6, rfl, hw, hW⟩ := hp
    refine z_st (st' := [.int (Int32.ofInt (r7))]) rfl ?_
    obtain ⟨q10, hw⟩ := hw
    have hX := lX10_isDigit 0 (Nat.le_refl _) hT hS hW q10 hw
    refine z_callSN (As := [_]) eX10_isDigit sX10_isDigit lX7_52 dX7_rank_65 hX (Nat.le_trans (by decide) hd) rfl (Nat.le_of_ble_eq_true rfl) (fun r cs hp => ?_)
    obtain ⟨r9, S8, rfl, hw, hW⟩ := hp
    refine z_st (st' := [.int (Int32.ofInt (r9))]) rfl ?_
    obtain ⟨q12, hw⟩ := hw
    refine i_if_ne (tgt := 73) dX7_rank_68 (by decide) q12 (fun h11 => ?_) (fun h11 => ?_)
    · have hw := hw.1 h11
      refine z_iload dX7_rank_73 rfl ?_
      refine z_bipush (v := Int32.ofInt 10) dX7_rank_75 (by decide) ?_
      refine i_imul dX7_rank_77 ?_
      refine z_aload_n dX7_rank_78 rfl rfl ?_
      refine v_getR hW (hU 240 _ rfl) rfl kX7 fX7_21 dX7_rank_79 ?_
      refine z_iload dX7_rank_82 rfl ?_
      have hX := lX5_at 0 (Nat.le_refl _) hW (show isS 4 by unfold isS; decide) (fun b x h e => hS b x h (e ▸ (show isS 4 by unfold isS; decide))) q2 hw
      refine z_callV (As := [_]) eX5_at sX5_at lX7_24 rfl dX7_rank_84 (hW.sg (show isS 4 by unfold isS; decide) (fun b x h e => hS b x h (e ▸ (show isS 4 by unfold isS; decide)))).choose_spec.choose_spec.choose_spec.choose_spec.1.choose_spec.1 hX (Nat.le_trans (by decide) hd) rfl (Nat.le_of_ble_eq_true rfl) (fun r cs hp => ?_)
      obtain ⟨r14, S13, rfl, hw, hW⟩ := hp
      refine z_st (st' := [.int (Int32.ofInt (r14)), .int (Int32.ofInt ((l4 * 10)))]) rfl ?_
      refine i_iadd dX7_rank_87 ?_
      refine z_bipush (v := Int32.ofInt 48) dX7_rank_88 (by decide) ?_
      refine i_isub dX7_rank_90 ?_
      obtain ⟨x15, hx15⟩ : ∃ x : Int, x = (((l4 * 10) + r14) - 48) := ⟨_, rfl⟩
      have hw := hw x15 hx15
      refine z_st (st' := [.int (Int32.ofInt x15)]) (by rw [hx15]) ?_
      refine z_istore dX7_rank_91 (by decide) ?_
      refine z_loc (L' := [(0, .ref (G.1 + v 240)), (3, .int (Int32.ofInt (l3))), (4, .int (Int32.ofInt (x15))), (5, .int (Int32.ofInt (l5)))]) (List.forall_mem_cons.mpr ⟨rfl, (List.forall_mem_cons.mpr ⟨rfl, (List.forall_mem_cons.mpr ⟨rfl, (List.forall_mem_cons.mpr ⟨rfl, (fun _ h => nomatch h)⟩)⟩)⟩)⟩) ?_
      refine i_iinc (l := l5) dX7_rank_93 rfl (by decide) ?_
      refine z_loc (L' := [(0, .ref (G.1 + v 240)), (3, .int (Int32.ofInt (l3))), (4, .int (Int32.ofInt (x15))), (5, .int (Int32.ofInt ((l5 + 1))))]) (List.forall_mem_cons.mpr ⟨rfl, (List.forall_mem_cons.mpr ⟨rfl, (List.forall_mem_cons.mpr ⟨rfl, (List.forall_mem_cons.mpr ⟨rfl, (fun _ h => nomatch h)⟩)⟩)⟩)⟩) ?_
      refine z_goto (tgt := 50) dX7_rank_96 (by decide) ?_
      refine z_loc (L' := [(0, .ref (G.1 + v 240)), (3, .int (Int32.ofInt (l3))), (4, .int (Int32.ofInt (x15))), (5, .int (Int32.ofInt ((l5 + 1))))]) (List.forall_mem_cons.mpr ⟨rfl, (List.forall_mem_cons.mpr ⟨rfl, (List.forall_mem_cons.mpr ⟨rfl, (List.forall_mem_cons.mpr ⟨rfl, (fun _ h => nomatch h)⟩)⟩)⟩)⟩) ?_
      exact hB50 _ _ _ _ _ hw hW
    · have hw := hw.2 h11
      refine z_iconst (v := Int32.ofInt 0) dX7_rank_71 rfl ?_
      exact z_ireturn dX7_rank_72 rfl rfl (hP _ _ _ hw hW)
def wX7_rank_50  (l3 l4 l5 : Int) (S : St) (K : Int → St → Prop) : Prop := ∃ (Iv : Int → Int → Int → St → Prop) (mu : Int → Int → Int → St → Nat), Iv l3 l4 l5 S ∧ ∀ (l3 l4 l5 : Int) (S : St), Iv l3 l4 l5 S → wX7_rank_50' l3 l4 l5 S K  (fun ml3 ml4 ml5 T => Iv ml3 ml4 ml5 T ∧ mu ml3 ml4 ml5 T < mu l3 l4 l5 S)
set_option maxRecDepth 100000 in
set_option maxHeartbeats 4000000 in
theorem ubX7_rank_50 {G : xG} {v : Nat → Nat} {sh : Nat → Option Sh} {B : Nat × Nat} {c0 : List va_E} {d : Nat} {Post : xP} {l3 l4 l5 : Int} {S : St} {cs : List va_E} {K : Int → St → Prop} (hd : 1 ≤ d) (hT : sb shC sh) (hS : ∀ b x, sh b = some x → ¬ isS b) (hU : sb shWa sh) (hW : Wv G v sh B c0 S cs) (hP : ∀ (x : Int) (S : St) (cs : List va_E), K x S → Wv G v sh B c0 S cs → Post (some (.int (Int32.ofInt x))) cs)  (hw : wX7_rank_50 l3 l4 l5 S K ) : Z (RX7, cX7_rank, 6, some .int, false) G d Post 50 [(0, .ref (G.1 + v 240)), (3, .int (Int32.ofInt (l3))), (4, .int (Int32.ofInt (l4))), (5, .int (Int32.ofInt (l5)))] [] cs := by
  unfold wX7_rank_50 at hw
  obtain ⟨Iv, mu, h0, hs⟩ := hw
  have key : ∀ (n : Nat) (l3 l4 l5 : Int) (S : St) (cs : List va_E), mu l3 l4 l5 S < n → Iv l3 l4 l5 S → Wv G v sh B c0 S cs → Z (RX7, cX7_rank, 6, some .int, false) G d Post 50 [(0, .ref (G.1 + v 240)), (3, .int (Int32.ofInt (l3))), (4, .int (Int32.ofInt (l4))), (5, .int (Int32.ofInt (l5)))] [] cs := by
    intro n
    induction n with
    | zero => intro l3 l4 l5 S cs hn; exact absurd hn (Nat.not_lt_zero _)
    | succ n ih =>
      intro l3 l4 l5 S cs hn hI hW
      exact ubX7_rank_50' hd hT hS hU hW hP  (fun l3 l4 l5 S cs hb hW => ih l3 l4 l5 S cs (Nat.lt_of_lt_of_le hb.2 (Nat.le_of_lt_succ hn)) hb.1 hW) (hs l3 l4 l5 S hI)
  exact key _ _ _ _ _ _ (Nat.lt_succ_self _) h0 hW
def wX7_rank  (a1 a2 : Int) (S : St) (K : Int → St → Prop) : Prop := rng a1 → rng a2 → (∀ x1 : Int, x1 = (a2 - 1) → (rng (x1) ∧ ((x1 ≤ a1 → K (0) S) ∧ ((¬ (x1 ≤ a1)) → (rng ((x1 - a1)) ∧ ((3 < (x1 - a1) → K (0) S) ∧ ((¬ (3 < (x1 - a1))) → (wX5_at 4 (x1) S (fun r7 S6 => (rng (r7) ∧ ((¬ r7 = 93 → K (0) S6) ∧ ((¬ (¬ r7 = 93)) → (wX5_at 4 (a1) S6 (fun r11 S10 => (rng (r11) ∧ ((¬ r11 = 48 → wX7_rank_50 (x1) (0) (a1) S10 K) ∧ ((¬ (¬ r11 = 48)) → K (0) S10)))))))))))))))))
set_option maxRecDepth 100000 in
set_option maxHeartbeats 4000000 in
theorem lX7_rank {G : xG} {v : Nat → Nat} {sh : Nat → Option Sh} {B : Nat × Nat} {c0 : List va_E}  {a1 a2 : Int} {S : St} {cs : List va_E} {K : Int → St → Prop} (d : Nat) (hd : 1 ≤ d) (hT : sb shC sh) (hS : ∀ b x, sh b = some x → ¬ isS b) (hU : sb shWa sh) (hW : Wv G v sh B c0 S cs) (g1 : rng a1) (g2 : rng a2) (hw : wX7_rank a1 a2 S K) : X G yX7_rank cX7_rank 6 (some .int) d [.ref (G.1 + v 240), .int (Int32.ofInt a1), .int (Int32.ofInt a2)] cs (vI G v sh B c0 K) := by
  refine X.of false (by decide +kernel) (by decide) (Nat.le_of_ble_eq_true rfl) ?_
  show Z (RX7, cX7_rank, 6, some .int, false) G d _ 0 [(0, .ref (G.1 + v 240)), (1, .int (Int32.ofInt a1)), (2, .int (Int32.ofInt a2))] [] cs
  have hP : ∀ (x : Int) (S : St) (cs : List va_E), K x S → Wv G v sh B c0 S cs → vI G v sh B c0 K (some (.int (Int32.ofInt x))) cs := fun x S cs a b => ⟨x, S, rfl, a, b⟩
  unfold wX7_rank at hw
  have hw := hw g1 g2
  refine z_iload_n dX7_rank_0 rfl rfl ?_
  refine z_iconst (v := Int32.ofInt 1) dX7_rank_1 rfl ?_
  refine i_isub dX7_rank_2 ?_
  obtain ⟨x1, hx1⟩ : ∃ x : Int, x = (a2 - 1) := ⟨_, rfl⟩
  have hw := hw x1 hx1
  refine z_st (st' := [.int (Int32.ofInt x1)]) (by rw [hx1]) ?_
  refine z_istore_n dX7_rank_3 rfl (by decide) ?_
  refine z_loc (L' := [(0, .ref (G.1 + v 240)), (1, .int (Int32.ofInt (a1))), (2, .int (Int32.ofInt (a2))), (3, .int (Int32.ofInt (x1)))]) (List.forall_mem_cons.mpr ⟨rfl, (List.forall_mem_cons.mpr ⟨rfl, (List.forall_mem_cons.mpr ⟨rfl, (List.forall_mem_cons.mpr ⟨rfl, (fun _ h => nomatch h)⟩)⟩)⟩)⟩) ?_
  refine z_iload_n dX7_rank_4 rfl rfl ?_
  refine z_iload_n dX7_rank_5 rfl rfl ?_
  obtain ⟨q3, hw⟩ := hw
  refine i_icmp_le (tgt := 42) dX7_rank_6 (by decide) q3 g1 (fun h2 => ?_) (fun h2 => ?_)
  · have hw := hw.1 h2
    refine z_iconst (v := Int32.ofInt 0) dX7_rank_42 rfl ?_
    exact z_ireturn dX7_rank_43 rfl rfl (hP _ _ _ hw hW)
  · have hw := hw.2 h2
    refine z_iload_n dX7_rank_9 rfl rfl ?_
    refine z_iload_n dX7_rank_10 rfl rfl ?_
    refine i_isub dX7_rank_11 ?_
    refine z_iconst (v := Int32.ofInt 3) dX7_rank_12 rfl ?_
    obtain ⟨q5, hw⟩ := hw
    refine i_icmp_gt (tgt := 42) dX7_rank_13 (by decide) q5 ⟨by decide, by decide⟩ (fun h4 => ?_) (fun h4 => ?_)
    · have hw := hw.1 h4
      refine z_iconst (v := Int32.ofInt 0) dX7_rank_42 rfl ?_
      exact z_ireturn dX7_rank_43 rfl rfl (hP _ _ _ hw hW)
    · have hw := hw.2 h4
      refine z_aload_n dX7_rank_16 rfl rfl ?_
      refine v_getR hW (hU 240 _ rfl) rfl kX7 fX7_21 dX7_rank_17 ?_
      refine z_iload_n dX7_rank_20 rfl rfl ?_
      have hX := lX5_at 0 (Nat.le_refl _) hW (show isS 4 by unfold isS; decide) (fun b x h e => hS b x h (e ▸ (show isS 4 by unfold isS; decide))) q3 hw
      refine z_callV (As := [_]) eX5_at sX5_at lX7_24 rfl dX7_rank_21 (hW.sg (show isS 4 by unfold isS; decide) (fun b x h e => hS b x h (e ▸ (show isS 4 by unfold isS; decide)))).choose_spec.choose_spec.choose_spec.choose_spec.1.choose_spec.1 hX (Nat.le_trans (by decide) hd) rfl (Nat.le_of_ble_eq_true rfl) (fun r cs hp => ?_)
      obtain ⟨r7, S6, rfl, hw, hW⟩ := hp
      refine z_st (st' := [.int (Int32.ofInt (r7))]) rfl ?_
      refine z_bipush (v := Int32.ofInt 93) dX7_rank_24 (by decide) ?_
      obtain ⟨q9, hw⟩ := hw
      refine i_icmp_ne (tgt := 42) dX7_rank_26 (by decide) q9 ⟨by decide, by decide⟩ (fun h8 => ?_) (fun h8 => ?_)
      · have hw := hw.1 h8
        refine z_iconst (v := Int32.ofInt 0) dX7_rank_42 rfl ?_
        exact z_ireturn dX7_rank_43 rfl rfl (hP _ _ _ hw hW)
      · have hw := hw.2 h8
        refine z_aload_n dX7_rank_29 rfl rfl ?_
        refine v_getR hW (hU 240 _ rfl) rfl kX7 fX7_21 dX7_rank_30 ?_
        refine z_iload_n dX7_rank_33 rfl rfl ?_
        have hX := lX5_at 0 (Nat.le_refl _) hW (show isS 4 by unfold isS; decide) (fun b x h e => hS b x h (e ▸ (show isS 4 by unfold isS; decide))) g1 hw
        refine z_callV (As := [_]) eX5_at sX5_at lX7_24 rfl dX7_rank_34 (hW.sg (show isS 4 by unfold isS; decide) (fun b x h e => hS b x h (e ▸ (show isS 4 by unfold isS; decide)))).choose_spec.choose_spec.choose_spec.choose_spec.1.choose_spec.1 hX (Nat.le_trans (by decide) hd) rfl (Nat.le_of_ble_eq_true rfl) (fun r cs hp => ?_)
        obtain ⟨r11, S10, rfl, hw, hW⟩ := hp
        refine z_st (st' := [.int (Int32.ofInt (r11))]) rfl ?_
        refine z_bipush (v := Int32.ofInt 48) dX7_rank_37 (by decide) ?_
        obtain ⟨q13, hw⟩ := hw
        refine i_icmp_ne (tgt := 44) dX7_rank_39 (by decide) q13 ⟨by decide, by decide⟩ (fun h12 => ?_) (fun h12 => ?_)
        · have hw := hw.1 h12
          refine z_iconst (v := Int32.ofInt 0) dX7_rank_44 rfl ?_
          refine z_istore dX7_rank_45 (by decide) ?_
          refine z_loc (L' := [(0, .ref (G.1 + v 240)), (1, .int (Int32.ofInt (a1))), (2, .int (Int32.ofInt (a2))), (3, .int (Int32.ofInt (x1))), (4, .int (Int32.ofInt (0)))]) (List.forall_mem_cons.mpr ⟨rfl, (List.forall_mem_cons.mpr ⟨rfl, (List.forall_mem_cons.mpr ⟨rfl, (List.forall_mem_cons.mpr ⟨rfl, (List.forall_mem_cons.mpr ⟨rfl, (fun _ h => nomatch h)⟩)⟩)⟩)⟩)⟩) ?_
          refine z_iload_n dX7_rank_47 rfl rfl ?_
          refine z_istore dX7_rank_48 (by decide) ?_
          refine z_loc (L' := [(0, .ref (G.1 + v 240)), (1, .int (Int32.ofInt (a1))), (2, .int (Int32.ofInt (a2))), (3, .int (Int32.ofInt (x1))), (4, .int (Int32.ofInt (0))), (5, .int (Int32.ofInt (a1)))]) (List.forall_mem_cons.mpr ⟨rfl, (List.forall_mem_cons.mpr ⟨rfl, (List.forall_mem_cons.mpr ⟨rfl, (List.forall_mem_cons.mpr ⟨rfl, (List.forall_mem_cons.mpr ⟨rfl, (List.forall_mem_cons.mpr ⟨rfl, (fun _ h => nomatch h)⟩)⟩)⟩)⟩)⟩)⟩) ?_
          refine z_loc (L' := [(0, .ref (G.1 + v 240)), (3, .int (Int32.ofInt (x1))), (4, .int (Int32.ofInt (0))), (5, .int (Int32.ofInt (a1)))]) (List.forall_mem_cons.mpr ⟨rfl, (List.forall_mem_cons.mpr ⟨rfl, (List.forall_mem_cons.mpr ⟨rfl, (List.forall_mem_cons.mpr ⟨rfl, (fun _ h => nomatch h)⟩)⟩)⟩)⟩) ?_
          exact ubX7_rank_50 hd hT hS hU hW hP  hw
        · have hw := hw.2 h12
          refine z_iconst (v := Int32.ofInt 0) dX7_rank_42 rfl ?_
          exact z_ireturn dX7_rank_43 rfl rfl (hP _ _ _ hw hW)

def wX7_down_65  (l3 l4 l5 l6 l7 l8 s0 : Int) (S : St) (K : Int → St → Prop) (B9 : Int → Int → Int → Int → St → Prop) : Prop := (rng (l4) ∧ (rng (l5) ∧ (rng (l8) ∧ (rng (s0) ∧ (wX6_child (l4) (l5) (l8) (s0) S (fun r2 S1 => (rng (r2) ∧ ((¬ r2 = (-1) → (∀ x9 : Int, x9 = (l7 + 1) → B9 (l3) (r2) (x9) ((l6 + 1)) S1)) ∧ ((¬ (¬ r2 = (-1))) → K ((-2)) S1)))))))))
set_option maxRecDepth 100000 in
set_option maxHeartbeats 4000000 in
theorem ubX7_down_65 {G : xG} {v : Nat → Nat} {sh : Nat → Option Sh} {B : Nat × Nat} {c0 : List va_E} {d : Nat} {Post : xP} {l3 l4 l5 l6 l7 l8 s0 : Int} {S : St} {cs : List va_E} {K : Int → St → Prop} {B9 : Int → Int → Int → Int → St → Prop} (hd : 3 ≤ d) (hT : sb shC sh) (hS : ∀ b x, sh b = some x → ¬ isS b) (hU : sb shWa sh) (hW : Wv G v sh B c0 S cs) (hP : ∀ (x : Int) (S : St) (cs : List va_E), K x S → Wv G v sh B c0 S cs → Post (some (.int (Int32.ofInt x))) cs) (hB9 : ∀ (l3 : Int) (l4 : Int) (l5 : Int) (l6 : Int) (S : St) (cs : List va_E), B9 l3 l4 l5 l6 S → Wv G v sh B c0 S cs → Z (RX7, cX7_down, 10, some .int, false) G d Post 9 [(0, .ref (G.1 + v 240)), (3, .int (Int32.ofInt (l3))), (4, .int (Int32.ofInt (l4))), (5, .int (Int32.ofInt (l5))), (6, .int (Int32.ofInt (l6)))] [] cs) (hw : wX7_down_65 l3 l4 l5 l6 l7 l8 s0 S K B9) : Z (RX7, cX7_down, 10, some .int, false) G d Post 65 [(0, .ref (G.1 + v 240)), (3, .int (Int32.ofInt (l3))), (4, .int (Int32.ofInt (l4))), (5, .int (Int32.ofInt (l5))), (6, .int (Int32.ofInt (l6))), (7, .int (Int32.ofInt (l7))), (8, .int (Int32.ofInt (l8)))] [.int (Int32.ofInt (s0))] cs := by
  unfold wX7_down_65 at hw
  refine z_istore dX7_down_65 (by decide) ?_
  refine z_loc (L' := [(0, .ref (G.1 + v 240)), (3, .int (Int32.ofInt (l3))), (4, .int (Int32.ofInt (l4))), (5, .int (Int32.ofInt (l5))), (6, .int (Int32.ofInt (l6))), (7, .int (Int32.ofInt (l7))), (8, .int (Int32.ofInt (l8))), (9, .int (Int32.ofInt (s0)))]) (List.forall_mem_cons.mpr ⟨rfl, (List.forall_mem_cons.mpr ⟨rfl, (List.forall_mem_cons.mpr ⟨rfl, (List.forall_mem_cons.mpr ⟨rfl, (List.forall_mem_cons.mpr ⟨rfl, (List.forall_mem_cons.mpr ⟨rfl, (List.forall_mem_cons.mpr ⟨rfl, (List.forall_mem_cons.mpr ⟨rfl, (fun _ h => nomatch h)⟩)⟩)⟩)⟩)⟩)⟩)⟩)⟩) ?_
  refine z_aload_n dX7_down_67 rfl rfl ?_
  refine v_getR hW (hU 240 _ rfl) rfl kX7 fX7_9 dX7_down_68 ?_
  refine z_iload dX7_down_71 rfl ?_
  refine z_iload dX7_down_73 rfl ?_
  refine z_iload dX7_down_75 rfl ?_
  refine z_iload dX7_down_77 rfl ?_
  obtain ⟨q3, hw⟩ := hw
  obtain ⟨q4, hw⟩ := hw
  obtain ⟨q5, hw⟩ := hw
  obtain ⟨q6, hw⟩ := hw
  have hX := lX6_child 2 (Nat.le_refl _) hT hS (sbt sbX6_X7 hU) hW q3 q4 q5 q6 hw
  refine z_callV (As := [_, _, _, _]) eX6_child sX6_child lX7_48 rfl dX7_down_79 (hW.at (hU 3 _ rfl)) hX (Nat.le_trans (by decide) hd) rfl (Nat.le_of_ble_eq_true rfl) (fun r cs hp => ?_)
  obtain ⟨r2, S1, rfl, hw, hW⟩ := hp
  refine z_st (st' := [.int (Int32.ofInt (r2))]) rfl ?_
  refine z_istore dX7_down_82 (by decide) ?_
  refine z_loc (L' := [(0, .ref (G.1 + v 240)), (3, .int (Int32.ofInt (l3))), (4, .int (Int32.ofInt (r2))), (5, .int (Int32.ofInt (l5))), (6, .int (Int32.ofInt (l6))), (7, .int (Int32.ofInt (l7))), (8, .int (Int32.ofInt (l8))), (9, .int (Int32.ofInt (s0)))]) (List.forall_mem_cons.mpr ⟨rfl, (List.forall_mem_cons.mpr ⟨rfl, (List.forall_mem_cons.mpr ⟨rfl, (List.forall_mem_cons.mpr ⟨rfl, (List.forall_mem_cons.mpr ⟨rfl, (List.forall_mem_cons.mpr ⟨rfl, (List.forall_mem_cons.mpr ⟨rfl, (List.forall_mem_cons.mpr ⟨rfl, (fun _ h => nomatch h)⟩)⟩)⟩)⟩)⟩)⟩)⟩)⟩) ?_
  refine z_iload dX7_down_84 rfl ?_
  refine z_iconst (v := Int32.ofInt (-1)) dX7_down_86 rfl ?_
  obtain ⟨q8, hw⟩ := hw
  refine i_icmp_ne (tgt := 93) dX7_down_87 (by decide) q8 ⟨by decide, by decide⟩ (fun h7 => ?_) (fun h7 => ?_)
  · have hw := hw.1 h7
    refine z_iload dX7_down_93 rfl ?_
    refine z_iconst (v := Int32.ofInt 1) dX7_down_95 rfl ?_
    refine i_iadd dX7_down_96 ?_
    obtain ⟨x9, hx9⟩ : ∃ x : Int, x = (l7 + 1) := ⟨_, rfl⟩
    have hw := hw x9 hx9
    refine z_st (st' := [.int (Int32.ofInt x9)]) (by rw [hx9]) ?_
    refine z_istore dX7_down_97 (by decide) ?_
    refine z_loc (L' := [(0, .ref (G.1 + v 240)), (3, .int (Int32.ofInt (l3))), (4, .int (Int32.ofInt (r2))), (5, .int (Int32.ofInt (x9))), (6, .int (Int32.ofInt (l6))), (7, .int (Int32.ofInt (l7))), (8, .int (Int32.ofInt (l8))), (9, .int (Int32.ofInt (s0)))]) (List.forall_mem_cons.mpr ⟨rfl, (List.forall_mem_cons.mpr ⟨rfl, (List.forall_mem_cons.mpr ⟨rfl, (List.forall_mem_cons.mpr ⟨rfl, (List.forall_mem_cons.mpr ⟨rfl, (List.forall_mem_cons.mpr ⟨rfl, (List.forall_mem_cons.mpr ⟨rfl, (List.forall_mem_cons.mpr ⟨rfl, (fun _ h => nomatch h)⟩)⟩)⟩)⟩)⟩)⟩)⟩)⟩) ?_
    refine i_iinc (l := l6) dX7_down_99 rfl (by decide) ?_
    refine z_loc (L' := [(0, .ref (G.1 + v 240)), (3, .int (Int32.ofInt (l3))), (4, .int (Int32.ofInt (r2))), (5, .int (Int32.ofInt (x9))), (6, .int (Int32.ofInt ((l6 + 1)))), (7, .int (Int32.ofInt (l7))), (8, .int (Int32.ofInt (l8))), (9, .int (Int32.ofInt (s0)))]) (List.forall_mem_cons.mpr ⟨rfl, (List.forall_mem_cons.mpr ⟨rfl, (List.forall_mem_cons.mpr ⟨rfl, (List.forall_mem_cons.mpr ⟨rfl, (List.forall_mem_cons.mpr ⟨rfl, (List.forall_mem_cons.mpr ⟨rfl, (List.forall_mem_cons.mpr ⟨rfl, (List.forall_mem_cons.mpr ⟨rfl, (fun _ h => nomatch h)⟩)⟩)⟩)⟩)⟩)⟩)⟩)⟩) ?_
    refine z_goto (tgt := 9) dX7_down_102 (by decide) ?_
    refine z_loc (L' := [(0, .ref (G.1 + v 240)), (3, .int (Int32.ofInt (l3))), (4, .int (Int32.ofInt (r2))), (5, .int (Int32.ofInt (x9))), (6, .int (Int32.ofInt ((l6 + 1))))]) (List.forall_mem_cons.mpr ⟨rfl, (List.forall_mem_cons.mpr ⟨rfl, (List.forall_mem_cons.mpr ⟨rfl, (List.forall_mem_cons.mpr ⟨rfl, (List.forall_mem_cons.mpr ⟨rfl, (fun _ h => nomatch h)⟩)⟩)⟩)⟩)⟩) ?_
    exact hB9 _ _ _ _ _ _ hw hW
  · have hw := hw.2 h7
    refine z_bipush (v := Int32.ofInt (-2)) dX7_down_90 (by decide) ?_
    exact z_ireturn dX7_down_92 rfl rfl (hP _ _ _ hw hW)
def wX7_down_9'  (l3 l4 l5 l6 : Int) (S : St) (K : Int → St → Prop) (B9 : Int → Int → Int → Int → St → Prop) : Prop := (rng (l6) ∧ (rng (l3) ∧ ((l3 < l6 → K (l4) S) ∧ ((¬ (l3 < l6)) → (rng (l5) ∧ ((l3 < l5 → K (l4) S) ∧ ((¬ (l3 < l5)) → (wX7_placeOf (47) (l5) (l3) S (fun r7 S6 => (rng (r7) ∧ (wX7_placeOf (91) (l5) (r7) S6 (fun r9 S8 => (rng (r9) ∧ ((¬ r9 = r7 → (rng ((r9 + 1)) ∧ (wX7_rank ((r9 + 1)) (r7) S8 (fun r14 S13 => wX7_down_65 (l3) (l4) (l5) (l6) (r7) (r9) (r14) S13 K B9)))) ∧ ((¬ (¬ r9 = r7)) → wX7_down_65 (l3) (l4) (l5) (l6) (r7) (r9) (1) S8 K B9)))))))))))))))
set_option maxRecDepth 100000 in
set_option maxHeartbeats 4000000 in
theorem ubX7_down_9' {G : xG} {v : Nat → Nat} {sh : Nat → Option Sh} {B : Nat × Nat} {c0 : List va_E} {d : Nat} {Post : xP} {l3 l4 l5 l6 : Int} {S : St} {cs : List va_E} {K : Int → St → Prop} {B9 : Int → Int → Int → Int → St → Prop} (hd : 3 ≤ d) (hT : sb shC sh) (hS : ∀ b x, sh b = some x → ¬ isS b) (hU : sb shWa sh) (hW : Wv G v sh B c0 S cs) (hP : ∀ (x : Int) (S : St) (cs : List va_E), K x S → Wv G v sh B c0 S cs → Post (some (.int (Int32.ofInt x))) cs) (hB9 : ∀ (l3 : Int) (l4 : Int) (l5 : Int) (l6 : Int) (S : St) (cs : List va_E), B9 l3 l4 l5 l6 S → Wv G v sh B c0 S cs → Z (RX7, cX7_down, 10, some .int, false) G d Post 9 [(0, .ref (G.1 + v 240)), (3, .int (Int32.ofInt (l3))), (4, .int (Int32.ofInt (l4))), (5, .int (Int32.ofInt (l5))), (6, .int (Int32.ofInt (l6)))] [] cs) (hw : wX7_down_9' l3 l4 l5 l6 S K B9) : Z (RX7, cX7_down, 10, some .int, false) G d Post 9 [(0, .ref (G.1 + v 240)), (3, .int (Int32.ofInt (l3))), (4, .int (Int32.ofInt (l4))), (5, .int (Int32.ofInt (l5))), (6, .int (Int32.ofInt (l6)))] [] cs := by
  unfold wX7_down_9' at hw
  refine z_iload dX7_down_9 rfl ?_
  refine z_iload_n dX7_down_11 rfl rfl ?_
  obtain ⟨q2, hw⟩ := hw
  obtain ⟨q3, hw⟩ := hw
  refine i_icmp_gt (tgt := 105) dX7_down_12 (by decide) q2 q3 (fun h1 => ?_) (fun h1 => ?_)
  · have hw := hw.1 h1
    refine z_iload dX7_down_105 rfl ?_
    exact z_ireturn dX7_down_107 rfl rfl (hP _ _ _ hw hW)
  · have hw := hw.2 h1
    refine z_iload dX7_down_15 rfl ?_
    refine z_iload_n dX7_down_17 rfl rfl ?_
    obtain ⟨q5, hw⟩ := hw
    refine i_icmp_gt (tgt := 105) dX7_down_18 (by decide) q5 q3 (fun h4 => ?_) (fun h4 => ?_)
    · have hw := hw.1 h4
      refine z_iload dX7_down_105 rfl ?_
      exact z_ireturn dX7_down_107 rfl rfl (hP _ _ _ hw hW)
    · have hw := hw.2 h4
      refine z_aload_n dX7_down_21 rfl rfl ?_
      refine z_bipush (v := Int32.ofInt 47) dX7_down_22 (by decide) ?_
      refine z_iload dX7_down_24 rfl ?_
      refine z_iload_n dX7_down_26 rfl rfl ?_
      have hX := lX7_placeOf 1 (Nat.le_refl _) hT hS hU hW ⟨by decide, by decide⟩ q5 q3 hw
      refine z_callV (As := [_, _, _]) eX7_placeOf sX7_placeOf lX7_41 rfl dX7_down_27 (hW.at (hU 240 _ rfl)) hX (Nat.le_trans (by decide) hd) rfl (Nat.le_of_ble_eq_true rfl) (fun r cs hp => ?_)
      obtain ⟨r7, S6, rfl, hw, hW⟩ := hp
      refine z_st (st' := [.int (Int32.ofInt (r7))]) rfl ?_
      refine z_istore dX7_down_30 (by decide) ?_
      refine z_loc (L' := [(0, .ref (G.1 + v 240)), (3, .int (Int32.ofInt (l3))), (4, .int (Int32.ofInt (l4))), (5, .int (Int32.ofInt (l5))), (6, .int (Int32.ofInt (l6))), (7, .int (Int32.ofInt (r7)))]) (List.forall_mem_cons.mpr ⟨rfl, (List.forall_mem_cons.mpr ⟨rfl, (List.forall_mem_cons.mpr ⟨rfl, (List.forall_mem_cons.mpr ⟨rfl, (List.forall_mem_cons.mpr ⟨rfl, (List.forall_mem_cons.mpr ⟨rfl, (fun _ h => nomatch h)⟩)⟩)⟩)⟩)⟩)⟩) ?_
      refine z_aload_n dX7_down_32 rfl rfl ?_
      refine z_bipush (v := Int32.ofInt 91) dX7_down_33 (by decide) ?_
      refine z_iload dX7_down_35 rfl ?_
      refine z_iload dX7_down_37 rfl ?_
      obtain ⟨q10, hw⟩ := hw
      have hX := lX7_placeOf 1 (Nat.le_refl _) hT hS hU hW ⟨by decide, by decide⟩ q5 q10 hw
      refine z_callV (As := [_, _, _]) eX7_placeOf sX7_placeOf lX7_41 rfl dX7_down_39 (hW.at (hU 240 _ rfl)) hX (Nat.le_trans (by decide) hd) rfl (Nat.le_of_ble_eq_true rfl) (fun r cs hp => ?_)
      obtain ⟨r9, S8, rfl, hw, hW⟩ := hp
      refine z_st (st' := [.int (Int32.ofInt (r9))]) rfl ?_
      refine z_istore dX7_down_42 (by decide) ?_
      refine z_loc (L' := [(0, .ref (G.1 + v 240)), (3, .int (Int32.ofInt (l3))), (4, .int (Int32.ofInt (l4))), (5, .int (Int32.ofInt (l5))), (6, .int (Int32.ofInt (l6))), (7, .int (Int32.ofInt (r7))), (8, .int (Int32.ofInt (r9)))]) (List.forall_mem_cons.mpr ⟨rfl, (List.forall_mem_cons.mpr ⟨rfl, (List.forall_mem_cons.mpr ⟨rfl, (List.forall_mem_cons.mpr ⟨rfl, (List.forall_mem_cons.mpr ⟨rfl, (List.forall_mem_cons.mpr ⟨rfl, (List.forall_mem_cons.mpr ⟨rfl, (fun _ h => nomatch h)⟩)⟩)⟩)⟩)⟩)⟩)⟩) ?_
      refine z_iload dX7_down_44 rfl ?_
      refine z_iload dX7_down_46 rfl ?_
      obtain ⟨q12, hw⟩ := hw
      refine i_icmp_ne (tgt := 55) dX7_down_48 (by decide) q12 q10 (fun h11 => ?_) (fun h11 => ?_)
      · have hw := hw.1 h11
        refine z_aload_n dX7_down_55 rfl rfl ?_
        refine z_iload dX7_down_56 rfl ?_
        refine z_iconst (v := Int32.ofInt 1) dX7_down_58 rfl ?_
        refine i_iadd dX7_down_59 ?_
        refine z_iload dX7_down_60 rfl ?_
        obtain ⟨q15, hw⟩ := hw
        have hX := lX7_rank 1 (Nat.le_refl _) hT hS hU hW q15 q10 hw
        refine z_callV (As := [_, _]) eX7_rank sX7_rank lX7_44 rfl dX7_down_62 (hW.at (hU 240 _ rfl)) hX (Nat.le_trans (by decide) hd) rfl (Nat.le_of_ble_eq_true rfl) (fun r cs hp => ?_)
        obtain ⟨r14, S13, rfl, hw, hW⟩ := hp
        refine z_st (st' := [.int (Int32.ofInt (r14))]) rfl ?_
        refine z_loc (L' := [(0, .ref (G.1 + v 240)), (3, .int (Int32.ofInt (l3))), (4, .int (Int32.ofInt (l4))), (5, .int (Int32.ofInt (l5))), (6, .int (Int32.ofInt (l6))), (7, .int (Int32.ofInt (r7))), (8, .int (Int32.ofInt (r9)))]) (List.forall_mem_cons.mpr ⟨rfl, (List.forall_mem_cons.mpr ⟨rfl, (List.forall_mem_cons.mpr ⟨rfl, (List.forall_mem_cons.mpr ⟨rfl, (List.forall_mem_cons.mpr ⟨rfl, (List.forall_mem_cons.mpr ⟨rfl, (List.forall_mem_cons.mpr ⟨rfl, (fun _ h => nomatch h)⟩)⟩)⟩)⟩)⟩)⟩)⟩) ?_
        exact ubX7_down_65 hd hT hS hU hW hP hB9 hw
      · have hw := hw.2 h11
        refine z_iconst (v := Int32.ofInt 1) dX7_down_51 rfl ?_
        refine z_goto (tgt := 65) dX7_down_52 (by decide) ?_
        refine z_loc (L' := [(0, .ref (G.1 + v 240)), (3, .int (Int32.ofInt (l3))), (4, .int (Int32.ofInt (l4))), (5, .int (Int32.ofInt (l5))), (6, .int (Int32.ofInt (l6))), (7, .int (Int32.ofInt (r7))), (8, .int (Int32.ofInt (r9)))]) (List.forall_mem_cons.mpr ⟨rfl, (List.forall_mem_cons.mpr ⟨rfl, (List.forall_mem_cons.mpr ⟨rfl, (List.forall_mem_cons.mpr ⟨rfl, (List.forall_mem_cons.mpr ⟨rfl, (List.forall_mem_cons.mpr ⟨rfl, (List.forall_mem_cons.mpr ⟨rfl, (fun _ h => nomatch h)⟩)⟩)⟩)⟩)⟩)⟩)⟩) ?_
        exact ubX7_down_65 hd hT hS hU hW hP hB9 hw
def wX7_down_9  (l3 l4 l5 l6 : Int) (S : St) (K : Int → St → Prop) : Prop := ∃ (Iv : Int → Int → Int → Int → St → Prop) (mu : Int → Int → Int → Int → St → Nat), Iv l3 l4 l5 l6 S ∧ ∀ (l3 l4 l5 l6 : Int) (S : St), Iv l3 l4 l5 l6 S → wX7_down_9' l3 l4 l5 l6 S K  (fun ml3 ml4 ml5 ml6 T => Iv ml3 ml4 ml5 ml6 T ∧ mu ml3 ml4 ml5 ml6 T < mu l3 l4 l5 l6 S)
set_option maxRecDepth 100000 in
set_option maxHeartbeats 4000000 in
theorem ubX7_down_9 {G : xG} {v : Nat → Nat} {sh : Nat → Option Sh} {B : Nat × Nat} {c0 : List va_E} {d : Nat} {Post : xP} {l3 l4 l5 l6 : Int} {S : St} {cs : List va_E} {K : Int → St → Prop} (hd : 3 ≤ d) (hT : sb shC sh) (hS : ∀ b x, sh b = some x → ¬ isS b) (hU : sb shWa sh) (hW : Wv G v sh B c0 S cs) (hP : ∀ (x : Int) (S : St) (cs : List va_E), K x S → Wv G v sh B c0 S cs → Post (some (.int (Int32.ofInt x))) cs)  (hw : wX7_down_9 l3 l4 l5 l6 S K ) : Z (RX7, cX7_down, 10, some .int, false) G d Post 9 [(0, .ref (G.1 + v 240)), (3, .int (Int32.ofInt (l3))), (4, .int (Int32.ofInt (l4))), (5, .int (Int32.ofInt (l5))), (6, .int (Int32.ofInt (l6)))] [] cs := by
  unfold wX7_down_9 at hw
  obtain ⟨Iv, mu, h0, hs⟩ := hw
  have key : ∀ (n : Nat) (l3 l4 l5 l6 : Int) (S : St) (cs : List va_E), mu l3 l4 l5 l6 S < n → Iv l3 l4 l5 l6 S → Wv G v sh B c0 S cs → Z (RX7, cX7_down, 10, some .int, false) G d Post 9 [(0, .ref (G.1 + v 240)), (3, .int (Int32.ofInt (l3))), (4, .int (Int32.ofInt (l4))), (5, .int (Int32.ofInt (l5))), (6, .int (Int32.ofInt (l6)))] [] cs := by
    intro n
    induction n with
    | zero => intro l3 l4 l5 l6 S cs hn; exact absurd hn (Nat.not_lt_zero _)
    | succ n ih =>
      intro l3 l4 l5 l6 S cs hn hI hW
      exact ubX7_down_9' hd hT hS hU hW hP  (fun l3 l4 l5 l6 S cs hb hW => ih l3 l4 l5 l6 S cs (Nat.lt_of_lt_of_le hb.2 (Nat.le_of_lt_succ hn)) hb.1 hW) (hs l3 l4 l5 l6 S hI)
  exact key _ _ _ _ _ _ _ (Nat.lt_succ_self _) h0 hW
def wX7_down  (a1 a2 a3 : Int) (S : St) (K : Int → St → Prop) : Prop := rng a1 → rng a2 → rng a3 → wX7_down_9 (a3) (a1) (a2) (a2) S K
set_option maxRecDepth 100000 in
set_option maxHeartbeats 4000000 in
theorem lX7_down {G : xG} {v : Nat → Nat} {sh : Nat → Option Sh} {B : Nat × Nat} {c0 : List va_E}  {a1 a2 a3 : Int} {S : St} {cs : List va_E} {K : Int → St → Prop} (d : Nat) (hd : 3 ≤ d) (hT : sb shC sh) (hS : ∀ b x, sh b = some x → ¬ isS b) (hU : sb shWa sh) (hW : Wv G v sh B c0 S cs) (g1 : rng a1) (g2 : rng a2) (g3 : rng a3) (hw : wX7_down a1 a2 a3 S K) : X G yX7_down cX7_down 10 (some .int) d [.ref (G.1 + v 240), .int (Int32.ofInt a1), .int (Int32.ofInt a2), .int (Int32.ofInt a3)] cs (vI G v sh B c0 K) := by
  refine X.of false (by decide +kernel) (by decide) (Nat.le_of_ble_eq_true rfl) ?_
  show Z (RX7, cX7_down, 10, some .int, false) G d _ 0 [(0, .ref (G.1 + v 240)), (1, .int (Int32.ofInt a1)), (2, .int (Int32.ofInt a2)), (3, .int (Int32.ofInt a3))] [] cs
  have hP : ∀ (x : Int) (S : St) (cs : List va_E), K x S → Wv G v sh B c0 S cs → vI G v sh B c0 K (some (.int (Int32.ofInt x))) cs := fun x S cs a b => ⟨x, S, rfl, a, b⟩
  unfold wX7_down at hw
  have hw := hw g1 g2 g3
  refine z_iload_n dX7_down_0 rfl rfl ?_
  refine z_istore dX7_down_1 (by decide) ?_
  refine z_loc (L' := [(0, .ref (G.1 + v 240)), (1, .int (Int32.ofInt (a1))), (2, .int (Int32.ofInt (a2))), (3, .int (Int32.ofInt (a3))), (4, .int (Int32.ofInt (a1)))]) (List.forall_mem_cons.mpr ⟨rfl, (List.forall_mem_cons.mpr ⟨rfl, (List.forall_mem_cons.mpr ⟨rfl, (List.forall_mem_cons.mpr ⟨rfl, (List.forall_mem_cons.mpr ⟨rfl, (fun _ h => nomatch h)⟩)⟩)⟩)⟩)⟩) ?_
  refine z_iload_n dX7_down_3 rfl rfl ?_
  refine z_istore dX7_down_4 (by decide) ?_
  refine z_loc (L' := [(0, .ref (G.1 + v 240)), (1, .int (Int32.ofInt (a1))), (2, .int (Int32.ofInt (a2))), (3, .int (Int32.ofInt (a3))), (4, .int (Int32.ofInt (a1))), (5, .int (Int32.ofInt (a2)))]) (List.forall_mem_cons.mpr ⟨rfl, (List.forall_mem_cons.mpr ⟨rfl, (List.forall_mem_cons.mpr ⟨rfl, (List.forall_mem_cons.mpr ⟨rfl, (List.forall_mem_cons.mpr ⟨rfl, (List.forall_mem_cons.mpr ⟨rfl, (fun _ h => nomatch h)⟩)⟩)⟩)⟩)⟩)⟩) ?_
  refine z_iload_n dX7_down_6 rfl rfl ?_
  refine z_istore dX7_down_7 (by decide) ?_
  refine z_loc (L' := [(0, .ref (G.1 + v 240)), (1, .int (Int32.ofInt (a1))), (2, .int (Int32.ofInt (a2))), (3, .int (Int32.ofInt (a3))), (4, .int (Int32.ofInt (a1))), (5, .int (Int32.ofInt (a2))), (6, .int (Int32.ofInt (a2)))]) (List.forall_mem_cons.mpr ⟨rfl, (List.forall_mem_cons.mpr ⟨rfl, (List.forall_mem_cons.mpr ⟨rfl, (List.forall_mem_cons.mpr ⟨rfl, (List.forall_mem_cons.mpr ⟨rfl, (List.forall_mem_cons.mpr ⟨rfl, (List.forall_mem_cons.mpr ⟨rfl, (fun _ h => nomatch h)⟩)⟩)⟩)⟩)⟩)⟩)⟩) ?_
  refine z_loc (L' := [(0, .ref (G.1 + v 240)), (3, .int (Int32.ofInt (a3))), (4, .int (Int32.ofInt (a1))), (5, .int (Int32.ofInt (a2))), (6, .int (Int32.ofInt (a2)))]) (List.forall_mem_cons.mpr ⟨rfl, (List.forall_mem_cons.mpr ⟨rfl, (List.forall_mem_cons.mpr ⟨rfl, (List.forall_mem_cons.mpr ⟨rfl, (List.forall_mem_cons.mpr ⟨rfl, (fun _ h => nomatch h)⟩)⟩)⟩)⟩)⟩) ?_
  exact ubX7_down_9 hd hT hS hU hW hP  hw

def wX7_goesUp  (a1 a2 : Int) (S : St) (K : Int → St → Prop) : Prop := rng a1 → rng a2 → (rng ((a1 + 2)) ∧ ((a2 < (a1 + 2) → K (0) S) ∧ ((¬ (a2 < (a1 + 2))) → (wX5_at 4 (a1) S (fun r4 S3 => (rng (r4) ∧ ((¬ r4 = 46 → K (0) S3) ∧ ((¬ (¬ r4 = 46)) → (rng ((a1 + 1)) ∧ (wX5_at 4 ((a1 + 1)) S3 (fun r8 S7 => (rng (r8) ∧ ((¬ r8 = 46 → K (0) S7) ∧ ((¬ (¬ r8 = 46)) → K (1) S7))))))))))))))
set_option maxRecDepth 100000 in
set_option maxHeartbeats 4000000 in
theorem lX7_goesUp {G : xG} {v : Nat → Nat} {sh : Nat → Option Sh} {B : Nat × Nat} {c0 : List va_E}  {a1 a2 : Int} {S : St} {cs : List va_E} {K : Int → St → Prop} (d : Nat) (hd : 1 ≤ d) (hT : sb shC sh) (hS : ∀ b x, sh b = some x → ¬ isS b) (hU : sb shWa sh) (hW : Wv G v sh B c0 S cs) (g1 : rng a1) (g2 : rng a2) (hw : wX7_goesUp a1 a2 S K) : X G yX7_goesUp cX7_goesUp 3 (some .boolean) d [.ref (G.1 + v 240), .int (Int32.ofInt a1), .int (Int32.ofInt a2)] cs (vI G v sh B c0 K) := by
  refine X.of false (by decide +kernel) (by decide) (Nat.le_of_ble_eq_true rfl) ?_
  show Z (RX7, cX7_goesUp, 3, some .boolean, false) G d _ 0 [(0, .ref (G.1 + v 240)), (1, .int (Int32.ofInt a1)), (2, .int (Int32.ofInt a2))] [] cs
  have hP : ∀ (x : Int) (S : St) (cs : List va_E), K x S → Wv G v sh B c0 S cs → vI G v sh B c0 K (some (.int (Int32.ofInt x))) cs := fun x S cs a b => ⟨x, S, rfl, a, b⟩
  unfold wX7_goesUp at hw
  have hw := hw g1 g2
  refine z_iload_n dX7_goesUp_0 rfl rfl ?_
  refine z_iconst (v := Int32.ofInt 2) dX7_goesUp_1 rfl ?_
  refine i_iadd dX7_goesUp_2 ?_
  refine z_iload_n dX7_goesUp_3 rfl rfl ?_
  obtain ⟨q2, hw⟩ := hw
  refine i_icmp_gt (tgt := 39) dX7_goesUp_4 (by decide) q2 g2 (fun h1 => ?_) (fun h1 => ?_)
  · have hw := hw.1 h1
    refine z_iconst (v := Int32.ofInt 0) dX7_goesUp_39 rfl ?_
    exact z_ireturn dX7_goesUp_40 rfl (nar01 (by decide)) (hP _ _ _ hw hW)
  · have hw := hw.2 h1
    refine z_aload_n dX7_goesUp_7 rfl rfl ?_
    refine v_getR hW (hU 240 _ rfl) rfl kX7 fX7_21 dX7_goesUp_8 ?_
    refine z_iload_n dX7_goesUp_11 rfl rfl ?_
    have hX := lX5_at 0 (Nat.le_refl _) hW (show isS 4 by unfold isS; decide) (fun b x h e => hS b x h (e ▸ (show isS 4 by unfold isS; decide))) g1 hw
    refine z_callV (As := [_]) eX5_at sX5_at lX7_24 rfl dX7_goesUp_12 (hW.sg (show isS 4 by unfold isS; decide) (fun b x h e => hS b x h (e ▸ (show isS 4 by unfold isS; decide)))).choose_spec.choose_spec.choose_spec.choose_spec.1.choose_spec.1 hX (Nat.le_trans (by decide) hd) rfl (Nat.le_of_ble_eq_true rfl) (fun r cs hp => ?_)
    obtain ⟨r4, S3, rfl, hw, hW⟩ := hp
    refine z_st (st' := [.int (Int32.ofInt (r4))]) rfl ?_
    refine z_bipush (v := Int32.ofInt 46) dX7_goesUp_15 (by decide) ?_
    obtain ⟨q6, hw⟩ := hw
    refine i_icmp_ne (tgt := 39) dX7_goesUp_17 (by decide) q6 ⟨by decide, by decide⟩ (fun h5 => ?_) (fun h5 => ?_)
    · have hw := hw.1 h5
      refine z_iconst (v := Int32.ofInt 0) dX7_goesUp_39 rfl ?_
      exact z_ireturn dX7_goesUp_40 rfl (nar01 (by decide)) (hP _ _ _ hw hW)
    · have hw := hw.2 h5
      refine z_aload_n dX7_goesUp_20 rfl rfl ?_
      refine v_getR hW (hU 240 _ rfl) rfl kX7 fX7_21 dX7_goesUp_21 ?_
      refine z_iload_n dX7_goesUp_24 rfl rfl ?_
      refine z_iconst (v := Int32.ofInt 1) dX7_goesUp_25 rfl ?_
      refine i_iadd dX7_goesUp_26 ?_
      obtain ⟨q9, hw⟩ := hw
      have hX := lX5_at 0 (Nat.le_refl _) hW (show isS 4 by unfold isS; decide) (fun b x h e => hS b x h (e ▸ (show isS 4 by unfold isS; decide))) q9 hw
      refine z_callV (As := [_]) eX5_at sX5_at lX7_24 rfl dX7_goesUp_27 (hW.sg (show isS 4 by unfold isS; decide) (fun b x h e => hS b x h (e ▸ (show isS 4 by unfold isS; decide)))).choose_spec.choose_spec.choose_spec.choose_spec.1.choose_spec.1 hX (Nat.le_trans (by decide) hd) rfl (Nat.le_of_ble_eq_true rfl) (fun r cs hp => ?_)
      obtain ⟨r8, S7, rfl, hw, hW⟩ := hp
      refine z_st (st' := [.int (Int32.ofInt (r8))]) rfl ?_
      refine z_bipush (v := Int32.ofInt 46) dX7_goesUp_30 (by decide) ?_
      obtain ⟨q11, hw⟩ := hw
      refine i_icmp_ne (tgt := 39) dX7_goesUp_32 (by decide) q11 ⟨by decide, by decide⟩ (fun h10 => ?_) (fun h10 => ?_)
      · have hw := hw.1 h10
        refine z_iconst (v := Int32.ofInt 0) dX7_goesUp_39 rfl ?_
        exact z_ireturn dX7_goesUp_40 rfl (nar01 (by decide)) (hP _ _ _ hw hW)
      · have hw := hw.2 h10
        refine z_iconst (v := Int32.ofInt 1) dX7_goesUp_35 rfl ?_
        refine z_goto (tgt := 40) dX7_goesUp_36 (by decide) ?_
        exact z_ireturn dX7_goesUp_40 rfl (nar01 (by decide)) (hP _ _ _ hw hW)

