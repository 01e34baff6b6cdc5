def wX3_fillsNumber_128 (m : Nat)  (l1 l2 s0 : Int) (S : St) (K : Int → St → Prop) : Prop := (rng ((tI (s0))) ∧ (rngL (s0) ∧ (rngL ((tI (s0))) ∧ ((s0 = (tI (s0)) → (rng (l1) ∧ (rng (l2) ∧ (wX1_putHead_b (l1) (l2) ((tI (s0))) S (fun r6 S5 => K (1) S5))))) ∧ ((¬ (s0 = (tI (s0)))) → K (0) S)))))
set_option maxRecDepth 100000 in
set_option maxHeartbeats 4000000 in
theorem ubX3_fillsNumber_128 {G : xG} {v : Nat → Nat} {sh : Nat → Option Sh} {B : Nat × Nat} {c0 : List va_E} {m : Nat} {d : Nat} {Post : xP} {l1 l2 s0 : Int} {S : St} {cs : List va_E} {K : Int → St → Prop} (hd : 2 ≤ d) (hm : m ≤ 200) (hT : sb shC sh) (hS : ∀ b x, sh b = some x → ¬ isS b) (hU : sb (shMe m) sh) (hW : Wv G v sh B c0 S cs) (hP : ∀ (x : Int) (S : St) (cs : List va_E), K x S → Wv G v sh B c0 S cs → Post (some (.int (Int32.ofInt x))) cs)  (hw : wX3_fillsNumber_128 m l1 l2 s0 S K ) : Z (RX3, cX3_fillsNumber, 10, some .boolean, false) G d Post 128 [(0, .ref (G.1 + v 230)), (1, .int (Int32.ofInt (l1))), (2, .int (Int32.ofInt (l2)))] [.long (Int64.ofInt (s0))] cs := by
  unfold wX3_fillsNumber_128 at hw
  refine z_lstore dX3_fillsNumber_128 (by decide) ?_
  refine z_loc (L' := [(0, .ref (G.1 + v 230)), (1, .int (Int32.ofInt (l1))), (2, .int (Int32.ofInt (l2))), (7, .long (Int64.ofInt (s0)))]) (List.forall_mem_cons.mpr ⟨rfl, (List.forall_mem_cons.mpr ⟨rfl, (List.forall_mem_cons.mpr ⟨rfl, (List.forall_mem_cons.mpr ⟨rfl, (fun _ h => nomatch h)⟩)⟩)⟩)⟩) ?_
  refine z_lload dX3_fillsNumber_130 rfl ?_
  refine z_lload dX3_fillsNumber_132 rfl ?_
  refine i_l2it dX3_fillsNumber_134 ?_
  obtain ⟨q1, hw⟩ := hw
  refine i_i2l dX3_fillsNumber_135 q1 ?_
  obtain ⟨q2, hw⟩ := hw
  obtain ⟨q3, hw⟩ := hw
  refine i_lcmp_eq (tgt := 142) dX3_fillsNumber_136 dX3_fillsNumber_137 (by decide) q2 q3 (fun h4 => ?_) (fun h4 => ?_)
  · have hw := hw.1 h4
    refine z_aload_n dX3_fillsNumber_142 rfl rfl ?_
    refine v_getR hW (hU 230 _ rfl) rfl kX3 fX3_37 dX3_fillsNumber_143 ?_
    refine z_iload_n dX3_fillsNumber_146 rfl rfl ?_
    refine z_iload_n dX3_fillsNumber_147 rfl rfl ?_
    refine z_lload dX3_fillsNumber_148 rfl ?_
    refine i_l2it dX3_fillsNumber_150 ?_
    obtain ⟨q7, hw⟩ := hw
    obtain ⟨q8, hw⟩ := hw
    have hX := lX1_putHead_b 1 (Nat.le_refl _) hT hS hW q7 q8 q1 hw
    refine z_callV (As := [_, _, _]) eX1_putHead sX1_putHead lX3_152 rfl dX3_fillsNumber_151 (hW.at (hT 50 _ rfl)) hX (Nat.le_trans (by decide) hd) rfl (Nat.le_of_ble_eq_true rfl) (fun r cs hp => ?_)
    obtain ⟨r6, S5, rfl, hw, hW⟩ := hp
    refine z_st (st' := []) rfl ?_
    refine z_iconst (v := Int32.ofInt 1) dX3_fillsNumber_154 rfl ?_
    exact z_ireturn dX3_fillsNumber_155 rfl (nar01 (by decide)) (hP _ _ _ hw hW)
  · have hw := hw.2 h4
    refine z_iconst (v := Int32.ofInt 0) dX3_fillsNumber_140 rfl ?_
    exact z_ireturn dX3_fillsNumber_141 rfl (nar01 (by decide)) (hP _ _ _ hw hW)
def wX3_fillsNumber_62' (m : Nat)  (l1 l2 l4 l5 l7 l9 : Int) (S : St) (K : Int → St → Prop) (B62 : Int → Int → Int → Int → Int → Int → St → Prop) : Prop := (rng (l9) ∧ (rng (l4) ∧ ((l4 ≤ l9 → (rng (l5) ∧ ((l5 = 0 → wX3_fillsNumber_128 m (l1) (l2) (l7) S K) ∧ ((¬ (l5 = 0)) → wX3_fillsNumber_128 m (l1) (l2) ((-l7)) S K)))) ∧ ((¬ (l4 ≤ l9)) → (wX5_at 4 (l9) S (fun r7 S6 => (rng (r7) ∧ (wX10_isDigit (r7) S6 (fun r9 S8 => (rng (r9) ∧ ((¬ r9 = 0 → (wX5_at 4 (l9) S8 (fun r14 S13 => (rng (r14) ∧ (∀ x16 : Int, x16 = (((l7 * 10) + r14) - 48) → B62 (l1) (l2) (l4) (l5) (x16) ((l9 + 1)) S13))))) ∧ ((¬ (¬ r9 = 0)) → K (0) S8))))))))))))
set_option maxRecDepth 100000 in
set_option maxHeartbeats 4000000 in
theorem ubX3_fillsNumber_62' {G : xG} {v : Nat → Nat} {sh : Nat → Option Sh} {B : Nat × Nat} {c0 : List va_E} {m : Nat} {d : Nat} {Post : xP} {l1 l2 l4 l5 l7 l9 : Int} {S : St} {cs : List va_E} {K : Int → St → Prop} {B62 : Int → Int → Int → Int → Int → Int → St → Prop} (hd : 2 ≤ d) (hm : m ≤ 200) (hT : sb shC sh) (hS : ∀ b x, sh b = some x → ¬ isS b) (hU : sb (shMe m) sh) (hW : Wv G v sh B c0 S cs) (hP : ∀ (x : Int) (S : St) (cs : List va_E), K x S → Wv G v sh B c0 S cs → Post (some (.int (Int32.ofInt x))) cs) (hB62 : ∀ (l1 : Int) (l2 : Int) (l4 : Int) (l5 : Int) (l7 : Int) (l9 : Int) (S : St) (cs : List va_E), B62 l1 l2 l4 l5 l7 l9 S → Wv G v sh B c0 S cs → Z (RX3, cX3_fillsNumber, 10, some .boolean, false) G d Post 62 [(0, .ref (G.1 + v 230)), (1, .int (Int32.ofInt (l1))), (2, .int (Int32.ofInt (l2))), (4, .int (Int32.ofInt (l4))), (5, .int (Int32.ofInt (l5))), (7, .long (Int64.ofInt (l7))), (9, .int (Int32.ofInt (l9)))] [] cs) (hw : wX3_fillsNumber_62' m l1 l2 l4 l5 l7 l9 S K B62) : Z (RX3, cX3_fillsNumber, 10, some .boolean, false) G d Post 62 [(0, .ref (G.1 + v 230)), (1, .int (Int32.ofInt (l1))), (2, .int (Int32.ofInt (l2))), (4, .int (Int32.ofInt (l4))), (5, .int (Int32.ofInt (l5))), (7, .long (Int64.ofInt (l7))), (9, .int (Int32.ofInt (l9)))] [] cs := by
  unfold wX3_fillsNumber_62' at hw
  refine z_iload dX3_fillsNumber_62 rfl ?_
  refine z_iload dX3_fillsNumber_64 rfl ?_
  obtain ⟨q2, hw⟩ := hw
  obtain ⟨q3, hw⟩ := hw
  refine i_icmp_ge (tgt := 115) dX3_fillsNumber_66 (by decide) q2 q3 (fun h1 => ?_) (fun h1 => ?_)
  · have hw := hw.1 h1
    refine z_iload dX3_fillsNumber_115 rfl ?_
    obtain ⟨q5, hw⟩ := hw
    refine i_if_eq (tgt := 126) dX3_fillsNumber_117 (by decide) q5 (fun h4 => ?_) (fun h4 => ?_)
    · have hw := hw.1 h4
      refine z_lload dX3_fillsNumber_126 rfl ?_
      refine z_loc (L' := [(0, .ref (G.1 + v 230)), (1, .int (Int32.ofInt (l1))), (2, .int (Int32.ofInt (l2)))]) (List.forall_mem_cons.mpr ⟨rfl, (List.forall_mem_cons.mpr ⟨rfl, (List.forall_mem_cons.mpr ⟨rfl, (fun _ h => nomatch h)⟩)⟩)⟩) ?_
      exact ubX3_fillsNumber_128 hd hm hT hS hU hW hP  hw
    · have hw := hw.2 h4
      refine z_lload dX3_fillsNumber_120 rfl ?_
      refine i_lneg dX3_fillsNumber_122 ?_
      refine z_goto (tgt := 128) dX3_fillsNumber_123 (by decide) ?_
      refine z_loc (L' := [(0, .ref (G.1 + v 230)), (1, .int (Int32.ofInt (l1))), (2, .int (Int32.ofInt (l2)))]) (List.forall_mem_cons.mpr ⟨rfl, (List.forall_mem_cons.mpr ⟨rfl, (List.forall_mem_cons.mpr ⟨rfl, (fun _ h => nomatch h)⟩)⟩)⟩) ?_
      exact ubX3_fillsNumber_128 hd hm hT hS hU hW hP  hw
  · have hw := hw.2 h1
    refine z_aload_n dX3_fillsNumber_69 rfl rfl ?_
    refine v_getR hW (hU 230 _ rfl) rfl kX3 fX3_35 dX3_fillsNumber_70 ?_
    refine z_iload dX3_fillsNumber_73 rfl ?_
    have hX := lX5_at 0 (Nat.le_refl _) hW (show isS 4 by unfold isS; decide) (fun b x h e => hS b x h (e ▸ (show isS 4 by unfold isS; decide))) q2 hw
    refine z_callV (As := [_]) eX5_at sX5_at lX3_211 rfl dX3_fillsNumber_75 (hW.sg (show isS 4 by unfold isS; decide) (fun b x h e => hS b x h (e ▸ (show isS 4 by unfold isS; decide)))).choose_spec.choose_spec.choose_spec.choose_spec.1.choose_spec.1 hX (Nat.le_trans (by decide) hd) rfl (Nat.le_of_ble_eq_true rfl) (fun r cs hp => ?_)
    obtain ⟨r7, S6, rfl, hw, hW⟩ := hp
    refine z_st (st' := [.int (Int32.ofInt (r7))]) rfl ?_
    obtain ⟨q10, hw⟩ := hw
    have hX := lX10_isDigit 0 (Nat.le_refl _) hT hS hW q10 hw
    refine z_callSN (As := [_]) eX10_isDigit sX10_isDigit lX3_214 dX3_fillsNumber_78 hX (Nat.le_trans (by decide) hd) rfl (Nat.le_of_ble_eq_true rfl) (fun r cs hp => ?_)
    obtain ⟨r9, S8, rfl, hw, hW⟩ := hp
    refine z_st (st' := [.int (Int32.ofInt (r9))]) rfl ?_
    obtain ⟨q12, hw⟩ := hw
    refine i_if_ne (tgt := 86) dX3_fillsNumber_81 (by decide) q12 (fun h11 => ?_) (fun h11 => ?_)
    · have hw := hw.1 h11
      refine z_lload dX3_fillsNumber_86 rfl ?_
      refine i_ldc2 (n := 10) qX3_228 rfl dX3_fillsNumber_88 ?_
      refine i_lmul dX3_fillsNumber_91 ?_
      refine z_aload_n dX3_fillsNumber_92 rfl rfl ?_
      refine v_getR hW (hU 230 _ rfl) rfl kX3 fX3_35 dX3_fillsNumber_93 ?_
      refine z_iload dX3_fillsNumber_96 rfl ?_
      have hX := lX5_at 0 (Nat.le_refl _) hW (show isS 4 by unfold isS; decide) (fun b x h e => hS b x h (e ▸ (show isS 4 by unfold isS; decide))) q2 hw
      refine z_callV (As := [_]) eX5_at sX5_at lX3_211 rfl dX3_fillsNumber_98 (hW.sg (show isS 4 by unfold isS; decide) (fun b x h e => hS b x h (e ▸ (show isS 4 by unfold isS; decide)))).choose_spec.choose_spec.choose_spec.choose_spec.1.choose_spec.1 hX (Nat.le_trans (by decide) hd) rfl (Nat.le_of_ble_eq_true rfl) (fun r cs hp => ?_)
      obtain ⟨r14, S13, rfl, hw, hW⟩ := hp
      refine z_st (st' := [.int (Int32.ofInt (r14)), .long (Int64.ofInt ((l7 * 10)))]) rfl ?_
      obtain ⟨q15, hw⟩ := hw
      refine i_i2l dX3_fillsNumber_101 q15 ?_
      refine i_ladd dX3_fillsNumber_102 ?_
      refine i_ldc2 (n := 48) qX3_230 rfl dX3_fillsNumber_103 ?_
      refine i_lsub dX3_fillsNumber_106 ?_
      obtain ⟨x16, hx16⟩ : ∃ x : Int, x = (((l7 * 10) + r14) - 48) := ⟨_, rfl⟩
      have hw := hw x16 hx16
      refine z_st (st' := [.long (Int64.ofInt x16)]) (by rw [hx16]) ?_
      refine z_lstore dX3_fillsNumber_107 (by decide) ?_
      refine z_loc (L' := [(0, .ref (G.1 + v 230)), (1, .int (Int32.ofInt (l1))), (2, .int (Int32.ofInt (l2))), (4, .int (Int32.ofInt (l4))), (5, .int (Int32.ofInt (l5))), (7, .long (Int64.ofInt (x16))), (9, .int (Int32.ofInt (l9)))]) (List.forall_mem_cons.mpr ⟨rfl, (List.forall_mem_cons.mpr ⟨rfl, (List.forall_mem_cons.mpr ⟨rfl, (List.forall_mem_cons.mpr ⟨rfl, (List.forall_mem_cons.mpr ⟨rfl, (List.forall_mem_cons.mpr ⟨rfl, (List.forall_mem_cons.mpr ⟨rfl, (fun _ h => nomatch h)⟩)⟩)⟩)⟩)⟩)⟩)⟩) ?_
      refine i_iinc (l := l9) dX3_fillsNumber_109 rfl (by decide) ?_
      refine z_loc (L' := [(0, .ref (G.1 + v 230)), (1, .int (Int32.ofInt (l1))), (2, .int (Int32.ofInt (l2))), (4, .int (Int32.ofInt (l4))), (5, .int (Int32.ofInt (l5))), (7, .long (Int64.ofInt (x16))), (9, .int (Int32.ofInt ((l9 + 1))))]) (List.forall_mem_cons.mpr ⟨rfl, (List.forall_mem_cons.mpr ⟨rfl, (List.forall_mem_cons.mpr ⟨rfl, (List.forall_mem_cons.mpr ⟨rfl, (List.forall_mem_cons.mpr ⟨rfl, (List.forall_mem_cons.mpr ⟨rfl, (List.forall_mem_cons.mpr ⟨rfl, (fun _ h => nomatch h)⟩)⟩)⟩)⟩)⟩)⟩)⟩) ?_
      refine z_goto (tgt := 62) dX3_fillsNumber_112 (by decide) ?_
      refine z_loc (L' := [(0, .ref (G.1 + v 230)), (1, .int (Int32.ofInt (l1))), (2, .int (Int32.ofInt (l2))), (4, .int (Int32.ofInt (l4))), (5, .int (Int32.ofInt (l5))), (7, .long (Int64.ofInt (x16))), (9, .int (Int32.ofInt ((l9 + 1))))]) (List.forall_mem_cons.mpr ⟨rfl, (List.forall_mem_cons.mpr ⟨rfl, (List.forall_mem_cons.mpr ⟨rfl, (List.forall_mem_cons.mpr ⟨rfl, (List.forall_mem_cons.mpr ⟨rfl, (List.forall_mem_cons.mpr ⟨rfl, (List.forall_mem_cons.mpr ⟨rfl, (fun _ h => nomatch h)⟩)⟩)⟩)⟩)⟩)⟩)⟩) ?_
      exact hB62 _ _ _ _ _ _ _ _ hw hW
    · have hw := hw.2 h11
      refine z_iconst (v := Int32.ofInt 0) dX3_fillsNumber_84 rfl ?_
      exact z_ireturn dX3_fillsNumber_85 rfl (nar01 (by decide)) (hP _ _ _ hw hW)
def wX3_fillsNumber_62 (m : Nat)  (l1 l2 l4 l5 l7 l9 : Int) (S : St) (K : Int → St → Prop) : Prop := ∃ (Iv : Int → Int → Int → Int → Int → Int → St → Prop) (mu : Int → Int → Int → Int → Int → Int → St → Nat), Iv l1 l2 l4 l5 l7 l9 S ∧ ∀ (l1 l2 l4 l5 l7 l9 : Int) (S : St), Iv l1 l2 l4 l5 l7 l9 S → wX3_fillsNumber_62' m l1 l2 l4 l5 l7 l9 S K  (fun ml1 ml2 ml4 ml5 ml7 ml9 T => Iv ml1 ml2 ml4 ml5 ml7 ml9 T ∧ mu ml1 ml2 ml4 ml5 ml7 ml9 T < mu l1 l2 l4 l5 l7 l9 S)
set_option maxRecDepth 100000 in
set_option maxHeartbeats 4000000 in
theorem ubX3_fillsNumber_62 {G : xG} {v : Nat → Nat} {sh : Nat → Option Sh} {B : Nat × Nat} {c0 : List va_E} {m : Nat} {d : Nat} {Post : xP} {l1 l2 l4 l5 l7 l9 : Int} {S : St} {cs : List va_E} {K : Int → St → Prop} (hd : 2 ≤ d) (hm : m ≤ 200) (hT : sb shC sh) (hS : ∀ b x, sh b = some x → ¬ isS b) (hU : sb (shMe m) sh) (hW : Wv G v sh B c0 S cs) (hP : ∀ (x : Int) (S : St) (cs : List va_E), K x S → Wv G v sh B c0 S cs → Post (some (.int (Int32.ofInt x))) cs)  (hw : wX3_fillsNumber_62 m l1 l2 l4 l5 l7 l9 S K ) : Z (RX3, cX3_fillsNumber, 10, some .boolean, false) G d Post 62 [(0, .ref (G.1 + v 230)), (1, .int (Int32.ofInt (l1))), (2, .int (Int32.ofInt (l2))), (4, .int (Int32.ofInt (l4))), (5, .int (Int32.ofInt (l5))), (7, .long (Int64.ofInt (l7))), (9, .int (Int32.ofInt (l9)))] [] cs := by
  unfold wX3_fillsNumber_62 at hw
  obtain ⟨Iv, mu, h0, hs⟩ := hw
  have key : ∀ (n : Nat) (l1 l2 l4 l5 l7 l9 : Int) (S : St) (cs : List va_E), mu l1 l2 l4 l5 l7 l9 S < n → Iv l1 l2 l4 l5 l7 l9 S → Wv G v sh B c0 S cs → Z (RX3, cX3_fillsNumber, 10, some .boolean, false) G d Post 62 [(0, .ref (G.1 + v 230)), (1, .int (Int32.ofInt (l1))), (2, .int (Int32.ofInt (l2))), (4, .int (Int32.ofInt (l4))), (5, .int (Int32.ofInt (l5))), (7, .long (Int64.ofInt (l7))), (9, .int (Int32.ofInt (l9)))] [] cs := by
    intro n
    induction n with
    | zero => intro l1 l2 l4 l5 l7 l9 S cs hn; exact absurd hn (Nat.not_lt_zero _)
    | succ n ih =>
      intro l1 l2 l4 l5 l7 l9 S cs hn hI hW
      exact ubX3_fillsNumber_62' hd hm hT hS hU hW hP  (fun l1 l2 l4 l5 l7 l9 S cs hb hW => ih l1 l2 l4 l5 l7 l9 S cs (Nat.lt_of_lt_of_le hb.2 (Nat.le_of_lt_succ hn)) hb.1 hW) (hs l1 l2 l4 l5 l7 l9 S hI)
  exact key _ _ _ _ _ _ _ _ _ (Nat.lt_succ_self _) h0 hW
def wX3_fillsNumber_32 (m : Nat)  (l1 l2 l4 l5 s0 : Int) (S : St) (K : Int → St → Prop) : Prop := (rng ((l4 - s0)) ∧ (((l4 - s0) < 1 → K (0) S) ∧ ((¬ ((l4 - s0) < 1)) → (((l4 - s0) ≤ 10 → wX3_fillsNumber_62 m (l1) (l2) (l4) (l5) (0) (s0) S K) ∧ ((¬ ((l4 - s0) ≤ 10)) → K (0) S)))))
set_option maxRecDepth 100000 in
set_option maxHeartbeats 4000000 in
theorem ubX3_fillsNumber_32 {G : xG} {v : Nat → Nat} {sh : Nat → Option Sh} {B : Nat × Nat} {c0 : List va_E} {m : Nat} {d : Nat} {Post : xP} {l1 l2 l4 l5 s0 : Int} {S : St} {cs : List va_E} {K : Int → St → Prop} (hd : 2 ≤ d) (hm : m ≤ 200) (hT : sb shC sh) (hS : ∀ b x, sh b = some x → ¬ isS b) (hU : sb (shMe m) sh) (hW : Wv G v sh B c0 S cs) (hP : ∀ (x : Int) (S : St) (cs : List va_E), K x S → Wv G v sh B c0 S cs → Post (some (.int (Int32.ofInt x))) cs)  (hw : wX3_fillsNumber_32 m l1 l2 l4 l5 s0 S K ) : Z (RX3, cX3_fillsNumber, 10, some .boolean, false) G d Post 32 [(0, .ref (G.1 + v 230)), (1, .int (Int32.ofInt (l1))), (2, .int (Int32.ofInt (l2))), (4, .int (Int32.ofInt (l4))), (5, .int (Int32.ofInt (l5)))] [.int (Int32.ofInt (s0))] cs := by
  unfold wX3_fillsNumber_32 at hw
  refine z_istore dX3_fillsNumber_32 (by decide) ?_
  refine z_loc (L' := [(0, .ref (G.1 + v 230)), (1, .int (Int32.ofInt (l1))), (2, .int (Int32.ofInt (l2))), (4, .int (Int32.ofInt (l4))), (5, .int (Int32.ofInt (l5))), (6, .int (Int32.ofInt (s0)))]) (List.forall_mem_cons.mpr ⟨rfl, (List.forall_mem_cons.mpr ⟨rfl, (List.forall_mem_cons.mpr ⟨rfl, (List.forall_mem_cons.mpr ⟨rfl, (List.forall_mem_cons.mpr ⟨rfl, (List.forall_mem_cons.mpr ⟨rfl, (fun _ h => nomatch h)⟩)⟩)⟩)⟩)⟩)⟩) ?_
  refine z_iload dX3_fillsNumber_34 rfl ?_
  refine z_iload dX3_fillsNumber_36 rfl ?_
  refine i_isub dX3_fillsNumber_38 ?_
  refine z_iconst (v := Int32.ofInt 1) dX3_fillsNumber_39 rfl ?_
  obtain ⟨q2, hw⟩ := hw
  refine i_icmp_lt (tgt := 53) dX3_fillsNumber_40 (by decide) q2 ⟨by decide, by decide⟩ (fun h1 => ?_) (fun h1 => ?_)
  · have hw := hw.1 h1
    refine z_iconst (v := Int32.ofInt 0) dX3_fillsNumber_53 rfl ?_
    exact z_ireturn dX3_fillsNumber_54 rfl (nar01 (by decide)) (hP _ _ _ hw hW)
  · have hw := hw.2 h1
    refine z_iload dX3_fillsNumber_43 rfl ?_
    refine z_iload dX3_fillsNumber_45 rfl ?_
    refine i_isub dX3_fillsNumber_47 ?_
    refine z_bipush (v := Int32.ofInt 10) dX3_fillsNumber_48 (by decide) ?_
    refine i_icmp_le (tgt := 55) dX3_fillsNumber_50 (by decide) q2 ⟨by decide, by decide⟩ (fun h3 => ?_) (fun h3 => ?_)
    · have hw := hw.1 h3
      refine z_lconst (v := Int64.ofInt 0) dX3_fillsNumber_55 (by decide) ?_
      refine z_lstore dX3_fillsNumber_56 (by decide) ?_
      refine z_loc (L' := [(0, .ref (G.1 + v 230)), (1, .int (Int32.ofInt (l1))), (2, .int (Int32.ofInt (l2))), (4, .int (Int32.ofInt (l4))), (5, .int (Int32.ofInt (l5))), (6, .int (Int32.ofInt (s0))), (7, .long (Int64.ofInt (0)))]) (List.forall_mem_cons.mpr ⟨rfl, (List.forall_mem_cons.mpr ⟨rfl, (List.forall_mem_cons.mpr ⟨rfl, (List.forall_mem_cons.mpr ⟨rfl, (List.forall_mem_cons.mpr ⟨rfl, (List.forall_mem_cons.mpr ⟨rfl, (List.forall_mem_cons.mpr ⟨rfl, (fun _ h => nomatch h)⟩)⟩)⟩)⟩)⟩)⟩)⟩) ?_
      refine z_iload dX3_fillsNumber_58 rfl ?_
      refine z_istore dX3_fillsNumber_60 (by decide) ?_
      refine z_loc (L' := [(0, .ref (G.1 + v 230)), (1, .int (Int32.ofInt (l1))), (2, .int (Int32.ofInt (l2))), (4, .int (Int32.ofInt (l4))), (5, .int (Int32.ofInt (l5))), (6, .int (Int32.ofInt (s0))), (7, .long (Int64.ofInt (0))), (9, .int (Int32.ofInt (s0)))]) (List.forall_mem_cons.mpr ⟨rfl, (List.forall_mem_cons.mpr ⟨rfl, (List.forall_mem_cons.mpr ⟨rfl, (List.forall_mem_cons.mpr ⟨rfl, (List.forall_mem_cons.mpr ⟨rfl, (List.forall_mem_cons.mpr ⟨rfl, (List.forall_mem_cons.mpr ⟨rfl, (List.forall_mem_cons.mpr ⟨rfl, (fun _ h => nomatch h)⟩)⟩)⟩)⟩)⟩)⟩)⟩)⟩) ?_
      refine z_loc (L' := [(0, .ref (G.1 + v 230)), (1, .int (Int32.ofInt (l1))), (2, .int (Int32.ofInt (l2))), (4, .int (Int32.ofInt (l4))), (5, .int (Int32.ofInt (l5))), (7, .long (Int64.ofInt (0))), (9, .int (Int32.ofInt (s0)))]) (List.forall_mem_cons.mpr ⟨rfl, (List.forall_mem_cons.mpr ⟨rfl, (List.forall_mem_cons.mpr ⟨rfl, (List.forall_mem_cons.mpr ⟨rfl, (List.forall_mem_cons.mpr ⟨rfl, (List.forall_mem_cons.mpr ⟨rfl, (List.forall_mem_cons.mpr ⟨rfl, (fun _ h => nomatch h)⟩)⟩)⟩)⟩)⟩)⟩)⟩) ?_
      exact ubX3_fillsNumber_62 hd hm hT hS hU hW hP  hw
    · have hw := hw.2 h3
      refine z_iconst (v := Int32.ofInt 0) dX3_fillsNumber_53 rfl ?_
      exact z_ireturn dX3_fillsNumber_54 rfl (nar01 (by decide)) (hP _ _ _ hw hW)
def wX3_fillsNumber_18 (m : Nat)  (l1 l2 l3 l4 s0 : Int) (S : St) (K : Int → St → Prop) : Prop := (rng (s0) ∧ ((s0 = 0 → wX3_fillsNumber_32 m (l1) (l2) (l4) (s0) (l3) S K) ∧ ((¬ (s0 = 0)) → wX3_fillsNumber_32 m (l1) (l2) (l4) (s0) ((l3 + 1)) S K)))
set_option maxRecDepth 100000 in
set_option maxHeartbeats 4000000 in
theorem ubX3_fillsNumber_18 {G : xG} {v : Nat → Nat} {sh : Nat → Option Sh} {B : Nat × Nat} {c0 : List va_E} {m : Nat} {d : Nat} {Post : xP} {l1 l2 l3 l4 s0 : Int} {S : St} {cs : List va_E} {K : Int → St → Prop} (hd : 2 ≤ d) (hm : m ≤ 200) (hT : sb shC sh) (hS : ∀ b x, sh b = some x → ¬ isS b) (hU : sb (shMe m) sh) (hW : Wv G v sh B c0 S cs) (hP : ∀ (x : Int) (S : St) (cs : List va_E), K x S → Wv G v sh B c0 S cs → Post (some (.int (Int32.ofInt x))) cs)  (hw : wX3_fillsNumber_18 m l1 l2 l3 l4 s0 S K ) : Z (RX3, cX3_fillsNumber, 10, some .boolean, false) G d Post 18 [(0, .ref (G.1 + v 230)), (1, .int (Int32.ofInt (l1))), (2, .int (Int32.ofInt (l2))), (3, .int (Int32.ofInt (l3))), (4, .int (Int32.ofInt (l4)))] [.int (Int32.ofInt (s0))] cs := by
  unfold wX3_fillsNumber_18 at hw
  refine z_istore dX3_fillsNumber_18 (by decide) ?_
  refine z_loc (L' := [(0, .ref (G.1 + v 230)), (1, .int (Int32.ofInt (l1))), (2, .int (Int32.ofInt (l2))), (3, .int (Int32.ofInt (l3))), (4, .int (Int32.ofInt (l4))), (5, .int (Int32.ofInt (s0)))]) (List.forall_mem_cons.mpr ⟨rfl, (List.forall_mem_cons.mpr ⟨rfl, (List.forall_mem_cons.mpr ⟨rfl, (List.forall_mem_cons.mpr ⟨rfl, (List.forall_mem_cons.mpr ⟨rfl, (List.forall_mem_cons.mpr ⟨rfl, (fun _ h => nomatch h)⟩)⟩)⟩)⟩)⟩)⟩) ?_
  refine z_iload dX3_fillsNumber_20 rfl ?_
  obtain ⟨q2, hw⟩ := hw
  refine i_if_eq (tgt := 31) dX3_fillsNumber_22 (by decide) q2 (fun h1 => ?_) (fun h1 => ?_)
  · have hw := hw.1 h1
    refine z_iload_n dX3_fillsNumber_31 rfl rfl ?_
    refine z_loc (L' := [(0, .ref (G.1 + v 230)), (1, .int (Int32.ofInt (l1))), (2, .int (Int32.ofInt (l2))), (4, .int (Int32.ofInt (l4))), (5, .int (Int32.ofInt (s0)))]) (List.forall_mem_cons.mpr ⟨rfl, (List.forall_mem_cons.mpr ⟨rfl, (List.forall_mem_cons.mpr ⟨rfl, (List.forall_mem_cons.mpr ⟨rfl, (List.forall_mem_cons.mpr ⟨rfl, (fun _ h => nomatch h)⟩)⟩)⟩)⟩)⟩) ?_
    exact ubX3_fillsNumber_32 hd hm hT hS hU hW hP  hw
  · have hw := hw.2 h1
    refine z_iload_n dX3_fillsNumber_25 rfl rfl ?_
    refine z_iconst (v := Int32.ofInt 1) dX3_fillsNumber_26 rfl ?_
    refine i_iadd dX3_fillsNumber_27 ?_
    refine z_goto (tgt := 32) dX3_fillsNumber_28 (by decide) ?_
    refine z_loc (L' := [(0, .ref (G.1 + v 230)), (1, .int (Int32.ofInt (l1))), (2, .int (Int32.ofInt (l2))), (4, .int (Int32.ofInt (l4))), (5, .int (Int32.ofInt (s0)))]) (List.forall_mem_cons.mpr ⟨rfl, (List.forall_mem_cons.mpr ⟨rfl, (List.forall_mem_cons.mpr ⟨rfl, (List.forall_mem_cons.mpr ⟨rfl, (List.forall_mem_cons.mpr ⟨rfl, (fun _ h => nomatch h)⟩)⟩)⟩)⟩)⟩) ?_
    exact ubX3_fillsNumber_32 hd hm hT hS hU hW hP  hw
def wX3_fillsNumber (m : Nat)  (a1 a2 a3 a4 : Int) (S : St) (K : Int → St → Prop) : Prop := rng a1 → rng a2 → rng a3 → rng a4 → (wX5_at 4 (a3) S (fun r2 S1 => (rng (r2) ∧ ((¬ r2 = 45 → wX3_fillsNumber_18 m (a1) (a2) (a3) (a4) (0) S1 K) ∧ ((¬ (¬ r2 = 45)) → wX3_fillsNumber_18 m (a1) (a2) (a3) (a4) (1) S1 K)))))
set_option maxRecDepth 100000 in
set_option maxHeartbeats 4000000 in
theorem lX3_fillsNumber {G : xG} {v : Nat → Nat} {sh : Nat → Option Sh} {B : Nat × Nat} {c0 : List va_E} {m : Nat}  {a1 a2 a3 a4 : Int} {S : St} {cs : List va_E} {K : Int → St → Prop} (d : Nat) (hd : 2 ≤ d) (hm : m ≤ 200) (hT : sb shC sh) (hS : ∀ b x, sh b = some x → ¬ isS b) (hU : sb (shMe m) sh) (hW : Wv G v sh B c0 S cs) (g1 : rng a1) (g2 : rng a2) (g3 : rng a3) (g4 : rng a4) (hw : wX3_fillsNumber m a1 a2 a3 a4 S K) : X G yX3_fillsNumber cX3_fillsNumber 10 (some .boolean) d [.ref (G.1 + v 230), .int (Int32.ofInt a1), .int (Int32.ofInt a2), .int (Int32.ofInt a3), .int (Int32.ofInt a4)] cs (vI G v sh B c0 K) := by
  refine X.of false (by decide +kernel) (by decide) (Nat.le_of_ble_eq_true rfl) ?_
  show Z (RX3, cX3_fillsNumber, 10, some .boolean, false) G d _ 0 [(0, .ref (G.1 + v 230)), (1, .int (Int32.ofInt a1)), (2, .int (Int32.ofInt a2)), (3, .int (Int32.ofInt a3)), (4, .int (Int32.ofInt a4))] [] cs
  have hP : ∀ (x : Int) (S : St) (cs : List va_E), K x S → Wv G v sh B c0 S cs → vI G v sh B c0 K (some (.int (Int32.ofInt x))) cs := fun x S cs a b => ⟨x, S, rfl, a, b⟩
  unfold wX3_fillsNumber at hw
  have hw := hw g1 g2 g3 g4
  refine z_aload_n dX3_fillsNumber_0 rfl rfl ?_
  refine v_getR hW (hU 230 _ rfl) rfl kX3 fX3_35 dX3_fillsNumber_1 ?_
  refine z_iload_n dX3_fillsNumber_4 rfl rfl ?_
  have hX := lX5_at 0 (Nat.le_refl _) hW (show isS 4 by unfold isS; decide) (fun b x h e => hS b x h (e ▸ (show isS 4 by unfold isS; decide))) g3 hw
  refine z_callV (As := [_]) eX5_at sX5_at lX3_211 rfl dX3_fillsNumber_5 (hW.sg (show isS 4 by unfold isS; decide) (fun b x h e => hS b x h (e ▸ (show isS 4 by unfold isS; decide)))).choose_spec.choose_spec.choose_spec.choose_spec.1.choose_spec.1 hX (Nat.le_trans (by decide) hd) rfl (Nat.le_of_ble_eq_true rfl) (fun r cs hp => ?_)
  obtain ⟨r2, S1, rfl, hw, hW⟩ := hp
  refine z_st (st' := [.int (Int32.ofInt (r2))]) rfl ?_
  refine z_bipush (v := Int32.ofInt 45) dX3_fillsNumber_8 (by decide) ?_
  obtain ⟨q4, hw⟩ := hw
  refine i_icmp_ne (tgt := 17) dX3_fillsNumber_10 (by decide) q4 ⟨by decide, by decide⟩ (fun h3 => ?_) (fun h3 => ?_)
  · have hw := hw.1 h3
    refine z_iconst (v := Int32.ofInt 0) dX3_fillsNumber_17 rfl ?_
    refine z_loc (L' := [(0, .ref (G.1 + v 230)), (1, .int (Int32.ofInt (a1))), (2, .int (Int32.ofInt (a2))), (3, .int (Int32.ofInt (a3))), (4, .int (Int32.ofInt (a4)))]) (List.forall_mem_cons.mpr ⟨rfl, (List.forall_mem_cons.mpr ⟨rfl, (List.forall_mem_cons.mpr ⟨rfl, (List.forall_mem_cons.mpr ⟨rfl, (List.forall_mem_cons.mpr ⟨rfl, (fun _ h => nomatch h)⟩)⟩)⟩)⟩)⟩) ?_
    exact ubX3_fillsNumber_18 hd hm hT hS hU hW hP  hw
  · have hw := hw.2 h3
    refine z_iconst (v := Int32.ofInt 1) dX3_fillsNumber_13 rfl ?_
    refine z_goto (tgt := 18) dX3_fillsNumber_14 (by decide) ?_
    refine z_loc (L' := [(0, .ref (G.1 + v 230)), (1, .int (Int32.ofInt (a1))), (2, .int (Int32.ofInt (a2))), (3, .int (Int32.ofInt (a3))), (4, .int (Int32.ofInt (a4)))]) (List.forall_mem_cons.mpr ⟨rfl, (List.forall_mem_cons.mpr ⟨rfl, (List.forall_mem_cons.mpr ⟨rfl, (List.forall_mem_cons.mpr ⟨rfl, (List.forall_mem_cons.mpr ⟨rfl, (fun _ h => nomatch h)⟩)⟩)⟩)⟩)⟩) ?_
    exact ubX3_fillsNumber_18 hd hm hT hS hU hW hP  hw

def wX3_fills (m : Nat)  (a1 a2 a3 a4 : Int) (S : St) (K : Int → St → Prop) : Prop := rng a1 → rng a2 → rng a3 → rng a4 → (wX1_classOf_b (a1) S (fun r2 S1 => (rng (r2) ∧ (wX4_shape (r2) (a2) S1 (fun r4 S3 => (rng (r4) ∧ ((¬ r4 = 1 → (wX10_isFieldText_b (a3) (a4) S3 (fun r9 S8 => (rng (r9) ∧ ((¬ r9 = 0 → (wX1_putText_b (a1) (a2) (a3) (a4) S8 (fun r13 S12 => K (1) S12))) ∧ ((¬ (¬ r9 = 0)) → K (0) S8)))))) ∧ ((¬ (¬ r4 = 1)) → (wX3_fillsNumber m (a1) (a2) (a3) (a4) S3 (fun r15 S14 => (iv 0 1 (r15) ∧ K (r15) S14)))))))))))
set_option maxRecDepth 100000 in
set_option maxHeartbeats 4000000 in
theorem lX3_fills {G : xG} {v : Nat → Nat} {sh : Nat → Option Sh} {B : Nat × Nat} {c0 : List va_E} {m : Nat}  {a1 a2 a3 a4 : Int} {S : St} {cs : List va_E} {K : Int → St → Prop} (d : Nat) (hd : 3 ≤ d) (hm : m ≤ 200) (hT : sb shC sh) (hS : ∀ b x, sh b = some x → ¬ isS b) (hU : sb (shMe m) sh) (hW : Wv G v sh B c0 S cs) (g1 : rng a1) (g2 : rng a2) (g3 : rng a3) (g4 : rng a4) (hw : wX3_fills m a1 a2 a3 a4 S K) : X G yX3_fills cX3_fills 5 (some .boolean) d [.ref (G.1 + v 230), .int (Int32.ofInt a1), .int (Int32.ofInt a2), .int (Int32.ofInt a3), .int (Int32.ofInt a4)] cs (vI G v sh B c0 K) := by
  refine X.of false (by decide +kernel) (by decide) (Nat.le_of_ble_eq_true rfl) ?_
  show Z (RX3, cX3_fills, 5, some .boolean, false) G d _ 0 [(0, .ref (G.1 + v 230)), (1, .int (Int32.ofInt a1)), (2, .int (Int32.ofInt a2)), (3, .int (Int32.ofInt a3)), (4, .int (Int32.ofInt a4))] [] cs
  have hP : ∀ (x : Int) (S : St) (cs : List va_E), K x S → Wv G v sh B c0 S cs → vI G v sh B c0 K (some (.int (Int32.ofInt x))) cs := fun x S cs a b => ⟨x, S, rfl, a, b⟩
  unfold wX3_fills at hw
  have hw := hw g1 g2 g3 g4
  refine z_aload_n dX3_fills_0 rfl rfl ?_
  refine v_getR hW (hU 230 _ rfl) rfl kX3 fX3_15 dX3_fills_1 ?_
  refine z_aload_n dX3_fills_4 rfl rfl ?_
  refine v_getR hW (hU 230 _ rfl) rfl kX3 fX3_37 dX3_fills_5 ?_
  refine z_iload_n dX3_fills_8 rfl rfl ?_
  have hX := lX1_classOf_b 1 (Nat.le_refl _) hT hS hW g1 hw
  refine z_callV (As := [_]) eX1_classOf sX1_classOf lX3_122 rfl dX3_fills_9 (hW.at (hT 50 _ rfl)) hX (Nat.le_trans (by decide) hd) rfl (Nat.le_of_ble_eq_true rfl) (fun r cs hp => ?_)
  obtain ⟨r2, S1, rfl, hw, hW⟩ := hp
  refine z_st (st' := [.int (Int32.ofInt (r2)), .ref (G.1 + v 24)]) rfl ?_
  refine z_iload_n dX3_fills_12 rfl rfl ?_
  obtain ⟨q5, hw⟩ := hw
  have hX := lX4_shape 1 (Nat.le_refl _) hT hS hW q5 g2 hw
  refine z_callV (As := [_, _]) eX4_shape sX4_shape lX3_132 rfl dX3_fills_13 (hW.at (hT 24 _ rfl)) hX (Nat.le_trans (by decide) hd) rfl (Nat.le_of_ble_eq_true rfl) (fun r cs hp => ?_)
  obtain ⟨r4, S3, rfl, hw, hW⟩ := hp
  refine z_st (st' := [.int (Int32.ofInt (r4))]) rfl ?_
  refine z_iconst (v := Int32.ofInt 1) dX3_fills_16 rfl ?_
  obtain ⟨q7, hw⟩ := hw
  refine i_icmp_ne (tgt := 30) dX3_fills_17 (by decide) q7 ⟨by decide, by decide⟩ (fun h6 => ?_) (fun h6 => ?_)
  · have hw := hw.1 h6
    refine z_aload_n dX3_fills_30 rfl rfl ?_
    refine v_getR hW (hU 230 _ rfl) rfl kX3 fX3_35 dX3_fills_31 ?_
    refine z_iload_n dX3_fills_34 rfl rfl ?_
    refine z_iload dX3_fills_35 rfl ?_
    have hX := lX10_isFieldText_b 1 (Nat.le_refl _) hT hS hW g3 g4 hw
    refine z_callSN (As := [_, _, _]) eX10_isFieldText sX10_isFieldText lX3_220 dX3_fills_37 hX (Nat.le_trans (by decide) hd) rfl (Nat.le_of_ble_eq_true rfl) (fun r cs hp => ?_)
    obtain ⟨r9, S8, rfl, hw, hW⟩ := hp
    refine z_st (st' := [.int (Int32.ofInt (r9))]) rfl ?_
    obtain ⟨q11, hw⟩ := hw
    refine i_if_ne (tgt := 45) dX3_fills_40 (by decide) q11 (fun h10 => ?_) (fun h10 => ?_)
    · have hw := hw.1 h10
      refine z_aload_n dX3_fills_45 rfl rfl ?_
      refine v_getR hW (hU 230 _ rfl) rfl kX3 fX3_37 dX3_fills_46 ?_
      refine z_iload_n dX3_fills_49 rfl rfl ?_
      refine z_iload_n dX3_fills_50 rfl rfl ?_
      refine z_aload_n dX3_fills_51 rfl rfl ?_
      refine v_getR hW (hU 230 _ rfl) rfl kX3 fX3_35 dX3_fills_52 ?_
      refine z_iload_n dX3_fills_55 rfl rfl ?_
      refine z_iload dX3_fills_56 rfl ?_
      have hX := lX1_putText_b 1 (Nat.le_refl _) hT hS hW g1 g2 g3 g4 hw
      refine z_callV (As := [_, _, _, _, _]) eX1_putText sX1_putText lX3_224 rfl dX3_fills_58 (hW.at (hT 50 _ rfl)) hX (Nat.le_trans (by decide) hd) rfl (Nat.le_of_ble_eq_true rfl) (fun r cs hp => ?_)
      obtain ⟨r13, S12, rfl, hw, hW⟩ := hp
      refine z_st (st' := []) rfl ?_
      refine z_iconst (v := Int32.ofInt 1) dX3_fills_61 rfl ?_
      exact z_ireturn dX3_fills_62 rfl (nar01 (by decide)) (hP _ _ _ hw hW)
    · have hw := hw.2 h10
      refine z_iconst (v := Int32.ofInt 0) dX3_fills_43 rfl ?_
      exact z_ireturn dX3_fills_44 rfl (nar01 (by decide)) (hP _ _ _ hw hW)
  · have hw := hw.2 h6
    refine z_aload_n dX3_fills_20 rfl rfl ?_
    refine z_iload_n dX3_fills_21 rfl rfl ?_
    refine z_iload_n dX3_fills_22 rfl rfl ?_
    refine z_iload_n dX3_fills_23 rfl rfl ?_
    refine z_iload dX3_fills_24 rfl ?_
    have hX := lX3_fillsNumber 2 (Nat.le_refl _) hm hT hS hU hW g1 g2 g3 g4 hw
    refine z_callV (As := [_, _, _, _]) eX3_fillsNumber sX3_fillsNumber lX3_217 rfl dX3_fills_26 (hW.at (hU 230 _ rfl)) hX (Nat.le_trans (by decide) hd) rfl (Nat.le_of_ble_eq_true rfl) (fun r cs hp => ?_)
    obtain ⟨r15, S14, rfl, hw, hW⟩ := hp
    refine z_st (st' := [.int (Int32.ofInt (r15))]) rfl ?_
    obtain ⟨q16, hw⟩ := hw
    exact z_ireturn dX3_fills_29 rfl (nar01 (b01 q16)) (hP _ _ _ hw hW)

def wX3_isIdSound (m : Nat)  (a1 a2 : Int) (S : St) (K : Int → St → Prop) : Prop := rng a1 → rng a2 → (wX6_valueFrom (a2) S (fun r2 S1 => (wX6_valueTo (a2) S1 (fun r4 S3 => (rng (r2) ∧ (rng (r4) ∧ (wX3_idAt m (r2) (r4) S3 (fun r6 S5 => (rng (r6) ∧ ((r6 = 0 → K (0) S5) ∧ ((¬ (r6 = 0)) → (wX3_elementWithId m (r6) S5 (fun r12 S11 => (rng (r12) ∧ ((r12 = (-1) → ((0 : Int) ≤ a1 ∧ a1 < (m : Int) ∧ (iv (-2147483648) 2147483647 (r6) ∧ (∀ S16, S16 = pA S11 235 (a1) (r6) → K (1) S16)))) ∧ ((¬ (r12 = (-1))) → K (0) S11))))))))))))))))
set_option maxRecDepth 100000 in
set_option maxHeartbeats 4000000 in
theorem lX3_isIdSound {G : xG} {v : Nat → Nat} {sh : Nat → Option Sh} {B : Nat × Nat} {c0 : List va_E} {m : Nat}  {a1 a2 : Int} {S : St} {cs : List va_E} {K : Int → St → Prop} (d : Nat) (hd : 2 ≤ d) (hm : m ≤ 200) (hT : sb shC sh) (hS : ∀ b x, sh b = some x → ¬ isS b) (hU : sb (shMe m) sh) (hW : Wv G v sh B c0 S cs) (g1 : rng a1) (g2 : rng a2) (hw : wX3_isIdSound m a1 a2 S K) : X G yX3_isIdSound cX3_isIdSound 4 (some .boolean) d [.ref (G.1 + v 230), .int (Int32.ofInt a1), .int (Int32.ofInt a2)] cs (vI G v sh B c0 K) := by
  refine X.of false (by decide +kernel) (by decide) (Nat.le_of_ble_eq_true rfl) ?_
  show Z (RX3, cX3_isIdSound, 4, some .boolean, false) G d _ 0 [(0, .ref (G.1 + v 230)), (1, .int (Int32.ofInt a1)), (2, .int (Int32.ofInt a2))] [] cs
  have hP : ∀ (x : Int) (S : St) (cs : List va_E), K x S → Wv G v sh B c0 S cs → vI G v sh B c0 K (some (.int (Int32.ofInt x))) cs := fun x S cs a b => ⟨x, S, rfl, a, b⟩
  unfold wX3_isIdSound at hw
  have hw := hw g1 g2
  refine z_aload_n dX3_isIdSound_0 rfl rfl ?_
  refine z_aload_n dX3_isIdSound_1 rfl rfl ?_
  refine v_getR hW (hU 230 _ rfl) rfl kX3 fX3_19 dX3_isIdSound_2 ?_
  refine z_iload_n dX3_isIdSound_5 rfl rfl ?_
  have hX := lX6_valueFrom 1 (Nat.le_refl _) hT hS (sbt sbX6_X3 hU) hW g2 hw
  refine z_callV (As := [_]) eX6_valueFrom sX6_valueFrom lX3_146 rfl dX3_isIdSound_6 (hW.at (hU 3 _ rfl)) hX (Nat.le_trans (by decide) hd) rfl (Nat.le_of_ble_eq_true rfl) (fun r cs hp => ?_)
  obtain ⟨r2, S1, rfl, hw, hW⟩ := hp
  refine z_st (st' := [.int (Int32.ofInt (r2)), .ref (G.1 + v 230)]) rfl ?_
  refine z_aload_n dX3_isIdSound_9 rfl rfl ?_
  refine v_getR hW (hU 230 _ rfl) rfl kX3 fX3_19 dX3_isIdSound_10 ?_
  refine z_iload_n dX3_isIdSound_13 rfl rfl ?_
  have hX := lX6_valueTo 1 (Nat.le_refl _) hT hS (sbt sbX6_X3 hU) hW g2 hw
  refine z_callV (As := [_]) eX6_valueTo sX6_valueTo lX3_149 rfl dX3_isIdSound_14 (hW.at (hU 3 _ rfl)) hX (Nat.le_trans (by decide) hd) rfl (Nat.le_of_ble_eq_true rfl) (fun r cs hp => ?_)
  obtain ⟨r4, S3, rfl, hw, hW⟩ := hp
  refine z_st (st' := [.int (Int32.ofInt (r4)), .int (Int32.ofInt (r2)), .ref (G.1 + v 230)]) rfl ?_
  obtain ⟨q7, hw⟩ := hw
  obtain ⟨q8, hw⟩ := hw
  have hX := lX3_idAt 1 (Nat.le_refl _) hm hT hS hU hW q7 q8 hw
  refine z_callV (As := [_, _]) eX3_idAt sX3_idAt lX3_205 rfl dX3_isIdSound_17 (hW.at (hU 230 _ rfl)) hX (Nat.le_trans (by decide) hd) rfl (Nat.le_of_ble_eq_true rfl) (fun r cs hp => ?_)
  obtain ⟨r6, S5, rfl, hw, hW⟩ := hp
  refine z_st (st' := [.int (Int32.ofInt (r6))]) rfl ?_
  refine z_istore_n dX3_isIdSound_20 rfl (by decide) ?_
  refine z_loc (L' := [(0, .ref (G.1 + v 230)), (1, .int (Int32.ofInt (a1))), (2, .int (Int32.ofInt (a2))), (3, .int (Int32.ofInt (r6)))]) (List.forall_mem_cons.mpr ⟨rfl, (List.forall_mem_cons.mpr ⟨rfl, (List.forall_mem_cons.mpr ⟨rfl, (List.forall_mem_cons.mpr ⟨rfl, (fun _ h => nomatch h)⟩)⟩)⟩)⟩) ?_
  refine z_iload_n dX3_isIdSound_21 rfl rfl ?_
  obtain ⟨q10, hw⟩ := hw
  refine i_if_eq (tgt := 34) dX3_isIdSound_22 (by decide) q10 (fun h9 => ?_) (fun h9 => ?_)
  · have hw := hw.1 h9
    refine z_iconst (v := Int32.ofInt 0) dX3_isIdSound_34 rfl ?_
    exact z_ireturn dX3_isIdSound_35 rfl (nar01 (by decide)) (hP _ _ _ hw hW)
  · have hw := hw.2 h9
    refine z_aload_n dX3_isIdSound_25 rfl rfl ?_
    refine z_iload_n dX3_isIdSound_26 rfl rfl ?_
    have hX := lX3_elementWithId 0 (Nat.le_refl _) hm hT hS hU hW q10 hw
    refine z_callV (As := [_]) eX3_elementWithId sX3_elementWithId lX3_208 rfl dX3_isIdSound_27 (hW.at (hU 230 _ rfl)) hX (Nat.le_trans (by decide) hd) rfl (Nat.le_of_ble_eq_true rfl) (fun r cs hp => ?_)
    obtain ⟨r12, S11, rfl, hw, hW⟩ := hp
    refine z_st (st' := [.int (Int32.ofInt (r12))]) rfl ?_
    refine z_iconst (v := Int32.ofInt (-1)) dX3_isIdSound_30 rfl ?_
    obtain ⟨q14, hw⟩ := hw
    refine i_icmp_eq (tgt := 36) dX3_isIdSound_31 (by decide) q14 ⟨by decide, by decide⟩ (fun h13 => ?_) (fun h13 => ?_)
    · have hw := hw.1 h13
      refine z_aload_n dX3_isIdSound_36 rfl rfl ?_
      refine v_getR hW (hU 230 _ rfl) rfl kX3 fX3_66 dX3_isIdSound_37 ?_
      refine z_iload_n dX3_isIdSound_40 rfl rfl ?_
      refine z_iload_n dX3_isIdSound_41 rfl rfl ?_
      obtain ⟨q15a, q15b, hw⟩ := hw
      obtain ⟨q17, hw⟩ := hw
      refine v_iast hW (hU 235 _ rfl) (by decide) (by unfold isS; decide) q15a q15b (m_lt hm) q17 dX3_isIdSound_42 (fun cs hW => ?_)
      obtain ⟨S16, hS16⟩ : ∃ x, x = pA S11 235 (a1) (r6) := ⟨_, rfl⟩
      rw [← hS16] at hW
      have hw := hw S16 hS16
      refine z_iconst (v := Int32.ofInt 1) dX3_isIdSound_43 rfl ?_
      exact z_ireturn dX3_isIdSound_44 rfl (nar01 (by decide)) (hP _ _ _ hw hW)
    · have hw := hw.2 h13
      refine z_iconst (v := Int32.ofInt 0) dX3_isIdSound_34 rfl ?_
      exact z_ireturn dX3_isIdSound_35 rfl (nar01 (by decide)) (hP _ _ _ hw hW)

def wX3_areAttributesSound_193 (m : Nat)  (l1 l2 l3 l4 : Int) (S : St) (K : Int → St → Prop) (B14 : Int → Int → Int → Int → St → Prop) : Prop := B14 (l1) (l2) (l3) ((l4 + 1)) S
set_option maxRecDepth 100000 in
set_option maxHeartbeats 4000000 in
theorem ubX3_areAttributesSound_193 {G : xG} {v : Nat → Nat} {sh : Nat → Option Sh} {B : Nat × Nat} {c0 : List va_E} {m : Nat} {d : Nat} {Post : xP} {l1 l2 l3 l4 : Int} {S : St} {cs : List va_E} {K : Int → St → Prop} {B14 : Int → Int → Int → Int → St → Prop} (hd : 5 ≤ d) (hm : m ≤ 200) (hT : sb shC sh) (hS : ∀ b x, sh b = some x → ¬ isS b) (hU : sb (shMe m) sh) (hW : Wv G v sh B c0 S cs) (hP : ∀ (x : Int) (S : St) (cs : List va_E), K x S → Wv G v sh B c0 S cs → Post (some (.int (Int32.ofInt x))) cs) (hB14 : ∀ (l1 : Int) (l2 : Int) (l3 : Int) (l4 : Int) (S : St) (cs : List va_E), B14 l1 l2 l3 l4 S → Wv G v sh B c0 S cs → Z (RX3, cX3_areAttributesSound, 8, some .boolean, false) G d Post 14 [(0, .ref (G.1 + v 230)), (1, .int (Int32.ofInt (l1))), (2, .int (Int32.ofInt (l2))), (3, .int (Int32.ofInt (l3))), (4, .int (Int32.ofInt (l4)))] [] cs) (hw : wX3_areAttributesSound_193 m l1 l2 l3 l4 S K B14) : Z (RX3, cX3_areAttributesSound, 8, some .boolean, false) G d Post 193 [(0, .ref (G.1 + v 230)), (1, .int (Int32.ofInt (l1))), (2, .int (Int32.ofInt (l2))), (3, .int (Int32.ofInt (l3))), (4, .int (Int32.ofInt (l4)))] [] cs := by
  unfold wX3_areAttributesSound_193 at hw
  refine i_iinc (l := l4) dX3_areAttributesSound_193 rfl (by decide) ?_
  refine z_loc (L' := [(0, .ref (G.1 + v 230)), (1, .int (Int32.ofInt (l1))), (2, .int (Int32.ofInt (l2))), (3, .int (Int32.ofInt (l3))), (4, .int (Int32.ofInt ((l4 + 1))))]) (List.forall_mem_cons.mpr ⟨rfl, (List.forall_mem_cons.mpr ⟨rfl, (List.forall_mem_cons.mpr ⟨rfl, (List.forall_mem_cons.mpr ⟨rfl, (List.forall_mem_cons.mpr ⟨rfl, (fun _ h => nomatch h)⟩)⟩)⟩)⟩)⟩) ?_
  refine z_goto (tgt := 14) dX3_areAttributesSound_196 (by decide) ?_
  refine z_loc (L' := [(0, .ref (G.1 + v 230)), (1, .int (Int32.ofInt (l1))), (2, .int (Int32.ofInt (l2))), (3, .int (Int32.ofInt (l3))), (4, .int (Int32.ofInt ((l4 + 1))))]) (List.forall_mem_cons.mpr ⟨rfl, (List.forall_mem_cons.mpr ⟨rfl, (List.forall_mem_cons.mpr ⟨rfl, (List.forall_mem_cons.mpr ⟨rfl, (List.forall_mem_cons.mpr ⟨rfl, (fun _ h => nomatch h)⟩)⟩)⟩)⟩)⟩) ?_
  exact hB14 _ _ _ _ _ _ hw hW
def wX3_areAttributesSound_192 (m : Nat)  (l1 l2 l4 s0 : Int) (S : St) (K : Int → St → Prop) (B14 : Int → Int → Int → Int → St → Prop) : Prop := wX3_areAttributesSound_193 m (l1) (l2) (s0) (l4) S K B14
set_option maxRecDepth 100000 in
set_option maxHeartbeats 4000000 in
theorem ubX3_areAttributesSound_192 {G : xG} {v : Nat → Nat} {sh : Nat → Option Sh} {B : Nat × Nat} {c0 : List va_E} {m : Nat} {d : Nat} {Post : xP} {l1 l2 l4 s0 : Int} {S : St} {cs : List va_E} {K : Int → St → Prop} {B14 : Int → Int → Int → Int → St → Prop} (hd : 5 ≤ d) (hm : m ≤ 200) (hT : sb shC sh) (hS : ∀ b x, sh b = some x → ¬ isS b) (hU : sb (shMe m) sh) (hW : Wv G v sh B c0 S cs) (hP : ∀ (x : Int) (S : St) (cs : List va_E), K x S → Wv G v sh B c0 S cs → Post (some (.int (Int32.ofInt x))) cs) (hB14 : ∀ (l1 : Int) (l2 : Int) (l3 : Int) (l4 : Int) (S : St) (cs : List va_E), B14 l1 l2 l3 l4 S → Wv G v sh B c0 S cs → Z (RX3, cX3_areAttributesSound, 8, some .boolean, false) G d Post 14 [(0, .ref (G.1 + v 230)), (1, .int (Int32.ofInt (l1))), (2, .int (Int32.ofInt (l2))), (3, .int (Int32.ofInt (l3))), (4, .int (Int32.ofInt (l4)))] [] cs) (hw : wX3_areAttributesSound_192 m l1 l2 l4 s0 S K B14) : Z (RX3, cX3_areAttributesSound, 8, some .boolean, false) G d Post 192 [(0, .ref (G.1 + v 230)), (1, .int (Int32.ofInt (l1))), (2, .int (Int32.ofInt (l2))), (4, .int (Int32.ofInt (l4)))] [.int (Int32.ofInt (s0))] cs := by
  unfold wX3_areAttributesSound_192 at hw
  refine z_istore_n dX3_areAttributesSound_192 rfl (by decide) ?_
  refine z_loc (L' := [(0, .ref (G.1 + v 230)), (1, .int (Int32.ofInt (l1))), (2, .int (Int32.ofInt (l2))), (3, .int (Int32.ofInt (s0))), (4, .int (Int32.ofInt (l4)))]) (List.forall_mem_cons.mpr ⟨rfl, (List.forall_mem_cons.mpr ⟨rfl, (List.forall_mem_cons.mpr ⟨rfl, (List.forall_mem_cons.mpr ⟨rfl, (List.forall_mem_cons.mpr ⟨rfl, (fun _ h => nomatch h)⟩)⟩)⟩)⟩)⟩) ?_
  refine z_loc (L' := [(0, .ref (G.1 + v 230)), (1, .int (Int32.ofInt (l1))), (2, .int (Int32.ofInt (l2))), (3, .int (Int32.ofInt (s0))), (4, .int (Int32.ofInt (l4)))]) (List.forall_mem_cons.mpr ⟨rfl, (List.forall_mem_cons.mpr ⟨rfl, (List.forall_mem_cons.mpr ⟨rfl, (List.forall_mem_cons.mpr ⟨rfl, (List.forall_mem_cons.mpr ⟨rfl, (fun _ h => nomatch h)⟩)⟩)⟩)⟩)⟩) ?_
  exact ubX3_areAttributesSound_193 hd hm hT hS hU hW hP hB14 hw
def wX3_areAttributesSound_191 (m : Nat)  (l1 l2 l4 : Int) (S : St) (K : Int → St → Prop) (B14 : Int → Int → Int → Int → St → Prop) : Prop := wX3_areAttributesSound_192 m (l1) (l2) (l4) (0) S K B14
set_option maxRecDepth 100000 in
set_option maxHeartbeats 4000000 in
theorem ubX3_areAttributesSound_191 {G : xG} {v : Nat → Nat} {sh : Nat → Option Sh} {B : Nat × Nat} {c0 : List va_E} {m : Nat} {d : Nat} {Post : xP} {l1 l2 l4 : Int} {S : St} {cs : List va_E} {K : Int → St → Prop} {B14 : Int → Int → Int → Int → St → Prop} (hd : 5 ≤ d) (hm : m ≤ 200) (hT : sb shC sh) (hS : ∀ b x, sh b = some x → ¬ isS b) (hU : sb (shMe m) sh) (hW : Wv G v sh B c0 S cs) (hP : ∀ (x : Int) (S : St) (cs : List va_E), K x S → Wv G v sh B c0 S cs → Post (some (.int (Int32.ofInt x))) cs) (hB14 : ∀ (l1 : Int) (l2 : Int) (l3 : Int) (l4 : Int) (S : St) (cs : List va_E), B14 l1 l2 l3 l4 S → Wv G v sh B c0 S cs → Z (RX3, cX3_areAttributesSound, 8, some .boolean, false) G d Post 14 [(0, .ref (G.1 + v 230)), (1, .int (Int32.ofInt (l1))), (2, .int (Int32.ofInt (l2))), (3, .int (Int32.ofInt (l3))), (4, .int (Int32.ofInt (l4)))] [] cs) (hw : wX3_areAttributesSound_191 m l1 l2 l4 S K B14) : Z (RX3, cX3_areAttributesSound, 8, some .boolean, false) G d Post 191 [(0, .ref (G.1 + v 230)), (1, .int (Int32.ofInt (l1))), (2, .int (Int32.ofInt (l2))), (4, .int (Int32.ofInt (l4)))] [] cs := by
  unfold wX3_areAttributesSound_191 at hw
  refine z_iconst (v := Int32.ofInt 0) dX3_areAttributesSound_191 rfl ?_
  refine z_loc (L' := [(0, .ref (G.1 + v 230)), (1, .int (Int32.ofInt (l1))), (2, .int (Int32.ofInt (l2))), (4, .int (Int32.ofInt (l4)))]) (List.forall_mem_cons.mpr ⟨rfl, (List.forall_mem_cons.mpr ⟨rfl, (List.forall_mem_cons.mpr ⟨rfl, (List.forall_mem_cons.mpr ⟨rfl, (fun _ h => nomatch h)⟩)⟩)⟩)⟩) ?_
  exact ubX3_areAttributesSound_192 hd hm hT hS hU hW hP hB14 hw
def wX3_areAttributesSound_86 (m : Nat)  (l1 l2 l4 s0 : Int) (S : St) (K : Int → St → Prop) (B14 : Int → Int → Int → Int → St → Prop) : Prop := wX3_areAttributesSound_193 m (l1) (l2) (s0) (l4) S K B14
set_option maxRecDepth 100000 in
set_option maxHeartbeats 4000000 in
theorem ubX3_areAttributesSound_86 {G : xG} {v : Nat → Nat} {sh : Nat → Option Sh} {B : Nat × Nat} {c0 : List va_E} {m : Nat} {d : Nat} {Post : xP} {l1 l2 l4 s0 : Int} {S : St} {cs : List va_E} {K : Int → St → Prop} {B14 : Int → Int → Int → Int → St → Prop} (hd : 5 ≤ d) (hm : m ≤ 200) (hT : sb shC sh) (hS : ∀ b x, sh b = some x → ¬ isS b) (hU : sb (shMe m) sh) (hW : Wv G v sh B c0 S cs) (hP : ∀ (x : Int) (S : St) (cs : List va_E), K x S → Wv G v sh B c0 S cs → Post (some (.int (Int32.ofInt x))) cs) (hB14 : ∀ (l1 : Int) (l2 : Int) (l3 : Int) (l4 : Int) (S : St) (cs : List va_E), B14 l1 l2 l3 l4 S → Wv G v sh B c0 S cs → Z (RX3, cX3_areAttributesSound, 8, some .boolean, false) G d Post 14 [(0, .ref (G.1 + v 230)), (1, .int (Int32.ofInt (l1))), (2, .int (Int32.ofInt (l2))), (3, .int (Int32.ofInt (l3))), (4, .int (Int32.ofInt (l4)))] [] cs) (hw : wX3_areAttributesSound_86 m l1 l2 l4 s0 S K B14) : Z (RX3, cX3_areAttributesSound, 8, some .boolean, false) G d Post 86 [(0, .ref (G.1 + v 230)), (1, .int (Int32.ofInt (l1))), (2, .int (Int32.ofInt (l2))), (4, .int (Int32.ofInt (l4)))] [.int (Int32.ofInt (s0))] cs := by
  unfold wX3_areAttributesSound_86 at hw
  refine z_istore_n dX3_areAttributesSound_86 rfl (by decide) ?_
  refine z_loc (L' := [(0, .ref (G.1 + v 230)), (1, .int (Int32.ofInt (l1))), (2, .int (Int32.ofInt (l2))), (3, .int (Int32.ofInt (s0))), (4, .int (Int32.ofInt (l4)))]) (List.forall_mem_cons.mpr ⟨rfl, (List.forall_mem_cons.mpr ⟨rfl, (List.forall_mem_cons.mpr ⟨rfl, (List.forall_mem_cons.mpr ⟨rfl, (List.forall_mem_cons.mpr ⟨rfl, (fun _ h => nomatch h)⟩)⟩)⟩)⟩)⟩) ?_
  refine z_goto (tgt := 193) dX3_areAttributesSound_87 (by decide) ?_
  refine z_loc (L' := [(0, .ref (G.1 + v 230)), (1, .int (Int32.ofInt (l1))), (2, .int (Int32.ofInt (l2))), (3, .int (Int32.ofInt (s0))), (4, .int (Int32.ofInt (l4)))]) (List.forall_mem_cons.mpr ⟨rfl, (List.forall_mem_cons.mpr ⟨rfl, (List.forall_mem_cons.mpr ⟨rfl, (List.forall_mem_cons.mpr ⟨rfl, (List.forall_mem_cons.mpr ⟨rfl, (fun _ h => nomatch h)⟩)⟩)⟩)⟩)⟩) ?_
  exact ubX3_areAttributesSound_193 hd hm hT hS hU hW hP hB14 hw
def wX3_areAttributesSound_14' (m : Nat)  (l1 l2 l3 l4 : Int) (S : St) (K : Int → St → Prop) (B14 : Int → Int → Int → Int → St → Prop) : Prop := (rng (l1) ∧ (wX6_attributeCount (l1) S (fun r2 S1 => (rng (l4) ∧ (rng ((l2 + r2)) ∧ (((l2 + r2) ≤ l4 → (iv 0 1 (l3) ∧ K (l3) S1)) ∧ ((¬ ((l2 + r2) ≤ l4)) → (rng (l3) ∧ ((l3 = 0 → (iv 0 1 (l3) ∧ K (l3) S1)) ∧ ((¬ (l3 = 0)) → (wX6_keyFrom (l4) S1 (fun r12 S11 => (wX6_keyTo (l4) S11 (fun r14 S13 => (rng (r12) ∧ (rng (r14) ∧ (wX5_isAt_b (r12) (r14) S13 (fun r16 S15 => (rng (r16) ∧ ((r16 = 0 → (wX5_isAt_c (r12) (r14) S15 (fun r22 S21 => (rng (r22) ∧ ((r22 = 0 → ((0 : Int) ≤ l1 ∧ l1 < (m : Int) ∧ (iv 0 29 (S21.2 232 (l1)) → (wX1_classOf_b (S21.2 232 (l1)) S21 (fun r28 S27 => (rng (r28) ∧ (wX4_fieldNamed (r28) (1) (r12) (r14) S27 (fun r30 S29 => (rng (r30) ∧ ((r30 = (-1) → wX3_areAttributesSound_191 m (l1) (l2) (l4) S29 K B14) ∧ ((¬ (r30 = (-1))) → ((0 : Int) ≤ l1 ∧ l1 < (m : Int) ∧ (iv 0 29 (S29.2 232 (l1)) → (wX6_valueFrom (l4) S29 (fun r37 S36 => (wX6_valueTo (l4) S36 (fun r39 S38 => (rng (r37) ∧ (rng (r39) ∧ (wX3_fills m (S29.2 232 (l1)) (r30) (r37) (r39) S38 (fun r41 S40 => (rng (r41) ∧ ((r41 = 0 → wX3_areAttributesSound_191 m (l1) (l2) (l4) S40 K B14) ∧ ((¬ (r41 = 0)) → wX3_areAttributesSound_192 m (l1) (l2) (l4) (1) S40 K B14)))))))))))))))))))))))) ∧ ((¬ (r22 = 0)) → (wX3_isIdSound m (l1) (l4) S21 (fun r47 S46 => wX3_areAttributesSound_193 m (l1) (l2) (r47) (l4) S46 K B14)))))))) ∧ ((¬ (r16 = 0)) → ((0 : Int) ≤ l1 ∧ l1 < (m : Int) ∧ (iv (-2147483648) 2147483647 (S15.2 233 (l1)) → ((S15.2 233 (l1) = (-1) → wX3_areAttributesSound_86 m (l1) (l2) (l4) (0) S15 K B14) ∧ ((¬ (S15.2 233 (l1) = (-1))) → wX3_areAttributesSound_86 m (l1) (l2) (l4) (1) S15 K B14)))))))))))))))))))))))))
set_option maxRecDepth 100000 in
set_option maxHeartbeats 4000000 in
theorem ubX3_areAttributesSound_14' {G : xG} {v : Nat → Nat} {sh : Nat → Option Sh} {B : Nat × Nat} {c0 : List va_E} {m : Nat} {d : Nat} {Post : xP} {l1 l2 l3 l4 : Int} {S : St} {cs : List va_E} {K : Int → St → Prop} {B14 : Int → Int → Int → Int → St → Prop} (hd : 5 ≤ d) (hm : m ≤ 200) (hT : sb shC sh) (hS : ∀ b x, sh b = some x → ¬ isS b) (hU : sb (shMe m) sh) (hW : Wv G v sh B c0 S cs) (hP : ∀ (x : Int) (S : St) (cs : List va_E), K x S → Wv G v sh B c0 S cs → Post (some (.int (Int32.ofInt x))) cs) (hB14 : ∀ (l1 : Int) (l2 : Int) (l3 : Int) (l4 : Int) (S : St) (cs : List va_E), B14 l1 l2 l3 l4 S → Wv G v sh B c0 S cs → Z (RX3, cX3_areAttributesSound, 8, some .boolean, false) G d Post 14 [(0, .ref (G.1 + v 230)), (1, .int (Int32.ofInt (l1))), (2, .int (Int32.ofInt (l2))), (3, .int (Int32.ofInt (l3))), (4, .int (Int32.ofInt (l4)))] [] cs) (hw : wX3_areAttributesSound_14' m l1 l2 l3 l4 S K B14) : Z (RX3, cX3_areAttributesSound, 8, some .boolean, false) G d Post 14 [(0, .ref (G.1 + v 230)), (1, .int (Int32.ofInt (l1))), (2, .int (Int32.ofInt (l2))), (3, .int (Int32.ofInt (l3))), (4, .int (Int32.ofInt (l4)))] [] cs := by
  unfold wX3_areAttributesSound_14' at hw
  refine z_iload dX3_areAttributesSound_14 rfl ?_
  refine z_iload_n dX3_areAttributesSound_16 rfl rfl ?_
  refine z_aload_n dX3_areAttributesSound_17 rfl rfl ?_
  refine v_getR hW (hU 230 _ rfl) rfl kX3 fX3_19 dX3_areAttributesSound_18 ?_
  refine z_iload_n dX3_areAttributesSound_21 rfl rfl ?_
  obtain ⟨q3, hw⟩ := hw
  have hX := lX6_attributeCount 1 (Nat.le_refl _) hT hS (sbt sbX6_X3 hU) hW q3 hw
  refine z_callV (As := [_]) eX6_attributeCount sX6_attributeCount lX3_169 rfl dX3_areAttributesSound_22 (hW.at (hU 3 _ rfl)) hX (Nat.le_trans (by decide) hd) rfl (Nat.le_of_ble_eq_true rfl) (fun r cs hp => ?_)
  obtain ⟨r2, S1, rfl, hw, hW⟩ := hp
  refine z_st (st' := [.int (Int32.ofInt (r2)), .int (Int32.ofInt (l2)), .int (Int32.ofInt (l4))]) rfl ?_
  refine i_iadd dX3_areAttributesSound_25 ?_
  obtain ⟨q5, hw⟩ := hw
  obtain ⟨q6, hw⟩ := hw
  refine i_icmp_ge (tgt := 199) dX3_areAttributesSound_26 (by decide) q5 q6 (fun h4 => ?_) (fun h4 => ?_)
  · have hw := hw.1 h4
    refine z_iload_n dX3_areAttributesSound_199 rfl rfl ?_
    obtain ⟨q7, hw⟩ := hw
    exact z_ireturn dX3_areAttributesSound_200 rfl (nar01 (b01 q7)) (hP _ _ _ hw hW)
  · have hw := hw.2 h4
    refine z_iload_n dX3_areAttributesSound_29 rfl rfl ?_
    obtain ⟨q9, hw⟩ := hw
    refine i_if_eq (tgt := 199) dX3_areAttributesSound_30 (by decide) q9 (fun h8 => ?_) (fun h8 => ?_)
    · have hw := hw.1 h8
      refine z_iload_n dX3_areAttributesSound_199 rfl rfl ?_
      obtain ⟨q10, hw⟩ := hw
      exact z_ireturn dX3_areAttributesSound_200 rfl (nar01 (b01 q10)) (hP _ _ _ hw hW)
    · have hw := hw.2 h8
      refine z_aload_n dX3_areAttributesSound_33 rfl rfl ?_
      refine v_getR hW (hU 230 _ rfl) rfl kX3 fX3_19 dX3_areAttributesSound_34 ?_
      refine z_iload dX3_areAttributesSound_37 rfl ?_
      have hX := lX6_keyFrom 1 (Nat.le_refl _) hT hS (sbt sbX6_X3 hU) hW q5 hw
      refine z_callV (As := [_]) eX6_keyFrom sX6_keyFrom lX3_188 rfl dX3_areAttributesSound_39 (hW.at (hU 3 _ rfl)) hX (Nat.le_trans (by decide) hd) rfl (Nat.le_of_ble_eq_true rfl) (fun r cs hp => ?_)
      obtain ⟨r12, S11, rfl, hw, hW⟩ := hp
      refine z_st (st' := [.int (Int32.ofInt (r12))]) rfl ?_
      refine z_istore dX3_areAttributesSound_42 (by decide) ?_
      refine z_loc (L' := [(0, .ref (G.1 + v 230)), (1, .int (Int32.ofInt (l1))), (2, .int (Int32.ofInt (l2))), (3, .int (Int32.ofInt (l3))), (4, .int (Int32.ofInt (l4))), (5, .int (Int32.ofInt (r12)))]) (List.forall_mem_cons.mpr ⟨rfl, (List.forall_mem_cons.mpr ⟨rfl, (List.forall_mem_cons.mpr ⟨rfl, (List.forall_mem_cons.mpr ⟨rfl, (List.forall_mem_cons.mpr ⟨rfl, (List.forall_mem_cons.mpr ⟨rfl, (fun _ h => nomatch h)⟩)⟩)⟩)⟩)⟩)⟩) ?_
      refine z_aload_n dX3_areAttributesSound_44 rfl rfl ?_
      refine v_getR hW (hU 230 _ rfl) rfl kX3 fX3_19 dX3_areAttributesSound_45 ?_
      refine z_iload dX3_areAttributesSound_48 rfl ?_
      have hX := lX6_keyTo 1 (Nat.le_refl _) hT hS (sbt sbX6_X3 hU) hW q5 hw
      refine z_callV (As := [_]) eX6_keyTo sX6_keyTo lX3_191 rfl dX3_areAttributesSound_50 (hW.at (hU 3 _ rfl)) hX (Nat.le_trans (by decide) hd) rfl (Nat.le_of_ble_eq_true rfl) (fun r cs hp => ?_)
      obtain ⟨r14, S13, rfl, hw, hW⟩ := hp
      refine z_st (st' := [.int (Int32.ofInt (r14))]) rfl ?_
      refine z_istore dX3_areAttributesSound_53 (by decide) ?_
      refine z_loc (L' := [(0, .ref (G.1 + v 230)), (1, .int (Int32.ofInt (l1))), (2, .int (Int32.ofInt (l2))), (3, .int (Int32.ofInt (l3))), (4, .int (Int32.ofInt (l4))), (5, .int (Int32.ofInt (r12))), (6, .int (Int32.ofInt (r14)))]) (List.forall_mem_cons.mpr ⟨rfl, (List.forall_mem_cons.mpr ⟨rfl, (List.forall_mem_cons.mpr ⟨rfl, (List.forall_mem_cons.mpr ⟨rfl, (List.forall_mem_cons.mpr ⟨rfl, (List.forall_mem_cons.mpr ⟨rfl, (List.forall_mem_cons.mpr ⟨rfl, (fun _ h => nomatch h)⟩)⟩)⟩)⟩)⟩)⟩)⟩) ?_
      refine z_aload_n dX3_areAttributesSound_55 rfl rfl ?_
      refine v_getR hW (hU 230 _ rfl) rfl kX3 fX3_29 dX3_areAttributesSound_56 ?_
      refine z_iload dX3_areAttributesSound_59 rfl ?_
      refine z_iload dX3_areAttributesSound_61 rfl ?_
      refine z_ldcS (i := 25) (tx := "class") (by decide +kernel) dX3_areAttributesSound_63 ?_
      obtain ⟨q17, hw⟩ := hw
      obtain ⟨q18, hw⟩ := hw
      have hX := lX5_isAt_b 4 (Nat.le_refl _) hT hS hW q17 q18 hw
      refine z_callV (As := [_, _, _]) eX5_isAt sX5_isAt lX3_194 rfl dX3_areAttributesSound_65 (hW.sg (show isS 1 by unfold isS; decide) (fun b x h e => hS b x h (e ▸ (show isS 1 by unfold isS; decide)))).choose_spec.choose_spec.choose_spec.choose_spec.1.choose_spec.1 hX (Nat.le_trans (by decide) hd) rfl (Nat.le_of_ble_eq_true rfl) (fun r cs hp => ?_)
      obtain ⟨r16, S15, rfl, hw, hW⟩ := hp
      refine z_st (st' := [.int (Int32.ofInt (r16))]) rfl ?_
      obtain ⟨q20, hw⟩ := hw
      refine i_if_eq (tgt := 90) dX3_areAttributesSound_68 (by decide) q20 (fun h19 => ?_) (fun h19 => ?_)
      · have hw := hw.1 h19
        refine z_aload_n dX3_areAttributesSound_90 rfl rfl ?_
        refine v_getR hW (hU 230 _ rfl) rfl kX3 fX3_29 dX3_areAttributesSound_91 ?_
        refine z_iload dX3_areAttributesSound_94 rfl ?_
        refine z_iload dX3_areAttributesSound_96 rfl ?_
        refine z_ldcS (i := 26) (tx := "id") (by decide +kernel) dX3_areAttributesSound_98 ?_
        have hX := lX5_isAt_c 4 (Nat.le_refl _) hT hS hW q17 q18 hw
        refine z_callV (As := [_, _, _]) eX5_isAt sX5_isAt lX3_194 rfl dX3_areAttributesSound_100 (hW.sg (show isS 1 by unfold isS; decide) (fun b x h e => hS b x h (e ▸ (show isS 1 by unfold isS; decide)))).choose_spec.choose_spec.choose_spec.choose_spec.1.choose_spec.1 hX (Nat.le_trans (by decide) hd) rfl (Nat.le_of_ble_eq_true rfl) (fun r cs hp => ?_)
        obtain ⟨r22, S21, rfl, hw, hW⟩ := hp
        refine z_st (st' := [.int (Int32.ofInt (r22))]) rfl ?_
        obtain ⟨q24, hw⟩ := hw
        refine i_if_eq (tgt := 117) dX3_areAttributesSound_103 (by decide) q24 (fun h23 => ?_) (fun h23 => ?_)
        · have hw := hw.1 h23
          refine z_aload_n dX3_areAttributesSound_117 rfl rfl ?_
          refine v_getR hW (hU 230 _ rfl) rfl kX3 fX3_15 dX3_areAttributesSound_118 ?_
          refine z_aload_n dX3_areAttributesSound_121 rfl rfl ?_
          refine v_getR hW (hU 230 _ rfl) rfl kX3 fX3_37 dX3_areAttributesSound_122 ?_
          refine z_aload_n dX3_areAttributesSound_125 rfl rfl ?_
          refine v_getR hW (hU 230 _ rfl) rfl kX3 fX3_57 dX3_areAttributesSound_126 ?_
          refine z_iload_n dX3_areAttributesSound_129 rfl rfl ?_
          obtain ⟨q25a, q25b, hw⟩ := hw
          have q26 : iv 0 29 (S21.2 232 (l1)) := hW.iA 232 _
          have hw := hw q26
          refine v_iald hW (hU 232 _ rfl) q25a q25b (m_lt hm) dX3_areAttributesSound_130 ?_
          have hX := lX1_classOf_b 1 (Nat.le_refl _) hT hS hW (rngq q26 (by decide) (by decide)) hw
          refine z_callV (As := [_]) eX1_classOf sX1_classOf lX3_122 rfl dX3_areAttributesSound_131 (hW.at (hT 50 _ rfl)) hX (Nat.le_trans (by decide) hd) rfl (Nat.le_of_ble_eq_true rfl) (fun r cs hp => ?_)
          obtain ⟨r28, S27, rfl, hw, hW⟩ := hp
          refine z_st (st' := [.int (Int32.ofInt (r28)), .ref (G.1 + v 24)]) rfl ?_
          refine z_iconst (v := Int32.ofInt 1) dX3_areAttributesSound_134 rfl ?_
          refine z_aload_n dX3_areAttributesSound_135 rfl rfl ?_
          refine v_getR hW (hU 230 _ rfl) rfl kX3 fX3_29 dX3_areAttributesSound_136 ?_
          refine z_iload dX3_areAttributesSound_139 rfl ?_
          refine z_iload dX3_areAttributesSound_141 rfl ?_
          obtain ⟨q31, hw⟩ := hw
          have hX := lX4_fieldNamed 2 (Nat.le_refl _) hT hS hW q31 ⟨by decide, by decide⟩ q17 q18 hw
          refine z_callV (As := [_, _, _, _, _]) eX4_fieldNamed sX4_fieldNamed lX3_125 rfl dX3_areAttributesSound_143 (hW.at (hT 24 _ rfl)) hX (Nat.le_trans (by decide) hd) rfl (Nat.le_of_ble_eq_true rfl) (fun r cs hp => ?_)
          obtain ⟨r30, S29, rfl, hw, hW⟩ := hp
          refine z_st (st' := [.int (Int32.ofInt (r30))]) rfl ?_
          refine z_istore dX3_areAttributesSound_146 (by decide) ?_
          refine z_loc (L' := [(0, .ref (G.1 + v 230)), (1, .int (Int32.ofInt (l1))), (2, .int (Int32.ofInt (l2))), (3, .int (Int32.ofInt (l3))), (4, .int (Int32.ofInt (l4))), (5, .int (Int32.ofInt (r12))), (6, .int (Int32.ofInt (r14))), (7, .int (Int32.ofInt (r30)))]) (List.forall_mem_cons.mpr ⟨rfl, (List.forall_mem_cons.mpr ⟨rfl, (List.forall_mem_cons.mpr ⟨rfl, (List.forall_mem_cons.mpr ⟨rfl, (List.forall_mem_cons.mpr ⟨rfl, (List.forall_mem_cons.mpr ⟨rfl, (List.forall_mem_cons.mpr ⟨rfl, (List.forall_mem_cons.mpr ⟨rfl, (fun _ h => nomatch h)⟩)⟩)⟩)⟩)⟩)⟩)⟩)⟩) ?_
          refine z_iload dX3_areAttributesSound_148 rfl ?_
          refine z_iconst (v := Int32.ofInt (-1)) dX3_areAttributesSound_150 rfl ?_
          obtain ⟨q33, hw⟩ := hw
          refine i_icmp_eq (tgt := 191) dX3_areAttributesSound_151 (by decide) q33 ⟨by decide, by decide⟩ (fun h32 => ?_) (fun h32 => ?_)
          · have hw := hw.1 h32
            refine z_loc (L' := [(0, .ref (G.1 + v 230)), (1, .int (Int32.ofInt (l1))), (2, .int (Int32.ofInt (l2))), (4, .int (Int32.ofInt (l4)))]) (List.forall_mem_cons.mpr ⟨rfl, (List.forall_mem_cons.mpr ⟨rfl, (List.forall_mem_cons.mpr ⟨rfl, (List.forall_mem_cons.mpr ⟨rfl, (fun _ h => nomatch h)⟩)⟩)⟩)⟩) ?_
            exact ubX3_areAttributesSound_191 hd hm hT hS hU hW hP hB14 hw
          · have hw := hw.2 h32
            refine z_aload_n dX3_areAttributesSound_154 rfl rfl ?_
            refine z_aload_n dX3_areAttributesSound_155 rfl rfl ?_
            refine v_getR hW (hU 230 _ rfl) rfl kX3 fX3_57 dX3_areAttributesSound_156 ?_
            refine z_iload_n dX3_areAttributesSound_159 rfl rfl ?_
            obtain ⟨q34a, q34b, hw⟩ := hw
            have q35 : iv 0 29 (S29.2 232 (l1)) := hW.iA 232 _
            have hw := hw q35
            refine v_iald hW (hU 232 _ rfl) q34a q34b (m_lt hm) dX3_areAttributesSound_160 ?_
            refine z_iload dX3_areAttributesSound_161 rfl ?_
            refine z_aload_n dX3_areAttributesSound_163 rfl rfl ?_
            refine v_getR hW (hU 230 _ rfl) rfl kX3 fX3_19 dX3_areAttributesSound_164 ?_
            refine z_iload dX3_areAttributesSound_167 rfl ?_
            have hX := lX6_valueFrom 1 (Nat.le_refl _) hT hS (sbt sbX6_X3 hU) hW q5 hw
            refine z_callV (As := [_]) eX6_valueFrom sX6_valueFrom lX3_146 rfl dX3_areAttributesSound_169 (hW.at (hU 3 _ rfl)) hX (Nat.le_trans (by decide) hd) rfl (Nat.le_of_ble_eq_true rfl) (fun r cs hp => ?_)
            obtain ⟨r37, S36, rfl, hw, hW⟩ := hp
            refine z_st (st' := [.int (Int32.ofInt (r37)), .int (Int32.ofInt (r30)), .int (Int32.ofInt (S29.2 232 (l1))), .ref (G.1 + v 230)]) rfl ?_
            refine z_aload_n dX3_areAttributesSound_172 rfl rfl ?_
            refine v_getR hW (hU 230 _ rfl) rfl kX3 fX3_19 dX3_areAttributesSound_173 ?_
            refine z_iload dX3_areAttributesSound_176 rfl ?_
            have hX := lX6_valueTo 1 (Nat.le_refl _) hT hS (sbt sbX6_X3 hU) hW q5 hw
            refine z_callV (As := [_]) eX6_valueTo sX6_valueTo lX3_149 rfl dX3_areAttributesSound_178 (hW.at (hU 3 _ rfl)) hX (Nat.le_trans (by decide) hd) rfl (Nat.le_of_ble_eq_true rfl) (fun r cs hp => ?_)
            obtain ⟨r39, S38, rfl, hw, hW⟩ := hp
            refine z_st (st' := [.int (Int32.ofInt (r39)), .int (Int32.ofInt (r37)), .int (Int32.ofInt (r30)), .int (Int32.ofInt (S29.2 232 (l1))), .ref (G.1 + v 230)]) rfl ?_
            obtain ⟨q42, hw⟩ := hw
            obtain ⟨q43, hw⟩ := hw
            have hX := lX3_fills 3 (Nat.le_refl _) hm hT hS hU hW (rngq q35 (by decide) (by decide)) q33 q42 q43 hw
            refine z_callV (As := [_, _, _, _]) eX3_fills sX3_fills lX3_181 rfl dX3_areAttributesSound_181 (hW.at (hU 230 _ rfl)) hX (Nat.le_trans (by decide) hd) rfl (Nat.le_of_ble_eq_true rfl) (fun r cs hp => ?_)
            obtain ⟨r41, S40, rfl, hw, hW⟩ := hp
            refine z_st (st' := [.int (Int32.ofInt (r41))]) rfl ?_
            obtain ⟨q45, hw⟩ := hw
            refine i_if_eq (tgt := 191) dX3_areAttributesSound_184 (by decide) q45 (fun h44 => ?_) (fun h44 => ?_)
            · have hw := hw.1 h44
              refine z_loc (L' := [(0, .ref (G.1 + v 230)), (1, .int (Int32.ofInt (l1))), (2, .int (Int32.ofInt (l2))), (4, .int (Int32.ofInt (l4)))]) (List.forall_mem_cons.mpr ⟨rfl, (List.forall_mem_cons.mpr ⟨rfl, (List.forall_mem_cons.mpr ⟨rfl, (List.forall_mem_cons.mpr ⟨rfl, (fun _ h => nomatch h)⟩)⟩)⟩)⟩) ?_
              exact ubX3_areAttributesSound_191 hd hm hT hS hU hW hP hB14 hw
            · have hw := hw.2 h44
              refine z_iconst (v := Int32.ofInt 1) dX3_areAttributesSound_187 rfl ?_
              refine z_goto (tgt := 192) dX3_areAttributesSound_188 (by decide) ?_
              refine z_loc (L' := [(0, .ref (G.1 + v 230)), (1, .int (Int32.ofInt (l1))), (2, .int (Int32.ofInt (l2))), (4, .int (Int32.ofInt (l4)))]) (List.forall_mem_cons.mpr ⟨rfl, (List.forall_mem_cons.mpr ⟨rfl, (List.forall_mem_cons.mpr ⟨rfl, (List.forall_mem_cons.mpr ⟨rfl, (fun _ h => nomatch h)⟩)⟩)⟩)⟩) ?_
              exact ubX3_areAttributesSound_192 hd hm hT hS hU hW hP hB14 hw
        · have hw := hw.2 h23
          refine z_aload_n dX3_areAttributesSound_106 rfl rfl ?_
          refine z_iload_n dX3_areAttributesSound_107 rfl rfl ?_
          refine z_iload dX3_areAttributesSound_108 rfl ?_
          have hX := lX3_isIdSound 2 (Nat.le_refl _) hm hT hS hU hW q3 q5 hw
          refine z_callV (As := [_, _]) eX3_isIdSound sX3_isIdSound lX3_202 rfl dX3_areAttributesSound_110 (hW.at (hU 230 _ rfl)) hX (Nat.le_trans (by decide) hd) rfl (Nat.le_of_ble_eq_true rfl) (fun r cs hp => ?_)
          obtain ⟨r47, S46, rfl, hw, hW⟩ := hp
          refine z_st (st' := [.int (Int32.ofInt (r47))]) rfl ?_
          refine z_istore_n dX3_areAttributesSound_113 rfl (by decide) ?_
          refine z_loc (L' := [(0, .ref (G.1 + v 230)), (1, .int (Int32.ofInt (l1))), (2, .int (Int32.ofInt (l2))), (3, .int (Int32.ofInt (r47))), (4, .int (Int32.ofInt (l4))), (5, .int (Int32.ofInt (r12))), (6, .int (Int32.ofInt (r14)))]) (List.forall_mem_cons.mpr ⟨rfl, (List.forall_mem_cons.mpr ⟨rfl, (List.forall_mem_cons.mpr ⟨rfl, (List.forall_mem_cons.mpr ⟨rfl, (List.forall_mem_cons.mpr ⟨rfl, (List.forall_mem_cons.mpr ⟨rfl, (List.forall_mem_cons.mpr ⟨rfl, (fun _ h => nomatch h)⟩)⟩)⟩)⟩)⟩)⟩)⟩) ?_
          refine z_goto (tgt := 193) dX3_areAttributesSound_114 (by decide) ?_
          refine z_loc (L' := [(0, .ref (G.1 + v 230)), (1, .int (Int32.ofInt (l1))), (2, .int (Int32.ofInt (l2))), (3, .int (Int32.ofInt (r47))), (4, .int (Int32.ofInt (l4)))]) (List.forall_mem_cons.mpr ⟨rfl, (List.forall_mem_cons.mpr ⟨rfl, (List.forall_mem_cons.mpr ⟨rfl, (List.forall_mem_cons.mpr ⟨rfl, (List.forall_mem_cons.mpr ⟨rfl, (fun _ h => nomatch h)⟩)⟩)⟩)⟩)⟩) ?_
          exact ubX3_areAttributesSound_193 hd hm hT hS hU hW hP hB14 hw
      · have hw := hw.2 h19
        refine z_aload_n dX3_areAttributesSound_71 rfl rfl ?_
        refine v_getR hW (hU 230 _ rfl) rfl kX3 fX3_60 dX3_areAttributesSound_72 ?_
        refine z_iload_n dX3_areAttributesSound_75 rfl rfl ?_
        obtain ⟨q48a, q48b, hw⟩ := hw
        have q49 : iv (-2147483648) 2147483647 (S15.2 233 (l1)) := hW.iA 233 _
        have hw := hw q49
        refine v_iald hW (hU 233 _ rfl) q48a q48b (m_lt hm) dX3_areAttributesSound_76 ?_
        refine z_iconst (v := Int32.ofInt (-1)) dX3_areAttributesSound_77 rfl ?_
        refine i_icmp_eq (tgt := 85) dX3_areAttributesSound_78 (by decide) (rngq q49 (by decide) (by decide)) ⟨by decide, by decide⟩ (fun h50 => ?_) (fun h50 => ?_)
        · have hw := hw.1 h50
          refine z_iconst (v := Int32.ofInt 0) dX3_areAttributesSound_85 rfl ?_
          refine z_loc (L' := [(0, .ref (G.1 + v 230)), (1, .int (Int32.ofInt (l1))), (2, .int (Int32.ofInt (l2))), (4, .int (Int32.ofInt (l4)))]) (List.forall_mem_cons.mpr ⟨rfl, (List.forall_mem_cons.mpr ⟨rfl, (List.forall_mem_cons.mpr ⟨rfl, (List.forall_mem_cons.mpr ⟨rfl, (fun _ h => nomatch h)⟩)⟩)⟩)⟩) ?_
          exact ubX3_areAttributesSound_86 hd hm hT hS hU hW hP hB14 hw
        · have hw := hw.2 h50
          refine z_iconst (v := Int32.ofInt 1) dX3_areAttributesSound_81 rfl ?_
          refine z_goto (tgt := 86) dX3_areAttributesSound_82 (by decide) ?_
          refine z_loc (L' := [(0, .ref (G.1 + v 230)), (1, .int (Int32.ofInt (l1))), (2, .int (Int32.ofInt (l2))), (4, .int (Int32.ofInt (l4)))]) (List.forall_mem_cons.mpr ⟨rfl, (List.forall_mem_cons.mpr ⟨rfl, (List.forall_mem_cons.mpr ⟨rfl, (List.forall_mem_cons.mpr ⟨rfl, (fun _ h => nomatch h)⟩)⟩)⟩)⟩) ?_
          exact ubX3_areAttributesSound_86 hd hm hT hS hU hW hP hB14 hw
def wX3_areAttributesSound_14 (m : Nat)  (l1 l2 l3 l4 : Int) (S : St) (K : Int → St → Prop) : Prop := ∃ (Iv : Int → Int → Int → Int → St → Prop) (mu : Int → Int → Int → Int → St → Nat), Iv l1 l2 l3 l4 S ∧ ∀ (l1 l2 l3 l4 : Int) (S : St), Iv l1 l2 l3 l4 S → wX3_areAttributesSound_14' m l1 l2 l3 l4 S K  (fun ml1 ml2 ml3 ml4 T => Iv ml1 ml2 ml3 ml4 T ∧ mu ml1 ml2 ml3 ml4 T < mu l1 l2 l3 l4 S)
set_option maxRecDepth 100000 in
set_option maxHeartbeats 4000000 in
theorem ubX3_areAttributesSound_14 {G : xG} {v : Nat → Nat} {sh : Nat → Option Sh} {B : Nat × Nat} {c0 : List va_E} {m : Nat} {d : Nat} {Post : xP} {l1 l2 l3 l4 : Int} {S : St} {cs : List va_E} {K : Int → St → Prop} (hd : 5 ≤ d) (hm : m ≤ 200) (hT : sb shC sh) (hS : ∀ b x, sh b = some x → ¬ isS b) (hU : sb (shMe m) sh) (hW : Wv G v sh B c0 S cs) (hP : ∀ (x : Int) (S : St) (cs : List va_E), K x S → Wv G v sh B c0 S cs → Post (some (.int (Int32.ofInt x))) cs)  (hw : wX3_areAttributesSound_14 m l1 l2 l3 l4 S K ) : Z (RX3, cX3_areAttributesSound, 8, some .boolean, false) G d Post 14 [(0, .ref (G.1 + v 230)), (1, .int (Int32.ofInt (l1))), (2, .int (Int32.ofInt (l2))), (3, .int (Int32.ofInt (l3))), (4, .int (Int32.ofInt (l4)))] [] cs := by
  unfold wX3_areAttributesSound_14 at hw
  obtain ⟨Iv, mu, h0, hs⟩ := hw
  have key : ∀ (n : Nat) (l1 l2 l3 l4 : Int) (S : St) (cs : List va_E), mu l1 l2 l3 l4 S < n → Iv l1 l2 l3 l4 S → Wv G v sh B c0 S cs → Z (RX3, cX3_areAttributesSound, 8, some .boolean, false) G d Post 14 [(0, .ref (G.1 + v 230)), (1, .int (Int32.ofInt (l1))), (2, .int (Int32.ofInt (l2))), (3, .int (Int32.ofInt (l3))), (4, .int (Int32.ofInt (l4)))] [] cs := by
    intro n
    induction n with
    | zero => intro l1 l2 l3 l4 S cs hn; exact absurd hn (Nat.not_lt_zero _)
    | succ n ih =>
      intro l1 l2 l3 l4 S cs hn hI hW
      exact ubX3_areAttributesSound_14' hd hm hT hS hU hW hP  (fun l1 l2 l3 l4 S cs hb hW => ih l1 l2 l3 l4 S cs (Nat.lt_of_lt_of_le hb.2 (Nat.le_of_lt_succ hn)) hb.1 hW) (hs l1 l2 l3 l4 S hI)
  exact key _ _ _ _ _ _ _ (Nat.lt_succ_self _) h0 hW
def wX3_areAttributesSound (m : Nat)  (a1 : Int) (S : St) (K : Int → St → Prop) : Prop := rng a1 → (wX6_firstAttribute (a1) S (fun r2 S1 => wX3_areAttributesSound_14 m (a1) (r2) (1) (r2) S1 K))
set_option maxRecDepth 100000 in
set_option maxHeartbeats 4000000 in
theorem lX3_areAttributesSound {G : xG} {v : Nat → Nat} {sh : Nat → Option Sh} {B : Nat × Nat} {c0 : List va_E} {m : Nat}  {a1 : Int} {S : St} {cs : List va_E} {K : Int → St → Prop} (d : Nat) (hd : 5 ≤ d) (hm : m ≤ 200) (hT : sb shC sh) (hS : ∀ b x, sh b = some x → ¬ isS b) (hU : sb (shMe m) sh) (hW : Wv G v sh B c0 S cs) (g1 : rng a1) (hw : wX3_areAttributesSound m a1 S K) : X G yX3_areAttributesSound cX3_areAttributesSound 8 (some .boolean) d [.ref (G.1 + v 230), .int (Int32.ofInt a1)] cs (vI G v sh B c0 K) := by
  refine X.of false (by decide +kernel) (by decide) (Nat.le_of_ble_eq_true rfl) ?_
  show Z (RX3, cX3_areAttributesSound, 8, some .boolean, false) G d _ 0 [(0, .ref (G.1 + v 230)), (1, .int (Int32.ofInt a1))] [] cs
  have hP : ∀ (x : Int) (S : St) (cs : List va_E), K x S → Wv G v sh B c0 S cs → vI G v sh B c0 K (some (.int (Int32.ofInt x))) cs := fun x S cs a b => ⟨x, S, rfl, a, b⟩
  unfold wX3_areAttributesSound at hw
  have hw := hw g1
  refine z_aload_n dX3_areAttributesSound_0 rfl rfl ?_
  refine v_getR hW (hU 230 _ rfl) rfl kX3 fX3_19 dX3_areAttributesSound_1 ?_
  refine z_iload_n dX3_areAttributesSound_4 rfl rfl ?_
  have hX := lX6_firstAttribute 1 (Nat.le_refl _) hT hS (sbt sbX6_X3 hU) hW g1 hw
  refine z_callV (As := [_]) eX6_firstAttribute sX6_firstAttribute lX3_185 rfl dX3_areAttributesSound_5 (hW.at (hU 3 _ rfl)) hX (Nat.le_trans (by decide) hd) rfl (Nat.le_of_ble_eq_true rfl) (fun r cs hp => ?_)
  obtain ⟨r2, S1, rfl, hw, hW⟩ := hp
  refine z_st (st' := [.int (Int32.ofInt (r2))]) rfl ?_
  refine z_istore_n dX3_areAttributesSound_8 rfl (by decide) ?_
  refine z_loc (L' := [(0, .ref (G.1 + v 230)), (1, .int (Int32.ofInt (a1))), (2, .int (Int32.ofInt (r2)))]) (List.forall_mem_cons.mpr ⟨rfl, (List.forall_mem_cons.mpr ⟨rfl, (List.forall_mem_cons.mpr ⟨rfl, (fun _ h => nomatch h)⟩)⟩)⟩) ?_
  refine z_iconst (v := Int32.ofInt 1) dX3_areAttributesSound_9 rfl ?_
  refine z_istore_n dX3_areAttributesSound_10 rfl (by decide) ?_
  refine z_loc (L' := [(0, .ref (G.1 + v 230)), (1, .int (Int32.ofInt (a1))), (2, .int (Int32.ofInt (r2))), (3, .int (Int32.ofInt (1)))]) (List.forall_mem_cons.mpr ⟨rfl, (List.forall_mem_cons.mpr ⟨rfl, (List.forall_mem_cons.mpr ⟨rfl, (List.forall_mem_cons.mpr ⟨rfl, (fun _ h => nomatch h)⟩)⟩)⟩)⟩) ?_
  refine z_iload_n dX3_areAttributesSound_11 rfl rfl ?_
  refine z_istore dX3_areAttributesSound_12 (by decide) ?_
  refine z_loc (L' := [(0, .ref (G.1 + v 230)), (1, .int (Int32.ofInt (a1))), (2, .int (Int32.ofInt (r2))), (3, .int (Int32.ofInt (1))), (4, .int (Int32.ofInt (r2)))]) (List.forall_mem_cons.mpr ⟨rfl, (List.forall_mem_cons.mpr ⟨rfl, (List.forall_mem_cons.mpr ⟨rfl, (List.forall_mem_cons.mpr ⟨rfl, (List.forall_mem_cons.mpr ⟨rfl, (fun _ h => nomatch h)⟩)⟩)⟩)⟩)⟩) ?_
  refine z_loc (L' := [(0, .ref (G.1 + v 230)), (1, .int (Int32.ofInt (a1))), (2, .int (Int32.ofInt (r2))), (3, .int (Int32.ofInt (1))), (4, .int (Int32.ofInt (r2)))]) (List.forall_mem_cons.mpr ⟨rfl, (List.forall_mem_cons.mpr ⟨rfl, (List.forall_mem_cons.mpr ⟨rfl, (List.forall_mem_cons.mpr ⟨rfl, (List.forall_mem_cons.mpr ⟨rfl, (fun _ h => nomatch h)⟩)⟩)⟩)⟩)⟩) ?_
  exact ubX3_areAttributesSound_14 hd hm hT hS hU hW hP  hw

