def wX4_readableClass_3'  (l2 l3 l4 : Int) (S : St) (K : Int → St → Prop) (B3 : Int → Int → Int → St → Prop) : Prop := (iv 0 6 (S.1 24 8) → (rng (l4) ∧ ((S.1 24 8 ≤ l4 → K ((-1)) S) ∧ ((¬ (S.1 24 8 ≤ l4)) → (rng (l2) ∧ (rng (l3) ∧ (wX4_spells (l4) (l2) (l3) S (fun r5 S4 => (rng (r5) ∧ ((r5 = 0 → B3 (l2) (l3) ((l4 + 1)) S4) ∧ ((¬ (r5 = 0)) → ((0 : Int) ≤ l4 ∧ l4 < (6 : Int) ∧ (iv 0 1 (S4.2 32 (l4)) → ((S4.2 32 (l4) = 0 → K (l4) S4) ∧ ((¬ (S4.2 32 (l4) = 0)) → K ((-1)) S4)))))))))))))))
set_option maxRecDepth 100000 in
set_option maxHeartbeats 4000000 in
theorem ubX4_readableClass_3' {G : xG} {v : Nat → Nat} {sh : Nat → Option Sh} {B : Nat × Nat} {c0 : List va_E} {d : Nat} {Post : xP} {l2 l3 l4 : Int} {S : St} {cs : List va_E} {K : Int → St → Prop} {B3 : Int → Int → Int → St → Prop} (hd : 2 ≤ d) (hT : sb shC sh) (hS : ∀ b x, sh b = some x → ¬ isS b) (hW : Wv G v sh B c0 S cs) (hP : ∀ (x : Int) (S : St) (cs : List va_E), K x S → Wv G v sh B c0 S cs → Post (some (.int (Int32.ofInt x))) cs) (hB3 : ∀ (l2 : Int) (l3 : Int) (l4 : Int) (S : St) (cs : List va_E), B3 l2 l3 l4 S → Wv G v sh B c0 S cs → Z (RX4, cX4_readableClass, 5, some .int, false) G d Post 3 [(0, .ref (G.1 + v 24)), (1, .ref (G.1 + v 1)), (2, .int (Int32.ofInt (l2))), (3, .int (Int32.ofInt (l3))), (4, .int (Int32.ofInt (l4)))] [] cs) (hw : wX4_readableClass_3' l2 l3 l4 S K B3) : Z (RX4, cX4_readableClass, 5, some .int, false) G d Post 3 [(0, .ref (G.1 + v 24)), (1, .ref (G.1 + v 1)), (2, .int (Int32.ofInt (l2))), (3, .int (Int32.ofInt (l3))), (4, .int (Int32.ofInt (l4)))] [] cs := by
  unfold wX4_readableClass_3' at hw
  refine z_iload dX4_readableClass_3 rfl ?_
  refine z_aload_n dX4_readableClass_5 rfl rfl ?_
  have q1 : iv 0 6 (S.1 24 8) := hW.iI 24 8
  have hw := hw q1
  refine v_getI hW (hT 24 _ rfl) rfl kX4 fX4_38 dX4_readableClass_6 ?_
  obtain ⟨q3, hw⟩ := hw
  refine i_icmp_ge (tgt := 47) dX4_readableClass_9 (by decide) q3 (rngq q1 (by decide) (by decide)) (fun h2 => ?_) (fun h2 => ?_)
  · have hw := hw.1 h2
    refine z_iconst (v := Int32.ofInt (-1)) dX4_readableClass_47 rfl ?_
    exact z_ireturn dX4_readableClass_48 rfl rfl (hP _ _ _ hw hW)
  · have hw := hw.2 h2
    refine z_aload_n dX4_readableClass_12 rfl rfl ?_
    refine z_iload dX4_readableClass_13 rfl ?_
    refine z_aload_n dX4_readableClass_15 rfl rfl ?_
    refine z_iload_n dX4_readableClass_16 rfl rfl ?_
    refine z_iload_n dX4_readableClass_17 rfl rfl ?_
    obtain ⟨q6, hw⟩ := hw
    obtain ⟨q7, hw⟩ := hw
    have hX := lX4_spells 1 (Nat.le_refl _) hT hS hW q3 q6 q7 hw
    refine z_callV (As := [_, _, _, _]) eX4_spells sX4_spells lX4_73 rfl dX4_readableClass_18 (hW.at (hT 24 _ rfl)) hX (Nat.le_trans (by decide) hd) rfl (Nat.le_of_ble_eq_true rfl) (fun r cs hp => ?_)
    obtain ⟨r5, S4, rfl, hw, hW⟩ := hp
    refine z_st (st' := [.int (Int32.ofInt (r5))]) rfl ?_
    obtain ⟨q9, hw⟩ := hw
    refine i_if_eq (tgt := 41) dX4_readableClass_21 (by decide) q9 (fun h8 => ?_) (fun h8 => ?_)
    · have hw := hw.1 h8
      refine i_iinc (l := l4) dX4_readableClass_41 rfl (by decide) ?_
      refine z_loc (L' := [(0, .ref (G.1 + v 24)), (1, .ref (G.1 + v 1)), (2, .int (Int32.ofInt (l2))), (3, .int (Int32.ofInt (l3))), (4, .int (Int32.ofInt ((l4 + 1))))]) (List.forall_mem_cons.mpr ⟨rfl, (List.forall_mem_cons.mpr ⟨rfl, (List.forall_mem_cons.mpr ⟨rfl, (List.forall_mem_cons.mpr ⟨rfl, (List.forall_mem_cons.mpr ⟨rfl, (fun _ h => nomatch h)⟩)⟩)⟩)⟩)⟩) ?_
      refine z_goto (tgt := 3) dX4_readableClass_44 (by decide) ?_
      refine z_loc (L' := [(0, .ref (G.1 + v 24)), (1, .ref (G.1 + v 1)), (2, .int (Int32.ofInt (l2))), (3, .int (Int32.ofInt (l3))), (4, .int (Int32.ofInt ((l4 + 1))))]) (List.forall_mem_cons.mpr ⟨rfl, (List.forall_mem_cons.mpr ⟨rfl, (List.forall_mem_cons.mpr ⟨rfl, (List.forall_mem_cons.mpr ⟨rfl, (List.forall_mem_cons.mpr ⟨rfl, (fun _ h => nomatch h)⟩)⟩)⟩)⟩)⟩) ?_
      exact hB3 _ _ _ _ _ hw hW
    · have hw := hw.2 h8
      refine z_aload_n dX4_readableClass_24 rfl rfl ?_
      refine v_getR hW (hT 24 _ rfl) rfl kX4 fX4_35 dX4_readableClass_25 ?_
      refine z_iload dX4_readableClass_28 rfl ?_
      obtain ⟨q10a, q10b, hw⟩ := hw
      have q11 : iv 0 1 (S4.2 32 (l4)) := hW.iA 32 _
      have hw := hw q11
      refine v_zald hW (hT 32 _ rfl) q10a q10b (by decide) dX4_readableClass_30 ?_
      refine i_if_eq (tgt := 38) dX4_readableClass_31 (by decide) (rngq q11 (by decide) (by decide)) (fun h12 => ?_) (fun h12 => ?_)
      · have hw := hw.1 h12
        refine z_iload dX4_readableClass_38 rfl ?_
        exact z_ireturn dX4_readableClass_40 rfl rfl (hP _ _ _ hw hW)
      · have hw := hw.2 h12
        refine z_iconst (v := Int32.ofInt (-1)) dX4_readableClass_34 rfl ?_
        refine z_goto (tgt := 40) dX4_readableClass_35 (by decide) ?_
        exact z_ireturn dX4_readableClass_40 rfl rfl (hP _ _ _ hw hW)
def wX4_readableClass_3  (l2 l3 l4 : Int) (S : St) (K : Int → St → Prop) : Prop := ∃ (Iv : Int → Int → Int → St → Prop) (mu : Int → Int → Int → St → Nat), Iv l2 l3 l4 S ∧ ∀ (l2 l3 l4 : Int) (S : St), Iv l2 l3 l4 S → wX4_readableClass_3' l2 l3 l4 S K  (fun ml2 ml3 ml4 T => Iv ml2 ml3 ml4 T ∧ mu ml2 ml3 ml4 T < mu l2 l3 l4 S)
set_option maxRecDepth 100000 in
set_option maxHeartbeats 4000000 in
theorem ubX4_readableClass_3 {G : xG} {v : Nat → Nat} {sh : Nat → Option Sh} {B : Nat × Nat} {c0 : List va_E} {d : Nat} {Post : xP} {l2 l3 l4 : Int} {S : St} {cs : List va_E} {K : Int → St → Prop} (hd : 2 ≤ d) (hT : sb shC sh) (hS : ∀ b x, sh b = some x → ¬ isS b) (hW : Wv G v sh B c0 S cs) (hP : ∀ (x : Int) (S : St) (cs : List va_E), K x S → Wv G v sh B c0 S cs → Post (some (.int (Int32.ofInt x))) cs)  (hw : wX4_readableClass_3 l2 l3 l4 S K ) : Z (RX4, cX4_readableClass, 5, some .int, false) G d Post 3 [(0, .ref (G.1 + v 24)), (1, .ref (G.1 + v 1)), (2, .int (Int32.ofInt (l2))), (3, .int (Int32.ofInt (l3))), (4, .int (Int32.ofInt (l4)))] [] cs := by
  unfold wX4_readableClass_3 at hw
  obtain ⟨Iv, mu, h0, hs⟩ := hw
  have key : ∀ (n : Nat) (l2 l3 l4 : Int) (S : St) (cs : List va_E), mu l2 l3 l4 S < n → Iv l2 l3 l4 S → Wv G v sh B c0 S cs → Z (RX4, cX4_readableClass, 5, some .int, false) G d Post 3 [(0, .ref (G.1 + v 24)), (1, .ref (G.1 + v 1)), (2, .int (Int32.ofInt (l2))), (3, .int (Int32.ofInt (l3))), (4, .int (Int32.ofInt (l4)))] [] cs := by
    intro n
    induction n with
    | zero => intro l2 l3 l4 S cs hn; exact absurd hn (Nat.not_lt_zero _)
    | succ n ih =>
      intro l2 l3 l4 S cs hn hI hW
      exact ubX4_readableClass_3' hd hT hS hW hP  (fun l2 l3 l4 S cs hb hW => ih l2 l3 l4 S cs (Nat.lt_of_lt_of_le hb.2 (Nat.le_of_lt_succ hn)) hb.1 hW) (hs l2 l3 l4 S hI)
  exact key _ _ _ _ _ _ (Nat.lt_succ_self _) h0 hW
def wX4_readableClass  (a1 a2 : Int) (S : St) (K : Int → St → Prop) : Prop := rng a1 → rng a2 → wX4_readableClass_3 (a1) (a2) (0) S K
set_option maxRecDepth 100000 in
set_option maxHeartbeats 4000000 in
theorem lX4_readableClass {G : xG} {v : Nat → Nat} {sh : Nat → Option Sh} {B : Nat × Nat} {c0 : List va_E}  {a1 a2 : Int} {S : St} {cs : List va_E} {K : Int → St → Prop} (d : Nat) (hd : 2 ≤ d) (hT : sb shC sh) (hS : ∀ b x, sh b = some x → ¬ isS b) (hW : Wv G v sh B c0 S cs) (g1 : rng a1) (g2 : rng a2) (hw : wX4_readableClass a1 a2 S K) : X G yX4_readableClass cX4_readableClass 5 (some .int) d [.ref (G.1 + v 24), .ref (G.1 + v 1), .int (Int32.ofInt a1), .int (Int32.ofInt a2)] cs (vI G v sh B c0 K) := by
  refine X.of false (by decide +kernel) (by decide) (Nat.le_of_ble_eq_true rfl) ?_
  show Z (RX4, cX4_readableClass, 5, some .int, false) G d _ 0 [(0, .ref (G.1 + v 24)), (1, .ref (G.1 + v 1)), (2, .int (Int32.ofInt a1)), (3, .int (Int32.ofInt a2))] [] cs
  have hP : ∀ (x : Int) (S : St) (cs : List va_E), K x S → Wv G v sh B c0 S cs → vI G v sh B c0 K (some (.int (Int32.ofInt x))) cs := fun x S cs a b => ⟨x, S, rfl, a, b⟩
  unfold wX4_readableClass at hw
  have hw := hw g1 g2
  refine z_iconst (v := Int32.ofInt 0) dX4_readableClass_0 rfl ?_
  refine z_istore dX4_readableClass_1 (by decide) ?_
  refine z_loc (L' := [(0, .ref (G.1 + v 24)), (1, .ref (G.1 + v 1)), (2, .int (Int32.ofInt (a1))), (3, .int (Int32.ofInt (a2))), (4, .int (Int32.ofInt (0)))]) (List.forall_mem_cons.mpr ⟨rfl, (List.forall_mem_cons.mpr ⟨rfl, (List.forall_mem_cons.mpr ⟨rfl, (List.forall_mem_cons.mpr ⟨rfl, (List.forall_mem_cons.mpr ⟨rfl, (fun _ h => nomatch h)⟩)⟩)⟩)⟩)⟩) ?_
  refine z_loc (L' := [(0, .ref (G.1 + v 24)), (1, .ref (G.1 + v 1)), (2, .int (Int32.ofInt (a1))), (3, .int (Int32.ofInt (a2))), (4, .int (Int32.ofInt (0)))]) (List.forall_mem_cons.mpr ⟨rfl, (List.forall_mem_cons.mpr ⟨rfl, (List.forall_mem_cons.mpr ⟨rfl, (List.forall_mem_cons.mpr ⟨rfl, (List.forall_mem_cons.mpr ⟨rfl, (fun _ h => nomatch h)⟩)⟩)⟩)⟩)⟩) ?_
  exact ubX4_readableClass_3 hd hT hS hW hP  hw

def wX3_takesRole (m : Nat)  (a1 a2 a3 a4 : Int) (S : St) (K : Int → St → Prop) : Prop := rng a1 → rng a2 → rng a3 → rng a4 → ((0 : Int) ≤ a1 ∧ a1 < (m : Int) ∧ (iv (-2147483648) 2147483647 (a2) ∧ (∀ S2, S2 = pA S 231 (a1) (a2) → ((0 : Int) ≤ a1 ∧ a1 < (m : Int) ∧ (iv 0 29 (a3) ∧ (∀ S5, S5 = pA S2 232 (a1) (a3) → ((0 : Int) ≤ a1 ∧ a1 < (m : Int) ∧ (iv (-2147483648) 2147483647 (a4) ∧ (∀ S8, S8 = pA S5 233 (a1) (a4) → ((0 : Int) ≤ a1 ∧ a1 < (m : Int) ∧ (∀ S11, S11 = pA S8 234 (a1) ((-1)) → K 0 S11)))))))))))
set_option maxRecDepth 100000 in
set_option maxHeartbeats 4000000 in
theorem lX3_takesRole {G : xG} {v : Nat → Nat} {sh : Nat → Option Sh} {B : Nat × Nat} {c0 : List va_E} {m : Nat}  {a1 a2 a3 a4 : Int} {S : St} {cs : List va_E} {K : Int → St → Prop} (d : Nat) (hd : 0 ≤ d) (hm : m ≤ 200) (hT : sb shC sh) (hS : ∀ b x, sh b = some x → ¬ isS b) (hU : sb (shMe m) sh) (hW : Wv G v sh B c0 S cs) (g1 : rng a1) (g2 : rng a2) (g3 : rng a3) (g4 : rng a4) (hw : wX3_takesRole m a1 a2 a3 a4 S K) : X G yX3_takesRole cX3_takesRole 5 none d [.ref (G.1 + v 230), .int (Int32.ofInt a1), .int (Int32.ofInt a2), .int (Int32.ofInt a3), .int (Int32.ofInt a4)] cs (vV G v sh B c0 K) := by
  refine X.of false (by decide +kernel) (by decide) (Nat.le_of_ble_eq_true rfl) ?_
  show Z (RX3, cX3_takesRole, 5, none, false) G d _ 0 [(0, .ref (G.1 + v 230)), (1, .int (Int32.ofInt a1)), (2, .int (Int32.ofInt a2)), (3, .int (Int32.ofInt a3)), (4, .int (Int32.ofInt a4))] [] cs
  have hP : ∀ (x : Int) (S : St) (cs : List va_E), K x S → Wv G v sh B c0 S cs → vV G v sh B c0 K (none) cs := fun x S cs a b => ⟨x, S, rfl, a, b⟩
  unfold wX3_takesRole at hw
  have hw := hw g1 g2 g3 g4
  refine z_aload_n dX3_takesRole_0 rfl rfl ?_
  refine v_getR hW (hU 230 _ rfl) rfl kX3 fX3_54 dX3_takesRole_1 ?_
  refine z_iload_n dX3_takesRole_4 rfl rfl ?_
  refine z_iload_n dX3_takesRole_5 rfl rfl ?_
  obtain ⟨q1a, q1b, hw⟩ := hw
  obtain ⟨q3, hw⟩ := hw
  refine v_iast hW (hU 231 _ rfl) (by decide) (by unfold isS; decide) q1a q1b (m_lt hm) q3 dX3_takesRole_6 (fun cs hW => ?_)
  obtain ⟨S2, hS2⟩ : ∃ x, x = pA S 231 (a1) (a2) := ⟨_, rfl⟩
  rw [← hS2] at hW
  have hw := hw S2 hS2
  refine z_aload_n dX3_takesRole_7 rfl rfl ?_
  refine v_getR hW (hU 230 _ rfl) rfl kX3 fX3_57 dX3_takesRole_8 ?_
  refine z_iload_n dX3_takesRole_11 rfl rfl ?_
  refine z_iload_n dX3_takesRole_12 rfl rfl ?_
  obtain ⟨q4a, q4b, hw⟩ := hw
  obtain ⟨q6, hw⟩ := hw
  refine v_iast hW (hU 232 _ rfl) (by decide) (by unfold isS; decide) q4a q4b (m_lt hm) q6 dX3_takesRole_13 (fun cs hW => ?_)
  obtain ⟨S5, hS5⟩ : ∃ x, x = pA S2 232 (a1) (a3) := ⟨_, rfl⟩
  rw [← hS5] at hW
  have hw := hw S5 hS5
  refine z_aload_n dX3_takesRole_14 rfl rfl ?_
  refine v_getR hW (hU 230 _ rfl) rfl kX3 fX3_60 dX3_takesRole_15 ?_
  refine z_iload_n dX3_takesRole_18 rfl rfl ?_
  refine z_iload dX3_takesRole_19 rfl ?_
  obtain ⟨q7a, q7b, hw⟩ := hw
  obtain ⟨q9, hw⟩ := hw
  refine v_iast hW (hU 233 _ rfl) (by decide) (by unfold isS; decide) q7a q7b (m_lt hm) q9 dX3_takesRole_21 (fun cs hW => ?_)
  obtain ⟨S8, hS8⟩ : ∃ x, x = pA S5 233 (a1) (a4) := ⟨_, rfl⟩
  rw [← hS8] at hW
  have hw := hw S8 hS8
  refine z_aload_n dX3_takesRole_22 rfl rfl ?_
  refine v_getR hW (hU 230 _ rfl) rfl kX3 fX3_63 dX3_takesRole_23 ?_
  refine z_iload_n dX3_takesRole_26 rfl rfl ?_
  refine z_iconst (v := Int32.ofInt (-1)) dX3_takesRole_27 rfl ?_
  obtain ⟨q10a, q10b, hw⟩ := hw
  refine v_iast hW (hU 234 _ rfl) (by decide) (by unfold isS; decide) q10a q10b (m_lt hm) ⟨by decide, by decide⟩ dX3_takesRole_28 (fun cs hW => ?_)
  obtain ⟨S11, hS11⟩ : ∃ x, x = pA S8 234 (a1) ((-1)) := ⟨_, rfl⟩
  rw [← hS11] at hW
  have hw := hw S11 hS11
  exact z_return dX3_takesRole_29 rfl (hP 0 _ _ hw hW)

def wX1_born_b_54  (l2 l3 s0 s1 : Int) (S : St) (K : Int → St → Prop) (B23 : Int → Int → St → Prop) : Prop := ((0 : Int) ≤ s1 ∧ s1 < (120 : Int) ∧ (iv (-2147483648) 2147483647 (s0) ∧ (∀ S2, S2 = pA S 52 (s1) (s0) → B23 (l2) ((l3 + 1)) S2)))
set_option maxRecDepth 100000 in
set_option maxHeartbeats 4000000 in
theorem ubX1_born_b_54 {G : xG} {v : Nat → Nat} {sh : Nat → Option Sh} {B : Nat × Nat} {c0 : List va_E} {d : Nat} {Post : xP} {l2 l3 s0 s1 : Int} {S : St} {cs : List va_E} {K : Int → St → Prop} {B23 : Int → Int → St → Prop} (hd : 0 ≤ d) (hT : sb shC sh) (hS : ∀ b x, sh b = some x → ¬ isS b) (hW : Wv G v sh B c0 S cs) (hP : ∀ (x : Int) (S : St) (cs : List va_E), K x S → Wv G v sh B c0 S cs → Post (some (.int (Int32.ofInt x))) cs) (hB23 : ∀ (l2 : Int) (l3 : Int) (S : St) (cs : List va_E), B23 l2 l3 S → Wv G v sh B c0 S cs → Z (RX1, cX1_born, 4, some .int, false) G d Post 23 [(0, .ref (G.1 + v 50)), (2, .int (Int32.ofInt (l2))), (3, .int (Int32.ofInt (l3)))] [] cs) (hw : wX1_born_b_54 l2 l3 s0 s1 S K B23) : Z (RX1, cX1_born, 4, some .int, false) G d Post 54 [(0, .ref (G.1 + v 50)), (2, .int (Int32.ofInt (l2))), (3, .int (Int32.ofInt (l3)))] [.int (Int32.ofInt (s0)), .int (Int32.ofInt (s1)), .ref (G.1 + v 52)] cs := by
  unfold wX1_born_b_54 at hw
  obtain ⟨q1a, q1b, hw⟩ := hw
  obtain ⟨q3, hw⟩ := hw
  refine v_iast hW (hT 52 _ rfl) (by decide) (by unfold isS; decide) q1a q1b (by decide) q3 dX1_born_54 (fun cs hW => ?_)
  obtain ⟨S2, hS2⟩ : ∃ x, x = pA S 52 (s1) (s0) := ⟨_, rfl⟩
  rw [← hS2] at hW
  have hw := hw S2 hS2
  refine i_iinc (l := l3) dX1_born_55 rfl (by decide) ?_
  refine z_loc (L' := [(0, .ref (G.1 + v 50)), (2, .int (Int32.ofInt (l2))), (3, .int (Int32.ofInt ((l3 + 1))))]) (List.forall_mem_cons.mpr ⟨rfl, (List.forall_mem_cons.mpr ⟨rfl, (List.forall_mem_cons.mpr ⟨rfl, (fun _ h => nomatch h)⟩)⟩)⟩) ?_
  refine z_goto (tgt := 23) dX1_born_58 (by decide) ?_
  refine z_loc (L' := [(0, .ref (G.1 + v 50)), (2, .int (Int32.ofInt (l2))), (3, .int (Int32.ofInt ((l3 + 1))))]) (List.forall_mem_cons.mpr ⟨rfl, (List.forall_mem_cons.mpr ⟨rfl, (List.forall_mem_cons.mpr ⟨rfl, (fun _ h => nomatch h)⟩)⟩)⟩) ?_
  exact hB23 _ _ _ _ hw hW
def wX1_born_b_23'  (l2 l3 : Int) (S : St) (K : Int → St → Prop) (B23 : Int → Int → St → Prop) : Prop := (rng (l3) ∧ ((4 ≤ l3 → (iv 0 30 (S.1 50 3) → (iv 0 30 ((S.1 50 3 + 1)) ∧ (∀ S4, S4 = pI S 50 3 ((S.1 50 3 + 1)) → (iv 0 30 (S4.1 50 3) → K ((S4.1 50 3 - 1)) S4))))) ∧ ((¬ (4 ≤ l3)) → (iv 0 30 (S.1 50 3) → (((bnd ((bsr (l2) (l3))) (1)) = 0 → wX1_born_b_54 (l2) (l3) (0) (((S.1 50 3 * 4) + l3)) S K B23) ∧ ((¬ ((bnd ((bsr (l2) (l3))) (1)) = 0)) → wX1_born_b_54 (l2) (l3) ((-2)) (((S.1 50 3 * 4) + l3)) S K B23))))))
set_option maxRecDepth 100000 in
set_option maxHeartbeats 4000000 in
theorem ubX1_born_b_23' {G : xG} {v : Nat → Nat} {sh : Nat → Option Sh} {B : Nat × Nat} {c0 : List va_E} {d : Nat} {Post : xP} {l2 l3 : Int} {S : St} {cs : List va_E} {K : Int → St → Prop} {B23 : Int → Int → St → Prop} (hd : 0 ≤ d) (hT : sb shC sh) (hS : ∀ b x, sh b = some x → ¬ isS b) (hW : Wv G v sh B c0 S cs) (hP : ∀ (x : Int) (S : St) (cs : List va_E), K x S → Wv G v sh B c0 S cs → Post (some (.int (Int32.ofInt x))) cs) (hB23 : ∀ (l2 : Int) (l3 : Int) (S : St) (cs : List va_E), B23 l2 l3 S → Wv G v sh B c0 S cs → Z (RX1, cX1_born, 4, some .int, false) G d Post 23 [(0, .ref (G.1 + v 50)), (2, .int (Int32.ofInt (l2))), (3, .int (Int32.ofInt (l3)))] [] cs) (hw : wX1_born_b_23' l2 l3 S K B23) : Z (RX1, cX1_born, 4, some .int, false) G d Post 23 [(0, .ref (G.1 + v 50)), (2, .int (Int32.ofInt (l2))), (3, .int (Int32.ofInt (l3)))] [] cs := by
  unfold wX1_born_b_23' at hw
  refine z_iload_n dX1_born_23 rfl rfl ?_
  refine z_iconst (v := Int32.ofInt 4) dX1_born_24 rfl ?_
  obtain ⟨q2, hw⟩ := hw
  refine i_icmp_ge (tgt := 61) dX1_born_25 (by decide) q2 ⟨by decide, by decide⟩ (fun h1 => ?_) (fun h1 => ?_)
  · have hw := hw.1 h1
    refine z_aload_n dX1_born_61 rfl rfl ?_
    refine z_dup dX1_born_62 rfl ?_
    have q3 : iv 0 30 (S.1 50 3) := hW.iI 50 3
    have hw := hw q3
    refine v_getI hW (hT 50 _ rfl) rfl kX1 fX1_21 dX1_born_63 ?_
    refine z_iconst (v := Int32.ofInt 1) dX1_born_66 rfl ?_
    refine i_iadd dX1_born_67 ?_
    obtain ⟨q5, hw⟩ := hw
    refine v_putI hW (hT 50 _ rfl) (by decide) (by unfold isS; decide) rfl kX1 fX1_21 dX1_born_68 rfl rfl rfl q5 (fun cs hW => ?_)
    obtain ⟨S4, hS4⟩ : ∃ x, x = pI S 50 3 ((S.1 50 3 + 1)) := ⟨_, rfl⟩
    rw [← hS4] at hW
    have hw := hw S4 hS4
    refine z_aload_n dX1_born_71 rfl rfl ?_
    have q6 : iv 0 30 (S4.1 50 3) := hW.iI 50 3
    have hw := hw q6
    refine v_getI hW (hT 50 _ rfl) rfl kX1 fX1_21 dX1_born_72 ?_
    refine z_iconst (v := Int32.ofInt 1) dX1_born_75 rfl ?_
    refine i_isub dX1_born_76 ?_
    exact z_ireturn dX1_born_77 rfl rfl (hP _ _ _ hw hW)
  · have hw := hw.2 h1
    refine z_aload_n dX1_born_28 rfl rfl ?_
    refine v_getR hW (hT 50 _ rfl) rfl kX1 fX1_15 dX1_born_29 ?_
    refine z_aload_n dX1_born_32 rfl rfl ?_
    have q7 : iv 0 30 (S.1 50 3) := hW.iI 50 3
    have hw := hw q7
    refine v_getI hW (hT 50 _ rfl) rfl kX1 fX1_21 dX1_born_33 ?_
    refine z_iconst (v := Int32.ofInt 4) dX1_born_36 rfl ?_
    refine i_imul dX1_born_37 ?_
    refine z_iload_n dX1_born_38 rfl rfl ?_
    refine i_iadd dX1_born_39 ?_
    refine z_iload_n dX1_born_40 rfl rfl ?_
    refine z_iload_n dX1_born_41 rfl rfl ?_
    refine v_ishr dX1_born_42 ?_
    refine z_iconst (v := Int32.ofInt 1) dX1_born_43 rfl ?_
    refine v_iand dX1_born_44 ?_
    refine i_if_eq (tgt := 53) dX1_born_45 (by decide) (rng_of _) (fun h8 => ?_) (fun h8 => ?_)
    · have hw := hw.1 h8
      refine z_iconst (v := Int32.ofInt 0) dX1_born_53 rfl ?_
      refine z_loc (L' := [(0, .ref (G.1 + v 50)), (2, .int (Int32.ofInt (l2))), (3, .int (Int32.ofInt (l3)))]) (List.forall_mem_cons.mpr ⟨rfl, (List.forall_mem_cons.mpr ⟨rfl, (List.forall_mem_cons.mpr ⟨rfl, (fun _ h => nomatch h)⟩)⟩)⟩) ?_
      exact ubX1_born_b_54 hd hT hS hW hP hB23 hw
    · have hw := hw.2 h8
      refine z_bipush (v := Int32.ofInt (-2)) dX1_born_48 (by decide) ?_
      refine z_goto (tgt := 54) dX1_born_50 (by decide) ?_
      refine z_loc (L' := [(0, .ref (G.1 + v 50)), (2, .int (Int32.ofInt (l2))), (3, .int (Int32.ofInt (l3)))]) (List.forall_mem_cons.mpr ⟨rfl, (List.forall_mem_cons.mpr ⟨rfl, (List.forall_mem_cons.mpr ⟨rfl, (fun _ h => nomatch h)⟩)⟩)⟩) ?_
      exact ubX1_born_b_54 hd hT hS hW hP hB23 hw
def wX1_born_b_23  (l2 l3 : Int) (S : St) (K : Int → St → Prop) : Prop := ∃ (Iv : Int → Int → St → Prop) (mu : Int → Int → St → Nat), Iv l2 l3 S ∧ ∀ (l2 l3 : Int) (S : St), Iv l2 l3 S → wX1_born_b_23' l2 l3 S K  (fun ml2 ml3 T => Iv ml2 ml3 T ∧ mu ml2 ml3 T < mu l2 l3 S)
set_option maxRecDepth 100000 in
set_option maxHeartbeats 4000000 in
theorem ubX1_born_b_23 {G : xG} {v : Nat → Nat} {sh : Nat → Option Sh} {B : Nat × Nat} {c0 : List va_E} {d : Nat} {Post : xP} {l2 l3 : Int} {S : St} {cs : List va_E} {K : Int → St → Prop} (hd : 0 ≤ d) (hT : sb shC sh) (hS : ∀ b x, sh b = some x → ¬ isS b) (hW : Wv G v sh B c0 S cs) (hP : ∀ (x : Int) (S : St) (cs : List va_E), K x S → Wv G v sh B c0 S cs → Post (some (.int (Int32.ofInt x))) cs)  (hw : wX1_born_b_23 l2 l3 S K ) : Z (RX1, cX1_born, 4, some .int, false) G d Post 23 [(0, .ref (G.1 + v 50)), (2, .int (Int32.ofInt (l2))), (3, .int (Int32.ofInt (l3)))] [] cs := by
  unfold wX1_born_b_23 at hw
  obtain ⟨Iv, mu, h0, hs⟩ := hw
  have key : ∀ (n : Nat) (l2 l3 : Int) (S : St) (cs : List va_E), mu l2 l3 S < n → Iv l2 l3 S → Wv G v sh B c0 S cs → Z (RX1, cX1_born, 4, some .int, false) G d Post 23 [(0, .ref (G.1 + v 50)), (2, .int (Int32.ofInt (l2))), (3, .int (Int32.ofInt (l3)))] [] cs := by
    intro n
    induction n with
    | zero => intro l2 l3 S cs hn; exact absurd hn (Nat.not_lt_zero _)
    | succ n ih =>
      intro l2 l3 S cs hn hI hW
      exact ubX1_born_b_23' hd hT hS hW hP  (fun l2 l3 S cs hb hW => ih l2 l3 S cs (Nat.lt_of_lt_of_le hb.2 (Nat.le_of_lt_succ hn)) hb.1 hW) (hs l2 l3 S hI)
  exact key _ _ _ _ _ (Nat.lt_succ_self _) h0 hW
def wX1_born_b  (a1 a2 : Int) (S : St) (K : Int → St → Prop) : Prop := rng a1 → rng a2 → (iv 0 30 (S.1 50 3) → ((S.1 50 3 < 30 → ((0 : Int) ≤ S.1 50 3 ∧ S.1 50 3 < (30 : Int) ∧ (iv (-2147483648) 2147483647 (a1) ∧ (∀ S4, S4 = pA S 51 (S.1 50 3) (a1) → wX1_born_b_23 (a2) (0) S4 K)))) ∧ ((¬ (S.1 50 3 < 30)) → K ((-1)) S)))
set_option maxRecDepth 100000 in
set_option maxHeartbeats 4000000 in
theorem lX1_born_b {G : xG} {v : Nat → Nat} {sh : Nat → Option Sh} {B : Nat × Nat} {c0 : List va_E}  {a1 a2 : Int} {S : St} {cs : List va_E} {K : Int → St → Prop} (d : Nat) (hd : 0 ≤ d) (hT : sb shC sh) (hS : ∀ b x, sh b = some x → ¬ isS b) (hW : Wv G v sh B c0 S cs) (g1 : rng a1) (g2 : rng a2) (hw : wX1_born_b a1 a2 S K) : X G yX1_born cX1_born 4 (some .int) d [.ref (G.1 + v 50), .int (Int32.ofInt a1), .int (Int32.ofInt a2)] cs (vI G v sh B c0 K) := by
  refine X.of false (by decide +kernel) (by decide) (Nat.le_of_ble_eq_true rfl) ?_
  show Z (RX1, cX1_born, 4, some .int, false) G d _ 0 [(0, .ref (G.1 + v 50)), (1, .int (Int32.ofInt a1)), (2, .int (Int32.ofInt a2))] [] cs
  have hP : ∀ (x : Int) (S : St) (cs : List va_E), K x S → Wv G v sh B c0 S cs → vI G v sh B c0 K (some (.int (Int32.ofInt x))) cs := fun x S cs a b => ⟨x, S, rfl, a, b⟩
  unfold wX1_born_b at hw
  have hw := hw g1 g2
  refine z_aload_n dX1_born_0 rfl rfl ?_
  have q1 : iv 0 30 (S.1 50 3) := hW.iI 50 3
  have hw := hw q1
  refine v_getI hW (hT 50 _ rfl) rfl kX1 fX1_21 dX1_born_1 ?_
  refine z_bipush (v := Int32.ofInt 30) dX1_born_4 (by decide) ?_
  refine i_icmp_lt (tgt := 11) dX1_born_6 (by decide) (rngq q1 (by decide) (by decide)) ⟨by decide, by decide⟩ (fun h2 => ?_) (fun h2 => ?_)
  · have hw := hw.1 h2
    refine z_aload_n dX1_born_11 rfl rfl ?_
    refine v_getR hW (hT 50 _ rfl) rfl kX1 fX1_9 dX1_born_12 ?_
    refine z_aload_n dX1_born_15 rfl rfl ?_
    refine v_getI hW (hT 50 _ rfl) rfl kX1 fX1_21 dX1_born_16 ?_
    refine z_iload_n dX1_born_19 rfl rfl ?_
    obtain ⟨q3a, q3b, hw⟩ := hw
    obtain ⟨q5, hw⟩ := hw
    refine v_iast hW (hT 51 _ rfl) (by decide) (by unfold isS; decide) q3a q3b (by decide) q5 dX1_born_20 (fun cs hW => ?_)
    obtain ⟨S4, hS4⟩ : ∃ x, x = pA S 51 (S.1 50 3) (a1) := ⟨_, rfl⟩
    rw [← hS4] at hW
    have hw := hw S4 hS4
    refine z_iconst (v := Int32.ofInt 0) dX1_born_21 rfl ?_
    refine z_istore_n dX1_born_22 rfl (by decide) ?_
    refine z_loc (L' := [(0, .ref (G.1 + v 50)), (1, .int (Int32.ofInt (a1))), (2, .int (Int32.ofInt (a2))), (3, .int (Int32.ofInt (0)))]) (List.forall_mem_cons.mpr ⟨rfl, (List.forall_mem_cons.mpr ⟨rfl, (List.forall_mem_cons.mpr ⟨rfl, (List.forall_mem_cons.mpr ⟨rfl, (fun _ h => nomatch h)⟩)⟩)⟩)⟩) ?_
    refine z_loc (L' := [(0, .ref (G.1 + v 50)), (2, .int (Int32.ofInt (a2))), (3, .int (Int32.ofInt (0)))]) (List.forall_mem_cons.mpr ⟨rfl, (List.forall_mem_cons.mpr ⟨rfl, (List.forall_mem_cons.mpr ⟨rfl, (fun _ h => nomatch h)⟩)⟩)⟩) ?_
    exact ubX1_born_b_23 hd hT hS hW hP  hw
  · have hw := hw.2 h2
    refine z_iconst (v := Int32.ofInt (-1)) dX1_born_9 rfl ?_
    exact z_ireturn dX1_born_10 rfl rfl (hP _ _ _ hw hW)

def wX3_begins_25 (m : Nat)  (l1 s0 : Int) (S : St) (K : Int → St → Prop) : Prop := (rng (s0) ∧ ((¬ s0 = (-1) → (rng (l1) ∧ (wX3_takesRole m (l1) (1) (s0) ((-1)) S (fun r4 S3 => K (1) S3)))) ∧ ((¬ (¬ s0 = (-1))) → K (0) S)))
set_option maxRecDepth 100000 in
set_option maxHeartbeats 4000000 in
theorem ubX3_begins_25 {G : xG} {v : Nat → Nat} {sh : Nat → Option Sh} {B : Nat × Nat} {c0 : List va_E} {m : Nat} {d : Nat} {Post : xP} {l1 s0 : Int} {S : St} {cs : List va_E} {K : Int → St → Prop} (hd : 2 ≤ d) (hm : m ≤ 200) (hT : sb shC sh) (hS : ∀ b x, sh b = some x → ¬ isS b) (hU : sb (shMe m) sh) (hW : Wv G v sh B c0 S cs) (hP : ∀ (x : Int) (S : St) (cs : List va_E), K x S → Wv G v sh B c0 S cs → Post (some (.int (Int32.ofInt x))) cs)  (hw : wX3_begins_25 m l1 s0 S K ) : Z (RX3, cX3_begins, 4, some .boolean, false) G d Post 25 [(0, .ref (G.1 + v 230)), (1, .int (Int32.ofInt (l1)))] [.int (Int32.ofInt (s0))] cs := by
  unfold wX3_begins_25 at hw
  refine z_istore_n dX3_begins_25 rfl (by decide) ?_
  refine z_loc (L' := [(0, .ref (G.1 + v 230)), (1, .int (Int32.ofInt (l1))), (3, .int (Int32.ofInt (s0)))]) (List.forall_mem_cons.mpr ⟨rfl, (List.forall_mem_cons.mpr ⟨rfl, (List.forall_mem_cons.mpr ⟨rfl, (fun _ h => nomatch h)⟩)⟩)⟩) ?_
  refine z_iload_n dX3_begins_26 rfl rfl ?_
  refine z_iconst (v := Int32.ofInt (-1)) dX3_begins_27 rfl ?_
  obtain ⟨q2, hw⟩ := hw
  refine i_icmp_ne (tgt := 33) dX3_begins_28 (by decide) q2 ⟨by decide, by decide⟩ (fun h1 => ?_) (fun h1 => ?_)
  · have hw := hw.1 h1
    refine z_aload_n dX3_begins_33 rfl rfl ?_
    refine z_iload_n dX3_begins_34 rfl rfl ?_
    refine z_iconst (v := Int32.ofInt 1) dX3_begins_35 rfl ?_
    refine z_iload_n dX3_begins_36 rfl rfl ?_
    refine z_iconst (v := Int32.ofInt (-1)) dX3_begins_37 rfl ?_
    obtain ⟨q5, hw⟩ := hw
    have hX := lX3_takesRole 0 (Nat.le_refl _) hm hT hS hU hW q5 ⟨by decide, by decide⟩ q2 ⟨by decide, by decide⟩ hw
    refine z_callV (As := [_, _, _, _]) eX3_takesRole sX3_takesRole lX3_118 rfl dX3_begins_38 (hW.at (hU 230 _ rfl)) hX (Nat.le_trans (by decide) hd) rfl (Nat.le_of_ble_eq_true rfl) (fun r cs hp => ?_)
    obtain ⟨r4, S3, rfl, hw, hW⟩ := hp
    refine z_st (st' := []) rfl ?_
    refine z_iconst (v := Int32.ofInt 1) dX3_begins_41 rfl ?_
    exact z_ireturn dX3_begins_42 rfl (nar01 (by decide)) (hP _ _ _ hw hW)
  · have hw := hw.2 h1
    refine z_iconst (v := Int32.ofInt 0) dX3_begins_31 rfl ?_
    exact z_ireturn dX3_begins_32 rfl (nar01 (by decide)) (hP _ _ _ hw hW)
def wX3_begins (m : Nat)  (a1 a2 : Int) (S : St) (K : Int → St → Prop) : Prop := rng a1 → rng a2 → ((¬ a2 = (-1) → (wX4_references (a2) S (fun r3 S2 => (rng (r3) ∧ (wX1_born_b (a2) (r3) S2 (fun r5 S4 => wX3_begins_25 m (a1) (r5) S4 K)))))) ∧ ((¬ (¬ a2 = (-1))) → wX3_begins_25 m (a1) ((-1)) S K))
set_option maxRecDepth 100000 in
set_option maxHeartbeats 4000000 in
theorem lX3_begins {G : xG} {v : Nat → Nat} {sh : Nat → Option Sh} {B : Nat × Nat} {c0 : List va_E} {m : Nat}  {a1 a2 : Int} {S : St} {cs : List va_E} {K : Int → St → Prop} (d : Nat) (hd : 2 ≤ d) (hm : m ≤ 200) (hT : sb shC sh) (hS : ∀ b x, sh b = some x → ¬ isS b) (hU : sb (shMe m) sh) (hW : Wv G v sh B c0 S cs) (g1 : rng a1) (g2 : rng a2) (hw : wX3_begins m a1 a2 S K) : X G yX3_begins cX3_begins 4 (some .boolean) d [.ref (G.1 + v 230), .int (Int32.ofInt a1), .int (Int32.ofInt a2)] cs (vI G v sh B c0 K) := by
  refine X.of false (by decide +kernel) (by decide) (Nat.le_of_ble_eq_true rfl) ?_
  show Z (RX3, cX3_begins, 4, some .boolean, false) G d _ 0 [(0, .ref (G.1 + v 230)), (1, .int (Int32.ofInt a1)), (2, .int (Int32.ofInt a2))] [] cs
  have hP : ∀ (x : Int) (S : St) (cs : List va_E), K x S → Wv G v sh B c0 S cs → vI G v sh B c0 K (some (.int (Int32.ofInt x))) cs := fun x S cs a b => ⟨x, S, rfl, a, b⟩
  unfold wX3_begins at hw
  have hw := hw g1 g2
  refine z_iload_n dX3_begins_0 rfl rfl ?_
  refine z_iconst (v := Int32.ofInt (-1)) dX3_begins_1 rfl ?_
  refine i_icmp_ne (tgt := 9) dX3_begins_2 (by decide) g2 ⟨by decide, by decide⟩ (fun h1 => ?_) (fun h1 => ?_)
  · have hw := hw.1 h1
    refine z_aload_n dX3_begins_9 rfl rfl ?_
    refine v_getR hW (hU 230 _ rfl) rfl kX3 fX3_37 dX3_begins_10 ?_
    refine z_iload_n dX3_begins_13 rfl rfl ?_
    refine z_aload_n dX3_begins_14 rfl rfl ?_
    refine v_getR hW (hU 230 _ rfl) rfl kX3 fX3_15 dX3_begins_15 ?_
    refine z_iload_n dX3_begins_18 rfl rfl ?_
    have hX := lX4_references 1 (Nat.le_refl _) hT hS hW g2 hw
    refine z_callV (As := [_]) eX4_references sX4_references lX3_111 rfl dX3_begins_19 (hW.at (hT 24 _ rfl)) hX (Nat.le_trans (by decide) hd) rfl (Nat.le_of_ble_eq_true rfl) (fun r cs hp => ?_)
    obtain ⟨r3, S2, rfl, hw, hW⟩ := hp
    refine z_st (st' := [.int (Int32.ofInt (r3)), .int (Int32.ofInt (a2)), .ref (G.1 + v 50)]) rfl ?_
    obtain ⟨q6, hw⟩ := hw
    have hX := lX1_born_b 0 (Nat.le_refl _) hT hS hW g2 q6 hw
    refine z_callV (As := [_, _]) eX1_born sX1_born lX3_114 rfl dX3_begins_22 (hW.at (hT 50 _ rfl)) hX (Nat.le_trans (by decide) hd) rfl (Nat.le_of_ble_eq_true rfl) (fun r cs hp => ?_)
    obtain ⟨r5, S4, rfl, hw, hW⟩ := hp
    refine z_st (st' := [.int (Int32.ofInt (r5))]) rfl ?_
    refine z_loc (L' := [(0, .ref (G.1 + v 230)), (1, .int (Int32.ofInt (a1)))]) (List.forall_mem_cons.mpr ⟨rfl, (List.forall_mem_cons.mpr ⟨rfl, (fun _ h => nomatch h)⟩)⟩) ?_
    exact ubX3_begins_25 hd hm hT hS hU hW hP  hw
  · have hw := hw.2 h1
    refine z_iconst (v := Int32.ofInt (-1)) dX3_begins_5 rfl ?_
    refine z_goto (tgt := 25) dX3_begins_6 (by decide) ?_
    refine z_loc (L' := [(0, .ref (G.1 + v 230)), (1, .int (Int32.ofInt (a1)))]) (List.forall_mem_cons.mpr ⟨rfl, (List.forall_mem_cons.mpr ⟨rfl, (fun _ h => nomatch h)⟩)⟩) ?_
    exact ubX3_begins_25 hd hm hT hS hU hW hP  hw

def wX5_isAt_15'  (l1 l4 : Int) (S : St) (K : Int → St → Prop) (B15 : Int → Int → St → Prop) : Prop := (rng (l4) ∧ ((9 ≤ l4 → K (1) S) ∧ ((¬ (9 ≤ l4)) → (rng ((l1 + l4)) ∧ (wX5_at 1 ((l1 + l4)) S (fun r4 S3 => ((0 : Int) ≤ l4 ∧ l4 < (9 : Int) ∧ (rng (r4) ∧ ((r4 = (sch 24 (l4)) → B15 (l1) ((l4 + 1)) S3) ∧ ((¬ (r4 = (sch 24 (l4)))) → K (0) S3))))))))))
set_option maxRecDepth 100000 in
set_option maxHeartbeats 4000000 in
theorem ubX5_isAt_15' {G : xG} {v : Nat → Nat} {sh : Nat → Option Sh} {B : Nat × Nat} {c0 : List va_E} {d : Nat} {Post : xP} {l1 l4 : Int} {S : St} {cs : List va_E} {K : Int → St → Prop} {B15 : Int → Int → St → Prop} (hd : 4 ≤ d) (hT : sb shC sh) (hS : ∀ b x, sh b = some x → ¬ isS b) (hW : Wv G v sh B c0 S cs) (hP : ∀ (x : Int) (S : St) (cs : List va_E), K x S → Wv G v sh B c0 S cs → Post (some (.int (Int32.ofInt x))) cs) (hB15 : ∀ (l1 : Int) (l4 : Int) (S : St) (cs : List va_E), B15 l1 l4 S → Wv G v sh B c0 S cs → Z (RX5, cX5_isAt, 5, some .boolean, false) G d Post 15 [(0, .ref (G.1 + v 1)), (1, .int (Int32.ofInt (l1))), (3, .ref (G.2.2.2.1 24)), (4, .int (Int32.ofInt (l4)))] [] cs) (hw : wX5_isAt_15' l1 l4 S K B15) : Z (RX5, cX5_isAt, 5, some .boolean, false) G d Post 15 [(0, .ref (G.1 + v 1)), (1, .int (Int32.ofInt (l1))), (3, .ref (G.2.2.2.1 24)), (4, .int (Int32.ofInt (l4)))] [] cs := by
  unfold wX5_isAt_15' at hw
  refine z_iload dX5_isAt_15 rfl ?_
  refine z_aload_n dX5_isAt_17 rfl rfl ?_
  refine z_callVS (As := []) (show 24 < xN by decide) eJ0_length_8abf5 sJ0_length_8abf5 lX5_35 rfl dX5_isAt_18 (c_length 1 (Nat.le_refl _) (show 24 < xN by decide)) (Nat.le_trans (by decide) hd) rfl (Nat.le_of_ble_eq_true rfl) (fun r cs1 hp => ?_)
  obtain ⟨rfl, rfl⟩ := hp
  refine z_st (st' := [.int (Int32.ofInt (9)), .int (Int32.ofInt (l4))]) rfl ?_
  obtain ⟨q2, hw⟩ := hw
  refine i_icmp_ge (tgt := 49) dX5_isAt_21 (by decide) q2 ⟨by decide, by decide⟩ (fun h1 => ?_) (fun h1 => ?_)
  · have hw := hw.1 h1
    refine z_iconst (v := Int32.ofInt 1) dX5_isAt_49 rfl ?_
    exact z_ireturn dX5_isAt_50 rfl (nar01 (by decide)) (hP _ _ _ hw hW)
  · have hw := hw.2 h1
    refine z_aload_n dX5_isAt_24 rfl rfl ?_
    refine z_iload_n dX5_isAt_25 rfl rfl ?_
    refine z_iload dX5_isAt_26 rfl ?_
    refine i_iadd dX5_isAt_28 ?_
    obtain ⟨q5, hw⟩ := hw
    have hX := lX5_at 0 (Nat.le_refl _) hW (show isS 1 by unfold isS; decide) (fun b x h e => hS b x h (e ▸ (show isS 1 by unfold isS; decide))) q5 hw
    refine z_callV (As := [_]) eX5_at sX5_at lX5_52 rfl dX5_isAt_29 (hW.sg (show isS 1 by unfold isS; decide) (fun b x h e => hS b x h (e ▸ (show isS 1 by unfold isS; decide)))).choose_spec.choose_spec.choose_spec.choose_spec.1.choose_spec.1 hX (Nat.le_trans (by decide) hd) rfl (Nat.le_of_ble_eq_true rfl) (fun r cs hp => ?_)
    obtain ⟨r4, S3, rfl, hw, hW⟩ := hp
    refine z_st (st' := [.int (Int32.ofInt (r4))]) rfl ?_
    refine z_aload_n dX5_isAt_32 rfl rfl ?_
    refine z_iload dX5_isAt_33 rfl ?_
    obtain ⟨q6a, q6b, hw⟩ := hw
    refine z_callVS (As := [_]) (show 24 < xN by decide) eJ0_charAt_5068e sJ0_charAt_5068e lX5_40 rfl dX5_isAt_35 (c_charAt 3 (Nat.le_refl _) (show 24 < xN by decide) (oI_in (n := 9) q6a q6b (by decide))) (Nat.le_trans (by decide) hd) rfl (Nat.le_of_ble_eq_true rfl) (fun r cs1 hp => ?_)
    obtain ⟨rfl, rfl⟩ := hp
    refine z_st (st' := [.int (Int32.ofInt ((sch 24 (l4)))), .int (Int32.ofInt (r4))]) (by unfold sch; rw [Int32.ofInt_toInt]; rfl) ?_
    obtain ⟨q8, hw⟩ := hw
    refine i_icmp_eq (tgt := 43) dX5_isAt_38 (by decide) q8 (rng_of _) (fun h7 => ?_) (fun h7 => ?_)
    · have hw := hw.1 h7
      refine i_iinc (l := l4) dX5_isAt_43 rfl (by decide) ?_
      refine z_loc (L' := [(0, .ref (G.1 + v 1)), (1, .int (Int32.ofInt (l1))), (3, .ref (G.2.2.2.1 24)), (4, .int (Int32.ofInt ((l4 + 1))))]) (List.forall_mem_cons.mpr ⟨rfl, (List.forall_mem_cons.mpr ⟨rfl, (List.forall_mem_cons.mpr ⟨rfl, (List.forall_mem_cons.mpr ⟨rfl, (fun _ h => nomatch h)⟩)⟩)⟩)⟩) ?_
      refine z_goto (tgt := 15) dX5_isAt_46 (by decide) ?_
      refine z_loc (L' := [(0, .ref (G.1 + v 1)), (1, .int (Int32.ofInt (l1))), (3, .ref (G.2.2.2.1 24)), (4, .int (Int32.ofInt ((l4 + 1))))]) (List.forall_mem_cons.mpr ⟨rfl, (List.forall_mem_cons.mpr ⟨rfl, (List.forall_mem_cons.mpr ⟨rfl, (List.forall_mem_cons.mpr ⟨rfl, (fun _ h => nomatch h)⟩)⟩)⟩)⟩) ?_
      exact hB15 _ _ _ _ hw hW
    · have hw := hw.2 h7
      refine z_iconst (v := Int32.ofInt 0) dX5_isAt_41 rfl ?_
      exact z_ireturn dX5_isAt_42 rfl (nar01 (by decide)) (hP _ _ _ hw hW)
def wX5_isAt_15  (l1 l4 : Int) (S : St) (K : Int → St → Prop) : Prop := ∃ (Iv : Int → Int → St → Prop) (mu : Int → Int → St → Nat), Iv l1 l4 S ∧ ∀ (l1 l4 : Int) (S : St), Iv l1 l4 S → wX5_isAt_15' l1 l4 S K  (fun ml1 ml4 T => Iv ml1 ml4 T ∧ mu ml1 ml4 T < mu l1 l4 S)
set_option maxRecDepth 100000 in
set_option maxHeartbeats 4000000 in
theorem ubX5_isAt_15 {G : xG} {v : Nat → Nat} {sh : Nat → Option Sh} {B : Nat × Nat} {c0 : List va_E} {d : Nat} {Post : xP} {l1 l4 : Int} {S : St} {cs : List va_E} {K : Int → St → Prop} (hd : 4 ≤ d) (hT : sb shC sh) (hS : ∀ b x, sh b = some x → ¬ isS b) (hW : Wv G v sh B c0 S cs) (hP : ∀ (x : Int) (S : St) (cs : List va_E), K x S → Wv G v sh B c0 S cs → Post (some (.int (Int32.ofInt x))) cs)  (hw : wX5_isAt_15 l1 l4 S K ) : Z (RX5, cX5_isAt, 5, some .boolean, false) G d Post 15 [(0, .ref (G.1 + v 1)), (1, .int (Int32.ofInt (l1))), (3, .ref (G.2.2.2.1 24)), (4, .int (Int32.ofInt (l4)))] [] cs := by
  unfold wX5_isAt_15 at hw
  obtain ⟨Iv, mu, h0, hs⟩ := hw
  have key : ∀ (n : Nat) (l1 l4 : Int) (S : St) (cs : List va_E), mu l1 l4 S < n → Iv l1 l4 S → Wv G v sh B c0 S cs → Z (RX5, cX5_isAt, 5, some .boolean, false) G d Post 15 [(0, .ref (G.1 + v 1)), (1, .int (Int32.ofInt (l1))), (3, .ref (G.2.2.2.1 24)), (4, .int (Int32.ofInt (l4)))] [] cs := by
    intro n
    induction n with
    | zero => intro l1 l4 S cs hn; exact absurd hn (Nat.not_lt_zero _)
    | succ n ih =>
      intro l1 l4 S cs hn hI hW
      exact ubX5_isAt_15' hd hT hS hW hP  (fun l1 l4 S cs hb hW => ih l1 l4 S cs (Nat.lt_of_lt_of_le hb.2 (Nat.le_of_lt_succ hn)) hb.1 hW) (hs l1 l4 S hI)
  exact key _ _ _ _ _ (Nat.lt_succ_self _) h0 hW
def wX5_isAt  (a1 a2 : Int) (S : St) (K : Int → St → Prop) : Prop := rng a1 → rng a2 → (rng ((a2 - a1)) ∧ (((a2 - a1) = 9 → wX5_isAt_15 (a1) (0) S K) ∧ ((¬ ((a2 - a1) = 9)) → K (0) S)))
set_option maxRecDepth 100000 in
set_option maxHeartbeats 4000000 in
theorem lX5_isAt {G : xG} {v : Nat → Nat} {sh : Nat → Option Sh} {B : Nat × Nat} {c0 : List va_E}  {a1 a2 : Int} {S : St} {cs : List va_E} {K : Int → St → Prop} (d : Nat) (hd : 4 ≤ d) (hT : sb shC sh) (hS : ∀ b x, sh b = some x → ¬ isS b) (hW : Wv G v sh B c0 S cs) (g1 : rng a1) (g2 : rng a2) (hw : wX5_isAt a1 a2 S K) : X G yX5_isAt cX5_isAt 5 (some .boolean) d [.ref (G.1 + v 1), .int (Int32.ofInt a1), .int (Int32.ofInt a2), .ref (G.2.2.2.1 24)] cs (vI G v sh B c0 K) := by
  refine X.of false (by decide +kernel) (by decide) (Nat.le_of_ble_eq_true rfl) ?_
  show Z (RX5, cX5_isAt, 5, some .boolean, false) G d _ 0 [(0, .ref (G.1 + v 1)), (1, .int (Int32.ofInt a1)), (2, .int (Int32.ofInt a2)), (3, .ref (G.2.2.2.1 24))] [] cs
  have hP : ∀ (x : Int) (S : St) (cs : List va_E), K x S → Wv G v sh B c0 S cs → vI G v sh B c0 K (some (.int (Int32.ofInt x))) cs := fun x S cs a b => ⟨x, S, rfl, a, b⟩
  unfold wX5_isAt at hw
  have hw := hw g1 g2
  refine z_iload_n dX5_isAt_0 rfl rfl ?_
  refine z_iload_n dX5_isAt_1 rfl rfl ?_
  refine i_isub dX5_isAt_2 ?_
  refine z_aload_n dX5_isAt_3 rfl rfl ?_
  refine z_callVS (As := []) (show 24 < xN by decide) eJ0_length_8abf5 sJ0_length_8abf5 lX5_35 rfl dX5_isAt_4 (c_length 1 (Nat.le_refl _) (show 24 < xN by decide)) (Nat.le_trans (by decide) hd) rfl (Nat.le_of_ble_eq_true rfl) (fun r cs1 hp => ?_)
  obtain ⟨rfl, rfl⟩ := hp
  refine z_st (st' := [.int (Int32.ofInt (9)), .int (Int32.ofInt ((a2 - a1)))]) rfl ?_
  obtain ⟨q2, hw⟩ := hw
  refine i_icmp_eq (tgt := 12) dX5_isAt_7 (by decide) q2 ⟨by decide, by decide⟩ (fun h1 => ?_) (fun h1 => ?_)
  · have hw := hw.1 h1
    refine z_iconst (v := Int32.ofInt 0) dX5_isAt_12 rfl ?_
    refine z_istore dX5_isAt_13 (by decide) ?_
    refine z_loc (L' := [(0, .ref (G.1 + v 1)), (1, .int (Int32.ofInt (a1))), (2, .int (Int32.ofInt (a2))), (3, .ref (G.2.2.2.1 24)), (4, .int (Int32.ofInt (0)))]) (List.forall_mem_cons.mpr ⟨rfl, (List.forall_mem_cons.mpr ⟨rfl, (List.forall_mem_cons.mpr ⟨rfl, (List.forall_mem_cons.mpr ⟨rfl, (List.forall_mem_cons.mpr ⟨rfl, (fun _ h => nomatch h)⟩)⟩)⟩)⟩)⟩) ?_
    refine z_loc (L' := [(0, .ref (G.1 + v 1)), (1, .int (Int32.ofInt (a1))), (3, .ref (G.2.2.2.1 24)), (4, .int (Int32.ofInt (0)))]) (List.forall_mem_cons.mpr ⟨rfl, (List.forall_mem_cons.mpr ⟨rfl, (List.forall_mem_cons.mpr ⟨rfl, (List.forall_mem_cons.mpr ⟨rfl, (fun _ h => nomatch h)⟩)⟩)⟩)⟩) ?_
    exact ubX5_isAt_15 hd hT hS hW hP  hw
  · have hw := hw.2 h1
    refine z_iconst (v := Int32.ofInt 0) dX5_isAt_10 rfl ?_
    exact z_ireturn dX5_isAt_11 rfl (nar01 (by decide)) (hP _ _ _ hw hW)

def wX6_attributeNamed_9'  (l1 l3 l4 : Int) (S : St) (K : Int → St → Prop) (B9 : Int → Int → Int → St → Prop) : Prop := (rng (l1) ∧ (wX6_attributeCount (l1) S (fun r2 S1 => (rng (l4) ∧ (rng ((l3 + r2)) ∧ (((l3 + r2) ≤ l4 → K ((-1)) S1) ∧ ((¬ ((l3 + r2) ≤ l4)) → ((0 : Int) ≤ l4 ∧ l4 < (600 : Int) ∧ (iv (-2147483648) 2147483647 (S1.2 16 (l4)) → ((0 : Int) ≤ l4 ∧ l4 < (600 : Int) ∧ (iv (-2147483648) 2147483647 (S1.2 17 (l4)) → (wX5_isAt (S1.2 16 (l4)) (S1.2 17 (l4)) S1 (fun r12 S11 => (rng (r12) ∧ ((r12 = 0 → B9 (l1) (l3) ((l4 + 1)) S11) ∧ ((¬ (r12 = 0)) → K (l4) S11))))))))))))))))
set_option maxRecDepth 100000 in
set_option maxHeartbeats 4000000 in
theorem ubX6_attributeNamed_9' {G : xG} {v : Nat → Nat} {sh : Nat → Option Sh} {B : Nat × Nat} {c0 : List va_E} {d : Nat} {Post : xP} {l1 l3 l4 : Int} {S : St} {cs : List va_E} {K : Int → St → Prop} {B9 : Int → Int → Int → St → Prop} (hd : 5 ≤ d) (hT : sb shC sh) (hS : ∀ b x, sh b = some x → ¬ isS b) (hU : sb shTr sh) (hW : Wv G v sh B c0 S cs) (hP : ∀ (x : Int) (S : St) (cs : List va_E), K x S → Wv G v sh B c0 S cs → Post (some (.int (Int32.ofInt x))) cs) (hB9 : ∀ (l1 : Int) (l3 : Int) (l4 : Int) (S : St) (cs : List va_E), B9 l1 l3 l4 S → Wv G v sh B c0 S cs → Z (RX6, cX6_attributeNamed, 5, some .int, false) G d Post 9 [(0, .ref (G.1 + v 3)), (1, .int (Int32.ofInt (l1))), (2, .ref (G.2.2.2.1 24)), (3, .int (Int32.ofInt (l3))), (4, .int (Int32.ofInt (l4)))] [] cs) (hw : wX6_attributeNamed_9' l1 l3 l4 S K B9) : Z (RX6, cX6_attributeNamed, 5, some .int, false) G d Post 9 [(0, .ref (G.1 + v 3)), (1, .int (Int32.ofInt (l1))), (2, .ref (G.2.2.2.1 24)), (3, .int (Int32.ofInt (l3))), (4, .int (Int32.ofInt (l4)))] [] cs := by
  unfold wX6_attributeNamed_9' at hw
  refine z_iload dX6_attributeNamed_9 rfl ?_
  refine z_iload_n dX6_attributeNamed_11 rfl rfl ?_
  refine z_aload_n dX6_attributeNamed_12 rfl rfl ?_
  refine z_iload_n dX6_attributeNamed_13 rfl rfl ?_
  obtain ⟨q3, hw⟩ := hw
  have hX := lX6_attributeCount 1 (Nat.le_refl _) hT hS hU hW q3 hw
  refine z_callV (As := [_]) eX6_attributeCount sX6_attributeCount lX6_100 rfl dX6_attributeNamed_14 (hW.at (hU 3 _ rfl)) hX (Nat.le_trans (by decide) hd) rfl (Nat.le_of_ble_eq_true rfl) (fun r cs hp => ?_)
  obtain ⟨r2, S1, rfl, hw, hW⟩ := hp
  refine z_st (st' := [.int (Int32.ofInt (r2)), .int (Int32.ofInt (l3)), .int (Int32.ofInt (l4))]) rfl ?_
  refine i_iadd dX6_attributeNamed_17 ?_
  obtain ⟨q5, hw⟩ := hw
  obtain ⟨q6, hw⟩ := hw
  refine i_icmp_ge (tgt := 55) dX6_attributeNamed_18 (by decide) q5 q6 (fun h4 => ?_) (fun h4 => ?_)
  · have hw := hw.1 h4
    refine z_iconst (v := Int32.ofInt (-1)) dX6_attributeNamed_55 rfl ?_
    exact z_ireturn dX6_attributeNamed_56 rfl rfl (hP _ _ _ hw hW)
  · have hw := hw.2 h4
    refine z_aload_n dX6_attributeNamed_21 rfl rfl ?_
    refine v_getR hW (hU 3 _ rfl) rfl kX6 fX6_18 dX6_attributeNamed_22 ?_
    refine z_aload_n dX6_attributeNamed_25 rfl rfl ?_
    refine v_getR hW (hU 3 _ rfl) rfl kX6 fX6_53 dX6_attributeNamed_26 ?_
    refine z_iload dX6_attributeNamed_29 rfl ?_
    obtain ⟨q7a, q7b, hw⟩ := hw
    have q8 : iv (-2147483648) 2147483647 (S1.2 16 (l4)) := hW.iA 16 _
    have hw := hw q8
    refine v_iald hW (hT 16 _ rfl) q7a q7b (by decide) dX6_attributeNamed_31 ?_
    refine z_aload_n dX6_attributeNamed_32 rfl rfl ?_
    refine v_getR hW (hU 3 _ rfl) rfl kX6 fX6_56 dX6_attributeNamed_33 ?_
    refine z_iload dX6_attributeNamed_36 rfl ?_
    obtain ⟨q9a, q9b, hw⟩ := hw
    have q10 : iv (-2147483648) 2147483647 (S1.2 17 (l4)) := hW.iA 17 _
    have hw := hw q10
    refine v_iald hW (hT 17 _ rfl) q9a q9b (by decide) dX6_attributeNamed_38 ?_
    refine z_aload_n dX6_attributeNamed_39 rfl rfl ?_
    have hX := lX5_isAt 4 (Nat.le_refl _) hT hS hW (rngq q8 (by decide) (by decide)) (rngq q10 (by decide) (by decide)) hw
    refine z_callV (As := [_, _, _]) eX5_isAt sX5_isAt lX6_103 rfl dX6_attributeNamed_40 (hW.sg (show isS 1 by unfold isS; decide) (fun b x h e => hS b x h (e ▸ (show isS 1 by unfold isS; decide)))).choose_spec.choose_spec.choose_spec.choose_spec.1.choose_spec.1 hX (Nat.le_trans (by decide) hd) rfl (Nat.le_of_ble_eq_true rfl) (fun r cs hp => ?_)
    obtain ⟨r12, S11, rfl, hw, hW⟩ := hp
    refine z_st (st' := [.int (Int32.ofInt (r12))]) rfl ?_
    obtain ⟨q14, hw⟩ := hw
    refine i_if_eq (tgt := 49) dX6_attributeNamed_43 (by decide) q14 (fun h13 => ?_) (fun h13 => ?_)
    · have hw := hw.1 h13
      refine i_iinc (l := l4) dX6_attributeNamed_49 rfl (by decide) ?_
      refine z_loc (L' := [(0, .ref (G.1 + v 3)), (1, .int (Int32.ofInt (l1))), (2, .ref (G.2.2.2.1 24)), (3, .int (Int32.ofInt (l3))), (4, .int (Int32.ofInt ((l4 + 1))))]) (List.forall_mem_cons.mpr ⟨rfl, (List.forall_mem_cons.mpr ⟨rfl, (List.forall_mem_cons.mpr ⟨rfl, (List.forall_mem_cons.mpr ⟨rfl, (List.forall_mem_cons.mpr ⟨rfl, (fun _ h => nomatch h)⟩)⟩)⟩)⟩)⟩) ?_
      refine z_goto (tgt := 9) dX6_attributeNamed_52 (by decide) ?_
      refine z_loc (L' := [(0, .ref (G.1 + v 3)), (1, .int (Int32.ofInt (l1))), (2, .ref (G.2.2.2.1 24)), (3, .int (Int32.ofInt (l3))), (4, .int (Int32.ofInt ((l4 + 1))))]) (List.forall_mem_cons.mpr ⟨rfl, (List.forall_mem_cons.mpr ⟨rfl, (List.forall_mem_cons.mpr ⟨rfl, (List.forall_mem_cons.mpr ⟨rfl, (List.forall_mem_cons.mpr ⟨rfl, (fun _ h => nomatch h)⟩)⟩)⟩)⟩)⟩) ?_
      exact hB9 _ _ _ _ _ hw hW
    · have hw := hw.2 h13
      refine z_iload dX6_attributeNamed_46 rfl ?_
      exact z_ireturn dX6_attributeNamed_48 rfl rfl (hP _ _ _ hw hW)
def wX6_attributeNamed_9  (l1 l3 l4 : Int) (S : St) (K : Int → St → Prop) : Prop := ∃ (Iv : Int → Int → Int → St → Prop) (mu : Int → Int → Int → St → Nat), Iv l1 l3 l4 S ∧ ∀ (l1 l3 l4 : Int) (S : St), Iv l1 l3 l4 S → wX6_attributeNamed_9' l1 l3 l4 S K  (fun ml1 ml3 ml4 T => Iv ml1 ml3 ml4 T ∧ mu ml1 ml3 ml4 T < mu l1 l3 l4 S)
set_option maxRecDepth 100000 in
set_option maxHeartbeats 4000000 in
theorem ubX6_attributeNamed_9 {G : xG} {v : Nat → Nat} {sh : Nat → Option Sh} {B : Nat × Nat} {c0 : List va_E} {d : Nat} {Post : xP} {l1 l3 l4 : Int} {S : St} {cs : List va_E} {K : Int → St → Prop} (hd : 5 ≤ d) (hT : sb shC sh) (hS : ∀ b x, sh b = some x → ¬ isS b) (hU : sb shTr sh) (hW : Wv G v sh B c0 S cs) (hP : ∀ (x : Int) (S : St) (cs : List va_E), K x S → Wv G v sh B c0 S cs → Post (some (.int (Int32.ofInt x))) cs)  (hw : wX6_attributeNamed_9 l1 l3 l4 S K ) : Z (RX6, cX6_attributeNamed, 5, some .int, false) G d Post 9 [(0, .ref (G.1 + v 3)), (1, .int (Int32.ofInt (l1))), (2, .ref (G.2.2.2.1 24)), (3, .int (Int32.ofInt (l3))), (4, .int (Int32.ofInt (l4)))] [] cs := by
  unfold wX6_attributeNamed_9 at hw
  obtain ⟨Iv, mu, h0, hs⟩ := hw
  have key : ∀ (n : Nat) (l1 l3 l4 : Int) (S : St) (cs : List va_E), mu l1 l3 l4 S < n → Iv l1 l3 l4 S → Wv G v sh B c0 S cs → Z (RX6, cX6_attributeNamed, 5, some .int, false) G d Post 9 [(0, .ref (G.1 + v 3)), (1, .int (Int32.ofInt (l1))), (2, .ref (G.2.2.2.1 24)), (3, .int (Int32.ofInt (l3))), (4, .int (Int32.ofInt (l4)))] [] cs := by
    intro n
    induction n with
    | zero => intro l1 l3 l4 S cs hn; exact absurd hn (Nat.not_lt_zero _)
    | succ n ih =>
      intro l1 l3 l4 S cs hn hI hW
      exact ubX6_attributeNamed_9' hd hT hS hU hW hP  (fun l1 l3 l4 S cs hb hW => ih l1 l3 l4 S cs (Nat.lt_of_lt_of_le hb.2 (Nat.le_of_lt_succ hn)) hb.1 hW) (hs l1 l3 l4 S hI)
  exact key _ _ _ _ _ _ (Nat.lt_succ_self _) h0 hW
def wX6_attributeNamed  (a1 : Int) (S : St) (K : Int → St → Prop) : Prop := rng a1 → (wX6_firstAttribute (a1) S (fun r2 S1 => wX6_attributeNamed_9 (a1) (r2) (r2) S1 K))
set_option maxRecDepth 100000 in
set_option maxHeartbeats 4000000 in
theorem lX6_attributeNamed {G : xG} {v : Nat → Nat} {sh : Nat → Option Sh} {B : Nat × Nat} {c0 : List va_E}  {a1 : Int} {S : St} {cs : List va_E} {K : Int → St → Prop} (d : Nat) (hd : 5 ≤ d) (hT : sb shC sh) (hS : ∀ b x, sh b = some x → ¬ isS b) (hU : sb shTr sh) (hW : Wv G v sh B c0 S cs) (g1 : rng a1) (hw : wX6_attributeNamed a1 S K) : X G yX6_attributeNamed cX6_attributeNamed 5 (some .int) d [.ref (G.1 + v 3), .int (Int32.ofInt a1), .ref (G.2.2.2.1 24)] cs (vI G v sh B c0 K) := by
  refine X.of false (by decide +kernel) (by decide) (Nat.le_of_ble_eq_true rfl) ?_
  show Z (RX6, cX6_attributeNamed, 5, some .int, false) G d _ 0 [(0, .ref (G.1 + v 3)), (1, .int (Int32.ofInt a1)), (2, .ref (G.2.2.2.1 24))] [] cs
  have hP : ∀ (x : Int) (S : St) (cs : List va_E), K x S → Wv G v sh B c0 S cs → vI G v sh B c0 K (some (.int (Int32.ofInt x))) cs := fun x S cs a b => ⟨x, S, rfl, a, b⟩
  unfold wX6_attributeNamed at hw
  have hw := hw g1
  refine z_aload_n dX6_attributeNamed_0 rfl rfl ?_
  refine z_iload_n dX6_attributeNamed_1 rfl rfl ?_
  have hX := lX6_firstAttribute 1 (Nat.le_refl _) hT hS hU hW g1 hw
  refine z_callV (As := [_]) eX6_firstAttribute sX6_firstAttribute lX6_96 rfl dX6_attributeNamed_2 (hW.at (hU 3 _ rfl)) hX (Nat.le_trans (by decide) hd) rfl (Nat.le_of_ble_eq_true rfl) (fun r cs hp => ?_)
  obtain ⟨r2, S1, rfl, hw, hW⟩ := hp
  refine z_st (st' := [.int (Int32.ofInt (r2))]) rfl ?_
  refine z_istore_n dX6_attributeNamed_5 rfl (by decide) ?_
  refine z_loc (L' := [(0, .ref (G.1 + v 3)), (1, .int (Int32.ofInt (a1))), (2, .ref (G.2.2.2.1 24)), (3, .int (Int32.ofInt (r2)))]) (List.forall_mem_cons.mpr ⟨rfl, (List.forall_mem_cons.mpr ⟨rfl, (List.forall_mem_cons.mpr ⟨rfl, (List.forall_mem_cons.mpr ⟨rfl, (fun _ h => nomatch h)⟩)⟩)⟩)⟩) ?_
  refine z_iload_n dX6_attributeNamed_6 rfl rfl ?_
  refine z_istore dX6_attributeNamed_7 (by decide) ?_
  refine z_loc (L' := [(0, .ref (G.1 + v 3)), (1, .int (Int32.ofInt (a1))), (2, .ref (G.2.2.2.1 24)), (3, .int (Int32.ofInt (r2))), (4, .int (Int32.ofInt (r2)))]) (List.forall_mem_cons.mpr ⟨rfl, (List.forall_mem_cons.mpr ⟨rfl, (List.forall_mem_cons.mpr ⟨rfl, (List.forall_mem_cons.mpr ⟨rfl, (List.forall_mem_cons.mpr ⟨rfl, (fun _ h => nomatch h)⟩)⟩)⟩)⟩)⟩) ?_
  refine z_loc (L' := [(0, .ref (G.1 + v 3)), (1, .int (Int32.ofInt (a1))), (2, .ref (G.2.2.2.1 24)), (3, .int (Int32.ofInt (r2))), (4, .int (Int32.ofInt (r2)))]) (List.forall_mem_cons.mpr ⟨rfl, (List.forall_mem_cons.mpr ⟨rfl, (List.forall_mem_cons.mpr ⟨rfl, (List.forall_mem_cons.mpr ⟨rfl, (List.forall_mem_cons.mpr ⟨rfl, (fun _ h => nomatch h)⟩)⟩)⟩)⟩)⟩) ?_
  exact ubX6_attributeNamed_9 hd hT hS hU hW hP  hw

