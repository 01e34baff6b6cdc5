def wX1_classOf_b  (a1 : Int) (S : St) (K : Int → St → Prop) : Prop := rng a1 → (wX1_has_b (a1) S (fun r2 S1 => (rng (r2) ∧ ((r2 = 0 → K ((-1)) S1) ∧ ((¬ (r2 = 0)) → ((0 : Int) ≤ a1 ∧ a1 < (30 : Int) ∧ (iv (-2147483648) 2147483647 (S1.2 51 (a1)) → K (S1.2 51 (a1)) S1)))))))
set_option maxRecDepth 100000 in
set_option maxHeartbeats 4000000 in
theorem lX1_classOf_b {G : xG} {v : Nat → Nat} {sh : Nat → Option Sh} {B : Nat × Nat} {c0 : List va_E}  {a1 : Int} {S : St} {cs : List va_E} {K : Int → St → Prop} (d : Nat) (hd : 1 ≤ d) (hT : sb shC sh) (hS : ∀ b x, sh b = some x → ¬ isS b) (hW : Wv G v sh B c0 S cs) (g1 : rng a1) (hw : wX1_classOf_b a1 S K) : X G yX1_classOf cX1_classOf 2 (some .int) d [.ref (G.1 + v 50), .int (Int32.ofInt a1)] cs (vI G v sh B c0 K) := by
  refine X.of false (by decide +kernel) (by decide) (Nat.le_of_ble_eq_true rfl) ?_
  show Z (RX1, cX1_classOf, 2, some .int, false) G d _ 0 [(0, .ref (G.1 + v 50)), (1, .int (Int32.ofInt a1))] [] cs
  have hP : ∀ (x : Int) (S : St) (cs : List va_E), K x S → Wv G v sh B c0 S cs → vI G v sh B c0 K (some (.int (Int32.ofInt x))) cs := fun x S cs a b => ⟨x, S, rfl, a, b⟩
  unfold wX1_classOf_b at hw
  have hw := hw g1
  refine z_aload_n dX1_classOf_0 rfl rfl ?_
  refine z_iload_n dX1_classOf_1 rfl rfl ?_
  have hX := lX1_has_b 0 (Nat.le_refl _) hT hS hW g1 hw
  refine z_callV (As := [_]) eX1_has sX1_has lX1_25 rfl dX1_classOf_2 (hW.at (hT 50 _ rfl)) hX (Nat.le_trans (by decide) hd) rfl (Nat.le_of_ble_eq_true rfl) (fun r cs hp => ?_)
  obtain ⟨r2, S1, rfl, hw, hW⟩ := hp
  refine z_st (st' := [.int (Int32.ofInt (r2))]) rfl ?_
  obtain ⟨q4, hw⟩ := hw
  refine i_if_eq (tgt := 17) dX1_classOf_5 (by decide) q4 (fun h3 => ?_) (fun h3 => ?_)
  · have hw := hw.1 h3
    refine z_iconst (v := Int32.ofInt (-1)) dX1_classOf_17 rfl ?_
    exact z_ireturn dX1_classOf_18 rfl rfl (hP _ _ _ hw hW)
  · have hw := hw.2 h3
    refine z_aload_n dX1_classOf_8 rfl rfl ?_
    refine v_getR hW (hT 50 _ rfl) rfl kX1 fX1_9 dX1_classOf_9 ?_
    refine z_iload_n dX1_classOf_12 rfl rfl ?_
    obtain ⟨q5a, q5b, hw⟩ := hw
    have q6 : iv (-2147483648) 2147483647 (S1.2 51 (a1)) := hW.iA 51 _
    have hw := hw q6
    refine v_iald hW (hT 51 _ rfl) q5a q5b (by decide) dX1_classOf_13 ?_
    refine z_goto (tgt := 18) dX1_classOf_14 (by decide) ?_
    exact z_ireturn dX1_classOf_18 rfl rfl (hP _ _ _ hw hW)

def wX6_nameFrom  (a1 : Int) (S : St) (K : Int → St → Prop) : Prop := rng a1 → (wX6_has (a1) S (fun r2 S1 => (rng (r2) ∧ ((r2 = 0 → K (0) S1) ∧ ((¬ (r2 = 0)) → ((0 : Int) ≤ a1 ∧ a1 < (200 : Int) ∧ (iv (-2147483648) 2147483647 (S1.2 7 (a1)) → K (S1.2 7 (a1)) S1)))))))
set_option maxRecDepth 100000 in
set_option maxHeartbeats 4000000 in
theorem lX6_nameFrom {G : xG} {v : Nat → Nat} {sh : Nat → Option Sh} {B : Nat × Nat} {c0 : List va_E}  {a1 : Int} {S : St} {cs : List va_E} {K : Int → St → Prop} (d : Nat) (hd : 1 ≤ d) (hT : sb shC sh) (hS : ∀ b x, sh b = some x → ¬ isS b) (hU : sb shTr sh) (hW : Wv G v sh B c0 S cs) (g1 : rng a1) (hw : wX6_nameFrom a1 S K) : X G yX6_nameFrom cX6_nameFrom 2 (some .int) d [.ref (G.1 + v 3), .int (Int32.ofInt a1)] cs (vI G v sh B c0 K) := by
  refine X.of false (by decide +kernel) (by decide) (Nat.le_of_ble_eq_true rfl) ?_
  show Z (RX6, cX6_nameFrom, 2, some .int, false) G d _ 0 [(0, .ref (G.1 + v 3)), (1, .int (Int32.ofInt a1))] [] cs
  have hP : ∀ (x : Int) (S : St) (cs : List va_E), K x S → Wv G v sh B c0 S cs → vI G v sh B c0 K (some (.int (Int32.ofInt x))) cs := fun x S cs a b => ⟨x, S, rfl, a, b⟩
  unfold wX6_nameFrom at hw
  have hw := hw g1
  refine z_aload_n dX6_nameFrom_0 rfl rfl ?_
  refine z_iload_n dX6_nameFrom_1 rfl rfl ?_
  have hX := lX6_has 0 (Nat.le_refl _) hT hS hU hW g1 hw
  refine z_callV (As := [_]) eX6_has sX6_has lX6_75 rfl dX6_nameFrom_2 (hW.at (hU 3 _ rfl)) hX (Nat.le_trans (by decide) hd) rfl (Nat.le_of_ble_eq_true rfl) (fun r cs hp => ?_)
  obtain ⟨r2, S1, rfl, hw, hW⟩ := hp
  refine z_st (st' := [.int (Int32.ofInt (r2))]) rfl ?_
  obtain ⟨q4, hw⟩ := hw
  refine i_if_eq (tgt := 17) dX6_nameFrom_5 (by decide) q4 (fun h3 => ?_) (fun h3 => ?_)
  · have hw := hw.1 h3
    refine z_iconst (v := Int32.ofInt 0) dX6_nameFrom_17 rfl ?_
    exact z_ireturn dX6_nameFrom_18 rfl rfl (hP _ _ _ hw hW)
  · have hw := hw.2 h3
    refine z_aload_n dX6_nameFrom_8 rfl rfl ?_
    refine v_getR hW (hU 3 _ rfl) rfl kX6 fX6_25 dX6_nameFrom_9 ?_
    refine z_iload_n dX6_nameFrom_12 rfl rfl ?_
    obtain ⟨q5a, q5b, hw⟩ := hw
    have q6 : iv (-2147483648) 2147483647 (S1.2 7 (a1)) := hW.iA 7 _
    have hw := hw q6
    refine v_iald hW (hT 7 _ rfl) q5a q5b (by decide) dX6_nameFrom_13 ?_
    refine z_goto (tgt := 18) dX6_nameFrom_14 (by decide) ?_
    exact z_ireturn dX6_nameFrom_18 rfl rfl (hP _ _ _ hw hW)

def wX6_nameTo  (a1 : Int) (S : St) (K : Int → St → Prop) : Prop := rng a1 → (wX6_has (a1) S (fun r2 S1 => (rng (r2) ∧ ((r2 = 0 → K (0) S1) ∧ ((¬ (r2 = 0)) → ((0 : Int) ≤ a1 ∧ a1 < (200 : Int) ∧ (iv (-2147483648) 2147483647 (S1.2 8 (a1)) → K (S1.2 8 (a1)) S1)))))))
set_option maxRecDepth 100000 in
set_option maxHeartbeats 4000000 in
theorem lX6_nameTo {G : xG} {v : Nat → Nat} {sh : Nat → Option Sh} {B : Nat × Nat} {c0 : List va_E}  {a1 : Int} {S : St} {cs : List va_E} {K : Int → St → Prop} (d : Nat) (hd : 1 ≤ d) (hT : sb shC sh) (hS : ∀ b x, sh b = some x → ¬ isS b) (hU : sb shTr sh) (hW : Wv G v sh B c0 S cs) (g1 : rng a1) (hw : wX6_nameTo a1 S K) : X G yX6_nameTo cX6_nameTo 2 (some .int) d [.ref (G.1 + v 3), .int (Int32.ofInt a1)] cs (vI G v sh B c0 K) := by
  refine X.of false (by decide +kernel) (by decide) (Nat.le_of_ble_eq_true rfl) ?_
  show Z (RX6, cX6_nameTo, 2, some .int, false) G d _ 0 [(0, .ref (G.1 + v 3)), (1, .int (Int32.ofInt a1))] [] cs
  have hP : ∀ (x : Int) (S : St) (cs : List va_E), K x S → Wv G v sh B c0 S cs → vI G v sh B c0 K (some (.int (Int32.ofInt x))) cs := fun x S cs a b => ⟨x, S, rfl, a, b⟩
  unfold wX6_nameTo at hw
  have hw := hw g1
  refine z_aload_n dX6_nameTo_0 rfl rfl ?_
  refine z_iload_n dX6_nameTo_1 rfl rfl ?_
  have hX := lX6_has 0 (Nat.le_refl _) hT hS hU hW g1 hw
  refine z_callV (As := [_]) eX6_has sX6_has lX6_75 rfl dX6_nameTo_2 (hW.at (hU 3 _ rfl)) hX (Nat.le_trans (by decide) hd) rfl (Nat.le_of_ble_eq_true rfl) (fun r cs hp => ?_)
  obtain ⟨r2, S1, rfl, hw, hW⟩ := hp
  refine z_st (st' := [.int (Int32.ofInt (r2))]) rfl ?_
  obtain ⟨q4, hw⟩ := hw
  refine i_if_eq (tgt := 17) dX6_nameTo_5 (by decide) q4 (fun h3 => ?_) (fun h3 => ?_)
  · have hw := hw.1 h3
    refine z_iconst (v := Int32.ofInt 0) dX6_nameTo_17 rfl ?_
    exact z_ireturn dX6_nameTo_18 rfl rfl (hP _ _ _ hw hW)
  · have hw := hw.2 h3
    refine z_aload_n dX6_nameTo_8 rfl rfl ?_
    refine v_getR hW (hU 3 _ rfl) rfl kX6 fX6_28 dX6_nameTo_9 ?_
    refine z_iload_n dX6_nameTo_12 rfl rfl ?_
    obtain ⟨q5a, q5b, hw⟩ := hw
    have q6 : iv (-2147483648) 2147483647 (S1.2 8 (a1)) := hW.iA 8 _
    have hw := hw q6
    refine v_iald hW (hT 8 _ rfl) q5a q5b (by decide) dX6_nameTo_13 ?_
    refine z_goto (tgt := 18) dX6_nameTo_14 (by decide) ?_
    exact z_ireturn dX6_nameTo_18 rfl rfl (hP _ _ _ hw hW)

def wX4_spells_28'  (l1 l3 l5 : Int) (S : St) (K : Int → St → Prop) (B28 : Int → Int → Int → St → Prop) : Prop := ((0 : Int) ≤ l1 ∧ l1 < (30 : Int) ∧ (iv 0 16 (S.2 26 (l1)) → (rng (l5) ∧ ((S.2 26 (l1) ≤ l5 → K (1) S) ∧ ((¬ (S.2 26 (l1) ≤ l5)) → ((0 : Int) ≤ ((l1 * 16) + l5) ∧ ((l1 * 16) + l5) < (480 : Int) ∧ (iv 0 65535 (S.2 25 (((l1 * 16) + l5))) → (rng ((l3 + l5)) ∧ (wX5_at 1 ((l3 + l5)) S (fun r8 S7 => (rng (r8) ∧ ((S.2 25 (((l1 * 16) + l5)) = r8 → B28 (l1) (l3) ((l5 + 1)) S7) ∧ ((¬ (S.2 25 (((l1 * 16) + l5)) = r8)) → K (0) S7)))))))))))))
set_option maxRecDepth 100000 in
set_option maxHeartbeats 4000000 in
theorem ubX4_spells_28' {G : xG} {v : Nat → Nat} {sh : Nat → Option Sh} {B : Nat × Nat} {c0 : List va_E} {d : Nat} {Post : xP} {l1 l3 l5 : Int} {S : St} {cs : List va_E} {K : Int → St → Prop} {B28 : Int → Int → Int → St → Prop} (hd : 1 ≤ d) (hT : sb shC sh) (hS : ∀ b x, sh b = some x → ¬ isS b) (hW : Wv G v sh B c0 S cs) (hP : ∀ (x : Int) (S : St) (cs : List va_E), K x S → Wv G v sh B c0 S cs → Post (some (.int (Int32.ofInt x))) cs) (hB28 : ∀ (l1 : Int) (l3 : Int) (l5 : Int) (S : St) (cs : List va_E), B28 l1 l3 l5 S → Wv G v sh B c0 S cs → Z (RX4, cX4_spells, 6, some .boolean, false) G d Post 28 [(0, .ref (G.1 + v 24)), (1, .int (Int32.ofInt (l1))), (2, .ref (G.1 + v 1)), (3, .int (Int32.ofInt (l3))), (5, .int (Int32.ofInt (l5)))] [] cs) (hw : wX4_spells_28' l1 l3 l5 S K B28) : Z (RX4, cX4_spells, 6, some .boolean, false) G d Post 28 [(0, .ref (G.1 + v 24)), (1, .int (Int32.ofInt (l1))), (2, .ref (G.1 + v 1)), (3, .int (Int32.ofInt (l3))), (5, .int (Int32.ofInt (l5)))] [] cs := by
  unfold wX4_spells_28' at hw
  refine z_iload dX4_spells_28 rfl ?_
  refine z_aload_n dX4_spells_30 rfl rfl ?_
  refine v_getR hW (hT 24 _ rfl) rfl kX4 fX4_15 dX4_spells_31 ?_
  refine z_iload_n dX4_spells_34 rfl rfl ?_
  obtain ⟨q1a, q1b, hw⟩ := hw
  have q2 : iv 0 16 (S.2 26 (l1)) := hW.iA 26 _
  have hw := hw q2
  refine v_iald hW (hT 26 _ rfl) q1a q1b (by decide) dX4_spells_35 ?_
  obtain ⟨q4, hw⟩ := hw
  refine i_icmp_ge (tgt := 70) dX4_spells_36 (by decide) q4 (rngq q2 (by decide) (by decide)) (fun h3 => ?_) (fun h3 => ?_)
  · have hw := hw.1 h3
    refine z_iconst (v := Int32.ofInt 1) dX4_spells_70 rfl ?_
    exact z_ireturn dX4_spells_71 rfl (nar01 (by decide)) (hP _ _ _ hw hW)
  · have hw := hw.2 h3
    refine z_aload_n dX4_spells_39 rfl rfl ?_
    refine v_getR hW (hT 24 _ rfl) rfl kX4 fX4_11 dX4_spells_40 ?_
    refine z_iload_n dX4_spells_43 rfl rfl ?_
    refine z_bipush (v := Int32.ofInt 16) dX4_spells_44 (by decide) ?_
    refine i_imul dX4_spells_46 ?_
    refine z_iload dX4_spells_47 rfl ?_
    refine i_iadd dX4_spells_49 ?_
    obtain ⟨q5a, q5b, hw⟩ := hw
    have q6 : iv 0 65535 (S.2 25 (((l1 * 16) + l5))) := hW.iA 25 _
    have hw := hw q6
    refine v_cald hW (hT 25 _ rfl) q5a q5b (by decide) dX4_spells_50 ?_
    refine z_aload_n dX4_spells_51 rfl rfl ?_
    refine z_iload_n dX4_spells_52 rfl rfl ?_
    refine z_iload dX4_spells_53 rfl ?_
    refine i_iadd dX4_spells_55 ?_
    obtain ⟨q9, hw⟩ := hw
    have hX := lX5_at 0 (Nat.le_refl _) hW (show isS 1 by unfold isS; decide) (fun b x h e => hS b x h (e ▸ (show isS 1 by unfold isS; decide))) q9 hw
    refine z_callV (As := [_]) eX5_at sX5_at lX4_70 rfl dX4_spells_56 (hW.sg (show isS 1 by unfold isS; decide) (fun b x h e => hS b x h (e ▸ (show isS 1 by unfold isS; decide)))).choose_spec.choose_spec.choose_spec.choose_spec.1.choose_spec.1 hX (Nat.le_trans (by decide) hd) rfl (Nat.le_of_ble_eq_true rfl) (fun r cs hp => ?_)
    obtain ⟨r8, S7, rfl, hw, hW⟩ := hp
    refine z_st (st' := [.int (Int32.ofInt (r8)), .int (Int32.ofInt (S.2 25 (((l1 * 16) + l5))))]) rfl ?_
    obtain ⟨q11, hw⟩ := hw
    refine i_icmp_eq (tgt := 64) dX4_spells_59 (by decide) (rngq q6 (by decide) (by decide)) q11 (fun h10 => ?_) (fun h10 => ?_)
    · have hw := hw.1 h10
      refine i_iinc (l := l5) dX4_spells_64 rfl (by decide) ?_
      refine z_loc (L' := [(0, .ref (G.1 + v 24)), (1, .int (Int32.ofInt (l1))), (2, .ref (G.1 + v 1)), (3, .int (Int32.ofInt (l3))), (5, .int (Int32.ofInt ((l5 + 1))))]) (List.forall_mem_cons.mpr ⟨rfl, (List.forall_mem_cons.mpr ⟨rfl, (List.forall_mem_cons.mpr ⟨rfl, (List.forall_mem_cons.mpr ⟨rfl, (List.forall_mem_cons.mpr ⟨rfl, (fun _ h => nomatch h)⟩)⟩)⟩)⟩)⟩) ?_
      refine z_goto (tgt := 28) dX4_spells_67 (by decide) ?_
      refine z_loc (L' := [(0, .ref (G.1 + v 24)), (1, .int (Int32.ofInt (l1))), (2, .ref (G.1 + v 1)), (3, .int (Int32.ofInt (l3))), (5, .int (Int32.ofInt ((l5 + 1))))]) (List.forall_mem_cons.mpr ⟨rfl, (List.forall_mem_cons.mpr ⟨rfl, (List.forall_mem_cons.mpr ⟨rfl, (List.forall_mem_cons.mpr ⟨rfl, (List.forall_mem_cons.mpr ⟨rfl, (fun _ h => nomatch h)⟩)⟩)⟩)⟩)⟩) ?_
      exact hB28 _ _ _ _ _ hw hW
    · have hw := hw.2 h10
      refine z_iconst (v := Int32.ofInt 0) dX4_spells_62 rfl ?_
      exact z_ireturn dX4_spells_63 rfl (nar01 (by decide)) (hP _ _ _ hw hW)
def wX4_spells_28  (l1 l3 l5 : Int) (S : St) (K : Int → St → Prop) : Prop := ∃ (Iv : Int → Int → Int → St → Prop) (mu : Int → Int → Int → St → Nat), Iv l1 l3 l5 S ∧ ∀ (l1 l3 l5 : Int) (S : St), Iv l1 l3 l5 S → wX4_spells_28' l1 l3 l5 S K  (fun ml1 ml3 ml5 T => Iv ml1 ml3 ml5 T ∧ mu ml1 ml3 ml5 T < mu l1 l3 l5 S)
set_option maxRecDepth 100000 in
set_option maxHeartbeats 4000000 in
theorem ubX4_spells_28 {G : xG} {v : Nat → Nat} {sh : Nat → Option Sh} {B : Nat × Nat} {c0 : List va_E} {d : Nat} {Post : xP} {l1 l3 l5 : Int} {S : St} {cs : List va_E} {K : Int → St → Prop} (hd : 1 ≤ d) (hT : sb shC sh) (hS : ∀ b x, sh b = some x → ¬ isS b) (hW : Wv G v sh B c0 S cs) (hP : ∀ (x : Int) (S : St) (cs : List va_E), K x S → Wv G v sh B c0 S cs → Post (some (.int (Int32.ofInt x))) cs)  (hw : wX4_spells_28 l1 l3 l5 S K ) : Z (RX4, cX4_spells, 6, some .boolean, false) G d Post 28 [(0, .ref (G.1 + v 24)), (1, .int (Int32.ofInt (l1))), (2, .ref (G.1 + v 1)), (3, .int (Int32.ofInt (l3))), (5, .int (Int32.ofInt (l5)))] [] cs := by
  unfold wX4_spells_28 at hw
  obtain ⟨Iv, mu, h0, hs⟩ := hw
  have key : ∀ (n : Nat) (l1 l3 l5 : Int) (S : St) (cs : List va_E), mu l1 l3 l5 S < n → Iv l1 l3 l5 S → Wv G v sh B c0 S cs → Z (RX4, cX4_spells, 6, some .boolean, false) G d Post 28 [(0, .ref (G.1 + v 24)), (1, .int (Int32.ofInt (l1))), (2, .ref (G.1 + v 1)), (3, .int (Int32.ofInt (l3))), (5, .int (Int32.ofInt (l5)))] [] cs := by
    intro n
    induction n with
    | zero => intro l1 l3 l5 S cs hn; exact absurd hn (Nat.not_lt_zero _)
    | succ n ih =>
      intro l1 l3 l5 S cs hn hI hW
      exact ubX4_spells_28' hd hT hS hW hP  (fun l1 l3 l5 S cs hb hW => ih l1 l3 l5 S cs (Nat.lt_of_lt_of_le hb.2 (Nat.le_of_lt_succ hn)) hb.1 hW) (hs l1 l3 l5 S hI)
  exact key _ _ _ _ _ _ (Nat.lt_succ_self _) h0 hW
def wX4_spells  (a1 a2 a3 : Int) (S : St) (K : Int → St → Prop) : Prop := rng a1 → rng a2 → rng a3 → ((a1 < 0 → K (0) S) ∧ ((¬ (a1 < 0)) → ((30 ≤ a1 → K (0) S) ∧ ((¬ (30 ≤ a1)) → ((0 : Int) ≤ a1 ∧ a1 < (30 : Int) ∧ (iv 0 16 (S.2 26 (a1)) → (rng ((a3 - a2)) ∧ ((S.2 26 (a1) = (a3 - a2) → wX4_spells_28 (a1) (a2) (0) S K) ∧ ((¬ (S.2 26 (a1) = (a3 - a2))) → K (0) S)))))))))
set_option maxRecDepth 100000 in
set_option maxHeartbeats 4000000 in
theorem lX4_spells {G : xG} {v : Nat → Nat} {sh : Nat → Option Sh} {B : Nat × Nat} {c0 : List va_E}  {a1 a2 a3 : Int} {S : St} {cs : List va_E} {K : Int → St → Prop} (d : Nat) (hd : 1 ≤ d) (hT : sb shC sh) (hS : ∀ b x, sh b = some x → ¬ isS b) (hW : Wv G v sh B c0 S cs) (g1 : rng a1) (g2 : rng a2) (g3 : rng a3) (hw : wX4_spells a1 a2 a3 S K) : X G yX4_spells cX4_spells 6 (some .boolean) d [.ref (G.1 + v 24), .int (Int32.ofInt a1), .ref (G.1 + v 1), .int (Int32.ofInt a2), .int (Int32.ofInt a3)] cs (vI G v sh B c0 K) := by
  refine X.of false (by decide +kernel) (by decide) (Nat.le_of_ble_eq_true rfl) ?_
  show Z (RX4, cX4_spells, 6, some .boolean, false) G d _ 0 [(0, .ref (G.1 + v 24)), (1, .int (Int32.ofInt a1)), (2, .ref (G.1 + v 1)), (3, .int (Int32.ofInt a2)), (4, .int (Int32.ofInt a3))] [] cs
  have hP : ∀ (x : Int) (S : St) (cs : List va_E), K x S → Wv G v sh B c0 S cs → vI G v sh B c0 K (some (.int (Int32.ofInt x))) cs := fun x S cs a b => ⟨x, S, rfl, a, b⟩
  unfold wX4_spells at hw
  have hw := hw g1 g2 g3
  refine z_iload_n dX4_spells_0 rfl rfl ?_
  refine i_if_lt (tgt := 23) dX4_spells_1 (by decide) g1 (fun h1 => ?_) (fun h1 => ?_)
  · have hw := hw.1 h1
    refine z_iconst (v := Int32.ofInt 0) dX4_spells_23 rfl ?_
    exact z_ireturn dX4_spells_24 rfl (nar01 (by decide)) (hP _ _ _ hw hW)
  · have hw := hw.2 h1
    refine z_iload_n dX4_spells_4 rfl rfl ?_
    refine z_bipush (v := Int32.ofInt 30) dX4_spells_5 (by decide) ?_
    refine i_icmp_ge (tgt := 23) dX4_spells_7 (by decide) g1 ⟨by decide, by decide⟩ (fun h2 => ?_) (fun h2 => ?_)
    · have hw := hw.1 h2
      refine z_iconst (v := Int32.ofInt 0) dX4_spells_23 rfl ?_
      exact z_ireturn dX4_spells_24 rfl (nar01 (by decide)) (hP _ _ _ hw hW)
    · have hw := hw.2 h2
      refine z_aload_n dX4_spells_10 rfl rfl ?_
      refine v_getR hW (hT 24 _ rfl) rfl kX4 fX4_15 dX4_spells_11 ?_
      refine z_iload_n dX4_spells_14 rfl rfl ?_
      obtain ⟨q3a, q3b, hw⟩ := hw
      have q4 : iv 0 16 (S.2 26 (a1)) := hW.iA 26 _
      have hw := hw q4
      refine v_iald hW (hT 26 _ rfl) q3a q3b (by decide) dX4_spells_15 ?_
      refine z_iload dX4_spells_16 rfl ?_
      refine z_iload_n dX4_spells_18 rfl rfl ?_
      refine i_isub dX4_spells_19 ?_
      obtain ⟨q6, hw⟩ := hw
      refine i_icmp_eq (tgt := 25) dX4_spells_20 (by decide) (rngq q4 (by decide) (by decide)) q6 (fun h5 => ?_) (fun h5 => ?_)
      · have hw := hw.1 h5
        refine z_iconst (v := Int32.ofInt 0) dX4_spells_25 rfl ?_
        refine z_istore dX4_spells_26 (by decide) ?_
        refine z_loc (L' := [(0, .ref (G.1 + v 24)), (1, .int (Int32.ofInt (a1))), (2, .ref (G.1 + v 1)), (3, .int (Int32.ofInt (a2))), (4, .int (Int32.ofInt (a3))), (5, .int (Int32.ofInt (0)))]) (List.forall_mem_cons.mpr ⟨rfl, (List.forall_mem_cons.mpr ⟨rfl, (List.forall_mem_cons.mpr ⟨rfl, (List.forall_mem_cons.mpr ⟨rfl, (List.forall_mem_cons.mpr ⟨rfl, (List.forall_mem_cons.mpr ⟨rfl, (fun _ h => nomatch h)⟩)⟩)⟩)⟩)⟩)⟩) ?_
        refine z_loc (L' := [(0, .ref (G.1 + v 24)), (1, .int (Int32.ofInt (a1))), (2, .ref (G.1 + v 1)), (3, .int (Int32.ofInt (a2))), (5, .int (Int32.ofInt (0)))]) (List.forall_mem_cons.mpr ⟨rfl, (List.forall_mem_cons.mpr ⟨rfl, (List.forall_mem_cons.mpr ⟨rfl, (List.forall_mem_cons.mpr ⟨rfl, (List.forall_mem_cons.mpr ⟨rfl, (fun _ h => nomatch h)⟩)⟩)⟩)⟩)⟩) ?_
        exact ubX4_spells_28 hd hT hS hW hP  hw
      · have hw := hw.2 h5
        refine z_iconst (v := Int32.ofInt 0) dX4_spells_23 rfl ?_
        exact z_ireturn dX4_spells_24 rfl (nar01 (by decide)) (hP _ _ _ hw hW)

def wX1_hasField_b  (a1 a2 : Int) (S : St) (K : Int → St → Prop) : Prop := rng a1 → rng a2 → ((a1 < 0 → K (0) S) ∧ ((¬ (a1 < 0)) → (iv 0 30 (S.1 50 3) → ((S.1 50 3 ≤ a1 → K (0) S) ∧ ((¬ (S.1 50 3 ≤ a1)) → ((a2 < 0 → K (0) S) ∧ ((¬ (a2 < 0)) → ((4 ≤ a2 → K (0) S) ∧ ((¬ (4 ≤ a2)) → K (1) S)))))))))
set_option maxRecDepth 100000 in
set_option maxHeartbeats 4000000 in
theorem lX1_hasField_b {G : xG} {v : Nat → Nat} {sh : Nat → Option Sh} {B : Nat × Nat} {c0 : List va_E}  {a1 a2 : Int} {S : St} {cs : List va_E} {K : Int → St → Prop} (d : Nat) (hd : 0 ≤ d) (hT : sb shC sh) (hS : ∀ b x, sh b = some x → ¬ isS b) (hW : Wv G v sh B c0 S cs) (g1 : rng a1) (g2 : rng a2) (hw : wX1_hasField_b a1 a2 S K) : X G yX1_hasField cX1_hasField 3 (some .boolean) d [.ref (G.1 + v 50), .int (Int32.ofInt a1), .int (Int32.ofInt a2)] cs (vI G v sh B c0 K) := by
  refine X.of false (by decide +kernel) (by decide) (Nat.le_of_ble_eq_true rfl) ?_
  show Z (RX1, cX1_hasField, 3, some .boolean, false) G d _ 0 [(0, .ref (G.1 + v 50)), (1, .int (Int32.ofInt a1)), (2, .int (Int32.ofInt a2))] [] cs
  have hP : ∀ (x : Int) (S : St) (cs : List va_E), K x S → Wv G v sh B c0 S cs → vI G v sh B c0 K (some (.int (Int32.ofInt x))) cs := fun x S cs a b => ⟨x, S, rfl, a, b⟩
  unfold wX1_hasField_b at hw
  have hw := hw g1 g2
  refine z_iload_n dX1_hasField_0 rfl rfl ?_
  refine i_if_lt (tgt := 25) dX1_hasField_1 (by decide) g1 (fun h1 => ?_) (fun h1 => ?_)
  · have hw := hw.1 h1
    refine z_iconst (v := Int32.ofInt 0) dX1_hasField_25 rfl ?_
    exact z_ireturn dX1_hasField_26 rfl (nar01 (by decide)) (hP _ _ _ hw hW)
  · have hw := hw.2 h1
    refine z_iload_n dX1_hasField_4 rfl rfl ?_
    refine z_aload_n dX1_hasField_5 rfl rfl ?_
    have q2 : iv 0 30 (S.1 50 3) := hW.iI 50 3
    have hw := hw q2
    refine v_getI hW (hT 50 _ rfl) rfl kX1 fX1_21 dX1_hasField_6 ?_
    refine i_icmp_ge (tgt := 25) dX1_hasField_9 (by decide) g1 (rngq q2 (by decide) (by decide)) (fun h3 => ?_) (fun h3 => ?_)
    · have hw := hw.1 h3
      refine z_iconst (v := Int32.ofInt 0) dX1_hasField_25 rfl ?_
      exact z_ireturn dX1_hasField_26 rfl (nar01 (by decide)) (hP _ _ _ hw hW)
    · have hw := hw.2 h3
      refine z_iload_n dX1_hasField_12 rfl rfl ?_
      refine i_if_lt (tgt := 25) dX1_hasField_13 (by decide) g2 (fun h4 => ?_) (fun h4 => ?_)
      · have hw := hw.1 h4
        refine z_iconst (v := Int32.ofInt 0) dX1_hasField_25 rfl ?_
        exact z_ireturn dX1_hasField_26 rfl (nar01 (by decide)) (hP _ _ _ hw hW)
      · have hw := hw.2 h4
        refine z_iload_n dX1_hasField_16 rfl rfl ?_
        refine z_iconst (v := Int32.ofInt 4) dX1_hasField_17 rfl ?_
        refine i_icmp_ge (tgt := 25) dX1_hasField_18 (by decide) g2 ⟨by decide, by decide⟩ (fun h5 => ?_) (fun h5 => ?_)
        · have hw := hw.1 h5
          refine z_iconst (v := Int32.ofInt 0) dX1_hasField_25 rfl ?_
          exact z_ireturn dX1_hasField_26 rfl (nar01 (by decide)) (hP _ _ _ hw hW)
        · have hw := hw.2 h5
          refine z_iconst (v := Int32.ofInt 1) dX1_hasField_21 rfl ?_
          refine z_goto (tgt := 26) dX1_hasField_22 (by decide) ?_
          exact z_ireturn dX1_hasField_26 rfl (nar01 (by decide)) (hP _ _ _ hw hW)

def wX1_putHead_b  (a1 a2 a3 : Int) (S : St) (K : Int → St → Prop) : Prop := rng a1 → rng a2 → rng a3 → (wX1_hasField_b (a1) (a2) S (fun r2 S1 => (rng (r2) ∧ ((r2 = 0 → K 0 S1) ∧ ((¬ (r2 = 0)) → ((0 : Int) ≤ ((a1 * 4) + a2) ∧ ((a1 * 4) + a2) < (120 : Int) ∧ (iv (-2147483648) 2147483647 (a3) ∧ (∀ S6, S6 = pA S1 52 (((a1 * 4) + a2)) (a3) → K 0 S6))))))))
set_option maxRecDepth 100000 in
set_option maxHeartbeats 4000000 in
theorem lX1_putHead_b {G : xG} {v : Nat → Nat} {sh : Nat → Option Sh} {B : Nat × Nat} {c0 : List va_E}  {a1 a2 a3 : Int} {S : St} {cs : List va_E} {K : Int → St → Prop} (d : Nat) (hd : 1 ≤ d) (hT : sb shC sh) (hS : ∀ b x, sh b = some x → ¬ isS b) (hW : Wv G v sh B c0 S cs) (g1 : rng a1) (g2 : rng a2) (g3 : rng a3) (hw : wX1_putHead_b a1 a2 a3 S K) : X G yX1_putHead cX1_putHead 4 none d [.ref (G.1 + v 50), .int (Int32.ofInt a1), .int (Int32.ofInt a2), .int (Int32.ofInt a3)] cs (vV G v sh B c0 K) := by
  refine X.of false (by decide +kernel) (by decide) (Nat.le_of_ble_eq_true rfl) ?_
  show Z (RX1, cX1_putHead, 4, none, false) G d _ 0 [(0, .ref (G.1 + v 50)), (1, .int (Int32.ofInt a1)), (2, .int (Int32.ofInt a2)), (3, .int (Int32.ofInt a3))] [] cs
  have hP : ∀ (x : Int) (S : St) (cs : List va_E), K x S → Wv G v sh B c0 S cs → vV G v sh B c0 K (none) cs := fun x S cs a b => ⟨x, S, rfl, a, b⟩
  unfold wX1_putHead_b at hw
  have hw := hw g1 g2 g3
  refine z_aload_n dX1_putHead_0 rfl rfl ?_
  refine z_iload_n dX1_putHead_1 rfl rfl ?_
  refine z_iload_n dX1_putHead_2 rfl rfl ?_
  have hX := lX1_hasField_b 0 (Nat.le_refl _) hT hS hW g1 g2 hw
  refine z_callV (As := [_, _]) eX1_hasField sX1_hasField lX1_29 rfl dX1_putHead_3 (hW.at (hT 50 _ rfl)) hX (Nat.le_trans (by decide) hd) rfl (Nat.le_of_ble_eq_true rfl) (fun r cs hp => ?_)
  obtain ⟨r2, S1, rfl, hw, hW⟩ := hp
  refine z_st (st' := [.int (Int32.ofInt (r2))]) rfl ?_
  obtain ⟨q4, hw⟩ := hw
  refine i_if_eq (tgt := 20) dX1_putHead_6 (by decide) q4 (fun h3 => ?_) (fun h3 => ?_)
  · have hw := hw.1 h3
    exact z_return dX1_putHead_20 rfl (hP 0 _ _ hw hW)
  · have hw := hw.2 h3
    refine z_aload_n dX1_putHead_9 rfl rfl ?_
    refine v_getR hW (hT 50 _ rfl) rfl kX1 fX1_15 dX1_putHead_10 ?_
    refine z_iload_n dX1_putHead_13 rfl rfl ?_
    refine z_iconst (v := Int32.ofInt 4) dX1_putHead_14 rfl ?_
    refine i_imul dX1_putHead_15 ?_
    refine z_iload_n dX1_putHead_16 rfl rfl ?_
    refine i_iadd dX1_putHead_17 ?_
    refine z_iload_n dX1_putHead_18 rfl rfl ?_
    obtain ⟨q5a, q5b, hw⟩ := hw
    obtain ⟨q7, hw⟩ := hw
    refine v_iast hW (hT 52 _ rfl) (by decide) (by unfold isS; decide) q5a q5b (by decide) q7 dX1_putHead_19 (fun cs hW => ?_)
    obtain ⟨S6, hS6⟩ : ∃ x, x = pA S1 52 (((a1 * 4) + a2)) (a3) := ⟨_, rfl⟩
    rw [← hS6] at hW
    have hw := hw S6 hS6
    exact z_return dX1_putHead_20 rfl (hP 0 _ _ hw hW)

def wX6_isSpelt_b_16'  (l1 l2 l4 l6 : Int) (S : St) (K : Int → St → Prop) (B16 : Int → Int → Int → Int → St → Prop) : Prop := (rng (l6) ∧ (rng ((l2 - l1)) ∧ (((l2 - l1) ≤ l6 → K (1) S) ∧ ((¬ ((l2 - l1) ≤ l6)) → (rng ((l1 + l6)) ∧ (wX5_at 1 ((l1 + l6)) S (fun r5 S4 => (rng ((l4 + l6)) ∧ (wX5_at 4 ((l4 + l6)) S4 (fun r8 S7 => (rng (r5) ∧ (rng (r8) ∧ ((r5 = r8 → B16 (l1) (l2) (l4) ((l6 + 1)) S7) ∧ ((¬ (r5 = r8)) → K (0) S7))))))))))))))
set_option maxRecDepth 100000 in
set_option maxHeartbeats 4000000 in
theorem ubX6_isSpelt_b_16' {G : xG} {v : Nat → Nat} {sh : Nat → Option Sh} {B : Nat × Nat} {c0 : List va_E} {d : Nat} {Post : xP} {l1 l2 l4 l6 : Int} {S : St} {cs : List va_E} {K : Int → St → Prop} {B16 : Int → Int → Int → Int → St → Prop} (hd : 1 ≤ d) (hT : sb shC sh) (hS : ∀ b x, sh b = some x → ¬ isS b) (hU : sb shTr sh) (hW : Wv G v sh B c0 S cs) (hP : ∀ (x : Int) (S : St) (cs : List va_E), K x S → Wv G v sh B c0 S cs → Post (some (.int (Int32.ofInt x))) cs) (hB16 : ∀ (l1 : Int) (l2 : Int) (l4 : Int) (l6 : Int) (S : St) (cs : List va_E), B16 l1 l2 l4 l6 S → Wv G v sh B c0 S cs → Z (RX6, cX6_isSpelt, 7, some .boolean, false) G d Post 16 [(0, .ref (G.1 + v 3)), (1, .int (Int32.ofInt (l1))), (2, .int (Int32.ofInt (l2))), (3, .ref (G.1 + v 4)), (4, .int (Int32.ofInt (l4))), (6, .int (Int32.ofInt (l6)))] [] cs) (hw : wX6_isSpelt_b_16' l1 l2 l4 l6 S K B16) : Z (RX6, cX6_isSpelt, 7, some .boolean, false) G d Post 16 [(0, .ref (G.1 + v 3)), (1, .int (Int32.ofInt (l1))), (2, .int (Int32.ofInt (l2))), (3, .ref (G.1 + v 4)), (4, .int (Int32.ofInt (l4))), (6, .int (Int32.ofInt (l6)))] [] cs := by
  unfold wX6_isSpelt_b_16' at hw
  refine z_iload dX6_isSpelt_16 rfl ?_
  refine z_iload_n dX6_isSpelt_18 rfl rfl ?_
  refine z_iload_n dX6_isSpelt_19 rfl rfl ?_
  refine i_isub dX6_isSpelt_20 ?_
  obtain ⟨q2, hw⟩ := hw
  obtain ⟨q3, hw⟩ := hw
  refine i_icmp_ge (tgt := 55) dX6_isSpelt_21 (by decide) q2 q3 (fun h1 => ?_) (fun h1 => ?_)
  · have hw := hw.1 h1
    refine z_iconst (v := Int32.ofInt 1) dX6_isSpelt_55 rfl ?_
    exact z_ireturn dX6_isSpelt_56 rfl (nar01 (by decide)) (hP _ _ _ hw hW)
  · have hw := hw.2 h1
    refine z_aload_n dX6_isSpelt_24 rfl rfl ?_
    refine v_getR hW (hU 3 _ rfl) rfl kX6 fX6_18 dX6_isSpelt_25 ?_
    refine z_iload_n dX6_isSpelt_28 rfl rfl ?_
    refine z_iload dX6_isSpelt_29 rfl ?_
    refine i_iadd dX6_isSpelt_31 ?_
    obtain ⟨q6, hw⟩ := hw
    have hX := lX5_at 0 (Nat.le_refl _) hW (show isS 1 by unfold isS; decide) (fun b x h e => hS b x h (e ▸ (show isS 1 by unfold isS; decide))) q6 hw
    refine z_callV (As := [_]) eX5_at sX5_at lX6_107 rfl dX6_isSpelt_32 (hW.sg (show isS 1 by unfold isS; decide) (fun b x h e => hS b x h (e ▸ (show isS 1 by unfold isS; decide)))).choose_spec.choose_spec.choose_spec.choose_spec.1.choose_spec.1 hX (Nat.le_trans (by decide) hd) rfl (Nat.le_of_ble_eq_true rfl) (fun r cs hp => ?_)
    obtain ⟨r5, S4, rfl, hw, hW⟩ := hp
    refine z_st (st' := [.int (Int32.ofInt (r5))]) rfl ?_
    refine z_aload_n dX6_isSpelt_35 rfl rfl ?_
    refine z_iload dX6_isSpelt_36 rfl ?_
    refine z_iload dX6_isSpelt_38 rfl ?_
    refine i_iadd dX6_isSpelt_40 ?_
    obtain ⟨q9, hw⟩ := hw
    have hX := lX5_at 0 (Nat.le_refl _) hW (show isS 4 by unfold isS; decide) (fun b x h e => hS b x h (e ▸ (show isS 4 by unfold isS; decide))) q9 hw
    refine z_callV (As := [_]) eX5_at sX5_at lX6_107 rfl dX6_isSpelt_41 (hW.sg (show isS 4 by unfold isS; decide) (fun b x h e => hS b x h (e ▸ (show isS 4 by unfold isS; decide)))).choose_spec.choose_spec.choose_spec.choose_spec.1.choose_spec.1 hX (Nat.le_trans (by decide) hd) rfl (Nat.le_of_ble_eq_true rfl) (fun r cs hp => ?_)
    obtain ⟨r8, S7, rfl, hw, hW⟩ := hp
    refine z_st (st' := [.int (Int32.ofInt (r8)), .int (Int32.ofInt (r5))]) rfl ?_
    obtain ⟨q11, hw⟩ := hw
    obtain ⟨q12, hw⟩ := hw
    refine i_icmp_eq (tgt := 49) dX6_isSpelt_44 (by decide) q11 q12 (fun h10 => ?_) (fun h10 => ?_)
    · have hw := hw.1 h10
      refine i_iinc (l := l6) dX6_isSpelt_49 rfl (by decide) ?_
      refine z_loc (L' := [(0, .ref (G.1 + v 3)), (1, .int (Int32.ofInt (l1))), (2, .int (Int32.ofInt (l2))), (3, .ref (G.1 + v 4)), (4, .int (Int32.ofInt (l4))), (6, .int (Int32.ofInt ((l6 + 1))))]) (List.forall_mem_cons.mpr ⟨rfl, (List.forall_mem_cons.mpr ⟨rfl, (List.forall_mem_cons.mpr ⟨rfl, (List.forall_mem_cons.mpr ⟨rfl, (List.forall_mem_cons.mpr ⟨rfl, (List.forall_mem_cons.mpr ⟨rfl, (fun _ h => nomatch h)⟩)⟩)⟩)⟩)⟩)⟩) ?_
      refine z_goto (tgt := 16) dX6_isSpelt_52 (by decide) ?_
      refine z_loc (L' := [(0, .ref (G.1 + v 3)), (1, .int (Int32.ofInt (l1))), (2, .int (Int32.ofInt (l2))), (3, .ref (G.1 + v 4)), (4, .int (Int32.ofInt (l4))), (6, .int (Int32.ofInt ((l6 + 1))))]) (List.forall_mem_cons.mpr ⟨rfl, (List.forall_mem_cons.mpr ⟨rfl, (List.forall_mem_cons.mpr ⟨rfl, (List.forall_mem_cons.mpr ⟨rfl, (List.forall_mem_cons.mpr ⟨rfl, (List.forall_mem_cons.mpr ⟨rfl, (fun _ h => nomatch h)⟩)⟩)⟩)⟩)⟩)⟩) ?_
      exact hB16 _ _ _ _ _ _ hw hW
    · have hw := hw.2 h10
      refine z_iconst (v := Int32.ofInt 0) dX6_isSpelt_47 rfl ?_
      exact z_ireturn dX6_isSpelt_48 rfl (nar01 (by decide)) (hP _ _ _ hw hW)
def wX6_isSpelt_b_16  (l1 l2 l4 l6 : Int) (S : St) (K : Int → St → Prop) : Prop := ∃ (Iv : Int → Int → Int → Int → St → Prop) (mu : Int → Int → Int → Int → St → Nat), Iv l1 l2 l4 l6 S ∧ ∀ (l1 l2 l4 l6 : Int) (S : St), Iv l1 l2 l4 l6 S → wX6_isSpelt_b_16' l1 l2 l4 l6 S K  (fun ml1 ml2 ml4 ml6 T => Iv ml1 ml2 ml4 ml6 T ∧ mu ml1 ml2 ml4 ml6 T < mu l1 l2 l4 l6 S)
set_option maxRecDepth 100000 in
set_option maxHeartbeats 4000000 in
theorem ubX6_isSpelt_b_16 {G : xG} {v : Nat → Nat} {sh : Nat → Option Sh} {B : Nat × Nat} {c0 : List va_E} {d : Nat} {Post : xP} {l1 l2 l4 l6 : Int} {S : St} {cs : List va_E} {K : Int → St → Prop} (hd : 1 ≤ d) (hT : sb shC sh) (hS : ∀ b x, sh b = some x → ¬ isS b) (hU : sb shTr sh) (hW : Wv G v sh B c0 S cs) (hP : ∀ (x : Int) (S : St) (cs : List va_E), K x S → Wv G v sh B c0 S cs → Post (some (.int (Int32.ofInt x))) cs)  (hw : wX6_isSpelt_b_16 l1 l2 l4 l6 S K ) : Z (RX6, cX6_isSpelt, 7, some .boolean, false) G d Post 16 [(0, .ref (G.1 + v 3)), (1, .int (Int32.ofInt (l1))), (2, .int (Int32.ofInt (l2))), (3, .ref (G.1 + v 4)), (4, .int (Int32.ofInt (l4))), (6, .int (Int32.ofInt (l6)))] [] cs := by
  unfold wX6_isSpelt_b_16 at hw
  obtain ⟨Iv, mu, h0, hs⟩ := hw
  have key : ∀ (n : Nat) (l1 l2 l4 l6 : Int) (S : St) (cs : List va_E), mu l1 l2 l4 l6 S < n → Iv l1 l2 l4 l6 S → Wv G v sh B c0 S cs → Z (RX6, cX6_isSpelt, 7, some .boolean, false) G d Post 16 [(0, .ref (G.1 + v 3)), (1, .int (Int32.ofInt (l1))), (2, .int (Int32.ofInt (l2))), (3, .ref (G.1 + v 4)), (4, .int (Int32.ofInt (l4))), (6, .int (Int32.ofInt (l6)))] [] cs := by
    intro n
    induction n with
    | zero => intro l1 l2 l4 l6 S cs hn; exact absurd hn (Nat.not_lt_zero _)
    | succ n ih =>
      intro l1 l2 l4 l6 S cs hn hI hW
      exact ubX6_isSpelt_b_16' hd hT hS hU hW hP  (fun l1 l2 l4 l6 S cs hb hW => ih l1 l2 l4 l6 S cs (Nat.lt_of_lt_of_le hb.2 (Nat.le_of_lt_succ hn)) hb.1 hW) (hs l1 l2 l4 l6 S hI)
  exact key _ _ _ _ _ _ _ (Nat.lt_succ_self _) h0 hW
def wX6_isSpelt_b  (a1 a2 a3 a4 : Int) (S : St) (K : Int → St → Prop) : Prop := rng a1 → rng a2 → rng a3 → rng a4 → (rng ((a2 - a1)) ∧ (rng ((a4 - a3)) ∧ (((a2 - a1) = (a4 - a3) → wX6_isSpelt_b_16 (a1) (a2) (a3) (0) S K) ∧ ((¬ ((a2 - a1) = (a4 - a3))) → K (0) S))))
set_option maxRecDepth 100000 in
set_option maxHeartbeats 4000000 in
theorem lX6_isSpelt_b {G : xG} {v : Nat → Nat} {sh : Nat → Option Sh} {B : Nat × Nat} {c0 : List va_E}  {a1 a2 a3 a4 : Int} {S : St} {cs : List va_E} {K : Int → St → Prop} (d : Nat) (hd : 1 ≤ d) (hT : sb shC sh) (hS : ∀ b x, sh b = some x → ¬ isS b) (hU : sb shTr sh) (hW : Wv G v sh B c0 S cs) (g1 : rng a1) (g2 : rng a2) (g3 : rng a3) (g4 : rng a4) (hw : wX6_isSpelt_b a1 a2 a3 a4 S K) : X G yX6_isSpelt cX6_isSpelt 7 (some .boolean) d [.ref (G.1 + v 3), .int (Int32.ofInt a1), .int (Int32.ofInt a2), .ref (G.1 + v 4), .int (Int32.ofInt a3), .int (Int32.ofInt a4)] cs (vI G v sh B c0 K) := by
  refine X.of false (by decide +kernel) (by decide) (Nat.le_of_ble_eq_true rfl) ?_
  show Z (RX6, cX6_isSpelt, 7, some .boolean, false) G d _ 0 [(0, .ref (G.1 + v 3)), (1, .int (Int32.ofInt a1)), (2, .int (Int32.ofInt a2)), (3, .ref (G.1 + v 4)), (4, .int (Int32.ofInt a3)), (5, .int (Int32.ofInt a4))] [] cs
  have hP : ∀ (x : Int) (S : St) (cs : List va_E), K x S → Wv G v sh B c0 S cs → vI G v sh B c0 K (some (.int (Int32.ofInt x))) cs := fun x S cs a b => ⟨x, S, rfl, a, b⟩
  unfold wX6_isSpelt_b at hw
  have hw := hw g1 g2 g3 g4
  refine z_iload_n dX6_isSpelt_0 rfl rfl ?_
  refine z_iload_n dX6_isSpelt_1 rfl rfl ?_
  refine i_isub dX6_isSpelt_2 ?_
  refine z_iload dX6_isSpelt_3 rfl ?_
  refine z_iload dX6_isSpelt_5 rfl ?_
  refine i_isub dX6_isSpelt_7 ?_
  obtain ⟨q2, hw⟩ := hw
  obtain ⟨q3, hw⟩ := hw
  refine i_icmp_eq (tgt := 13) dX6_isSpelt_8 (by decide) q2 q3 (fun h1 => ?_) (fun h1 => ?_)
  · have hw := hw.1 h1
    refine z_iconst (v := Int32.ofInt 0) dX6_isSpelt_13 rfl ?_
    refine z_istore dX6_isSpelt_14 (by decide) ?_
    refine z_loc (L' := [(0, .ref (G.1 + v 3)), (1, .int (Int32.ofInt (a1))), (2, .int (Int32.ofInt (a2))), (3, .ref (G.1 + v 4)), (4, .int (Int32.ofInt (a3))), (5, .int (Int32.ofInt (a4))), (6, .int (Int32.ofInt (0)))]) (List.forall_mem_cons.mpr ⟨rfl, (List.forall_mem_cons.mpr ⟨rfl, (List.forall_mem_cons.mpr ⟨rfl, (List.forall_mem_cons.mpr ⟨rfl, (List.forall_mem_cons.mpr ⟨rfl, (List.forall_mem_cons.mpr ⟨rfl, (List.forall_mem_cons.mpr ⟨rfl, (fun _ h => nomatch h)⟩)⟩)⟩)⟩)⟩)⟩)⟩) ?_
    refine z_loc (L' := [(0, .ref (G.1 + v 3)), (1, .int (Int32.ofInt (a1))), (2, .int (Int32.ofInt (a2))), (3, .ref (G.1 + v 4)), (4, .int (Int32.ofInt (a3))), (6, .int (Int32.ofInt (0)))]) (List.forall_mem_cons.mpr ⟨rfl, (List.forall_mem_cons.mpr ⟨rfl, (List.forall_mem_cons.mpr ⟨rfl, (List.forall_mem_cons.mpr ⟨rfl, (List.forall_mem_cons.mpr ⟨rfl, (List.forall_mem_cons.mpr ⟨rfl, (fun _ h => nomatch h)⟩)⟩)⟩)⟩)⟩)⟩) ?_
    exact ubX6_isSpelt_b_16 hd hT hS hU hW hP  hw
  · have hw := hw.2 h1
    refine z_iconst (v := Int32.ofInt 0) dX6_isSpelt_11 rfl ?_
    exact z_ireturn dX6_isSpelt_12 rfl (nar01 (by decide)) (hP _ _ _ hw hW)

def wX6_child_68  (l1 l2 l3 l4 l5 l6 : Int) (S : St) (K : Int → St → Prop) (B8 : Int → Int → Int → Int → Int → Int → St → Prop) : Prop := B8 (l1) (l2) (l3) (l4) (l5) ((l6 + 1)) S
set_option maxRecDepth 100000 in
set_option maxHeartbeats 4000000 in
theorem ubX6_child_68 {G : xG} {v : Nat → Nat} {sh : Nat → Option Sh} {B : Nat × Nat} {c0 : List va_E} {d : Nat} {Post : xP} {l1 l2 l3 l4 l5 l6 : Int} {S : St} {cs : List va_E} {K : Int → St → Prop} {B8 : Int → Int → Int → Int → Int → Int → St → Prop} (hd : 2 ≤ d) (hT : sb shC sh) (hS : ∀ b x, sh b = some x → ¬ isS b) (hU : sb shTr sh) (hW : Wv G v sh B c0 S cs) (hP : ∀ (x : Int) (S : St) (cs : List va_E), K x S → Wv G v sh B c0 S cs → Post (some (.int (Int32.ofInt x))) cs) (hB8 : ∀ (l1 : Int) (l2 : Int) (l3 : Int) (l4 : Int) (l5 : Int) (l6 : Int) (S : St) (cs : List va_E), B8 l1 l2 l3 l4 l5 l6 S → Wv G v sh B c0 S cs → Z (RX6, cX6_child, 7, some .int, false) G d Post 8 [(0, .ref (G.1 + v 3)), (1, .int (Int32.ofInt (l1))), (2, .int (Int32.ofInt (l2))), (3, .int (Int32.ofInt (l3))), (4, .int (Int32.ofInt (l4))), (5, .int (Int32.ofInt (l5))), (6, .int (Int32.ofInt (l6)))] [] cs) (hw : wX6_child_68 l1 l2 l3 l4 l5 l6 S K B8) : Z (RX6, cX6_child, 7, some .int, false) G d Post 68 [(0, .ref (G.1 + v 3)), (1, .int (Int32.ofInt (l1))), (2, .int (Int32.ofInt (l2))), (3, .int (Int32.ofInt (l3))), (4, .int (Int32.ofInt (l4))), (5, .int (Int32.ofInt (l5))), (6, .int (Int32.ofInt (l6)))] [] cs := by
  unfold wX6_child_68 at hw
  refine i_iinc (l := l6) dX6_child_68 rfl (by decide) ?_
  refine z_loc (L' := [(0, .ref (G.1 + v 3)), (1, .int (Int32.ofInt (l1))), (2, .int (Int32.ofInt (l2))), (3, .int (Int32.ofInt (l3))), (4, .int (Int32.ofInt (l4))), (5, .int (Int32.ofInt (l5))), (6, .int (Int32.ofInt ((l6 + 1))))]) (List.forall_mem_cons.mpr ⟨rfl, (List.forall_mem_cons.mpr ⟨rfl, (List.forall_mem_cons.mpr ⟨rfl, (List.forall_mem_cons.mpr ⟨rfl, (List.forall_mem_cons.mpr ⟨rfl, (List.forall_mem_cons.mpr ⟨rfl, (List.forall_mem_cons.mpr ⟨rfl, (fun _ h => nomatch h)⟩)⟩)⟩)⟩)⟩)⟩)⟩) ?_
  refine z_goto (tgt := 8) dX6_child_71 (by decide) ?_
  refine z_loc (L' := [(0, .ref (G.1 + v 3)), (1, .int (Int32.ofInt (l1))), (2, .int (Int32.ofInt (l2))), (3, .int (Int32.ofInt (l3))), (4, .int (Int32.ofInt (l4))), (5, .int (Int32.ofInt (l5))), (6, .int (Int32.ofInt ((l6 + 1))))]) (List.forall_mem_cons.mpr ⟨rfl, (List.forall_mem_cons.mpr ⟨rfl, (List.forall_mem_cons.mpr ⟨rfl, (List.forall_mem_cons.mpr ⟨rfl, (List.forall_mem_cons.mpr ⟨rfl, (List.forall_mem_cons.mpr ⟨rfl, (List.forall_mem_cons.mpr ⟨rfl, (fun _ h => nomatch h)⟩)⟩)⟩)⟩)⟩)⟩)⟩) ?_
  exact hB8 _ _ _ _ _ _ _ _ hw hW
def wX6_child_8'  (l1 l2 l3 l4 l5 l6 : Int) (S : St) (K : Int → St → Prop) (B8 : Int → Int → Int → Int → Int → Int → St → Prop) : Prop := (iv 0 200 (S.1 3 16) → (rng (l6) ∧ ((S.1 3 16 ≤ l6 → K ((-1)) S) ∧ ((¬ (S.1 3 16 ≤ l6)) → ((0 : Int) ≤ l6 ∧ l6 < (200 : Int) ∧ (iv (-1) 199 (S.2 9 (l6)) → (rng (l1) ∧ ((¬ S.2 9 (l6) = l1 → wX6_child_68 (l1) (l2) (l3) (l4) (l5) (l6) S K B8) ∧ ((¬ (¬ S.2 9 (l6) = l1)) → ((0 : Int) ≤ l6 ∧ l6 < (200 : Int) ∧ (iv (-2147483648) 2147483647 (S.2 7 (l6)) → ((0 : Int) ≤ l6 ∧ l6 < (200 : Int) ∧ (iv (-2147483648) 2147483647 (S.2 8 (l6)) → (rng (l2) ∧ (rng (l3) ∧ (wX6_isSpelt_b (S.2 7 (l6)) (S.2 8 (l6)) (l2) (l3) S (fun r13 S12 => (rng (r13) ∧ ((r13 = 0 → wX6_child_68 (l1) (l2) (l3) (l4) (l5) (l6) S12 K B8) ∧ ((¬ (r13 = 0)) → (rng ((l5 + 1)) ∧ (rng (l4) ∧ ((¬ (l5 + 1) = l4 → wX6_child_68 (l1) (l2) (l3) (l4) ((l5 + 1)) (l6) S12 K B8) ∧ ((¬ (¬ (l5 + 1) = l4)) → K (l6) S12))))))))))))))))))))))))
set_option maxRecDepth 100000 in
set_option maxHeartbeats 4000000 in
theorem ubX6_child_8' {G : xG} {v : Nat → Nat} {sh : Nat → Option Sh} {B : Nat × Nat} {c0 : List va_E} {d : Nat} {Post : xP} {l1 l2 l3 l4 l5 l6 : Int} {S : St} {cs : List va_E} {K : Int → St → Prop} {B8 : Int → Int → Int → Int → Int → Int → St → Prop} (hd : 2 ≤ d) (hT : sb shC sh) (hS : ∀ b x, sh b = some x → ¬ isS b) (hU : sb shTr sh) (hW : Wv G v sh B c0 S cs) (hP : ∀ (x : Int) (S : St) (cs : List va_E), K x S → Wv G v sh B c0 S cs → Post (some (.int (Int32.ofInt x))) cs) (hB8 : ∀ (l1 : Int) (l2 : Int) (l3 : Int) (l4 : Int) (l5 : Int) (l6 : Int) (S : St) (cs : List va_E), B8 l1 l2 l3 l4 l5 l6 S → Wv G v sh B c0 S cs → Z (RX6, cX6_child, 7, some .int, false) G d Post 8 [(0, .ref (G.1 + v 3)), (1, .int (Int32.ofInt (l1))), (2, .int (Int32.ofInt (l2))), (3, .int (Int32.ofInt (l3))), (4, .int (Int32.ofInt (l4))), (5, .int (Int32.ofInt (l5))), (6, .int (Int32.ofInt (l6)))] [] cs) (hw : wX6_child_8' l1 l2 l3 l4 l5 l6 S K B8) : Z (RX6, cX6_child, 7, some .int, false) G d Post 8 [(0, .ref (G.1 + v 3)), (1, .int (Int32.ofInt (l1))), (2, .int (Int32.ofInt (l2))), (3, .int (Int32.ofInt (l3))), (4, .int (Int32.ofInt (l4))), (5, .int (Int32.ofInt (l5))), (6, .int (Int32.ofInt (l6)))] [] cs := by
  unfold wX6_child_8' at hw
  refine z_iload dX6_child_8 rfl ?_
  refine z_aload_n dX6_child_10 rfl rfl ?_
  have q1 : iv 0 200 (S.1 3 16) := hW.iI 3 16
  have hw := hw q1
  refine v_getI hW (hU 3 _ rfl) rfl kX6 fX6_65 dX6_child_11 ?_
  obtain ⟨q3, hw⟩ := hw
  refine i_icmp_ge (tgt := 74) dX6_child_14 (by decide) q3 (rngq q1 (by decide) (by decide)) (fun h2 => ?_) (fun h2 => ?_)
  · have hw := hw.1 h2
    refine z_iconst (v := Int32.ofInt (-1)) dX6_child_74 rfl ?_
    exact z_ireturn dX6_child_75 rfl rfl (hP _ _ _ hw hW)
  · have hw := hw.2 h2
    refine z_aload_n dX6_child_17 rfl rfl ?_
    refine v_getR hW (hU 3 _ rfl) rfl kX6 fX6_31 dX6_child_18 ?_
    refine z_iload dX6_child_21 rfl ?_
    obtain ⟨q4a, q4b, hw⟩ := hw
    have q5 : iv (-1) 199 (S.2 9 (l6)) := hW.iA 9 _
    have hw := hw q5
    refine v_iald hW (hT 9 _ rfl) q4a q4b (by decide) dX6_child_23 ?_
    refine z_iload_n dX6_child_24 rfl rfl ?_
    obtain ⟨q7, hw⟩ := hw
    refine i_icmp_ne (tgt := 68) dX6_child_25 (by decide) (rngq q5 (by decide) (by decide)) q7 (fun h6 => ?_) (fun h6 => ?_)
    · have hw := hw.1 h6
      refine z_loc (L' := [(0, .ref (G.1 + v 3)), (1, .int (Int32.ofInt (l1))), (2, .int (Int32.ofInt (l2))), (3, .int (Int32.ofInt (l3))), (4, .int (Int32.ofInt (l4))), (5, .int (Int32.ofInt (l5))), (6, .int (Int32.ofInt (l6)))]) (List.forall_mem_cons.mpr ⟨rfl, (List.forall_mem_cons.mpr ⟨rfl, (List.forall_mem_cons.mpr ⟨rfl, (List.forall_mem_cons.mpr ⟨rfl, (List.forall_mem_cons.mpr ⟨rfl, (List.forall_mem_cons.mpr ⟨rfl, (List.forall_mem_cons.mpr ⟨rfl, (fun _ h => nomatch h)⟩)⟩)⟩)⟩)⟩)⟩)⟩) ?_
      exact ubX6_child_68 hd hT hS hU hW hP hB8 hw
    · have hw := hw.2 h6
      refine z_aload_n dX6_child_28 rfl rfl ?_
      refine z_aload_n dX6_child_29 rfl rfl ?_
      refine v_getR hW (hU 3 _ rfl) rfl kX6 fX6_25 dX6_child_30 ?_
      refine z_iload dX6_child_33 rfl ?_
      obtain ⟨q8a, q8b, hw⟩ := hw
      have q9 : iv (-2147483648) 2147483647 (S.2 7 (l6)) := hW.iA 7 _
      have hw := hw q9
      refine v_iald hW (hT 7 _ rfl) q8a q8b (by decide) dX6_child_35 ?_
      refine z_aload_n dX6_child_36 rfl rfl ?_
      refine v_getR hW (hU 3 _ rfl) rfl kX6 fX6_28 dX6_child_37 ?_
      refine z_iload dX6_child_40 rfl ?_
      obtain ⟨q10a, q10b, hw⟩ := hw
      have q11 : iv (-2147483648) 2147483647 (S.2 8 (l6)) := hW.iA 8 _
      have hw := hw q11
      refine v_iald hW (hT 8 _ rfl) q10a q10b (by decide) dX6_child_42 ?_
      refine z_aload_n dX6_child_43 rfl rfl ?_
      refine v_getR hW (hU 3 _ rfl) rfl kX6 fX6_12 dX6_child_44 ?_
      refine z_iload_n dX6_child_47 rfl rfl ?_
      refine z_iload_n dX6_child_48 rfl rfl ?_
      obtain ⟨q14, hw⟩ := hw
      obtain ⟨q15, hw⟩ := hw
      have hX := lX6_isSpelt_b 1 (Nat.le_refl _) hT hS hU hW (rngq q9 (by decide) (by decide)) (rngq q11 (by decide) (by decide)) q14 q15 hw
      refine z_callV (As := [_, _, _, _, _]) eX6_isSpelt sX6_isSpelt lX6_92 rfl dX6_child_49 (hW.at (hU 3 _ rfl)) hX (Nat.le_trans (by decide) hd) rfl (Nat.le_of_ble_eq_true rfl) (fun r cs hp => ?_)
      obtain ⟨r13, S12, rfl, hw, hW⟩ := hp
      refine z_st (st' := [.int (Int32.ofInt (r13))]) rfl ?_
      obtain ⟨q17, hw⟩ := hw
      refine i_if_eq (tgt := 68) dX6_child_52 (by decide) q17 (fun h16 => ?_) (fun h16 => ?_)
      · have hw := hw.1 h16
        refine z_loc (L' := [(0, .ref (G.1 + v 3)), (1, .int (Int32.ofInt (l1))), (2, .int (Int32.ofInt (l2))), (3, .int (Int32.ofInt (l3))), (4, .int (Int32.ofInt (l4))), (5, .int (Int32.ofInt (l5))), (6, .int (Int32.ofInt (l6)))]) (List.forall_mem_cons.mpr ⟨rfl, (List.forall_mem_cons.mpr ⟨rfl, (List.forall_mem_cons.mpr ⟨rfl, (List.forall_mem_cons.mpr ⟨rfl, (List.forall_mem_cons.mpr ⟨rfl, (List.forall_mem_cons.mpr ⟨rfl, (List.forall_mem_cons.mpr ⟨rfl, (fun _ h => nomatch h)⟩)⟩)⟩)⟩)⟩)⟩)⟩) ?_
        exact ubX6_child_68 hd hT hS hU hW hP hB8 hw
      · have hw := hw.2 h16
        refine i_iinc (l := l5) dX6_child_55 rfl (by decide) ?_
        refine z_loc (L' := [(0, .ref (G.1 + v 3)), (1, .int (Int32.ofInt (l1))), (2, .int (Int32.ofInt (l2))), (3, .int (Int32.ofInt (l3))), (4, .int (Int32.ofInt (l4))), (5, .int (Int32.ofInt ((l5 + 1)))), (6, .int (Int32.ofInt (l6)))]) (List.forall_mem_cons.mpr ⟨rfl, (List.forall_mem_cons.mpr ⟨rfl, (List.forall_mem_cons.mpr ⟨rfl, (List.forall_mem_cons.mpr ⟨rfl, (List.forall_mem_cons.mpr ⟨rfl, (List.forall_mem_cons.mpr ⟨rfl, (List.forall_mem_cons.mpr ⟨rfl, (fun _ h => nomatch h)⟩)⟩)⟩)⟩)⟩)⟩)⟩) ?_
        refine z_iload dX6_child_58 rfl ?_
        refine z_iload dX6_child_60 rfl ?_
        obtain ⟨q19, hw⟩ := hw
        obtain ⟨q20, hw⟩ := hw
        refine i_icmp_ne (tgt := 68) dX6_child_62 (by decide) q19 q20 (fun h18 => ?_) (fun h18 => ?_)
        · have hw := hw.1 h18
          refine z_loc (L' := [(0, .ref (G.1 + v 3)), (1, .int (Int32.ofInt (l1))), (2, .int (Int32.ofInt (l2))), (3, .int (Int32.ofInt (l3))), (4, .int (Int32.ofInt (l4))), (5, .int (Int32.ofInt ((l5 + 1)))), (6, .int (Int32.ofInt (l6)))]) (List.forall_mem_cons.mpr ⟨rfl, (List.forall_mem_cons.mpr ⟨rfl, (List.forall_mem_cons.mpr ⟨rfl, (List.forall_mem_cons.mpr ⟨rfl, (List.forall_mem_cons.mpr ⟨rfl, (List.forall_mem_cons.mpr ⟨rfl, (List.forall_mem_cons.mpr ⟨rfl, (fun _ h => nomatch h)⟩)⟩)⟩)⟩)⟩)⟩)⟩) ?_
          exact ubX6_child_68 hd hT hS hU hW hP hB8 hw
        · have hw := hw.2 h18
          refine z_iload dX6_child_65 rfl ?_
          exact z_ireturn dX6_child_67 rfl rfl (hP _ _ _ hw hW)
def wX6_child_8  (l1 l2 l3 l4 l5 l6 : Int) (S : St) (K : Int → St → Prop) : Prop := ∃ (Iv : Int → Int → Int → Int → Int → Int → St → Prop) (mu : Int → Int → Int → Int → Int → Int → St → Nat), Iv l1 l2 l3 l4 l5 l6 S ∧ ∀ (l1 l2 l3 l4 l5 l6 : Int) (S : St), Iv l1 l2 l3 l4 l5 l6 S → wX6_child_8' l1 l2 l3 l4 l5 l6 S K  (fun ml1 ml2 ml3 ml4 ml5 ml6 T => Iv ml1 ml2 ml3 ml4 ml5 ml6 T ∧ mu ml1 ml2 ml3 ml4 ml5 ml6 T < mu l1 l2 l3 l4 l5 l6 S)
set_option maxRecDepth 100000 in
set_option maxHeartbeats 4000000 in
theorem ubX6_child_8 {G : xG} {v : Nat → Nat} {sh : Nat → Option Sh} {B : Nat × Nat} {c0 : List va_E} {d : Nat} {Post : xP} {l1 l2 l3 l4 l5 l6 : Int} {S : St} {cs : List va_E} {K : Int → St → Prop} (hd : 2 ≤ d) (hT : sb shC sh) (hS : ∀ b x, sh b = some x → ¬ isS b) (hU : sb shTr sh) (hW : Wv G v sh B c0 S cs) (hP : ∀ (x : Int) (S : St) (cs : List va_E), K x S → Wv G v sh B c0 S cs → Post (some (.int (Int32.ofInt x))) cs)  (hw : wX6_child_8 l1 l2 l3 l4 l5 l6 S K ) : Z (RX6, cX6_child, 7, some .int, false) G d Post 8 [(0, .ref (G.1 + v 3)), (1, .int (Int32.ofInt (l1))), (2, .int (Int32.ofInt (l2))), (3, .int (Int32.ofInt (l3))), (4, .int (Int32.ofInt (l4))), (5, .int (Int32.ofInt (l5))), (6, .int (Int32.ofInt (l6)))] [] cs := by
  unfold wX6_child_8 at hw
  obtain ⟨Iv, mu, h0, hs⟩ := hw
  have key : ∀ (n : Nat) (l1 l2 l3 l4 l5 l6 : Int) (S : St) (cs : List va_E), mu l1 l2 l3 l4 l5 l6 S < n → Iv l1 l2 l3 l4 l5 l6 S → Wv G v sh B c0 S cs → Z (RX6, cX6_child, 7, some .int, false) G d Post 8 [(0, .ref (G.1 + v 3)), (1, .int (Int32.ofInt (l1))), (2, .int (Int32.ofInt (l2))), (3, .int (Int32.ofInt (l3))), (4, .int (Int32.ofInt (l4))), (5, .int (Int32.ofInt (l5))), (6, .int (Int32.ofInt (l6)))] [] cs := by
    intro n
    induction n with
    | zero => intro l1 l2 l3 l4 l5 l6 S cs hn; exact absurd hn (Nat.not_lt_zero _)
    | succ n ih =>
      intro l1 l2 l3 l4 l5 l6 S cs hn hI hW
      exact ubX6_child_8' hd hT hS hU hW hP  (fun l1 l2 l3 l4 l5 l6 S cs hb hW => ih l1 l2 l3 l4 l5 l6 S cs (Nat.lt_of_lt_of_le hb.2 (Nat.le_of_lt_succ hn)) hb.1 hW) (hs l1 l2 l3 l4 l5 l6 S hI)
  exact key _ _ _ _ _ _ _ _ _ (Nat.lt_succ_self _) h0 hW
def wX6_child  (a1 a2 a3 a4 : Int) (S : St) (K : Int → St → Prop) : Prop := rng a1 → rng a2 → rng a3 → rng a4 → (∀ x1 : Int, x1 = (a1 + 1) → wX6_child_8 (a1) (a2) (a3) (a4) (0) (x1) S K)
set_option maxRecDepth 100000 in
set_option maxHeartbeats 4000000 in
theorem lX6_child {G : xG} {v : Nat → Nat} {sh : Nat → Option Sh} {B : Nat × Nat} {c0 : List va_E}  {a1 a2 a3 a4 : Int} {S : St} {cs : List va_E} {K : Int → St → Prop} (d : Nat) (hd : 2 ≤ d) (hT : sb shC sh) (hS : ∀ b x, sh b = some x → ¬ isS b) (hU : sb shTr sh) (hW : Wv G v sh B c0 S cs) (g1 : rng a1) (g2 : rng a2) (g3 : rng a3) (g4 : rng a4) (hw : wX6_child a1 a2 a3 a4 S K) : X G yX6_child cX6_child 7 (some .int) d [.ref (G.1 + v 3), .int (Int32.ofInt a1), .int (Int32.ofInt a2), .int (Int32.ofInt a3), .int (Int32.ofInt a4)] cs (vI G v sh B c0 K) := by
  refine X.of false (by decide +kernel) (by decide) (Nat.le_of_ble_eq_true rfl) ?_
  show Z (RX6, cX6_child, 7, some .int, false) G d _ 0 [(0, .ref (G.1 + v 3)), (1, .int (Int32.ofInt a1)), (2, .int (Int32.ofInt a2)), (3, .int (Int32.ofInt a3)), (4, .int (Int32.ofInt a4))] [] cs
  have hP : ∀ (x : Int) (S : St) (cs : List va_E), K x S → Wv G v sh B c0 S cs → vI G v sh B c0 K (some (.int (Int32.ofInt x))) cs := fun x S cs a b => ⟨x, S, rfl, a, b⟩
  unfold wX6_child at hw
  have hw := hw g1 g2 g3 g4
  refine z_iconst (v := Int32.ofInt 0) dX6_child_0 rfl ?_
  refine z_istore dX6_child_1 (by decide) ?_
  refine z_loc (L' := [(0, .ref (G.1 + v 3)), (1, .int (Int32.ofInt (a1))), (2, .int (Int32.ofInt (a2))), (3, .int (Int32.ofInt (a3))), (4, .int (Int32.ofInt (a4))), (5, .int (Int32.ofInt (0)))]) (List.forall_mem_cons.mpr ⟨rfl, (List.forall_mem_cons.mpr ⟨rfl, (List.forall_mem_cons.mpr ⟨rfl, (List.forall_mem_cons.mpr ⟨rfl, (List.forall_mem_cons.mpr ⟨rfl, (List.forall_mem_cons.mpr ⟨rfl, (fun _ h => nomatch h)⟩)⟩)⟩)⟩)⟩)⟩) ?_
  refine z_iload_n dX6_child_3 rfl rfl ?_
  refine z_iconst (v := Int32.ofInt 1) dX6_child_4 rfl ?_
  refine i_iadd dX6_child_5 ?_
  obtain ⟨x1, hx1⟩ : ∃ x : Int, x = (a1 + 1) := ⟨_, rfl⟩
  have hw := hw x1 hx1
  refine z_st (st' := [.int (Int32.ofInt x1)]) (by rw [hx1]) ?_
  refine z_istore dX6_child_6 (by decide) ?_
  refine z_loc (L' := [(0, .ref (G.1 + v 3)), (1, .int (Int32.ofInt (a1))), (2, .int (Int32.ofInt (a2))), (3, .int (Int32.ofInt (a3))), (4, .int (Int32.ofInt (a4))), (5, .int (Int32.ofInt (0))), (6, .int (Int32.ofInt (x1)))]) (List.forall_mem_cons.mpr ⟨rfl, (List.forall_mem_cons.mpr ⟨rfl, (List.forall_mem_cons.mpr ⟨rfl, (List.forall_mem_cons.mpr ⟨rfl, (List.forall_mem_cons.mpr ⟨rfl, (List.forall_mem_cons.mpr ⟨rfl, (List.forall_mem_cons.mpr ⟨rfl, (fun _ h => nomatch h)⟩)⟩)⟩)⟩)⟩)⟩)⟩) ?_
  refine z_loc (L' := [(0, .ref (G.1 + v 3)), (1, .int (Int32.ofInt (a1))), (2, .int (Int32.ofInt (a2))), (3, .int (Int32.ofInt (a3))), (4, .int (Int32.ofInt (a4))), (5, .int (Int32.ofInt (0))), (6, .int (Int32.ofInt (x1)))]) (List.forall_mem_cons.mpr ⟨rfl, (List.forall_mem_cons.mpr ⟨rfl, (List.forall_mem_cons.mpr ⟨rfl, (List.forall_mem_cons.mpr ⟨rfl, (List.forall_mem_cons.mpr ⟨rfl, (List.forall_mem_cons.mpr ⟨rfl, (List.forall_mem_cons.mpr ⟨rfl, (fun _ h => nomatch h)⟩)⟩)⟩)⟩)⟩)⟩)⟩) ?_
  exact ubX6_child_8 hd hT hS hU hW hP  hw

