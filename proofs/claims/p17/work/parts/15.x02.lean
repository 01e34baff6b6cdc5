def wX1_putText_37'  (l4 l6 l7 : Int) (S : St) (K : Int → St → Prop) (B37 : Int → Int → Int → St → Prop) : Prop := (rng (l7) ∧ ((20 ≤ l7 → K 0 S) ∧ ((¬ (20 ≤ l7)) → ((0 : Int) ≤ l6 ∧ l6 < (120 : Int) ∧ (iv (-2147483648) 2147483647 (S.2 44 (l6)) → ((S.2 44 (l6) ≤ l7 → K 0 S) ∧ ((¬ (S.2 44 (l6) ≤ l7)) → (rng ((l4 + l7)) ∧ (wX5_at 1 ((l4 + l7)) S (fun r7 S6 => ((0 : Int) ≤ ((l6 * 20) + l7) ∧ ((l6 * 20) + l7) < (2400 : Int) ∧ (iv (-2147483648) 2147483647 (r7) ∧ (∀ S10, S10 = pA S6 45 (((l6 * 20) + l7)) (r7) → B37 (l4) (l6) ((l7 + 1)) S10)))))))))))))
set_option maxRecDepth 100000 in
set_option maxHeartbeats 4000000 in
theorem ubX1_putText_37' {G : xG} {v : Nat → Nat} {sh : Nat → Option Sh} {B : Nat × Nat} {c0 : List va_E} {d : Nat} {Post : xP} {l4 l6 l7 : Int} {S : St} {cs : List va_E} {K : Int → St → Prop} {B37 : Int → Int → Int → St → Prop} (hd : 1 ≤ d) (hT : sb shC sh) (hS : ∀ b x, sh b = some x → ¬ isS b) (hW : Wv G v sh B c0 S cs) (hP : ∀ (x : Int) (S : St) (cs : List va_E), K x S → Wv G v sh B c0 S cs → Post (none) cs) (hB37 : ∀ (l4 : Int) (l6 : Int) (l7 : Int) (S : St) (cs : List va_E), B37 l4 l6 l7 S → Wv G v sh B c0 S cs → Z (RX1, cX1_putText, 8, none, false) G d Post 37 [(0, .ref (G.1 + v 42)), (3, .ref (G.1 + v 1)), (4, .int (Int32.ofInt (l4))), (6, .int (Int32.ofInt (l6))), (7, .int (Int32.ofInt (l7)))] [] cs) (hw : wX1_putText_37' l4 l6 l7 S K B37) : Z (RX1, cX1_putText, 8, none, false) G d Post 37 [(0, .ref (G.1 + v 42)), (3, .ref (G.1 + v 1)), (4, .int (Int32.ofInt (l4))), (6, .int (Int32.ofInt (l6))), (7, .int (Int32.ofInt (l7)))] [] cs := by
  unfold wX1_putText_37' at hw
  refine z_iload dX1_putText_37 rfl ?_
  refine z_bipush (v := Int32.ofInt 20) dX1_putText_39 (by decide) ?_
  obtain ⟨q2, hw⟩ := hw
  refine i_icmp_ge (tgt := 84) dX1_putText_41 (by decide) q2 ⟨by decide, by decide⟩ (fun h1 => ?_) (fun h1 => ?_)
  · have hw := hw.1 h1
    exact z_return dX1_putText_84 rfl (hP 0 _ _ hw hW)
  · have hw := hw.2 h1
    refine z_iload dX1_putText_44 rfl ?_
    refine z_aload_n dX1_putText_46 rfl rfl ?_
    refine v_getR hW (hT 42 _ rfl) rfl kX1 fX1_15 dX1_putText_47 ?_
    refine z_iload dX1_putText_50 rfl ?_
    obtain ⟨q3a, q3b, hw⟩ := hw
    have q4 : iv (-2147483648) 2147483647 (S.2 44 (l6)) := hW.iA 44 _
    have hw := hw q4
    refine v_iald hW (hT 44 _ rfl) q3a q3b (by decide) dX1_putText_52 ?_
    refine i_icmp_ge (tgt := 84) dX1_putText_53 (by decide) q2 (rngq q4 (by decide) (by decide)) (fun h5 => ?_) (fun h5 => ?_)
    · have hw := hw.1 h5
      exact z_return dX1_putText_84 rfl (hP 0 _ _ hw hW)
    · have hw := hw.2 h5
      refine z_aload_n dX1_putText_56 rfl rfl ?_
      refine v_getR hW (hT 42 _ rfl) rfl kX1 fX1_18 dX1_putText_57 ?_
      refine z_iload dX1_putText_60 rfl ?_
      refine z_bipush (v := Int32.ofInt 20) dX1_putText_62 (by decide) ?_
      refine i_imul dX1_putText_64 ?_
      refine z_iload dX1_putText_65 rfl ?_
      refine i_iadd dX1_putText_67 ?_
      refine z_aload_n dX1_putText_68 rfl rfl ?_
      refine z_iload dX1_putText_69 rfl ?_
      refine z_iload dX1_putText_71 rfl ?_
      refine i_iadd dX1_putText_73 ?_
      obtain ⟨q8, hw⟩ := hw
      have hX := lX5_at 0 (Nat.le_refl _) hW (show isS 1 by unfold isS; decide) (fun b x h e => hS b x h (e ▸ (show isS 1 by unfold isS; decide))) q8 hw
      refine z_callV (As := [_]) eX5_at sX5_at lX1_54 rfl dX1_putText_74 (hW.sg (show isS 1 by unfold isS; decide) (fun b x h e => hS b x h (e ▸ (show isS 1 by unfold isS; decide)))).choose_spec.choose_spec.choose_spec.choose_spec.1.choose_spec.1 hX (Nat.le_trans (by decide) hd) rfl (Nat.le_of_ble_eq_true rfl) (fun r cs hp => ?_)
      obtain ⟨r7, S6, rfl, hw, hW⟩ := hp
      refine z_st (st' := [.int (Int32.ofInt (r7)), .int (Int32.ofInt (((l6 * 20) + l7))), .ref (G.1 + v 45)]) rfl ?_
      obtain ⟨q9a, q9b, hw⟩ := hw
      obtain ⟨q11, hw⟩ := hw
      refine v_iast hW (hT 45 _ rfl) (by decide) (by unfold isS; decide) q9a q9b (by decide) q11 dX1_putText_77 (fun cs hW => ?_)
      obtain ⟨S10, hS10⟩ : ∃ x, x = pA S6 45 (((l6 * 20) + l7)) (r7) := ⟨_, rfl⟩
      rw [← hS10] at hW
      have hw := hw S10 hS10
      refine i_iinc (l := l7) dX1_putText_78 rfl (by decide) ?_
      refine z_loc (L' := [(0, .ref (G.1 + v 42)), (3, .ref (G.1 + v 1)), (4, .int (Int32.ofInt (l4))), (6, .int (Int32.ofInt (l6))), (7, .int (Int32.ofInt ((l7 + 1))))]) (List.forall_mem_cons.mpr ⟨rfl, (List.forall_mem_cons.mpr ⟨rfl, (List.forall_mem_cons.mpr ⟨rfl, (List.forall_mem_cons.mpr ⟨rfl, (List.forall_mem_cons.mpr ⟨rfl, (fun _ h => nomatch h)⟩)⟩)⟩)⟩)⟩) ?_
      refine z_goto (tgt := 37) dX1_putText_81 (by decide) ?_
      refine z_loc (L' := [(0, .ref (G.1 + v 42)), (3, .ref (G.1 + v 1)), (4, .int (Int32.ofInt (l4))), (6, .int (Int32.ofInt (l6))), (7, .int (Int32.ofInt ((l7 + 1))))]) (List.forall_mem_cons.mpr ⟨rfl, (List.forall_mem_cons.mpr ⟨rfl, (List.forall_mem_cons.mpr ⟨rfl, (List.forall_mem_cons.mpr ⟨rfl, (List.forall_mem_cons.mpr ⟨rfl, (fun _ h => nomatch h)⟩)⟩)⟩)⟩)⟩) ?_
      exact hB37 _ _ _ _ _ hw hW
def wX1_putText_37  (l4 l6 l7 : Int) (S : St) (K : Int → St → Prop) : Prop := ∃ (Iv : Int → Int → Int → St → Prop) (mu : Int → Int → Int → St → Nat), Iv l4 l6 l7 S ∧ ∀ (l4 l6 l7 : Int) (S : St), Iv l4 l6 l7 S → wX1_putText_37' l4 l6 l7 S K  (fun ml4 ml6 ml7 T => Iv ml4 ml6 ml7 T ∧ mu ml4 ml6 ml7 T < mu l4 l6 l7 S)
set_option maxRecDepth 100000 in
set_option maxHeartbeats 4000000 in
theorem ubX1_putText_37 {G : xG} {v : Nat → Nat} {sh : Nat → Option Sh} {B : Nat × Nat} {c0 : List va_E} {d : Nat} {Post : xP} {l4 l6 l7 : Int} {S : St} {cs : List va_E} {K : Int → St → Prop} (hd : 1 ≤ d) (hT : sb shC sh) (hS : ∀ b x, sh b = some x → ¬ isS b) (hW : Wv G v sh B c0 S cs) (hP : ∀ (x : Int) (S : St) (cs : List va_E), K x S → Wv G v sh B c0 S cs → Post (none) cs)  (hw : wX1_putText_37 l4 l6 l7 S K ) : Z (RX1, cX1_putText, 8, none, false) G d Post 37 [(0, .ref (G.1 + v 42)), (3, .ref (G.1 + v 1)), (4, .int (Int32.ofInt (l4))), (6, .int (Int32.ofInt (l6))), (7, .int (Int32.ofInt (l7)))] [] cs := by
  unfold wX1_putText_37 at hw
  obtain ⟨Iv, mu, h0, hs⟩ := hw
  have key : ∀ (n : Nat) (l4 l6 l7 : Int) (S : St) (cs : List va_E), mu l4 l6 l7 S < n → Iv l4 l6 l7 S → Wv G v sh B c0 S cs → Z (RX1, cX1_putText, 8, none, false) G d Post 37 [(0, .ref (G.1 + v 42)), (3, .ref (G.1 + v 1)), (4, .int (Int32.ofInt (l4))), (6, .int (Int32.ofInt (l6))), (7, .int (Int32.ofInt (l7)))] [] cs := by
    intro n
    induction n with
    | zero => intro l4 l6 l7 S cs hn; exact absurd hn (Nat.not_lt_zero _)
    | succ n ih =>
      intro l4 l6 l7 S cs hn hI hW
      exact ubX1_putText_37' hd hT hS hW hP  (fun l4 l6 l7 S cs hb hW => ih l4 l6 l7 S cs (Nat.lt_of_lt_of_le hb.2 (Nat.le_of_lt_succ hn)) hb.1 hW) (hs l4 l6 l7 S hI)
  exact key _ _ _ _ _ _ (Nat.lt_succ_self _) h0 hW
def wX1_putText  (a1 a2 a3 a4 : Int) (S : St) (K : Int → St → Prop) : Prop := rng a1 → rng a2 → rng a3 → rng a4 → (wX1_hasField (a1) (a2) S (fun r2 S1 => (rng (r2) ∧ ((¬ r2 = 0 → (∀ x5 : Int, x5 = ((a1 * 4) + a2) → (rng ((a4 - a3)) ∧ ((0 : Int) ≤ x5 ∧ x5 < (120 : Int) ∧ (iv (-2147483648) 2147483647 ((if 20 < (a4 - a3) then 20 else (a4 - a3))) ∧ (∀ S8, S8 = pA S1 44 (x5) ((if 20 < (a4 - a3) then 20 else (a4 - a3))) → wX1_putText_37 (a3) (x5) (0) S8 K)))))) ∧ ((¬ (¬ r2 = 0)) → K 0 S1)))))
set_option maxRecDepth 100000 in
set_option maxHeartbeats 4000000 in
theorem lX1_putText {G : xG} {v : Nat → Nat} {sh : Nat → Option Sh} {B : Nat × Nat} {c0 : List va_E}  {a1 a2 a3 a4 : Int} {S : St} {cs : List va_E} {K : Int → St → Prop} (d : Nat) (hd : 1 ≤ d) (hT : sb shC sh) (hS : ∀ b x, sh b = some x → ¬ isS b) (hW : Wv G v sh B c0 S cs) (g1 : rng a1) (g2 : rng a2) (g3 : rng a3) (g4 : rng a4) (hw : wX1_putText a1 a2 a3 a4 S K) : X G yX1_putText cX1_putText 8 none d [.ref (G.1 + v 42), .int (Int32.ofInt a1), .int (Int32.ofInt a2), .ref (G.1 + v 1), .int (Int32.ofInt a3), .int (Int32.ofInt a4)] cs (vV G v sh B c0 K) := by
  refine X.of false (by decide +kernel) (by decide) (Nat.le_of_ble_eq_true rfl) ?_
  show Z (RX1, cX1_putText, 8, none, false) G d _ 0 [(0, .ref (G.1 + v 42)), (1, .int (Int32.ofInt a1)), (2, .int (Int32.ofInt a2)), (3, .ref (G.1 + v 1)), (4, .int (Int32.ofInt a3)), (5, .int (Int32.ofInt a4))] [] cs
  have hP : ∀ (x : Int) (S : St) (cs : List va_E), K x S → Wv G v sh B c0 S cs → vV G v sh B c0 K (none) cs := fun x S cs a b => ⟨x, S, rfl, a, b⟩
  unfold wX1_putText at hw
  have hw := hw g1 g2 g3 g4
  refine z_aload_n dX1_putText_0 rfl rfl ?_
  refine z_iload_n dX1_putText_1 rfl rfl ?_
  refine z_iload_n dX1_putText_2 rfl rfl ?_
  have hX := lX1_hasField 0 (Nat.le_refl _) hT hS hW g1 g2 hw
  refine z_callV (As := [_, _]) eX1_hasField sX1_hasField lX1_29 rfl dX1_putText_3 (hW.at (hT 42 _ rfl)) hX (Nat.le_trans (by decide) hd) rfl (Nat.le_of_ble_eq_true rfl) (fun r cs hp => ?_)
  obtain ⟨r2, S1, rfl, hw, hW⟩ := hp
  refine z_st (st' := [.int (Int32.ofInt (r2))]) rfl ?_
  obtain ⟨q4, hw⟩ := hw
  refine i_if_ne (tgt := 10) dX1_putText_6 (by decide) q4 (fun h3 => ?_) (fun h3 => ?_)
  · have hw := hw.1 h3
    refine z_iload_n dX1_putText_10 rfl rfl ?_
    refine z_iconst (v := Int32.ofInt 4) dX1_putText_11 rfl ?_
    refine i_imul dX1_putText_12 ?_
    refine z_iload_n dX1_putText_13 rfl rfl ?_
    refine i_iadd dX1_putText_14 ?_
    obtain ⟨x5, hx5⟩ : ∃ x : Int, x = ((a1 * 4) + a2) := ⟨_, rfl⟩
    have hw := hw x5 hx5
    refine z_st (st' := [.int (Int32.ofInt x5)]) (by rw [hx5]) ?_
    refine z_istore dX1_putText_15 (by decide) ?_
    refine z_loc (L' := [(0, .ref (G.1 + v 42)), (1, .int (Int32.ofInt (a1))), (2, .int (Int32.ofInt (a2))), (3, .ref (G.1 + v 1)), (4, .int (Int32.ofInt (a3))), (5, .int (Int32.ofInt (a4))), (6, .int (Int32.ofInt (x5)))]) (List.forall_mem_cons.mpr ⟨rfl, (List.forall_mem_cons.mpr ⟨rfl, (List.forall_mem_cons.mpr ⟨rfl, (List.forall_mem_cons.mpr ⟨rfl, (List.forall_mem_cons.mpr ⟨rfl, (List.forall_mem_cons.mpr ⟨rfl, (List.forall_mem_cons.mpr ⟨rfl, (fun _ h => nomatch h)⟩)⟩)⟩)⟩)⟩)⟩)⟩) ?_
    refine z_aload_n dX1_putText_17 rfl rfl ?_
    refine v_getR hW (hT 42 _ rfl) rfl kX1 fX1_15 dX1_putText_18 ?_
    refine z_iload dX1_putText_21 rfl ?_
    refine z_iload dX1_putText_23 rfl ?_
    refine z_iload dX1_putText_25 rfl ?_
    refine i_isub dX1_putText_27 ?_
    refine z_bipush (v := Int32.ofInt 20) dX1_putText_28 (by decide) ?_
    obtain ⟨q6, hw⟩ := hw
    refine v_mmin lX1_49 sJ9_min_7cf53 bJ9 dX1_putText_30 (Nat.le_trans (by decide) hd) (Nat.le_of_ble_eq_true rfl) q6 ⟨by decide, by decide⟩ ?_
    obtain ⟨q7a, q7b, hw⟩ := hw
    obtain ⟨q9, hw⟩ := hw
    refine v_iast hW (hT 44 _ rfl) (by decide) (by unfold isS; decide) q7a q7b (by decide) q9 dX1_putText_33 (fun cs hW => ?_)
    obtain ⟨S8, hS8⟩ : ∃ x, x = pA S1 44 (x5) ((if 20 < (a4 - a3) then 20 else (a4 - a3))) := ⟨_, rfl⟩
    rw [← hS8] at hW
    have hw := hw S8 hS8
    refine z_iconst (v := Int32.ofInt 0) dX1_putText_34 rfl ?_
    refine z_istore dX1_putText_35 (by decide) ?_
    refine z_loc (L' := [(0, .ref (G.1 + v 42)), (1, .int (Int32.ofInt (a1))), (2, .int (Int32.ofInt (a2))), (3, .ref (G.1 + v 1)), (4, .int (Int32.ofInt (a3))), (5, .int (Int32.ofInt (a4))), (6, .int (Int32.ofInt (x5))), (7, .int (Int32.ofInt (0)))]) (List.forall_mem_cons.mpr ⟨rfl, (List.forall_mem_cons.mpr ⟨rfl, (List.forall_mem_cons.mpr ⟨rfl, (List.forall_mem_cons.mpr ⟨rfl, (List.forall_mem_cons.mpr ⟨rfl, (List.forall_mem_cons.mpr ⟨rfl, (List.forall_mem_cons.mpr ⟨rfl, (List.forall_mem_cons.mpr ⟨rfl, (fun _ h => nomatch h)⟩)⟩)⟩)⟩)⟩)⟩)⟩)⟩) ?_
    refine z_loc (L' := [(0, .ref (G.1 + v 42)), (3, .ref (G.1 + v 1)), (4, .int (Int32.ofInt (a3))), (6, .int (Int32.ofInt (x5))), (7, .int (Int32.ofInt (0)))]) (List.forall_mem_cons.mpr ⟨rfl, (List.forall_mem_cons.mpr ⟨rfl, (List.forall_mem_cons.mpr ⟨rfl, (List.forall_mem_cons.mpr ⟨rfl, (List.forall_mem_cons.mpr ⟨rfl, (fun _ h => nomatch h)⟩)⟩)⟩)⟩)⟩) ?_
    exact ubX1_putText_37 hd hT hS hW hP  hw
  · have hw := hw.2 h3
    exact z_return dX1_putText_9 rfl (hP 0 _ _ hw hW)

def wX4_size  (S : St) (K : Int → St → Prop) : Prop := (iv 0 6 (S.1 24 8) → K (S.1 24 8) S)
set_option maxRecDepth 100000 in
set_option maxHeartbeats 4000000 in
theorem lX4_size {G : xG} {v : Nat → Nat} {sh : Nat → Option Sh} {B : Nat × Nat} {c0 : List va_E}  {S : St} {cs : List va_E} {K : Int → St → Prop} (d : Nat) (hd : 0 ≤ d) (hT : sb shC sh) (hS : ∀ b x, sh b = some x → ¬ isS b) (hW : Wv G v sh B c0 S cs)  (hw : wX4_size  S K) : X G yX4_size cX4_size 1 (some .int) d [.ref (G.1 + v 24)] cs (vI G v sh B c0 K) := by
  refine X.of false (by decide +kernel) (by decide) (Nat.le_of_ble_eq_true rfl) ?_
  show Z (RX4, cX4_size, 1, some .int, false) G d _ 0 [(0, .ref (G.1 + v 24))] [] cs
  have hP : ∀ (x : Int) (S : St) (cs : List va_E), K x S → Wv G v sh B c0 S cs → vI G v sh B c0 K (some (.int (Int32.ofInt x))) cs := fun x S cs a b => ⟨x, S, rfl, a, b⟩
  unfold wX4_size at hw
  refine z_aload_n dX4_size_0 rfl rfl ?_
  have q1 : iv 0 6 (S.1 24 8) := hW.iI 24 8
  have hw := hw q1
  refine v_getI hW (hT 24 _ rfl) rfl kX4 fX4_38 dX4_size_1 ?_
  exact z_ireturn dX4_size_4 rfl rfl (hP _ _ _ hw hW)

def wX4_isClass  (a1 : Int) (S : St) (K : Int → St → Prop) : Prop := rng a1 → ((a1 < 0 → K (0) S) ∧ ((¬ (a1 < 0)) → (iv 0 6 (S.1 24 8) → ((S.1 24 8 ≤ a1 → K (0) S) ∧ ((¬ (S.1 24 8 ≤ a1)) → K (1) S)))))
set_option maxRecDepth 100000 in
set_option maxHeartbeats 4000000 in
theorem lX4_isClass {G : xG} {v : Nat → Nat} {sh : Nat → Option Sh} {B : Nat × Nat} {c0 : List va_E}  {a1 : Int} {S : St} {cs : List va_E} {K : Int → St → Prop} (d : Nat) (hd : 0 ≤ d) (hT : sb shC sh) (hS : ∀ b x, sh b = some x → ¬ isS b) (hW : Wv G v sh B c0 S cs) (g1 : rng a1) (hw : wX4_isClass a1 S K) : X G yX4_isClass cX4_isClass 2 (some .boolean) d [.ref (G.1 + v 24), .int (Int32.ofInt a1)] cs (vI G v sh B c0 K) := by
  refine X.of false (by decide +kernel) (by decide) (Nat.le_of_ble_eq_true rfl) ?_
  show Z (RX4, cX4_isClass, 2, some .boolean, false) G d _ 0 [(0, .ref (G.1 + v 24)), (1, .int (Int32.ofInt a1))] [] cs
  have hP : ∀ (x : Int) (S : St) (cs : List va_E), K x S → Wv G v sh B c0 S cs → vI G v sh B c0 K (some (.int (Int32.ofInt x))) cs := fun x S cs a b => ⟨x, S, rfl, a, b⟩
  unfold wX4_isClass at hw
  have hw := hw g1
  refine z_iload_n dX4_isClass_0 rfl rfl ?_
  refine i_if_lt (tgt := 16) dX4_isClass_1 (by decide) g1 (fun h1 => ?_) (fun h1 => ?_)
  · have hw := hw.1 h1
    refine z_iconst (v := Int32.ofInt 0) dX4_isClass_16 rfl ?_
    exact z_ireturn dX4_isClass_17 rfl (nar01 (by decide)) (hP _ _ _ hw hW)
  · have hw := hw.2 h1
    refine z_iload_n dX4_isClass_4 rfl rfl ?_
    refine z_aload_n dX4_isClass_5 rfl rfl ?_
    have q2 : iv 0 6 (S.1 24 8) := hW.iI 24 8
    have hw := hw q2
    refine v_getI hW (hT 24 _ rfl) rfl kX4 fX4_38 dX4_isClass_6 ?_
    refine i_icmp_ge (tgt := 16) dX4_isClass_9 (by decide) g1 (rngq q2 (by decide) (by decide)) (fun h3 => ?_) (fun h3 => ?_)
    · have hw := hw.1 h3
      refine z_iconst (v := Int32.ofInt 0) dX4_isClass_16 rfl ?_
      exact z_ireturn dX4_isClass_17 rfl (nar01 (by decide)) (hP _ _ _ hw hW)
    · have hw := hw.2 h3
      refine z_iconst (v := Int32.ofInt 1) dX4_isClass_12 rfl ?_
      refine z_goto (tgt := 17) dX4_isClass_13 (by decide) ?_
      exact z_ireturn dX4_isClass_17 rfl (nar01 (by decide)) (hP _ _ _ hw hW)

def wX4_fieldCount  (a1 : Int) (S : St) (K : Int → St → Prop) : Prop := rng a1 → (wX4_isClass (a1) S (fun r2 S1 => (rng (r2) ∧ ((r2 = 0 → K (0) S1) ∧ ((¬ (r2 = 0)) → ((0 : Int) ≤ a1 ∧ a1 < (6 : Int) ∧ (iv 0 4 (S1.2 29 (a1)) → K (S1.2 29 (a1)) S1)))))))
set_option maxRecDepth 100000 in
set_option maxHeartbeats 4000000 in
theorem lX4_fieldCount {G : xG} {v : Nat → Nat} {sh : Nat → Option Sh} {B : Nat × Nat} {c0 : List va_E}  {a1 : Int} {S : St} {cs : List va_E} {K : Int → St → Prop} (d : Nat) (hd : 1 ≤ d) (hT : sb shC sh) (hS : ∀ b x, sh b = some x → ¬ isS b) (hW : Wv G v sh B c0 S cs) (g1 : rng a1) (hw : wX4_fieldCount a1 S K) : X G yX4_fieldCount cX4_fieldCount 2 (some .int) d [.ref (G.1 + v 24), .int (Int32.ofInt a1)] cs (vI G v sh B c0 K) := by
  refine X.of false (by decide +kernel) (by decide) (Nat.le_of_ble_eq_true rfl) ?_
  show Z (RX4, cX4_fieldCount, 2, some .int, false) G d _ 0 [(0, .ref (G.1 + v 24)), (1, .int (Int32.ofInt a1))] [] cs
  have hP : ∀ (x : Int) (S : St) (cs : List va_E), K x S → Wv G v sh B c0 S cs → vI G v sh B c0 K (some (.int (Int32.ofInt x))) cs := fun x S cs a b => ⟨x, S, rfl, a, b⟩
  unfold wX4_fieldCount at hw
  have hw := hw g1
  refine z_aload_n dX4_fieldCount_0 rfl rfl ?_
  refine z_iload_n dX4_fieldCount_1 rfl rfl ?_
  have hX := lX4_isClass 0 (Nat.le_refl _) hT hS hW g1 hw
  refine z_callV (As := [_]) eX4_isClass sX4_isClass lX4_42 rfl dX4_fieldCount_2 (hW.at (hT 24 _ rfl)) hX (Nat.le_trans (by decide) hd) rfl (Nat.le_of_ble_eq_true rfl) (fun r cs hp => ?_)
  obtain ⟨r2, S1, rfl, hw, hW⟩ := hp
  refine z_st (st' := [.int (Int32.ofInt (r2))]) rfl ?_
  obtain ⟨q4, hw⟩ := hw
  refine i_if_eq (tgt := 17) dX4_fieldCount_5 (by decide) q4 (fun h3 => ?_) (fun h3 => ?_)
  · have hw := hw.1 h3
    refine z_iconst (v := Int32.ofInt 0) dX4_fieldCount_17 rfl ?_
    exact z_ireturn dX4_fieldCount_18 rfl rfl (hP _ _ _ hw hW)
  · have hw := hw.2 h3
    refine z_aload_n dX4_fieldCount_8 rfl rfl ?_
    refine v_getR hW (hT 24 _ rfl) rfl kX4 fX4_26 dX4_fieldCount_9 ?_
    refine z_iload_n dX4_fieldCount_12 rfl rfl ?_
    obtain ⟨q5a, q5b, hw⟩ := hw
    have q6 : iv 0 4 (S1.2 29 (a1)) := hW.iA 29 _
    have hw := hw q6
    refine v_iald hW (hT 29 _ rfl) q5a q5b (by decide) dX4_fieldCount_13 ?_
    refine z_goto (tgt := 18) dX4_fieldCount_14 (by decide) ?_
    exact z_ireturn dX4_fieldCount_18 rfl rfl (hP _ _ _ hw hW)

def wX4_isField  (a1 a2 : Int) (S : St) (K : Int → St → Prop) : Prop := rng a1 → rng a2 → ((a1 < 0 → K (0) S) ∧ ((¬ (a1 < 0)) → (iv 0 6 (S.1 24 8) → ((S.1 24 8 ≤ a1 → K (0) S) ∧ ((¬ (S.1 24 8 ≤ a1)) → ((a2 < 0 → K (0) S) ∧ ((¬ (a2 < 0)) → ((0 : Int) ≤ a1 ∧ a1 < (6 : Int) ∧ (iv 0 4 (S.2 29 (a1)) → ((S.2 29 (a1) ≤ a2 → K (0) S) ∧ ((¬ (S.2 29 (a1) ≤ a2)) → K (1) S)))))))))))
set_option maxRecDepth 100000 in
set_option maxHeartbeats 4000000 in
theorem lX4_isField {G : xG} {v : Nat → Nat} {sh : Nat → Option Sh} {B : Nat × Nat} {c0 : List va_E}  {a1 a2 : Int} {S : St} {cs : List va_E} {K : Int → St → Prop} (d : Nat) (hd : 0 ≤ d) (hT : sb shC sh) (hS : ∀ b x, sh b = some x → ¬ isS b) (hW : Wv G v sh B c0 S cs) (g1 : rng a1) (g2 : rng a2) (hw : wX4_isField a1 a2 S K) : X G yX4_isField cX4_isField 3 (some .boolean) d [.ref (G.1 + v 24), .int (Int32.ofInt a1), .int (Int32.ofInt a2)] cs (vI G v sh B c0 K) := by
  refine X.of false (by decide +kernel) (by decide) (Nat.le_of_ble_eq_true rfl) ?_
  show Z (RX4, cX4_isField, 3, some .boolean, false) G d _ 0 [(0, .ref (G.1 + v 24)), (1, .int (Int32.ofInt a1)), (2, .int (Int32.ofInt a2))] [] cs
  have hP : ∀ (x : Int) (S : St) (cs : List va_E), K x S → Wv G v sh B c0 S cs → vI G v sh B c0 K (some (.int (Int32.ofInt x))) cs := fun x S cs a b => ⟨x, S, rfl, a, b⟩
  unfold wX4_isField at hw
  have hw := hw g1 g2
  refine z_iload_n dX4_isField_0 rfl rfl ?_
  refine i_if_lt (tgt := 30) dX4_isField_1 (by decide) g1 (fun h1 => ?_) (fun h1 => ?_)
  · have hw := hw.1 h1
    refine z_iconst (v := Int32.ofInt 0) dX4_isField_30 rfl ?_
    exact z_ireturn dX4_isField_31 rfl (nar01 (by decide)) (hP _ _ _ hw hW)
  · have hw := hw.2 h1
    refine z_iload_n dX4_isField_4 rfl rfl ?_
    refine z_aload_n dX4_isField_5 rfl rfl ?_
    have q2 : iv 0 6 (S.1 24 8) := hW.iI 24 8
    have hw := hw q2
    refine v_getI hW (hT 24 _ rfl) rfl kX4 fX4_38 dX4_isField_6 ?_
    refine i_icmp_ge (tgt := 30) dX4_isField_9 (by decide) g1 (rngq q2 (by decide) (by decide)) (fun h3 => ?_) (fun h3 => ?_)
    · have hw := hw.1 h3
      refine z_iconst (v := Int32.ofInt 0) dX4_isField_30 rfl ?_
      exact z_ireturn dX4_isField_31 rfl (nar01 (by decide)) (hP _ _ _ hw hW)
    · have hw := hw.2 h3
      refine z_iload_n dX4_isField_12 rfl rfl ?_
      refine i_if_lt (tgt := 30) dX4_isField_13 (by decide) g2 (fun h4 => ?_) (fun h4 => ?_)
      · have hw := hw.1 h4
        refine z_iconst (v := Int32.ofInt 0) dX4_isField_30 rfl ?_
        exact z_ireturn dX4_isField_31 rfl (nar01 (by decide)) (hP _ _ _ hw hW)
      · have hw := hw.2 h4
        refine z_iload_n dX4_isField_16 rfl rfl ?_
        refine z_aload_n dX4_isField_17 rfl rfl ?_
        refine v_getR hW (hT 24 _ rfl) rfl kX4 fX4_26 dX4_isField_18 ?_
        refine z_iload_n dX4_isField_21 rfl rfl ?_
        obtain ⟨q5a, q5b, hw⟩ := hw
        have q6 : iv 0 4 (S.2 29 (a1)) := hW.iA 29 _
        have hw := hw q6
        refine v_iald hW (hT 29 _ rfl) q5a q5b (by decide) dX4_isField_22 ?_
        refine i_icmp_ge (tgt := 30) dX4_isField_23 (by decide) g2 (rngq q6 (by decide) (by decide)) (fun h7 => ?_) (fun h7 => ?_)
        · have hw := hw.1 h7
          refine z_iconst (v := Int32.ofInt 0) dX4_isField_30 rfl ?_
          exact z_ireturn dX4_isField_31 rfl (nar01 (by decide)) (hP _ _ _ hw hW)
        · have hw := hw.2 h7
          refine z_iconst (v := Int32.ofInt 1) dX4_isField_26 rfl ?_
          refine z_goto (tgt := 31) dX4_isField_27 (by decide) ?_
          exact z_ireturn dX4_isField_31 rfl (nar01 (by decide)) (hP _ _ _ hw hW)

def wX4_shape  (a1 a2 : Int) (S : St) (K : Int → St → Prop) : Prop := rng a1 → rng a2 → (wX4_isField (a1) (a2) S (fun r2 S1 => (rng (r2) ∧ ((r2 = 0 → K (0) S1) ∧ ((¬ (r2 = 0)) → ((0 : Int) ≤ ((a1 * 4) + a2) ∧ ((a1 * 4) + a2) < (24 : Int) ∧ (iv (-2147483648) 2147483647 (S1.2 27 (((a1 * 4) + a2))) → K (S1.2 27 (((a1 * 4) + a2))) S1)))))))
set_option maxRecDepth 100000 in
set_option maxHeartbeats 4000000 in
theorem lX4_shape {G : xG} {v : Nat → Nat} {sh : Nat → Option Sh} {B : Nat × Nat} {c0 : List va_E}  {a1 a2 : Int} {S : St} {cs : List va_E} {K : Int → St → Prop} (d : Nat) (hd : 1 ≤ d) (hT : sb shC sh) (hS : ∀ b x, sh b = some x → ¬ isS b) (hW : Wv G v sh B c0 S cs) (g1 : rng a1) (g2 : rng a2) (hw : wX4_shape a1 a2 S K) : X G yX4_shape cX4_shape 3 (some .int) d [.ref (G.1 + v 24), .int (Int32.ofInt a1), .int (Int32.ofInt a2)] cs (vI G v sh B c0 K) := by
  refine X.of false (by decide +kernel) (by decide) (Nat.le_of_ble_eq_true rfl) ?_
  show Z (RX4, cX4_shape, 3, some .int, false) G d _ 0 [(0, .ref (G.1 + v 24)), (1, .int (Int32.ofInt a1)), (2, .int (Int32.ofInt a2))] [] cs
  have hP : ∀ (x : Int) (S : St) (cs : List va_E), K x S → Wv G v sh B c0 S cs → vI G v sh B c0 K (some (.int (Int32.ofInt x))) cs := fun x S cs a b => ⟨x, S, rfl, a, b⟩
  unfold wX4_shape at hw
  have hw := hw g1 g2
  refine z_aload_n dX4_shape_0 rfl rfl ?_
  refine z_iload_n dX4_shape_1 rfl rfl ?_
  refine z_iload_n dX4_shape_2 rfl rfl ?_
  have hX := lX4_isField 0 (Nat.le_refl _) hT hS hW g1 g2 hw
  refine z_callV (As := [_, _]) eX4_isField sX4_isField lX4_46 rfl dX4_shape_3 (hW.at (hT 24 _ rfl)) hX (Nat.le_trans (by decide) hd) rfl (Nat.le_of_ble_eq_true rfl) (fun r cs hp => ?_)
  obtain ⟨r2, S1, rfl, hw, hW⟩ := hp
  refine z_st (st' := [.int (Int32.ofInt (r2))]) rfl ?_
  obtain ⟨q4, hw⟩ := hw
  refine i_if_eq (tgt := 22) dX4_shape_6 (by decide) q4 (fun h3 => ?_) (fun h3 => ?_)
  · have hw := hw.1 h3
    refine z_iconst (v := Int32.ofInt 0) dX4_shape_22 rfl ?_
    exact z_ireturn dX4_shape_23 rfl rfl (hP _ _ _ hw hW)
  · have hw := hw.2 h3
    refine z_aload_n dX4_shape_9 rfl rfl ?_
    refine v_getR hW (hT 24 _ rfl) rfl kX4 fX4_19 dX4_shape_10 ?_
    refine z_iload_n dX4_shape_13 rfl rfl ?_
    refine z_iconst (v := Int32.ofInt 4) dX4_shape_14 rfl ?_
    refine i_imul dX4_shape_15 ?_
    refine z_iload_n dX4_shape_16 rfl rfl ?_
    refine i_iadd dX4_shape_17 ?_
    obtain ⟨q5a, q5b, hw⟩ := hw
    have q6 : iv (-2147483648) 2147483647 (S1.2 27 (((a1 * 4) + a2))) := hW.iA 27 _
    have hw := hw q6
    refine v_iald hW (hT 27 _ rfl) q5a q5b (by decide) dX4_shape_18 ?_
    refine z_goto (tgt := 23) dX4_shape_19 (by decide) ?_
    exact z_ireturn dX4_shape_23 rfl rfl (hP _ _ _ hw hW)

def wX4_isAttribute  (a1 a2 : Int) (S : St) (K : Int → St → Prop) : Prop := rng a1 → rng a2 → (wX4_isField (a1) (a2) S (fun r2 S1 => (rng (r2) ∧ ((r2 = 0 → K (0) S1) ∧ ((¬ (r2 = 0)) → ((0 : Int) ≤ ((a1 * 4) + a2) ∧ ((a1 * 4) + a2) < (24 : Int) ∧ (iv 0 1 (S1.2 28 (((a1 * 4) + a2))) → ((S1.2 28 (((a1 * 4) + a2)) = 0 → K (0) S1) ∧ ((¬ (S1.2 28 (((a1 * 4) + a2)) = 0)) → K (1) S1)))))))))
set_option maxRecDepth 100000 in
set_option maxHeartbeats 4000000 in
theorem lX4_isAttribute {G : xG} {v : Nat → Nat} {sh : Nat → Option Sh} {B : Nat × Nat} {c0 : List va_E}  {a1 a2 : Int} {S : St} {cs : List va_E} {K : Int → St → Prop} (d : Nat) (hd : 1 ≤ d) (hT : sb shC sh) (hS : ∀ b x, sh b = some x → ¬ isS b) (hW : Wv G v sh B c0 S cs) (g1 : rng a1) (g2 : rng a2) (hw : wX4_isAttribute a1 a2 S K) : X G yX4_isAttribute cX4_isAttribute 3 (some .boolean) d [.ref (G.1 + v 24), .int (Int32.ofInt a1), .int (Int32.ofInt a2)] cs (vI G v sh B c0 K) := by
  refine X.of false (by decide +kernel) (by decide) (Nat.le_of_ble_eq_true rfl) ?_
  show Z (RX4, cX4_isAttribute, 3, some .boolean, false) G d _ 0 [(0, .ref (G.1 + v 24)), (1, .int (Int32.ofInt a1)), (2, .int (Int32.ofInt a2))] [] cs
  have hP : ∀ (x : Int) (S : St) (cs : List va_E), K x S → Wv G v sh B c0 S cs → vI G v sh B c0 K (some (.int (Int32.ofInt x))) cs := fun x S cs a b => ⟨x, S, rfl, a, b⟩
  unfold wX4_isAttribute at hw
  have hw := hw g1 g2
  refine z_aload_n dX4_isAttribute_0 rfl rfl ?_
  refine z_iload_n dX4_isAttribute_1 rfl rfl ?_
  refine z_iload_n dX4_isAttribute_2 rfl rfl ?_
  have hX := lX4_isField 0 (Nat.le_refl _) hT hS hW g1 g2 hw
  refine z_callV (As := [_, _]) eX4_isField sX4_isField lX4_46 rfl dX4_isAttribute_3 (hW.at (hT 24 _ rfl)) hX (Nat.le_trans (by decide) hd) rfl (Nat.le_of_ble_eq_true rfl) (fun r cs hp => ?_)
  obtain ⟨r2, S1, rfl, hw, hW⟩ := hp
  refine z_st (st' := [.int (Int32.ofInt (r2))]) rfl ?_
  obtain ⟨q4, hw⟩ := hw
  refine i_if_eq (tgt := 26) dX4_isAttribute_6 (by decide) q4 (fun h3 => ?_) (fun h3 => ?_)
  · have hw := hw.1 h3
    refine z_iconst (v := Int32.ofInt 0) dX4_isAttribute_26 rfl ?_
    exact z_ireturn dX4_isAttribute_27 rfl (nar01 (by decide)) (hP _ _ _ hw hW)
  · have hw := hw.2 h3
    refine z_aload_n dX4_isAttribute_9 rfl rfl ?_
    refine v_getR hW (hT 24 _ rfl) rfl kX4 fX4_22 dX4_isAttribute_10 ?_
    refine z_iload_n dX4_isAttribute_13 rfl rfl ?_
    refine z_iconst (v := Int32.ofInt 4) dX4_isAttribute_14 rfl ?_
    refine i_imul dX4_isAttribute_15 ?_
    refine z_iload_n dX4_isAttribute_16 rfl rfl ?_
    refine i_iadd dX4_isAttribute_17 ?_
    obtain ⟨q5a, q5b, hw⟩ := hw
    have q6 : iv 0 1 (S1.2 28 (((a1 * 4) + a2))) := hW.iA 28 _
    have hw := hw q6
    refine v_zald hW (hT 28 _ rfl) q5a q5b (by decide) dX4_isAttribute_18 ?_
    refine i_if_eq (tgt := 26) dX4_isAttribute_19 (by decide) (rngq q6 (by decide) (by decide)) (fun h7 => ?_) (fun h7 => ?_)
    · have hw := hw.1 h7
      refine z_iconst (v := Int32.ofInt 0) dX4_isAttribute_26 rfl ?_
      exact z_ireturn dX4_isAttribute_27 rfl (nar01 (by decide)) (hP _ _ _ hw hW)
    · have hw := hw.2 h7
      refine z_iconst (v := Int32.ofInt 1) dX4_isAttribute_22 rfl ?_
      refine z_goto (tgt := 27) dX4_isAttribute_23 (by decide) ?_
      exact z_ireturn dX4_isAttribute_27 rfl (nar01 (by decide)) (hP _ _ _ hw hW)

def wX4_implicit  (a1 : Int) (S : St) (K : Int → St → Prop) : Prop := rng a1 → (wX4_isClass (a1) S (fun r2 S1 => (rng (r2) ∧ ((r2 = 0 → K ((-1)) S1) ∧ ((¬ (r2 = 0)) → ((0 : Int) ≤ a1 ∧ a1 < (6 : Int) ∧ (iv (-2147483648) 2147483647 (S1.2 30 (a1)) → K (S1.2 30 (a1)) S1)))))))
set_option maxRecDepth 100000 in
set_option maxHeartbeats 4000000 in
theorem lX4_implicit {G : xG} {v : Nat → Nat} {sh : Nat → Option Sh} {B : Nat × Nat} {c0 : List va_E}  {a1 : Int} {S : St} {cs : List va_E} {K : Int → St → Prop} (d : Nat) (hd : 1 ≤ d) (hT : sb shC sh) (hS : ∀ b x, sh b = some x → ¬ isS b) (hW : Wv G v sh B c0 S cs) (g1 : rng a1) (hw : wX4_implicit a1 S K) : X G yX4_implicit cX4_implicit 2 (some .int) d [.ref (G.1 + v 24), .int (Int32.ofInt a1)] cs (vI G v sh B c0 K) := by
  refine X.of false (by decide +kernel) (by decide) (Nat.le_of_ble_eq_true rfl) ?_
  show Z (RX4, cX4_implicit, 2, some .int, false) G d _ 0 [(0, .ref (G.1 + v 24)), (1, .int (Int32.ofInt a1))] [] cs
  have hP : ∀ (x : Int) (S : St) (cs : List va_E), K x S → Wv G v sh B c0 S cs → vI G v sh B c0 K (some (.int (Int32.ofInt x))) cs := fun x S cs a b => ⟨x, S, rfl, a, b⟩
  unfold wX4_implicit at hw
  have hw := hw g1
  refine z_aload_n dX4_implicit_0 rfl rfl ?_
  refine z_iload_n dX4_implicit_1 rfl rfl ?_
  have hX := lX4_isClass 0 (Nat.le_refl _) hT hS hW g1 hw
  refine z_callV (As := [_]) eX4_isClass sX4_isClass lX4_42 rfl dX4_implicit_2 (hW.at (hT 24 _ rfl)) hX (Nat.le_trans (by decide) hd) rfl (Nat.le_of_ble_eq_true rfl) (fun r cs hp => ?_)
  obtain ⟨r2, S1, rfl, hw, hW⟩ := hp
  refine z_st (st' := [.int (Int32.ofInt (r2))]) rfl ?_
  obtain ⟨q4, hw⟩ := hw
  refine i_if_eq (tgt := 17) dX4_implicit_5 (by decide) q4 (fun h3 => ?_) (fun h3 => ?_)
  · have hw := hw.1 h3
    refine z_iconst (v := Int32.ofInt (-1)) dX4_implicit_17 rfl ?_
    exact z_ireturn dX4_implicit_18 rfl rfl (hP _ _ _ hw hW)
  · have hw := hw.2 h3
    refine z_aload_n dX4_implicit_8 rfl rfl ?_
    refine v_getR hW (hT 24 _ rfl) rfl kX4 fX4_29 dX4_implicit_9 ?_
    refine z_iload_n dX4_implicit_12 rfl rfl ?_
    obtain ⟨q5a, q5b, hw⟩ := hw
    have q6 : iv (-2147483648) 2147483647 (S1.2 30 (a1)) := hW.iA 30 _
    have hw := hw q6
    refine v_iald hW (hT 30 _ rfl) q5a q5b (by decide) dX4_implicit_13 ?_
    refine z_goto (tgt := 18) dX4_implicit_14 (by decide) ?_
    exact z_ireturn dX4_implicit_18 rfl rfl (hP _ _ _ hw hW)

def wX4_isExplicitList  (a1 a2 : Int) (S : St) (K : Int → St → Prop) : Prop := rng a1 → rng a2 → (wX4_shape (a1) (a2) S (fun r2 S1 => (rng (r2) ∧ ((¬ r2 = 4 → K (0) S1) ∧ ((¬ (¬ r2 = 4)) → (wX4_implicit (a1) S1 (fun r6 S5 => (rng (r6) ∧ ((r6 = a2 → K (0) S5) ∧ ((¬ (r6 = a2)) → K (1) S5))))))))))
set_option maxRecDepth 100000 in
set_option maxHeartbeats 4000000 in
theorem lX4_isExplicitList {G : xG} {v : Nat → Nat} {sh : Nat → Option Sh} {B : Nat × Nat} {c0 : List va_E}  {a1 a2 : Int} {S : St} {cs : List va_E} {K : Int → St → Prop} (d : Nat) (hd : 2 ≤ d) (hT : sb shC sh) (hS : ∀ b x, sh b = some x → ¬ isS b) (hW : Wv G v sh B c0 S cs) (g1 : rng a1) (g2 : rng a2) (hw : wX4_isExplicitList a1 a2 S K) : X G yX4_isExplicitList cX4_isExplicitList 3 (some .boolean) d [.ref (G.1 + v 24), .int (Int32.ofInt a1), .int (Int32.ofInt a2)] cs (vI G v sh B c0 K) := by
  refine X.of false (by decide +kernel) (by decide) (Nat.le_of_ble_eq_true rfl) ?_
  show Z (RX4, cX4_isExplicitList, 3, some .boolean, false) G d _ 0 [(0, .ref (G.1 + v 24)), (1, .int (Int32.ofInt a1)), (2, .int (Int32.ofInt a2))] [] cs
  have hP : ∀ (x : Int) (S : St) (cs : List va_E), K x S → Wv G v sh B c0 S cs → vI G v sh B c0 K (some (.int (Int32.ofInt x))) cs := fun x S cs a b => ⟨x, S, rfl, a, b⟩
  unfold wX4_isExplicitList at hw
  have hw := hw g1 g2
  refine z_aload_n dX4_isExplicitList_0 rfl rfl ?_
  refine z_iload_n dX4_isExplicitList_1 rfl rfl ?_
  refine z_iload_n dX4_isExplicitList_2 rfl rfl ?_
  have hX := lX4_shape 1 (Nat.le_refl _) hT hS hW g1 g2 hw
  refine z_callV (As := [_, _]) eX4_shape sX4_shape lX4_50 rfl dX4_isExplicitList_3 (hW.at (hT 24 _ rfl)) hX (Nat.le_trans (by decide) hd) rfl (Nat.le_of_ble_eq_true rfl) (fun r cs hp => ?_)
  obtain ⟨r2, S1, rfl, hw, hW⟩ := hp
  refine z_st (st' := [.int (Int32.ofInt (r2))]) rfl ?_
  refine z_iconst (v := Int32.ofInt 4) dX4_isExplicitList_6 rfl ?_
  obtain ⟨q4, hw⟩ := hw
  refine i_icmp_ne (tgt := 23) dX4_isExplicitList_7 (by decide) q4 ⟨by decide, by decide⟩ (fun h3 => ?_) (fun h3 => ?_)
  · have hw := hw.1 h3
    refine z_iconst (v := Int32.ofInt 0) dX4_isExplicitList_23 rfl ?_
    exact z_ireturn dX4_isExplicitList_24 rfl (nar01 (by decide)) (hP _ _ _ hw hW)
  · have hw := hw.2 h3
    refine z_aload_n dX4_isExplicitList_10 rfl rfl ?_
    refine z_iload_n dX4_isExplicitList_11 rfl rfl ?_
    have hX := lX4_implicit 1 (Nat.le_refl _) hT hS hW g1 hw
    refine z_callV (As := [_]) eX4_implicit sX4_implicit lX4_54 rfl dX4_isExplicitList_12 (hW.at (hT 24 _ rfl)) hX (Nat.le_trans (by decide) hd) rfl (Nat.le_of_ble_eq_true rfl) (fun r cs hp => ?_)
    obtain ⟨r6, S5, rfl, hw, hW⟩ := hp
    refine z_st (st' := [.int (Int32.ofInt (r6))]) rfl ?_
    refine z_iload_n dX4_isExplicitList_15 rfl rfl ?_
    obtain ⟨q8, hw⟩ := hw
    refine i_icmp_eq (tgt := 23) dX4_isExplicitList_16 (by decide) q8 g2 (fun h7 => ?_) (fun h7 => ?_)
    · have hw := hw.1 h7
      refine z_iconst (v := Int32.ofInt 0) dX4_isExplicitList_23 rfl ?_
      exact z_ireturn dX4_isExplicitList_24 rfl (nar01 (by decide)) (hP _ _ _ hw hW)
    · have hw := hw.2 h7
      refine z_iconst (v := Int32.ofInt 1) dX4_isExplicitList_19 rfl ?_
      refine z_goto (tgt := 24) dX4_isExplicitList_20 (by decide) ?_
      exact z_ireturn dX4_isExplicitList_24 rfl (nar01 (by decide)) (hP _ _ _ hw hW)

def wX4_references  (a1 : Int) (S : St) (K : Int → St → Prop) : Prop := rng a1 → (wX4_isClass (a1) S (fun r2 S1 => (rng (r2) ∧ ((r2 = 0 → K (0) S1) ∧ ((¬ (r2 = 0)) → ((0 : Int) ≤ a1 ∧ a1 < (6 : Int) ∧ (iv (-2147483648) 2147483647 (S1.2 31 (a1)) → K (S1.2 31 (a1)) S1)))))))
set_option maxRecDepth 100000 in
set_option maxHeartbeats 4000000 in
theorem lX4_references {G : xG} {v : Nat → Nat} {sh : Nat → Option Sh} {B : Nat × Nat} {c0 : List va_E}  {a1 : Int} {S : St} {cs : List va_E} {K : Int → St → Prop} (d : Nat) (hd : 1 ≤ d) (hT : sb shC sh) (hS : ∀ b x, sh b = some x → ¬ isS b) (hW : Wv G v sh B c0 S cs) (g1 : rng a1) (hw : wX4_references a1 S K) : X G yX4_references cX4_references 2 (some .int) d [.ref (G.1 + v 24), .int (Int32.ofInt a1)] cs (vI G v sh B c0 K) := by
  refine X.of false (by decide +kernel) (by decide) (Nat.le_of_ble_eq_true rfl) ?_
  show Z (RX4, cX4_references, 2, some .int, false) G d _ 0 [(0, .ref (G.1 + v 24)), (1, .int (Int32.ofInt a1))] [] cs
  have hP : ∀ (x : Int) (S : St) (cs : List va_E), K x S → Wv G v sh B c0 S cs → vI G v sh B c0 K (some (.int (Int32.ofInt x))) cs := fun x S cs a b => ⟨x, S, rfl, a, b⟩
  unfold wX4_references at hw
  have hw := hw g1
  refine z_aload_n dX4_references_0 rfl rfl ?_
  refine z_iload_n dX4_references_1 rfl rfl ?_
  have hX := lX4_isClass 0 (Nat.le_refl _) hT hS hW g1 hw
  refine z_callV (As := [_]) eX4_isClass sX4_isClass lX4_42 rfl dX4_references_2 (hW.at (hT 24 _ rfl)) hX (Nat.le_trans (by decide) hd) rfl (Nat.le_of_ble_eq_true rfl) (fun r cs hp => ?_)
  obtain ⟨r2, S1, rfl, hw, hW⟩ := hp
  refine z_st (st' := [.int (Int32.ofInt (r2))]) rfl ?_
  obtain ⟨q4, hw⟩ := hw
  refine i_if_eq (tgt := 17) dX4_references_5 (by decide) q4 (fun h3 => ?_) (fun h3 => ?_)
  · have hw := hw.1 h3
    refine z_iconst (v := Int32.ofInt 0) dX4_references_17 rfl ?_
    exact z_ireturn dX4_references_18 rfl rfl (hP _ _ _ hw hW)
  · have hw := hw.2 h3
    refine z_aload_n dX4_references_8 rfl rfl ?_
    refine v_getR hW (hT 24 _ rfl) rfl kX4 fX4_32 dX4_references_9 ?_
    refine z_iload_n dX4_references_12 rfl rfl ?_
    obtain ⟨q5a, q5b, hw⟩ := hw
    have q6 : iv (-2147483648) 2147483647 (S1.2 31 (a1)) := hW.iA 31 _
    have hw := hw q6
    refine v_iald hW (hT 31 _ rfl) q5a q5b (by decide) dX4_references_13 ?_
    refine z_goto (tgt := 18) dX4_references_14 (by decide) ?_
    exact z_ireturn dX4_references_18 rfl rfl (hP _ _ _ hw hW)

def wX4_isForbidden  (a1 : Int) (S : St) (K : Int → St → Prop) : Prop := rng a1 → (wX4_isClass (a1) S (fun r2 S1 => (rng (r2) ∧ ((r2 = 0 → K (0) S1) ∧ ((¬ (r2 = 0)) → ((0 : Int) ≤ a1 ∧ a1 < (6 : Int) ∧ (iv 0 1 (S1.2 32 (a1)) → ((S1.2 32 (a1) = 0 → K (0) S1) ∧ ((¬ (S1.2 32 (a1) = 0)) → K (1) S1)))))))))
set_option maxRecDepth 100000 in
set_option maxHeartbeats 4000000 in
theorem lX4_isForbidden {G : xG} {v : Nat → Nat} {sh : Nat → Option Sh} {B : Nat × Nat} {c0 : List va_E}  {a1 : Int} {S : St} {cs : List va_E} {K : Int → St → Prop} (d : Nat) (hd : 1 ≤ d) (hT : sb shC sh) (hS : ∀ b x, sh b = some x → ¬ isS b) (hW : Wv G v sh B c0 S cs) (g1 : rng a1) (hw : wX4_isForbidden a1 S K) : X G yX4_isForbidden cX4_isForbidden 2 (some .boolean) d [.ref (G.1 + v 24), .int (Int32.ofInt a1)] cs (vI G v sh B c0 K) := by
  refine X.of false (by decide +kernel) (by decide) (Nat.le_of_ble_eq_true rfl) ?_
  show Z (RX4, cX4_isForbidden, 2, some .boolean, false) G d _ 0 [(0, .ref (G.1 + v 24)), (1, .int (Int32.ofInt a1))] [] cs
  have hP : ∀ (x : Int) (S : St) (cs : List va_E), K x S → Wv G v sh B c0 S cs → vI G v sh B c0 K (some (.int (Int32.ofInt x))) cs := fun x S cs a b => ⟨x, S, rfl, a, b⟩
  unfold wX4_isForbidden at hw
  have hw := hw g1
  refine z_aload_n dX4_isForbidden_0 rfl rfl ?_
  refine z_iload_n dX4_isForbidden_1 rfl rfl ?_
  have hX := lX4_isClass 0 (Nat.le_refl _) hT hS hW g1 hw
  refine z_callV (As := [_]) eX4_isClass sX4_isClass lX4_42 rfl dX4_isForbidden_2 (hW.at (hT 24 _ rfl)) hX (Nat.le_trans (by decide) hd) rfl (Nat.le_of_ble_eq_true rfl) (fun r cs hp => ?_)
  obtain ⟨r2, S1, rfl, hw, hW⟩ := hp
  refine z_st (st' := [.int (Int32.ofInt (r2))]) rfl ?_
  obtain ⟨q4, hw⟩ := hw
  refine i_if_eq (tgt := 21) dX4_isForbidden_5 (by decide) q4 (fun h3 => ?_) (fun h3 => ?_)
  · have hw := hw.1 h3
    refine z_iconst (v := Int32.ofInt 0) dX4_isForbidden_21 rfl ?_
    exact z_ireturn dX4_isForbidden_22 rfl (nar01 (by decide)) (hP _ _ _ hw hW)
  · have hw := hw.2 h3
    refine z_aload_n dX4_isForbidden_8 rfl rfl ?_
    refine v_getR hW (hT 24 _ rfl) rfl kX4 fX4_35 dX4_isForbidden_9 ?_
    refine z_iload_n dX4_isForbidden_12 rfl rfl ?_
    obtain ⟨q5a, q5b, hw⟩ := hw
    have q6 : iv 0 1 (S1.2 32 (a1)) := hW.iA 32 _
    have hw := hw q6
    refine v_zald hW (hT 32 _ rfl) q5a q5b (by decide) dX4_isForbidden_13 ?_
    refine i_if_eq (tgt := 21) dX4_isForbidden_14 (by decide) (rngq q6 (by decide) (by decide)) (fun h7 => ?_) (fun h7 => ?_)
    · have hw := hw.1 h7
      refine z_iconst (v := Int32.ofInt 0) dX4_isForbidden_21 rfl ?_
      exact z_ireturn dX4_isForbidden_22 rfl (nar01 (by decide)) (hP _ _ _ hw hW)
    · have hw := hw.2 h7
      refine z_iconst (v := Int32.ofInt 1) dX4_isForbidden_17 rfl ?_
      refine z_goto (tgt := 22) dX4_isForbidden_18 (by decide) ?_
      exact z_ireturn dX4_isForbidden_22 rfl (nar01 (by decide)) (hP _ _ _ hw hW)

def wX4_putForbidden  (a1 a2 : Int) (S : St) (K : Int → St → Prop) : Prop := rng a1 → rng a2 → (wX4_isClass (a1) S (fun r2 S1 => (rng (r2) ∧ ((r2 = 0 → K 0 S1) ∧ ((¬ (r2 = 0)) → ((0 : Int) ≤ a1 ∧ a1 < (6 : Int) ∧ (iv 0 1 (a2) ∧ (∀ S6, S6 = pA S1 32 (a1) (a2) → K 0 S6))))))))
set_option maxRecDepth 100000 in
set_option maxHeartbeats 4000000 in
theorem lX4_putForbidden {G : xG} {v : Nat → Nat} {sh : Nat → Option Sh} {B : Nat × Nat} {c0 : List va_E}  {a1 a2 : Int} {S : St} {cs : List va_E} {K : Int → St → Prop} (d : Nat) (hd : 1 ≤ d) (hT : sb shC sh) (hS : ∀ b x, sh b = some x → ¬ isS b) (hW : Wv G v sh B c0 S cs) (g1 : rng a1) (g2 : rng a2) (hw : wX4_putForbidden a1 a2 S K) : X G yX4_putForbidden cX4_putForbidden 3 none d [.ref (G.1 + v 24), .int (Int32.ofInt a1), .int (Int32.ofInt a2)] cs (vV G v sh B c0 K) := by
  refine X.of false (by decide +kernel) (by decide) (Nat.le_of_ble_eq_true rfl) ?_
  show Z (RX4, cX4_putForbidden, 3, none, false) G d _ 0 [(0, .ref (G.1 + v 24)), (1, .int (Int32.ofInt a1)), (2, .int (Int32.ofInt a2))] [] cs
  have hP : ∀ (x : Int) (S : St) (cs : List va_E), K x S → Wv G v sh B c0 S cs → vV G v sh B c0 K (none) cs := fun x S cs a b => ⟨x, S, rfl, a, b⟩
  unfold wX4_putForbidden at hw
  have hw := hw g1 g2
  refine z_aload_n dX4_putForbidden_0 rfl rfl ?_
  refine z_iload_n dX4_putForbidden_1 rfl rfl ?_
  have hX := lX4_isClass 0 (Nat.le_refl _) hT hS hW g1 hw
  refine z_callV (As := [_]) eX4_isClass sX4_isClass lX4_42 rfl dX4_putForbidden_2 (hW.at (hT 24 _ rfl)) hX (Nat.le_trans (by decide) hd) rfl (Nat.le_of_ble_eq_true rfl) (fun r cs hp => ?_)
  obtain ⟨r2, S1, rfl, hw, hW⟩ := hp
  refine z_st (st' := [.int (Int32.ofInt (r2))]) rfl ?_
  obtain ⟨q4, hw⟩ := hw
  refine i_if_eq (tgt := 15) dX4_putForbidden_5 (by decide) q4 (fun h3 => ?_) (fun h3 => ?_)
  · have hw := hw.1 h3
    exact z_return dX4_putForbidden_15 rfl (hP 0 _ _ hw hW)
  · have hw := hw.2 h3
    refine z_aload_n dX4_putForbidden_8 rfl rfl ?_
    refine v_getR hW (hT 24 _ rfl) rfl kX4 fX4_35 dX4_putForbidden_9 ?_
    refine z_iload_n dX4_putForbidden_12 rfl rfl ?_
    refine z_iload_n dX4_putForbidden_13 rfl rfl ?_
    obtain ⟨q5a, q5b, hw⟩ := hw
    obtain ⟨q7, hw⟩ := hw
    refine v_zast hW (hT 32 _ rfl) (by decide) (by unfold isS; decide) q5a q5b (by decide) (b01 q7) q7 dX4_putForbidden_14 (fun cs hW => ?_)
    obtain ⟨S6, hS6⟩ : ∃ x, x = pA S1 32 (a1) (a2) := ⟨_, rfl⟩
    rw [← hS6] at hW
    have hw := hw S6 hS6
    exact z_return dX4_putForbidden_15 rfl (hP 0 _ _ hw hW)

