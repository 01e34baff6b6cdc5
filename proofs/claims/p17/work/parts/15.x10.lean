def wX8_rankAmongItems_87  (l1 l2 l3 l4 : Int) (S : St) (K : Int → St → Prop) (B39 : Int → Int → Int → Int → St → Prop) : Prop := B39 (l1) (l2) (l3) ((l4 + 1)) S
set_option maxRecDepth 100000 in
set_option maxHeartbeats 4000000 in
theorem ubX8_rankAmongItems_87 {G : xG} {v : Nat → Nat} {sh : Nat → Option Sh} {B : Nat × Nat} {c0 : List va_E} {d : Nat} {Post : xP} {l1 l2 l3 l4 : Int} {S : St} {cs : List va_E} {K : Int → St → Prop} {B39 : Int → Int → Int → Int → St → Prop} (hd : 2 ≤ d) (hT : sb shC sh) (hS : ∀ b x, sh b = some x → ¬ isS b) (hU : sb shW sh) (hW : Wv G v sh B c0 S cs) (hP : ∀ (x : Int) (S : St) (cs : List va_E), K x S → Wv G v sh B c0 S cs → Post (some (.int (Int32.ofInt x))) cs) (hB39 : ∀ (l1 : Int) (l2 : Int) (l3 : Int) (l4 : Int) (S : St) (cs : List va_E), B39 l1 l2 l3 l4 S → Wv G v sh B c0 S cs → Z (RX8, cX8_rankAmongItems, 5, some .int, false) G d Post 39 [(0, .ref (G.1 + v 210)), (1, .int (Int32.ofInt (l1))), (2, .int (Int32.ofInt (l2))), (3, .int (Int32.ofInt (l3))), (4, .int (Int32.ofInt (l4)))] [] cs) (hw : wX8_rankAmongItems_87 l1 l2 l3 l4 S K B39) : Z (RX8, cX8_rankAmongItems, 5, some .int, false) G d Post 87 [(0, .ref (G.1 + v 210)), (1, .int (Int32.ofInt (l1))), (2, .int (Int32.ofInt (l2))), (3, .int (Int32.ofInt (l3))), (4, .int (Int32.ofInt (l4)))] [] cs := by
  unfold wX8_rankAmongItems_87 at hw
  refine i_iinc (l := l4) dX8_rankAmongItems_87 rfl (by decide) ?_
  refine z_loc (L' := [(0, .ref (G.1 + v 210)), (1, .int (Int32.ofInt (l1))), (2, .int (Int32.ofInt (l2))), (3, .int (Int32.ofInt (l3))), (4, .int (Int32.ofInt ((l4 + 1))))]) (List.forall_mem_cons.mpr ⟨rfl, (List.forall_mem_cons.mpr ⟨rfl, (List.forall_mem_cons.mpr ⟨rfl, (List.forall_mem_cons.mpr ⟨rfl, (List.forall_mem_cons.mpr ⟨rfl, (fun _ h => nomatch h)⟩)⟩)⟩)⟩)⟩) ?_
  refine z_goto (tgt := 39) dX8_rankAmongItems_90 (by decide) ?_
  refine z_loc (L' := [(0, .ref (G.1 + v 210)), (1, .int (Int32.ofInt (l1))), (2, .int (Int32.ofInt (l2))), (3, .int (Int32.ofInt (l3))), (4, .int (Int32.ofInt ((l4 + 1))))]) (List.forall_mem_cons.mpr ⟨rfl, (List.forall_mem_cons.mpr ⟨rfl, (List.forall_mem_cons.mpr ⟨rfl, (List.forall_mem_cons.mpr ⟨rfl, (List.forall_mem_cons.mpr ⟨rfl, (fun _ h => nomatch h)⟩)⟩)⟩)⟩)⟩) ?_
  exact hB39 _ _ _ _ _ _ hw hW
def wX8_rankAmongItems_39'  (l1 l2 l3 l4 : Int) (S : St) (K : Int → St → Prop) (B39 : Int → Int → Int → Int → St → Prop) : Prop := ((0 : Int) ≤ l1 ∧ l1 < (30 : Int) ∧ (iv 0 7 (S.2 214 (l1)) → (rng (l4) ∧ ((S.2 214 (l1) < l4 → K (l3) S) ∧ ((¬ (S.2 214 (l1) < l4)) → ((0 : Int) ≤ l1 ∧ l1 < (30 : Int) ∧ (iv (-2147483648) 2147483647 (S.2 213 (l1)) → (rng (l2) ∧ (wX1_cell (l2) (S.2 213 (l1)) (l4) S (fun r8 S7 => (rng (r8) ∧ (wX1_classOf (r8) S7 (fun r11 S10 => (rng (l1) ∧ (wX1_classOf (l1) S10 (fun r14 S13 => (rng (r11) ∧ (rng (r14) ∧ ((¬ r11 = r14 → wX8_rankAmongItems_87 (l1) (l2) (l3) (l4) S13 K B39) ∧ ((¬ (¬ r11 = r14)) → wX8_rankAmongItems_87 (l1) (l2) ((l3 + 1)) (l4) S13 K B39))))))))))))))))))))
set_option maxRecDepth 100000 in
set_option maxHeartbeats 4000000 in
theorem ubX8_rankAmongItems_39' {G : xG} {v : Nat → Nat} {sh : Nat → Option Sh} {B : Nat × Nat} {c0 : List va_E} {d : Nat} {Post : xP} {l1 l2 l3 l4 : Int} {S : St} {cs : List va_E} {K : Int → St → Prop} {B39 : Int → Int → Int → Int → St → Prop} (hd : 2 ≤ d) (hT : sb shC sh) (hS : ∀ b x, sh b = some x → ¬ isS b) (hU : sb shW sh) (hW : Wv G v sh B c0 S cs) (hP : ∀ (x : Int) (S : St) (cs : List va_E), K x S → Wv G v sh B c0 S cs → Post (some (.int (Int32.ofInt x))) cs) (hB39 : ∀ (l1 : Int) (l2 : Int) (l3 : Int) (l4 : Int) (S : St) (cs : List va_E), B39 l1 l2 l3 l4 S → Wv G v sh B c0 S cs → Z (RX8, cX8_rankAmongItems, 5, some .int, false) G d Post 39 [(0, .ref (G.1 + v 210)), (1, .int (Int32.ofInt (l1))), (2, .int (Int32.ofInt (l2))), (3, .int (Int32.ofInt (l3))), (4, .int (Int32.ofInt (l4)))] [] cs) (hw : wX8_rankAmongItems_39' l1 l2 l3 l4 S K B39) : Z (RX8, cX8_rankAmongItems, 5, some .int, false) G d Post 39 [(0, .ref (G.1 + v 210)), (1, .int (Int32.ofInt (l1))), (2, .int (Int32.ofInt (l2))), (3, .int (Int32.ofInt (l3))), (4, .int (Int32.ofInt (l4)))] [] cs := by
  unfold wX8_rankAmongItems_39' at hw
  refine z_iload dX8_rankAmongItems_39 rfl ?_
  refine z_aload_n dX8_rankAmongItems_41 rfl rfl ?_
  refine v_getR hW (hU 210 _ rfl) rfl kX8 fX8_21 dX8_rankAmongItems_42 ?_
  refine z_iload_n dX8_rankAmongItems_45 rfl rfl ?_
  obtain ⟨q1a, q1b, hw⟩ := hw
  have q2 : iv 0 7 (S.2 214 (l1)) := hW.iA 214 _
  have hw := hw q2
  refine v_iald hW (hU 214 _ rfl) q1a q1b (by decide) dX8_rankAmongItems_46 ?_
  obtain ⟨q4, hw⟩ := hw
  refine i_icmp_gt (tgt := 93) dX8_rankAmongItems_47 (by decide) q4 (rngq q2 (by decide) (by decide)) (fun h3 => ?_) (fun h3 => ?_)
  · have hw := hw.1 h3
    refine z_iload_n dX8_rankAmongItems_93 rfl rfl ?_
    exact z_ireturn dX8_rankAmongItems_94 rfl rfl (hP _ _ _ hw hW)
  · have hw := hw.2 h3
    refine z_aload_n dX8_rankAmongItems_50 rfl rfl ?_
    refine v_getR hW (hU 210 _ rfl) rfl kX8 fX8_42 dX8_rankAmongItems_51 ?_
    refine z_aload_n dX8_rankAmongItems_54 rfl rfl ?_
    refine v_getR hW (hU 210 _ rfl) rfl kX8 fX8_42 dX8_rankAmongItems_55 ?_
    refine z_iload_n dX8_rankAmongItems_58 rfl rfl ?_
    refine z_aload_n dX8_rankAmongItems_59 rfl rfl ?_
    refine v_getR hW (hU 210 _ rfl) rfl kX8 fX8_18 dX8_rankAmongItems_60 ?_
    refine z_iload_n dX8_rankAmongItems_63 rfl rfl ?_
    obtain ⟨q5a, q5b, hw⟩ := hw
    have q6 : iv (-2147483648) 2147483647 (S.2 213 (l1)) := hW.iA 213 _
    have hw := hw q6
    refine v_iald hW (hU 213 _ rfl) q5a q5b (by decide) dX8_rankAmongItems_64 ?_
    refine z_iload dX8_rankAmongItems_65 rfl ?_
    obtain ⟨q9, hw⟩ := hw
    have hX := lX1_cell 1 (Nat.le_refl _) hT hS hW q9 (rngq q6 (by decide) (by decide)) q4 hw
    refine z_callV (As := [_, _, _]) eX1_cell sX1_cell lX8_158 rfl dX8_rankAmongItems_67 (hW.at (hT 42 _ rfl)) hX (Nat.le_trans (by decide) hd) rfl (Nat.le_of_ble_eq_true rfl) (fun r cs hp => ?_)
    obtain ⟨r8, S7, rfl, hw, hW⟩ := hp
    refine z_st (st' := [.int (Int32.ofInt (r8)), .ref (G.1 + v 42)]) rfl ?_
    obtain ⟨q12, hw⟩ := hw
    have hX := lX1_classOf 1 (Nat.le_refl _) hT hS hW q12 hw
    refine z_callV (As := [_]) eX1_classOf sX1_classOf lX8_99 rfl dX8_rankAmongItems_70 (hW.at (hT 42 _ rfl)) hX (Nat.le_trans (by decide) hd) rfl (Nat.le_of_ble_eq_true rfl) (fun r cs hp => ?_)
    obtain ⟨r11, S10, rfl, hw, hW⟩ := hp
    refine z_st (st' := [.int (Int32.ofInt (r11))]) rfl ?_
    refine z_aload_n dX8_rankAmongItems_73 rfl rfl ?_
    refine v_getR hW (hU 210 _ rfl) rfl kX8 fX8_42 dX8_rankAmongItems_74 ?_
    refine z_iload_n dX8_rankAmongItems_77 rfl rfl ?_
    obtain ⟨q15, hw⟩ := hw
    have hX := lX1_classOf 1 (Nat.le_refl _) hT hS hW q15 hw
    refine z_callV (As := [_]) eX1_classOf sX1_classOf lX8_99 rfl dX8_rankAmongItems_78 (hW.at (hT 42 _ rfl)) hX (Nat.le_trans (by decide) hd) rfl (Nat.le_of_ble_eq_true rfl) (fun r cs hp => ?_)
    obtain ⟨r14, S13, rfl, hw, hW⟩ := hp
    refine z_st (st' := [.int (Int32.ofInt (r14)), .int (Int32.ofInt (r11))]) rfl ?_
    obtain ⟨q17, hw⟩ := hw
    obtain ⟨q18, hw⟩ := hw
    refine i_icmp_ne (tgt := 87) dX8_rankAmongItems_81 (by decide) q17 q18 (fun h16 => ?_) (fun h16 => ?_)
    · have hw := hw.1 h16
      refine z_loc (L' := [(0, .ref (G.1 + v 210)), (1, .int (Int32.ofInt (l1))), (2, .int (Int32.ofInt (l2))), (3, .int (Int32.ofInt (l3))), (4, .int (Int32.ofInt (l4)))]) (List.forall_mem_cons.mpr ⟨rfl, (List.forall_mem_cons.mpr ⟨rfl, (List.forall_mem_cons.mpr ⟨rfl, (List.forall_mem_cons.mpr ⟨rfl, (List.forall_mem_cons.mpr ⟨rfl, (fun _ h => nomatch h)⟩)⟩)⟩)⟩)⟩) ?_
      exact ubX8_rankAmongItems_87 hd hT hS hU hW hP hB39 hw
    · have hw := hw.2 h16
      refine i_iinc (l := l3) dX8_rankAmongItems_84 rfl (by decide) ?_
      refine z_loc (L' := [(0, .ref (G.1 + v 210)), (1, .int (Int32.ofInt (l1))), (2, .int (Int32.ofInt (l2))), (3, .int (Int32.ofInt ((l3 + 1)))), (4, .int (Int32.ofInt (l4)))]) (List.forall_mem_cons.mpr ⟨rfl, (List.forall_mem_cons.mpr ⟨rfl, (List.forall_mem_cons.mpr ⟨rfl, (List.forall_mem_cons.mpr ⟨rfl, (List.forall_mem_cons.mpr ⟨rfl, (fun _ h => nomatch h)⟩)⟩)⟩)⟩)⟩) ?_
      refine z_loc (L' := [(0, .ref (G.1 + v 210)), (1, .int (Int32.ofInt (l1))), (2, .int (Int32.ofInt (l2))), (3, .int (Int32.ofInt ((l3 + 1)))), (4, .int (Int32.ofInt (l4)))]) (List.forall_mem_cons.mpr ⟨rfl, (List.forall_mem_cons.mpr ⟨rfl, (List.forall_mem_cons.mpr ⟨rfl, (List.forall_mem_cons.mpr ⟨rfl, (List.forall_mem_cons.mpr ⟨rfl, (fun _ h => nomatch h)⟩)⟩)⟩)⟩)⟩) ?_
      exact ubX8_rankAmongItems_87 hd hT hS hU hW hP hB39 hw
def wX8_rankAmongItems_39  (l1 l2 l3 l4 : Int) (S : St) (K : Int → St → Prop) : Prop := ∃ (Iv : Int → Int → Int → Int → St → Prop) (mu : Int → Int → Int → Int → St → Nat), Iv l1 l2 l3 l4 S ∧ ∀ (l1 l2 l3 l4 : Int) (S : St), Iv l1 l2 l3 l4 S → wX8_rankAmongItems_39' l1 l2 l3 l4 S K  (fun ml1 ml2 ml3 ml4 T => Iv ml1 ml2 ml3 ml4 T ∧ mu ml1 ml2 ml3 ml4 T < mu l1 l2 l3 l4 S)
set_option maxRecDepth 100000 in
set_option maxHeartbeats 4000000 in
theorem ubX8_rankAmongItems_39 {G : xG} {v : Nat → Nat} {sh : Nat → Option Sh} {B : Nat × Nat} {c0 : List va_E} {d : Nat} {Post : xP} {l1 l2 l3 l4 : Int} {S : St} {cs : List va_E} {K : Int → St → Prop} (hd : 2 ≤ d) (hT : sb shC sh) (hS : ∀ b x, sh b = some x → ¬ isS b) (hU : sb shW sh) (hW : Wv G v sh B c0 S cs) (hP : ∀ (x : Int) (S : St) (cs : List va_E), K x S → Wv G v sh B c0 S cs → Post (some (.int (Int32.ofInt x))) cs)  (hw : wX8_rankAmongItems_39 l1 l2 l3 l4 S K ) : Z (RX8, cX8_rankAmongItems, 5, some .int, false) G d Post 39 [(0, .ref (G.1 + v 210)), (1, .int (Int32.ofInt (l1))), (2, .int (Int32.ofInt (l2))), (3, .int (Int32.ofInt (l3))), (4, .int (Int32.ofInt (l4)))] [] cs := by
  unfold wX8_rankAmongItems_39 at hw
  obtain ⟨Iv, mu, h0, hs⟩ := hw
  have key : ∀ (n : Nat) (l1 l2 l3 l4 : Int) (S : St) (cs : List va_E), mu l1 l2 l3 l4 S < n → Iv l1 l2 l3 l4 S → Wv G v sh B c0 S cs → Z (RX8, cX8_rankAmongItems, 5, some .int, false) G d Post 39 [(0, .ref (G.1 + v 210)), (1, .int (Int32.ofInt (l1))), (2, .int (Int32.ofInt (l2))), (3, .int (Int32.ofInt (l3))), (4, .int (Int32.ofInt (l4)))] [] cs := by
    intro n
    induction n with
    | zero => intro l1 l2 l3 l4 S cs hn; exact absurd hn (Nat.not_lt_zero _)
    | succ n ih =>
      intro l1 l2 l3 l4 S cs hn hI hW
      exact ubX8_rankAmongItems_39' hd hT hS hU hW hP  (fun l1 l2 l3 l4 S cs hb hW => ih l1 l2 l3 l4 S cs (Nat.lt_of_lt_of_le hb.2 (Nat.le_of_lt_succ hn)) hb.1 hW) (hs l1 l2 l3 l4 S hI)
  exact key _ _ _ _ _ _ _ (Nat.lt_succ_self _) h0 hW
def wX8_rankAmongItems  (a1 : Int) (S : St) (K : Int → St → Prop) : Prop := rng a1 → ((0 : Int) ≤ a1 ∧ a1 < (30 : Int) ∧ (iv (-2147483648) 2147483647 (S.2 212 (a1)) → (∀ x3 : Int, x3 = S.2 212 (a1) → (wX1_classOf (x3) S (fun r7 S6 => ((0 : Int) ≤ a1 ∧ a1 < (30 : Int) ∧ (iv (-2147483648) 2147483647 (S6.2 213 (a1)) → (rng (r7) ∧ (wX4_shape (r7) (S6.2 213 (a1)) S6 (fun r11 S10 => (rng (r11) ∧ ((r11 = 4 → wX8_rankAmongItems_39 (a1) (x3) (0) (0) S10 K) ∧ ((¬ (r11 = 4)) → K (0) S10)))))))))))))
set_option maxRecDepth 100000 in
set_option maxHeartbeats 4000000 in
theorem lX8_rankAmongItems {G : xG} {v : Nat → Nat} {sh : Nat → Option Sh} {B : Nat × Nat} {c0 : List va_E}  {a1 : Int} {S : St} {cs : List va_E} {K : Int → St → Prop} (d : Nat) (hd : 2 ≤ d) (hT : sb shC sh) (hS : ∀ b x, sh b = some x → ¬ isS b) (hU : sb shW sh) (hW : Wv G v sh B c0 S cs) (g1 : rng a1) (hw : wX8_rankAmongItems a1 S K) : X G yX8_rankAmongItems cX8_rankAmongItems 5 (some .int) d [.ref (G.1 + v 210), .int (Int32.ofInt a1)] cs (vI G v sh B c0 K) := by
  refine X.of false (by decide +kernel) (by decide) (Nat.le_of_ble_eq_true rfl) ?_
  show Z (RX8, cX8_rankAmongItems, 5, some .int, false) G d _ 0 [(0, .ref (G.1 + v 210)), (1, .int (Int32.ofInt a1))] [] cs
  have hP : ∀ (x : Int) (S : St) (cs : List va_E), K x S → Wv G v sh B c0 S cs → vI G v sh B c0 K (some (.int (Int32.ofInt x))) cs := fun x S cs a b => ⟨x, S, rfl, a, b⟩
  unfold wX8_rankAmongItems at hw
  have hw := hw g1
  refine z_aload_n dX8_rankAmongItems_0 rfl rfl ?_
  refine v_getR hW (hU 210 _ rfl) rfl kX8 fX8_15 dX8_rankAmongItems_1 ?_
  refine z_iload_n dX8_rankAmongItems_4 rfl rfl ?_
  obtain ⟨q1a, q1b, hw⟩ := hw
  have q2 : iv (-2147483648) 2147483647 (S.2 212 (a1)) := hW.iA 212 _
  have hw := hw q2
  refine v_iald hW (hU 212 _ rfl) q1a q1b (by decide) dX8_rankAmongItems_5 ?_
  obtain ⟨x3, hx3⟩ : ∃ x : Int, x = S.2 212 (a1) := ⟨_, rfl⟩
  have hw := hw x3 hx3
  refine z_st (st' := [.int (Int32.ofInt x3)]) (by rw [hx3]) ?_
  have q4 : rng x3 := by rw [hx3]; exact (rngq q2 (by decide) (by decide))
  have q5 : iv (-2147483648) 2147483647 x3 := by rw [hx3]; exact q2
  refine z_istore_n dX8_rankAmongItems_6 rfl (by decide) ?_
  refine z_loc (L' := [(0, .ref (G.1 + v 210)), (1, .int (Int32.ofInt (a1))), (2, .int (Int32.ofInt (x3)))]) (List.forall_mem_cons.mpr ⟨rfl, (List.forall_mem_cons.mpr ⟨rfl, (List.forall_mem_cons.mpr ⟨rfl, (fun _ h => nomatch h)⟩)⟩)⟩) ?_
  refine z_aload_n dX8_rankAmongItems_7 rfl rfl ?_
  refine v_getR hW (hU 210 _ rfl) rfl kX8 fX8_38 dX8_rankAmongItems_8 ?_
  refine z_aload_n dX8_rankAmongItems_11 rfl rfl ?_
  refine v_getR hW (hU 210 _ rfl) rfl kX8 fX8_42 dX8_rankAmongItems_12 ?_
  refine z_iload_n dX8_rankAmongItems_15 rfl rfl ?_
  have hX := lX1_classOf 1 (Nat.le_refl _) hT hS hW q4 hw
  refine z_callV (As := [_]) eX1_classOf sX1_classOf lX8_99 rfl dX8_rankAmongItems_16 (hW.at (hT 42 _ rfl)) hX (Nat.le_trans (by decide) hd) rfl (Nat.le_of_ble_eq_true rfl) (fun r cs hp => ?_)
  obtain ⟨r7, S6, rfl, hw, hW⟩ := hp
  refine z_st (st' := [.int (Int32.ofInt (r7)), .ref (G.1 + v 24)]) rfl ?_
  refine z_aload_n dX8_rankAmongItems_19 rfl rfl ?_
  refine v_getR hW (hU 210 _ rfl) rfl kX8 fX8_18 dX8_rankAmongItems_20 ?_
  refine z_iload_n dX8_rankAmongItems_23 rfl rfl ?_
  obtain ⟨q8a, q8b, hw⟩ := hw
  have q9 : iv (-2147483648) 2147483647 (S6.2 213 (a1)) := hW.iA 213 _
  have hw := hw q9
  refine v_iald hW (hU 213 _ rfl) q8a q8b (by decide) dX8_rankAmongItems_24 ?_
  obtain ⟨q12, hw⟩ := hw
  have hX := lX4_shape 1 (Nat.le_refl _) hT hS hW q12 (rngq q9 (by decide) (by decide)) hw
  refine z_callV (As := [_, _]) eX4_shape sX4_shape lX8_103 rfl dX8_rankAmongItems_25 (hW.at (hT 24 _ rfl)) hX (Nat.le_trans (by decide) hd) rfl (Nat.le_of_ble_eq_true rfl) (fun r cs hp => ?_)
  obtain ⟨r11, S10, rfl, hw, hW⟩ := hp
  refine z_st (st' := [.int (Int32.ofInt (r11))]) rfl ?_
  refine z_iconst (v := Int32.ofInt 4) dX8_rankAmongItems_28 rfl ?_
  obtain ⟨q14, hw⟩ := hw
  refine i_icmp_eq (tgt := 34) dX8_rankAmongItems_29 (by decide) q14 ⟨by decide, by decide⟩ (fun h13 => ?_) (fun h13 => ?_)
  · have hw := hw.1 h13
    refine z_iconst (v := Int32.ofInt 0) dX8_rankAmongItems_34 rfl ?_
    refine z_istore_n dX8_rankAmongItems_35 rfl (by decide) ?_
    refine z_loc (L' := [(0, .ref (G.1 + v 210)), (1, .int (Int32.ofInt (a1))), (2, .int (Int32.ofInt (x3))), (3, .int (Int32.ofInt (0)))]) (List.forall_mem_cons.mpr ⟨rfl, (List.forall_mem_cons.mpr ⟨rfl, (List.forall_mem_cons.mpr ⟨rfl, (List.forall_mem_cons.mpr ⟨rfl, (fun _ h => nomatch h)⟩)⟩)⟩)⟩) ?_
    refine z_iconst (v := Int32.ofInt 0) dX8_rankAmongItems_36 rfl ?_
    refine z_istore dX8_rankAmongItems_37 (by decide) ?_
    refine z_loc (L' := [(0, .ref (G.1 + v 210)), (1, .int (Int32.ofInt (a1))), (2, .int (Int32.ofInt (x3))), (3, .int (Int32.ofInt (0))), (4, .int (Int32.ofInt (0)))]) (List.forall_mem_cons.mpr ⟨rfl, (List.forall_mem_cons.mpr ⟨rfl, (List.forall_mem_cons.mpr ⟨rfl, (List.forall_mem_cons.mpr ⟨rfl, (List.forall_mem_cons.mpr ⟨rfl, (fun _ h => nomatch h)⟩)⟩)⟩)⟩)⟩) ?_
    refine z_loc (L' := [(0, .ref (G.1 + v 210)), (1, .int (Int32.ofInt (a1))), (2, .int (Int32.ofInt (x3))), (3, .int (Int32.ofInt (0))), (4, .int (Int32.ofInt (0)))]) (List.forall_mem_cons.mpr ⟨rfl, (List.forall_mem_cons.mpr ⟨rfl, (List.forall_mem_cons.mpr ⟨rfl, (List.forall_mem_cons.mpr ⟨rfl, (List.forall_mem_cons.mpr ⟨rfl, (fun _ h => nomatch h)⟩)⟩)⟩)⟩)⟩) ?_
    exact ubX8_rankAmongItems_39 hd hT hS hU hW hP  hw
  · have hw := hw.2 h13
    refine z_iconst (v := Int32.ofInt 0) dX8_rankAmongItems_32 rfl ?_
    exact z_ireturn dX8_rankAmongItems_33 rfl rfl (hP _ _ _ hw hW)

def wX8_step  (a1 : Int) (S : St) (K : Int → St → Prop) : Prop := rng a1 → (wX1_has (a1) S (fun r2 S1 => (rng (r2) ∧ ((¬ r2 = 0 → ((0 : Int) ≤ a1 ∧ a1 < (30 : Int) ∧ (iv (-2147483648) 2147483647 (S1.2 212 (a1)) → ((0 : Int) ≤ a1 ∧ a1 < (30 : Int) ∧ (iv (-2147483648) 2147483647 (S1.2 213 (a1)) → (wX8_nameOf (a1) (S1.2 212 (a1)) (S1.2 213 (a1)) S1 (fun r10 S9 => (rng (r10) ∧ (wX4_spellTo (r10) S9 (fun r12 S11 => (wX8_rankAmongItems (a1) S11 (fun r15 S14 => (rng (r15) ∧ ((r15 ≤ 1 → K 0 S14) ∧ ((¬ (r15 ≤ 1)) → (wX5_put 22 (91) S14 (fun r19 S18 => (wX8_number (r15) S18 (fun r21 S20 => (wX5_put 22 (93) S20 (fun r23 S22 => K 0 S22))))))))))))))))))))) ∧ ((¬ (¬ r2 = 0)) → (rng ((a1 - 30)) ∧ (rng ((if 0 < (a1 - 30) then (a1 - 30) else 0)) ∧ (rng ((Int.tdiv ((if 0 < (a1 - 30) then (a1 - 30) else 0)) (4))) ∧ (wX1_classOf ((Int.tdiv ((if 0 < (a1 - 30) then (a1 - 30) else 0)) (4))) S1 (fun r27 S26 => (rng (r27) ∧ (rng (((if 0 < (a1 - 30) then (a1 - 30) else 0) - Int.tdiv ((if 0 < (a1 - 30) then (a1 - 30) else 0)) (4) * 4)) ∧ (wX4_fieldName (r27) (((if 0 < (a1 - 30) then (a1 - 30) else 0) - Int.tdiv ((if 0 < (a1 - 30) then (a1 - 30) else 0)) (4) * 4)) S26 (fun r30 S29 => (rng (r30) ∧ (wX4_spellTo (r30) S29 (fun r34 S33 => K 0 S33)))))))))))))))))
set_option maxRecDepth 100000 in
set_option maxHeartbeats 4000000 in
theorem lX8_step {G : xG} {v : Nat → Nat} {sh : Nat → Option Sh} {B : Nat × Nat} {c0 : List va_E}  {a1 : Int} {S : St} {cs : List va_E} {K : Int → St → Prop} (d : Nat) (hd : 3 ≤ d) (hT : sb shC sh) (hS : ∀ b x, sh b = some x → ¬ isS b) (hU : sb shW sh) (hW : Wv G v sh B c0 S cs) (g1 : rng a1) (hw : wX8_step a1 S K) : X G yX8_step cX8_step 3 none d [.ref (G.1 + v 210), .int (Int32.ofInt a1)] cs (vV G v sh B c0 K) := by
  refine X.of false (by decide +kernel) (by decide) (Nat.le_of_ble_eq_true rfl) ?_
  show Z (RX8, cX8_step, 3, none, false) G d _ 0 [(0, .ref (G.1 + v 210)), (1, .int (Int32.ofInt a1))] [] cs
  have hP : ∀ (x : Int) (S : St) (cs : List va_E), K x S → Wv G v sh B c0 S cs → vV G v sh B c0 K (none) cs := fun x S cs a b => ⟨x, S, rfl, a, b⟩
  unfold wX8_step at hw
  have hw := hw g1
  refine z_aload_n dX8_step_0 rfl rfl ?_
  refine v_getR hW (hU 210 _ rfl) rfl kX8 fX8_42 dX8_step_1 ?_
  refine z_iload_n dX8_step_4 rfl rfl ?_
  have hX := lX1_has 0 (Nat.le_refl _) hT hS hW g1 hw
  refine z_callV (As := [_]) eX1_has sX1_has lX8_62 rfl dX8_step_5 (hW.at (hT 42 _ rfl)) hX (Nat.le_trans (by decide) hd) rfl (Nat.le_of_ble_eq_true rfl) (fun r cs hp => ?_)
  obtain ⟨r2, S1, rfl, hw, hW⟩ := hp
  refine z_st (st' := [.int (Int32.ofInt (r2))]) rfl ?_
  obtain ⟨q4, hw⟩ := hw
  refine i_if_ne (tgt := 48) dX8_step_8 (by decide) q4 (fun h3 => ?_) (fun h3 => ?_)
  · have hw := hw.1 h3
    refine z_aload_n dX8_step_48 rfl rfl ?_
    refine v_getR hW (hU 210 _ rfl) rfl kX8 fX8_38 dX8_step_49 ?_
    refine z_aload_n dX8_step_52 rfl rfl ?_
    refine v_getR hW (hU 210 _ rfl) rfl kX8 fX8_46 dX8_step_53 ?_
    refine z_aload_n dX8_step_56 rfl rfl ?_
    refine z_iload_n dX8_step_57 rfl rfl ?_
    refine z_aload_n dX8_step_58 rfl rfl ?_
    refine v_getR hW (hU 210 _ rfl) rfl kX8 fX8_15 dX8_step_59 ?_
    refine z_iload_n dX8_step_62 rfl rfl ?_
    obtain ⟨q5a, q5b, hw⟩ := hw
    have q6 : iv (-2147483648) 2147483647 (S1.2 212 (a1)) := hW.iA 212 _
    have hw := hw q6
    refine v_iald hW (hU 212 _ rfl) q5a q5b (by decide) dX8_step_63 ?_
    refine z_aload_n dX8_step_64 rfl rfl ?_
    refine v_getR hW (hU 210 _ rfl) rfl kX8 fX8_18 dX8_step_65 ?_
    refine z_iload_n dX8_step_68 rfl rfl ?_
    obtain ⟨q7a, q7b, hw⟩ := hw
    have q8 : iv (-2147483648) 2147483647 (S1.2 213 (a1)) := hW.iA 213 _
    have hw := hw q8
    refine v_iald hW (hU 213 _ rfl) q7a q7b (by decide) dX8_step_69 ?_
    have hX := lX8_nameOf 2 (Nat.le_refl _) hT hS hU hW g1 (rngq q6 (by decide) (by decide)) (rngq q8 (by decide) (by decide)) hw
    refine z_callV (As := [_, _, _]) eX8_nameOf sX8_nameOf lX8_72 rfl dX8_step_70 (hW.at (hU 210 _ rfl)) hX (Nat.le_trans (by decide) hd) rfl (Nat.le_of_ble_eq_true rfl) (fun r cs hp => ?_)
    obtain ⟨r10, S9, rfl, hw, hW⟩ := hp
    refine z_st (st' := [.int (Int32.ofInt (r10)), .ref (G.1 + v 22), .ref (G.1 + v 24)]) rfl ?_
    obtain ⟨q13, hw⟩ := hw
    have hX := lX4_spellTo 2 (Nat.le_refl _) hT hS hW q13 hw
    refine z_callV (As := [_, _]) eX4_spellTo sX4_spellTo lX8_112 rfl dX8_step_73 (hW.at (hT 24 _ rfl)) hX (Nat.le_trans (by decide) hd) rfl (Nat.le_of_ble_eq_true rfl) (fun r cs hp => ?_)
    obtain ⟨r12, S11, rfl, hw, hW⟩ := hp
    refine z_st (st' := []) rfl ?_
    refine z_aload_n dX8_step_76 rfl rfl ?_
    refine z_iload_n dX8_step_77 rfl rfl ?_
    have hX := lX8_rankAmongItems 2 (Nat.le_refl _) hT hS hU hW g1 hw
    refine z_callV (As := [_]) eX8_rankAmongItems sX8_rankAmongItems lX8_214 rfl dX8_step_78 (hW.at (hU 210 _ rfl)) hX (Nat.le_trans (by decide) hd) rfl (Nat.le_of_ble_eq_true rfl) (fun r cs hp => ?_)
    obtain ⟨r15, S14, rfl, hw, hW⟩ := hp
    refine z_st (st' := [.int (Int32.ofInt (r15))]) rfl ?_
    refine z_istore_n dX8_step_81 rfl (by decide) ?_
    refine z_loc (L' := [(0, .ref (G.1 + v 210)), (1, .int (Int32.ofInt (a1))), (2, .int (Int32.ofInt (r15)))]) (List.forall_mem_cons.mpr ⟨rfl, (List.forall_mem_cons.mpr ⟨rfl, (List.forall_mem_cons.mpr ⟨rfl, (fun _ h => nomatch h)⟩)⟩)⟩) ?_
    refine z_iload_n dX8_step_82 rfl rfl ?_
    refine z_iconst (v := Int32.ofInt 1) dX8_step_83 rfl ?_
    obtain ⟨q17, hw⟩ := hw
    refine i_icmp_le (tgt := 112) dX8_step_84 (by decide) q17 ⟨by decide, by decide⟩ (fun h16 => ?_) (fun h16 => ?_)
    · have hw := hw.1 h16
      exact z_return dX8_step_112 rfl (hP 0 _ _ hw hW)
    · have hw := hw.2 h16
      refine z_aload_n dX8_step_87 rfl rfl ?_
      refine v_getR hW (hU 210 _ rfl) rfl kX8 fX8_46 dX8_step_88 ?_
      refine z_bipush (v := Int32.ofInt 91) dX8_step_91 (by decide) ?_
      have hX := lX5_put 1 (Nat.le_refl _) hW (show isS 22 by unfold isS; decide) (fun b x h e => hS b x h (e ▸ (show isS 22 by unfold isS; decide))) ⟨by decide, by decide⟩ hw
      refine z_callV (As := [_]) eX5_put sX5_put lX8_89 rfl dX8_step_93 (hW.sg (show isS 22 by unfold isS; decide) (fun b x h e => hS b x h (e ▸ (show isS 22 by unfold isS; decide)))).choose_spec.choose_spec.choose_spec.choose_spec.1.choose_spec.1 hX (Nat.le_trans (by decide) hd) rfl (Nat.le_of_ble_eq_true rfl) (fun r cs hp => ?_)
      obtain ⟨r19, S18, rfl, hw, hW⟩ := hp
      refine z_st (st' := [.int (Int32.ofInt (r19))]) rfl ?_
      refine z_pop dX8_step_96 rfl ?_
      refine z_aload_n dX8_step_97 rfl rfl ?_
      refine z_iload_n dX8_step_98 rfl rfl ?_
      have hX := lX8_number 2 (Nat.le_refl _) hT hS hU hW q17 hw
      refine z_callV (As := [_]) eX8_number sX8_number lX8_123 rfl dX8_step_99 (hW.at (hU 210 _ rfl)) hX (Nat.le_trans (by decide) hd) rfl (Nat.le_of_ble_eq_true rfl) (fun r cs hp => ?_)
      obtain ⟨r21, S20, rfl, hw, hW⟩ := hp
      refine z_st (st' := []) rfl ?_
      refine z_aload_n dX8_step_102 rfl rfl ?_
      refine v_getR hW (hU 210 _ rfl) rfl kX8 fX8_46 dX8_step_103 ?_
      refine z_bipush (v := Int32.ofInt 93) dX8_step_106 (by decide) ?_
      have hX := lX5_put 1 (Nat.le_refl _) hW (show isS 22 by unfold isS; decide) (fun b x h e => hS b x h (e ▸ (show isS 22 by unfold isS; decide))) ⟨by decide, by decide⟩ hw
      refine z_callV (As := [_]) eX5_put sX5_put lX8_89 rfl dX8_step_108 (hW.sg (show isS 22 by unfold isS; decide) (fun b x h e => hS b x h (e ▸ (show isS 22 by unfold isS; decide)))).choose_spec.choose_spec.choose_spec.choose_spec.1.choose_spec.1 hX (Nat.le_trans (by decide) hd) rfl (Nat.le_of_ble_eq_true rfl) (fun r cs hp => ?_)
      obtain ⟨r23, S22, rfl, hw, hW⟩ := hp
      refine z_st (st' := [.int (Int32.ofInt (r23))]) rfl ?_
      refine z_pop dX8_step_111 rfl ?_
      exact z_return dX8_step_112 rfl (hP 0 _ _ hw hW)
  · have hw := hw.2 h3
    refine z_iconst (v := Int32.ofInt 0) dX8_step_11 rfl ?_
    refine z_iload_n dX8_step_12 rfl rfl ?_
    refine z_bipush (v := Int32.ofInt 30) dX8_step_13 (by decide) ?_
    refine i_isub dX8_step_15 ?_
    obtain ⟨q24, hw⟩ := hw
    refine v_mmax lX8_211 sJ9_max_7cf53 bJ9 dX8_step_16 (Nat.le_trans (by decide) hd) (Nat.le_of_ble_eq_true rfl) ⟨by decide, by decide⟩ q24 ?_
    refine z_istore_n dX8_step_19 rfl (by decide) ?_
    refine z_loc (L' := [(0, .ref (G.1 + v 210)), (1, .int (Int32.ofInt (a1))), (2, .int (Int32.ofInt ((if 0 < (a1 - 30) then (a1 - 30) else 0))))]) (List.forall_mem_cons.mpr ⟨rfl, (List.forall_mem_cons.mpr ⟨rfl, (List.forall_mem_cons.mpr ⟨rfl, (fun _ h => nomatch h)⟩)⟩)⟩) ?_
    refine z_aload_n dX8_step_20 rfl rfl ?_
    refine v_getR hW (hU 210 _ rfl) rfl kX8 fX8_38 dX8_step_21 ?_
    refine z_aload_n dX8_step_24 rfl rfl ?_
    refine v_getR hW (hU 210 _ rfl) rfl kX8 fX8_46 dX8_step_25 ?_
    refine z_aload_n dX8_step_28 rfl rfl ?_
    refine v_getR hW (hU 210 _ rfl) rfl kX8 fX8_42 dX8_step_29 ?_
    refine z_iload_n dX8_step_32 rfl rfl ?_
    refine z_iconst (v := Int32.ofInt 4) dX8_step_33 rfl ?_
    obtain ⟨q25, hw⟩ := hw
    refine i_idiv dX8_step_34 (by decide) q25 ⟨by decide, by decide⟩ ?_
    obtain ⟨q28, hw⟩ := hw
    have hX := lX1_classOf 1 (Nat.le_refl _) hT hS hW q28 hw
    refine z_callV (As := [_]) eX1_classOf sX1_classOf lX8_99 rfl dX8_step_35 (hW.at (hT 42 _ rfl)) hX (Nat.le_trans (by decide) hd) rfl (Nat.le_of_ble_eq_true rfl) (fun r cs hp => ?_)
    obtain ⟨r27, S26, rfl, hw, hW⟩ := hp
    refine z_st (st' := [.int (Int32.ofInt (r27)), .ref (G.1 + v 22), .ref (G.1 + v 24)]) rfl ?_
    refine z_iload_n dX8_step_38 rfl rfl ?_
    refine z_iconst (v := Int32.ofInt 4) dX8_step_39 rfl ?_
    refine i_irem dX8_step_40 (by decide) q25 ⟨by decide, by decide⟩ ?_
    obtain ⟨q31, hw⟩ := hw
    obtain ⟨q32, hw⟩ := hw
    have hX := lX4_fieldName 0 (Nat.le_refl _) hT hS hW q31 q32 hw
    refine z_callS (As := [_, _]) eX4_fieldName sX4_fieldName lX8_109 dX8_step_41 hX (Nat.le_trans (by decide) hd) rfl (Nat.le_of_ble_eq_true rfl) (fun r cs hp => ?_)
    obtain ⟨r30, S29, rfl, hw, hW⟩ := hp
    refine z_st (st' := [.int (Int32.ofInt (r30)), .ref (G.1 + v 22), .ref (G.1 + v 24)]) rfl ?_
    obtain ⟨q35, hw⟩ := hw
    have hX := lX4_spellTo 2 (Nat.le_refl _) hT hS hW q35 hw
    refine z_callV (As := [_, _]) eX4_spellTo sX4_spellTo lX8_112 rfl dX8_step_44 (hW.at (hT 24 _ rfl)) hX (Nat.le_trans (by decide) hd) rfl (Nat.le_of_ble_eq_true rfl) (fun r cs hp => ?_)
    obtain ⟨r34, S33, rfl, hw, hW⟩ := hp
    refine z_st (st' := []) rfl ?_
    exact z_return dX8_step_47 rfl (hP 0 _ _ hw hW)

def wX8_listElement  (a1 a2 : Int) (S : St) (K : Int → St → Prop) : Prop := rng a1 → rng a2 → K (((30 + (a1 * 4)) + a2)) S
set_option maxRecDepth 100000 in
set_option maxHeartbeats 4000000 in
theorem lX8_listElement {G : xG} {v : Nat → Nat} {sh : Nat → Option Sh} {B : Nat × Nat} {c0 : List va_E}  {a1 a2 : Int} {S : St} {cs : List va_E} {K : Int → St → Prop} (d : Nat) (hd : 0 ≤ d) (hT : sb shC sh) (hS : ∀ b x, sh b = some x → ¬ isS b) (hW : Wv G v sh B c0 S cs) (g1 : rng a1) (g2 : rng a2) (hw : wX8_listElement a1 a2 S K) : X G yX8_listElement cX8_listElement 2 (some .int) d [.int (Int32.ofInt a1), .int (Int32.ofInt a2)] cs (vI G v sh B c0 K) := by
  refine X.of false (by decide +kernel) (by decide) (Nat.le_of_ble_eq_true rfl) ?_
  show Z (RX8, cX8_listElement, 2, some .int, false) G d _ 0 [(0, .int (Int32.ofInt a1)), (1, .int (Int32.ofInt a2))] [] cs
  have hP : ∀ (x : Int) (S : St) (cs : List va_E), K x S → Wv G v sh B c0 S cs → vI G v sh B c0 K (some (.int (Int32.ofInt x))) cs := fun x S cs a b => ⟨x, S, rfl, a, b⟩
  unfold wX8_listElement at hw
  have hw := hw g1 g2
  refine z_bipush (v := Int32.ofInt 30) dX8_listElement_0 (by decide) ?_
  refine z_iload_n dX8_listElement_2 rfl rfl ?_
  refine z_iconst (v := Int32.ofInt 4) dX8_listElement_3 rfl ?_
  refine i_imul dX8_listElement_4 ?_
  refine i_iadd dX8_listElement_5 ?_
  refine z_iload_n dX8_listElement_6 rfl rfl ?_
  refine i_iadd dX8_listElement_7 ?_
  exact z_ireturn dX8_listElement_8 rfl rfl (hP _ _ _ hw hW)

def wX8_ancestry_100  (l4 l6 l7 : Int) (S : St) (K : Int → St → Prop) (B9 : Int → Int → Int → St → Prop) : Prop := B9 (l4) (l7) ((l6 + 1)) S
set_option maxRecDepth 100000 in
set_option maxHeartbeats 4000000 in
theorem ubX8_ancestry_100 {G : xG} {v : Nat → Nat} {sh : Nat → Option Sh} {B : Nat × Nat} {c0 : List va_E} {d : Nat} {Post : xP} {l4 l6 l7 : Int} {S : St} {cs : List va_E} {K : Int → St → Prop} {B9 : Int → Int → Int → St → Prop} (hd : 3 ≤ d) (hT : sb shC sh) (hS : ∀ b x, sh b = some x → ¬ isS b) (hU : sb shW sh) (hW : Wv G v sh B c0 S cs) (hP : ∀ (x : Int) (S : St) (cs : List va_E), K x S → Wv G v sh B c0 S cs → Post (some (.int (Int32.ofInt x))) cs) (hB9 : ∀ (l4 : Int) (l5 : Int) (l6 : Int) (S : St) (cs : List va_E), B9 l4 l5 l6 S → Wv G v sh B c0 S cs → Z (RX8, cX8_ancestry, 8, some .int, false) G d Post 9 [(0, .ref (G.1 + v 210)), (1, .ref (G.1 + v 216)), (4, .int (Int32.ofInt (l4))), (5, .int (Int32.ofInt (l5))), (6, .int (Int32.ofInt (l6)))] [] cs) (hw : wX8_ancestry_100 l4 l6 l7 S K B9) : Z (RX8, cX8_ancestry, 8, some .int, false) G d Post 100 [(0, .ref (G.1 + v 210)), (1, .ref (G.1 + v 216)), (4, .int (Int32.ofInt (l4))), (6, .int (Int32.ofInt (l6))), (7, .int (Int32.ofInt (l7)))] [] cs := by
  unfold wX8_ancestry_100 at hw
  refine z_iload dX8_ancestry_100 rfl ?_
  refine z_istore dX8_ancestry_102 (by decide) ?_
  refine z_loc (L' := [(0, .ref (G.1 + v 210)), (1, .ref (G.1 + v 216)), (4, .int (Int32.ofInt (l4))), (5, .int (Int32.ofInt (l7))), (6, .int (Int32.ofInt (l6))), (7, .int (Int32.ofInt (l7)))]) (List.forall_mem_cons.mpr ⟨rfl, (List.forall_mem_cons.mpr ⟨rfl, (List.forall_mem_cons.mpr ⟨rfl, (List.forall_mem_cons.mpr ⟨rfl, (List.forall_mem_cons.mpr ⟨rfl, (List.forall_mem_cons.mpr ⟨rfl, (fun _ h => nomatch h)⟩)⟩)⟩)⟩)⟩)⟩) ?_
  refine i_iinc (l := l6) dX8_ancestry_104 rfl (by decide) ?_
  refine z_loc (L' := [(0, .ref (G.1 + v 210)), (1, .ref (G.1 + v 216)), (4, .int (Int32.ofInt (l4))), (5, .int (Int32.ofInt (l7))), (6, .int (Int32.ofInt ((l6 + 1)))), (7, .int (Int32.ofInt (l7)))]) (List.forall_mem_cons.mpr ⟨rfl, (List.forall_mem_cons.mpr ⟨rfl, (List.forall_mem_cons.mpr ⟨rfl, (List.forall_mem_cons.mpr ⟨rfl, (List.forall_mem_cons.mpr ⟨rfl, (List.forall_mem_cons.mpr ⟨rfl, (fun _ h => nomatch h)⟩)⟩)⟩)⟩)⟩)⟩) ?_
  refine z_goto (tgt := 9) dX8_ancestry_107 (by decide) ?_
  refine z_loc (L' := [(0, .ref (G.1 + v 210)), (1, .ref (G.1 + v 216)), (4, .int (Int32.ofInt (l4))), (5, .int (Int32.ofInt (l7))), (6, .int (Int32.ofInt ((l6 + 1))))]) (List.forall_mem_cons.mpr ⟨rfl, (List.forall_mem_cons.mpr ⟨rfl, (List.forall_mem_cons.mpr ⟨rfl, (List.forall_mem_cons.mpr ⟨rfl, (List.forall_mem_cons.mpr ⟨rfl, (fun _ h => nomatch h)⟩)⟩)⟩)⟩)⟩) ?_
  exact hB9 _ _ _ _ _ hw hW
def wX8_ancestry_9'  (l4 l5 l6 : Int) (S : St) (K : Int → St → Prop) (B9 : Int → Int → Int → St → Prop) : Prop := (rng (l6) ∧ ((30 ≤ l6 → K (l4) S) ∧ ((¬ (30 ≤ l6)) → (rng (l5) ∧ (wX1_has (l5) S (fun r4 S3 => (rng (r4) ∧ ((r4 = 0 → K (l4) S3) ∧ ((¬ (r4 = 0)) → (rng ((l4 + 2)) ∧ ((62 < (l4 + 2) → K (l4) S3) ∧ ((¬ (62 < (l4 + 2))) → ((0 : Int) ≤ l4 ∧ l4 < (62 : Int) ∧ (iv (-2147483648) 2147483647 (l5) ∧ (∀ S11, S11 = pA S3 216 (l4) (l5) → ((0 : Int) ≤ l5 ∧ l5 < (30 : Int) ∧ (iv (-2147483648) 2147483647 (S11.2 212 (l5)) → (∀ x15 : Int, x15 = S11.2 212 (l5) → (wX1_classOf (x15) S11 (fun r19 S18 => ((0 : Int) ≤ l5 ∧ l5 < (30 : Int) ∧ (iv (-2147483648) 2147483647 (S18.2 213 (l5)) → (rng (r19) ∧ (wX4_isExplicitList (r19) (S18.2 213 (l5)) S18 (fun r23 S22 => (rng (r23) ∧ ((r23 = 0 → wX8_ancestry_100 ((l4 + 1)) (l6) (x15) S22 K B9) ∧ ((¬ (r23 = 0)) → ((0 : Int) ≤ l5 ∧ l5 < (30 : Int) ∧ (iv (-2147483648) 2147483647 (S22.2 213 (l5)) → (wX8_listElement (x15) (S22.2 213 (l5)) S22 (fun r30 S29 => ((0 : Int) ≤ (l4 + 1) ∧ (l4 + 1) < (62 : Int) ∧ (iv (-2147483648) 2147483647 (r30) ∧ (∀ S32, S32 = pA S29 216 ((l4 + 1)) (r30) → wX8_ancestry_100 (((l4 + 1) + 1)) (l6) (x15) S32 K B9)))))))))))))))))))))))))))))))))))
set_option maxRecDepth 100000 in
set_option maxHeartbeats 4000000 in
theorem ubX8_ancestry_9' {G : xG} {v : Nat → Nat} {sh : Nat → Option Sh} {B : Nat × Nat} {c0 : List va_E} {d : Nat} {Post : xP} {l4 l5 l6 : Int} {S : St} {cs : List va_E} {K : Int → St → Prop} {B9 : Int → Int → Int → St → Prop} (hd : 3 ≤ d) (hT : sb shC sh) (hS : ∀ b x, sh b = some x → ¬ isS b) (hU : sb shW sh) (hW : Wv G v sh B c0 S cs) (hP : ∀ (x : Int) (S : St) (cs : List va_E), K x S → Wv G v sh B c0 S cs → Post (some (.int (Int32.ofInt x))) cs) (hB9 : ∀ (l4 : Int) (l5 : Int) (l6 : Int) (S : St) (cs : List va_E), B9 l4 l5 l6 S → Wv G v sh B c0 S cs → Z (RX8, cX8_ancestry, 8, some .int, false) G d Post 9 [(0, .ref (G.1 + v 210)), (1, .ref (G.1 + v 216)), (4, .int (Int32.ofInt (l4))), (5, .int (Int32.ofInt (l5))), (6, .int (Int32.ofInt (l6)))] [] cs) (hw : wX8_ancestry_9' l4 l5 l6 S K B9) : Z (RX8, cX8_ancestry, 8, some .int, false) G d Post 9 [(0, .ref (G.1 + v 210)), (1, .ref (G.1 + v 216)), (4, .int (Int32.ofInt (l4))), (5, .int (Int32.ofInt (l5))), (6, .int (Int32.ofInt (l6)))] [] cs := by
  unfold wX8_ancestry_9' at hw
  refine z_iload dX8_ancestry_9 rfl ?_
  refine z_bipush (v := Int32.ofInt 30) dX8_ancestry_11 (by decide) ?_
  obtain ⟨q2, hw⟩ := hw
  refine i_icmp_ge (tgt := 110) dX8_ancestry_13 (by decide) q2 ⟨by decide, by decide⟩ (fun h1 => ?_) (fun h1 => ?_)
  · have hw := hw.1 h1
    refine z_iload dX8_ancestry_110 rfl ?_
    exact z_ireturn dX8_ancestry_112 rfl rfl (hP _ _ _ hw hW)
  · have hw := hw.2 h1
    refine z_aload_n dX8_ancestry_16 rfl rfl ?_
    refine v_getR hW (hU 210 _ rfl) rfl kX8 fX8_42 dX8_ancestry_17 ?_
    refine z_iload dX8_ancestry_20 rfl ?_
    obtain ⟨q5, hw⟩ := hw
    have hX := lX1_has 0 (Nat.le_refl _) hT hS hW q5 hw
    refine z_callV (As := [_]) eX1_has sX1_has lX8_62 rfl dX8_ancestry_22 (hW.at (hT 42 _ rfl)) hX (Nat.le_trans (by decide) hd) rfl (Nat.le_of_ble_eq_true rfl) (fun r cs hp => ?_)
    obtain ⟨r4, S3, rfl, hw, hW⟩ := hp
    refine z_st (st' := [.int (Int32.ofInt (r4))]) rfl ?_
    obtain ⟨q7, hw⟩ := hw
    refine i_if_eq (tgt := 110) dX8_ancestry_25 (by decide) q7 (fun h6 => ?_) (fun h6 => ?_)
    · have hw := hw.1 h6
      refine z_iload dX8_ancestry_110 rfl ?_
      exact z_ireturn dX8_ancestry_112 rfl rfl (hP _ _ _ hw hW)
    · have hw := hw.2 h6
      refine z_iload dX8_ancestry_28 rfl ?_
      refine z_iconst (v := Int32.ofInt 2) dX8_ancestry_30 rfl ?_
      refine i_iadd dX8_ancestry_31 ?_
      refine z_aload_n dX8_ancestry_32 rfl rfl ?_
      refine v_alen (t0 := 0) hW (hU 216 _ rfl) rfl dX8_ancestry_33 ?_
      obtain ⟨q9, hw⟩ := hw
      refine i_icmp_gt (tgt := 110) dX8_ancestry_34 (by decide) q9 ⟨by decide, by decide⟩ (fun h8 => ?_) (fun h8 => ?_)
      · have hw := hw.1 h8
        refine z_iload dX8_ancestry_110 rfl ?_
        exact z_ireturn dX8_ancestry_112 rfl rfl (hP _ _ _ hw hW)
      · have hw := hw.2 h8
        refine z_aload_n dX8_ancestry_37 rfl rfl ?_
        refine z_iload dX8_ancestry_38 rfl ?_
        refine z_iload dX8_ancestry_40 rfl ?_
        obtain ⟨q10a, q10b, hw⟩ := hw
        obtain ⟨q12, hw⟩ := hw
        refine v_iast hW (hU 216 _ rfl) (by decide) (by unfold isS; decide) q10a q10b (by decide) q12 dX8_ancestry_42 (fun cs hW => ?_)
        obtain ⟨S11, hS11⟩ : ∃ x, x = pA S3 216 (l4) (l5) := ⟨_, rfl⟩
        rw [← hS11] at hW
        have hw := hw S11 hS11
        refine i_iinc (l := l4) dX8_ancestry_43 rfl (by decide) ?_
        refine z_loc (L' := [(0, .ref (G.1 + v 210)), (1, .ref (G.1 + v 216)), (4, .int (Int32.ofInt ((l4 + 1)))), (5, .int (Int32.ofInt (l5))), (6, .int (Int32.ofInt (l6)))]) (List.forall_mem_cons.mpr ⟨rfl, (List.forall_mem_cons.mpr ⟨rfl, (List.forall_mem_cons.mpr ⟨rfl, (List.forall_mem_cons.mpr ⟨rfl, (List.forall_mem_cons.mpr ⟨rfl, (fun _ h => nomatch h)⟩)⟩)⟩)⟩)⟩) ?_
        refine z_aload_n dX8_ancestry_46 rfl rfl ?_
        refine v_getR hW (hU 210 _ rfl) rfl kX8 fX8_15 dX8_ancestry_47 ?_
        refine z_iload dX8_ancestry_50 rfl ?_
        obtain ⟨q13a, q13b, hw⟩ := hw
        have q14 : iv (-2147483648) 2147483647 (S11.2 212 (l5)) := hW.iA 212 _
        have hw := hw q14
        refine v_iald hW (hU 212 _ rfl) q13a q13b (by decide) dX8_ancestry_52 ?_
        obtain ⟨x15, hx15⟩ : ∃ x : Int, x = S11.2 212 (l5) := ⟨_, rfl⟩
        have hw := hw x15 hx15
        refine z_st (st' := [.int (Int32.ofInt x15)]) (by rw [hx15]) ?_
        have q16 : rng x15 := by rw [hx15]; exact (rngq q14 (by decide) (by decide))
        have q17 : iv (-2147483648) 2147483647 x15 := by rw [hx15]; exact q14
        refine z_istore dX8_ancestry_53 (by decide) ?_
        refine z_loc (L' := [(0, .ref (G.1 + v 210)), (1, .ref (G.1 + v 216)), (4, .int (Int32.ofInt ((l4 + 1)))), (5, .int (Int32.ofInt (l5))), (6, .int (Int32.ofInt (l6))), (7, .int (Int32.ofInt (x15)))]) (List.forall_mem_cons.mpr ⟨rfl, (List.forall_mem_cons.mpr ⟨rfl, (List.forall_mem_cons.mpr ⟨rfl, (List.forall_mem_cons.mpr ⟨rfl, (List.forall_mem_cons.mpr ⟨rfl, (List.forall_mem_cons.mpr ⟨rfl, (fun _ h => nomatch h)⟩)⟩)⟩)⟩)⟩)⟩) ?_
        refine z_aload_n dX8_ancestry_55 rfl rfl ?_
        refine v_getR hW (hU 210 _ rfl) rfl kX8 fX8_38 dX8_ancestry_56 ?_
        refine z_aload_n dX8_ancestry_59 rfl rfl ?_
        refine v_getR hW (hU 210 _ rfl) rfl kX8 fX8_42 dX8_ancestry_60 ?_
        refine z_iload dX8_ancestry_63 rfl ?_
        have hX := lX1_classOf 1 (Nat.le_refl _) hT hS hW q16 hw
        refine z_callV (As := [_]) eX1_classOf sX1_classOf lX8_99 rfl dX8_ancestry_65 (hW.at (hT 42 _ rfl)) hX (Nat.le_trans (by decide) hd) rfl (Nat.le_of_ble_eq_true rfl) (fun r cs hp => ?_)
        obtain ⟨r19, S18, rfl, hw, hW⟩ := hp
        refine z_st (st' := [.int (Int32.ofInt (r19)), .ref (G.1 + v 24)]) rfl ?_
        refine z_aload_n dX8_ancestry_68 rfl rfl ?_
        refine v_getR hW (hU 210 _ rfl) rfl kX8 fX8_18 dX8_ancestry_69 ?_
        refine z_iload dX8_ancestry_72 rfl ?_
        obtain ⟨q20a, q20b, hw⟩ := hw
        have q21 : iv (-2147483648) 2147483647 (S18.2 213 (l5)) := hW.iA 213 _
        have hw := hw q21
        refine v_iald hW (hU 213 _ rfl) q20a q20b (by decide) dX8_ancestry_74 ?_
        obtain ⟨q24, hw⟩ := hw
        have hX := lX4_isExplicitList 2 (Nat.le_refl _) hT hS hW q24 (rngq q21 (by decide) (by decide)) hw
        refine z_callV (As := [_, _]) eX4_isExplicitList sX4_isExplicitList lX8_205 rfl dX8_ancestry_75 (hW.at (hT 24 _ rfl)) hX (Nat.le_trans (by decide) hd) rfl (Nat.le_of_ble_eq_true rfl) (fun r cs hp => ?_)
        obtain ⟨r23, S22, rfl, hw, hW⟩ := hp
        refine z_st (st' := [.int (Int32.ofInt (r23))]) rfl ?_
        obtain ⟨q26, hw⟩ := hw
        refine i_if_eq (tgt := 100) dX8_ancestry_78 (by decide) q26 (fun h25 => ?_) (fun h25 => ?_)
        · have hw := hw.1 h25
          refine z_loc (L' := [(0, .ref (G.1 + v 210)), (1, .ref (G.1 + v 216)), (4, .int (Int32.ofInt ((l4 + 1)))), (6, .int (Int32.ofInt (l6))), (7, .int (Int32.ofInt (x15)))]) (List.forall_mem_cons.mpr ⟨rfl, (List.forall_mem_cons.mpr ⟨rfl, (List.forall_mem_cons.mpr ⟨rfl, (List.forall_mem_cons.mpr ⟨rfl, (List.forall_mem_cons.mpr ⟨rfl, (fun _ h => nomatch h)⟩)⟩)⟩)⟩)⟩) ?_
          exact ubX8_ancestry_100 hd hT hS hU hW hP hB9 hw
        · have hw := hw.2 h25
          refine z_aload_n dX8_ancestry_81 rfl rfl ?_
          refine z_iload dX8_ancestry_82 rfl ?_
          refine z_iload dX8_ancestry_84 rfl ?_
          refine z_aload_n dX8_ancestry_86 rfl rfl ?_
          refine v_getR hW (hU 210 _ rfl) rfl kX8 fX8_18 dX8_ancestry_87 ?_
          refine z_iload dX8_ancestry_90 rfl ?_
          obtain ⟨q27a, q27b, hw⟩ := hw
          have q28 : iv (-2147483648) 2147483647 (S22.2 213 (l5)) := hW.iA 213 _
          have hw := hw q28
          refine v_iald hW (hU 213 _ rfl) q27a q27b (by decide) dX8_ancestry_92 ?_
          have hX := lX8_listElement 0 (Nat.le_refl _) hT hS hW q16 (rngq q28 (by decide) (by decide)) hw
          refine z_callS (As := [_, _]) eX8_listElement sX8_listElement lX8_208 dX8_ancestry_93 hX (Nat.le_trans (by decide) hd) rfl (Nat.le_of_ble_eq_true rfl) (fun r cs hp => ?_)
          obtain ⟨r30, S29, rfl, hw, hW⟩ := hp
          refine z_st (st' := [.int (Int32.ofInt (r30)), .int (Int32.ofInt ((l4 + 1))), .ref (G.1 + v 216)]) rfl ?_
          obtain ⟨q31a, q31b, hw⟩ := hw
          obtain ⟨q33, hw⟩ := hw
          refine v_iast hW (hU 216 _ rfl) (by decide) (by unfold isS; decide) q31a q31b (by decide) q33 dX8_ancestry_96 (fun cs hW => ?_)
          obtain ⟨S32, hS32⟩ : ∃ x, x = pA S29 216 ((l4 + 1)) (r30) := ⟨_, rfl⟩
          rw [← hS32] at hW
          have hw := hw S32 hS32
          refine i_iinc (l := (l4 + 1)) dX8_ancestry_97 rfl (by decide) ?_
          refine z_loc (L' := [(0, .ref (G.1 + v 210)), (1, .ref (G.1 + v 216)), (4, .int (Int32.ofInt (((l4 + 1) + 1)))), (5, .int (Int32.ofInt (l5))), (6, .int (Int32.ofInt (l6))), (7, .int (Int32.ofInt (x15)))]) (List.forall_mem_cons.mpr ⟨rfl, (List.forall_mem_cons.mpr ⟨rfl, (List.forall_mem_cons.mpr ⟨rfl, (List.forall_mem_cons.mpr ⟨rfl, (List.forall_mem_cons.mpr ⟨rfl, (List.forall_mem_cons.mpr ⟨rfl, (fun _ h => nomatch h)⟩)⟩)⟩)⟩)⟩)⟩) ?_
          refine z_loc (L' := [(0, .ref (G.1 + v 210)), (1, .ref (G.1 + v 216)), (4, .int (Int32.ofInt (((l4 + 1) + 1)))), (6, .int (Int32.ofInt (l6))), (7, .int (Int32.ofInt (x15)))]) (List.forall_mem_cons.mpr ⟨rfl, (List.forall_mem_cons.mpr ⟨rfl, (List.forall_mem_cons.mpr ⟨rfl, (List.forall_mem_cons.mpr ⟨rfl, (List.forall_mem_cons.mpr ⟨rfl, (fun _ h => nomatch h)⟩)⟩)⟩)⟩)⟩) ?_
          exact ubX8_ancestry_100 hd hT hS hU hW hP hB9 hw
def wX8_ancestry_9  (l4 l5 l6 : Int) (S : St) (K : Int → St → Prop) : Prop := ∃ (Iv : Int → Int → Int → St → Prop) (mu : Int → Int → Int → St → Nat), Iv l4 l5 l6 S ∧ ∀ (l4 l5 l6 : Int) (S : St), Iv l4 l5 l6 S → wX8_ancestry_9' l4 l5 l6 S K  (fun ml4 ml5 ml6 T => Iv ml4 ml5 ml6 T ∧ mu ml4 ml5 ml6 T < mu l4 l5 l6 S)
set_option maxRecDepth 100000 in
set_option maxHeartbeats 4000000 in
theorem ubX8_ancestry_9 {G : xG} {v : Nat → Nat} {sh : Nat → Option Sh} {B : Nat × Nat} {c0 : List va_E} {d : Nat} {Post : xP} {l4 l5 l6 : Int} {S : St} {cs : List va_E} {K : Int → St → Prop} (hd : 3 ≤ d) (hT : sb shC sh) (hS : ∀ b x, sh b = some x → ¬ isS b) (hU : sb shW sh) (hW : Wv G v sh B c0 S cs) (hP : ∀ (x : Int) (S : St) (cs : List va_E), K x S → Wv G v sh B c0 S cs → Post (some (.int (Int32.ofInt x))) cs)  (hw : wX8_ancestry_9 l4 l5 l6 S K ) : Z (RX8, cX8_ancestry, 8, some .int, false) G d Post 9 [(0, .ref (G.1 + v 210)), (1, .ref (G.1 + v 216)), (4, .int (Int32.ofInt (l4))), (5, .int (Int32.ofInt (l5))), (6, .int (Int32.ofInt (l6)))] [] cs := by
  unfold wX8_ancestry_9 at hw
  obtain ⟨Iv, mu, h0, hs⟩ := hw
  have key : ∀ (n : Nat) (l4 l5 l6 : Int) (S : St) (cs : List va_E), mu l4 l5 l6 S < n → Iv l4 l5 l6 S → Wv G v sh B c0 S cs → Z (RX8, cX8_ancestry, 8, some .int, false) G d Post 9 [(0, .ref (G.1 + v 210)), (1, .ref (G.1 + v 216)), (4, .int (Int32.ofInt (l4))), (5, .int (Int32.ofInt (l5))), (6, .int (Int32.ofInt (l6)))] [] cs := by
    intro n
    induction n with
    | zero => intro l4 l5 l6 S cs hn; exact absurd hn (Nat.not_lt_zero _)
    | succ n ih =>
      intro l4 l5 l6 S cs hn hI hW
      exact ubX8_ancestry_9' hd hT hS hU hW hP  (fun l4 l5 l6 S cs hb hW => ih l4 l5 l6 S cs (Nat.lt_of_lt_of_le hb.2 (Nat.le_of_lt_succ hn)) hb.1 hW) (hs l4 l5 l6 S hI)
  exact key _ _ _ _ _ _ (Nat.lt_succ_self _) h0 hW
def wX8_ancestry  (a1 a2 : Int) (S : St) (K : Int → St → Prop) : Prop := rng a1 → rng a2 → wX8_ancestry_9 (a1) (a2) (0) S K
set_option maxRecDepth 100000 in
set_option maxHeartbeats 4000000 in
theorem lX8_ancestry {G : xG} {v : Nat → Nat} {sh : Nat → Option Sh} {B : Nat × Nat} {c0 : List va_E}  {a1 a2 : Int} {S : St} {cs : List va_E} {K : Int → St → Prop} (d : Nat) (hd : 3 ≤ d) (hT : sb shC sh) (hS : ∀ b x, sh b = some x → ¬ isS b) (hU : sb shW sh) (hW : Wv G v sh B c0 S cs) (g1 : rng a1) (g2 : rng a2) (hw : wX8_ancestry a1 a2 S K) : X G yX8_ancestry cX8_ancestry 8 (some .int) d [.ref (G.1 + v 210), .ref (G.1 + v 216), .int (Int32.ofInt a1), .int (Int32.ofInt a2)] cs (vI G v sh B c0 K) := by
  refine X.of false (by decide +kernel) (by decide) (Nat.le_of_ble_eq_true rfl) ?_
  show Z (RX8, cX8_ancestry, 8, some .int, false) G d _ 0 [(0, .ref (G.1 + v 210)), (1, .ref (G.1 + v 216)), (2, .int (Int32.ofInt a1)), (3, .int (Int32.ofInt a2))] [] cs
  have hP : ∀ (x : Int) (S : St) (cs : List va_E), K x S → Wv G v sh B c0 S cs → vI G v sh B c0 K (some (.int (Int32.ofInt x))) cs := fun x S cs a b => ⟨x, S, rfl, a, b⟩
  unfold wX8_ancestry at hw
  have hw := hw g1 g2
  refine z_iload_n dX8_ancestry_0 rfl rfl ?_
  refine z_istore dX8_ancestry_1 (by decide) ?_
  refine z_loc (L' := [(0, .ref (G.1 + v 210)), (1, .ref (G.1 + v 216)), (2, .int (Int32.ofInt (a1))), (3, .int (Int32.ofInt (a2))), (4, .int (Int32.ofInt (a1)))]) (List.forall_mem_cons.mpr ⟨rfl, (List.forall_mem_cons.mpr ⟨rfl, (List.forall_mem_cons.mpr ⟨rfl, (List.forall_mem_cons.mpr ⟨rfl, (List.forall_mem_cons.mpr ⟨rfl, (fun _ h => nomatch h)⟩)⟩)⟩)⟩)⟩) ?_
  refine z_iload_n dX8_ancestry_3 rfl rfl ?_
  refine z_istore dX8_ancestry_4 (by decide) ?_
  refine z_loc (L' := [(0, .ref (G.1 + v 210)), (1, .ref (G.1 + v 216)), (2, .int (Int32.ofInt (a1))), (3, .int (Int32.ofInt (a2))), (4, .int (Int32.ofInt (a1))), (5, .int (Int32.ofInt (a2)))]) (List.forall_mem_cons.mpr ⟨rfl, (List.forall_mem_cons.mpr ⟨rfl, (List.forall_mem_cons.mpr ⟨rfl, (List.forall_mem_cons.mpr ⟨rfl, (List.forall_mem_cons.mpr ⟨rfl, (List.forall_mem_cons.mpr ⟨rfl, (fun _ h => nomatch h)⟩)⟩)⟩)⟩)⟩)⟩) ?_
  refine z_iconst (v := Int32.ofInt 0) dX8_ancestry_6 rfl ?_
  refine z_istore dX8_ancestry_7 (by decide) ?_
  refine z_loc (L' := [(0, .ref (G.1 + v 210)), (1, .ref (G.1 + v 216)), (2, .int (Int32.ofInt (a1))), (3, .int (Int32.ofInt (a2))), (4, .int (Int32.ofInt (a1))), (5, .int (Int32.ofInt (a2))), (6, .int (Int32.ofInt (0)))]) (List.forall_mem_cons.mpr ⟨rfl, (List.forall_mem_cons.mpr ⟨rfl, (List.forall_mem_cons.mpr ⟨rfl, (List.forall_mem_cons.mpr ⟨rfl, (List.forall_mem_cons.mpr ⟨rfl, (List.forall_mem_cons.mpr ⟨rfl, (List.forall_mem_cons.mpr ⟨rfl, (fun _ h => nomatch h)⟩)⟩)⟩)⟩)⟩)⟩)⟩) ?_
  refine z_loc (L' := [(0, .ref (G.1 + v 210)), (1, .ref (G.1 + v 216)), (4, .int (Int32.ofInt (a1))), (5, .int (Int32.ofInt (a2))), (6, .int (Int32.ofInt (0)))]) (List.forall_mem_cons.mpr ⟨rfl, (List.forall_mem_cons.mpr ⟨rfl, (List.forall_mem_cons.mpr ⟨rfl, (List.forall_mem_cons.mpr ⟨rfl, (List.forall_mem_cons.mpr ⟨rfl, (fun _ h => nomatch h)⟩)⟩)⟩)⟩)⟩) ?_
  exact ubX8_ancestry_9 hd hT hS hU hW hP  hw

