def wX8_single_37'  (l1 l2 l3 l4 : Int) (S : St) (K : Int → St → Prop) (B37 : Int → Int → Int → Int → St → Prop) : Prop := (rng (l4) ∧ ((20 ≤ l4 → K 0 S) ∧ ((¬ (20 ≤ l4)) → (rng (l1) ∧ (rng (l2) ∧ (wX1_head (l1) (l2) S (fun r4 S3 => (rng (r4) ∧ ((r4 ≤ l4 → K 0 S3) ∧ ((¬ (r4 ≤ l4)) → (wX1_cell (l1) (l2) (l4) S3 (fun r10 S9 => (rng (r10) ∧ (rng (l3) ∧ (wX8_escaped (r10) (l3) S9 (fun r12 S11 => B37 (l1) (l2) (l3) ((l4 + 1)) S11))))))))))))))))
set_option maxRecDepth 100000 in
set_option maxHeartbeats 4000000 in
theorem ubX8_single_37' {G : xG} {v : Nat → Nat} {sh : Nat → Option Sh} {B : Nat × Nat} {c0 : List va_E} {d : Nat} {Post : xP} {l1 l2 l3 l4 : Int} {S : St} {cs : List va_E} {K : Int → St → Prop} {B37 : Int → Int → Int → Int → St → Prop} (hd : 6 ≤ d) (hT : sb shC sh) (hS : ∀ b x, sh b = some x → ¬ isS b) (hU : sb shW sh) (hW : Wv G v sh B c0 S cs) (hP : ∀ (x : Int) (S : St) (cs : List va_E), K x S → Wv G v sh B c0 S cs → Post (none) cs) (hB37 : ∀ (l1 : Int) (l2 : Int) (l3 : Int) (l4 : Int) (S : St) (cs : List va_E), B37 l1 l2 l3 l4 S → Wv G v sh B c0 S cs → Z (RX8, cX8_single, 5, none, false) G d Post 37 [(0, .ref (G.1 + v 210)), (1, .int (Int32.ofInt (l1))), (2, .int (Int32.ofInt (l2))), (3, .int (Int32.ofInt (l3))), (4, .int (Int32.ofInt (l4)))] [] cs) (hw : wX8_single_37' l1 l2 l3 l4 S K B37) : Z (RX8, cX8_single, 5, none, false) G d Post 37 [(0, .ref (G.1 + v 210)), (1, .int (Int32.ofInt (l1))), (2, .int (Int32.ofInt (l2))), (3, .int (Int32.ofInt (l3))), (4, .int (Int32.ofInt (l4)))] [] cs := by
  unfold wX8_single_37' at hw
  refine z_iload dX8_single_37 rfl ?_
  refine z_bipush (v := Int32.ofInt 20) dX8_single_39 (by decide) ?_
  obtain ⟨q2, hw⟩ := hw
  refine i_icmp_ge (tgt := 80) dX8_single_41 (by decide) q2 ⟨by decide, by decide⟩ (fun h1 => ?_) (fun h1 => ?_)
  · have hw := hw.1 h1
    exact z_return dX8_single_80 rfl (hP 0 _ _ hw hW)
  · have hw := hw.2 h1
    refine z_iload dX8_single_44 rfl ?_
    refine z_aload_n dX8_single_46 rfl rfl ?_
    refine v_getR hW (hU 210 _ rfl) rfl kX8 fX8_42 dX8_single_47 ?_
    refine z_iload_n dX8_single_50 rfl rfl ?_
    refine z_iload_n dX8_single_51 rfl rfl ?_
    obtain ⟨q5, hw⟩ := hw
    obtain ⟨q6, hw⟩ := hw
    have hX := lX1_head 1 (Nat.le_refl _) hT hS hW q5 q6 hw
    refine z_callV (As := [_, _]) eX1_head sX1_head lX8_145 rfl dX8_single_52 (hW.at (hT 42 _ rfl)) hX (Nat.le_trans (by decide) hd) rfl (Nat.le_of_ble_eq_true rfl) (fun r cs hp => ?_)
    obtain ⟨r4, S3, rfl, hw, hW⟩ := hp
    refine z_st (st' := [.int (Int32.ofInt (r4)), .int (Int32.ofInt (l4))]) rfl ?_
    obtain ⟨q8, hw⟩ := hw
    refine i_icmp_ge (tgt := 80) dX8_single_55 (by decide) q2 q8 (fun h7 => ?_) (fun h7 => ?_)
    · have hw := hw.1 h7
      exact z_return dX8_single_80 rfl (hP 0 _ _ hw hW)
    · have hw := hw.2 h7
      refine z_aload_n dX8_single_58 rfl rfl ?_
      refine z_aload_n dX8_single_59 rfl rfl ?_
      refine v_getR hW (hU 210 _ rfl) rfl kX8 fX8_42 dX8_single_60 ?_
      refine z_iload_n dX8_single_63 rfl rfl ?_
      refine z_iload_n dX8_single_64 rfl rfl ?_
      refine z_iload dX8_single_65 rfl ?_
      have hX := lX1_cell 1 (Nat.le_refl _) hT hS hW q5 q6 q2 hw
      refine z_callV (As := [_, _, _]) eX1_cell sX1_cell lX8_158 rfl dX8_single_67 (hW.at (hT 42 _ rfl)) hX (Nat.le_trans (by decide) hd) rfl (Nat.le_of_ble_eq_true rfl) (fun r cs hp => ?_)
      obtain ⟨r10, S9, rfl, hw, hW⟩ := hp
      refine z_st (st' := [.int (Int32.ofInt (r10)), .ref (G.1 + v 210)]) rfl ?_
      refine z_iload_n dX8_single_70 rfl rfl ?_
      obtain ⟨q13, hw⟩ := hw
      obtain ⟨q14, hw⟩ := hw
      have hX := lX8_escaped 5 (Nat.le_refl _) hT hS hU hW q13 q14 hw
      refine z_callV (As := [_, _]) eX8_escaped sX8_escaped lX8_161 rfl dX8_single_71 (hW.at (hU 210 _ rfl)) hX (Nat.le_trans (by decide) hd) rfl (Nat.le_of_ble_eq_true rfl) (fun r cs hp => ?_)
      obtain ⟨r12, S11, rfl, hw, hW⟩ := hp
      refine z_st (st' := []) rfl ?_
      refine i_iinc (l := l4) dX8_single_74 rfl (by decide) ?_
      refine z_loc (L' := [(0, .ref (G.1 + v 210)), (1, .int (Int32.ofInt (l1))), (2, .int (Int32.ofInt (l2))), (3, .int (Int32.ofInt (l3))), (4, .int (Int32.ofInt ((l4 + 1))))]) (List.forall_mem_cons.mpr ⟨rfl, (List.forall_mem_cons.mpr ⟨rfl, (List.forall_mem_cons.mpr ⟨rfl, (List.forall_mem_cons.mpr ⟨rfl, (List.forall_mem_cons.mpr ⟨rfl, (fun _ h => nomatch h)⟩)⟩)⟩)⟩)⟩) ?_
      refine z_goto (tgt := 37) dX8_single_77 (by decide) ?_
      refine z_loc (L' := [(0, .ref (G.1 + v 210)), (1, .int (Int32.ofInt (l1))), (2, .int (Int32.ofInt (l2))), (3, .int (Int32.ofInt (l3))), (4, .int (Int32.ofInt ((l4 + 1))))]) (List.forall_mem_cons.mpr ⟨rfl, (List.forall_mem_cons.mpr ⟨rfl, (List.forall_mem_cons.mpr ⟨rfl, (List.forall_mem_cons.mpr ⟨rfl, (List.forall_mem_cons.mpr ⟨rfl, (fun _ h => nomatch h)⟩)⟩)⟩)⟩)⟩) ?_
      exact hB37 _ _ _ _ _ _ hw hW
def wX8_single_37  (l1 l2 l3 l4 : Int) (S : St) (K : Int → St → Prop) : Prop := ∃ (Iv : Int → Int → Int → Int → St → Prop) (mu : Int → Int → Int → Int → St → Nat), Iv l1 l2 l3 l4 S ∧ ∀ (l1 l2 l3 l4 : Int) (S : St), Iv l1 l2 l3 l4 S → wX8_single_37' l1 l2 l3 l4 S K  (fun ml1 ml2 ml3 ml4 T => Iv ml1 ml2 ml3 ml4 T ∧ mu ml1 ml2 ml3 ml4 T < mu l1 l2 l3 l4 S)
set_option maxRecDepth 100000 in
set_option maxHeartbeats 4000000 in
theorem ubX8_single_37 {G : xG} {v : Nat → Nat} {sh : Nat → Option Sh} {B : Nat × Nat} {c0 : List va_E} {d : Nat} {Post : xP} {l1 l2 l3 l4 : Int} {S : St} {cs : List va_E} {K : Int → St → Prop} (hd : 6 ≤ d) (hT : sb shC sh) (hS : ∀ b x, sh b = some x → ¬ isS b) (hU : sb shW sh) (hW : Wv G v sh B c0 S cs) (hP : ∀ (x : Int) (S : St) (cs : List va_E), K x S → Wv G v sh B c0 S cs → Post (none) cs)  (hw : wX8_single_37 l1 l2 l3 l4 S K ) : Z (RX8, cX8_single, 5, none, false) G d Post 37 [(0, .ref (G.1 + v 210)), (1, .int (Int32.ofInt (l1))), (2, .int (Int32.ofInt (l2))), (3, .int (Int32.ofInt (l3))), (4, .int (Int32.ofInt (l4)))] [] cs := by
  unfold wX8_single_37 at hw
  obtain ⟨Iv, mu, h0, hs⟩ := hw
  have key : ∀ (n : Nat) (l1 l2 l3 l4 : Int) (S : St) (cs : List va_E), mu l1 l2 l3 l4 S < n → Iv l1 l2 l3 l4 S → Wv G v sh B c0 S cs → Z (RX8, cX8_single, 5, none, false) G d Post 37 [(0, .ref (G.1 + v 210)), (1, .int (Int32.ofInt (l1))), (2, .int (Int32.ofInt (l2))), (3, .int (Int32.ofInt (l3))), (4, .int (Int32.ofInt (l4)))] [] cs := by
    intro n
    induction n with
    | zero => intro l1 l2 l3 l4 S cs hn; exact absurd hn (Nat.not_lt_zero _)
    | succ n ih =>
      intro l1 l2 l3 l4 S cs hn hI hW
      exact ubX8_single_37' hd hT hS hU hW hP  (fun l1 l2 l3 l4 S cs hb hW => ih l1 l2 l3 l4 S cs (Nat.lt_of_lt_of_le hb.2 (Nat.le_of_lt_succ hn)) hb.1 hW) (hs l1 l2 l3 l4 S hI)
  exact key _ _ _ _ _ _ _ (Nat.lt_succ_self _) h0 hW
def wX8_single  (a1 a2 a3 : Int) (S : St) (K : Int → St → Prop) : Prop := rng a1 → rng a2 → rng a3 → (wX1_classOf (a1) S (fun r2 S1 => (rng (r2) ∧ (wX4_shape (r2) (a2) S1 (fun r4 S3 => (rng (r4) ∧ ((¬ r4 = 1 → wX8_single_37 (a1) (a2) (a3) (0) S3 K) ∧ ((¬ (¬ r4 = 1)) → (wX1_head (a1) (a2) S3 (fun r9 S8 => (rng (r9) ∧ (wX8_number (r9) S8 (fun r11 S10 => K 0 S10)))))))))))))
set_option maxRecDepth 100000 in
set_option maxHeartbeats 4000000 in
theorem lX8_single {G : xG} {v : Nat → Nat} {sh : Nat → Option Sh} {B : Nat × Nat} {c0 : List va_E}  {a1 a2 a3 : Int} {S : St} {cs : List va_E} {K : Int → St → Prop} (d : Nat) (hd : 6 ≤ d) (hT : sb shC sh) (hS : ∀ b x, sh b = some x → ¬ isS b) (hU : sb shW sh) (hW : Wv G v sh B c0 S cs) (g1 : rng a1) (g2 : rng a2) (g3 : rng a3) (hw : wX8_single a1 a2 a3 S K) : X G yX8_single cX8_single 5 none d [.ref (G.1 + v 210), .int (Int32.ofInt a1), .int (Int32.ofInt a2), .int (Int32.ofInt a3)] cs (vV G v sh B c0 K) := by
  refine X.of false (by decide +kernel) (by decide) (Nat.le_of_ble_eq_true rfl) ?_
  show Z (RX8, cX8_single, 5, none, false) G d _ 0 [(0, .ref (G.1 + v 210)), (1, .int (Int32.ofInt a1)), (2, .int (Int32.ofInt a2)), (3, .int (Int32.ofInt a3))] [] cs
  have hP : ∀ (x : Int) (S : St) (cs : List va_E), K x S → Wv G v sh B c0 S cs → vV G v sh B c0 K (none) cs := fun x S cs a b => ⟨x, S, rfl, a, b⟩
  unfold wX8_single at hw
  have hw := hw g1 g2 g3
  refine z_aload_n dX8_single_0 rfl rfl ?_
  refine v_getR hW (hU 210 _ rfl) rfl kX8 fX8_38 dX8_single_1 ?_
  refine z_aload_n dX8_single_4 rfl rfl ?_
  refine v_getR hW (hU 210 _ rfl) rfl kX8 fX8_42 dX8_single_5 ?_
  refine z_iload_n dX8_single_8 rfl rfl ?_
  have hX := lX1_classOf 1 (Nat.le_refl _) hT hS hW g1 hw
  refine z_callV (As := [_]) eX1_classOf sX1_classOf lX8_99 rfl dX8_single_9 (hW.at (hT 42 _ rfl)) hX (Nat.le_trans (by decide) hd) rfl (Nat.le_of_ble_eq_true rfl) (fun r cs hp => ?_)
  obtain ⟨r2, S1, rfl, hw, hW⟩ := hp
  refine z_st (st' := [.int (Int32.ofInt (r2)), .ref (G.1 + v 24)]) rfl ?_
  refine z_iload_n dX8_single_12 rfl rfl ?_
  obtain ⟨q5, hw⟩ := hw
  have hX := lX4_shape 1 (Nat.le_refl _) hT hS hW q5 g2 hw
  refine z_callV (As := [_, _]) eX4_shape sX4_shape lX8_103 rfl dX8_single_13 (hW.at (hT 24 _ rfl)) hX (Nat.le_trans (by decide) hd) rfl (Nat.le_of_ble_eq_true rfl) (fun r cs hp => ?_)
  obtain ⟨r4, S3, rfl, hw, hW⟩ := hp
  refine z_st (st' := [.int (Int32.ofInt (r4))]) rfl ?_
  refine z_iconst (v := Int32.ofInt 1) dX8_single_16 rfl ?_
  obtain ⟨q7, hw⟩ := hw
  refine i_icmp_ne (tgt := 34) dX8_single_17 (by decide) q7 ⟨by decide, by decide⟩ (fun h6 => ?_) (fun h6 => ?_)
  · have hw := hw.1 h6
    refine z_iconst (v := Int32.ofInt 0) dX8_single_34 rfl ?_
    refine z_istore dX8_single_35 (by decide) ?_
    refine z_loc (L' := [(0, .ref (G.1 + v 210)), (1, .int (Int32.ofInt (a1))), (2, .int (Int32.ofInt (a2))), (3, .int (Int32.ofInt (a3))), (4, .int (Int32.ofInt (0)))]) (List.forall_mem_cons.mpr ⟨rfl, (List.forall_mem_cons.mpr ⟨rfl, (List.forall_mem_cons.mpr ⟨rfl, (List.forall_mem_cons.mpr ⟨rfl, (List.forall_mem_cons.mpr ⟨rfl, (fun _ h => nomatch h)⟩)⟩)⟩)⟩)⟩) ?_
    refine z_loc (L' := [(0, .ref (G.1 + v 210)), (1, .int (Int32.ofInt (a1))), (2, .int (Int32.ofInt (a2))), (3, .int (Int32.ofInt (a3))), (4, .int (Int32.ofInt (0)))]) (List.forall_mem_cons.mpr ⟨rfl, (List.forall_mem_cons.mpr ⟨rfl, (List.forall_mem_cons.mpr ⟨rfl, (List.forall_mem_cons.mpr ⟨rfl, (List.forall_mem_cons.mpr ⟨rfl, (fun _ h => nomatch h)⟩)⟩)⟩)⟩)⟩) ?_
    exact ubX8_single_37 hd hT hS hU hW hP  hw
  · have hw := hw.2 h6
    refine z_aload_n dX8_single_20 rfl rfl ?_
    refine z_aload_n dX8_single_21 rfl rfl ?_
    refine v_getR hW (hU 210 _ rfl) rfl kX8 fX8_42 dX8_single_22 ?_
    refine z_iload_n dX8_single_25 rfl rfl ?_
    refine z_iload_n dX8_single_26 rfl rfl ?_
    have hX := lX1_head 1 (Nat.le_refl _) hT hS hW g1 g2 hw
    refine z_callV (As := [_, _]) eX1_head sX1_head lX8_145 rfl dX8_single_27 (hW.at (hT 42 _ rfl)) hX (Nat.le_trans (by decide) hd) rfl (Nat.le_of_ble_eq_true rfl) (fun r cs hp => ?_)
    obtain ⟨r9, S8, rfl, hw, hW⟩ := hp
    refine z_st (st' := [.int (Int32.ofInt (r9)), .ref (G.1 + v 210)]) rfl ?_
    obtain ⟨q12, hw⟩ := hw
    have hX := lX8_number 2 (Nat.le_refl _) hT hS hU hW q12 hw
    refine z_callV (As := [_]) eX8_number sX8_number lX8_123 rfl dX8_single_30 (hW.at (hU 210 _ rfl)) hX (Nat.le_trans (by decide) hd) rfl (Nat.le_of_ble_eq_true rfl) (fun r cs hp => ?_)
    obtain ⟨r11, S10, rfl, hw, hW⟩ := hp
    refine z_st (st' := []) rfl ?_
    exact z_return dX8_single_33 rfl (hP 0 _ _ hw hW)

def wX8_items_3' (E : Int → Int → Int → Int → Int → St → (Int → St → Prop) → Prop)  (l1 l2 l3 l4 : Int) (S : St) (K : Int → St → Prop) (B3 : Int → Int → Int → Int → St → Prop) : Prop := (rng (l4) ∧ ((8 ≤ l4 → K 0 S) ∧ ((¬ (8 ≤ l4)) → (rng (l1) ∧ (rng (l2) ∧ (wX1_head (l1) (l2) S (fun r4 S3 => (rng (r4) ∧ ((r4 ≤ l4 → K 0 S3) ∧ ((¬ (r4 ≤ l4)) → (wX1_cell (l1) (l2) (l4) S3 (fun r10 S9 => (rng (r10) ∧ (rng ((l3 + 1)) ∧ (E (r10) (l1) (l2) (l4) ((l3 + 1)) S9 (fun r12 S11 => B3 (l1) (l2) (l3) ((l4 + 1)) S11))))))))))))))))
set_option maxRecDepth 100000 in
set_option maxHeartbeats 4000000 in
theorem ubX8_items_3' {G : xG} {v : Nat → Nat} {sh : Nat → Option Sh} {B : Nat × Nat} {c0 : List va_E} {E : Int → Int → Int → Int → Int → St → (Int → St → Prop) → Prop} {dE : Nat} {d : Nat} {Post : xP} {l1 l2 l3 l4 : Int} {S : St} {cs : List va_E} {K : Int → St → Prop} {B3 : Int → Int → Int → Int → St → Prop} (hE : ∀ (a1 a2 a3 a4 a5 : Int) (S : St) (cs : List va_E) (K : Int → St → Prop), rng a1 → rng a2 → rng a3 → rng a4 → rng a5 → Wv G v sh B c0 S cs → E a1 a2 a3 a4 a5 S K → X G yX8_element cX8_element 8 none dE [.ref (G.1 + v 210), .int (Int32.ofInt a1), .int (Int32.ofInt a2), .int (Int32.ofInt a3), .int (Int32.ofInt a4), .int (Int32.ofInt a5)] cs (vV G v sh B c0 K)) (hdE : 12 ≤ dE) (hd : dE + 1 ≤ d) (hT : sb shC sh) (hS : ∀ b x, sh b = some x → ¬ isS b) (hU : sb shW sh) (hW : Wv G v sh B c0 S cs) (hP : ∀ (x : Int) (S : St) (cs : List va_E), K x S → Wv G v sh B c0 S cs → Post (none) cs) (hB3 : ∀ (l1 : Int) (l2 : Int) (l3 : Int) (l4 : Int) (S : St) (cs : List va_E), B3 l1 l2 l3 l4 S → Wv G v sh B c0 S cs → Z (RX8, cX8_items, 5, none, false) G d Post 3 [(0, .ref (G.1 + v 210)), (1, .int (Int32.ofInt (l1))), (2, .int (Int32.ofInt (l2))), (3, .int (Int32.ofInt (l3))), (4, .int (Int32.ofInt (l4)))] [] cs) (hw : wX8_items_3' E l1 l2 l3 l4 S K B3) : Z (RX8, cX8_items, 5, none, false) G d Post 3 [(0, .ref (G.1 + v 210)), (1, .int (Int32.ofInt (l1))), (2, .int (Int32.ofInt (l2))), (3, .int (Int32.ofInt (l3))), (4, .int (Int32.ofInt (l4)))] [] cs := by
  unfold wX8_items_3' at hw
  refine z_iload dX8_items_3 rfl ?_
  refine z_bipush (v := Int32.ofInt 8) dX8_items_5 (by decide) ?_
  obtain ⟨q2, hw⟩ := hw
  refine i_icmp_ge (tgt := 52) dX8_items_7 (by decide) q2 ⟨by decide, by decide⟩ (fun h1 => ?_) (fun h1 => ?_)
  · have hw := hw.1 h1
    exact z_return dX8_items_52 rfl (hP 0 _ _ hw hW)
  · have hw := hw.2 h1
    refine z_iload dX8_items_10 rfl ?_
    refine z_aload_n dX8_items_12 rfl rfl ?_
    refine v_getR hW (hU 210 _ rfl) rfl kX8 fX8_42 dX8_items_13 ?_
    refine z_iload_n dX8_items_16 rfl rfl ?_
    refine z_iload_n dX8_items_17 rfl rfl ?_
    obtain ⟨q5, hw⟩ := hw
    obtain ⟨q6, hw⟩ := hw
    have hX := lX1_head 1 (Nat.le_refl _) hT hS hW q5 q6 hw
    refine z_callV (As := [_, _]) eX1_head sX1_head lX8_145 rfl dX8_items_18 (hW.at (hT 42 _ rfl)) hX (Nat.le_trans (Nat.le_trans (by decide) (Nat.add_le_add_right hdE _)) hd) rfl (Nat.le_of_ble_eq_true rfl) (fun r cs hp => ?_)
    obtain ⟨r4, S3, rfl, hw, hW⟩ := hp
    refine z_st (st' := [.int (Int32.ofInt (r4)), .int (Int32.ofInt (l4))]) rfl ?_
    obtain ⟨q8, hw⟩ := hw
    refine i_icmp_ge (tgt := 52) dX8_items_21 (by decide) q2 q8 (fun h7 => ?_) (fun h7 => ?_)
    · have hw := hw.1 h7
      exact z_return dX8_items_52 rfl (hP 0 _ _ hw hW)
    · have hw := hw.2 h7
      refine z_aload_n dX8_items_24 rfl rfl ?_
      refine z_aload_n dX8_items_25 rfl rfl ?_
      refine v_getR hW (hU 210 _ rfl) rfl kX8 fX8_42 dX8_items_26 ?_
      refine z_iload_n dX8_items_29 rfl rfl ?_
      refine z_iload_n dX8_items_30 rfl rfl ?_
      refine z_iload dX8_items_31 rfl ?_
      have hX := lX1_cell 1 (Nat.le_refl _) hT hS hW q5 q6 q2 hw
      refine z_callV (As := [_, _, _]) eX1_cell sX1_cell lX8_158 rfl dX8_items_33 (hW.at (hT 42 _ rfl)) hX (Nat.le_trans (Nat.le_trans (by decide) (Nat.add_le_add_right hdE _)) hd) rfl (Nat.le_of_ble_eq_true rfl) (fun r cs hp => ?_)
      obtain ⟨r10, S9, rfl, hw, hW⟩ := hp
      refine z_st (st' := [.int (Int32.ofInt (r10)), .ref (G.1 + v 210)]) rfl ?_
      refine z_iload_n dX8_items_36 rfl rfl ?_
      refine z_iload_n dX8_items_37 rfl rfl ?_
      refine z_iload dX8_items_38 rfl ?_
      refine z_iload_n dX8_items_40 rfl rfl ?_
      refine z_iconst (v := Int32.ofInt 1) dX8_items_41 rfl ?_
      refine i_iadd dX8_items_42 ?_
      obtain ⟨q13, hw⟩ := hw
      obtain ⟨q14, hw⟩ := hw
      have hX := hE _ _ _ _ _ _ _ _ q13 q5 q6 q2 q14 hW hw
      refine z_callV (As := [_, _, _, _, _]) eX8_element sX8_element lX8_151 rfl dX8_items_43 (hW.at (hU 210 _ rfl)) hX (Nat.le_trans (Nat.add_le_add_left (show 1 ≤ 1 by decide) dE) hd) rfl (Nat.le_of_ble_eq_true rfl) (fun r cs hp => ?_)
      obtain ⟨r12, S11, rfl, hw, hW⟩ := hp
      refine z_st (st' := []) rfl ?_
      refine i_iinc (l := l4) dX8_items_46 rfl (by decide) ?_
      refine z_loc (L' := [(0, .ref (G.1 + v 210)), (1, .int (Int32.ofInt (l1))), (2, .int (Int32.ofInt (l2))), (3, .int (Int32.ofInt (l3))), (4, .int (Int32.ofInt ((l4 + 1))))]) (List.forall_mem_cons.mpr ⟨rfl, (List.forall_mem_cons.mpr ⟨rfl, (List.forall_mem_cons.mpr ⟨rfl, (List.forall_mem_cons.mpr ⟨rfl, (List.forall_mem_cons.mpr ⟨rfl, (fun _ h => nomatch h)⟩)⟩)⟩)⟩)⟩) ?_
      refine z_goto (tgt := 3) dX8_items_49 (by decide) ?_
      refine z_loc (L' := [(0, .ref (G.1 + v 210)), (1, .int (Int32.ofInt (l1))), (2, .int (Int32.ofInt (l2))), (3, .int (Int32.ofInt (l3))), (4, .int (Int32.ofInt ((l4 + 1))))]) (List.forall_mem_cons.mpr ⟨rfl, (List.forall_mem_cons.mpr ⟨rfl, (List.forall_mem_cons.mpr ⟨rfl, (List.forall_mem_cons.mpr ⟨rfl, (List.forall_mem_cons.mpr ⟨rfl, (fun _ h => nomatch h)⟩)⟩)⟩)⟩)⟩) ?_
      exact hB3 _ _ _ _ _ _ hw hW
def wX8_items_3 (E : Int → Int → Int → Int → Int → St → (Int → St → Prop) → Prop)  (l1 l2 l3 l4 : Int) (S : St) (K : Int → St → Prop) : Prop := ∃ (Iv : Int → Int → Int → Int → St → Prop) (mu : Int → Int → Int → Int → St → Nat), Iv l1 l2 l3 l4 S ∧ ∀ (l1 l2 l3 l4 : Int) (S : St), Iv l1 l2 l3 l4 S → wX8_items_3' E l1 l2 l3 l4 S K  (fun ml1 ml2 ml3 ml4 T => Iv ml1 ml2 ml3 ml4 T ∧ mu ml1 ml2 ml3 ml4 T < mu l1 l2 l3 l4 S)
set_option maxRecDepth 100000 in
set_option maxHeartbeats 4000000 in
theorem ubX8_items_3 {G : xG} {v : Nat → Nat} {sh : Nat → Option Sh} {B : Nat × Nat} {c0 : List va_E} {E : Int → Int → Int → Int → Int → St → (Int → St → Prop) → Prop} {dE : Nat} {d : Nat} {Post : xP} {l1 l2 l3 l4 : Int} {S : St} {cs : List va_E} {K : Int → St → Prop} (hE : ∀ (a1 a2 a3 a4 a5 : Int) (S : St) (cs : List va_E) (K : Int → St → Prop), rng a1 → rng a2 → rng a3 → rng a4 → rng a5 → Wv G v sh B c0 S cs → E a1 a2 a3 a4 a5 S K → X G yX8_element cX8_element 8 none dE [.ref (G.1 + v 210), .int (Int32.ofInt a1), .int (Int32.ofInt a2), .int (Int32.ofInt a3), .int (Int32.ofInt a4), .int (Int32.ofInt a5)] cs (vV G v sh B c0 K)) (hdE : 12 ≤ dE) (hd : dE + 1 ≤ d) (hT : sb shC sh) (hS : ∀ b x, sh b = some x → ¬ isS b) (hU : sb shW sh) (hW : Wv G v sh B c0 S cs) (hP : ∀ (x : Int) (S : St) (cs : List va_E), K x S → Wv G v sh B c0 S cs → Post (none) cs)  (hw : wX8_items_3 E l1 l2 l3 l4 S K ) : Z (RX8, cX8_items, 5, none, false) G d Post 3 [(0, .ref (G.1 + v 210)), (1, .int (Int32.ofInt (l1))), (2, .int (Int32.ofInt (l2))), (3, .int (Int32.ofInt (l3))), (4, .int (Int32.ofInt (l4)))] [] cs := by
  unfold wX8_items_3 at hw
  obtain ⟨Iv, mu, h0, hs⟩ := hw
  have key : ∀ (n : Nat) (l1 l2 l3 l4 : Int) (S : St) (cs : List va_E), mu l1 l2 l3 l4 S < n → Iv l1 l2 l3 l4 S → Wv G v sh B c0 S cs → Z (RX8, cX8_items, 5, none, false) G d Post 3 [(0, .ref (G.1 + v 210)), (1, .int (Int32.ofInt (l1))), (2, .int (Int32.ofInt (l2))), (3, .int (Int32.ofInt (l3))), (4, .int (Int32.ofInt (l4)))] [] cs := by
    intro n
    induction n with
    | zero => intro l1 l2 l3 l4 S cs hn; exact absurd hn (Nat.not_lt_zero _)
    | succ n ih =>
      intro l1 l2 l3 l4 S cs hn hI hW
      exact ubX8_items_3' hE hdE hd hT hS hU hW hP  (fun l1 l2 l3 l4 S cs hb hW => ih l1 l2 l3 l4 S cs (Nat.lt_of_lt_of_le hb.2 (Nat.le_of_lt_succ hn)) hb.1 hW) (hs l1 l2 l3 l4 S hI)
  exact key _ _ _ _ _ _ _ (Nat.lt_succ_self _) h0 hW
def wX8_items (E : Int → Int → Int → Int → Int → St → (Int → St → Prop) → Prop)  (a1 a2 a3 : Int) (S : St) (K : Int → St → Prop) : Prop := rng a1 → rng a2 → rng a3 → wX8_items_3 E (a1) (a2) (a3) (0) S K
set_option maxRecDepth 100000 in
set_option maxHeartbeats 4000000 in
theorem lX8_items {G : xG} {v : Nat → Nat} {sh : Nat → Option Sh} {B : Nat × Nat} {c0 : List va_E} {E : Int → Int → Int → Int → Int → St → (Int → St → Prop) → Prop} {dE : Nat}  {a1 a2 a3 : Int} {S : St} {cs : List va_E} {K : Int → St → Prop} (hE : ∀ (a1 a2 a3 a4 a5 : Int) (S : St) (cs : List va_E) (K : Int → St → Prop), rng a1 → rng a2 → rng a3 → rng a4 → rng a5 → Wv G v sh B c0 S cs → E a1 a2 a3 a4 a5 S K → X G yX8_element cX8_element 8 none dE [.ref (G.1 + v 210), .int (Int32.ofInt a1), .int (Int32.ofInt a2), .int (Int32.ofInt a3), .int (Int32.ofInt a4), .int (Int32.ofInt a5)] cs (vV G v sh B c0 K)) (hdE : 12 ≤ dE) (d : Nat) (hd : dE + 1 ≤ d) (hT : sb shC sh) (hS : ∀ b x, sh b = some x → ¬ isS b) (hU : sb shW sh) (hW : Wv G v sh B c0 S cs) (g1 : rng a1) (g2 : rng a2) (g3 : rng a3) (hw : wX8_items E a1 a2 a3 S K) : X G yX8_items cX8_items 5 none d [.ref (G.1 + v 210), .int (Int32.ofInt a1), .int (Int32.ofInt a2), .int (Int32.ofInt a3)] cs (vV G v sh B c0 K) := by
  refine X.of false (by decide +kernel) (by decide) (Nat.le_of_ble_eq_true rfl) ?_
  show Z (RX8, cX8_items, 5, none, false) G d _ 0 [(0, .ref (G.1 + v 210)), (1, .int (Int32.ofInt a1)), (2, .int (Int32.ofInt a2)), (3, .int (Int32.ofInt a3))] [] cs
  have hP : ∀ (x : Int) (S : St) (cs : List va_E), K x S → Wv G v sh B c0 S cs → vV G v sh B c0 K (none) cs := fun x S cs a b => ⟨x, S, rfl, a, b⟩
  unfold wX8_items at hw
  have hw := hw g1 g2 g3
  refine z_iconst (v := Int32.ofInt 0) dX8_items_0 rfl ?_
  refine z_istore dX8_items_1 (by decide) ?_
  refine z_loc (L' := [(0, .ref (G.1 + v 210)), (1, .int (Int32.ofInt (a1))), (2, .int (Int32.ofInt (a2))), (3, .int (Int32.ofInt (a3))), (4, .int (Int32.ofInt (0)))]) (List.forall_mem_cons.mpr ⟨rfl, (List.forall_mem_cons.mpr ⟨rfl, (List.forall_mem_cons.mpr ⟨rfl, (List.forall_mem_cons.mpr ⟨rfl, (List.forall_mem_cons.mpr ⟨rfl, (fun _ h => nomatch h)⟩)⟩)⟩)⟩)⟩) ?_
  refine z_loc (L' := [(0, .ref (G.1 + v 210)), (1, .int (Int32.ofInt (a1))), (2, .int (Int32.ofInt (a2))), (3, .int (Int32.ofInt (a3))), (4, .int (Int32.ofInt (0)))]) (List.forall_mem_cons.mpr ⟨rfl, (List.forall_mem_cons.mpr ⟨rfl, (List.forall_mem_cons.mpr ⟨rfl, (List.forall_mem_cons.mpr ⟨rfl, (List.forall_mem_cons.mpr ⟨rfl, (fun _ h => nomatch h)⟩)⟩)⟩)⟩)⟩) ?_
  exact ubX8_items_3 hE hdE hd hT hS hU hW hP  hw

def wX8_content_180 (E : Int → Int → Int → Int → Int → St → (Int → St → Prop) → Prop)  (l6 : Int) (S : St) (K : Int → St → Prop) : Prop := (rng (l6) ∧ (wX8_endTag (l6) S (fun r2 S1 => K 0 S1)))
set_option maxRecDepth 100000 in
set_option maxHeartbeats 4000000 in
theorem ubX8_content_180 {G : xG} {v : Nat → Nat} {sh : Nat → Option Sh} {B : Nat × Nat} {c0 : List va_E} {E : Int → Int → Int → Int → Int → St → (Int → St → Prop) → Prop} {dE : Nat} {d : Nat} {Post : xP} {l6 : Int} {S : St} {cs : List va_E} {K : Int → St → Prop} (hE : ∀ (a1 a2 a3 a4 a5 : Int) (S : St) (cs : List va_E) (K : Int → St → Prop), rng a1 → rng a2 → rng a3 → rng a4 → rng a5 → Wv G v sh B c0 S cs → E a1 a2 a3 a4 a5 S K → X G yX8_element cX8_element 8 none dE [.ref (G.1 + v 210), .int (Int32.ofInt a1), .int (Int32.ofInt a2), .int (Int32.ofInt a3), .int (Int32.ofInt a4), .int (Int32.ofInt a5)] cs (vV G v sh B c0 K)) (hdE : 12 ≤ dE) (hd : dE + 2 ≤ d) (hT : sb shC sh) (hS : ∀ b x, sh b = some x → ¬ isS b) (hU : sb shW sh) (hW : Wv G v sh B c0 S cs) (hP : ∀ (x : Int) (S : St) (cs : List va_E), K x S → Wv G v sh B c0 S cs → Post (none) cs)  (hw : wX8_content_180 E l6 S K ) : Z (RX8, cX8_content, 7, none, false) G d Post 180 [(0, .ref (G.1 + v 210)), (6, .int (Int32.ofInt (l6)))] [] cs := by
  unfold wX8_content_180 at hw
  refine z_aload_n dX8_content_180 rfl rfl ?_
  refine z_iload dX8_content_181 rfl ?_
  obtain ⟨q3, hw⟩ := hw
  have hX := lX8_endTag 5 (Nat.le_refl _) hT hS hU hW q3 hw
  refine z_callV (As := [_]) eX8_endTag sX8_endTag lX8_95 rfl dX8_content_183 (hW.at (hU 210 _ rfl)) hX (Nat.le_trans (Nat.le_trans (by decide) (Nat.add_le_add_right hdE _)) hd) rfl (Nat.le_of_ble_eq_true rfl) (fun r cs hp => ?_)
  obtain ⟨r2, S1, rfl, hw, hW⟩ := hp
  refine z_st (st' := []) rfl ?_
  exact z_return dX8_content_186 rfl (hP 0 _ _ hw hW)
def wX8_content_147 (E : Int → Int → Int → Int → Int → St → (Int → St → Prop) → Prop)  (l1 l2 l3 l5 l6 : Int) (S : St) (K : Int → St → Prop) : Prop := (wX5_put 22 (62) S (fun r2 S1 => (rng (l5) ∧ ((¬ l5 = 4 → (rng (l1) ∧ (rng (l2) ∧ (wX8_single (l1) (l2) (0) S1 (fun r6 S5 => wX8_content_180 E (l6) S5 K))))) ∧ ((¬ (¬ l5 = 4)) → (rng (l1) ∧ (rng (l2) ∧ (rng (l3) ∧ (wX8_items E (l1) (l2) (l3) S1 (fun r10 S9 => wX8_content_180 E (l6) S9 K))))))))))
set_option maxRecDepth 100000 in
set_option maxHeartbeats 4000000 in
theorem ubX8_content_147 {G : xG} {v : Nat → Nat} {sh : Nat → Option Sh} {B : Nat × Nat} {c0 : List va_E} {E : Int → Int → Int → Int → Int → St → (Int → St → Prop) → Prop} {dE : Nat} {d : Nat} {Post : xP} {l1 l2 l3 l5 l6 : Int} {S : St} {cs : List va_E} {K : Int → St → Prop} (hE : ∀ (a1 a2 a3 a4 a5 : Int) (S : St) (cs : List va_E) (K : Int → St → Prop), rng a1 → rng a2 → rng a3 → rng a4 → rng a5 → Wv G v sh B c0 S cs → E a1 a2 a3 a4 a5 S K → X G yX8_element cX8_element 8 none dE [.ref (G.1 + v 210), .int (Int32.ofInt a1), .int (Int32.ofInt a2), .int (Int32.ofInt a3), .int (Int32.ofInt a4), .int (Int32.ofInt a5)] cs (vV G v sh B c0 K)) (hdE : 12 ≤ dE) (hd : dE + 2 ≤ d) (hT : sb shC sh) (hS : ∀ b x, sh b = some x → ¬ isS b) (hU : sb shW sh) (hW : Wv G v sh B c0 S cs) (hP : ∀ (x : Int) (S : St) (cs : List va_E), K x S → Wv G v sh B c0 S cs → Post (none) cs)  (hw : wX8_content_147 E l1 l2 l3 l5 l6 S K ) : Z (RX8, cX8_content, 7, none, false) G d Post 147 [(0, .ref (G.1 + v 210)), (1, .int (Int32.ofInt (l1))), (2, .int (Int32.ofInt (l2))), (3, .int (Int32.ofInt (l3))), (5, .int (Int32.ofInt (l5))), (6, .int (Int32.ofInt (l6)))] [] cs := by
  unfold wX8_content_147 at hw
  refine z_aload_n dX8_content_147 rfl rfl ?_
  refine v_getR hW (hU 210 _ rfl) rfl kX8 fX8_46 dX8_content_148 ?_
  refine z_bipush (v := Int32.ofInt 62) dX8_content_151 (by decide) ?_
  have hX := lX5_put 1 (Nat.le_refl _) hW (show isS 22 by unfold isS; decide) (fun b x h e => hS b x h (e ▸ (show isS 22 by unfold isS; decide))) ⟨by decide, by decide⟩ hw
  refine z_callV (As := [_]) eX5_put sX5_put lX8_89 rfl dX8_content_153 (hW.sg (show isS 22 by unfold isS; decide) (fun b x h e => hS b x h (e ▸ (show isS 22 by unfold isS; decide)))).choose_spec.choose_spec.choose_spec.choose_spec.1.choose_spec.1 hX (Nat.le_trans (Nat.le_trans (by decide) (Nat.add_le_add_right hdE _)) hd) rfl (Nat.le_of_ble_eq_true rfl) (fun r cs hp => ?_)
  obtain ⟨r2, S1, rfl, hw, hW⟩ := hp
  refine z_st (st' := [.int (Int32.ofInt (r2))]) rfl ?_
  refine z_pop dX8_content_156 rfl ?_
  refine z_iload dX8_content_157 rfl ?_
  refine z_iconst (v := Int32.ofInt 4) dX8_content_159 rfl ?_
  obtain ⟨q4, hw⟩ := hw
  refine i_icmp_ne (tgt := 173) dX8_content_160 (by decide) q4 ⟨by decide, by decide⟩ (fun h3 => ?_) (fun h3 => ?_)
  · have hw := hw.1 h3
    refine z_aload_n dX8_content_173 rfl rfl ?_
    refine z_iload_n dX8_content_174 rfl rfl ?_
    refine z_iload_n dX8_content_175 rfl rfl ?_
    refine z_iconst (v := Int32.ofInt 0) dX8_content_176 rfl ?_
    obtain ⟨q7, hw⟩ := hw
    obtain ⟨q8, hw⟩ := hw
    have hX := lX8_single 6 (Nat.le_refl _) hT hS hU hW q7 q8 ⟨by decide, by decide⟩ hw
    refine z_callV (As := [_, _, _]) eX8_single sX8_single lX8_135 rfl dX8_content_177 (hW.at (hU 210 _ rfl)) hX (Nat.le_trans (Nat.le_trans (by decide) (Nat.add_le_add_right hdE _)) hd) rfl (Nat.le_of_ble_eq_true rfl) (fun r cs hp => ?_)
    obtain ⟨r6, S5, rfl, hw, hW⟩ := hp
    refine z_st (st' := []) rfl ?_
    refine z_loc (L' := [(0, .ref (G.1 + v 210)), (6, .int (Int32.ofInt (l6)))]) (List.forall_mem_cons.mpr ⟨rfl, (List.forall_mem_cons.mpr ⟨rfl, (fun _ h => nomatch h)⟩)⟩) ?_
    exact ubX8_content_180 hE hdE hd hT hS hU hW hP  hw
  · have hw := hw.2 h3
    refine z_aload_n dX8_content_163 rfl rfl ?_
    refine z_iload_n dX8_content_164 rfl rfl ?_
    refine z_iload_n dX8_content_165 rfl rfl ?_
    refine z_iload_n dX8_content_166 rfl rfl ?_
    obtain ⟨q11, hw⟩ := hw
    obtain ⟨q12, hw⟩ := hw
    obtain ⟨q13, hw⟩ := hw
    have hX := lX8_items hE hdE (dE + 1) (Nat.le_refl _) hT hS hU hW q11 q12 q13 hw
    refine z_callV (As := [_, _, _]) eX8_items sX8_items lX8_155 rfl dX8_content_167 (hW.at (hU 210 _ rfl)) hX (Nat.le_trans (Nat.add_le_add_left (show 2 ≤ 2 by decide) dE) hd) rfl (Nat.le_of_ble_eq_true rfl) (fun r cs hp => ?_)
    obtain ⟨r10, S9, rfl, hw, hW⟩ := hp
    refine z_st (st' := []) rfl ?_
    refine z_goto (tgt := 180) dX8_content_170 (by decide) ?_
    refine z_loc (L' := [(0, .ref (G.1 + v 210)), (6, .int (Int32.ofInt (l6)))]) (List.forall_mem_cons.mpr ⟨rfl, (List.forall_mem_cons.mpr ⟨rfl, (fun _ h => nomatch h)⟩)⟩) ?_
    exact ubX8_content_180 hE hdE hd hT hS hU hW hP  hw
def wX8_content (E : Int → Int → Int → Int → Int → St → (Int → St → Prop) → Prop)  (a1 a2 a3 : Int) (S : St) (K : Int → St → Prop) : Prop := rng a1 → rng a2 → rng a3 → (wX1_classOf (a1) S (fun r2 S1 => (rng (r2) ∧ (wX4_shape (r2) (a2) S1 (fun r4 S3 => (rng (r4) ∧ ((r4 = 0 → K 0 S3) ∧ ((¬ (r4 = 0)) → (wX4_isAttribute (r2) (a2) S3 (fun r9 S8 => (rng (r9) ∧ ((r9 = 0 → ((¬ r4 = 3 → (wX4_implicit (r2) S8 (fun r14 S13 => (rng (r14) ∧ ((¬ r14 = a2 → (wX4_fieldName (r2) (a2) S13 (fun r18 S17 => (wX5_put 22 (60) S17 (fun r20 S19 => (rng (r18) ∧ (wX4_spellTo (r18) S19 (fun r22 S21 => ((r4 = 1 → wX8_content_147 E (a1) (a2) (a3) (r4) (r18) S21 K) ∧ ((¬ (r4 = 1)) → (wX1_head (a1) (a2) S21 (fun r26 S25 => (rng (r26) ∧ ((¬ r26 = 0 → wX8_content_147 E (a1) (a2) (a3) (r4) (r18) S25 K) ∧ ((¬ (¬ r26 = 0)) → (wX5_spell 22 13 S25 (fun r30 S29 => K 0 S29))))))))))))))))) ∧ ((¬ (¬ r14 = a2)) → (wX8_items E (a1) (a2) (a3) S13 (fun r32 S31 => K 0 S31)))))))) ∧ ((¬ (¬ r4 = 3)) → (wX1_head (a1) (a2) S8 (fun r34 S33 => (rng (r34) ∧ (rng ((a3 + 1)) ∧ (E (r34) (a1) (a2) (0) ((a3 + 1)) S33 (fun r36 S35 => K 0 S35))))))))) ∧ ((¬ (r9 = 0)) → K 0 S8)))))))))))))
set_option maxRecDepth 100000 in
set_option maxHeartbeats 4000000 in
theorem lX8_content {G : xG} {v : Nat → Nat} {sh : Nat → Option Sh} {B : Nat × Nat} {c0 : List va_E} {E : Int → Int → Int → Int → Int → St → (Int → St → Prop) → Prop} {dE : Nat}  {a1 a2 a3 : Int} {S : St} {cs : List va_E} {K : Int → St → Prop} (hE : ∀ (a1 a2 a3 a4 a5 : Int) (S : St) (cs : List va_E) (K : Int → St → Prop), rng a1 → rng a2 → rng a3 → rng a4 → rng a5 → Wv G v sh B c0 S cs → E a1 a2 a3 a4 a5 S K → X G yX8_element cX8_element 8 none dE [.ref (G.1 + v 210), .int (Int32.ofInt a1), .int (Int32.ofInt a2), .int (Int32.ofInt a3), .int (Int32.ofInt a4), .int (Int32.ofInt a5)] cs (vV G v sh B c0 K)) (hdE : 12 ≤ dE) (d : Nat) (hd : dE + 2 ≤ d) (hT : sb shC sh) (hS : ∀ b x, sh b = some x → ¬ isS b) (hU : sb shW sh) (hW : Wv G v sh B c0 S cs) (g1 : rng a1) (g2 : rng a2) (g3 : rng a3) (hw : wX8_content E a1 a2 a3 S K) : X G yX8_content cX8_content 7 none d [.ref (G.1 + v 210), .int (Int32.ofInt a1), .int (Int32.ofInt a2), .int (Int32.ofInt a3)] cs (vV G v sh B c0 K) := by
  refine X.of false (by decide +kernel) (by decide) (Nat.le_of_ble_eq_true rfl) ?_
  show Z (RX8, cX8_content, 7, none, false) G d _ 0 [(0, .ref (G.1 + v 210)), (1, .int (Int32.ofInt a1)), (2, .int (Int32.ofInt a2)), (3, .int (Int32.ofInt a3))] [] cs
  have hP : ∀ (x : Int) (S : St) (cs : List va_E), K x S → Wv G v sh B c0 S cs → vV G v sh B c0 K (none) cs := fun x S cs a b => ⟨x, S, rfl, a, b⟩
  unfold wX8_content at hw
  have hw := hw g1 g2 g3
  refine z_aload_n dX8_content_0 rfl rfl ?_
  refine v_getR hW (hU 210 _ rfl) rfl kX8 fX8_42 dX8_content_1 ?_
  refine z_iload_n dX8_content_4 rfl rfl ?_
  have hX := lX1_classOf 1 (Nat.le_refl _) hT hS hW g1 hw
  refine z_callV (As := [_]) eX1_classOf sX1_classOf lX8_99 rfl dX8_content_5 (hW.at (hT 42 _ rfl)) hX (Nat.le_trans (Nat.le_trans (by decide) (Nat.add_le_add_right hdE _)) hd) rfl (Nat.le_of_ble_eq_true rfl) (fun r cs hp => ?_)
  obtain ⟨r2, S1, rfl, hw, hW⟩ := hp
  refine z_st (st' := [.int (Int32.ofInt (r2))]) rfl ?_
  refine z_istore dX8_content_8 (by decide) ?_
  refine z_loc (L' := [(0, .ref (G.1 + v 210)), (1, .int (Int32.ofInt (a1))), (2, .int (Int32.ofInt (a2))), (3, .int (Int32.ofInt (a3))), (4, .int (Int32.ofInt (r2)))]) (List.forall_mem_cons.mpr ⟨rfl, (List.forall_mem_cons.mpr ⟨rfl, (List.forall_mem_cons.mpr ⟨rfl, (List.forall_mem_cons.mpr ⟨rfl, (List.forall_mem_cons.mpr ⟨rfl, (fun _ h => nomatch h)⟩)⟩)⟩)⟩)⟩) ?_
  refine z_aload_n dX8_content_10 rfl rfl ?_
  refine v_getR hW (hU 210 _ rfl) rfl kX8 fX8_38 dX8_content_11 ?_
  refine z_iload dX8_content_14 rfl ?_
  refine z_iload_n dX8_content_16 rfl rfl ?_
  obtain ⟨q5, hw⟩ := hw
  have hX := lX4_shape 1 (Nat.le_refl _) hT hS hW q5 g2 hw
  refine z_callV (As := [_, _]) eX4_shape sX4_shape lX8_103 rfl dX8_content_17 (hW.at (hT 24 _ rfl)) hX (Nat.le_trans (Nat.le_trans (by decide) (Nat.add_le_add_right hdE _)) hd) rfl (Nat.le_of_ble_eq_true rfl) (fun r cs hp => ?_)
  obtain ⟨r4, S3, rfl, hw, hW⟩ := hp
  refine z_st (st' := [.int (Int32.ofInt (r4))]) rfl ?_
  refine z_istore dX8_content_20 (by decide) ?_
  refine z_loc (L' := [(0, .ref (G.1 + v 210)), (1, .int (Int32.ofInt (a1))), (2, .int (Int32.ofInt (a2))), (3, .int (Int32.ofInt (a3))), (4, .int (Int32.ofInt (r2))), (5, .int (Int32.ofInt (r4)))]) (List.forall_mem_cons.mpr ⟨rfl, (List.forall_mem_cons.mpr ⟨rfl, (List.forall_mem_cons.mpr ⟨rfl, (List.forall_mem_cons.mpr ⟨rfl, (List.forall_mem_cons.mpr ⟨rfl, (List.forall_mem_cons.mpr ⟨rfl, (fun _ h => nomatch h)⟩)⟩)⟩)⟩)⟩)⟩) ?_
  refine z_iload dX8_content_22 rfl ?_
  obtain ⟨q7, hw⟩ := hw
  refine i_if_eq (tgt := 40) dX8_content_24 (by decide) q7 (fun h6 => ?_) (fun h6 => ?_)
  · have hw := hw.1 h6
    exact z_return dX8_content_40 rfl (hP 0 _ _ hw hW)
  · have hw := hw.2 h6
    refine z_aload_n dX8_content_27 rfl rfl ?_
    refine v_getR hW (hU 210 _ rfl) rfl kX8 fX8_38 dX8_content_28 ?_
    refine z_iload dX8_content_31 rfl ?_
    refine z_iload_n dX8_content_33 rfl rfl ?_
    have hX := lX4_isAttribute 1 (Nat.le_refl _) hT hS hW q5 g2 hw
    refine z_callV (As := [_, _]) eX4_isAttribute sX4_isAttribute lX8_129 rfl dX8_content_34 (hW.at (hT 24 _ rfl)) hX (Nat.le_trans (Nat.le_trans (by decide) (Nat.add_le_add_right hdE _)) hd) rfl (Nat.le_of_ble_eq_true rfl) (fun r cs hp => ?_)
    obtain ⟨r9, S8, rfl, hw, hW⟩ := hp
    refine z_st (st' := [.int (Int32.ofInt (r9))]) rfl ?_
    obtain ⟨q11, hw⟩ := hw
    refine i_if_eq (tgt := 41) dX8_content_37 (by decide) q11 (fun h10 => ?_) (fun h10 => ?_)
    · have hw := hw.1 h10
      refine z_iload dX8_content_41 rfl ?_
      refine z_iconst (v := Int32.ofInt 3) dX8_content_43 rfl ?_
      refine i_icmp_ne (tgt := 67) dX8_content_44 (by decide) q7 ⟨by decide, by decide⟩ (fun h12 => ?_) (fun h12 => ?_)
      · have hw := hw.1 h12
        refine z_aload_n dX8_content_67 rfl rfl ?_
        refine v_getR hW (hU 210 _ rfl) rfl kX8 fX8_38 dX8_content_68 ?_
        refine z_iload dX8_content_71 rfl ?_
        have hX := lX4_implicit 1 (Nat.le_refl _) hT hS hW q5 hw
        refine z_callV (As := [_]) eX4_implicit sX4_implicit lX8_148 rfl dX8_content_73 (hW.at (hT 24 _ rfl)) hX (Nat.le_trans (Nat.le_trans (by decide) (Nat.add_le_add_right hdE _)) hd) rfl (Nat.le_of_ble_eq_true rfl) (fun r cs hp => ?_)
        obtain ⟨r14, S13, rfl, hw, hW⟩ := hp
        refine z_st (st' := [.int (Int32.ofInt (r14))]) rfl ?_
        refine z_iload_n dX8_content_76 rfl rfl ?_
        obtain ⟨q16, hw⟩ := hw
        refine i_icmp_ne (tgt := 88) dX8_content_77 (by decide) q16 g2 (fun h15 => ?_) (fun h15 => ?_)
        · have hw := hw.1 h15
          refine z_iload dX8_content_88 rfl ?_
          refine z_iload_n dX8_content_90 rfl rfl ?_
          have hX := lX4_fieldName 0 (Nat.le_refl _) hT hS hW q5 g2 hw
          refine z_callS (As := [_, _]) eX4_fieldName sX4_fieldName lX8_109 dX8_content_91 hX (Nat.le_trans (Nat.le_trans (by decide) (Nat.add_le_add_right hdE _)) hd) rfl (Nat.le_of_ble_eq_true rfl) (fun r cs hp => ?_)
          obtain ⟨r18, S17, rfl, hw, hW⟩ := hp
          refine z_st (st' := [.int (Int32.ofInt (r18))]) rfl ?_
          refine z_istore dX8_content_94 (by decide) ?_
          refine z_loc (L' := [(0, .ref (G.1 + v 210)), (1, .int (Int32.ofInt (a1))), (2, .int (Int32.ofInt (a2))), (3, .int (Int32.ofInt (a3))), (4, .int (Int32.ofInt (r2))), (5, .int (Int32.ofInt (r4))), (6, .int (Int32.ofInt (r18)))]) (List.forall_mem_cons.mpr ⟨rfl, (List.forall_mem_cons.mpr ⟨rfl, (List.forall_mem_cons.mpr ⟨rfl, (List.forall_mem_cons.mpr ⟨rfl, (List.forall_mem_cons.mpr ⟨rfl, (List.forall_mem_cons.mpr ⟨rfl, (List.forall_mem_cons.mpr ⟨rfl, (fun _ h => nomatch h)⟩)⟩)⟩)⟩)⟩)⟩)⟩) ?_
          refine z_aload_n dX8_content_96 rfl rfl ?_
          refine v_getR hW (hU 210 _ rfl) rfl kX8 fX8_46 dX8_content_97 ?_
          refine z_bipush (v := Int32.ofInt 60) dX8_content_100 (by decide) ?_
          have hX := lX5_put 1 (Nat.le_refl _) hW (show isS 22 by unfold isS; decide) (fun b x h e => hS b x h (e ▸ (show isS 22 by unfold isS; decide))) ⟨by decide, by decide⟩ hw
          refine z_callV (As := [_]) eX5_put sX5_put lX8_89 rfl dX8_content_102 (hW.sg (show isS 22 by unfold isS; decide) (fun b x h e => hS b x h (e ▸ (show isS 22 by unfold isS; decide)))).choose_spec.choose_spec.choose_spec.choose_spec.1.choose_spec.1 hX (Nat.le_trans (Nat.le_trans (by decide) (Nat.add_le_add_right hdE _)) hd) rfl (Nat.le_of_ble_eq_true rfl) (fun r cs hp => ?_)
          obtain ⟨r20, S19, rfl, hw, hW⟩ := hp
          refine z_st (st' := [.int (Int32.ofInt (r20))]) rfl ?_
          refine z_pop dX8_content_105 rfl ?_
          refine z_aload_n dX8_content_106 rfl rfl ?_
          refine v_getR hW (hU 210 _ rfl) rfl kX8 fX8_38 dX8_content_107 ?_
          refine z_aload_n dX8_content_110 rfl rfl ?_
          refine v_getR hW (hU 210 _ rfl) rfl kX8 fX8_46 dX8_content_111 ?_
          refine z_iload dX8_content_114 rfl ?_
          obtain ⟨q23, hw⟩ := hw
          have hX := lX4_spellTo 2 (Nat.le_refl _) hT hS hW q23 hw
          refine z_callV (As := [_, _]) eX4_spellTo sX4_spellTo lX8_112 rfl dX8_content_116 (hW.at (hT 24 _ rfl)) hX (Nat.le_trans (Nat.le_trans (by decide) (Nat.add_le_add_right hdE _)) hd) rfl (Nat.le_of_ble_eq_true rfl) (fun r cs hp => ?_)
          obtain ⟨r22, S21, rfl, hw, hW⟩ := hp
          refine z_st (st' := []) rfl ?_
          refine z_iload dX8_content_119 rfl ?_
          refine z_iconst (v := Int32.ofInt 1) dX8_content_121 rfl ?_
          refine i_icmp_eq (tgt := 147) dX8_content_122 (by decide) q7 ⟨by decide, by decide⟩ (fun h24 => ?_) (fun h24 => ?_)
          · have hw := hw.1 h24
            refine z_loc (L' := [(0, .ref (G.1 + v 210)), (1, .int (Int32.ofInt (a1))), (2, .int (Int32.ofInt (a2))), (3, .int (Int32.ofInt (a3))), (5, .int (Int32.ofInt (r4))), (6, .int (Int32.ofInt (r18)))]) (List.forall_mem_cons.mpr ⟨rfl, (List.forall_mem_cons.mpr ⟨rfl, (List.forall_mem_cons.mpr ⟨rfl, (List.forall_mem_cons.mpr ⟨rfl, (List.forall_mem_cons.mpr ⟨rfl, (List.forall_mem_cons.mpr ⟨rfl, (fun _ h => nomatch h)⟩)⟩)⟩)⟩)⟩)⟩) ?_
            exact ubX8_content_147 hE hdE hd hT hS hU hW hP  hw
          · have hw := hw.2 h24
            refine z_aload_n dX8_content_125 rfl rfl ?_
            refine v_getR hW (hU 210 _ rfl) rfl kX8 fX8_42 dX8_content_126 ?_
            refine z_iload_n dX8_content_129 rfl rfl ?_
            refine z_iload_n dX8_content_130 rfl rfl ?_
            have hX := lX1_head 1 (Nat.le_refl _) hT hS hW g1 g2 hw
            refine z_callV (As := [_, _]) eX1_head sX1_head lX8_145 rfl dX8_content_131 (hW.at (hT 42 _ rfl)) hX (Nat.le_trans (Nat.le_trans (by decide) (Nat.add_le_add_right hdE _)) hd) rfl (Nat.le_of_ble_eq_true rfl) (fun r cs hp => ?_)
            obtain ⟨r26, S25, rfl, hw, hW⟩ := hp
            refine z_st (st' := [.int (Int32.ofInt (r26))]) rfl ?_
            obtain ⟨q28, hw⟩ := hw
            refine i_if_ne (tgt := 147) dX8_content_134 (by decide) q28 (fun h27 => ?_) (fun h27 => ?_)
            · have hw := hw.1 h27
              refine z_loc (L' := [(0, .ref (G.1 + v 210)), (1, .int (Int32.ofInt (a1))), (2, .int (Int32.ofInt (a2))), (3, .int (Int32.ofInt (a3))), (5, .int (Int32.ofInt (r4))), (6, .int (Int32.ofInt (r18)))]) (List.forall_mem_cons.mpr ⟨rfl, (List.forall_mem_cons.mpr ⟨rfl, (List.forall_mem_cons.mpr ⟨rfl, (List.forall_mem_cons.mpr ⟨rfl, (List.forall_mem_cons.mpr ⟨rfl, (List.forall_mem_cons.mpr ⟨rfl, (fun _ h => nomatch h)⟩)⟩)⟩)⟩)⟩)⟩) ?_
              exact ubX8_content_147 hE hdE hd hT hS hU hW hP  hw
            · have hw := hw.2 h27
              refine z_aload_n dX8_content_137 rfl rfl ?_
              refine v_getR hW (hU 210 _ rfl) rfl kX8 fX8_46 dX8_content_138 ?_
              refine z_ldcS (i := 13) (tx := "/>") (by decide +kernel) dX8_content_141 ?_
              have hX := lX5_spell 4 (Nat.le_refl _) hW (show isS 22 by unfold isS; decide) (fun b x h e => hS b x h (e ▸ (show isS 22 by unfold isS; decide))) (show 13 < xN by decide)  hw
              refine z_callV (As := [_]) eX5_spell sX5_spell lX8_85 rfl dX8_content_143 (hW.sg (show isS 22 by unfold isS; decide) (fun b x h e => hS b x h (e ▸ (show isS 22 by unfold isS; decide)))).choose_spec.choose_spec.choose_spec.choose_spec.1.choose_spec.1 hX (Nat.le_trans (Nat.le_trans (by decide) (Nat.add_le_add_right hdE _)) hd) rfl (Nat.le_of_ble_eq_true rfl) (fun r cs hp => ?_)
              obtain ⟨r30, S29, rfl, hw, hW⟩ := hp
              refine z_st (st' := []) rfl ?_
              exact z_return dX8_content_146 rfl (hP 0 _ _ hw hW)
        · have hw := hw.2 h15
          refine z_aload_n dX8_content_80 rfl rfl ?_
          refine z_iload_n dX8_content_81 rfl rfl ?_
          refine z_iload_n dX8_content_82 rfl rfl ?_
          refine z_iload_n dX8_content_83 rfl rfl ?_
          have hX := lX8_items hE hdE (dE + 1) (Nat.le_refl _) hT hS hU hW g1 g2 g3 hw
          refine z_callV (As := [_, _, _]) eX8_items sX8_items lX8_155 rfl dX8_content_84 (hW.at (hU 210 _ rfl)) hX (Nat.le_trans (Nat.add_le_add_left (show 2 ≤ 2 by decide) dE) hd) rfl (Nat.le_of_ble_eq_true rfl) (fun r cs hp => ?_)
          obtain ⟨r32, S31, rfl, hw, hW⟩ := hp
          refine z_st (st' := []) rfl ?_
          exact z_return dX8_content_87 rfl (hP 0 _ _ hw hW)
      · have hw := hw.2 h12
        refine z_aload_n dX8_content_47 rfl rfl ?_
        refine z_aload_n dX8_content_48 rfl rfl ?_
        refine v_getR hW (hU 210 _ rfl) rfl kX8 fX8_42 dX8_content_49 ?_
        refine z_iload_n dX8_content_52 rfl rfl ?_
        refine z_iload_n dX8_content_53 rfl rfl ?_
        have hX := lX1_head 1 (Nat.le_refl _) hT hS hW g1 g2 hw
        refine z_callV (As := [_, _]) eX1_head sX1_head lX8_145 rfl dX8_content_54 (hW.at (hT 42 _ rfl)) hX (Nat.le_trans (Nat.le_trans (by decide) (Nat.add_le_add_right hdE _)) hd) rfl (Nat.le_of_ble_eq_true rfl) (fun r cs hp => ?_)
        obtain ⟨r34, S33, rfl, hw, hW⟩ := hp
        refine z_st (st' := [.int (Int32.ofInt (r34)), .ref (G.1 + v 210)]) rfl ?_
        refine z_iload_n dX8_content_57 rfl rfl ?_
        refine z_iload_n dX8_content_58 rfl rfl ?_
        refine z_iconst (v := Int32.ofInt 0) dX8_content_59 rfl ?_
        refine z_iload_n dX8_content_60 rfl rfl ?_
        refine z_iconst (v := Int32.ofInt 1) dX8_content_61 rfl ?_
        refine i_iadd dX8_content_62 ?_
        obtain ⟨q37, hw⟩ := hw
        obtain ⟨q38, hw⟩ := hw
        have hX := hE _ _ _ _ _ _ _ _ q37 g1 g2 ⟨by decide, by decide⟩ q38 hW hw
        refine z_callV (As := [_, _, _, _, _]) eX8_element sX8_element lX8_151 rfl dX8_content_63 (hW.at (hU 210 _ rfl)) hX (Nat.le_trans (Nat.add_le_add_left (show 1 ≤ 2 by decide) dE) hd) rfl (Nat.le_of_ble_eq_true rfl) (fun r cs hp => ?_)
        obtain ⟨r36, S35, rfl, hw, hW⟩ := hp
        refine z_st (st' := []) rfl ?_
        exact z_return dX8_content_66 rfl (hP 0 _ _ hw hW)
    · have hw := hw.2 h10
      exact z_return dX8_content_40 rfl (hP 0 _ _ hw hW)

