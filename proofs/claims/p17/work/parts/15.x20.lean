def wX9_comes_i_2'  (l2 : Int) (S : St) (K : Int → St → Prop) (B2 : Int → St → Prop) : Prop := (rng (l2) ∧ ((2 ≤ l2 → K (1) S) ∧ ((¬ (2 ≤ l2)) → (iv (-2147483648) 2147483647 (S.1 220 3) → (rng ((S.1 220 3 + l2)) ∧ (wX5_at 1 ((S.1 220 3 + l2)) S (fun r5 S4 => ((0 : Int) ≤ l2 ∧ l2 < (2 : Int) ∧ (rng (r5) ∧ ((r5 = (sch 21 (l2)) → B2 ((l2 + 1)) S4) ∧ ((¬ (r5 = (sch 21 (l2)))) → K (0) S4)))))))))))
set_option maxRecDepth 100000 in
set_option maxHeartbeats 4000000 in
theorem ubX9_comes_i_2' {G : xG} {v : Nat → Nat} {sh : Nat → Option Sh} {B : Nat × Nat} {c0 : List va_E} {d : Nat} {Post : xP} {l2 : Int} {S : St} {cs : List va_E} {K : Int → St → Prop} {B2 : Int → St → Prop} (hd : 4 ≤ d) (hT : sb shC sh) (hS : ∀ b x, sh b = some x → ¬ isS b) (hU : sb shXT sh) (hW : Wv G v sh B c0 S cs) (hP : ∀ (x : Int) (S : St) (cs : List va_E), K x S → Wv G v sh B c0 S cs → Post (some (.int (Int32.ofInt x))) cs) (hB2 : ∀ (l2 : Int) (S : St) (cs : List va_E), B2 l2 S → Wv G v sh B c0 S cs → Z (RX9, cX9_comes, 3, some .boolean, false) G d Post 2 [(0, .ref (G.1 + v 220)), (1, .ref (G.2.2.2.1 21)), (2, .int (Int32.ofInt (l2)))] [] cs) (hw : wX9_comes_i_2' l2 S K B2) : Z (RX9, cX9_comes, 3, some .boolean, false) G d Post 2 [(0, .ref (G.1 + v 220)), (1, .ref (G.2.2.2.1 21)), (2, .int (Int32.ofInt (l2)))] [] cs := by
  unfold wX9_comes_i_2' at hw
  refine z_iload_n dX9_comes_2 rfl rfl ?_
  refine z_aload_n dX9_comes_3 rfl rfl ?_
  refine z_callVS (As := []) (show 21 < xN by decide) eJ0_length_8abf5 sJ0_length_8abf5 lX9_162 rfl dX9_comes_4 (c_length 1 (Nat.le_refl _) (show 21 < xN by decide)) (Nat.le_trans (by decide) hd) rfl (Nat.le_of_ble_eq_true rfl) (fun r cs1 hp => ?_)
  obtain ⟨rfl, rfl⟩ := hp
  refine z_st (st' := [.int (Int32.ofInt (2)), .int (Int32.ofInt (l2))]) rfl ?_
  obtain ⟨q2, hw⟩ := hw
  refine i_icmp_ge (tgt := 39) dX9_comes_7 (by decide) q2 ⟨by decide, by decide⟩ (fun h1 => ?_) (fun h1 => ?_)
  · have hw := hw.1 h1
    refine z_iconst (v := Int32.ofInt 1) dX9_comes_39 rfl ?_
    exact z_ireturn dX9_comes_40 rfl (nar01 (by decide)) (hP _ _ _ hw hW)
  · have hw := hw.2 h1
    refine z_aload_n dX9_comes_10 rfl rfl ?_
    refine v_getR hW (hU 220 _ rfl) rfl kX9 fX9_24 dX9_comes_11 ?_
    refine z_aload_n dX9_comes_14 rfl rfl ?_
    have q3 : iv (-2147483648) 2147483647 (S.1 220 3) := hW.iI 220 3
    have hw := hw q3
    refine v_getI hW (hU 220 _ rfl) rfl kX9 fX9_9 dX9_comes_15 ?_
    refine z_iload_n dX9_comes_18 rfl rfl ?_
    refine i_iadd dX9_comes_19 ?_
    obtain ⟨q6, hw⟩ := hw
    have hX := lX5_at 0 (Nat.le_refl _) hW (show isS 1 by unfold isS; decide) (fun b x h e => hS b x h (e ▸ (show isS 1 by unfold isS; decide))) q6 hw
    refine z_callV (As := [_]) eX5_at sX5_at lX9_47 rfl dX9_comes_20 (hW.sg (show isS 1 by unfold isS; decide) (fun b x h e => hS b x h (e ▸ (show isS 1 by unfold isS; decide)))).choose_spec.choose_spec.choose_spec.choose_spec.1.choose_spec.1 hX (Nat.le_trans (by decide) hd) rfl (Nat.le_of_ble_eq_true rfl) (fun r cs hp => ?_)
    obtain ⟨r5, S4, rfl, hw, hW⟩ := hp
    refine z_st (st' := [.int (Int32.ofInt (r5))]) rfl ?_
    refine z_aload_n dX9_comes_23 rfl rfl ?_
    refine z_iload_n dX9_comes_24 rfl rfl ?_
    obtain ⟨q7a, q7b, hw⟩ := hw
    refine z_callVS (As := [_]) (show 21 < xN by decide) eJ0_charAt_5068e sJ0_charAt_5068e lX9_165 rfl dX9_comes_25 (c_charAt 3 (Nat.le_refl _) (show 21 < xN by decide) (oI_in (n := 2) q7a q7b (by decide))) (Nat.le_trans (by decide) hd) rfl (Nat.le_of_ble_eq_true rfl) (fun r cs1 hp => ?_)
    obtain ⟨rfl, rfl⟩ := hp
    refine z_st (st' := [.int (Int32.ofInt ((sch 21 (l2)))), .int (Int32.ofInt (r5))]) (by unfold sch; rw [Int32.ofInt_toInt]; rfl) ?_
    obtain ⟨q9, hw⟩ := hw
    refine i_icmp_eq (tgt := 33) dX9_comes_28 (by decide) q9 (rng_of _) (fun h8 => ?_) (fun h8 => ?_)
    · have hw := hw.1 h8
      refine i_iinc (l := l2) dX9_comes_33 rfl (by decide) ?_
      refine z_loc (L' := [(0, .ref (G.1 + v 220)), (1, .ref (G.2.2.2.1 21)), (2, .int (Int32.ofInt ((l2 + 1))))]) (List.forall_mem_cons.mpr ⟨rfl, (List.forall_mem_cons.mpr ⟨rfl, (List.forall_mem_cons.mpr ⟨rfl, (fun _ h => nomatch h)⟩)⟩)⟩) ?_
      refine z_goto (tgt := 2) dX9_comes_36 (by decide) ?_
      refine z_loc (L' := [(0, .ref (G.1 + v 220)), (1, .ref (G.2.2.2.1 21)), (2, .int (Int32.ofInt ((l2 + 1))))]) (List.forall_mem_cons.mpr ⟨rfl, (List.forall_mem_cons.mpr ⟨rfl, (List.forall_mem_cons.mpr ⟨rfl, (fun _ h => nomatch h)⟩)⟩)⟩) ?_
      exact hB2 _ _ _ hw hW
    · have hw := hw.2 h8
      refine z_iconst (v := Int32.ofInt 0) dX9_comes_31 rfl ?_
      exact z_ireturn dX9_comes_32 rfl (nar01 (by decide)) (hP _ _ _ hw hW)
def wX9_comes_i_2  (l2 : Int) (S : St) (K : Int → St → Prop) : Prop := ∃ (Iv : Int → St → Prop) (mu : Int → St → Nat), Iv l2 S ∧ ∀ (l2 : Int) (S : St), Iv l2 S → wX9_comes_i_2' l2 S K  (fun ml2 T => Iv ml2 T ∧ mu ml2 T < mu l2 S)
set_option maxRecDepth 100000 in
set_option maxHeartbeats 4000000 in
theorem ubX9_comes_i_2 {G : xG} {v : Nat → Nat} {sh : Nat → Option Sh} {B : Nat × Nat} {c0 : List va_E} {d : Nat} {Post : xP} {l2 : Int} {S : St} {cs : List va_E} {K : Int → St → Prop} (hd : 4 ≤ d) (hT : sb shC sh) (hS : ∀ b x, sh b = some x → ¬ isS b) (hU : sb shXT sh) (hW : Wv G v sh B c0 S cs) (hP : ∀ (x : Int) (S : St) (cs : List va_E), K x S → Wv G v sh B c0 S cs → Post (some (.int (Int32.ofInt x))) cs)  (hw : wX9_comes_i_2 l2 S K ) : Z (RX9, cX9_comes, 3, some .boolean, false) G d Post 2 [(0, .ref (G.1 + v 220)), (1, .ref (G.2.2.2.1 21)), (2, .int (Int32.ofInt (l2)))] [] cs := by
  unfold wX9_comes_i_2 at hw
  obtain ⟨Iv, mu, h0, hs⟩ := hw
  have key : ∀ (n : Nat) (l2 : Int) (S : St) (cs : List va_E), mu l2 S < n → Iv l2 S → Wv G v sh B c0 S cs → Z (RX9, cX9_comes, 3, some .boolean, false) G d Post 2 [(0, .ref (G.1 + v 220)), (1, .ref (G.2.2.2.1 21)), (2, .int (Int32.ofInt (l2)))] [] cs := by
    intro n
    induction n with
    | zero => intro l2 S cs hn; exact absurd hn (Nat.not_lt_zero _)
    | succ n ih =>
      intro l2 S cs hn hI hW
      exact ubX9_comes_i_2' hd hT hS hU hW hP  (fun l2 S cs hb hW => ih l2 S cs (Nat.lt_of_lt_of_le hb.2 (Nat.le_of_lt_succ hn)) hb.1 hW) (hs l2 S hI)
  exact key _ _ _ _ (Nat.lt_succ_self _) h0 hW
def wX9_comes_i  (S : St) (K : Int → St → Prop) : Prop := wX9_comes_i_2 (0) S K
set_option maxRecDepth 100000 in
set_option maxHeartbeats 4000000 in
theorem lX9_comes_i {G : xG} {v : Nat → Nat} {sh : Nat → Option Sh} {B : Nat × Nat} {c0 : List va_E}  {S : St} {cs : List va_E} {K : Int → St → Prop} (d : Nat) (hd : 4 ≤ d) (hT : sb shC sh) (hS : ∀ b x, sh b = some x → ¬ isS b) (hU : sb shXT sh) (hW : Wv G v sh B c0 S cs)  (hw : wX9_comes_i  S K) : X G yX9_comes cX9_comes 3 (some .boolean) d [.ref (G.1 + v 220), .ref (G.2.2.2.1 21)] cs (vI G v sh B c0 K) := by
  refine X.of false (by decide +kernel) (by decide) (Nat.le_of_ble_eq_true rfl) ?_
  show Z (RX9, cX9_comes, 3, some .boolean, false) G d _ 0 [(0, .ref (G.1 + v 220)), (1, .ref (G.2.2.2.1 21))] [] cs
  have hP : ∀ (x : Int) (S : St) (cs : List va_E), K x S → Wv G v sh B c0 S cs → vI G v sh B c0 K (some (.int (Int32.ofInt x))) cs := fun x S cs a b => ⟨x, S, rfl, a, b⟩
  unfold wX9_comes_i at hw
  refine z_iconst (v := Int32.ofInt 0) dX9_comes_0 rfl ?_
  refine z_istore_n dX9_comes_1 rfl (by decide) ?_
  refine z_loc (L' := [(0, .ref (G.1 + v 220)), (1, .ref (G.2.2.2.1 21)), (2, .int (Int32.ofInt (0)))]) (List.forall_mem_cons.mpr ⟨rfl, (List.forall_mem_cons.mpr ⟨rfl, (List.forall_mem_cons.mpr ⟨rfl, (fun _ h => nomatch h)⟩)⟩)⟩) ?_
  refine z_loc (L' := [(0, .ref (G.1 + v 220)), (1, .ref (G.2.2.2.1 21)), (2, .int (Int32.ofInt (0)))]) (List.forall_mem_cons.mpr ⟨rfl, (List.forall_mem_cons.mpr ⟨rfl, (List.forall_mem_cons.mpr ⟨rfl, (fun _ h => nomatch h)⟩)⟩)⟩) ?_
  exact ubX9_comes_i_2 hd hT hS hU hW hP  hw

def wX9_comment_70  (S : St) (K : Int → St → Prop) : Prop := (iv (-2147483648) 2147483647 (S.1 220 3) → (wX5_at 1 (S.1 220 3) S (fun r3 S2 => (rng (r3) ∧ ((¬ r3 = 62 → (iv (-2147483648) 2147483647 (S2.1 220 3) → (∀ S7, S7 = pI S2 220 6 (S2.1 220 3) → K 0 S7))) ∧ ((¬ (¬ r3 = 62)) → (iv (-2147483648) 2147483647 (S2.1 220 3) → (iv (-2147483648) 2147483647 ((S2.1 220 3 + 1)) ∧ (∀ S9, S9 = pI S2 220 3 ((S2.1 220 3 + 1)) → K 0 S9)))))))))
set_option maxRecDepth 100000 in
set_option maxHeartbeats 4000000 in
theorem ubX9_comment_70 {G : xG} {v : Nat → Nat} {sh : Nat → Option Sh} {B : Nat × Nat} {c0 : List va_E} {d : Nat} {Post : xP} {S : St} {cs : List va_E} {K : Int → St → Prop} (hd : 5 ≤ d) (hT : sb shC sh) (hS : ∀ b x, sh b = some x → ¬ isS b) (hU : sb shXT sh) (hW : Wv G v sh B c0 S cs) (hP : ∀ (x : Int) (S : St) (cs : List va_E), K x S → Wv G v sh B c0 S cs → Post (none) cs)  (hw : wX9_comment_70  S K ) : Z (RX9, cX9_comment, 1, none, false) G d Post 70 [(0, .ref (G.1 + v 220))] [] cs := by
  unfold wX9_comment_70 at hw
  refine z_aload_n dX9_comment_70 rfl rfl ?_
  refine v_getR hW (hU 220 _ rfl) rfl kX9 fX9_24 dX9_comment_71 ?_
  refine z_aload_n dX9_comment_74 rfl rfl ?_
  have q1 : iv (-2147483648) 2147483647 (S.1 220 3) := hW.iI 220 3
  have hw := hw q1
  refine v_getI hW (hU 220 _ rfl) rfl kX9 fX9_9 dX9_comment_75 ?_
  have hX := lX5_at 0 (Nat.le_refl _) hW (show isS 1 by unfold isS; decide) (fun b x h e => hS b x h (e ▸ (show isS 1 by unfold isS; decide))) (rngq q1 (by decide) (by decide)) hw
  refine z_callV (As := [_]) eX5_at sX5_at lX9_47 rfl dX9_comment_78 (hW.sg (show isS 1 by unfold isS; decide) (fun b x h e => hS b x h (e ▸ (show isS 1 by unfold isS; decide)))).choose_spec.choose_spec.choose_spec.choose_spec.1.choose_spec.1 hX (Nat.le_trans (by decide) hd) rfl (Nat.le_of_ble_eq_true rfl) (fun r cs hp => ?_)
  obtain ⟨r3, S2, rfl, hw, hW⟩ := hp
  refine z_st (st' := [.int (Int32.ofInt (r3))]) rfl ?_
  refine z_bipush (v := Int32.ofInt 62) dX9_comment_81 (by decide) ?_
  obtain ⟨q5, hw⟩ := hw
  refine i_icmp_ne (tgt := 99) dX9_comment_83 (by decide) q5 ⟨by decide, by decide⟩ (fun h4 => ?_) (fun h4 => ?_)
  · have hw := hw.1 h4
    refine z_aload_n dX9_comment_99 rfl rfl ?_
    refine z_aload_n dX9_comment_100 rfl rfl ?_
    have q6 : iv (-2147483648) 2147483647 (S2.1 220 3) := hW.iI 220 3
    have hw := hw q6
    refine v_getI hW (hU 220 _ rfl) rfl kX9 fX9_9 dX9_comment_101 ?_
    refine v_putI hW (hU 220 _ rfl) (by decide) (by unfold isS; decide) rfl kX9 fX9_21 dX9_comment_104 rfl rfl rfl q6 (fun cs hW => ?_)
    obtain ⟨S7, hS7⟩ : ∃ x, x = pI S2 220 6 (S2.1 220 3) := ⟨_, rfl⟩
    rw [← hS7] at hW
    have hw := hw S7 hS7
    exact z_return dX9_comment_107 rfl (hP 0 _ _ hw hW)
  · have hw := hw.2 h4
    refine z_aload_n dX9_comment_86 rfl rfl ?_
    refine z_dup dX9_comment_87 rfl ?_
    have q8 : iv (-2147483648) 2147483647 (S2.1 220 3) := hW.iI 220 3
    have hw := hw q8
    refine v_getI hW (hU 220 _ rfl) rfl kX9 fX9_9 dX9_comment_88 ?_
    refine z_iconst (v := Int32.ofInt 1) dX9_comment_91 rfl ?_
    refine i_iadd dX9_comment_92 ?_
    obtain ⟨q10, hw⟩ := hw
    refine v_putI hW (hU 220 _ rfl) (by decide) (by unfold isS; decide) rfl kX9 fX9_9 dX9_comment_93 rfl rfl rfl q10 (fun cs hW => ?_)
    obtain ⟨S9, hS9⟩ : ∃ x, x = pI S2 220 3 ((S2.1 220 3 + 1)) := ⟨_, rfl⟩
    rw [← hS9] at hW
    have hw := hw S9 hS9
    refine z_goto (tgt := 107) dX9_comment_96 (by decide) ?_
    exact z_return dX9_comment_107 rfl (hP 0 _ _ hw hW)
def wX9_comment_46  (S : St) (K : Int → St → Prop) : Prop := (iv (-2147483648) 2147483647 (S.1 220 3) → (wX5_length 1 S (fun r3 S2 => (rng (r3) ∧ ((r3 ≤ S.1 220 3 → wX9_comment_70 S2 K) ∧ ((¬ (r3 ≤ S.1 220 3)) → (iv (-2147483648) 2147483647 (S2.1 220 3) → (iv (-2147483648) 2147483647 ((S2.1 220 3 + 2)) ∧ (∀ S7, S7 = pI S2 220 3 ((S2.1 220 3 + 2)) → wX9_comment_70 S7 K)))))))))
set_option maxRecDepth 100000 in
set_option maxHeartbeats 4000000 in
theorem ubX9_comment_46 {G : xG} {v : Nat → Nat} {sh : Nat → Option Sh} {B : Nat × Nat} {c0 : List va_E} {d : Nat} {Post : xP} {S : St} {cs : List va_E} {K : Int → St → Prop} (hd : 5 ≤ d) (hT : sb shC sh) (hS : ∀ b x, sh b = some x → ¬ isS b) (hU : sb shXT sh) (hW : Wv G v sh B c0 S cs) (hP : ∀ (x : Int) (S : St) (cs : List va_E), K x S → Wv G v sh B c0 S cs → Post (none) cs)  (hw : wX9_comment_46  S K ) : Z (RX9, cX9_comment, 1, none, false) G d Post 46 [(0, .ref (G.1 + v 220))] [] cs := by
  unfold wX9_comment_46 at hw
  refine z_aload_n dX9_comment_46 rfl rfl ?_
  have q1 : iv (-2147483648) 2147483647 (S.1 220 3) := hW.iI 220 3
  have hw := hw q1
  refine v_getI hW (hU 220 _ rfl) rfl kX9 fX9_9 dX9_comment_47 ?_
  refine z_aload_n dX9_comment_50 rfl rfl ?_
  refine v_getR hW (hU 220 _ rfl) rfl kX9 fX9_24 dX9_comment_51 ?_
  have hX := lX5_length 0 (Nat.le_refl _) hW (show isS 1 by unfold isS; decide) (fun b x h e => hS b x h (e ▸ (show isS 1 by unfold isS; decide)))  hw
  refine z_callV (As := []) eX5_length sX5_length lX9_80 rfl dX9_comment_54 (hW.sg (show isS 1 by unfold isS; decide) (fun b x h e => hS b x h (e ▸ (show isS 1 by unfold isS; decide)))).choose_spec.choose_spec.choose_spec.choose_spec.1.choose_spec.1 hX (Nat.le_trans (by decide) hd) rfl (Nat.le_of_ble_eq_true rfl) (fun r cs hp => ?_)
  obtain ⟨r3, S2, rfl, hw, hW⟩ := hp
  refine z_st (st' := [.int (Int32.ofInt (r3)), .int (Int32.ofInt (S.1 220 3))]) rfl ?_
  obtain ⟨q5, hw⟩ := hw
  refine i_icmp_ge (tgt := 70) dX9_comment_57 (by decide) (rngq q1 (by decide) (by decide)) q5 (fun h4 => ?_) (fun h4 => ?_)
  · have hw := hw.1 h4
    refine z_loc (L' := [(0, .ref (G.1 + v 220))]) (List.forall_mem_cons.mpr ⟨rfl, (fun _ h => nomatch h)⟩) ?_
    exact ubX9_comment_70 hd hT hS hU hW hP  hw
  · have hw := hw.2 h4
    refine z_aload_n dX9_comment_60 rfl rfl ?_
    refine z_dup dX9_comment_61 rfl ?_
    have q6 : iv (-2147483648) 2147483647 (S2.1 220 3) := hW.iI 220 3
    have hw := hw q6
    refine v_getI hW (hU 220 _ rfl) rfl kX9 fX9_9 dX9_comment_62 ?_
    refine z_iconst (v := Int32.ofInt 2) dX9_comment_65 rfl ?_
    refine i_iadd dX9_comment_66 ?_
    obtain ⟨q8, hw⟩ := hw
    refine v_putI hW (hU 220 _ rfl) (by decide) (by unfold isS; decide) rfl kX9 fX9_9 dX9_comment_67 rfl rfl rfl q8 (fun cs hW => ?_)
    obtain ⟨S7, hS7⟩ : ∃ x, x = pI S2 220 3 ((S2.1 220 3 + 2)) := ⟨_, rfl⟩
    rw [← hS7] at hW
    have hw := hw S7 hS7
    refine z_loc (L' := [(0, .ref (G.1 + v 220))]) (List.forall_mem_cons.mpr ⟨rfl, (fun _ h => nomatch h)⟩) ?_
    exact ubX9_comment_70 hd hT hS hU hW hP  hw
def wX9_comment_10'  (S : St) (K : Int → St → Prop) (B10 : St → Prop) : Prop := (iv (-2147483648) 2147483647 (S.1 220 3) → (wX5_length 1 S (fun r3 S2 => (rng (r3) ∧ ((r3 ≤ S.1 220 3 → wX9_comment_46 S2 K) ∧ ((¬ (r3 ≤ S.1 220 3)) → (wX9_comes_i S2 (fun r7 S6 => (rng (r7) ∧ ((¬ r7 = 0 → wX9_comment_46 S6 K) ∧ ((¬ (¬ r7 = 0)) → (iv (-2147483648) 2147483647 (S6.1 220 3) → (iv (-2147483648) 2147483647 ((S6.1 220 3 + 1)) ∧ (∀ S11, S11 = pI S6 220 3 ((S6.1 220 3 + 1)) → B10 S11))))))))))))))
set_option maxRecDepth 100000 in
set_option maxHeartbeats 4000000 in
theorem ubX9_comment_10' {G : xG} {v : Nat → Nat} {sh : Nat → Option Sh} {B : Nat × Nat} {c0 : List va_E} {d : Nat} {Post : xP} {S : St} {cs : List va_E} {K : Int → St → Prop} {B10 : St → Prop} (hd : 5 ≤ d) (hT : sb shC sh) (hS : ∀ b x, sh b = some x → ¬ isS b) (hU : sb shXT sh) (hW : Wv G v sh B c0 S cs) (hP : ∀ (x : Int) (S : St) (cs : List va_E), K x S → Wv G v sh B c0 S cs → Post (none) cs) (hB10 : ∀  (S : St) (cs : List va_E), B10  S → Wv G v sh B c0 S cs → Z (RX9, cX9_comment, 1, none, false) G d Post 10 [(0, .ref (G.1 + v 220))] [] cs) (hw : wX9_comment_10'  S K B10) : Z (RX9, cX9_comment, 1, none, false) G d Post 10 [(0, .ref (G.1 + v 220))] [] cs := by
  unfold wX9_comment_10' at hw
  refine z_aload_n dX9_comment_10 rfl rfl ?_
  have q1 : iv (-2147483648) 2147483647 (S.1 220 3) := hW.iI 220 3
  have hw := hw q1
  refine v_getI hW (hU 220 _ rfl) rfl kX9 fX9_9 dX9_comment_11 ?_
  refine z_aload_n dX9_comment_14 rfl rfl ?_
  refine v_getR hW (hU 220 _ rfl) rfl kX9 fX9_24 dX9_comment_15 ?_
  have hX := lX5_length 0 (Nat.le_refl _) hW (show isS 1 by unfold isS; decide) (fun b x h e => hS b x h (e ▸ (show isS 1 by unfold isS; decide)))  hw
  refine z_callV (As := []) eX5_length sX5_length lX9_80 rfl dX9_comment_18 (hW.sg (show isS 1 by unfold isS; decide) (fun b x h e => hS b x h (e ▸ (show isS 1 by unfold isS; decide)))).choose_spec.choose_spec.choose_spec.choose_spec.1.choose_spec.1 hX (Nat.le_trans (by decide) hd) rfl (Nat.le_of_ble_eq_true rfl) (fun r cs hp => ?_)
  obtain ⟨r3, S2, rfl, hw, hW⟩ := hp
  refine z_st (st' := [.int (Int32.ofInt (r3)), .int (Int32.ofInt (S.1 220 3))]) rfl ?_
  obtain ⟨q5, hw⟩ := hw
  refine i_icmp_ge (tgt := 46) dX9_comment_21 (by decide) (rngq q1 (by decide) (by decide)) q5 (fun h4 => ?_) (fun h4 => ?_)
  · have hw := hw.1 h4
    refine z_loc (L' := [(0, .ref (G.1 + v 220))]) (List.forall_mem_cons.mpr ⟨rfl, (fun _ h => nomatch h)⟩) ?_
    exact ubX9_comment_46 hd hT hS hU hW hP  hw
  · have hw := hw.2 h4
    refine z_aload_n dX9_comment_24 rfl rfl ?_
    refine z_ldcS (i := 21) (tx := "--") (by decide +kernel) dX9_comment_25 ?_
    have hX := lX9_comes_i 4 (Nat.le_refl _) hT hS hU hW  hw
    refine z_callV (As := [_]) eX9_comes sX9_comes lX9_64 rfl dX9_comment_27 (hW.at (hU 220 _ rfl)) hX (Nat.le_trans (by decide) hd) rfl (Nat.le_of_ble_eq_true rfl) (fun r cs hp => ?_)
    obtain ⟨r7, S6, rfl, hw, hW⟩ := hp
    refine z_st (st' := [.int (Int32.ofInt (r7))]) rfl ?_
    obtain ⟨q9, hw⟩ := hw
    refine i_if_ne (tgt := 46) dX9_comment_30 (by decide) q9 (fun h8 => ?_) (fun h8 => ?_)
    · have hw := hw.1 h8
      refine z_loc (L' := [(0, .ref (G.1 + v 220))]) (List.forall_mem_cons.mpr ⟨rfl, (fun _ h => nomatch h)⟩) ?_
      exact ubX9_comment_46 hd hT hS hU hW hP  hw
    · have hw := hw.2 h8
      refine z_aload_n dX9_comment_33 rfl rfl ?_
      refine z_dup dX9_comment_34 rfl ?_
      have q10 : iv (-2147483648) 2147483647 (S6.1 220 3) := hW.iI 220 3
      have hw := hw q10
      refine v_getI hW (hU 220 _ rfl) rfl kX9 fX9_9 dX9_comment_35 ?_
      refine z_iconst (v := Int32.ofInt 1) dX9_comment_38 rfl ?_
      refine i_iadd dX9_comment_39 ?_
      obtain ⟨q12, hw⟩ := hw
      refine v_putI hW (hU 220 _ rfl) (by decide) (by unfold isS; decide) rfl kX9 fX9_9 dX9_comment_40 rfl rfl rfl q12 (fun cs hW => ?_)
      obtain ⟨S11, hS11⟩ : ∃ x, x = pI S6 220 3 ((S6.1 220 3 + 1)) := ⟨_, rfl⟩
      rw [← hS11] at hW
      have hw := hw S11 hS11
      refine z_goto (tgt := 10) dX9_comment_43 (by decide) ?_
      refine z_loc (L' := [(0, .ref (G.1 + v 220))]) (List.forall_mem_cons.mpr ⟨rfl, (fun _ h => nomatch h)⟩) ?_
      exact hB10  _ _ hw hW
def wX9_comment_10  (S : St) (K : Int → St → Prop) : Prop := ∃ (Iv : St → Prop) (mu : St → Nat), Iv  S ∧ ∀ (S : St), Iv  S → wX9_comment_10'  S K  (fun  T => Iv  T ∧ mu  T < mu  S)
set_option maxRecDepth 100000 in
set_option maxHeartbeats 4000000 in
theorem ubX9_comment_10 {G : xG} {v : Nat → Nat} {sh : Nat → Option Sh} {B : Nat × Nat} {c0 : List va_E} {d : Nat} {Post : xP} {S : St} {cs : List va_E} {K : Int → St → Prop} (hd : 5 ≤ d) (hT : sb shC sh) (hS : ∀ b x, sh b = some x → ¬ isS b) (hU : sb shXT sh) (hW : Wv G v sh B c0 S cs) (hP : ∀ (x : Int) (S : St) (cs : List va_E), K x S → Wv G v sh B c0 S cs → Post (none) cs)  (hw : wX9_comment_10  S K ) : Z (RX9, cX9_comment, 1, none, false) G d Post 10 [(0, .ref (G.1 + v 220))] [] cs := by
  unfold wX9_comment_10 at hw
  obtain ⟨Iv, mu, h0, hs⟩ := hw
  have key : ∀ (n : Nat) (S : St) (cs : List va_E), mu  S < n → Iv  S → Wv G v sh B c0 S cs → Z (RX9, cX9_comment, 1, none, false) G d Post 10 [(0, .ref (G.1 + v 220))] [] cs := by
    intro n
    induction n with
    | zero => intro  S cs hn; exact absurd hn (Nat.not_lt_zero _)
    | succ n ih =>
      intro  S cs hn hI hW
      exact ubX9_comment_10' hd hT hS hU hW hP  (fun  S cs hb hW => ih  S cs (Nat.lt_of_lt_of_le hb.2 (Nat.le_of_lt_succ hn)) hb.1 hW) (hs  S hI)
  exact key _  _ _ (Nat.lt_succ_self _) h0 hW
def wX9_comment  (S : St) (K : Int → St → Prop) : Prop := (iv (-2147483648) 2147483647 (S.1 220 3) → (iv (-2147483648) 2147483647 ((S.1 220 3 + 4)) ∧ (∀ S2, S2 = pI S 220 3 ((S.1 220 3 + 4)) → wX9_comment_10 S2 K)))
set_option maxRecDepth 100000 in
set_option maxHeartbeats 4000000 in
theorem lX9_comment {G : xG} {v : Nat → Nat} {sh : Nat → Option Sh} {B : Nat × Nat} {c0 : List va_E}  {S : St} {cs : List va_E} {K : Int → St → Prop} (d : Nat) (hd : 5 ≤ d) (hT : sb shC sh) (hS : ∀ b x, sh b = some x → ¬ isS b) (hU : sb shXT sh) (hW : Wv G v sh B c0 S cs)  (hw : wX9_comment  S K) : X G yX9_comment cX9_comment 1 none d [.ref (G.1 + v 220)] cs (vV G v sh B c0 K) := by
  refine X.of false (by decide +kernel) (by decide) (Nat.le_of_ble_eq_true rfl) ?_
  show Z (RX9, cX9_comment, 1, none, false) G d _ 0 [(0, .ref (G.1 + v 220))] [] cs
  have hP : ∀ (x : Int) (S : St) (cs : List va_E), K x S → Wv G v sh B c0 S cs → vV G v sh B c0 K (none) cs := fun x S cs a b => ⟨x, S, rfl, a, b⟩
  unfold wX9_comment at hw
  refine z_aload_n dX9_comment_0 rfl rfl ?_
  refine z_dup dX9_comment_1 rfl ?_
  have q1 : iv (-2147483648) 2147483647 (S.1 220 3) := hW.iI 220 3
  have hw := hw q1
  refine v_getI hW (hU 220 _ rfl) rfl kX9 fX9_9 dX9_comment_2 ?_
  refine z_iconst (v := Int32.ofInt 4) dX9_comment_5 rfl ?_
  refine i_iadd dX9_comment_6 ?_
  obtain ⟨q3, hw⟩ := hw
  refine v_putI hW (hU 220 _ rfl) (by decide) (by unfold isS; decide) rfl kX9 fX9_9 dX9_comment_7 rfl rfl rfl q3 (fun cs hW => ?_)
  obtain ⟨S2, hS2⟩ : ∃ x, x = pI S 220 3 ((S.1 220 3 + 4)) := ⟨_, rfl⟩
  rw [← hS2] at hW
  have hw := hw S2 hS2
  refine z_loc (L' := [(0, .ref (G.1 + v 220))]) (List.forall_mem_cons.mpr ⟨rfl, (fun _ h => nomatch h)⟩) ?_
  exact ubX9_comment_10 hd hT hS hU hW hP  hw

def wX6_isNamed  (a1 a2 a3 : Int) (S : St) (K : Int → St → Prop) : Prop := rng a1 → rng a2 → rng a3 → (wX6_has (a1) S (fun r2 S1 => (rng (r2) ∧ ((r2 = 0 → K (0) S1) ∧ ((¬ (r2 = 0)) → ((0 : Int) ≤ a1 ∧ a1 < (200 : Int) ∧ (iv (-2147483648) 2147483647 (S1.2 7 (a1)) → ((0 : Int) ≤ a1 ∧ a1 < (200 : Int) ∧ (iv (-2147483648) 2147483647 (S1.2 8 (a1)) → (wX6_isSpelt (S1.2 7 (a1)) (S1.2 8 (a1)) (a2) (a3) S1 (fun r10 S9 => (rng (r10) ∧ ((r10 = 0 → K (0) S9) ∧ ((¬ (r10 = 0)) → K (1) S9))))))))))))))
set_option maxRecDepth 100000 in
set_option maxHeartbeats 4000000 in
theorem lX6_isNamed {G : xG} {v : Nat → Nat} {sh : Nat → Option Sh} {B : Nat × Nat} {c0 : List va_E}  {a1 a2 a3 : Int} {S : St} {cs : List va_E} {K : Int → St → Prop} (d : Nat) (hd : 2 ≤ d) (hT : sb shC sh) (hS : ∀ b x, sh b = some x → ¬ isS b) (hU : sb shTr sh) (hW : Wv G v sh B c0 S cs) (g1 : rng a1) (g2 : rng a2) (g3 : rng a3) (hw : wX6_isNamed a1 a2 a3 S K) : X G yX6_isNamed cX6_isNamed 4 (some .boolean) d [.ref (G.1 + v 3), .int (Int32.ofInt a1), .int (Int32.ofInt a2), .int (Int32.ofInt a3)] cs (vI G v sh B c0 K) := by
  refine X.of false (by decide +kernel) (by decide) (Nat.le_of_ble_eq_true rfl) ?_
  show Z (RX6, cX6_isNamed, 4, some .boolean, false) G d _ 0 [(0, .ref (G.1 + v 3)), (1, .int (Int32.ofInt a1)), (2, .int (Int32.ofInt a2)), (3, .int (Int32.ofInt a3))] [] cs
  have hP : ∀ (x : Int) (S : St) (cs : List va_E), K x S → Wv G v sh B c0 S cs → vI G v sh B c0 K (some (.int (Int32.ofInt x))) cs := fun x S cs a b => ⟨x, S, rfl, a, b⟩
  unfold wX6_isNamed at hw
  have hw := hw g1 g2 g3
  refine z_aload_n dX6_isNamed_0 rfl rfl ?_
  refine z_iload_n dX6_isNamed_1 rfl rfl ?_
  have hX := lX6_has 0 (Nat.le_refl _) hT hS hU hW g1 hw
  refine z_callV (As := [_]) eX6_has sX6_has lX6_75 rfl dX6_isNamed_2 (hW.at (hU 3 _ rfl)) hX (Nat.le_trans (by decide) hd) rfl (Nat.le_of_ble_eq_true rfl) (fun r cs hp => ?_)
  obtain ⟨r2, S1, rfl, hw, hW⟩ := hp
  refine z_st (st' := [.int (Int32.ofInt (r2))]) rfl ?_
  obtain ⟨q4, hw⟩ := hw
  refine i_if_eq (tgt := 37) dX6_isNamed_5 (by decide) q4 (fun h3 => ?_) (fun h3 => ?_)
  · have hw := hw.1 h3
    refine z_iconst (v := Int32.ofInt 0) dX6_isNamed_37 rfl ?_
    exact z_ireturn dX6_isNamed_38 rfl (nar01 (by decide)) (hP _ _ _ hw hW)
  · have hw := hw.2 h3
    refine z_aload_n dX6_isNamed_8 rfl rfl ?_
    refine z_aload_n dX6_isNamed_9 rfl rfl ?_
    refine v_getR hW (hU 3 _ rfl) rfl kX6 fX6_25 dX6_isNamed_10 ?_
    refine z_iload_n dX6_isNamed_13 rfl rfl ?_
    obtain ⟨q5a, q5b, hw⟩ := hw
    have q6 : iv (-2147483648) 2147483647 (S1.2 7 (a1)) := hW.iA 7 _
    have hw := hw q6
    refine v_iald hW (hT 7 _ rfl) q5a q5b (by decide) dX6_isNamed_14 ?_
    refine z_aload_n dX6_isNamed_15 rfl rfl ?_
    refine v_getR hW (hU 3 _ rfl) rfl kX6 fX6_28 dX6_isNamed_16 ?_
    refine z_iload_n dX6_isNamed_19 rfl rfl ?_
    obtain ⟨q7a, q7b, hw⟩ := hw
    have q8 : iv (-2147483648) 2147483647 (S1.2 8 (a1)) := hW.iA 8 _
    have hw := hw q8
    refine v_iald hW (hT 8 _ rfl) q7a q7b (by decide) dX6_isNamed_20 ?_
    refine z_aload_n dX6_isNamed_21 rfl rfl ?_
    refine v_getR hW (hU 3 _ rfl) rfl kX6 fX6_18 dX6_isNamed_22 ?_
    refine z_iload_n dX6_isNamed_25 rfl rfl ?_
    refine z_iload_n dX6_isNamed_26 rfl rfl ?_
    have hX := lX6_isSpelt 1 (Nat.le_refl _) hT hS hU hW (rngq q6 (by decide) (by decide)) (rngq q8 (by decide) (by decide)) g2 g3 hw
    refine z_callV (As := [_, _, _, _, _]) eX6_isSpelt sX6_isSpelt lX6_92 rfl dX6_isNamed_27 (hW.at (hU 3 _ rfl)) hX (Nat.le_trans (by decide) hd) rfl (Nat.le_of_ble_eq_true rfl) (fun r cs hp => ?_)
    obtain ⟨r10, S9, rfl, hw, hW⟩ := hp
    refine z_st (st' := [.int (Int32.ofInt (r10))]) rfl ?_
    obtain ⟨q12, hw⟩ := hw
    refine i_if_eq (tgt := 37) dX6_isNamed_30 (by decide) q12 (fun h11 => ?_) (fun h11 => ?_)
    · have hw := hw.1 h11
      refine z_iconst (v := Int32.ofInt 0) dX6_isNamed_37 rfl ?_
      exact z_ireturn dX6_isNamed_38 rfl (nar01 (by decide)) (hP _ _ _ hw hW)
    · have hw := hw.2 h11
      refine z_iconst (v := Int32.ofInt 1) dX6_isNamed_33 rfl ?_
      refine z_goto (tgt := 38) dX6_isNamed_34 (by decide) ?_
      exact z_ireturn dX6_isNamed_38 rfl (nar01 (by decide)) (hP _ _ _ hw hW)

def wX6_parent  (a1 : Int) (S : St) (K : Int → St → Prop) : Prop := rng a1 → (wX6_has (a1) S (fun r2 S1 => (rng (r2) ∧ ((r2 = 0 → K ((-1)) S1) ∧ ((¬ (r2 = 0)) → ((0 : Int) ≤ a1 ∧ a1 < (200 : Int) ∧ (iv (-1) 199 (S1.2 9 (a1)) → K (S1.2 9 (a1)) S1)))))))
set_option maxRecDepth 100000 in
set_option maxHeartbeats 4000000 in
theorem lX6_parent {G : xG} {v : Nat → Nat} {sh : Nat → Option Sh} {B : Nat × Nat} {c0 : List va_E}  {a1 : Int} {S : St} {cs : List va_E} {K : Int → St → Prop} (d : Nat) (hd : 1 ≤ d) (hT : sb shC sh) (hS : ∀ b x, sh b = some x → ¬ isS b) (hU : sb shTr sh) (hW : Wv G v sh B c0 S cs) (g1 : rng a1) (hw : wX6_parent a1 S K) : X G yX6_parent cX6_parent 2 (some .int) d [.ref (G.1 + v 3), .int (Int32.ofInt a1)] cs (vI G v sh B c0 K) := by
  refine X.of false (by decide +kernel) (by decide) (Nat.le_of_ble_eq_true rfl) ?_
  show Z (RX6, cX6_parent, 2, some .int, false) G d _ 0 [(0, .ref (G.1 + v 3)), (1, .int (Int32.ofInt a1))] [] cs
  have hP : ∀ (x : Int) (S : St) (cs : List va_E), K x S → Wv G v sh B c0 S cs → vI G v sh B c0 K (some (.int (Int32.ofInt x))) cs := fun x S cs a b => ⟨x, S, rfl, a, b⟩
  unfold wX6_parent at hw
  have hw := hw g1
  refine z_aload_n dX6_parent_0 rfl rfl ?_
  refine z_iload_n dX6_parent_1 rfl rfl ?_
  have hX := lX6_has 0 (Nat.le_refl _) hT hS hU hW g1 hw
  refine z_callV (As := [_]) eX6_has sX6_has lX6_75 rfl dX6_parent_2 (hW.at (hU 3 _ rfl)) hX (Nat.le_trans (by decide) hd) rfl (Nat.le_of_ble_eq_true rfl) (fun r cs hp => ?_)
  obtain ⟨r2, S1, rfl, hw, hW⟩ := hp
  refine z_st (st' := [.int (Int32.ofInt (r2))]) rfl ?_
  obtain ⟨q4, hw⟩ := hw
  refine i_if_eq (tgt := 17) dX6_parent_5 (by decide) q4 (fun h3 => ?_) (fun h3 => ?_)
  · have hw := hw.1 h3
    refine z_iconst (v := Int32.ofInt (-1)) dX6_parent_17 rfl ?_
    exact z_ireturn dX6_parent_18 rfl rfl (hP _ _ _ hw hW)
  · have hw := hw.2 h3
    refine z_aload_n dX6_parent_8 rfl rfl ?_
    refine v_getR hW (hU 3 _ rfl) rfl kX6 fX6_31 dX6_parent_9 ?_
    refine z_iload_n dX6_parent_12 rfl rfl ?_
    obtain ⟨q5a, q5b, hw⟩ := hw
    have q6 : iv (-1) 199 (S1.2 9 (a1)) := hW.iA 9 _
    have hw := hw q6
    refine v_iald hW (hT 9 _ rfl) q5a q5b (by decide) dX6_parent_13 ?_
    refine z_goto (tgt := 18) dX6_parent_14 (by decide) ?_
    exact z_ireturn dX6_parent_18 rfl rfl (hP _ _ _ hw hW)

def wX9_endTag  (S : St) (K : Int → St → Prop) : Prop := (iv (-2147483648) 2147483647 (S.1 220 3) → (iv (-2147483648) 2147483647 ((S.1 220 3 + 2)) ∧ (∀ S2, S2 = pI S 220 3 ((S.1 220 3 + 2)) → (iv (-2147483648) 2147483647 (S2.1 220 3) → (wX9_skipName S2 (fun r6 S5 => (iv (-2147483648) 2147483647 (S5.1 220 3) → ((¬ S5.1 220 3 = S2.1 220 3 → (iv (-1) 199 (S5.1 220 4) → (wX6_isNamed (S5.1 220 4) (S2.1 220 3) (S5.1 220 3) S5 (fun r11 S10 => (rng (r11) ∧ ((¬ r11 = 0 → (wX9_skipBlanks S10 (fun r15 S14 => (iv (-2147483648) 2147483647 (S14.1 220 3) → (wX5_at 1 (S14.1 220 3) S14 (fun r18 S17 => (rng (r18) ∧ ((r18 = 62 → (iv (-2147483648) 2147483647 (S17.1 220 3) → (iv (-2147483648) 2147483647 ((S17.1 220 3 + 1)) ∧ (∀ S22, S22 = pI S17 220 3 ((S17.1 220 3 + 1)) → (iv (-1) 199 (S22.1 220 4) → (wX6_parent (S22.1 220 4) S22 (fun r26 S25 => (iv (-1) 199 (r26) ∧ (∀ S27, S27 = pI S25 220 4 (r26) → (iv (-2147483648) 2147483647 (S27.1 220 5) → (iv (-2147483648) 2147483647 ((S27.1 220 5 - 1)) ∧ (∀ S30, S30 = pI S27 220 5 ((S27.1 220 5 - 1)) → K 0 S30)))))))))))) ∧ ((¬ (r18 = 62)) → (iv (-2147483648) 2147483647 (S17.1 220 3) → (∀ S33, S33 = pI S17 220 6 (S17.1 220 3) → K 0 S33))))))))))) ∧ ((¬ (¬ r11 = 0)) → (∀ S34, S34 = pI S10 220 6 (S2.1 220 3) → K 0 S34)))))))) ∧ ((¬ (¬ S5.1 220 3 = S2.1 220 3)) → (∀ S35, S35 = pI S5 220 6 (S5.1 220 3) → K 0 S35))))))))))
set_option maxRecDepth 100000 in
set_option maxHeartbeats 4000000 in
theorem lX9_endTag {G : xG} {v : Nat → Nat} {sh : Nat → Option Sh} {B : Nat × Nat} {c0 : List va_E}  {S : St} {cs : List va_E} {K : Int → St → Prop} (d : Nat) (hd : 3 ≤ d) (hT : sb shC sh) (hS : ∀ b x, sh b = some x → ¬ isS b) (hU : sb shXT sh) (hW : Wv G v sh B c0 S cs)  (hw : wX9_endTag  S K) : X G yX9_endTag cX9_endTag 2 none d [.ref (G.1 + v 220)] cs (vV G v sh B c0 K) := by
  refine X.of false (by decide +kernel) (by decide) (Nat.le_of_ble_eq_true rfl) ?_
  show Z (RX9, cX9_endTag, 2, none, false) G d _ 0 [(0, .ref (G.1 + v 220))] [] cs
  have hP : ∀ (x : Int) (S : St) (cs : List va_E), K x S → Wv G v sh B c0 S cs → vV G v sh B c0 K (none) cs := fun x S cs a b => ⟨x, S, rfl, a, b⟩
  unfold wX9_endTag at hw
  refine z_aload_n dX9_endTag_0 rfl rfl ?_
  refine z_dup dX9_endTag_1 rfl ?_
  have q1 : iv (-2147483648) 2147483647 (S.1 220 3) := hW.iI 220 3
  have hw := hw q1
  refine v_getI hW (hU 220 _ rfl) rfl kX9 fX9_9 dX9_endTag_2 ?_
  refine z_iconst (v := Int32.ofInt 2) dX9_endTag_5 rfl ?_
  refine i_iadd dX9_endTag_6 ?_
  obtain ⟨q3, hw⟩ := hw
  refine v_putI hW (hU 220 _ rfl) (by decide) (by unfold isS; decide) rfl kX9 fX9_9 dX9_endTag_7 rfl rfl rfl q3 (fun cs hW => ?_)
  obtain ⟨S2, hS2⟩ : ∃ x, x = pI S 220 3 ((S.1 220 3 + 2)) := ⟨_, rfl⟩
  rw [← hS2] at hW
  have hw := hw S2 hS2
  refine z_aload_n dX9_endTag_10 rfl rfl ?_
  have q4 : iv (-2147483648) 2147483647 (S2.1 220 3) := hW.iI 220 3
  have hw := hw q4
  refine v_getI hW (hU 220 _ rfl) rfl kX9 fX9_9 dX9_endTag_11 ?_
  refine z_istore_n dX9_endTag_14 rfl (by decide) ?_
  refine z_loc (L' := [(0, .ref (G.1 + v 220)), (1, .int (Int32.ofInt (S2.1 220 3)))]) (List.forall_mem_cons.mpr ⟨rfl, (List.forall_mem_cons.mpr ⟨rfl, (fun _ h => nomatch h)⟩)⟩) ?_
  refine z_aload_n dX9_endTag_15 rfl rfl ?_
  have hX := lX9_skipName 2 (Nat.le_refl _) hT hS hU hW  hw
  refine z_callV (As := []) eX9_skipName sX9_skipName lX9_83 rfl dX9_endTag_16 (hW.at (hU 220 _ rfl)) hX (Nat.le_trans (by decide) hd) rfl (Nat.le_of_ble_eq_true rfl) (fun r cs hp => ?_)
  obtain ⟨r6, S5, rfl, hw, hW⟩ := hp
  refine z_st (st' := []) rfl ?_
  refine z_aload_n dX9_endTag_19 rfl rfl ?_
  have q7 : iv (-2147483648) 2147483647 (S5.1 220 3) := hW.iI 220 3
  have hw := hw q7
  refine v_getI hW (hU 220 _ rfl) rfl kX9 fX9_9 dX9_endTag_20 ?_
  refine z_iload_n dX9_endTag_23 rfl rfl ?_
  refine i_icmp_ne (tgt := 36) dX9_endTag_24 (by decide) (rngq q7 (by decide) (by decide)) (rngq q4 (by decide) (by decide)) (fun h8 => ?_) (fun h8 => ?_)
  · have hw := hw.1 h8
    refine z_aload_n dX9_endTag_36 rfl rfl ?_
    refine v_getR hW (hU 220 _ rfl) rfl kX9 fX9_28 dX9_endTag_37 ?_
    refine z_aload_n dX9_endTag_40 rfl rfl ?_
    have q9 : iv (-1) 199 (S5.1 220 4) := hW.iI 220 4
    have hw := hw q9
    refine v_getI hW (hU 220 _ rfl) rfl kX9 fX9_15 dX9_endTag_41 ?_
    refine z_iload_n dX9_endTag_44 rfl rfl ?_
    refine z_aload_n dX9_endTag_45 rfl rfl ?_
    refine v_getI hW (hU 220 _ rfl) rfl kX9 fX9_9 dX9_endTag_46 ?_
    have hX := lX6_isNamed 2 (Nat.le_refl _) hT hS (sbt sbX6_X9 hU) hW (rngq q9 (by decide) (by decide)) (rngq q4 (by decide) (by decide)) (rngq q7 (by decide) (by decide)) hw
    refine z_callV (As := [_, _, _]) eX6_isNamed sX6_isNamed lX9_125 rfl dX9_endTag_49 (hW.at (hU 3 _ rfl)) hX (Nat.le_trans (by decide) hd) rfl (Nat.le_of_ble_eq_true rfl) (fun r cs hp => ?_)
    obtain ⟨r11, S10, rfl, hw, hW⟩ := hp
    refine z_st (st' := [.int (Int32.ofInt (r11))]) rfl ?_
    obtain ⟨q13, hw⟩ := hw
    refine i_if_ne (tgt := 61) dX9_endTag_52 (by decide) q13 (fun h12 => ?_) (fun h12 => ?_)
    · have hw := hw.1 h12
      refine z_aload_n dX9_endTag_61 rfl rfl ?_
      have hX := lX9_skipBlanks 1 (Nat.le_refl _) hT hS hU hW  hw
      refine z_callV (As := []) eX9_skipBlanks sX9_skipBlanks lX9_44 rfl dX9_endTag_62 (hW.at (hU 220 _ rfl)) hX (Nat.le_trans (by decide) hd) rfl (Nat.le_of_ble_eq_true rfl) (fun r cs hp => ?_)
      obtain ⟨r15, S14, rfl, hw, hW⟩ := hp
      refine z_st (st' := []) rfl ?_
      refine z_aload_n dX9_endTag_65 rfl rfl ?_
      refine v_getR hW (hU 220 _ rfl) rfl kX9 fX9_24 dX9_endTag_66 ?_
      refine z_aload_n dX9_endTag_69 rfl rfl ?_
      have q16 : iv (-2147483648) 2147483647 (S14.1 220 3) := hW.iI 220 3
      have hw := hw q16
      refine v_getI hW (hU 220 _ rfl) rfl kX9 fX9_9 dX9_endTag_70 ?_
      have hX := lX5_at 0 (Nat.le_refl _) hW (show isS 1 by unfold isS; decide) (fun b x h e => hS b x h (e ▸ (show isS 1 by unfold isS; decide))) (rngq q16 (by decide) (by decide)) hw
      refine z_callV (As := [_]) eX5_at sX5_at lX9_47 rfl dX9_endTag_73 (hW.sg (show isS 1 by unfold isS; decide) (fun b x h e => hS b x h (e ▸ (show isS 1 by unfold isS; decide)))).choose_spec.choose_spec.choose_spec.choose_spec.1.choose_spec.1 hX (Nat.le_trans (by decide) hd) rfl (Nat.le_of_ble_eq_true rfl) (fun r cs hp => ?_)
      obtain ⟨r18, S17, rfl, hw, hW⟩ := hp
      refine z_st (st' := [.int (Int32.ofInt (r18))]) rfl ?_
      refine z_bipush (v := Int32.ofInt 62) dX9_endTag_76 (by decide) ?_
      obtain ⟨q20, hw⟩ := hw
      refine i_icmp_eq (tgt := 90) dX9_endTag_78 (by decide) q20 ⟨by decide, by decide⟩ (fun h19 => ?_) (fun h19 => ?_)
      · have hw := hw.1 h19
        refine z_aload_n dX9_endTag_90 rfl rfl ?_
        refine z_dup dX9_endTag_91 rfl ?_
        have q21 : iv (-2147483648) 2147483647 (S17.1 220 3) := hW.iI 220 3
        have hw := hw q21
        refine v_getI hW (hU 220 _ rfl) rfl kX9 fX9_9 dX9_endTag_92 ?_
        refine z_iconst (v := Int32.ofInt 1) dX9_endTag_95 rfl ?_
        refine i_iadd dX9_endTag_96 ?_
        obtain ⟨q23, hw⟩ := hw
        refine v_putI hW (hU 220 _ rfl) (by decide) (by unfold isS; decide) rfl kX9 fX9_9 dX9_endTag_97 rfl rfl rfl q23 (fun cs hW => ?_)
        obtain ⟨S22, hS22⟩ : ∃ x, x = pI S17 220 3 ((S17.1 220 3 + 1)) := ⟨_, rfl⟩
        rw [← hS22] at hW
        have hw := hw S22 hS22
        refine z_aload_n dX9_endTag_100 rfl rfl ?_
        refine z_aload_n dX9_endTag_101 rfl rfl ?_
        refine v_getR hW (hU 220 _ rfl) rfl kX9 fX9_28 dX9_endTag_102 ?_
        refine z_aload_n dX9_endTag_105 rfl rfl ?_
        have q24 : iv (-1) 199 (S22.1 220 4) := hW.iI 220 4
        have hw := hw q24
        refine v_getI hW (hU 220 _ rfl) rfl kX9 fX9_15 dX9_endTag_106 ?_
        have hX := lX6_parent 1 (Nat.le_refl _) hT hS (sbt sbX6_X9 hU) hW (rngq q24 (by decide) (by decide)) hw
        refine z_callV (As := [_]) eX6_parent sX6_parent lX9_128 rfl dX9_endTag_109 (hW.at (hU 3 _ rfl)) hX (Nat.le_trans (by decide) hd) rfl (Nat.le_of_ble_eq_true rfl) (fun r cs hp => ?_)
        obtain ⟨r26, S25, rfl, hw, hW⟩ := hp
        refine z_st (st' := [.int (Int32.ofInt (r26)), .ref (G.1 + v 220)]) rfl ?_
        obtain ⟨q28, hw⟩ := hw
        refine v_putI hW (hU 220 _ rfl) (by decide) (by unfold isS; decide) rfl kX9 fX9_15 dX9_endTag_112 rfl rfl rfl q28 (fun cs hW => ?_)
        obtain ⟨S27, hS27⟩ : ∃ x, x = pI S25 220 4 (r26) := ⟨_, rfl⟩
        rw [← hS27] at hW
        have hw := hw S27 hS27
        refine z_aload_n dX9_endTag_115 rfl rfl ?_
        refine z_dup dX9_endTag_116 rfl ?_
        have q29 : iv (-2147483648) 2147483647 (S27.1 220 5) := hW.iI 220 5
        have hw := hw q29
        refine v_getI hW (hU 220 _ rfl) rfl kX9 fX9_18 dX9_endTag_117 ?_
        refine z_iconst (v := Int32.ofInt 1) dX9_endTag_120 rfl ?_
        refine i_isub dX9_endTag_121 ?_
        obtain ⟨q31, hw⟩ := hw
        refine v_putI hW (hU 220 _ rfl) (by decide) (by unfold isS; decide) rfl kX9 fX9_18 dX9_endTag_122 rfl rfl rfl q31 (fun cs hW => ?_)
        obtain ⟨S30, hS30⟩ : ∃ x, x = pI S27 220 5 ((S27.1 220 5 - 1)) := ⟨_, rfl⟩
        rw [← hS30] at hW
        have hw := hw S30 hS30
        exact z_return dX9_endTag_125 rfl (hP 0 _ _ hw hW)
      · have hw := hw.2 h19
        refine z_aload_n dX9_endTag_81 rfl rfl ?_
        refine z_aload_n dX9_endTag_82 rfl rfl ?_
        have q32 : iv (-2147483648) 2147483647 (S17.1 220 3) := hW.iI 220 3
        have hw := hw q32
        refine v_getI hW (hU 220 _ rfl) rfl kX9 fX9_9 dX9_endTag_83 ?_
        refine v_putI hW (hU 220 _ rfl) (by decide) (by unfold isS; decide) rfl kX9 fX9_21 dX9_endTag_86 rfl rfl rfl q32 (fun cs hW => ?_)
        obtain ⟨S33, hS33⟩ : ∃ x, x = pI S17 220 6 (S17.1 220 3) := ⟨_, rfl⟩
        rw [← hS33] at hW
        have hw := hw S33 hS33
        exact z_return dX9_endTag_89 rfl (hP 0 _ _ hw hW)
    · have hw := hw.2 h12
      refine z_aload_n dX9_endTag_55 rfl rfl ?_
      refine z_iload_n dX9_endTag_56 rfl rfl ?_
      refine v_putI hW (hU 220 _ rfl) (by decide) (by unfold isS; decide) rfl kX9 fX9_21 dX9_endTag_57 rfl rfl rfl q4 (fun cs hW => ?_)
      obtain ⟨S34, hS34⟩ : ∃ x, x = pI S10 220 6 (S2.1 220 3) := ⟨_, rfl⟩
      rw [← hS34] at hW
      have hw := hw S34 hS34
      exact z_return dX9_endTag_60 rfl (hP 0 _ _ hw hW)
  · have hw := hw.2 h8
    refine z_aload_n dX9_endTag_27 rfl rfl ?_
    refine z_aload_n dX9_endTag_28 rfl rfl ?_
    refine v_getI hW (hU 220 _ rfl) rfl kX9 fX9_9 dX9_endTag_29 ?_
    refine v_putI hW (hU 220 _ rfl) (by decide) (by unfold isS; decide) rfl kX9 fX9_21 dX9_endTag_32 rfl rfl rfl q7 (fun cs hW => ?_)
    obtain ⟨S35, hS35⟩ : ∃ x, x = pI S5 220 6 (S5.1 220 3) := ⟨_, rfl⟩
    rw [← hS35] at hW
    have hw := hw S35 hS35
    exact z_return dX9_endTag_35 rfl (hP 0 _ _ hw hW)

def wX9_textSign  (S : St) (K : Int → St → Prop) : Prop := (wX9_decoded S (fun r2 S1 => (rng (r2) ∧ ((r2 = (-1) → K 0 S1) ∧ ((¬ (r2 = (-1))) → (iv (-1) 199 (S1.1 220 4) → (wX6_addText (S1.1 220 4) (r2) S1 (fun r7 S6 => K 0 S6))))))))
set_option maxRecDepth 100000 in
set_option maxHeartbeats 4000000 in
theorem lX9_textSign {G : xG} {v : Nat → Nat} {sh : Nat → Option Sh} {B : Nat × Nat} {c0 : List va_E}  {S : St} {cs : List va_E} {K : Int → St → Prop} (d : Nat) (hd : 7 ≤ d) (hT : sb shC sh) (hS : ∀ b x, sh b = some x → ¬ isS b) (hU : sb shXT sh) (hW : Wv G v sh B c0 S cs)  (hw : wX9_textSign  S K) : X G yX9_textSign cX9_textSign 2 none d [.ref (G.1 + v 220)] cs (vV G v sh B c0 K) := by
  refine X.of false (by decide +kernel) (by decide) (Nat.le_of_ble_eq_true rfl) ?_
  show Z (RX9, cX9_textSign, 2, none, false) G d _ 0 [(0, .ref (G.1 + v 220))] [] cs
  have hP : ∀ (x : Int) (S : St) (cs : List va_E), K x S → Wv G v sh B c0 S cs → vV G v sh B c0 K (none) cs := fun x S cs a b => ⟨x, S, rfl, a, b⟩
  unfold wX9_textSign at hw
  refine z_aload_n dX9_textSign_0 rfl rfl ?_
  have hX := lX9_decoded 6 (Nat.le_refl _) hT hS hU hW  hw
  refine z_callV (As := []) eX9_decoded sX9_decoded lX9_115 rfl dX9_textSign_1 (hW.at (hU 220 _ rfl)) hX (Nat.le_trans (by decide) hd) rfl (Nat.le_of_ble_eq_true rfl) (fun r cs hp => ?_)
  obtain ⟨r2, S1, rfl, hw, hW⟩ := hp
  refine z_st (st' := [.int (Int32.ofInt (r2))]) rfl ?_
  refine z_istore_n dX9_textSign_4 rfl (by decide) ?_
  refine z_loc (L' := [(0, .ref (G.1 + v 220)), (1, .int (Int32.ofInt (r2)))]) (List.forall_mem_cons.mpr ⟨rfl, (List.forall_mem_cons.mpr ⟨rfl, (fun _ h => nomatch h)⟩)⟩) ?_
  refine z_iload_n dX9_textSign_5 rfl rfl ?_
  refine z_iconst (v := Int32.ofInt (-1)) dX9_textSign_6 rfl ?_
  obtain ⟨q4, hw⟩ := hw
  refine i_icmp_eq (tgt := 22) dX9_textSign_7 (by decide) q4 ⟨by decide, by decide⟩ (fun h3 => ?_) (fun h3 => ?_)
  · have hw := hw.1 h3
    exact z_return dX9_textSign_22 rfl (hP 0 _ _ hw hW)
  · have hw := hw.2 h3
    refine z_aload_n dX9_textSign_10 rfl rfl ?_
    refine v_getR hW (hU 220 _ rfl) rfl kX9 fX9_28 dX9_textSign_11 ?_
    refine z_aload_n dX9_textSign_14 rfl rfl ?_
    have q5 : iv (-1) 199 (S1.1 220 4) := hW.iI 220 4
    have hw := hw q5
    refine v_getI hW (hU 220 _ rfl) rfl kX9 fX9_15 dX9_textSign_15 ?_
    refine z_iload_n dX9_textSign_18 rfl rfl ?_
    have hX := lX6_addText 2 (Nat.le_refl _) hT hS (sbt sbX6_X9 hU) hW (rngq q5 (by decide) (by decide)) q4 hw
    refine z_callV (As := [_, _]) eX6_addText sX6_addText lX9_135 rfl dX9_textSign_19 (hW.at (hU 3 _ rfl)) hX (Nat.le_trans (by decide) hd) rfl (Nat.le_of_ble_eq_true rfl) (fun r cs hp => ?_)
    obtain ⟨r7, S6, rfl, hw, hW⟩ := hp
    refine z_st (st' := []) rfl ?_
    exact z_return dX9_textSign_22 rfl (hP 0 _ _ hw hW)

