def wX8_path_15'  (l3 : Int) (S : St) (K : Int → St → Prop) (B15 : Int → St → Prop) : Prop := (rng (l3) ∧ ((l3 < 0 → K 0 S) ∧ ((¬ (l3 < 0)) → (wX5_put 22 (47) S (fun r4 S3 => ((0 : Int) ≤ l3 ∧ l3 < (62 : Int) ∧ (iv (-2147483648) 2147483647 (S3.2 216 (l3)) → (wX8_step (S3.2 216 (l3)) S3 (fun r8 S7 => B15 ((l3 + (-1))) S7)))))))))
set_option maxRecDepth 100000 in
set_option maxHeartbeats 4000000 in
theorem ubX8_path_15' {G : xG} {v : Nat → Nat} {sh : Nat → Option Sh} {B : Nat × Nat} {c0 : List va_E} {d : Nat} {Post : xP} {l3 : Int} {S : St} {cs : List va_E} {K : Int → St → Prop} {B15 : Int → St → Prop} (hd : 4 ≤ d) (hT : sb shC sh) (hS : ∀ b x, sh b = some x → ¬ isS b) (hU : sb shW sh) (hW : Wv G v sh B c0 S cs) (hP : ∀ (x : Int) (S : St) (cs : List va_E), K x S → Wv G v sh B c0 S cs → Post (none) cs) (hB15 : ∀ (l3 : Int) (S : St) (cs : List va_E), B15 l3 S → Wv G v sh B c0 S cs → Z (RX8, cX8_path, 4, none, false) G d Post 15 [(0, .ref (G.1 + v 210)), (3, .int (Int32.ofInt (l3)))] [] cs) (hw : wX8_path_15' l3 S K B15) : Z (RX8, cX8_path, 4, none, false) G d Post 15 [(0, .ref (G.1 + v 210)), (3, .int (Int32.ofInt (l3)))] [] cs := by
  unfold wX8_path_15' at hw
  refine z_iload_n dX8_path_15 rfl rfl ?_
  obtain ⟨q2, hw⟩ := hw
  refine i_if_lt (tgt := 45) dX8_path_16 (by decide) q2 (fun h1 => ?_) (fun h1 => ?_)
  · have hw := hw.1 h1
    exact z_return dX8_path_45 rfl (hP 0 _ _ hw hW)
  · have hw := hw.2 h1
    refine z_aload_n dX8_path_19 rfl rfl ?_
    refine v_getR hW (hU 210 _ rfl) rfl kX8 fX8_46 dX8_path_20 ?_
    refine z_bipush (v := Int32.ofInt 47) dX8_path_23 (by decide) ?_
    have hX := lX5_put 1 (Nat.le_refl _) hW (show isS 22 by unfold isS; decide) (fun b x h e => hS b x h (e ▸ (show isS 22 by unfold isS; decide))) ⟨by decide, by decide⟩ hw
    refine z_callV (As := [_]) eX5_put sX5_put lX8_89 rfl dX8_path_25 (hW.sg (show isS 22 by unfold isS; decide) (fun b x h e => hS b x h (e ▸ (show isS 22 by unfold isS; decide)))).choose_spec.choose_spec.choose_spec.choose_spec.1.choose_spec.1 hX (Nat.le_trans (by decide) hd) rfl (Nat.le_of_ble_eq_true rfl) (fun r cs hp => ?_)
    obtain ⟨r4, S3, rfl, hw, hW⟩ := hp
    refine z_st (st' := [.int (Int32.ofInt (r4))]) rfl ?_
    refine z_pop dX8_path_28 rfl ?_
    refine z_aload_n dX8_path_29 rfl rfl ?_
    refine z_aload_n dX8_path_30 rfl rfl ?_
    refine v_getR hW (hU 210 _ rfl) rfl kX8 fX8_27 dX8_path_31 ?_
    refine z_iload_n dX8_path_34 rfl rfl ?_
    obtain ⟨q5a, q5b, hw⟩ := hw
    have q6 : iv (-2147483648) 2147483647 (S3.2 216 (l3)) := hW.iA 216 _
    have hw := hw q6
    refine v_iald hW (hU 216 _ rfl) q5a q5b (by decide) dX8_path_35 ?_
    have hX := lX8_step 3 (Nat.le_refl _) hT hS hU hW (rngq q6 (by decide) (by decide)) hw
    refine z_callV (As := [_]) eX8_step sX8_step lX8_195 rfl dX8_path_36 (hW.at (hU 210 _ rfl)) hX (Nat.le_trans (by decide) hd) rfl (Nat.le_of_ble_eq_true rfl) (fun r cs hp => ?_)
    obtain ⟨r8, S7, rfl, hw, hW⟩ := hp
    refine z_st (st' := []) rfl ?_
    refine i_iinc (l := l3) dX8_path_39 rfl (by decide) ?_
    refine z_loc (L' := [(0, .ref (G.1 + v 210)), (3, .int (Int32.ofInt ((l3 + (-1)))))]) (List.forall_mem_cons.mpr ⟨rfl, (List.forall_mem_cons.mpr ⟨rfl, (fun _ h => nomatch h)⟩)⟩) ?_
    refine z_goto (tgt := 15) dX8_path_42 (by decide) ?_
    refine z_loc (L' := [(0, .ref (G.1 + v 210)), (3, .int (Int32.ofInt ((l3 + (-1)))))]) (List.forall_mem_cons.mpr ⟨rfl, (List.forall_mem_cons.mpr ⟨rfl, (fun _ h => nomatch h)⟩)⟩) ?_
    exact hB15 _ _ _ hw hW
def wX8_path_15  (l3 : Int) (S : St) (K : Int → St → Prop) : Prop := ∃ (Iv : Int → St → Prop) (mu : Int → St → Nat), Iv l3 S ∧ ∀ (l3 : Int) (S : St), Iv l3 S → wX8_path_15' l3 S K  (fun ml3 T => Iv ml3 T ∧ mu ml3 T < mu l3 S)
set_option maxRecDepth 100000 in
set_option maxHeartbeats 4000000 in
theorem ubX8_path_15 {G : xG} {v : Nat → Nat} {sh : Nat → Option Sh} {B : Nat × Nat} {c0 : List va_E} {d : Nat} {Post : xP} {l3 : Int} {S : St} {cs : List va_E} {K : Int → St → Prop} (hd : 4 ≤ d) (hT : sb shC sh) (hS : ∀ b x, sh b = some x → ¬ isS b) (hU : sb shW sh) (hW : Wv G v sh B c0 S cs) (hP : ∀ (x : Int) (S : St) (cs : List va_E), K x S → Wv G v sh B c0 S cs → Post (none) cs)  (hw : wX8_path_15 l3 S K ) : Z (RX8, cX8_path, 4, none, false) G d Post 15 [(0, .ref (G.1 + v 210)), (3, .int (Int32.ofInt (l3)))] [] cs := by
  unfold wX8_path_15 at hw
  obtain ⟨Iv, mu, h0, hs⟩ := hw
  have key : ∀ (n : Nat) (l3 : Int) (S : St) (cs : List va_E), mu l3 S < n → Iv l3 S → Wv G v sh B c0 S cs → Z (RX8, cX8_path, 4, none, false) G d Post 15 [(0, .ref (G.1 + v 210)), (3, .int (Int32.ofInt (l3)))] [] cs := by
    intro n
    induction n with
    | zero => intro l3 S cs hn; exact absurd hn (Nat.not_lt_zero _)
    | succ n ih =>
      intro l3 S cs hn hI hW
      exact ubX8_path_15' hd hT hS hU hW hP  (fun l3 S cs hb hW => ih l3 S cs (Nat.lt_of_lt_of_le hb.2 (Nat.le_of_lt_succ hn)) hb.1 hW) (hs l3 S hI)
  exact key _ _ _ _ (Nat.lt_succ_self _) h0 hW
def wX8_path  (a1 : Int) (S : St) (K : Int → St → Prop) : Prop := rng a1 → (wX8_ancestry (0) (a1) S (fun r2 S1 => (∀ x3 : Int, x3 = (r2 - 1) → wX8_path_15 (x3) S1 K)))
set_option maxRecDepth 100000 in
set_option maxHeartbeats 4000000 in
theorem lX8_path {G : xG} {v : Nat → Nat} {sh : Nat → Option Sh} {B : Nat × Nat} {c0 : List va_E}  {a1 : Int} {S : St} {cs : List va_E} {K : Int → St → Prop} (d : Nat) (hd : 4 ≤ d) (hT : sb shC sh) (hS : ∀ b x, sh b = some x → ¬ isS b) (hU : sb shW sh) (hW : Wv G v sh B c0 S cs) (g1 : rng a1) (hw : wX8_path a1 S K) : X G yX8_path cX8_path 4 none d [.ref (G.1 + v 210), .int (Int32.ofInt a1)] cs (vV G v sh B c0 K) := by
  refine X.of false (by decide +kernel) (by decide) (Nat.le_of_ble_eq_true rfl) ?_
  show Z (RX8, cX8_path, 4, none, false) G d _ 0 [(0, .ref (G.1 + v 210)), (1, .int (Int32.ofInt a1))] [] cs
  have hP : ∀ (x : Int) (S : St) (cs : List va_E), K x S → Wv G v sh B c0 S cs → vV G v sh B c0 K (none) cs := fun x S cs a b => ⟨x, S, rfl, a, b⟩
  unfold wX8_path at hw
  have hw := hw g1
  refine z_aload_n dX8_path_0 rfl rfl ?_
  refine z_aload_n dX8_path_1 rfl rfl ?_
  refine v_getR hW (hU 210 _ rfl) rfl kX8 fX8_27 dX8_path_2 ?_
  refine z_iconst (v := Int32.ofInt 0) dX8_path_5 rfl ?_
  refine z_iload_n dX8_path_6 rfl rfl ?_
  have hX := lX8_ancestry 3 (Nat.le_refl _) hT hS hU hW ⟨by decide, by decide⟩ g1 hw
  refine z_callV (As := [_, _, _]) eX8_ancestry sX8_ancestry lX8_191 rfl dX8_path_7 (hW.at (hU 210 _ rfl)) hX (Nat.le_trans (by decide) hd) rfl (Nat.le_of_ble_eq_true rfl) (fun r cs hp => ?_)
  obtain ⟨r2, S1, rfl, hw, hW⟩ := hp
  refine z_st (st' := [.int (Int32.ofInt (r2))]) rfl ?_
  refine z_istore_n dX8_path_10 rfl (by decide) ?_
  refine z_loc (L' := [(0, .ref (G.1 + v 210)), (1, .int (Int32.ofInt (a1))), (2, .int (Int32.ofInt (r2)))]) (List.forall_mem_cons.mpr ⟨rfl, (List.forall_mem_cons.mpr ⟨rfl, (List.forall_mem_cons.mpr ⟨rfl, (fun _ h => nomatch h)⟩)⟩)⟩) ?_
  refine z_iload_n dX8_path_11 rfl rfl ?_
  refine z_iconst (v := Int32.ofInt 1) dX8_path_12 rfl ?_
  refine i_isub dX8_path_13 ?_
  obtain ⟨x3, hx3⟩ : ∃ x : Int, x = (r2 - 1) := ⟨_, rfl⟩
  have hw := hw x3 hx3
  refine z_st (st' := [.int (Int32.ofInt x3)]) (by rw [hx3]) ?_
  refine z_istore_n dX8_path_14 rfl (by decide) ?_
  refine z_loc (L' := [(0, .ref (G.1 + v 210)), (1, .int (Int32.ofInt (a1))), (2, .int (Int32.ofInt (r2))), (3, .int (Int32.ofInt (x3)))]) (List.forall_mem_cons.mpr ⟨rfl, (List.forall_mem_cons.mpr ⟨rfl, (List.forall_mem_cons.mpr ⟨rfl, (List.forall_mem_cons.mpr ⟨rfl, (fun _ h => nomatch h)⟩)⟩)⟩)⟩) ?_
  refine z_loc (L' := [(0, .ref (G.1 + v 210)), (3, .int (Int32.ofInt (x3)))]) (List.forall_mem_cons.mpr ⟨rfl, (List.forall_mem_cons.mpr ⟨rfl, (fun _ h => nomatch h)⟩)⟩) ?_
  exact ubX8_path_15 hd hT hS hU hW hP  hw

def wX8_ancestryOfItself  (a1 a2 : Int) (S : St) (K : Int → St → Prop) : Prop := rng a1 → rng a2 → ((0 : Int) ≤ 0 ∧ 0 < (62 : Int) ∧ (∀ S2, S2 = pA S 215 (0) ((-1)) → (wX1_classOf (a1) S2 (fun r4 S3 => (rng (r4) ∧ (wX4_isExplicitList (r4) (a2) S3 (fun r6 S5 => (rng (r6) ∧ ((¬ r6 = 0 → (wX8_listElement (a1) (a2) S5 (fun r11 S10 => ((0 : Int) ≤ 1 ∧ 1 < (62 : Int) ∧ (iv (-2147483648) 2147483647 (r11) ∧ (∀ S13, S13 = pA S10 215 (1) (r11) → K (2) S13)))))) ∧ ((¬ (¬ r6 = 0)) → K (1) S5))))))))))
set_option maxRecDepth 100000 in
set_option maxHeartbeats 4000000 in
theorem lX8_ancestryOfItself {G : xG} {v : Nat → Nat} {sh : Nat → Option Sh} {B : Nat × Nat} {c0 : List va_E}  {a1 a2 : Int} {S : St} {cs : List va_E} {K : Int → St → Prop} (d : Nat) (hd : 3 ≤ d) (hT : sb shC sh) (hS : ∀ b x, sh b = some x → ¬ isS b) (hU : sb shW sh) (hW : Wv G v sh B c0 S cs) (g1 : rng a1) (g2 : rng a2) (hw : wX8_ancestryOfItself a1 a2 S K) : X G yX8_ancestryOfItself cX8_ancestryOfItself 3 (some .int) d [.ref (G.1 + v 210), .int (Int32.ofInt a1), .int (Int32.ofInt a2)] cs (vI G v sh B c0 K) := by
  refine X.of false (by decide +kernel) (by decide) (Nat.le_of_ble_eq_true rfl) ?_
  show Z (RX8, cX8_ancestryOfItself, 3, some .int, false) G d _ 0 [(0, .ref (G.1 + v 210)), (1, .int (Int32.ofInt a1)), (2, .int (Int32.ofInt a2))] [] cs
  have hP : ∀ (x : Int) (S : St) (cs : List va_E), K x S → Wv G v sh B c0 S cs → vI G v sh B c0 K (some (.int (Int32.ofInt x))) cs := fun x S cs a b => ⟨x, S, rfl, a, b⟩
  unfold wX8_ancestryOfItself at hw
  have hw := hw g1 g2
  refine z_aload_n dX8_ancestryOfItself_0 rfl rfl ?_
  refine v_getR hW (hU 210 _ rfl) rfl kX8 fX8_24 dX8_ancestryOfItself_1 ?_
  refine z_iconst (v := Int32.ofInt 0) dX8_ancestryOfItself_4 rfl ?_
  refine z_iconst (v := Int32.ofInt (-1)) dX8_ancestryOfItself_5 rfl ?_
  obtain ⟨q1a, q1b, hw⟩ := hw
  refine v_iast hW (hU 215 _ rfl) (by decide) (by unfold isS; decide) q1a q1b (by decide) ⟨by decide, by decide⟩ dX8_ancestryOfItself_6 (fun cs hW => ?_)
  obtain ⟨S2, hS2⟩ : ∃ x, x = pA S 215 (0) ((-1)) := ⟨_, rfl⟩
  rw [← hS2] at hW
  have hw := hw S2 hS2
  refine z_aload_n dX8_ancestryOfItself_7 rfl rfl ?_
  refine v_getR hW (hU 210 _ rfl) rfl kX8 fX8_38 dX8_ancestryOfItself_8 ?_
  refine z_aload_n dX8_ancestryOfItself_11 rfl rfl ?_
  refine v_getR hW (hU 210 _ rfl) rfl kX8 fX8_42 dX8_ancestryOfItself_12 ?_
  refine z_iload_n dX8_ancestryOfItself_15 rfl rfl ?_
  have hX := lX1_classOf 1 (Nat.le_refl _) hT hS hW g1 hw
  refine z_callV (As := [_]) eX1_classOf sX1_classOf lX8_99 rfl dX8_ancestryOfItself_16 (hW.at (hT 42 _ rfl)) hX (Nat.le_trans (by decide) hd) rfl (Nat.le_of_ble_eq_true rfl) (fun r cs hp => ?_)
  obtain ⟨r4, S3, rfl, hw, hW⟩ := hp
  refine z_st (st' := [.int (Int32.ofInt (r4)), .ref (G.1 + v 24)]) rfl ?_
  refine z_iload_n dX8_ancestryOfItself_19 rfl rfl ?_
  obtain ⟨q7, hw⟩ := hw
  have hX := lX4_isExplicitList 2 (Nat.le_refl _) hT hS hW q7 g2 hw
  refine z_callV (As := [_, _]) eX4_isExplicitList sX4_isExplicitList lX8_205 rfl dX8_ancestryOfItself_20 (hW.at (hT 24 _ rfl)) hX (Nat.le_trans (by decide) hd) rfl (Nat.le_of_ble_eq_true rfl) (fun r cs hp => ?_)
  obtain ⟨r6, S5, rfl, hw, hW⟩ := hp
  refine z_st (st' := [.int (Int32.ofInt (r6))]) rfl ?_
  obtain ⟨q9, hw⟩ := hw
  refine i_if_ne (tgt := 28) dX8_ancestryOfItself_23 (by decide) q9 (fun h8 => ?_) (fun h8 => ?_)
  · have hw := hw.1 h8
    refine z_aload_n dX8_ancestryOfItself_28 rfl rfl ?_
    refine v_getR hW (hU 210 _ rfl) rfl kX8 fX8_24 dX8_ancestryOfItself_29 ?_
    refine z_iconst (v := Int32.ofInt 1) dX8_ancestryOfItself_32 rfl ?_
    refine z_iload_n dX8_ancestryOfItself_33 rfl rfl ?_
    refine z_iload_n dX8_ancestryOfItself_34 rfl rfl ?_
    have hX := lX8_listElement 0 (Nat.le_refl _) hT hS hW g1 g2 hw
    refine z_callS (As := [_, _]) eX8_listElement sX8_listElement lX8_208 dX8_ancestryOfItself_35 hX (Nat.le_trans (by decide) hd) rfl (Nat.le_of_ble_eq_true rfl) (fun r cs hp => ?_)
    obtain ⟨r11, S10, rfl, hw, hW⟩ := hp
    refine z_st (st' := [.int (Int32.ofInt (r11)), .int (Int32.ofInt (1)), .ref (G.1 + v 215)]) rfl ?_
    obtain ⟨q12a, q12b, hw⟩ := hw
    obtain ⟨q14, hw⟩ := hw
    refine v_iast hW (hU 215 _ rfl) (by decide) (by unfold isS; decide) q12a q12b (by decide) q14 dX8_ancestryOfItself_38 (fun cs hW => ?_)
    obtain ⟨S13, hS13⟩ : ∃ x, x = pA S10 215 (1) (r11) := ⟨_, rfl⟩
    rw [← hS13] at hW
    have hw := hw S13 hS13
    refine z_iconst (v := Int32.ofInt 2) dX8_ancestryOfItself_39 rfl ?_
    exact z_ireturn dX8_ancestryOfItself_40 rfl rfl (hP _ _ _ hw hW)
  · have hw := hw.2 h8
    refine z_iconst (v := Int32.ofInt 1) dX8_ancestryOfItself_26 rfl ?_
    exact z_ireturn dX8_ancestryOfItself_27 rfl rfl (hP _ _ _ hw hW)

def wX8_ancestry_b_100  (l4 l6 l7 : Int) (S : St) (K : Int → St → Prop) (B9 : Int → Int → Int → St → Prop) : Prop := B9 (l4) (l7) ((l6 + 1)) S
set_option maxRecDepth 100000 in
set_option maxHeartbeats 4000000 in
theorem ubX8_ancestry_b_100 {G : xG} {v : Nat → Nat} {sh : Nat → Option Sh} {B : Nat × Nat} {c0 : List va_E} {d : Nat} {Post : xP} {l4 l6 l7 : Int} {S : St} {cs : List va_E} {K : Int → St → Prop} {B9 : Int → Int → Int → St → Prop} (hd : 3 ≤ d) (hT : sb shC sh) (hS : ∀ b x, sh b = some x → ¬ isS b) (hU : sb shW sh) (hW : Wv G v sh B c0 S cs) (hP : ∀ (x : Int) (S : St) (cs : List va_E), K x S → Wv G v sh B c0 S cs → Post (some (.int (Int32.ofInt x))) cs) (hB9 : ∀ (l4 : Int) (l5 : Int) (l6 : Int) (S : St) (cs : List va_E), B9 l4 l5 l6 S → Wv G v sh B c0 S cs → Z (RX8, cX8_ancestry, 8, some .int, false) G d Post 9 [(0, .ref (G.1 + v 210)), (1, .ref (G.1 + v 215)), (4, .int (Int32.ofInt (l4))), (5, .int (Int32.ofInt (l5))), (6, .int (Int32.ofInt (l6)))] [] cs) (hw : wX8_ancestry_b_100 l4 l6 l7 S K B9) : Z (RX8, cX8_ancestry, 8, some .int, false) G d Post 100 [(0, .ref (G.1 + v 210)), (1, .ref (G.1 + v 215)), (4, .int (Int32.ofInt (l4))), (6, .int (Int32.ofInt (l6))), (7, .int (Int32.ofInt (l7)))] [] cs := by
  unfold wX8_ancestry_b_100 at hw
  refine z_iload dX8_ancestry_100 rfl ?_
  refine z_istore dX8_ancestry_102 (by decide) ?_
  refine z_loc (L' := [(0, .ref (G.1 + v 210)), (1, .ref (G.1 + v 215)), (4, .int (Int32.ofInt (l4))), (5, .int (Int32.ofInt (l7))), (6, .int (Int32.ofInt (l6))), (7, .int (Int32.ofInt (l7)))]) (List.forall_mem_cons.mpr ⟨rfl, (List.forall_mem_cons.mpr ⟨rfl, (List.forall_mem_cons.mpr ⟨rfl, (List.forall_mem_cons.mpr ⟨rfl, (List.forall_mem_cons.mpr ⟨rfl, (List.forall_mem_cons.mpr ⟨rfl, (fun _ h => nomatch h)⟩)⟩)⟩)⟩)⟩)⟩) ?_
  refine i_iinc (l := l6) dX8_ancestry_104 rfl (by decide) ?_
  refine z_loc (L' := [(0, .ref (G.1 + v 210)), (1, .ref (G.1 + v 215)), (4, .int (Int32.ofInt (l4))), (5, .int (Int32.ofInt (l7))), (6, .int (Int32.ofInt ((l6 + 1)))), (7, .int (Int32.ofInt (l7)))]) (List.forall_mem_cons.mpr ⟨rfl, (List.forall_mem_cons.mpr ⟨rfl, (List.forall_mem_cons.mpr ⟨rfl, (List.forall_mem_cons.mpr ⟨rfl, (List.forall_mem_cons.mpr ⟨rfl, (List.forall_mem_cons.mpr ⟨rfl, (fun _ h => nomatch h)⟩)⟩)⟩)⟩)⟩)⟩) ?_
  refine z_goto (tgt := 9) dX8_ancestry_107 (by decide) ?_
  refine z_loc (L' := [(0, .ref (G.1 + v 210)), (1, .ref (G.1 + v 215)), (4, .int (Int32.ofInt (l4))), (5, .int (Int32.ofInt (l7))), (6, .int (Int32.ofInt ((l6 + 1))))]) (List.forall_mem_cons.mpr ⟨rfl, (List.forall_mem_cons.mpr ⟨rfl, (List.forall_mem_cons.mpr ⟨rfl, (List.forall_mem_cons.mpr ⟨rfl, (List.forall_mem_cons.mpr ⟨rfl, (fun _ h => nomatch h)⟩)⟩)⟩)⟩)⟩) ?_
  exact hB9 _ _ _ _ _ hw hW
def wX8_ancestry_b_9'  (l4 l5 l6 : Int) (S : St) (K : Int → St → Prop) (B9 : Int → Int → Int → St → Prop) : Prop := (rng (l6) ∧ ((30 ≤ l6 → K (l4) S) ∧ ((¬ (30 ≤ l6)) → (rng (l5) ∧ (wX1_has (l5) S (fun r4 S3 => (rng (r4) ∧ ((r4 = 0 → K (l4) S3) ∧ ((¬ (r4 = 0)) → (rng ((l4 + 2)) ∧ ((62 < (l4 + 2) → K (l4) S3) ∧ ((¬ (62 < (l4 + 2))) → ((0 : Int) ≤ l4 ∧ l4 < (62 : Int) ∧ (iv (-2147483648) 2147483647 (l5) ∧ (∀ S11, S11 = pA S3 215 (l4) (l5) → ((0 : Int) ≤ l5 ∧ l5 < (30 : Int) ∧ (iv (-2147483648) 2147483647 (S11.2 212 (l5)) → (∀ x15 : Int, x15 = S11.2 212 (l5) → (wX1_classOf (x15) S11 (fun r19 S18 => ((0 : Int) ≤ l5 ∧ l5 < (30 : Int) ∧ (iv (-2147483648) 2147483647 (S18.2 213 (l5)) → (rng (r19) ∧ (wX4_isExplicitList (r19) (S18.2 213 (l5)) S18 (fun r23 S22 => (rng (r23) ∧ ((r23 = 0 → wX8_ancestry_b_100 ((l4 + 1)) (l6) (x15) S22 K B9) ∧ ((¬ (r23 = 0)) → ((0 : Int) ≤ l5 ∧ l5 < (30 : Int) ∧ (iv (-2147483648) 2147483647 (S22.2 213 (l5)) → (wX8_listElement (x15) (S22.2 213 (l5)) S22 (fun r30 S29 => ((0 : Int) ≤ (l4 + 1) ∧ (l4 + 1) < (62 : Int) ∧ (iv (-2147483648) 2147483647 (r30) ∧ (∀ S32, S32 = pA S29 215 ((l4 + 1)) (r30) → wX8_ancestry_b_100 (((l4 + 1) + 1)) (l6) (x15) S32 K B9)))))))))))))))))))))))))))))))))))
set_option maxRecDepth 100000 in
set_option maxHeartbeats 4000000 in
theorem ubX8_ancestry_b_9' {G : xG} {v : Nat → Nat} {sh : Nat → Option Sh} {B : Nat × Nat} {c0 : List va_E} {d : Nat} {Post : xP} {l4 l5 l6 : Int} {S : St} {cs : List va_E} {K : Int → St → Prop} {B9 : Int → Int → Int → St → Prop} (hd : 3 ≤ d) (hT : sb shC sh) (hS : ∀ b x, sh b = some x → ¬ isS b) (hU : sb shW sh) (hW : Wv G v sh B c0 S cs) (hP : ∀ (x : Int) (S : St) (cs : List va_E), K x S → Wv G v sh B c0 S cs → Post (some (.int (Int32.ofInt x))) cs) (hB9 : ∀ (l4 : Int) (l5 : Int) (l6 : Int) (S : St) (cs : List va_E), B9 l4 l5 l6 S → Wv G v sh B c0 S cs → Z (RX8, cX8_ancestry, 8, some .int, false) G d Post 9 [(0, .ref (G.1 + v 210)), (1, .ref (G.1 + v 215)), (4, .int (Int32.ofInt (l4))), (5, .int (Int32.ofInt (l5))), (6, .int (Int32.ofInt (l6)))] [] cs) (hw : wX8_ancestry_b_9' l4 l5 l6 S K B9) : Z (RX8, cX8_ancestry, 8, some .int, false) G d Post 9 [(0, .ref (G.1 + v 210)), (1, .ref (G.1 + v 215)), (4, .int (Int32.ofInt (l4))), (5, .int (Int32.ofInt (l5))), (6, .int (Int32.ofInt (l6)))] [] cs := by
  unfold wX8_ancestry_b_9' at hw
  refine z_iload dX8_ancestry_9 rfl ?_
  refine z_bipush (v := Int32.ofInt 30) dX8_ancestry_11 (by decide) ?_
  obtain ⟨q2, hw⟩ := hw
  refine i_icmp_ge (tgt := 110) dX8_ancestry_13 (by decide) q2 ⟨by decide, by decide⟩ (fun h1 => ?_) (fun h1 => ?_)
  · have hw := hw.1 h1
    refine z_iload dX8_ancestry_110 rfl ?_
    exact z_ireturn dX8_ancestry_112 rfl rfl (hP _ _ _ hw hW)
  · have hw := hw.2 h1
    refine z_aload_n dX8_ancestry_16 rfl rfl ?_
    refine v_getR hW (hU 210 _ rfl) rfl kX8 fX8_42 dX8_ancestry_17 ?_
    refine z_iload dX8_ancestry_20 rfl ?_
    obtain ⟨q5, hw⟩ := hw
    have hX := lX1_has 0 (Nat.le_refl _) hT hS hW q5 hw
    refine z_callV (As := [_]) eX1_has sX1_has lX8_62 rfl dX8_ancestry_22 (hW.at (hT 42 _ rfl)) hX (Nat.le_trans (by decide) hd) rfl (Nat.le_of_ble_eq_true rfl) (fun r cs hp => ?_)
    obtain ⟨r4, S3, rfl, hw, hW⟩ := hp
    refine z_st (st' := [.int (Int32.ofInt (r4))]) rfl ?_
    obtain ⟨q7, hw⟩ := hw
    refine i_if_eq (tgt := 110) dX8_ancestry_25 (by decide) q7 (fun h6 => ?_) (fun h6 => ?_)
    · have hw := hw.1 h6
      refine z_iload dX8_ancestry_110 rfl ?_
      exact z_ireturn dX8_ancestry_112 rfl rfl (hP _ _ _ hw hW)
    · have hw := hw.2 h6
      refine z_iload dX8_ancestry_28 rfl ?_
      refine z_iconst (v := Int32.ofInt 2) dX8_ancestry_30 rfl ?_
      refine i_iadd dX8_ancestry_31 ?_
      refine z_aload_n dX8_ancestry_32 rfl rfl ?_
      refine v_alen (t0 := 0) hW (hU 215 _ rfl) rfl dX8_ancestry_33 ?_
      obtain ⟨q9, hw⟩ := hw
      refine i_icmp_gt (tgt := 110) dX8_ancestry_34 (by decide) q9 ⟨by decide, by decide⟩ (fun h8 => ?_) (fun h8 => ?_)
      · have hw := hw.1 h8
        refine z_iload dX8_ancestry_110 rfl ?_
        exact z_ireturn dX8_ancestry_112 rfl rfl (hP _ _ _ hw hW)
      · have hw := hw.2 h8
        refine z_aload_n dX8_ancestry_37 rfl rfl ?_
        refine z_iload dX8_ancestry_38 rfl ?_
        refine z_iload dX8_ancestry_40 rfl ?_
        obtain ⟨q10a, q10b, hw⟩ := hw
        obtain ⟨q12, hw⟩ := hw
        refine v_iast hW (hU 215 _ rfl) (by decide) (by unfold isS; decide) q10a q10b (by decide) q12 dX8_ancestry_42 (fun cs hW => ?_)
        obtain ⟨S11, hS11⟩ : ∃ x, x = pA S3 215 (l4) (l5) := ⟨_, rfl⟩
        rw [← hS11] at hW
        have hw := hw S11 hS11
        refine i_iinc (l := l4) dX8_ancestry_43 rfl (by decide) ?_
        refine z_loc (L' := [(0, .ref (G.1 + v 210)), (1, .ref (G.1 + v 215)), (4, .int (Int32.ofInt ((l4 + 1)))), (5, .int (Int32.ofInt (l5))), (6, .int (Int32.ofInt (l6)))]) (List.forall_mem_cons.mpr ⟨rfl, (List.forall_mem_cons.mpr ⟨rfl, (List.forall_mem_cons.mpr ⟨rfl, (List.forall_mem_cons.mpr ⟨rfl, (List.forall_mem_cons.mpr ⟨rfl, (fun _ h => nomatch h)⟩)⟩)⟩)⟩)⟩) ?_
        refine z_aload_n dX8_ancestry_46 rfl rfl ?_
        refine v_getR hW (hU 210 _ rfl) rfl kX8 fX8_15 dX8_ancestry_47 ?_
        refine z_iload dX8_ancestry_50 rfl ?_
        obtain ⟨q13a, q13b, hw⟩ := hw
        have q14 : iv (-2147483648) 2147483647 (S11.2 212 (l5)) := hW.iA 212 _
        have hw := hw q14
        refine v_iald hW (hU 212 _ rfl) q13a q13b (by decide) dX8_ancestry_52 ?_
        obtain ⟨x15, hx15⟩ : ∃ x : Int, x = S11.2 212 (l5) := ⟨_, rfl⟩
        have hw := hw x15 hx15
        refine z_st (st' := [.int (Int32.ofInt x15)]) (by rw [hx15]) ?_
        have q16 : rng x15 := by rw [hx15]; exact (rngq q14 (by decide) (by decide))
        have q17 : iv (-2147483648) 2147483647 x15 := by rw [hx15]; exact q14
        refine z_istore dX8_ancestry_53 (by decide) ?_
        refine z_loc (L' := [(0, .ref (G.1 + v 210)), (1, .ref (G.1 + v 215)), (4, .int (Int32.ofInt ((l4 + 1)))), (5, .int (Int32.ofInt (l5))), (6, .int (Int32.ofInt (l6))), (7, .int (Int32.ofInt (x15)))]) (List.forall_mem_cons.mpr ⟨rfl, (List.forall_mem_cons.mpr ⟨rfl, (List.forall_mem_cons.mpr ⟨rfl, (List.forall_mem_cons.mpr ⟨rfl, (List.forall_mem_cons.mpr ⟨rfl, (List.forall_mem_cons.mpr ⟨rfl, (fun _ h => nomatch h)⟩)⟩)⟩)⟩)⟩)⟩) ?_
        refine z_aload_n dX8_ancestry_55 rfl rfl ?_
        refine v_getR hW (hU 210 _ rfl) rfl kX8 fX8_38 dX8_ancestry_56 ?_
        refine z_aload_n dX8_ancestry_59 rfl rfl ?_
        refine v_getR hW (hU 210 _ rfl) rfl kX8 fX8_42 dX8_ancestry_60 ?_
        refine z_iload dX8_ancestry_63 rfl ?_
        have hX := lX1_classOf 1 (Nat.le_refl _) hT hS hW q16 hw
        refine z_callV (As := [_]) eX1_classOf sX1_classOf lX8_99 rfl dX8_ancestry_65 (hW.at (hT 42 _ rfl)) hX (Nat.le_trans (by decide) hd) rfl (Nat.le_of_ble_eq_true rfl) (fun r cs hp => ?_)
        obtain ⟨r19, S18, rfl, hw, hW⟩ := hp
        refine z_st (st' := [.int (Int32.ofInt (r19)), .ref (G.1 + v 24)]) rfl ?_
        refine z_aload_n dX8_ancestry_68 rfl rfl ?_
        refine v_getR hW (hU 210 _ rfl) rfl kX8 fX8_18 dX8_ancestry_69 ?_
        refine z_iload dX8_ancestry_72 rfl ?_
        obtain ⟨q20a, q20b, hw⟩ := hw
        have q21 : iv (-2147483648) 2147483647 (S18.2 213 (l5)) := hW.iA 213 _
        have hw := hw q21
        refine v_iald hW (hU 213 _ rfl) q20a q20b (by decide) dX8_ancestry_74 ?_
        obtain ⟨q24, hw⟩ := hw
        have hX := lX4_isExplicitList 2 (Nat.le_refl _) hT hS hW q24 (rngq q21 (by decide) (by decide)) hw
        refine z_callV (As := [_, _]) eX4_isExplicitList sX4_isExplicitList lX8_205 rfl dX8_ancestry_75 (hW.at (hT 24 _ rfl)) hX (Nat.le_trans (by decide) hd) rfl (Nat.le_of_ble_eq_true rfl) (fun r cs hp => ?_)
        obtain ⟨r23, S22, rfl, hw, hW⟩ := hp
        refine z_st (st' := [.int (Int32.ofInt (r23))]) rfl ?_
        obtain ⟨q26, hw⟩ := hw
        refine i_if_eq (tgt := 100) dX8_ancestry_78 (by decide) q26 (fun h25 => ?_) (fun h25 => ?_)
        · have hw := hw.1 h25
          refine z_loc (L' := [(0, .ref (G.1 + v 210)), (1, .ref (G.1 + v 215)), (4, .int (Int32.ofInt ((l4 + 1)))), (6, .int (Int32.ofInt (l6))), (7, .int (Int32.ofInt (x15)))]) (List.forall_mem_cons.mpr ⟨rfl, (List.forall_mem_cons.mpr ⟨rfl, (List.forall_mem_cons.mpr ⟨rfl, (List.forall_mem_cons.mpr ⟨rfl, (List.forall_mem_cons.mpr ⟨rfl, (fun _ h => nomatch h)⟩)⟩)⟩)⟩)⟩) ?_
          exact ubX8_ancestry_b_100 hd hT hS hU hW hP hB9 hw
        · have hw := hw.2 h25
          refine z_aload_n dX8_ancestry_81 rfl rfl ?_
          refine z_iload dX8_ancestry_82 rfl ?_
          refine z_iload dX8_ancestry_84 rfl ?_
          refine z_aload_n dX8_ancestry_86 rfl rfl ?_
          refine v_getR hW (hU 210 _ rfl) rfl kX8 fX8_18 dX8_ancestry_87 ?_
          refine z_iload dX8_ancestry_90 rfl ?_
          obtain ⟨q27a, q27b, hw⟩ := hw
          have q28 : iv (-2147483648) 2147483647 (S22.2 213 (l5)) := hW.iA 213 _
          have hw := hw q28
          refine v_iald hW (hU 213 _ rfl) q27a q27b (by decide) dX8_ancestry_92 ?_
          have hX := lX8_listElement 0 (Nat.le_refl _) hT hS hW q16 (rngq q28 (by decide) (by decide)) hw
          refine z_callS (As := [_, _]) eX8_listElement sX8_listElement lX8_208 dX8_ancestry_93 hX (Nat.le_trans (by decide) hd) rfl (Nat.le_of_ble_eq_true rfl) (fun r cs hp => ?_)
          obtain ⟨r30, S29, rfl, hw, hW⟩ := hp
          refine z_st (st' := [.int (Int32.ofInt (r30)), .int (Int32.ofInt ((l4 + 1))), .ref (G.1 + v 215)]) rfl ?_
          obtain ⟨q31a, q31b, hw⟩ := hw
          obtain ⟨q33, hw⟩ := hw
          refine v_iast hW (hU 215 _ rfl) (by decide) (by unfold isS; decide) q31a q31b (by decide) q33 dX8_ancestry_96 (fun cs hW => ?_)
          obtain ⟨S32, hS32⟩ : ∃ x, x = pA S29 215 ((l4 + 1)) (r30) := ⟨_, rfl⟩
          rw [← hS32] at hW
          have hw := hw S32 hS32
          refine i_iinc (l := (l4 + 1)) dX8_ancestry_97 rfl (by decide) ?_
          refine z_loc (L' := [(0, .ref (G.1 + v 210)), (1, .ref (G.1 + v 215)), (4, .int (Int32.ofInt (((l4 + 1) + 1)))), (5, .int (Int32.ofInt (l5))), (6, .int (Int32.ofInt (l6))), (7, .int (Int32.ofInt (x15)))]) (List.forall_mem_cons.mpr ⟨rfl, (List.forall_mem_cons.mpr ⟨rfl, (List.forall_mem_cons.mpr ⟨rfl, (List.forall_mem_cons.mpr ⟨rfl, (List.forall_mem_cons.mpr ⟨rfl, (List.forall_mem_cons.mpr ⟨rfl, (fun _ h => nomatch h)⟩)⟩)⟩)⟩)⟩)⟩) ?_
          refine z_loc (L' := [(0, .ref (G.1 + v 210)), (1, .ref (G.1 + v 215)), (4, .int (Int32.ofInt (((l4 + 1) + 1)))), (6, .int (Int32.ofInt (l6))), (7, .int (Int32.ofInt (x15)))]) (List.forall_mem_cons.mpr ⟨rfl, (List.forall_mem_cons.mpr ⟨rfl, (List.forall_mem_cons.mpr ⟨rfl, (List.forall_mem_cons.mpr ⟨rfl, (List.forall_mem_cons.mpr ⟨rfl, (fun _ h => nomatch h)⟩)⟩)⟩)⟩)⟩) ?_
          exact ubX8_ancestry_b_100 hd hT hS hU hW hP hB9 hw
def wX8_ancestry_b_9  (l4 l5 l6 : Int) (S : St) (K : Int → St → Prop) : Prop := ∃ (Iv : Int → Int → Int → St → Prop) (mu : Int → Int → Int → St → Nat), Iv l4 l5 l6 S ∧ ∀ (l4 l5 l6 : Int) (S : St), Iv l4 l5 l6 S → wX8_ancestry_b_9' l4 l5 l6 S K  (fun ml4 ml5 ml6 T => Iv ml4 ml5 ml6 T ∧ mu ml4 ml5 ml6 T < mu l4 l5 l6 S)
set_option maxRecDepth 100000 in
set_option maxHeartbeats 4000000 in
theorem ubX8_ancestry_b_9 {G : xG} {v : Nat → Nat} {sh : Nat → Option Sh} {B : Nat × Nat} {c0 : List va_E} {d : Nat} {Post : xP} {l4 l5 l6 : Int} {S : St} {cs : List va_E} {K : Int → St → Prop} (hd : 3 ≤ d) (hT : sb shC sh) (hS : ∀ b x, sh b = some x → ¬ isS b) (hU : sb shW sh) (hW : Wv G v sh B c0 S cs) (hP : ∀ (x : Int) (S : St) (cs : List va_E), K x S → Wv G v sh B c0 S cs → Post (some (.int (Int32.ofInt x))) cs)  (hw : wX8_ancestry_b_9 l4 l5 l6 S K ) : Z (RX8, cX8_ancestry, 8, some .int, false) G d Post 9 [(0, .ref (G.1 + v 210)), (1, .ref (G.1 + v 215)), (4, .int (Int32.ofInt (l4))), (5, .int (Int32.ofInt (l5))), (6, .int (Int32.ofInt (l6)))] [] cs := by
  unfold wX8_ancestry_b_9 at hw
  obtain ⟨Iv, mu, h0, hs⟩ := hw
  have key : ∀ (n : Nat) (l4 l5 l6 : Int) (S : St) (cs : List va_E), mu l4 l5 l6 S < n → Iv l4 l5 l6 S → Wv G v sh B c0 S cs → Z (RX8, cX8_ancestry, 8, some .int, false) G d Post 9 [(0, .ref (G.1 + v 210)), (1, .ref (G.1 + v 215)), (4, .int (Int32.ofInt (l4))), (5, .int (Int32.ofInt (l5))), (6, .int (Int32.ofInt (l6)))] [] cs := by
    intro n
    induction n with
    | zero => intro l4 l5 l6 S cs hn; exact absurd hn (Nat.not_lt_zero _)
    | succ n ih =>
      intro l4 l5 l6 S cs hn hI hW
      exact ubX8_ancestry_b_9' hd hT hS hU hW hP  (fun l4 l5 l6 S cs hb hW => ih l4 l5 l6 S cs (Nat.lt_of_lt_of_le hb.2 (Nat.le_of_lt_succ hn)) hb.1 hW) (hs l4 l5 l6 S hI)
  exact key _ _ _ _ _ _ (Nat.lt_succ_self _) h0 hW
def wX8_ancestry_b  (a1 a2 : Int) (S : St) (K : Int → St → Prop) : Prop := rng a1 → rng a2 → wX8_ancestry_b_9 (a1) (a2) (0) S K
set_option maxRecDepth 100000 in
set_option maxHeartbeats 4000000 in
theorem lX8_ancestry_b {G : xG} {v : Nat → Nat} {sh : Nat → Option Sh} {B : Nat × Nat} {c0 : List va_E}  {a1 a2 : Int} {S : St} {cs : List va_E} {K : Int → St → Prop} (d : Nat) (hd : 3 ≤ d) (hT : sb shC sh) (hS : ∀ b x, sh b = some x → ¬ isS b) (hU : sb shW sh) (hW : Wv G v sh B c0 S cs) (g1 : rng a1) (g2 : rng a2) (hw : wX8_ancestry_b a1 a2 S K) : X G yX8_ancestry cX8_ancestry 8 (some .int) d [.ref (G.1 + v 210), .ref (G.1 + v 215), .int (Int32.ofInt a1), .int (Int32.ofInt a2)] cs (vI G v sh B c0 K) := by
  refine X.of false (by decide +kernel) (by decide) (Nat.le_of_ble_eq_true rfl) ?_
  show Z (RX8, cX8_ancestry, 8, some .int, false) G d _ 0 [(0, .ref (G.1 + v 210)), (1, .ref (G.1 + v 215)), (2, .int (Int32.ofInt a1)), (3, .int (Int32.ofInt a2))] [] cs
  have hP : ∀ (x : Int) (S : St) (cs : List va_E), K x S → Wv G v sh B c0 S cs → vI G v sh B c0 K (some (.int (Int32.ofInt x))) cs := fun x S cs a b => ⟨x, S, rfl, a, b⟩
  unfold wX8_ancestry_b at hw
  have hw := hw g1 g2
  refine z_iload_n dX8_ancestry_0 rfl rfl ?_
  refine z_istore dX8_ancestry_1 (by decide) ?_
  refine z_loc (L' := [(0, .ref (G.1 + v 210)), (1, .ref (G.1 + v 215)), (2, .int (Int32.ofInt (a1))), (3, .int (Int32.ofInt (a2))), (4, .int (Int32.ofInt (a1)))]) (List.forall_mem_cons.mpr ⟨rfl, (List.forall_mem_cons.mpr ⟨rfl, (List.forall_mem_cons.mpr ⟨rfl, (List.forall_mem_cons.mpr ⟨rfl, (List.forall_mem_cons.mpr ⟨rfl, (fun _ h => nomatch h)⟩)⟩)⟩)⟩)⟩) ?_
  refine z_iload_n dX8_ancestry_3 rfl rfl ?_
  refine z_istore dX8_ancestry_4 (by decide) ?_
  refine z_loc (L' := [(0, .ref (G.1 + v 210)), (1, .ref (G.1 + v 215)), (2, .int (Int32.ofInt (a1))), (3, .int (Int32.ofInt (a2))), (4, .int (Int32.ofInt (a1))), (5, .int (Int32.ofInt (a2)))]) (List.forall_mem_cons.mpr ⟨rfl, (List.forall_mem_cons.mpr ⟨rfl, (List.forall_mem_cons.mpr ⟨rfl, (List.forall_mem_cons.mpr ⟨rfl, (List.forall_mem_cons.mpr ⟨rfl, (List.forall_mem_cons.mpr ⟨rfl, (fun _ h => nomatch h)⟩)⟩)⟩)⟩)⟩)⟩) ?_
  refine z_iconst (v := Int32.ofInt 0) dX8_ancestry_6 rfl ?_
  refine z_istore dX8_ancestry_7 (by decide) ?_
  refine z_loc (L' := [(0, .ref (G.1 + v 210)), (1, .ref (G.1 + v 215)), (2, .int (Int32.ofInt (a1))), (3, .int (Int32.ofInt (a2))), (4, .int (Int32.ofInt (a1))), (5, .int (Int32.ofInt (a2))), (6, .int (Int32.ofInt (0)))]) (List.forall_mem_cons.mpr ⟨rfl, (List.forall_mem_cons.mpr ⟨rfl, (List.forall_mem_cons.mpr ⟨rfl, (List.forall_mem_cons.mpr ⟨rfl, (List.forall_mem_cons.mpr ⟨rfl, (List.forall_mem_cons.mpr ⟨rfl, (List.forall_mem_cons.mpr ⟨rfl, (fun _ h => nomatch h)⟩)⟩)⟩)⟩)⟩)⟩)⟩) ?_
  refine z_loc (L' := [(0, .ref (G.1 + v 210)), (1, .ref (G.1 + v 215)), (4, .int (Int32.ofInt (a1))), (5, .int (Int32.ofInt (a2))), (6, .int (Int32.ofInt (0)))]) (List.forall_mem_cons.mpr ⟨rfl, (List.forall_mem_cons.mpr ⟨rfl, (List.forall_mem_cons.mpr ⟨rfl, (List.forall_mem_cons.mpr ⟨rfl, (List.forall_mem_cons.mpr ⟨rfl, (fun _ h => nomatch h)⟩)⟩)⟩)⟩)⟩) ?_
  exact ubX8_ancestry_b_9 hd hT hS hU hW hP  hw

def wX8_way_126'  (l7 : Int) (S : St) (K : Int → St → Prop) (B126 : Int → St → Prop) : Prop := (rng (l7) ∧ ((l7 < 0 → K 0 S) ∧ ((¬ (l7 < 0)) → (wX5_put 22 (47) S (fun r4 S3 => ((0 : Int) ≤ l7 ∧ l7 < (62 : Int) ∧ (iv (-2147483648) 2147483647 (S3.2 216 (l7)) → (wX8_step (S3.2 216 (l7)) S3 (fun r8 S7 => B126 ((l7 + (-1))) S7)))))))))
set_option maxRecDepth 100000 in
set_option maxHeartbeats 4000000 in
theorem ubX8_way_126' {G : xG} {v : Nat → Nat} {sh : Nat → Option Sh} {B : Nat × Nat} {c0 : List va_E} {d : Nat} {Post : xP} {l7 : Int} {S : St} {cs : List va_E} {K : Int → St → Prop} {B126 : Int → St → Prop} (hd : 5 ≤ d) (hT : sb shC sh) (hS : ∀ b x, sh b = some x → ¬ isS b) (hU : sb shW sh) (hW : Wv G v sh B c0 S cs) (hP : ∀ (x : Int) (S : St) (cs : List va_E), K x S → Wv G v sh B c0 S cs → Post (none) cs) (hB126 : ∀ (l7 : Int) (S : St) (cs : List va_E), B126 l7 S → Wv G v sh B c0 S cs → Z (RX8, cX8_way, 8, none, false) G d Post 126 [(0, .ref (G.1 + v 210)), (7, .int (Int32.ofInt (l7)))] [] cs) (hw : wX8_way_126' l7 S K B126) : Z (RX8, cX8_way, 8, none, false) G d Post 126 [(0, .ref (G.1 + v 210)), (7, .int (Int32.ofInt (l7)))] [] cs := by
  unfold wX8_way_126' at hw
  refine z_iload dX8_way_126 rfl ?_
  obtain ⟨q2, hw⟩ := hw
  refine i_if_lt (tgt := 158) dX8_way_128 (by decide) q2 (fun h1 => ?_) (fun h1 => ?_)
  · have hw := hw.1 h1
    exact z_return dX8_way_158 rfl (hP 0 _ _ hw hW)
  · have hw := hw.2 h1
    refine z_aload_n dX8_way_131 rfl rfl ?_
    refine v_getR hW (hU 210 _ rfl) rfl kX8 fX8_46 dX8_way_132 ?_
    refine z_bipush (v := Int32.ofInt 47) dX8_way_135 (by decide) ?_
    have hX := lX5_put 1 (Nat.le_refl _) hW (show isS 22 by unfold isS; decide) (fun b x h e => hS b x h (e ▸ (show isS 22 by unfold isS; decide))) ⟨by decide, by decide⟩ hw
    refine z_callV (As := [_]) eX5_put sX5_put lX8_89 rfl dX8_way_137 (hW.sg (show isS 22 by unfold isS; decide) (fun b x h e => hS b x h (e ▸ (show isS 22 by unfold isS; decide)))).choose_spec.choose_spec.choose_spec.choose_spec.1.choose_spec.1 hX (Nat.le_trans (by decide) hd) rfl (Nat.le_of_ble_eq_true rfl) (fun r cs hp => ?_)
    obtain ⟨r4, S3, rfl, hw, hW⟩ := hp
    refine z_st (st' := [.int (Int32.ofInt (r4))]) rfl ?_
    refine z_pop dX8_way_140 rfl ?_
    refine z_aload_n dX8_way_141 rfl rfl ?_
    refine z_aload_n dX8_way_142 rfl rfl ?_
    refine v_getR hW (hU 210 _ rfl) rfl kX8 fX8_27 dX8_way_143 ?_
    refine z_iload dX8_way_146 rfl ?_
    obtain ⟨q5a, q5b, hw⟩ := hw
    have q6 : iv (-2147483648) 2147483647 (S3.2 216 (l7)) := hW.iA 216 _
    have hw := hw q6
    refine v_iald hW (hU 216 _ rfl) q5a q5b (by decide) dX8_way_148 ?_
    have hX := lX8_step 3 (Nat.le_refl _) hT hS hU hW (rngq q6 (by decide) (by decide)) hw
    refine z_callV (As := [_]) eX8_step sX8_step lX8_195 rfl dX8_way_149 (hW.at (hU 210 _ rfl)) hX (Nat.le_trans (by decide) hd) rfl (Nat.le_of_ble_eq_true rfl) (fun r cs hp => ?_)
    obtain ⟨r8, S7, rfl, hw, hW⟩ := hp
    refine z_st (st' := []) rfl ?_
    refine i_iinc (l := l7) dX8_way_152 rfl (by decide) ?_
    refine z_loc (L' := [(0, .ref (G.1 + v 210)), (7, .int (Int32.ofInt ((l7 + (-1)))))]) (List.forall_mem_cons.mpr ⟨rfl, (List.forall_mem_cons.mpr ⟨rfl, (fun _ h => nomatch h)⟩)⟩) ?_
    refine z_goto (tgt := 126) dX8_way_155 (by decide) ?_
    refine z_loc (L' := [(0, .ref (G.1 + v 210)), (7, .int (Int32.ofInt ((l7 + (-1)))))]) (List.forall_mem_cons.mpr ⟨rfl, (List.forall_mem_cons.mpr ⟨rfl, (fun _ h => nomatch h)⟩)⟩) ?_
    exact hB126 _ _ _ hw hW
def wX8_way_126  (l7 : Int) (S : St) (K : Int → St → Prop) : Prop := ∃ (Iv : Int → St → Prop) (mu : Int → St → Nat), Iv l7 S ∧ ∀ (l7 : Int) (S : St), Iv l7 S → wX8_way_126' l7 S K  (fun ml7 T => Iv ml7 T ∧ mu ml7 T < mu l7 S)
set_option maxRecDepth 100000 in
set_option maxHeartbeats 4000000 in
theorem ubX8_way_126 {G : xG} {v : Nat → Nat} {sh : Nat → Option Sh} {B : Nat × Nat} {c0 : List va_E} {d : Nat} {Post : xP} {l7 : Int} {S : St} {cs : List va_E} {K : Int → St → Prop} (hd : 5 ≤ d) (hT : sb shC sh) (hS : ∀ b x, sh b = some x → ¬ isS b) (hU : sb shW sh) (hW : Wv G v sh B c0 S cs) (hP : ∀ (x : Int) (S : St) (cs : List va_E), K x S → Wv G v sh B c0 S cs → Post (none) cs)  (hw : wX8_way_126 l7 S K ) : Z (RX8, cX8_way, 8, none, false) G d Post 126 [(0, .ref (G.1 + v 210)), (7, .int (Int32.ofInt (l7)))] [] cs := by
  unfold wX8_way_126 at hw
  obtain ⟨Iv, mu, h0, hs⟩ := hw
  have key : ∀ (n : Nat) (l7 : Int) (S : St) (cs : List va_E), mu l7 S < n → Iv l7 S → Wv G v sh B c0 S cs → Z (RX8, cX8_way, 8, none, false) G d Post 126 [(0, .ref (G.1 + v 210)), (7, .int (Int32.ofInt (l7)))] [] cs := by
    intro n
    induction n with
    | zero => intro l7 S cs hn; exact absurd hn (Nat.not_lt_zero _)
    | succ n ih =>
      intro l7 S cs hn hI hW
      exact ubX8_way_126' hd hT hS hU hW hP  (fun l7 S cs hb hW => ih l7 S cs (Nat.lt_of_lt_of_le hb.2 (Nat.le_of_lt_succ hn)) hb.1 hW) (hs l7 S hI)
  exact key _ _ _ _ (Nat.lt_succ_self _) h0 hW
def wX8_way_82'  (l4 l5 l6 l7 : Int) (S : St) (K : Int → St → Prop) (B82 : Int → Int → Int → Int → St → Prop) : Prop := (rng (l7) ∧ (rng ((l4 - l6)) ∧ (((l4 - l6) ≤ l7 → (∀ x4 : Int, x4 = ((l5 - l6) - 1) → wX8_way_126 (x4) S K)) ∧ ((¬ ((l4 - l6) ≤ l7)) → ((¬ l7 = 0 → (wX5_spell 22 4 S (fun r7 S6 => B82 (l4) (l5) (l6) ((l7 + 1)) S6))) ∧ ((¬ (¬ l7 = 0)) → (wX5_spell 22 3 S (fun r9 S8 => B82 (l4) (l5) (l6) ((l7 + 1)) S8))))))))
set_option maxRecDepth 100000 in
set_option maxHeartbeats 4000000 in
theorem ubX8_way_82' {G : xG} {v : Nat → Nat} {sh : Nat → Option Sh} {B : Nat × Nat} {c0 : List va_E} {d : Nat} {Post : xP} {l4 l5 l6 l7 : Int} {S : St} {cs : List va_E} {K : Int → St → Prop} {B82 : Int → Int → Int → Int → St → Prop} (hd : 5 ≤ d) (hT : sb shC sh) (hS : ∀ b x, sh b = some x → ¬ isS b) (hU : sb shW sh) (hW : Wv G v sh B c0 S cs) (hP : ∀ (x : Int) (S : St) (cs : List va_E), K x S → Wv G v sh B c0 S cs → Post (none) cs) (hB82 : ∀ (l4 : Int) (l5 : Int) (l6 : Int) (l7 : Int) (S : St) (cs : List va_E), B82 l4 l5 l6 l7 S → Wv G v sh B c0 S cs → Z (RX8, cX8_way, 8, none, false) G d Post 82 [(0, .ref (G.1 + v 210)), (4, .int (Int32.ofInt (l4))), (5, .int (Int32.ofInt (l5))), (6, .int (Int32.ofInt (l6))), (7, .int (Int32.ofInt (l7)))] [] cs) (hw : wX8_way_82' l4 l5 l6 l7 S K B82) : Z (RX8, cX8_way, 8, none, false) G d Post 82 [(0, .ref (G.1 + v 210)), (4, .int (Int32.ofInt (l4))), (5, .int (Int32.ofInt (l5))), (6, .int (Int32.ofInt (l6))), (7, .int (Int32.ofInt (l7)))] [] cs := by
  unfold wX8_way_82' at hw
  refine z_iload dX8_way_82 rfl ?_
  refine z_iload dX8_way_84 rfl ?_
  refine z_iload dX8_way_86 rfl ?_
  refine i_isub dX8_way_88 ?_
  obtain ⟨q2, hw⟩ := hw
  obtain ⟨q3, hw⟩ := hw
  refine i_icmp_ge (tgt := 117) dX8_way_89 (by decide) q2 q3 (fun h1 => ?_) (fun h1 => ?_)
  · have hw := hw.1 h1
    refine z_iload dX8_way_117 rfl ?_
    refine z_iload dX8_way_119 rfl ?_
    refine i_isub dX8_way_121 ?_
    refine z_iconst (v := Int32.ofInt 1) dX8_way_122 rfl ?_
    refine i_isub dX8_way_123 ?_
    obtain ⟨x4, hx4⟩ : ∃ x : Int, x = ((l5 - l6) - 1) := ⟨_, rfl⟩
    have hw := hw x4 hx4
    refine z_st (st' := [.int (Int32.ofInt x4)]) (by rw [hx4]) ?_
    refine z_istore dX8_way_124 (by decide) ?_
    refine z_loc (L' := [(0, .ref (G.1 + v 210)), (4, .int (Int32.ofInt (l4))), (5, .int (Int32.ofInt (l5))), (6, .int (Int32.ofInt (l6))), (7, .int (Int32.ofInt (x4)))]) (List.forall_mem_cons.mpr ⟨rfl, (List.forall_mem_cons.mpr ⟨rfl, (List.forall_mem_cons.mpr ⟨rfl, (List.forall_mem_cons.mpr ⟨rfl, (List.forall_mem_cons.mpr ⟨rfl, (fun _ h => nomatch h)⟩)⟩)⟩)⟩)⟩) ?_
    refine z_loc (L' := [(0, .ref (G.1 + v 210)), (7, .int (Int32.ofInt (x4)))]) (List.forall_mem_cons.mpr ⟨rfl, (List.forall_mem_cons.mpr ⟨rfl, (fun _ h => nomatch h)⟩)⟩) ?_
    exact ubX8_way_126 hd hT hS hU hW hP  hw
  · have hw := hw.2 h1
    refine z_aload_n dX8_way_92 rfl rfl ?_
    refine v_getR hW (hU 210 _ rfl) rfl kX8 fX8_46 dX8_way_93 ?_
    refine z_iload dX8_way_96 rfl ?_
    refine i_if_ne (tgt := 106) dX8_way_98 (by decide) q2 (fun h5 => ?_) (fun h5 => ?_)
    · have hw := hw.1 h5
      refine z_ldcS (i := 4) (tx := "/..") (by decide +kernel) dX8_way_106 ?_
      have hX := lX5_spell 4 (Nat.le_refl _) hW (show isS 22 by unfold isS; decide) (fun b x h e => hS b x h (e ▸ (show isS 22 by unfold isS; decide))) (show 4 < xN by decide)  hw
      refine z_callV (As := [_]) eX5_spell sX5_spell lX8_85 rfl dX8_way_108 (hW.sg (show isS 22 by unfold isS; decide) (fun b x h e => hS b x h (e ▸ (show isS 22 by unfold isS; decide)))).choose_spec.choose_spec.choose_spec.choose_spec.1.choose_spec.1 hX (Nat.le_trans (by decide) hd) rfl (Nat.le_of_ble_eq_true rfl) (fun r cs hp => ?_)
      obtain ⟨r7, S6, rfl, hw, hW⟩ := hp
      refine z_st (st' := []) rfl ?_
      refine i_iinc (l := l7) dX8_way_111 rfl (by decide) ?_
      refine z_loc (L' := [(0, .ref (G.1 + v 210)), (4, .int (Int32.ofInt (l4))), (5, .int (Int32.ofInt (l5))), (6, .int (Int32.ofInt (l6))), (7, .int (Int32.ofInt ((l7 + 1))))]) (List.forall_mem_cons.mpr ⟨rfl, (List.forall_mem_cons.mpr ⟨rfl, (List.forall_mem_cons.mpr ⟨rfl, (List.forall_mem_cons.mpr ⟨rfl, (List.forall_mem_cons.mpr ⟨rfl, (fun _ h => nomatch h)⟩)⟩)⟩)⟩)⟩) ?_
      refine z_goto (tgt := 82) dX8_way_114 (by decide) ?_
      refine z_loc (L' := [(0, .ref (G.1 + v 210)), (4, .int (Int32.ofInt (l4))), (5, .int (Int32.ofInt (l5))), (6, .int (Int32.ofInt (l6))), (7, .int (Int32.ofInt ((l7 + 1))))]) (List.forall_mem_cons.mpr ⟨rfl, (List.forall_mem_cons.mpr ⟨rfl, (List.forall_mem_cons.mpr ⟨rfl, (List.forall_mem_cons.mpr ⟨rfl, (List.forall_mem_cons.mpr ⟨rfl, (fun _ h => nomatch h)⟩)⟩)⟩)⟩)⟩) ?_
      exact hB82 _ _ _ _ _ _ hw hW
    · have hw := hw.2 h5
      refine z_ldcS (i := 3) (tx := "..") (by decide +kernel) dX8_way_101 ?_
      refine z_goto (tgt := 108) dX8_way_103 (by decide) ?_
      have hX := lX5_spell 4 (Nat.le_refl _) hW (show isS 22 by unfold isS; decide) (fun b x h e => hS b x h (e ▸ (show isS 22 by unfold isS; decide))) (show 3 < xN by decide)  hw
      refine z_callV (As := [_]) eX5_spell sX5_spell lX8_85 rfl dX8_way_108 (hW.sg (show isS 22 by unfold isS; decide) (fun b x h e => hS b x h (e ▸ (show isS 22 by unfold isS; decide)))).choose_spec.choose_spec.choose_spec.choose_spec.1.choose_spec.1 hX (Nat.le_trans (by decide) hd) rfl (Nat.le_of_ble_eq_true rfl) (fun r cs hp => ?_)
      obtain ⟨r9, S8, rfl, hw, hW⟩ := hp
      refine z_st (st' := []) rfl ?_
      refine i_iinc (l := l7) dX8_way_111 rfl (by decide) ?_
      refine z_loc (L' := [(0, .ref (G.1 + v 210)), (4, .int (Int32.ofInt (l4))), (5, .int (Int32.ofInt (l5))), (6, .int (Int32.ofInt (l6))), (7, .int (Int32.ofInt ((l7 + 1))))]) (List.forall_mem_cons.mpr ⟨rfl, (List.forall_mem_cons.mpr ⟨rfl, (List.forall_mem_cons.mpr ⟨rfl, (List.forall_mem_cons.mpr ⟨rfl, (List.forall_mem_cons.mpr ⟨rfl, (fun _ h => nomatch h)⟩)⟩)⟩)⟩)⟩) ?_
      refine z_goto (tgt := 82) dX8_way_114 (by decide) ?_
      refine z_loc (L' := [(0, .ref (G.1 + v 210)), (4, .int (Int32.ofInt (l4))), (5, .int (Int32.ofInt (l5))), (6, .int (Int32.ofInt (l6))), (7, .int (Int32.ofInt ((l7 + 1))))]) (List.forall_mem_cons.mpr ⟨rfl, (List.forall_mem_cons.mpr ⟨rfl, (List.forall_mem_cons.mpr ⟨rfl, (List.forall_mem_cons.mpr ⟨rfl, (List.forall_mem_cons.mpr ⟨rfl, (fun _ h => nomatch h)⟩)⟩)⟩)⟩)⟩) ?_
      exact hB82 _ _ _ _ _ _ hw hW
def wX8_way_82  (l4 l5 l6 l7 : Int) (S : St) (K : Int → St → Prop) : Prop := ∃ (Iv : Int → Int → Int → Int → St → Prop) (mu : Int → Int → Int → Int → St → Nat), Iv l4 l5 l6 l7 S ∧ ∀ (l4 l5 l6 l7 : Int) (S : St), Iv l4 l5 l6 l7 S → wX8_way_82' l4 l5 l6 l7 S K  (fun ml4 ml5 ml6 ml7 T => Iv ml4 ml5 ml6 ml7 T ∧ mu ml4 ml5 ml6 ml7 T < mu l4 l5 l6 l7 S)
set_option maxRecDepth 100000 in
set_option maxHeartbeats 4000000 in
theorem ubX8_way_82 {G : xG} {v : Nat → Nat} {sh : Nat → Option Sh} {B : Nat × Nat} {c0 : List va_E} {d : Nat} {Post : xP} {l4 l5 l6 l7 : Int} {S : St} {cs : List va_E} {K : Int → St → Prop} (hd : 5 ≤ d) (hT : sb shC sh) (hS : ∀ b x, sh b = some x → ¬ isS b) (hU : sb shW sh) (hW : Wv G v sh B c0 S cs) (hP : ∀ (x : Int) (S : St) (cs : List va_E), K x S → Wv G v sh B c0 S cs → Post (none) cs)  (hw : wX8_way_82 l4 l5 l6 l7 S K ) : Z (RX8, cX8_way, 8, none, false) G d Post 82 [(0, .ref (G.1 + v 210)), (4, .int (Int32.ofInt (l4))), (5, .int (Int32.ofInt (l5))), (6, .int (Int32.ofInt (l6))), (7, .int (Int32.ofInt (l7)))] [] cs := by
  unfold wX8_way_82 at hw
  obtain ⟨Iv, mu, h0, hs⟩ := hw
  have key : ∀ (n : Nat) (l4 l5 l6 l7 : Int) (S : St) (cs : List va_E), mu l4 l5 l6 l7 S < n → Iv l4 l5 l6 l7 S → Wv G v sh B c0 S cs → Z (RX8, cX8_way, 8, none, false) G d Post 82 [(0, .ref (G.1 + v 210)), (4, .int (Int32.ofInt (l4))), (5, .int (Int32.ofInt (l5))), (6, .int (Int32.ofInt (l6))), (7, .int (Int32.ofInt (l7)))] [] cs := by
    intro n
    induction n with
    | zero => intro l4 l5 l6 l7 S cs hn; exact absurd hn (Nat.not_lt_zero _)
    | succ n ih =>
      intro l4 l5 l6 l7 S cs hn hI hW
      exact ubX8_way_82' hd hT hS hU hW hP  (fun l4 l5 l6 l7 S cs hb hW => ih l4 l5 l6 l7 S cs (Nat.lt_of_lt_of_le hb.2 (Nat.le_of_lt_succ hn)) hb.1 hW) (hs l4 l5 l6 l7 S hI)
  exact key _ _ _ _ _ _ _ (Nat.lt_succ_self _) h0 hW
def wX8_way_79  (l4 l5 l6 : Int) (S : St) (K : Int → St → Prop) : Prop := wX8_way_82 (l4) (l5) (l6) (0) S K
set_option maxRecDepth 100000 in
set_option maxHeartbeats 4000000 in
theorem ubX8_way_79 {G : xG} {v : Nat → Nat} {sh : Nat → Option Sh} {B : Nat × Nat} {c0 : List va_E} {d : Nat} {Post : xP} {l4 l5 l6 : Int} {S : St} {cs : List va_E} {K : Int → St → Prop} (hd : 5 ≤ d) (hT : sb shC sh) (hS : ∀ b x, sh b = some x → ¬ isS b) (hU : sb shW sh) (hW : Wv G v sh B c0 S cs) (hP : ∀ (x : Int) (S : St) (cs : List va_E), K x S → Wv G v sh B c0 S cs → Post (none) cs)  (hw : wX8_way_79 l4 l5 l6 S K ) : Z (RX8, cX8_way, 8, none, false) G d Post 79 [(0, .ref (G.1 + v 210)), (4, .int (Int32.ofInt (l4))), (5, .int (Int32.ofInt (l5))), (6, .int (Int32.ofInt (l6)))] [] cs := by
  unfold wX8_way_79 at hw
  refine z_iconst (v := Int32.ofInt 0) dX8_way_79 rfl ?_
  refine z_istore dX8_way_80 (by decide) ?_
  refine z_loc (L' := [(0, .ref (G.1 + v 210)), (4, .int (Int32.ofInt (l4))), (5, .int (Int32.ofInt (l5))), (6, .int (Int32.ofInt (l6))), (7, .int (Int32.ofInt (0)))]) (List.forall_mem_cons.mpr ⟨rfl, (List.forall_mem_cons.mpr ⟨rfl, (List.forall_mem_cons.mpr ⟨rfl, (List.forall_mem_cons.mpr ⟨rfl, (List.forall_mem_cons.mpr ⟨rfl, (fun _ h => nomatch h)⟩)⟩)⟩)⟩)⟩) ?_
  refine z_loc (L' := [(0, .ref (G.1 + v 210)), (4, .int (Int32.ofInt (l4))), (5, .int (Int32.ofInt (l5))), (6, .int (Int32.ofInt (l6))), (7, .int (Int32.ofInt (0)))]) (List.forall_mem_cons.mpr ⟨rfl, (List.forall_mem_cons.mpr ⟨rfl, (List.forall_mem_cons.mpr ⟨rfl, (List.forall_mem_cons.mpr ⟨rfl, (List.forall_mem_cons.mpr ⟨rfl, (fun _ h => nomatch h)⟩)⟩)⟩)⟩)⟩) ?_
  exact ubX8_way_82 hd hT hS hU hW hP  hw
def wX8_way_32'  (l4 l5 l6 : Int) (S : St) (K : Int → St → Prop) (B32 : Int → Int → Int → St → Prop) : Prop := (rng (l6) ∧ (rng (l4) ∧ ((l4 ≤ l6 → wX8_way_79 (l4) (l5) (l6) S K) ∧ ((¬ (l4 ≤ l6)) → (rng (l5) ∧ ((l5 ≤ l6 → wX8_way_79 (l4) (l5) (l6) S K) ∧ ((¬ (l5 ≤ l6)) → ((0 : Int) ≤ ((l4 - 1) - l6) ∧ ((l4 - 1) - l6) < (62 : Int) ∧ (iv (-2147483648) 2147483647 (S.2 215 (((l4 - 1) - l6))) → ((0 : Int) ≤ ((l5 - 1) - l6) ∧ ((l5 - 1) - l6) < (62 : Int) ∧ (iv (-2147483648) 2147483647 (S.2 216 (((l5 - 1) - l6))) → ((¬ S.2 215 (((l4 - 1) - l6)) = S.2 216 (((l5 - 1) - l6)) → wX8_way_79 (l4) (l5) (l6) S K) ∧ ((¬ (¬ S.2 215 (((l4 - 1) - l6)) = S.2 216 (((l5 - 1) - l6)))) → B32 (l4) (l5) ((l6 + 1)) S)))))))))))))
set_option maxRecDepth 100000 in
set_option maxHeartbeats 4000000 in
theorem ubX8_way_32' {G : xG} {v : Nat → Nat} {sh : Nat → Option Sh} {B : Nat × Nat} {c0 : List va_E} {d : Nat} {Post : xP} {l4 l5 l6 : Int} {S : St} {cs : List va_E} {K : Int → St → Prop} {B32 : Int → Int → Int → St → Prop} (hd : 5 ≤ d) (hT : sb shC sh) (hS : ∀ b x, sh b = some x → ¬ isS b) (hU : sb shW sh) (hW : Wv G v sh B c0 S cs) (hP : ∀ (x : Int) (S : St) (cs : List va_E), K x S → Wv G v sh B c0 S cs → Post (none) cs) (hB32 : ∀ (l4 : Int) (l5 : Int) (l6 : Int) (S : St) (cs : List va_E), B32 l4 l5 l6 S → Wv G v sh B c0 S cs → Z (RX8, cX8_way, 8, none, false) G d Post 32 [(0, .ref (G.1 + v 210)), (4, .int (Int32.ofInt (l4))), (5, .int (Int32.ofInt (l5))), (6, .int (Int32.ofInt (l6)))] [] cs) (hw : wX8_way_32' l4 l5 l6 S K B32) : Z (RX8, cX8_way, 8, none, false) G d Post 32 [(0, .ref (G.1 + v 210)), (4, .int (Int32.ofInt (l4))), (5, .int (Int32.ofInt (l5))), (6, .int (Int32.ofInt (l6)))] [] cs := by
  unfold wX8_way_32' at hw
  refine z_iload dX8_way_32 rfl ?_
  refine z_iload dX8_way_34 rfl ?_
  obtain ⟨q2, hw⟩ := hw
  obtain ⟨q3, hw⟩ := hw
  refine i_icmp_ge (tgt := 79) dX8_way_36 (by decide) q2 q3 (fun h1 => ?_) (fun h1 => ?_)
  · have hw := hw.1 h1
    refine z_loc (L' := [(0, .ref (G.1 + v 210)), (4, .int (Int32.ofInt (l4))), (5, .int (Int32.ofInt (l5))), (6, .int (Int32.ofInt (l6)))]) (List.forall_mem_cons.mpr ⟨rfl, (List.forall_mem_cons.mpr ⟨rfl, (List.forall_mem_cons.mpr ⟨rfl, (List.forall_mem_cons.mpr ⟨rfl, (fun _ h => nomatch h)⟩)⟩)⟩)⟩) ?_
    exact ubX8_way_79 hd hT hS hU hW hP  hw
  · have hw := hw.2 h1
    refine z_iload dX8_way_39 rfl ?_
    refine z_iload dX8_way_41 rfl ?_
    obtain ⟨q5, hw⟩ := hw
    refine i_icmp_ge (tgt := 79) dX8_way_43 (by decide) q2 q5 (fun h4 => ?_) (fun h4 => ?_)
    · have hw := hw.1 h4
      refine z_loc (L' := [(0, .ref (G.1 + v 210)), (4, .int (Int32.ofInt (l4))), (5, .int (Int32.ofInt (l5))), (6, .int (Int32.ofInt (l6)))]) (List.forall_mem_cons.mpr ⟨rfl, (List.forall_mem_cons.mpr ⟨rfl, (List.forall_mem_cons.mpr ⟨rfl, (List.forall_mem_cons.mpr ⟨rfl, (fun _ h => nomatch h)⟩)⟩)⟩)⟩) ?_
      exact ubX8_way_79 hd hT hS hU hW hP  hw
    · have hw := hw.2 h4
      refine z_aload_n dX8_way_46 rfl rfl ?_
      refine v_getR hW (hU 210 _ rfl) rfl kX8 fX8_24 dX8_way_47 ?_
      refine z_iload dX8_way_50 rfl ?_
      refine z_iconst (v := Int32.ofInt 1) dX8_way_52 rfl ?_
      refine i_isub dX8_way_53 ?_
      refine z_iload dX8_way_54 rfl ?_
      refine i_isub dX8_way_56 ?_
      obtain ⟨q6a, q6b, hw⟩ := hw
      have q7 : iv (-2147483648) 2147483647 (S.2 215 (((l4 - 1) - l6))) := hW.iA 215 _
      have hw := hw q7
      refine v_iald hW (hU 215 _ rfl) q6a q6b (by decide) dX8_way_57 ?_
      refine z_aload_n dX8_way_58 rfl rfl ?_
      refine v_getR hW (hU 210 _ rfl) rfl kX8 fX8_27 dX8_way_59 ?_
      refine z_iload dX8_way_62 rfl ?_
      refine z_iconst (v := Int32.ofInt 1) dX8_way_64 rfl ?_
      refine i_isub dX8_way_65 ?_
      refine z_iload dX8_way_66 rfl ?_
      refine i_isub dX8_way_68 ?_
      obtain ⟨q8a, q8b, hw⟩ := hw
      have q9 : iv (-2147483648) 2147483647 (S.2 216 (((l5 - 1) - l6))) := hW.iA 216 _
      have hw := hw q9
      refine v_iald hW (hU 216 _ rfl) q8a q8b (by decide) dX8_way_69 ?_
      refine i_icmp_ne (tgt := 79) dX8_way_70 (by decide) (rngq q7 (by decide) (by decide)) (rngq q9 (by decide) (by decide)) (fun h10 => ?_) (fun h10 => ?_)
      · have hw := hw.1 h10
        refine z_loc (L' := [(0, .ref (G.1 + v 210)), (4, .int (Int32.ofInt (l4))), (5, .int (Int32.ofInt (l5))), (6, .int (Int32.ofInt (l6)))]) (List.forall_mem_cons.mpr ⟨rfl, (List.forall_mem_cons.mpr ⟨rfl, (List.forall_mem_cons.mpr ⟨rfl, (List.forall_mem_cons.mpr ⟨rfl, (fun _ h => nomatch h)⟩)⟩)⟩)⟩) ?_
        exact ubX8_way_79 hd hT hS hU hW hP  hw
      · have hw := hw.2 h10
        refine i_iinc (l := l6) dX8_way_73 rfl (by decide) ?_
        refine z_loc (L' := [(0, .ref (G.1 + v 210)), (4, .int (Int32.ofInt (l4))), (5, .int (Int32.ofInt (l5))), (6, .int (Int32.ofInt ((l6 + 1))))]) (List.forall_mem_cons.mpr ⟨rfl, (List.forall_mem_cons.mpr ⟨rfl, (List.forall_mem_cons.mpr ⟨rfl, (List.forall_mem_cons.mpr ⟨rfl, (fun _ h => nomatch h)⟩)⟩)⟩)⟩) ?_
        refine z_goto (tgt := 32) dX8_way_76 (by decide) ?_
        refine z_loc (L' := [(0, .ref (G.1 + v 210)), (4, .int (Int32.ofInt (l4))), (5, .int (Int32.ofInt (l5))), (6, .int (Int32.ofInt ((l6 + 1))))]) (List.forall_mem_cons.mpr ⟨rfl, (List.forall_mem_cons.mpr ⟨rfl, (List.forall_mem_cons.mpr ⟨rfl, (List.forall_mem_cons.mpr ⟨rfl, (fun _ h => nomatch h)⟩)⟩)⟩)⟩) ?_
        exact hB32 _ _ _ _ _ hw hW
def wX8_way_32  (l4 l5 l6 : Int) (S : St) (K : Int → St → Prop) : Prop := ∃ (Iv : Int → Int → Int → St → Prop) (mu : Int → Int → Int → St → Nat), Iv l4 l5 l6 S ∧ ∀ (l4 l5 l6 : Int) (S : St), Iv l4 l5 l6 S → wX8_way_32' l4 l5 l6 S K  (fun ml4 ml5 ml6 T => Iv ml4 ml5 ml6 T ∧ mu ml4 ml5 ml6 T < mu l4 l5 l6 S)
set_option maxRecDepth 100000 in
set_option maxHeartbeats 4000000 in
theorem ubX8_way_32 {G : xG} {v : Nat → Nat} {sh : Nat → Option Sh} {B : Nat × Nat} {c0 : List va_E} {d : Nat} {Post : xP} {l4 l5 l6 : Int} {S : St} {cs : List va_E} {K : Int → St → Prop} (hd : 5 ≤ d) (hT : sb shC sh) (hS : ∀ b x, sh b = some x → ¬ isS b) (hU : sb shW sh) (hW : Wv G v sh B c0 S cs) (hP : ∀ (x : Int) (S : St) (cs : List va_E), K x S → Wv G v sh B c0 S cs → Post (none) cs)  (hw : wX8_way_32 l4 l5 l6 S K ) : Z (RX8, cX8_way, 8, none, false) G d Post 32 [(0, .ref (G.1 + v 210)), (4, .int (Int32.ofInt (l4))), (5, .int (Int32.ofInt (l5))), (6, .int (Int32.ofInt (l6)))] [] cs := by
  unfold wX8_way_32 at hw
  obtain ⟨Iv, mu, h0, hs⟩ := hw
  have key : ∀ (n : Nat) (l4 l5 l6 : Int) (S : St) (cs : List va_E), mu l4 l5 l6 S < n → Iv l4 l5 l6 S → Wv G v sh B c0 S cs → Z (RX8, cX8_way, 8, none, false) G d Post 32 [(0, .ref (G.1 + v 210)), (4, .int (Int32.ofInt (l4))), (5, .int (Int32.ofInt (l5))), (6, .int (Int32.ofInt (l6)))] [] cs := by
    intro n
    induction n with
    | zero => intro l4 l5 l6 S cs hn; exact absurd hn (Nat.not_lt_zero _)
    | succ n ih =>
      intro l4 l5 l6 S cs hn hI hW
      exact ubX8_way_32' hd hT hS hU hW hP  (fun l4 l5 l6 S cs hb hW => ih l4 l5 l6 S cs (Nat.lt_of_lt_of_le hb.2 (Nat.le_of_lt_succ hn)) hb.1 hW) (hs l4 l5 l6 S hI)
  exact key _ _ _ _ _ _ (Nat.lt_succ_self _) h0 hW
def wX8_way  (a1 a2 a3 : Int) (S : St) (K : Int → St → Prop) : Prop := rng a1 → rng a2 → rng a3 → (wX8_ancestryOfItself (a2) (a3) S (fun r2 S1 => (rng (r2) ∧ (wX8_ancestry_b (r2) (a2) S1 (fun r4 S3 => (wX8_ancestry (0) (a1) S3 (fun r7 S6 => wX8_way_32 (r4) (r7) (0) S6 K)))))))
set_option maxRecDepth 100000 in
set_option maxHeartbeats 4000000 in
theorem lX8_way {G : xG} {v : Nat → Nat} {sh : Nat → Option Sh} {B : Nat × Nat} {c0 : List va_E}  {a1 a2 a3 : Int} {S : St} {cs : List va_E} {K : Int → St → Prop} (d : Nat) (hd : 5 ≤ d) (hT : sb shC sh) (hS : ∀ b x, sh b = some x → ¬ isS b) (hU : sb shW sh) (hW : Wv G v sh B c0 S cs) (g1 : rng a1) (g2 : rng a2) (g3 : rng a3) (hw : wX8_way a1 a2 a3 S K) : X G yX8_way cX8_way 8 none d [.ref (G.1 + v 210), .int (Int32.ofInt a1), .int (Int32.ofInt a2), .int (Int32.ofInt a3)] cs (vV G v sh B c0 K) := by
  refine X.of false (by decide +kernel) (by decide) (Nat.le_of_ble_eq_true rfl) ?_
  show Z (RX8, cX8_way, 8, none, false) G d _ 0 [(0, .ref (G.1 + v 210)), (1, .int (Int32.ofInt a1)), (2, .int (Int32.ofInt a2)), (3, .int (Int32.ofInt a3))] [] cs
  have hP : ∀ (x : Int) (S : St) (cs : List va_E), K x S → Wv G v sh B c0 S cs → vV G v sh B c0 K (none) cs := fun x S cs a b => ⟨x, S, rfl, a, b⟩
  unfold wX8_way at hw
  have hw := hw g1 g2 g3
  refine z_aload_n dX8_way_0 rfl rfl ?_
  refine z_aload_n dX8_way_1 rfl rfl ?_
  refine v_getR hW (hU 210 _ rfl) rfl kX8 fX8_24 dX8_way_2 ?_
  refine z_aload_n dX8_way_5 rfl rfl ?_
  refine z_iload_n dX8_way_6 rfl rfl ?_
  refine z_iload_n dX8_way_7 rfl rfl ?_
  have hX := lX8_ancestryOfItself 3 (Nat.le_refl _) hT hS hU hW g2 g3 hw
  refine z_callV (As := [_, _]) eX8_ancestryOfItself sX8_ancestryOfItself lX8_198 rfl dX8_way_8 (hW.at (hU 210 _ rfl)) hX (Nat.le_trans (by decide) hd) rfl (Nat.le_of_ble_eq_true rfl) (fun r cs hp => ?_)
  obtain ⟨r2, S1, rfl, hw, hW⟩ := hp
  refine z_st (st' := [.int (Int32.ofInt (r2)), .ref (G.1 + v 215), .ref (G.1 + v 210)]) rfl ?_
  refine z_iload_n dX8_way_11 rfl rfl ?_
  obtain ⟨q5, hw⟩ := hw
  have hX := lX8_ancestry_b 3 (Nat.le_refl _) hT hS hU hW q5 g2 hw
  refine z_callV (As := [_, _, _]) eX8_ancestry sX8_ancestry lX8_191 rfl dX8_way_12 (hW.at (hU 210 _ rfl)) hX (Nat.le_trans (by decide) hd) rfl (Nat.le_of_ble_eq_true rfl) (fun r cs hp => ?_)
  obtain ⟨r4, S3, rfl, hw, hW⟩ := hp
  refine z_st (st' := [.int (Int32.ofInt (r4))]) rfl ?_
  refine z_istore dX8_way_15 (by decide) ?_
  refine z_loc (L' := [(0, .ref (G.1 + v 210)), (1, .int (Int32.ofInt (a1))), (2, .int (Int32.ofInt (a2))), (3, .int (Int32.ofInt (a3))), (4, .int (Int32.ofInt (r4)))]) (List.forall_mem_cons.mpr ⟨rfl, (List.forall_mem_cons.mpr ⟨rfl, (List.forall_mem_cons.mpr ⟨rfl, (List.forall_mem_cons.mpr ⟨rfl, (List.forall_mem_cons.mpr ⟨rfl, (fun _ h => nomatch h)⟩)⟩)⟩)⟩)⟩) ?_
  refine z_aload_n dX8_way_17 rfl rfl ?_
  refine z_aload_n dX8_way_18 rfl rfl ?_
  refine v_getR hW (hU 210 _ rfl) rfl kX8 fX8_27 dX8_way_19 ?_
  refine z_iconst (v := Int32.ofInt 0) dX8_way_22 rfl ?_
  refine z_iload_n dX8_way_23 rfl rfl ?_
  have hX := lX8_ancestry 3 (Nat.le_refl _) hT hS hU hW ⟨by decide, by decide⟩ g1 hw
  refine z_callV (As := [_, _, _]) eX8_ancestry sX8_ancestry lX8_191 rfl dX8_way_24 (hW.at (hU 210 _ rfl)) hX (Nat.le_trans (by decide) hd) rfl (Nat.le_of_ble_eq_true rfl) (fun r cs hp => ?_)
  obtain ⟨r7, S6, rfl, hw, hW⟩ := hp
  refine z_st (st' := [.int (Int32.ofInt (r7))]) rfl ?_
  refine z_istore dX8_way_27 (by decide) ?_
  refine z_loc (L' := [(0, .ref (G.1 + v 210)), (1, .int (Int32.ofInt (a1))), (2, .int (Int32.ofInt (a2))), (3, .int (Int32.ofInt (a3))), (4, .int (Int32.ofInt (r4))), (5, .int (Int32.ofInt (r7)))]) (List.forall_mem_cons.mpr ⟨rfl, (List.forall_mem_cons.mpr ⟨rfl, (List.forall_mem_cons.mpr ⟨rfl, (List.forall_mem_cons.mpr ⟨rfl, (List.forall_mem_cons.mpr ⟨rfl, (List.forall_mem_cons.mpr ⟨rfl, (fun _ h => nomatch h)⟩)⟩)⟩)⟩)⟩)⟩) ?_
  refine z_iconst (v := Int32.ofInt 0) dX8_way_29 rfl ?_
  refine z_istore dX8_way_30 (by decide) ?_
  refine z_loc (L' := [(0, .ref (G.1 + v 210)), (1, .int (Int32.ofInt (a1))), (2, .int (Int32.ofInt (a2))), (3, .int (Int32.ofInt (a3))), (4, .int (Int32.ofInt (r4))), (5, .int (Int32.ofInt (r7))), (6, .int (Int32.ofInt (0)))]) (List.forall_mem_cons.mpr ⟨rfl, (List.forall_mem_cons.mpr ⟨rfl, (List.forall_mem_cons.mpr ⟨rfl, (List.forall_mem_cons.mpr ⟨rfl, (List.forall_mem_cons.mpr ⟨rfl, (List.forall_mem_cons.mpr ⟨rfl, (List.forall_mem_cons.mpr ⟨rfl, (fun _ h => nomatch h)⟩)⟩)⟩)⟩)⟩)⟩)⟩) ?_
  refine z_loc (L' := [(0, .ref (G.1 + v 210)), (4, .int (Int32.ofInt (r4))), (5, .int (Int32.ofInt (r7))), (6, .int (Int32.ofInt (0)))]) (List.forall_mem_cons.mpr ⟨rfl, (List.forall_mem_cons.mpr ⟨rfl, (List.forall_mem_cons.mpr ⟨rfl, (List.forall_mem_cons.mpr ⟨rfl, (fun _ h => nomatch h)⟩)⟩)⟩)⟩) ?_
  exact ubX8_way_32 hd hT hS hU hW hP  hw

