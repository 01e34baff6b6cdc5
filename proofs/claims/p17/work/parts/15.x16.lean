def wX9_comes_f_2'  (l2 : Int) (S : St) (K : Int → St → Prop) (B2 : Int → St → Prop) : Prop := (rng (l2) ∧ ((6 ≤ l2 → K (1) S) ∧ ((¬ (6 ≤ l2)) → (iv (-2147483648) 2147483647 (S.1 220 3) → (rng ((S.1 220 3 + l2)) ∧ (wX5_at 1 ((S.1 220 3 + l2)) S (fun r5 S4 => ((0 : Int) ≤ l2 ∧ l2 < (6 : Int) ∧ (rng (r5) ∧ ((r5 = (sch 18 (l2)) → B2 ((l2 + 1)) S4) ∧ ((¬ (r5 = (sch 18 (l2)))) → K (0) S4)))))))))))
set_option maxRecDepth 100000 in
set_option maxHeartbeats 4000000 in
theorem ubX9_comes_f_2' {G : xG} {v : Nat → Nat} {sh : Nat → Option Sh} {B : Nat × Nat} {c0 : List va_E} {d : Nat} {Post : xP} {l2 : Int} {S : St} {cs : List va_E} {K : Int → St → Prop} {B2 : Int → St → Prop} (hd : 4 ≤ d) (hT : sb shC sh) (hS : ∀ b x, sh b = some x → ¬ isS b) (hU : sb shXT sh) (hW : Wv G v sh B c0 S cs) (hP : ∀ (x : Int) (S : St) (cs : List va_E), K x S → Wv G v sh B c0 S cs → Post (some (.int (Int32.ofInt x))) cs) (hB2 : ∀ (l2 : Int) (S : St) (cs : List va_E), B2 l2 S → Wv G v sh B c0 S cs → Z (RX9, cX9_comes, 3, some .boolean, false) G d Post 2 [(0, .ref (G.1 + v 220)), (1, .ref (G.2.2.2.1 18)), (2, .int (Int32.ofInt (l2)))] [] cs) (hw : wX9_comes_f_2' l2 S K B2) : Z (RX9, cX9_comes, 3, some .boolean, false) G d Post 2 [(0, .ref (G.1 + v 220)), (1, .ref (G.2.2.2.1 18)), (2, .int (Int32.ofInt (l2)))] [] cs := by
  unfold wX9_comes_f_2' at hw
  refine z_iload_n dX9_comes_2 rfl rfl ?_
  refine z_aload_n dX9_comes_3 rfl rfl ?_
  refine z_callVS (As := []) (show 18 < xN by decide) eJ0_length_8abf5 sJ0_length_8abf5 lX9_162 rfl dX9_comes_4 (c_length 1 (Nat.le_refl _) (show 18 < xN by decide)) (Nat.le_trans (by decide) hd) rfl (Nat.le_of_ble_eq_true rfl) (fun r cs1 hp => ?_)
  obtain ⟨rfl, rfl⟩ := hp
  refine z_st (st' := [.int (Int32.ofInt (6)), .int (Int32.ofInt (l2))]) rfl ?_
  obtain ⟨q2, hw⟩ := hw
  refine i_icmp_ge (tgt := 39) dX9_comes_7 (by decide) q2 ⟨by decide, by decide⟩ (fun h1 => ?_) (fun h1 => ?_)
  · have hw := hw.1 h1
    refine z_iconst (v := Int32.ofInt 1) dX9_comes_39 rfl ?_
    exact z_ireturn dX9_comes_40 rfl (nar01 (by decide)) (hP _ _ _ hw hW)
  · have hw := hw.2 h1
    refine z_aload_n dX9_comes_10 rfl rfl ?_
    refine v_getR hW (hU 220 _ rfl) rfl kX9 fX9_24 dX9_comes_11 ?_
    refine z_aload_n dX9_comes_14 rfl rfl ?_
    have q3 : iv (-2147483648) 2147483647 (S.1 220 3) := hW.iI 220 3
    have hw := hw q3
    refine v_getI hW (hU 220 _ rfl) rfl kX9 fX9_9 dX9_comes_15 ?_
    refine z_iload_n dX9_comes_18 rfl rfl ?_
    refine i_iadd dX9_comes_19 ?_
    obtain ⟨q6, hw⟩ := hw
    have hX := lX5_at 0 (Nat.le_refl _) hW (show isS 1 by unfold isS; decide) (fun b x h e => hS b x h (e ▸ (show isS 1 by unfold isS; decide))) q6 hw
    refine z_callV (As := [_]) eX5_at sX5_at lX9_47 rfl dX9_comes_20 (hW.sg (show isS 1 by unfold isS; decide) (fun b x h e => hS b x h (e ▸ (show isS 1 by unfold isS; decide)))).choose_spec.choose_spec.choose_spec.choose_spec.1.choose_spec.1 hX (Nat.le_trans (by decide) hd) rfl (Nat.le_of_ble_eq_true rfl) (fun r cs hp => ?_)
    obtain ⟨r5, S4, rfl, hw, hW⟩ := hp
    refine z_st (st' := [.int (Int32.ofInt (r5))]) rfl ?_
    refine z_aload_n dX9_comes_23 rfl rfl ?_
    refine z_iload_n dX9_comes_24 rfl rfl ?_
    obtain ⟨q7a, q7b, hw⟩ := hw
    refine z_callVS (As := [_]) (show 18 < xN by decide) eJ0_charAt_5068e sJ0_charAt_5068e lX9_165 rfl dX9_comes_25 (c_charAt 3 (Nat.le_refl _) (show 18 < xN by decide) (oI_in (n := 6) q7a q7b (by decide))) (Nat.le_trans (by decide) hd) rfl (Nat.le_of_ble_eq_true rfl) (fun r cs1 hp => ?_)
    obtain ⟨rfl, rfl⟩ := hp
    refine z_st (st' := [.int (Int32.ofInt ((sch 18 (l2)))), .int (Int32.ofInt (r5))]) (by unfold sch; rw [Int32.ofInt_toInt]; rfl) ?_
    obtain ⟨q9, hw⟩ := hw
    refine i_icmp_eq (tgt := 33) dX9_comes_28 (by decide) q9 (rng_of _) (fun h8 => ?_) (fun h8 => ?_)
    · have hw := hw.1 h8
      refine i_iinc (l := l2) dX9_comes_33 rfl (by decide) ?_
      refine z_loc (L' := [(0, .ref (G.1 + v 220)), (1, .ref (G.2.2.2.1 18)), (2, .int (Int32.ofInt ((l2 + 1))))]) (List.forall_mem_cons.mpr ⟨rfl, (List.forall_mem_cons.mpr ⟨rfl, (List.forall_mem_cons.mpr ⟨rfl, (fun _ h => nomatch h)⟩)⟩)⟩) ?_
      refine z_goto (tgt := 2) dX9_comes_36 (by decide) ?_
      refine z_loc (L' := [(0, .ref (G.1 + v 220)), (1, .ref (G.2.2.2.1 18)), (2, .int (Int32.ofInt ((l2 + 1))))]) (List.forall_mem_cons.mpr ⟨rfl, (List.forall_mem_cons.mpr ⟨rfl, (List.forall_mem_cons.mpr ⟨rfl, (fun _ h => nomatch h)⟩)⟩)⟩) ?_
      exact hB2 _ _ _ hw hW
    · have hw := hw.2 h8
      refine z_iconst (v := Int32.ofInt 0) dX9_comes_31 rfl ?_
      exact z_ireturn dX9_comes_32 rfl (nar01 (by decide)) (hP _ _ _ hw hW)
def wX9_comes_f_2  (l2 : Int) (S : St) (K : Int → St → Prop) : Prop := ∃ (Iv : Int → St → Prop) (mu : Int → St → Nat), Iv l2 S ∧ ∀ (l2 : Int) (S : St), Iv l2 S → wX9_comes_f_2' l2 S K  (fun ml2 T => Iv ml2 T ∧ mu ml2 T < mu l2 S)
set_option maxRecDepth 100000 in
set_option maxHeartbeats 4000000 in
theorem ubX9_comes_f_2 {G : xG} {v : Nat → Nat} {sh : Nat → Option Sh} {B : Nat × Nat} {c0 : List va_E} {d : Nat} {Post : xP} {l2 : Int} {S : St} {cs : List va_E} {K : Int → St → Prop} (hd : 4 ≤ d) (hT : sb shC sh) (hS : ∀ b x, sh b = some x → ¬ isS b) (hU : sb shXT sh) (hW : Wv G v sh B c0 S cs) (hP : ∀ (x : Int) (S : St) (cs : List va_E), K x S → Wv G v sh B c0 S cs → Post (some (.int (Int32.ofInt x))) cs)  (hw : wX9_comes_f_2 l2 S K ) : Z (RX9, cX9_comes, 3, some .boolean, false) G d Post 2 [(0, .ref (G.1 + v 220)), (1, .ref (G.2.2.2.1 18)), (2, .int (Int32.ofInt (l2)))] [] cs := by
  unfold wX9_comes_f_2 at hw
  obtain ⟨Iv, mu, h0, hs⟩ := hw
  have key : ∀ (n : Nat) (l2 : Int) (S : St) (cs : List va_E), mu l2 S < n → Iv l2 S → Wv G v sh B c0 S cs → Z (RX9, cX9_comes, 3, some .boolean, false) G d Post 2 [(0, .ref (G.1 + v 220)), (1, .ref (G.2.2.2.1 18)), (2, .int (Int32.ofInt (l2)))] [] cs := by
    intro n
    induction n with
    | zero => intro l2 S cs hn; exact absurd hn (Nat.not_lt_zero _)
    | succ n ih =>
      intro l2 S cs hn hI hW
      exact ubX9_comes_f_2' hd hT hS hU hW hP  (fun l2 S cs hb hW => ih l2 S cs (Nat.lt_of_lt_of_le hb.2 (Nat.le_of_lt_succ hn)) hb.1 hW) (hs l2 S hI)
  exact key _ _ _ _ (Nat.lt_succ_self _) h0 hW
def wX9_comes_f  (S : St) (K : Int → St → Prop) : Prop := wX9_comes_f_2 (0) S K
set_option maxRecDepth 100000 in
set_option maxHeartbeats 4000000 in
theorem lX9_comes_f {G : xG} {v : Nat → Nat} {sh : Nat → Option Sh} {B : Nat × Nat} {c0 : List va_E}  {S : St} {cs : List va_E} {K : Int → St → Prop} (d : Nat) (hd : 4 ≤ d) (hT : sb shC sh) (hS : ∀ b x, sh b = some x → ¬ isS b) (hU : sb shXT sh) (hW : Wv G v sh B c0 S cs)  (hw : wX9_comes_f  S K) : X G yX9_comes cX9_comes 3 (some .boolean) d [.ref (G.1 + v 220), .ref (G.2.2.2.1 18)] cs (vI G v sh B c0 K) := by
  refine X.of false (by decide +kernel) (by decide) (Nat.le_of_ble_eq_true rfl) ?_
  show Z (RX9, cX9_comes, 3, some .boolean, false) G d _ 0 [(0, .ref (G.1 + v 220)), (1, .ref (G.2.2.2.1 18))] [] cs
  have hP : ∀ (x : Int) (S : St) (cs : List va_E), K x S → Wv G v sh B c0 S cs → vI G v sh B c0 K (some (.int (Int32.ofInt x))) cs := fun x S cs a b => ⟨x, S, rfl, a, b⟩
  unfold wX9_comes_f at hw
  refine z_iconst (v := Int32.ofInt 0) dX9_comes_0 rfl ?_
  refine z_istore_n dX9_comes_1 rfl (by decide) ?_
  refine z_loc (L' := [(0, .ref (G.1 + v 220)), (1, .ref (G.2.2.2.1 18)), (2, .int (Int32.ofInt (0)))]) (List.forall_mem_cons.mpr ⟨rfl, (List.forall_mem_cons.mpr ⟨rfl, (List.forall_mem_cons.mpr ⟨rfl, (fun _ h => nomatch h)⟩)⟩)⟩) ?_
  refine z_loc (L' := [(0, .ref (G.1 + v 220)), (1, .ref (G.2.2.2.1 18)), (2, .int (Int32.ofInt (0)))]) (List.forall_mem_cons.mpr ⟨rfl, (List.forall_mem_cons.mpr ⟨rfl, (List.forall_mem_cons.mpr ⟨rfl, (fun _ h => nomatch h)⟩)⟩)⟩) ?_
  exact ubX9_comes_f_2 hd hT hS hU hW hP  hw

def wX9_comes_g_2'  (l2 : Int) (S : St) (K : Int → St → Prop) (B2 : Int → St → Prop) : Prop := (rng (l2) ∧ ((6 ≤ l2 → K (1) S) ∧ ((¬ (6 ≤ l2)) → (iv (-2147483648) 2147483647 (S.1 220 3) → (rng ((S.1 220 3 + l2)) ∧ (wX5_at 1 ((S.1 220 3 + l2)) S (fun r5 S4 => ((0 : Int) ≤ l2 ∧ l2 < (6 : Int) ∧ (rng (r5) ∧ ((r5 = (sch 19 (l2)) → B2 ((l2 + 1)) S4) ∧ ((¬ (r5 = (sch 19 (l2)))) → K (0) S4)))))))))))
set_option maxRecDepth 100000 in
set_option maxHeartbeats 4000000 in
theorem ubX9_comes_g_2' {G : xG} {v : Nat → Nat} {sh : Nat → Option Sh} {B : Nat × Nat} {c0 : List va_E} {d : Nat} {Post : xP} {l2 : Int} {S : St} {cs : List va_E} {K : Int → St → Prop} {B2 : Int → St → Prop} (hd : 4 ≤ d) (hT : sb shC sh) (hS : ∀ b x, sh b = some x → ¬ isS b) (hU : sb shXT sh) (hW : Wv G v sh B c0 S cs) (hP : ∀ (x : Int) (S : St) (cs : List va_E), K x S → Wv G v sh B c0 S cs → Post (some (.int (Int32.ofInt x))) cs) (hB2 : ∀ (l2 : Int) (S : St) (cs : List va_E), B2 l2 S → Wv G v sh B c0 S cs → Z (RX9, cX9_comes, 3, some .boolean, false) G d Post 2 [(0, .ref (G.1 + v 220)), (1, .ref (G.2.2.2.1 19)), (2, .int (Int32.ofInt (l2)))] [] cs) (hw : wX9_comes_g_2' l2 S K B2) : Z (RX9, cX9_comes, 3, some .boolean, false) G d Post 2 [(0, .ref (G.1 + v 220)), (1, .ref (G.2.2.2.1 19)), (2, .int (Int32.ofInt (l2)))] [] cs := by
  unfold wX9_comes_g_2' at hw
  refine z_iload_n dX9_comes_2 rfl rfl ?_
  refine z_aload_n dX9_comes_3 rfl rfl ?_
  refine z_callVS (As := []) (show 19 < xN by decide) eJ0_length_8abf5 sJ0_length_8abf5 lX9_162 rfl dX9_comes_4 (c_length 1 (Nat.le_refl _) (show 19 < xN by decide)) (Nat.le_trans (by decide) hd) rfl (Nat.le_of_ble_eq_true rfl) (fun r cs1 hp => ?_)
  obtain ⟨rfl, rfl⟩ := hp
  refine z_st (st' := [.int (Int32.ofInt (6)), .int (Int32.ofInt (l2))]) rfl ?_
  obtain ⟨q2, hw⟩ := hw
  refine i_icmp_ge (tgt := 39) dX9_comes_7 (by decide) q2 ⟨by decide, by decide⟩ (fun h1 => ?_) (fun h1 => ?_)
  · have hw := hw.1 h1
    refine z_iconst (v := Int32.ofInt 1) dX9_comes_39 rfl ?_
    exact z_ireturn dX9_comes_40 rfl (nar01 (by decide)) (hP _ _ _ hw hW)
  · have hw := hw.2 h1
    refine z_aload_n dX9_comes_10 rfl rfl ?_
    refine v_getR hW (hU 220 _ rfl) rfl kX9 fX9_24 dX9_comes_11 ?_
    refine z_aload_n dX9_comes_14 rfl rfl ?_
    have q3 : iv (-2147483648) 2147483647 (S.1 220 3) := hW.iI 220 3
    have hw := hw q3
    refine v_getI hW (hU 220 _ rfl) rfl kX9 fX9_9 dX9_comes_15 ?_
    refine z_iload_n dX9_comes_18 rfl rfl ?_
    refine i_iadd dX9_comes_19 ?_
    obtain ⟨q6, hw⟩ := hw
    have hX := lX5_at 0 (Nat.le_refl _) hW (show isS 1 by unfold isS; decide) (fun b x h e => hS b x h (e ▸ (show isS 1 by unfold isS; decide))) q6 hw
    refine z_callV (As := [_]) eX5_at sX5_at lX9_47 rfl dX9_comes_20 (hW.sg (show isS 1 by unfold isS; decide) (fun b x h e => hS b x h (e ▸ (show isS 1 by unfold isS; decide)))).choose_spec.choose_spec.choose_spec.choose_spec.1.choose_spec.1 hX (Nat.le_trans (by decide) hd) rfl (Nat.le_of_ble_eq_true rfl) (fun r cs hp => ?_)
    obtain ⟨r5, S4, rfl, hw, hW⟩ := hp
    refine z_st (st' := [.int (Int32.ofInt (r5))]) rfl ?_
    refine z_aload_n dX9_comes_23 rfl rfl ?_
    refine z_iload_n dX9_comes_24 rfl rfl ?_
    obtain ⟨q7a, q7b, hw⟩ := hw
    refine z_callVS (As := [_]) (show 19 < xN by decide) eJ0_charAt_5068e sJ0_charAt_5068e lX9_165 rfl dX9_comes_25 (c_charAt 3 (Nat.le_refl _) (show 19 < xN by decide) (oI_in (n := 6) q7a q7b (by decide))) (Nat.le_trans (by decide) hd) rfl (Nat.le_of_ble_eq_true rfl) (fun r cs1 hp => ?_)
    obtain ⟨rfl, rfl⟩ := hp
    refine z_st (st' := [.int (Int32.ofInt ((sch 19 (l2)))), .int (Int32.ofInt (r5))]) (by unfold sch; rw [Int32.ofInt_toInt]; rfl) ?_
    obtain ⟨q9, hw⟩ := hw
    refine i_icmp_eq (tgt := 33) dX9_comes_28 (by decide) q9 (rng_of _) (fun h8 => ?_) (fun h8 => ?_)
    · have hw := hw.1 h8
      refine i_iinc (l := l2) dX9_comes_33 rfl (by decide) ?_
      refine z_loc (L' := [(0, .ref (G.1 + v 220)), (1, .ref (G.2.2.2.1 19)), (2, .int (Int32.ofInt ((l2 + 1))))]) (List.forall_mem_cons.mpr ⟨rfl, (List.forall_mem_cons.mpr ⟨rfl, (List.forall_mem_cons.mpr ⟨rfl, (fun _ h => nomatch h)⟩)⟩)⟩) ?_
      refine z_goto (tgt := 2) dX9_comes_36 (by decide) ?_
      refine z_loc (L' := [(0, .ref (G.1 + v 220)), (1, .ref (G.2.2.2.1 19)), (2, .int (Int32.ofInt ((l2 + 1))))]) (List.forall_mem_cons.mpr ⟨rfl, (List.forall_mem_cons.mpr ⟨rfl, (List.forall_mem_cons.mpr ⟨rfl, (fun _ h => nomatch h)⟩)⟩)⟩) ?_
      exact hB2 _ _ _ hw hW
    · have hw := hw.2 h8
      refine z_iconst (v := Int32.ofInt 0) dX9_comes_31 rfl ?_
      exact z_ireturn dX9_comes_32 rfl (nar01 (by decide)) (hP _ _ _ hw hW)
def wX9_comes_g_2  (l2 : Int) (S : St) (K : Int → St → Prop) : Prop := ∃ (Iv : Int → St → Prop) (mu : Int → St → Nat), Iv l2 S ∧ ∀ (l2 : Int) (S : St), Iv l2 S → wX9_comes_g_2' l2 S K  (fun ml2 T => Iv ml2 T ∧ mu ml2 T < mu l2 S)
set_option maxRecDepth 100000 in
set_option maxHeartbeats 4000000 in
theorem ubX9_comes_g_2 {G : xG} {v : Nat → Nat} {sh : Nat → Option Sh} {B : Nat × Nat} {c0 : List va_E} {d : Nat} {Post : xP} {l2 : Int} {S : St} {cs : List va_E} {K : Int → St → Prop} (hd : 4 ≤ d) (hT : sb shC sh) (hS : ∀ b x, sh b = some x → ¬ isS b) (hU : sb shXT sh) (hW : Wv G v sh B c0 S cs) (hP : ∀ (x : Int) (S : St) (cs : List va_E), K x S → Wv G v sh B c0 S cs → Post (some (.int (Int32.ofInt x))) cs)  (hw : wX9_comes_g_2 l2 S K ) : Z (RX9, cX9_comes, 3, some .boolean, false) G d Post 2 [(0, .ref (G.1 + v 220)), (1, .ref (G.2.2.2.1 19)), (2, .int (Int32.ofInt (l2)))] [] cs := by
  unfold wX9_comes_g_2 at hw
  obtain ⟨Iv, mu, h0, hs⟩ := hw
  have key : ∀ (n : Nat) (l2 : Int) (S : St) (cs : List va_E), mu l2 S < n → Iv l2 S → Wv G v sh B c0 S cs → Z (RX9, cX9_comes, 3, some .boolean, false) G d Post 2 [(0, .ref (G.1 + v 220)), (1, .ref (G.2.2.2.1 19)), (2, .int (Int32.ofInt (l2)))] [] cs := by
    intro n
    induction n with
    | zero => intro l2 S cs hn; exact absurd hn (Nat.not_lt_zero _)
    | succ n ih =>
      intro l2 S cs hn hI hW
      exact ubX9_comes_g_2' hd hT hS hU hW hP  (fun l2 S cs hb hW => ih l2 S cs (Nat.lt_of_lt_of_le hb.2 (Nat.le_of_lt_succ hn)) hb.1 hW) (hs l2 S hI)
  exact key _ _ _ _ (Nat.lt_succ_self _) h0 hW
def wX9_comes_g  (S : St) (K : Int → St → Prop) : Prop := wX9_comes_g_2 (0) S K
set_option maxRecDepth 100000 in
set_option maxHeartbeats 4000000 in
theorem lX9_comes_g {G : xG} {v : Nat → Nat} {sh : Nat → Option Sh} {B : Nat × Nat} {c0 : List va_E}  {S : St} {cs : List va_E} {K : Int → St → Prop} (d : Nat) (hd : 4 ≤ d) (hT : sb shC sh) (hS : ∀ b x, sh b = some x → ¬ isS b) (hU : sb shXT sh) (hW : Wv G v sh B c0 S cs)  (hw : wX9_comes_g  S K) : X G yX9_comes cX9_comes 3 (some .boolean) d [.ref (G.1 + v 220), .ref (G.2.2.2.1 19)] cs (vI G v sh B c0 K) := by
  refine X.of false (by decide +kernel) (by decide) (Nat.le_of_ble_eq_true rfl) ?_
  show Z (RX9, cX9_comes, 3, some .boolean, false) G d _ 0 [(0, .ref (G.1 + v 220)), (1, .ref (G.2.2.2.1 19))] [] cs
  have hP : ∀ (x : Int) (S : St) (cs : List va_E), K x S → Wv G v sh B c0 S cs → vI G v sh B c0 K (some (.int (Int32.ofInt x))) cs := fun x S cs a b => ⟨x, S, rfl, a, b⟩
  unfold wX9_comes_g at hw
  refine z_iconst (v := Int32.ofInt 0) dX9_comes_0 rfl ?_
  refine z_istore_n dX9_comes_1 rfl (by decide) ?_
  refine z_loc (L' := [(0, .ref (G.1 + v 220)), (1, .ref (G.2.2.2.1 19)), (2, .int (Int32.ofInt (0)))]) (List.forall_mem_cons.mpr ⟨rfl, (List.forall_mem_cons.mpr ⟨rfl, (List.forall_mem_cons.mpr ⟨rfl, (fun _ h => nomatch h)⟩)⟩)⟩) ?_
  refine z_loc (L' := [(0, .ref (G.1 + v 220)), (1, .ref (G.2.2.2.1 19)), (2, .int (Int32.ofInt (0)))]) (List.forall_mem_cons.mpr ⟨rfl, (List.forall_mem_cons.mpr ⟨rfl, (List.forall_mem_cons.mpr ⟨rfl, (fun _ h => nomatch h)⟩)⟩)⟩) ?_
  exact ubX9_comes_g_2 hd hT hS hU hW hP  hw

def wX9_named  (S : St) (K : Int → St → Prop) : Prop := (wX9_comes_c S (fun r2 S1 => (rng (r2) ∧ ((r2 = 0 → (wX9_comes_d S1 (fun r6 S5 => (rng (r6) ∧ ((r6 = 0 → (wX9_comes_e S5 (fun r10 S9 => (rng (r10) ∧ ((r10 = 0 → (wX9_comes_f S9 (fun r14 S13 => (rng (r14) ∧ ((r14 = 0 → (wX9_comes_g S13 (fun r18 S17 => (rng (r18) ∧ ((r18 = 0 → K ((-1)) S17) ∧ ((¬ (r18 = 0)) → (iv (-2147483648) 2147483647 (S17.1 220 3) → (iv (-2147483648) 2147483647 ((S17.1 220 3 + 6)) ∧ (∀ S22, S22 = pI S17 220 3 ((S17.1 220 3 + 6)) → K (39) S22))))))))) ∧ ((¬ (r14 = 0)) → (iv (-2147483648) 2147483647 (S13.1 220 3) → (iv (-2147483648) 2147483647 ((S13.1 220 3 + 6)) ∧ (∀ S25, S25 = pI S13 220 3 ((S13.1 220 3 + 6)) → K (34) S25))))))))) ∧ ((¬ (r10 = 0)) → (iv (-2147483648) 2147483647 (S9.1 220 3) → (iv (-2147483648) 2147483647 ((S9.1 220 3 + 4)) ∧ (∀ S28, S28 = pI S9 220 3 ((S9.1 220 3 + 4)) → K (62) S28))))))))) ∧ ((¬ (r6 = 0)) → (iv (-2147483648) 2147483647 (S5.1 220 3) → (iv (-2147483648) 2147483647 ((S5.1 220 3 + 4)) ∧ (∀ S31, S31 = pI S5 220 3 ((S5.1 220 3 + 4)) → K (60) S31))))))))) ∧ ((¬ (r2 = 0)) → (iv (-2147483648) 2147483647 (S1.1 220 3) → (iv (-2147483648) 2147483647 ((S1.1 220 3 + 5)) ∧ (∀ S34, S34 = pI S1 220 3 ((S1.1 220 3 + 5)) → K (38) S34))))))))
set_option maxRecDepth 100000 in
set_option maxHeartbeats 4000000 in
theorem lX9_named {G : xG} {v : Nat → Nat} {sh : Nat → Option Sh} {B : Nat × Nat} {c0 : List va_E}  {S : St} {cs : List va_E} {K : Int → St → Prop} (d : Nat) (hd : 5 ≤ d) (hT : sb shC sh) (hS : ∀ b x, sh b = some x → ¬ isS b) (hU : sb shXT sh) (hW : Wv G v sh B c0 S cs)  (hw : wX9_named  S K) : X G yX9_named cX9_named 1 (some .int) d [.ref (G.1 + v 220)] cs (vI G v sh B c0 K) := by
  refine X.of false (by decide +kernel) (by decide) (Nat.le_of_ble_eq_true rfl) ?_
  show Z (RX9, cX9_named, 1, some .int, false) G d _ 0 [(0, .ref (G.1 + v 220))] [] cs
  have hP : ∀ (x : Int) (S : St) (cs : List va_E), K x S → Wv G v sh B c0 S cs → vI G v sh B c0 K (some (.int (Int32.ofInt x))) cs := fun x S cs a b => ⟨x, S, rfl, a, b⟩
  unfold wX9_named at hw
  refine z_aload_n dX9_named_0 rfl rfl ?_
  refine z_ldcS (i := 15) (tx := "&amp;") (by decide +kernel) dX9_named_1 ?_
  have hX := lX9_comes_c 4 (Nat.le_refl _) hT hS hU hW  hw
  refine z_callV (As := [_]) eX9_comes sX9_comes lX9_64 rfl dX9_named_3 (hW.at (hU 220 _ rfl)) hX (Nat.le_trans (by decide) hd) rfl (Nat.le_of_ble_eq_true rfl) (fun r cs hp => ?_)
  obtain ⟨r2, S1, rfl, hw, hW⟩ := hp
  refine z_st (st' := [.int (Int32.ofInt (r2))]) rfl ?_
  obtain ⟨q4, hw⟩ := hw
  refine i_if_eq (tgt := 22) dX9_named_6 (by decide) q4 (fun h3 => ?_) (fun h3 => ?_)
  · have hw := hw.1 h3
    refine z_aload_n dX9_named_22 rfl rfl ?_
    refine z_ldcS (i := 16) (tx := "&lt;") (by decide +kernel) dX9_named_23 ?_
    have hX := lX9_comes_d 4 (Nat.le_refl _) hT hS hU hW  hw
    refine z_callV (As := [_]) eX9_comes sX9_comes lX9_64 rfl dX9_named_25 (hW.at (hU 220 _ rfl)) hX (Nat.le_trans (by decide) hd) rfl (Nat.le_of_ble_eq_true rfl) (fun r cs hp => ?_)
    obtain ⟨r6, S5, rfl, hw, hW⟩ := hp
    refine z_st (st' := [.int (Int32.ofInt (r6))]) rfl ?_
    obtain ⟨q8, hw⟩ := hw
    refine i_if_eq (tgt := 44) dX9_named_28 (by decide) q8 (fun h7 => ?_) (fun h7 => ?_)
    · have hw := hw.1 h7
      refine z_aload_n dX9_named_44 rfl rfl ?_
      refine z_ldcS (i := 17) (tx := "&gt;") (by decide +kernel) dX9_named_45 ?_
      have hX := lX9_comes_e 4 (Nat.le_refl _) hT hS hU hW  hw
      refine z_callV (As := [_]) eX9_comes sX9_comes lX9_64 rfl dX9_named_47 (hW.at (hU 220 _ rfl)) hX (Nat.le_trans (by decide) hd) rfl (Nat.le_of_ble_eq_true rfl) (fun r cs hp => ?_)
      obtain ⟨r10, S9, rfl, hw, hW⟩ := hp
      refine z_st (st' := [.int (Int32.ofInt (r10))]) rfl ?_
      obtain ⟨q12, hw⟩ := hw
      refine i_if_eq (tgt := 66) dX9_named_50 (by decide) q12 (fun h11 => ?_) (fun h11 => ?_)
      · have hw := hw.1 h11
        refine z_aload_n dX9_named_66 rfl rfl ?_
        refine z_ldcS (i := 18) (tx := "&quot;") (by decide +kernel) dX9_named_67 ?_
        have hX := lX9_comes_f 4 (Nat.le_refl _) hT hS hU hW  hw
        refine z_callV (As := [_]) eX9_comes sX9_comes lX9_64 rfl dX9_named_69 (hW.at (hU 220 _ rfl)) hX (Nat.le_trans (by decide) hd) rfl (Nat.le_of_ble_eq_true rfl) (fun r cs hp => ?_)
        obtain ⟨r14, S13, rfl, hw, hW⟩ := hp
        refine z_st (st' := [.int (Int32.ofInt (r14))]) rfl ?_
        obtain ⟨q16, hw⟩ := hw
        refine i_if_eq (tgt := 89) dX9_named_72 (by decide) q16 (fun h15 => ?_) (fun h15 => ?_)
        · have hw := hw.1 h15
          refine z_aload_n dX9_named_89 rfl rfl ?_
          refine z_ldcS (i := 19) (tx := "&apos;") (by decide +kernel) dX9_named_90 ?_
          have hX := lX9_comes_g 4 (Nat.le_refl _) hT hS hU hW  hw
          refine z_callV (As := [_]) eX9_comes sX9_comes lX9_64 rfl dX9_named_92 (hW.at (hU 220 _ rfl)) hX (Nat.le_trans (by decide) hd) rfl (Nat.le_of_ble_eq_true rfl) (fun r cs hp => ?_)
          obtain ⟨r18, S17, rfl, hw, hW⟩ := hp
          refine z_st (st' := [.int (Int32.ofInt (r18))]) rfl ?_
          obtain ⟨q20, hw⟩ := hw
          refine i_if_eq (tgt := 112) dX9_named_95 (by decide) q20 (fun h19 => ?_) (fun h19 => ?_)
          · have hw := hw.1 h19
            refine z_iconst (v := Int32.ofInt (-1)) dX9_named_112 rfl ?_
            exact z_ireturn dX9_named_113 rfl rfl (hP _ _ _ hw hW)
          · have hw := hw.2 h19
            refine z_aload_n dX9_named_98 rfl rfl ?_
            refine z_dup dX9_named_99 rfl ?_
            have q21 : iv (-2147483648) 2147483647 (S17.1 220 3) := hW.iI 220 3
            have hw := hw q21
            refine v_getI hW (hU 220 _ rfl) rfl kX9 fX9_9 dX9_named_100 ?_
            refine z_bipush (v := Int32.ofInt 6) dX9_named_103 (by decide) ?_
            refine i_iadd dX9_named_105 ?_
            obtain ⟨q23, hw⟩ := hw
            refine v_putI hW (hU 220 _ rfl) (by decide) (by unfold isS; decide) rfl kX9 fX9_9 dX9_named_106 rfl rfl rfl q23 (fun cs hW => ?_)
            obtain ⟨S22, hS22⟩ : ∃ x, x = pI S17 220 3 ((S17.1 220 3 + 6)) := ⟨_, rfl⟩
            rw [← hS22] at hW
            have hw := hw S22 hS22
            refine z_bipush (v := Int32.ofInt 39) dX9_named_109 (by decide) ?_
            exact z_ireturn dX9_named_111 rfl rfl (hP _ _ _ hw hW)
        · have hw := hw.2 h15
          refine z_aload_n dX9_named_75 rfl rfl ?_
          refine z_dup dX9_named_76 rfl ?_
          have q24 : iv (-2147483648) 2147483647 (S13.1 220 3) := hW.iI 220 3
          have hw := hw q24
          refine v_getI hW (hU 220 _ rfl) rfl kX9 fX9_9 dX9_named_77 ?_
          refine z_bipush (v := Int32.ofInt 6) dX9_named_80 (by decide) ?_
          refine i_iadd dX9_named_82 ?_
          obtain ⟨q26, hw⟩ := hw
          refine v_putI hW (hU 220 _ rfl) (by decide) (by unfold isS; decide) rfl kX9 fX9_9 dX9_named_83 rfl rfl rfl q26 (fun cs hW => ?_)
          obtain ⟨S25, hS25⟩ : ∃ x, x = pI S13 220 3 ((S13.1 220 3 + 6)) := ⟨_, rfl⟩
          rw [← hS25] at hW
          have hw := hw S25 hS25
          refine z_bipush (v := Int32.ofInt 34) dX9_named_86 (by decide) ?_
          exact z_ireturn dX9_named_88 rfl rfl (hP _ _ _ hw hW)
      · have hw := hw.2 h11
        refine z_aload_n dX9_named_53 rfl rfl ?_
        refine z_dup dX9_named_54 rfl ?_
        have q27 : iv (-2147483648) 2147483647 (S9.1 220 3) := hW.iI 220 3
        have hw := hw q27
        refine v_getI hW (hU 220 _ rfl) rfl kX9 fX9_9 dX9_named_55 ?_
        refine z_iconst (v := Int32.ofInt 4) dX9_named_58 rfl ?_
        refine i_iadd dX9_named_59 ?_
        obtain ⟨q29, hw⟩ := hw
        refine v_putI hW (hU 220 _ rfl) (by decide) (by unfold isS; decide) rfl kX9 fX9_9 dX9_named_60 rfl rfl rfl q29 (fun cs hW => ?_)
        obtain ⟨S28, hS28⟩ : ∃ x, x = pI S9 220 3 ((S9.1 220 3 + 4)) := ⟨_, rfl⟩
        rw [← hS28] at hW
        have hw := hw S28 hS28
        refine z_bipush (v := Int32.ofInt 62) dX9_named_63 (by decide) ?_
        exact z_ireturn dX9_named_65 rfl rfl (hP _ _ _ hw hW)
    · have hw := hw.2 h7
      refine z_aload_n dX9_named_31 rfl rfl ?_
      refine z_dup dX9_named_32 rfl ?_
      have q30 : iv (-2147483648) 2147483647 (S5.1 220 3) := hW.iI 220 3
      have hw := hw q30
      refine v_getI hW (hU 220 _ rfl) rfl kX9 fX9_9 dX9_named_33 ?_
      refine z_iconst (v := Int32.ofInt 4) dX9_named_36 rfl ?_
      refine i_iadd dX9_named_37 ?_
      obtain ⟨q32, hw⟩ := hw
      refine v_putI hW (hU 220 _ rfl) (by decide) (by unfold isS; decide) rfl kX9 fX9_9 dX9_named_38 rfl rfl rfl q32 (fun cs hW => ?_)
      obtain ⟨S31, hS31⟩ : ∃ x, x = pI S5 220 3 ((S5.1 220 3 + 4)) := ⟨_, rfl⟩
      rw [← hS31] at hW
      have hw := hw S31 hS31
      refine z_bipush (v := Int32.ofInt 60) dX9_named_41 (by decide) ?_
      exact z_ireturn dX9_named_43 rfl rfl (hP _ _ _ hw hW)
  · have hw := hw.2 h3
    refine z_aload_n dX9_named_9 rfl rfl ?_
    refine z_dup dX9_named_10 rfl ?_
    have q33 : iv (-2147483648) 2147483647 (S1.1 220 3) := hW.iI 220 3
    have hw := hw q33
    refine v_getI hW (hU 220 _ rfl) rfl kX9 fX9_9 dX9_named_11 ?_
    refine z_iconst (v := Int32.ofInt 5) dX9_named_14 rfl ?_
    refine i_iadd dX9_named_15 ?_
    obtain ⟨q35, hw⟩ := hw
    refine v_putI hW (hU 220 _ rfl) (by decide) (by unfold isS; decide) rfl kX9 fX9_9 dX9_named_16 rfl rfl rfl q35 (fun cs hW => ?_)
    obtain ⟨S34, hS34⟩ : ∃ x, x = pI S1 220 3 ((S1.1 220 3 + 5)) := ⟨_, rfl⟩
    rw [← hS34] at hW
    have hw := hw S34 hS34
    refine z_bipush (v := Int32.ofInt 38) dX9_named_19 (by decide) ?_
    exact z_ireturn dX9_named_21 rfl rfl (hP _ _ _ hw hW)

def wX9_digit_43  (l0 l1 : Int) (S : St) (K : Int → St → Prop) : Prop := (rng (l1) ∧ ((¬ l1 = 16 → K ((-1)) S) ∧ ((¬ (¬ l1 = 16)) → (rng (l0) ∧ ((l0 < 65 → K ((-1)) S) ∧ ((¬ (l0 < 65)) → ((70 < l0 → K ((-1)) S) ∧ ((¬ (70 < l0)) → K (((l0 - 65) + 10)) S))))))))
set_option maxRecDepth 100000 in
set_option maxHeartbeats 4000000 in
theorem ubX9_digit_43 {G : xG} {v : Nat → Nat} {sh : Nat → Option Sh} {B : Nat × Nat} {c0 : List va_E} {d : Nat} {Post : xP} {l0 l1 : Int} {S : St} {cs : List va_E} {K : Int → St → Prop} (hd : 0 ≤ d) (hT : sb shC sh) (hS : ∀ b x, sh b = some x → ¬ isS b) (hW : Wv G v sh B c0 S cs) (hP : ∀ (x : Int) (S : St) (cs : List va_E), K x S → Wv G v sh B c0 S cs → Post (some (.int (Int32.ofInt x))) cs)  (hw : wX9_digit_43 l0 l1 S K ) : Z (RX9, cX9_digit, 2, some .int, false) G d Post 43 [(0, .int (Int32.ofInt (l0))), (1, .int (Int32.ofInt (l1)))] [] cs := by
  unfold wX9_digit_43 at hw
  refine z_iload_n dX9_digit_43 rfl rfl ?_
  refine z_bipush (v := Int32.ofInt 16) dX9_digit_44 (by decide) ?_
  obtain ⟨q2, hw⟩ := hw
  refine i_icmp_ne (tgt := 69) dX9_digit_46 (by decide) q2 ⟨by decide, by decide⟩ (fun h1 => ?_) (fun h1 => ?_)
  · have hw := hw.1 h1
    refine z_iconst (v := Int32.ofInt (-1)) dX9_digit_69 rfl ?_
    exact z_ireturn dX9_digit_70 rfl rfl (hP _ _ _ hw hW)
  · have hw := hw.2 h1
    refine z_iload_n dX9_digit_49 rfl rfl ?_
    refine z_bipush (v := Int32.ofInt 65) dX9_digit_50 (by decide) ?_
    obtain ⟨q4, hw⟩ := hw
    refine i_icmp_lt (tgt := 69) dX9_digit_52 (by decide) q4 ⟨by decide, by decide⟩ (fun h3 => ?_) (fun h3 => ?_)
    · have hw := hw.1 h3
      refine z_iconst (v := Int32.ofInt (-1)) dX9_digit_69 rfl ?_
      exact z_ireturn dX9_digit_70 rfl rfl (hP _ _ _ hw hW)
    · have hw := hw.2 h3
      refine z_iload_n dX9_digit_55 rfl rfl ?_
      refine z_bipush (v := Int32.ofInt 70) dX9_digit_56 (by decide) ?_
      refine i_icmp_gt (tgt := 69) dX9_digit_58 (by decide) q4 ⟨by decide, by decide⟩ (fun h5 => ?_) (fun h5 => ?_)
      · have hw := hw.1 h5
        refine z_iconst (v := Int32.ofInt (-1)) dX9_digit_69 rfl ?_
        exact z_ireturn dX9_digit_70 rfl rfl (hP _ _ _ hw hW)
      · have hw := hw.2 h5
        refine z_iload_n dX9_digit_61 rfl rfl ?_
        refine z_bipush (v := Int32.ofInt 65) dX9_digit_62 (by decide) ?_
        refine i_isub dX9_digit_64 ?_
        refine z_bipush (v := Int32.ofInt 10) dX9_digit_65 (by decide) ?_
        refine i_iadd dX9_digit_67 ?_
        exact z_ireturn dX9_digit_68 rfl rfl (hP _ _ _ hw hW)
def wX9_digit_17  (l0 l1 : Int) (S : St) (K : Int → St → Prop) : Prop := (rng (l1) ∧ ((¬ l1 = 16 → wX9_digit_43 (l0) (l1) S K) ∧ ((¬ (¬ l1 = 16)) → (rng (l0) ∧ ((l0 < 97 → wX9_digit_43 (l0) (l1) S K) ∧ ((¬ (l0 < 97)) → ((102 < l0 → wX9_digit_43 (l0) (l1) S K) ∧ ((¬ (102 < l0)) → K (((l0 - 97) + 10)) S))))))))
set_option maxRecDepth 100000 in
set_option maxHeartbeats 4000000 in
theorem ubX9_digit_17 {G : xG} {v : Nat → Nat} {sh : Nat → Option Sh} {B : Nat × Nat} {c0 : List va_E} {d : Nat} {Post : xP} {l0 l1 : Int} {S : St} {cs : List va_E} {K : Int → St → Prop} (hd : 0 ≤ d) (hT : sb shC sh) (hS : ∀ b x, sh b = some x → ¬ isS b) (hW : Wv G v sh B c0 S cs) (hP : ∀ (x : Int) (S : St) (cs : List va_E), K x S → Wv G v sh B c0 S cs → Post (some (.int (Int32.ofInt x))) cs)  (hw : wX9_digit_17 l0 l1 S K ) : Z (RX9, cX9_digit, 2, some .int, false) G d Post 17 [(0, .int (Int32.ofInt (l0))), (1, .int (Int32.ofInt (l1)))] [] cs := by
  unfold wX9_digit_17 at hw
  refine z_iload_n dX9_digit_17 rfl rfl ?_
  refine z_bipush (v := Int32.ofInt 16) dX9_digit_18 (by decide) ?_
  obtain ⟨q2, hw⟩ := hw
  refine i_icmp_ne (tgt := 43) dX9_digit_20 (by decide) q2 ⟨by decide, by decide⟩ (fun h1 => ?_) (fun h1 => ?_)
  · have hw := hw.1 h1
    refine z_loc (L' := [(0, .int (Int32.ofInt (l0))), (1, .int (Int32.ofInt (l1)))]) (List.forall_mem_cons.mpr ⟨rfl, (List.forall_mem_cons.mpr ⟨rfl, (fun _ h => nomatch h)⟩)⟩) ?_
    exact ubX9_digit_43 hd hT hS hW hP  hw
  · have hw := hw.2 h1
    refine z_iload_n dX9_digit_23 rfl rfl ?_
    refine z_bipush (v := Int32.ofInt 97) dX9_digit_24 (by decide) ?_
    obtain ⟨q4, hw⟩ := hw
    refine i_icmp_lt (tgt := 43) dX9_digit_26 (by decide) q4 ⟨by decide, by decide⟩ (fun h3 => ?_) (fun h3 => ?_)
    · have hw := hw.1 h3
      refine z_loc (L' := [(0, .int (Int32.ofInt (l0))), (1, .int (Int32.ofInt (l1)))]) (List.forall_mem_cons.mpr ⟨rfl, (List.forall_mem_cons.mpr ⟨rfl, (fun _ h => nomatch h)⟩)⟩) ?_
      exact ubX9_digit_43 hd hT hS hW hP  hw
    · have hw := hw.2 h3
      refine z_iload_n dX9_digit_29 rfl rfl ?_
      refine z_bipush (v := Int32.ofInt 102) dX9_digit_30 (by decide) ?_
      refine i_icmp_gt (tgt := 43) dX9_digit_32 (by decide) q4 ⟨by decide, by decide⟩ (fun h5 => ?_) (fun h5 => ?_)
      · have hw := hw.1 h5
        refine z_loc (L' := [(0, .int (Int32.ofInt (l0))), (1, .int (Int32.ofInt (l1)))]) (List.forall_mem_cons.mpr ⟨rfl, (List.forall_mem_cons.mpr ⟨rfl, (fun _ h => nomatch h)⟩)⟩) ?_
        exact ubX9_digit_43 hd hT hS hW hP  hw
      · have hw := hw.2 h5
        refine z_iload_n dX9_digit_35 rfl rfl ?_
        refine z_bipush (v := Int32.ofInt 97) dX9_digit_36 (by decide) ?_
        refine i_isub dX9_digit_38 ?_
        refine z_bipush (v := Int32.ofInt 10) dX9_digit_39 (by decide) ?_
        refine i_iadd dX9_digit_41 ?_
        exact z_ireturn dX9_digit_42 rfl rfl (hP _ _ _ hw hW)
def wX9_digit  (a1 a2 : Int) (S : St) (K : Int → St → Prop) : Prop := rng a1 → rng a2 → ((a1 < 48 → wX9_digit_17 (a1) (a2) S K) ∧ ((¬ (a1 < 48)) → ((57 < a1 → wX9_digit_17 (a1) (a2) S K) ∧ ((¬ (57 < a1)) → K ((a1 - 48)) S))))
set_option maxRecDepth 100000 in
set_option maxHeartbeats 4000000 in
theorem lX9_digit {G : xG} {v : Nat → Nat} {sh : Nat → Option Sh} {B : Nat × Nat} {c0 : List va_E}  {a1 a2 : Int} {S : St} {cs : List va_E} {K : Int → St → Prop} (d : Nat) (hd : 0 ≤ d) (hT : sb shC sh) (hS : ∀ b x, sh b = some x → ¬ isS b) (hW : Wv G v sh B c0 S cs) (g1 : rng a1) (g2 : rng a2) (hw : wX9_digit a1 a2 S K) : X G yX9_digit cX9_digit 2 (some .int) d [.int (Int32.ofInt a1), .int (Int32.ofInt a2)] cs (vI G v sh B c0 K) := by
  refine X.of false (by decide +kernel) (by decide) (Nat.le_of_ble_eq_true rfl) ?_
  show Z (RX9, cX9_digit, 2, some .int, false) G d _ 0 [(0, .int (Int32.ofInt a1)), (1, .int (Int32.ofInt a2))] [] cs
  have hP : ∀ (x : Int) (S : St) (cs : List va_E), K x S → Wv G v sh B c0 S cs → vI G v sh B c0 K (some (.int (Int32.ofInt x))) cs := fun x S cs a b => ⟨x, S, rfl, a, b⟩
  unfold wX9_digit at hw
  have hw := hw g1 g2
  refine z_iload_n dX9_digit_0 rfl rfl ?_
  refine z_bipush (v := Int32.ofInt 48) dX9_digit_1 (by decide) ?_
  refine i_icmp_lt (tgt := 17) dX9_digit_3 (by decide) g1 ⟨by decide, by decide⟩ (fun h1 => ?_) (fun h1 => ?_)
  · have hw := hw.1 h1
    refine z_loc (L' := [(0, .int (Int32.ofInt (a1))), (1, .int (Int32.ofInt (a2)))]) (List.forall_mem_cons.mpr ⟨rfl, (List.forall_mem_cons.mpr ⟨rfl, (fun _ h => nomatch h)⟩)⟩) ?_
    exact ubX9_digit_17 hd hT hS hW hP  hw
  · have hw := hw.2 h1
    refine z_iload_n dX9_digit_6 rfl rfl ?_
    refine z_bipush (v := Int32.ofInt 57) dX9_digit_7 (by decide) ?_
    refine i_icmp_gt (tgt := 17) dX9_digit_9 (by decide) g1 ⟨by decide, by decide⟩ (fun h2 => ?_) (fun h2 => ?_)
    · have hw := hw.1 h2
      refine z_loc (L' := [(0, .int (Int32.ofInt (a1))), (1, .int (Int32.ofInt (a2)))]) (List.forall_mem_cons.mpr ⟨rfl, (List.forall_mem_cons.mpr ⟨rfl, (fun _ h => nomatch h)⟩)⟩) ?_
      exact ubX9_digit_17 hd hT hS hW hP  hw
    · have hw := hw.2 h2
      refine z_iload_n dX9_digit_12 rfl rfl ?_
      refine z_bipush (v := Int32.ofInt 48) dX9_digit_13 (by decide) ?_
      refine i_isub dX9_digit_15 ?_
      exact z_ireturn dX9_digit_16 rfl rfl (hP _ _ _ hw hW)

def wX9_numbered_112  (l3 l4 l5 : Int) (S : St) (K : Int → St → Prop) : Prop := (rng (l4) ∧ (rng (l3) ∧ ((l4 = l3 → K ((-1)) S) ∧ ((¬ (l4 = l3)) → (wX5_at 1 (l4) S (fun r5 S4 => (rng (r5) ∧ ((¬ r5 = 59 → K ((-1)) S4) ∧ ((¬ (¬ r5 = 59)) → (rng (l5) ∧ (wX10_isSign (l5) S4 (fun r9 S8 => (rng (r9) ∧ ((¬ r9 = 0 → (iv (-2147483648) 2147483647 ((l4 + 1)) ∧ (∀ S13, S13 = pI S8 220 3 ((l4 + 1)) → K (l5) S13))) ∧ ((¬ (¬ r9 = 0)) → K ((-1)) S8)))))))))))))))
set_option maxRecDepth 100000 in
set_option maxHeartbeats 4000000 in
theorem ubX9_numbered_112 {G : xG} {v : Nat → Nat} {sh : Nat → Option Sh} {B : Nat × Nat} {c0 : List va_E} {d : Nat} {Post : xP} {l3 l4 l5 : Int} {S : St} {cs : List va_E} {K : Int → St → Prop} (hd : 1 ≤ d) (hT : sb shC sh) (hS : ∀ b x, sh b = some x → ¬ isS b) (hU : sb shXT sh) (hW : Wv G v sh B c0 S cs) (hP : ∀ (x : Int) (S : St) (cs : List va_E), K x S → Wv G v sh B c0 S cs → Post (some (.int (Int32.ofInt x))) cs)  (hw : wX9_numbered_112 l3 l4 l5 S K ) : Z (RX9, cX9_numbered, 7, some .int, false) G d Post 112 [(0, .ref (G.1 + v 220)), (3, .int (Int32.ofInt (l3))), (4, .int (Int32.ofInt (l4))), (5, .int (Int32.ofInt (l5)))] [] cs := by
  unfold wX9_numbered_112 at hw
  refine z_iload dX9_numbered_112 rfl ?_
  refine z_iload_n dX9_numbered_114 rfl rfl ?_
  obtain ⟨q2, hw⟩ := hw
  obtain ⟨q3, hw⟩ := hw
  refine i_icmp_eq (tgt := 140) dX9_numbered_115 (by decide) q2 q3 (fun h1 => ?_) (fun h1 => ?_)
  · have hw := hw.1 h1
    refine z_iconst (v := Int32.ofInt (-1)) dX9_numbered_140 rfl ?_
    exact z_ireturn dX9_numbered_141 rfl rfl (hP _ _ _ hw hW)
  · have hw := hw.2 h1
    refine z_aload_n dX9_numbered_118 rfl rfl ?_
    refine v_getR hW (hU 220 _ rfl) rfl kX9 fX9_24 dX9_numbered_119 ?_
    refine z_iload dX9_numbered_122 rfl ?_
    have hX := lX5_at 0 (Nat.le_refl _) hW (show isS 1 by unfold isS; decide) (fun b x h e => hS b x h (e ▸ (show isS 1 by unfold isS; decide))) q2 hw
    refine z_callV (As := [_]) eX5_at sX5_at lX9_47 rfl dX9_numbered_124 (hW.sg (show isS 1 by unfold isS; decide) (fun b x h e => hS b x h (e ▸ (show isS 1 by unfold isS; decide)))).choose_spec.choose_spec.choose_spec.choose_spec.1.choose_spec.1 hX (Nat.le_trans (by decide) hd) rfl (Nat.le_of_ble_eq_true rfl) (fun r cs hp => ?_)
    obtain ⟨r5, S4, rfl, hw, hW⟩ := hp
    refine z_st (st' := [.int (Int32.ofInt (r5))]) rfl ?_
    refine z_bipush (v := Int32.ofInt 59) dX9_numbered_127 (by decide) ?_
    obtain ⟨q7, hw⟩ := hw
    refine i_icmp_ne (tgt := 140) dX9_numbered_129 (by decide) q7 ⟨by decide, by decide⟩ (fun h6 => ?_) (fun h6 => ?_)
    · have hw := hw.1 h6
      refine z_iconst (v := Int32.ofInt (-1)) dX9_numbered_140 rfl ?_
      exact z_ireturn dX9_numbered_141 rfl rfl (hP _ _ _ hw hW)
    · have hw := hw.2 h6
      refine z_iload dX9_numbered_132 rfl ?_
      obtain ⟨q10, hw⟩ := hw
      have hX := lX10_isSign 0 (Nat.le_refl _) hT hS hW q10 hw
      refine z_callSN (As := [_]) eX10_isSign sX10_isSign lX9_159 dX9_numbered_134 hX (Nat.le_trans (by decide) hd) rfl (Nat.le_of_ble_eq_true rfl) (fun r cs hp => ?_)
      obtain ⟨r9, S8, rfl, hw, hW⟩ := hp
      refine z_st (st' := [.int (Int32.ofInt (r9))]) rfl ?_
      obtain ⟨q12, hw⟩ := hw
      refine i_if_ne (tgt := 142) dX9_numbered_137 (by decide) q12 (fun h11 => ?_) (fun h11 => ?_)
      · have hw := hw.1 h11
        refine z_aload_n dX9_numbered_142 rfl rfl ?_
        refine z_iload dX9_numbered_143 rfl ?_
        refine z_iconst (v := Int32.ofInt 1) dX9_numbered_145 rfl ?_
        refine i_iadd dX9_numbered_146 ?_
        obtain ⟨q14, hw⟩ := hw
        refine v_putI hW (hU 220 _ rfl) (by decide) (by unfold isS; decide) rfl kX9 fX9_9 dX9_numbered_147 rfl rfl rfl q14 (fun cs hW => ?_)
        obtain ⟨S13, hS13⟩ : ∃ x, x = pI S8 220 3 ((l4 + 1)) := ⟨_, rfl⟩
        rw [← hS13] at hW
        have hw := hw S13 hS13
        refine z_iload dX9_numbered_150 rfl ?_
        exact z_ireturn dX9_numbered_152 rfl rfl (hP _ _ _ hw hW)
      · have hw := hw.2 h11
        refine z_iconst (v := Int32.ofInt (-1)) dX9_numbered_140 rfl ?_
        exact z_ireturn dX9_numbered_141 rfl rfl (hP _ _ _ hw hW)
def wX9_numbered_60'  (l2 l3 l4 l5 l6 : Int) (S : St) (K : Int → St → Prop) (B60 : Int → Int → Int → Int → Int → St → Prop) : Prop := (rng (l6) ∧ ((6 ≤ l6 → wX9_numbered_112 (l3) (l4) (l5) S K) ∧ ((¬ (6 ≤ l6)) → (rng (l4) ∧ (wX5_at 1 (l4) S (fun r4 S3 => (rng (r4) ∧ (rng (l2) ∧ (wX9_digit (r4) (l2) S3 (fun r7 S6 => (rng (r7) ∧ ((r7 < 0 → wX9_numbered_112 (l3) (l4) (l5) S6 K) ∧ ((¬ (r7 < 0)) → (wX5_at 1 (l4) S6 (fun r13 S12 => (rng (r13) ∧ (wX9_digit (r13) (l2) S12 (fun r15 S14 => (∀ x17 : Int, x17 = ((l5 * l2) + r15) → B60 (l2) (l3) ((l4 + 1)) (x17) ((l6 + 1)) S14)))))))))))))))))))
set_option maxRecDepth 100000 in
set_option maxHeartbeats 4000000 in
theorem ubX9_numbered_60' {G : xG} {v : Nat → Nat} {sh : Nat → Option Sh} {B : Nat × Nat} {c0 : List va_E} {d : Nat} {Post : xP} {l2 l3 l4 l5 l6 : Int} {S : St} {cs : List va_E} {K : Int → St → Prop} {B60 : Int → Int → Int → Int → Int → St → Prop} (hd : 1 ≤ d) (hT : sb shC sh) (hS : ∀ b x, sh b = some x → ¬ isS b) (hU : sb shXT sh) (hW : Wv G v sh B c0 S cs) (hP : ∀ (x : Int) (S : St) (cs : List va_E), K x S → Wv G v sh B c0 S cs → Post (some (.int (Int32.ofInt x))) cs) (hB60 : ∀ (l2 : Int) (l3 : Int) (l4 : Int) (l5 : Int) (l6 : Int) (S : St) (cs : List va_E), B60 l2 l3 l4 l5 l6 S → Wv G v sh B c0 S cs → Z (RX9, cX9_numbered, 7, some .int, false) G d Post 60 [(0, .ref (G.1 + v 220)), (2, .int (Int32.ofInt (l2))), (3, .int (Int32.ofInt (l3))), (4, .int (Int32.ofInt (l4))), (5, .int (Int32.ofInt (l5))), (6, .int (Int32.ofInt (l6)))] [] cs) (hw : wX9_numbered_60' l2 l3 l4 l5 l6 S K B60) : Z (RX9, cX9_numbered, 7, some .int, false) G d Post 60 [(0, .ref (G.1 + v 220)), (2, .int (Int32.ofInt (l2))), (3, .int (Int32.ofInt (l3))), (4, .int (Int32.ofInt (l4))), (5, .int (Int32.ofInt (l5))), (6, .int (Int32.ofInt (l6)))] [] cs := by
  unfold wX9_numbered_60' at hw
  refine z_iload dX9_numbered_60 rfl ?_
  refine z_bipush (v := Int32.ofInt 6) dX9_numbered_62 (by decide) ?_
  obtain ⟨q2, hw⟩ := hw
  refine i_icmp_ge (tgt := 112) dX9_numbered_64 (by decide) q2 ⟨by decide, by decide⟩ (fun h1 => ?_) (fun h1 => ?_)
  · have hw := hw.1 h1
    refine z_loc (L' := [(0, .ref (G.1 + v 220)), (3, .int (Int32.ofInt (l3))), (4, .int (Int32.ofInt (l4))), (5, .int (Int32.ofInt (l5)))]) (List.forall_mem_cons.mpr ⟨rfl, (List.forall_mem_cons.mpr ⟨rfl, (List.forall_mem_cons.mpr ⟨rfl, (List.forall_mem_cons.mpr ⟨rfl, (fun _ h => nomatch h)⟩)⟩)⟩)⟩) ?_
    exact ubX9_numbered_112 hd hT hS hU hW hP  hw
  · have hw := hw.2 h1
    refine z_aload_n dX9_numbered_67 rfl rfl ?_
    refine v_getR hW (hU 220 _ rfl) rfl kX9 fX9_24 dX9_numbered_68 ?_
    refine z_iload dX9_numbered_71 rfl ?_
    obtain ⟨q5, hw⟩ := hw
    have hX := lX5_at 0 (Nat.le_refl _) hW (show isS 1 by unfold isS; decide) (fun b x h e => hS b x h (e ▸ (show isS 1 by unfold isS; decide))) q5 hw
    refine z_callV (As := [_]) eX5_at sX5_at lX9_47 rfl dX9_numbered_73 (hW.sg (show isS 1 by unfold isS; decide) (fun b x h e => hS b x h (e ▸ (show isS 1 by unfold isS; decide)))).choose_spec.choose_spec.choose_spec.choose_spec.1.choose_spec.1 hX (Nat.le_trans (by decide) hd) rfl (Nat.le_of_ble_eq_true rfl) (fun r cs hp => ?_)
    obtain ⟨r4, S3, rfl, hw, hW⟩ := hp
    refine z_st (st' := [.int (Int32.ofInt (r4))]) rfl ?_
    refine z_iload_n dX9_numbered_76 rfl rfl ?_
    obtain ⟨q8, hw⟩ := hw
    obtain ⟨q9, hw⟩ := hw
    have hX := lX9_digit 0 (Nat.le_refl _) hT hS hW q8 q9 hw
    refine z_callS (As := [_, _]) eX9_digit sX9_digit lX9_155 dX9_numbered_77 hX (Nat.le_trans (by decide) hd) rfl (Nat.le_of_ble_eq_true rfl) (fun r cs hp => ?_)
    obtain ⟨r7, S6, rfl, hw, hW⟩ := hp
    refine z_st (st' := [.int (Int32.ofInt (r7))]) rfl ?_
    obtain ⟨q11, hw⟩ := hw
    refine i_if_lt (tgt := 112) dX9_numbered_80 (by decide) q11 (fun h10 => ?_) (fun h10 => ?_)
    · have hw := hw.1 h10
      refine z_loc (L' := [(0, .ref (G.1 + v 220)), (3, .int (Int32.ofInt (l3))), (4, .int (Int32.ofInt (l4))), (5, .int (Int32.ofInt (l5)))]) (List.forall_mem_cons.mpr ⟨rfl, (List.forall_mem_cons.mpr ⟨rfl, (List.forall_mem_cons.mpr ⟨rfl, (List.forall_mem_cons.mpr ⟨rfl, (fun _ h => nomatch h)⟩)⟩)⟩)⟩) ?_
      exact ubX9_numbered_112 hd hT hS hU hW hP  hw
    · have hw := hw.2 h10
      refine z_iload dX9_numbered_83 rfl ?_
      refine z_iload_n dX9_numbered_85 rfl rfl ?_
      refine i_imul dX9_numbered_86 ?_
      refine z_aload_n dX9_numbered_87 rfl rfl ?_
      refine v_getR hW (hU 220 _ rfl) rfl kX9 fX9_24 dX9_numbered_88 ?_
      refine z_iload dX9_numbered_91 rfl ?_
      have hX := lX5_at 0 (Nat.le_refl _) hW (show isS 1 by unfold isS; decide) (fun b x h e => hS b x h (e ▸ (show isS 1 by unfold isS; decide))) q5 hw
      refine z_callV (As := [_]) eX5_at sX5_at lX9_47 rfl dX9_numbered_93 (hW.sg (show isS 1 by unfold isS; decide) (fun b x h e => hS b x h (e ▸ (show isS 1 by unfold isS; decide)))).choose_spec.choose_spec.choose_spec.choose_spec.1.choose_spec.1 hX (Nat.le_trans (by decide) hd) rfl (Nat.le_of_ble_eq_true rfl) (fun r cs hp => ?_)
      obtain ⟨r13, S12, rfl, hw, hW⟩ := hp
      refine z_st (st' := [.int (Int32.ofInt (r13)), .int (Int32.ofInt ((l5 * l2)))]) rfl ?_
      refine z_iload_n dX9_numbered_96 rfl rfl ?_
      obtain ⟨q16, hw⟩ := hw
      have hX := lX9_digit 0 (Nat.le_refl _) hT hS hW q16 q9 hw
      refine z_callS (As := [_, _]) eX9_digit sX9_digit lX9_155 dX9_numbered_97 hX (Nat.le_trans (by decide) hd) rfl (Nat.le_of_ble_eq_true rfl) (fun r cs hp => ?_)
      obtain ⟨r15, S14, rfl, hw, hW⟩ := hp
      refine z_st (st' := [.int (Int32.ofInt (r15)), .int (Int32.ofInt ((l5 * l2)))]) rfl ?_
      refine i_iadd dX9_numbered_100 ?_
      obtain ⟨x17, hx17⟩ : ∃ x : Int, x = ((l5 * l2) + r15) := ⟨_, rfl⟩
      have hw := hw x17 hx17
      refine z_st (st' := [.int (Int32.ofInt x17)]) (by rw [hx17]) ?_
      refine z_istore dX9_numbered_101 (by decide) ?_
      refine z_loc (L' := [(0, .ref (G.1 + v 220)), (2, .int (Int32.ofInt (l2))), (3, .int (Int32.ofInt (l3))), (4, .int (Int32.ofInt (l4))), (5, .int (Int32.ofInt (x17))), (6, .int (Int32.ofInt (l6)))]) (List.forall_mem_cons.mpr ⟨rfl, (List.forall_mem_cons.mpr ⟨rfl, (List.forall_mem_cons.mpr ⟨rfl, (List.forall_mem_cons.mpr ⟨rfl, (List.forall_mem_cons.mpr ⟨rfl, (List.forall_mem_cons.mpr ⟨rfl, (fun _ h => nomatch h)⟩)⟩)⟩)⟩)⟩)⟩) ?_
      refine i_iinc (l := l4) dX9_numbered_103 rfl (by decide) ?_
      refine z_loc (L' := [(0, .ref (G.1 + v 220)), (2, .int (Int32.ofInt (l2))), (3, .int (Int32.ofInt (l3))), (4, .int (Int32.ofInt ((l4 + 1)))), (5, .int (Int32.ofInt (x17))), (6, .int (Int32.ofInt (l6)))]) (List.forall_mem_cons.mpr ⟨rfl, (List.forall_mem_cons.mpr ⟨rfl, (List.forall_mem_cons.mpr ⟨rfl, (List.forall_mem_cons.mpr ⟨rfl, (List.forall_mem_cons.mpr ⟨rfl, (List.forall_mem_cons.mpr ⟨rfl, (fun _ h => nomatch h)⟩)⟩)⟩)⟩)⟩)⟩) ?_
      refine i_iinc (l := l6) dX9_numbered_106 rfl (by decide) ?_
      refine z_loc (L' := [(0, .ref (G.1 + v 220)), (2, .int (Int32.ofInt (l2))), (3, .int (Int32.ofInt (l3))), (4, .int (Int32.ofInt ((l4 + 1)))), (5, .int (Int32.ofInt (x17))), (6, .int (Int32.ofInt ((l6 + 1))))]) (List.forall_mem_cons.mpr ⟨rfl, (List.forall_mem_cons.mpr ⟨rfl, (List.forall_mem_cons.mpr ⟨rfl, (List.forall_mem_cons.mpr ⟨rfl, (List.forall_mem_cons.mpr ⟨rfl, (List.forall_mem_cons.mpr ⟨rfl, (fun _ h => nomatch h)⟩)⟩)⟩)⟩)⟩)⟩) ?_
      refine z_goto (tgt := 60) dX9_numbered_109 (by decide) ?_
      refine z_loc (L' := [(0, .ref (G.1 + v 220)), (2, .int (Int32.ofInt (l2))), (3, .int (Int32.ofInt (l3))), (4, .int (Int32.ofInt ((l4 + 1)))), (5, .int (Int32.ofInt (x17))), (6, .int (Int32.ofInt ((l6 + 1))))]) (List.forall_mem_cons.mpr ⟨rfl, (List.forall_mem_cons.mpr ⟨rfl, (List.forall_mem_cons.mpr ⟨rfl, (List.forall_mem_cons.mpr ⟨rfl, (List.forall_mem_cons.mpr ⟨rfl, (List.forall_mem_cons.mpr ⟨rfl, (fun _ h => nomatch h)⟩)⟩)⟩)⟩)⟩)⟩) ?_
      exact hB60 _ _ _ _ _ _ _ hw hW
def wX9_numbered_60  (l2 l3 l4 l5 l6 : Int) (S : St) (K : Int → St → Prop) : Prop := ∃ (Iv : Int → Int → Int → Int → Int → St → Prop) (mu : Int → Int → Int → Int → Int → St → Nat), Iv l2 l3 l4 l5 l6 S ∧ ∀ (l2 l3 l4 l5 l6 : Int) (S : St), Iv l2 l3 l4 l5 l6 S → wX9_numbered_60' l2 l3 l4 l5 l6 S K  (fun ml2 ml3 ml4 ml5 ml6 T => Iv ml2 ml3 ml4 ml5 ml6 T ∧ mu ml2 ml3 ml4 ml5 ml6 T < mu l2 l3 l4 l5 l6 S)
set_option maxRecDepth 100000 in
set_option maxHeartbeats 4000000 in
theorem ubX9_numbered_60 {G : xG} {v : Nat → Nat} {sh : Nat → Option Sh} {B : Nat × Nat} {c0 : List va_E} {d : Nat} {Post : xP} {l2 l3 l4 l5 l6 : Int} {S : St} {cs : List va_E} {K : Int → St → Prop} (hd : 1 ≤ d) (hT : sb shC sh) (hS : ∀ b x, sh b = some x → ¬ isS b) (hU : sb shXT sh) (hW : Wv G v sh B c0 S cs) (hP : ∀ (x : Int) (S : St) (cs : List va_E), K x S → Wv G v sh B c0 S cs → Post (some (.int (Int32.ofInt x))) cs)  (hw : wX9_numbered_60 l2 l3 l4 l5 l6 S K ) : Z (RX9, cX9_numbered, 7, some .int, false) G d Post 60 [(0, .ref (G.1 + v 220)), (2, .int (Int32.ofInt (l2))), (3, .int (Int32.ofInt (l3))), (4, .int (Int32.ofInt (l4))), (5, .int (Int32.ofInt (l5))), (6, .int (Int32.ofInt (l6)))] [] cs := by
  unfold wX9_numbered_60 at hw
  obtain ⟨Iv, mu, h0, hs⟩ := hw
  have key : ∀ (n : Nat) (l2 l3 l4 l5 l6 : Int) (S : St) (cs : List va_E), mu l2 l3 l4 l5 l6 S < n → Iv l2 l3 l4 l5 l6 S → Wv G v sh B c0 S cs → Z (RX9, cX9_numbered, 7, some .int, false) G d Post 60 [(0, .ref (G.1 + v 220)), (2, .int (Int32.ofInt (l2))), (3, .int (Int32.ofInt (l3))), (4, .int (Int32.ofInt (l4))), (5, .int (Int32.ofInt (l5))), (6, .int (Int32.ofInt (l6)))] [] cs := by
    intro n
    induction n with
    | zero => intro l2 l3 l4 l5 l6 S cs hn; exact absurd hn (Nat.not_lt_zero _)
    | succ n ih =>
      intro l2 l3 l4 l5 l6 S cs hn hI hW
      exact ubX9_numbered_60' hd hT hS hU hW hP  (fun l2 l3 l4 l5 l6 S cs hb hW => ih l2 l3 l4 l5 l6 S cs (Nat.lt_of_lt_of_le hb.2 (Nat.le_of_lt_succ hn)) hb.1 hW) (hs l2 l3 l4 l5 l6 S hI)
  exact key _ _ _ _ _ _ _ _ (Nat.lt_succ_self _) h0 hW
def wX9_numbered_49  (l2 s0 s1 : Int) (S : St) (K : Int → St → Prop) : Prop := (∀ x1 : Int, x1 = (s1 + s0) → wX9_numbered_60 (l2) (x1) (x1) (0) (0) S K)
set_option maxRecDepth 100000 in
set_option maxHeartbeats 4000000 in
theorem ubX9_numbered_49 {G : xG} {v : Nat → Nat} {sh : Nat → Option Sh} {B : Nat × Nat} {c0 : List va_E} {d : Nat} {Post : xP} {l2 s0 s1 : Int} {S : St} {cs : List va_E} {K : Int → St → Prop} (hd : 1 ≤ d) (hT : sb shC sh) (hS : ∀ b x, sh b = some x → ¬ isS b) (hU : sb shXT sh) (hW : Wv G v sh B c0 S cs) (hP : ∀ (x : Int) (S : St) (cs : List va_E), K x S → Wv G v sh B c0 S cs → Post (some (.int (Int32.ofInt x))) cs)  (hw : wX9_numbered_49 l2 s0 s1 S K ) : Z (RX9, cX9_numbered, 7, some .int, false) G d Post 49 [(0, .ref (G.1 + v 220)), (2, .int (Int32.ofInt (l2)))] [.int (Int32.ofInt (s0)), .int (Int32.ofInt (s1))] cs := by
  unfold wX9_numbered_49 at hw
  refine i_iadd dX9_numbered_49 ?_
  obtain ⟨x1, hx1⟩ : ∃ x : Int, x = (s1 + s0) := ⟨_, rfl⟩
  have hw := hw x1 hx1
  refine z_st (st' := [.int (Int32.ofInt x1)]) (by rw [hx1]) ?_
  refine z_istore_n dX9_numbered_50 rfl (by decide) ?_
  refine z_loc (L' := [(0, .ref (G.1 + v 220)), (2, .int (Int32.ofInt (l2))), (3, .int (Int32.ofInt (x1)))]) (List.forall_mem_cons.mpr ⟨rfl, (List.forall_mem_cons.mpr ⟨rfl, (List.forall_mem_cons.mpr ⟨rfl, (fun _ h => nomatch h)⟩)⟩)⟩) ?_
  refine z_iload_n dX9_numbered_51 rfl rfl ?_
  refine z_istore dX9_numbered_52 (by decide) ?_
  refine z_loc (L' := [(0, .ref (G.1 + v 220)), (2, .int (Int32.ofInt (l2))), (3, .int (Int32.ofInt (x1))), (4, .int (Int32.ofInt (x1)))]) (List.forall_mem_cons.mpr ⟨rfl, (List.forall_mem_cons.mpr ⟨rfl, (List.forall_mem_cons.mpr ⟨rfl, (List.forall_mem_cons.mpr ⟨rfl, (fun _ h => nomatch h)⟩)⟩)⟩)⟩) ?_
  refine z_iconst (v := Int32.ofInt 0) dX9_numbered_54 rfl ?_
  refine z_istore dX9_numbered_55 (by decide) ?_
  refine z_loc (L' := [(0, .ref (G.1 + v 220)), (2, .int (Int32.ofInt (l2))), (3, .int (Int32.ofInt (x1))), (4, .int (Int32.ofInt (x1))), (5, .int (Int32.ofInt (0)))]) (List.forall_mem_cons.mpr ⟨rfl, (List.forall_mem_cons.mpr ⟨rfl, (List.forall_mem_cons.mpr ⟨rfl, (List.forall_mem_cons.mpr ⟨rfl, (List.forall_mem_cons.mpr ⟨rfl, (fun _ h => nomatch h)⟩)⟩)⟩)⟩)⟩) ?_
  refine z_iconst (v := Int32.ofInt 0) dX9_numbered_57 rfl ?_
  refine z_istore dX9_numbered_58 (by decide) ?_
  refine z_loc (L' := [(0, .ref (G.1 + v 220)), (2, .int (Int32.ofInt (l2))), (3, .int (Int32.ofInt (x1))), (4, .int (Int32.ofInt (x1))), (5, .int (Int32.ofInt (0))), (6, .int (Int32.ofInt (0)))]) (List.forall_mem_cons.mpr ⟨rfl, (List.forall_mem_cons.mpr ⟨rfl, (List.forall_mem_cons.mpr ⟨rfl, (List.forall_mem_cons.mpr ⟨rfl, (List.forall_mem_cons.mpr ⟨rfl, (List.forall_mem_cons.mpr ⟨rfl, (fun _ h => nomatch h)⟩)⟩)⟩)⟩)⟩)⟩) ?_
  refine z_loc (L' := [(0, .ref (G.1 + v 220)), (2, .int (Int32.ofInt (l2))), (3, .int (Int32.ofInt (x1))), (4, .int (Int32.ofInt (x1))), (5, .int (Int32.ofInt (0))), (6, .int (Int32.ofInt (0)))]) (List.forall_mem_cons.mpr ⟨rfl, (List.forall_mem_cons.mpr ⟨rfl, (List.forall_mem_cons.mpr ⟨rfl, (List.forall_mem_cons.mpr ⟨rfl, (List.forall_mem_cons.mpr ⟨rfl, (List.forall_mem_cons.mpr ⟨rfl, (fun _ h => nomatch h)⟩)⟩)⟩)⟩)⟩)⟩) ?_
  exact ubX9_numbered_60 hd hT hS hU hW hP  hw
def wX9_numbered_35  (l1 s0 : Int) (S : St) (K : Int → St → Prop) : Prop := (iv (-2147483648) 2147483647 (S.1 220 3) → (rng (l1) ∧ ((l1 = 0 → wX9_numbered_49 (s0) (2) (S.1 220 3) S K) ∧ ((¬ (l1 = 0)) → wX9_numbered_49 (s0) (3) (S.1 220 3) S K))))
set_option maxRecDepth 100000 in
set_option maxHeartbeats 4000000 in
theorem ubX9_numbered_35 {G : xG} {v : Nat → Nat} {sh : Nat → Option Sh} {B : Nat × Nat} {c0 : List va_E} {d : Nat} {Post : xP} {l1 s0 : Int} {S : St} {cs : List va_E} {K : Int → St → Prop} (hd : 1 ≤ d) (hT : sb shC sh) (hS : ∀ b x, sh b = some x → ¬ isS b) (hU : sb shXT sh) (hW : Wv G v sh B c0 S cs) (hP : ∀ (x : Int) (S : St) (cs : List va_E), K x S → Wv G v sh B c0 S cs → Post (some (.int (Int32.ofInt x))) cs)  (hw : wX9_numbered_35 l1 s0 S K ) : Z (RX9, cX9_numbered, 7, some .int, false) G d Post 35 [(0, .ref (G.1 + v 220)), (1, .int (Int32.ofInt (l1)))] [.int (Int32.ofInt (s0))] cs := by
  unfold wX9_numbered_35 at hw
  refine z_istore_n dX9_numbered_35 rfl (by decide) ?_
  refine z_loc (L' := [(0, .ref (G.1 + v 220)), (1, .int (Int32.ofInt (l1))), (2, .int (Int32.ofInt (s0)))]) (List.forall_mem_cons.mpr ⟨rfl, (List.forall_mem_cons.mpr ⟨rfl, (List.forall_mem_cons.mpr ⟨rfl, (fun _ h => nomatch h)⟩)⟩)⟩) ?_
  refine z_aload_n dX9_numbered_36 rfl rfl ?_
  have q1 : iv (-2147483648) 2147483647 (S.1 220 3) := hW.iI 220 3
  have hw := hw q1
  refine v_getI hW (hU 220 _ rfl) rfl kX9 fX9_9 dX9_numbered_37 ?_
  refine z_iload_n dX9_numbered_40 rfl rfl ?_
  obtain ⟨q3, hw⟩ := hw
  refine i_if_eq (tgt := 48) dX9_numbered_41 (by decide) q3 (fun h2 => ?_) (fun h2 => ?_)
  · have hw := hw.1 h2
    refine z_iconst (v := Int32.ofInt 2) dX9_numbered_48 rfl ?_
    refine z_loc (L' := [(0, .ref (G.1 + v 220)), (2, .int (Int32.ofInt (s0)))]) (List.forall_mem_cons.mpr ⟨rfl, (List.forall_mem_cons.mpr ⟨rfl, (fun _ h => nomatch h)⟩)⟩) ?_
    exact ubX9_numbered_49 hd hT hS hU hW hP  hw
  · have hw := hw.2 h2
    refine z_iconst (v := Int32.ofInt 3) dX9_numbered_44 rfl ?_
    refine z_goto (tgt := 49) dX9_numbered_45 (by decide) ?_
    refine z_loc (L' := [(0, .ref (G.1 + v 220)), (2, .int (Int32.ofInt (s0)))]) (List.forall_mem_cons.mpr ⟨rfl, (List.forall_mem_cons.mpr ⟨rfl, (fun _ h => nomatch h)⟩)⟩) ?_
    exact ubX9_numbered_49 hd hT hS hU hW hP  hw
def wX9_numbered_23  (s0 : Int) (S : St) (K : Int → St → Prop) : Prop := (rng (s0) ∧ ((s0 = 0 → wX9_numbered_35 (s0) (10) S K) ∧ ((¬ (s0 = 0)) → wX9_numbered_35 (s0) (16) S K)))
set_option maxRecDepth 100000 in
set_option maxHeartbeats 4000000 in
theorem ubX9_numbered_23 {G : xG} {v : Nat → Nat} {sh : Nat → Option Sh} {B : Nat × Nat} {c0 : List va_E} {d : Nat} {Post : xP} {s0 : Int} {S : St} {cs : List va_E} {K : Int → St → Prop} (hd : 1 ≤ d) (hT : sb shC sh) (hS : ∀ b x, sh b = some x → ¬ isS b) (hU : sb shXT sh) (hW : Wv G v sh B c0 S cs) (hP : ∀ (x : Int) (S : St) (cs : List va_E), K x S → Wv G v sh B c0 S cs → Post (some (.int (Int32.ofInt x))) cs)  (hw : wX9_numbered_23 s0 S K ) : Z (RX9, cX9_numbered, 7, some .int, false) G d Post 23 [(0, .ref (G.1 + v 220))] [.int (Int32.ofInt (s0))] cs := by
  unfold wX9_numbered_23 at hw
  refine z_istore_n dX9_numbered_23 rfl (by decide) ?_
  refine z_loc (L' := [(0, .ref (G.1 + v 220)), (1, .int (Int32.ofInt (s0)))]) (List.forall_mem_cons.mpr ⟨rfl, (List.forall_mem_cons.mpr ⟨rfl, (fun _ h => nomatch h)⟩)⟩) ?_
  refine z_iload_n dX9_numbered_24 rfl rfl ?_
  obtain ⟨q2, hw⟩ := hw
  refine i_if_eq (tgt := 33) dX9_numbered_25 (by decide) q2 (fun h1 => ?_) (fun h1 => ?_)
  · have hw := hw.1 h1
    refine z_bipush (v := Int32.ofInt 10) dX9_numbered_33 (by decide) ?_
    refine z_loc (L' := [(0, .ref (G.1 + v 220)), (1, .int (Int32.ofInt (s0)))]) (List.forall_mem_cons.mpr ⟨rfl, (List.forall_mem_cons.mpr ⟨rfl, (fun _ h => nomatch h)⟩)⟩) ?_
    exact ubX9_numbered_35 hd hT hS hU hW hP  hw
  · have hw := hw.2 h1
    refine z_bipush (v := Int32.ofInt 16) dX9_numbered_28 (by decide) ?_
    refine z_goto (tgt := 35) dX9_numbered_30 (by decide) ?_
    refine z_loc (L' := [(0, .ref (G.1 + v 220)), (1, .int (Int32.ofInt (s0)))]) (List.forall_mem_cons.mpr ⟨rfl, (List.forall_mem_cons.mpr ⟨rfl, (fun _ h => nomatch h)⟩)⟩) ?_
    exact ubX9_numbered_35 hd hT hS hU hW hP  hw
def wX9_numbered  (S : St) (K : Int → St → Prop) : Prop := (iv (-2147483648) 2147483647 (S.1 220 3) → (rng ((S.1 220 3 + 2)) ∧ (wX5_at 1 ((S.1 220 3 + 2)) S (fun r3 S2 => (rng (r3) ∧ ((¬ r3 = 120 → wX9_numbered_23 (0) S2 K) ∧ ((¬ (¬ r3 = 120)) → wX9_numbered_23 (1) S2 K)))))))
set_option maxRecDepth 100000 in
set_option maxHeartbeats 4000000 in
theorem lX9_numbered {G : xG} {v : Nat → Nat} {sh : Nat → Option Sh} {B : Nat × Nat} {c0 : List va_E}  {S : St} {cs : List va_E} {K : Int → St → Prop} (d : Nat) (hd : 1 ≤ d) (hT : sb shC sh) (hS : ∀ b x, sh b = some x → ¬ isS b) (hU : sb shXT sh) (hW : Wv G v sh B c0 S cs)  (hw : wX9_numbered  S K) : X G yX9_numbered cX9_numbered 7 (some .int) d [.ref (G.1 + v 220)] cs (vI G v sh B c0 K) := by
  refine X.of false (by decide +kernel) (by decide) (Nat.le_of_ble_eq_true rfl) ?_
  show Z (RX9, cX9_numbered, 7, some .int, false) G d _ 0 [(0, .ref (G.1 + v 220))] [] cs
  have hP : ∀ (x : Int) (S : St) (cs : List va_E), K x S → Wv G v sh B c0 S cs → vI G v sh B c0 K (some (.int (Int32.ofInt x))) cs := fun x S cs a b => ⟨x, S, rfl, a, b⟩
  unfold wX9_numbered at hw
  refine z_aload_n dX9_numbered_0 rfl rfl ?_
  refine v_getR hW (hU 220 _ rfl) rfl kX9 fX9_24 dX9_numbered_1 ?_
  refine z_aload_n dX9_numbered_4 rfl rfl ?_
  have q1 : iv (-2147483648) 2147483647 (S.1 220 3) := hW.iI 220 3
  have hw := hw q1
  refine v_getI hW (hU 220 _ rfl) rfl kX9 fX9_9 dX9_numbered_5 ?_
  refine z_iconst (v := Int32.ofInt 2) dX9_numbered_8 rfl ?_
  refine i_iadd dX9_numbered_9 ?_
  obtain ⟨q4, hw⟩ := hw
  have hX := lX5_at 0 (Nat.le_refl _) hW (show isS 1 by unfold isS; decide) (fun b x h e => hS b x h (e ▸ (show isS 1 by unfold isS; decide))) q4 hw
  refine z_callV (As := [_]) eX5_at sX5_at lX9_47 rfl dX9_numbered_10 (hW.sg (show isS 1 by unfold isS; decide) (fun b x h e => hS b x h (e ▸ (show isS 1 by unfold isS; decide)))).choose_spec.choose_spec.choose_spec.choose_spec.1.choose_spec.1 hX (Nat.le_trans (by decide) hd) rfl (Nat.le_of_ble_eq_true rfl) (fun r cs hp => ?_)
  obtain ⟨r3, S2, rfl, hw, hW⟩ := hp
  refine z_st (st' := [.int (Int32.ofInt (r3))]) rfl ?_
  refine z_bipush (v := Int32.ofInt 120) dX9_numbered_13 (by decide) ?_
  obtain ⟨q6, hw⟩ := hw
  refine i_icmp_ne (tgt := 22) dX9_numbered_15 (by decide) q6 ⟨by decide, by decide⟩ (fun h5 => ?_) (fun h5 => ?_)
  · have hw := hw.1 h5
    refine z_iconst (v := Int32.ofInt 0) dX9_numbered_22 rfl ?_
    refine z_loc (L' := [(0, .ref (G.1 + v 220))]) (List.forall_mem_cons.mpr ⟨rfl, (fun _ h => nomatch h)⟩) ?_
    exact ubX9_numbered_23 hd hT hS hU hW hP  hw
  · have hw := hw.2 h5
    refine z_iconst (v := Int32.ofInt 1) dX9_numbered_18 rfl ?_
    refine z_goto (tgt := 23) dX9_numbered_19 (by decide) ?_
    refine z_loc (L' := [(0, .ref (G.1 + v 220))]) (List.forall_mem_cons.mpr ⟨rfl, (fun _ h => nomatch h)⟩) ?_
    exact ubX9_numbered_23 hd hT hS hU hW hP  hw

