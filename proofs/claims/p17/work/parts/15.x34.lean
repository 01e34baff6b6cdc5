def wX1_size_b  (S : St) (K : Int → St → Prop) : Prop := (iv 0 30 (S.1 46 3) → K (S.1 46 3) S)
set_option maxRecDepth 100000 in
set_option maxHeartbeats 4000000 in
theorem lX1_size_b {G : xG} {v : Nat → Nat} {sh : Nat → Option Sh} {B : Nat × Nat} {c0 : List va_E}  {S : St} {cs : List va_E} {K : Int → St → Prop} (d : Nat) (hd : 0 ≤ d) (hT : sb shC sh) (hS : ∀ b x, sh b = some x → ¬ isS b) (hW : Wv G v sh B c0 S cs)  (hw : wX1_size_b  S K) : X G yX1_size cX1_size 1 (some .int) d [.ref (G.1 + v 46)] cs (vI G v sh B c0 K) := by
  refine X.of false (by decide +kernel) (by decide) (Nat.le_of_ble_eq_true rfl) ?_
  show Z (RX1, cX1_size, 1, some .int, false) G d _ 0 [(0, .ref (G.1 + v 46))] [] cs
  have hP : ∀ (x : Int) (S : St) (cs : List va_E), K x S → Wv G v sh B c0 S cs → vI G v sh B c0 K (some (.int (Int32.ofInt x))) cs := fun x S cs a b => ⟨x, S, rfl, a, b⟩
  unfold wX1_size_b at hw
  refine z_aload_n dX1_size_0 rfl rfl ?_
  have q1 : iv 0 30 (S.1 46 3) := hW.iI 46 3
  have hw := hw q1
  refine v_getI hW (hT 46 _ rfl) rfl kX1 fX1_21 dX1_size_1 ?_
  exact z_ireturn dX1_size_4 rfl rfl (hP _ _ _ hw hW)

def wX1_clear_c  (S : St) (K : Int → St → Prop) : Prop := (∀ S1, S1 = pI S 46 3 (0) → K 0 S1)
set_option maxRecDepth 100000 in
set_option maxHeartbeats 4000000 in
theorem lX1_clear_c {G : xG} {v : Nat → Nat} {sh : Nat → Option Sh} {B : Nat × Nat} {c0 : List va_E}  {S : St} {cs : List va_E} {K : Int → St → Prop} (d : Nat) (hd : 0 ≤ d) (hT : sb shC sh) (hS : ∀ b x, sh b = some x → ¬ isS b) (hW : Wv G v sh B c0 S cs)  (hw : wX1_clear_c  S K) : X G yX1_clear cX1_clear 1 none d [.ref (G.1 + v 46)] cs (vV G v sh B c0 K) := by
  refine X.of false (by decide +kernel) (by decide) (Nat.le_of_ble_eq_true rfl) ?_
  show Z (RX1, cX1_clear, 1, none, false) G d _ 0 [(0, .ref (G.1 + v 46))] [] cs
  have hP : ∀ (x : Int) (S : St) (cs : List va_E), K x S → Wv G v sh B c0 S cs → vV G v sh B c0 K (none) cs := fun x S cs a b => ⟨x, S, rfl, a, b⟩
  unfold wX1_clear_c at hw
  refine z_aload_n dX1_clear_0 rfl rfl ?_
  refine z_iconst (v := Int32.ofInt 0) dX1_clear_1 rfl ?_
  refine v_putI hW (hT 46 _ rfl) (by decide) (by unfold isS; decide) rfl kX1 fX1_21 dX1_clear_2 rfl rfl rfl ⟨by decide, by decide⟩ (fun cs hW => ?_)
  obtain ⟨S1, hS1⟩ : ∃ x, x = pI S 46 3 (0) := ⟨_, rfl⟩
  rw [← hS1] at hW
  have hw := hw S1 hS1
  exact z_return dX1_clear_5 rfl (hP 0 _ _ hw hW)

def wX4_forbiddenSize_24  (l1 l2 : Int) (S : St) (K : Int → St → Prop) (B4 : Int → Int → St → Prop) : Prop := B4 (l1) ((l2 + 1)) S
set_option maxRecDepth 100000 in
set_option maxHeartbeats 4000000 in
theorem ubX4_forbiddenSize_24 {G : xG} {v : Nat → Nat} {sh : Nat → Option Sh} {B : Nat × Nat} {c0 : List va_E} {d : Nat} {Post : xP} {l1 l2 : Int} {S : St} {cs : List va_E} {K : Int → St → Prop} {B4 : Int → Int → St → Prop} (hd : 0 ≤ d) (hT : sb shC sh) (hS : ∀ b x, sh b = some x → ¬ isS b) (hW : Wv G v sh B c0 S cs) (hP : ∀ (x : Int) (S : St) (cs : List va_E), K x S → Wv G v sh B c0 S cs → Post (some (.int (Int32.ofInt x))) cs) (hB4 : ∀ (l1 : Int) (l2 : Int) (S : St) (cs : List va_E), B4 l1 l2 S → Wv G v sh B c0 S cs → Z (RX4, cX4_forbiddenSize, 3, some .int, false) G d Post 4 [(0, .ref (G.1 + v 24)), (1, .int (Int32.ofInt (l1))), (2, .int (Int32.ofInt (l2)))] [] cs) (hw : wX4_forbiddenSize_24 l1 l2 S K B4) : Z (RX4, cX4_forbiddenSize, 3, some .int, false) G d Post 24 [(0, .ref (G.1 + v 24)), (1, .int (Int32.ofInt (l1))), (2, .int (Int32.ofInt (l2)))] [] cs := by
  unfold wX4_forbiddenSize_24 at hw
  refine i_iinc (l := l2) dX4_forbiddenSize_24 rfl (by decide) ?_
  refine z_loc (L' := [(0, .ref (G.1 + v 24)), (1, .int (Int32.ofInt (l1))), (2, .int (Int32.ofInt ((l2 + 1))))]) (List.forall_mem_cons.mpr ⟨rfl, (List.forall_mem_cons.mpr ⟨rfl, (List.forall_mem_cons.mpr ⟨rfl, (fun _ h => nomatch h)⟩)⟩)⟩) ?_
  refine z_goto (tgt := 4) dX4_forbiddenSize_27 (by decide) ?_
  refine z_loc (L' := [(0, .ref (G.1 + v 24)), (1, .int (Int32.ofInt (l1))), (2, .int (Int32.ofInt ((l2 + 1))))]) (List.forall_mem_cons.mpr ⟨rfl, (List.forall_mem_cons.mpr ⟨rfl, (List.forall_mem_cons.mpr ⟨rfl, (fun _ h => nomatch h)⟩)⟩)⟩) ?_
  exact hB4 _ _ _ _ hw hW
def wX4_forbiddenSize_4'  (l1 l2 : Int) (S : St) (K : Int → St → Prop) (B4 : Int → Int → St → Prop) : Prop := (iv 0 6 (S.1 24 8) → (rng (l2) ∧ ((S.1 24 8 ≤ l2 → K (l1) S) ∧ ((¬ (S.1 24 8 ≤ l2)) → ((0 : Int) ≤ l2 ∧ l2 < (6 : Int) ∧ (iv 0 1 (S.2 32 (l2)) → ((S.2 32 (l2) = 0 → wX4_forbiddenSize_24 (l1) (l2) S K B4) ∧ ((¬ (S.2 32 (l2) = 0)) → wX4_forbiddenSize_24 ((l1 + 1)) (l2) S K B4))))))))
set_option maxRecDepth 100000 in
set_option maxHeartbeats 4000000 in
theorem ubX4_forbiddenSize_4' {G : xG} {v : Nat → Nat} {sh : Nat → Option Sh} {B : Nat × Nat} {c0 : List va_E} {d : Nat} {Post : xP} {l1 l2 : Int} {S : St} {cs : List va_E} {K : Int → St → Prop} {B4 : Int → Int → St → Prop} (hd : 0 ≤ d) (hT : sb shC sh) (hS : ∀ b x, sh b = some x → ¬ isS b) (hW : Wv G v sh B c0 S cs) (hP : ∀ (x : Int) (S : St) (cs : List va_E), K x S → Wv G v sh B c0 S cs → Post (some (.int (Int32.ofInt x))) cs) (hB4 : ∀ (l1 : Int) (l2 : Int) (S : St) (cs : List va_E), B4 l1 l2 S → Wv G v sh B c0 S cs → Z (RX4, cX4_forbiddenSize, 3, some .int, false) G d Post 4 [(0, .ref (G.1 + v 24)), (1, .int (Int32.ofInt (l1))), (2, .int (Int32.ofInt (l2)))] [] cs) (hw : wX4_forbiddenSize_4' l1 l2 S K B4) : Z (RX4, cX4_forbiddenSize, 3, some .int, false) G d Post 4 [(0, .ref (G.1 + v 24)), (1, .int (Int32.ofInt (l1))), (2, .int (Int32.ofInt (l2)))] [] cs := by
  unfold wX4_forbiddenSize_4' at hw
  refine z_iload_n dX4_forbiddenSize_4 rfl rfl ?_
  refine z_aload_n dX4_forbiddenSize_5 rfl rfl ?_
  have q1 : iv 0 6 (S.1 24 8) := hW.iI 24 8
  have hw := hw q1
  refine v_getI hW (hT 24 _ rfl) rfl kX4 fX4_38 dX4_forbiddenSize_6 ?_
  obtain ⟨q3, hw⟩ := hw
  refine i_icmp_ge (tgt := 30) dX4_forbiddenSize_9 (by decide) q3 (rngq q1 (by decide) (by decide)) (fun h2 => ?_) (fun h2 => ?_)
  · have hw := hw.1 h2
    refine z_iload_n dX4_forbiddenSize_30 rfl rfl ?_
    exact z_ireturn dX4_forbiddenSize_31 rfl rfl (hP _ _ _ hw hW)
  · have hw := hw.2 h2
    refine z_aload_n dX4_forbiddenSize_12 rfl rfl ?_
    refine v_getR hW (hT 24 _ rfl) rfl kX4 fX4_35 dX4_forbiddenSize_13 ?_
    refine z_iload_n dX4_forbiddenSize_16 rfl rfl ?_
    obtain ⟨q4a, q4b, hw⟩ := hw
    have q5 : iv 0 1 (S.2 32 (l2)) := hW.iA 32 _
    have hw := hw q5
    refine v_zald hW (hT 32 _ rfl) q4a q4b (by decide) dX4_forbiddenSize_17 ?_
    refine i_if_eq (tgt := 24) dX4_forbiddenSize_18 (by decide) (rngq q5 (by decide) (by decide)) (fun h6 => ?_) (fun h6 => ?_)
    · have hw := hw.1 h6
      refine z_loc (L' := [(0, .ref (G.1 + v 24)), (1, .int (Int32.ofInt (l1))), (2, .int (Int32.ofInt (l2)))]) (List.forall_mem_cons.mpr ⟨rfl, (List.forall_mem_cons.mpr ⟨rfl, (List.forall_mem_cons.mpr ⟨rfl, (fun _ h => nomatch h)⟩)⟩)⟩) ?_
      exact ubX4_forbiddenSize_24 hd hT hS hW hP hB4 hw
    · have hw := hw.2 h6
      refine i_iinc (l := l1) dX4_forbiddenSize_21 rfl (by decide) ?_
      refine z_loc (L' := [(0, .ref (G.1 + v 24)), (1, .int (Int32.ofInt ((l1 + 1)))), (2, .int (Int32.ofInt (l2)))]) (List.forall_mem_cons.mpr ⟨rfl, (List.forall_mem_cons.mpr ⟨rfl, (List.forall_mem_cons.mpr ⟨rfl, (fun _ h => nomatch h)⟩)⟩)⟩) ?_
      refine z_loc (L' := [(0, .ref (G.1 + v 24)), (1, .int (Int32.ofInt ((l1 + 1)))), (2, .int (Int32.ofInt (l2)))]) (List.forall_mem_cons.mpr ⟨rfl, (List.forall_mem_cons.mpr ⟨rfl, (List.forall_mem_cons.mpr ⟨rfl, (fun _ h => nomatch h)⟩)⟩)⟩) ?_
      exact ubX4_forbiddenSize_24 hd hT hS hW hP hB4 hw
def wX4_forbiddenSize_4  (l1 l2 : Int) (S : St) (K : Int → St → Prop) : Prop := ∃ (Iv : Int → Int → St → Prop) (mu : Int → Int → St → Nat), Iv l1 l2 S ∧ ∀ (l1 l2 : Int) (S : St), Iv l1 l2 S → wX4_forbiddenSize_4' l1 l2 S K  (fun ml1 ml2 T => Iv ml1 ml2 T ∧ mu ml1 ml2 T < mu l1 l2 S)
set_option maxRecDepth 100000 in
set_option maxHeartbeats 4000000 in
theorem ubX4_forbiddenSize_4 {G : xG} {v : Nat → Nat} {sh : Nat → Option Sh} {B : Nat × Nat} {c0 : List va_E} {d : Nat} {Post : xP} {l1 l2 : Int} {S : St} {cs : List va_E} {K : Int → St → Prop} (hd : 0 ≤ d) (hT : sb shC sh) (hS : ∀ b x, sh b = some x → ¬ isS b) (hW : Wv G v sh B c0 S cs) (hP : ∀ (x : Int) (S : St) (cs : List va_E), K x S → Wv G v sh B c0 S cs → Post (some (.int (Int32.ofInt x))) cs)  (hw : wX4_forbiddenSize_4 l1 l2 S K ) : Z (RX4, cX4_forbiddenSize, 3, some .int, false) G d Post 4 [(0, .ref (G.1 + v 24)), (1, .int (Int32.ofInt (l1))), (2, .int (Int32.ofInt (l2)))] [] cs := by
  unfold wX4_forbiddenSize_4 at hw
  obtain ⟨Iv, mu, h0, hs⟩ := hw
  have key : ∀ (n : Nat) (l1 l2 : Int) (S : St) (cs : List va_E), mu l1 l2 S < n → Iv l1 l2 S → Wv G v sh B c0 S cs → Z (RX4, cX4_forbiddenSize, 3, some .int, false) G d Post 4 [(0, .ref (G.1 + v 24)), (1, .int (Int32.ofInt (l1))), (2, .int (Int32.ofInt (l2)))] [] cs := by
    intro n
    induction n with
    | zero => intro l1 l2 S cs hn; exact absurd hn (Nat.not_lt_zero _)
    | succ n ih =>
      intro l1 l2 S cs hn hI hW
      exact ubX4_forbiddenSize_4' hd hT hS hW hP  (fun l1 l2 S cs hb hW => ih l1 l2 S cs (Nat.lt_of_lt_of_le hb.2 (Nat.le_of_lt_succ hn)) hb.1 hW) (hs l1 l2 S hI)
  exact key _ _ _ _ _ (Nat.lt_succ_self _) h0 hW
def wX4_forbiddenSize  (S : St) (K : Int → St → Prop) : Prop := wX4_forbiddenSize_4 (0) (0) S K
set_option maxRecDepth 100000 in
set_option maxHeartbeats 4000000 in
theorem lX4_forbiddenSize {G : xG} {v : Nat → Nat} {sh : Nat → Option Sh} {B : Nat × Nat} {c0 : List va_E}  {S : St} {cs : List va_E} {K : Int → St → Prop} (d : Nat) (hd : 0 ≤ d) (hT : sb shC sh) (hS : ∀ b x, sh b = some x → ¬ isS b) (hW : Wv G v sh B c0 S cs)  (hw : wX4_forbiddenSize  S K) : X G yX4_forbiddenSize cX4_forbiddenSize 3 (some .int) d [.ref (G.1 + v 24)] cs (vI G v sh B c0 K) := by
  refine X.of false (by decide +kernel) (by decide) (Nat.le_of_ble_eq_true rfl) ?_
  show Z (RX4, cX4_forbiddenSize, 3, some .int, false) G d _ 0 [(0, .ref (G.1 + v 24))] [] cs
  have hP : ∀ (x : Int) (S : St) (cs : List va_E), K x S → Wv G v sh B c0 S cs → vI G v sh B c0 K (some (.int (Int32.ofInt x))) cs := fun x S cs a b => ⟨x, S, rfl, a, b⟩
  unfold wX4_forbiddenSize at hw
  refine z_iconst (v := Int32.ofInt 0) dX4_forbiddenSize_0 rfl ?_
  refine z_istore_n dX4_forbiddenSize_1 rfl (by decide) ?_
  refine z_loc (L' := [(0, .ref (G.1 + v 24)), (1, .int (Int32.ofInt (0)))]) (List.forall_mem_cons.mpr ⟨rfl, (List.forall_mem_cons.mpr ⟨rfl, (fun _ h => nomatch h)⟩)⟩) ?_
  refine z_iconst (v := Int32.ofInt 0) dX4_forbiddenSize_2 rfl ?_
  refine z_istore_n dX4_forbiddenSize_3 rfl (by decide) ?_
  refine z_loc (L' := [(0, .ref (G.1 + v 24)), (1, .int (Int32.ofInt (0))), (2, .int (Int32.ofInt (0)))]) (List.forall_mem_cons.mpr ⟨rfl, (List.forall_mem_cons.mpr ⟨rfl, (List.forall_mem_cons.mpr ⟨rfl, (fun _ h => nomatch h)⟩)⟩)⟩) ?_
  refine z_loc (L' := [(0, .ref (G.1 + v 24)), (1, .int (Int32.ofInt (0))), (2, .int (Int32.ofInt (0)))]) (List.forall_mem_cons.mpr ⟨rfl, (List.forall_mem_cons.mpr ⟨rfl, (List.forall_mem_cons.mpr ⟨rfl, (fun _ h => nomatch h)⟩)⟩)⟩) ?_
  exact ubX4_forbiddenSize_4 hd hT hS hW hP  hw

def wX10_count  (a1 : Int) (S : St) (K : Int → St → Prop) : Prop := rng a1 → ((¬ (0 ≤ a1 ∧ a1 ≤ 5) → K ((-1)) S) ∧ ((a1 = 0 → (wX4_size S (fun r3 S2 => K (r3) S2))) ∧ ((a1 = 1 → (wX1_size S (fun r5 S4 => K (r5) S4))) ∧ ((a1 = 2 → (wX1_size_b S (fun r7 S6 => K (r7) S6))) ∧ ((a1 = 3 → (wX5_length 20 S (fun r9 S8 => K (r9) S8))) ∧ ((a1 = 4 → (wX5_length 1 S (fun r11 S10 => K (r11) S10))) ∧ (a1 = 5 → (wX4_forbiddenSize S (fun r13 S12 => K (r13) S12)))))))))
set_option maxRecDepth 100000 in
set_option maxHeartbeats 4000000 in
theorem lX10_count {G : xG} {v : Nat → Nat} {sh : Nat → Option Sh} {B : Nat × Nat} {c0 : List va_E}  {a1 : Int} {S : St} {cs : List va_E} {K : Int → St → Prop} (d : Nat) (hd : 1 ≤ d) (hT : sb shC sh) (hS : ∀ b x, sh b = some x → ¬ isS b) (hW : Wv G v sh B c0 S cs) (g1 : rng a1) (hw : wX10_count a1 S K) : X G yX10_count cX10_count 2 (some .int) d [.ref (G.1 + v 0), .int (Int32.ofInt a1)] cs (vI G v sh B c0 K) := by
  refine X.of false (by decide +kernel) (by decide) (Nat.le_of_ble_eq_true rfl) ?_
  show Z (RX10, cX10_count, 2, some .int, false) G d _ 0 [(0, .ref (G.1 + v 0)), (1, .int (Int32.ofInt a1))] [] cs
  have hP : ∀ (x : Int) (S : St) (cs : List va_E), K x S → Wv G v sh B c0 S cs → vI G v sh B c0 K (some (.int (Int32.ofInt x))) cs := fun x S cs a b => ⟨x, S, rfl, a, b⟩
  unfold wX10_count at hw
  have hw := hw g1
  refine z_iload_n dX10_count_0 rfl rfl ?_
  rcases (show (¬ (0 ≤ a1 ∧ a1 ≤ 5)) ∨ a1 = 0 ∨ a1 = 1 ∨ a1 = 2 ∨ a1 = 3 ∨ a1 = 4 ∨ a1 = 5 by omega) with h1 | h1 | h1 | h1 | h1 | h1 | h1
  · have hw := hw.1 h1
    refine i_tableOut (tgt := 88) dX10_count_1 g1 h1 (by decide) ?_
    refine z_iconst (v := Int32.ofInt (-1)) dX10_count_88 rfl ?_
    exact z_ireturn dX10_count_89 rfl rfl (hP _ _ _ hw hW)
  · have hw := hw.2.1 h1
    refine i_tableIn (c := 0) (off := 39) (tgt := 40) dX10_count_1 h1 ⟨by decide, by decide⟩ (by decide) (by decide) rfl (by decide) ?_
    refine z_aload_n dX10_count_40 rfl rfl ?_
    refine v_getR hW (hT 0 _ rfl) rfl kX10 fX10_32 dX10_count_41 ?_
    have hX := lX4_size 0 (Nat.le_refl _) hT hS hW  hw
    refine z_callV (As := []) eX4_size sX4_size lX10_76 rfl dX10_count_44 (hW.at (hT 24 _ rfl)) hX (Nat.le_trans (by decide) hd) rfl (Nat.le_of_ble_eq_true rfl) (fun r cs hp => ?_)
    obtain ⟨r3, S2, rfl, hw, hW⟩ := hp
    refine z_st (st' := [.int (Int32.ofInt (r3))]) rfl ?_
    exact z_ireturn dX10_count_47 rfl rfl (hP _ _ _ hw hW)
  · have hw := hw.2.2.1 h1
    refine i_tableIn (c := 1) (off := 47) (tgt := 48) dX10_count_1 h1 ⟨by decide, by decide⟩ (by decide) (by decide) rfl (by decide) ?_
    refine z_aload_n dX10_count_48 rfl rfl ?_
    refine v_getR hW (hT 0 _ rfl) rfl kX10 fX10_42 dX10_count_49 ?_
    have hX := lX1_size 0 (Nat.le_refl _) hT hS hW  hw
    refine z_callV (As := []) eX1_size sX1_size lX10_158 rfl dX10_count_52 (hW.at (hT 42 _ rfl)) hX (Nat.le_trans (by decide) hd) rfl (Nat.le_of_ble_eq_true rfl) (fun r cs hp => ?_)
    obtain ⟨r5, S4, rfl, hw, hW⟩ := hp
    refine z_st (st' := [.int (Int32.ofInt (r5))]) rfl ?_
    exact z_ireturn dX10_count_55 rfl rfl (hP _ _ _ hw hW)
  · have hw := hw.2.2.2.1 h1
    refine i_tableIn (c := 2) (off := 55) (tgt := 56) dX10_count_1 h1 ⟨by decide, by decide⟩ (by decide) (by decide) rfl (by decide) ?_
    refine z_aload_n dX10_count_56 rfl rfl ?_
    refine v_getR hW (hT 0 _ rfl) rfl kX10 fX10_46 dX10_count_57 ?_
    have hX := lX1_size_b 0 (Nat.le_refl _) hT hS hW  hw
    refine z_callV (As := []) eX1_size sX1_size lX10_158 rfl dX10_count_60 (hW.at (hT 46 _ rfl)) hX (Nat.le_trans (by decide) hd) rfl (Nat.le_of_ble_eq_true rfl) (fun r cs hp => ?_)
    obtain ⟨r7, S6, rfl, hw, hW⟩ := hp
    refine z_st (st' := [.int (Int32.ofInt (r7))]) rfl ?_
    exact z_ireturn dX10_count_63 rfl rfl (hP _ _ _ hw hW)
  · have hw := hw.2.2.2.2.1 h1
    refine i_tableIn (c := 3) (off := 63) (tgt := 64) dX10_count_1 h1 ⟨by decide, by decide⟩ (by decide) (by decide) rfl (by decide) ?_
    refine z_aload_n dX10_count_64 rfl rfl ?_
    refine v_getR hW (hT 0 _ rfl) rfl kX10 fX10_23 dX10_count_65 ?_
    have hX := lX5_length 0 (Nat.le_refl _) hW (show isS 20 by unfold isS; decide) (fun b x h e => hS b x h (e ▸ (show isS 20 by unfold isS; decide)))  hw
    refine z_callV (As := []) eX5_length sX5_length lX10_101 rfl dX10_count_68 (hW.sg (show isS 20 by unfold isS; decide) (fun b x h e => hS b x h (e ▸ (show isS 20 by unfold isS; decide)))).choose_spec.choose_spec.choose_spec.choose_spec.1.choose_spec.1 hX (Nat.le_trans (by decide) hd) rfl (Nat.le_of_ble_eq_true rfl) (fun r cs hp => ?_)
    obtain ⟨r9, S8, rfl, hw, hW⟩ := hp
    refine z_st (st' := [.int (Int32.ofInt (r9))]) rfl ?_
    exact z_ireturn dX10_count_71 rfl rfl (hP _ _ _ hw hW)
  · have hw := hw.2.2.2.2.2.1 h1
    refine i_tableIn (c := 4) (off := 71) (tgt := 72) dX10_count_1 h1 ⟨by decide, by decide⟩ (by decide) (by decide) rfl (by decide) ?_
    refine z_aload_n dX10_count_72 rfl rfl ?_
    refine v_getR hW (hT 0 _ rfl) rfl kX10 fX10_12 dX10_count_73 ?_
    have hX := lX5_length 0 (Nat.le_refl _) hW (show isS 1 by unfold isS; decide) (fun b x h e => hS b x h (e ▸ (show isS 1 by unfold isS; decide)))  hw
    refine z_callV (As := []) eX5_length sX5_length lX10_101 rfl dX10_count_76 (hW.sg (show isS 1 by unfold isS; decide) (fun b x h e => hS b x h (e ▸ (show isS 1 by unfold isS; decide)))).choose_spec.choose_spec.choose_spec.choose_spec.1.choose_spec.1 hX (Nat.le_trans (by decide) hd) rfl (Nat.le_of_ble_eq_true rfl) (fun r cs hp => ?_)
    obtain ⟨r11, S10, rfl, hw, hW⟩ := hp
    refine z_st (st' := [.int (Int32.ofInt (r11))]) rfl ?_
    exact z_ireturn dX10_count_79 rfl rfl (hP _ _ _ hw hW)
  · have hw := hw.2.2.2.2.2.2 h1
    refine i_tableIn (c := 5) (off := 79) (tgt := 80) dX10_count_1 h1 ⟨by decide, by decide⟩ (by decide) (by decide) rfl (by decide) ?_
    refine z_aload_n dX10_count_80 rfl rfl ?_
    refine v_getR hW (hT 0 _ rfl) rfl kX10 fX10_32 dX10_count_81 ?_
    have hX := lX4_forbiddenSize 0 (Nat.le_refl _) hT hS hW  hw
    refine z_callV (As := []) eX4_forbiddenSize sX4_forbiddenSize lX10_184 rfl dX10_count_84 (hW.at (hT 24 _ rfl)) hX (Nat.le_trans (by decide) hd) rfl (Nat.le_of_ble_eq_true rfl) (fun r cs hp => ?_)
    obtain ⟨r13, S12, rfl, hw, hW⟩ := hp
    refine z_st (st' := [.int (Int32.ofInt (r13))]) rfl ?_
    exact z_ireturn dX10_count_87 rfl rfl (hP _ _ _ hw hW)

def wX10_isHeap  (a1 : Int) (S : St) (K : Int → St → Prop) : Prop := rng a1 → ((a1 = 0 → K (1) S) ∧ ((¬ (a1 = 0)) → ((¬ a1 = 1 → K (0) S) ∧ ((¬ (¬ a1 = 1)) → K (1) S))))
set_option maxRecDepth 100000 in
set_option maxHeartbeats 4000000 in
theorem lX10_isHeap {G : xG} {v : Nat → Nat} {sh : Nat → Option Sh} {B : Nat × Nat} {c0 : List va_E}  {a1 : Int} {S : St} {cs : List va_E} {K : Int → St → Prop} (d : Nat) (hd : 0 ≤ d) (hT : sb shC sh) (hS : ∀ b x, sh b = some x → ¬ isS b) (hW : Wv G v sh B c0 S cs) (g1 : rng a1) (hw : wX10_isHeap a1 S K) : X G yX10_isHeap cX10_isHeap 1 (some .boolean) d [.int (Int32.ofInt a1)] cs (vI G v sh B c0 K) := by
  refine X.of false (by decide +kernel) (by decide) (Nat.le_of_ble_eq_true rfl) ?_
  show Z (RX10, cX10_isHeap, 1, some .boolean, false) G d _ 0 [(0, .int (Int32.ofInt a1))] [] cs
  have hP : ∀ (x : Int) (S : St) (cs : List va_E), K x S → Wv G v sh B c0 S cs → vI G v sh B c0 K (some (.int (Int32.ofInt x))) cs := fun x S cs a b => ⟨x, S, rfl, a, b⟩
  unfold wX10_isHeap at hw
  have hw := hw g1
  refine z_iload_n dX10_isHeap_0 rfl rfl ?_
  refine i_if_eq (tgt := 9) dX10_isHeap_1 (by decide) g1 (fun h1 => ?_) (fun h1 => ?_)
  · have hw := hw.1 h1
    refine z_iconst (v := Int32.ofInt 1) dX10_isHeap_9 rfl ?_
    refine z_goto (tgt := 14) dX10_isHeap_10 (by decide) ?_
    exact z_ireturn dX10_isHeap_14 rfl (nar01 (by decide)) (hP _ _ _ hw hW)
  · have hw := hw.2 h1
    refine z_iload_n dX10_isHeap_4 rfl rfl ?_
    refine z_iconst (v := Int32.ofInt 1) dX10_isHeap_5 rfl ?_
    refine i_icmp_ne (tgt := 13) dX10_isHeap_6 (by decide) g1 ⟨by decide, by decide⟩ (fun h2 => ?_) (fun h2 => ?_)
    · have hw := hw.1 h2
      refine z_iconst (v := Int32.ofInt 0) dX10_isHeap_13 rfl ?_
      exact z_ireturn dX10_isHeap_14 rfl (nar01 (by decide)) (hP _ _ _ hw hW)
    · have hw := hw.2 h2
      refine z_iconst (v := Int32.ofInt 1) dX10_isHeap_9 rfl ?_
      refine z_goto (tgt := 14) dX10_isHeap_10 (by decide) ?_
      exact z_ireturn dX10_isHeap_14 rfl (nar01 (by decide)) (hP _ _ _ hw hW)

def wX10_shapeIn_b  (a1 a2 : Int) (S : St) (K : Int → St → Prop) : Prop := rng a1 → rng a2 → (wX1_has_c (a1) S (fun r2 S1 => (rng (r2) ∧ ((r2 = 0 → K (0) S1) ∧ ((¬ (r2 = 0)) → (wX1_classOf_c (a1) S1 (fun r6 S5 => (rng (r6) ∧ (wX4_shape (r6) (a2) S5 (fun r8 S7 => K (r8) S7))))))))))
set_option maxRecDepth 100000 in
set_option maxHeartbeats 4000000 in
theorem lX10_shapeIn_b {G : xG} {v : Nat → Nat} {sh : Nat → Option Sh} {B : Nat × Nat} {c0 : List va_E}  {a1 a2 : Int} {S : St} {cs : List va_E} {K : Int → St → Prop} (d : Nat) (hd : 2 ≤ d) (hT : sb shC sh) (hS : ∀ b x, sh b = some x → ¬ isS b) (hW : Wv G v sh B c0 S cs) (g1 : rng a1) (g2 : rng a2) (hw : wX10_shapeIn_b a1 a2 S K) : X G yX10_shapeIn cX10_shapeIn 4 (some .int) d [.ref (G.1 + v 0), .ref (G.1 + v 46), .int (Int32.ofInt a1), .int (Int32.ofInt a2)] cs (vI G v sh B c0 K) := by
  refine X.of false (by decide +kernel) (by decide) (Nat.le_of_ble_eq_true rfl) ?_
  show Z (RX10, cX10_shapeIn, 4, some .int, false) G d _ 0 [(0, .ref (G.1 + v 0)), (1, .ref (G.1 + v 46)), (2, .int (Int32.ofInt a1)), (3, .int (Int32.ofInt a2))] [] cs
  have hP : ∀ (x : Int) (S : St) (cs : List va_E), K x S → Wv G v sh B c0 S cs → vI G v sh B c0 K (some (.int (Int32.ofInt x))) cs := fun x S cs a b => ⟨x, S, rfl, a, b⟩
  unfold wX10_shapeIn_b at hw
  have hw := hw g1 g2
  refine z_aload_n dX10_shapeIn_0 rfl rfl ?_
  refine z_iload_n dX10_shapeIn_1 rfl rfl ?_
  have hX := lX1_has_c 0 (Nat.le_refl _) hT hS hW g1 hw
  refine z_callV (As := [_]) eX1_has sX1_has lX10_94 rfl dX10_shapeIn_2 (hW.at (hT 46 _ rfl)) hX (Nat.le_trans (by decide) hd) rfl (Nat.le_of_ble_eq_true rfl) (fun r cs hp => ?_)
  obtain ⟨r2, S1, rfl, hw, hW⟩ := hp
  refine z_st (st' := [.int (Int32.ofInt (r2))]) rfl ?_
  obtain ⟨q4, hw⟩ := hw
  refine i_if_eq (tgt := 24) dX10_shapeIn_5 (by decide) q4 (fun h3 => ?_) (fun h3 => ?_)
  · have hw := hw.1 h3
    refine z_iconst (v := Int32.ofInt 0) dX10_shapeIn_24 rfl ?_
    exact z_ireturn dX10_shapeIn_25 rfl rfl (hP _ _ _ hw hW)
  · have hw := hw.2 h3
    refine z_aload_n dX10_shapeIn_8 rfl rfl ?_
    refine v_getR hW (hT 0 _ rfl) rfl kX10 fX10_32 dX10_shapeIn_9 ?_
    refine z_aload_n dX10_shapeIn_12 rfl rfl ?_
    refine z_iload_n dX10_shapeIn_13 rfl rfl ?_
    have hX := lX1_classOf_c 1 (Nat.le_refl _) hT hS hW g1 hw
    refine z_callV (As := [_]) eX1_classOf sX1_classOf lX10_175 rfl dX10_shapeIn_14 (hW.at (hT 46 _ rfl)) hX (Nat.le_trans (by decide) hd) rfl (Nat.le_of_ble_eq_true rfl) (fun r cs hp => ?_)
    obtain ⟨r6, S5, rfl, hw, hW⟩ := hp
    refine z_st (st' := [.int (Int32.ofInt (r6)), .ref (G.1 + v 24)]) rfl ?_
    refine z_iload_n dX10_shapeIn_17 rfl rfl ?_
    obtain ⟨q9, hw⟩ := hw
    have hX := lX4_shape 1 (Nat.le_refl _) hT hS hW q9 g2 hw
    refine z_callV (As := [_, _]) eX4_shape sX4_shape lX10_187 rfl dX10_shapeIn_18 (hW.at (hT 24 _ rfl)) hX (Nat.le_trans (by decide) hd) rfl (Nat.le_of_ble_eq_true rfl) (fun r cs hp => ?_)
    obtain ⟨r8, S7, rfl, hw, hW⟩ := hp
    refine z_st (st' := [.int (Int32.ofInt (r8))]) rfl ?_
    refine z_goto (tgt := 25) dX10_shapeIn_21 (by decide) ?_
    exact z_ireturn dX10_shapeIn_25 rfl rfl (hP _ _ _ hw hW)

