def wX11_take_10' (l1 : Int) (S : St) (K : Int → St → Prop) (B10 : Int → St → Prop) : Prop := (iv 0 3000 (S.1 54 20) → (rng (l1) ∧ ((S.1 54 20 ≤ l1 → K (S.1 54 20) S) ∧ ((¬ (S.1 54 20 ≤ l1)) → ((0 : Int) ≤ l1 ∧ l1 < (3000 : Int) ∧ (iv (-2147483648) 2147483647 (S.2 71 (l1)) → ((0 : Int) ≤ l1 ∧ l1 < (3000 : Int) ∧ (∀ S7, S7 = pA S 55 (l1) (S.2 71 (l1)) → B10 ((l1 + 1)) S7))))))))
set_option maxRecDepth 100000 in
set_option maxHeartbeats 4000000 in
theorem bX11_take_10' {G : xG} {sh : Nat → Option Sh} {J : St → List va_E → Prop} {d : Nat} {Post : xP} {l1 : Int} {S : St} {cs : List va_E} {K : Int → St → Prop} {B10 : Int → St → Prop} (hd : 0 ≤ d) (hJ : Stb sh J) (hT : isM sh) (hW : Wd G sh mT J S cs) (hP : ∀ (v : Int) (S : St) (cs : List va_E), K v S → Wd G sh mT J S cs → Post (some (.int (Int32.ofInt v))) cs) (hB10 : ∀ (l1 : Int) (S : St) (cs : List va_E), B10 l1 S → Wd G sh mT J S cs → Z (RX11, cX11_take, 2, some .int, false) G d Post 10 [(0, .ref (G.1 + 54)), (1, .int (Int32.ofInt (l1)))] [] cs) (hw : wX11_take_10' l1 S K B10) : Z (RX11, cX11_take, 2, some .int, false) G d Post 10 [(0, .ref (G.1 + 54)), (1, .int (Int32.ofInt (l1)))] [] cs := by
  unfold wX11_take_10' at hw
  refine z_iload_n dX11_take_10 rfl rfl ?_
  refine z_aload_n dX11_take_11 rfl rfl ?_
  have q1 : iv 0 3000 (S.1 54 20) := mI20 hW
  have hw := hw q1
  refine g_getI hW hT.1 mr20 kX11 fX11_244 dX11_take_12 ?_
  obtain ⟨q3, hw⟩ := hw
  refine i_icmp_ge (tgt := 36) dX11_take_15 (by decide) q3 (rngq q1 (by decide) (by decide)) (fun h2 => ?_) (fun h2 => ?_)
  · have hw := hw.1 h2
    refine z_aload_n dX11_take_36 rfl rfl ?_
    refine g_getI hW hT.1 mr20 kX11 fX11_244 dX11_take_37 ?_
    exact z_ireturn dX11_take_40 rfl rfl (hP _ _ _ hw hW)
  · have hw := hw.2 h2
    refine z_aload_n dX11_take_18 rfl rfl ?_
    refine g_getR hW hT.1 mr1 kX11 fX11_7 dX11_take_19 ?_
    refine z_iload_n dX11_take_22 rfl rfl ?_
    refine z_aload_n dX11_take_23 rfl rfl ?_
    refine g_getR hW hT.1 mr21 kX11 fX11_63 dX11_take_24 ?_
    refine z_iload_n dX11_take_27 rfl rfl ?_
    obtain ⟨q4a, q4b, hw⟩ := hw
    have q5 : iv (-2147483648) 2147483647 (S.2 71 (l1)) := mA71 hW _
    have hw := hw q5
    refine g_iald hW (ma71 hT) q4a q4b (by decide) dX11_take_28 ?_
    obtain ⟨q6a, q6b, hw⟩ := hw
    refine g_iast hJ hW (ma55 hT) q6a q6b (by decide) q5 dX11_take_29 (fun cs hW => ?_)
    obtain ⟨S7, hS7⟩ : ∃ x, x = pA S 55 (l1) (S.2 71 (l1)) := ⟨_, rfl⟩
    rw [← hS7] at hW
    have hw := hw S7 hS7
    refine i_iinc (l := l1) dX11_take_30 rfl (by decide) ?_
    refine z_loc (L' := [(0, .ref (G.1 + 54)), (1, .int (Int32.ofInt ((l1 + 1))))]) (List.forall_mem_cons.mpr ⟨rfl, (List.forall_mem_cons.mpr ⟨rfl, (fun _ h => nomatch h)⟩)⟩) ?_
    refine z_goto (tgt := 10) dX11_take_33 (by decide) ?_
    refine z_loc (L' := [(0, .ref (G.1 + 54)), (1, .int (Int32.ofInt ((l1 + 1))))]) (List.forall_mem_cons.mpr ⟨rfl, (List.forall_mem_cons.mpr ⟨rfl, (fun _ h => nomatch h)⟩)⟩) ?_
    exact hB10 _ _ _ hw hW
def wX11_take_10 (l1 : Int) (S : St) (K : Int → St → Prop) : Prop := ∃ (Iv : Int → St → Prop) (mu : Int → St → Nat), Iv l1 S ∧ ∀ (l1 : Int) (S : St), Iv l1 S → wX11_take_10' l1 S K  (fun ml1 T => Iv ml1 T ∧ mu ml1 T < mu l1 S)
set_option maxRecDepth 100000 in
set_option maxHeartbeats 4000000 in
theorem bX11_take_10 {G : xG} {sh : Nat → Option Sh} {J : St → List va_E → Prop} {d : Nat} {Post : xP} {l1 : Int} {S : St} {cs : List va_E} {K : Int → St → Prop} (hd : 0 ≤ d) (hJ : Stb sh J) (hT : isM sh) (hW : Wd G sh mT J S cs) (hP : ∀ (v : Int) (S : St) (cs : List va_E), K v S → Wd G sh mT J S cs → Post (some (.int (Int32.ofInt v))) cs)  (hw : wX11_take_10 l1 S K ) : Z (RX11, cX11_take, 2, some .int, false) G d Post 10 [(0, .ref (G.1 + 54)), (1, .int (Int32.ofInt (l1)))] [] cs := by
  unfold wX11_take_10 at hw
  obtain ⟨Iv, mu, h0, hs⟩ := hw
  have key : ∀ (n : Nat) (l1 : Int) (S : St) (cs : List va_E), mu l1 S < n → Iv l1 S → Wd G sh mT J S cs → Z (RX11, cX11_take, 2, some .int, false) G d Post 10 [(0, .ref (G.1 + 54)), (1, .int (Int32.ofInt (l1)))] [] cs := by
    intro n
    induction n with
    | zero => intro l1 S cs hn; exact absurd hn (Nat.not_lt_zero _)
    | succ n ih =>
      intro l1 S cs hn hI hW
      exact bX11_take_10' hd hJ hT hW hP  (fun l1 S cs hb hW => ih l1 S cs (Nat.lt_of_lt_of_le hb.2 (Nat.le_of_lt_succ hn)) hb.1 hW) (hs l1 S hI)
  exact key _ _ _ _ (Nat.lt_succ_self _) h0 hW
def wX11_take (S : St) (K : Int → St → Prop) : Prop := (iv 0 3000 (S.1 54 20) → (∀ S2, S2 = pI S 54 0 (S.1 54 20) → wX11_take_10 (0) S2 K))
set_option maxRecDepth 100000 in
set_option maxHeartbeats 4000000 in
theorem lX11_take {G : xG} {sh : Nat → Option Sh} {J : St → List va_E → Prop} {S : St} {cs : List va_E} {K : Int → St → Prop} (d : Nat) (hd : 0 ≤ d) (hJ : Stb sh J) (hT : isM sh) (hW : Wd G sh mT J S cs)  (hw : wX11_take  S K) : X G yX11_take cX11_take 2 (some .int) d [.ref (G.1 + 54)] cs (qI G sh mT J K) := by
  refine X.of false (by decide +kernel) (by decide) (Nat.le_of_ble_eq_true rfl) ?_
  show Z (RX11, cX11_take, 2, some .int, false) G d _ 0 [(0, .ref (G.1 + 54))] [] cs
  have hP : ∀ (v : Int) (S : St) (cs : List va_E), K v S → Wd G sh mT J S cs → qI G sh mT J K (some (.int (Int32.ofInt v))) cs := fun v S cs a b => ⟨v, S, rfl, a, b⟩
  unfold wX11_take at hw
  refine z_aload_n dX11_take_0 rfl rfl ?_
  refine z_aload_n dX11_take_1 rfl rfl ?_
  have q1 : iv 0 3000 (S.1 54 20) := mI20 hW
  have hw := hw q1
  refine g_getI hW hT.1 mr20 kX11 fX11_244 dX11_take_2 ?_
  refine g_putI hJ hW hT.1 mr0 kX11 fX11_171 dX11_take_5 rfl rfl rfl q1 (fun cs hW => ?_)
  obtain ⟨S2, hS2⟩ : ∃ x, x = pI S 54 0 (S.1 54 20) := ⟨_, rfl⟩
  rw [← hS2] at hW
  have hw := hw S2 hS2
  refine z_iconst (v := Int32.ofInt 0) dX11_take_8 rfl ?_
  refine z_istore_n dX11_take_9 rfl (by decide) ?_
  refine z_loc (L' := [(0, .ref (G.1 + 54)), (1, .int (Int32.ofInt (0)))]) (List.forall_mem_cons.mpr ⟨rfl, (List.forall_mem_cons.mpr ⟨rfl, (fun _ h => nomatch h)⟩)⟩) ?_
  refine z_loc (L' := [(0, .ref (G.1 + 54)), (1, .int (Int32.ofInt (0)))]) (List.forall_mem_cons.mpr ⟨rfl, (List.forall_mem_cons.mpr ⟨rfl, (fun _ h => nomatch h)⟩)⟩) ?_
  exact bX11_take_10 hd hJ hT hW hP  hw

def wX11_text_93' (l4 l5 : Int) (S : St) (K : Int → St → Prop) (B93 : Int → Int → St → Prop) : Prop := (iv 0 3000 (S.1 54 0) → (rng (l5) ∧ ((S.1 54 0 ≤ l5 → (∀ S4, S4 = pI S 54 0 (0) → K (1) S4)) ∧ ((¬ (S.1 54 0 ≤ l5)) → ((0 : Int) ≤ l5 ∧ l5 < (3000 : Int) ∧ (iv (-2147483648) 2147483647 (S.2 55 (l5)) → ((0 : Int) ≤ ((20 * l4) + l5) ∧ ((20 * l4) + l5) < (7200 : Int) ∧ (∀ S8, S8 = pA S 70 (((20 * l4) + l5)) (S.2 55 (l5)) → B93 (l4) ((l5 + 1)) S8))))))))
set_option maxRecDepth 100000 in
set_option maxHeartbeats 4000000 in
theorem bX11_text_93' {G : xG} {sh : Nat → Option Sh} {J : St → List va_E → Prop} {d : Nat} {Post : xP} {l4 l5 : Int} {S : St} {cs : List va_E} {K : Int → St → Prop} {B93 : Int → Int → St → Prop} (hd : 2 ≤ d) (hJ : Stb sh J) (hT : isM sh) (hW : Wd G sh mT J S cs) (hP : ∀ (v : Int) (S : St) (cs : List va_E), K v S → Wd G sh mT J S cs → Post (some (.int (Int32.ofInt v))) cs) (hB93 : ∀ (l4 : Int) (l5 : Int) (S : St) (cs : List va_E), B93 l4 l5 S → Wd G sh mT J S cs → Z (RX11, cX11_text, 6, some .boolean, false) G d Post 93 [(0, .ref (G.1 + 54)), (4, .int (Int32.ofInt (l4))), (5, .int (Int32.ofInt (l5)))] [] cs) (hw : wX11_text_93' l4 l5 S K B93) : Z (RX11, cX11_text, 6, some .boolean, false) G d Post 93 [(0, .ref (G.1 + 54)), (4, .int (Int32.ofInt (l4))), (5, .int (Int32.ofInt (l5)))] [] cs := by
  unfold wX11_text_93' at hw
  refine z_iload dX11_text_93 rfl ?_
  refine z_aload_n dX11_text_95 rfl rfl ?_
  have q1 : iv 0 3000 (S.1 54 0) := mI0 hW
  have hw := hw q1
  refine g_getI hW hT.1 mr0 kX11 fX11_171 dX11_text_96 ?_
  obtain ⟨q3, hw⟩ := hw
  refine i_icmp_ge (tgt := 128) dX11_text_99 (by decide) q3 (rngq q1 (by decide) (by decide)) (fun h2 => ?_) (fun h2 => ?_)
  · have hw := hw.1 h2
    refine z_aload_n dX11_text_128 rfl rfl ?_
    refine z_iconst (v := Int32.ofInt 0) dX11_text_129 rfl ?_
    refine g_putI hJ hW hT.1 mr0 kX11 fX11_171 dX11_text_130 rfl rfl rfl ⟨by decide, by decide⟩ (fun cs hW => ?_)
    obtain ⟨S4, hS4⟩ : ∃ x, x = pI S 54 0 (0) := ⟨_, rfl⟩
    rw [← hS4] at hW
    have hw := hw S4 hS4
    refine z_iconst (v := Int32.ofInt 1) dX11_text_133 rfl ?_
    exact z_ireturn dX11_text_134 rfl (nar01 (by decide)) (hP _ _ _ hw hW)
  · have hw := hw.2 h2
    refine z_aload_n dX11_text_102 rfl rfl ?_
    refine g_getR hW hT.1 mr17 kX11 fX11_56 dX11_text_103 ?_
    refine z_bipush (v := Int32.ofInt 20) dX11_text_106 (by decide) ?_
    refine z_iload dX11_text_108 rfl ?_
    refine i_imul dX11_text_110 ?_
    refine z_iload dX11_text_111 rfl ?_
    refine i_iadd dX11_text_113 ?_
    refine z_aload_n dX11_text_114 rfl rfl ?_
    refine g_getR hW hT.1 mr1 kX11 fX11_7 dX11_text_115 ?_
    refine z_iload dX11_text_118 rfl ?_
    obtain ⟨q5a, q5b, hw⟩ := hw
    have q6 : iv (-2147483648) 2147483647 (S.2 55 (l5)) := mA55 hW _
    have hw := hw q6
    refine g_iald hW (ma55 hT) q5a q5b (by decide) dX11_text_120 ?_
    obtain ⟨q7a, q7b, hw⟩ := hw
    refine g_iast hJ hW (ma70 hT) q7a q7b (by decide) q6 dX11_text_121 (fun cs hW => ?_)
    obtain ⟨S8, hS8⟩ : ∃ x, x = pA S 70 (((20 * l4) + l5)) (S.2 55 (l5)) := ⟨_, rfl⟩
    rw [← hS8] at hW
    have hw := hw S8 hS8
    refine i_iinc (l := l5) dX11_text_122 rfl (by decide) ?_
    refine z_loc (L' := [(0, .ref (G.1 + 54)), (4, .int (Int32.ofInt (l4))), (5, .int (Int32.ofInt ((l5 + 1))))]) (List.forall_mem_cons.mpr ⟨rfl, (List.forall_mem_cons.mpr ⟨rfl, (List.forall_mem_cons.mpr ⟨rfl, (fun _ h => nomatch h)⟩)⟩)⟩) ?_
    refine z_goto (tgt := 93) dX11_text_125 (by decide) ?_
    refine z_loc (L' := [(0, .ref (G.1 + 54)), (4, .int (Int32.ofInt (l4))), (5, .int (Int32.ofInt ((l5 + 1))))]) (List.forall_mem_cons.mpr ⟨rfl, (List.forall_mem_cons.mpr ⟨rfl, (List.forall_mem_cons.mpr ⟨rfl, (fun _ h => nomatch h)⟩)⟩)⟩) ?_
    exact hB93 _ _ _ _ hw hW
def wX11_text_93 (l4 l5 : Int) (S : St) (K : Int → St → Prop) : Prop := ∃ (Iv : Int → Int → St → Prop) (mu : Int → Int → St → Nat), Iv l4 l5 S ∧ ∀ (l4 l5 : Int) (S : St), Iv l4 l5 S → wX11_text_93' l4 l5 S K  (fun ml4 ml5 T => Iv ml4 ml5 T ∧ mu ml4 ml5 T < mu l4 l5 S)
set_option maxRecDepth 100000 in
set_option maxHeartbeats 4000000 in
theorem bX11_text_93 {G : xG} {sh : Nat → Option Sh} {J : St → List va_E → Prop} {d : Nat} {Post : xP} {l4 l5 : Int} {S : St} {cs : List va_E} {K : Int → St → Prop} (hd : 2 ≤ d) (hJ : Stb sh J) (hT : isM sh) (hW : Wd G sh mT J S cs) (hP : ∀ (v : Int) (S : St) (cs : List va_E), K v S → Wd G sh mT J S cs → Post (some (.int (Int32.ofInt v))) cs)  (hw : wX11_text_93 l4 l5 S K ) : Z (RX11, cX11_text, 6, some .boolean, false) G d Post 93 [(0, .ref (G.1 + 54)), (4, .int (Int32.ofInt (l4))), (5, .int (Int32.ofInt (l5)))] [] cs := by
  unfold wX11_text_93 at hw
  obtain ⟨Iv, mu, h0, hs⟩ := hw
  have key : ∀ (n : Nat) (l4 l5 : Int) (S : St) (cs : List va_E), mu l4 l5 S < n → Iv l4 l5 S → Wd G sh mT J S cs → Z (RX11, cX11_text, 6, some .boolean, false) G d Post 93 [(0, .ref (G.1 + 54)), (4, .int (Int32.ofInt (l4))), (5, .int (Int32.ofInt (l5)))] [] cs := by
    intro n
    induction n with
    | zero => intro l4 l5 S cs hn; exact absurd hn (Nat.not_lt_zero _)
    | succ n ih =>
      intro l4 l5 S cs hn hI hW
      exact bX11_text_93' hd hJ hT hW hP  (fun l4 l5 S cs hb hW => ih l4 l5 S cs (Nat.lt_of_lt_of_le hb.2 (Nat.le_of_lt_succ hn)) hb.1 hW) (hs l4 l5 S hI)
  exact key _ _ _ _ _ (Nat.lt_succ_self _) h0 hW
def wX11_text_66 (l1 l2 l3 : Int) (S : St) (K : Int → St → Prop) : Prop := (rng (l3) ∧ ((¬ l3 = 0 → (∀ x3 : Int, x3 = ((4 * l1) + l2) → (iv 0 3000 (S.1 54 0) → ((0 : Int) ≤ x3 ∧ x3 < (360 : Int) ∧ (iv (-2147483648) 2147483647 (S.1 54 0) ∧ (∀ S6, S6 = pA S 69 (x3) (S.1 54 0) → wX11_text_93 (x3) (0) S6 K)))))) ∧ ((¬ (¬ l3 = 0)) → K (0) S)))
set_option maxRecDepth 100000 in
set_option maxHeartbeats 4000000 in
theorem bX11_text_66 {G : xG} {sh : Nat → Option Sh} {J : St → List va_E → Prop} {d : Nat} {Post : xP} {l1 l2 l3 : Int} {S : St} {cs : List va_E} {K : Int → St → Prop} (hd : 2 ≤ d) (hJ : Stb sh J) (hT : isM sh) (hW : Wd G sh mT J S cs) (hP : ∀ (v : Int) (S : St) (cs : List va_E), K v S → Wd G sh mT J S cs → Post (some (.int (Int32.ofInt v))) cs)  (hw : wX11_text_66 l1 l2 l3 S K ) : Z (RX11, cX11_text, 6, some .boolean, false) G d Post 66 [(0, .ref (G.1 + 54)), (1, .int (Int32.ofInt (l1))), (2, .int (Int32.ofInt (l2))), (3, .int (Int32.ofInt (l3)))] [] cs := by
  unfold wX11_text_66 at hw
  refine z_iload_n dX11_text_66 rfl rfl ?_
  obtain ⟨q2, hw⟩ := hw
  refine i_if_ne (tgt := 72) dX11_text_67 (by decide) q2 (fun h1 => ?_) (fun h1 => ?_)
  · have hw := hw.1 h1
    refine z_iconst (v := Int32.ofInt 4) dX11_text_72 rfl ?_
    refine z_iload_n dX11_text_73 rfl rfl ?_
    refine i_imul dX11_text_74 ?_
    refine z_iload_n dX11_text_75 rfl rfl ?_
    refine i_iadd dX11_text_76 ?_
    obtain ⟨x3, hx3⟩ : ∃ x : Int, x = ((4 * l1) + l2) := ⟨_, rfl⟩
    have hw := hw x3 hx3
    refine z_st (st' := [.int (Int32.ofInt x3)]) (by rw [hx3]) ?_
    refine z_istore dX11_text_77 (by decide) ?_
    refine z_loc (L' := [(0, .ref (G.1 + 54)), (1, .int (Int32.ofInt (l1))), (2, .int (Int32.ofInt (l2))), (3, .int (Int32.ofInt (l3))), (4, .int (Int32.ofInt (x3)))]) (List.forall_mem_cons.mpr ⟨rfl, (List.forall_mem_cons.mpr ⟨rfl, (List.forall_mem_cons.mpr ⟨rfl, (List.forall_mem_cons.mpr ⟨rfl, (List.forall_mem_cons.mpr ⟨rfl, (fun _ h => nomatch h)⟩)⟩)⟩)⟩)⟩) ?_
    refine z_aload_n dX11_text_79 rfl rfl ?_
    refine g_getR hW hT.1 mr16 kX11 fX11_53 dX11_text_80 ?_
    refine z_iload dX11_text_83 rfl ?_
    refine z_aload_n dX11_text_85 rfl rfl ?_
    have q4 : iv 0 3000 (S.1 54 0) := mI0 hW
    have hw := hw q4
    refine g_getI hW hT.1 mr0 kX11 fX11_171 dX11_text_86 ?_
    obtain ⟨q5a, q5b, hw⟩ := hw
    obtain ⟨q7, hw⟩ := hw
    refine g_iast hJ hW (ma69 hT) q5a q5b (by decide) q7 dX11_text_89 (fun cs hW => ?_)
    obtain ⟨S6, hS6⟩ : ∃ x, x = pA S 69 (x3) (S.1 54 0) := ⟨_, rfl⟩
    rw [← hS6] at hW
    have hw := hw S6 hS6
    refine z_iconst (v := Int32.ofInt 0) dX11_text_90 rfl ?_
    refine z_istore dX11_text_91 (by decide) ?_
    refine z_loc (L' := [(0, .ref (G.1 + 54)), (1, .int (Int32.ofInt (l1))), (2, .int (Int32.ofInt (l2))), (3, .int (Int32.ofInt (l3))), (4, .int (Int32.ofInt (x3))), (5, .int (Int32.ofInt (0)))]) (List.forall_mem_cons.mpr ⟨rfl, (List.forall_mem_cons.mpr ⟨rfl, (List.forall_mem_cons.mpr ⟨rfl, (List.forall_mem_cons.mpr ⟨rfl, (List.forall_mem_cons.mpr ⟨rfl, (List.forall_mem_cons.mpr ⟨rfl, (fun _ h => nomatch h)⟩)⟩)⟩)⟩)⟩)⟩) ?_
    refine z_loc (L' := [(0, .ref (G.1 + 54)), (4, .int (Int32.ofInt (x3))), (5, .int (Int32.ofInt (0)))]) (List.forall_mem_cons.mpr ⟨rfl, (List.forall_mem_cons.mpr ⟨rfl, (List.forall_mem_cons.mpr ⟨rfl, (fun _ h => nomatch h)⟩)⟩)⟩) ?_
    exact bX11_text_93 hd hJ hT hW hP  hw
  · have hw := hw.2 h1
    refine z_iconst (v := Int32.ofInt 0) dX11_text_70 rfl ?_
    exact z_ireturn dX11_text_71 rfl (nar01 (by decide)) (hP _ _ _ hw hW)
def wX11_text_59 (l1 l2 l4 s0 : Int) (S : St) (K : Int → St → Prop) (B29 : Int → Int → Int → Int → St → Prop) : Prop := B29 (l1) (l2) (s0) ((l4 + 1)) S
set_option maxRecDepth 100000 in
set_option maxHeartbeats 4000000 in
theorem bX11_text_59 {G : xG} {sh : Nat → Option Sh} {J : St → List va_E → Prop} {d : Nat} {Post : xP} {l1 l2 l4 s0 : Int} {S : St} {cs : List va_E} {K : Int → St → Prop} {B29 : Int → Int → Int → Int → St → Prop} (hd : 2 ≤ d) (hJ : Stb sh J) (hT : isM sh) (hW : Wd G sh mT J S cs) (hP : ∀ (v : Int) (S : St) (cs : List va_E), K v S → Wd G sh mT J S cs → Post (some (.int (Int32.ofInt v))) cs) (hB29 : ∀ (l1 : Int) (l2 : Int) (l3 : Int) (l4 : Int) (S : St) (cs : List va_E), B29 l1 l2 l3 l4 S → Wd G sh mT J S cs → Z (RX11, cX11_text, 6, some .boolean, false) G d Post 29 [(0, .ref (G.1 + 54)), (1, .int (Int32.ofInt (l1))), (2, .int (Int32.ofInt (l2))), (3, .int (Int32.ofInt (l3))), (4, .int (Int32.ofInt (l4)))] [] cs) (hw : wX11_text_59 l1 l2 l4 s0 S K B29) : Z (RX11, cX11_text, 6, some .boolean, false) G d Post 59 [(0, .ref (G.1 + 54)), (1, .int (Int32.ofInt (l1))), (2, .int (Int32.ofInt (l2))), (4, .int (Int32.ofInt (l4)))] [.int (Int32.ofInt (s0))] cs := by
  unfold wX11_text_59 at hw
  refine z_istore_n dX11_text_59 rfl (by decide) ?_
  refine z_loc (L' := [(0, .ref (G.1 + 54)), (1, .int (Int32.ofInt (l1))), (2, .int (Int32.ofInt (l2))), (3, .int (Int32.ofInt (s0))), (4, .int (Int32.ofInt (l4)))]) (List.forall_mem_cons.mpr ⟨rfl, (List.forall_mem_cons.mpr ⟨rfl, (List.forall_mem_cons.mpr ⟨rfl, (List.forall_mem_cons.mpr ⟨rfl, (List.forall_mem_cons.mpr ⟨rfl, (fun _ h => nomatch h)⟩)⟩)⟩)⟩)⟩) ?_
  refine i_iinc (l := l4) dX11_text_60 rfl (by decide) ?_
  refine z_loc (L' := [(0, .ref (G.1 + 54)), (1, .int (Int32.ofInt (l1))), (2, .int (Int32.ofInt (l2))), (3, .int (Int32.ofInt (s0))), (4, .int (Int32.ofInt ((l4 + 1))))]) (List.forall_mem_cons.mpr ⟨rfl, (List.forall_mem_cons.mpr ⟨rfl, (List.forall_mem_cons.mpr ⟨rfl, (List.forall_mem_cons.mpr ⟨rfl, (List.forall_mem_cons.mpr ⟨rfl, (fun _ h => nomatch h)⟩)⟩)⟩)⟩)⟩) ?_
  refine z_goto (tgt := 29) dX11_text_63 (by decide) ?_
  refine z_loc (L' := [(0, .ref (G.1 + 54)), (1, .int (Int32.ofInt (l1))), (2, .int (Int32.ofInt (l2))), (3, .int (Int32.ofInt (s0))), (4, .int (Int32.ofInt ((l4 + 1))))]) (List.forall_mem_cons.mpr ⟨rfl, (List.forall_mem_cons.mpr ⟨rfl, (List.forall_mem_cons.mpr ⟨rfl, (List.forall_mem_cons.mpr ⟨rfl, (List.forall_mem_cons.mpr ⟨rfl, (fun _ h => nomatch h)⟩)⟩)⟩)⟩)⟩) ?_
  exact hB29 _ _ _ _ _ _ hw hW
def wX11_text_29' (l1 l2 l3 l4 : Int) (S : St) (K : Int → St → Prop) (B29 : Int → Int → Int → Int → St → Prop) : Prop := (iv 0 3000 (S.1 54 0) → (rng (l4) ∧ ((S.1 54 0 ≤ l4 → wX11_text_66 (l1) (l2) (l3) S K) ∧ ((¬ (S.1 54 0 ≤ l4)) → (rng (l3) ∧ ((l3 = 0 → wX11_text_66 (l1) (l2) (l3) S K) ∧ ((¬ (l3 = 0)) → ((0 : Int) ≤ l4 ∧ l4 < (3000 : Int) ∧ (iv (-2147483648) 2147483647 (S.2 55 (l4)) → ((S.2 55 (l4) < 32 → wX11_text_59 (l1) (l2) (l4) (0) S K B29) ∧ ((¬ (S.2 55 (l4) < 32)) → wX11_text_59 (l1) (l2) (l4) (1) S K B29)))))))))))
set_option maxRecDepth 100000 in
set_option maxHeartbeats 4000000 in
theorem bX11_text_29' {G : xG} {sh : Nat → Option Sh} {J : St → List va_E → Prop} {d : Nat} {Post : xP} {l1 l2 l3 l4 : Int} {S : St} {cs : List va_E} {K : Int → St → Prop} {B29 : Int → Int → Int → Int → St → Prop} (hd : 2 ≤ d) (hJ : Stb sh J) (hT : isM sh) (hW : Wd G sh mT J S cs) (hP : ∀ (v : Int) (S : St) (cs : List va_E), K v S → Wd G sh mT J S cs → Post (some (.int (Int32.ofInt v))) cs) (hB29 : ∀ (l1 : Int) (l2 : Int) (l3 : Int) (l4 : Int) (S : St) (cs : List va_E), B29 l1 l2 l3 l4 S → Wd G sh mT J S cs → Z (RX11, cX11_text, 6, some .boolean, false) G d Post 29 [(0, .ref (G.1 + 54)), (1, .int (Int32.ofInt (l1))), (2, .int (Int32.ofInt (l2))), (3, .int (Int32.ofInt (l3))), (4, .int (Int32.ofInt (l4)))] [] cs) (hw : wX11_text_29' l1 l2 l3 l4 S K B29) : Z (RX11, cX11_text, 6, some .boolean, false) G d Post 29 [(0, .ref (G.1 + 54)), (1, .int (Int32.ofInt (l1))), (2, .int (Int32.ofInt (l2))), (3, .int (Int32.ofInt (l3))), (4, .int (Int32.ofInt (l4)))] [] cs := by
  unfold wX11_text_29' at hw
  refine z_iload dX11_text_29 rfl ?_
  refine z_aload_n dX11_text_31 rfl rfl ?_
  have q1 : iv 0 3000 (S.1 54 0) := mI0 hW
  have hw := hw q1
  refine g_getI hW hT.1 mr0 kX11 fX11_171 dX11_text_32 ?_
  obtain ⟨q3, hw⟩ := hw
  refine i_icmp_ge (tgt := 66) dX11_text_35 (by decide) q3 (rngq q1 (by decide) (by decide)) (fun h2 => ?_) (fun h2 => ?_)
  · have hw := hw.1 h2
    refine z_loc (L' := [(0, .ref (G.1 + 54)), (1, .int (Int32.ofInt (l1))), (2, .int (Int32.ofInt (l2))), (3, .int (Int32.ofInt (l3)))]) (List.forall_mem_cons.mpr ⟨rfl, (List.forall_mem_cons.mpr ⟨rfl, (List.forall_mem_cons.mpr ⟨rfl, (List.forall_mem_cons.mpr ⟨rfl, (fun _ h => nomatch h)⟩)⟩)⟩)⟩) ?_
    exact bX11_text_66 hd hJ hT hW hP  hw
  · have hw := hw.2 h2
    refine z_iload_n dX11_text_38 rfl rfl ?_
    obtain ⟨q5, hw⟩ := hw
    refine i_if_eq (tgt := 66) dX11_text_39 (by decide) q5 (fun h4 => ?_) (fun h4 => ?_)
    · have hw := hw.1 h4
      refine z_loc (L' := [(0, .ref (G.1 + 54)), (1, .int (Int32.ofInt (l1))), (2, .int (Int32.ofInt (l2))), (3, .int (Int32.ofInt (l3)))]) (List.forall_mem_cons.mpr ⟨rfl, (List.forall_mem_cons.mpr ⟨rfl, (List.forall_mem_cons.mpr ⟨rfl, (List.forall_mem_cons.mpr ⟨rfl, (fun _ h => nomatch h)⟩)⟩)⟩)⟩) ?_
      exact bX11_text_66 hd hJ hT hW hP  hw
    · have hw := hw.2 h4
      refine z_aload_n dX11_text_42 rfl rfl ?_
      refine g_getR hW hT.1 mr1 kX11 fX11_7 dX11_text_43 ?_
      refine z_iload dX11_text_46 rfl ?_
      obtain ⟨q6a, q6b, hw⟩ := hw
      have q7 : iv (-2147483648) 2147483647 (S.2 55 (l4)) := mA55 hW _
      have hw := hw q7
      refine g_iald hW (ma55 hT) q6a q6b (by decide) dX11_text_48 ?_
      refine z_bipush (v := Int32.ofInt 32) dX11_text_49 (by decide) ?_
      refine i_icmp_lt (tgt := 58) dX11_text_51 (by decide) (rngq q7 (by decide) (by decide)) ⟨by decide, by decide⟩ (fun h8 => ?_) (fun h8 => ?_)
      · have hw := hw.1 h8
        refine z_iconst (v := Int32.ofInt 0) dX11_text_58 rfl ?_
        refine z_loc (L' := [(0, .ref (G.1 + 54)), (1, .int (Int32.ofInt (l1))), (2, .int (Int32.ofInt (l2))), (4, .int (Int32.ofInt (l4)))]) (List.forall_mem_cons.mpr ⟨rfl, (List.forall_mem_cons.mpr ⟨rfl, (List.forall_mem_cons.mpr ⟨rfl, (List.forall_mem_cons.mpr ⟨rfl, (fun _ h => nomatch h)⟩)⟩)⟩)⟩) ?_
        exact bX11_text_59 hd hJ hT hW hP hB29 hw
      · have hw := hw.2 h8
        refine z_iconst (v := Int32.ofInt 1) dX11_text_54 rfl ?_
        refine z_goto (tgt := 59) dX11_text_55 (by decide) ?_
        refine z_loc (L' := [(0, .ref (G.1 + 54)), (1, .int (Int32.ofInt (l1))), (2, .int (Int32.ofInt (l2))), (4, .int (Int32.ofInt (l4)))]) (List.forall_mem_cons.mpr ⟨rfl, (List.forall_mem_cons.mpr ⟨rfl, (List.forall_mem_cons.mpr ⟨rfl, (List.forall_mem_cons.mpr ⟨rfl, (fun _ h => nomatch h)⟩)⟩)⟩)⟩) ?_
        exact bX11_text_59 hd hJ hT hW hP hB29 hw
def wX11_text_29 (l1 l2 l3 l4 : Int) (S : St) (K : Int → St → Prop) : Prop := ∃ (Iv : Int → Int → Int → Int → St → Prop) (mu : Int → Int → Int → Int → St → Nat), Iv l1 l2 l3 l4 S ∧ ∀ (l1 l2 l3 l4 : Int) (S : St), Iv l1 l2 l3 l4 S → wX11_text_29' l1 l2 l3 l4 S K  (fun ml1 ml2 ml3 ml4 T => Iv ml1 ml2 ml3 ml4 T ∧ mu ml1 ml2 ml3 ml4 T < mu l1 l2 l3 l4 S)
set_option maxRecDepth 100000 in
set_option maxHeartbeats 4000000 in
theorem bX11_text_29 {G : xG} {sh : Nat → Option Sh} {J : St → List va_E → Prop} {d : Nat} {Post : xP} {l1 l2 l3 l4 : Int} {S : St} {cs : List va_E} {K : Int → St → Prop} (hd : 2 ≤ d) (hJ : Stb sh J) (hT : isM sh) (hW : Wd G sh mT J S cs) (hP : ∀ (v : Int) (S : St) (cs : List va_E), K v S → Wd G sh mT J S cs → Post (some (.int (Int32.ofInt v))) cs)  (hw : wX11_text_29 l1 l2 l3 l4 S K ) : Z (RX11, cX11_text, 6, some .boolean, false) G d Post 29 [(0, .ref (G.1 + 54)), (1, .int (Int32.ofInt (l1))), (2, .int (Int32.ofInt (l2))), (3, .int (Int32.ofInt (l3))), (4, .int (Int32.ofInt (l4)))] [] cs := by
  unfold wX11_text_29 at hw
  obtain ⟨Iv, mu, h0, hs⟩ := hw
  have key : ∀ (n : Nat) (l1 l2 l3 l4 : Int) (S : St) (cs : List va_E), mu l1 l2 l3 l4 S < n → Iv l1 l2 l3 l4 S → Wd G sh mT J S cs → Z (RX11, cX11_text, 6, some .boolean, false) G d Post 29 [(0, .ref (G.1 + 54)), (1, .int (Int32.ofInt (l1))), (2, .int (Int32.ofInt (l2))), (3, .int (Int32.ofInt (l3))), (4, .int (Int32.ofInt (l4)))] [] cs := by
    intro n
    induction n with
    | zero => intro l1 l2 l3 l4 S cs hn; exact absurd hn (Nat.not_lt_zero _)
    | succ n ih =>
      intro l1 l2 l3 l4 S cs hn hI hW
      exact bX11_text_29' hd hJ hT hW hP  (fun l1 l2 l3 l4 S cs hb hW => ih l1 l2 l3 l4 S cs (Nat.lt_of_lt_of_le hb.2 (Nat.le_of_lt_succ hn)) hb.1 hW) (hs l1 l2 l3 l4 S hI)
  exact key _ _ _ _ _ _ _ (Nat.lt_succ_self _) h0 hW
def wX11_text_25 (l1 l2 s0 : Int) (S : St) (K : Int → St → Prop) : Prop := wX11_text_29 (l1) (l2) (s0) (0) S K
set_option maxRecDepth 100000 in
set_option maxHeartbeats 4000000 in
theorem bX11_text_25 {G : xG} {sh : Nat → Option Sh} {J : St → List va_E → Prop} {d : Nat} {Post : xP} {l1 l2 s0 : Int} {S : St} {cs : List va_E} {K : Int → St → Prop} (hd : 2 ≤ d) (hJ : Stb sh J) (hT : isM sh) (hW : Wd G sh mT J S cs) (hP : ∀ (v : Int) (S : St) (cs : List va_E), K v S → Wd G sh mT J S cs → Post (some (.int (Int32.ofInt v))) cs)  (hw : wX11_text_25 l1 l2 s0 S K ) : Z (RX11, cX11_text, 6, some .boolean, false) G d Post 25 [(0, .ref (G.1 + 54)), (1, .int (Int32.ofInt (l1))), (2, .int (Int32.ofInt (l2)))] [.int (Int32.ofInt (s0))] cs := by
  unfold wX11_text_25 at hw
  refine z_istore_n dX11_text_25 rfl (by decide) ?_
  refine z_loc (L' := [(0, .ref (G.1 + 54)), (1, .int (Int32.ofInt (l1))), (2, .int (Int32.ofInt (l2))), (3, .int (Int32.ofInt (s0)))]) (List.forall_mem_cons.mpr ⟨rfl, (List.forall_mem_cons.mpr ⟨rfl, (List.forall_mem_cons.mpr ⟨rfl, (List.forall_mem_cons.mpr ⟨rfl, (fun _ h => nomatch h)⟩)⟩)⟩)⟩) ?_
  refine z_iconst (v := Int32.ofInt 0) dX11_text_26 rfl ?_
  refine z_istore dX11_text_27 (by decide) ?_
  refine z_loc (L' := [(0, .ref (G.1 + 54)), (1, .int (Int32.ofInt (l1))), (2, .int (Int32.ofInt (l2))), (3, .int (Int32.ofInt (s0))), (4, .int (Int32.ofInt (0)))]) (List.forall_mem_cons.mpr ⟨rfl, (List.forall_mem_cons.mpr ⟨rfl, (List.forall_mem_cons.mpr ⟨rfl, (List.forall_mem_cons.mpr ⟨rfl, (List.forall_mem_cons.mpr ⟨rfl, (fun _ h => nomatch h)⟩)⟩)⟩)⟩)⟩) ?_
  refine z_loc (L' := [(0, .ref (G.1 + 54)), (1, .int (Int32.ofInt (l1))), (2, .int (Int32.ofInt (l2))), (3, .int (Int32.ofInt (s0))), (4, .int (Int32.ofInt (0)))]) (List.forall_mem_cons.mpr ⟨rfl, (List.forall_mem_cons.mpr ⟨rfl, (List.forall_mem_cons.mpr ⟨rfl, (List.forall_mem_cons.mpr ⟨rfl, (List.forall_mem_cons.mpr ⟨rfl, (fun _ h => nomatch h)⟩)⟩)⟩)⟩)⟩) ?_
  exact bX11_text_29 hd hJ hT hW hP  hw
def wX11_text_24 (l1 l2 : Int) (S : St) (K : Int → St → Prop) : Prop := wX11_text_25 (l1) (l2) (0) S K
set_option maxRecDepth 100000 in
set_option maxHeartbeats 4000000 in
theorem bX11_text_24 {G : xG} {sh : Nat → Option Sh} {J : St → List va_E → Prop} {d : Nat} {Post : xP} {l1 l2 : Int} {S : St} {cs : List va_E} {K : Int → St → Prop} (hd : 2 ≤ d) (hJ : Stb sh J) (hT : isM sh) (hW : Wd G sh mT J S cs) (hP : ∀ (v : Int) (S : St) (cs : List va_E), K v S → Wd G sh mT J S cs → Post (some (.int (Int32.ofInt v))) cs)  (hw : wX11_text_24 l1 l2 S K ) : Z (RX11, cX11_text, 6, some .boolean, false) G d Post 24 [(0, .ref (G.1 + 54)), (1, .int (Int32.ofInt (l1))), (2, .int (Int32.ofInt (l2)))] [] cs := by
  unfold wX11_text_24 at hw
  refine z_iconst (v := Int32.ofInt 0) dX11_text_24 rfl ?_
  refine z_loc (L' := [(0, .ref (G.1 + 54)), (1, .int (Int32.ofInt (l1))), (2, .int (Int32.ofInt (l2)))]) (List.forall_mem_cons.mpr ⟨rfl, (List.forall_mem_cons.mpr ⟨rfl, (List.forall_mem_cons.mpr ⟨rfl, (fun _ h => nomatch h)⟩)⟩)⟩) ?_
  exact bX11_text_25 hd hJ hT hW hP  hw
def wX11_text (a1 a2 : Int) (S : St) (K : Int → St → Prop) : Prop := rng a1 → rng a2 → (wX11_kindAt (0) (a1) (a2) S (fun r1 S2 => (rng (r1) ∧ ((¬ r1 = 1 → wX11_text_24 (a1) (a2) S2 K) ∧ ((¬ (¬ r1 = 1)) → (iv 0 3000 (S2.1 54 0) → ((20 < S2.1 54 0 → wX11_text_24 (a1) (a2) S2 K) ∧ ((¬ (20 < S2.1 54 0)) → wX11_text_25 (a1) (a2) (1) S2 K))))))))
set_option maxRecDepth 100000 in
set_option maxHeartbeats 4000000 in
theorem lX11_text {G : xG} {sh : Nat → Option Sh} {J : St → List va_E → Prop} {a1 a2 : Int} {S : St} {cs : List va_E} {K : Int → St → Prop} (d : Nat) (hd : 2 ≤ d) (hJ : Stb sh J) (hT : isM sh) (hW : Wd G sh mT J S cs) (g1 : rng a1) (g2 : rng a2) (hw : wX11_text a1 a2 S K) : X G yX11_text cX11_text 6 (some .boolean) d [.ref (G.1 + 54), .int (Int32.ofInt a1), .int (Int32.ofInt a2)] cs (qI G sh mT J K) := by
  refine X.of false (by decide +kernel) (by decide) (Nat.le_of_ble_eq_true rfl) ?_
  show Z (RX11, cX11_text, 6, some .boolean, false) G d _ 0 [(0, .ref (G.1 + 54)), (1, .int (Int32.ofInt a1)), (2, .int (Int32.ofInt a2))] [] cs
  have hP : ∀ (v : Int) (S : St) (cs : List va_E), K v S → Wd G sh mT J S cs → qI G sh mT J K (some (.int (Int32.ofInt v))) cs := fun v S cs a b => ⟨v, S, rfl, a, b⟩
  unfold wX11_text at hw
  have hw := hw g1 g2
  refine z_aload_n dX11_text_0 rfl rfl ?_
  refine z_iconst (v := Int32.ofInt 0) dX11_text_1 rfl ?_
  refine z_iload_n dX11_text_2 rfl rfl ?_
  refine z_iload_n dX11_text_3 rfl rfl ?_
  have hX := lX11_kindAt 1 (Nat.le_refl _) hJ hT hW ⟨by decide, by decide⟩ g1 g2 hw
  refine z_callV (As := [_, _, _]) eX11_kindAt sX11_kindAt lX11_253 rfl dX11_text_4 (hW.1 _ _ hT.1) hX (Nat.le_trans (by decide) hd) rfl (Nat.le_of_ble_eq_true rfl) (fun r cs hp => ?_)
  obtain ⟨r1, S2, rfl, hw, hW⟩ := hp
  refine z_st (st' := [.int (Int32.ofInt (r1))]) rfl ?_
  refine z_iconst (v := Int32.ofInt 1) dX11_text_7 rfl ?_
  obtain ⟨q4, hw⟩ := hw
  refine i_icmp_ne (tgt := 24) dX11_text_8 (by decide) q4 ⟨by decide, by decide⟩ (fun h3 => ?_) (fun h3 => ?_)
  · have hw := hw.1 h3
    refine z_loc (L' := [(0, .ref (G.1 + 54)), (1, .int (Int32.ofInt (a1))), (2, .int (Int32.ofInt (a2)))]) (List.forall_mem_cons.mpr ⟨rfl, (List.forall_mem_cons.mpr ⟨rfl, (List.forall_mem_cons.mpr ⟨rfl, (fun _ h => nomatch h)⟩)⟩)⟩) ?_
    exact bX11_text_24 hd hJ hT hW hP  hw
  · have hw := hw.2 h3
    refine z_aload_n dX11_text_11 rfl rfl ?_
    have q5 : iv 0 3000 (S2.1 54 0) := mI0 hW
    have hw := hw q5
    refine g_getI hW hT.1 mr0 kX11 fX11_171 dX11_text_12 ?_
    refine z_bipush (v := Int32.ofInt 20) dX11_text_15 (by decide) ?_
    refine i_icmp_gt (tgt := 24) dX11_text_17 (by decide) (rngq q5 (by decide) (by decide)) ⟨by decide, by decide⟩ (fun h6 => ?_) (fun h6 => ?_)
    · have hw := hw.1 h6
      refine z_loc (L' := [(0, .ref (G.1 + 54)), (1, .int (Int32.ofInt (a1))), (2, .int (Int32.ofInt (a2)))]) (List.forall_mem_cons.mpr ⟨rfl, (List.forall_mem_cons.mpr ⟨rfl, (List.forall_mem_cons.mpr ⟨rfl, (fun _ h => nomatch h)⟩)⟩)⟩) ?_
      exact bX11_text_24 hd hJ hT hW hP  hw
    · have hw := hw.2 h6
      refine z_iconst (v := Int32.ofInt 1) dX11_text_20 rfl ?_
      refine z_goto (tgt := 25) dX11_text_21 (by decide) ?_
      refine z_loc (L' := [(0, .ref (G.1 + 54)), (1, .int (Int32.ofInt (a1))), (2, .int (Int32.ofInt (a2)))]) (List.forall_mem_cons.mpr ⟨rfl, (List.forall_mem_cons.mpr ⟨rfl, (List.forall_mem_cons.mpr ⟨rfl, (fun _ h => nomatch h)⟩)⟩)⟩) ?_
      exact bX11_text_25 hd hJ hT hW hP  hw

def wX11_unit_30 (l1 : Int) (S : St) (K : Int → St → Prop) : Prop := (iv 0 3000 (S.1 54 0) → ((0 : Int) ≤ S.1 54 0 ∧ S.1 54 0 < (3000 : Int) ∧ (iv (-2147483648) 2147483647 (l1) ∧ (∀ S3, S3 = pA S 55 (S.1 54 0) (l1) → (iv 0 3000 (S3.1 54 0) → (iv 0 3000 ((S3.1 54 0 + 1)) ∧ (∀ S6, S6 = pI S3 54 0 ((S3.1 54 0 + 1)) → K (1) S6)))))))
set_option maxRecDepth 100000 in
set_option maxHeartbeats 4000000 in
theorem bX11_unit_30 {G : xG} {sh : Nat → Option Sh} {J : St → List va_E → Prop} {d : Nat} {Post : xP} {l1 : Int} {S : St} {cs : List va_E} {K : Int → St → Prop} (hd : 1 ≤ d) (hJ : Stb sh J) (hT : isM sh) (hW : Wd G sh mT J S cs) (hP : ∀ (v : Int) (S : St) (cs : List va_E), K v S → Wd G sh mT J S cs → Post (some (.int (Int32.ofInt v))) cs)  (hw : wX11_unit_30 l1 S K ) : Z (RX11, cX11_unit, 2, some .boolean, false) G d Post 30 [(0, .ref (G.1 + 54)), (1, .int (Int32.ofInt (l1)))] [] cs := by
  unfold wX11_unit_30 at hw
  refine z_aload_n dX11_unit_30 rfl rfl ?_
  refine g_getR hW hT.1 mr1 kX11 fX11_7 dX11_unit_31 ?_
  refine z_aload_n dX11_unit_34 rfl rfl ?_
  have q1 : iv 0 3000 (S.1 54 0) := mI0 hW
  have hw := hw q1
  refine g_getI hW hT.1 mr0 kX11 fX11_171 dX11_unit_35 ?_
  refine z_iload_n dX11_unit_38 rfl rfl ?_
  obtain ⟨q2a, q2b, hw⟩ := hw
  obtain ⟨q4, hw⟩ := hw
  refine g_iast hJ hW (ma55 hT) q2a q2b (by decide) q4 dX11_unit_39 (fun cs hW => ?_)
  obtain ⟨S3, hS3⟩ : ∃ x, x = pA S 55 (S.1 54 0) (l1) := ⟨_, rfl⟩
  rw [← hS3] at hW
  have hw := hw S3 hS3
  refine z_aload_n dX11_unit_40 rfl rfl ?_
  refine z_dup dX11_unit_41 rfl ?_
  have q5 : iv 0 3000 (S3.1 54 0) := mI0 hW
  have hw := hw q5
  refine g_getI hW hT.1 mr0 kX11 fX11_171 dX11_unit_42 ?_
  refine z_iconst (v := Int32.ofInt 1) dX11_unit_45 rfl ?_
  refine i_iadd dX11_unit_46 ?_
  obtain ⟨q7, hw⟩ := hw
  refine g_putI hJ hW hT.1 mr0 kX11 fX11_171 dX11_unit_47 rfl rfl rfl q7 (fun cs hW => ?_)
  obtain ⟨S6, hS6⟩ : ∃ x, x = pI S3 54 0 ((S3.1 54 0 + 1)) := ⟨_, rfl⟩
  rw [← hS6] at hW
  have hw := hw S6 hS6
  refine z_iconst (v := Int32.ofInt 1) dX11_unit_50 rfl ?_
  exact z_ireturn dX11_unit_51 rfl (nar01 (by decide)) (hP _ _ _ hw hW)
def wX11_unit (a1 : Int) (S : St) (K : Int → St → Prop) : Prop := rng a1 → (iv 0 3000 (S.1 54 0) → ((S.1 54 0 = 3000 → K (0) S) ∧ ((¬ (S.1 54 0 = 3000)) → (wX11_in (a1) (32) (126) S (fun r3 S4 => (rng (r3) ∧ ((¬ r3 = 0 → wX11_unit_30 (a1) S4 K) ∧ ((¬ (¬ r3 = 0)) → (wX11_isBlank (a1) S4 (fun r7 S8 => (rng (r7) ∧ ((¬ r7 = 0 → wX11_unit_30 (a1) S8 K) ∧ ((¬ (¬ r7 = 0)) → K (0) S8)))))))))))))
set_option maxRecDepth 100000 in
set_option maxHeartbeats 4000000 in
theorem lX11_unit {G : xG} {sh : Nat → Option Sh} {J : St → List va_E → Prop} {a1 : Int} {S : St} {cs : List va_E} {K : Int → St → Prop} (d : Nat) (hd : 1 ≤ d) (hJ : Stb sh J) (hT : isM sh) (hW : Wd G sh mT J S cs) (g1 : rng a1) (hw : wX11_unit a1 S K) : X G yX11_unit cX11_unit 2 (some .boolean) d [.ref (G.1 + 54), .int (Int32.ofInt a1)] cs (qI G sh mT J K) := by
  refine X.of false (by decide +kernel) (by decide) (Nat.le_of_ble_eq_true rfl) ?_
  show Z (RX11, cX11_unit, 2, some .boolean, false) G d _ 0 [(0, .ref (G.1 + 54)), (1, .int (Int32.ofInt a1))] [] cs
  have hP : ∀ (v : Int) (S : St) (cs : List va_E), K v S → Wd G sh mT J S cs → qI G sh mT J K (some (.int (Int32.ofInt v))) cs := fun v S cs a b => ⟨v, S, rfl, a, b⟩
  unfold wX11_unit at hw
  have hw := hw g1
  refine z_aload_n dX11_unit_0 rfl rfl ?_
  have q1 : iv 0 3000 (S.1 54 0) := mI0 hW
  have hw := hw q1
  refine g_getI hW hT.1 mr0 kX11 fX11_171 dX11_unit_1 ?_
  refine z_sipush (v := Int32.ofInt 3000) dX11_unit_4 (by decide) ?_
  refine i_icmp_eq (tgt := 28) dX11_unit_7 (by decide) (rngq q1 (by decide) (by decide)) ⟨by decide, by decide⟩ (fun h2 => ?_) (fun h2 => ?_)
  · have hw := hw.1 h2
    refine z_iconst (v := Int32.ofInt 0) dX11_unit_28 rfl ?_
    exact z_ireturn dX11_unit_29 rfl (nar01 (by decide)) (hP _ _ _ hw hW)
  · have hw := hw.2 h2
    refine z_iload_n dX11_unit_10 rfl rfl ?_
    refine z_bipush (v := Int32.ofInt 32) dX11_unit_11 (by decide) ?_
    refine z_bipush (v := Int32.ofInt 126) dX11_unit_13 (by decide) ?_
    have hX := lX11_in 0 (Nat.le_refl _) hJ hT hW g1 ⟨by decide, by decide⟩ ⟨by decide, by decide⟩ hw
    refine z_callS (As := [_, _, _]) eX11_in sX11_in lX11_174 dX11_unit_15 hX (Nat.le_trans (by decide) hd) rfl (Nat.le_of_ble_eq_true rfl) (fun r cs hp => ?_)
    obtain ⟨r3, S4, rfl, hw, hW⟩ := hp
    refine z_st (st' := [.int (Int32.ofInt (r3))]) rfl ?_
    obtain ⟨q6, hw⟩ := hw
    refine i_if_ne (tgt := 30) dX11_unit_18 (by decide) q6 (fun h5 => ?_) (fun h5 => ?_)
    · have hw := hw.1 h5
      refine z_loc (L' := [(0, .ref (G.1 + 54)), (1, .int (Int32.ofInt (a1)))]) (List.forall_mem_cons.mpr ⟨rfl, (List.forall_mem_cons.mpr ⟨rfl, (fun _ h => nomatch h)⟩)⟩) ?_
      exact bX11_unit_30 hd hJ hT hW hP  hw
    · have hw := hw.2 h5
      refine z_iload_n dX11_unit_21 rfl rfl ?_
      have hX := lX11_isBlank 0 (Nat.le_refl _) hJ hT hW g1 hw
      refine z_callS (As := [_]) eX11_isBlank sX11_isBlank lX11_178 dX11_unit_22 hX (Nat.le_trans (by decide) hd) rfl (Nat.le_of_ble_eq_true rfl) (fun r cs hp => ?_)
      obtain ⟨r7, S8, rfl, hw, hW⟩ := hp
      refine z_st (st' := [.int (Int32.ofInt (r7))]) rfl ?_
      obtain ⟨q10, hw⟩ := hw
      refine i_if_ne (tgt := 30) dX11_unit_25 (by decide) q10 (fun h9 => ?_) (fun h9 => ?_)
      · have hw := hw.1 h9
        refine z_loc (L' := [(0, .ref (G.1 + 54)), (1, .int (Int32.ofInt (a1)))]) (List.forall_mem_cons.mpr ⟨rfl, (List.forall_mem_cons.mpr ⟨rfl, (fun _ h => nomatch h)⟩)⟩) ?_
        exact bX11_unit_30 hd hJ hT hW hP  hw
      · have hw := hw.2 h9
        refine z_iconst (v := Int32.ofInt 0) dX11_unit_28 rfl ?_
        exact z_ireturn dX11_unit_29 rfl (nar01 (by decide)) (hP _ _ _ hw hW)

def wX11_value (a1 a2 a3 a4 : Int) (S : St) (K : Int → St → Prop) : Prop := rng a1 → rng a2 → rng a3 → rng a4 → (wX11_kindAt (a1) (a2) (a3) S (fun r1 S2 => (rng (r1) ∧ ((¬ r1 = (-1) → (∀ x5 : Int, x5 = ((4 * ((30 * a1) + a2)) + a3) → ((r1 = 0 → ((0 : Int) ≤ x5 ∧ x5 < (360 : Int) ∧ (iv (-2147483648) 2147483647 (S2.2 69 (x5)) → K (S2.2 69 (x5)) S2))) ∧ ((¬ (r1 = 0)) → ((¬ r1 = 2 → ((0 : Int) ≤ x5 ∧ x5 < (360 : Int) ∧ (iv (-2147483648) 2147483647 (S2.2 69 (x5)) → (rng ((S2.2 69 (x5) - 1)) ∧ (wX11_in (a4) (0) ((S2.2 69 (x5) - 1)) S2 (fun r13 S14 => (rng (r13) ∧ ((r13 = 0 → K ((-2)) S14) ∧ ((¬ (r13 = 0)) → ((0 : Int) ≤ ((20 * x5) + a4) ∧ ((20 * x5) + a4) < (7200 : Int) ∧ (iv (-2147483648) 2147483647 (S14.2 70 (((20 * x5) + a4))) → K (S14.2 70 (((20 * x5) + a4))) S14))))))))))) ∧ ((¬ (¬ r1 = 2)) → ((0 : Int) ≤ x5 ∧ x5 < (360 : Int) ∧ (iv (-2147483648) 2147483647 (S2.2 69 (x5)) → K (S2.2 69 (x5)) S2)))))))) ∧ ((¬ (¬ r1 = (-1))) → K (0) S2)))))
set_option maxRecDepth 100000 in
set_option maxHeartbeats 4000000 in
theorem lX11_value {G : xG} {sh : Nat → Option Sh} {J : St → List va_E → Prop} {a1 a2 a3 a4 : Int} {S : St} {cs : List va_E} {K : Int → St → Prop} (d : Nat) (hd : 2 ≤ d) (hJ : Stb sh J) (hT : isM sh) (hW : Wd G sh mT J S cs) (g1 : rng a1) (g2 : rng a2) (g3 : rng a3) (g4 : rng a4) (hw : wX11_value a1 a2 a3 a4 S K) : X G yX11_value cX11_value 7 (some .int) d [.ref (G.1 + 54), .int (Int32.ofInt a1), .int (Int32.ofInt a2), .int (Int32.ofInt a3), .int (Int32.ofInt a4)] cs (qI G sh mT J K) := by
  refine X.of false (by decide +kernel) (by decide) (Nat.le_of_ble_eq_true rfl) ?_
  show Z (RX11, cX11_value, 7, some .int, false) G d _ 0 [(0, .ref (G.1 + 54)), (1, .int (Int32.ofInt a1)), (2, .int (Int32.ofInt a2)), (3, .int (Int32.ofInt a3)), (4, .int (Int32.ofInt a4))] [] cs
  have hP : ∀ (v : Int) (S : St) (cs : List va_E), K v S → Wd G sh mT J S cs → qI G sh mT J K (some (.int (Int32.ofInt v))) cs := fun v S cs a b => ⟨v, S, rfl, a, b⟩
  unfold wX11_value at hw
  have hw := hw g1 g2 g3 g4
  refine z_aload_n dX11_value_0 rfl rfl ?_
  refine z_iload_n dX11_value_1 rfl rfl ?_
  refine z_iload_n dX11_value_2 rfl rfl ?_
  refine z_iload_n dX11_value_3 rfl rfl ?_
  have hX := lX11_kindAt 1 (Nat.le_refl _) hJ hT hW g1 g2 g3 hw
  refine z_callV (As := [_, _, _]) eX11_kindAt sX11_kindAt lX11_253 rfl dX11_value_4 (hW.1 _ _ hT.1) hX (Nat.le_trans (by decide) hd) rfl (Nat.le_of_ble_eq_true rfl) (fun r cs hp => ?_)
  obtain ⟨r1, S2, rfl, hw, hW⟩ := hp
  refine z_st (st' := [.int (Int32.ofInt (r1))]) rfl ?_
  refine z_istore dX11_value_7 (by decide) ?_
  refine z_loc (L' := [(0, .ref (G.1 + 54)), (1, .int (Int32.ofInt (a1))), (2, .int (Int32.ofInt (a2))), (3, .int (Int32.ofInt (a3))), (4, .int (Int32.ofInt (a4))), (5, .int (Int32.ofInt (r1)))]) (List.forall_mem_cons.mpr ⟨rfl, (List.forall_mem_cons.mpr ⟨rfl, (List.forall_mem_cons.mpr ⟨rfl, (List.forall_mem_cons.mpr ⟨rfl, (List.forall_mem_cons.mpr ⟨rfl, (List.forall_mem_cons.mpr ⟨rfl, (fun _ h => nomatch h)⟩)⟩)⟩)⟩)⟩)⟩) ?_
  refine z_iload dX11_value_9 rfl ?_
  refine z_iconst (v := Int32.ofInt (-1)) dX11_value_11 rfl ?_
  obtain ⟨q4, hw⟩ := hw
  refine i_icmp_ne (tgt := 17) dX11_value_12 (by decide) q4 ⟨by decide, by decide⟩ (fun h3 => ?_) (fun h3 => ?_)
  · have hw := hw.1 h3
    refine z_iconst (v := Int32.ofInt 4) dX11_value_17 rfl ?_
    refine z_bipush (v := Int32.ofInt 30) dX11_value_18 (by decide) ?_
    refine z_iload_n dX11_value_20 rfl rfl ?_
    refine i_imul dX11_value_21 ?_
    refine z_iload_n dX11_value_22 rfl rfl ?_
    refine i_iadd dX11_value_23 ?_
    refine i_imul dX11_value_24 ?_
    refine z_iload_n dX11_value_25 rfl rfl ?_
    refine i_iadd dX11_value_26 ?_
    obtain ⟨x5, hx5⟩ : ∃ x : Int, x = ((4 * ((30 * a1) + a2)) + a3) := ⟨_, rfl⟩
    have hw := hw x5 hx5
    refine z_st (st' := [.int (Int32.ofInt x5)]) (by rw [hx5]) ?_
    refine z_istore dX11_value_27 (by decide) ?_
    refine z_loc (L' := [(0, .ref (G.1 + 54)), (1, .int (Int32.ofInt (a1))), (2, .int (Int32.ofInt (a2))), (3, .int (Int32.ofInt (a3))), (4, .int (Int32.ofInt (a4))), (5, .int (Int32.ofInt (r1))), (6, .int (Int32.ofInt (x5)))]) (List.forall_mem_cons.mpr ⟨rfl, (List.forall_mem_cons.mpr ⟨rfl, (List.forall_mem_cons.mpr ⟨rfl, (List.forall_mem_cons.mpr ⟨rfl, (List.forall_mem_cons.mpr ⟨rfl, (List.forall_mem_cons.mpr ⟨rfl, (List.forall_mem_cons.mpr ⟨rfl, (fun _ h => nomatch h)⟩)⟩)⟩)⟩)⟩)⟩)⟩) ?_
    refine z_iload dX11_value_29 rfl ?_
    refine i_if_eq (tgt := 40) dX11_value_31 (by decide) q4 (fun h6 => ?_) (fun h6 => ?_)
    · have hw := hw.1 h6
      refine z_aload_n dX11_value_40 rfl rfl ?_
      refine g_getR hW hT.1 mr16 kX11 fX11_53 dX11_value_41 ?_
      refine z_iload dX11_value_44 rfl ?_
      obtain ⟨q7a, q7b, hw⟩ := hw
      have q8 : iv (-2147483648) 2147483647 (S2.2 69 (x5)) := mA69 hW _
      have hw := hw q8
      refine g_iald hW (ma69 hT) q7a q7b (by decide) dX11_value_46 ?_
      exact z_ireturn dX11_value_47 rfl rfl (hP _ _ _ hw hW)
    · have hw := hw.2 h6
      refine z_iload dX11_value_34 rfl ?_
      refine z_iconst (v := Int32.ofInt 2) dX11_value_36 rfl ?_
      refine i_icmp_ne (tgt := 48) dX11_value_37 (by decide) q4 ⟨by decide, by decide⟩ (fun h9 => ?_) (fun h9 => ?_)
      · have hw := hw.1 h9
        refine z_iload dX11_value_48 rfl ?_
        refine z_iconst (v := Int32.ofInt 0) dX11_value_50 rfl ?_
        refine z_aload_n dX11_value_51 rfl rfl ?_
        refine g_getR hW hT.1 mr16 kX11 fX11_53 dX11_value_52 ?_
        refine z_iload dX11_value_55 rfl ?_
        obtain ⟨q10a, q10b, hw⟩ := hw
        have q11 : iv (-2147483648) 2147483647 (S2.2 69 (x5)) := mA69 hW _
        have hw := hw q11
        refine g_iald hW (ma69 hT) q10a q10b (by decide) dX11_value_57 ?_
        refine z_iconst (v := Int32.ofInt 1) dX11_value_58 rfl ?_
        refine i_isub dX11_value_59 ?_
        obtain ⟨q12, hw⟩ := hw
        have hX := lX11_in 0 (Nat.le_refl _) hJ hT hW g4 ⟨by decide, by decide⟩ q12 hw
        refine z_callS (As := [_, _, _]) eX11_in sX11_in lX11_174 dX11_value_60 hX (Nat.le_trans (by decide) hd) rfl (Nat.le_of_ble_eq_true rfl) (fun r cs hp => ?_)
        obtain ⟨r13, S14, rfl, hw, hW⟩ := hp
        refine z_st (st' := [.int (Int32.ofInt (r13))]) rfl ?_
        obtain ⟨q16, hw⟩ := hw
        refine i_if_eq (tgt := 82) dX11_value_63 (by decide) q16 (fun h15 => ?_) (fun h15 => ?_)
        · have hw := hw.1 h15
          refine z_bipush (v := Int32.ofInt (-2)) dX11_value_82 (by decide) ?_
          exact z_ireturn dX11_value_84 rfl rfl (hP _ _ _ hw hW)
        · have hw := hw.2 h15
          refine z_aload_n dX11_value_66 rfl rfl ?_
          refine g_getR hW hT.1 mr17 kX11 fX11_56 dX11_value_67 ?_
          refine z_bipush (v := Int32.ofInt 20) dX11_value_70 (by decide) ?_
          refine z_iload dX11_value_72 rfl ?_
          refine i_imul dX11_value_74 ?_
          refine z_iload dX11_value_75 rfl ?_
          refine i_iadd dX11_value_77 ?_
          obtain ⟨q17a, q17b, hw⟩ := hw
          have q18 : iv (-2147483648) 2147483647 (S14.2 70 (((20 * x5) + a4))) := mA70 hW _
          have hw := hw q18
          refine g_iald hW (ma70 hT) q17a q17b (by decide) dX11_value_78 ?_
          refine z_goto (tgt := 84) dX11_value_79 (by decide) ?_
          exact z_ireturn dX11_value_84 rfl rfl (hP _ _ _ hw hW)
      · have hw := hw.2 h9
        refine z_aload_n dX11_value_40 rfl rfl ?_
        refine g_getR hW hT.1 mr16 kX11 fX11_53 dX11_value_41 ?_
        refine z_iload dX11_value_44 rfl ?_
        obtain ⟨q19a, q19b, hw⟩ := hw
        have q20 : iv (-2147483648) 2147483647 (S2.2 69 (x5)) := mA69 hW _
        have hw := hw q20
        refine g_iald hW (ma69 hT) q19a q19b (by decide) dX11_value_46 ?_
        exact z_ireturn dX11_value_47 rfl rfl (hP _ _ _ hw hW)
  · have hw := hw.2 h3
    refine z_iconst (v := Int32.ofInt 0) dX11_value_15 rfl ?_
    exact z_ireturn dX11_value_16 rfl rfl (hP _ _ _ hw hW)

def wX11_write_148' (l4 : Int) (S : St) (K : Int → St → Prop) (B148 : Int → St → Prop) : Prop := (iv 0 3000 (S.1 54 20) → (rng (l4) ∧ ((S.1 54 20 ≤ l4 → K (S.1 54 20) S) ∧ ((¬ (S.1 54 20 ≤ l4)) → ((0 : Int) ≤ l4 ∧ l4 < (3001 : Int) ∧ (iv (-2147483648) 2147483647 (S.2 83 (l4)) → ((0 : Int) ≤ l4 ∧ l4 < (3000 : Int) ∧ (∀ S7, S7 = pA S 71 (l4) (S.2 83 (l4)) → B148 ((l4 + 1)) S7))))))))
set_option maxRecDepth 100000 in
set_option maxHeartbeats 4000000 in
theorem bX11_write_148' {G : xG} {sh : Nat → Option Sh} {J : St → List va_E → Prop} {d : Nat} {Post : xP} {l4 : Int} {S : St} {cs : List va_E} {K : Int → St → Prop} {B148 : Int → St → Prop} (hd : 9 ≤ d) (hJ : Stb sh J) (hT : isM sh) (hW : Wd G sh mT J S cs) (hP : ∀ (v : Int) (S : St) (cs : List va_E), K v S → Wd G sh mT J S cs → Post (some (.int (Int32.ofInt v))) cs) (hB148 : ∀ (l4 : Int) (S : St) (cs : List va_E), B148 l4 S → Wd G sh mT J S cs → Z (RX11, cX11_write, 5, some .int, false) G d Post 148 [(0, .ref (G.1 + 54)), (4, .int (Int32.ofInt (l4)))] [] cs) (hw : wX11_write_148' l4 S K B148) : Z (RX11, cX11_write, 5, some .int, false) G d Post 148 [(0, .ref (G.1 + 54)), (4, .int (Int32.ofInt (l4)))] [] cs := by
  unfold wX11_write_148' at hw
  refine z_iload dX11_write_148 rfl ?_
  refine z_aload_n dX11_write_150 rfl rfl ?_
  have q1 : iv 0 3000 (S.1 54 20) := mI20 hW
  have hw := hw q1
  refine g_getI hW hT.1 mr20 kX11 fX11_244 dX11_write_151 ?_
  obtain ⟨q3, hw⟩ := hw
  refine i_icmp_ge (tgt := 177) dX11_write_154 (by decide) q3 (rngq q1 (by decide) (by decide)) (fun h2 => ?_) (fun h2 => ?_)
  · have hw := hw.1 h2
    refine z_aload_n dX11_write_177 rfl rfl ?_
    refine g_getI hW hT.1 mr20 kX11 fX11_244 dX11_write_178 ?_
    exact z_ireturn dX11_write_181 rfl rfl (hP _ _ _ hw hW)
  · have hw := hw.2 h2
    refine z_aload_n dX11_write_157 rfl rfl ?_
    refine g_getR hW hT.1 mr21 kX11 fX11_63 dX11_write_158 ?_
    refine z_iload dX11_write_161 rfl ?_
    refine z_aload_n dX11_write_163 rfl rfl ?_
    refine g_getR hW hT.1 mr40 kX11 fX11_99 dX11_write_164 ?_
    refine z_iload dX11_write_167 rfl ?_
    obtain ⟨q4a, q4b, hw⟩ := hw
    have q5 : iv (-2147483648) 2147483647 (S.2 83 (l4)) := mA83 hW _
    have hw := hw q5
    refine g_iald hW (ma83 hT) q4a q4b (by decide) dX11_write_169 ?_
    obtain ⟨q6a, q6b, hw⟩ := hw
    refine g_iast hJ hW (ma71 hT) q6a q6b (by decide) q5 dX11_write_170 (fun cs hW => ?_)
    obtain ⟨S7, hS7⟩ : ∃ x, x = pA S 71 (l4) (S.2 83 (l4)) := ⟨_, rfl⟩
    rw [← hS7] at hW
    have hw := hw S7 hS7
    refine i_iinc (l := l4) dX11_write_171 rfl (by decide) ?_
    refine z_loc (L' := [(0, .ref (G.1 + 54)), (4, .int (Int32.ofInt ((l4 + 1))))]) (List.forall_mem_cons.mpr ⟨rfl, (List.forall_mem_cons.mpr ⟨rfl, (fun _ h => nomatch h)⟩)⟩) ?_
    refine z_goto (tgt := 148) dX11_write_174 (by decide) ?_
    refine z_loc (L' := [(0, .ref (G.1 + 54)), (4, .int (Int32.ofInt ((l4 + 1))))]) (List.forall_mem_cons.mpr ⟨rfl, (List.forall_mem_cons.mpr ⟨rfl, (fun _ h => nomatch h)⟩)⟩) ?_
    exact hB148 _ _ _ hw hW
def wX11_write_148 (l4 : Int) (S : St) (K : Int → St → Prop) : Prop := ∃ (Iv : Int → St → Prop) (mu : Int → St → Nat), Iv l4 S ∧ ∀ (l4 : Int) (S : St), Iv l4 S → wX11_write_148' l4 S K  (fun ml4 T => Iv ml4 T ∧ mu ml4 T < mu l4 S)
set_option maxRecDepth 100000 in
set_option maxHeartbeats 4000000 in
theorem bX11_write_148 {G : xG} {sh : Nat → Option Sh} {J : St → List va_E → Prop} {d : Nat} {Post : xP} {l4 : Int} {S : St} {cs : List va_E} {K : Int → St → Prop} (hd : 9 ≤ d) (hJ : Stb sh J) (hT : isM sh) (hW : Wd G sh mT J S cs) (hP : ∀ (v : Int) (S : St) (cs : List va_E), K v S → Wd G sh mT J S cs → Post (some (.int (Int32.ofInt v))) cs)  (hw : wX11_write_148 l4 S K ) : Z (RX11, cX11_write, 5, some .int, false) G d Post 148 [(0, .ref (G.1 + 54)), (4, .int (Int32.ofInt (l4)))] [] cs := by
  unfold wX11_write_148 at hw
  obtain ⟨Iv, mu, h0, hs⟩ := hw
  have key : ∀ (n : Nat) (l4 : Int) (S : St) (cs : List va_E), mu l4 S < n → Iv l4 S → Wd G sh mT J S cs → Z (RX11, cX11_write, 5, some .int, false) G d Post 148 [(0, .ref (G.1 + 54)), (4, .int (Int32.ofInt (l4)))] [] cs := by
    intro n
    induction n with
    | zero => intro l4 S cs hn; exact absurd hn (Nat.not_lt_zero _)
    | succ n ih =>
      intro l4 S cs hn hI hW
      exact bX11_write_148' hd hJ hT hW hP  (fun l4 S cs hb hW => ih l4 S cs (Nat.lt_of_lt_of_le hb.2 (Nat.le_of_lt_succ hn)) hb.1 hW) (hs l4 S hI)
  exact key _ _ _ _ (Nat.lt_succ_self _) h0 hW
def wX11_write_117 (l3 : Int) (S : St) (K : Int → St → Prop) : Prop := (iv 0 3001 (S.1 54 39) → ((S.1 54 39 ≤ 3000 → (rng (l3) ∧ ((l3 = 0 → (iv 0 3000 (S.1 54 39) ∧ (∀ S5, S5 = pI S 54 20 (S.1 54 39) → wX11_write_148 (0) S5 K))) ∧ ((¬ (l3 = 0)) → K ((-3)) S)))) ∧ ((¬ (S.1 54 39 ≤ 3000)) → K ((-4)) S)))
set_option maxRecDepth 100000 in
set_option maxHeartbeats 4000000 in
theorem bX11_write_117 {G : xG} {sh : Nat → Option Sh} {J : St → List va_E → Prop} {d : Nat} {Post : xP} {l3 : Int} {S : St} {cs : List va_E} {K : Int → St → Prop} (hd : 9 ≤ d) (hJ : Stb sh J) (hT : isM sh) (hW : Wd G sh mT J S cs) (hP : ∀ (v : Int) (S : St) (cs : List va_E), K v S → Wd G sh mT J S cs → Post (some (.int (Int32.ofInt v))) cs)  (hw : wX11_write_117 l3 S K ) : Z (RX11, cX11_write, 5, some .int, false) G d Post 117 [(0, .ref (G.1 + 54)), (3, .int (Int32.ofInt (l3)))] [] cs := by
  unfold wX11_write_117 at hw
  refine z_aload_n dX11_write_117 rfl rfl ?_
  have q1 : iv 0 3001 (S.1 54 39) := mI39 hW
  have hw := hw q1
  refine g_getI hW hT.1 mr39 kX11 fX11_257 dX11_write_118 ?_
  refine z_sipush (v := Int32.ofInt 3000) dX11_write_121 (by decide) ?_
  refine i_icmp_le (tgt := 130) dX11_write_124 (by decide) (rngq q1 (by decide) (by decide)) ⟨by decide, by decide⟩ (fun h2 => ?_) (fun h2 => ?_)
  · have hw := hw.1 h2
    refine z_iload_n dX11_write_130 rfl rfl ?_
    obtain ⟨q4, hw⟩ := hw
    refine i_if_eq (tgt := 137) dX11_write_131 (by decide) q4 (fun h3 => ?_) (fun h3 => ?_)
    · have hw := hw.1 h3
      refine z_aload_n dX11_write_137 rfl rfl ?_
      refine z_aload_n dX11_write_138 rfl rfl ?_
      refine g_getI hW hT.1 mr39 kX11 fX11_257 dX11_write_139 ?_
      obtain ⟨q6, hw⟩ := hw
      refine g_putI hJ hW hT.1 mr20 kX11 fX11_244 dX11_write_142 rfl rfl rfl q6 (fun cs hW => ?_)
      obtain ⟨S5, hS5⟩ : ∃ x, x = pI S 54 20 (S.1 54 39) := ⟨_, rfl⟩
      rw [← hS5] at hW
      have hw := hw S5 hS5
      refine z_iconst (v := Int32.ofInt 0) dX11_write_145 rfl ?_
      refine z_istore dX11_write_146 (by decide) ?_
      refine z_loc (L' := [(0, .ref (G.1 + 54)), (3, .int (Int32.ofInt (l3))), (4, .int (Int32.ofInt (0)))]) (List.forall_mem_cons.mpr ⟨rfl, (List.forall_mem_cons.mpr ⟨rfl, (List.forall_mem_cons.mpr ⟨rfl, (fun _ h => nomatch h)⟩)⟩)⟩) ?_
      refine z_loc (L' := [(0, .ref (G.1 + 54)), (4, .int (Int32.ofInt (0)))]) (List.forall_mem_cons.mpr ⟨rfl, (List.forall_mem_cons.mpr ⟨rfl, (fun _ h => nomatch h)⟩)⟩) ?_
      exact bX11_write_148 hd hJ hT hW hP  hw
    · have hw := hw.2 h3
      refine z_bipush (v := Int32.ofInt (-3)) dX11_write_134 (by decide) ?_
      exact z_ireturn dX11_write_136 rfl rfl (hP _ _ _ hw hW)
  · have hw := hw.2 h2
    refine z_bipush (v := Int32.ofInt (-4)) dX11_write_127 (by decide) ?_
    exact z_ireturn dX11_write_129 rfl rfl (hP _ _ _ hw hW)
def wX11_write_113 (l2 s0 : Int) (S : St) (K : Int → St → Prop) (B79 : Int → Int → St → Prop) : Prop := B79 (l2) (s0) S
set_option maxRecDepth 100000 in
set_option maxHeartbeats 4000000 in
theorem bX11_write_113 {G : xG} {sh : Nat → Option Sh} {J : St → List va_E → Prop} {d : Nat} {Post : xP} {l2 s0 : Int} {S : St} {cs : List va_E} {K : Int → St → Prop} {B79 : Int → Int → St → Prop} (hd : 9 ≤ d) (hJ : Stb sh J) (hT : isM sh) (hW : Wd G sh mT J S cs) (hP : ∀ (v : Int) (S : St) (cs : List va_E), K v S → Wd G sh mT J S cs → Post (some (.int (Int32.ofInt v))) cs) (hB79 : ∀ (l2 : Int) (l3 : Int) (S : St) (cs : List va_E), B79 l2 l3 S → Wd G sh mT J S cs → Z (RX11, cX11_write, 5, some .int, false) G d Post 79 [(0, .ref (G.1 + 54)), (2, .int (Int32.ofInt (l2))), (3, .int (Int32.ofInt (l3)))] [] cs) (hw : wX11_write_113 l2 s0 S K B79) : Z (RX11, cX11_write, 5, some .int, false) G d Post 113 [(0, .ref (G.1 + 54)), (2, .int (Int32.ofInt (l2)))] [.int (Int32.ofInt (s0))] cs := by
  unfold wX11_write_113 at hw
  refine z_istore_n dX11_write_113 rfl (by decide) ?_
  refine z_loc (L' := [(0, .ref (G.1 + 54)), (2, .int (Int32.ofInt (l2))), (3, .int (Int32.ofInt (s0)))]) (List.forall_mem_cons.mpr ⟨rfl, (List.forall_mem_cons.mpr ⟨rfl, (List.forall_mem_cons.mpr ⟨rfl, (fun _ h => nomatch h)⟩)⟩)⟩) ?_
  refine z_goto (tgt := 79) dX11_write_114 (by decide) ?_
  refine z_loc (L' := [(0, .ref (G.1 + 54)), (2, .int (Int32.ofInt (l2))), (3, .int (Int32.ofInt (s0)))]) (List.forall_mem_cons.mpr ⟨rfl, (List.forall_mem_cons.mpr ⟨rfl, (List.forall_mem_cons.mpr ⟨rfl, (fun _ h => nomatch h)⟩)⟩)⟩) ?_
  exact hB79 _ _ _ _ hw hW
def wX11_write_79' (l2 l3 : Int) (S : St) (K : Int → St → Prop) (B79 : Int → Int → St → Prop) : Prop := (iv 0 20 (S.1 54 32) → ((S.1 54 32 ≤ 0 → wX11_write_117 (l3) S K) ∧ ((¬ (S.1 54 32 ≤ 0)) → (rng (l3) ∧ ((¬ l3 = 0 → wX11_write_117 (l3) S K) ∧ ((¬ (¬ l3 = 0)) → (iv 0 3001 (S.1 54 39) → ((3000 < S.1 54 39 → wX11_write_117 (l3) S K) ∧ ((¬ (3000 < S.1 54 39)) → (rng (l2) ∧ (wX11_goesOn (l2) S (fun r8 S9 => (rng (r8) ∧ ((¬ r8 = 0 → wX11_write_113 (l2) (0) S9 K B79) ∧ ((¬ (¬ r8 = 0)) → wX11_write_113 (l2) (1) S9 K B79)))))))))))))))
set_option maxRecDepth 100000 in
set_option maxHeartbeats 4000000 in
theorem bX11_write_79' {G : xG} {sh : Nat → Option Sh} {J : St → List va_E → Prop} {d : Nat} {Post : xP} {l2 l3 : Int} {S : St} {cs : List va_E} {K : Int → St → Prop} {B79 : Int → Int → St → Prop} (hd : 9 ≤ d) (hJ : Stb sh J) (hT : isM sh) (hW : Wd G sh mT J S cs) (hP : ∀ (v : Int) (S : St) (cs : List va_E), K v S → Wd G sh mT J S cs → Post (some (.int (Int32.ofInt v))) cs) (hB79 : ∀ (l2 : Int) (l3 : Int) (S : St) (cs : List va_E), B79 l2 l3 S → Wd G sh mT J S cs → Z (RX11, cX11_write, 5, some .int, false) G d Post 79 [(0, .ref (G.1 + 54)), (2, .int (Int32.ofInt (l2))), (3, .int (Int32.ofInt (l3)))] [] cs) (hw : wX11_write_79' l2 l3 S K B79) : Z (RX11, cX11_write, 5, some .int, false) G d Post 79 [(0, .ref (G.1 + 54)), (2, .int (Int32.ofInt (l2))), (3, .int (Int32.ofInt (l3)))] [] cs := by
  unfold wX11_write_79' at hw
  refine z_aload_n dX11_write_79 rfl rfl ?_
  have q1 : iv 0 20 (S.1 54 32) := mI32 hW
  have hw := hw q1
  refine g_getI hW hT.1 mr32 kX11 fX11_316 dX11_write_80 ?_
  refine i_if_le (tgt := 117) dX11_write_83 (by decide) (rngq q1 (by decide) (by decide)) (fun h2 => ?_) (fun h2 => ?_)
  · have hw := hw.1 h2
    refine z_loc (L' := [(0, .ref (G.1 + 54)), (3, .int (Int32.ofInt (l3)))]) (List.forall_mem_cons.mpr ⟨rfl, (List.forall_mem_cons.mpr ⟨rfl, (fun _ h => nomatch h)⟩)⟩) ?_
    exact bX11_write_117 hd hJ hT hW hP  hw
  · have hw := hw.2 h2
    refine z_iload_n dX11_write_86 rfl rfl ?_
    obtain ⟨q4, hw⟩ := hw
    refine i_if_ne (tgt := 117) dX11_write_87 (by decide) q4 (fun h3 => ?_) (fun h3 => ?_)
    · have hw := hw.1 h3
      refine z_loc (L' := [(0, .ref (G.1 + 54)), (3, .int (Int32.ofInt (l3)))]) (List.forall_mem_cons.mpr ⟨rfl, (List.forall_mem_cons.mpr ⟨rfl, (fun _ h => nomatch h)⟩)⟩) ?_
      exact bX11_write_117 hd hJ hT hW hP  hw
    · have hw := hw.2 h3
      refine z_aload_n dX11_write_90 rfl rfl ?_
      have q5 : iv 0 3001 (S.1 54 39) := mI39 hW
      have hw := hw q5
      refine g_getI hW hT.1 mr39 kX11 fX11_257 dX11_write_91 ?_
      refine z_sipush (v := Int32.ofInt 3000) dX11_write_94 (by decide) ?_
      refine i_icmp_gt (tgt := 117) dX11_write_97 (by decide) (rngq q5 (by decide) (by decide)) ⟨by decide, by decide⟩ (fun h6 => ?_) (fun h6 => ?_)
      · have hw := hw.1 h6
        refine z_loc (L' := [(0, .ref (G.1 + 54)), (3, .int (Int32.ofInt (l3)))]) (List.forall_mem_cons.mpr ⟨rfl, (List.forall_mem_cons.mpr ⟨rfl, (fun _ h => nomatch h)⟩)⟩) ?_
        exact bX11_write_117 hd hJ hT hW hP  hw
      · have hw := hw.2 h6
        refine z_aload_n dX11_write_100 rfl rfl ?_
        refine z_iload_n dX11_write_101 rfl rfl ?_
        obtain ⟨q7, hw⟩ := hw
        have hX := lX11_goesOn 8 (Nat.le_refl _) hJ hT hW q7 hw
        refine z_callV (As := [_]) eX11_goesOn sX11_goesOn lX11_337 rfl dX11_write_102 (hW.1 _ _ hT.1) hX (Nat.le_trans (by decide) hd) rfl (Nat.le_of_ble_eq_true rfl) (fun r cs hp => ?_)
        obtain ⟨r8, S9, rfl, hw, hW⟩ := hp
        refine z_st (st' := [.int (Int32.ofInt (r8))]) rfl ?_
        obtain ⟨q11, hw⟩ := hw
        refine i_if_ne (tgt := 112) dX11_write_105 (by decide) q11 (fun h10 => ?_) (fun h10 => ?_)
        · have hw := hw.1 h10
          refine z_iconst (v := Int32.ofInt 0) dX11_write_112 rfl ?_
          refine z_loc (L' := [(0, .ref (G.1 + 54)), (2, .int (Int32.ofInt (l2)))]) (List.forall_mem_cons.mpr ⟨rfl, (List.forall_mem_cons.mpr ⟨rfl, (fun _ h => nomatch h)⟩)⟩) ?_
          exact bX11_write_113 hd hJ hT hW hP hB79 hw
        · have hw := hw.2 h10
          refine z_iconst (v := Int32.ofInt 1) dX11_write_108 rfl ?_
          refine z_goto (tgt := 113) dX11_write_109 (by decide) ?_
          refine z_loc (L' := [(0, .ref (G.1 + 54)), (2, .int (Int32.ofInt (l2)))]) (List.forall_mem_cons.mpr ⟨rfl, (List.forall_mem_cons.mpr ⟨rfl, (fun _ h => nomatch h)⟩)⟩) ?_
          exact bX11_write_113 hd hJ hT hW hP hB79 hw
def wX11_write_79 (l2 l3 : Int) (S : St) (K : Int → St → Prop) : Prop := ∃ (Iv : Int → Int → St → Prop) (mu : Int → Int → St → Nat), Iv l2 l3 S ∧ ∀ (l2 l3 : Int) (S : St), Iv l2 l3 S → wX11_write_79' l2 l3 S K  (fun ml2 ml3 T => Iv ml2 ml3 T ∧ mu ml2 ml3 T < mu l2 l3 S)
set_option maxRecDepth 100000 in
set_option maxHeartbeats 4000000 in
theorem bX11_write_79 {G : xG} {sh : Nat → Option Sh} {J : St → List va_E → Prop} {d : Nat} {Post : xP} {l2 l3 : Int} {S : St} {cs : List va_E} {K : Int → St → Prop} (hd : 9 ≤ d) (hJ : Stb sh J) (hT : isM sh) (hW : Wd G sh mT J S cs) (hP : ∀ (v : Int) (S : St) (cs : List va_E), K v S → Wd G sh mT J S cs → Post (some (.int (Int32.ofInt v))) cs)  (hw : wX11_write_79 l2 l3 S K ) : Z (RX11, cX11_write, 5, some .int, false) G d Post 79 [(0, .ref (G.1 + 54)), (2, .int (Int32.ofInt (l2))), (3, .int (Int32.ofInt (l3)))] [] cs := by
  unfold wX11_write_79 at hw
  obtain ⟨Iv, mu, h0, hs⟩ := hw
  have key : ∀ (n : Nat) (l2 l3 : Int) (S : St) (cs : List va_E), mu l2 l3 S < n → Iv l2 l3 S → Wd G sh mT J S cs → Z (RX11, cX11_write, 5, some .int, false) G d Post 79 [(0, .ref (G.1 + 54)), (2, .int (Int32.ofInt (l2))), (3, .int (Int32.ofInt (l3)))] [] cs := by
    intro n
    induction n with
    | zero => intro l2 l3 S cs hn; exact absurd hn (Nat.not_lt_zero _)
    | succ n ih =>
      intro l2 l3 S cs hn hI hW
      exact bX11_write_79' hd hJ hT hW hP  (fun l2 l3 S cs hb hW => ih l2 l3 S cs (Nat.lt_of_lt_of_le hb.2 (Nat.le_of_lt_succ hn)) hb.1 hW) (hs l2 l3 S hI)
  exact key _ _ _ _ _ (Nat.lt_succ_self _) h0 hW
def wX11_write_42' (l1 l2 l3 : Int) (S : St) (K : Int → St → Prop) (B42 : Int → Int → Int → St → Prop) : Prop := (rng (l3) ∧ ((30 ≤ l3 → ((0 : Int) ≤ l1 ∧ l1 < (90 : Int) ∧ (iv 0 5 (S.2 68 (l1)) → (rng (l1) ∧ (rng (l2) ∧ (wX11_begin (l1) ((-2)) (S.2 68 (l1)) (0) (l2) S (fun r7 S8 => wX11_write_79 (l2) (0) S8 K))))))) ∧ ((¬ (30 ≤ l3)) → ((0 : Int) ≤ l3 ∧ l3 < (30 : Int) ∧ (∀ S10, S10 = pA S 75 (l3) ((-2)) → B42 (l1) (l2) ((l3 + 1)) S10)))))
set_option maxRecDepth 100000 in
set_option maxHeartbeats 4000000 in
theorem bX11_write_42' {G : xG} {sh : Nat → Option Sh} {J : St → List va_E → Prop} {d : Nat} {Post : xP} {l1 l2 l3 : Int} {S : St} {cs : List va_E} {K : Int → St → Prop} {B42 : Int → Int → Int → St → Prop} (hd : 9 ≤ d) (hJ : Stb sh J) (hT : isM sh) (hW : Wd G sh mT J S cs) (hP : ∀ (v : Int) (S : St) (cs : List va_E), K v S → Wd G sh mT J S cs → Post (some (.int (Int32.ofInt v))) cs) (hB42 : ∀ (l1 : Int) (l2 : Int) (l3 : Int) (S : St) (cs : List va_E), B42 l1 l2 l3 S → Wd G sh mT J S cs → Z (RX11, cX11_write, 5, some .int, false) G d Post 42 [(0, .ref (G.1 + 54)), (1, .int (Int32.ofInt (l1))), (2, .int (Int32.ofInt (l2))), (3, .int (Int32.ofInt (l3)))] [] cs) (hw : wX11_write_42' l1 l2 l3 S K B42) : Z (RX11, cX11_write, 5, some .int, false) G d Post 42 [(0, .ref (G.1 + 54)), (1, .int (Int32.ofInt (l1))), (2, .int (Int32.ofInt (l2))), (3, .int (Int32.ofInt (l3)))] [] cs := by
  unfold wX11_write_42' at hw
  refine z_iload_n dX11_write_42 rfl rfl ?_
  refine z_bipush (v := Int32.ofInt 30) dX11_write_43 (by decide) ?_
  obtain ⟨q2, hw⟩ := hw
  refine i_icmp_ge (tgt := 62) dX11_write_45 (by decide) q2 ⟨by decide, by decide⟩ (fun h1 => ?_) (fun h1 => ?_)
  · have hw := hw.1 h1
    refine z_aload_n dX11_write_62 rfl rfl ?_
    refine z_iload_n dX11_write_63 rfl rfl ?_
    refine z_bipush (v := Int32.ofInt (-2)) dX11_write_64 (by decide) ?_
    refine z_aload_n dX11_write_66 rfl rfl ?_
    refine g_getR hW hT.1 mr15 kX11 fX11_50 dX11_write_67 ?_
    refine z_iload_n dX11_write_70 rfl rfl ?_
    obtain ⟨q3a, q3b, hw⟩ := hw
    have q4 : iv 0 5 (S.2 68 (l1)) := mA68 hW _
    have hw := hw q4
    refine g_iald hW (ma68 hT) q3a q3b (by decide) dX11_write_71 ?_
    refine z_iconst (v := Int32.ofInt 0) dX11_write_72 rfl ?_
    refine z_iload_n dX11_write_73 rfl rfl ?_
    obtain ⟨q5, hw⟩ := hw
    obtain ⟨q6, hw⟩ := hw
    have hX := lX11_begin 4 (Nat.le_refl _) hJ hT hW q5 ⟨by decide, by decide⟩ (rngq q4 (by decide) (by decide)) ⟨by decide, by decide⟩ q6 hw
    refine z_callV (As := [_, _, _, _, _]) eX11_begin sX11_begin lX11_322 rfl dX11_write_74 (hW.1 _ _ hT.1) hX (Nat.le_trans (by decide) hd) rfl (Nat.le_of_ble_eq_true rfl) (fun r cs hp => ?_)
    obtain ⟨r7, S8, rfl, hw, hW⟩ := hp
    refine z_st (st' := []) rfl ?_
    refine z_iconst (v := Int32.ofInt 0) dX11_write_77 rfl ?_
    refine z_istore_n dX11_write_78 rfl (by decide) ?_
    refine z_loc (L' := [(0, .ref (G.1 + 54)), (1, .int (Int32.ofInt (l1))), (2, .int (Int32.ofInt (l2))), (3, .int (Int32.ofInt (0)))]) (List.forall_mem_cons.mpr ⟨rfl, (List.forall_mem_cons.mpr ⟨rfl, (List.forall_mem_cons.mpr ⟨rfl, (List.forall_mem_cons.mpr ⟨rfl, (fun _ h => nomatch h)⟩)⟩)⟩)⟩) ?_
    refine z_loc (L' := [(0, .ref (G.1 + 54)), (2, .int (Int32.ofInt (l2))), (3, .int (Int32.ofInt (0)))]) (List.forall_mem_cons.mpr ⟨rfl, (List.forall_mem_cons.mpr ⟨rfl, (List.forall_mem_cons.mpr ⟨rfl, (fun _ h => nomatch h)⟩)⟩)⟩) ?_
    exact bX11_write_79 hd hJ hT hW hP  hw
  · have hw := hw.2 h1
    refine z_aload_n dX11_write_48 rfl rfl ?_
    refine g_getR hW hT.1 mr29 kX11 fX11_75 dX11_write_49 ?_
    refine z_iload_n dX11_write_52 rfl rfl ?_
    refine z_bipush (v := Int32.ofInt (-2)) dX11_write_53 (by decide) ?_
    obtain ⟨q9a, q9b, hw⟩ := hw
    refine g_iast hJ hW (ma75 hT) q9a q9b (by decide) ⟨by decide, by decide⟩ dX11_write_55 (fun cs hW => ?_)
    obtain ⟨S10, hS10⟩ : ∃ x, x = pA S 75 (l3) ((-2)) := ⟨_, rfl⟩
    rw [← hS10] at hW
    have hw := hw S10 hS10
    refine i_iinc (l := l3) dX11_write_56 rfl (by decide) ?_
    refine z_loc (L' := [(0, .ref (G.1 + 54)), (1, .int (Int32.ofInt (l1))), (2, .int (Int32.ofInt (l2))), (3, .int (Int32.ofInt ((l3 + 1))))]) (List.forall_mem_cons.mpr ⟨rfl, (List.forall_mem_cons.mpr ⟨rfl, (List.forall_mem_cons.mpr ⟨rfl, (List.forall_mem_cons.mpr ⟨rfl, (fun _ h => nomatch h)⟩)⟩)⟩)⟩) ?_
    refine z_goto (tgt := 42) dX11_write_59 (by decide) ?_
    refine z_loc (L' := [(0, .ref (G.1 + 54)), (1, .int (Int32.ofInt (l1))), (2, .int (Int32.ofInt (l2))), (3, .int (Int32.ofInt ((l3 + 1))))]) (List.forall_mem_cons.mpr ⟨rfl, (List.forall_mem_cons.mpr ⟨rfl, (List.forall_mem_cons.mpr ⟨rfl, (List.forall_mem_cons.mpr ⟨rfl, (fun _ h => nomatch h)⟩)⟩)⟩)⟩) ?_
    exact hB42 _ _ _ _ _ hw hW
def wX11_write_42 (l1 l2 l3 : Int) (S : St) (K : Int → St → Prop) : Prop := ∃ (Iv : Int → Int → Int → St → Prop) (mu : Int → Int → Int → St → Nat), Iv l1 l2 l3 S ∧ ∀ (l1 l2 l3 : Int) (S : St), Iv l1 l2 l3 S → wX11_write_42' l1 l2 l3 S K  (fun ml1 ml2 ml3 T => Iv ml1 ml2 ml3 T ∧ mu ml1 ml2 ml3 T < mu l1 l2 l3 S)
set_option maxRecDepth 100000 in
set_option maxHeartbeats 4000000 in
theorem bX11_write_42 {G : xG} {sh : Nat → Option Sh} {J : St → List va_E → Prop} {d : Nat} {Post : xP} {l1 l2 l3 : Int} {S : St} {cs : List va_E} {K : Int → St → Prop} (hd : 9 ≤ d) (hJ : Stb sh J) (hT : isM sh) (hW : Wd G sh mT J S cs) (hP : ∀ (v : Int) (S : St) (cs : List va_E), K v S → Wd G sh mT J S cs → Post (some (.int (Int32.ofInt v))) cs)  (hw : wX11_write_42 l1 l2 l3 S K ) : Z (RX11, cX11_write, 5, some .int, false) G d Post 42 [(0, .ref (G.1 + 54)), (1, .int (Int32.ofInt (l1))), (2, .int (Int32.ofInt (l2))), (3, .int (Int32.ofInt (l3)))] [] cs := by
  unfold wX11_write_42 at hw
  obtain ⟨Iv, mu, h0, hs⟩ := hw
  have key : ∀ (n : Nat) (l1 l2 l3 : Int) (S : St) (cs : List va_E), mu l1 l2 l3 S < n → Iv l1 l2 l3 S → Wd G sh mT J S cs → Z (RX11, cX11_write, 5, some .int, false) G d Post 42 [(0, .ref (G.1 + 54)), (1, .int (Int32.ofInt (l1))), (2, .int (Int32.ofInt (l2))), (3, .int (Int32.ofInt (l3)))] [] cs := by
    intro n
    induction n with
    | zero => intro l1 l2 l3 S cs hn; exact absurd hn (Nat.not_lt_zero _)
    | succ n ih =>
      intro l1 l2 l3 S cs hn hI hW
      exact bX11_write_42' hd hJ hT hW hP  (fun l1 l2 l3 S cs hb hW => ih l1 l2 l3 S cs (Nat.lt_of_lt_of_le hb.2 (Nat.le_of_lt_succ hn)) hb.1 hW) (hs l1 l2 l3 S hI)
  exact key _ _ _ _ _ _ (Nat.lt_succ_self _) h0 hW
def wX11_write (a1 a2 : Int) (S : St) (K : Int → St → Prop) : Prop := rng a1 → rng a2 → (wX11_isObject (0) (a1) S (fun r1 S2 => (rng (r1) ∧ ((r1 = 0 → K ((-1)) S2) ∧ ((¬ (r1 = 0)) → (wX11_in (a2) (0) (3) S2 (fun r5 S6 => (rng (r5) ∧ ((¬ r5 = 0 → (∀ S9, S9 = pI S6 54 39 (0) → (∀ S10, S10 = pI S9 54 25 (0) → (∀ S11, S11 = pI S10 54 30 (0) → (∀ S12, S12 = pI S11 54 32 (0) → wX11_write_42 (a1) (a2) (0) S12 K))))) ∧ ((¬ (¬ r5 = 0)) → K ((-1)) S6))))))))))
set_option maxRecDepth 100000 in
set_option maxHeartbeats 4000000 in
theorem lX11_write {G : xG} {sh : Nat → Option Sh} {J : St → List va_E → Prop} {a1 a2 : Int} {S : St} {cs : List va_E} {K : Int → St → Prop} (d : Nat) (hd : 9 ≤ d) (hJ : Stb sh J) (hT : isM sh) (hW : Wd G sh mT J S cs) (g1 : rng a1) (g2 : rng a2) (hw : wX11_write a1 a2 S K) : X G yX11_write cX11_write 5 (some .int) d [.ref (G.1 + 54), .int (Int32.ofInt a1), .int (Int32.ofInt a2)] cs (qI G sh mT J K) := by
  refine X.of false (by decide +kernel) (by decide) (Nat.le_of_ble_eq_true rfl) ?_
  show Z (RX11, cX11_write, 5, some .int, false) G d _ 0 [(0, .ref (G.1 + 54)), (1, .int (Int32.ofInt a1)), (2, .int (Int32.ofInt a2))] [] cs
  have hP : ∀ (v : Int) (S : St) (cs : List va_E), K v S → Wd G sh mT J S cs → qI G sh mT J K (some (.int (Int32.ofInt v))) cs := fun v S cs a b => ⟨v, S, rfl, a, b⟩
  unfold wX11_write at hw
  have hw := hw g1 g2
  refine z_aload_n dX11_write_0 rfl rfl ?_
  refine z_iconst (v := Int32.ofInt 0) dX11_write_1 rfl ?_
  refine z_iload_n dX11_write_2 rfl rfl ?_
  have hX := lX11_isObject 0 (Nat.le_refl _) hJ hT hW ⟨by decide, by decide⟩ g1 hw
  refine z_callV (As := [_, _]) eX11_isObject sX11_isObject lX11_247 rfl dX11_write_3 (hW.1 _ _ hT.1) hX (Nat.le_trans (by decide) hd) rfl (Nat.le_of_ble_eq_true rfl) (fun r cs hp => ?_)
  obtain ⟨r1, S2, rfl, hw, hW⟩ := hp
  refine z_st (st' := [.int (Int32.ofInt (r1))]) rfl ?_
  obtain ⟨q4, hw⟩ := hw
  refine i_if_eq (tgt := 18) dX11_write_6 (by decide) q4 (fun h3 => ?_) (fun h3 => ?_)
  · have hw := hw.1 h3
    refine z_iconst (v := Int32.ofInt (-1)) dX11_write_18 rfl ?_
    exact z_ireturn dX11_write_19 rfl rfl (hP _ _ _ hw hW)
  · have hw := hw.2 h3
    refine z_iload_n dX11_write_9 rfl rfl ?_
    refine z_iconst (v := Int32.ofInt 0) dX11_write_10 rfl ?_
    refine z_iconst (v := Int32.ofInt 3) dX11_write_11 rfl ?_
    have hX := lX11_in 0 (Nat.le_refl _) hJ hT hW g2 ⟨by decide, by decide⟩ ⟨by decide, by decide⟩ hw
    refine z_callS (As := [_, _, _]) eX11_in sX11_in lX11_174 dX11_write_12 hX (Nat.le_trans (by decide) hd) rfl (Nat.le_of_ble_eq_true rfl) (fun r cs hp => ?_)
    obtain ⟨r5, S6, rfl, hw, hW⟩ := hp
    refine z_st (st' := [.int (Int32.ofInt (r5))]) rfl ?_
    obtain ⟨q8, hw⟩ := hw
    refine i_if_ne (tgt := 20) dX11_write_15 (by decide) q8 (fun h7 => ?_) (fun h7 => ?_)
    · have hw := hw.1 h7
      refine z_aload_n dX11_write_20 rfl rfl ?_
      refine z_iconst (v := Int32.ofInt 0) dX11_write_21 rfl ?_
      refine g_putI hJ hW hT.1 mr39 kX11 fX11_257 dX11_write_22 rfl rfl rfl ⟨by decide, by decide⟩ (fun cs hW => ?_)
      obtain ⟨S9, hS9⟩ : ∃ x, x = pI S6 54 39 (0) := ⟨_, rfl⟩
      rw [← hS9] at hW
      have hw := hw S9 hS9
      refine z_aload_n dX11_write_25 rfl rfl ?_
      refine z_iconst (v := Int32.ofInt 0) dX11_write_26 rfl ?_
      refine g_putI hJ hW hT.1 mr25 kX11 fX11_278 dX11_write_27 rfl rfl rfl ⟨by decide, by decide⟩ (fun cs hW => ?_)
      obtain ⟨S10, hS10⟩ : ∃ x, x = pI S9 54 25 (0) := ⟨_, rfl⟩
      rw [← hS10] at hW
      have hw := hw S10 hS10
      refine z_aload_n dX11_write_30 rfl rfl ?_
      refine z_iconst (v := Int32.ofInt 0) dX11_write_31 rfl ?_
      refine g_putI hJ hW hT.1 mr30 kX11 fX11_306 dX11_write_32 rfl rfl rfl ⟨by decide, by decide⟩ (fun cs hW => ?_)
      obtain ⟨S11, hS11⟩ : ∃ x, x = pI S10 54 30 (0) := ⟨_, rfl⟩
      rw [← hS11] at hW
      have hw := hw S11 hS11
      refine z_aload_n dX11_write_35 rfl rfl ?_
      refine z_iconst (v := Int32.ofInt 0) dX11_write_36 rfl ?_
      refine g_putI hJ hW hT.1 mr32 kX11 fX11_316 dX11_write_37 rfl rfl rfl ⟨by decide, by decide⟩ (fun cs hW => ?_)
      obtain ⟨S12, hS12⟩ : ∃ x, x = pI S11 54 32 (0) := ⟨_, rfl⟩
      rw [← hS12] at hW
      have hw := hw S12 hS12
      refine z_iconst (v := Int32.ofInt 0) dX11_write_40 rfl ?_
      refine z_istore_n dX11_write_41 rfl (by decide) ?_
      refine z_loc (L' := [(0, .ref (G.1 + 54)), (1, .int (Int32.ofInt (a1))), (2, .int (Int32.ofInt (a2))), (3, .int (Int32.ofInt (0)))]) (List.forall_mem_cons.mpr ⟨rfl, (List.forall_mem_cons.mpr ⟨rfl, (List.forall_mem_cons.mpr ⟨rfl, (List.forall_mem_cons.mpr ⟨rfl, (fun _ h => nomatch h)⟩)⟩)⟩)⟩) ?_
      refine z_loc (L' := [(0, .ref (G.1 + 54)), (1, .int (Int32.ofInt (a1))), (2, .int (Int32.ofInt (a2))), (3, .int (Int32.ofInt (0)))]) (List.forall_mem_cons.mpr ⟨rfl, (List.forall_mem_cons.mpr ⟨rfl, (List.forall_mem_cons.mpr ⟨rfl, (List.forall_mem_cons.mpr ⟨rfl, (fun _ h => nomatch h)⟩)⟩)⟩)⟩) ?_
      exact bX11_write_42 hd hJ hT hW hP  hw
    · have hw := hw.2 h7
      refine z_iconst (v := Int32.ofInt (-1)) dX11_write_18 rfl ?_
      exact z_ireturn dX11_write_19 rfl rfl (hP _ _ _ hw hW)

