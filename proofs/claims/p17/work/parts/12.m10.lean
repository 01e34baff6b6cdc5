def wX11_isAround_21 (l1 l3 : Int) (S : St) (K : Int → St → Prop) : Prop := (rng (l3) ∧ (rng (l1) ∧ ((¬ l3 = l1 → K (0) S) ∧ ((¬ (¬ l3 = l1)) → K (1) S))))
set_option maxRecDepth 100000 in
set_option maxHeartbeats 4000000 in
theorem bX11_isAround_21 {G : xG} {sh : Nat → Option Sh} {J : St → List va_E → Prop} {d : Nat} {Post : xP} {l1 l3 : Int} {S : St} {cs : List va_E} {K : Int → St → Prop} (hd : 0 ≤ d) (hJ : Stb sh J) (hT : isM sh) (hW : Wd G sh mT J S cs) (hP : ∀ (v : Int) (S : St) (cs : List va_E), K v S → Wd G sh mT J S cs → Post (some (.int (Int32.ofInt v))) cs)  (hw : wX11_isAround_21 l1 l3 S K ) : Z (RX11, cX11_isAround, 4, some .boolean, false) G d Post 21 [(0, .ref (G.1 + 54)), (1, .int (Int32.ofInt (l1))), (3, .int (Int32.ofInt (l3)))] [] cs := by
  unfold wX11_isAround_21 at hw
  refine z_iload_n dX11_isAround_21 rfl rfl ?_
  refine z_iload_n dX11_isAround_22 rfl rfl ?_
  obtain ⟨q2, hw⟩ := hw
  obtain ⟨q3, hw⟩ := hw
  refine i_icmp_ne (tgt := 30) dX11_isAround_23 (by decide) q2 q3 (fun h1 => ?_) (fun h1 => ?_)
  · have hw := hw.1 h1
    refine z_iconst (v := Int32.ofInt 0) dX11_isAround_30 rfl ?_
    exact z_ireturn dX11_isAround_31 rfl (nar01 (by decide)) (hP _ _ _ hw hW)
  · have hw := hw.2 h1
    refine z_iconst (v := Int32.ofInt 1) dX11_isAround_26 rfl ?_
    refine z_goto (tgt := 31) dX11_isAround_27 (by decide) ?_
    exact z_ireturn dX11_isAround_31 rfl (nar01 (by decide)) (hP _ _ _ hw hW)
def wX11_isAround_2' (l1 l3 : Int) (S : St) (K : Int → St → Prop) (B2 : Int → Int → St → Prop) : Prop := (rng (l3) ∧ ((l3 < 0 → wX11_isAround_21 (l1) (l3) S K) ∧ ((¬ (l3 < 0)) → (rng (l1) ∧ ((l3 = l1 → wX11_isAround_21 (l1) (l3) S K) ∧ ((¬ (l3 = l1)) → ((0 : Int) ≤ l3 ∧ l3 < (900 : Int) ∧ (iv (-2) 899 (S.2 72 (l3)) → (∀ x7 : Int, x7 = S.2 72 (l3) → B2 (l1) (x7) S)))))))))
set_option maxRecDepth 100000 in
set_option maxHeartbeats 4000000 in
theorem bX11_isAround_2' {G : xG} {sh : Nat → Option Sh} {J : St → List va_E → Prop} {d : Nat} {Post : xP} {l1 l3 : Int} {S : St} {cs : List va_E} {K : Int → St → Prop} {B2 : Int → Int → St → Prop} (hd : 0 ≤ d) (hJ : Stb sh J) (hT : isM sh) (hW : Wd G sh mT J S cs) (hP : ∀ (v : Int) (S : St) (cs : List va_E), K v S → Wd G sh mT J S cs → Post (some (.int (Int32.ofInt v))) cs) (hB2 : ∀ (l1 : Int) (l3 : Int) (S : St) (cs : List va_E), B2 l1 l3 S → Wd G sh mT J S cs → Z (RX11, cX11_isAround, 4, some .boolean, false) G d Post 2 [(0, .ref (G.1 + 54)), (1, .int (Int32.ofInt (l1))), (3, .int (Int32.ofInt (l3)))] [] cs) (hw : wX11_isAround_2' l1 l3 S K B2) : Z (RX11, cX11_isAround, 4, some .boolean, false) G d Post 2 [(0, .ref (G.1 + 54)), (1, .int (Int32.ofInt (l1))), (3, .int (Int32.ofInt (l3)))] [] cs := by
  unfold wX11_isAround_2' at hw
  refine z_iload_n dX11_isAround_2 rfl rfl ?_
  obtain ⟨q2, hw⟩ := hw
  refine i_if_lt (tgt := 21) dX11_isAround_3 (by decide) q2 (fun h1 => ?_) (fun h1 => ?_)
  · have hw := hw.1 h1
    refine z_loc (L' := [(0, .ref (G.1 + 54)), (1, .int (Int32.ofInt (l1))), (3, .int (Int32.ofInt (l3)))]) (List.forall_mem_cons.mpr ⟨rfl, (List.forall_mem_cons.mpr ⟨rfl, (List.forall_mem_cons.mpr ⟨rfl, (fun _ h => nomatch h)⟩)⟩)⟩) ?_
    exact bX11_isAround_21 hd hJ hT hW hP  hw
  · have hw := hw.2 h1
    refine z_iload_n dX11_isAround_6 rfl rfl ?_
    refine z_iload_n dX11_isAround_7 rfl rfl ?_
    obtain ⟨q4, hw⟩ := hw
    refine i_icmp_eq (tgt := 21) dX11_isAround_8 (by decide) q2 q4 (fun h3 => ?_) (fun h3 => ?_)
    · have hw := hw.1 h3
      refine z_loc (L' := [(0, .ref (G.1 + 54)), (1, .int (Int32.ofInt (l1))), (3, .int (Int32.ofInt (l3)))]) (List.forall_mem_cons.mpr ⟨rfl, (List.forall_mem_cons.mpr ⟨rfl, (List.forall_mem_cons.mpr ⟨rfl, (fun _ h => nomatch h)⟩)⟩)⟩) ?_
      exact bX11_isAround_21 hd hJ hT hW hP  hw
    · have hw := hw.2 h3
      refine z_aload_n dX11_isAround_11 rfl rfl ?_
      refine g_getR hW hT.1 mr26 kX11 fX11_66 dX11_isAround_12 ?_
      refine z_iload_n dX11_isAround_15 rfl rfl ?_
      obtain ⟨q5a, q5b, hw⟩ := hw
      have q6 : iv (-2) 899 (S.2 72 (l3)) := mA72 hW _
      have hw := hw q6
      refine g_iald hW (ma72 hT) q5a q5b (by decide) dX11_isAround_16 ?_
      obtain ⟨x7, hx7⟩ : ∃ x : Int, x = S.2 72 (l3) := ⟨_, rfl⟩
      have hw := hw x7 hx7
      refine z_st (st' := [.int (Int32.ofInt x7)]) (by rw [hx7]) ?_
      have q8 : rng x7 := by rw [hx7]; exact (rngq q6 (by decide) (by decide))
      have q9 : iv (-2) 899 x7 := by rw [hx7]; exact q6
      refine z_istore_n dX11_isAround_17 rfl (by decide) ?_
      refine z_loc (L' := [(0, .ref (G.1 + 54)), (1, .int (Int32.ofInt (l1))), (3, .int (Int32.ofInt (x7)))]) (List.forall_mem_cons.mpr ⟨rfl, (List.forall_mem_cons.mpr ⟨rfl, (List.forall_mem_cons.mpr ⟨rfl, (fun _ h => nomatch h)⟩)⟩)⟩) ?_
      refine z_goto (tgt := 2) dX11_isAround_18 (by decide) ?_
      refine z_loc (L' := [(0, .ref (G.1 + 54)), (1, .int (Int32.ofInt (l1))), (3, .int (Int32.ofInt (x7)))]) (List.forall_mem_cons.mpr ⟨rfl, (List.forall_mem_cons.mpr ⟨rfl, (List.forall_mem_cons.mpr ⟨rfl, (fun _ h => nomatch h)⟩)⟩)⟩) ?_
      exact hB2 _ _ _ _ hw hW
def wX11_isAround_2 (l1 l3 : Int) (S : St) (K : Int → St → Prop) : Prop := ∃ (Iv : Int → Int → St → Prop) (mu : Int → Int → St → Nat), Iv l1 l3 S ∧ ∀ (l1 l3 : Int) (S : St), Iv l1 l3 S → wX11_isAround_2' l1 l3 S K  (fun ml1 ml3 T => Iv ml1 ml3 T ∧ mu ml1 ml3 T < mu l1 l3 S)
set_option maxRecDepth 100000 in
set_option maxHeartbeats 4000000 in
theorem bX11_isAround_2 {G : xG} {sh : Nat → Option Sh} {J : St → List va_E → Prop} {d : Nat} {Post : xP} {l1 l3 : Int} {S : St} {cs : List va_E} {K : Int → St → Prop} (hd : 0 ≤ d) (hJ : Stb sh J) (hT : isM sh) (hW : Wd G sh mT J S cs) (hP : ∀ (v : Int) (S : St) (cs : List va_E), K v S → Wd G sh mT J S cs → Post (some (.int (Int32.ofInt v))) cs)  (hw : wX11_isAround_2 l1 l3 S K ) : Z (RX11, cX11_isAround, 4, some .boolean, false) G d Post 2 [(0, .ref (G.1 + 54)), (1, .int (Int32.ofInt (l1))), (3, .int (Int32.ofInt (l3)))] [] cs := by
  unfold wX11_isAround_2 at hw
  obtain ⟨Iv, mu, h0, hs⟩ := hw
  have key : ∀ (n : Nat) (l1 l3 : Int) (S : St) (cs : List va_E), mu l1 l3 S < n → Iv l1 l3 S → Wd G sh mT J S cs → Z (RX11, cX11_isAround, 4, some .boolean, false) G d Post 2 [(0, .ref (G.1 + 54)), (1, .int (Int32.ofInt (l1))), (3, .int (Int32.ofInt (l3)))] [] cs := by
    intro n
    induction n with
    | zero => intro l1 l3 S cs hn; exact absurd hn (Nat.not_lt_zero _)
    | succ n ih =>
      intro l1 l3 S cs hn hI hW
      exact bX11_isAround_2' hd hJ hT hW hP  (fun l1 l3 S cs hb hW => ih l1 l3 S cs (Nat.lt_of_lt_of_le hb.2 (Nat.le_of_lt_succ hn)) hb.1 hW) (hs l1 l3 S hI)
  exact key _ _ _ _ _ (Nat.lt_succ_self _) h0 hW
def wX11_isAround (a1 a2 : Int) (S : St) (K : Int → St → Prop) : Prop := rng a1 → rng a2 → wX11_isAround_2 (a1) (a2) S K
set_option maxRecDepth 100000 in
set_option maxHeartbeats 4000000 in
theorem lX11_isAround {G : xG} {sh : Nat → Option Sh} {J : St → List va_E → Prop} {a1 a2 : Int} {S : St} {cs : List va_E} {K : Int → St → Prop} (d : Nat) (hd : 0 ≤ d) (hJ : Stb sh J) (hT : isM sh) (hW : Wd G sh mT J S cs) (g1 : rng a1) (g2 : rng a2) (hw : wX11_isAround a1 a2 S K) : X G yX11_isAround cX11_isAround 4 (some .boolean) d [.ref (G.1 + 54), .int (Int32.ofInt a1), .int (Int32.ofInt a2)] cs (qI G sh mT J K) := by
  refine X.of false (by decide +kernel) (by decide) (Nat.le_of_ble_eq_true rfl) ?_
  show Z (RX11, cX11_isAround, 4, some .boolean, false) G d _ 0 [(0, .ref (G.1 + 54)), (1, .int (Int32.ofInt a1)), (2, .int (Int32.ofInt a2))] [] cs
  have hP : ∀ (v : Int) (S : St) (cs : List va_E), K v S → Wd G sh mT J S cs → qI G sh mT J K (some (.int (Int32.ofInt v))) cs := fun v S cs a b => ⟨v, S, rfl, a, b⟩
  unfold wX11_isAround at hw
  have hw := hw g1 g2
  refine z_iload_n dX11_isAround_0 rfl rfl ?_
  refine z_istore_n dX11_isAround_1 rfl (by decide) ?_
  refine z_loc (L' := [(0, .ref (G.1 + 54)), (1, .int (Int32.ofInt (a1))), (2, .int (Int32.ofInt (a2))), (3, .int (Int32.ofInt (a2)))]) (List.forall_mem_cons.mpr ⟨rfl, (List.forall_mem_cons.mpr ⟨rfl, (List.forall_mem_cons.mpr ⟨rfl, (List.forall_mem_cons.mpr ⟨rfl, (fun _ h => nomatch h)⟩)⟩)⟩)⟩) ?_
  refine z_loc (L' := [(0, .ref (G.1 + 54)), (1, .int (Int32.ofInt (a1))), (3, .int (Int32.ofInt (a2)))]) (List.forall_mem_cons.mpr ⟨rfl, (List.forall_mem_cons.mpr ⟨rfl, (List.forall_mem_cons.mpr ⟨rfl, (fun _ h => nomatch h)⟩)⟩)⟩) ?_
  exact bX11_isAround_2 hd hJ hT hW hP  hw

def wX11_putStep (a1 : Int) (S : St) (K : Int → St → Prop) : Prop := rng a1 → ((0 : Int) ≤ a1 ∧ a1 < (900 : Int) ∧ (iv 0 29 (S.2 73 (a1)) → (wX11_putName (S.2 73 (a1)) S (fun r3 S4 => ((0 : Int) ≤ a1 ∧ a1 < (900 : Int) ∧ (iv 0 901 (S4.2 74 (a1)) → ((S4.2 74 (a1) ≤ 1 → K 0 S4) ∧ ((¬ (S4.2 74 (a1) ≤ 1)) → (wX11_put (91) S4 (fun r8 S9 => ((0 : Int) ≤ a1 ∧ a1 < (900 : Int) ∧ (iv 0 901 (S9.2 74 (a1)) → (wX11_putNumber (S9.2 74 (a1)) S9 (fun r12 S13 => (wX11_put (93) S13 (fun r14 S15 => K 0 S15))))))))))))))))
set_option maxRecDepth 100000 in
set_option maxHeartbeats 4000000 in
theorem lX11_putStep {G : xG} {sh : Nat → Option Sh} {J : St → List va_E → Prop} {a1 : Int} {S : St} {cs : List va_E} {K : Int → St → Prop} (d : Nat) (hd : 2 ≤ d) (hJ : Stb sh J) (hT : isM sh) (hW : Wd G sh mT J S cs) (g1 : rng a1) (hw : wX11_putStep a1 S K) : X G yX11_putStep cX11_putStep 2 none d [.ref (G.1 + 54), .int (Int32.ofInt a1)] cs (qV G sh mT J K) := by
  refine X.of false (by decide +kernel) (by decide) (Nat.le_of_ble_eq_true rfl) ?_
  show Z (RX11, cX11_putStep, 2, none, false) G d _ 0 [(0, .ref (G.1 + 54)), (1, .int (Int32.ofInt a1))] [] cs
  have hP : ∀ (v : Int) (S : St) (cs : List va_E), K v S → Wd G sh mT J S cs → qV G sh mT J K (none) cs := fun v S cs a b => ⟨v, S, rfl, a, b⟩
  unfold wX11_putStep at hw
  have hw := hw g1
  refine z_aload_n dX11_putStep_0 rfl rfl ?_
  refine z_aload_n dX11_putStep_1 rfl rfl ?_
  refine g_getR hW hT.1 mr27 kX11 fX11_69 dX11_putStep_2 ?_
  refine z_iload_n dX11_putStep_5 rfl rfl ?_
  obtain ⟨q1a, q1b, hw⟩ := hw
  have q2 : iv 0 29 (S.2 73 (a1)) := mA73 hW _
  have hw := hw q2
  refine g_iald hW (ma73 hT) q1a q1b (by decide) dX11_putStep_6 ?_
  have hX := lX11_putName 1 (Nat.le_refl _) hJ hT hW (rngq q2 (by decide) (by decide)) hw
  refine z_callV (As := [_]) eX11_putName sX11_putName lX11_284 rfl dX11_putStep_7 (hW.1 _ _ hT.1) hX (Nat.le_trans (by decide) hd) rfl (Nat.le_of_ble_eq_true rfl) (fun r cs hp => ?_)
  obtain ⟨r3, S4, rfl, hw, hW⟩ := hp
  refine z_st (st' := []) rfl ?_
  refine z_aload_n dX11_putStep_10 rfl rfl ?_
  refine g_getR hW hT.1 mr28 kX11 fX11_72 dX11_putStep_11 ?_
  refine z_iload_n dX11_putStep_14 rfl rfl ?_
  obtain ⟨q5a, q5b, hw⟩ := hw
  have q6 : iv 0 901 (S4.2 74 (a1)) := mA74 hW _
  have hw := hw q6
  refine g_iald hW (ma74 hT) q5a q5b (by decide) dX11_putStep_15 ?_
  refine z_iconst (v := Int32.ofInt 1) dX11_putStep_16 rfl ?_
  refine i_icmp_le (tgt := 42) dX11_putStep_17 (by decide) (rngq q6 (by decide) (by decide)) ⟨by decide, by decide⟩ (fun h7 => ?_) (fun h7 => ?_)
  · have hw := hw.1 h7
    exact z_return dX11_putStep_42 rfl (hP 0 _ _ hw hW)
  · have hw := hw.2 h7
    refine z_aload_n dX11_putStep_20 rfl rfl ?_
    refine z_bipush (v := Int32.ofInt 91) dX11_putStep_21 (by decide) ?_
    have hX := lX11_put 0 (Nat.le_refl _) hJ hT hW ⟨by decide, by decide⟩ hw
    refine z_callV (As := [_]) eX11_put sX11_put lX11_260 rfl dX11_putStep_23 (hW.1 _ _ hT.1) hX (Nat.le_trans (by decide) hd) rfl (Nat.le_of_ble_eq_true rfl) (fun r cs hp => ?_)
    obtain ⟨r8, S9, rfl, hw, hW⟩ := hp
    refine z_st (st' := []) rfl ?_
    refine z_aload_n dX11_putStep_26 rfl rfl ?_
    refine z_aload_n dX11_putStep_27 rfl rfl ?_
    refine g_getR hW hT.1 mr28 kX11 fX11_72 dX11_putStep_28 ?_
    refine z_iload_n dX11_putStep_31 rfl rfl ?_
    obtain ⟨q10a, q10b, hw⟩ := hw
    have q11 : iv 0 901 (S9.2 74 (a1)) := mA74 hW _
    have hw := hw q11
    refine g_iald hW (ma74 hT) q10a q10b (by decide) dX11_putStep_32 ?_
    have hX := lX11_putNumber 1 (Nat.le_refl _) hJ hT hW (rngq q11 (by decide) (by decide)) hw
    refine z_callV (As := [_]) eX11_putNumber sX11_putNumber lX11_271 rfl dX11_putStep_33 (hW.1 _ _ hT.1) hX (Nat.le_trans (by decide) hd) rfl (Nat.le_of_ble_eq_true rfl) (fun r cs hp => ?_)
    obtain ⟨r12, S13, rfl, hw, hW⟩ := hp
    refine z_st (st' := []) rfl ?_
    refine z_aload_n dX11_putStep_36 rfl rfl ?_
    refine z_bipush (v := Int32.ofInt 93) dX11_putStep_37 (by decide) ?_
    have hX := lX11_put 0 (Nat.le_refl _) hJ hT hW ⟨by decide, by decide⟩ hw
    refine z_callV (As := [_]) eX11_put sX11_put lX11_260 rfl dX11_putStep_39 (hW.1 _ _ hT.1) hX (Nat.le_trans (by decide) hd) rfl (Nat.le_of_ble_eq_true rfl) (fun r cs hp => ?_)
    obtain ⟨r14, S15, rfl, hw, hW⟩ := hp
    refine z_st (st' := []) rfl ?_
    exact z_return dX11_putStep_42 rfl (hP 0 _ _ hw hW)

def wX11_putSteps_104 (l1 l2 l5 l6 : Int) (S : St) (K : Int → St → Prop) (B35 : Int → Int → Int → Int → St → Prop) : Prop := B35 (l1) (l2) (l5) ((l6 + (-1))) S
set_option maxRecDepth 100000 in
set_option maxHeartbeats 4000000 in
theorem bX11_putSteps_104 {G : xG} {sh : Nat → Option Sh} {J : St → List va_E → Prop} {d : Nat} {Post : xP} {l1 l2 l5 l6 : Int} {S : St} {cs : List va_E} {K : Int → St → Prop} {B35 : Int → Int → Int → Int → St → Prop} (hd : 3 ≤ d) (hJ : Stb sh J) (hT : isM sh) (hW : Wd G sh mT J S cs) (hP : ∀ (v : Int) (S : St) (cs : List va_E), K v S → Wd G sh mT J S cs → Post (none) cs) (hB35 : ∀ (l1 : Int) (l2 : Int) (l5 : Int) (l6 : Int) (S : St) (cs : List va_E), B35 l1 l2 l5 l6 S → Wd G sh mT J S cs → Z (RX11, cX11_putSteps, 9, none, false) G d Post 35 [(0, .ref (G.1 + 54)), (1, .int (Int32.ofInt (l1))), (2, .int (Int32.ofInt (l2))), (5, .int (Int32.ofInt (l5))), (6, .int (Int32.ofInt (l6)))] [] cs) (hw : wX11_putSteps_104 l1 l2 l5 l6 S K B35) : Z (RX11, cX11_putSteps, 9, none, false) G d Post 104 [(0, .ref (G.1 + 54)), (1, .int (Int32.ofInt (l1))), (2, .int (Int32.ofInt (l2))), (5, .int (Int32.ofInt (l5))), (6, .int (Int32.ofInt (l6)))] [] cs := by
  unfold wX11_putSteps_104 at hw
  refine i_iinc (l := l6) dX11_putSteps_104 rfl (by decide) ?_
  refine z_loc (L' := [(0, .ref (G.1 + 54)), (1, .int (Int32.ofInt (l1))), (2, .int (Int32.ofInt (l2))), (5, .int (Int32.ofInt (l5))), (6, .int (Int32.ofInt ((l6 + (-1)))))]) (List.forall_mem_cons.mpr ⟨rfl, (List.forall_mem_cons.mpr ⟨rfl, (List.forall_mem_cons.mpr ⟨rfl, (List.forall_mem_cons.mpr ⟨rfl, (List.forall_mem_cons.mpr ⟨rfl, (fun _ h => nomatch h)⟩)⟩)⟩)⟩)⟩) ?_
  refine z_goto (tgt := 35) dX11_putSteps_107 (by decide) ?_
  refine z_loc (L' := [(0, .ref (G.1 + 54)), (1, .int (Int32.ofInt (l1))), (2, .int (Int32.ofInt (l2))), (5, .int (Int32.ofInt (l5))), (6, .int (Int32.ofInt ((l6 + (-1)))))]) (List.forall_mem_cons.mpr ⟨rfl, (List.forall_mem_cons.mpr ⟨rfl, (List.forall_mem_cons.mpr ⟨rfl, (List.forall_mem_cons.mpr ⟨rfl, (List.forall_mem_cons.mpr ⟨rfl, (fun _ h => nomatch h)⟩)⟩)⟩)⟩)⟩) ?_
  exact hB35 _ _ _ _ _ _ hw hW
def wX11_putSteps_95 (l1 l2 l6 l7 : Int) (S : St) (K : Int → St → Prop) (B35 : Int → Int → Int → Int → St → Prop) : Prop := (rng (l7) ∧ (wX11_putStep (l7) S (fun r2 S3 => wX11_putSteps_104 (l1) (l2) (1) (l6) S3 K B35)))
set_option maxRecDepth 100000 in
set_option maxHeartbeats 4000000 in
theorem bX11_putSteps_95 {G : xG} {sh : Nat → Option Sh} {J : St → List va_E → Prop} {d : Nat} {Post : xP} {l1 l2 l6 l7 : Int} {S : St} {cs : List va_E} {K : Int → St → Prop} {B35 : Int → Int → Int → Int → St → Prop} (hd : 3 ≤ d) (hJ : Stb sh J) (hT : isM sh) (hW : Wd G sh mT J S cs) (hP : ∀ (v : Int) (S : St) (cs : List va_E), K v S → Wd G sh mT J S cs → Post (none) cs) (hB35 : ∀ (l1 : Int) (l2 : Int) (l5 : Int) (l6 : Int) (S : St) (cs : List va_E), B35 l1 l2 l5 l6 S → Wd G sh mT J S cs → Z (RX11, cX11_putSteps, 9, none, false) G d Post 35 [(0, .ref (G.1 + 54)), (1, .int (Int32.ofInt (l1))), (2, .int (Int32.ofInt (l2))), (5, .int (Int32.ofInt (l5))), (6, .int (Int32.ofInt (l6)))] [] cs) (hw : wX11_putSteps_95 l1 l2 l6 l7 S K B35) : Z (RX11, cX11_putSteps, 9, none, false) G d Post 95 [(0, .ref (G.1 + 54)), (1, .int (Int32.ofInt (l1))), (2, .int (Int32.ofInt (l2))), (6, .int (Int32.ofInt (l6))), (7, .int (Int32.ofInt (l7)))] [] cs := by
  unfold wX11_putSteps_95 at hw
  refine z_aload_n dX11_putSteps_95 rfl rfl ?_
  refine z_iload dX11_putSteps_96 rfl ?_
  obtain ⟨q1, hw⟩ := hw
  have hX := lX11_putStep 2 (Nat.le_refl _) hJ hT hW q1 hw
  refine z_callV (As := [_]) eX11_putStep sX11_putStep lX11_290 rfl dX11_putSteps_98 (hW.1 _ _ hT.1) hX (Nat.le_trans (by decide) hd) rfl (Nat.le_of_ble_eq_true rfl) (fun r cs hp => ?_)
  obtain ⟨r2, S3, rfl, hw, hW⟩ := hp
  refine z_st (st' := []) rfl ?_
  refine z_iconst (v := Int32.ofInt 1) dX11_putSteps_101 rfl ?_
  refine z_istore dX11_putSteps_102 (by decide) ?_
  refine z_loc (L' := [(0, .ref (G.1 + 54)), (1, .int (Int32.ofInt (l1))), (2, .int (Int32.ofInt (l2))), (5, .int (Int32.ofInt (1))), (6, .int (Int32.ofInt (l6))), (7, .int (Int32.ofInt (l7)))]) (List.forall_mem_cons.mpr ⟨rfl, (List.forall_mem_cons.mpr ⟨rfl, (List.forall_mem_cons.mpr ⟨rfl, (List.forall_mem_cons.mpr ⟨rfl, (List.forall_mem_cons.mpr ⟨rfl, (List.forall_mem_cons.mpr ⟨rfl, (fun _ h => nomatch h)⟩)⟩)⟩)⟩)⟩)⟩) ?_
  refine z_loc (L' := [(0, .ref (G.1 + 54)), (1, .int (Int32.ofInt (l1))), (2, .int (Int32.ofInt (l2))), (5, .int (Int32.ofInt (1))), (6, .int (Int32.ofInt (l6)))]) (List.forall_mem_cons.mpr ⟨rfl, (List.forall_mem_cons.mpr ⟨rfl, (List.forall_mem_cons.mpr ⟨rfl, (List.forall_mem_cons.mpr ⟨rfl, (List.forall_mem_cons.mpr ⟨rfl, (fun _ h => nomatch h)⟩)⟩)⟩)⟩)⟩) ?_
  exact bX11_putSteps_104 hd hJ hT hW hP hB35 hw
def wX11_putSteps_84 (l1 l2 l5 l6 l7 : Int) (S : St) (K : Int → St → Prop) (B35 : Int → Int → Int → Int → St → Prop) : Prop := (rng (l5) ∧ ((l5 = 0 → wX11_putSteps_95 (l1) (l2) (l6) (l7) S K B35) ∧ ((¬ (l5 = 0)) → (wX11_put (47) S (fun r3 S4 => wX11_putSteps_95 (l1) (l2) (l6) (l7) S4 K B35)))))
set_option maxRecDepth 100000 in
set_option maxHeartbeats 4000000 in
theorem bX11_putSteps_84 {G : xG} {sh : Nat → Option Sh} {J : St → List va_E → Prop} {d : Nat} {Post : xP} {l1 l2 l5 l6 l7 : Int} {S : St} {cs : List va_E} {K : Int → St → Prop} {B35 : Int → Int → Int → Int → St → Prop} (hd : 3 ≤ d) (hJ : Stb sh J) (hT : isM sh) (hW : Wd G sh mT J S cs) (hP : ∀ (v : Int) (S : St) (cs : List va_E), K v S → Wd G sh mT J S cs → Post (none) cs) (hB35 : ∀ (l1 : Int) (l2 : Int) (l5 : Int) (l6 : Int) (S : St) (cs : List va_E), B35 l1 l2 l5 l6 S → Wd G sh mT J S cs → Z (RX11, cX11_putSteps, 9, none, false) G d Post 35 [(0, .ref (G.1 + 54)), (1, .int (Int32.ofInt (l1))), (2, .int (Int32.ofInt (l2))), (5, .int (Int32.ofInt (l5))), (6, .int (Int32.ofInt (l6)))] [] cs) (hw : wX11_putSteps_84 l1 l2 l5 l6 l7 S K B35) : Z (RX11, cX11_putSteps, 9, none, false) G d Post 84 [(0, .ref (G.1 + 54)), (1, .int (Int32.ofInt (l1))), (2, .int (Int32.ofInt (l2))), (5, .int (Int32.ofInt (l5))), (6, .int (Int32.ofInt (l6))), (7, .int (Int32.ofInt (l7)))] [] cs := by
  unfold wX11_putSteps_84 at hw
  refine z_iload dX11_putSteps_84 rfl ?_
  obtain ⟨q2, hw⟩ := hw
  refine i_if_eq (tgt := 95) dX11_putSteps_86 (by decide) q2 (fun h1 => ?_) (fun h1 => ?_)
  · have hw := hw.1 h1
    refine z_loc (L' := [(0, .ref (G.1 + 54)), (1, .int (Int32.ofInt (l1))), (2, .int (Int32.ofInt (l2))), (6, .int (Int32.ofInt (l6))), (7, .int (Int32.ofInt (l7)))]) (List.forall_mem_cons.mpr ⟨rfl, (List.forall_mem_cons.mpr ⟨rfl, (List.forall_mem_cons.mpr ⟨rfl, (List.forall_mem_cons.mpr ⟨rfl, (List.forall_mem_cons.mpr ⟨rfl, (fun _ h => nomatch h)⟩)⟩)⟩)⟩)⟩) ?_
    exact bX11_putSteps_95 hd hJ hT hW hP hB35 hw
  · have hw := hw.2 h1
    refine z_aload_n dX11_putSteps_89 rfl rfl ?_
    refine z_bipush (v := Int32.ofInt 47) dX11_putSteps_90 (by decide) ?_
    have hX := lX11_put 0 (Nat.le_refl _) hJ hT hW ⟨by decide, by decide⟩ hw
    refine z_callV (As := [_]) eX11_put sX11_put lX11_260 rfl dX11_putSteps_92 (hW.1 _ _ hT.1) hX (Nat.le_trans (by decide) hd) rfl (Nat.le_of_ble_eq_true rfl) (fun r cs hp => ?_)
    obtain ⟨r3, S4, rfl, hw, hW⟩ := hp
    refine z_st (st' := []) rfl ?_
    refine z_loc (L' := [(0, .ref (G.1 + 54)), (1, .int (Int32.ofInt (l1))), (2, .int (Int32.ofInt (l2))), (6, .int (Int32.ofInt (l6))), (7, .int (Int32.ofInt (l7)))]) (List.forall_mem_cons.mpr ⟨rfl, (List.forall_mem_cons.mpr ⟨rfl, (List.forall_mem_cons.mpr ⟨rfl, (List.forall_mem_cons.mpr ⟨rfl, (List.forall_mem_cons.mpr ⟨rfl, (fun _ h => nomatch h)⟩)⟩)⟩)⟩)⟩) ?_
    exact bX11_putSteps_95 hd hJ hT hW hP hB35 hw
def wX11_putSteps_46' (l1 l2 l5 l6 l7 l8 : Int) (S : St) (K : Int → St → Prop) (B35 : Int → Int → Int → Int → St → Prop) (B46 : Int → Int → Int → Int → Int → Int → St → Prop) : Prop := (rng (l8) ∧ (rng (l6) ∧ ((l6 ≤ l8 → (rng (l2) ∧ ((l2 = (-2) → wX11_putSteps_84 (l1) (l2) (l5) (l6) (l7) S K B35) ∧ ((¬ (l2 = (-2))) → (rng (l7) ∧ (wX11_isAround (l7) (l2) S (fun r7 S8 => (rng (r7) ∧ ((¬ r7 = 0 → wX11_putSteps_104 (l1) (l2) (l5) (l6) S8 K B35) ∧ ((¬ (¬ r7 = 0)) → wX11_putSteps_84 (l1) (l2) (l5) (l6) (l7) S8 K B35)))))))))) ∧ ((¬ (l6 ≤ l8)) → ((0 : Int) ≤ l7 ∧ l7 < (900 : Int) ∧ (iv (-2) 899 (S.2 72 (l7)) → (∀ x13 : Int, x13 = S.2 72 (l7) → B46 (l1) (l2) (l5) (l6) (x13) ((l8 + 1)) S)))))))
set_option maxRecDepth 100000 in
set_option maxHeartbeats 4000000 in
theorem bX11_putSteps_46' {G : xG} {sh : Nat → Option Sh} {J : St → List va_E → Prop} {d : Nat} {Post : xP} {l1 l2 l5 l6 l7 l8 : Int} {S : St} {cs : List va_E} {K : Int → St → Prop} {B35 : Int → Int → Int → Int → St → Prop} {B46 : Int → Int → Int → Int → Int → Int → St → Prop} (hd : 3 ≤ d) (hJ : Stb sh J) (hT : isM sh) (hW : Wd G sh mT J S cs) (hP : ∀ (v : Int) (S : St) (cs : List va_E), K v S → Wd G sh mT J S cs → Post (none) cs) (hB35 : ∀ (l1 : Int) (l2 : Int) (l5 : Int) (l6 : Int) (S : St) (cs : List va_E), B35 l1 l2 l5 l6 S → Wd G sh mT J S cs → Z (RX11, cX11_putSteps, 9, none, false) G d Post 35 [(0, .ref (G.1 + 54)), (1, .int (Int32.ofInt (l1))), (2, .int (Int32.ofInt (l2))), (5, .int (Int32.ofInt (l5))), (6, .int (Int32.ofInt (l6)))] [] cs) (hB46 : ∀ (l1 : Int) (l2 : Int) (l5 : Int) (l6 : Int) (l7 : Int) (l8 : Int) (S : St) (cs : List va_E), B46 l1 l2 l5 l6 l7 l8 S → Wd G sh mT J S cs → Z (RX11, cX11_putSteps, 9, none, false) G d Post 46 [(0, .ref (G.1 + 54)), (1, .int (Int32.ofInt (l1))), (2, .int (Int32.ofInt (l2))), (5, .int (Int32.ofInt (l5))), (6, .int (Int32.ofInt (l6))), (7, .int (Int32.ofInt (l7))), (8, .int (Int32.ofInt (l8)))] [] cs) (hw : wX11_putSteps_46' l1 l2 l5 l6 l7 l8 S K B35 B46) : Z (RX11, cX11_putSteps, 9, none, false) G d Post 46 [(0, .ref (G.1 + 54)), (1, .int (Int32.ofInt (l1))), (2, .int (Int32.ofInt (l2))), (5, .int (Int32.ofInt (l5))), (6, .int (Int32.ofInt (l6))), (7, .int (Int32.ofInt (l7))), (8, .int (Int32.ofInt (l8)))] [] cs := by
  unfold wX11_putSteps_46' at hw
  refine z_iload dX11_putSteps_46 rfl ?_
  refine z_iload dX11_putSteps_48 rfl ?_
  obtain ⟨q2, hw⟩ := hw
  obtain ⟨q3, hw⟩ := hw
  refine i_icmp_ge (tgt := 68) dX11_putSteps_50 (by decide) q2 q3 (fun h1 => ?_) (fun h1 => ?_)
  · have hw := hw.1 h1
    refine z_iload_n dX11_putSteps_68 rfl rfl ?_
    refine z_bipush (v := Int32.ofInt (-2)) dX11_putSteps_69 (by decide) ?_
    obtain ⟨q5, hw⟩ := hw
    refine i_icmp_eq (tgt := 84) dX11_putSteps_71 (by decide) q5 ⟨by decide, by decide⟩ (fun h4 => ?_) (fun h4 => ?_)
    · have hw := hw.1 h4
      refine z_loc (L' := [(0, .ref (G.1 + 54)), (1, .int (Int32.ofInt (l1))), (2, .int (Int32.ofInt (l2))), (5, .int (Int32.ofInt (l5))), (6, .int (Int32.ofInt (l6))), (7, .int (Int32.ofInt (l7)))]) (List.forall_mem_cons.mpr ⟨rfl, (List.forall_mem_cons.mpr ⟨rfl, (List.forall_mem_cons.mpr ⟨rfl, (List.forall_mem_cons.mpr ⟨rfl, (List.forall_mem_cons.mpr ⟨rfl, (List.forall_mem_cons.mpr ⟨rfl, (fun _ h => nomatch h)⟩)⟩)⟩)⟩)⟩)⟩) ?_
      exact bX11_putSteps_84 hd hJ hT hW hP hB35 hw
    · have hw := hw.2 h4
      refine z_aload_n dX11_putSteps_74 rfl rfl ?_
      refine z_iload dX11_putSteps_75 rfl ?_
      refine z_iload_n dX11_putSteps_77 rfl rfl ?_
      obtain ⟨q6, hw⟩ := hw
      have hX := lX11_isAround 0 (Nat.le_refl _) hJ hT hW q6 q5 hw
      refine z_callV (As := [_, _]) eX11_isAround sX11_isAround lX11_287 rfl dX11_putSteps_78 (hW.1 _ _ hT.1) hX (Nat.le_trans (by decide) hd) rfl (Nat.le_of_ble_eq_true rfl) (fun r cs hp => ?_)
      obtain ⟨r7, S8, rfl, hw, hW⟩ := hp
      refine z_st (st' := [.int (Int32.ofInt (r7))]) rfl ?_
      obtain ⟨q10, hw⟩ := hw
      refine i_if_ne (tgt := 104) dX11_putSteps_81 (by decide) q10 (fun h9 => ?_) (fun h9 => ?_)
      · have hw := hw.1 h9
        refine z_loc (L' := [(0, .ref (G.1 + 54)), (1, .int (Int32.ofInt (l1))), (2, .int (Int32.ofInt (l2))), (5, .int (Int32.ofInt (l5))), (6, .int (Int32.ofInt (l6)))]) (List.forall_mem_cons.mpr ⟨rfl, (List.forall_mem_cons.mpr ⟨rfl, (List.forall_mem_cons.mpr ⟨rfl, (List.forall_mem_cons.mpr ⟨rfl, (List.forall_mem_cons.mpr ⟨rfl, (fun _ h => nomatch h)⟩)⟩)⟩)⟩)⟩) ?_
        exact bX11_putSteps_104 hd hJ hT hW hP hB35 hw
      · have hw := hw.2 h9
        refine z_loc (L' := [(0, .ref (G.1 + 54)), (1, .int (Int32.ofInt (l1))), (2, .int (Int32.ofInt (l2))), (5, .int (Int32.ofInt (l5))), (6, .int (Int32.ofInt (l6))), (7, .int (Int32.ofInt (l7)))]) (List.forall_mem_cons.mpr ⟨rfl, (List.forall_mem_cons.mpr ⟨rfl, (List.forall_mem_cons.mpr ⟨rfl, (List.forall_mem_cons.mpr ⟨rfl, (List.forall_mem_cons.mpr ⟨rfl, (List.forall_mem_cons.mpr ⟨rfl, (fun _ h => nomatch h)⟩)⟩)⟩)⟩)⟩)⟩) ?_
        exact bX11_putSteps_84 hd hJ hT hW hP hB35 hw
  · have hw := hw.2 h1
    refine z_aload_n dX11_putSteps_53 rfl rfl ?_
    refine g_getR hW hT.1 mr26 kX11 fX11_66 dX11_putSteps_54 ?_
    refine z_iload dX11_putSteps_57 rfl ?_
    obtain ⟨q11a, q11b, hw⟩ := hw
    have q12 : iv (-2) 899 (S.2 72 (l7)) := mA72 hW _
    have hw := hw q12
    refine g_iald hW (ma72 hT) q11a q11b (by decide) dX11_putSteps_59 ?_
    obtain ⟨x13, hx13⟩ : ∃ x : Int, x = S.2 72 (l7) := ⟨_, rfl⟩
    have hw := hw x13 hx13
    refine z_st (st' := [.int (Int32.ofInt x13)]) (by rw [hx13]) ?_
    have q14 : rng x13 := by rw [hx13]; exact (rngq q12 (by decide) (by decide))
    have q15 : iv (-2) 899 x13 := by rw [hx13]; exact q12
    refine z_istore dX11_putSteps_60 (by decide) ?_
    refine z_loc (L' := [(0, .ref (G.1 + 54)), (1, .int (Int32.ofInt (l1))), (2, .int (Int32.ofInt (l2))), (5, .int (Int32.ofInt (l5))), (6, .int (Int32.ofInt (l6))), (7, .int (Int32.ofInt (x13))), (8, .int (Int32.ofInt (l8)))]) (List.forall_mem_cons.mpr ⟨rfl, (List.forall_mem_cons.mpr ⟨rfl, (List.forall_mem_cons.mpr ⟨rfl, (List.forall_mem_cons.mpr ⟨rfl, (List.forall_mem_cons.mpr ⟨rfl, (List.forall_mem_cons.mpr ⟨rfl, (List.forall_mem_cons.mpr ⟨rfl, (fun _ h => nomatch h)⟩)⟩)⟩)⟩)⟩)⟩)⟩) ?_
    refine i_iinc (l := l8) dX11_putSteps_62 rfl (by decide) ?_
    refine z_loc (L' := [(0, .ref (G.1 + 54)), (1, .int (Int32.ofInt (l1))), (2, .int (Int32.ofInt (l2))), (5, .int (Int32.ofInt (l5))), (6, .int (Int32.ofInt (l6))), (7, .int (Int32.ofInt (x13))), (8, .int (Int32.ofInt ((l8 + 1))))]) (List.forall_mem_cons.mpr ⟨rfl, (List.forall_mem_cons.mpr ⟨rfl, (List.forall_mem_cons.mpr ⟨rfl, (List.forall_mem_cons.mpr ⟨rfl, (List.forall_mem_cons.mpr ⟨rfl, (List.forall_mem_cons.mpr ⟨rfl, (List.forall_mem_cons.mpr ⟨rfl, (fun _ h => nomatch h)⟩)⟩)⟩)⟩)⟩)⟩)⟩) ?_
    refine z_goto (tgt := 46) dX11_putSteps_65 (by decide) ?_
    refine z_loc (L' := [(0, .ref (G.1 + 54)), (1, .int (Int32.ofInt (l1))), (2, .int (Int32.ofInt (l2))), (5, .int (Int32.ofInt (l5))), (6, .int (Int32.ofInt (l6))), (7, .int (Int32.ofInt (x13))), (8, .int (Int32.ofInt ((l8 + 1))))]) (List.forall_mem_cons.mpr ⟨rfl, (List.forall_mem_cons.mpr ⟨rfl, (List.forall_mem_cons.mpr ⟨rfl, (List.forall_mem_cons.mpr ⟨rfl, (List.forall_mem_cons.mpr ⟨rfl, (List.forall_mem_cons.mpr ⟨rfl, (List.forall_mem_cons.mpr ⟨rfl, (fun _ h => nomatch h)⟩)⟩)⟩)⟩)⟩)⟩)⟩) ?_
    exact hB46 _ _ _ _ _ _ _ _ hw hW
def wX11_putSteps_46 (l1 l2 l5 l6 l7 l8 : Int) (S : St) (K : Int → St → Prop) (B35 : Int → Int → Int → Int → St → Prop) : Prop := ∃ (Iv : Int → Int → Int → Int → Int → Int → St → Prop) (mu : Int → Int → Int → Int → Int → Int → St → Nat), Iv l1 l2 l5 l6 l7 l8 S ∧ ∀ (l1 l2 l5 l6 l7 l8 : Int) (S : St), Iv l1 l2 l5 l6 l7 l8 S → wX11_putSteps_46' l1 l2 l5 l6 l7 l8 S K B35 (fun ml1 ml2 ml5 ml6 ml7 ml8 T => Iv ml1 ml2 ml5 ml6 ml7 ml8 T ∧ mu ml1 ml2 ml5 ml6 ml7 ml8 T < mu l1 l2 l5 l6 l7 l8 S)
set_option maxRecDepth 100000 in
set_option maxHeartbeats 4000000 in
theorem bX11_putSteps_46 {G : xG} {sh : Nat → Option Sh} {J : St → List va_E → Prop} {d : Nat} {Post : xP} {l1 l2 l5 l6 l7 l8 : Int} {S : St} {cs : List va_E} {K : Int → St → Prop} {B35 : Int → Int → Int → Int → St → Prop} (hd : 3 ≤ d) (hJ : Stb sh J) (hT : isM sh) (hW : Wd G sh mT J S cs) (hP : ∀ (v : Int) (S : St) (cs : List va_E), K v S → Wd G sh mT J S cs → Post (none) cs) (hB35 : ∀ (l1 : Int) (l2 : Int) (l5 : Int) (l6 : Int) (S : St) (cs : List va_E), B35 l1 l2 l5 l6 S → Wd G sh mT J S cs → Z (RX11, cX11_putSteps, 9, none, false) G d Post 35 [(0, .ref (G.1 + 54)), (1, .int (Int32.ofInt (l1))), (2, .int (Int32.ofInt (l2))), (5, .int (Int32.ofInt (l5))), (6, .int (Int32.ofInt (l6)))] [] cs) (hw : wX11_putSteps_46 l1 l2 l5 l6 l7 l8 S K B35) : Z (RX11, cX11_putSteps, 9, none, false) G d Post 46 [(0, .ref (G.1 + 54)), (1, .int (Int32.ofInt (l1))), (2, .int (Int32.ofInt (l2))), (5, .int (Int32.ofInt (l5))), (6, .int (Int32.ofInt (l6))), (7, .int (Int32.ofInt (l7))), (8, .int (Int32.ofInt (l8)))] [] cs := by
  unfold wX11_putSteps_46 at hw
  obtain ⟨Iv, mu, h0, hs⟩ := hw
  have key : ∀ (n : Nat) (l1 l2 l5 l6 l7 l8 : Int) (S : St) (cs : List va_E), mu l1 l2 l5 l6 l7 l8 S < n → Iv l1 l2 l5 l6 l7 l8 S → Wd G sh mT J S cs → Z (RX11, cX11_putSteps, 9, none, false) G d Post 46 [(0, .ref (G.1 + 54)), (1, .int (Int32.ofInt (l1))), (2, .int (Int32.ofInt (l2))), (5, .int (Int32.ofInt (l5))), (6, .int (Int32.ofInt (l6))), (7, .int (Int32.ofInt (l7))), (8, .int (Int32.ofInt (l8)))] [] cs := by
    intro n
    induction n with
    | zero => intro l1 l2 l5 l6 l7 l8 S cs hn; exact absurd hn (Nat.not_lt_zero _)
    | succ n ih =>
      intro l1 l2 l5 l6 l7 l8 S cs hn hI hW
      exact bX11_putSteps_46' hd hJ hT hW hP hB35 (fun l1 l2 l5 l6 l7 l8 S cs hb hW => ih l1 l2 l5 l6 l7 l8 S cs (Nat.lt_of_lt_of_le hb.2 (Nat.le_of_lt_succ hn)) hb.1 hW) (hs l1 l2 l5 l6 l7 l8 S hI)
  exact key _ _ _ _ _ _ _ _ _ (Nat.lt_succ_self _) h0 hW
def wX11_putSteps_35' (l1 l2 l5 l6 : Int) (S : St) (K : Int → St → Prop) (B35 : Int → Int → Int → Int → St → Prop) : Prop := (rng (l6) ∧ ((l6 < 0 → K 0 S) ∧ ((¬ (l6 < 0)) → wX11_putSteps_46 (l1) (l2) (l5) (l6) (l1) (0) S K B35)))
set_option maxRecDepth 100000 in
set_option maxHeartbeats 4000000 in
theorem bX11_putSteps_35' {G : xG} {sh : Nat → Option Sh} {J : St → List va_E → Prop} {d : Nat} {Post : xP} {l1 l2 l5 l6 : Int} {S : St} {cs : List va_E} {K : Int → St → Prop} {B35 : Int → Int → Int → Int → St → Prop} (hd : 3 ≤ d) (hJ : Stb sh J) (hT : isM sh) (hW : Wd G sh mT J S cs) (hP : ∀ (v : Int) (S : St) (cs : List va_E), K v S → Wd G sh mT J S cs → Post (none) cs) (hB35 : ∀ (l1 : Int) (l2 : Int) (l5 : Int) (l6 : Int) (S : St) (cs : List va_E), B35 l1 l2 l5 l6 S → Wd G sh mT J S cs → Z (RX11, cX11_putSteps, 9, none, false) G d Post 35 [(0, .ref (G.1 + 54)), (1, .int (Int32.ofInt (l1))), (2, .int (Int32.ofInt (l2))), (5, .int (Int32.ofInt (l5))), (6, .int (Int32.ofInt (l6)))] [] cs) (hw : wX11_putSteps_35' l1 l2 l5 l6 S K B35) : Z (RX11, cX11_putSteps, 9, none, false) G d Post 35 [(0, .ref (G.1 + 54)), (1, .int (Int32.ofInt (l1))), (2, .int (Int32.ofInt (l2))), (5, .int (Int32.ofInt (l5))), (6, .int (Int32.ofInt (l6)))] [] cs := by
  unfold wX11_putSteps_35' at hw
  refine z_iload dX11_putSteps_35 rfl ?_
  obtain ⟨q2, hw⟩ := hw
  refine i_if_lt (tgt := 110) dX11_putSteps_37 (by decide) q2 (fun h1 => ?_) (fun h1 => ?_)
  · have hw := hw.1 h1
    exact z_return dX11_putSteps_110 rfl (hP 0 _ _ hw hW)
  · have hw := hw.2 h1
    refine z_iload_n dX11_putSteps_40 rfl rfl ?_
    refine z_istore dX11_putSteps_41 (by decide) ?_
    refine z_loc (L' := [(0, .ref (G.1 + 54)), (1, .int (Int32.ofInt (l1))), (2, .int (Int32.ofInt (l2))), (5, .int (Int32.ofInt (l5))), (6, .int (Int32.ofInt (l6))), (7, .int (Int32.ofInt (l1)))]) (List.forall_mem_cons.mpr ⟨rfl, (List.forall_mem_cons.mpr ⟨rfl, (List.forall_mem_cons.mpr ⟨rfl, (List.forall_mem_cons.mpr ⟨rfl, (List.forall_mem_cons.mpr ⟨rfl, (List.forall_mem_cons.mpr ⟨rfl, (fun _ h => nomatch h)⟩)⟩)⟩)⟩)⟩)⟩) ?_
    refine z_iconst (v := Int32.ofInt 0) dX11_putSteps_43 rfl ?_
    refine z_istore dX11_putSteps_44 (by decide) ?_
    refine z_loc (L' := [(0, .ref (G.1 + 54)), (1, .int (Int32.ofInt (l1))), (2, .int (Int32.ofInt (l2))), (5, .int (Int32.ofInt (l5))), (6, .int (Int32.ofInt (l6))), (7, .int (Int32.ofInt (l1))), (8, .int (Int32.ofInt (0)))]) (List.forall_mem_cons.mpr ⟨rfl, (List.forall_mem_cons.mpr ⟨rfl, (List.forall_mem_cons.mpr ⟨rfl, (List.forall_mem_cons.mpr ⟨rfl, (List.forall_mem_cons.mpr ⟨rfl, (List.forall_mem_cons.mpr ⟨rfl, (List.forall_mem_cons.mpr ⟨rfl, (fun _ h => nomatch h)⟩)⟩)⟩)⟩)⟩)⟩)⟩) ?_
    refine z_loc (L' := [(0, .ref (G.1 + 54)), (1, .int (Int32.ofInt (l1))), (2, .int (Int32.ofInt (l2))), (5, .int (Int32.ofInt (l5))), (6, .int (Int32.ofInt (l6))), (7, .int (Int32.ofInt (l1))), (8, .int (Int32.ofInt (0)))]) (List.forall_mem_cons.mpr ⟨rfl, (List.forall_mem_cons.mpr ⟨rfl, (List.forall_mem_cons.mpr ⟨rfl, (List.forall_mem_cons.mpr ⟨rfl, (List.forall_mem_cons.mpr ⟨rfl, (List.forall_mem_cons.mpr ⟨rfl, (List.forall_mem_cons.mpr ⟨rfl, (fun _ h => nomatch h)⟩)⟩)⟩)⟩)⟩)⟩)⟩) ?_
    exact bX11_putSteps_46 hd hJ hT hW hP hB35 hw
def wX11_putSteps_35 (l1 l2 l5 l6 : Int) (S : St) (K : Int → St → Prop) : Prop := ∃ (Iv : Int → Int → Int → Int → St → Prop) (mu : Int → Int → Int → Int → St → Nat), Iv l1 l2 l5 l6 S ∧ ∀ (l1 l2 l5 l6 : Int) (S : St), Iv l1 l2 l5 l6 S → wX11_putSteps_35' l1 l2 l5 l6 S K  (fun ml1 ml2 ml5 ml6 T => Iv ml1 ml2 ml5 ml6 T ∧ mu ml1 ml2 ml5 ml6 T < mu l1 l2 l5 l6 S)
set_option maxRecDepth 100000 in
set_option maxHeartbeats 4000000 in
theorem bX11_putSteps_35 {G : xG} {sh : Nat → Option Sh} {J : St → List va_E → Prop} {d : Nat} {Post : xP} {l1 l2 l5 l6 : Int} {S : St} {cs : List va_E} {K : Int → St → Prop} (hd : 3 ≤ d) (hJ : Stb sh J) (hT : isM sh) (hW : Wd G sh mT J S cs) (hP : ∀ (v : Int) (S : St) (cs : List va_E), K v S → Wd G sh mT J S cs → Post (none) cs)  (hw : wX11_putSteps_35 l1 l2 l5 l6 S K ) : Z (RX11, cX11_putSteps, 9, none, false) G d Post 35 [(0, .ref (G.1 + 54)), (1, .int (Int32.ofInt (l1))), (2, .int (Int32.ofInt (l2))), (5, .int (Int32.ofInt (l5))), (6, .int (Int32.ofInt (l6)))] [] cs := by
  unfold wX11_putSteps_35 at hw
  obtain ⟨Iv, mu, h0, hs⟩ := hw
  have key : ∀ (n : Nat) (l1 l2 l5 l6 : Int) (S : St) (cs : List va_E), mu l1 l2 l5 l6 S < n → Iv l1 l2 l5 l6 S → Wd G sh mT J S cs → Z (RX11, cX11_putSteps, 9, none, false) G d Post 35 [(0, .ref (G.1 + 54)), (1, .int (Int32.ofInt (l1))), (2, .int (Int32.ofInt (l2))), (5, .int (Int32.ofInt (l5))), (6, .int (Int32.ofInt (l6)))] [] cs := by
    intro n
    induction n with
    | zero => intro l1 l2 l5 l6 S cs hn; exact absurd hn (Nat.not_lt_zero _)
    | succ n ih =>
      intro l1 l2 l5 l6 S cs hn hI hW
      exact bX11_putSteps_35' hd hJ hT hW hP  (fun l1 l2 l5 l6 S cs hb hW => ih l1 l2 l5 l6 S cs (Nat.lt_of_lt_of_le hb.2 (Nat.le_of_lt_succ hn)) hb.1 hW) (hs l1 l2 l5 l6 S hI)
  exact key _ _ _ _ _ _ _ (Nat.lt_succ_self _) h0 hW
def wX11_putSteps_6' (l1 l2 l3 l4 l5 : Int) (S : St) (K : Int → St → Prop) (B6 : Int → Int → Int → Int → Int → St → Prop) : Prop := (rng (l5) ∧ ((l5 < 0 → (∀ x3 : Int, x3 = (l4 - 1) → wX11_putSteps_35 (l1) (l2) (l3) (x3) S K)) ∧ ((¬ (l5 < 0)) → ((0 : Int) ≤ l5 ∧ l5 < (900 : Int) ∧ (iv (-2) 899 (S.2 72 (l5)) → (∀ x6 : Int, x6 = S.2 72 (l5) → B6 (l1) (l2) (l3) ((l4 + 1)) (x6) S))))))
set_option maxRecDepth 100000 in
set_option maxHeartbeats 4000000 in
theorem bX11_putSteps_6' {G : xG} {sh : Nat → Option Sh} {J : St → List va_E → Prop} {d : Nat} {Post : xP} {l1 l2 l3 l4 l5 : Int} {S : St} {cs : List va_E} {K : Int → St → Prop} {B6 : Int → Int → Int → Int → Int → St → Prop} (hd : 3 ≤ d) (hJ : Stb sh J) (hT : isM sh) (hW : Wd G sh mT J S cs) (hP : ∀ (v : Int) (S : St) (cs : List va_E), K v S → Wd G sh mT J S cs → Post (none) cs) (hB6 : ∀ (l1 : Int) (l2 : Int) (l3 : Int) (l4 : Int) (l5 : Int) (S : St) (cs : List va_E), B6 l1 l2 l3 l4 l5 S → Wd G sh mT J S cs → Z (RX11, cX11_putSteps, 9, none, false) G d Post 6 [(0, .ref (G.1 + 54)), (1, .int (Int32.ofInt (l1))), (2, .int (Int32.ofInt (l2))), (3, .int (Int32.ofInt (l3))), (4, .int (Int32.ofInt (l4))), (5, .int (Int32.ofInt (l5)))] [] cs) (hw : wX11_putSteps_6' l1 l2 l3 l4 l5 S K B6) : Z (RX11, cX11_putSteps, 9, none, false) G d Post 6 [(0, .ref (G.1 + 54)), (1, .int (Int32.ofInt (l1))), (2, .int (Int32.ofInt (l2))), (3, .int (Int32.ofInt (l3))), (4, .int (Int32.ofInt (l4))), (5, .int (Int32.ofInt (l5)))] [] cs := by
  unfold wX11_putSteps_6' at hw
  refine z_iload dX11_putSteps_6 rfl ?_
  obtain ⟨q2, hw⟩ := hw
  refine i_if_lt (tgt := 26) dX11_putSteps_8 (by decide) q2 (fun h1 => ?_) (fun h1 => ?_)
  · have hw := hw.1 h1
    refine z_iload_n dX11_putSteps_26 rfl rfl ?_
    refine z_istore dX11_putSteps_27 (by decide) ?_
    refine z_loc (L' := [(0, .ref (G.1 + 54)), (1, .int (Int32.ofInt (l1))), (2, .int (Int32.ofInt (l2))), (3, .int (Int32.ofInt (l3))), (4, .int (Int32.ofInt (l4))), (5, .int (Int32.ofInt (l3)))]) (List.forall_mem_cons.mpr ⟨rfl, (List.forall_mem_cons.mpr ⟨rfl, (List.forall_mem_cons.mpr ⟨rfl, (List.forall_mem_cons.mpr ⟨rfl, (List.forall_mem_cons.mpr ⟨rfl, (List.forall_mem_cons.mpr ⟨rfl, (fun _ h => nomatch h)⟩)⟩)⟩)⟩)⟩)⟩) ?_
    refine z_iload dX11_putSteps_29 rfl ?_
    refine z_iconst (v := Int32.ofInt 1) dX11_putSteps_31 rfl ?_
    refine i_isub dX11_putSteps_32 ?_
    obtain ⟨x3, hx3⟩ : ∃ x : Int, x = (l4 - 1) := ⟨_, rfl⟩
    have hw := hw x3 hx3
    refine z_st (st' := [.int (Int32.ofInt x3)]) (by rw [hx3]) ?_
    refine z_istore dX11_putSteps_33 (by decide) ?_
    refine z_loc (L' := [(0, .ref (G.1 + 54)), (1, .int (Int32.ofInt (l1))), (2, .int (Int32.ofInt (l2))), (3, .int (Int32.ofInt (l3))), (4, .int (Int32.ofInt (l4))), (5, .int (Int32.ofInt (l3))), (6, .int (Int32.ofInt (x3)))]) (List.forall_mem_cons.mpr ⟨rfl, (List.forall_mem_cons.mpr ⟨rfl, (List.forall_mem_cons.mpr ⟨rfl, (List.forall_mem_cons.mpr ⟨rfl, (List.forall_mem_cons.mpr ⟨rfl, (List.forall_mem_cons.mpr ⟨rfl, (List.forall_mem_cons.mpr ⟨rfl, (fun _ h => nomatch h)⟩)⟩)⟩)⟩)⟩)⟩)⟩) ?_
    refine z_loc (L' := [(0, .ref (G.1 + 54)), (1, .int (Int32.ofInt (l1))), (2, .int (Int32.ofInt (l2))), (5, .int (Int32.ofInt (l3))), (6, .int (Int32.ofInt (x3)))]) (List.forall_mem_cons.mpr ⟨rfl, (List.forall_mem_cons.mpr ⟨rfl, (List.forall_mem_cons.mpr ⟨rfl, (List.forall_mem_cons.mpr ⟨rfl, (List.forall_mem_cons.mpr ⟨rfl, (fun _ h => nomatch h)⟩)⟩)⟩)⟩)⟩) ?_
    exact bX11_putSteps_35 hd hJ hT hW hP  hw
  · have hw := hw.2 h1
    refine i_iinc (l := l4) dX11_putSteps_11 rfl (by decide) ?_
    refine z_loc (L' := [(0, .ref (G.1 + 54)), (1, .int (Int32.ofInt (l1))), (2, .int (Int32.ofInt (l2))), (3, .int (Int32.ofInt (l3))), (4, .int (Int32.ofInt ((l4 + 1)))), (5, .int (Int32.ofInt (l5)))]) (List.forall_mem_cons.mpr ⟨rfl, (List.forall_mem_cons.mpr ⟨rfl, (List.forall_mem_cons.mpr ⟨rfl, (List.forall_mem_cons.mpr ⟨rfl, (List.forall_mem_cons.mpr ⟨rfl, (List.forall_mem_cons.mpr ⟨rfl, (fun _ h => nomatch h)⟩)⟩)⟩)⟩)⟩)⟩) ?_
    refine z_aload_n dX11_putSteps_14 rfl rfl ?_
    refine g_getR hW hT.1 mr26 kX11 fX11_66 dX11_putSteps_15 ?_
    refine z_iload dX11_putSteps_18 rfl ?_
    obtain ⟨q4a, q4b, hw⟩ := hw
    have q5 : iv (-2) 899 (S.2 72 (l5)) := mA72 hW _
    have hw := hw q5
    refine g_iald hW (ma72 hT) q4a q4b (by decide) dX11_putSteps_20 ?_
    obtain ⟨x6, hx6⟩ : ∃ x : Int, x = S.2 72 (l5) := ⟨_, rfl⟩
    have hw := hw x6 hx6
    refine z_st (st' := [.int (Int32.ofInt x6)]) (by rw [hx6]) ?_
    have q7 : rng x6 := by rw [hx6]; exact (rngq q5 (by decide) (by decide))
    have q8 : iv (-2) 899 x6 := by rw [hx6]; exact q5
    refine z_istore dX11_putSteps_21 (by decide) ?_
    refine z_loc (L' := [(0, .ref (G.1 + 54)), (1, .int (Int32.ofInt (l1))), (2, .int (Int32.ofInt (l2))), (3, .int (Int32.ofInt (l3))), (4, .int (Int32.ofInt ((l4 + 1)))), (5, .int (Int32.ofInt (x6)))]) (List.forall_mem_cons.mpr ⟨rfl, (List.forall_mem_cons.mpr ⟨rfl, (List.forall_mem_cons.mpr ⟨rfl, (List.forall_mem_cons.mpr ⟨rfl, (List.forall_mem_cons.mpr ⟨rfl, (List.forall_mem_cons.mpr ⟨rfl, (fun _ h => nomatch h)⟩)⟩)⟩)⟩)⟩)⟩) ?_
    refine z_goto (tgt := 6) dX11_putSteps_23 (by decide) ?_
    refine z_loc (L' := [(0, .ref (G.1 + 54)), (1, .int (Int32.ofInt (l1))), (2, .int (Int32.ofInt (l2))), (3, .int (Int32.ofInt (l3))), (4, .int (Int32.ofInt ((l4 + 1)))), (5, .int (Int32.ofInt (x6)))]) (List.forall_mem_cons.mpr ⟨rfl, (List.forall_mem_cons.mpr ⟨rfl, (List.forall_mem_cons.mpr ⟨rfl, (List.forall_mem_cons.mpr ⟨rfl, (List.forall_mem_cons.mpr ⟨rfl, (List.forall_mem_cons.mpr ⟨rfl, (fun _ h => nomatch h)⟩)⟩)⟩)⟩)⟩)⟩) ?_
    exact hB6 _ _ _ _ _ _ _ hw hW
def wX11_putSteps_6 (l1 l2 l3 l4 l5 : Int) (S : St) (K : Int → St → Prop) : Prop := ∃ (Iv : Int → Int → Int → Int → Int → St → Prop) (mu : Int → Int → Int → Int → Int → St → Nat), Iv l1 l2 l3 l4 l5 S ∧ ∀ (l1 l2 l3 l4 l5 : Int) (S : St), Iv l1 l2 l3 l4 l5 S → wX11_putSteps_6' l1 l2 l3 l4 l5 S K  (fun ml1 ml2 ml3 ml4 ml5 T => Iv ml1 ml2 ml3 ml4 ml5 T ∧ mu ml1 ml2 ml3 ml4 ml5 T < mu l1 l2 l3 l4 l5 S)
set_option maxRecDepth 100000 in
set_option maxHeartbeats 4000000 in
theorem bX11_putSteps_6 {G : xG} {sh : Nat → Option Sh} {J : St → List va_E → Prop} {d : Nat} {Post : xP} {l1 l2 l3 l4 l5 : Int} {S : St} {cs : List va_E} {K : Int → St → Prop} (hd : 3 ≤ d) (hJ : Stb sh J) (hT : isM sh) (hW : Wd G sh mT J S cs) (hP : ∀ (v : Int) (S : St) (cs : List va_E), K v S → Wd G sh mT J S cs → Post (none) cs)  (hw : wX11_putSteps_6 l1 l2 l3 l4 l5 S K ) : Z (RX11, cX11_putSteps, 9, none, false) G d Post 6 [(0, .ref (G.1 + 54)), (1, .int (Int32.ofInt (l1))), (2, .int (Int32.ofInt (l2))), (3, .int (Int32.ofInt (l3))), (4, .int (Int32.ofInt (l4))), (5, .int (Int32.ofInt (l5)))] [] cs := by
  unfold wX11_putSteps_6 at hw
  obtain ⟨Iv, mu, h0, hs⟩ := hw
  have key : ∀ (n : Nat) (l1 l2 l3 l4 l5 : Int) (S : St) (cs : List va_E), mu l1 l2 l3 l4 l5 S < n → Iv l1 l2 l3 l4 l5 S → Wd G sh mT J S cs → Z (RX11, cX11_putSteps, 9, none, false) G d Post 6 [(0, .ref (G.1 + 54)), (1, .int (Int32.ofInt (l1))), (2, .int (Int32.ofInt (l2))), (3, .int (Int32.ofInt (l3))), (4, .int (Int32.ofInt (l4))), (5, .int (Int32.ofInt (l5)))] [] cs := by
    intro n
    induction n with
    | zero => intro l1 l2 l3 l4 l5 S cs hn; exact absurd hn (Nat.not_lt_zero _)
    | succ n ih =>
      intro l1 l2 l3 l4 l5 S cs hn hI hW
      exact bX11_putSteps_6' hd hJ hT hW hP  (fun l1 l2 l3 l4 l5 S cs hb hW => ih l1 l2 l3 l4 l5 S cs (Nat.lt_of_lt_of_le hb.2 (Nat.le_of_lt_succ hn)) hb.1 hW) (hs l1 l2 l3 l4 l5 S hI)
  exact key _ _ _ _ _ _ _ _ (Nat.lt_succ_self _) h0 hW
def wX11_putSteps (a1 a2 a3 : Int) (S : St) (K : Int → St → Prop) : Prop := rng a1 → rng a2 → rng a3 → wX11_putSteps_6 (a1) (a2) (a3) (0) (a1) S K
set_option maxRecDepth 100000 in
set_option maxHeartbeats 4000000 in
theorem lX11_putSteps {G : xG} {sh : Nat → Option Sh} {J : St → List va_E → Prop} {a1 a2 a3 : Int} {S : St} {cs : List va_E} {K : Int → St → Prop} (d : Nat) (hd : 3 ≤ d) (hJ : Stb sh J) (hT : isM sh) (hW : Wd G sh mT J S cs) (g1 : rng a1) (g2 : rng a2) (g3 : rng a3) (hw : wX11_putSteps a1 a2 a3 S K) : X G yX11_putSteps cX11_putSteps 9 none d [.ref (G.1 + 54), .int (Int32.ofInt a1), .int (Int32.ofInt a2), .int (Int32.ofInt a3)] cs (qV G sh mT J K) := by
  refine X.of false (by decide +kernel) (by decide) (Nat.le_of_ble_eq_true rfl) ?_
  show Z (RX11, cX11_putSteps, 9, none, false) G d _ 0 [(0, .ref (G.1 + 54)), (1, .int (Int32.ofInt a1)), (2, .int (Int32.ofInt a2)), (3, .int (Int32.ofInt a3))] [] cs
  have hP : ∀ (v : Int) (S : St) (cs : List va_E), K v S → Wd G sh mT J S cs → qV G sh mT J K (none) cs := fun v S cs a b => ⟨v, S, rfl, a, b⟩
  unfold wX11_putSteps at hw
  have hw := hw g1 g2 g3
  refine z_iconst (v := Int32.ofInt 0) dX11_putSteps_0 rfl ?_
  refine z_istore dX11_putSteps_1 (by decide) ?_
  refine z_loc (L' := [(0, .ref (G.1 + 54)), (1, .int (Int32.ofInt (a1))), (2, .int (Int32.ofInt (a2))), (3, .int (Int32.ofInt (a3))), (4, .int (Int32.ofInt (0)))]) (List.forall_mem_cons.mpr ⟨rfl, (List.forall_mem_cons.mpr ⟨rfl, (List.forall_mem_cons.mpr ⟨rfl, (List.forall_mem_cons.mpr ⟨rfl, (List.forall_mem_cons.mpr ⟨rfl, (fun _ h => nomatch h)⟩)⟩)⟩)⟩)⟩) ?_
  refine z_iload_n dX11_putSteps_3 rfl rfl ?_
  refine z_istore dX11_putSteps_4 (by decide) ?_
  refine z_loc (L' := [(0, .ref (G.1 + 54)), (1, .int (Int32.ofInt (a1))), (2, .int (Int32.ofInt (a2))), (3, .int (Int32.ofInt (a3))), (4, .int (Int32.ofInt (0))), (5, .int (Int32.ofInt (a1)))]) (List.forall_mem_cons.mpr ⟨rfl, (List.forall_mem_cons.mpr ⟨rfl, (List.forall_mem_cons.mpr ⟨rfl, (List.forall_mem_cons.mpr ⟨rfl, (List.forall_mem_cons.mpr ⟨rfl, (List.forall_mem_cons.mpr ⟨rfl, (fun _ h => nomatch h)⟩)⟩)⟩)⟩)⟩)⟩) ?_
  refine z_loc (L' := [(0, .ref (G.1 + 54)), (1, .int (Int32.ofInt (a1))), (2, .int (Int32.ofInt (a2))), (3, .int (Int32.ofInt (a3))), (4, .int (Int32.ofInt (0))), (5, .int (Int32.ofInt (a1)))]) (List.forall_mem_cons.mpr ⟨rfl, (List.forall_mem_cons.mpr ⟨rfl, (List.forall_mem_cons.mpr ⟨rfl, (List.forall_mem_cons.mpr ⟨rfl, (List.forall_mem_cons.mpr ⟨rfl, (List.forall_mem_cons.mpr ⟨rfl, (fun _ h => nomatch h)⟩)⟩)⟩)⟩)⟩)⟩) ?_
  exact bX11_putSteps_6 hd hJ hT hW hP  hw

