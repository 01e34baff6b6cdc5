def wX11_object_81 (l2 l3 l4 s0 s1 : Int) (S : St) (K : Int → St → Prop) (B32 : Int → Int → Int → St → Prop) : Prop := ((0 : Int) ≤ s1 ∧ s1 < (360 : Int) ∧ (iv (-2147483648) 2147483647 (s0) ∧ (∀ S2, S2 = pA S 69 (s1) (s0) → B32 (l2) (l3) ((l4 + 1)) S2)))
set_option maxRecDepth 100000 in
set_option maxHeartbeats 4000000 in
theorem bX11_object_81 {G : xG} {sh : Nat → Option Sh} {J : St → List va_E → Prop} {d : Nat} {Post : xP} {l2 l3 l4 s0 s1 : Int} {S : St} {cs : List va_E} {K : Int → St → Prop} {B32 : Int → Int → Int → St → Prop} (hd : 0 ≤ d) (hJ : Stb sh J) (hT : isM sh) (hW : Wd G sh mT J S cs) (hP : ∀ (v : Int) (S : St) (cs : List va_E), K v S → Wd G sh mT J S cs → Post (some (.int (Int32.ofInt v))) cs) (hB32 : ∀ (l2 : Int) (l3 : Int) (l4 : Int) (S : St) (cs : List va_E), B32 l2 l3 l4 S → Wd G sh mT J S cs → Z (RX11, cX11_object, 6, some .int, false) G d Post 32 [(0, .ref (G.1 + 54)), (2, .int (Int32.ofInt (l2))), (3, .int (Int32.ofInt (l3))), (4, .int (Int32.ofInt (l4)))] [] cs) (hw : wX11_object_81 l2 l3 l4 s0 s1 S K B32) : Z (RX11, cX11_object, 6, some .int, false) G d Post 81 [(0, .ref (G.1 + 54)), (2, .int (Int32.ofInt (l2))), (3, .int (Int32.ofInt (l3))), (4, .int (Int32.ofInt (l4)))] [.int (Int32.ofInt (s0)), .int (Int32.ofInt (s1)), .ref (G.1 + 69)] cs := by
  unfold wX11_object_81 at hw
  obtain ⟨q1a, q1b, hw⟩ := hw
  obtain ⟨q3, hw⟩ := hw
  refine g_iast hJ hW (ma69 hT) q1a q1b (by decide) q3 dX11_object_81 (fun cs hW => ?_)
  obtain ⟨S2, hS2⟩ : ∃ x, x = pA S 69 (s1) (s0) := ⟨_, rfl⟩
  rw [← hS2] at hW
  have hw := hw S2 hS2
  refine i_iinc (l := l4) dX11_object_82 rfl (by decide) ?_
  refine z_loc (L' := [(0, .ref (G.1 + 54)), (2, .int (Int32.ofInt (l2))), (3, .int (Int32.ofInt (l3))), (4, .int (Int32.ofInt ((l4 + 1))))]) (List.forall_mem_cons.mpr ⟨rfl, (List.forall_mem_cons.mpr ⟨rfl, (List.forall_mem_cons.mpr ⟨rfl, (List.forall_mem_cons.mpr ⟨rfl, (fun _ h => nomatch h)⟩)⟩)⟩)⟩) ?_
  refine z_goto (tgt := 32) dX11_object_85 (by decide) ?_
  refine z_loc (L' := [(0, .ref (G.1 + 54)), (2, .int (Int32.ofInt (l2))), (3, .int (Int32.ofInt (l3))), (4, .int (Int32.ofInt ((l4 + 1))))]) (List.forall_mem_cons.mpr ⟨rfl, (List.forall_mem_cons.mpr ⟨rfl, (List.forall_mem_cons.mpr ⟨rfl, (List.forall_mem_cons.mpr ⟨rfl, (fun _ h => nomatch h)⟩)⟩)⟩)⟩) ?_
  exact hB32 _ _ _ _ _ hw hW
def wX11_object_58 (l2 l3 l4 s0 : Int) (S : St) (K : Int → St → Prop) (B32 : Int → Int → Int → St → Prop) : Prop := (rng (s0) ∧ ((s0 = 0 → wX11_object_81 (l2) (l3) (l4) (0) (((4 * l3) + l4)) S K B32) ∧ ((¬ (s0 = 0)) → wX11_object_81 (l2) (l3) (l4) ((-2)) (((4 * l3) + l4)) S K B32)))
set_option maxRecDepth 100000 in
set_option maxHeartbeats 4000000 in
theorem bX11_object_58 {G : xG} {sh : Nat → Option Sh} {J : St → List va_E → Prop} {d : Nat} {Post : xP} {l2 l3 l4 s0 : Int} {S : St} {cs : List va_E} {K : Int → St → Prop} {B32 : Int → Int → Int → St → Prop} (hd : 0 ≤ d) (hJ : Stb sh J) (hT : isM sh) (hW : Wd G sh mT J S cs) (hP : ∀ (v : Int) (S : St) (cs : List va_E), K v S → Wd G sh mT J S cs → Post (some (.int (Int32.ofInt v))) cs) (hB32 : ∀ (l2 : Int) (l3 : Int) (l4 : Int) (S : St) (cs : List va_E), B32 l2 l3 l4 S → Wd G sh mT J S cs → Z (RX11, cX11_object, 6, some .int, false) G d Post 32 [(0, .ref (G.1 + 54)), (2, .int (Int32.ofInt (l2))), (3, .int (Int32.ofInt (l3))), (4, .int (Int32.ofInt (l4)))] [] cs) (hw : wX11_object_58 l2 l3 l4 s0 S K B32) : Z (RX11, cX11_object, 6, some .int, false) G d Post 58 [(0, .ref (G.1 + 54)), (2, .int (Int32.ofInt (l2))), (3, .int (Int32.ofInt (l3))), (4, .int (Int32.ofInt (l4)))] [.int (Int32.ofInt (s0))] cs := by
  unfold wX11_object_58 at hw
  refine z_istore dX11_object_58 (by decide) ?_
  refine z_loc (L' := [(0, .ref (G.1 + 54)), (2, .int (Int32.ofInt (l2))), (3, .int (Int32.ofInt (l3))), (4, .int (Int32.ofInt (l4))), (5, .int (Int32.ofInt (s0)))]) (List.forall_mem_cons.mpr ⟨rfl, (List.forall_mem_cons.mpr ⟨rfl, (List.forall_mem_cons.mpr ⟨rfl, (List.forall_mem_cons.mpr ⟨rfl, (List.forall_mem_cons.mpr ⟨rfl, (fun _ h => nomatch h)⟩)⟩)⟩)⟩)⟩) ?_
  refine z_aload_n dX11_object_60 rfl rfl ?_
  refine g_getR hW hT.1 mr16 kX11 fX11_53 dX11_object_61 ?_
  refine z_iconst (v := Int32.ofInt 4) dX11_object_64 rfl ?_
  refine z_iload_n dX11_object_65 rfl rfl ?_
  refine i_imul dX11_object_66 ?_
  refine z_iload dX11_object_67 rfl ?_
  refine i_iadd dX11_object_69 ?_
  refine z_iload dX11_object_70 rfl ?_
  obtain ⟨q2, hw⟩ := hw
  refine i_if_eq (tgt := 80) dX11_object_72 (by decide) q2 (fun h1 => ?_) (fun h1 => ?_)
  · have hw := hw.1 h1
    refine z_iconst (v := Int32.ofInt 0) dX11_object_80 rfl ?_
    refine z_loc (L' := [(0, .ref (G.1 + 54)), (2, .int (Int32.ofInt (l2))), (3, .int (Int32.ofInt (l3))), (4, .int (Int32.ofInt (l4)))]) (List.forall_mem_cons.mpr ⟨rfl, (List.forall_mem_cons.mpr ⟨rfl, (List.forall_mem_cons.mpr ⟨rfl, (List.forall_mem_cons.mpr ⟨rfl, (fun _ h => nomatch h)⟩)⟩)⟩)⟩) ?_
    exact bX11_object_81 hd hJ hT hW hP hB32 hw
  · have hw := hw.2 h1
    refine z_bipush (v := Int32.ofInt (-2)) dX11_object_75 (by decide) ?_
    refine z_goto (tgt := 81) dX11_object_77 (by decide) ?_
    refine z_loc (L' := [(0, .ref (G.1 + 54)), (2, .int (Int32.ofInt (l2))), (3, .int (Int32.ofInt (l3))), (4, .int (Int32.ofInt (l4)))]) (List.forall_mem_cons.mpr ⟨rfl, (List.forall_mem_cons.mpr ⟨rfl, (List.forall_mem_cons.mpr ⟨rfl, (List.forall_mem_cons.mpr ⟨rfl, (fun _ h => nomatch h)⟩)⟩)⟩)⟩) ?_
    exact bX11_object_81 hd hJ hT hW hP hB32 hw
def wX11_object_32' (l2 l3 l4 : Int) (S : St) (K : Int → St → Prop) (B32 : Int → Int → Int → St → Prop) : Prop := (rng (l4) ∧ ((4 ≤ l4 → K (l3) S) ∧ ((¬ (4 ≤ l4)) → ((0 : Int) ≤ ((4 * l2) + l4) ∧ ((4 * l2) + l4) < (24 : Int) ∧ (iv 0 3 (S.2 59 (((4 * l2) + l4))) → ((¬ S.2 59 (((4 * l2) + l4)) = 2 → wX11_object_58 (l2) (l3) (l4) (0) S K B32) ∧ ((¬ (¬ S.2 59 (((4 * l2) + l4)) = 2)) → wX11_object_58 (l2) (l3) (l4) (1) S K B32)))))))
set_option maxRecDepth 100000 in
set_option maxHeartbeats 4000000 in
theorem bX11_object_32' {G : xG} {sh : Nat → Option Sh} {J : St → List va_E → Prop} {d : Nat} {Post : xP} {l2 l3 l4 : Int} {S : St} {cs : List va_E} {K : Int → St → Prop} {B32 : Int → Int → Int → St → Prop} (hd : 0 ≤ d) (hJ : Stb sh J) (hT : isM sh) (hW : Wd G sh mT J S cs) (hP : ∀ (v : Int) (S : St) (cs : List va_E), K v S → Wd G sh mT J S cs → Post (some (.int (Int32.ofInt v))) cs) (hB32 : ∀ (l2 : Int) (l3 : Int) (l4 : Int) (S : St) (cs : List va_E), B32 l2 l3 l4 S → Wd G sh mT J S cs → Z (RX11, cX11_object, 6, some .int, false) G d Post 32 [(0, .ref (G.1 + 54)), (2, .int (Int32.ofInt (l2))), (3, .int (Int32.ofInt (l3))), (4, .int (Int32.ofInt (l4)))] [] cs) (hw : wX11_object_32' l2 l3 l4 S K B32) : Z (RX11, cX11_object, 6, some .int, false) G d Post 32 [(0, .ref (G.1 + 54)), (2, .int (Int32.ofInt (l2))), (3, .int (Int32.ofInt (l3))), (4, .int (Int32.ofInt (l4)))] [] cs := by
  unfold wX11_object_32' at hw
  refine z_iload dX11_object_32 rfl ?_
  refine z_iconst (v := Int32.ofInt 4) dX11_object_34 rfl ?_
  obtain ⟨q2, hw⟩ := hw
  refine i_icmp_ge (tgt := 88) dX11_object_35 (by decide) q2 ⟨by decide, by decide⟩ (fun h1 => ?_) (fun h1 => ?_)
  · have hw := hw.1 h1
    refine z_iload_n dX11_object_88 rfl rfl ?_
    exact z_ireturn dX11_object_89 rfl rfl (hP _ _ _ hw hW)
  · have hw := hw.2 h1
    refine z_aload_n dX11_object_38 rfl rfl ?_
    refine g_getR hW hT.1 mr6 kX11 fX11_22 dX11_object_39 ?_
    refine z_iconst (v := Int32.ofInt 4) dX11_object_42 rfl ?_
    refine z_iload_n dX11_object_43 rfl rfl ?_
    refine i_imul dX11_object_44 ?_
    refine z_iload dX11_object_45 rfl ?_
    refine i_iadd dX11_object_47 ?_
    obtain ⟨q3a, q3b, hw⟩ := hw
    have q4 : iv 0 3 (S.2 59 (((4 * l2) + l4))) := mA59 hW _
    have hw := hw q4
    refine g_iald hW (ma59 hT) q3a q3b (by decide) dX11_object_48 ?_
    refine z_iconst (v := Int32.ofInt 2) dX11_object_49 rfl ?_
    refine i_icmp_ne (tgt := 57) dX11_object_50 (by decide) (rngq q4 (by decide) (by decide)) ⟨by decide, by decide⟩ (fun h5 => ?_) (fun h5 => ?_)
    · have hw := hw.1 h5
      refine z_iconst (v := Int32.ofInt 0) dX11_object_57 rfl ?_
      refine z_loc (L' := [(0, .ref (G.1 + 54)), (2, .int (Int32.ofInt (l2))), (3, .int (Int32.ofInt (l3))), (4, .int (Int32.ofInt (l4)))]) (List.forall_mem_cons.mpr ⟨rfl, (List.forall_mem_cons.mpr ⟨rfl, (List.forall_mem_cons.mpr ⟨rfl, (List.forall_mem_cons.mpr ⟨rfl, (fun _ h => nomatch h)⟩)⟩)⟩)⟩) ?_
      exact bX11_object_58 hd hJ hT hW hP hB32 hw
    · have hw := hw.2 h5
      refine z_iconst (v := Int32.ofInt 1) dX11_object_53 rfl ?_
      refine z_goto (tgt := 58) dX11_object_54 (by decide) ?_
      refine z_loc (L' := [(0, .ref (G.1 + 54)), (2, .int (Int32.ofInt (l2))), (3, .int (Int32.ofInt (l3))), (4, .int (Int32.ofInt (l4)))]) (List.forall_mem_cons.mpr ⟨rfl, (List.forall_mem_cons.mpr ⟨rfl, (List.forall_mem_cons.mpr ⟨rfl, (List.forall_mem_cons.mpr ⟨rfl, (fun _ h => nomatch h)⟩)⟩)⟩)⟩) ?_
      exact bX11_object_58 hd hJ hT hW hP hB32 hw
def wX11_object_32 (l2 l3 l4 : Int) (S : St) (K : Int → St → Prop) : Prop := ∃ (Iv : Int → Int → Int → St → Prop) (mu : Int → Int → Int → St → Nat), Iv l2 l3 l4 S ∧ ∀ (l2 l3 l4 : Int) (S : St), Iv l2 l3 l4 S → wX11_object_32' l2 l3 l4 S K  (fun ml2 ml3 ml4 T => Iv ml2 ml3 ml4 T ∧ mu ml2 ml3 ml4 T < mu l2 l3 l4 S)
set_option maxRecDepth 100000 in
set_option maxHeartbeats 4000000 in
theorem bX11_object_32 {G : xG} {sh : Nat → Option Sh} {J : St → List va_E → Prop} {d : Nat} {Post : xP} {l2 l3 l4 : Int} {S : St} {cs : List va_E} {K : Int → St → Prop} (hd : 0 ≤ d) (hJ : Stb sh J) (hT : isM sh) (hW : Wd G sh mT J S cs) (hP : ∀ (v : Int) (S : St) (cs : List va_E), K v S → Wd G sh mT J S cs → Post (some (.int (Int32.ofInt v))) cs)  (hw : wX11_object_32 l2 l3 l4 S K ) : Z (RX11, cX11_object, 6, some .int, false) G d Post 32 [(0, .ref (G.1 + 54)), (2, .int (Int32.ofInt (l2))), (3, .int (Int32.ofInt (l3))), (4, .int (Int32.ofInt (l4)))] [] cs := by
  unfold wX11_object_32 at hw
  obtain ⟨Iv, mu, h0, hs⟩ := hw
  have key : ∀ (n : Nat) (l2 l3 l4 : Int) (S : St) (cs : List va_E), mu l2 l3 l4 S < n → Iv l2 l3 l4 S → Wd G sh mT J S cs → Z (RX11, cX11_object, 6, some .int, false) G d Post 32 [(0, .ref (G.1 + 54)), (2, .int (Int32.ofInt (l2))), (3, .int (Int32.ofInt (l3))), (4, .int (Int32.ofInt (l4)))] [] cs := by
    intro n
    induction n with
    | zero => intro l2 l3 l4 S cs hn; exact absurd hn (Nat.not_lt_zero _)
    | succ n ih =>
      intro l2 l3 l4 S cs hn hI hW
      exact bX11_object_32' hd hJ hT hW hP  (fun l2 l3 l4 S cs hb hW => ih l2 l3 l4 S cs (Nat.lt_of_lt_of_le hb.2 (Nat.le_of_lt_succ hn)) hb.1 hW) (hs l2 l3 l4 S hI)
  exact key _ _ _ _ _ _ (Nat.lt_succ_self _) h0 hW
def wX11_object (a1 a2 : Int) (S : St) (K : Int → St → Prop) : Prop := rng a1 → rng a2 → ((0 : Int) ≤ a1 ∧ a1 < (3 : Int) ∧ (iv 0 30 (S.2 67 (a1)) → (∀ x3 : Int, x3 = ((30 * a1) + S.2 67 (a1)) → ((0 : Int) ≤ a1 ∧ a1 < (3 : Int) ∧ (iv 0 30 (S.2 67 (a1)) → ((0 : Int) ≤ a1 ∧ a1 < (3 : Int) ∧ (iv 0 30 ((S.2 67 (a1) + 1)) ∧ (∀ S7, S7 = pA S 67 (a1) ((S.2 67 (a1) + 1)) → ((0 : Int) ≤ x3 ∧ x3 < (90 : Int) ∧ (iv 0 5 (a2) ∧ (∀ S10, S10 = pA S7 68 (x3) (a2) → wX11_object_32 (a2) (x3) (0) S10 K)))))))))))
set_option maxRecDepth 100000 in
set_option maxHeartbeats 4000000 in
theorem lX11_object {G : xG} {sh : Nat → Option Sh} {J : St → List va_E → Prop} {a1 a2 : Int} {S : St} {cs : List va_E} {K : Int → St → Prop} (d : Nat) (hd : 0 ≤ d) (hJ : Stb sh J) (hT : isM sh) (hW : Wd G sh mT J S cs) (g1 : rng a1) (g2 : rng a2) (hw : wX11_object a1 a2 S K) : X G yX11_object cX11_object 6 (some .int) d [.ref (G.1 + 54), .int (Int32.ofInt a1), .int (Int32.ofInt a2)] cs (qI G sh mT J K) := by
  refine X.of false (by decide +kernel) (by decide) (Nat.le_of_ble_eq_true rfl) ?_
  show Z (RX11, cX11_object, 6, some .int, false) G d _ 0 [(0, .ref (G.1 + 54)), (1, .int (Int32.ofInt a1)), (2, .int (Int32.ofInt a2))] [] cs
  have hP : ∀ (v : Int) (S : St) (cs : List va_E), K v S → Wd G sh mT J S cs → qI G sh mT J K (some (.int (Int32.ofInt v))) cs := fun v S cs a b => ⟨v, S, rfl, a, b⟩
  unfold wX11_object at hw
  have hw := hw g1 g2
  refine z_bipush (v := Int32.ofInt 30) dX11_object_0 (by decide) ?_
  refine z_iload_n dX11_object_2 rfl rfl ?_
  refine i_imul dX11_object_3 ?_
  refine z_aload_n dX11_object_4 rfl rfl ?_
  refine g_getR hW hT.1 mr14 kX11 fX11_47 dX11_object_5 ?_
  refine z_iload_n dX11_object_8 rfl rfl ?_
  obtain ⟨q1a, q1b, hw⟩ := hw
  have q2 : iv 0 30 (S.2 67 (a1)) := mA67 hW _
  have hw := hw q2
  refine g_iald hW (ma67 hT) q1a q1b (by decide) dX11_object_9 ?_
  refine i_iadd dX11_object_10 ?_
  obtain ⟨x3, hx3⟩ : ∃ x : Int, x = ((30 * a1) + S.2 67 (a1)) := ⟨_, rfl⟩
  have hw := hw x3 hx3
  refine z_st (st' := [.int (Int32.ofInt x3)]) (by rw [hx3]) ?_
  refine z_istore_n dX11_object_11 rfl (by decide) ?_
  refine z_loc (L' := [(0, .ref (G.1 + 54)), (1, .int (Int32.ofInt (a1))), (2, .int (Int32.ofInt (a2))), (3, .int (Int32.ofInt (x3)))]) (List.forall_mem_cons.mpr ⟨rfl, (List.forall_mem_cons.mpr ⟨rfl, (List.forall_mem_cons.mpr ⟨rfl, (List.forall_mem_cons.mpr ⟨rfl, (fun _ h => nomatch h)⟩)⟩)⟩)⟩) ?_
  refine z_aload_n dX11_object_12 rfl rfl ?_
  refine g_getR hW hT.1 mr14 kX11 fX11_47 dX11_object_13 ?_
  refine z_iload_n dX11_object_16 rfl rfl ?_
  refine z_dup2 dX11_object_17 rfl rfl ?_
  obtain ⟨q4a, q4b, hw⟩ := hw
  have q5 : iv 0 30 (S.2 67 (a1)) := mA67 hW _
  have hw := hw q5
  refine g_iald hW (ma67 hT) q4a q4b (by decide) dX11_object_18 ?_
  refine z_iconst (v := Int32.ofInt 1) dX11_object_19 rfl ?_
  refine i_iadd dX11_object_20 ?_
  obtain ⟨q6a, q6b, hw⟩ := hw
  obtain ⟨q8, hw⟩ := hw
  refine g_iast hJ hW (ma67 hT) q6a q6b (by decide) q8 dX11_object_21 (fun cs hW => ?_)
  obtain ⟨S7, hS7⟩ : ∃ x, x = pA S 67 (a1) ((S.2 67 (a1) + 1)) := ⟨_, rfl⟩
  rw [← hS7] at hW
  have hw := hw S7 hS7
  refine z_aload_n dX11_object_22 rfl rfl ?_
  refine g_getR hW hT.1 mr15 kX11 fX11_50 dX11_object_23 ?_
  refine z_iload_n dX11_object_26 rfl rfl ?_
  refine z_iload_n dX11_object_27 rfl rfl ?_
  obtain ⟨q9a, q9b, hw⟩ := hw
  obtain ⟨q11, hw⟩ := hw
  refine g_iast hJ hW (ma68 hT) q9a q9b (by decide) q11 dX11_object_28 (fun cs hW => ?_)
  obtain ⟨S10, hS10⟩ : ∃ x, x = pA S7 68 (x3) (a2) := ⟨_, rfl⟩
  rw [← hS10] at hW
  have hw := hw S10 hS10
  refine z_iconst (v := Int32.ofInt 0) dX11_object_29 rfl ?_
  refine z_istore dX11_object_30 (by decide) ?_
  refine z_loc (L' := [(0, .ref (G.1 + 54)), (1, .int (Int32.ofInt (a1))), (2, .int (Int32.ofInt (a2))), (3, .int (Int32.ofInt (x3))), (4, .int (Int32.ofInt (0)))]) (List.forall_mem_cons.mpr ⟨rfl, (List.forall_mem_cons.mpr ⟨rfl, (List.forall_mem_cons.mpr ⟨rfl, (List.forall_mem_cons.mpr ⟨rfl, (List.forall_mem_cons.mpr ⟨rfl, (fun _ h => nomatch h)⟩)⟩)⟩)⟩)⟩) ?_
  refine z_loc (L' := [(0, .ref (G.1 + 54)), (2, .int (Int32.ofInt (a2))), (3, .int (Int32.ofInt (x3))), (4, .int (Int32.ofInt (0)))]) (List.forall_mem_cons.mpr ⟨rfl, (List.forall_mem_cons.mpr ⟨rfl, (List.forall_mem_cons.mpr ⟨rfl, (List.forall_mem_cons.mpr ⟨rfl, (fun _ h => nomatch h)⟩)⟩)⟩)⟩) ?_
  exact bX11_object_32 hd hJ hT hW hP  hw

def wX11_pieceOfValue_12' (l1 l2 : Int) (S : St) (K : Int → St → Prop) (B12 : Int → Int → St → Prop) : Prop := (iv 0 3000 (S.1 54 67) → (rng (l2) ∧ ((S.1 54 67 ≤ l2 → K 0 S) ∧ ((¬ (S.1 54 67 ≤ l2)) → ((0 : Int) ≤ l1 ∧ l1 < (600 : Int) ∧ (iv 0 3000 (S.2 94 (l1)) → ((0 : Int) ≤ (S.2 94 (l1) + l2) ∧ (S.2 94 (l1) + l2) < (3000 : Int) ∧ (iv (-2147483648) 2147483647 (S.2 96 ((S.2 94 (l1) + l2))) → ((0 : Int) ≤ l2 ∧ l2 < (3000 : Int) ∧ (∀ S9, S9 = pA S 104 (l2) (S.2 96 ((S.2 94 (l1) + l2))) → B12 (l1) ((l2 + 1)) S9))))))))))
set_option maxRecDepth 100000 in
set_option maxHeartbeats 4000000 in
theorem bX11_pieceOfValue_12' {G : xG} {sh : Nat → Option Sh} {J : St → List va_E → Prop} {d : Nat} {Post : xP} {l1 l2 : Int} {S : St} {cs : List va_E} {K : Int → St → Prop} {B12 : Int → Int → St → Prop} (hd : 0 ≤ d) (hJ : Stb sh J) (hT : isM sh) (hW : Wd G sh mT J S cs) (hP : ∀ (v : Int) (S : St) (cs : List va_E), K v S → Wd G sh mT J S cs → Post (none) cs) (hB12 : ∀ (l1 : Int) (l2 : Int) (S : St) (cs : List va_E), B12 l1 l2 S → Wd G sh mT J S cs → Z (RX11, cX11_pieceOfValue, 3, none, false) G d Post 12 [(0, .ref (G.1 + 54)), (1, .int (Int32.ofInt (l1))), (2, .int (Int32.ofInt (l2)))] [] cs) (hw : wX11_pieceOfValue_12' l1 l2 S K B12) : Z (RX11, cX11_pieceOfValue, 3, none, false) G d Post 12 [(0, .ref (G.1 + 54)), (1, .int (Int32.ofInt (l1))), (2, .int (Int32.ofInt (l2)))] [] cs := by
  unfold wX11_pieceOfValue_12' at hw
  refine z_iload_n dX11_pieceOfValue_12 rfl rfl ?_
  refine z_aload_n dX11_pieceOfValue_13 rfl rfl ?_
  have q1 : iv 0 3000 (S.1 54 67) := mI67 hW
  have hw := hw q1
  refine g_getI hW hT.1 mr67 kX11 fX11_420 dX11_pieceOfValue_14 ?_
  obtain ⟨q3, hw⟩ := hw
  refine i_icmp_ge (tgt := 45) dX11_pieceOfValue_17 (by decide) q3 (rngq q1 (by decide) (by decide)) (fun h2 => ?_) (fun h2 => ?_)
  · have hw := hw.1 h2
    exact z_return dX11_pieceOfValue_45 rfl (hP 0 _ _ hw hW)
  · have hw := hw.2 h2
    refine z_aload_n dX11_pieceOfValue_20 rfl rfl ?_
    refine g_getR hW hT.1 mr68 kX11 fX11_162 dX11_pieceOfValue_21 ?_
    refine z_iload_n dX11_pieceOfValue_24 rfl rfl ?_
    refine z_aload_n dX11_pieceOfValue_25 rfl rfl ?_
    refine g_getR hW hT.1 mr57 kX11 fX11_138 dX11_pieceOfValue_26 ?_
    refine z_aload_n dX11_pieceOfValue_29 rfl rfl ?_
    refine g_getR hW hT.1 mr54 kX11 fX11_132 dX11_pieceOfValue_30 ?_
    refine z_iload_n dX11_pieceOfValue_33 rfl rfl ?_
    obtain ⟨q4a, q4b, hw⟩ := hw
    have q5 : iv 0 3000 (S.2 94 (l1)) := mA94 hW _
    have hw := hw q5
    refine g_iald hW (ma94 hT) q4a q4b (by decide) dX11_pieceOfValue_34 ?_
    refine z_iload_n dX11_pieceOfValue_35 rfl rfl ?_
    refine i_iadd dX11_pieceOfValue_36 ?_
    obtain ⟨q6a, q6b, hw⟩ := hw
    have q7 : iv (-2147483648) 2147483647 (S.2 96 ((S.2 94 (l1) + l2))) := mA96 hW _
    have hw := hw q7
    refine g_iald hW (ma96 hT) q6a q6b (by decide) dX11_pieceOfValue_37 ?_
    obtain ⟨q8a, q8b, hw⟩ := hw
    refine g_iast hJ hW (ma104 hT) q8a q8b (by decide) q7 dX11_pieceOfValue_38 (fun cs hW => ?_)
    obtain ⟨S9, hS9⟩ : ∃ x, x = pA S 104 (l2) (S.2 96 ((S.2 94 (l1) + l2))) := ⟨_, rfl⟩
    rw [← hS9] at hW
    have hw := hw S9 hS9
    refine i_iinc (l := l2) dX11_pieceOfValue_39 rfl (by decide) ?_
    refine z_loc (L' := [(0, .ref (G.1 + 54)), (1, .int (Int32.ofInt (l1))), (2, .int (Int32.ofInt ((l2 + 1))))]) (List.forall_mem_cons.mpr ⟨rfl, (List.forall_mem_cons.mpr ⟨rfl, (List.forall_mem_cons.mpr ⟨rfl, (fun _ h => nomatch h)⟩)⟩)⟩) ?_
    refine z_goto (tgt := 12) dX11_pieceOfValue_42 (by decide) ?_
    refine z_loc (L' := [(0, .ref (G.1 + 54)), (1, .int (Int32.ofInt (l1))), (2, .int (Int32.ofInt ((l2 + 1))))]) (List.forall_mem_cons.mpr ⟨rfl, (List.forall_mem_cons.mpr ⟨rfl, (List.forall_mem_cons.mpr ⟨rfl, (fun _ h => nomatch h)⟩)⟩)⟩) ?_
    exact hB12 _ _ _ _ hw hW
def wX11_pieceOfValue_12 (l1 l2 : Int) (S : St) (K : Int → St → Prop) : Prop := ∃ (Iv : Int → Int → St → Prop) (mu : Int → Int → St → Nat), Iv l1 l2 S ∧ ∀ (l1 l2 : Int) (S : St), Iv l1 l2 S → wX11_pieceOfValue_12' l1 l2 S K  (fun ml1 ml2 T => Iv ml1 ml2 T ∧ mu ml1 ml2 T < mu l1 l2 S)
set_option maxRecDepth 100000 in
set_option maxHeartbeats 4000000 in
theorem bX11_pieceOfValue_12 {G : xG} {sh : Nat → Option Sh} {J : St → List va_E → Prop} {d : Nat} {Post : xP} {l1 l2 : Int} {S : St} {cs : List va_E} {K : Int → St → Prop} (hd : 0 ≤ d) (hJ : Stb sh J) (hT : isM sh) (hW : Wd G sh mT J S cs) (hP : ∀ (v : Int) (S : St) (cs : List va_E), K v S → Wd G sh mT J S cs → Post (none) cs)  (hw : wX11_pieceOfValue_12 l1 l2 S K ) : Z (RX11, cX11_pieceOfValue, 3, none, false) G d Post 12 [(0, .ref (G.1 + 54)), (1, .int (Int32.ofInt (l1))), (2, .int (Int32.ofInt (l2)))] [] cs := by
  unfold wX11_pieceOfValue_12 at hw
  obtain ⟨Iv, mu, h0, hs⟩ := hw
  have key : ∀ (n : Nat) (l1 l2 : Int) (S : St) (cs : List va_E), mu l1 l2 S < n → Iv l1 l2 S → Wd G sh mT J S cs → Z (RX11, cX11_pieceOfValue, 3, none, false) G d Post 12 [(0, .ref (G.1 + 54)), (1, .int (Int32.ofInt (l1))), (2, .int (Int32.ofInt (l2)))] [] cs := by
    intro n
    induction n with
    | zero => intro l1 l2 S cs hn; exact absurd hn (Nat.not_lt_zero _)
    | succ n ih =>
      intro l1 l2 S cs hn hI hW
      exact bX11_pieceOfValue_12' hd hJ hT hW hP  (fun l1 l2 S cs hb hW => ih l1 l2 S cs (Nat.lt_of_lt_of_le hb.2 (Nat.le_of_lt_succ hn)) hb.1 hW) (hs l1 l2 S hI)
  exact key _ _ _ _ _ (Nat.lt_succ_self _) h0 hW
def wX11_pieceOfValue (a1 : Int) (S : St) (K : Int → St → Prop) : Prop := rng a1 → ((0 : Int) ≤ a1 ∧ a1 < (600 : Int) ∧ (iv 0 3000 (S.2 95 (a1)) → (∀ S3, S3 = pI S 54 67 (S.2 95 (a1)) → wX11_pieceOfValue_12 (a1) (0) S3 K)))
set_option maxRecDepth 100000 in
set_option maxHeartbeats 4000000 in
theorem lX11_pieceOfValue {G : xG} {sh : Nat → Option Sh} {J : St → List va_E → Prop} {a1 : Int} {S : St} {cs : List va_E} {K : Int → St → Prop} (d : Nat) (hd : 0 ≤ d) (hJ : Stb sh J) (hT : isM sh) (hW : Wd G sh mT J S cs) (g1 : rng a1) (hw : wX11_pieceOfValue a1 S K) : X G yX11_pieceOfValue cX11_pieceOfValue 3 none d [.ref (G.1 + 54), .int (Int32.ofInt a1)] cs (qV G sh mT J K) := by
  refine X.of false (by decide +kernel) (by decide) (Nat.le_of_ble_eq_true rfl) ?_
  show Z (RX11, cX11_pieceOfValue, 3, none, false) G d _ 0 [(0, .ref (G.1 + 54)), (1, .int (Int32.ofInt a1))] [] cs
  have hP : ∀ (v : Int) (S : St) (cs : List va_E), K v S → Wd G sh mT J S cs → qV G sh mT J K (none) cs := fun v S cs a b => ⟨v, S, rfl, a, b⟩
  unfold wX11_pieceOfValue at hw
  have hw := hw g1
  refine z_aload_n dX11_pieceOfValue_0 rfl rfl ?_
  refine z_aload_n dX11_pieceOfValue_1 rfl rfl ?_
  refine g_getR hW hT.1 mr55 kX11 fX11_135 dX11_pieceOfValue_2 ?_
  refine z_iload_n dX11_pieceOfValue_5 rfl rfl ?_
  obtain ⟨q1a, q1b, hw⟩ := hw
  have q2 : iv 0 3000 (S.2 95 (a1)) := mA95 hW _
  have hw := hw q2
  refine g_iald hW (ma95 hT) q1a q1b (by decide) dX11_pieceOfValue_6 ?_
  refine g_putI hJ hW hT.1 mr67 kX11 fX11_420 dX11_pieceOfValue_7 rfl rfl rfl q2 (fun cs hW => ?_)
  obtain ⟨S3, hS3⟩ : ∃ x, x = pI S 54 67 (S.2 95 (a1)) := ⟨_, rfl⟩
  rw [← hS3] at hW
  have hw := hw S3 hS3
  refine z_iconst (v := Int32.ofInt 0) dX11_pieceOfValue_10 rfl ?_
  refine z_istore_n dX11_pieceOfValue_11 rfl (by decide) ?_
  refine z_loc (L' := [(0, .ref (G.1 + 54)), (1, .int (Int32.ofInt (a1))), (2, .int (Int32.ofInt (0)))]) (List.forall_mem_cons.mpr ⟨rfl, (List.forall_mem_cons.mpr ⟨rfl, (List.forall_mem_cons.mpr ⟨rfl, (fun _ h => nomatch h)⟩)⟩)⟩) ?_
  refine z_loc (L' := [(0, .ref (G.1 + 54)), (1, .int (Int32.ofInt (a1))), (2, .int (Int32.ofInt (0)))]) (List.forall_mem_cons.mpr ⟨rfl, (List.forall_mem_cons.mpr ⟨rfl, (List.forall_mem_cons.mpr ⟨rfl, (fun _ h => nomatch h)⟩)⟩)⟩) ?_
  exact bX11_pieceOfValue_12 hd hJ hT hW hP  hw

def wX11_textSize_29 (l1 l3 s0 : Int) (S : St) (K : Int → St → Prop) (B4 : Int → Int → Int → St → Prop) : Prop := B4 (l1) (s0) ((l3 + 1)) S
set_option maxRecDepth 100000 in
set_option maxHeartbeats 4000000 in
theorem bX11_textSize_29 {G : xG} {sh : Nat → Option Sh} {J : St → List va_E → Prop} {d : Nat} {Post : xP} {l1 l3 s0 : Int} {S : St} {cs : List va_E} {K : Int → St → Prop} {B4 : Int → Int → Int → St → Prop} (hd : 0 ≤ d) (hJ : Stb sh J) (hT : isM sh) (hW : Wd G sh mT J S cs) (hP : ∀ (v : Int) (S : St) (cs : List va_E), K v S → Wd G sh mT J S cs → Post (some (.int (Int32.ofInt v))) cs) (hB4 : ∀ (l1 : Int) (l2 : Int) (l3 : Int) (S : St) (cs : List va_E), B4 l1 l2 l3 S → Wd G sh mT J S cs → Z (RX11, cX11_textSize, 4, some .int, false) G d Post 4 [(0, .ref (G.1 + 54)), (1, .int (Int32.ofInt (l1))), (2, .int (Int32.ofInt (l2))), (3, .int (Int32.ofInt (l3)))] [] cs) (hw : wX11_textSize_29 l1 l3 s0 S K B4) : Z (RX11, cX11_textSize, 4, some .int, false) G d Post 29 [(0, .ref (G.1 + 54)), (1, .int (Int32.ofInt (l1))), (3, .int (Int32.ofInt (l3)))] [.int (Int32.ofInt (s0))] cs := by
  unfold wX11_textSize_29 at hw
  refine z_istore_n dX11_textSize_29 rfl (by decide) ?_
  refine z_loc (L' := [(0, .ref (G.1 + 54)), (1, .int (Int32.ofInt (l1))), (2, .int (Int32.ofInt (s0))), (3, .int (Int32.ofInt (l3)))]) (List.forall_mem_cons.mpr ⟨rfl, (List.forall_mem_cons.mpr ⟨rfl, (List.forall_mem_cons.mpr ⟨rfl, (List.forall_mem_cons.mpr ⟨rfl, (fun _ h => nomatch h)⟩)⟩)⟩)⟩) ?_
  refine i_iinc (l := l3) dX11_textSize_30 rfl (by decide) ?_
  refine z_loc (L' := [(0, .ref (G.1 + 54)), (1, .int (Int32.ofInt (l1))), (2, .int (Int32.ofInt (s0))), (3, .int (Int32.ofInt ((l3 + 1))))]) (List.forall_mem_cons.mpr ⟨rfl, (List.forall_mem_cons.mpr ⟨rfl, (List.forall_mem_cons.mpr ⟨rfl, (List.forall_mem_cons.mpr ⟨rfl, (fun _ h => nomatch h)⟩)⟩)⟩)⟩) ?_
  refine z_goto (tgt := 4) dX11_textSize_33 (by decide) ?_
  refine z_loc (L' := [(0, .ref (G.1 + 54)), (1, .int (Int32.ofInt (l1))), (2, .int (Int32.ofInt (s0))), (3, .int (Int32.ofInt ((l3 + 1))))]) (List.forall_mem_cons.mpr ⟨rfl, (List.forall_mem_cons.mpr ⟨rfl, (List.forall_mem_cons.mpr ⟨rfl, (List.forall_mem_cons.mpr ⟨rfl, (fun _ h => nomatch h)⟩)⟩)⟩)⟩) ?_
  exact hB4 _ _ _ _ _ hw hW
def wX11_textSize_4' (l1 l2 l3 : Int) (S : St) (K : Int → St → Prop) (B4 : Int → Int → Int → St → Prop) : Prop := (iv 0 3000 (S.1 54 56) → (rng (l3) ∧ ((S.1 54 56 ≤ l3 → K (l2) S) ∧ ((¬ (S.1 54 56 ≤ l3)) → ((0 : Int) ≤ l3 ∧ l3 < (3000 : Int) ∧ (iv (-2) 199 (S.2 97 (l3)) → (rng (l1) ∧ ((¬ S.2 97 (l3) = l1 → wX11_textSize_29 (l1) (l3) (l2) S K B4) ∧ ((¬ (¬ S.2 97 (l3) = l1)) → wX11_textSize_29 (l1) (l3) ((l2 + 1)) S K B4)))))))))
set_option maxRecDepth 100000 in
set_option maxHeartbeats 4000000 in
theorem bX11_textSize_4' {G : xG} {sh : Nat → Option Sh} {J : St → List va_E → Prop} {d : Nat} {Post : xP} {l1 l2 l3 : Int} {S : St} {cs : List va_E} {K : Int → St → Prop} {B4 : Int → Int → Int → St → Prop} (hd : 0 ≤ d) (hJ : Stb sh J) (hT : isM sh) (hW : Wd G sh mT J S cs) (hP : ∀ (v : Int) (S : St) (cs : List va_E), K v S → Wd G sh mT J S cs → Post (some (.int (Int32.ofInt v))) cs) (hB4 : ∀ (l1 : Int) (l2 : Int) (l3 : Int) (S : St) (cs : List va_E), B4 l1 l2 l3 S → Wd G sh mT J S cs → Z (RX11, cX11_textSize, 4, some .int, false) G d Post 4 [(0, .ref (G.1 + 54)), (1, .int (Int32.ofInt (l1))), (2, .int (Int32.ofInt (l2))), (3, .int (Int32.ofInt (l3)))] [] cs) (hw : wX11_textSize_4' l1 l2 l3 S K B4) : Z (RX11, cX11_textSize, 4, some .int, false) G d Post 4 [(0, .ref (G.1 + 54)), (1, .int (Int32.ofInt (l1))), (2, .int (Int32.ofInt (l2))), (3, .int (Int32.ofInt (l3)))] [] cs := by
  unfold wX11_textSize_4' at hw
  refine z_iload_n dX11_textSize_4 rfl rfl ?_
  refine z_aload_n dX11_textSize_5 rfl rfl ?_
  have q1 : iv 0 3000 (S.1 54 56) := mI56 hW
  have hw := hw q1
  refine g_getI hW hT.1 mr56 kX11 fX11_355 dX11_textSize_6 ?_
  obtain ⟨q3, hw⟩ := hw
  refine i_icmp_ge (tgt := 36) dX11_textSize_9 (by decide) q3 (rngq q1 (by decide) (by decide)) (fun h2 => ?_) (fun h2 => ?_)
  · have hw := hw.1 h2
    refine z_iload_n dX11_textSize_36 rfl rfl ?_
    exact z_ireturn dX11_textSize_37 rfl rfl (hP _ _ _ hw hW)
  · have hw := hw.2 h2
    refine z_aload_n dX11_textSize_12 rfl rfl ?_
    refine g_getR hW hT.1 mr58 kX11 fX11_141 dX11_textSize_13 ?_
    refine z_iload_n dX11_textSize_16 rfl rfl ?_
    obtain ⟨q4a, q4b, hw⟩ := hw
    have q5 : iv (-2) 199 (S.2 97 (l3)) := mA97 hW _
    have hw := hw q5
    refine g_iald hW (ma97 hT) q4a q4b (by decide) dX11_textSize_17 ?_
    refine z_iload_n dX11_textSize_18 rfl rfl ?_
    obtain ⟨q7, hw⟩ := hw
    refine i_icmp_ne (tgt := 28) dX11_textSize_19 (by decide) (rngq q5 (by decide) (by decide)) q7 (fun h6 => ?_) (fun h6 => ?_)
    · have hw := hw.1 h6
      refine z_iload_n dX11_textSize_28 rfl rfl ?_
      refine z_loc (L' := [(0, .ref (G.1 + 54)), (1, .int (Int32.ofInt (l1))), (3, .int (Int32.ofInt (l3)))]) (List.forall_mem_cons.mpr ⟨rfl, (List.forall_mem_cons.mpr ⟨rfl, (List.forall_mem_cons.mpr ⟨rfl, (fun _ h => nomatch h)⟩)⟩)⟩) ?_
      exact bX11_textSize_29 hd hJ hT hW hP hB4 hw
    · have hw := hw.2 h6
      refine z_iload_n dX11_textSize_22 rfl rfl ?_
      refine z_iconst (v := Int32.ofInt 1) dX11_textSize_23 rfl ?_
      refine i_iadd dX11_textSize_24 ?_
      refine z_goto (tgt := 29) dX11_textSize_25 (by decide) ?_
      refine z_loc (L' := [(0, .ref (G.1 + 54)), (1, .int (Int32.ofInt (l1))), (3, .int (Int32.ofInt (l3)))]) (List.forall_mem_cons.mpr ⟨rfl, (List.forall_mem_cons.mpr ⟨rfl, (List.forall_mem_cons.mpr ⟨rfl, (fun _ h => nomatch h)⟩)⟩)⟩) ?_
      exact bX11_textSize_29 hd hJ hT hW hP hB4 hw
def wX11_textSize_4 (l1 l2 l3 : Int) (S : St) (K : Int → St → Prop) : Prop := ∃ (Iv : Int → Int → Int → St → Prop) (mu : Int → Int → Int → St → Nat), Iv l1 l2 l3 S ∧ ∀ (l1 l2 l3 : Int) (S : St), Iv l1 l2 l3 S → wX11_textSize_4' l1 l2 l3 S K  (fun ml1 ml2 ml3 T => Iv ml1 ml2 ml3 T ∧ mu ml1 ml2 ml3 T < mu l1 l2 l3 S)
set_option maxRecDepth 100000 in
set_option maxHeartbeats 4000000 in
theorem bX11_textSize_4 {G : xG} {sh : Nat → Option Sh} {J : St → List va_E → Prop} {d : Nat} {Post : xP} {l1 l2 l3 : Int} {S : St} {cs : List va_E} {K : Int → St → Prop} (hd : 0 ≤ d) (hJ : Stb sh J) (hT : isM sh) (hW : Wd G sh mT J S cs) (hP : ∀ (v : Int) (S : St) (cs : List va_E), K v S → Wd G sh mT J S cs → Post (some (.int (Int32.ofInt v))) cs)  (hw : wX11_textSize_4 l1 l2 l3 S K ) : Z (RX11, cX11_textSize, 4, some .int, false) G d Post 4 [(0, .ref (G.1 + 54)), (1, .int (Int32.ofInt (l1))), (2, .int (Int32.ofInt (l2))), (3, .int (Int32.ofInt (l3)))] [] cs := by
  unfold wX11_textSize_4 at hw
  obtain ⟨Iv, mu, h0, hs⟩ := hw
  have key : ∀ (n : Nat) (l1 l2 l3 : Int) (S : St) (cs : List va_E), mu l1 l2 l3 S < n → Iv l1 l2 l3 S → Wd G sh mT J S cs → Z (RX11, cX11_textSize, 4, some .int, false) G d Post 4 [(0, .ref (G.1 + 54)), (1, .int (Int32.ofInt (l1))), (2, .int (Int32.ofInt (l2))), (3, .int (Int32.ofInt (l3)))] [] cs := by
    intro n
    induction n with
    | zero => intro l1 l2 l3 S cs hn; exact absurd hn (Nat.not_lt_zero _)
    | succ n ih =>
      intro l1 l2 l3 S cs hn hI hW
      exact bX11_textSize_4' hd hJ hT hW hP  (fun l1 l2 l3 S cs hb hW => ih l1 l2 l3 S cs (Nat.lt_of_lt_of_le hb.2 (Nat.le_of_lt_succ hn)) hb.1 hW) (hs l1 l2 l3 S hI)
  exact key _ _ _ _ _ _ (Nat.lt_succ_self _) h0 hW
def wX11_textSize (a1 : Int) (S : St) (K : Int → St → Prop) : Prop := rng a1 → wX11_textSize_4 (a1) (0) (0) S K
set_option maxRecDepth 100000 in
set_option maxHeartbeats 4000000 in
theorem lX11_textSize {G : xG} {sh : Nat → Option Sh} {J : St → List va_E → Prop} {a1 : Int} {S : St} {cs : List va_E} {K : Int → St → Prop} (d : Nat) (hd : 0 ≤ d) (hJ : Stb sh J) (hT : isM sh) (hW : Wd G sh mT J S cs) (g1 : rng a1) (hw : wX11_textSize a1 S K) : X G yX11_textSize cX11_textSize 4 (some .int) d [.ref (G.1 + 54), .int (Int32.ofInt a1)] cs (qI G sh mT J K) := by
  refine X.of false (by decide +kernel) (by decide) (Nat.le_of_ble_eq_true rfl) ?_
  show Z (RX11, cX11_textSize, 4, some .int, false) G d _ 0 [(0, .ref (G.1 + 54)), (1, .int (Int32.ofInt a1))] [] cs
  have hP : ∀ (v : Int) (S : St) (cs : List va_E), K v S → Wd G sh mT J S cs → qI G sh mT J K (some (.int (Int32.ofInt v))) cs := fun v S cs a b => ⟨v, S, rfl, a, b⟩
  unfold wX11_textSize at hw
  have hw := hw g1
  refine z_iconst (v := Int32.ofInt 0) dX11_textSize_0 rfl ?_
  refine z_istore_n dX11_textSize_1 rfl (by decide) ?_
  refine z_loc (L' := [(0, .ref (G.1 + 54)), (1, .int (Int32.ofInt (a1))), (2, .int (Int32.ofInt (0)))]) (List.forall_mem_cons.mpr ⟨rfl, (List.forall_mem_cons.mpr ⟨rfl, (List.forall_mem_cons.mpr ⟨rfl, (fun _ h => nomatch h)⟩)⟩)⟩) ?_
  refine z_iconst (v := Int32.ofInt 0) dX11_textSize_2 rfl ?_
  refine z_istore_n dX11_textSize_3 rfl (by decide) ?_
  refine z_loc (L' := [(0, .ref (G.1 + 54)), (1, .int (Int32.ofInt (a1))), (2, .int (Int32.ofInt (0))), (3, .int (Int32.ofInt (0)))]) (List.forall_mem_cons.mpr ⟨rfl, (List.forall_mem_cons.mpr ⟨rfl, (List.forall_mem_cons.mpr ⟨rfl, (List.forall_mem_cons.mpr ⟨rfl, (fun _ h => nomatch h)⟩)⟩)⟩)⟩) ?_
  refine z_loc (L' := [(0, .ref (G.1 + 54)), (1, .int (Int32.ofInt (a1))), (2, .int (Int32.ofInt (0))), (3, .int (Int32.ofInt (0)))]) (List.forall_mem_cons.mpr ⟨rfl, (List.forall_mem_cons.mpr ⟨rfl, (List.forall_mem_cons.mpr ⟨rfl, (List.forall_mem_cons.mpr ⟨rfl, (fun _ h => nomatch h)⟩)⟩)⟩)⟩) ?_
  exact bX11_textSize_4 hd hJ hT hW hP  hw

def wX11_isObjectElement_349 (l1 l2 l3 l4 l5 l6 l7 l8 : Int) (S : St) (K : Int → St → Prop) (B245 : Int → Int → Int → Int → Int → Int → Int → Int → St → Prop) : Prop := B245 (l1) (l2) (l3) (l4) (l5) (l6) (l7) ((l8 + 1)) S
set_option maxRecDepth 100000 in
set_option maxHeartbeats 4000000 in
theorem bX11_isObjectElement_349 {G : xG} {sh : Nat → Option Sh} {J : St → List va_E → Prop} {d : Nat} {Post : xP} {l1 l2 l3 l4 l5 l6 l7 l8 : Int} {S : St} {cs : List va_E} {K : Int → St → Prop} {B245 : Int → Int → Int → Int → Int → Int → Int → Int → St → Prop} (hd : 3 ≤ d) (hJ : Stb sh J) (hT : isM sh) (hW : Wd G sh mT J S cs) (hP : ∀ (v : Int) (S : St) (cs : List va_E), K v S → Wd G sh mT J S cs → Post (some (.int (Int32.ofInt v))) cs) (hB245 : ∀ (l1 : Int) (l2 : Int) (l3 : Int) (l4 : Int) (l5 : Int) (l6 : Int) (l7 : Int) (l8 : Int) (S : St) (cs : List va_E), B245 l1 l2 l3 l4 l5 l6 l7 l8 S → Wd G sh mT J S cs → Z (RX11, cX11_isObjectElement, 10, some .boolean, false) G d Post 245 [(0, .ref (G.1 + 54)), (1, .int (Int32.ofInt (l1))), (2, .int (Int32.ofInt (l2))), (3, .int (Int32.ofInt (l3))), (4, .int (Int32.ofInt (l4))), (5, .int (Int32.ofInt (l5))), (6, .int (Int32.ofInt (l6))), (7, .int (Int32.ofInt (l7))), (8, .int (Int32.ofInt (l8)))] [] cs) (hw : wX11_isObjectElement_349 l1 l2 l3 l4 l5 l6 l7 l8 S K B245) : Z (RX11, cX11_isObjectElement, 10, some .boolean, false) G d Post 349 [(0, .ref (G.1 + 54)), (1, .int (Int32.ofInt (l1))), (2, .int (Int32.ofInt (l2))), (3, .int (Int32.ofInt (l3))), (4, .int (Int32.ofInt (l4))), (5, .int (Int32.ofInt (l5))), (6, .int (Int32.ofInt (l6))), (7, .int (Int32.ofInt (l7))), (8, .int (Int32.ofInt (l8)))] [] cs := by
  unfold wX11_isObjectElement_349 at hw
  refine i_iinc (l := l8) dX11_isObjectElement_349 rfl (by decide) ?_
  refine z_loc (L' := [(0, .ref (G.1 + 54)), (1, .int (Int32.ofInt (l1))), (2, .int (Int32.ofInt (l2))), (3, .int (Int32.ofInt (l3))), (4, .int (Int32.ofInt (l4))), (5, .int (Int32.ofInt (l5))), (6, .int (Int32.ofInt (l6))), (7, .int (Int32.ofInt (l7))), (8, .int (Int32.ofInt ((l8 + 1))))]) (List.forall_mem_cons.mpr ⟨rfl, (List.forall_mem_cons.mpr ⟨rfl, (List.forall_mem_cons.mpr ⟨rfl, (List.forall_mem_cons.mpr ⟨rfl, (List.forall_mem_cons.mpr ⟨rfl, (List.forall_mem_cons.mpr ⟨rfl, (List.forall_mem_cons.mpr ⟨rfl, (List.forall_mem_cons.mpr ⟨rfl, (List.forall_mem_cons.mpr ⟨rfl, (fun _ h => nomatch h)⟩)⟩)⟩)⟩)⟩)⟩)⟩)⟩)⟩) ?_
  refine z_goto (tgt := 245) dX11_isObjectElement_352 (by decide) ?_
  refine z_loc (L' := [(0, .ref (G.1 + 54)), (1, .int (Int32.ofInt (l1))), (2, .int (Int32.ofInt (l2))), (3, .int (Int32.ofInt (l3))), (4, .int (Int32.ofInt (l4))), (5, .int (Int32.ofInt (l5))), (6, .int (Int32.ofInt (l6))), (7, .int (Int32.ofInt (l7))), (8, .int (Int32.ofInt ((l8 + 1))))]) (List.forall_mem_cons.mpr ⟨rfl, (List.forall_mem_cons.mpr ⟨rfl, (List.forall_mem_cons.mpr ⟨rfl, (List.forall_mem_cons.mpr ⟨rfl, (List.forall_mem_cons.mpr ⟨rfl, (List.forall_mem_cons.mpr ⟨rfl, (List.forall_mem_cons.mpr ⟨rfl, (List.forall_mem_cons.mpr ⟨rfl, (List.forall_mem_cons.mpr ⟨rfl, (fun _ h => nomatch h)⟩)⟩)⟩)⟩)⟩)⟩)⟩)⟩)⟩) ?_
  exact hB245 _ _ _ _ _ _ _ _ _ _ hw hW
def wX11_isObjectElement_347 (l1 l2 l3 l4 l5 l6 l8 s0 : Int) (S : St) (K : Int → St → Prop) (B245 : Int → Int → Int → Int → Int → Int → Int → Int → St → Prop) : Prop := wX11_isObjectElement_349 (l1) (l2) (l3) (l4) (l5) (l6) (s0) (l8) S K B245
set_option maxRecDepth 100000 in
set_option maxHeartbeats 4000000 in
theorem bX11_isObjectElement_347 {G : xG} {sh : Nat → Option Sh} {J : St → List va_E → Prop} {d : Nat} {Post : xP} {l1 l2 l3 l4 l5 l6 l8 s0 : Int} {S : St} {cs : List va_E} {K : Int → St → Prop} {B245 : Int → Int → Int → Int → Int → Int → Int → Int → St → Prop} (hd : 3 ≤ d) (hJ : Stb sh J) (hT : isM sh) (hW : Wd G sh mT J S cs) (hP : ∀ (v : Int) (S : St) (cs : List va_E), K v S → Wd G sh mT J S cs → Post (some (.int (Int32.ofInt v))) cs) (hB245 : ∀ (l1 : Int) (l2 : Int) (l3 : Int) (l4 : Int) (l5 : Int) (l6 : Int) (l7 : Int) (l8 : Int) (S : St) (cs : List va_E), B245 l1 l2 l3 l4 l5 l6 l7 l8 S → Wd G sh mT J S cs → Z (RX11, cX11_isObjectElement, 10, some .boolean, false) G d Post 245 [(0, .ref (G.1 + 54)), (1, .int (Int32.ofInt (l1))), (2, .int (Int32.ofInt (l2))), (3, .int (Int32.ofInt (l3))), (4, .int (Int32.ofInt (l4))), (5, .int (Int32.ofInt (l5))), (6, .int (Int32.ofInt (l6))), (7, .int (Int32.ofInt (l7))), (8, .int (Int32.ofInt (l8)))] [] cs) (hw : wX11_isObjectElement_347 l1 l2 l3 l4 l5 l6 l8 s0 S K B245) : Z (RX11, cX11_isObjectElement, 10, some .boolean, false) G d Post 347 [(0, .ref (G.1 + 54)), (1, .int (Int32.ofInt (l1))), (2, .int (Int32.ofInt (l2))), (3, .int (Int32.ofInt (l3))), (4, .int (Int32.ofInt (l4))), (5, .int (Int32.ofInt (l5))), (6, .int (Int32.ofInt (l6))), (8, .int (Int32.ofInt (l8)))] [.int (Int32.ofInt (s0))] cs := by
  unfold wX11_isObjectElement_347 at hw
  refine z_istore dX11_isObjectElement_347 (by decide) ?_
  refine z_loc (L' := [(0, .ref (G.1 + 54)), (1, .int (Int32.ofInt (l1))), (2, .int (Int32.ofInt (l2))), (3, .int (Int32.ofInt (l3))), (4, .int (Int32.ofInt (l4))), (5, .int (Int32.ofInt (l5))), (6, .int (Int32.ofInt (l6))), (7, .int (Int32.ofInt (s0))), (8, .int (Int32.ofInt (l8)))]) (List.forall_mem_cons.mpr ⟨rfl, (List.forall_mem_cons.mpr ⟨rfl, (List.forall_mem_cons.mpr ⟨rfl, (List.forall_mem_cons.mpr ⟨rfl, (List.forall_mem_cons.mpr ⟨rfl, (List.forall_mem_cons.mpr ⟨rfl, (List.forall_mem_cons.mpr ⟨rfl, (List.forall_mem_cons.mpr ⟨rfl, (List.forall_mem_cons.mpr ⟨rfl, (fun _ h => nomatch h)⟩)⟩)⟩)⟩)⟩)⟩)⟩)⟩)⟩) ?_
  refine z_loc (L' := [(0, .ref (G.1 + 54)), (1, .int (Int32.ofInt (l1))), (2, .int (Int32.ofInt (l2))), (3, .int (Int32.ofInt (l3))), (4, .int (Int32.ofInt (l4))), (5, .int (Int32.ofInt (l5))), (6, .int (Int32.ofInt (l6))), (7, .int (Int32.ofInt (s0))), (8, .int (Int32.ofInt (l8)))]) (List.forall_mem_cons.mpr ⟨rfl, (List.forall_mem_cons.mpr ⟨rfl, (List.forall_mem_cons.mpr ⟨rfl, (List.forall_mem_cons.mpr ⟨rfl, (List.forall_mem_cons.mpr ⟨rfl, (List.forall_mem_cons.mpr ⟨rfl, (List.forall_mem_cons.mpr ⟨rfl, (List.forall_mem_cons.mpr ⟨rfl, (List.forall_mem_cons.mpr ⟨rfl, (fun _ h => nomatch h)⟩)⟩)⟩)⟩)⟩)⟩)⟩)⟩)⟩) ?_
  exact bX11_isObjectElement_349 hd hJ hT hW hP hB245 hw
def wX11_isObjectElement_346 (l1 l2 l3 l4 l5 l6 l8 : Int) (S : St) (K : Int → St → Prop) (B245 : Int → Int → Int → Int → Int → Int → Int → Int → St → Prop) : Prop := wX11_isObjectElement_347 (l1) (l2) (l3) (l4) (l5) (l6) (l8) (0) S K B245
set_option maxRecDepth 100000 in
set_option maxHeartbeats 4000000 in
theorem bX11_isObjectElement_346 {G : xG} {sh : Nat → Option Sh} {J : St → List va_E → Prop} {d : Nat} {Post : xP} {l1 l2 l3 l4 l5 l6 l8 : Int} {S : St} {cs : List va_E} {K : Int → St → Prop} {B245 : Int → Int → Int → Int → Int → Int → Int → Int → St → Prop} (hd : 3 ≤ d) (hJ : Stb sh J) (hT : isM sh) (hW : Wd G sh mT J S cs) (hP : ∀ (v : Int) (S : St) (cs : List va_E), K v S → Wd G sh mT J S cs → Post (some (.int (Int32.ofInt v))) cs) (hB245 : ∀ (l1 : Int) (l2 : Int) (l3 : Int) (l4 : Int) (l5 : Int) (l6 : Int) (l7 : Int) (l8 : Int) (S : St) (cs : List va_E), B245 l1 l2 l3 l4 l5 l6 l7 l8 S → Wd G sh mT J S cs → Z (RX11, cX11_isObjectElement, 10, some .boolean, false) G d Post 245 [(0, .ref (G.1 + 54)), (1, .int (Int32.ofInt (l1))), (2, .int (Int32.ofInt (l2))), (3, .int (Int32.ofInt (l3))), (4, .int (Int32.ofInt (l4))), (5, .int (Int32.ofInt (l5))), (6, .int (Int32.ofInt (l6))), (7, .int (Int32.ofInt (l7))), (8, .int (Int32.ofInt (l8)))] [] cs) (hw : wX11_isObjectElement_346 l1 l2 l3 l4 l5 l6 l8 S K B245) : Z (RX11, cX11_isObjectElement, 10, some .boolean, false) G d Post 346 [(0, .ref (G.1 + 54)), (1, .int (Int32.ofInt (l1))), (2, .int (Int32.ofInt (l2))), (3, .int (Int32.ofInt (l3))), (4, .int (Int32.ofInt (l4))), (5, .int (Int32.ofInt (l5))), (6, .int (Int32.ofInt (l6))), (8, .int (Int32.ofInt (l8)))] [] cs := by
  unfold wX11_isObjectElement_346 at hw
  refine z_iconst (v := Int32.ofInt 0) dX11_isObjectElement_346 rfl ?_
  refine z_loc (L' := [(0, .ref (G.1 + 54)), (1, .int (Int32.ofInt (l1))), (2, .int (Int32.ofInt (l2))), (3, .int (Int32.ofInt (l3))), (4, .int (Int32.ofInt (l4))), (5, .int (Int32.ofInt (l5))), (6, .int (Int32.ofInt (l6))), (8, .int (Int32.ofInt (l8)))]) (List.forall_mem_cons.mpr ⟨rfl, (List.forall_mem_cons.mpr ⟨rfl, (List.forall_mem_cons.mpr ⟨rfl, (List.forall_mem_cons.mpr ⟨rfl, (List.forall_mem_cons.mpr ⟨rfl, (List.forall_mem_cons.mpr ⟨rfl, (List.forall_mem_cons.mpr ⟨rfl, (List.forall_mem_cons.mpr ⟨rfl, (fun _ h => nomatch h)⟩)⟩)⟩)⟩)⟩)⟩)⟩)⟩) ?_
  exact bX11_isObjectElement_347 hd hJ hT hW hP hB245 hw
def wX11_isObjectElement_342 (l1 l2 l3 l4 l5 l6 l8 : Int) (S : St) (K : Int → St → Prop) (B245 : Int → Int → Int → Int → Int → Int → Int → Int → St → Prop) : Prop := wX11_isObjectElement_347 (l1) (l2) (l3) (l4) (l5) (l6) (l8) (1) S K B245
set_option maxRecDepth 100000 in
set_option maxHeartbeats 4000000 in
theorem bX11_isObjectElement_342 {G : xG} {sh : Nat → Option Sh} {J : St → List va_E → Prop} {d : Nat} {Post : xP} {l1 l2 l3 l4 l5 l6 l8 : Int} {S : St} {cs : List va_E} {K : Int → St → Prop} {B245 : Int → Int → Int → Int → Int → Int → Int → Int → St → Prop} (hd : 3 ≤ d) (hJ : Stb sh J) (hT : isM sh) (hW : Wd G sh mT J S cs) (hP : ∀ (v : Int) (S : St) (cs : List va_E), K v S → Wd G sh mT J S cs → Post (some (.int (Int32.ofInt v))) cs) (hB245 : ∀ (l1 : Int) (l2 : Int) (l3 : Int) (l4 : Int) (l5 : Int) (l6 : Int) (l7 : Int) (l8 : Int) (S : St) (cs : List va_E), B245 l1 l2 l3 l4 l5 l6 l7 l8 S → Wd G sh mT J S cs → Z (RX11, cX11_isObjectElement, 10, some .boolean, false) G d Post 245 [(0, .ref (G.1 + 54)), (1, .int (Int32.ofInt (l1))), (2, .int (Int32.ofInt (l2))), (3, .int (Int32.ofInt (l3))), (4, .int (Int32.ofInt (l4))), (5, .int (Int32.ofInt (l5))), (6, .int (Int32.ofInt (l6))), (7, .int (Int32.ofInt (l7))), (8, .int (Int32.ofInt (l8)))] [] cs) (hw : wX11_isObjectElement_342 l1 l2 l3 l4 l5 l6 l8 S K B245) : Z (RX11, cX11_isObjectElement, 10, some .boolean, false) G d Post 342 [(0, .ref (G.1 + 54)), (1, .int (Int32.ofInt (l1))), (2, .int (Int32.ofInt (l2))), (3, .int (Int32.ofInt (l3))), (4, .int (Int32.ofInt (l4))), (5, .int (Int32.ofInt (l5))), (6, .int (Int32.ofInt (l6))), (8, .int (Int32.ofInt (l8)))] [] cs := by
  unfold wX11_isObjectElement_342 at hw
  refine z_iconst (v := Int32.ofInt 1) dX11_isObjectElement_342 rfl ?_
  refine z_goto (tgt := 347) dX11_isObjectElement_343 (by decide) ?_
  refine z_loc (L' := [(0, .ref (G.1 + 54)), (1, .int (Int32.ofInt (l1))), (2, .int (Int32.ofInt (l2))), (3, .int (Int32.ofInt (l3))), (4, .int (Int32.ofInt (l4))), (5, .int (Int32.ofInt (l5))), (6, .int (Int32.ofInt (l6))), (8, .int (Int32.ofInt (l8)))]) (List.forall_mem_cons.mpr ⟨rfl, (List.forall_mem_cons.mpr ⟨rfl, (List.forall_mem_cons.mpr ⟨rfl, (List.forall_mem_cons.mpr ⟨rfl, (List.forall_mem_cons.mpr ⟨rfl, (List.forall_mem_cons.mpr ⟨rfl, (List.forall_mem_cons.mpr ⟨rfl, (List.forall_mem_cons.mpr ⟨rfl, (fun _ h => nomatch h)⟩)⟩)⟩)⟩)⟩)⟩)⟩)⟩) ?_
  exact bX11_isObjectElement_347 hd hJ hT hW hP hB245 hw
def wX11_isObjectElement_322 (l1 l2 l3 l4 l5 l6 l8 : Int) (S : St) (K : Int → St → Prop) (B245 : Int → Int → Int → Int → Int → Int → Int → Int → St → Prop) : Prop := (rng (l8) ∧ (wX11_isKey (l8) (1) S (fun r2 S3 => (rng (r2) ∧ ((r2 = 0 → wX11_isObjectElement_346 (l1) (l2) (l3) (l4) (l5) (l6) (l8) S3 K B245) ∧ ((¬ (r2 = 0)) → (rng (l1) ∧ (wX11_isId (l1) (l8) S3 (fun r7 S8 => (rng (r7) ∧ ((r7 = 0 → wX11_isObjectElement_346 (l1) (l2) (l3) (l4) (l5) (l6) (l8) S8 K B245) ∧ ((¬ (r7 = 0)) → wX11_isObjectElement_342 (l1) (l2) (l3) (l4) (l5) (l6) (l8) S8 K B245))))))))))))
set_option maxRecDepth 100000 in
set_option maxHeartbeats 4000000 in
theorem bX11_isObjectElement_322 {G : xG} {sh : Nat → Option Sh} {J : St → List va_E → Prop} {d : Nat} {Post : xP} {l1 l2 l3 l4 l5 l6 l8 : Int} {S : St} {cs : List va_E} {K : Int → St → Prop} {B245 : Int → Int → Int → Int → Int → Int → Int → Int → St → Prop} (hd : 3 ≤ d) (hJ : Stb sh J) (hT : isM sh) (hW : Wd G sh mT J S cs) (hP : ∀ (v : Int) (S : St) (cs : List va_E), K v S → Wd G sh mT J S cs → Post (some (.int (Int32.ofInt v))) cs) (hB245 : ∀ (l1 : Int) (l2 : Int) (l3 : Int) (l4 : Int) (l5 : Int) (l6 : Int) (l7 : Int) (l8 : Int) (S : St) (cs : List va_E), B245 l1 l2 l3 l4 l5 l6 l7 l8 S → Wd G sh mT J S cs → Z (RX11, cX11_isObjectElement, 10, some .boolean, false) G d Post 245 [(0, .ref (G.1 + 54)), (1, .int (Int32.ofInt (l1))), (2, .int (Int32.ofInt (l2))), (3, .int (Int32.ofInt (l3))), (4, .int (Int32.ofInt (l4))), (5, .int (Int32.ofInt (l5))), (6, .int (Int32.ofInt (l6))), (7, .int (Int32.ofInt (l7))), (8, .int (Int32.ofInt (l8)))] [] cs) (hw : wX11_isObjectElement_322 l1 l2 l3 l4 l5 l6 l8 S K B245) : Z (RX11, cX11_isObjectElement, 10, some .boolean, false) G d Post 322 [(0, .ref (G.1 + 54)), (1, .int (Int32.ofInt (l1))), (2, .int (Int32.ofInt (l2))), (3, .int (Int32.ofInt (l3))), (4, .int (Int32.ofInt (l4))), (5, .int (Int32.ofInt (l5))), (6, .int (Int32.ofInt (l6))), (8, .int (Int32.ofInt (l8)))] [] cs := by
  unfold wX11_isObjectElement_322 at hw
  refine z_aload_n dX11_isObjectElement_322 rfl rfl ?_
  refine z_iload dX11_isObjectElement_323 rfl ?_
  refine z_iconst (v := Int32.ofInt 1) dX11_isObjectElement_325 rfl ?_
  obtain ⟨q1, hw⟩ := hw
  have hX := lX11_isKey 1 (Nat.le_refl _) hJ hT hW q1 ⟨by decide, by decide⟩ hw
  refine z_callV (As := [_, _]) eX11_isKey sX11_isKey lX11_429 rfl dX11_isObjectElement_326 (hW.1 _ _ hT.1) hX (Nat.le_trans (by decide) hd) rfl (Nat.le_of_ble_eq_true rfl) (fun r cs hp => ?_)
  obtain ⟨r2, S3, rfl, hw, hW⟩ := hp
  refine z_st (st' := [.int (Int32.ofInt (r2))]) rfl ?_
  obtain ⟨q5, hw⟩ := hw
  refine i_if_eq (tgt := 346) dX11_isObjectElement_329 (by decide) q5 (fun h4 => ?_) (fun h4 => ?_)
  · have hw := hw.1 h4
    refine z_loc (L' := [(0, .ref (G.1 + 54)), (1, .int (Int32.ofInt (l1))), (2, .int (Int32.ofInt (l2))), (3, .int (Int32.ofInt (l3))), (4, .int (Int32.ofInt (l4))), (5, .int (Int32.ofInt (l5))), (6, .int (Int32.ofInt (l6))), (8, .int (Int32.ofInt (l8)))]) (List.forall_mem_cons.mpr ⟨rfl, (List.forall_mem_cons.mpr ⟨rfl, (List.forall_mem_cons.mpr ⟨rfl, (List.forall_mem_cons.mpr ⟨rfl, (List.forall_mem_cons.mpr ⟨rfl, (List.forall_mem_cons.mpr ⟨rfl, (List.forall_mem_cons.mpr ⟨rfl, (List.forall_mem_cons.mpr ⟨rfl, (fun _ h => nomatch h)⟩)⟩)⟩)⟩)⟩)⟩)⟩)⟩) ?_
    exact bX11_isObjectElement_346 hd hJ hT hW hP hB245 hw
  · have hw := hw.2 h4
    refine z_aload_n dX11_isObjectElement_332 rfl rfl ?_
    refine z_iload_n dX11_isObjectElement_333 rfl rfl ?_
    refine z_iload dX11_isObjectElement_334 rfl ?_
    obtain ⟨q6, hw⟩ := hw
    have hX := lX11_isId 1 (Nat.le_refl _) hJ hT hW q6 q1 hw
    refine z_callV (As := [_, _]) eX11_isId sX11_isId lX11_457 rfl dX11_isObjectElement_336 (hW.1 _ _ hT.1) hX (Nat.le_trans (by decide) hd) rfl (Nat.le_of_ble_eq_true rfl) (fun r cs hp => ?_)
    obtain ⟨r7, S8, rfl, hw, hW⟩ := hp
    refine z_st (st' := [.int (Int32.ofInt (r7))]) rfl ?_
    obtain ⟨q10, hw⟩ := hw
    refine i_if_eq (tgt := 346) dX11_isObjectElement_339 (by decide) q10 (fun h9 => ?_) (fun h9 => ?_)
    · have hw := hw.1 h9
      refine z_loc (L' := [(0, .ref (G.1 + 54)), (1, .int (Int32.ofInt (l1))), (2, .int (Int32.ofInt (l2))), (3, .int (Int32.ofInt (l3))), (4, .int (Int32.ofInt (l4))), (5, .int (Int32.ofInt (l5))), (6, .int (Int32.ofInt (l6))), (8, .int (Int32.ofInt (l8)))]) (List.forall_mem_cons.mpr ⟨rfl, (List.forall_mem_cons.mpr ⟨rfl, (List.forall_mem_cons.mpr ⟨rfl, (List.forall_mem_cons.mpr ⟨rfl, (List.forall_mem_cons.mpr ⟨rfl, (List.forall_mem_cons.mpr ⟨rfl, (List.forall_mem_cons.mpr ⟨rfl, (List.forall_mem_cons.mpr ⟨rfl, (fun _ h => nomatch h)⟩)⟩)⟩)⟩)⟩)⟩)⟩)⟩) ?_
      exact bX11_isObjectElement_346 hd hJ hT hW hP hB245 hw
    · have hw := hw.2 h9
      refine z_loc (L' := [(0, .ref (G.1 + 54)), (1, .int (Int32.ofInt (l1))), (2, .int (Int32.ofInt (l2))), (3, .int (Int32.ofInt (l3))), (4, .int (Int32.ofInt (l4))), (5, .int (Int32.ofInt (l5))), (6, .int (Int32.ofInt (l6))), (8, .int (Int32.ofInt (l8)))]) (List.forall_mem_cons.mpr ⟨rfl, (List.forall_mem_cons.mpr ⟨rfl, (List.forall_mem_cons.mpr ⟨rfl, (List.forall_mem_cons.mpr ⟨rfl, (List.forall_mem_cons.mpr ⟨rfl, (List.forall_mem_cons.mpr ⟨rfl, (List.forall_mem_cons.mpr ⟨rfl, (List.forall_mem_cons.mpr ⟨rfl, (fun _ h => nomatch h)⟩)⟩)⟩)⟩)⟩)⟩)⟩)⟩) ?_
      exact bX11_isObjectElement_342 hd hJ hT hW hP hB245 hw
def wX11_isObjectElement_245' (l1 l2 l3 l4 l5 l6 l7 l8 : Int) (S : St) (K : Int → St → Prop) (B245 : Int → Int → Int → Int → Int → Int → Int → Int → St → Prop) : Prop := (rng (l8) ∧ (rng ((l3 + l4)) ∧ (((l3 + l4) ≤ l8 → (iv 0 1 (l7) ∧ K (l7) S)) ∧ ((¬ ((l3 + l4) ≤ l8)) → (rng (l7) ∧ ((l7 = 0 → (iv 0 1 (l7) ∧ K (l7) S)) ∧ ((¬ (l7 = 0)) → ((0 : Int) ≤ l8 ∧ l8 < (600 : Int) ∧ (iv 0 3000 (S.2 92 (l8)) → ((0 : Int) ≤ l8 ∧ l8 < (600 : Int) ∧ (iv 0 3000 (S.2 93 (l8)) → (rng (l5) ∧ (wX11_fieldNamed (l5) (S.2 92 (l8)) (S.2 93 (l8)) (1) S (fun r13 S14 => (rng (r13) ∧ ((r13 = (-2) → (rng (l2) ∧ ((l2 = 0 → wX11_isObjectElement_322 (l1) (l2) (l3) (l4) (l5) (l6) (l8) S14 K B245) ∧ ((¬ (l2 = 0)) → (wX11_isKey (l8) (0) S14 (fun r19 S20 => (rng (r19) ∧ ((¬ r19 = 0 → wX11_isObjectElement_342 (l1) (l2) (l3) (l4) (l5) (l6) (l8) S20 K B245) ∧ ((¬ (¬ r19 = 0)) → wX11_isObjectElement_322 (l1) (l2) (l3) (l4) (l5) (l6) (l8) S20 K B245))))))))) ∧ ((¬ (r13 = (-2))) → (wX11_pieceOfValue (l8) S14 (fun r23 S24 => (rng (l6) ∧ (wX11_becomes (l6) (r13) S24 (fun r26 S27 => wX11_isObjectElement_349 (l1) (l2) (l3) (l4) (l5) (l6) (r26) (l8) S27 K B245))))))))))))))))))))))
set_option maxRecDepth 100000 in
set_option maxHeartbeats 4000000 in
theorem bX11_isObjectElement_245' {G : xG} {sh : Nat → Option Sh} {J : St → List va_E → Prop} {d : Nat} {Post : xP} {l1 l2 l3 l4 l5 l6 l7 l8 : Int} {S : St} {cs : List va_E} {K : Int → St → Prop} {B245 : Int → Int → Int → Int → Int → Int → Int → Int → St → Prop} (hd : 3 ≤ d) (hJ : Stb sh J) (hT : isM sh) (hW : Wd G sh mT J S cs) (hP : ∀ (v : Int) (S : St) (cs : List va_E), K v S → Wd G sh mT J S cs → Post (some (.int (Int32.ofInt v))) cs) (hB245 : ∀ (l1 : Int) (l2 : Int) (l3 : Int) (l4 : Int) (l5 : Int) (l6 : Int) (l7 : Int) (l8 : Int) (S : St) (cs : List va_E), B245 l1 l2 l3 l4 l5 l6 l7 l8 S → Wd G sh mT J S cs → Z (RX11, cX11_isObjectElement, 10, some .boolean, false) G d Post 245 [(0, .ref (G.1 + 54)), (1, .int (Int32.ofInt (l1))), (2, .int (Int32.ofInt (l2))), (3, .int (Int32.ofInt (l3))), (4, .int (Int32.ofInt (l4))), (5, .int (Int32.ofInt (l5))), (6, .int (Int32.ofInt (l6))), (7, .int (Int32.ofInt (l7))), (8, .int (Int32.ofInt (l8)))] [] cs) (hw : wX11_isObjectElement_245' l1 l2 l3 l4 l5 l6 l7 l8 S K B245) : Z (RX11, cX11_isObjectElement, 10, some .boolean, false) G d Post 245 [(0, .ref (G.1 + 54)), (1, .int (Int32.ofInt (l1))), (2, .int (Int32.ofInt (l2))), (3, .int (Int32.ofInt (l3))), (4, .int (Int32.ofInt (l4))), (5, .int (Int32.ofInt (l5))), (6, .int (Int32.ofInt (l6))), (7, .int (Int32.ofInt (l7))), (8, .int (Int32.ofInt (l8)))] [] cs := by
  unfold wX11_isObjectElement_245' at hw
  refine z_iload dX11_isObjectElement_245 rfl ?_
  refine z_iload_n dX11_isObjectElement_247 rfl rfl ?_
  refine z_iload dX11_isObjectElement_248 rfl ?_
  refine i_iadd dX11_isObjectElement_250 ?_
  obtain ⟨q2, hw⟩ := hw
  obtain ⟨q3, hw⟩ := hw
  refine i_icmp_ge (tgt := 355) dX11_isObjectElement_251 (by decide) q2 q3 (fun h1 => ?_) (fun h1 => ?_)
  · have hw := hw.1 h1
    refine z_iload dX11_isObjectElement_355 rfl ?_
    obtain ⟨q4, hw⟩ := hw
    exact z_ireturn dX11_isObjectElement_357 rfl (nar01 (b01 q4)) (hP _ _ _ hw hW)
  · have hw := hw.2 h1
    refine z_iload dX11_isObjectElement_254 rfl ?_
    obtain ⟨q6, hw⟩ := hw
    refine i_if_eq (tgt := 355) dX11_isObjectElement_256 (by decide) q6 (fun h5 => ?_) (fun h5 => ?_)
    · have hw := hw.1 h5
      refine z_iload dX11_isObjectElement_355 rfl ?_
      obtain ⟨q7, hw⟩ := hw
      exact z_ireturn dX11_isObjectElement_357 rfl (nar01 (b01 q7)) (hP _ _ _ hw hW)
    · have hw := hw.2 h5
      refine z_aload_n dX11_isObjectElement_259 rfl rfl ?_
      refine z_iload dX11_isObjectElement_260 rfl ?_
      refine z_aload_n dX11_isObjectElement_262 rfl rfl ?_
      refine g_getR hW hT.1 mr52 kX11 fX11_126 dX11_isObjectElement_263 ?_
      refine z_iload dX11_isObjectElement_266 rfl ?_
      obtain ⟨q8a, q8b, hw⟩ := hw
      have q9 : iv 0 3000 (S.2 92 (l8)) := mA92 hW _
      have hw := hw q9
      refine g_iald hW (ma92 hT) q8a q8b (by decide) dX11_isObjectElement_268 ?_
      refine z_aload_n dX11_isObjectElement_269 rfl rfl ?_
      refine g_getR hW hT.1 mr53 kX11 fX11_129 dX11_isObjectElement_270 ?_
      refine z_iload dX11_isObjectElement_273 rfl ?_
      obtain ⟨q10a, q10b, hw⟩ := hw
      have q11 : iv 0 3000 (S.2 93 (l8)) := mA93 hW _
      have hw := hw q11
      refine g_iald hW (ma93 hT) q10a q10b (by decide) dX11_isObjectElement_275 ?_
      refine z_iconst (v := Int32.ofInt 1) dX11_isObjectElement_276 rfl ?_
      obtain ⟨q12, hw⟩ := hw
      have hX := lX11_fieldNamed 2 (Nat.le_refl _) hJ hT hW q12 (rngq q9 (by decide) (by decide)) (rngq q11 (by decide) (by decide)) ⟨by decide, by decide⟩ hw
      refine z_callV (As := [_, _, _, _]) eX11_fieldNamed sX11_fieldNamed lX11_447 rfl dX11_isObjectElement_277 (hW.1 _ _ hT.1) hX (Nat.le_trans (by decide) hd) rfl (Nat.le_of_ble_eq_true rfl) (fun r cs hp => ?_)
      obtain ⟨r13, S14, rfl, hw, hW⟩ := hp
      refine z_st (st' := [.int (Int32.ofInt (r13))]) rfl ?_
      refine z_istore dX11_isObjectElement_280 (by decide) ?_
      refine z_loc (L' := [(0, .ref (G.1 + 54)), (1, .int (Int32.ofInt (l1))), (2, .int (Int32.ofInt (l2))), (3, .int (Int32.ofInt (l3))), (4, .int (Int32.ofInt (l4))), (5, .int (Int32.ofInt (l5))), (6, .int (Int32.ofInt (l6))), (7, .int (Int32.ofInt (l7))), (8, .int (Int32.ofInt (l8))), (9, .int (Int32.ofInt (r13)))]) (List.forall_mem_cons.mpr ⟨rfl, (List.forall_mem_cons.mpr ⟨rfl, (List.forall_mem_cons.mpr ⟨rfl, (List.forall_mem_cons.mpr ⟨rfl, (List.forall_mem_cons.mpr ⟨rfl, (List.forall_mem_cons.mpr ⟨rfl, (List.forall_mem_cons.mpr ⟨rfl, (List.forall_mem_cons.mpr ⟨rfl, (List.forall_mem_cons.mpr ⟨rfl, (List.forall_mem_cons.mpr ⟨rfl, (fun _ h => nomatch h)⟩)⟩)⟩)⟩)⟩)⟩)⟩)⟩)⟩)⟩) ?_
      refine z_iload dX11_isObjectElement_282 rfl ?_
      refine z_bipush (v := Int32.ofInt (-2)) dX11_isObjectElement_284 (by decide) ?_
      obtain ⟨q16, hw⟩ := hw
      refine i_icmp_eq (tgt := 308) dX11_isObjectElement_286 (by decide) q16 ⟨by decide, by decide⟩ (fun h15 => ?_) (fun h15 => ?_)
      · have hw := hw.1 h15
        refine z_iload_n dX11_isObjectElement_308 rfl rfl ?_
        obtain ⟨q18, hw⟩ := hw
        refine i_if_eq (tgt := 322) dX11_isObjectElement_309 (by decide) q18 (fun h17 => ?_) (fun h17 => ?_)
        · have hw := hw.1 h17
          refine z_loc (L' := [(0, .ref (G.1 + 54)), (1, .int (Int32.ofInt (l1))), (2, .int (Int32.ofInt (l2))), (3, .int (Int32.ofInt (l3))), (4, .int (Int32.ofInt (l4))), (5, .int (Int32.ofInt (l5))), (6, .int (Int32.ofInt (l6))), (8, .int (Int32.ofInt (l8)))]) (List.forall_mem_cons.mpr ⟨rfl, (List.forall_mem_cons.mpr ⟨rfl, (List.forall_mem_cons.mpr ⟨rfl, (List.forall_mem_cons.mpr ⟨rfl, (List.forall_mem_cons.mpr ⟨rfl, (List.forall_mem_cons.mpr ⟨rfl, (List.forall_mem_cons.mpr ⟨rfl, (List.forall_mem_cons.mpr ⟨rfl, (fun _ h => nomatch h)⟩)⟩)⟩)⟩)⟩)⟩)⟩)⟩) ?_
          exact bX11_isObjectElement_322 hd hJ hT hW hP hB245 hw
        · have hw := hw.2 h17
          refine z_aload_n dX11_isObjectElement_312 rfl rfl ?_
          refine z_iload dX11_isObjectElement_313 rfl ?_
          refine z_iconst (v := Int32.ofInt 0) dX11_isObjectElement_315 rfl ?_
          have hX := lX11_isKey 1 (Nat.le_refl _) hJ hT hW q2 ⟨by decide, by decide⟩ hw
          refine z_callV (As := [_, _]) eX11_isKey sX11_isKey lX11_429 rfl dX11_isObjectElement_316 (hW.1 _ _ hT.1) hX (Nat.le_trans (by decide) hd) rfl (Nat.le_of_ble_eq_true rfl) (fun r cs hp => ?_)
          obtain ⟨r19, S20, rfl, hw, hW⟩ := hp
          refine z_st (st' := [.int (Int32.ofInt (r19))]) rfl ?_
          obtain ⟨q22, hw⟩ := hw
          refine i_if_ne (tgt := 342) dX11_isObjectElement_319 (by decide) q22 (fun h21 => ?_) (fun h21 => ?_)
          · have hw := hw.1 h21
            refine z_loc (L' := [(0, .ref (G.1 + 54)), (1, .int (Int32.ofInt (l1))), (2, .int (Int32.ofInt (l2))), (3, .int (Int32.ofInt (l3))), (4, .int (Int32.ofInt (l4))), (5, .int (Int32.ofInt (l5))), (6, .int (Int32.ofInt (l6))), (8, .int (Int32.ofInt (l8)))]) (List.forall_mem_cons.mpr ⟨rfl, (List.forall_mem_cons.mpr ⟨rfl, (List.forall_mem_cons.mpr ⟨rfl, (List.forall_mem_cons.mpr ⟨rfl, (List.forall_mem_cons.mpr ⟨rfl, (List.forall_mem_cons.mpr ⟨rfl, (List.forall_mem_cons.mpr ⟨rfl, (List.forall_mem_cons.mpr ⟨rfl, (fun _ h => nomatch h)⟩)⟩)⟩)⟩)⟩)⟩)⟩)⟩) ?_
            exact bX11_isObjectElement_342 hd hJ hT hW hP hB245 hw
          · have hw := hw.2 h21
            refine z_loc (L' := [(0, .ref (G.1 + 54)), (1, .int (Int32.ofInt (l1))), (2, .int (Int32.ofInt (l2))), (3, .int (Int32.ofInt (l3))), (4, .int (Int32.ofInt (l4))), (5, .int (Int32.ofInt (l5))), (6, .int (Int32.ofInt (l6))), (8, .int (Int32.ofInt (l8)))]) (List.forall_mem_cons.mpr ⟨rfl, (List.forall_mem_cons.mpr ⟨rfl, (List.forall_mem_cons.mpr ⟨rfl, (List.forall_mem_cons.mpr ⟨rfl, (List.forall_mem_cons.mpr ⟨rfl, (List.forall_mem_cons.mpr ⟨rfl, (List.forall_mem_cons.mpr ⟨rfl, (List.forall_mem_cons.mpr ⟨rfl, (fun _ h => nomatch h)⟩)⟩)⟩)⟩)⟩)⟩)⟩)⟩) ?_
            exact bX11_isObjectElement_322 hd hJ hT hW hP hB245 hw
      · have hw := hw.2 h15
        refine z_aload_n dX11_isObjectElement_289 rfl rfl ?_
        refine z_iload dX11_isObjectElement_290 rfl ?_
        have hX := lX11_pieceOfValue 0 (Nat.le_refl _) hJ hT hW q2 hw
        refine z_callV (As := [_]) eX11_pieceOfValue sX11_pieceOfValue lX11_451 rfl dX11_isObjectElement_292 (hW.1 _ _ hT.1) hX (Nat.le_trans (by decide) hd) rfl (Nat.le_of_ble_eq_true rfl) (fun r cs hp => ?_)
        obtain ⟨r23, S24, rfl, hw, hW⟩ := hp
        refine z_st (st' := []) rfl ?_
        refine z_aload_n dX11_isObjectElement_295 rfl rfl ?_
        refine z_iload dX11_isObjectElement_296 rfl ?_
        refine z_iload dX11_isObjectElement_298 rfl ?_
        obtain ⟨q25, hw⟩ := hw
        have hX := lX11_becomes 1 (Nat.le_refl _) hJ hT hW q25 q16 hw
        refine z_callV (As := [_, _]) eX11_becomes sX11_becomes lX11_454 rfl dX11_isObjectElement_300 (hW.1 _ _ hT.1) hX (Nat.le_trans (by decide) hd) rfl (Nat.le_of_ble_eq_true rfl) (fun r cs hp => ?_)
        obtain ⟨r26, S27, rfl, hw, hW⟩ := hp
        refine z_st (st' := [.int (Int32.ofInt (r26))]) rfl ?_
        refine z_istore dX11_isObjectElement_303 (by decide) ?_
        refine z_loc (L' := [(0, .ref (G.1 + 54)), (1, .int (Int32.ofInt (l1))), (2, .int (Int32.ofInt (l2))), (3, .int (Int32.ofInt (l3))), (4, .int (Int32.ofInt (l4))), (5, .int (Int32.ofInt (l5))), (6, .int (Int32.ofInt (l6))), (7, .int (Int32.ofInt (r26))), (8, .int (Int32.ofInt (l8))), (9, .int (Int32.ofInt (r13)))]) (List.forall_mem_cons.mpr ⟨rfl, (List.forall_mem_cons.mpr ⟨rfl, (List.forall_mem_cons.mpr ⟨rfl, (List.forall_mem_cons.mpr ⟨rfl, (List.forall_mem_cons.mpr ⟨rfl, (List.forall_mem_cons.mpr ⟨rfl, (List.forall_mem_cons.mpr ⟨rfl, (List.forall_mem_cons.mpr ⟨rfl, (List.forall_mem_cons.mpr ⟨rfl, (List.forall_mem_cons.mpr ⟨rfl, (fun _ h => nomatch h)⟩)⟩)⟩)⟩)⟩)⟩)⟩)⟩)⟩)⟩) ?_
        refine z_goto (tgt := 349) dX11_isObjectElement_305 (by decide) ?_
        refine z_loc (L' := [(0, .ref (G.1 + 54)), (1, .int (Int32.ofInt (l1))), (2, .int (Int32.ofInt (l2))), (3, .int (Int32.ofInt (l3))), (4, .int (Int32.ofInt (l4))), (5, .int (Int32.ofInt (l5))), (6, .int (Int32.ofInt (l6))), (7, .int (Int32.ofInt (r26))), (8, .int (Int32.ofInt (l8)))]) (List.forall_mem_cons.mpr ⟨rfl, (List.forall_mem_cons.mpr ⟨rfl, (List.forall_mem_cons.mpr ⟨rfl, (List.forall_mem_cons.mpr ⟨rfl, (List.forall_mem_cons.mpr ⟨rfl, (List.forall_mem_cons.mpr ⟨rfl, (List.forall_mem_cons.mpr ⟨rfl, (List.forall_mem_cons.mpr ⟨rfl, (List.forall_mem_cons.mpr ⟨rfl, (fun _ h => nomatch h)⟩)⟩)⟩)⟩)⟩)⟩)⟩)⟩)⟩) ?_
        exact bX11_isObjectElement_349 hd hJ hT hW hP hB245 hw
def wX11_isObjectElement_245 (l1 l2 l3 l4 l5 l6 l7 l8 : Int) (S : St) (K : Int → St → Prop) : Prop := ∃ (Iv : Int → Int → Int → Int → Int → Int → Int → Int → St → Prop) (mu : Int → Int → Int → Int → Int → Int → Int → Int → St → Nat), Iv l1 l2 l3 l4 l5 l6 l7 l8 S ∧ ∀ (l1 l2 l3 l4 l5 l6 l7 l8 : Int) (S : St), Iv l1 l2 l3 l4 l5 l6 l7 l8 S → wX11_isObjectElement_245' l1 l2 l3 l4 l5 l6 l7 l8 S K  (fun ml1 ml2 ml3 ml4 ml5 ml6 ml7 ml8 T => Iv ml1 ml2 ml3 ml4 ml5 ml6 ml7 ml8 T ∧ mu ml1 ml2 ml3 ml4 ml5 ml6 ml7 ml8 T < mu l1 l2 l3 l4 l5 l6 l7 l8 S)
set_option maxRecDepth 100000 in
set_option maxHeartbeats 4000000 in
theorem bX11_isObjectElement_245 {G : xG} {sh : Nat → Option Sh} {J : St → List va_E → Prop} {d : Nat} {Post : xP} {l1 l2 l3 l4 l5 l6 l7 l8 : Int} {S : St} {cs : List va_E} {K : Int → St → Prop} (hd : 3 ≤ d) (hJ : Stb sh J) (hT : isM sh) (hW : Wd G sh mT J S cs) (hP : ∀ (v : Int) (S : St) (cs : List va_E), K v S → Wd G sh mT J S cs → Post (some (.int (Int32.ofInt v))) cs)  (hw : wX11_isObjectElement_245 l1 l2 l3 l4 l5 l6 l7 l8 S K ) : Z (RX11, cX11_isObjectElement, 10, some .boolean, false) G d Post 245 [(0, .ref (G.1 + 54)), (1, .int (Int32.ofInt (l1))), (2, .int (Int32.ofInt (l2))), (3, .int (Int32.ofInt (l3))), (4, .int (Int32.ofInt (l4))), (5, .int (Int32.ofInt (l5))), (6, .int (Int32.ofInt (l6))), (7, .int (Int32.ofInt (l7))), (8, .int (Int32.ofInt (l8)))] [] cs := by
  unfold wX11_isObjectElement_245 at hw
  obtain ⟨Iv, mu, h0, hs⟩ := hw
  have key : ∀ (n : Nat) (l1 l2 l3 l4 l5 l6 l7 l8 : Int) (S : St) (cs : List va_E), mu l1 l2 l3 l4 l5 l6 l7 l8 S < n → Iv l1 l2 l3 l4 l5 l6 l7 l8 S → Wd G sh mT J S cs → Z (RX11, cX11_isObjectElement, 10, some .boolean, false) G d Post 245 [(0, .ref (G.1 + 54)), (1, .int (Int32.ofInt (l1))), (2, .int (Int32.ofInt (l2))), (3, .int (Int32.ofInt (l3))), (4, .int (Int32.ofInt (l4))), (5, .int (Int32.ofInt (l5))), (6, .int (Int32.ofInt (l6))), (7, .int (Int32.ofInt (l7))), (8, .int (Int32.ofInt (l8)))] [] cs := by
    intro n
    induction n with
    | zero => intro l1 l2 l3 l4 l5 l6 l7 l8 S cs hn; exact absurd hn (Nat.not_lt_zero _)
    | succ n ih =>
      intro l1 l2 l3 l4 l5 l6 l7 l8 S cs hn hI hW
      exact bX11_isObjectElement_245' hd hJ hT hW hP  (fun l1 l2 l3 l4 l5 l6 l7 l8 S cs hb hW => ih l1 l2 l3 l4 l5 l6 l7 l8 S cs (Nat.lt_of_lt_of_le hb.2 (Nat.le_of_lt_succ hn)) hb.1 hW) (hs l1 l2 l3 l4 l5 l6 l7 l8 S hI)
  exact key _ _ _ _ _ _ _ _ _ _ _ (Nat.lt_succ_self _) h0 hW
def wX11_isObjectElement_214' (l1 l2 l3 l4 l5 l6 l7 : Int) (S : St) (K : Int → St → Prop) (B214 : Int → Int → Int → Int → Int → Int → Int → St → Prop) : Prop := (rng (l7) ∧ ((4 ≤ l7 → wX11_isObjectElement_245 (l1) (l2) (l3) (l4) (l5) (l6) (1) (l3) S K) ∧ ((¬ (4 ≤ l7)) → ((0 : Int) ≤ ((4 * l6) + l7) ∧ ((4 * l6) + l7) < (120 : Int) ∧ (∀ S4, S4 = pA S 103 (((4 * l6) + l7)) (0) → B214 (l1) (l2) (l3) (l4) (l5) (l6) ((l7 + 1)) S4)))))
set_option maxRecDepth 100000 in
set_option maxHeartbeats 4000000 in
theorem bX11_isObjectElement_214' {G : xG} {sh : Nat → Option Sh} {J : St → List va_E → Prop} {d : Nat} {Post : xP} {l1 l2 l3 l4 l5 l6 l7 : Int} {S : St} {cs : List va_E} {K : Int → St → Prop} {B214 : Int → Int → Int → Int → Int → Int → Int → St → Prop} (hd : 3 ≤ d) (hJ : Stb sh J) (hT : isM sh) (hW : Wd G sh mT J S cs) (hP : ∀ (v : Int) (S : St) (cs : List va_E), K v S → Wd G sh mT J S cs → Post (some (.int (Int32.ofInt v))) cs) (hB214 : ∀ (l1 : Int) (l2 : Int) (l3 : Int) (l4 : Int) (l5 : Int) (l6 : Int) (l7 : Int) (S : St) (cs : List va_E), B214 l1 l2 l3 l4 l5 l6 l7 S → Wd G sh mT J S cs → Z (RX11, cX11_isObjectElement, 10, some .boolean, false) G d Post 214 [(0, .ref (G.1 + 54)), (1, .int (Int32.ofInt (l1))), (2, .int (Int32.ofInt (l2))), (3, .int (Int32.ofInt (l3))), (4, .int (Int32.ofInt (l4))), (5, .int (Int32.ofInt (l5))), (6, .int (Int32.ofInt (l6))), (7, .int (Int32.ofInt (l7)))] [] cs) (hw : wX11_isObjectElement_214' l1 l2 l3 l4 l5 l6 l7 S K B214) : Z (RX11, cX11_isObjectElement, 10, some .boolean, false) G d Post 214 [(0, .ref (G.1 + 54)), (1, .int (Int32.ofInt (l1))), (2, .int (Int32.ofInt (l2))), (3, .int (Int32.ofInt (l3))), (4, .int (Int32.ofInt (l4))), (5, .int (Int32.ofInt (l5))), (6, .int (Int32.ofInt (l6))), (7, .int (Int32.ofInt (l7)))] [] cs := by
  unfold wX11_isObjectElement_214' at hw
  refine z_iload dX11_isObjectElement_214 rfl ?_
  refine z_iconst (v := Int32.ofInt 4) dX11_isObjectElement_216 rfl ?_
  obtain ⟨q2, hw⟩ := hw
  refine i_icmp_ge (tgt := 239) dX11_isObjectElement_217 (by decide) q2 ⟨by decide, by decide⟩ (fun h1 => ?_) (fun h1 => ?_)
  · have hw := hw.1 h1
    refine z_iconst (v := Int32.ofInt 1) dX11_isObjectElement_239 rfl ?_
    refine z_istore dX11_isObjectElement_240 (by decide) ?_
    refine z_loc (L' := [(0, .ref (G.1 + 54)), (1, .int (Int32.ofInt (l1))), (2, .int (Int32.ofInt (l2))), (3, .int (Int32.ofInt (l3))), (4, .int (Int32.ofInt (l4))), (5, .int (Int32.ofInt (l5))), (6, .int (Int32.ofInt (l6))), (7, .int (Int32.ofInt (1)))]) (List.forall_mem_cons.mpr ⟨rfl, (List.forall_mem_cons.mpr ⟨rfl, (List.forall_mem_cons.mpr ⟨rfl, (List.forall_mem_cons.mpr ⟨rfl, (List.forall_mem_cons.mpr ⟨rfl, (List.forall_mem_cons.mpr ⟨rfl, (List.forall_mem_cons.mpr ⟨rfl, (List.forall_mem_cons.mpr ⟨rfl, (fun _ h => nomatch h)⟩)⟩)⟩)⟩)⟩)⟩)⟩)⟩) ?_
    refine z_iload_n dX11_isObjectElement_242 rfl rfl ?_
    refine z_istore dX11_isObjectElement_243 (by decide) ?_
    refine z_loc (L' := [(0, .ref (G.1 + 54)), (1, .int (Int32.ofInt (l1))), (2, .int (Int32.ofInt (l2))), (3, .int (Int32.ofInt (l3))), (4, .int (Int32.ofInt (l4))), (5, .int (Int32.ofInt (l5))), (6, .int (Int32.ofInt (l6))), (7, .int (Int32.ofInt (1))), (8, .int (Int32.ofInt (l3)))]) (List.forall_mem_cons.mpr ⟨rfl, (List.forall_mem_cons.mpr ⟨rfl, (List.forall_mem_cons.mpr ⟨rfl, (List.forall_mem_cons.mpr ⟨rfl, (List.forall_mem_cons.mpr ⟨rfl, (List.forall_mem_cons.mpr ⟨rfl, (List.forall_mem_cons.mpr ⟨rfl, (List.forall_mem_cons.mpr ⟨rfl, (List.forall_mem_cons.mpr ⟨rfl, (fun _ h => nomatch h)⟩)⟩)⟩)⟩)⟩)⟩)⟩)⟩)⟩) ?_
    refine z_loc (L' := [(0, .ref (G.1 + 54)), (1, .int (Int32.ofInt (l1))), (2, .int (Int32.ofInt (l2))), (3, .int (Int32.ofInt (l3))), (4, .int (Int32.ofInt (l4))), (5, .int (Int32.ofInt (l5))), (6, .int (Int32.ofInt (l6))), (7, .int (Int32.ofInt (1))), (8, .int (Int32.ofInt (l3)))]) (List.forall_mem_cons.mpr ⟨rfl, (List.forall_mem_cons.mpr ⟨rfl, (List.forall_mem_cons.mpr ⟨rfl, (List.forall_mem_cons.mpr ⟨rfl, (List.forall_mem_cons.mpr ⟨rfl, (List.forall_mem_cons.mpr ⟨rfl, (List.forall_mem_cons.mpr ⟨rfl, (List.forall_mem_cons.mpr ⟨rfl, (List.forall_mem_cons.mpr ⟨rfl, (fun _ h => nomatch h)⟩)⟩)⟩)⟩)⟩)⟩)⟩)⟩)⟩) ?_
    exact bX11_isObjectElement_245 hd hJ hT hW hP  hw
  · have hw := hw.2 h1
    refine z_aload_n dX11_isObjectElement_220 rfl rfl ?_
    refine g_getR hW hT.1 mr66 kX11 fX11_159 dX11_isObjectElement_221 ?_
    refine z_iconst (v := Int32.ofInt 4) dX11_isObjectElement_224 rfl ?_
    refine z_iload dX11_isObjectElement_225 rfl ?_
    refine i_imul dX11_isObjectElement_227 ?_
    refine z_iload dX11_isObjectElement_228 rfl ?_
    refine i_iadd dX11_isObjectElement_230 ?_
    refine z_iconst (v := Int32.ofInt 0) dX11_isObjectElement_231 rfl ?_
    obtain ⟨q3a, q3b, hw⟩ := hw
    refine g_iast hJ hW (ma103 hT) q3a q3b (by decide) ⟨by decide, by decide⟩ dX11_isObjectElement_232 (fun cs hW => ?_)
    obtain ⟨S4, hS4⟩ : ∃ x, x = pA S 103 (((4 * l6) + l7)) (0) := ⟨_, rfl⟩
    rw [← hS4] at hW
    have hw := hw S4 hS4
    refine i_iinc (l := l7) dX11_isObjectElement_233 rfl (by decide) ?_
    refine z_loc (L' := [(0, .ref (G.1 + 54)), (1, .int (Int32.ofInt (l1))), (2, .int (Int32.ofInt (l2))), (3, .int (Int32.ofInt (l3))), (4, .int (Int32.ofInt (l4))), (5, .int (Int32.ofInt (l5))), (6, .int (Int32.ofInt (l6))), (7, .int (Int32.ofInt ((l7 + 1))))]) (List.forall_mem_cons.mpr ⟨rfl, (List.forall_mem_cons.mpr ⟨rfl, (List.forall_mem_cons.mpr ⟨rfl, (List.forall_mem_cons.mpr ⟨rfl, (List.forall_mem_cons.mpr ⟨rfl, (List.forall_mem_cons.mpr ⟨rfl, (List.forall_mem_cons.mpr ⟨rfl, (List.forall_mem_cons.mpr ⟨rfl, (fun _ h => nomatch h)⟩)⟩)⟩)⟩)⟩)⟩)⟩)⟩) ?_
    refine z_goto (tgt := 214) dX11_isObjectElement_236 (by decide) ?_
    refine z_loc (L' := [(0, .ref (G.1 + 54)), (1, .int (Int32.ofInt (l1))), (2, .int (Int32.ofInt (l2))), (3, .int (Int32.ofInt (l3))), (4, .int (Int32.ofInt (l4))), (5, .int (Int32.ofInt (l5))), (6, .int (Int32.ofInt (l6))), (7, .int (Int32.ofInt ((l7 + 1))))]) (List.forall_mem_cons.mpr ⟨rfl, (List.forall_mem_cons.mpr ⟨rfl, (List.forall_mem_cons.mpr ⟨rfl, (List.forall_mem_cons.mpr ⟨rfl, (List.forall_mem_cons.mpr ⟨rfl, (List.forall_mem_cons.mpr ⟨rfl, (List.forall_mem_cons.mpr ⟨rfl, (List.forall_mem_cons.mpr ⟨rfl, (fun _ h => nomatch h)⟩)⟩)⟩)⟩)⟩)⟩)⟩)⟩) ?_
    exact hB214 _ _ _ _ _ _ _ _ _ hw hW
def wX11_isObjectElement_214 (l1 l2 l3 l4 l5 l6 l7 : Int) (S : St) (K : Int → St → Prop) : Prop := ∃ (Iv : Int → Int → Int → Int → Int → Int → Int → St → Prop) (mu : Int → Int → Int → Int → Int → Int → Int → St → Nat), Iv l1 l2 l3 l4 l5 l6 l7 S ∧ ∀ (l1 l2 l3 l4 l5 l6 l7 : Int) (S : St), Iv l1 l2 l3 l4 l5 l6 l7 S → wX11_isObjectElement_214' l1 l2 l3 l4 l5 l6 l7 S K  (fun ml1 ml2 ml3 ml4 ml5 ml6 ml7 T => Iv ml1 ml2 ml3 ml4 ml5 ml6 ml7 T ∧ mu ml1 ml2 ml3 ml4 ml5 ml6 ml7 T < mu l1 l2 l3 l4 l5 l6 l7 S)
set_option maxRecDepth 100000 in
set_option maxHeartbeats 4000000 in
theorem bX11_isObjectElement_214 {G : xG} {sh : Nat → Option Sh} {J : St → List va_E → Prop} {d : Nat} {Post : xP} {l1 l2 l3 l4 l5 l6 l7 : Int} {S : St} {cs : List va_E} {K : Int → St → Prop} (hd : 3 ≤ d) (hJ : Stb sh J) (hT : isM sh) (hW : Wd G sh mT J S cs) (hP : ∀ (v : Int) (S : St) (cs : List va_E), K v S → Wd G sh mT J S cs → Post (some (.int (Int32.ofInt v))) cs)  (hw : wX11_isObjectElement_214 l1 l2 l3 l4 l5 l6 l7 S K ) : Z (RX11, cX11_isObjectElement, 10, some .boolean, false) G d Post 214 [(0, .ref (G.1 + 54)), (1, .int (Int32.ofInt (l1))), (2, .int (Int32.ofInt (l2))), (3, .int (Int32.ofInt (l3))), (4, .int (Int32.ofInt (l4))), (5, .int (Int32.ofInt (l5))), (6, .int (Int32.ofInt (l6))), (7, .int (Int32.ofInt (l7)))] [] cs := by
  unfold wX11_isObjectElement_214 at hw
  obtain ⟨Iv, mu, h0, hs⟩ := hw
  have key : ∀ (n : Nat) (l1 l2 l3 l4 l5 l6 l7 : Int) (S : St) (cs : List va_E), mu l1 l2 l3 l4 l5 l6 l7 S < n → Iv l1 l2 l3 l4 l5 l6 l7 S → Wd G sh mT J S cs → Z (RX11, cX11_isObjectElement, 10, some .boolean, false) G d Post 214 [(0, .ref (G.1 + 54)), (1, .int (Int32.ofInt (l1))), (2, .int (Int32.ofInt (l2))), (3, .int (Int32.ofInt (l3))), (4, .int (Int32.ofInt (l4))), (5, .int (Int32.ofInt (l5))), (6, .int (Int32.ofInt (l6))), (7, .int (Int32.ofInt (l7)))] [] cs := by
    intro n
    induction n with
    | zero => intro l1 l2 l3 l4 l5 l6 l7 S cs hn; exact absurd hn (Nat.not_lt_zero _)
    | succ n ih =>
      intro l1 l2 l3 l4 l5 l6 l7 S cs hn hI hW
      exact bX11_isObjectElement_214' hd hJ hT hW hP  (fun l1 l2 l3 l4 l5 l6 l7 S cs hb hW => ih l1 l2 l3 l4 l5 l6 l7 S cs (Nat.lt_of_lt_of_le hb.2 (Nat.le_of_lt_succ hn)) hb.1 hW) (hs l1 l2 l3 l4 l5 l6 l7 S hI)
  exact key _ _ _ _ _ _ _ _ _ _ (Nat.lt_succ_self _) h0 hW
def wX11_isObjectElement_156 (l1 l2 l3 l4 l5 : Int) (S : St) (K : Int → St → Prop) : Prop := (rng (l5) ∧ ((l5 = (-2) → K (0) S) ∧ ((¬ (l5 = (-2))) → ((0 : Int) ≤ 2 ∧ 2 < (3 : Int) ∧ (iv 0 30 (S.2 67 (2)) → ((S.2 67 (2) = 30 → K (0) S) ∧ ((¬ (S.2 67 (2) = 30)) → (rng (l1) ∧ (wX11_isBlankWithin (l1) S (fun r7 S8 => (rng (r7) ∧ ((¬ r7 = 0 → (wX11_object (2) (l5) S8 (fun r11 S12 => (∀ x13 : Int, x13 = (r11 - 60) → ((0 : Int) ≤ l1 ∧ l1 < (200 : Int) ∧ (∀ S15, S15 = pA S12 98 (l1) (4) → ((0 : Int) ≤ l1 ∧ l1 < (200 : Int) ∧ (iv 0 29 (x13) ∧ (∀ S17, S17 = pA S15 99 (l1) (x13) → wX11_isObjectElement_214 (l1) (l2) (l3) (l4) (l5) (x13) (0) S17 K))))))))) ∧ ((¬ (¬ r7 = 0)) → K (0) S8)))))))))))))
set_option maxRecDepth 100000 in
set_option maxHeartbeats 4000000 in
theorem bX11_isObjectElement_156 {G : xG} {sh : Nat → Option Sh} {J : St → List va_E → Prop} {d : Nat} {Post : xP} {l1 l2 l3 l4 l5 : Int} {S : St} {cs : List va_E} {K : Int → St → Prop} (hd : 3 ≤ d) (hJ : Stb sh J) (hT : isM sh) (hW : Wd G sh mT J S cs) (hP : ∀ (v : Int) (S : St) (cs : List va_E), K v S → Wd G sh mT J S cs → Post (some (.int (Int32.ofInt v))) cs)  (hw : wX11_isObjectElement_156 l1 l2 l3 l4 l5 S K ) : Z (RX11, cX11_isObjectElement, 10, some .boolean, false) G d Post 156 [(0, .ref (G.1 + 54)), (1, .int (Int32.ofInt (l1))), (2, .int (Int32.ofInt (l2))), (3, .int (Int32.ofInt (l3))), (4, .int (Int32.ofInt (l4))), (5, .int (Int32.ofInt (l5)))] [] cs := by
  unfold wX11_isObjectElement_156 at hw
  refine z_iload dX11_isObjectElement_156 rfl ?_
  refine z_bipush (v := Int32.ofInt (-2)) dX11_isObjectElement_158 (by decide) ?_
  obtain ⟨q2, hw⟩ := hw
  refine i_icmp_eq (tgt := 182) dX11_isObjectElement_160 (by decide) q2 ⟨by decide, by decide⟩ (fun h1 => ?_) (fun h1 => ?_)
  · have hw := hw.1 h1
    refine z_iconst (v := Int32.ofInt 0) dX11_isObjectElement_182 rfl ?_
    exact z_ireturn dX11_isObjectElement_183 rfl (nar01 (by decide)) (hP _ _ _ hw hW)
  · have hw := hw.2 h1
    refine z_aload_n dX11_isObjectElement_163 rfl rfl ?_
    refine g_getR hW hT.1 mr14 kX11 fX11_47 dX11_isObjectElement_164 ?_
    refine z_iconst (v := Int32.ofInt 2) dX11_isObjectElement_167 rfl ?_
    obtain ⟨q3a, q3b, hw⟩ := hw
    have q4 : iv 0 30 (S.2 67 (2)) := mA67 hW _
    have hw := hw q4
    refine g_iald hW (ma67 hT) q3a q3b (by decide) dX11_isObjectElement_168 ?_
    refine z_bipush (v := Int32.ofInt 30) dX11_isObjectElement_169 (by decide) ?_
    refine i_icmp_eq (tgt := 182) dX11_isObjectElement_171 (by decide) (rngq q4 (by decide) (by decide)) ⟨by decide, by decide⟩ (fun h5 => ?_) (fun h5 => ?_)
    · have hw := hw.1 h5
      refine z_iconst (v := Int32.ofInt 0) dX11_isObjectElement_182 rfl ?_
      exact z_ireturn dX11_isObjectElement_183 rfl (nar01 (by decide)) (hP _ _ _ hw hW)
    · have hw := hw.2 h5
      refine z_aload_n dX11_isObjectElement_174 rfl rfl ?_
      refine z_iload_n dX11_isObjectElement_175 rfl rfl ?_
      obtain ⟨q6, hw⟩ := hw
      have hX := lX11_isBlankWithin 1 (Nat.le_refl _) hJ hT hW q6 hw
      refine z_callV (As := [_]) eX11_isBlankWithin sX11_isBlankWithin lX11_444 rfl dX11_isObjectElement_176 (hW.1 _ _ hT.1) hX (Nat.le_trans (by decide) hd) rfl (Nat.le_of_ble_eq_true rfl) (fun r cs hp => ?_)
      obtain ⟨r7, S8, rfl, hw, hW⟩ := hp
      refine z_st (st' := [.int (Int32.ofInt (r7))]) rfl ?_
      obtain ⟨q10, hw⟩ := hw
      refine i_if_ne (tgt := 184) dX11_isObjectElement_179 (by decide) q10 (fun h9 => ?_) (fun h9 => ?_)
      · have hw := hw.1 h9
        refine z_aload_n dX11_isObjectElement_184 rfl rfl ?_
        refine z_iconst (v := Int32.ofInt 2) dX11_isObjectElement_185 rfl ?_
        refine z_iload dX11_isObjectElement_186 rfl ?_
        have hX := lX11_object 0 (Nat.le_refl _) hJ hT hW ⟨by decide, by decide⟩ q2 hw
        refine z_callV (As := [_, _]) eX11_object sX11_object lX11_250 rfl dX11_isObjectElement_188 (hW.1 _ _ hT.1) hX (Nat.le_trans (by decide) hd) rfl (Nat.le_of_ble_eq_true rfl) (fun r cs hp => ?_)
        obtain ⟨r11, S12, rfl, hw, hW⟩ := hp
        refine z_st (st' := [.int (Int32.ofInt (r11))]) rfl ?_
        refine z_bipush (v := Int32.ofInt 60) dX11_isObjectElement_191 (by decide) ?_
        refine i_isub dX11_isObjectElement_193 ?_
        obtain ⟨x13, hx13⟩ : ∃ x : Int, x = (r11 - 60) := ⟨_, rfl⟩
        have hw := hw x13 hx13
        refine z_st (st' := [.int (Int32.ofInt x13)]) (by rw [hx13]) ?_
        refine z_istore dX11_isObjectElement_194 (by decide) ?_
        refine z_loc (L' := [(0, .ref (G.1 + 54)), (1, .int (Int32.ofInt (l1))), (2, .int (Int32.ofInt (l2))), (3, .int (Int32.ofInt (l3))), (4, .int (Int32.ofInt (l4))), (5, .int (Int32.ofInt (l5))), (6, .int (Int32.ofInt (x13)))]) (List.forall_mem_cons.mpr ⟨rfl, (List.forall_mem_cons.mpr ⟨rfl, (List.forall_mem_cons.mpr ⟨rfl, (List.forall_mem_cons.mpr ⟨rfl, (List.forall_mem_cons.mpr ⟨rfl, (List.forall_mem_cons.mpr ⟨rfl, (List.forall_mem_cons.mpr ⟨rfl, (fun _ h => nomatch h)⟩)⟩)⟩)⟩)⟩)⟩)⟩) ?_
        refine z_aload_n dX11_isObjectElement_196 rfl rfl ?_
        refine g_getR hW hT.1 mr61 kX11 fX11_144 dX11_isObjectElement_197 ?_
        refine z_iload_n dX11_isObjectElement_200 rfl rfl ?_
        refine z_iconst (v := Int32.ofInt 4) dX11_isObjectElement_201 rfl ?_
        obtain ⟨q14a, q14b, hw⟩ := hw
        refine g_iast hJ hW (ma98 hT) q14a q14b (by decide) ⟨by decide, by decide⟩ dX11_isObjectElement_202 (fun cs hW => ?_)
        obtain ⟨S15, hS15⟩ : ∃ x, x = pA S12 98 (l1) (4) := ⟨_, rfl⟩
        rw [← hS15] at hW
        have hw := hw S15 hS15
        refine z_aload_n dX11_isObjectElement_203 rfl rfl ?_
        refine g_getR hW hT.1 mr62 kX11 fX11_147 dX11_isObjectElement_204 ?_
        refine z_iload_n dX11_isObjectElement_207 rfl rfl ?_
        refine z_iload dX11_isObjectElement_208 rfl ?_
        obtain ⟨q16a, q16b, hw⟩ := hw
        obtain ⟨q18, hw⟩ := hw
        refine g_iast hJ hW (ma99 hT) q16a q16b (by decide) q18 dX11_isObjectElement_210 (fun cs hW => ?_)
        obtain ⟨S17, hS17⟩ : ∃ x, x = pA S15 99 (l1) (x13) := ⟨_, rfl⟩
        rw [← hS17] at hW
        have hw := hw S17 hS17
        refine z_iconst (v := Int32.ofInt 0) dX11_isObjectElement_211 rfl ?_
        refine z_istore dX11_isObjectElement_212 (by decide) ?_
        refine z_loc (L' := [(0, .ref (G.1 + 54)), (1, .int (Int32.ofInt (l1))), (2, .int (Int32.ofInt (l2))), (3, .int (Int32.ofInt (l3))), (4, .int (Int32.ofInt (l4))), (5, .int (Int32.ofInt (l5))), (6, .int (Int32.ofInt (x13))), (7, .int (Int32.ofInt (0)))]) (List.forall_mem_cons.mpr ⟨rfl, (List.forall_mem_cons.mpr ⟨rfl, (List.forall_mem_cons.mpr ⟨rfl, (List.forall_mem_cons.mpr ⟨rfl, (List.forall_mem_cons.mpr ⟨rfl, (List.forall_mem_cons.mpr ⟨rfl, (List.forall_mem_cons.mpr ⟨rfl, (List.forall_mem_cons.mpr ⟨rfl, (fun _ h => nomatch h)⟩)⟩)⟩)⟩)⟩)⟩)⟩)⟩) ?_
        refine z_loc (L' := [(0, .ref (G.1 + 54)), (1, .int (Int32.ofInt (l1))), (2, .int (Int32.ofInt (l2))), (3, .int (Int32.ofInt (l3))), (4, .int (Int32.ofInt (l4))), (5, .int (Int32.ofInt (l5))), (6, .int (Int32.ofInt (x13))), (7, .int (Int32.ofInt (0)))]) (List.forall_mem_cons.mpr ⟨rfl, (List.forall_mem_cons.mpr ⟨rfl, (List.forall_mem_cons.mpr ⟨rfl, (List.forall_mem_cons.mpr ⟨rfl, (List.forall_mem_cons.mpr ⟨rfl, (List.forall_mem_cons.mpr ⟨rfl, (List.forall_mem_cons.mpr ⟨rfl, (List.forall_mem_cons.mpr ⟨rfl, (fun _ h => nomatch h)⟩)⟩)⟩)⟩)⟩)⟩)⟩)⟩) ?_
        exact bX11_isObjectElement_214 hd hJ hT hW hP  hw
      · have hw := hw.2 h9
        refine z_iconst (v := Int32.ofInt 0) dX11_isObjectElement_182 rfl ?_
        exact z_ireturn dX11_isObjectElement_183 rfl (nar01 (by decide)) (hP _ _ _ hw hW)
def wX11_isObjectElement_148 (l1 l2 l3 l4 l6 s0 : Int) (S : St) (K : Int → St → Prop) (B114 : Int → Int → Int → Int → Int → Int → St → Prop) : Prop := B114 (l1) (l2) (l3) (l4) (s0) ((l6 + 1)) S
set_option maxRecDepth 100000 in
set_option maxHeartbeats 4000000 in
theorem bX11_isObjectElement_148 {G : xG} {sh : Nat → Option Sh} {J : St → List va_E → Prop} {d : Nat} {Post : xP} {l1 l2 l3 l4 l6 s0 : Int} {S : St} {cs : List va_E} {K : Int → St → Prop} {B114 : Int → Int → Int → Int → Int → Int → St → Prop} (hd : 3 ≤ d) (hJ : Stb sh J) (hT : isM sh) (hW : Wd G sh mT J S cs) (hP : ∀ (v : Int) (S : St) (cs : List va_E), K v S → Wd G sh mT J S cs → Post (some (.int (Int32.ofInt v))) cs) (hB114 : ∀ (l1 : Int) (l2 : Int) (l3 : Int) (l4 : Int) (l5 : Int) (l6 : Int) (S : St) (cs : List va_E), B114 l1 l2 l3 l4 l5 l6 S → Wd G sh mT J S cs → Z (RX11, cX11_isObjectElement, 10, some .boolean, false) G d Post 114 [(0, .ref (G.1 + 54)), (1, .int (Int32.ofInt (l1))), (2, .int (Int32.ofInt (l2))), (3, .int (Int32.ofInt (l3))), (4, .int (Int32.ofInt (l4))), (5, .int (Int32.ofInt (l5))), (6, .int (Int32.ofInt (l6)))] [] cs) (hw : wX11_isObjectElement_148 l1 l2 l3 l4 l6 s0 S K B114) : Z (RX11, cX11_isObjectElement, 10, some .boolean, false) G d Post 148 [(0, .ref (G.1 + 54)), (1, .int (Int32.ofInt (l1))), (2, .int (Int32.ofInt (l2))), (3, .int (Int32.ofInt (l3))), (4, .int (Int32.ofInt (l4))), (6, .int (Int32.ofInt (l6)))] [.int (Int32.ofInt (s0))] cs := by
  unfold wX11_isObjectElement_148 at hw
  refine z_istore dX11_isObjectElement_148 (by decide) ?_
  refine z_loc (L' := [(0, .ref (G.1 + 54)), (1, .int (Int32.ofInt (l1))), (2, .int (Int32.ofInt (l2))), (3, .int (Int32.ofInt (l3))), (4, .int (Int32.ofInt (l4))), (5, .int (Int32.ofInt (s0))), (6, .int (Int32.ofInt (l6)))]) (List.forall_mem_cons.mpr ⟨rfl, (List.forall_mem_cons.mpr ⟨rfl, (List.forall_mem_cons.mpr ⟨rfl, (List.forall_mem_cons.mpr ⟨rfl, (List.forall_mem_cons.mpr ⟨rfl, (List.forall_mem_cons.mpr ⟨rfl, (List.forall_mem_cons.mpr ⟨rfl, (fun _ h => nomatch h)⟩)⟩)⟩)⟩)⟩)⟩)⟩) ?_
  refine i_iinc (l := l6) dX11_isObjectElement_150 rfl (by decide) ?_
  refine z_loc (L' := [(0, .ref (G.1 + 54)), (1, .int (Int32.ofInt (l1))), (2, .int (Int32.ofInt (l2))), (3, .int (Int32.ofInt (l3))), (4, .int (Int32.ofInt (l4))), (5, .int (Int32.ofInt (s0))), (6, .int (Int32.ofInt ((l6 + 1))))]) (List.forall_mem_cons.mpr ⟨rfl, (List.forall_mem_cons.mpr ⟨rfl, (List.forall_mem_cons.mpr ⟨rfl, (List.forall_mem_cons.mpr ⟨rfl, (List.forall_mem_cons.mpr ⟨rfl, (List.forall_mem_cons.mpr ⟨rfl, (List.forall_mem_cons.mpr ⟨rfl, (fun _ h => nomatch h)⟩)⟩)⟩)⟩)⟩)⟩)⟩) ?_
  refine z_goto (tgt := 114) dX11_isObjectElement_153 (by decide) ?_
  refine z_loc (L' := [(0, .ref (G.1 + 54)), (1, .int (Int32.ofInt (l1))), (2, .int (Int32.ofInt (l2))), (3, .int (Int32.ofInt (l3))), (4, .int (Int32.ofInt (l4))), (5, .int (Int32.ofInt (s0))), (6, .int (Int32.ofInt ((l6 + 1))))]) (List.forall_mem_cons.mpr ⟨rfl, (List.forall_mem_cons.mpr ⟨rfl, (List.forall_mem_cons.mpr ⟨rfl, (List.forall_mem_cons.mpr ⟨rfl, (List.forall_mem_cons.mpr ⟨rfl, (List.forall_mem_cons.mpr ⟨rfl, (List.forall_mem_cons.mpr ⟨rfl, (fun _ h => nomatch h)⟩)⟩)⟩)⟩)⟩)⟩)⟩) ?_
  exact hB114 _ _ _ _ _ _ _ _ hw hW
def wX11_isObjectElement_114' (l1 l2 l3 l4 l5 l6 : Int) (S : St) (K : Int → St → Prop) (B114 : Int → Int → Int → Int → Int → Int → St → Prop) : Prop := (rng (l6) ∧ (rng ((l3 + l4)) ∧ (((l3 + l4) ≤ l6 → wX11_isObjectElement_156 (l1) (l2) (l3) (l4) (l5) S K) ∧ ((¬ ((l3 + l4) ≤ l6)) → (rng (l2) ∧ ((l2 = 0 → wX11_isObjectElement_156 (l1) (l2) (l3) (l4) (l5) S K) ∧ ((¬ (l2 = 0)) → (wX11_isKey (l6) (0) S (fun r6 S7 => (rng (r6) ∧ ((r6 = 0 → wX11_isObjectElement_148 (l1) (l2) (l3) (l4) (l6) (l5) S7 K B114) ∧ ((¬ (r6 = 0)) → (wX11_classOfValue (l6) S7 (fun r10 S11 => wX11_isObjectElement_148 (l1) (l2) (l3) (l4) (l6) (r10) S11 K B114))))))))))))))
set_option maxRecDepth 100000 in
set_option maxHeartbeats 4000000 in
theorem bX11_isObjectElement_114' {G : xG} {sh : Nat → Option Sh} {J : St → List va_E → Prop} {d : Nat} {Post : xP} {l1 l2 l3 l4 l5 l6 : Int} {S : St} {cs : List va_E} {K : Int → St → Prop} {B114 : Int → Int → Int → Int → Int → Int → St → Prop} (hd : 3 ≤ d) (hJ : Stb sh J) (hT : isM sh) (hW : Wd G sh mT J S cs) (hP : ∀ (v : Int) (S : St) (cs : List va_E), K v S → Wd G sh mT J S cs → Post (some (.int (Int32.ofInt v))) cs) (hB114 : ∀ (l1 : Int) (l2 : Int) (l3 : Int) (l4 : Int) (l5 : Int) (l6 : Int) (S : St) (cs : List va_E), B114 l1 l2 l3 l4 l5 l6 S → Wd G sh mT J S cs → Z (RX11, cX11_isObjectElement, 10, some .boolean, false) G d Post 114 [(0, .ref (G.1 + 54)), (1, .int (Int32.ofInt (l1))), (2, .int (Int32.ofInt (l2))), (3, .int (Int32.ofInt (l3))), (4, .int (Int32.ofInt (l4))), (5, .int (Int32.ofInt (l5))), (6, .int (Int32.ofInt (l6)))] [] cs) (hw : wX11_isObjectElement_114' l1 l2 l3 l4 l5 l6 S K B114) : Z (RX11, cX11_isObjectElement, 10, some .boolean, false) G d Post 114 [(0, .ref (G.1 + 54)), (1, .int (Int32.ofInt (l1))), (2, .int (Int32.ofInt (l2))), (3, .int (Int32.ofInt (l3))), (4, .int (Int32.ofInt (l4))), (5, .int (Int32.ofInt (l5))), (6, .int (Int32.ofInt (l6)))] [] cs := by
  unfold wX11_isObjectElement_114' at hw
  refine z_iload dX11_isObjectElement_114 rfl ?_
  refine z_iload_n dX11_isObjectElement_116 rfl rfl ?_
  refine z_iload dX11_isObjectElement_117 rfl ?_
  refine i_iadd dX11_isObjectElement_119 ?_
  obtain ⟨q2, hw⟩ := hw
  obtain ⟨q3, hw⟩ := hw
  refine i_icmp_ge (tgt := 156) dX11_isObjectElement_120 (by decide) q2 q3 (fun h1 => ?_) (fun h1 => ?_)
  · have hw := hw.1 h1
    refine z_loc (L' := [(0, .ref (G.1 + 54)), (1, .int (Int32.ofInt (l1))), (2, .int (Int32.ofInt (l2))), (3, .int (Int32.ofInt (l3))), (4, .int (Int32.ofInt (l4))), (5, .int (Int32.ofInt (l5)))]) (List.forall_mem_cons.mpr ⟨rfl, (List.forall_mem_cons.mpr ⟨rfl, (List.forall_mem_cons.mpr ⟨rfl, (List.forall_mem_cons.mpr ⟨rfl, (List.forall_mem_cons.mpr ⟨rfl, (List.forall_mem_cons.mpr ⟨rfl, (fun _ h => nomatch h)⟩)⟩)⟩)⟩)⟩)⟩) ?_
    exact bX11_isObjectElement_156 hd hJ hT hW hP  hw
  · have hw := hw.2 h1
    refine z_iload_n dX11_isObjectElement_123 rfl rfl ?_
    obtain ⟨q5, hw⟩ := hw
    refine i_if_eq (tgt := 156) dX11_isObjectElement_124 (by decide) q5 (fun h4 => ?_) (fun h4 => ?_)
    · have hw := hw.1 h4
      refine z_loc (L' := [(0, .ref (G.1 + 54)), (1, .int (Int32.ofInt (l1))), (2, .int (Int32.ofInt (l2))), (3, .int (Int32.ofInt (l3))), (4, .int (Int32.ofInt (l4))), (5, .int (Int32.ofInt (l5)))]) (List.forall_mem_cons.mpr ⟨rfl, (List.forall_mem_cons.mpr ⟨rfl, (List.forall_mem_cons.mpr ⟨rfl, (List.forall_mem_cons.mpr ⟨rfl, (List.forall_mem_cons.mpr ⟨rfl, (List.forall_mem_cons.mpr ⟨rfl, (fun _ h => nomatch h)⟩)⟩)⟩)⟩)⟩)⟩) ?_
      exact bX11_isObjectElement_156 hd hJ hT hW hP  hw
    · have hw := hw.2 h4
      refine z_aload_n dX11_isObjectElement_127 rfl rfl ?_
      refine z_iload dX11_isObjectElement_128 rfl ?_
      refine z_iconst (v := Int32.ofInt 0) dX11_isObjectElement_130 rfl ?_
      have hX := lX11_isKey 1 (Nat.le_refl _) hJ hT hW q2 ⟨by decide, by decide⟩ hw
      refine z_callV (As := [_, _]) eX11_isKey sX11_isKey lX11_429 rfl dX11_isObjectElement_131 (hW.1 _ _ hT.1) hX (Nat.le_trans (by decide) hd) rfl (Nat.le_of_ble_eq_true rfl) (fun r cs hp => ?_)
      obtain ⟨r6, S7, rfl, hw, hW⟩ := hp
      refine z_st (st' := [.int (Int32.ofInt (r6))]) rfl ?_
      obtain ⟨q9, hw⟩ := hw
      refine i_if_eq (tgt := 146) dX11_isObjectElement_134 (by decide) q9 (fun h8 => ?_) (fun h8 => ?_)
      · have hw := hw.1 h8
        refine z_iload dX11_isObjectElement_146 rfl ?_
        refine z_loc (L' := [(0, .ref (G.1 + 54)), (1, .int (Int32.ofInt (l1))), (2, .int (Int32.ofInt (l2))), (3, .int (Int32.ofInt (l3))), (4, .int (Int32.ofInt (l4))), (6, .int (Int32.ofInt (l6)))]) (List.forall_mem_cons.mpr ⟨rfl, (List.forall_mem_cons.mpr ⟨rfl, (List.forall_mem_cons.mpr ⟨rfl, (List.forall_mem_cons.mpr ⟨rfl, (List.forall_mem_cons.mpr ⟨rfl, (List.forall_mem_cons.mpr ⟨rfl, (fun _ h => nomatch h)⟩)⟩)⟩)⟩)⟩)⟩) ?_
        exact bX11_isObjectElement_148 hd hJ hT hW hP hB114 hw
      · have hw := hw.2 h8
        refine z_aload_n dX11_isObjectElement_137 rfl rfl ?_
        refine z_iload dX11_isObjectElement_138 rfl ?_
        have hX := lX11_classOfValue 1 (Nat.le_refl _) hJ hT hW q2 hw
        refine z_callV (As := [_]) eX11_classOfValue sX11_classOfValue lX11_441 rfl dX11_isObjectElement_140 (hW.1 _ _ hT.1) hX (Nat.le_trans (by decide) hd) rfl (Nat.le_of_ble_eq_true rfl) (fun r cs hp => ?_)
        obtain ⟨r10, S11, rfl, hw, hW⟩ := hp
        refine z_st (st' := [.int (Int32.ofInt (r10))]) rfl ?_
        refine z_goto (tgt := 148) dX11_isObjectElement_143 (by decide) ?_
        refine z_loc (L' := [(0, .ref (G.1 + 54)), (1, .int (Int32.ofInt (l1))), (2, .int (Int32.ofInt (l2))), (3, .int (Int32.ofInt (l3))), (4, .int (Int32.ofInt (l4))), (6, .int (Int32.ofInt (l6)))]) (List.forall_mem_cons.mpr ⟨rfl, (List.forall_mem_cons.mpr ⟨rfl, (List.forall_mem_cons.mpr ⟨rfl, (List.forall_mem_cons.mpr ⟨rfl, (List.forall_mem_cons.mpr ⟨rfl, (List.forall_mem_cons.mpr ⟨rfl, (fun _ h => nomatch h)⟩)⟩)⟩)⟩)⟩)⟩) ?_
        exact bX11_isObjectElement_148 hd hJ hT hW hP hB114 hw
def wX11_isObjectElement_114 (l1 l2 l3 l4 l5 l6 : Int) (S : St) (K : Int → St → Prop) : Prop := ∃ (Iv : Int → Int → Int → Int → Int → Int → St → Prop) (mu : Int → Int → Int → Int → Int → Int → St → Nat), Iv l1 l2 l3 l4 l5 l6 S ∧ ∀ (l1 l2 l3 l4 l5 l6 : Int) (S : St), Iv l1 l2 l3 l4 l5 l6 S → wX11_isObjectElement_114' l1 l2 l3 l4 l5 l6 S K  (fun ml1 ml2 ml3 ml4 ml5 ml6 T => Iv ml1 ml2 ml3 ml4 ml5 ml6 T ∧ mu ml1 ml2 ml3 ml4 ml5 ml6 T < mu l1 l2 l3 l4 l5 l6 S)
set_option maxRecDepth 100000 in
set_option maxHeartbeats 4000000 in
theorem bX11_isObjectElement_114 {G : xG} {sh : Nat → Option Sh} {J : St → List va_E → Prop} {d : Nat} {Post : xP} {l1 l2 l3 l4 l5 l6 : Int} {S : St} {cs : List va_E} {K : Int → St → Prop} (hd : 3 ≤ d) (hJ : Stb sh J) (hT : isM sh) (hW : Wd G sh mT J S cs) (hP : ∀ (v : Int) (S : St) (cs : List va_E), K v S → Wd G sh mT J S cs → Post (some (.int (Int32.ofInt v))) cs)  (hw : wX11_isObjectElement_114 l1 l2 l3 l4 l5 l6 S K ) : Z (RX11, cX11_isObjectElement, 10, some .boolean, false) G d Post 114 [(0, .ref (G.1 + 54)), (1, .int (Int32.ofInt (l1))), (2, .int (Int32.ofInt (l2))), (3, .int (Int32.ofInt (l3))), (4, .int (Int32.ofInt (l4))), (5, .int (Int32.ofInt (l5))), (6, .int (Int32.ofInt (l6)))] [] cs := by
  unfold wX11_isObjectElement_114 at hw
  obtain ⟨Iv, mu, h0, hs⟩ := hw
  have key : ∀ (n : Nat) (l1 l2 l3 l4 l5 l6 : Int) (S : St) (cs : List va_E), mu l1 l2 l3 l4 l5 l6 S < n → Iv l1 l2 l3 l4 l5 l6 S → Wd G sh mT J S cs → Z (RX11, cX11_isObjectElement, 10, some .boolean, false) G d Post 114 [(0, .ref (G.1 + 54)), (1, .int (Int32.ofInt (l1))), (2, .int (Int32.ofInt (l2))), (3, .int (Int32.ofInt (l3))), (4, .int (Int32.ofInt (l4))), (5, .int (Int32.ofInt (l5))), (6, .int (Int32.ofInt (l6)))] [] cs := by
    intro n
    induction n with
    | zero => intro l1 l2 l3 l4 l5 l6 S cs hn; exact absurd hn (Nat.not_lt_zero _)
    | succ n ih =>
      intro l1 l2 l3 l4 l5 l6 S cs hn hI hW
      exact bX11_isObjectElement_114' hd hJ hT hW hP  (fun l1 l2 l3 l4 l5 l6 S cs hb hW => ih l1 l2 l3 l4 l5 l6 S cs (Nat.lt_of_lt_of_le hb.2 (Nat.le_of_lt_succ hn)) hb.1 hW) (hs l1 l2 l3 l4 l5 l6 S hI)
  exact key _ _ _ _ _ _ _ _ _ (Nat.lt_succ_self _) h0 hW
def wX11_isObjectElement_109 (l1 l2 l3 l4 s0 : Int) (S : St) (K : Int → St → Prop) : Prop := wX11_isObjectElement_114 (l1) (l2) (l3) (l4) (s0) (l3) S K
set_option maxRecDepth 100000 in
set_option maxHeartbeats 4000000 in
theorem bX11_isObjectElement_109 {G : xG} {sh : Nat → Option Sh} {J : St → List va_E → Prop} {d : Nat} {Post : xP} {l1 l2 l3 l4 s0 : Int} {S : St} {cs : List va_E} {K : Int → St → Prop} (hd : 3 ≤ d) (hJ : Stb sh J) (hT : isM sh) (hW : Wd G sh mT J S cs) (hP : ∀ (v : Int) (S : St) (cs : List va_E), K v S → Wd G sh mT J S cs → Post (some (.int (Int32.ofInt v))) cs)  (hw : wX11_isObjectElement_109 l1 l2 l3 l4 s0 S K ) : Z (RX11, cX11_isObjectElement, 10, some .boolean, false) G d Post 109 [(0, .ref (G.1 + 54)), (1, .int (Int32.ofInt (l1))), (2, .int (Int32.ofInt (l2))), (3, .int (Int32.ofInt (l3))), (4, .int (Int32.ofInt (l4)))] [.int (Int32.ofInt (s0))] cs := by
  unfold wX11_isObjectElement_109 at hw
  refine z_istore dX11_isObjectElement_109 (by decide) ?_
  refine z_loc (L' := [(0, .ref (G.1 + 54)), (1, .int (Int32.ofInt (l1))), (2, .int (Int32.ofInt (l2))), (3, .int (Int32.ofInt (l3))), (4, .int (Int32.ofInt (l4))), (5, .int (Int32.ofInt (s0)))]) (List.forall_mem_cons.mpr ⟨rfl, (List.forall_mem_cons.mpr ⟨rfl, (List.forall_mem_cons.mpr ⟨rfl, (List.forall_mem_cons.mpr ⟨rfl, (List.forall_mem_cons.mpr ⟨rfl, (List.forall_mem_cons.mpr ⟨rfl, (fun _ h => nomatch h)⟩)⟩)⟩)⟩)⟩)⟩) ?_
  refine z_iload_n dX11_isObjectElement_111 rfl rfl ?_
  refine z_istore dX11_isObjectElement_112 (by decide) ?_
  refine z_loc (L' := [(0, .ref (G.1 + 54)), (1, .int (Int32.ofInt (l1))), (2, .int (Int32.ofInt (l2))), (3, .int (Int32.ofInt (l3))), (4, .int (Int32.ofInt (l4))), (5, .int (Int32.ofInt (s0))), (6, .int (Int32.ofInt (l3)))]) (List.forall_mem_cons.mpr ⟨rfl, (List.forall_mem_cons.mpr ⟨rfl, (List.forall_mem_cons.mpr ⟨rfl, (List.forall_mem_cons.mpr ⟨rfl, (List.forall_mem_cons.mpr ⟨rfl, (List.forall_mem_cons.mpr ⟨rfl, (List.forall_mem_cons.mpr ⟨rfl, (fun _ h => nomatch h)⟩)⟩)⟩)⟩)⟩)⟩)⟩) ?_
  refine z_loc (L' := [(0, .ref (G.1 + 54)), (1, .int (Int32.ofInt (l1))), (2, .int (Int32.ofInt (l2))), (3, .int (Int32.ofInt (l3))), (4, .int (Int32.ofInt (l4))), (5, .int (Int32.ofInt (s0))), (6, .int (Int32.ofInt (l3)))]) (List.forall_mem_cons.mpr ⟨rfl, (List.forall_mem_cons.mpr ⟨rfl, (List.forall_mem_cons.mpr ⟨rfl, (List.forall_mem_cons.mpr ⟨rfl, (List.forall_mem_cons.mpr ⟨rfl, (List.forall_mem_cons.mpr ⟨rfl, (List.forall_mem_cons.mpr ⟨rfl, (fun _ h => nomatch h)⟩)⟩)⟩)⟩)⟩)⟩)⟩) ?_
  exact bX11_isObjectElement_114 hd hJ hT hW hP  hw
def wX11_isObjectElement_84 (l1 l2 l3 l4 : Int) (S : St) (K : Int → St → Prop) : Prop := (rng (l2) ∧ ((l2 = 0 → ((0 : Int) ≤ l1 ∧ l1 < (200 : Int) ∧ (iv 0 3000 (S.2 86 (l1)) → ((0 : Int) ≤ l1 ∧ l1 < (200 : Int) ∧ (iv 0 3000 (S.2 87 (l1)) → (wX11_classNamed (S.2 86 (l1)) (S.2 87 (l1)) S (fun r7 S8 => wX11_isObjectElement_109 (l1) (l2) (l3) (l4) (r7) S8 K))))))) ∧ ((¬ (l2 = 0)) → wX11_isObjectElement_109 (l1) (l2) (l3) (l4) ((-2)) S K)))
set_option maxRecDepth 100000 in
set_option maxHeartbeats 4000000 in
theorem bX11_isObjectElement_84 {G : xG} {sh : Nat → Option Sh} {J : St → List va_E → Prop} {d : Nat} {Post : xP} {l1 l2 l3 l4 : Int} {S : St} {cs : List va_E} {K : Int → St → Prop} (hd : 3 ≤ d) (hJ : Stb sh J) (hT : isM sh) (hW : Wd G sh mT J S cs) (hP : ∀ (v : Int) (S : St) (cs : List va_E), K v S → Wd G sh mT J S cs → Post (some (.int (Int32.ofInt v))) cs)  (hw : wX11_isObjectElement_84 l1 l2 l3 l4 S K ) : Z (RX11, cX11_isObjectElement, 10, some .boolean, false) G d Post 84 [(0, .ref (G.1 + 54)), (1, .int (Int32.ofInt (l1))), (2, .int (Int32.ofInt (l2))), (3, .int (Int32.ofInt (l3))), (4, .int (Int32.ofInt (l4)))] [] cs := by
  unfold wX11_isObjectElement_84 at hw
  refine z_iload_n dX11_isObjectElement_84 rfl rfl ?_
  obtain ⟨q2, hw⟩ := hw
  refine i_if_eq (tgt := 93) dX11_isObjectElement_85 (by decide) q2 (fun h1 => ?_) (fun h1 => ?_)
  · have hw := hw.1 h1
    refine z_aload_n dX11_isObjectElement_93 rfl rfl ?_
    refine z_aload_n dX11_isObjectElement_94 rfl rfl ?_
    refine g_getR hW hT.1 mr45 kX11 fX11_108 dX11_isObjectElement_95 ?_
    refine z_iload_n dX11_isObjectElement_98 rfl rfl ?_
    obtain ⟨q3a, q3b, hw⟩ := hw
    have q4 : iv 0 3000 (S.2 86 (l1)) := mA86 hW _
    have hw := hw q4
    refine g_iald hW (ma86 hT) q3a q3b (by decide) dX11_isObjectElement_99 ?_
    refine z_aload_n dX11_isObjectElement_100 rfl rfl ?_
    refine g_getR hW hT.1 mr46 kX11 fX11_111 dX11_isObjectElement_101 ?_
    refine z_iload_n dX11_isObjectElement_104 rfl rfl ?_
    obtain ⟨q5a, q5b, hw⟩ := hw
    have q6 : iv 0 3000 (S.2 87 (l1)) := mA87 hW _
    have hw := hw q6
    refine g_iald hW (ma87 hT) q5a q5b (by decide) dX11_isObjectElement_105 ?_
    have hX := lX11_classNamed 2 (Nat.le_refl _) hJ hT hW (rngq q4 (by decide) (by decide)) (rngq q6 (by decide) (by decide)) hw
    refine z_callV (As := [_, _]) eX11_classNamed sX11_classNamed lX11_438 rfl dX11_isObjectElement_106 (hW.1 _ _ hT.1) hX (Nat.le_trans (by decide) hd) rfl (Nat.le_of_ble_eq_true rfl) (fun r cs hp => ?_)
    obtain ⟨r7, S8, rfl, hw, hW⟩ := hp
    refine z_st (st' := [.int (Int32.ofInt (r7))]) rfl ?_
    refine z_loc (L' := [(0, .ref (G.1 + 54)), (1, .int (Int32.ofInt (l1))), (2, .int (Int32.ofInt (l2))), (3, .int (Int32.ofInt (l3))), (4, .int (Int32.ofInt (l4)))]) (List.forall_mem_cons.mpr ⟨rfl, (List.forall_mem_cons.mpr ⟨rfl, (List.forall_mem_cons.mpr ⟨rfl, (List.forall_mem_cons.mpr ⟨rfl, (List.forall_mem_cons.mpr ⟨rfl, (fun _ h => nomatch h)⟩)⟩)⟩)⟩)⟩) ?_
    exact bX11_isObjectElement_109 hd hJ hT hW hP  hw
  · have hw := hw.2 h1
    refine z_bipush (v := Int32.ofInt (-2)) dX11_isObjectElement_88 (by decide) ?_
    refine z_goto (tgt := 109) dX11_isObjectElement_90 (by decide) ?_
    refine z_loc (L' := [(0, .ref (G.1 + 54)), (1, .int (Int32.ofInt (l1))), (2, .int (Int32.ofInt (l2))), (3, .int (Int32.ofInt (l3))), (4, .int (Int32.ofInt (l4)))]) (List.forall_mem_cons.mpr ⟨rfl, (List.forall_mem_cons.mpr ⟨rfl, (List.forall_mem_cons.mpr ⟨rfl, (List.forall_mem_cons.mpr ⟨rfl, (List.forall_mem_cons.mpr ⟨rfl, (fun _ h => nomatch h)⟩)⟩)⟩)⟩)⟩) ?_
    exact bX11_isObjectElement_109 hd hJ hT hW hP  hw
def wX11_isObjectElement (a1 a2 : Int) (S : St) (K : Int → St → Prop) : Prop := rng a1 → rng a2 → ((0 : Int) ≤ a1 ∧ a1 < (200 : Int) ∧ (iv 0 600 (S.2 90 (a1)) → (∀ x3 : Int, x3 = S.2 90 (a1) → ((0 : Int) ≤ a1 ∧ a1 < (200 : Int) ∧ (iv 0 600 (S.2 91 (a1)) → (∀ x8 : Int, x8 = S.2 91 (a1) → ((¬ x8 = 1 → wX11_isObjectElement_84 (a1) (a2) (x3) (x8) S K) ∧ ((¬ (¬ x8 = 1)) → (wX11_isKey (x3) (2) S (fun r12 S13 => (rng (r12) ∧ ((r12 = 0 → wX11_isObjectElement_84 (a1) (a2) (x3) (x8) S13 K) ∧ ((¬ (r12 = 0)) → ((0 : Int) ≤ a1 ∧ a1 < (200 : Int) ∧ (∀ S17, S17 = pA S13 98 (a1) (5) → (wX11_hasChild (a1) S17 (fun r18 S19 => (rng (r18) ∧ ((¬ r18 = 0 → K (0) S19) ∧ ((¬ (¬ r18 = 0)) → (wX11_textSize (a1) S19 (fun r22 S23 => (rng (r22) ∧ ((¬ r22 = 0 → K (0) S23) ∧ ((¬ (¬ r22 = 0)) → ((¬ a2 = 0 → K (1) S23) ∧ ((¬ (¬ a2 = 0)) → ((0 : Int) ≤ a1 ∧ a1 < (200 : Int) ∧ (iv 0 3000 (S23.2 86 (a1)) → ((0 : Int) ≤ a1 ∧ a1 < (200 : Int) ∧ (iv 0 3000 (S23.2 87 (a1)) → (wX11_classNamed (S23.2 86 (a1)) (S23.2 87 (a1)) S23 (fun r31 S32 => (rng (r31) ∧ ((r31 = (-2) → K (0) S32) ∧ ((¬ (r31 = (-2))) → K (1) S32))))))))))))))))))))))))))))))))))))
set_option maxRecDepth 100000 in
set_option maxHeartbeats 4000000 in
theorem lX11_isObjectElement {G : xG} {sh : Nat → Option Sh} {J : St → List va_E → Prop} {a1 a2 : Int} {S : St} {cs : List va_E} {K : Int → St → Prop} (d : Nat) (hd : 3 ≤ d) (hJ : Stb sh J) (hT : isM sh) (hW : Wd G sh mT J S cs) (g1 : rng a1) (g2 : rng a2) (hw : wX11_isObjectElement a1 a2 S K) : X G yX11_isObjectElement cX11_isObjectElement 10 (some .boolean) d [.ref (G.1 + 54), .int (Int32.ofInt a1), .int (Int32.ofInt a2)] cs (qI G sh mT J K) := by
  refine X.of false (by decide +kernel) (by decide) (Nat.le_of_ble_eq_true rfl) ?_
  show Z (RX11, cX11_isObjectElement, 10, some .boolean, false) G d _ 0 [(0, .ref (G.1 + 54)), (1, .int (Int32.ofInt a1)), (2, .int (Int32.ofInt a2))] [] cs
  have hP : ∀ (v : Int) (S : St) (cs : List va_E), K v S → Wd G sh mT J S cs → qI G sh mT J K (some (.int (Int32.ofInt v))) cs := fun v S cs a b => ⟨v, S, rfl, a, b⟩
  unfold wX11_isObjectElement at hw
  have hw := hw g1 g2
  refine z_aload_n dX11_isObjectElement_0 rfl rfl ?_
  refine g_getR hW hT.1 mr49 kX11 fX11_120 dX11_isObjectElement_1 ?_
  refine z_iload_n dX11_isObjectElement_4 rfl rfl ?_
  obtain ⟨q1a, q1b, hw⟩ := hw
  have q2 : iv 0 600 (S.2 90 (a1)) := mA90 hW _
  have hw := hw q2
  refine g_iald hW (ma90 hT) q1a q1b (by decide) dX11_isObjectElement_5 ?_
  obtain ⟨x3, hx3⟩ : ∃ x : Int, x = S.2 90 (a1) := ⟨_, rfl⟩
  have hw := hw x3 hx3
  refine z_st (st' := [.int (Int32.ofInt x3)]) (by rw [hx3]) ?_
  have q4 : rng x3 := by rw [hx3]; exact (rngq q2 (by decide) (by decide))
  have q5 : iv 0 600 x3 := by rw [hx3]; exact q2
  refine z_istore_n dX11_isObjectElement_6 rfl (by decide) ?_
  refine z_loc (L' := [(0, .ref (G.1 + 54)), (1, .int (Int32.ofInt (a1))), (2, .int (Int32.ofInt (a2))), (3, .int (Int32.ofInt (x3)))]) (List.forall_mem_cons.mpr ⟨rfl, (List.forall_mem_cons.mpr ⟨rfl, (List.forall_mem_cons.mpr ⟨rfl, (List.forall_mem_cons.mpr ⟨rfl, (fun _ h => nomatch h)⟩)⟩)⟩)⟩) ?_
  refine z_aload_n dX11_isObjectElement_7 rfl rfl ?_
  refine g_getR hW hT.1 mr50 kX11 fX11_123 dX11_isObjectElement_8 ?_
  refine z_iload_n dX11_isObjectElement_11 rfl rfl ?_
  obtain ⟨q6a, q6b, hw⟩ := hw
  have q7 : iv 0 600 (S.2 91 (a1)) := mA91 hW _
  have hw := hw q7
  refine g_iald hW (ma91 hT) q6a q6b (by decide) dX11_isObjectElement_12 ?_
  obtain ⟨x8, hx8⟩ : ∃ x : Int, x = S.2 91 (a1) := ⟨_, rfl⟩
  have hw := hw x8 hx8
  refine z_st (st' := [.int (Int32.ofInt x8)]) (by rw [hx8]) ?_
  have q9 : rng x8 := by rw [hx8]; exact (rngq q7 (by decide) (by decide))
  have q10 : iv 0 600 x8 := by rw [hx8]; exact q7
  refine z_istore dX11_isObjectElement_13 (by decide) ?_
  refine z_loc (L' := [(0, .ref (G.1 + 54)), (1, .int (Int32.ofInt (a1))), (2, .int (Int32.ofInt (a2))), (3, .int (Int32.ofInt (x3))), (4, .int (Int32.ofInt (x8)))]) (List.forall_mem_cons.mpr ⟨rfl, (List.forall_mem_cons.mpr ⟨rfl, (List.forall_mem_cons.mpr ⟨rfl, (List.forall_mem_cons.mpr ⟨rfl, (List.forall_mem_cons.mpr ⟨rfl, (fun _ h => nomatch h)⟩)⟩)⟩)⟩)⟩) ?_
  refine z_iload dX11_isObjectElement_15 rfl ?_
  refine z_iconst (v := Int32.ofInt 1) dX11_isObjectElement_17 rfl ?_
  refine i_icmp_ne (tgt := 84) dX11_isObjectElement_18 (by decide) q9 ⟨by decide, by decide⟩ (fun h11 => ?_) (fun h11 => ?_)
  · have hw := hw.1 h11
    refine z_loc (L' := [(0, .ref (G.1 + 54)), (1, .int (Int32.ofInt (a1))), (2, .int (Int32.ofInt (a2))), (3, .int (Int32.ofInt (x3))), (4, .int (Int32.ofInt (x8)))]) (List.forall_mem_cons.mpr ⟨rfl, (List.forall_mem_cons.mpr ⟨rfl, (List.forall_mem_cons.mpr ⟨rfl, (List.forall_mem_cons.mpr ⟨rfl, (List.forall_mem_cons.mpr ⟨rfl, (fun _ h => nomatch h)⟩)⟩)⟩)⟩)⟩) ?_
    exact bX11_isObjectElement_84 hd hJ hT hW hP  hw
  · have hw := hw.2 h11
    refine z_aload_n dX11_isObjectElement_21 rfl rfl ?_
    refine z_iload_n dX11_isObjectElement_22 rfl rfl ?_
    refine z_iconst (v := Int32.ofInt 2) dX11_isObjectElement_23 rfl ?_
    have hX := lX11_isKey 1 (Nat.le_refl _) hJ hT hW q4 ⟨by decide, by decide⟩ hw
    refine z_callV (As := [_, _]) eX11_isKey sX11_isKey lX11_429 rfl dX11_isObjectElement_24 (hW.1 _ _ hT.1) hX (Nat.le_trans (by decide) hd) rfl (Nat.le_of_ble_eq_true rfl) (fun r cs hp => ?_)
    obtain ⟨r12, S13, rfl, hw, hW⟩ := hp
    refine z_st (st' := [.int (Int32.ofInt (r12))]) rfl ?_
    obtain ⟨q15, hw⟩ := hw
    refine i_if_eq (tgt := 84) dX11_isObjectElement_27 (by decide) q15 (fun h14 => ?_) (fun h14 => ?_)
    · have hw := hw.1 h14
      refine z_loc (L' := [(0, .ref (G.1 + 54)), (1, .int (Int32.ofInt (a1))), (2, .int (Int32.ofInt (a2))), (3, .int (Int32.ofInt (x3))), (4, .int (Int32.ofInt (x8)))]) (List.forall_mem_cons.mpr ⟨rfl, (List.forall_mem_cons.mpr ⟨rfl, (List.forall_mem_cons.mpr ⟨rfl, (List.forall_mem_cons.mpr ⟨rfl, (List.forall_mem_cons.mpr ⟨rfl, (fun _ h => nomatch h)⟩)⟩)⟩)⟩)⟩) ?_
      exact bX11_isObjectElement_84 hd hJ hT hW hP  hw
    · have hw := hw.2 h14
      refine z_aload_n dX11_isObjectElement_30 rfl rfl ?_
      refine g_getR hW hT.1 mr61 kX11 fX11_144 dX11_isObjectElement_31 ?_
      refine z_iload_n dX11_isObjectElement_34 rfl rfl ?_
      refine z_iconst (v := Int32.ofInt 5) dX11_isObjectElement_35 rfl ?_
      obtain ⟨q16a, q16b, hw⟩ := hw
      refine g_iast hJ hW (ma98 hT) q16a q16b (by decide) ⟨by decide, by decide⟩ dX11_isObjectElement_36 (fun cs hW => ?_)
      obtain ⟨S17, hS17⟩ : ∃ x, x = pA S13 98 (a1) (5) := ⟨_, rfl⟩
      rw [← hS17] at hW
      have hw := hw S17 hS17
      refine z_aload_n dX11_isObjectElement_37 rfl rfl ?_
      refine z_iload_n dX11_isObjectElement_38 rfl rfl ?_
      have hX := lX11_hasChild 0 (Nat.le_refl _) hJ hT hW g1 hw
      refine z_callV (As := [_]) eX11_hasChild sX11_hasChild lX11_432 rfl dX11_isObjectElement_39 (hW.1 _ _ hT.1) hX (Nat.le_trans (by decide) hd) rfl (Nat.le_of_ble_eq_true rfl) (fun r cs hp => ?_)
      obtain ⟨r18, S19, rfl, hw, hW⟩ := hp
      refine z_st (st' := [.int (Int32.ofInt (r18))]) rfl ?_
      obtain ⟨q21, hw⟩ := hw
      refine i_if_ne (tgt := 82) dX11_isObjectElement_42 (by decide) q21 (fun h20 => ?_) (fun h20 => ?_)
      · have hw := hw.1 h20
        refine z_iconst (v := Int32.ofInt 0) dX11_isObjectElement_82 rfl ?_
        exact z_ireturn dX11_isObjectElement_83 rfl (nar01 (by decide)) (hP _ _ _ hw hW)
      · have hw := hw.2 h20
        refine z_aload_n dX11_isObjectElement_45 rfl rfl ?_
        refine z_iload_n dX11_isObjectElement_46 rfl rfl ?_
        have hX := lX11_textSize 0 (Nat.le_refl _) hJ hT hW g1 hw
        refine z_callV (As := [_]) eX11_textSize sX11_textSize lX11_435 rfl dX11_isObjectElement_47 (hW.1 _ _ hT.1) hX (Nat.le_trans (by decide) hd) rfl (Nat.le_of_ble_eq_true rfl) (fun r cs hp => ?_)
        obtain ⟨r22, S23, rfl, hw, hW⟩ := hp
        refine z_st (st' := [.int (Int32.ofInt (r22))]) rfl ?_
        obtain ⟨q25, hw⟩ := hw
        refine i_if_ne (tgt := 82) dX11_isObjectElement_50 (by decide) q25 (fun h24 => ?_) (fun h24 => ?_)
        · have hw := hw.1 h24
          refine z_iconst (v := Int32.ofInt 0) dX11_isObjectElement_82 rfl ?_
          exact z_ireturn dX11_isObjectElement_83 rfl (nar01 (by decide)) (hP _ _ _ hw hW)
        · have hw := hw.2 h24
          refine z_iload_n dX11_isObjectElement_53 rfl rfl ?_
          refine i_if_ne (tgt := 78) dX11_isObjectElement_54 (by decide) g2 (fun h26 => ?_) (fun h26 => ?_)
          · have hw := hw.1 h26
            refine z_iconst (v := Int32.ofInt 1) dX11_isObjectElement_78 rfl ?_
            refine z_goto (tgt := 83) dX11_isObjectElement_79 (by decide) ?_
            exact z_ireturn dX11_isObjectElement_83 rfl (nar01 (by decide)) (hP _ _ _ hw hW)
          · have hw := hw.2 h26
            refine z_aload_n dX11_isObjectElement_57 rfl rfl ?_
            refine z_aload_n dX11_isObjectElement_58 rfl rfl ?_
            refine g_getR hW hT.1 mr45 kX11 fX11_108 dX11_isObjectElement_59 ?_
            refine z_iload_n dX11_isObjectElement_62 rfl rfl ?_
            obtain ⟨q27a, q27b, hw⟩ := hw
            have q28 : iv 0 3000 (S23.2 86 (a1)) := mA86 hW _
            have hw := hw q28
            refine g_iald hW (ma86 hT) q27a q27b (by decide) dX11_isObjectElement_63 ?_
            refine z_aload_n dX11_isObjectElement_64 rfl rfl ?_
            refine g_getR hW hT.1 mr46 kX11 fX11_111 dX11_isObjectElement_65 ?_
            refine z_iload_n dX11_isObjectElement_68 rfl rfl ?_
            obtain ⟨q29a, q29b, hw⟩ := hw
            have q30 : iv 0 3000 (S23.2 87 (a1)) := mA87 hW _
            have hw := hw q30
            refine g_iald hW (ma87 hT) q29a q29b (by decide) dX11_isObjectElement_69 ?_
            have hX := lX11_classNamed 2 (Nat.le_refl _) hJ hT hW (rngq q28 (by decide) (by decide)) (rngq q30 (by decide) (by decide)) hw
            refine z_callV (As := [_, _]) eX11_classNamed sX11_classNamed lX11_438 rfl dX11_isObjectElement_70 (hW.1 _ _ hT.1) hX (Nat.le_trans (by decide) hd) rfl (Nat.le_of_ble_eq_true rfl) (fun r cs hp => ?_)
            obtain ⟨r31, S32, rfl, hw, hW⟩ := hp
            refine z_st (st' := [.int (Int32.ofInt (r31))]) rfl ?_
            refine z_bipush (v := Int32.ofInt (-2)) dX11_isObjectElement_73 (by decide) ?_
            obtain ⟨q34, hw⟩ := hw
            refine i_icmp_eq (tgt := 82) dX11_isObjectElement_75 (by decide) q34 ⟨by decide, by decide⟩ (fun h33 => ?_) (fun h33 => ?_)
            · have hw := hw.1 h33
              refine z_iconst (v := Int32.ofInt 0) dX11_isObjectElement_82 rfl ?_
              exact z_ireturn dX11_isObjectElement_83 rfl (nar01 (by decide)) (hP _ _ _ hw hW)
            · have hw := hw.2 h33
              refine z_iconst (v := Int32.ofInt 1) dX11_isObjectElement_78 rfl ?_
              refine z_goto (tgt := 83) dX11_isObjectElement_79 (by decide) ?_
              exact z_ireturn dX11_isObjectElement_83 rfl (nar01 (by decide)) (hP _ _ _ hw hW)

