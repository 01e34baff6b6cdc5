def wX11_oneClass_133 (l1 l2 s0 : Int) (S : St) (K : Int → St → Prop) (B54 : Int → Int → St → Prop) : Prop := (iv 0 3000 (s0) ∧ (∀ S1, S1 = pI S 54 22 (s0) → B54 (l1) (l2) S1))
set_option maxRecDepth 100000 in
set_option maxHeartbeats 4000000 in
theorem bX11_oneClass_133 {G : xG} {sh : Nat → Option Sh} {J : St → List va_E → Prop} {d : Nat} {Post : xP} {l1 l2 s0 : Int} {S : St} {cs : List va_E} {K : Int → St → Prop} {B54 : Int → Int → St → Prop} (hd : 4 ≤ d) (hJ : Stb sh J) (hT : isM sh) (hW : Wd G sh mT J S cs) (hP : ∀ (v : Int) (S : St) (cs : List va_E), K v S → Wd G sh mT J S cs → Post (none) cs) (hB54 : ∀ (l1 : Int) (l2 : Int) (S : St) (cs : List va_E), B54 l1 l2 S → Wd G sh mT J S cs → Z (RX11, cX11_oneClass, 3, none, false) G d Post 54 [(0, .ref (G.1 + 54)), (1, .int (Int32.ofInt (l1))), (2, .int (Int32.ofInt (l2)))] [] cs) (hw : wX11_oneClass_133 l1 l2 s0 S K B54) : Z (RX11, cX11_oneClass, 3, none, false) G d Post 133 [(0, .ref (G.1 + 54)), (1, .int (Int32.ofInt (l1))), (2, .int (Int32.ofInt (l2)))] [.int (Int32.ofInt (s0)), .ref (G.1 + 54)] cs := by
  unfold wX11_oneClass_133 at hw
  obtain ⟨q2, hw⟩ := hw
  refine g_putI hJ hW hT.1 mr22 kX11 fX11_200 dX11_oneClass_133 rfl rfl rfl q2 (fun cs hW => ?_)
  obtain ⟨S1, hS1⟩ : ∃ x, x = pI S 54 22 (s0) := ⟨_, rfl⟩
  rw [← hS1] at hW
  have hw := hw S1 hS1
  refine z_goto (tgt := 54) dX11_oneClass_136 (by decide) ?_
  refine z_loc (L' := [(0, .ref (G.1 + 54)), (1, .int (Int32.ofInt (l1))), (2, .int (Int32.ofInt (l2)))]) (List.forall_mem_cons.mpr ⟨rfl, (List.forall_mem_cons.mpr ⟨rfl, (List.forall_mem_cons.mpr ⟨rfl, (fun _ h => nomatch h)⟩)⟩)⟩) ?_
  exact hB54 _ _ _ _ hw hW
def wX11_oneClass_114 (l1 s0 : Int) (S : St) (K : Int → St → Prop) (B54 : Int → Int → St → Prop) : Prop := (rng (s0) ∧ ((s0 = 0 → (iv 0 3000 (S.1 54 22) → wX11_oneClass_133 (l1) (s0) (S.1 54 22) S K B54)) ∧ ((¬ (s0 = 0)) → (iv 0 3000 (S.1 54 22) → wX11_oneClass_133 (l1) (s0) ((S.1 54 22 + 1)) S K B54))))
set_option maxRecDepth 100000 in
set_option maxHeartbeats 4000000 in
theorem bX11_oneClass_114 {G : xG} {sh : Nat → Option Sh} {J : St → List va_E → Prop} {d : Nat} {Post : xP} {l1 s0 : Int} {S : St} {cs : List va_E} {K : Int → St → Prop} {B54 : Int → Int → St → Prop} (hd : 4 ≤ d) (hJ : Stb sh J) (hT : isM sh) (hW : Wd G sh mT J S cs) (hP : ∀ (v : Int) (S : St) (cs : List va_E), K v S → Wd G sh mT J S cs → Post (none) cs) (hB54 : ∀ (l1 : Int) (l2 : Int) (S : St) (cs : List va_E), B54 l1 l2 S → Wd G sh mT J S cs → Z (RX11, cX11_oneClass, 3, none, false) G d Post 54 [(0, .ref (G.1 + 54)), (1, .int (Int32.ofInt (l1))), (2, .int (Int32.ofInt (l2)))] [] cs) (hw : wX11_oneClass_114 l1 s0 S K B54) : Z (RX11, cX11_oneClass, 3, none, false) G d Post 114 [(0, .ref (G.1 + 54)), (1, .int (Int32.ofInt (l1)))] [.int (Int32.ofInt (s0))] cs := by
  unfold wX11_oneClass_114 at hw
  refine z_istore_n dX11_oneClass_114 rfl (by decide) ?_
  refine z_loc (L' := [(0, .ref (G.1 + 54)), (1, .int (Int32.ofInt (l1))), (2, .int (Int32.ofInt (s0)))]) (List.forall_mem_cons.mpr ⟨rfl, (List.forall_mem_cons.mpr ⟨rfl, (List.forall_mem_cons.mpr ⟨rfl, (fun _ h => nomatch h)⟩)⟩)⟩) ?_
  refine z_aload_n dX11_oneClass_115 rfl rfl ?_
  refine z_iload_n dX11_oneClass_116 rfl rfl ?_
  obtain ⟨q2, hw⟩ := hw
  refine i_if_eq (tgt := 129) dX11_oneClass_117 (by decide) q2 (fun h1 => ?_) (fun h1 => ?_)
  · have hw := hw.1 h1
    refine z_aload_n dX11_oneClass_129 rfl rfl ?_
    have q3 : iv 0 3000 (S.1 54 22) := mI22 hW
    have hw := hw q3
    refine g_getI hW hT.1 mr22 kX11 fX11_200 dX11_oneClass_130 ?_
    refine z_loc (L' := [(0, .ref (G.1 + 54)), (1, .int (Int32.ofInt (l1))), (2, .int (Int32.ofInt (s0)))]) (List.forall_mem_cons.mpr ⟨rfl, (List.forall_mem_cons.mpr ⟨rfl, (List.forall_mem_cons.mpr ⟨rfl, (fun _ h => nomatch h)⟩)⟩)⟩) ?_
    exact bX11_oneClass_133 hd hJ hT hW hP hB54 hw
  · have hw := hw.2 h1
    refine z_aload_n dX11_oneClass_120 rfl rfl ?_
    have q4 : iv 0 3000 (S.1 54 22) := mI22 hW
    have hw := hw q4
    refine g_getI hW hT.1 mr22 kX11 fX11_200 dX11_oneClass_121 ?_
    refine z_iconst (v := Int32.ofInt 1) dX11_oneClass_124 rfl ?_
    refine i_iadd dX11_oneClass_125 ?_
    refine z_goto (tgt := 133) dX11_oneClass_126 (by decide) ?_
    refine z_loc (L' := [(0, .ref (G.1 + 54)), (1, .int (Int32.ofInt (l1))), (2, .int (Int32.ofInt (s0)))]) (List.forall_mem_cons.mpr ⟨rfl, (List.forall_mem_cons.mpr ⟨rfl, (List.forall_mem_cons.mpr ⟨rfl, (fun _ h => nomatch h)⟩)⟩)⟩) ?_
    exact bX11_oneClass_133 hd hJ hT hW hP hB54 hw
def wX11_oneClass_113 (l1 : Int) (S : St) (K : Int → St → Prop) (B54 : Int → Int → St → Prop) : Prop := wX11_oneClass_114 (l1) (0) S K B54
set_option maxRecDepth 100000 in
set_option maxHeartbeats 4000000 in
theorem bX11_oneClass_113 {G : xG} {sh : Nat → Option Sh} {J : St → List va_E → Prop} {d : Nat} {Post : xP} {l1 : Int} {S : St} {cs : List va_E} {K : Int → St → Prop} {B54 : Int → Int → St → Prop} (hd : 4 ≤ d) (hJ : Stb sh J) (hT : isM sh) (hW : Wd G sh mT J S cs) (hP : ∀ (v : Int) (S : St) (cs : List va_E), K v S → Wd G sh mT J S cs → Post (none) cs) (hB54 : ∀ (l1 : Int) (l2 : Int) (S : St) (cs : List va_E), B54 l1 l2 S → Wd G sh mT J S cs → Z (RX11, cX11_oneClass, 3, none, false) G d Post 54 [(0, .ref (G.1 + 54)), (1, .int (Int32.ofInt (l1))), (2, .int (Int32.ofInt (l2)))] [] cs) (hw : wX11_oneClass_113 l1 S K B54) : Z (RX11, cX11_oneClass, 3, none, false) G d Post 113 [(0, .ref (G.1 + 54)), (1, .int (Int32.ofInt (l1)))] [] cs := by
  unfold wX11_oneClass_113 at hw
  refine z_iconst (v := Int32.ofInt 0) dX11_oneClass_113 rfl ?_
  refine z_loc (L' := [(0, .ref (G.1 + 54)), (1, .int (Int32.ofInt (l1)))]) (List.forall_mem_cons.mpr ⟨rfl, (List.forall_mem_cons.mpr ⟨rfl, (fun _ h => nomatch h)⟩)⟩) ?_
  exact bX11_oneClass_114 hd hJ hT hW hP hB54 hw
def wX11_oneClass_54' (l1 l2 : Int) (S : St) (K : Int → St → Prop) (B54 : Int → Int → St → Prop) : Prop := (rng (l2) ∧ ((l2 = 0 → (iv 0 1 (S.1 54 23) → ((¬ S.1 54 23 = 0 → K 0 S) ∧ ((¬ (¬ S.1 54 23 = 0)) → (wX11_eat (41) S (fun r5 S6 => K 0 S6)))))) ∧ ((¬ (l2 = 0)) → ((0 : Int) ≤ l1 ∧ l1 < (6 : Int) ∧ (iv 0 4 (S.2 62 (l1)) → (rng (l1) ∧ (wX11_field (l1) (S.2 62 (l1)) S (fun r10 S11 => ((0 : Int) ≤ l1 ∧ l1 < (6 : Int) ∧ (iv 0 4 (S11.2 62 (l1)) → ((0 : Int) ≤ l1 ∧ l1 < (6 : Int) ∧ (iv 0 4 ((S11.2 62 (l1) + 1)) ∧ (∀ S15, S15 = pA S11 62 (l1) ((S11.2 62 (l1) + 1)) → (iv 0 1 (S15.1 54 23) → ((¬ S15.1 54 23 = 0 → wX11_oneClass_113 (l1) S15 K B54) ∧ ((¬ (¬ S15.1 54 23 = 0)) → ((0 : Int) ≤ l1 ∧ l1 < (6 : Int) ∧ (iv 0 4 (S15.2 62 (l1)) → ((4 ≤ S15.2 62 (l1) → wX11_oneClass_113 (l1) S15 K B54) ∧ ((¬ (4 ≤ S15.2 62 (l1))) → (iv 0 3000 (S15.1 54 22) → (wX11_signAt (S15.1 54 22) S15 (fun r23 S24 => (rng (r23) ∧ ((¬ r23 = 44 → wX11_oneClass_113 (l1) S24 K B54) ∧ ((¬ (¬ r23 = 44)) → wX11_oneClass_114 (l1) (1) S24 K B54))))))))))))))))))))))))))
set_option maxRecDepth 100000 in
set_option maxHeartbeats 4000000 in
theorem bX11_oneClass_54' {G : xG} {sh : Nat → Option Sh} {J : St → List va_E → Prop} {d : Nat} {Post : xP} {l1 l2 : Int} {S : St} {cs : List va_E} {K : Int → St → Prop} {B54 : Int → Int → St → Prop} (hd : 4 ≤ d) (hJ : Stb sh J) (hT : isM sh) (hW : Wd G sh mT J S cs) (hP : ∀ (v : Int) (S : St) (cs : List va_E), K v S → Wd G sh mT J S cs → Post (none) cs) (hB54 : ∀ (l1 : Int) (l2 : Int) (S : St) (cs : List va_E), B54 l1 l2 S → Wd G sh mT J S cs → Z (RX11, cX11_oneClass, 3, none, false) G d Post 54 [(0, .ref (G.1 + 54)), (1, .int (Int32.ofInt (l1))), (2, .int (Int32.ofInt (l2)))] [] cs) (hw : wX11_oneClass_54' l1 l2 S K B54) : Z (RX11, cX11_oneClass, 3, none, false) G d Post 54 [(0, .ref (G.1 + 54)), (1, .int (Int32.ofInt (l1))), (2, .int (Int32.ofInt (l2)))] [] cs := by
  unfold wX11_oneClass_54' at hw
  refine z_iload_n dX11_oneClass_54 rfl rfl ?_
  obtain ⟨q2, hw⟩ := hw
  refine i_if_eq (tgt := 139) dX11_oneClass_55 (by decide) q2 (fun h1 => ?_) (fun h1 => ?_)
  · have hw := hw.1 h1
    refine z_aload_n dX11_oneClass_139 rfl rfl ?_
    have q3 : iv 0 1 (S.1 54 23) := mI23 hW
    have hw := hw q3
    refine g_getI hW hT.1 mr23 kX11 fX11_196 dX11_oneClass_140 ?_
    refine i_if_ne (tgt := 152) dX11_oneClass_143 (by decide) (rngq q3 (by decide) (by decide)) (fun h4 => ?_) (fun h4 => ?_)
    · have hw := hw.1 h4
      exact z_return dX11_oneClass_152 rfl (hP 0 _ _ hw hW)
    · have hw := hw.2 h4
      refine z_aload_n dX11_oneClass_146 rfl rfl ?_
      refine z_bipush (v := Int32.ofInt 41) dX11_oneClass_147 (by decide) ?_
      have hX := lX11_eat 1 (Nat.le_refl _) hJ hT hW ⟨by decide, by decide⟩ hw
      refine z_callV (As := [_]) eX11_eat sX11_eat lX11_224 rfl dX11_oneClass_149 (hW.1 _ _ hT.1) hX (Nat.le_trans (by decide) hd) rfl (Nat.le_of_ble_eq_true rfl) (fun r cs hp => ?_)
      obtain ⟨r5, S6, rfl, hw, hW⟩ := hp
      refine z_st (st' := []) rfl ?_
      exact z_return dX11_oneClass_152 rfl (hP 0 _ _ hw hW)
  · have hw := hw.2 h1
    refine z_aload_n dX11_oneClass_58 rfl rfl ?_
    refine z_iload_n dX11_oneClass_59 rfl rfl ?_
    refine z_aload_n dX11_oneClass_60 rfl rfl ?_
    refine g_getR hW hT.1 mr9 kX11 fX11_32 dX11_oneClass_61 ?_
    refine z_iload_n dX11_oneClass_64 rfl rfl ?_
    obtain ⟨q7a, q7b, hw⟩ := hw
    have q8 : iv 0 4 (S.2 62 (l1)) := mA62 hW _
    have hw := hw q8
    refine g_iald hW (ma62 hT) q7a q7b (by decide) dX11_oneClass_65 ?_
    obtain ⟨q9, hw⟩ := hw
    have hX := lX11_field 3 (Nat.le_refl _) hJ hT hW q9 (rngq q8 (by decide) (by decide)) hw
    refine z_callV (As := [_, _]) eX11_field sX11_field lX11_228 rfl dX11_oneClass_66 (hW.1 _ _ hT.1) hX (Nat.le_trans (by decide) hd) rfl (Nat.le_of_ble_eq_true rfl) (fun r cs hp => ?_)
    obtain ⟨r10, S11, rfl, hw, hW⟩ := hp
    refine z_st (st' := []) rfl ?_
    refine z_aload_n dX11_oneClass_69 rfl rfl ?_
    refine g_getR hW hT.1 mr9 kX11 fX11_32 dX11_oneClass_70 ?_
    refine z_iload_n dX11_oneClass_73 rfl rfl ?_
    refine z_dup2 dX11_oneClass_74 rfl rfl ?_
    obtain ⟨q12a, q12b, hw⟩ := hw
    have q13 : iv 0 4 (S11.2 62 (l1)) := mA62 hW _
    have hw := hw q13
    refine g_iald hW (ma62 hT) q12a q12b (by decide) dX11_oneClass_75 ?_
    refine z_iconst (v := Int32.ofInt 1) dX11_oneClass_76 rfl ?_
    refine i_iadd dX11_oneClass_77 ?_
    obtain ⟨q14a, q14b, hw⟩ := hw
    obtain ⟨q16, hw⟩ := hw
    refine g_iast hJ hW (ma62 hT) q14a q14b (by decide) q16 dX11_oneClass_78 (fun cs hW => ?_)
    obtain ⟨S15, hS15⟩ : ∃ x, x = pA S11 62 (l1) ((S11.2 62 (l1) + 1)) := ⟨_, rfl⟩
    rw [← hS15] at hW
    have hw := hw S15 hS15
    refine z_aload_n dX11_oneClass_79 rfl rfl ?_
    have q17 : iv 0 1 (S15.1 54 23) := mI23 hW
    have hw := hw q17
    refine g_getI hW hT.1 mr23 kX11 fX11_196 dX11_oneClass_80 ?_
    refine i_if_ne (tgt := 113) dX11_oneClass_83 (by decide) (rngq q17 (by decide) (by decide)) (fun h18 => ?_) (fun h18 => ?_)
    · have hw := hw.1 h18
      refine z_loc (L' := [(0, .ref (G.1 + 54)), (1, .int (Int32.ofInt (l1)))]) (List.forall_mem_cons.mpr ⟨rfl, (List.forall_mem_cons.mpr ⟨rfl, (fun _ h => nomatch h)⟩)⟩) ?_
      exact bX11_oneClass_113 hd hJ hT hW hP hB54 hw
    · have hw := hw.2 h18
      refine z_aload_n dX11_oneClass_86 rfl rfl ?_
      refine g_getR hW hT.1 mr9 kX11 fX11_32 dX11_oneClass_87 ?_
      refine z_iload_n dX11_oneClass_90 rfl rfl ?_
      obtain ⟨q19a, q19b, hw⟩ := hw
      have q20 : iv 0 4 (S15.2 62 (l1)) := mA62 hW _
      have hw := hw q20
      refine g_iald hW (ma62 hT) q19a q19b (by decide) dX11_oneClass_91 ?_
      refine z_iconst (v := Int32.ofInt 4) dX11_oneClass_92 rfl ?_
      refine i_icmp_ge (tgt := 113) dX11_oneClass_93 (by decide) (rngq q20 (by decide) (by decide)) ⟨by decide, by decide⟩ (fun h21 => ?_) (fun h21 => ?_)
      · have hw := hw.1 h21
        refine z_loc (L' := [(0, .ref (G.1 + 54)), (1, .int (Int32.ofInt (l1)))]) (List.forall_mem_cons.mpr ⟨rfl, (List.forall_mem_cons.mpr ⟨rfl, (fun _ h => nomatch h)⟩)⟩) ?_
        exact bX11_oneClass_113 hd hJ hT hW hP hB54 hw
      · have hw := hw.2 h21
        refine z_aload_n dX11_oneClass_96 rfl rfl ?_
        refine z_aload_n dX11_oneClass_97 rfl rfl ?_
        have q22 : iv 0 3000 (S15.1 54 22) := mI22 hW
        have hw := hw q22
        refine g_getI hW hT.1 mr22 kX11 fX11_200 dX11_oneClass_98 ?_
        have hX := lX11_signAt 0 (Nat.le_refl _) hJ hT hW (rngq q22 (by decide) (by decide)) hw
        refine z_callV (As := [_]) eX11_signAt sX11_signAt lX11_182 rfl dX11_oneClass_101 (hW.1 _ _ hT.1) hX (Nat.le_trans (by decide) hd) rfl (Nat.le_of_ble_eq_true rfl) (fun r cs hp => ?_)
        obtain ⟨r23, S24, rfl, hw, hW⟩ := hp
        refine z_st (st' := [.int (Int32.ofInt (r23))]) rfl ?_
        refine z_bipush (v := Int32.ofInt 44) dX11_oneClass_104 (by decide) ?_
        obtain ⟨q26, hw⟩ := hw
        refine i_icmp_ne (tgt := 113) dX11_oneClass_106 (by decide) q26 ⟨by decide, by decide⟩ (fun h25 => ?_) (fun h25 => ?_)
        · have hw := hw.1 h25
          refine z_loc (L' := [(0, .ref (G.1 + 54)), (1, .int (Int32.ofInt (l1)))]) (List.forall_mem_cons.mpr ⟨rfl, (List.forall_mem_cons.mpr ⟨rfl, (fun _ h => nomatch h)⟩)⟩) ?_
          exact bX11_oneClass_113 hd hJ hT hW hP hB54 hw
        · have hw := hw.2 h25
          refine z_iconst (v := Int32.ofInt 1) dX11_oneClass_109 rfl ?_
          refine z_goto (tgt := 114) dX11_oneClass_110 (by decide) ?_
          refine z_loc (L' := [(0, .ref (G.1 + 54)), (1, .int (Int32.ofInt (l1)))]) (List.forall_mem_cons.mpr ⟨rfl, (List.forall_mem_cons.mpr ⟨rfl, (fun _ h => nomatch h)⟩)⟩) ?_
          exact bX11_oneClass_114 hd hJ hT hW hP hB54 hw
def wX11_oneClass_54 (l1 l2 : Int) (S : St) (K : Int → St → Prop) : Prop := ∃ (Iv : Int → Int → St → Prop) (mu : Int → Int → St → Nat), Iv l1 l2 S ∧ ∀ (l1 l2 : Int) (S : St), Iv l1 l2 S → wX11_oneClass_54' l1 l2 S K  (fun ml1 ml2 T => Iv ml1 ml2 T ∧ mu ml1 ml2 T < mu l1 l2 S)
set_option maxRecDepth 100000 in
set_option maxHeartbeats 4000000 in
theorem bX11_oneClass_54 {G : xG} {sh : Nat → Option Sh} {J : St → List va_E → Prop} {d : Nat} {Post : xP} {l1 l2 : Int} {S : St} {cs : List va_E} {K : Int → St → Prop} (hd : 4 ≤ d) (hJ : Stb sh J) (hT : isM sh) (hW : Wd G sh mT J S cs) (hP : ∀ (v : Int) (S : St) (cs : List va_E), K v S → Wd G sh mT J S cs → Post (none) cs)  (hw : wX11_oneClass_54 l1 l2 S K ) : Z (RX11, cX11_oneClass, 3, none, false) G d Post 54 [(0, .ref (G.1 + 54)), (1, .int (Int32.ofInt (l1))), (2, .int (Int32.ofInt (l2)))] [] cs := by
  unfold wX11_oneClass_54 at hw
  obtain ⟨Iv, mu, h0, hs⟩ := hw
  have key : ∀ (n : Nat) (l1 l2 : Int) (S : St) (cs : List va_E), mu l1 l2 S < n → Iv l1 l2 S → Wd G sh mT J S cs → Z (RX11, cX11_oneClass, 3, none, false) G d Post 54 [(0, .ref (G.1 + 54)), (1, .int (Int32.ofInt (l1))), (2, .int (Int32.ofInt (l2)))] [] cs := by
    intro n
    induction n with
    | zero => intro l1 l2 S cs hn; exact absurd hn (Nat.not_lt_zero _)
    | succ n ih =>
      intro l1 l2 S cs hn hI hW
      exact bX11_oneClass_54' hd hJ hT hW hP  (fun l1 l2 S cs hb hW => ih l1 l2 S cs (Nat.lt_of_lt_of_le hb.2 (Nat.le_of_lt_succ hn)) hb.1 hW) (hs l1 l2 S hI)
  exact key _ _ _ _ _ (Nat.lt_succ_self _) h0 hW
def wX11_oneClass_53 (l1 s0 : Int) (S : St) (K : Int → St → Prop) : Prop := wX11_oneClass_54 (l1) (s0) S K
set_option maxRecDepth 100000 in
set_option maxHeartbeats 4000000 in
theorem bX11_oneClass_53 {G : xG} {sh : Nat → Option Sh} {J : St → List va_E → Prop} {d : Nat} {Post : xP} {l1 s0 : Int} {S : St} {cs : List va_E} {K : Int → St → Prop} (hd : 4 ≤ d) (hJ : Stb sh J) (hT : isM sh) (hW : Wd G sh mT J S cs) (hP : ∀ (v : Int) (S : St) (cs : List va_E), K v S → Wd G sh mT J S cs → Post (none) cs)  (hw : wX11_oneClass_53 l1 s0 S K ) : Z (RX11, cX11_oneClass, 3, none, false) G d Post 53 [(0, .ref (G.1 + 54)), (1, .int (Int32.ofInt (l1)))] [.int (Int32.ofInt (s0))] cs := by
  unfold wX11_oneClass_53 at hw
  refine z_istore_n dX11_oneClass_53 rfl (by decide) ?_
  refine z_loc (L' := [(0, .ref (G.1 + 54)), (1, .int (Int32.ofInt (l1))), (2, .int (Int32.ofInt (s0)))]) (List.forall_mem_cons.mpr ⟨rfl, (List.forall_mem_cons.mpr ⟨rfl, (List.forall_mem_cons.mpr ⟨rfl, (fun _ h => nomatch h)⟩)⟩)⟩) ?_
  refine z_loc (L' := [(0, .ref (G.1 + 54)), (1, .int (Int32.ofInt (l1))), (2, .int (Int32.ofInt (s0)))]) (List.forall_mem_cons.mpr ⟨rfl, (List.forall_mem_cons.mpr ⟨rfl, (List.forall_mem_cons.mpr ⟨rfl, (fun _ h => nomatch h)⟩)⟩)⟩) ?_
  exact bX11_oneClass_54 hd hJ hT hW hP  hw
def wX11_oneClass_52 (l1 : Int) (S : St) (K : Int → St → Prop) : Prop := wX11_oneClass_53 (l1) (0) S K
set_option maxRecDepth 100000 in
set_option maxHeartbeats 4000000 in
theorem bX11_oneClass_52 {G : xG} {sh : Nat → Option Sh} {J : St → List va_E → Prop} {d : Nat} {Post : xP} {l1 : Int} {S : St} {cs : List va_E} {K : Int → St → Prop} (hd : 4 ≤ d) (hJ : Stb sh J) (hT : isM sh) (hW : Wd G sh mT J S cs) (hP : ∀ (v : Int) (S : St) (cs : List va_E), K v S → Wd G sh mT J S cs → Post (none) cs)  (hw : wX11_oneClass_52 l1 S K ) : Z (RX11, cX11_oneClass, 3, none, false) G d Post 52 [(0, .ref (G.1 + 54)), (1, .int (Int32.ofInt (l1)))] [] cs := by
  unfold wX11_oneClass_52 at hw
  refine z_iconst (v := Int32.ofInt 0) dX11_oneClass_52 rfl ?_
  refine z_loc (L' := [(0, .ref (G.1 + 54)), (1, .int (Int32.ofInt (l1)))]) (List.forall_mem_cons.mpr ⟨rfl, (List.forall_mem_cons.mpr ⟨rfl, (fun _ h => nomatch h)⟩)⟩) ?_
  exact bX11_oneClass_53 hd hJ hT hW hP  hw
def wX11_oneClass (a1 : Int) (S : St) (K : Int → St → Prop) : Prop := rng a1 → (wX11_name (a1) (0) (a1) S (fun r1 S2 => ((0 : Int) ≤ a1 ∧ a1 < (6 : Int) ∧ (∀ S4, S4 = pA S2 62 (a1) (0) → (iv 0 1 (S4.1 54 23) → ((S4.1 54 23 = 0 → (wX11_eat (40) S4 (fun r7 S8 => (iv 0 1 (S8.1 54 23) → ((¬ S8.1 54 23 = 0 → wX11_oneClass_52 (a1) S8 K) ∧ ((¬ (¬ S8.1 54 23 = 0)) → (iv 0 3000 (S8.1 54 22) → (wX11_signAt (S8.1 54 22) S8 (fun r12 S13 => (rng (r12) ∧ ((r12 = 41 → wX11_oneClass_52 (a1) S13 K) ∧ ((¬ (r12 = 41)) → wX11_oneClass_53 (a1) (1) S13 K)))))))))))) ∧ ((¬ (S4.1 54 23 = 0)) → K 0 S4)))))))
set_option maxRecDepth 100000 in
set_option maxHeartbeats 4000000 in
theorem lX11_oneClass {G : xG} {sh : Nat → Option Sh} {J : St → List va_E → Prop} {a1 : Int} {S : St} {cs : List va_E} {K : Int → St → Prop} (d : Nat) (hd : 4 ≤ d) (hJ : Stb sh J) (hT : isM sh) (hW : Wd G sh mT J S cs) (g1 : rng a1) (hw : wX11_oneClass a1 S K) : X G yX11_oneClass cX11_oneClass 3 none d [.ref (G.1 + 54), .int (Int32.ofInt a1)] cs (qV G sh mT J K) := by
  refine X.of false (by decide +kernel) (by decide) (Nat.le_of_ble_eq_true rfl) ?_
  show Z (RX11, cX11_oneClass, 3, none, false) G d _ 0 [(0, .ref (G.1 + 54)), (1, .int (Int32.ofInt a1))] [] cs
  have hP : ∀ (v : Int) (S : St) (cs : List va_E), K v S → Wd G sh mT J S cs → qV G sh mT J K (none) cs := fun v S cs a b => ⟨v, S, rfl, a, b⟩
  unfold wX11_oneClass at hw
  have hw := hw g1
  refine z_aload_n dX11_oneClass_0 rfl rfl ?_
  refine z_iload_n dX11_oneClass_1 rfl rfl ?_
  refine z_iconst (v := Int32.ofInt 0) dX11_oneClass_2 rfl ?_
  refine z_iload_n dX11_oneClass_3 rfl rfl ?_
  have hX := lX11_name 2 (Nat.le_refl _) hJ hT hW g1 ⟨by decide, by decide⟩ g1 hw
  refine z_callV (As := [_, _, _]) eX11_name sX11_name lX11_217 rfl dX11_oneClass_4 (hW.1 _ _ hT.1) hX (Nat.le_trans (by decide) hd) rfl (Nat.le_of_ble_eq_true rfl) (fun r cs hp => ?_)
  obtain ⟨r1, S2, rfl, hw, hW⟩ := hp
  refine z_st (st' := []) rfl ?_
  refine z_aload_n dX11_oneClass_7 rfl rfl ?_
  refine g_getR hW hT.1 mr9 kX11 fX11_32 dX11_oneClass_8 ?_
  refine z_iload_n dX11_oneClass_11 rfl rfl ?_
  refine z_iconst (v := Int32.ofInt 0) dX11_oneClass_12 rfl ?_
  obtain ⟨q3a, q3b, hw⟩ := hw
  refine g_iast hJ hW (ma62 hT) q3a q3b (by decide) ⟨by decide, by decide⟩ dX11_oneClass_13 (fun cs hW => ?_)
  obtain ⟨S4, hS4⟩ : ∃ x, x = pA S2 62 (a1) (0) := ⟨_, rfl⟩
  rw [← hS4] at hW
  have hw := hw S4 hS4
  refine z_aload_n dX11_oneClass_14 rfl rfl ?_
  have q5 : iv 0 1 (S4.1 54 23) := mI23 hW
  have hw := hw q5
  refine g_getI hW hT.1 mr23 kX11 fX11_196 dX11_oneClass_15 ?_
  refine i_if_eq (tgt := 22) dX11_oneClass_18 (by decide) (rngq q5 (by decide) (by decide)) (fun h6 => ?_) (fun h6 => ?_)
  · have hw := hw.1 h6
    refine z_aload_n dX11_oneClass_22 rfl rfl ?_
    refine z_bipush (v := Int32.ofInt 40) dX11_oneClass_23 (by decide) ?_
    have hX := lX11_eat 1 (Nat.le_refl _) hJ hT hW ⟨by decide, by decide⟩ hw
    refine z_callV (As := [_]) eX11_eat sX11_eat lX11_224 rfl dX11_oneClass_25 (hW.1 _ _ hT.1) hX (Nat.le_trans (by decide) hd) rfl (Nat.le_of_ble_eq_true rfl) (fun r cs hp => ?_)
    obtain ⟨r7, S8, rfl, hw, hW⟩ := hp
    refine z_st (st' := []) rfl ?_
    refine z_aload_n dX11_oneClass_28 rfl rfl ?_
    have q9 : iv 0 1 (S8.1 54 23) := mI23 hW
    have hw := hw q9
    refine g_getI hW hT.1 mr23 kX11 fX11_196 dX11_oneClass_29 ?_
    refine i_if_ne (tgt := 52) dX11_oneClass_32 (by decide) (rngq q9 (by decide) (by decide)) (fun h10 => ?_) (fun h10 => ?_)
    · have hw := hw.1 h10
      refine z_loc (L' := [(0, .ref (G.1 + 54)), (1, .int (Int32.ofInt (a1)))]) (List.forall_mem_cons.mpr ⟨rfl, (List.forall_mem_cons.mpr ⟨rfl, (fun _ h => nomatch h)⟩)⟩) ?_
      exact bX11_oneClass_52 hd hJ hT hW hP  hw
    · have hw := hw.2 h10
      refine z_aload_n dX11_oneClass_35 rfl rfl ?_
      refine z_aload_n dX11_oneClass_36 rfl rfl ?_
      have q11 : iv 0 3000 (S8.1 54 22) := mI22 hW
      have hw := hw q11
      refine g_getI hW hT.1 mr22 kX11 fX11_200 dX11_oneClass_37 ?_
      have hX := lX11_signAt 0 (Nat.le_refl _) hJ hT hW (rngq q11 (by decide) (by decide)) hw
      refine z_callV (As := [_]) eX11_signAt sX11_signAt lX11_182 rfl dX11_oneClass_40 (hW.1 _ _ hT.1) hX (Nat.le_trans (by decide) hd) rfl (Nat.le_of_ble_eq_true rfl) (fun r cs hp => ?_)
      obtain ⟨r12, S13, rfl, hw, hW⟩ := hp
      refine z_st (st' := [.int (Int32.ofInt (r12))]) rfl ?_
      refine z_bipush (v := Int32.ofInt 41) dX11_oneClass_43 (by decide) ?_
      obtain ⟨q15, hw⟩ := hw
      refine i_icmp_eq (tgt := 52) dX11_oneClass_45 (by decide) q15 ⟨by decide, by decide⟩ (fun h14 => ?_) (fun h14 => ?_)
      · have hw := hw.1 h14
        refine z_loc (L' := [(0, .ref (G.1 + 54)), (1, .int (Int32.ofInt (a1)))]) (List.forall_mem_cons.mpr ⟨rfl, (List.forall_mem_cons.mpr ⟨rfl, (fun _ h => nomatch h)⟩)⟩) ?_
        exact bX11_oneClass_52 hd hJ hT hW hP  hw
      · have hw := hw.2 h14
        refine z_iconst (v := Int32.ofInt 1) dX11_oneClass_48 rfl ?_
        refine z_goto (tgt := 53) dX11_oneClass_49 (by decide) ?_
        refine z_loc (L' := [(0, .ref (G.1 + 54)), (1, .int (Int32.ofInt (a1)))]) (List.forall_mem_cons.mpr ⟨rfl, (List.forall_mem_cons.mpr ⟨rfl, (fun _ h => nomatch h)⟩)⟩) ?_
        exact bX11_oneClass_53 hd hJ hT hW hP  hw
  · have hw := hw.2 h6
    exact z_return dX11_oneClass_21 rfl (hP 0 _ _ hw hW)

def wX11_classes_259' (l1 l3 : Int) (S : St) (K : Int → St → Prop) (B259 : Int → Int → St → Prop) : Prop := (rng (l3) ∧ ((6 ≤ l3 → ((0 : Int) ≤ 0 ∧ 0 < (3 : Int) ∧ (∀ S4, S4 = pA S 67 (0) (0) → ((0 : Int) ≤ 1 ∧ 1 < (3 : Int) ∧ (∀ S6, S6 = pA S4 67 (1) (0) → (∀ S7, S7 = pI S6 54 18 (0) → (∀ S8, S8 = pI S7 54 20 (0) → K (l1) S8))))))) ∧ ((¬ (6 ≤ l3)) → ((0 : Int) ≤ l3 ∧ l3 < (6 : Int) ∧ (iv 0 4 (S.2 62 (l3)) → ((0 : Int) ≤ l3 ∧ l3 < (6 : Int) ∧ (∀ S12, S12 = pA S 56 (l3) (S.2 62 (l3)) → ((0 : Int) ≤ l3 ∧ l3 < (6 : Int) ∧ (∀ S14, S14 = pA S12 61 (l3) (0) → B259 (l1) ((l3 + 1)) S14)))))))))
set_option maxRecDepth 100000 in
set_option maxHeartbeats 4000000 in
theorem bX11_classes_259' {G : xG} {sh : Nat → Option Sh} {J : St → List va_E → Prop} {d : Nat} {Post : xP} {l1 l3 : Int} {S : St} {cs : List va_E} {K : Int → St → Prop} {B259 : Int → Int → St → Prop} (hd : 5 ≤ d) (hJ : Stb sh J) (hT : isM sh) (hW : Wd G sh mT J S cs) (hP : ∀ (v : Int) (S : St) (cs : List va_E), K v S → Wd G sh mT J S cs → Post (some (.int (Int32.ofInt v))) cs) (hB259 : ∀ (l1 : Int) (l3 : Int) (S : St) (cs : List va_E), B259 l1 l3 S → Wd G sh mT J S cs → Z (RX11, cX11_classes, 4, some .int, false) G d Post 259 [(0, .ref (G.1 + 54)), (1, .int (Int32.ofInt (l1))), (3, .int (Int32.ofInt (l3)))] [] cs) (hw : wX11_classes_259' l1 l3 S K B259) : Z (RX11, cX11_classes, 4, some .int, false) G d Post 259 [(0, .ref (G.1 + 54)), (1, .int (Int32.ofInt (l1))), (3, .int (Int32.ofInt (l3)))] [] cs := by
  unfold wX11_classes_259' at hw
  refine z_iload_n dX11_classes_259 rfl rfl ?_
  refine z_bipush (v := Int32.ofInt 6) dX11_classes_260 (by decide) ?_
  obtain ⟨q2, hw⟩ := hw
  refine i_icmp_ge (tgt := 290) dX11_classes_262 (by decide) q2 ⟨by decide, by decide⟩ (fun h1 => ?_) (fun h1 => ?_)
  · have hw := hw.1 h1
    refine z_aload_n dX11_classes_290 rfl rfl ?_
    refine g_getR hW hT.1 mr14 kX11 fX11_47 dX11_classes_291 ?_
    refine z_iconst (v := Int32.ofInt 0) dX11_classes_294 rfl ?_
    refine z_iconst (v := Int32.ofInt 0) dX11_classes_295 rfl ?_
    obtain ⟨q3a, q3b, hw⟩ := hw
    refine g_iast hJ hW (ma67 hT) q3a q3b (by decide) ⟨by decide, by decide⟩ dX11_classes_296 (fun cs hW => ?_)
    obtain ⟨S4, hS4⟩ : ∃ x, x = pA S 67 (0) (0) := ⟨_, rfl⟩
    rw [← hS4] at hW
    have hw := hw S4 hS4
    refine z_aload_n dX11_classes_297 rfl rfl ?_
    refine g_getR hW hT.1 mr14 kX11 fX11_47 dX11_classes_298 ?_
    refine z_iconst (v := Int32.ofInt 1) dX11_classes_301 rfl ?_
    refine z_iconst (v := Int32.ofInt 0) dX11_classes_302 rfl ?_
    obtain ⟨q5a, q5b, hw⟩ := hw
    refine g_iast hJ hW (ma67 hT) q5a q5b (by decide) ⟨by decide, by decide⟩ dX11_classes_303 (fun cs hW => ?_)
    obtain ⟨S6, hS6⟩ : ∃ x, x = pA S4 67 (1) (0) := ⟨_, rfl⟩
    rw [← hS6] at hW
    have hw := hw S6 hS6
    refine z_aload_n dX11_classes_304 rfl rfl ?_
    refine z_iconst (v := Int32.ofInt 0) dX11_classes_305 rfl ?_
    refine g_putI hJ hW hT.1 mr18 kX11 fX11_241 dX11_classes_306 rfl (nar01 (by decide)) (fit01 (by decide)) ⟨by decide, by decide⟩ (fun cs hW => ?_)
    obtain ⟨S7, hS7⟩ : ∃ x, x = pI S6 54 18 (0) := ⟨_, rfl⟩
    rw [← hS7] at hW
    have hw := hw S7 hS7
    refine z_aload_n dX11_classes_309 rfl rfl ?_
    refine z_iconst (v := Int32.ofInt 0) dX11_classes_310 rfl ?_
    refine g_putI hJ hW hT.1 mr20 kX11 fX11_244 dX11_classes_311 rfl rfl rfl ⟨by decide, by decide⟩ (fun cs hW => ?_)
    obtain ⟨S8, hS8⟩ : ∃ x, x = pI S7 54 20 (0) := ⟨_, rfl⟩
    rw [← hS8] at hW
    have hw := hw S8 hS8
    refine z_iload_n dX11_classes_314 rfl rfl ?_
    exact z_ireturn dX11_classes_315 rfl rfl (hP _ _ _ hw hW)
  · have hw := hw.2 h1
    refine z_aload_n dX11_classes_265 rfl rfl ?_
    refine g_getR hW hT.1 mr3 kX11 fX11_13 dX11_classes_266 ?_
    refine z_iload_n dX11_classes_269 rfl rfl ?_
    refine z_aload_n dX11_classes_270 rfl rfl ?_
    refine g_getR hW hT.1 mr9 kX11 fX11_32 dX11_classes_271 ?_
    refine z_iload_n dX11_classes_274 rfl rfl ?_
    obtain ⟨q9a, q9b, hw⟩ := hw
    have q10 : iv 0 4 (S.2 62 (l3)) := mA62 hW _
    have hw := hw q10
    refine g_iald hW (ma62 hT) q9a q9b (by decide) dX11_classes_275 ?_
    obtain ⟨q11a, q11b, hw⟩ := hw
    refine g_iast hJ hW (ma56 hT) q11a q11b (by decide) q10 dX11_classes_276 (fun cs hW => ?_)
    obtain ⟨S12, hS12⟩ : ∃ x, x = pA S 56 (l3) (S.2 62 (l3)) := ⟨_, rfl⟩
    rw [← hS12] at hW
    have hw := hw S12 hS12
    refine z_aload_n dX11_classes_277 rfl rfl ?_
    refine g_getR hW hT.1 mr8 kX11 fX11_29 dX11_classes_278 ?_
    refine z_iload_n dX11_classes_281 rfl rfl ?_
    refine z_iconst (v := Int32.ofInt 0) dX11_classes_282 rfl ?_
    obtain ⟨q13a, q13b, hw⟩ := hw
    refine g_zast hJ hW (ma61 hT) q13a q13b (by decide) (by decide) ⟨by decide, by decide⟩ dX11_classes_283 (fun cs hW => ?_)
    obtain ⟨S14, hS14⟩ : ∃ x, x = pA S12 61 (l3) (0) := ⟨_, rfl⟩
    rw [← hS14] at hW
    have hw := hw S14 hS14
    refine i_iinc (l := l3) dX11_classes_284 rfl (by decide) ?_
    refine z_loc (L' := [(0, .ref (G.1 + 54)), (1, .int (Int32.ofInt (l1))), (3, .int (Int32.ofInt ((l3 + 1))))]) (List.forall_mem_cons.mpr ⟨rfl, (List.forall_mem_cons.mpr ⟨rfl, (List.forall_mem_cons.mpr ⟨rfl, (fun _ h => nomatch h)⟩)⟩)⟩) ?_
    refine z_goto (tgt := 259) dX11_classes_287 (by decide) ?_
    refine z_loc (L' := [(0, .ref (G.1 + 54)), (1, .int (Int32.ofInt (l1))), (3, .int (Int32.ofInt ((l3 + 1))))]) (List.forall_mem_cons.mpr ⟨rfl, (List.forall_mem_cons.mpr ⟨rfl, (List.forall_mem_cons.mpr ⟨rfl, (fun _ h => nomatch h)⟩)⟩)⟩) ?_
    exact hB259 _ _ _ _ hw hW
def wX11_classes_259 (l1 l3 : Int) (S : St) (K : Int → St → Prop) : Prop := ∃ (Iv : Int → Int → St → Prop) (mu : Int → Int → St → Nat), Iv l1 l3 S ∧ ∀ (l1 l3 : Int) (S : St), Iv l1 l3 S → wX11_classes_259' l1 l3 S K  (fun ml1 ml3 T => Iv ml1 ml3 T ∧ mu ml1 ml3 T < mu l1 l3 S)
set_option maxRecDepth 100000 in
set_option maxHeartbeats 4000000 in
theorem bX11_classes_259 {G : xG} {sh : Nat → Option Sh} {J : St → List va_E → Prop} {d : Nat} {Post : xP} {l1 l3 : Int} {S : St} {cs : List va_E} {K : Int → St → Prop} (hd : 5 ≤ d) (hJ : Stb sh J) (hT : isM sh) (hW : Wd G sh mT J S cs) (hP : ∀ (v : Int) (S : St) (cs : List va_E), K v S → Wd G sh mT J S cs → Post (some (.int (Int32.ofInt v))) cs)  (hw : wX11_classes_259 l1 l3 S K ) : Z (RX11, cX11_classes, 4, some .int, false) G d Post 259 [(0, .ref (G.1 + 54)), (1, .int (Int32.ofInt (l1))), (3, .int (Int32.ofInt (l3)))] [] cs := by
  unfold wX11_classes_259 at hw
  obtain ⟨Iv, mu, h0, hs⟩ := hw
  have key : ∀ (n : Nat) (l1 l3 : Int) (S : St) (cs : List va_E), mu l1 l3 S < n → Iv l1 l3 S → Wd G sh mT J S cs → Z (RX11, cX11_classes, 4, some .int, false) G d Post 259 [(0, .ref (G.1 + 54)), (1, .int (Int32.ofInt (l1))), (3, .int (Int32.ofInt (l3)))] [] cs := by
    intro n
    induction n with
    | zero => intro l1 l3 S cs hn; exact absurd hn (Nat.not_lt_zero _)
    | succ n ih =>
      intro l1 l3 S cs hn hI hW
      exact bX11_classes_259' hd hJ hT hW hP  (fun l1 l3 S cs hb hW => ih l1 l3 S cs (Nat.lt_of_lt_of_le hb.2 (Nat.le_of_lt_succ hn)) hb.1 hW) (hs l1 l3 S hI)
  exact key _ _ _ _ _ (Nat.lt_succ_self _) h0 hW
def wX11_classes_221' (l1 l3 : Int) (S : St) (K : Int → St → Prop) (B221 : Int → Int → St → Prop) : Prop := (rng (l3) ∧ ((24 ≤ l3 → wX11_classes_259 (l1) (0) S K) ∧ ((¬ (24 ≤ l3)) → ((0 : Int) ≤ l3 ∧ l3 < (24 : Int) ∧ (iv 0 3 (S.2 65 (l3)) → ((0 : Int) ≤ l3 ∧ l3 < (24 : Int) ∧ (∀ S6, S6 = pA S 59 (l3) (S.2 65 (l3)) → ((0 : Int) ≤ l3 ∧ l3 < (24 : Int) ∧ (iv 0 1 (S6.2 66 (l3)) → ((0 : Int) ≤ l3 ∧ l3 < (24 : Int) ∧ (∀ S10, S10 = pA S6 60 (l3) (S6.2 66 (l3)) → B221 (l1) ((l3 + 1)) S10)))))))))))
set_option maxRecDepth 100000 in
set_option maxHeartbeats 4000000 in
theorem bX11_classes_221' {G : xG} {sh : Nat → Option Sh} {J : St → List va_E → Prop} {d : Nat} {Post : xP} {l1 l3 : Int} {S : St} {cs : List va_E} {K : Int → St → Prop} {B221 : Int → Int → St → Prop} (hd : 5 ≤ d) (hJ : Stb sh J) (hT : isM sh) (hW : Wd G sh mT J S cs) (hP : ∀ (v : Int) (S : St) (cs : List va_E), K v S → Wd G sh mT J S cs → Post (some (.int (Int32.ofInt v))) cs) (hB221 : ∀ (l1 : Int) (l3 : Int) (S : St) (cs : List va_E), B221 l1 l3 S → Wd G sh mT J S cs → Z (RX11, cX11_classes, 4, some .int, false) G d Post 221 [(0, .ref (G.1 + 54)), (1, .int (Int32.ofInt (l1))), (3, .int (Int32.ofInt (l3)))] [] cs) (hw : wX11_classes_221' l1 l3 S K B221) : Z (RX11, cX11_classes, 4, some .int, false) G d Post 221 [(0, .ref (G.1 + 54)), (1, .int (Int32.ofInt (l1))), (3, .int (Int32.ofInt (l3)))] [] cs := by
  unfold wX11_classes_221' at hw
  refine z_iload_n dX11_classes_221 rfl rfl ?_
  refine z_bipush (v := Int32.ofInt 24) dX11_classes_222 (by decide) ?_
  obtain ⟨q2, hw⟩ := hw
  refine i_icmp_ge (tgt := 257) dX11_classes_224 (by decide) q2 ⟨by decide, by decide⟩ (fun h1 => ?_) (fun h1 => ?_)
  · have hw := hw.1 h1
    refine z_iconst (v := Int32.ofInt 0) dX11_classes_257 rfl ?_
    refine z_istore_n dX11_classes_258 rfl (by decide) ?_
    refine z_loc (L' := [(0, .ref (G.1 + 54)), (1, .int (Int32.ofInt (l1))), (3, .int (Int32.ofInt (0)))]) (List.forall_mem_cons.mpr ⟨rfl, (List.forall_mem_cons.mpr ⟨rfl, (List.forall_mem_cons.mpr ⟨rfl, (fun _ h => nomatch h)⟩)⟩)⟩) ?_
    refine z_loc (L' := [(0, .ref (G.1 + 54)), (1, .int (Int32.ofInt (l1))), (3, .int (Int32.ofInt (0)))]) (List.forall_mem_cons.mpr ⟨rfl, (List.forall_mem_cons.mpr ⟨rfl, (List.forall_mem_cons.mpr ⟨rfl, (fun _ h => nomatch h)⟩)⟩)⟩) ?_
    exact bX11_classes_259 hd hJ hT hW hP  hw
  · have hw := hw.2 h1
    refine z_aload_n dX11_classes_227 rfl rfl ?_
    refine g_getR hW hT.1 mr6 kX11 fX11_22 dX11_classes_228 ?_
    refine z_iload_n dX11_classes_231 rfl rfl ?_
    refine z_aload_n dX11_classes_232 rfl rfl ?_
    refine g_getR hW hT.1 mr12 kX11 fX11_41 dX11_classes_233 ?_
    refine z_iload_n dX11_classes_236 rfl rfl ?_
    obtain ⟨q3a, q3b, hw⟩ := hw
    have q4 : iv 0 3 (S.2 65 (l3)) := mA65 hW _
    have hw := hw q4
    refine g_iald hW (ma65 hT) q3a q3b (by decide) dX11_classes_237 ?_
    obtain ⟨q5a, q5b, hw⟩ := hw
    refine g_iast hJ hW (ma59 hT) q5a q5b (by decide) q4 dX11_classes_238 (fun cs hW => ?_)
    obtain ⟨S6, hS6⟩ : ∃ x, x = pA S 59 (l3) (S.2 65 (l3)) := ⟨_, rfl⟩
    rw [← hS6] at hW
    have hw := hw S6 hS6
    refine z_aload_n dX11_classes_239 rfl rfl ?_
    refine g_getR hW hT.1 mr7 kX11 fX11_25 dX11_classes_240 ?_
    refine z_iload_n dX11_classes_243 rfl rfl ?_
    refine z_aload_n dX11_classes_244 rfl rfl ?_
    refine g_getR hW hT.1 mr13 kX11 fX11_44 dX11_classes_245 ?_
    refine z_iload_n dX11_classes_248 rfl rfl ?_
    obtain ⟨q7a, q7b, hw⟩ := hw
    have q8 : iv 0 1 (S6.2 66 (l3)) := mA66 hW _
    have hw := hw q8
    refine g_zald hW (ma66 hT) q7a q7b (by decide) dX11_classes_249 ?_
    obtain ⟨q9a, q9b, hw⟩ := hw
    refine g_zast hJ hW (ma60 hT) q9a q9b (by decide) (b01 q8) q8 dX11_classes_250 (fun cs hW => ?_)
    obtain ⟨S10, hS10⟩ : ∃ x, x = pA S6 60 (l3) (S6.2 66 (l3)) := ⟨_, rfl⟩
    rw [← hS10] at hW
    have hw := hw S10 hS10
    refine i_iinc (l := l3) dX11_classes_251 rfl (by decide) ?_
    refine z_loc (L' := [(0, .ref (G.1 + 54)), (1, .int (Int32.ofInt (l1))), (3, .int (Int32.ofInt ((l3 + 1))))]) (List.forall_mem_cons.mpr ⟨rfl, (List.forall_mem_cons.mpr ⟨rfl, (List.forall_mem_cons.mpr ⟨rfl, (fun _ h => nomatch h)⟩)⟩)⟩) ?_
    refine z_goto (tgt := 221) dX11_classes_254 (by decide) ?_
    refine z_loc (L' := [(0, .ref (G.1 + 54)), (1, .int (Int32.ofInt (l1))), (3, .int (Int32.ofInt ((l3 + 1))))]) (List.forall_mem_cons.mpr ⟨rfl, (List.forall_mem_cons.mpr ⟨rfl, (List.forall_mem_cons.mpr ⟨rfl, (fun _ h => nomatch h)⟩)⟩)⟩) ?_
    exact hB221 _ _ _ _ hw hW
def wX11_classes_221 (l1 l3 : Int) (S : St) (K : Int → St → Prop) : Prop := ∃ (Iv : Int → Int → St → Prop) (mu : Int → Int → St → Nat), Iv l1 l3 S ∧ ∀ (l1 l3 : Int) (S : St), Iv l1 l3 S → wX11_classes_221' l1 l3 S K  (fun ml1 ml3 T => Iv ml1 ml3 T ∧ mu ml1 ml3 T < mu l1 l3 S)
set_option maxRecDepth 100000 in
set_option maxHeartbeats 4000000 in
theorem bX11_classes_221 {G : xG} {sh : Nat → Option Sh} {J : St → List va_E → Prop} {d : Nat} {Post : xP} {l1 l3 : Int} {S : St} {cs : List va_E} {K : Int → St → Prop} (hd : 5 ≤ d) (hJ : Stb sh J) (hT : isM sh) (hW : Wd G sh mT J S cs) (hP : ∀ (v : Int) (S : St) (cs : List va_E), K v S → Wd G sh mT J S cs → Post (some (.int (Int32.ofInt v))) cs)  (hw : wX11_classes_221 l1 l3 S K ) : Z (RX11, cX11_classes, 4, some .int, false) G d Post 221 [(0, .ref (G.1 + 54)), (1, .int (Int32.ofInt (l1))), (3, .int (Int32.ofInt (l3)))] [] cs := by
  unfold wX11_classes_221 at hw
  obtain ⟨Iv, mu, h0, hs⟩ := hw
  have key : ∀ (n : Nat) (l1 l3 : Int) (S : St) (cs : List va_E), mu l1 l3 S < n → Iv l1 l3 S → Wd G sh mT J S cs → Z (RX11, cX11_classes, 4, some .int, false) G d Post 221 [(0, .ref (G.1 + 54)), (1, .int (Int32.ofInt (l1))), (3, .int (Int32.ofInt (l3)))] [] cs := by
    intro n
    induction n with
    | zero => intro l1 l3 S cs hn; exact absurd hn (Nat.not_lt_zero _)
    | succ n ih =>
      intro l1 l3 S cs hn hI hW
      exact bX11_classes_221' hd hJ hT hW hP  (fun l1 l3 S cs hb hW => ih l1 l3 S cs (Nat.lt_of_lt_of_le hb.2 (Nat.le_of_lt_succ hn)) hb.1 hW) (hs l1 l3 S hI)
  exact key _ _ _ _ _ (Nat.lt_succ_self _) h0 hW
def wX11_classes_194' (l1 l3 : Int) (S : St) (K : Int → St → Prop) (B194 : Int → Int → St → Prop) : Prop := (rng (l3) ∧ ((240 ≤ l3 → wX11_classes_221 (l1) (0) S K) ∧ ((¬ (240 ≤ l3)) → ((0 : Int) ≤ l3 ∧ l3 < (240 : Int) ∧ (iv (-2147483648) 2147483647 (S.2 64 (l3)) → ((0 : Int) ≤ l3 ∧ l3 < (240 : Int) ∧ (∀ S6, S6 = pA S 58 (l3) (S.2 64 (l3)) → B194 (l1) ((l3 + 1)) S6)))))))
set_option maxRecDepth 100000 in
set_option maxHeartbeats 4000000 in
theorem bX11_classes_194' {G : xG} {sh : Nat → Option Sh} {J : St → List va_E → Prop} {d : Nat} {Post : xP} {l1 l3 : Int} {S : St} {cs : List va_E} {K : Int → St → Prop} {B194 : Int → Int → St → Prop} (hd : 5 ≤ d) (hJ : Stb sh J) (hT : isM sh) (hW : Wd G sh mT J S cs) (hP : ∀ (v : Int) (S : St) (cs : List va_E), K v S → Wd G sh mT J S cs → Post (some (.int (Int32.ofInt v))) cs) (hB194 : ∀ (l1 : Int) (l3 : Int) (S : St) (cs : List va_E), B194 l1 l3 S → Wd G sh mT J S cs → Z (RX11, cX11_classes, 4, some .int, false) G d Post 194 [(0, .ref (G.1 + 54)), (1, .int (Int32.ofInt (l1))), (3, .int (Int32.ofInt (l3)))] [] cs) (hw : wX11_classes_194' l1 l3 S K B194) : Z (RX11, cX11_classes, 4, some .int, false) G d Post 194 [(0, .ref (G.1 + 54)), (1, .int (Int32.ofInt (l1))), (3, .int (Int32.ofInt (l3)))] [] cs := by
  unfold wX11_classes_194' at hw
  refine z_iload_n dX11_classes_194 rfl rfl ?_
  refine z_sipush (v := Int32.ofInt 240) dX11_classes_195 (by decide) ?_
  obtain ⟨q2, hw⟩ := hw
  refine i_icmp_ge (tgt := 219) dX11_classes_198 (by decide) q2 ⟨by decide, by decide⟩ (fun h1 => ?_) (fun h1 => ?_)
  · have hw := hw.1 h1
    refine z_iconst (v := Int32.ofInt 0) dX11_classes_219 rfl ?_
    refine z_istore_n dX11_classes_220 rfl (by decide) ?_
    refine z_loc (L' := [(0, .ref (G.1 + 54)), (1, .int (Int32.ofInt (l1))), (3, .int (Int32.ofInt (0)))]) (List.forall_mem_cons.mpr ⟨rfl, (List.forall_mem_cons.mpr ⟨rfl, (List.forall_mem_cons.mpr ⟨rfl, (fun _ h => nomatch h)⟩)⟩)⟩) ?_
    refine z_loc (L' := [(0, .ref (G.1 + 54)), (1, .int (Int32.ofInt (l1))), (3, .int (Int32.ofInt (0)))]) (List.forall_mem_cons.mpr ⟨rfl, (List.forall_mem_cons.mpr ⟨rfl, (List.forall_mem_cons.mpr ⟨rfl, (fun _ h => nomatch h)⟩)⟩)⟩) ?_
    exact bX11_classes_221 hd hJ hT hW hP  hw
  · have hw := hw.2 h1
    refine z_aload_n dX11_classes_201 rfl rfl ?_
    refine g_getR hW hT.1 mr5 kX11 fX11_19 dX11_classes_202 ?_
    refine z_iload_n dX11_classes_205 rfl rfl ?_
    refine z_aload_n dX11_classes_206 rfl rfl ?_
    refine g_getR hW hT.1 mr11 kX11 fX11_38 dX11_classes_207 ?_
    refine z_iload_n dX11_classes_210 rfl rfl ?_
    obtain ⟨q3a, q3b, hw⟩ := hw
    have q4 : iv (-2147483648) 2147483647 (S.2 64 (l3)) := mA64 hW _
    have hw := hw q4
    refine g_iald hW (ma64 hT) q3a q3b (by decide) dX11_classes_211 ?_
    obtain ⟨q5a, q5b, hw⟩ := hw
    refine g_iast hJ hW (ma58 hT) q5a q5b (by decide) q4 dX11_classes_212 (fun cs hW => ?_)
    obtain ⟨S6, hS6⟩ : ∃ x, x = pA S 58 (l3) (S.2 64 (l3)) := ⟨_, rfl⟩
    rw [← hS6] at hW
    have hw := hw S6 hS6
    refine i_iinc (l := l3) dX11_classes_213 rfl (by decide) ?_
    refine z_loc (L' := [(0, .ref (G.1 + 54)), (1, .int (Int32.ofInt (l1))), (3, .int (Int32.ofInt ((l3 + 1))))]) (List.forall_mem_cons.mpr ⟨rfl, (List.forall_mem_cons.mpr ⟨rfl, (List.forall_mem_cons.mpr ⟨rfl, (fun _ h => nomatch h)⟩)⟩)⟩) ?_
    refine z_goto (tgt := 194) dX11_classes_216 (by decide) ?_
    refine z_loc (L' := [(0, .ref (G.1 + 54)), (1, .int (Int32.ofInt (l1))), (3, .int (Int32.ofInt ((l3 + 1))))]) (List.forall_mem_cons.mpr ⟨rfl, (List.forall_mem_cons.mpr ⟨rfl, (List.forall_mem_cons.mpr ⟨rfl, (fun _ h => nomatch h)⟩)⟩)⟩) ?_
    exact hB194 _ _ _ _ hw hW
def wX11_classes_194 (l1 l3 : Int) (S : St) (K : Int → St → Prop) : Prop := ∃ (Iv : Int → Int → St → Prop) (mu : Int → Int → St → Nat), Iv l1 l3 S ∧ ∀ (l1 l3 : Int) (S : St), Iv l1 l3 S → wX11_classes_194' l1 l3 S K  (fun ml1 ml3 T => Iv ml1 ml3 T ∧ mu ml1 ml3 T < mu l1 l3 S)
set_option maxRecDepth 100000 in
set_option maxHeartbeats 4000000 in
theorem bX11_classes_194 {G : xG} {sh : Nat → Option Sh} {J : St → List va_E → Prop} {d : Nat} {Post : xP} {l1 l3 : Int} {S : St} {cs : List va_E} {K : Int → St → Prop} (hd : 5 ≤ d) (hJ : Stb sh J) (hT : isM sh) (hW : Wd G sh mT J S cs) (hP : ∀ (v : Int) (S : St) (cs : List va_E), K v S → Wd G sh mT J S cs → Post (some (.int (Int32.ofInt v))) cs)  (hw : wX11_classes_194 l1 l3 S K ) : Z (RX11, cX11_classes, 4, some .int, false) G d Post 194 [(0, .ref (G.1 + 54)), (1, .int (Int32.ofInt (l1))), (3, .int (Int32.ofInt (l3)))] [] cs := by
  unfold wX11_classes_194 at hw
  obtain ⟨Iv, mu, h0, hs⟩ := hw
  have key : ∀ (n : Nat) (l1 l3 : Int) (S : St) (cs : List va_E), mu l1 l3 S < n → Iv l1 l3 S → Wd G sh mT J S cs → Z (RX11, cX11_classes, 4, some .int, false) G d Post 194 [(0, .ref (G.1 + 54)), (1, .int (Int32.ofInt (l1))), (3, .int (Int32.ofInt (l3)))] [] cs := by
    intro n
    induction n with
    | zero => intro l1 l3 S cs hn; exact absurd hn (Nat.not_lt_zero _)
    | succ n ih =>
      intro l1 l3 S cs hn hI hW
      exact bX11_classes_194' hd hJ hT hW hP  (fun l1 l3 S cs hb hW => ih l1 l3 S cs (Nat.lt_of_lt_of_le hb.2 (Nat.le_of_lt_succ hn)) hb.1 hW) (hs l1 l3 S hI)
  exact key _ _ _ _ _ (Nat.lt_succ_self _) h0 hW
def wX11_classes_168' (l1 l3 : Int) (S : St) (K : Int → St → Prop) (B168 : Int → Int → St → Prop) : Prop := (rng (l3) ∧ ((30 ≤ l3 → wX11_classes_194 (l1) (0) S K) ∧ ((¬ (30 ≤ l3)) → ((0 : Int) ≤ l3 ∧ l3 < (30 : Int) ∧ (iv 0 8 (S.2 63 (l3)) → ((0 : Int) ≤ l3 ∧ l3 < (30 : Int) ∧ (∀ S6, S6 = pA S 57 (l3) (S.2 63 (l3)) → B168 (l1) ((l3 + 1)) S6)))))))
set_option maxRecDepth 100000 in
set_option maxHeartbeats 4000000 in
theorem bX11_classes_168' {G : xG} {sh : Nat → Option Sh} {J : St → List va_E → Prop} {d : Nat} {Post : xP} {l1 l3 : Int} {S : St} {cs : List va_E} {K : Int → St → Prop} {B168 : Int → Int → St → Prop} (hd : 5 ≤ d) (hJ : Stb sh J) (hT : isM sh) (hW : Wd G sh mT J S cs) (hP : ∀ (v : Int) (S : St) (cs : List va_E), K v S → Wd G sh mT J S cs → Post (some (.int (Int32.ofInt v))) cs) (hB168 : ∀ (l1 : Int) (l3 : Int) (S : St) (cs : List va_E), B168 l1 l3 S → Wd G sh mT J S cs → Z (RX11, cX11_classes, 4, some .int, false) G d Post 168 [(0, .ref (G.1 + 54)), (1, .int (Int32.ofInt (l1))), (3, .int (Int32.ofInt (l3)))] [] cs) (hw : wX11_classes_168' l1 l3 S K B168) : Z (RX11, cX11_classes, 4, some .int, false) G d Post 168 [(0, .ref (G.1 + 54)), (1, .int (Int32.ofInt (l1))), (3, .int (Int32.ofInt (l3)))] [] cs := by
  unfold wX11_classes_168' at hw
  refine z_iload_n dX11_classes_168 rfl rfl ?_
  refine z_bipush (v := Int32.ofInt 30) dX11_classes_169 (by decide) ?_
  obtain ⟨q2, hw⟩ := hw
  refine i_icmp_ge (tgt := 192) dX11_classes_171 (by decide) q2 ⟨by decide, by decide⟩ (fun h1 => ?_) (fun h1 => ?_)
  · have hw := hw.1 h1
    refine z_iconst (v := Int32.ofInt 0) dX11_classes_192 rfl ?_
    refine z_istore_n dX11_classes_193 rfl (by decide) ?_
    refine z_loc (L' := [(0, .ref (G.1 + 54)), (1, .int (Int32.ofInt (l1))), (3, .int (Int32.ofInt (0)))]) (List.forall_mem_cons.mpr ⟨rfl, (List.forall_mem_cons.mpr ⟨rfl, (List.forall_mem_cons.mpr ⟨rfl, (fun _ h => nomatch h)⟩)⟩)⟩) ?_
    refine z_loc (L' := [(0, .ref (G.1 + 54)), (1, .int (Int32.ofInt (l1))), (3, .int (Int32.ofInt (0)))]) (List.forall_mem_cons.mpr ⟨rfl, (List.forall_mem_cons.mpr ⟨rfl, (List.forall_mem_cons.mpr ⟨rfl, (fun _ h => nomatch h)⟩)⟩)⟩) ?_
    exact bX11_classes_194 hd hJ hT hW hP  hw
  · have hw := hw.2 h1
    refine z_aload_n dX11_classes_174 rfl rfl ?_
    refine g_getR hW hT.1 mr4 kX11 fX11_16 dX11_classes_175 ?_
    refine z_iload_n dX11_classes_178 rfl rfl ?_
    refine z_aload_n dX11_classes_179 rfl rfl ?_
    refine g_getR hW hT.1 mr10 kX11 fX11_35 dX11_classes_180 ?_
    refine z_iload_n dX11_classes_183 rfl rfl ?_
    obtain ⟨q3a, q3b, hw⟩ := hw
    have q4 : iv 0 8 (S.2 63 (l3)) := mA63 hW _
    have hw := hw q4
    refine g_iald hW (ma63 hT) q3a q3b (by decide) dX11_classes_184 ?_
    obtain ⟨q5a, q5b, hw⟩ := hw
    refine g_iast hJ hW (ma57 hT) q5a q5b (by decide) q4 dX11_classes_185 (fun cs hW => ?_)
    obtain ⟨S6, hS6⟩ : ∃ x, x = pA S 57 (l3) (S.2 63 (l3)) := ⟨_, rfl⟩
    rw [← hS6] at hW
    have hw := hw S6 hS6
    refine i_iinc (l := l3) dX11_classes_186 rfl (by decide) ?_
    refine z_loc (L' := [(0, .ref (G.1 + 54)), (1, .int (Int32.ofInt (l1))), (3, .int (Int32.ofInt ((l3 + 1))))]) (List.forall_mem_cons.mpr ⟨rfl, (List.forall_mem_cons.mpr ⟨rfl, (List.forall_mem_cons.mpr ⟨rfl, (fun _ h => nomatch h)⟩)⟩)⟩) ?_
    refine z_goto (tgt := 168) dX11_classes_189 (by decide) ?_
    refine z_loc (L' := [(0, .ref (G.1 + 54)), (1, .int (Int32.ofInt (l1))), (3, .int (Int32.ofInt ((l3 + 1))))]) (List.forall_mem_cons.mpr ⟨rfl, (List.forall_mem_cons.mpr ⟨rfl, (List.forall_mem_cons.mpr ⟨rfl, (fun _ h => nomatch h)⟩)⟩)⟩) ?_
    exact hB168 _ _ _ _ hw hW
def wX11_classes_168 (l1 l3 : Int) (S : St) (K : Int → St → Prop) : Prop := ∃ (Iv : Int → Int → St → Prop) (mu : Int → Int → St → Nat), Iv l1 l3 S ∧ ∀ (l1 l3 : Int) (S : St), Iv l1 l3 S → wX11_classes_168' l1 l3 S K  (fun ml1 ml3 T => Iv ml1 ml3 T ∧ mu ml1 ml3 T < mu l1 l3 S)
set_option maxRecDepth 100000 in
set_option maxHeartbeats 4000000 in
theorem bX11_classes_168 {G : xG} {sh : Nat → Option Sh} {J : St → List va_E → Prop} {d : Nat} {Post : xP} {l1 l3 : Int} {S : St} {cs : List va_E} {K : Int → St → Prop} (hd : 5 ≤ d) (hJ : Stb sh J) (hT : isM sh) (hW : Wd G sh mT J S cs) (hP : ∀ (v : Int) (S : St) (cs : List va_E), K v S → Wd G sh mT J S cs → Post (some (.int (Int32.ofInt v))) cs)  (hw : wX11_classes_168 l1 l3 S K ) : Z (RX11, cX11_classes, 4, some .int, false) G d Post 168 [(0, .ref (G.1 + 54)), (1, .int (Int32.ofInt (l1))), (3, .int (Int32.ofInt (l3)))] [] cs := by
  unfold wX11_classes_168 at hw
  obtain ⟨Iv, mu, h0, hs⟩ := hw
  have key : ∀ (n : Nat) (l1 l3 : Int) (S : St) (cs : List va_E), mu l1 l3 S < n → Iv l1 l3 S → Wd G sh mT J S cs → Z (RX11, cX11_classes, 4, some .int, false) G d Post 168 [(0, .ref (G.1 + 54)), (1, .int (Int32.ofInt (l1))), (3, .int (Int32.ofInt (l3)))] [] cs := by
    intro n
    induction n with
    | zero => intro l1 l3 S cs hn; exact absurd hn (Nat.not_lt_zero _)
    | succ n ih =>
      intro l1 l3 S cs hn hI hW
      exact bX11_classes_168' hd hJ hT hW hP  (fun l1 l3 S cs hb hW => ih l1 l3 S cs (Nat.lt_of_lt_of_le hb.2 (Nat.le_of_lt_succ hn)) hb.1 hW) (hs l1 l3 S hI)
  exact key _ _ _ _ _ (Nat.lt_succ_self _) h0 hW
def wX11_classes_142 (l1 : Int) (S : St) (K : Int → St → Prop) : Prop := (∀ S1, S1 = pI S 54 0 (0) → (iv 0 1 (S1.1 54 23) → ((S1.1 54 23 = 0 → (iv 0 6 (l1) ∧ (∀ S4, S4 = pI S1 54 2 (l1) → wX11_classes_168 (l1) (0) S4 K))) ∧ ((¬ (S1.1 54 23 = 0)) → (iv 0 3000 (S1.1 54 22) → K (((-1) - S1.1 54 22)) S1)))))
set_option maxRecDepth 100000 in
set_option maxHeartbeats 4000000 in
theorem bX11_classes_142 {G : xG} {sh : Nat → Option Sh} {J : St → List va_E → Prop} {d : Nat} {Post : xP} {l1 : Int} {S : St} {cs : List va_E} {K : Int → St → Prop} (hd : 5 ≤ d) (hJ : Stb sh J) (hT : isM sh) (hW : Wd G sh mT J S cs) (hP : ∀ (v : Int) (S : St) (cs : List va_E), K v S → Wd G sh mT J S cs → Post (some (.int (Int32.ofInt v))) cs)  (hw : wX11_classes_142 l1 S K ) : Z (RX11, cX11_classes, 4, some .int, false) G d Post 142 [(0, .ref (G.1 + 54)), (1, .int (Int32.ofInt (l1)))] [] cs := by
  unfold wX11_classes_142 at hw
  refine z_aload_n dX11_classes_142 rfl rfl ?_
  refine z_iconst (v := Int32.ofInt 0) dX11_classes_143 rfl ?_
  refine g_putI hJ hW hT.1 mr0 kX11 fX11_171 dX11_classes_144 rfl rfl rfl ⟨by decide, by decide⟩ (fun cs hW => ?_)
  obtain ⟨S1, hS1⟩ : ∃ x, x = pI S 54 0 (0) := ⟨_, rfl⟩
  rw [← hS1] at hW
  have hw := hw S1 hS1
  refine z_aload_n dX11_classes_147 rfl rfl ?_
  have q2 : iv 0 1 (S1.1 54 23) := mI23 hW
  have hw := hw q2
  refine g_getI hW hT.1 mr23 kX11 fX11_196 dX11_classes_148 ?_
  refine i_if_eq (tgt := 161) dX11_classes_151 (by decide) (rngq q2 (by decide) (by decide)) (fun h3 => ?_) (fun h3 => ?_)
  · have hw := hw.1 h3
    refine z_aload_n dX11_classes_161 rfl rfl ?_
    refine z_iload_n dX11_classes_162 rfl rfl ?_
    obtain ⟨q5, hw⟩ := hw
    refine g_putI hJ hW hT.1 mr2 kX11 fX11_238 dX11_classes_163 rfl rfl rfl q5 (fun cs hW => ?_)
    obtain ⟨S4, hS4⟩ : ∃ x, x = pI S1 54 2 (l1) := ⟨_, rfl⟩
    rw [← hS4] at hW
    have hw := hw S4 hS4
    refine z_iconst (v := Int32.ofInt 0) dX11_classes_166 rfl ?_
    refine z_istore_n dX11_classes_167 rfl (by decide) ?_
    refine z_loc (L' := [(0, .ref (G.1 + 54)), (1, .int (Int32.ofInt (l1))), (3, .int (Int32.ofInt (0)))]) (List.forall_mem_cons.mpr ⟨rfl, (List.forall_mem_cons.mpr ⟨rfl, (List.forall_mem_cons.mpr ⟨rfl, (fun _ h => nomatch h)⟩)⟩)⟩) ?_
    refine z_loc (L' := [(0, .ref (G.1 + 54)), (1, .int (Int32.ofInt (l1))), (3, .int (Int32.ofInt (0)))]) (List.forall_mem_cons.mpr ⟨rfl, (List.forall_mem_cons.mpr ⟨rfl, (List.forall_mem_cons.mpr ⟨rfl, (fun _ h => nomatch h)⟩)⟩)⟩) ?_
    exact bX11_classes_168 hd hJ hT hW hP  hw
  · have hw := hw.2 h3
    refine z_iconst (v := Int32.ofInt (-1)) dX11_classes_154 rfl ?_
    refine z_aload_n dX11_classes_155 rfl rfl ?_
    have q6 : iv 0 3000 (S1.1 54 22) := mI22 hW
    have hw := hw q6
    refine g_getI hW hT.1 mr22 kX11 fX11_200 dX11_classes_156 ?_
    refine i_isub dX11_classes_159 ?_
    exact z_ireturn dX11_classes_160 rfl rfl (hP _ _ _ hw hW)
def wX11_classes_129 (l1 : Int) (S : St) (K : Int → St → Prop) : Prop := (iv 0 3000 (S.1 54 0) → (∀ S2, S2 = pI S 54 22 (S.1 54 0) → (∀ S3, S3 = pI S2 54 23 (1) → wX11_classes_142 (l1) S3 K)))
set_option maxRecDepth 100000 in
set_option maxHeartbeats 4000000 in
theorem bX11_classes_129 {G : xG} {sh : Nat → Option Sh} {J : St → List va_E → Prop} {d : Nat} {Post : xP} {l1 : Int} {S : St} {cs : List va_E} {K : Int → St → Prop} (hd : 5 ≤ d) (hJ : Stb sh J) (hT : isM sh) (hW : Wd G sh mT J S cs) (hP : ∀ (v : Int) (S : St) (cs : List va_E), K v S → Wd G sh mT J S cs → Post (some (.int (Int32.ofInt v))) cs)  (hw : wX11_classes_129 l1 S K ) : Z (RX11, cX11_classes, 4, some .int, false) G d Post 129 [(0, .ref (G.1 + 54)), (1, .int (Int32.ofInt (l1)))] [] cs := by
  unfold wX11_classes_129 at hw
  refine z_aload_n dX11_classes_129 rfl rfl ?_
  refine z_aload_n dX11_classes_130 rfl rfl ?_
  have q1 : iv 0 3000 (S.1 54 0) := mI0 hW
  have hw := hw q1
  refine g_getI hW hT.1 mr0 kX11 fX11_171 dX11_classes_131 ?_
  refine g_putI hJ hW hT.1 mr22 kX11 fX11_200 dX11_classes_134 rfl rfl rfl q1 (fun cs hW => ?_)
  obtain ⟨S2, hS2⟩ : ∃ x, x = pI S 54 22 (S.1 54 0) := ⟨_, rfl⟩
  rw [← hS2] at hW
  have hw := hw S2 hS2
  refine z_aload_n dX11_classes_137 rfl rfl ?_
  refine z_iconst (v := Int32.ofInt 1) dX11_classes_138 rfl ?_
  refine g_putI hJ hW hT.1 mr23 kX11 fX11_196 dX11_classes_139 rfl (nar01 (by decide)) (fit01 (by decide)) ⟨by decide, by decide⟩ (fun cs hW => ?_)
  obtain ⟨S3, hS3⟩ : ∃ x, x = pI S2 54 23 (1) := ⟨_, rfl⟩
  rw [← hS3] at hW
  have hw := hw S3 hS3
  refine z_loc (L' := [(0, .ref (G.1 + 54)), (1, .int (Int32.ofInt (l1)))]) (List.forall_mem_cons.mpr ⟨rfl, (List.forall_mem_cons.mpr ⟨rfl, (fun _ h => nomatch h)⟩)⟩) ?_
  exact bX11_classes_142 hd hJ hT hW hP  hw
def wX11_classes_104 (l1 s0 : Int) (S : St) (K : Int → St → Prop) : Prop := (rng (s0) ∧ (wX11_want (s0) S (fun r2 S3 => (iv 0 1 (S3.1 54 23) → ((¬ S3.1 54 23 = 0 → wX11_classes_142 (l1) S3 K) ∧ ((¬ (¬ S3.1 54 23 = 0)) → (iv 0 1 (S3.1 54 24) → ((¬ S3.1 54 24 = 0 → wX11_classes_129 (l1) S3 K) ∧ ((¬ (¬ S3.1 54 24 = 0)) → (rng (l1) ∧ (wX11_isMixed (l1) S3 (fun r9 S10 => (rng (r9) ∧ ((r9 = 0 → wX11_classes_142 (l1) S10 K) ∧ ((¬ (r9 = 0)) → wX11_classes_129 (l1) S10 K)))))))))))))))
set_option maxRecDepth 100000 in
set_option maxHeartbeats 4000000 in
theorem bX11_classes_104 {G : xG} {sh : Nat → Option Sh} {J : St → List va_E → Prop} {d : Nat} {Post : xP} {l1 s0 : Int} {S : St} {cs : List va_E} {K : Int → St → Prop} (hd : 5 ≤ d) (hJ : Stb sh J) (hT : isM sh) (hW : Wd G sh mT J S cs) (hP : ∀ (v : Int) (S : St) (cs : List va_E), K v S → Wd G sh mT J S cs → Post (some (.int (Int32.ofInt v))) cs)  (hw : wX11_classes_104 l1 s0 S K ) : Z (RX11, cX11_classes, 4, some .int, false) G d Post 104 [(0, .ref (G.1 + 54)), (1, .int (Int32.ofInt (l1)))] [.int (Int32.ofInt (s0)), .ref (G.1 + 54)] cs := by
  unfold wX11_classes_104 at hw
  obtain ⟨q1, hw⟩ := hw
  have hX := lX11_want 0 (Nat.le_refl _) hJ hT hW q1 hw
  refine z_callV (As := [_]) eX11_want sX11_want lX11_213 rfl dX11_classes_104 (hW.1 _ _ hT.1) hX (Nat.le_trans (by decide) hd) rfl (Nat.le_of_ble_eq_true rfl) (fun r cs hp => ?_)
  obtain ⟨r2, S3, rfl, hw, hW⟩ := hp
  refine z_st (st' := []) rfl ?_
  refine z_aload_n dX11_classes_107 rfl rfl ?_
  have q4 : iv 0 1 (S3.1 54 23) := mI23 hW
  have hw := hw q4
  refine g_getI hW hT.1 mr23 kX11 fX11_196 dX11_classes_108 ?_
  refine i_if_ne (tgt := 142) dX11_classes_111 (by decide) (rngq q4 (by decide) (by decide)) (fun h5 => ?_) (fun h5 => ?_)
  · have hw := hw.1 h5
    refine z_loc (L' := [(0, .ref (G.1 + 54)), (1, .int (Int32.ofInt (l1)))]) (List.forall_mem_cons.mpr ⟨rfl, (List.forall_mem_cons.mpr ⟨rfl, (fun _ h => nomatch h)⟩)⟩) ?_
    exact bX11_classes_142 hd hJ hT hW hP  hw
  · have hw := hw.2 h5
    refine z_aload_n dX11_classes_114 rfl rfl ?_
    have q6 : iv 0 1 (S3.1 54 24) := mI24 hW
    have hw := hw q6
    refine g_getI hW hT.1 mr24 kX11 fX11_210 dX11_classes_115 ?_
    refine i_if_ne (tgt := 129) dX11_classes_118 (by decide) (rngq q6 (by decide) (by decide)) (fun h7 => ?_) (fun h7 => ?_)
    · have hw := hw.1 h7
      refine z_loc (L' := [(0, .ref (G.1 + 54)), (1, .int (Int32.ofInt (l1)))]) (List.forall_mem_cons.mpr ⟨rfl, (List.forall_mem_cons.mpr ⟨rfl, (fun _ h => nomatch h)⟩)⟩) ?_
      exact bX11_classes_129 hd hJ hT hW hP  hw
    · have hw := hw.2 h7
      refine z_aload_n dX11_classes_121 rfl rfl ?_
      refine z_iload_n dX11_classes_122 rfl rfl ?_
      obtain ⟨q8, hw⟩ := hw
      have hX := lX11_isMixed 1 (Nat.le_refl _) hJ hT hW q8 hw
      refine z_callV (As := [_]) eX11_isMixed sX11_isMixed lX11_235 rfl dX11_classes_123 (hW.1 _ _ hT.1) hX (Nat.le_trans (by decide) hd) rfl (Nat.le_of_ble_eq_true rfl) (fun r cs hp => ?_)
      obtain ⟨r9, S10, rfl, hw, hW⟩ := hp
      refine z_st (st' := [.int (Int32.ofInt (r9))]) rfl ?_
      obtain ⟨q12, hw⟩ := hw
      refine i_if_eq (tgt := 142) dX11_classes_126 (by decide) q12 (fun h11 => ?_) (fun h11 => ?_)
      · have hw := hw.1 h11
        refine z_loc (L' := [(0, .ref (G.1 + 54)), (1, .int (Int32.ofInt (l1)))]) (List.forall_mem_cons.mpr ⟨rfl, (List.forall_mem_cons.mpr ⟨rfl, (fun _ h => nomatch h)⟩)⟩) ?_
        exact bX11_classes_142 hd hJ hT hW hP  hw
      · have hw := hw.2 h11
        refine z_loc (L' := [(0, .ref (G.1 + 54)), (1, .int (Int32.ofInt (l1)))]) (List.forall_mem_cons.mpr ⟨rfl, (List.forall_mem_cons.mpr ⟨rfl, (fun _ h => nomatch h)⟩)⟩) ?_
        exact bX11_classes_129 hd hJ hT hW hP  hw
def wX11_classes_81 (l1 l2 s0 : Int) (S : St) (K : Int → St → Prop) (B19 : Int → Int → St → Prop) : Prop := (iv 0 3000 (s0) ∧ (∀ S1, S1 = pI S 54 22 (s0) → B19 (l1) (l2) S1))
set_option maxRecDepth 100000 in
set_option maxHeartbeats 4000000 in
theorem bX11_classes_81 {G : xG} {sh : Nat → Option Sh} {J : St → List va_E → Prop} {d : Nat} {Post : xP} {l1 l2 s0 : Int} {S : St} {cs : List va_E} {K : Int → St → Prop} {B19 : Int → Int → St → Prop} (hd : 5 ≤ d) (hJ : Stb sh J) (hT : isM sh) (hW : Wd G sh mT J S cs) (hP : ∀ (v : Int) (S : St) (cs : List va_E), K v S → Wd G sh mT J S cs → Post (some (.int (Int32.ofInt v))) cs) (hB19 : ∀ (l1 : Int) (l2 : Int) (S : St) (cs : List va_E), B19 l1 l2 S → Wd G sh mT J S cs → Z (RX11, cX11_classes, 4, some .int, false) G d Post 19 [(0, .ref (G.1 + 54)), (1, .int (Int32.ofInt (l1))), (2, .int (Int32.ofInt (l2)))] [] cs) (hw : wX11_classes_81 l1 l2 s0 S K B19) : Z (RX11, cX11_classes, 4, some .int, false) G d Post 81 [(0, .ref (G.1 + 54)), (1, .int (Int32.ofInt (l1))), (2, .int (Int32.ofInt (l2)))] [.int (Int32.ofInt (s0)), .ref (G.1 + 54)] cs := by
  unfold wX11_classes_81 at hw
  obtain ⟨q2, hw⟩ := hw
  refine g_putI hJ hW hT.1 mr22 kX11 fX11_200 dX11_classes_81 rfl rfl rfl q2 (fun cs hW => ?_)
  obtain ⟨S1, hS1⟩ : ∃ x, x = pI S 54 22 (s0) := ⟨_, rfl⟩
  rw [← hS1] at hW
  have hw := hw S1 hS1
  refine z_goto (tgt := 19) dX11_classes_84 (by decide) ?_
  refine z_loc (L' := [(0, .ref (G.1 + 54)), (1, .int (Int32.ofInt (l1))), (2, .int (Int32.ofInt (l2)))]) (List.forall_mem_cons.mpr ⟨rfl, (List.forall_mem_cons.mpr ⟨rfl, (List.forall_mem_cons.mpr ⟨rfl, (fun _ h => nomatch h)⟩)⟩)⟩) ?_
  exact hB19 _ _ _ _ hw hW
def wX11_classes_62 (l1 s0 : Int) (S : St) (K : Int → St → Prop) (B19 : Int → Int → St → Prop) : Prop := (rng (s0) ∧ ((s0 = 0 → (iv 0 3000 (S.1 54 22) → wX11_classes_81 (l1) (s0) (S.1 54 22) S K B19)) ∧ ((¬ (s0 = 0)) → (iv 0 3000 (S.1 54 22) → wX11_classes_81 (l1) (s0) ((S.1 54 22 + 1)) S K B19))))
set_option maxRecDepth 100000 in
set_option maxHeartbeats 4000000 in
theorem bX11_classes_62 {G : xG} {sh : Nat → Option Sh} {J : St → List va_E → Prop} {d : Nat} {Post : xP} {l1 s0 : Int} {S : St} {cs : List va_E} {K : Int → St → Prop} {B19 : Int → Int → St → Prop} (hd : 5 ≤ d) (hJ : Stb sh J) (hT : isM sh) (hW : Wd G sh mT J S cs) (hP : ∀ (v : Int) (S : St) (cs : List va_E), K v S → Wd G sh mT J S cs → Post (some (.int (Int32.ofInt v))) cs) (hB19 : ∀ (l1 : Int) (l2 : Int) (S : St) (cs : List va_E), B19 l1 l2 S → Wd G sh mT J S cs → Z (RX11, cX11_classes, 4, some .int, false) G d Post 19 [(0, .ref (G.1 + 54)), (1, .int (Int32.ofInt (l1))), (2, .int (Int32.ofInt (l2)))] [] cs) (hw : wX11_classes_62 l1 s0 S K B19) : Z (RX11, cX11_classes, 4, some .int, false) G d Post 62 [(0, .ref (G.1 + 54)), (1, .int (Int32.ofInt (l1)))] [.int (Int32.ofInt (s0))] cs := by
  unfold wX11_classes_62 at hw
  refine z_istore_n dX11_classes_62 rfl (by decide) ?_
  refine z_loc (L' := [(0, .ref (G.1 + 54)), (1, .int (Int32.ofInt (l1))), (2, .int (Int32.ofInt (s0)))]) (List.forall_mem_cons.mpr ⟨rfl, (List.forall_mem_cons.mpr ⟨rfl, (List.forall_mem_cons.mpr ⟨rfl, (fun _ h => nomatch h)⟩)⟩)⟩) ?_
  refine z_aload_n dX11_classes_63 rfl rfl ?_
  refine z_iload_n dX11_classes_64 rfl rfl ?_
  obtain ⟨q2, hw⟩ := hw
  refine i_if_eq (tgt := 77) dX11_classes_65 (by decide) q2 (fun h1 => ?_) (fun h1 => ?_)
  · have hw := hw.1 h1
    refine z_aload_n dX11_classes_77 rfl rfl ?_
    have q3 : iv 0 3000 (S.1 54 22) := mI22 hW
    have hw := hw q3
    refine g_getI hW hT.1 mr22 kX11 fX11_200 dX11_classes_78 ?_
    refine z_loc (L' := [(0, .ref (G.1 + 54)), (1, .int (Int32.ofInt (l1))), (2, .int (Int32.ofInt (s0)))]) (List.forall_mem_cons.mpr ⟨rfl, (List.forall_mem_cons.mpr ⟨rfl, (List.forall_mem_cons.mpr ⟨rfl, (fun _ h => nomatch h)⟩)⟩)⟩) ?_
    exact bX11_classes_81 hd hJ hT hW hP hB19 hw
  · have hw := hw.2 h1
    refine z_aload_n dX11_classes_68 rfl rfl ?_
    have q4 : iv 0 3000 (S.1 54 22) := mI22 hW
    have hw := hw q4
    refine g_getI hW hT.1 mr22 kX11 fX11_200 dX11_classes_69 ?_
    refine z_iconst (v := Int32.ofInt 1) dX11_classes_72 rfl ?_
    refine i_iadd dX11_classes_73 ?_
    refine z_goto (tgt := 81) dX11_classes_74 (by decide) ?_
    refine z_loc (L' := [(0, .ref (G.1 + 54)), (1, .int (Int32.ofInt (l1))), (2, .int (Int32.ofInt (s0)))]) (List.forall_mem_cons.mpr ⟨rfl, (List.forall_mem_cons.mpr ⟨rfl, (List.forall_mem_cons.mpr ⟨rfl, (fun _ h => nomatch h)⟩)⟩)⟩) ?_
    exact bX11_classes_81 hd hJ hT hW hP hB19 hw
def wX11_classes_61 (l1 : Int) (S : St) (K : Int → St → Prop) (B19 : Int → Int → St → Prop) : Prop := wX11_classes_62 (l1) (0) S K B19
set_option maxRecDepth 100000 in
set_option maxHeartbeats 4000000 in
theorem bX11_classes_61 {G : xG} {sh : Nat → Option Sh} {J : St → List va_E → Prop} {d : Nat} {Post : xP} {l1 : Int} {S : St} {cs : List va_E} {K : Int → St → Prop} {B19 : Int → Int → St → Prop} (hd : 5 ≤ d) (hJ : Stb sh J) (hT : isM sh) (hW : Wd G sh mT J S cs) (hP : ∀ (v : Int) (S : St) (cs : List va_E), K v S → Wd G sh mT J S cs → Post (some (.int (Int32.ofInt v))) cs) (hB19 : ∀ (l1 : Int) (l2 : Int) (S : St) (cs : List va_E), B19 l1 l2 S → Wd G sh mT J S cs → Z (RX11, cX11_classes, 4, some .int, false) G d Post 19 [(0, .ref (G.1 + 54)), (1, .int (Int32.ofInt (l1))), (2, .int (Int32.ofInt (l2)))] [] cs) (hw : wX11_classes_61 l1 S K B19) : Z (RX11, cX11_classes, 4, some .int, false) G d Post 61 [(0, .ref (G.1 + 54)), (1, .int (Int32.ofInt (l1)))] [] cs := by
  unfold wX11_classes_61 at hw
  refine z_iconst (v := Int32.ofInt 0) dX11_classes_61 rfl ?_
  refine z_loc (L' := [(0, .ref (G.1 + 54)), (1, .int (Int32.ofInt (l1)))]) (List.forall_mem_cons.mpr ⟨rfl, (List.forall_mem_cons.mpr ⟨rfl, (fun _ h => nomatch h)⟩)⟩) ?_
  exact bX11_classes_62 hd hJ hT hW hP hB19 hw
def wX11_classes_19' (l1 l2 : Int) (S : St) (K : Int → St → Prop) (B19 : Int → Int → St → Prop) : Prop := (rng (l2) ∧ ((l2 = 0 → (iv 0 3000 (S.1 54 22) → (iv 0 3000 (S.1 54 0) → ((¬ S.1 54 22 = S.1 54 0 → wX11_classes_104 (l1) (0) S K) ∧ ((¬ (¬ S.1 54 22 = S.1 54 0)) → wX11_classes_104 (l1) (1) S K))))) ∧ ((¬ (l2 = 0)) → (rng (l1) ∧ (wX11_oneClass (l1) S (fun r7 S8 => (iv 0 1 (S8.1 54 23) → ((¬ S8.1 54 23 = 0 → wX11_classes_61 ((l1 + 1)) S8 K B19) ∧ ((¬ (¬ S8.1 54 23 = 0)) → (rng ((l1 + 1)) ∧ ((6 ≤ (l1 + 1) → wX11_classes_61 ((l1 + 1)) S8 K B19) ∧ ((¬ (6 ≤ (l1 + 1))) → (iv 0 3000 (S8.1 54 22) → (wX11_signAt (S8.1 54 22) S8 (fun r14 S15 => (rng (r14) ∧ ((¬ r14 = 59 → wX11_classes_61 ((l1 + 1)) S15 K B19) ∧ ((¬ (¬ r14 = 59)) → wX11_classes_62 ((l1 + 1)) (1) S15 K B19))))))))))))))))))
set_option maxRecDepth 100000 in
set_option maxHeartbeats 4000000 in
theorem bX11_classes_19' {G : xG} {sh : Nat → Option Sh} {J : St → List va_E → Prop} {d : Nat} {Post : xP} {l1 l2 : Int} {S : St} {cs : List va_E} {K : Int → St → Prop} {B19 : Int → Int → St → Prop} (hd : 5 ≤ d) (hJ : Stb sh J) (hT : isM sh) (hW : Wd G sh mT J S cs) (hP : ∀ (v : Int) (S : St) (cs : List va_E), K v S → Wd G sh mT J S cs → Post (some (.int (Int32.ofInt v))) cs) (hB19 : ∀ (l1 : Int) (l2 : Int) (S : St) (cs : List va_E), B19 l1 l2 S → Wd G sh mT J S cs → Z (RX11, cX11_classes, 4, some .int, false) G d Post 19 [(0, .ref (G.1 + 54)), (1, .int (Int32.ofInt (l1))), (2, .int (Int32.ofInt (l2)))] [] cs) (hw : wX11_classes_19' l1 l2 S K B19) : Z (RX11, cX11_classes, 4, some .int, false) G d Post 19 [(0, .ref (G.1 + 54)), (1, .int (Int32.ofInt (l1))), (2, .int (Int32.ofInt (l2)))] [] cs := by
  unfold wX11_classes_19' at hw
  refine z_iload_n dX11_classes_19 rfl rfl ?_
  obtain ⟨q2, hw⟩ := hw
  refine i_if_eq (tgt := 87) dX11_classes_20 (by decide) q2 (fun h1 => ?_) (fun h1 => ?_)
  · have hw := hw.1 h1
    refine z_aload_n dX11_classes_87 rfl rfl ?_
    refine z_aload_n dX11_classes_88 rfl rfl ?_
    have q3 : iv 0 3000 (S.1 54 22) := mI22 hW
    have hw := hw q3
    refine g_getI hW hT.1 mr22 kX11 fX11_200 dX11_classes_89 ?_
    refine z_aload_n dX11_classes_92 rfl rfl ?_
    have q4 : iv 0 3000 (S.1 54 0) := mI0 hW
    have hw := hw q4
    refine g_getI hW hT.1 mr0 kX11 fX11_171 dX11_classes_93 ?_
    refine i_icmp_ne (tgt := 103) dX11_classes_96 (by decide) (rngq q3 (by decide) (by decide)) (rngq q4 (by decide) (by decide)) (fun h5 => ?_) (fun h5 => ?_)
    · have hw := hw.1 h5
      refine z_iconst (v := Int32.ofInt 0) dX11_classes_103 rfl ?_
      refine z_loc (L' := [(0, .ref (G.1 + 54)), (1, .int (Int32.ofInt (l1)))]) (List.forall_mem_cons.mpr ⟨rfl, (List.forall_mem_cons.mpr ⟨rfl, (fun _ h => nomatch h)⟩)⟩) ?_
      exact bX11_classes_104 hd hJ hT hW hP  hw
    · have hw := hw.2 h5
      refine z_iconst (v := Int32.ofInt 1) dX11_classes_99 rfl ?_
      refine z_goto (tgt := 104) dX11_classes_100 (by decide) ?_
      refine z_loc (L' := [(0, .ref (G.1 + 54)), (1, .int (Int32.ofInt (l1)))]) (List.forall_mem_cons.mpr ⟨rfl, (List.forall_mem_cons.mpr ⟨rfl, (fun _ h => nomatch h)⟩)⟩) ?_
      exact bX11_classes_104 hd hJ hT hW hP  hw
  · have hw := hw.2 h1
    refine z_aload_n dX11_classes_23 rfl rfl ?_
    refine z_iload_n dX11_classes_24 rfl rfl ?_
    obtain ⟨q6, hw⟩ := hw
    have hX := lX11_oneClass 4 (Nat.le_refl _) hJ hT hW q6 hw
    refine z_callV (As := [_]) eX11_oneClass sX11_oneClass lX11_232 rfl dX11_classes_25 (hW.1 _ _ hT.1) hX (Nat.le_trans (by decide) hd) rfl (Nat.le_of_ble_eq_true rfl) (fun r cs hp => ?_)
    obtain ⟨r7, S8, rfl, hw, hW⟩ := hp
    refine z_st (st' := []) rfl ?_
    refine i_iinc (l := l1) dX11_classes_28 rfl (by decide) ?_
    refine z_loc (L' := [(0, .ref (G.1 + 54)), (1, .int (Int32.ofInt ((l1 + 1)))), (2, .int (Int32.ofInt (l2)))]) (List.forall_mem_cons.mpr ⟨rfl, (List.forall_mem_cons.mpr ⟨rfl, (List.forall_mem_cons.mpr ⟨rfl, (fun _ h => nomatch h)⟩)⟩)⟩) ?_
    refine z_aload_n dX11_classes_31 rfl rfl ?_
    have q9 : iv 0 1 (S8.1 54 23) := mI23 hW
    have hw := hw q9
    refine g_getI hW hT.1 mr23 kX11 fX11_196 dX11_classes_32 ?_
    refine i_if_ne (tgt := 61) dX11_classes_35 (by decide) (rngq q9 (by decide) (by decide)) (fun h10 => ?_) (fun h10 => ?_)
    · have hw := hw.1 h10
      refine z_loc (L' := [(0, .ref (G.1 + 54)), (1, .int (Int32.ofInt ((l1 + 1))))]) (List.forall_mem_cons.mpr ⟨rfl, (List.forall_mem_cons.mpr ⟨rfl, (fun _ h => nomatch h)⟩)⟩) ?_
      exact bX11_classes_61 hd hJ hT hW hP hB19 hw
    · have hw := hw.2 h10
      refine z_iload_n dX11_classes_38 rfl rfl ?_
      refine z_bipush (v := Int32.ofInt 6) dX11_classes_39 (by decide) ?_
      obtain ⟨q12, hw⟩ := hw
      refine i_icmp_ge (tgt := 61) dX11_classes_41 (by decide) q12 ⟨by decide, by decide⟩ (fun h11 => ?_) (fun h11 => ?_)
      · have hw := hw.1 h11
        refine z_loc (L' := [(0, .ref (G.1 + 54)), (1, .int (Int32.ofInt ((l1 + 1))))]) (List.forall_mem_cons.mpr ⟨rfl, (List.forall_mem_cons.mpr ⟨rfl, (fun _ h => nomatch h)⟩)⟩) ?_
        exact bX11_classes_61 hd hJ hT hW hP hB19 hw
      · have hw := hw.2 h11
        refine z_aload_n dX11_classes_44 rfl rfl ?_
        refine z_aload_n dX11_classes_45 rfl rfl ?_
        have q13 : iv 0 3000 (S8.1 54 22) := mI22 hW
        have hw := hw q13
        refine g_getI hW hT.1 mr22 kX11 fX11_200 dX11_classes_46 ?_
        have hX := lX11_signAt 0 (Nat.le_refl _) hJ hT hW (rngq q13 (by decide) (by decide)) hw
        refine z_callV (As := [_]) eX11_signAt sX11_signAt lX11_182 rfl dX11_classes_49 (hW.1 _ _ hT.1) hX (Nat.le_trans (by decide) hd) rfl (Nat.le_of_ble_eq_true rfl) (fun r cs hp => ?_)
        obtain ⟨r14, S15, rfl, hw, hW⟩ := hp
        refine z_st (st' := [.int (Int32.ofInt (r14))]) rfl ?_
        refine z_bipush (v := Int32.ofInt 59) dX11_classes_52 (by decide) ?_
        obtain ⟨q17, hw⟩ := hw
        refine i_icmp_ne (tgt := 61) dX11_classes_54 (by decide) q17 ⟨by decide, by decide⟩ (fun h16 => ?_) (fun h16 => ?_)
        · have hw := hw.1 h16
          refine z_loc (L' := [(0, .ref (G.1 + 54)), (1, .int (Int32.ofInt ((l1 + 1))))]) (List.forall_mem_cons.mpr ⟨rfl, (List.forall_mem_cons.mpr ⟨rfl, (fun _ h => nomatch h)⟩)⟩) ?_
          exact bX11_classes_61 hd hJ hT hW hP hB19 hw
        · have hw := hw.2 h16
          refine z_iconst (v := Int32.ofInt 1) dX11_classes_57 rfl ?_
          refine z_goto (tgt := 62) dX11_classes_58 (by decide) ?_
          refine z_loc (L' := [(0, .ref (G.1 + 54)), (1, .int (Int32.ofInt ((l1 + 1))))]) (List.forall_mem_cons.mpr ⟨rfl, (List.forall_mem_cons.mpr ⟨rfl, (fun _ h => nomatch h)⟩)⟩) ?_
          exact bX11_classes_62 hd hJ hT hW hP hB19 hw
def wX11_classes_19 (l1 l2 : Int) (S : St) (K : Int → St → Prop) : Prop := ∃ (Iv : Int → Int → St → Prop) (mu : Int → Int → St → Nat), Iv l1 l2 S ∧ ∀ (l1 l2 : Int) (S : St), Iv l1 l2 S → wX11_classes_19' l1 l2 S K  (fun ml1 ml2 T => Iv ml1 ml2 T ∧ mu ml1 ml2 T < mu l1 l2 S)
set_option maxRecDepth 100000 in
set_option maxHeartbeats 4000000 in
theorem bX11_classes_19 {G : xG} {sh : Nat → Option Sh} {J : St → List va_E → Prop} {d : Nat} {Post : xP} {l1 l2 : Int} {S : St} {cs : List va_E} {K : Int → St → Prop} (hd : 5 ≤ d) (hJ : Stb sh J) (hT : isM sh) (hW : Wd G sh mT J S cs) (hP : ∀ (v : Int) (S : St) (cs : List va_E), K v S → Wd G sh mT J S cs → Post (some (.int (Int32.ofInt v))) cs)  (hw : wX11_classes_19 l1 l2 S K ) : Z (RX11, cX11_classes, 4, some .int, false) G d Post 19 [(0, .ref (G.1 + 54)), (1, .int (Int32.ofInt (l1))), (2, .int (Int32.ofInt (l2)))] [] cs := by
  unfold wX11_classes_19 at hw
  obtain ⟨Iv, mu, h0, hs⟩ := hw
  have key : ∀ (n : Nat) (l1 l2 : Int) (S : St) (cs : List va_E), mu l1 l2 S < n → Iv l1 l2 S → Wd G sh mT J S cs → Z (RX11, cX11_classes, 4, some .int, false) G d Post 19 [(0, .ref (G.1 + 54)), (1, .int (Int32.ofInt (l1))), (2, .int (Int32.ofInt (l2)))] [] cs := by
    intro n
    induction n with
    | zero => intro l1 l2 S cs hn; exact absurd hn (Nat.not_lt_zero _)
    | succ n ih =>
      intro l1 l2 S cs hn hI hW
      exact bX11_classes_19' hd hJ hT hW hP  (fun l1 l2 S cs hb hW => ih l1 l2 S cs (Nat.lt_of_lt_of_le hb.2 (Nat.le_of_lt_succ hn)) hb.1 hW) (hs l1 l2 S hI)
  exact key _ _ _ _ _ (Nat.lt_succ_self _) h0 hW
def wX11_classes (S : St) (K : Int → St → Prop) : Prop := (∀ S1, S1 = pI S 54 22 (0) → (∀ S2, S2 = pI S1 54 23 (0) → (∀ S3, S3 = pI S2 54 24 (0) → wX11_classes_19 (0) (1) S3 K)))
set_option maxRecDepth 100000 in
set_option maxHeartbeats 4000000 in
theorem lX11_classes {G : xG} {sh : Nat → Option Sh} {J : St → List va_E → Prop} {S : St} {cs : List va_E} {K : Int → St → Prop} (d : Nat) (hd : 5 ≤ d) (hJ : Stb sh J) (hT : isM sh) (hW : Wd G sh mT J S cs)  (hw : wX11_classes  S K) : X G yX11_classes cX11_classes 4 (some .int) d [.ref (G.1 + 54)] cs (qI G sh mT J K) := by
  refine X.of false (by decide +kernel) (by decide) (Nat.le_of_ble_eq_true rfl) ?_
  show Z (RX11, cX11_classes, 4, some .int, false) G d _ 0 [(0, .ref (G.1 + 54))] [] cs
  have hP : ∀ (v : Int) (S : St) (cs : List va_E), K v S → Wd G sh mT J S cs → qI G sh mT J K (some (.int (Int32.ofInt v))) cs := fun v S cs a b => ⟨v, S, rfl, a, b⟩
  unfold wX11_classes at hw
  refine z_aload_n dX11_classes_0 rfl rfl ?_
  refine z_iconst (v := Int32.ofInt 0) dX11_classes_1 rfl ?_
  refine g_putI hJ hW hT.1 mr22 kX11 fX11_200 dX11_classes_2 rfl rfl rfl ⟨by decide, by decide⟩ (fun cs hW => ?_)
  obtain ⟨S1, hS1⟩ : ∃ x, x = pI S 54 22 (0) := ⟨_, rfl⟩
  rw [← hS1] at hW
  have hw := hw S1 hS1
  refine z_aload_n dX11_classes_5 rfl rfl ?_
  refine z_iconst (v := Int32.ofInt 0) dX11_classes_6 rfl ?_
  refine g_putI hJ hW hT.1 mr23 kX11 fX11_196 dX11_classes_7 rfl (nar01 (by decide)) (fit01 (by decide)) ⟨by decide, by decide⟩ (fun cs hW => ?_)
  obtain ⟨S2, hS2⟩ : ∃ x, x = pI S1 54 23 (0) := ⟨_, rfl⟩
  rw [← hS2] at hW
  have hw := hw S2 hS2
  refine z_aload_n dX11_classes_10 rfl rfl ?_
  refine z_iconst (v := Int32.ofInt 0) dX11_classes_11 rfl ?_
  refine g_putI hJ hW hT.1 mr24 kX11 fX11_210 dX11_classes_12 rfl (nar01 (by decide)) (fit01 (by decide)) ⟨by decide, by decide⟩ (fun cs hW => ?_)
  obtain ⟨S3, hS3⟩ : ∃ x, x = pI S2 54 24 (0) := ⟨_, rfl⟩
  rw [← hS3] at hW
  have hw := hw S3 hS3
  refine z_iconst (v := Int32.ofInt 0) dX11_classes_15 rfl ?_
  refine z_istore_n dX11_classes_16 rfl (by decide) ?_
  refine z_loc (L' := [(0, .ref (G.1 + 54)), (1, .int (Int32.ofInt (0)))]) (List.forall_mem_cons.mpr ⟨rfl, (List.forall_mem_cons.mpr ⟨rfl, (fun _ h => nomatch h)⟩)⟩) ?_
  refine z_iconst (v := Int32.ofInt 1) dX11_classes_17 rfl ?_
  refine z_istore_n dX11_classes_18 rfl (by decide) ?_
  refine z_loc (L' := [(0, .ref (G.1 + 54)), (1, .int (Int32.ofInt (0))), (2, .int (Int32.ofInt (1)))]) (List.forall_mem_cons.mpr ⟨rfl, (List.forall_mem_cons.mpr ⟨rfl, (List.forall_mem_cons.mpr ⟨rfl, (fun _ h => nomatch h)⟩)⟩)⟩) ?_
  refine z_loc (L' := [(0, .ref (G.1 + 54)), (1, .int (Int32.ofInt (0))), (2, .int (Int32.ofInt (1)))]) (List.forall_mem_cons.mpr ⟨rfl, (List.forall_mem_cons.mpr ⟨rfl, (List.forall_mem_cons.mpr ⟨rfl, (fun _ h => nomatch h)⟩)⟩)⟩) ?_
  exact bX11_classes_19 hd hJ hT hW hP  hw

