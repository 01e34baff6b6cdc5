def wX11_isId_135 (l1 l4 l6 s0 : Int) (S : St) (K : Int → St → Prop) (B107 : Int → Int → Int → Int → St → Prop) : Prop := B107 (l1) (l4) (s0) ((l6 + 1)) S
set_option maxRecDepth 100000 in
set_option maxHeartbeats 4000000 in
theorem bX11_isId_135 {G : xG} {sh : Nat → Option Sh} {J : St → List va_E → Prop} {d : Nat} {Post : xP} {l1 l4 l6 s0 : Int} {S : St} {cs : List va_E} {K : Int → St → Prop} {B107 : Int → Int → Int → Int → St → Prop} (hd : 1 ≤ d) (hJ : Stb sh J) (hT : isM sh) (hW : Wd G sh mT J S cs) (hP : ∀ (v : Int) (S : St) (cs : List va_E), K v S → Wd G sh mT J S cs → Post (some (.int (Int32.ofInt v))) cs) (hB107 : ∀ (l1 : Int) (l4 : Int) (l5 : Int) (l6 : Int) (S : St) (cs : List va_E), B107 l1 l4 l5 l6 S → Wd G sh mT J S cs → Z (RX11, cX11_isId, 7, some .boolean, false) G d Post 107 [(0, .ref (G.1 + 54)), (1, .int (Int32.ofInt (l1))), (4, .int (Int32.ofInt (l4))), (5, .int (Int32.ofInt (l5))), (6, .int (Int32.ofInt (l6)))] [] cs) (hw : wX11_isId_135 l1 l4 l6 s0 S K B107) : Z (RX11, cX11_isId, 7, some .boolean, false) G d Post 135 [(0, .ref (G.1 + 54)), (1, .int (Int32.ofInt (l1))), (4, .int (Int32.ofInt (l4))), (6, .int (Int32.ofInt (l6)))] [.int (Int32.ofInt (s0))] cs := by
  unfold wX11_isId_135 at hw
  refine z_istore dX11_isId_135 (by decide) ?_
  refine z_loc (L' := [(0, .ref (G.1 + 54)), (1, .int (Int32.ofInt (l1))), (4, .int (Int32.ofInt (l4))), (5, .int (Int32.ofInt (s0))), (6, .int (Int32.ofInt (l6)))]) (List.forall_mem_cons.mpr ⟨rfl, (List.forall_mem_cons.mpr ⟨rfl, (List.forall_mem_cons.mpr ⟨rfl, (List.forall_mem_cons.mpr ⟨rfl, (List.forall_mem_cons.mpr ⟨rfl, (fun _ h => nomatch h)⟩)⟩)⟩)⟩)⟩) ?_
  refine i_iinc (l := l6) dX11_isId_137 rfl (by decide) ?_
  refine z_loc (L' := [(0, .ref (G.1 + 54)), (1, .int (Int32.ofInt (l1))), (4, .int (Int32.ofInt (l4))), (5, .int (Int32.ofInt (s0))), (6, .int (Int32.ofInt ((l6 + 1))))]) (List.forall_mem_cons.mpr ⟨rfl, (List.forall_mem_cons.mpr ⟨rfl, (List.forall_mem_cons.mpr ⟨rfl, (List.forall_mem_cons.mpr ⟨rfl, (List.forall_mem_cons.mpr ⟨rfl, (fun _ h => nomatch h)⟩)⟩)⟩)⟩)⟩) ?_
  refine z_goto (tgt := 107) dX11_isId_140 (by decide) ?_
  refine z_loc (L' := [(0, .ref (G.1 + 54)), (1, .int (Int32.ofInt (l1))), (4, .int (Int32.ofInt (l4))), (5, .int (Int32.ofInt (s0))), (6, .int (Int32.ofInt ((l6 + 1))))]) (List.forall_mem_cons.mpr ⟨rfl, (List.forall_mem_cons.mpr ⟨rfl, (List.forall_mem_cons.mpr ⟨rfl, (List.forall_mem_cons.mpr ⟨rfl, (List.forall_mem_cons.mpr ⟨rfl, (fun _ h => nomatch h)⟩)⟩)⟩)⟩)⟩) ?_
  exact hB107 _ _ _ _ _ _ hw hW
def wX11_isId_130 (l1 l4 l6 : Int) (S : St) (K : Int → St → Prop) (B107 : Int → Int → Int → Int → St → Prop) : Prop := wX11_isId_135 (l1) (l4) (l6) (1) S K B107
set_option maxRecDepth 100000 in
set_option maxHeartbeats 4000000 in
theorem bX11_isId_130 {G : xG} {sh : Nat → Option Sh} {J : St → List va_E → Prop} {d : Nat} {Post : xP} {l1 l4 l6 : Int} {S : St} {cs : List va_E} {K : Int → St → Prop} {B107 : Int → Int → Int → Int → St → Prop} (hd : 1 ≤ d) (hJ : Stb sh J) (hT : isM sh) (hW : Wd G sh mT J S cs) (hP : ∀ (v : Int) (S : St) (cs : List va_E), K v S → Wd G sh mT J S cs → Post (some (.int (Int32.ofInt v))) cs) (hB107 : ∀ (l1 : Int) (l4 : Int) (l5 : Int) (l6 : Int) (S : St) (cs : List va_E), B107 l1 l4 l5 l6 S → Wd G sh mT J S cs → Z (RX11, cX11_isId, 7, some .boolean, false) G d Post 107 [(0, .ref (G.1 + 54)), (1, .int (Int32.ofInt (l1))), (4, .int (Int32.ofInt (l4))), (5, .int (Int32.ofInt (l5))), (6, .int (Int32.ofInt (l6)))] [] cs) (hw : wX11_isId_130 l1 l4 l6 S K B107) : Z (RX11, cX11_isId, 7, some .boolean, false) G d Post 130 [(0, .ref (G.1 + 54)), (1, .int (Int32.ofInt (l1))), (4, .int (Int32.ofInt (l4))), (6, .int (Int32.ofInt (l6)))] [] cs := by
  unfold wX11_isId_130 at hw
  refine z_iconst (v := Int32.ofInt 1) dX11_isId_130 rfl ?_
  refine z_goto (tgt := 135) dX11_isId_131 (by decide) ?_
  refine z_loc (L' := [(0, .ref (G.1 + 54)), (1, .int (Int32.ofInt (l1))), (4, .int (Int32.ofInt (l4))), (6, .int (Int32.ofInt (l6)))]) (List.forall_mem_cons.mpr ⟨rfl, (List.forall_mem_cons.mpr ⟨rfl, (List.forall_mem_cons.mpr ⟨rfl, (List.forall_mem_cons.mpr ⟨rfl, (fun _ h => nomatch h)⟩)⟩)⟩)⟩) ?_
  exact bX11_isId_135 hd hJ hT hW hP hB107 hw
def wX11_isId_107' (l1 l4 l5 l6 : Int) (S : St) (K : Int → St → Prop) (B107 : Int → Int → Int → Int → St → Prop) : Prop := (rng (l6) ∧ (rng (l1) ∧ ((l1 ≤ l6 → (rng (l5) ∧ ((¬ l5 = 0 → K (0) S) ∧ ((¬ (¬ l5 = 0)) → K (1) S)))) ∧ ((¬ (l1 ≤ l6)) → (rng (l5) ∧ ((¬ l5 = 0 → wX11_isId_130 (l1) (l4) (l6) S K B107) ∧ ((¬ (¬ l5 = 0)) → ((0 : Int) ≤ l6 ∧ l6 < (200 : Int) ∧ (iv 0 99999 (S.2 102 (l6)) → (rng (l4) ∧ ((¬ S.2 102 (l6) = l4 → wX11_isId_135 (l1) (l4) (l6) (0) S K B107) ∧ ((¬ (¬ S.2 102 (l6) = l4)) → wX11_isId_130 (l1) (l4) (l6) S K B107))))))))))))
set_option maxRecDepth 100000 in
set_option maxHeartbeats 4000000 in
theorem bX11_isId_107' {G : xG} {sh : Nat → Option Sh} {J : St → List va_E → Prop} {d : Nat} {Post : xP} {l1 l4 l5 l6 : Int} {S : St} {cs : List va_E} {K : Int → St → Prop} {B107 : Int → Int → Int → Int → St → Prop} (hd : 1 ≤ d) (hJ : Stb sh J) (hT : isM sh) (hW : Wd G sh mT J S cs) (hP : ∀ (v : Int) (S : St) (cs : List va_E), K v S → Wd G sh mT J S cs → Post (some (.int (Int32.ofInt v))) cs) (hB107 : ∀ (l1 : Int) (l4 : Int) (l5 : Int) (l6 : Int) (S : St) (cs : List va_E), B107 l1 l4 l5 l6 S → Wd G sh mT J S cs → Z (RX11, cX11_isId, 7, some .boolean, false) G d Post 107 [(0, .ref (G.1 + 54)), (1, .int (Int32.ofInt (l1))), (4, .int (Int32.ofInt (l4))), (5, .int (Int32.ofInt (l5))), (6, .int (Int32.ofInt (l6)))] [] cs) (hw : wX11_isId_107' l1 l4 l5 l6 S K B107) : Z (RX11, cX11_isId, 7, some .boolean, false) G d Post 107 [(0, .ref (G.1 + 54)), (1, .int (Int32.ofInt (l1))), (4, .int (Int32.ofInt (l4))), (5, .int (Int32.ofInt (l5))), (6, .int (Int32.ofInt (l6)))] [] cs := by
  unfold wX11_isId_107' at hw
  refine z_iload dX11_isId_107 rfl ?_
  refine z_iload_n dX11_isId_109 rfl rfl ?_
  obtain ⟨q2, hw⟩ := hw
  obtain ⟨q3, hw⟩ := hw
  refine i_icmp_ge (tgt := 143) dX11_isId_110 (by decide) q2 q3 (fun h1 => ?_) (fun h1 => ?_)
  · have hw := hw.1 h1
    refine z_iload dX11_isId_143 rfl ?_
    obtain ⟨q5, hw⟩ := hw
    refine i_if_ne (tgt := 152) dX11_isId_145 (by decide) q5 (fun h4 => ?_) (fun h4 => ?_)
    · have hw := hw.1 h4
      refine z_iconst (v := Int32.ofInt 0) dX11_isId_152 rfl ?_
      exact z_ireturn dX11_isId_153 rfl (nar01 (by decide)) (hP _ _ _ hw hW)
    · have hw := hw.2 h4
      refine z_iconst (v := Int32.ofInt 1) dX11_isId_148 rfl ?_
      refine z_goto (tgt := 153) dX11_isId_149 (by decide) ?_
      exact z_ireturn dX11_isId_153 rfl (nar01 (by decide)) (hP _ _ _ hw hW)
  · have hw := hw.2 h1
    refine z_iload dX11_isId_113 rfl ?_
    obtain ⟨q7, hw⟩ := hw
    refine i_if_ne (tgt := 130) dX11_isId_115 (by decide) q7 (fun h6 => ?_) (fun h6 => ?_)
    · have hw := hw.1 h6
      refine z_loc (L' := [(0, .ref (G.1 + 54)), (1, .int (Int32.ofInt (l1))), (4, .int (Int32.ofInt (l4))), (6, .int (Int32.ofInt (l6)))]) (List.forall_mem_cons.mpr ⟨rfl, (List.forall_mem_cons.mpr ⟨rfl, (List.forall_mem_cons.mpr ⟨rfl, (List.forall_mem_cons.mpr ⟨rfl, (fun _ h => nomatch h)⟩)⟩)⟩)⟩) ?_
      exact bX11_isId_130 hd hJ hT hW hP hB107 hw
    · have hw := hw.2 h6
      refine z_aload_n dX11_isId_118 rfl rfl ?_
      refine g_getR hW hT.1 mr65 kX11 fX11_156 dX11_isId_119 ?_
      refine z_iload dX11_isId_122 rfl ?_
      obtain ⟨q8a, q8b, hw⟩ := hw
      have q9 : iv 0 99999 (S.2 102 (l6)) := mA102 hW _
      have hw := hw q9
      refine g_iald hW (ma102 hT) q8a q8b (by decide) dX11_isId_124 ?_
      refine z_iload dX11_isId_125 rfl ?_
      obtain ⟨q11, hw⟩ := hw
      refine i_icmp_ne (tgt := 134) dX11_isId_127 (by decide) (rngq q9 (by decide) (by decide)) q11 (fun h10 => ?_) (fun h10 => ?_)
      · have hw := hw.1 h10
        refine z_iconst (v := Int32.ofInt 0) dX11_isId_134 rfl ?_
        refine z_loc (L' := [(0, .ref (G.1 + 54)), (1, .int (Int32.ofInt (l1))), (4, .int (Int32.ofInt (l4))), (6, .int (Int32.ofInt (l6)))]) (List.forall_mem_cons.mpr ⟨rfl, (List.forall_mem_cons.mpr ⟨rfl, (List.forall_mem_cons.mpr ⟨rfl, (List.forall_mem_cons.mpr ⟨rfl, (fun _ h => nomatch h)⟩)⟩)⟩)⟩) ?_
        exact bX11_isId_135 hd hJ hT hW hP hB107 hw
      · have hw := hw.2 h10
        refine z_loc (L' := [(0, .ref (G.1 + 54)), (1, .int (Int32.ofInt (l1))), (4, .int (Int32.ofInt (l4))), (6, .int (Int32.ofInt (l6)))]) (List.forall_mem_cons.mpr ⟨rfl, (List.forall_mem_cons.mpr ⟨rfl, (List.forall_mem_cons.mpr ⟨rfl, (List.forall_mem_cons.mpr ⟨rfl, (fun _ h => nomatch h)⟩)⟩)⟩)⟩) ?_
        exact bX11_isId_130 hd hJ hT hW hP hB107 hw
def wX11_isId_107 (l1 l4 l5 l6 : Int) (S : St) (K : Int → St → Prop) : Prop := ∃ (Iv : Int → Int → Int → Int → St → Prop) (mu : Int → Int → Int → Int → St → Nat), Iv l1 l4 l5 l6 S ∧ ∀ (l1 l4 l5 l6 : Int) (S : St), Iv l1 l4 l5 l6 S → wX11_isId_107' l1 l4 l5 l6 S K  (fun ml1 ml4 ml5 ml6 T => Iv ml1 ml4 ml5 ml6 T ∧ mu ml1 ml4 ml5 ml6 T < mu l1 l4 l5 l6 S)
set_option maxRecDepth 100000 in
set_option maxHeartbeats 4000000 in
theorem bX11_isId_107 {G : xG} {sh : Nat → Option Sh} {J : St → List va_E → Prop} {d : Nat} {Post : xP} {l1 l4 l5 l6 : Int} {S : St} {cs : List va_E} {K : Int → St → Prop} (hd : 1 ≤ d) (hJ : Stb sh J) (hT : isM sh) (hW : Wd G sh mT J S cs) (hP : ∀ (v : Int) (S : St) (cs : List va_E), K v S → Wd G sh mT J S cs → Post (some (.int (Int32.ofInt v))) cs)  (hw : wX11_isId_107 l1 l4 l5 l6 S K ) : Z (RX11, cX11_isId, 7, some .boolean, false) G d Post 107 [(0, .ref (G.1 + 54)), (1, .int (Int32.ofInt (l1))), (4, .int (Int32.ofInt (l4))), (5, .int (Int32.ofInt (l5))), (6, .int (Int32.ofInt (l6)))] [] cs := by
  unfold wX11_isId_107 at hw
  obtain ⟨Iv, mu, h0, hs⟩ := hw
  have key : ∀ (n : Nat) (l1 l4 l5 l6 : Int) (S : St) (cs : List va_E), mu l1 l4 l5 l6 S < n → Iv l1 l4 l5 l6 S → Wd G sh mT J S cs → Z (RX11, cX11_isId, 7, some .boolean, false) G d Post 107 [(0, .ref (G.1 + 54)), (1, .int (Int32.ofInt (l1))), (4, .int (Int32.ofInt (l4))), (5, .int (Int32.ofInt (l5))), (6, .int (Int32.ofInt (l6)))] [] cs := by
    intro n
    induction n with
    | zero => intro l1 l4 l5 l6 S cs hn; exact absurd hn (Nat.not_lt_zero _)
    | succ n ih =>
      intro l1 l4 l5 l6 S cs hn hI hW
      exact bX11_isId_107' hd hJ hT hW hP  (fun l1 l4 l5 l6 S cs hb hW => ih l1 l4 l5 l6 S cs (Nat.lt_of_lt_of_le hb.2 (Nat.le_of_lt_succ hn)) hb.1 hW) (hs l1 l4 l5 l6 S hI)
  exact key _ _ _ _ _ _ _ (Nat.lt_succ_self _) h0 hW
def wX11_isId_82 (l1 l3 l4 : Int) (S : St) (K : Int → St → Prop) : Prop := (rng (l3) ∧ (wX11_in (l3) (1) (4) S (fun r2 S3 => (rng (r2) ∧ ((¬ r2 = 0 → ((0 : Int) ≤ l1 ∧ l1 < (200 : Int) ∧ (iv 0 99999 (l4) ∧ (∀ S7, S7 = pA S3 102 (l1) (l4) → wX11_isId_107 (l1) (l4) (0) (0) S7 K)))) ∧ ((¬ (¬ r2 = 0)) → K (0) S3))))))
set_option maxRecDepth 100000 in
set_option maxHeartbeats 4000000 in
theorem bX11_isId_82 {G : xG} {sh : Nat → Option Sh} {J : St → List va_E → Prop} {d : Nat} {Post : xP} {l1 l3 l4 : Int} {S : St} {cs : List va_E} {K : Int → St → Prop} (hd : 1 ≤ d) (hJ : Stb sh J) (hT : isM sh) (hW : Wd G sh mT J S cs) (hP : ∀ (v : Int) (S : St) (cs : List va_E), K v S → Wd G sh mT J S cs → Post (some (.int (Int32.ofInt v))) cs)  (hw : wX11_isId_82 l1 l3 l4 S K ) : Z (RX11, cX11_isId, 7, some .boolean, false) G d Post 82 [(0, .ref (G.1 + 54)), (1, .int (Int32.ofInt (l1))), (3, .int (Int32.ofInt (l3))), (4, .int (Int32.ofInt (l4)))] [] cs := by
  unfold wX11_isId_82 at hw
  refine z_iload_n dX11_isId_82 rfl rfl ?_
  refine z_iconst (v := Int32.ofInt 1) dX11_isId_83 rfl ?_
  refine z_iconst (v := Int32.ofInt 4) dX11_isId_84 rfl ?_
  obtain ⟨q1, hw⟩ := hw
  have hX := lX11_in 0 (Nat.le_refl _) hJ hT hW q1 ⟨by decide, by decide⟩ ⟨by decide, by decide⟩ hw
  refine z_callS (As := [_, _, _]) eX11_in sX11_in lX11_174 dX11_isId_85 hX (Nat.le_trans (by decide) hd) rfl (Nat.le_of_ble_eq_true rfl) (fun r cs hp => ?_)
  obtain ⟨r2, S3, rfl, hw, hW⟩ := hp
  refine z_st (st' := [.int (Int32.ofInt (r2))]) rfl ?_
  obtain ⟨q5, hw⟩ := hw
  refine i_if_ne (tgt := 93) dX11_isId_88 (by decide) q5 (fun h4 => ?_) (fun h4 => ?_)
  · have hw := hw.1 h4
    refine z_aload_n dX11_isId_93 rfl rfl ?_
    refine g_getR hW hT.1 mr65 kX11 fX11_156 dX11_isId_94 ?_
    refine z_iload_n dX11_isId_97 rfl rfl ?_
    refine z_iload dX11_isId_98 rfl ?_
    obtain ⟨q6a, q6b, hw⟩ := hw
    obtain ⟨q8, hw⟩ := hw
    refine g_iast hJ hW (ma102 hT) q6a q6b (by decide) q8 dX11_isId_100 (fun cs hW => ?_)
    obtain ⟨S7, hS7⟩ : ∃ x, x = pA S3 102 (l1) (l4) := ⟨_, rfl⟩
    rw [← hS7] at hW
    have hw := hw S7 hS7
    refine z_iconst (v := Int32.ofInt 0) dX11_isId_101 rfl ?_
    refine z_istore dX11_isId_102 (by decide) ?_
    refine z_loc (L' := [(0, .ref (G.1 + 54)), (1, .int (Int32.ofInt (l1))), (3, .int (Int32.ofInt (l3))), (4, .int (Int32.ofInt (l4))), (5, .int (Int32.ofInt (0)))]) (List.forall_mem_cons.mpr ⟨rfl, (List.forall_mem_cons.mpr ⟨rfl, (List.forall_mem_cons.mpr ⟨rfl, (List.forall_mem_cons.mpr ⟨rfl, (List.forall_mem_cons.mpr ⟨rfl, (fun _ h => nomatch h)⟩)⟩)⟩)⟩)⟩) ?_
    refine z_iconst (v := Int32.ofInt 0) dX11_isId_104 rfl ?_
    refine z_istore dX11_isId_105 (by decide) ?_
    refine z_loc (L' := [(0, .ref (G.1 + 54)), (1, .int (Int32.ofInt (l1))), (3, .int (Int32.ofInt (l3))), (4, .int (Int32.ofInt (l4))), (5, .int (Int32.ofInt (0))), (6, .int (Int32.ofInt (0)))]) (List.forall_mem_cons.mpr ⟨rfl, (List.forall_mem_cons.mpr ⟨rfl, (List.forall_mem_cons.mpr ⟨rfl, (List.forall_mem_cons.mpr ⟨rfl, (List.forall_mem_cons.mpr ⟨rfl, (List.forall_mem_cons.mpr ⟨rfl, (fun _ h => nomatch h)⟩)⟩)⟩)⟩)⟩)⟩) ?_
    refine z_loc (L' := [(0, .ref (G.1 + 54)), (1, .int (Int32.ofInt (l1))), (4, .int (Int32.ofInt (l4))), (5, .int (Int32.ofInt (0))), (6, .int (Int32.ofInt (0)))]) (List.forall_mem_cons.mpr ⟨rfl, (List.forall_mem_cons.mpr ⟨rfl, (List.forall_mem_cons.mpr ⟨rfl, (List.forall_mem_cons.mpr ⟨rfl, (List.forall_mem_cons.mpr ⟨rfl, (fun _ h => nomatch h)⟩)⟩)⟩)⟩)⟩) ?_
    exact bX11_isId_107 hd hJ hT hW hP  hw
  · have hw := hw.2 h4
    refine z_iconst (v := Int32.ofInt 0) dX11_isId_91 rfl ?_
    exact z_ireturn dX11_isId_92 rfl (nar01 (by decide)) (hP _ _ _ hw hW)
def wX11_isId_63 (l1 l2 l3 l4 l5 l6 : Int) (S : St) (K : Int → St → Prop) (B13 : Int → Int → Int → Int → Int → St → Prop) : Prop := (∀ x1 : Int, x1 = (((l4 * 10) + l6) - 48) → B13 (l1) (l2) (l3) (x1) ((l5 + 1)) S)
set_option maxRecDepth 100000 in
set_option maxHeartbeats 4000000 in
theorem bX11_isId_63 {G : xG} {sh : Nat → Option Sh} {J : St → List va_E → Prop} {d : Nat} {Post : xP} {l1 l2 l3 l4 l5 l6 : Int} {S : St} {cs : List va_E} {K : Int → St → Prop} {B13 : Int → Int → Int → Int → Int → St → Prop} (hd : 1 ≤ d) (hJ : Stb sh J) (hT : isM sh) (hW : Wd G sh mT J S cs) (hP : ∀ (v : Int) (S : St) (cs : List va_E), K v S → Wd G sh mT J S cs → Post (some (.int (Int32.ofInt v))) cs) (hB13 : ∀ (l1 : Int) (l2 : Int) (l3 : Int) (l4 : Int) (l5 : Int) (S : St) (cs : List va_E), B13 l1 l2 l3 l4 l5 S → Wd G sh mT J S cs → Z (RX11, cX11_isId, 7, some .boolean, false) G d Post 13 [(0, .ref (G.1 + 54)), (1, .int (Int32.ofInt (l1))), (2, .int (Int32.ofInt (l2))), (3, .int (Int32.ofInt (l3))), (4, .int (Int32.ofInt (l4))), (5, .int (Int32.ofInt (l5)))] [] cs) (hw : wX11_isId_63 l1 l2 l3 l4 l5 l6 S K B13) : Z (RX11, cX11_isId, 7, some .boolean, false) G d Post 63 [(0, .ref (G.1 + 54)), (1, .int (Int32.ofInt (l1))), (2, .int (Int32.ofInt (l2))), (3, .int (Int32.ofInt (l3))), (4, .int (Int32.ofInt (l4))), (5, .int (Int32.ofInt (l5))), (6, .int (Int32.ofInt (l6)))] [] cs := by
  unfold wX11_isId_63 at hw
  refine z_iload dX11_isId_63 rfl ?_
  refine z_bipush (v := Int32.ofInt 10) dX11_isId_65 (by decide) ?_
  refine i_imul dX11_isId_67 ?_
  refine z_iload dX11_isId_68 rfl ?_
  refine i_iadd dX11_isId_70 ?_
  refine z_bipush (v := Int32.ofInt 48) dX11_isId_71 (by decide) ?_
  refine i_isub dX11_isId_73 ?_
  obtain ⟨x1, hx1⟩ : ∃ x : Int, x = (((l4 * 10) + l6) - 48) := ⟨_, rfl⟩
  have hw := hw x1 hx1
  refine z_st (st' := [.int (Int32.ofInt x1)]) (by rw [hx1]) ?_
  refine z_istore dX11_isId_74 (by decide) ?_
  refine z_loc (L' := [(0, .ref (G.1 + 54)), (1, .int (Int32.ofInt (l1))), (2, .int (Int32.ofInt (l2))), (3, .int (Int32.ofInt (l3))), (4, .int (Int32.ofInt (x1))), (5, .int (Int32.ofInt (l5))), (6, .int (Int32.ofInt (l6)))]) (List.forall_mem_cons.mpr ⟨rfl, (List.forall_mem_cons.mpr ⟨rfl, (List.forall_mem_cons.mpr ⟨rfl, (List.forall_mem_cons.mpr ⟨rfl, (List.forall_mem_cons.mpr ⟨rfl, (List.forall_mem_cons.mpr ⟨rfl, (List.forall_mem_cons.mpr ⟨rfl, (fun _ h => nomatch h)⟩)⟩)⟩)⟩)⟩)⟩)⟩) ?_
  refine i_iinc (l := l5) dX11_isId_76 rfl (by decide) ?_
  refine z_loc (L' := [(0, .ref (G.1 + 54)), (1, .int (Int32.ofInt (l1))), (2, .int (Int32.ofInt (l2))), (3, .int (Int32.ofInt (l3))), (4, .int (Int32.ofInt (x1))), (5, .int (Int32.ofInt ((l5 + 1)))), (6, .int (Int32.ofInt (l6)))]) (List.forall_mem_cons.mpr ⟨rfl, (List.forall_mem_cons.mpr ⟨rfl, (List.forall_mem_cons.mpr ⟨rfl, (List.forall_mem_cons.mpr ⟨rfl, (List.forall_mem_cons.mpr ⟨rfl, (List.forall_mem_cons.mpr ⟨rfl, (List.forall_mem_cons.mpr ⟨rfl, (fun _ h => nomatch h)⟩)⟩)⟩)⟩)⟩)⟩)⟩) ?_
  refine z_goto (tgt := 13) dX11_isId_79 (by decide) ?_
  refine z_loc (L' := [(0, .ref (G.1 + 54)), (1, .int (Int32.ofInt (l1))), (2, .int (Int32.ofInt (l2))), (3, .int (Int32.ofInt (l3))), (4, .int (Int32.ofInt (x1))), (5, .int (Int32.ofInt ((l5 + 1))))]) (List.forall_mem_cons.mpr ⟨rfl, (List.forall_mem_cons.mpr ⟨rfl, (List.forall_mem_cons.mpr ⟨rfl, (List.forall_mem_cons.mpr ⟨rfl, (List.forall_mem_cons.mpr ⟨rfl, (List.forall_mem_cons.mpr ⟨rfl, (fun _ h => nomatch h)⟩)⟩)⟩)⟩)⟩)⟩) ?_
  exact hB13 _ _ _ _ _ _ _ hw hW
def wX11_isId_13' (l1 l2 l3 l4 l5 : Int) (S : St) (K : Int → St → Prop) (B13 : Int → Int → Int → Int → Int → St → Prop) : Prop := (rng (l5) ∧ (rng (l3) ∧ ((l3 ≤ l5 → wX11_isId_82 (l1) (l3) (l4) S K) ∧ ((¬ (l3 ≤ l5)) → ((5 ≤ l5 → wX11_isId_82 (l1) (l3) (l4) S K) ∧ ((¬ (5 ≤ l5)) → ((0 : Int) ≤ l2 ∧ l2 < (600 : Int) ∧ (iv 0 3000 (S.2 94 (l2)) → ((0 : Int) ≤ (S.2 94 (l2) + l5) ∧ (S.2 94 (l2) + l5) < (3000 : Int) ∧ (iv (-2147483648) 2147483647 (S.2 96 ((S.2 94 (l2) + l5))) → (∀ x9 : Int, x9 = S.2 96 ((S.2 94 (l2) + l5)) → (wX11_isDigit (x9) S (fun r12 S13 => (rng (r12) ∧ ((r12 = 0 → K (0) S13) ∧ ((¬ (r12 = 0)) → ((¬ l5 = 0 → wX11_isId_63 (l1) (l2) (l3) (l4) (l5) (x9) S13 K B13) ∧ ((¬ (¬ l5 = 0)) → ((¬ x9 = 48 → wX11_isId_63 (l1) (l2) (l3) (l4) (l5) (x9) S13 K B13) ∧ ((¬ (¬ x9 = 48)) → K (0) S13))))))))))))))))))))
set_option maxRecDepth 100000 in
set_option maxHeartbeats 4000000 in
theorem bX11_isId_13' {G : xG} {sh : Nat → Option Sh} {J : St → List va_E → Prop} {d : Nat} {Post : xP} {l1 l2 l3 l4 l5 : Int} {S : St} {cs : List va_E} {K : Int → St → Prop} {B13 : Int → Int → Int → Int → Int → St → Prop} (hd : 1 ≤ d) (hJ : Stb sh J) (hT : isM sh) (hW : Wd G sh mT J S cs) (hP : ∀ (v : Int) (S : St) (cs : List va_E), K v S → Wd G sh mT J S cs → Post (some (.int (Int32.ofInt v))) cs) (hB13 : ∀ (l1 : Int) (l2 : Int) (l3 : Int) (l4 : Int) (l5 : Int) (S : St) (cs : List va_E), B13 l1 l2 l3 l4 l5 S → Wd G sh mT J S cs → Z (RX11, cX11_isId, 7, some .boolean, false) G d Post 13 [(0, .ref (G.1 + 54)), (1, .int (Int32.ofInt (l1))), (2, .int (Int32.ofInt (l2))), (3, .int (Int32.ofInt (l3))), (4, .int (Int32.ofInt (l4))), (5, .int (Int32.ofInt (l5)))] [] cs) (hw : wX11_isId_13' l1 l2 l3 l4 l5 S K B13) : Z (RX11, cX11_isId, 7, some .boolean, false) G d Post 13 [(0, .ref (G.1 + 54)), (1, .int (Int32.ofInt (l1))), (2, .int (Int32.ofInt (l2))), (3, .int (Int32.ofInt (l3))), (4, .int (Int32.ofInt (l4))), (5, .int (Int32.ofInt (l5)))] [] cs := by
  unfold wX11_isId_13' at hw
  refine z_iload dX11_isId_13 rfl ?_
  refine z_iload_n dX11_isId_15 rfl rfl ?_
  obtain ⟨q2, hw⟩ := hw
  obtain ⟨q3, hw⟩ := hw
  refine i_icmp_ge (tgt := 82) dX11_isId_16 (by decide) q2 q3 (fun h1 => ?_) (fun h1 => ?_)
  · have hw := hw.1 h1
    refine z_loc (L' := [(0, .ref (G.1 + 54)), (1, .int (Int32.ofInt (l1))), (3, .int (Int32.ofInt (l3))), (4, .int (Int32.ofInt (l4)))]) (List.forall_mem_cons.mpr ⟨rfl, (List.forall_mem_cons.mpr ⟨rfl, (List.forall_mem_cons.mpr ⟨rfl, (List.forall_mem_cons.mpr ⟨rfl, (fun _ h => nomatch h)⟩)⟩)⟩)⟩) ?_
    exact bX11_isId_82 hd hJ hT hW hP  hw
  · have hw := hw.2 h1
    refine z_iload dX11_isId_19 rfl ?_
    refine z_iconst (v := Int32.ofInt 5) dX11_isId_21 rfl ?_
    refine i_icmp_ge (tgt := 82) dX11_isId_22 (by decide) q2 ⟨by decide, by decide⟩ (fun h4 => ?_) (fun h4 => ?_)
    · have hw := hw.1 h4
      refine z_loc (L' := [(0, .ref (G.1 + 54)), (1, .int (Int32.ofInt (l1))), (3, .int (Int32.ofInt (l3))), (4, .int (Int32.ofInt (l4)))]) (List.forall_mem_cons.mpr ⟨rfl, (List.forall_mem_cons.mpr ⟨rfl, (List.forall_mem_cons.mpr ⟨rfl, (List.forall_mem_cons.mpr ⟨rfl, (fun _ h => nomatch h)⟩)⟩)⟩)⟩) ?_
      exact bX11_isId_82 hd hJ hT hW hP  hw
    · have hw := hw.2 h4
      refine z_aload_n dX11_isId_25 rfl rfl ?_
      refine g_getR hW hT.1 mr57 kX11 fX11_138 dX11_isId_26 ?_
      refine z_aload_n dX11_isId_29 rfl rfl ?_
      refine g_getR hW hT.1 mr54 kX11 fX11_132 dX11_isId_30 ?_
      refine z_iload_n dX11_isId_33 rfl rfl ?_
      obtain ⟨q5a, q5b, hw⟩ := hw
      have q6 : iv 0 3000 (S.2 94 (l2)) := mA94 hW _
      have hw := hw q6
      refine g_iald hW (ma94 hT) q5a q5b (by decide) dX11_isId_34 ?_
      refine z_iload dX11_isId_35 rfl ?_
      refine i_iadd dX11_isId_37 ?_
      obtain ⟨q7a, q7b, hw⟩ := hw
      have q8 : iv (-2147483648) 2147483647 (S.2 96 ((S.2 94 (l2) + l5))) := mA96 hW _
      have hw := hw q8
      refine g_iald hW (ma96 hT) q7a q7b (by decide) dX11_isId_38 ?_
      obtain ⟨x9, hx9⟩ : ∃ x : Int, x = S.2 96 ((S.2 94 (l2) + l5)) := ⟨_, rfl⟩
      have hw := hw x9 hx9
      refine z_st (st' := [.int (Int32.ofInt x9)]) (by rw [hx9]) ?_
      have q10 : rng x9 := by rw [hx9]; exact (rngq q8 (by decide) (by decide))
      have q11 : iv (-2147483648) 2147483647 x9 := by rw [hx9]; exact q8
      refine z_istore dX11_isId_39 (by decide) ?_
      refine z_loc (L' := [(0, .ref (G.1 + 54)), (1, .int (Int32.ofInt (l1))), (2, .int (Int32.ofInt (l2))), (3, .int (Int32.ofInt (l3))), (4, .int (Int32.ofInt (l4))), (5, .int (Int32.ofInt (l5))), (6, .int (Int32.ofInt (x9)))]) (List.forall_mem_cons.mpr ⟨rfl, (List.forall_mem_cons.mpr ⟨rfl, (List.forall_mem_cons.mpr ⟨rfl, (List.forall_mem_cons.mpr ⟨rfl, (List.forall_mem_cons.mpr ⟨rfl, (List.forall_mem_cons.mpr ⟨rfl, (List.forall_mem_cons.mpr ⟨rfl, (fun _ h => nomatch h)⟩)⟩)⟩)⟩)⟩)⟩)⟩) ?_
      refine z_iload dX11_isId_41 rfl ?_
      have hX := lX11_isDigit 0 (Nat.le_refl _) hJ hT hW q10 hw
      refine z_callS (As := [_]) eX11_isDigit sX11_isDigit lX11_189 dX11_isId_43 hX (Nat.le_trans (by decide) hd) rfl (Nat.le_of_ble_eq_true rfl) (fun r cs hp => ?_)
      obtain ⟨r12, S13, rfl, hw, hW⟩ := hp
      refine z_st (st' := [.int (Int32.ofInt (r12))]) rfl ?_
      obtain ⟨q15, hw⟩ := hw
      refine i_if_eq (tgt := 61) dX11_isId_46 (by decide) q15 (fun h14 => ?_) (fun h14 => ?_)
      · have hw := hw.1 h14
        refine z_iconst (v := Int32.ofInt 0) dX11_isId_61 rfl ?_
        exact z_ireturn dX11_isId_62 rfl (nar01 (by decide)) (hP _ _ _ hw hW)
      · have hw := hw.2 h14
        refine z_iload dX11_isId_49 rfl ?_
        refine i_if_ne (tgt := 63) dX11_isId_51 (by decide) q2 (fun h16 => ?_) (fun h16 => ?_)
        · have hw := hw.1 h16
          refine z_loc (L' := [(0, .ref (G.1 + 54)), (1, .int (Int32.ofInt (l1))), (2, .int (Int32.ofInt (l2))), (3, .int (Int32.ofInt (l3))), (4, .int (Int32.ofInt (l4))), (5, .int (Int32.ofInt (l5))), (6, .int (Int32.ofInt (x9)))]) (List.forall_mem_cons.mpr ⟨rfl, (List.forall_mem_cons.mpr ⟨rfl, (List.forall_mem_cons.mpr ⟨rfl, (List.forall_mem_cons.mpr ⟨rfl, (List.forall_mem_cons.mpr ⟨rfl, (List.forall_mem_cons.mpr ⟨rfl, (List.forall_mem_cons.mpr ⟨rfl, (fun _ h => nomatch h)⟩)⟩)⟩)⟩)⟩)⟩)⟩) ?_
          exact bX11_isId_63 hd hJ hT hW hP hB13 hw
        · have hw := hw.2 h16
          refine z_iload dX11_isId_54 rfl ?_
          refine z_bipush (v := Int32.ofInt 48) dX11_isId_56 (by decide) ?_
          refine i_icmp_ne (tgt := 63) dX11_isId_58 (by decide) q10 ⟨by decide, by decide⟩ (fun h17 => ?_) (fun h17 => ?_)
          · have hw := hw.1 h17
            refine z_loc (L' := [(0, .ref (G.1 + 54)), (1, .int (Int32.ofInt (l1))), (2, .int (Int32.ofInt (l2))), (3, .int (Int32.ofInt (l3))), (4, .int (Int32.ofInt (l4))), (5, .int (Int32.ofInt (l5))), (6, .int (Int32.ofInt (x9)))]) (List.forall_mem_cons.mpr ⟨rfl, (List.forall_mem_cons.mpr ⟨rfl, (List.forall_mem_cons.mpr ⟨rfl, (List.forall_mem_cons.mpr ⟨rfl, (List.forall_mem_cons.mpr ⟨rfl, (List.forall_mem_cons.mpr ⟨rfl, (List.forall_mem_cons.mpr ⟨rfl, (fun _ h => nomatch h)⟩)⟩)⟩)⟩)⟩)⟩)⟩) ?_
            exact bX11_isId_63 hd hJ hT hW hP hB13 hw
          · have hw := hw.2 h17
            refine z_iconst (v := Int32.ofInt 0) dX11_isId_61 rfl ?_
            exact z_ireturn dX11_isId_62 rfl (nar01 (by decide)) (hP _ _ _ hw hW)
def wX11_isId_13 (l1 l2 l3 l4 l5 : Int) (S : St) (K : Int → St → Prop) : Prop := ∃ (Iv : Int → Int → Int → Int → Int → St → Prop) (mu : Int → Int → Int → Int → Int → St → Nat), Iv l1 l2 l3 l4 l5 S ∧ ∀ (l1 l2 l3 l4 l5 : Int) (S : St), Iv l1 l2 l3 l4 l5 S → wX11_isId_13' l1 l2 l3 l4 l5 S K  (fun ml1 ml2 ml3 ml4 ml5 T => Iv ml1 ml2 ml3 ml4 ml5 T ∧ mu ml1 ml2 ml3 ml4 ml5 T < mu l1 l2 l3 l4 l5 S)
set_option maxRecDepth 100000 in
set_option maxHeartbeats 4000000 in
theorem bX11_isId_13 {G : xG} {sh : Nat → Option Sh} {J : St → List va_E → Prop} {d : Nat} {Post : xP} {l1 l2 l3 l4 l5 : Int} {S : St} {cs : List va_E} {K : Int → St → Prop} (hd : 1 ≤ d) (hJ : Stb sh J) (hT : isM sh) (hW : Wd G sh mT J S cs) (hP : ∀ (v : Int) (S : St) (cs : List va_E), K v S → Wd G sh mT J S cs → Post (some (.int (Int32.ofInt v))) cs)  (hw : wX11_isId_13 l1 l2 l3 l4 l5 S K ) : Z (RX11, cX11_isId, 7, some .boolean, false) G d Post 13 [(0, .ref (G.1 + 54)), (1, .int (Int32.ofInt (l1))), (2, .int (Int32.ofInt (l2))), (3, .int (Int32.ofInt (l3))), (4, .int (Int32.ofInt (l4))), (5, .int (Int32.ofInt (l5)))] [] cs := by
  unfold wX11_isId_13 at hw
  obtain ⟨Iv, mu, h0, hs⟩ := hw
  have key : ∀ (n : Nat) (l1 l2 l3 l4 l5 : Int) (S : St) (cs : List va_E), mu l1 l2 l3 l4 l5 S < n → Iv l1 l2 l3 l4 l5 S → Wd G sh mT J S cs → Z (RX11, cX11_isId, 7, some .boolean, false) G d Post 13 [(0, .ref (G.1 + 54)), (1, .int (Int32.ofInt (l1))), (2, .int (Int32.ofInt (l2))), (3, .int (Int32.ofInt (l3))), (4, .int (Int32.ofInt (l4))), (5, .int (Int32.ofInt (l5)))] [] cs := by
    intro n
    induction n with
    | zero => intro l1 l2 l3 l4 l5 S cs hn; exact absurd hn (Nat.not_lt_zero _)
    | succ n ih =>
      intro l1 l2 l3 l4 l5 S cs hn hI hW
      exact bX11_isId_13' hd hJ hT hW hP  (fun l1 l2 l3 l4 l5 S cs hb hW => ih l1 l2 l3 l4 l5 S cs (Nat.lt_of_lt_of_le hb.2 (Nat.le_of_lt_succ hn)) hb.1 hW) (hs l1 l2 l3 l4 l5 S hI)
  exact key _ _ _ _ _ _ _ _ (Nat.lt_succ_self _) h0 hW
def wX11_isId (a1 a2 : Int) (S : St) (K : Int → St → Prop) : Prop := rng a1 → rng a2 → ((0 : Int) ≤ a2 ∧ a2 < (600 : Int) ∧ (iv 0 3000 (S.2 95 (a2)) → (∀ x3 : Int, x3 = S.2 95 (a2) → wX11_isId_13 (a1) (a2) (x3) (0) (0) S K)))
set_option maxRecDepth 100000 in
set_option maxHeartbeats 4000000 in
theorem lX11_isId {G : xG} {sh : Nat → Option Sh} {J : St → List va_E → Prop} {a1 a2 : Int} {S : St} {cs : List va_E} {K : Int → St → Prop} (d : Nat) (hd : 1 ≤ d) (hJ : Stb sh J) (hT : isM sh) (hW : Wd G sh mT J S cs) (g1 : rng a1) (g2 : rng a2) (hw : wX11_isId a1 a2 S K) : X G yX11_isId cX11_isId 7 (some .boolean) d [.ref (G.1 + 54), .int (Int32.ofInt a1), .int (Int32.ofInt a2)] cs (qI G sh mT J K) := by
  refine X.of false (by decide +kernel) (by decide) (Nat.le_of_ble_eq_true rfl) ?_
  show Z (RX11, cX11_isId, 7, some .boolean, false) G d _ 0 [(0, .ref (G.1 + 54)), (1, .int (Int32.ofInt a1)), (2, .int (Int32.ofInt a2))] [] cs
  have hP : ∀ (v : Int) (S : St) (cs : List va_E), K v S → Wd G sh mT J S cs → qI G sh mT J K (some (.int (Int32.ofInt v))) cs := fun v S cs a b => ⟨v, S, rfl, a, b⟩
  unfold wX11_isId at hw
  have hw := hw g1 g2
  refine z_aload_n dX11_isId_0 rfl rfl ?_
  refine g_getR hW hT.1 mr55 kX11 fX11_135 dX11_isId_1 ?_
  refine z_iload_n dX11_isId_4 rfl rfl ?_
  obtain ⟨q1a, q1b, hw⟩ := hw
  have q2 : iv 0 3000 (S.2 95 (a2)) := mA95 hW _
  have hw := hw q2
  refine g_iald hW (ma95 hT) q1a q1b (by decide) dX11_isId_5 ?_
  obtain ⟨x3, hx3⟩ : ∃ x : Int, x = S.2 95 (a2) := ⟨_, rfl⟩
  have hw := hw x3 hx3
  refine z_st (st' := [.int (Int32.ofInt x3)]) (by rw [hx3]) ?_
  have q4 : rng x3 := by rw [hx3]; exact (rngq q2 (by decide) (by decide))
  have q5 : iv 0 3000 x3 := by rw [hx3]; exact q2
  refine z_istore_n dX11_isId_6 rfl (by decide) ?_
  refine z_loc (L' := [(0, .ref (G.1 + 54)), (1, .int (Int32.ofInt (a1))), (2, .int (Int32.ofInt (a2))), (3, .int (Int32.ofInt (x3)))]) (List.forall_mem_cons.mpr ⟨rfl, (List.forall_mem_cons.mpr ⟨rfl, (List.forall_mem_cons.mpr ⟨rfl, (List.forall_mem_cons.mpr ⟨rfl, (fun _ h => nomatch h)⟩)⟩)⟩)⟩) ?_
  refine z_iconst (v := Int32.ofInt 0) dX11_isId_7 rfl ?_
  refine z_istore dX11_isId_8 (by decide) ?_
  refine z_loc (L' := [(0, .ref (G.1 + 54)), (1, .int (Int32.ofInt (a1))), (2, .int (Int32.ofInt (a2))), (3, .int (Int32.ofInt (x3))), (4, .int (Int32.ofInt (0)))]) (List.forall_mem_cons.mpr ⟨rfl, (List.forall_mem_cons.mpr ⟨rfl, (List.forall_mem_cons.mpr ⟨rfl, (List.forall_mem_cons.mpr ⟨rfl, (List.forall_mem_cons.mpr ⟨rfl, (fun _ h => nomatch h)⟩)⟩)⟩)⟩)⟩) ?_
  refine z_iconst (v := Int32.ofInt 0) dX11_isId_10 rfl ?_
  refine z_istore dX11_isId_11 (by decide) ?_
  refine z_loc (L' := [(0, .ref (G.1 + 54)), (1, .int (Int32.ofInt (a1))), (2, .int (Int32.ofInt (a2))), (3, .int (Int32.ofInt (x3))), (4, .int (Int32.ofInt (0))), (5, .int (Int32.ofInt (0)))]) (List.forall_mem_cons.mpr ⟨rfl, (List.forall_mem_cons.mpr ⟨rfl, (List.forall_mem_cons.mpr ⟨rfl, (List.forall_mem_cons.mpr ⟨rfl, (List.forall_mem_cons.mpr ⟨rfl, (List.forall_mem_cons.mpr ⟨rfl, (fun _ h => nomatch h)⟩)⟩)⟩)⟩)⟩)⟩) ?_
  refine z_loc (L' := [(0, .ref (G.1 + 54)), (1, .int (Int32.ofInt (a1))), (2, .int (Int32.ofInt (a2))), (3, .int (Int32.ofInt (x3))), (4, .int (Int32.ofInt (0))), (5, .int (Int32.ofInt (0)))]) (List.forall_mem_cons.mpr ⟨rfl, (List.forall_mem_cons.mpr ⟨rfl, (List.forall_mem_cons.mpr ⟨rfl, (List.forall_mem_cons.mpr ⟨rfl, (List.forall_mem_cons.mpr ⟨rfl, (List.forall_mem_cons.mpr ⟨rfl, (fun _ h => nomatch h)⟩)⟩)⟩)⟩)⟩)⟩) ?_
  exact bX11_isId_13 hd hJ hT hW hP  hw

def wX11_wordSign (a1 a2 : Int) (S : St) (K : Int → St → Prop) : Prop := rng a1 → rng a2 → ((¬ a1 = 0 → ((¬ a1 = 1 → ((¬ (0 ≤ a2 ∧ a2 ≤ 8) → K (0) S) ∧ ((a2 = 0 → K (114) S) ∧ ((a2 = 1 → K (101) S) ∧ ((a2 = 2 → K (102) S) ∧ ((a2 = 3 → K (101) S) ∧ ((a2 = 4 → K (114) S) ∧ ((a2 = 5 → K (101) S) ∧ ((a2 = 6 → K (110) S) ∧ ((a2 = 7 → K (99) S) ∧ (a2 = 8 → K (101) S))))))))))) ∧ ((¬ (¬ a1 = 1)) → ((¬ a2 = 0 → ((¬ a2 = 1 → K (0) S) ∧ ((¬ (¬ a2 = 1)) → K (100) S))) ∧ ((¬ (¬ a2 = 0)) → K (105) S))))) ∧ ((¬ (¬ a1 = 0)) → ((¬ a2 = 0 → ((¬ a2 = 1 → ((¬ a2 = 2 → ((5 ≤ a2 → K (0) S) ∧ ((¬ (5 ≤ a2)) → K (115) S))) ∧ ((¬ (¬ a2 = 2)) → K (97) S))) ∧ ((¬ (¬ a2 = 1)) → K (108) S))) ∧ ((¬ (¬ a2 = 0)) → K (99) S))))
set_option maxRecDepth 100000 in
set_option maxHeartbeats 4000000 in
theorem lX11_wordSign {G : xG} {sh : Nat → Option Sh} {J : St → List va_E → Prop} {a1 a2 : Int} {S : St} {cs : List va_E} {K : Int → St → Prop} (d : Nat) (hd : 0 ≤ d) (hJ : Stb sh J) (hT : isM sh) (hW : Wd G sh mT J S cs) (g1 : rng a1) (g2 : rng a2) (hw : wX11_wordSign a1 a2 S K) : X G yX11_wordSign cX11_wordSign 2 (some .int) d [.int (Int32.ofInt a1), .int (Int32.ofInt a2)] cs (qI G sh mT J K) := by
  refine X.of false (by decide +kernel) (by decide) (Nat.le_of_ble_eq_true rfl) ?_
  show Z (RX11, cX11_wordSign, 2, some .int, false) G d _ 0 [(0, .int (Int32.ofInt a1)), (1, .int (Int32.ofInt a2))] [] cs
  have hP : ∀ (v : Int) (S : St) (cs : List va_E), K v S → Wd G sh mT J S cs → qI G sh mT J K (some (.int (Int32.ofInt v))) cs := fun v S cs a b => ⟨v, S, rfl, a, b⟩
  unfold wX11_wordSign at hw
  have hw := hw g1 g2
  refine z_iload_n dX11_wordSign_0 rfl rfl ?_
  refine i_if_ne (tgt := 45) dX11_wordSign_1 (by decide) g1 (fun h1 => ?_) (fun h1 => ?_)
  · have hw := hw.1 h1
    refine z_iload_n dX11_wordSign_45 rfl rfl ?_
    refine z_iconst (v := Int32.ofInt 1) dX11_wordSign_46 rfl ?_
    refine i_icmp_ne (tgt := 71) dX11_wordSign_47 (by decide) g1 ⟨by decide, by decide⟩ (fun h2 => ?_) (fun h2 => ?_)
    · have hw := hw.1 h2
      refine z_iload_n dX11_wordSign_71 rfl rfl ?_
      rcases (show (¬ (0 ≤ a2 ∧ a2 ≤ 8)) ∨ a2 = 0 ∨ a2 = 1 ∨ a2 = 2 ∨ a2 = 3 ∨ a2 = 4 ∨ a2 = 5 ∨ a2 = 6 ∨ a2 = 7 ∨ a2 = 8 by omega) with h3 | h3 | h3 | h3 | h3 | h3 | h3 | h3 | h3 | h3
      · have hw := hw.1 h3
        refine i_tableOut (tgt := 151) dX11_wordSign_72 g2 h3 (by decide) ?_
        refine z_iconst (v := Int32.ofInt 0) dX11_wordSign_151 rfl ?_
        exact z_ireturn dX11_wordSign_152 rfl rfl (hP _ _ _ hw hW)
      · have hw := hw.2.1 h3
        refine i_tableIn (c := 0) (off := 52) (tgt := 124) dX11_wordSign_72 h3 ⟨by decide, by decide⟩ (by decide) (by decide) rfl (by decide) ?_
        refine z_bipush (v := Int32.ofInt 114) dX11_wordSign_124 (by decide) ?_
        exact z_ireturn dX11_wordSign_126 rfl rfl (hP _ _ _ hw hW)
      · have hw := hw.2.2.1 h3
        refine i_tableIn (c := 1) (off := 55) (tgt := 127) dX11_wordSign_72 h3 ⟨by decide, by decide⟩ (by decide) (by decide) rfl (by decide) ?_
        refine z_bipush (v := Int32.ofInt 101) dX11_wordSign_127 (by decide) ?_
        exact z_ireturn dX11_wordSign_129 rfl rfl (hP _ _ _ hw hW)
      · have hw := hw.2.2.2.1 h3
        refine i_tableIn (c := 2) (off := 58) (tgt := 130) dX11_wordSign_72 h3 ⟨by decide, by decide⟩ (by decide) (by decide) rfl (by decide) ?_
        refine z_bipush (v := Int32.ofInt 102) dX11_wordSign_130 (by decide) ?_
        exact z_ireturn dX11_wordSign_132 rfl rfl (hP _ _ _ hw hW)
      · have hw := hw.2.2.2.2.1 h3
        refine i_tableIn (c := 3) (off := 61) (tgt := 133) dX11_wordSign_72 h3 ⟨by decide, by decide⟩ (by decide) (by decide) rfl (by decide) ?_
        refine z_bipush (v := Int32.ofInt 101) dX11_wordSign_133 (by decide) ?_
        exact z_ireturn dX11_wordSign_135 rfl rfl (hP _ _ _ hw hW)
      · have hw := hw.2.2.2.2.2.1 h3
        refine i_tableIn (c := 4) (off := 64) (tgt := 136) dX11_wordSign_72 h3 ⟨by decide, by decide⟩ (by decide) (by decide) rfl (by decide) ?_
        refine z_bipush (v := Int32.ofInt 114) dX11_wordSign_136 (by decide) ?_
        exact z_ireturn dX11_wordSign_138 rfl rfl (hP _ _ _ hw hW)
      · have hw := hw.2.2.2.2.2.2.1 h3
        refine i_tableIn (c := 5) (off := 67) (tgt := 139) dX11_wordSign_72 h3 ⟨by decide, by decide⟩ (by decide) (by decide) rfl (by decide) ?_
        refine z_bipush (v := Int32.ofInt 101) dX11_wordSign_139 (by decide) ?_
        exact z_ireturn dX11_wordSign_141 rfl rfl (hP _ _ _ hw hW)
      · have hw := hw.2.2.2.2.2.2.2.1 h3
        refine i_tableIn (c := 6) (off := 70) (tgt := 142) dX11_wordSign_72 h3 ⟨by decide, by decide⟩ (by decide) (by decide) rfl (by decide) ?_
        refine z_bipush (v := Int32.ofInt 110) dX11_wordSign_142 (by decide) ?_
        exact z_ireturn dX11_wordSign_144 rfl rfl (hP _ _ _ hw hW)
      · have hw := hw.2.2.2.2.2.2.2.2.1 h3
        refine i_tableIn (c := 7) (off := 73) (tgt := 145) dX11_wordSign_72 h3 ⟨by decide, by decide⟩ (by decide) (by decide) rfl (by decide) ?_
        refine z_bipush (v := Int32.ofInt 99) dX11_wordSign_145 (by decide) ?_
        exact z_ireturn dX11_wordSign_147 rfl rfl (hP _ _ _ hw hW)
      · have hw := hw.2.2.2.2.2.2.2.2.2 h3
        refine i_tableIn (c := 8) (off := 76) (tgt := 148) dX11_wordSign_72 h3 ⟨by decide, by decide⟩ (by decide) (by decide) rfl (by decide) ?_
        refine z_bipush (v := Int32.ofInt 101) dX11_wordSign_148 (by decide) ?_
        exact z_ireturn dX11_wordSign_150 rfl rfl (hP _ _ _ hw hW)
    · have hw := hw.2 h2
      refine z_iload_n dX11_wordSign_50 rfl rfl ?_
      refine i_if_ne (tgt := 59) dX11_wordSign_51 (by decide) g2 (fun h4 => ?_) (fun h4 => ?_)
      · have hw := hw.1 h4
        refine z_iload_n dX11_wordSign_59 rfl rfl ?_
        refine z_iconst (v := Int32.ofInt 1) dX11_wordSign_60 rfl ?_
        refine i_icmp_ne (tgt := 69) dX11_wordSign_61 (by decide) g2 ⟨by decide, by decide⟩ (fun h5 => ?_) (fun h5 => ?_)
        · have hw := hw.1 h5
          refine z_iconst (v := Int32.ofInt 0) dX11_wordSign_69 rfl ?_
          exact z_ireturn dX11_wordSign_70 rfl rfl (hP _ _ _ hw hW)
        · have hw := hw.2 h5
          refine z_bipush (v := Int32.ofInt 100) dX11_wordSign_64 (by decide) ?_
          refine z_goto (tgt := 70) dX11_wordSign_66 (by decide) ?_
          exact z_ireturn dX11_wordSign_70 rfl rfl (hP _ _ _ hw hW)
      · have hw := hw.2 h4
        refine z_bipush (v := Int32.ofInt 105) dX11_wordSign_54 (by decide) ?_
        refine z_goto (tgt := 70) dX11_wordSign_56 (by decide) ?_
        exact z_ireturn dX11_wordSign_70 rfl rfl (hP _ _ _ hw hW)
  · have hw := hw.2 h1
    refine z_iload_n dX11_wordSign_4 rfl rfl ?_
    refine i_if_ne (tgt := 13) dX11_wordSign_5 (by decide) g2 (fun h6 => ?_) (fun h6 => ?_)
    · have hw := hw.1 h6
      refine z_iload_n dX11_wordSign_13 rfl rfl ?_
      refine z_iconst (v := Int32.ofInt 1) dX11_wordSign_14 rfl ?_
      refine i_icmp_ne (tgt := 23) dX11_wordSign_15 (by decide) g2 ⟨by decide, by decide⟩ (fun h7 => ?_) (fun h7 => ?_)
      · have hw := hw.1 h7
        refine z_iload_n dX11_wordSign_23 rfl rfl ?_
        refine z_iconst (v := Int32.ofInt 2) dX11_wordSign_24 rfl ?_
        refine i_icmp_ne (tgt := 33) dX11_wordSign_25 (by decide) g2 ⟨by decide, by decide⟩ (fun h8 => ?_) (fun h8 => ?_)
        · have hw := hw.1 h8
          refine z_iload_n dX11_wordSign_33 rfl rfl ?_
          refine z_iconst (v := Int32.ofInt 5) dX11_wordSign_34 rfl ?_
          refine i_icmp_ge (tgt := 43) dX11_wordSign_35 (by decide) g2 ⟨by decide, by decide⟩ (fun h9 => ?_) (fun h9 => ?_)
          · have hw := hw.1 h9
            refine z_iconst (v := Int32.ofInt 0) dX11_wordSign_43 rfl ?_
            exact z_ireturn dX11_wordSign_44 rfl rfl (hP _ _ _ hw hW)
          · have hw := hw.2 h9
            refine z_bipush (v := Int32.ofInt 115) dX11_wordSign_38 (by decide) ?_
            refine z_goto (tgt := 44) dX11_wordSign_40 (by decide) ?_
            exact z_ireturn dX11_wordSign_44 rfl rfl (hP _ _ _ hw hW)
        · have hw := hw.2 h8
          refine z_bipush (v := Int32.ofInt 97) dX11_wordSign_28 (by decide) ?_
          refine z_goto (tgt := 44) dX11_wordSign_30 (by decide) ?_
          exact z_ireturn dX11_wordSign_44 rfl rfl (hP _ _ _ hw hW)
      · have hw := hw.2 h7
        refine z_bipush (v := Int32.ofInt 108) dX11_wordSign_18 (by decide) ?_
        refine z_goto (tgt := 44) dX11_wordSign_20 (by decide) ?_
        exact z_ireturn dX11_wordSign_44 rfl rfl (hP _ _ _ hw hW)
    · have hw := hw.2 h6
      refine z_bipush (v := Int32.ofInt 99) dX11_wordSign_8 (by decide) ?_
      refine z_goto (tgt := 44) dX11_wordSign_10 (by decide) ?_
      exact z_ireturn dX11_wordSign_44 rfl rfl (hP _ _ _ hw hW)

def wX11_isKey_65 (l1 l2 l4 s0 : Int) (S : St) (K : Int → St → Prop) (B22 : Int → Int → Int → Int → St → Prop) : Prop := B22 (l1) (l2) (s0) ((l4 + 1)) S
set_option maxRecDepth 100000 in
set_option maxHeartbeats 4000000 in
theorem bX11_isKey_65 {G : xG} {sh : Nat → Option Sh} {J : St → List va_E → Prop} {d : Nat} {Post : xP} {l1 l2 l4 s0 : Int} {S : St} {cs : List va_E} {K : Int → St → Prop} {B22 : Int → Int → Int → Int → St → Prop} (hd : 1 ≤ d) (hJ : Stb sh J) (hT : isM sh) (hW : Wd G sh mT J S cs) (hP : ∀ (v : Int) (S : St) (cs : List va_E), K v S → Wd G sh mT J S cs → Post (some (.int (Int32.ofInt v))) cs) (hB22 : ∀ (l1 : Int) (l2 : Int) (l3 : Int) (l4 : Int) (S : St) (cs : List va_E), B22 l1 l2 l3 l4 S → Wd G sh mT J S cs → Z (RX11, cX11_isKey, 5, some .boolean, false) G d Post 22 [(0, .ref (G.1 + 54)), (1, .int (Int32.ofInt (l1))), (2, .int (Int32.ofInt (l2))), (3, .int (Int32.ofInt (l3))), (4, .int (Int32.ofInt (l4)))] [] cs) (hw : wX11_isKey_65 l1 l2 l4 s0 S K B22) : Z (RX11, cX11_isKey, 5, some .boolean, false) G d Post 65 [(0, .ref (G.1 + 54)), (1, .int (Int32.ofInt (l1))), (2, .int (Int32.ofInt (l2))), (4, .int (Int32.ofInt (l4)))] [.int (Int32.ofInt (s0))] cs := by
  unfold wX11_isKey_65 at hw
  refine z_istore_n dX11_isKey_65 rfl (by decide) ?_
  refine z_loc (L' := [(0, .ref (G.1 + 54)), (1, .int (Int32.ofInt (l1))), (2, .int (Int32.ofInt (l2))), (3, .int (Int32.ofInt (s0))), (4, .int (Int32.ofInt (l4)))]) (List.forall_mem_cons.mpr ⟨rfl, (List.forall_mem_cons.mpr ⟨rfl, (List.forall_mem_cons.mpr ⟨rfl, (List.forall_mem_cons.mpr ⟨rfl, (List.forall_mem_cons.mpr ⟨rfl, (fun _ h => nomatch h)⟩)⟩)⟩)⟩)⟩) ?_
  refine i_iinc (l := l4) dX11_isKey_66 rfl (by decide) ?_
  refine z_loc (L' := [(0, .ref (G.1 + 54)), (1, .int (Int32.ofInt (l1))), (2, .int (Int32.ofInt (l2))), (3, .int (Int32.ofInt (s0))), (4, .int (Int32.ofInt ((l4 + 1))))]) (List.forall_mem_cons.mpr ⟨rfl, (List.forall_mem_cons.mpr ⟨rfl, (List.forall_mem_cons.mpr ⟨rfl, (List.forall_mem_cons.mpr ⟨rfl, (List.forall_mem_cons.mpr ⟨rfl, (fun _ h => nomatch h)⟩)⟩)⟩)⟩)⟩) ?_
  refine z_goto (tgt := 22) dX11_isKey_69 (by decide) ?_
  refine z_loc (L' := [(0, .ref (G.1 + 54)), (1, .int (Int32.ofInt (l1))), (2, .int (Int32.ofInt (l2))), (3, .int (Int32.ofInt (s0))), (4, .int (Int32.ofInt ((l4 + 1))))]) (List.forall_mem_cons.mpr ⟨rfl, (List.forall_mem_cons.mpr ⟨rfl, (List.forall_mem_cons.mpr ⟨rfl, (List.forall_mem_cons.mpr ⟨rfl, (List.forall_mem_cons.mpr ⟨rfl, (fun _ h => nomatch h)⟩)⟩)⟩)⟩)⟩) ?_
  exact hB22 _ _ _ _ _ _ hw hW
def wX11_isKey_22' (l1 l2 l3 l4 : Int) (S : St) (K : Int → St → Prop) (B22 : Int → Int → Int → Int → St → Prop) : Prop := ((0 : Int) ≤ l1 ∧ l1 < (600 : Int) ∧ (iv 0 3000 (S.2 93 (l1)) → (rng (l4) ∧ ((S.2 93 (l1) ≤ l4 → (iv 0 1 (l3) ∧ K (l3) S)) ∧ ((¬ (S.2 93 (l1) ≤ l4)) → (rng (l3) ∧ ((l3 = 0 → (iv 0 1 (l3) ∧ K (l3) S)) ∧ ((¬ (l3 = 0)) → ((0 : Int) ≤ l1 ∧ l1 < (600 : Int) ∧ (iv 0 3000 (S.2 92 (l1)) → ((0 : Int) ≤ (S.2 92 (l1) + l4) ∧ (S.2 92 (l1) + l4) < (3000 : Int) ∧ (iv (-2147483648) 2147483647 (S.2 84 ((S.2 92 (l1) + l4))) → (rng (l2) ∧ (wX11_wordSign (l2) (l4) S (fun r14 S15 => (rng (r14) ∧ ((¬ S.2 84 ((S.2 92 (l1) + l4)) = r14 → wX11_isKey_65 (l1) (l2) (l4) (0) S15 K B22) ∧ ((¬ (¬ S.2 84 ((S.2 92 (l1) + l4)) = r14)) → wX11_isKey_65 (l1) (l2) (l4) (1) S15 K B22))))))))))))))))))
set_option maxRecDepth 100000 in
set_option maxHeartbeats 4000000 in
theorem bX11_isKey_22' {G : xG} {sh : Nat → Option Sh} {J : St → List va_E → Prop} {d : Nat} {Post : xP} {l1 l2 l3 l4 : Int} {S : St} {cs : List va_E} {K : Int → St → Prop} {B22 : Int → Int → Int → Int → St → Prop} (hd : 1 ≤ d) (hJ : Stb sh J) (hT : isM sh) (hW : Wd G sh mT J S cs) (hP : ∀ (v : Int) (S : St) (cs : List va_E), K v S → Wd G sh mT J S cs → Post (some (.int (Int32.ofInt v))) cs) (hB22 : ∀ (l1 : Int) (l2 : Int) (l3 : Int) (l4 : Int) (S : St) (cs : List va_E), B22 l1 l2 l3 l4 S → Wd G sh mT J S cs → Z (RX11, cX11_isKey, 5, some .boolean, false) G d Post 22 [(0, .ref (G.1 + 54)), (1, .int (Int32.ofInt (l1))), (2, .int (Int32.ofInt (l2))), (3, .int (Int32.ofInt (l3))), (4, .int (Int32.ofInt (l4)))] [] cs) (hw : wX11_isKey_22' l1 l2 l3 l4 S K B22) : Z (RX11, cX11_isKey, 5, some .boolean, false) G d Post 22 [(0, .ref (G.1 + 54)), (1, .int (Int32.ofInt (l1))), (2, .int (Int32.ofInt (l2))), (3, .int (Int32.ofInt (l3))), (4, .int (Int32.ofInt (l4)))] [] cs := by
  unfold wX11_isKey_22' at hw
  refine z_iload dX11_isKey_22 rfl ?_
  refine z_aload_n dX11_isKey_24 rfl rfl ?_
  refine g_getR hW hT.1 mr53 kX11 fX11_129 dX11_isKey_25 ?_
  refine z_iload_n dX11_isKey_28 rfl rfl ?_
  obtain ⟨q1a, q1b, hw⟩ := hw
  have q2 : iv 0 3000 (S.2 93 (l1)) := mA93 hW _
  have hw := hw q2
  refine g_iald hW (ma93 hT) q1a q1b (by decide) dX11_isKey_29 ?_
  obtain ⟨q4, hw⟩ := hw
  refine i_icmp_ge (tgt := 72) dX11_isKey_30 (by decide) q4 (rngq q2 (by decide) (by decide)) (fun h3 => ?_) (fun h3 => ?_)
  · have hw := hw.1 h3
    refine z_iload_n dX11_isKey_72 rfl rfl ?_
    obtain ⟨q5, hw⟩ := hw
    exact z_ireturn dX11_isKey_73 rfl (nar01 (b01 q5)) (hP _ _ _ hw hW)
  · have hw := hw.2 h3
    refine z_iload_n dX11_isKey_33 rfl rfl ?_
    obtain ⟨q7, hw⟩ := hw
    refine i_if_eq (tgt := 72) dX11_isKey_34 (by decide) q7 (fun h6 => ?_) (fun h6 => ?_)
    · have hw := hw.1 h6
      refine z_iload_n dX11_isKey_72 rfl rfl ?_
      obtain ⟨q8, hw⟩ := hw
      exact z_ireturn dX11_isKey_73 rfl (nar01 (b01 q8)) (hP _ _ _ hw hW)
    · have hw := hw.2 h6
      refine z_aload_n dX11_isKey_37 rfl rfl ?_
      refine g_getR hW hT.1 mr42 kX11 fX11_102 dX11_isKey_38 ?_
      refine z_aload_n dX11_isKey_41 rfl rfl ?_
      refine g_getR hW hT.1 mr52 kX11 fX11_126 dX11_isKey_42 ?_
      refine z_iload_n dX11_isKey_45 rfl rfl ?_
      obtain ⟨q9a, q9b, hw⟩ := hw
      have q10 : iv 0 3000 (S.2 92 (l1)) := mA92 hW _
      have hw := hw q10
      refine g_iald hW (ma92 hT) q9a q9b (by decide) dX11_isKey_46 ?_
      refine z_iload dX11_isKey_47 rfl ?_
      refine i_iadd dX11_isKey_49 ?_
      obtain ⟨q11a, q11b, hw⟩ := hw
      have q12 : iv (-2147483648) 2147483647 (S.2 84 ((S.2 92 (l1) + l4))) := mA84 hW _
      have hw := hw q12
      refine g_iald hW (ma84 hT) q11a q11b (by decide) dX11_isKey_50 ?_
      refine z_iload_n dX11_isKey_51 rfl rfl ?_
      refine z_iload dX11_isKey_52 rfl ?_
      obtain ⟨q13, hw⟩ := hw
      have hX := lX11_wordSign 0 (Nat.le_refl _) hJ hT hW q13 q4 hw
      refine z_callS (As := [_, _]) eX11_wordSign sX11_wordSign lX11_417 dX11_isKey_54 hX (Nat.le_trans (by decide) hd) rfl (Nat.le_of_ble_eq_true rfl) (fun r cs hp => ?_)
      obtain ⟨r14, S15, rfl, hw, hW⟩ := hp
      refine z_st (st' := [.int (Int32.ofInt (r14)), .int (Int32.ofInt (S.2 84 ((S.2 92 (l1) + l4))))]) rfl ?_
      obtain ⟨q17, hw⟩ := hw
      refine i_icmp_ne (tgt := 64) dX11_isKey_57 (by decide) (rngq q12 (by decide) (by decide)) q17 (fun h16 => ?_) (fun h16 => ?_)
      · have hw := hw.1 h16
        refine z_iconst (v := Int32.ofInt 0) dX11_isKey_64 rfl ?_
        refine z_loc (L' := [(0, .ref (G.1 + 54)), (1, .int (Int32.ofInt (l1))), (2, .int (Int32.ofInt (l2))), (4, .int (Int32.ofInt (l4)))]) (List.forall_mem_cons.mpr ⟨rfl, (List.forall_mem_cons.mpr ⟨rfl, (List.forall_mem_cons.mpr ⟨rfl, (List.forall_mem_cons.mpr ⟨rfl, (fun _ h => nomatch h)⟩)⟩)⟩)⟩) ?_
        exact bX11_isKey_65 hd hJ hT hW hP hB22 hw
      · have hw := hw.2 h16
        refine z_iconst (v := Int32.ofInt 1) dX11_isKey_60 rfl ?_
        refine z_goto (tgt := 65) dX11_isKey_61 (by decide) ?_
        refine z_loc (L' := [(0, .ref (G.1 + 54)), (1, .int (Int32.ofInt (l1))), (2, .int (Int32.ofInt (l2))), (4, .int (Int32.ofInt (l4)))]) (List.forall_mem_cons.mpr ⟨rfl, (List.forall_mem_cons.mpr ⟨rfl, (List.forall_mem_cons.mpr ⟨rfl, (List.forall_mem_cons.mpr ⟨rfl, (fun _ h => nomatch h)⟩)⟩)⟩)⟩) ?_
        exact bX11_isKey_65 hd hJ hT hW hP hB22 hw
def wX11_isKey_22 (l1 l2 l3 l4 : Int) (S : St) (K : Int → St → Prop) : Prop := ∃ (Iv : Int → Int → Int → Int → St → Prop) (mu : Int → Int → Int → Int → St → Nat), Iv l1 l2 l3 l4 S ∧ ∀ (l1 l2 l3 l4 : Int) (S : St), Iv l1 l2 l3 l4 S → wX11_isKey_22' l1 l2 l3 l4 S K  (fun ml1 ml2 ml3 ml4 T => Iv ml1 ml2 ml3 ml4 T ∧ mu ml1 ml2 ml3 ml4 T < mu l1 l2 l3 l4 S)
set_option maxRecDepth 100000 in
set_option maxHeartbeats 4000000 in
theorem bX11_isKey_22 {G : xG} {sh : Nat → Option Sh} {J : St → List va_E → Prop} {d : Nat} {Post : xP} {l1 l2 l3 l4 : Int} {S : St} {cs : List va_E} {K : Int → St → Prop} (hd : 1 ≤ d) (hJ : Stb sh J) (hT : isM sh) (hW : Wd G sh mT J S cs) (hP : ∀ (v : Int) (S : St) (cs : List va_E), K v S → Wd G sh mT J S cs → Post (some (.int (Int32.ofInt v))) cs)  (hw : wX11_isKey_22 l1 l2 l3 l4 S K ) : Z (RX11, cX11_isKey, 5, some .boolean, false) G d Post 22 [(0, .ref (G.1 + 54)), (1, .int (Int32.ofInt (l1))), (2, .int (Int32.ofInt (l2))), (3, .int (Int32.ofInt (l3))), (4, .int (Int32.ofInt (l4)))] [] cs := by
  unfold wX11_isKey_22 at hw
  obtain ⟨Iv, mu, h0, hs⟩ := hw
  have key : ∀ (n : Nat) (l1 l2 l3 l4 : Int) (S : St) (cs : List va_E), mu l1 l2 l3 l4 S < n → Iv l1 l2 l3 l4 S → Wd G sh mT J S cs → Z (RX11, cX11_isKey, 5, some .boolean, false) G d Post 22 [(0, .ref (G.1 + 54)), (1, .int (Int32.ofInt (l1))), (2, .int (Int32.ofInt (l2))), (3, .int (Int32.ofInt (l3))), (4, .int (Int32.ofInt (l4)))] [] cs := by
    intro n
    induction n with
    | zero => intro l1 l2 l3 l4 S cs hn; exact absurd hn (Nat.not_lt_zero _)
    | succ n ih =>
      intro l1 l2 l3 l4 S cs hn hI hW
      exact bX11_isKey_22' hd hJ hT hW hP  (fun l1 l2 l3 l4 S cs hb hW => ih l1 l2 l3 l4 S cs (Nat.lt_of_lt_of_le hb.2 (Nat.le_of_lt_succ hn)) hb.1 hW) (hs l1 l2 l3 l4 S hI)
  exact key _ _ _ _ _ _ _ (Nat.lt_succ_self _) h0 hW
def wX11_isKey_18 (l1 l2 s0 : Int) (S : St) (K : Int → St → Prop) : Prop := wX11_isKey_22 (l1) (l2) (s0) (0) S K
set_option maxRecDepth 100000 in
set_option maxHeartbeats 4000000 in
theorem bX11_isKey_18 {G : xG} {sh : Nat → Option Sh} {J : St → List va_E → Prop} {d : Nat} {Post : xP} {l1 l2 s0 : Int} {S : St} {cs : List va_E} {K : Int → St → Prop} (hd : 1 ≤ d) (hJ : Stb sh J) (hT : isM sh) (hW : Wd G sh mT J S cs) (hP : ∀ (v : Int) (S : St) (cs : List va_E), K v S → Wd G sh mT J S cs → Post (some (.int (Int32.ofInt v))) cs)  (hw : wX11_isKey_18 l1 l2 s0 S K ) : Z (RX11, cX11_isKey, 5, some .boolean, false) G d Post 18 [(0, .ref (G.1 + 54)), (1, .int (Int32.ofInt (l1))), (2, .int (Int32.ofInt (l2)))] [.int (Int32.ofInt (s0))] cs := by
  unfold wX11_isKey_18 at hw
  refine z_istore_n dX11_isKey_18 rfl (by decide) ?_
  refine z_loc (L' := [(0, .ref (G.1 + 54)), (1, .int (Int32.ofInt (l1))), (2, .int (Int32.ofInt (l2))), (3, .int (Int32.ofInt (s0)))]) (List.forall_mem_cons.mpr ⟨rfl, (List.forall_mem_cons.mpr ⟨rfl, (List.forall_mem_cons.mpr ⟨rfl, (List.forall_mem_cons.mpr ⟨rfl, (fun _ h => nomatch h)⟩)⟩)⟩)⟩) ?_
  refine z_iconst (v := Int32.ofInt 0) dX11_isKey_19 rfl ?_
  refine z_istore dX11_isKey_20 (by decide) ?_
  refine z_loc (L' := [(0, .ref (G.1 + 54)), (1, .int (Int32.ofInt (l1))), (2, .int (Int32.ofInt (l2))), (3, .int (Int32.ofInt (s0))), (4, .int (Int32.ofInt (0)))]) (List.forall_mem_cons.mpr ⟨rfl, (List.forall_mem_cons.mpr ⟨rfl, (List.forall_mem_cons.mpr ⟨rfl, (List.forall_mem_cons.mpr ⟨rfl, (List.forall_mem_cons.mpr ⟨rfl, (fun _ h => nomatch h)⟩)⟩)⟩)⟩)⟩) ?_
  refine z_loc (L' := [(0, .ref (G.1 + 54)), (1, .int (Int32.ofInt (l1))), (2, .int (Int32.ofInt (l2))), (3, .int (Int32.ofInt (s0))), (4, .int (Int32.ofInt (0)))]) (List.forall_mem_cons.mpr ⟨rfl, (List.forall_mem_cons.mpr ⟨rfl, (List.forall_mem_cons.mpr ⟨rfl, (List.forall_mem_cons.mpr ⟨rfl, (List.forall_mem_cons.mpr ⟨rfl, (fun _ h => nomatch h)⟩)⟩)⟩)⟩)⟩) ?_
  exact bX11_isKey_22 hd hJ hT hW hP  hw
def wX11_isKey (a1 a2 : Int) (S : St) (K : Int → St → Prop) : Prop := rng a1 → rng a2 → ((0 : Int) ≤ a1 ∧ a1 < (600 : Int) ∧ (iv 0 3000 (S.2 93 (a1)) → (wX11_wordSign (a2) (S.2 93 (a1)) S (fun r3 S4 => (rng (r3) ∧ ((¬ r3 = 0 → wX11_isKey_18 (a1) (a2) (0) S4 K) ∧ ((¬ (¬ r3 = 0)) → wX11_isKey_18 (a1) (a2) (1) S4 K)))))))
set_option maxRecDepth 100000 in
set_option maxHeartbeats 4000000 in
theorem lX11_isKey {G : xG} {sh : Nat → Option Sh} {J : St → List va_E → Prop} {a1 a2 : Int} {S : St} {cs : List va_E} {K : Int → St → Prop} (d : Nat) (hd : 1 ≤ d) (hJ : Stb sh J) (hT : isM sh) (hW : Wd G sh mT J S cs) (g1 : rng a1) (g2 : rng a2) (hw : wX11_isKey a1 a2 S K) : X G yX11_isKey cX11_isKey 5 (some .boolean) d [.ref (G.1 + 54), .int (Int32.ofInt a1), .int (Int32.ofInt a2)] cs (qI G sh mT J K) := by
  refine X.of false (by decide +kernel) (by decide) (Nat.le_of_ble_eq_true rfl) ?_
  show Z (RX11, cX11_isKey, 5, some .boolean, false) G d _ 0 [(0, .ref (G.1 + 54)), (1, .int (Int32.ofInt a1)), (2, .int (Int32.ofInt a2))] [] cs
  have hP : ∀ (v : Int) (S : St) (cs : List va_E), K v S → Wd G sh mT J S cs → qI G sh mT J K (some (.int (Int32.ofInt v))) cs := fun v S cs a b => ⟨v, S, rfl, a, b⟩
  unfold wX11_isKey at hw
  have hw := hw g1 g2
  refine z_iload_n dX11_isKey_0 rfl rfl ?_
  refine z_aload_n dX11_isKey_1 rfl rfl ?_
  refine g_getR hW hT.1 mr53 kX11 fX11_129 dX11_isKey_2 ?_
  refine z_iload_n dX11_isKey_5 rfl rfl ?_
  obtain ⟨q1a, q1b, hw⟩ := hw
  have q2 : iv 0 3000 (S.2 93 (a1)) := mA93 hW _
  have hw := hw q2
  refine g_iald hW (ma93 hT) q1a q1b (by decide) dX11_isKey_6 ?_
  have hX := lX11_wordSign 0 (Nat.le_refl _) hJ hT hW g2 (rngq q2 (by decide) (by decide)) hw
  refine z_callS (As := [_, _]) eX11_wordSign sX11_wordSign lX11_417 dX11_isKey_7 hX (Nat.le_trans (by decide) hd) rfl (Nat.le_of_ble_eq_true rfl) (fun r cs hp => ?_)
  obtain ⟨r3, S4, rfl, hw, hW⟩ := hp
  refine z_st (st' := [.int (Int32.ofInt (r3))]) rfl ?_
  obtain ⟨q6, hw⟩ := hw
  refine i_if_ne (tgt := 17) dX11_isKey_10 (by decide) q6 (fun h5 => ?_) (fun h5 => ?_)
  · have hw := hw.1 h5
    refine z_iconst (v := Int32.ofInt 0) dX11_isKey_17 rfl ?_
    refine z_loc (L' := [(0, .ref (G.1 + 54)), (1, .int (Int32.ofInt (a1))), (2, .int (Int32.ofInt (a2)))]) (List.forall_mem_cons.mpr ⟨rfl, (List.forall_mem_cons.mpr ⟨rfl, (List.forall_mem_cons.mpr ⟨rfl, (fun _ h => nomatch h)⟩)⟩)⟩) ?_
    exact bX11_isKey_18 hd hJ hT hW hP  hw
  · have hw := hw.2 h5
    refine z_iconst (v := Int32.ofInt 1) dX11_isKey_13 rfl ?_
    refine z_goto (tgt := 18) dX11_isKey_14 (by decide) ?_
    refine z_loc (L' := [(0, .ref (G.1 + 54)), (1, .int (Int32.ofInt (a1))), (2, .int (Int32.ofInt (a2)))]) (List.forall_mem_cons.mpr ⟨rfl, (List.forall_mem_cons.mpr ⟨rfl, (List.forall_mem_cons.mpr ⟨rfl, (fun _ h => nomatch h)⟩)⟩)⟩) ?_
    exact bX11_isKey_18 hd hJ hT hW hP  hw

