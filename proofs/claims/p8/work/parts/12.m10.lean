def wX11_write_148' (l4 : Int) (S : St) (K : Int → St → Prop) (B148 : Int → St → Prop) : Prop := (iv 0 3000 (S.1 54 20) → (rng (l4) ∧ ((S.1 54 20 ≤ l4 → K (S.1 54 20) S) ∧ ((¬ (S.1 54 20 ≤ l4)) → ((0 : Int) ≤ l4 ∧ l4 < (3001 : Int) ∧ (iv (-2147483648) 2147483647 (S.2 83 (l4)) → ((0 : Int) ≤ l4 ∧ l4 < (3000 : Int) ∧ (∀ S7, S7 = pA S 71 (l4) (S.2 83 (l4)) → B148 ((l4 + 1)) S7))))))))
set_option maxRecDepth 100000 in
set_option maxHeartbeats 4000000 in
theorem bX11_write_148' {G : xG} {sh : Nat → Option Sh} {J : St → List va_E → Prop} {d : Nat} {Post : xP} {l4 : Int} {S : St} {cs : List va_E} {K : Int → St → Prop} {B148 : Int → St → Prop} (hd : 9 ≤ d) (hJ : Stb sh J) (hT : isM sh) (hW : Wd G sh mT J S cs) (hP : ∀ (v : Int) (S : St) (cs : List va_E), K v S → Wd G sh mT J S cs → Post (some (.int (Int32.ofInt v))) cs) (hB148 : ∀ (l4 : Int) (S : St) (cs : List va_E), B148 l4 S → Wd G sh mT J S cs → Z (RX11, cX11_write, 5, some .int, false) G d Post 148 [(0, .ref (G.1 + 54)), (4, .int (Int32.ofInt (l4)))] [] cs) (hw : wX11_write_148' l4 S K B148) : Z (RX11, cX11_write, 5, some .int, false) G d Post 148 [(0, .ref (G.1 + 54)), (4, .int (Int32.ofInt (l4)))] [] cs := by
  unfold wX11_write_148' at hw
  refine z_iload dX11_write_148 rfl ?_
  refine z_aload_n dX11_write_150 rfl rfl ?_
  have q1 : iv 0 3000 (S.1 54 20) := mI20 hW
  have hw := hw q1
  refine g_getI hW hT.1 mr20 kX11 fX11_244 dX11_write_151 ?_
  obtain ⟨q3, hw⟩ := hw
  refine i_icmp_ge (tgt := 177) dX11_write_154 (by decide) q3 (rngq q1 (by decide) (by decide)) (fun h2 => ?_) (fun h2 => ?_)
  · have hw := hw.1 h2
    refine z_aload_n dX11_write_177 rfl rfl ?_
    refine g_getI hW hT.1 mr20 kX11 fX11_244 dX11_write_178 ?_
    exact z_ireturn dX11_write_181 rfl rfl (hP _ _ _ hw hW)
  · have hw := hw.2 h2
    refine z_aload_n dX11_write_157 rfl rfl ?_
    refine g_getR hW hT.1 mr21 kX11 fX11_63 dX11_write_158 ?_
    refine z_iload dX11_write_161 rfl ?_
    refine z_aload_n dX11_write_163 rfl rfl ?_
    refine g_getR hW hT.1 mr40 kX11 fX11_99 dX11_write_164 ?_
    refine z_iload dX11_write_167 rfl ?_
    obtain ⟨q4a, q4b, hw⟩ := hw
    have q5 : iv (-2147483648) 2147483647 (S.2 83 (l4)) := mA83 hW _
    have hw := hw q5
    refine g_iald hW (ma83 hT) q4a q4b (by decide) dX11_write_169 ?_
    obtain ⟨q6a, q6b, hw⟩ := hw
    refine g_iast hJ hW (ma71 hT) q6a q6b (by decide) q5 dX11_write_170 (fun cs hW => ?_)
    obtain ⟨S7, hS7⟩ : ∃ x, x = pA S 71 (l4) (S.2 83 (l4)) := ⟨_, rfl⟩
    rw [← hS7] at hW
    have hw := hw S7 hS7
    refine i_iinc (l := l4) dX11_write_171 rfl (by decide) ?_
    refine z_goto (tgt := 148) dX11_write_174 (by decide) ?_
    refine z_loc (L' := [(0, .ref (G.1 + 54)), (4, .int (Int32.ofInt ((l4 + 1))))]) (List.forall_mem_cons.mpr ⟨rfl, (List.forall_mem_cons.mpr ⟨rfl, (fun _ h => nomatch h)⟩)⟩) ?_
    exact hB148 _ _ _ hw hW
def wX11_write_148 (l4 : Int) (S : St) (K : Int → St → Prop) : Prop := ∃ (Iv : Int → St → Prop) (mu : Int → St → Nat), Iv l4 S ∧ ∀ (l4 : Int) (S : St), Iv l4 S → wX11_write_148' l4 S K  (fun ml4 T => Iv ml4 T ∧ mu ml4 T < mu l4 S)
set_option maxRecDepth 100000 in
set_option maxHeartbeats 4000000 in
theorem bX11_write_148 {G : xG} {sh : Nat → Option Sh} {J : St → List va_E → Prop} {d : Nat} {Post : xP} {l4 : Int} {S : St} {cs : List va_E} {K : Int → St → Prop} (hd : 9 ≤ d) (hJ : Stb sh J) (hT : isM sh) (hW : Wd G sh mT J S cs) (hP : ∀ (v : Int) (S : St) (cs : List va_E), K v S → Wd G sh mT J S cs → Post (some (.int (Int32.ofInt v))) cs)  (hw : wX11_write_148 l4 S K ) : Z (RX11, cX11_write, 5, some .int, false) G d Post 148 [(0, .ref (G.1 + 54)), (4, .int (Int32.ofInt (l4)))] [] cs := by
  unfold wX11_write_148 at hw
  obtain ⟨Iv, mu, h0, hs⟩ := hw
  have key : ∀ (n : Nat) (l4 : Int) (S : St) (cs : List va_E), mu l4 S < n → Iv l4 S → Wd G sh mT J S cs → Z (RX11, cX11_write, 5, some .int, false) G d Post 148 [(0, .ref (G.1 + 54)), (4, .int (Int32.ofInt (l4)))] [] cs := by
    intro n
    induction n with
    | zero => intro l4 S cs hn; exact absurd hn (Nat.not_lt_zero _)
    | succ n ih =>
      intro l4 S cs hn hI hW
      exact bX11_write_148' hd hJ hT hW hP  (fun l4 S cs hb hW => ih l4 S cs (Nat.lt_of_lt_of_le hb.2 (Nat.le_of_lt_succ hn)) hb.1 hW) (hs l4 S hI)
  exact key _ _ _ _ (Nat.lt_succ_self _) h0 hW
def wX11_write_117 (l3 : Int) (S : St) (K : Int → St → Prop) : Prop := (iv 0 3001 (S.1 54 39) → ((S.1 54 39 ≤ 3000 → (rng (l3) ∧ ((l3 = 0 → (iv 0 3000 (S.1 54 39) ∧ (∀ S5, S5 = pI S 54 20 (S.1 54 39) → wX11_write_148 (0) S5 K))) ∧ ((¬ (l3 = 0)) → K ((-3)) S)))) ∧ ((¬ (S.1 54 39 ≤ 3000)) → K ((-4)) S)))
set_option maxRecDepth 100000 in
set_option maxHeartbeats 4000000 in
theorem bX11_write_117 {G : xG} {sh : Nat → Option Sh} {J : St → List va_E → Prop} {d : Nat} {Post : xP} {l3 : Int} {S : St} {cs : List va_E} {K : Int → St → Prop} (hd : 9 ≤ d) (hJ : Stb sh J) (hT : isM sh) (hW : Wd G sh mT J S cs) (hP : ∀ (v : Int) (S : St) (cs : List va_E), K v S → Wd G sh mT J S cs → Post (some (.int (Int32.ofInt v))) cs)  (hw : wX11_write_117 l3 S K ) : Z (RX11, cX11_write, 5, some .int, false) G d Post 117 [(0, .ref (G.1 + 54)), (3, .int (Int32.ofInt (l3)))] [] cs := by
  unfold wX11_write_117 at hw
  refine z_aload_n dX11_write_117 rfl rfl ?_
  have q1 : iv 0 3001 (S.1 54 39) := mI39 hW
  have hw := hw q1
  refine g_getI hW hT.1 mr39 kX11 fX11_257 dX11_write_118 ?_
  refine z_sipush (v := Int32.ofInt 3000) dX11_write_121 (by decide) ?_
  refine i_icmp_le (tgt := 130) dX11_write_124 (by decide) (rngq q1 (by decide) (by decide)) ⟨by decide, by decide⟩ (fun h2 => ?_) (fun h2 => ?_)
  · have hw := hw.1 h2
    refine z_iload_n dX11_write_130 rfl rfl ?_
    obtain ⟨q4, hw⟩ := hw
    refine i_if_eq (tgt := 137) dX11_write_131 (by decide) q4 (fun h3 => ?_) (fun h3 => ?_)
    · have hw := hw.1 h3
      refine z_aload_n dX11_write_137 rfl rfl ?_
      refine z_aload_n dX11_write_138 rfl rfl ?_
      refine g_getI hW hT.1 mr39 kX11 fX11_257 dX11_write_139 ?_
      obtain ⟨q6, hw⟩ := hw
      refine g_putI hJ hW hT.1 mr20 kX11 fX11_244 dX11_write_142 rfl rfl rfl q6 (fun cs hW => ?_)
      obtain ⟨S5, hS5⟩ : ∃ x, x = pI S 54 20 (S.1 54 39) := ⟨_, rfl⟩
      rw [← hS5] at hW
      have hw := hw S5 hS5
      refine z_iconst (v := Int32.ofInt 0) dX11_write_145 rfl ?_
      refine z_istore dX11_write_146 (by decide) ?_
      refine z_loc (L' := [(0, .ref (G.1 + 54)), (4, .int (Int32.ofInt (0)))]) (List.forall_mem_cons.mpr ⟨rfl, (List.forall_mem_cons.mpr ⟨rfl, (fun _ h => nomatch h)⟩)⟩) ?_
      exact bX11_write_148 hd hJ hT hW hP  hw
    · have hw := hw.2 h3
      refine z_bipush (v := Int32.ofInt (-3)) dX11_write_134 (by decide) ?_
      exact z_ireturn dX11_write_136 rfl rfl (hP _ _ _ hw hW)
  · have hw := hw.2 h2
    refine z_bipush (v := Int32.ofInt (-4)) dX11_write_127 (by decide) ?_
    exact z_ireturn dX11_write_129 rfl rfl (hP _ _ _ hw hW)
def wX11_write_113 (l2 s0 : Int) (S : St) (K : Int → St → Prop) (B79 : Int → Int → St → Prop) : Prop := B79 (l2) (s0) S
set_option maxRecDepth 100000 in
set_option maxHeartbeats 4000000 in
theorem bX11_write_113 {G : xG} {sh : Nat → Option Sh} {J : St → List va_E → Prop} {d : Nat} {Post : xP} {l2 s0 : Int} {S : St} {cs : List va_E} {K : Int → St → Prop} {B79 : Int → Int → St → Prop} (hd : 9 ≤ d) (hJ : Stb sh J) (hT : isM sh) (hW : Wd G sh mT J S cs) (hP : ∀ (v : Int) (S : St) (cs : List va_E), K v S → Wd G sh mT J S cs → Post (some (.int (Int32.ofInt v))) cs) (hB79 : ∀ (l2 : Int) (l3 : Int) (S : St) (cs : List va_E), B79 l2 l3 S → Wd G sh mT J S cs → Z (RX11, cX11_write, 5, some .int, false) G d Post 79 [(0, .ref (G.1 + 54)), (2, .int (Int32.ofInt (l2))), (3, .int (Int32.ofInt (l3)))] [] cs) (hw : wX11_write_113 l2 s0 S K B79) : Z (RX11, cX11_write, 5, some .int, false) G d Post 113 [(0, .ref (G.1 + 54)), (2, .int (Int32.ofInt (l2)))] [.int (Int32.ofInt (s0))] cs := by
  unfold wX11_write_113 at hw
  refine z_istore_n dX11_write_113 rfl (by decide) ?_
  refine z_goto (tgt := 79) dX11_write_114 (by decide) ?_
  refine z_loc (L' := [(0, .ref (G.1 + 54)), (2, .int (Int32.ofInt (l2))), (3, .int (Int32.ofInt (s0)))]) (List.forall_mem_cons.mpr ⟨rfl, (List.forall_mem_cons.mpr ⟨rfl, (List.forall_mem_cons.mpr ⟨rfl, (fun _ h => nomatch h)⟩)⟩)⟩) ?_
  exact hB79 _ _ _ _ hw hW
def wX11_write_79' (l2 l3 : Int) (S : St) (K : Int → St → Prop) (B79 : Int → Int → St → Prop) : Prop := (iv 0 20 (S.1 54 32) → ((S.1 54 32 ≤ 0 → wX11_write_117 (l3) S K) ∧ ((¬ (S.1 54 32 ≤ 0)) → (rng (l3) ∧ ((¬ l3 = 0 → wX11_write_117 (l3) S K) ∧ ((¬ (¬ l3 = 0)) → (iv 0 3001 (S.1 54 39) → ((3000 < S.1 54 39 → wX11_write_117 (l3) S K) ∧ ((¬ (3000 < S.1 54 39)) → (rng (l2) ∧ (wX11_goesOn (l2) S (fun r8 S9 => (rng (r8) ∧ ((¬ r8 = 0 → wX11_write_113 (l2) (0) S9 K B79) ∧ ((¬ (¬ r8 = 0)) → wX11_write_113 (l2) (1) S9 K B79)))))))))))))))
set_option maxRecDepth 100000 in
set_option maxHeartbeats 4000000 in
theorem bX11_write_79' {G : xG} {sh : Nat → Option Sh} {J : St → List va_E → Prop} {d : Nat} {Post : xP} {l2 l3 : Int} {S : St} {cs : List va_E} {K : Int → St → Prop} {B79 : Int → Int → St → Prop} (hd : 9 ≤ d) (hJ : Stb sh J) (hT : isM sh) (hW : Wd G sh mT J S cs) (hP : ∀ (v : Int) (S : St) (cs : List va_E), K v S → Wd G sh mT J S cs → Post (some (.int (Int32.ofInt v))) cs) (hB79 : ∀ (l2 : Int) (l3 : Int) (S : St) (cs : List va_E), B79 l2 l3 S → Wd G sh mT J S cs → Z (RX11, cX11_write, 5, some .int, false) G d Post 79 [(0, .ref (G.1 + 54)), (2, .int (Int32.ofInt (l2))), (3, .int (Int32.ofInt (l3)))] [] cs) (hw : wX11_write_79' l2 l3 S K B79) : Z (RX11, cX11_write, 5, some .int, false) G d Post 79 [(0, .ref (G.1 + 54)), (2, .int (Int32.ofInt (l2))), (3, .int (Int32.ofInt (l3)))] [] cs := by
  unfold wX11_write_79' at hw
  refine z_aload_n dX11_write_79 rfl rfl ?_
  have q1 : iv 0 20 (S.1 54 32) := mI32 hW
  have hw := hw q1
  refine g_getI hW hT.1 mr32 kX11 fX11_316 dX11_write_80 ?_
  refine i_if_le (tgt := 117) dX11_write_83 (by decide) (rngq q1 (by decide) (by decide)) (fun h2 => ?_) (fun h2 => ?_)
  · have hw := hw.1 h2
    refine z_loc (L' := [(0, .ref (G.1 + 54)), (3, .int (Int32.ofInt (l3)))]) (List.forall_mem_cons.mpr ⟨rfl, (List.forall_mem_cons.mpr ⟨rfl, (fun _ h => nomatch h)⟩)⟩) ?_
    exact bX11_write_117 hd hJ hT hW hP  hw
  · have hw := hw.2 h2
    refine z_iload_n dX11_write_86 rfl rfl ?_
    obtain ⟨q4, hw⟩ := hw
    refine i_if_ne (tgt := 117) dX11_write_87 (by decide) q4 (fun h3 => ?_) (fun h3 => ?_)
    · have hw := hw.1 h3
      refine z_loc (L' := [(0, .ref (G.1 + 54)), (3, .int (Int32.ofInt (l3)))]) (List.forall_mem_cons.mpr ⟨rfl, (List.forall_mem_cons.mpr ⟨rfl, (fun _ h => nomatch h)⟩)⟩) ?_
      exact bX11_write_117 hd hJ hT hW hP  hw
    · have hw := hw.2 h3
      refine z_aload_n dX11_write_90 rfl rfl ?_
      have q5 : iv 0 3001 (S.1 54 39) := mI39 hW
      have hw := hw q5
      refine g_getI hW hT.1 mr39 kX11 fX11_257 dX11_write_91 ?_
      refine z_sipush (v := Int32.ofInt 3000) dX11_write_94 (by decide) ?_
      refine i_icmp_gt (tgt := 117) dX11_write_97 (by decide) (rngq q5 (by decide) (by decide)) ⟨by decide, by decide⟩ (fun h6 => ?_) (fun h6 => ?_)
      · have hw := hw.1 h6
        refine z_loc (L' := [(0, .ref (G.1 + 54)), (3, .int (Int32.ofInt (l3)))]) (List.forall_mem_cons.mpr ⟨rfl, (List.forall_mem_cons.mpr ⟨rfl, (fun _ h => nomatch h)⟩)⟩) ?_
        exact bX11_write_117 hd hJ hT hW hP  hw
      · have hw := hw.2 h6
        refine z_aload_n dX11_write_100 rfl rfl ?_
        refine z_iload_n dX11_write_101 rfl rfl ?_
        obtain ⟨q7, hw⟩ := hw
        have hX := lX11_goesOn 8 (Nat.le_refl _) hJ hT hW q7 hw
        refine z_callV (As := [_]) eX11_goesOn sX11_goesOn lX11_337 rfl dX11_write_102 (hW.1 _ _ hT.1) hX (Nat.le_trans (by decide) hd) rfl (Nat.le_of_ble_eq_true rfl) (fun r cs hp => ?_)
        obtain ⟨r8, S9, rfl, hw, hW⟩ := hp
        refine z_st (st' := [.int (Int32.ofInt (r8))]) rfl ?_
        obtain ⟨q11, hw⟩ := hw
        refine i_if_ne (tgt := 112) dX11_write_105 (by decide) q11 (fun h10 => ?_) (fun h10 => ?_)
        · have hw := hw.1 h10
          refine z_iconst (v := Int32.ofInt 0) dX11_write_112 rfl ?_
          refine z_loc (L' := [(0, .ref (G.1 + 54)), (2, .int (Int32.ofInt (l2)))]) (List.forall_mem_cons.mpr ⟨rfl, (List.forall_mem_cons.mpr ⟨rfl, (fun _ h => nomatch h)⟩)⟩) ?_
          exact bX11_write_113 hd hJ hT hW hP hB79 hw
        · have hw := hw.2 h10
          refine z_iconst (v := Int32.ofInt 1) dX11_write_108 rfl ?_
          refine z_goto (tgt := 113) dX11_write_109 (by decide) ?_
          refine z_loc (L' := [(0, .ref (G.1 + 54)), (2, .int (Int32.ofInt (l2)))]) (List.forall_mem_cons.mpr ⟨rfl, (List.forall_mem_cons.mpr ⟨rfl, (fun _ h => nomatch h)⟩)⟩) ?_
          exact bX11_write_113 hd hJ hT hW hP hB79 hw
def wX11_write_79 (l2 l3 : Int) (S : St) (K : Int → St → Prop) : Prop := ∃ (Iv : Int → Int → St → Prop) (mu : Int → Int → St → Nat), Iv l2 l3 S ∧ ∀ (l2 l3 : Int) (S : St), Iv l2 l3 S → wX11_write_79' l2 l3 S K  (fun ml2 ml3 T => Iv ml2 ml3 T ∧ mu ml2 ml3 T < mu l2 l3 S)
set_option maxRecDepth 100000 in
set_option maxHeartbeats 4000000 in
theorem bX11_write_79 {G : xG} {sh : Nat → Option Sh} {J : St → List va_E → Prop} {d : Nat} {Post : xP} {l2 l3 : Int} {S : St} {cs : List va_E} {K : Int → St → Prop} (hd : 9 ≤ d) (hJ : Stb sh J) (hT : isM sh) (hW : Wd G sh mT J S cs) (hP : ∀ (v : Int) (S : St) (cs : List va_E), K v S → Wd G sh mT J S cs → Post (some (.int (Int32.ofInt v))) cs)  (hw : wX11_write_79 l2 l3 S K ) : Z (RX11, cX11_write, 5, some .int, false) G d Post 79 [(0, .ref (G.1 + 54)), (2, .int (Int32.ofInt (l2))), (3, .int (Int32.ofInt (l3)))] [] cs := by
  unfold wX11_write_79 at hw
  obtain ⟨Iv, mu, h0, hs⟩ := hw
  have key : ∀ (n : Nat) (l2 l3 : Int) (S : St) (cs : List va_E), mu l2 l3 S < n → Iv l2 l3 S → Wd G sh mT J S cs → Z (RX11, cX11_write, 5, some .int, false) G d Post 79 [(0, .ref (G.1 + 54)), (2, .int (Int32.ofInt (l2))), (3, .int (Int32.ofInt (l3)))] [] cs := by
    intro n
    induction n with
    | zero => intro l2 l3 S cs hn; exact absurd hn (Nat.not_lt_zero _)
    | succ n ih =>
      intro l2 l3 S cs hn hI hW
      exact bX11_write_79' hd hJ hT hW hP  (fun l2 l3 S cs hb hW => ih l2 l3 S cs (Nat.lt_of_lt_of_le hb.2 (Nat.le_of_lt_succ hn)) hb.1 hW) (hs l2 l3 S hI)
  exact key _ _ _ _ _ (Nat.lt_succ_self _) h0 hW
def wX11_write_42' (l1 l2 l3 : Int) (S : St) (K : Int → St → Prop) (B42 : Int → Int → Int → St → Prop) : Prop := (rng (l3) ∧ ((30 ≤ l3 → ((0 : Int) ≤ l1 ∧ l1 < (90 : Int) ∧ (iv 0 5 (S.2 68 (l1)) → (rng (l1) ∧ (rng (l2) ∧ (wX11_begin (l1) ((-2)) (S.2 68 (l1)) (0) (l2) S (fun r7 S8 => wX11_write_79 (l2) (0) S8 K))))))) ∧ ((¬ (30 ≤ l3)) → ((0 : Int) ≤ l3 ∧ l3 < (30 : Int) ∧ (∀ S10, S10 = pA S 75 (l3) ((-2)) → B42 (l1) (l2) ((l3 + 1)) S10)))))
set_option maxRecDepth 100000 in
set_option maxHeartbeats 4000000 in
theorem bX11_write_42' {G : xG} {sh : Nat → Option Sh} {J : St → List va_E → Prop} {d : Nat} {Post : xP} {l1 l2 l3 : Int} {S : St} {cs : List va_E} {K : Int → St → Prop} {B42 : Int → Int → Int → St → Prop} (hd : 9 ≤ d) (hJ : Stb sh J) (hT : isM sh) (hW : Wd G sh mT J S cs) (hP : ∀ (v : Int) (S : St) (cs : List va_E), K v S → Wd G sh mT J S cs → Post (some (.int (Int32.ofInt v))) cs) (hB42 : ∀ (l1 : Int) (l2 : Int) (l3 : Int) (S : St) (cs : List va_E), B42 l1 l2 l3 S → Wd G sh mT J S cs → Z (RX11, cX11_write, 5, some .int, false) G d Post 42 [(0, .ref (G.1 + 54)), (1, .int (Int32.ofInt (l1))), (2, .int (Int32.ofInt (l2))), (3, .int (Int32.ofInt (l3)))] [] cs) (hw : wX11_write_42' l1 l2 l3 S K B42) : Z (RX11, cX11_write, 5, some .int, false) G d Post 42 [(0, .ref (G.1 + 54)), (1, .int (Int32.ofInt (l1))), (2, .int (Int32.ofInt (l2))), (3, .int (Int32.ofInt (l3)))] [] cs := by
  unfold wX11_write_42' at hw
  refine z_iload_n dX11_write_42 rfl rfl ?_
  refine z_bipush (v := Int32.ofInt 30) dX11_write_43 (by decide) ?_
  obtain ⟨q2, hw⟩ := hw
  refine i_icmp_ge (tgt := 62) dX11_write_45 (by decide) q2 ⟨by decide, by decide⟩ (fun h1 => ?_) (fun h1 => ?_)
  · have hw := hw.1 h1
    refine z_aload_n dX11_write_62 rfl rfl ?_
    refine z_iload_n dX11_write_63 rfl rfl ?_
    refine z_bipush (v := Int32.ofInt (-2)) dX11_write_64 (by decide) ?_
    refine z_aload_n dX11_write_66 rfl rfl ?_
    refine g_getR hW hT.1 mr15 kX11 fX11_50 dX11_write_67 ?_
    refine z_iload_n dX11_write_70 rfl rfl ?_
    obtain ⟨q3a, q3b, hw⟩ := hw
    have q4 : iv 0 5 (S.2 68 (l1)) := mA68 hW _
    have hw := hw q4
    refine g_iald hW (ma68 hT) q3a q3b (by decide) dX11_write_71 ?_
    refine z_iconst (v := Int32.ofInt 0) dX11_write_72 rfl ?_
    refine z_iload_n dX11_write_73 rfl rfl ?_
    obtain ⟨q5, hw⟩ := hw
    obtain ⟨q6, hw⟩ := hw
    have hX := lX11_begin 4 (Nat.le_refl _) hJ hT hW q5 ⟨by decide, by decide⟩ (rngq q4 (by decide) (by decide)) ⟨by decide, by decide⟩ q6 hw
    refine z_callV (As := [_, _, _, _, _]) eX11_begin sX11_begin lX11_322 rfl dX11_write_74 (hW.1 _ _ hT.1) hX (Nat.le_trans (by decide) hd) rfl (Nat.le_of_ble_eq_true rfl) (fun r cs hp => ?_)
    obtain ⟨r7, S8, rfl, hw, hW⟩ := hp
    refine z_st (st' := []) rfl ?_
    refine z_iconst (v := Int32.ofInt 0) dX11_write_77 rfl ?_
    refine z_istore_n dX11_write_78 rfl (by decide) ?_
    refine z_loc (L' := [(0, .ref (G.1 + 54)), (2, .int (Int32.ofInt (l2))), (3, .int (Int32.ofInt (0)))]) (List.forall_mem_cons.mpr ⟨rfl, (List.forall_mem_cons.mpr ⟨rfl, (List.forall_mem_cons.mpr ⟨rfl, (fun _ h => nomatch h)⟩)⟩)⟩) ?_
    exact bX11_write_79 hd hJ hT hW hP  hw
  · have hw := hw.2 h1
    refine z_aload_n dX11_write_48 rfl rfl ?_
    refine g_getR hW hT.1 mr29 kX11 fX11_75 dX11_write_49 ?_
    refine z_iload_n dX11_write_52 rfl rfl ?_
    refine z_bipush (v := Int32.ofInt (-2)) dX11_write_53 (by decide) ?_
    obtain ⟨q9a, q9b, hw⟩ := hw
    refine g_iast hJ hW (ma75 hT) q9a q9b (by decide) ⟨by decide, by decide⟩ dX11_write_55 (fun cs hW => ?_)
    obtain ⟨S10, hS10⟩ : ∃ x, x = pA S 75 (l3) ((-2)) := ⟨_, rfl⟩
    rw [← hS10] at hW
    have hw := hw S10 hS10
    refine i_iinc (l := l3) dX11_write_56 rfl (by decide) ?_
    refine z_goto (tgt := 42) dX11_write_59 (by decide) ?_
    refine z_loc (L' := [(0, .ref (G.1 + 54)), (1, .int (Int32.ofInt (l1))), (2, .int (Int32.ofInt (l2))), (3, .int (Int32.ofInt ((l3 + 1))))]) (List.forall_mem_cons.mpr ⟨rfl, (List.forall_mem_cons.mpr ⟨rfl, (List.forall_mem_cons.mpr ⟨rfl, (List.forall_mem_cons.mpr ⟨rfl, (fun _ h => nomatch h)⟩)⟩)⟩)⟩) ?_
    exact hB42 _ _ _ _ _ hw hW
def wX11_write_42 (l1 l2 l3 : Int) (S : St) (K : Int → St → Prop) : Prop := ∃ (Iv : Int → Int → Int → St → Prop) (mu : Int → Int → Int → St → Nat), Iv l1 l2 l3 S ∧ ∀ (l1 l2 l3 : Int) (S : St), Iv l1 l2 l3 S → wX11_write_42' l1 l2 l3 S K  (fun ml1 ml2 ml3 T => Iv ml1 ml2 ml3 T ∧ mu ml1 ml2 ml3 T < mu l1 l2 l3 S)
set_option maxRecDepth 100000 in
set_option maxHeartbeats 4000000 in
theorem bX11_write_42 {G : xG} {sh : Nat → Option Sh} {J : St → List va_E → Prop} {d : Nat} {Post : xP} {l1 l2 l3 : Int} {S : St} {cs : List va_E} {K : Int → St → Prop} (hd : 9 ≤ d) (hJ : Stb sh J) (hT : isM sh) (hW : Wd G sh mT J S cs) (hP : ∀ (v : Int) (S : St) (cs : List va_E), K v S → Wd G sh mT J S cs → Post (some (.int (Int32.ofInt v))) cs)  (hw : wX11_write_42 l1 l2 l3 S K ) : Z (RX11, cX11_write, 5, some .int, false) G d Post 42 [(0, .ref (G.1 + 54)), (1, .int (Int32.ofInt (l1))), (2, .int (Int32.ofInt (l2))), (3, .int (Int32.ofInt (l3)))] [] cs := by
  unfold wX11_write_42 at hw
  obtain ⟨Iv, mu, h0, hs⟩ := hw
  have key : ∀ (n : Nat) (l1 l2 l3 : Int) (S : St) (cs : List va_E), mu l1 l2 l3 S < n → Iv l1 l2 l3 S → Wd G sh mT J S cs → Z (RX11, cX11_write, 5, some .int, false) G d Post 42 [(0, .ref (G.1 + 54)), (1, .int (Int32.ofInt (l1))), (2, .int (Int32.ofInt (l2))), (3, .int (Int32.ofInt (l3)))] [] cs := by
    intro n
    induction n with
    | zero => intro l1 l2 l3 S cs hn; exact absurd hn (Nat.not_lt_zero _)
    | succ n ih =>
      intro l1 l2 l3 S cs hn hI hW
      exact bX11_write_42' hd hJ hT hW hP  (fun l1 l2 l3 S cs hb hW => ih l1 l2 l3 S cs (Nat.lt_of_lt_of_le hb.2 (Nat.le_of_lt_succ hn)) hb.1 hW) (hs l1 l2 l3 S hI)
  exact key _ _ _ _ _ _ (Nat.lt_succ_self _) h0 hW
def wX11_write (a1 a2 : Int) (S : St) (K : Int → St → Prop) : Prop := rng a1 → rng a2 → (wX11_isObject (0) (a1) S (fun r1 S2 => (rng (r1) ∧ ((r1 = 0 → K ((-1)) S2) ∧ ((¬ (r1 = 0)) → (wX11_in (a2) (0) (3) S2 (fun r5 S6 => (rng (r5) ∧ ((¬ r5 = 0 → (∀ S9, S9 = pI S6 54 39 (0) → (∀ S10, S10 = pI S9 54 25 (0) → (∀ S11, S11 = pI S10 54 30 (0) → (∀ S12, S12 = pI S11 54 32 (0) → wX11_write_42 (a1) (a2) (0) S12 K))))) ∧ ((¬ (¬ r5 = 0)) → K ((-1)) S6))))))))))
set_option maxRecDepth 100000 in
set_option maxHeartbeats 4000000 in
theorem lX11_write {G : xG} {sh : Nat → Option Sh} {J : St → List va_E → Prop} {a1 a2 : Int} {S : St} {cs : List va_E} {K : Int → St → Prop} (d : Nat) (hd : 9 ≤ d) (hJ : Stb sh J) (hT : isM sh) (hW : Wd G sh mT J S cs) (g1 : rng a1) (g2 : rng a2) (hw : wX11_write a1 a2 S K) : X G yX11_write cX11_write 5 (some .int) d [.ref (G.1 + 54), .int (Int32.ofInt a1), .int (Int32.ofInt a2)] cs (qI G sh mT J K) := by
  refine X.of false (by decide +kernel) (by decide) (Nat.le_of_ble_eq_true rfl) ?_
  show Z (RX11, cX11_write, 5, some .int, false) G d _ 0 [(0, .ref (G.1 + 54)), (1, .int (Int32.ofInt a1)), (2, .int (Int32.ofInt a2))] [] cs
  have hP : ∀ (v : Int) (S : St) (cs : List va_E), K v S → Wd G sh mT J S cs → qI G sh mT J K (some (.int (Int32.ofInt v))) cs := fun v S cs a b => ⟨v, S, rfl, a, b⟩
  unfold wX11_write at hw
  have hw := hw g1 g2
  refine z_aload_n dX11_write_0 rfl rfl ?_
  refine z_iconst (v := Int32.ofInt 0) dX11_write_1 rfl ?_
  refine z_iload_n dX11_write_2 rfl rfl ?_
  have hX := lX11_isObject 0 (Nat.le_refl _) hJ hT hW ⟨by decide, by decide⟩ g1 hw
  refine z_callV (As := [_, _]) eX11_isObject sX11_isObject lX11_247 rfl dX11_write_3 (hW.1 _ _ hT.1) hX (Nat.le_trans (by decide) hd) rfl (Nat.le_of_ble_eq_true rfl) (fun r cs hp => ?_)
  obtain ⟨r1, S2, rfl, hw, hW⟩ := hp
  refine z_st (st' := [.int (Int32.ofInt (r1))]) rfl ?_
  obtain ⟨q4, hw⟩ := hw
  refine i_if_eq (tgt := 18) dX11_write_6 (by decide) q4 (fun h3 => ?_) (fun h3 => ?_)
  · have hw := hw.1 h3
    refine z_iconst (v := Int32.ofInt (-1)) dX11_write_18 rfl ?_
    exact z_ireturn dX11_write_19 rfl rfl (hP _ _ _ hw hW)
  · have hw := hw.2 h3
    refine z_iload_n dX11_write_9 rfl rfl ?_
    refine z_iconst (v := Int32.ofInt 0) dX11_write_10 rfl ?_
    refine z_iconst (v := Int32.ofInt 3) dX11_write_11 rfl ?_
    have hX := lX11_in 0 (Nat.le_refl _) hJ hT hW g2 ⟨by decide, by decide⟩ ⟨by decide, by decide⟩ hw
    refine z_callS (As := [_, _, _]) eX11_in sX11_in lX11_174 dX11_write_12 hX (Nat.le_trans (by decide) hd) rfl (Nat.le_of_ble_eq_true rfl) (fun r cs hp => ?_)
    obtain ⟨r5, S6, rfl, hw, hW⟩ := hp
    refine z_st (st' := [.int (Int32.ofInt (r5))]) rfl ?_
    obtain ⟨q8, hw⟩ := hw
    refine i_if_ne (tgt := 20) dX11_write_15 (by decide) q8 (fun h7 => ?_) (fun h7 => ?_)
    · have hw := hw.1 h7
      refine z_aload_n dX11_write_20 rfl rfl ?_
      refine z_iconst (v := Int32.ofInt 0) dX11_write_21 rfl ?_
      refine g_putI hJ hW hT.1 mr39 kX11 fX11_257 dX11_write_22 rfl rfl rfl ⟨by decide, by decide⟩ (fun cs hW => ?_)
      obtain ⟨S9, hS9⟩ : ∃ x, x = pI S6 54 39 (0) := ⟨_, rfl⟩
      rw [← hS9] at hW
      have hw := hw S9 hS9
      refine z_aload_n dX11_write_25 rfl rfl ?_
      refine z_iconst (v := Int32.ofInt 0) dX11_write_26 rfl ?_
      refine g_putI hJ hW hT.1 mr25 kX11 fX11_278 dX11_write_27 rfl rfl rfl ⟨by decide, by decide⟩ (fun cs hW => ?_)
      obtain ⟨S10, hS10⟩ : ∃ x, x = pI S9 54 25 (0) := ⟨_, rfl⟩
      rw [← hS10] at hW
      have hw := hw S10 hS10
      refine z_aload_n dX11_write_30 rfl rfl ?_
      refine z_iconst (v := Int32.ofInt 0) dX11_write_31 rfl ?_
      refine g_putI hJ hW hT.1 mr30 kX11 fX11_306 dX11_write_32 rfl rfl rfl ⟨by decide, by decide⟩ (fun cs hW => ?_)
      obtain ⟨S11, hS11⟩ : ∃ x, x = pI S10 54 30 (0) := ⟨_, rfl⟩
      rw [← hS11] at hW
      have hw := hw S11 hS11
      refine z_aload_n dX11_write_35 rfl rfl ?_
      refine z_iconst (v := Int32.ofInt 0) dX11_write_36 rfl ?_
      refine g_putI hJ hW hT.1 mr32 kX11 fX11_316 dX11_write_37 rfl rfl rfl ⟨by decide, by decide⟩ (fun cs hW => ?_)
      obtain ⟨S12, hS12⟩ : ∃ x, x = pI S11 54 32 (0) := ⟨_, rfl⟩
      rw [← hS12] at hW
      have hw := hw S12 hS12
      refine z_iconst (v := Int32.ofInt 0) dX11_write_40 rfl ?_
      refine z_istore_n dX11_write_41 rfl (by decide) ?_
      refine z_loc (L' := [(0, .ref (G.1 + 54)), (1, .int (Int32.ofInt (a1))), (2, .int (Int32.ofInt (a2))), (3, .int (Int32.ofInt (0)))]) (List.forall_mem_cons.mpr ⟨rfl, (List.forall_mem_cons.mpr ⟨rfl, (List.forall_mem_cons.mpr ⟨rfl, (List.forall_mem_cons.mpr ⟨rfl, (fun _ h => nomatch h)⟩)⟩)⟩)⟩) ?_
      exact bX11_write_42 hd hJ hT hW hP  hw
    · have hw := hw.2 h7
      refine z_iconst (v := Int32.ofInt (-1)) dX11_write_18 rfl ?_
      exact z_ireturn dX11_write_19 rfl rfl (hP _ _ _ hw hW)
