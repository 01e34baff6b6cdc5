def wX11_read_188' (l2 : Int) (S : St) (K : Int → St → Prop) (B188 : Int → St → Prop) : Prop := ((0 : Int) ≤ 1 ∧ 1 < (3 : Int) ∧ (iv 0 30 (S.2 67 (1)) → (rng (l2) ∧ (rng ((80 * S.2 67 (1))) ∧ (((80 * S.2 67 (1)) ≤ l2 → ((0 : Int) ≤ 1 ∧ 1 < (3 : Int) ∧ (iv 0 30 (S.2 67 (1)) → K (S.2 67 (1)) S))) ∧ ((¬ ((80 * S.2 67 (1)) ≤ l2)) → ((0 : Int) ≤ (4800 + l2) ∧ (4800 + l2) < (7200 : Int) ∧ (iv (-2147483648) 2147483647 (S.2 70 ((4800 + l2))) → ((0 : Int) ≤ (2400 + l2) ∧ (2400 + l2) < (7200 : Int) ∧ (∀ S11, S11 = pA S 70 ((2400 + l2)) (S.2 70 ((4800 + l2))) → B188 ((l2 + 1)) S11))))))))))
set_option maxRecDepth 100000 in
set_option maxHeartbeats 4000000 in
theorem bX11_read_188' {G : xG} {sh : Nat → Option Sh} {J : St → List va_E → Prop} {d : Nat} {Post : xP} {l2 : Int} {S : St} {cs : List va_E} {K : Int → St → Prop} {B188 : Int → St → Prop} (hd : 8 ≤ d) (hJ : Stb sh J) (hT : isM sh) (hW : Wd G sh mT J S cs) (hP : ∀ (v : Int) (S : St) (cs : List va_E), K v S → Wd G sh mT J S cs → Post (some (.int (Int32.ofInt v))) cs) (hB188 : ∀ (l2 : Int) (S : St) (cs : List va_E), B188 l2 S → Wd G sh mT J S cs → Z (RX11, cX11_read, 3, some .int, false) G d Post 188 [(0, .ref (G.1 + 54)), (2, .int (Int32.ofInt (l2)))] [] cs) (hw : wX11_read_188' l2 S K B188) : Z (RX11, cX11_read, 3, some .int, false) G d Post 188 [(0, .ref (G.1 + 54)), (2, .int (Int32.ofInt (l2)))] [] cs := by
  unfold wX11_read_188' at hw
  refine z_iload_n dX11_read_188 rfl rfl ?_
  refine z_bipush (v := Int32.ofInt 80) dX11_read_189 (by decide) ?_
  refine z_aload_n dX11_read_191 rfl rfl ?_
  refine g_getR hW hT.1 mr14 kX11 fX11_47 dX11_read_192 ?_
  refine z_iconst (v := Int32.ofInt 1) dX11_read_195 rfl ?_
  obtain ⟨q1a, q1b, hw⟩ := hw
  have q2 : iv 0 30 (S.2 67 (1)) := mA67 hW _
  have hw := hw q2
  refine g_iald hW (ma67 hT) q1a q1b (by decide) dX11_read_196 ?_
  refine i_imul dX11_read_197 ?_
  obtain ⟨q4, hw⟩ := hw
  obtain ⟨q5, hw⟩ := hw
  refine i_icmp_ge (tgt := 227) dX11_read_198 (by decide) q4 q5 (fun h3 => ?_) (fun h3 => ?_)
  · have hw := hw.1 h3
    refine z_aload_n dX11_read_227 rfl rfl ?_
    refine g_getR hW hT.1 mr14 kX11 fX11_47 dX11_read_228 ?_
    refine z_iconst (v := Int32.ofInt 1) dX11_read_231 rfl ?_
    obtain ⟨q6a, q6b, hw⟩ := hw
    have q7 : iv 0 30 (S.2 67 (1)) := mA67 hW _
    have hw := hw q7
    refine g_iald hW (ma67 hT) q6a q6b (by decide) dX11_read_232 ?_
    exact z_ireturn dX11_read_233 rfl rfl (hP _ _ _ hw hW)
  · have hw := hw.2 h3
    refine z_aload_n dX11_read_201 rfl rfl ?_
    refine g_getR hW hT.1 mr17 kX11 fX11_56 dX11_read_202 ?_
    refine z_sipush (v := Int32.ofInt 2400) dX11_read_205 (by decide) ?_
    refine z_iload_n dX11_read_208 rfl rfl ?_
    refine i_iadd dX11_read_209 ?_
    refine z_aload_n dX11_read_210 rfl rfl ?_
    refine g_getR hW hT.1 mr17 kX11 fX11_56 dX11_read_211 ?_
    refine z_sipush (v := Int32.ofInt 4800) dX11_read_214 (by decide) ?_
    refine z_iload_n dX11_read_217 rfl rfl ?_
    refine i_iadd dX11_read_218 ?_
    obtain ⟨q8a, q8b, hw⟩ := hw
    have q9 : iv (-2147483648) 2147483647 (S.2 70 ((4800 + l2))) := mA70 hW _
    have hw := hw q9
    refine g_iald hW (ma70 hT) q8a q8b (by decide) dX11_read_219 ?_
    obtain ⟨q10a, q10b, hw⟩ := hw
    refine g_iast hJ hW (ma70 hT) q10a q10b (by decide) q9 dX11_read_220 (fun cs hW => ?_)
    obtain ⟨S11, hS11⟩ : ∃ x, x = pA S 70 ((2400 + l2)) (S.2 70 ((4800 + l2))) := ⟨_, rfl⟩
    rw [← hS11] at hW
    have hw := hw S11 hS11
    refine i_iinc (l := l2) dX11_read_221 rfl (by decide) ?_
    refine z_loc (L' := [(0, .ref (G.1 + 54)), (2, .int (Int32.ofInt ((l2 + 1))))]) (List.forall_mem_cons.mpr ⟨rfl, (List.forall_mem_cons.mpr ⟨rfl, (fun _ h => nomatch h)⟩)⟩) ?_
    refine z_goto (tgt := 188) dX11_read_224 (by decide) ?_
    refine z_loc (L' := [(0, .ref (G.1 + 54)), (2, .int (Int32.ofInt ((l2 + 1))))]) (List.forall_mem_cons.mpr ⟨rfl, (List.forall_mem_cons.mpr ⟨rfl, (fun _ h => nomatch h)⟩)⟩) ?_
    exact hB188 _ _ _ hw hW
def wX11_read_188 (l2 : Int) (S : St) (K : Int → St → Prop) : Prop := ∃ (Iv : Int → St → Prop) (mu : Int → St → Nat), Iv l2 S ∧ ∀ (l2 : Int) (S : St), Iv l2 S → wX11_read_188' l2 S K  (fun ml2 T => Iv ml2 T ∧ mu ml2 T < mu l2 S)
set_option maxRecDepth 100000 in
set_option maxHeartbeats 4000000 in
theorem bX11_read_188 {G : xG} {sh : Nat → Option Sh} {J : St → List va_E → Prop} {d : Nat} {Post : xP} {l2 : Int} {S : St} {cs : List va_E} {K : Int → St → Prop} (hd : 8 ≤ d) (hJ : Stb sh J) (hT : isM sh) (hW : Wd G sh mT J S cs) (hP : ∀ (v : Int) (S : St) (cs : List va_E), K v S → Wd G sh mT J S cs → Post (some (.int (Int32.ofInt v))) cs)  (hw : wX11_read_188 l2 S K ) : Z (RX11, cX11_read, 3, some .int, false) G d Post 188 [(0, .ref (G.1 + 54)), (2, .int (Int32.ofInt (l2)))] [] cs := by
  unfold wX11_read_188 at hw
  obtain ⟨Iv, mu, h0, hs⟩ := hw
  have key : ∀ (n : Nat) (l2 : Int) (S : St) (cs : List va_E), mu l2 S < n → Iv l2 S → Wd G sh mT J S cs → Z (RX11, cX11_read, 3, some .int, false) G d Post 188 [(0, .ref (G.1 + 54)), (2, .int (Int32.ofInt (l2)))] [] cs := by
    intro n
    induction n with
    | zero => intro l2 S cs hn; exact absurd hn (Nat.not_lt_zero _)
    | succ n ih =>
      intro l2 S cs hn hI hW
      exact bX11_read_188' hd hJ hT hW hP  (fun l2 S cs hb hW => ih l2 S cs (Nat.lt_of_lt_of_le hb.2 (Nat.le_of_lt_succ hn)) hb.1 hW) (hs l2 S hI)
  exact key _ _ _ _ (Nat.lt_succ_self _) h0 hW
def wX11_read_149' (l2 : Int) (S : St) (K : Int → St → Prop) (B149 : Int → St → Prop) : Prop := ((0 : Int) ≤ 1 ∧ 1 < (3 : Int) ∧ (iv 0 30 (S.2 67 (1)) → (rng (l2) ∧ (rng ((4 * S.2 67 (1))) ∧ (((4 * S.2 67 (1)) ≤ l2 → wX11_read_188 (0) S K) ∧ ((¬ ((4 * S.2 67 (1)) ≤ l2)) → ((0 : Int) ≤ (240 + l2) ∧ (240 + l2) < (360 : Int) ∧ (iv (-2147483648) 2147483647 (S.2 69 ((240 + l2))) → ((0 : Int) ≤ (120 + l2) ∧ (120 + l2) < (360 : Int) ∧ (∀ S9, S9 = pA S 69 ((120 + l2)) (S.2 69 ((240 + l2))) → B149 ((l2 + 1)) S9))))))))))
set_option maxRecDepth 100000 in
set_option maxHeartbeats 4000000 in
theorem bX11_read_149' {G : xG} {sh : Nat → Option Sh} {J : St → List va_E → Prop} {d : Nat} {Post : xP} {l2 : Int} {S : St} {cs : List va_E} {K : Int → St → Prop} {B149 : Int → St → Prop} (hd : 8 ≤ d) (hJ : Stb sh J) (hT : isM sh) (hW : Wd G sh mT J S cs) (hP : ∀ (v : Int) (S : St) (cs : List va_E), K v S → Wd G sh mT J S cs → Post (some (.int (Int32.ofInt v))) cs) (hB149 : ∀ (l2 : Int) (S : St) (cs : List va_E), B149 l2 S → Wd G sh mT J S cs → Z (RX11, cX11_read, 3, some .int, false) G d Post 149 [(0, .ref (G.1 + 54)), (2, .int (Int32.ofInt (l2)))] [] cs) (hw : wX11_read_149' l2 S K B149) : Z (RX11, cX11_read, 3, some .int, false) G d Post 149 [(0, .ref (G.1 + 54)), (2, .int (Int32.ofInt (l2)))] [] cs := by
  unfold wX11_read_149' at hw
  refine z_iload_n dX11_read_149 rfl rfl ?_
  refine z_iconst (v := Int32.ofInt 4) dX11_read_150 rfl ?_
  refine z_aload_n dX11_read_151 rfl rfl ?_
  refine g_getR hW hT.1 mr14 kX11 fX11_47 dX11_read_152 ?_
  refine z_iconst (v := Int32.ofInt 1) dX11_read_155 rfl ?_
  obtain ⟨q1a, q1b, hw⟩ := hw
  have q2 : iv 0 30 (S.2 67 (1)) := mA67 hW _
  have hw := hw q2
  refine g_iald hW (ma67 hT) q1a q1b (by decide) dX11_read_156 ?_
  refine i_imul dX11_read_157 ?_
  obtain ⟨q4, hw⟩ := hw
  obtain ⟨q5, hw⟩ := hw
  refine i_icmp_ge (tgt := 186) dX11_read_158 (by decide) q4 q5 (fun h3 => ?_) (fun h3 => ?_)
  · have hw := hw.1 h3
    refine z_iconst (v := Int32.ofInt 0) dX11_read_186 rfl ?_
    refine z_istore_n dX11_read_187 rfl (by decide) ?_
    refine z_loc (L' := [(0, .ref (G.1 + 54)), (2, .int (Int32.ofInt (0)))]) (List.forall_mem_cons.mpr ⟨rfl, (List.forall_mem_cons.mpr ⟨rfl, (fun _ h => nomatch h)⟩)⟩) ?_
    refine z_loc (L' := [(0, .ref (G.1 + 54)), (2, .int (Int32.ofInt (0)))]) (List.forall_mem_cons.mpr ⟨rfl, (List.forall_mem_cons.mpr ⟨rfl, (fun _ h => nomatch h)⟩)⟩) ?_
    exact bX11_read_188 hd hJ hT hW hP  hw
  · have hw := hw.2 h3
    refine z_aload_n dX11_read_161 rfl rfl ?_
    refine g_getR hW hT.1 mr16 kX11 fX11_53 dX11_read_162 ?_
    refine z_bipush (v := Int32.ofInt 120) dX11_read_165 (by decide) ?_
    refine z_iload_n dX11_read_167 rfl rfl ?_
    refine i_iadd dX11_read_168 ?_
    refine z_aload_n dX11_read_169 rfl rfl ?_
    refine g_getR hW hT.1 mr16 kX11 fX11_53 dX11_read_170 ?_
    refine z_sipush (v := Int32.ofInt 240) dX11_read_173 (by decide) ?_
    refine z_iload_n dX11_read_176 rfl rfl ?_
    refine i_iadd dX11_read_177 ?_
    obtain ⟨q6a, q6b, hw⟩ := hw
    have q7 : iv (-2147483648) 2147483647 (S.2 69 ((240 + l2))) := mA69 hW _
    have hw := hw q7
    refine g_iald hW (ma69 hT) q6a q6b (by decide) dX11_read_178 ?_
    obtain ⟨q8a, q8b, hw⟩ := hw
    refine g_iast hJ hW (ma69 hT) q8a q8b (by decide) q7 dX11_read_179 (fun cs hW => ?_)
    obtain ⟨S9, hS9⟩ : ∃ x, x = pA S 69 ((120 + l2)) (S.2 69 ((240 + l2))) := ⟨_, rfl⟩
    rw [← hS9] at hW
    have hw := hw S9 hS9
    refine i_iinc (l := l2) dX11_read_180 rfl (by decide) ?_
    refine z_loc (L' := [(0, .ref (G.1 + 54)), (2, .int (Int32.ofInt ((l2 + 1))))]) (List.forall_mem_cons.mpr ⟨rfl, (List.forall_mem_cons.mpr ⟨rfl, (fun _ h => nomatch h)⟩)⟩) ?_
    refine z_goto (tgt := 149) dX11_read_183 (by decide) ?_
    refine z_loc (L' := [(0, .ref (G.1 + 54)), (2, .int (Int32.ofInt ((l2 + 1))))]) (List.forall_mem_cons.mpr ⟨rfl, (List.forall_mem_cons.mpr ⟨rfl, (fun _ h => nomatch h)⟩)⟩) ?_
    exact hB149 _ _ _ hw hW
def wX11_read_149 (l2 : Int) (S : St) (K : Int → St → Prop) : Prop := ∃ (Iv : Int → St → Prop) (mu : Int → St → Nat), Iv l2 S ∧ ∀ (l2 : Int) (S : St), Iv l2 S → wX11_read_149' l2 S K  (fun ml2 T => Iv ml2 T ∧ mu ml2 T < mu l2 S)
set_option maxRecDepth 100000 in
set_option maxHeartbeats 4000000 in
theorem bX11_read_149 {G : xG} {sh : Nat → Option Sh} {J : St → List va_E → Prop} {d : Nat} {Post : xP} {l2 : Int} {S : St} {cs : List va_E} {K : Int → St → Prop} (hd : 8 ≤ d) (hJ : Stb sh J) (hT : isM sh) (hW : Wd G sh mT J S cs) (hP : ∀ (v : Int) (S : St) (cs : List va_E), K v S → Wd G sh mT J S cs → Post (some (.int (Int32.ofInt v))) cs)  (hw : wX11_read_149 l2 S K ) : Z (RX11, cX11_read, 3, some .int, false) G d Post 149 [(0, .ref (G.1 + 54)), (2, .int (Int32.ofInt (l2)))] [] cs := by
  unfold wX11_read_149 at hw
  obtain ⟨Iv, mu, h0, hs⟩ := hw
  have key : ∀ (n : Nat) (l2 : Int) (S : St) (cs : List va_E), mu l2 S < n → Iv l2 S → Wd G sh mT J S cs → Z (RX11, cX11_read, 3, some .int, false) G d Post 149 [(0, .ref (G.1 + 54)), (2, .int (Int32.ofInt (l2)))] [] cs := by
    intro n
    induction n with
    | zero => intro l2 S cs hn; exact absurd hn (Nat.not_lt_zero _)
    | succ n ih =>
      intro l2 S cs hn hI hW
      exact bX11_read_149' hd hJ hT hW hP  (fun l2 S cs hb hW => ih l2 S cs (Nat.lt_of_lt_of_le hb.2 (Nat.le_of_lt_succ hn)) hb.1 hW) (hs l2 S hI)
  exact key _ _ _ _ (Nat.lt_succ_self _) h0 hW
def wX11_read_113' (l2 : Int) (S : St) (K : Int → St → Prop) (B113 : Int → St → Prop) : Prop := ((0 : Int) ≤ 1 ∧ 1 < (3 : Int) ∧ (iv 0 30 (S.2 67 (1)) → (rng (l2) ∧ ((S.2 67 (1) ≤ l2 → wX11_read_149 (0) S K) ∧ ((¬ (S.2 67 (1) ≤ l2)) → ((0 : Int) ≤ (60 + l2) ∧ (60 + l2) < (90 : Int) ∧ (iv 0 5 (S.2 68 ((60 + l2))) → ((0 : Int) ≤ (30 + l2) ∧ (30 + l2) < (90 : Int) ∧ (∀ S8, S8 = pA S 68 ((30 + l2)) (S.2 68 ((60 + l2))) → B113 ((l2 + 1)) S8)))))))))
set_option maxRecDepth 100000 in
set_option maxHeartbeats 4000000 in
theorem bX11_read_113' {G : xG} {sh : Nat → Option Sh} {J : St → List va_E → Prop} {d : Nat} {Post : xP} {l2 : Int} {S : St} {cs : List va_E} {K : Int → St → Prop} {B113 : Int → St → Prop} (hd : 8 ≤ d) (hJ : Stb sh J) (hT : isM sh) (hW : Wd G sh mT J S cs) (hP : ∀ (v : Int) (S : St) (cs : List va_E), K v S → Wd G sh mT J S cs → Post (some (.int (Int32.ofInt v))) cs) (hB113 : ∀ (l2 : Int) (S : St) (cs : List va_E), B113 l2 S → Wd G sh mT J S cs → Z (RX11, cX11_read, 3, some .int, false) G d Post 113 [(0, .ref (G.1 + 54)), (2, .int (Int32.ofInt (l2)))] [] cs) (hw : wX11_read_113' l2 S K B113) : Z (RX11, cX11_read, 3, some .int, false) G d Post 113 [(0, .ref (G.1 + 54)), (2, .int (Int32.ofInt (l2)))] [] cs := by
  unfold wX11_read_113' at hw
  refine z_iload_n dX11_read_113 rfl rfl ?_
  refine z_aload_n dX11_read_114 rfl rfl ?_
  refine g_getR hW hT.1 mr14 kX11 fX11_47 dX11_read_115 ?_
  refine z_iconst (v := Int32.ofInt 1) dX11_read_118 rfl ?_
  obtain ⟨q1a, q1b, hw⟩ := hw
  have q2 : iv 0 30 (S.2 67 (1)) := mA67 hW _
  have hw := hw q2
  refine g_iald hW (ma67 hT) q1a q1b (by decide) dX11_read_119 ?_
  obtain ⟨q4, hw⟩ := hw
  refine i_icmp_ge (tgt := 147) dX11_read_120 (by decide) q4 (rngq q2 (by decide) (by decide)) (fun h3 => ?_) (fun h3 => ?_)
  · have hw := hw.1 h3
    refine z_iconst (v := Int32.ofInt 0) dX11_read_147 rfl ?_
    refine z_istore_n dX11_read_148 rfl (by decide) ?_
    refine z_loc (L' := [(0, .ref (G.1 + 54)), (2, .int (Int32.ofInt (0)))]) (List.forall_mem_cons.mpr ⟨rfl, (List.forall_mem_cons.mpr ⟨rfl, (fun _ h => nomatch h)⟩)⟩) ?_
    refine z_loc (L' := [(0, .ref (G.1 + 54)), (2, .int (Int32.ofInt (0)))]) (List.forall_mem_cons.mpr ⟨rfl, (List.forall_mem_cons.mpr ⟨rfl, (fun _ h => nomatch h)⟩)⟩) ?_
    exact bX11_read_149 hd hJ hT hW hP  hw
  · have hw := hw.2 h3
    refine z_aload_n dX11_read_123 rfl rfl ?_
    refine g_getR hW hT.1 mr15 kX11 fX11_50 dX11_read_124 ?_
    refine z_bipush (v := Int32.ofInt 30) dX11_read_127 (by decide) ?_
    refine z_iload_n dX11_read_129 rfl rfl ?_
    refine i_iadd dX11_read_130 ?_
    refine z_aload_n dX11_read_131 rfl rfl ?_
    refine g_getR hW hT.1 mr15 kX11 fX11_50 dX11_read_132 ?_
    refine z_bipush (v := Int32.ofInt 60) dX11_read_135 (by decide) ?_
    refine z_iload_n dX11_read_137 rfl rfl ?_
    refine i_iadd dX11_read_138 ?_
    obtain ⟨q5a, q5b, hw⟩ := hw
    have q6 : iv 0 5 (S.2 68 ((60 + l2))) := mA68 hW _
    have hw := hw q6
    refine g_iald hW (ma68 hT) q5a q5b (by decide) dX11_read_139 ?_
    obtain ⟨q7a, q7b, hw⟩ := hw
    refine g_iast hJ hW (ma68 hT) q7a q7b (by decide) q6 dX11_read_140 (fun cs hW => ?_)
    obtain ⟨S8, hS8⟩ : ∃ x, x = pA S 68 ((30 + l2)) (S.2 68 ((60 + l2))) := ⟨_, rfl⟩
    rw [← hS8] at hW
    have hw := hw S8 hS8
    refine i_iinc (l := l2) dX11_read_141 rfl (by decide) ?_
    refine z_loc (L' := [(0, .ref (G.1 + 54)), (2, .int (Int32.ofInt ((l2 + 1))))]) (List.forall_mem_cons.mpr ⟨rfl, (List.forall_mem_cons.mpr ⟨rfl, (fun _ h => nomatch h)⟩)⟩) ?_
    refine z_goto (tgt := 113) dX11_read_144 (by decide) ?_
    refine z_loc (L' := [(0, .ref (G.1 + 54)), (2, .int (Int32.ofInt ((l2 + 1))))]) (List.forall_mem_cons.mpr ⟨rfl, (List.forall_mem_cons.mpr ⟨rfl, (fun _ h => nomatch h)⟩)⟩) ?_
    exact hB113 _ _ _ hw hW
def wX11_read_113 (l2 : Int) (S : St) (K : Int → St → Prop) : Prop := ∃ (Iv : Int → St → Prop) (mu : Int → St → Nat), Iv l2 S ∧ ∀ (l2 : Int) (S : St), Iv l2 S → wX11_read_113' l2 S K  (fun ml2 T => Iv ml2 T ∧ mu ml2 T < mu l2 S)
set_option maxRecDepth 100000 in
set_option maxHeartbeats 4000000 in
theorem bX11_read_113 {G : xG} {sh : Nat → Option Sh} {J : St → List va_E → Prop} {d : Nat} {Post : xP} {l2 : Int} {S : St} {cs : List va_E} {K : Int → St → Prop} (hd : 8 ≤ d) (hJ : Stb sh J) (hT : isM sh) (hW : Wd G sh mT J S cs) (hP : ∀ (v : Int) (S : St) (cs : List va_E), K v S → Wd G sh mT J S cs → Post (some (.int (Int32.ofInt v))) cs)  (hw : wX11_read_113 l2 S K ) : Z (RX11, cX11_read, 3, some .int, false) G d Post 113 [(0, .ref (G.1 + 54)), (2, .int (Int32.ofInt (l2)))] [] cs := by
  unfold wX11_read_113 at hw
  obtain ⟨Iv, mu, h0, hs⟩ := hw
  have key : ∀ (n : Nat) (l2 : Int) (S : St) (cs : List va_E), mu l2 S < n → Iv l2 S → Wd G sh mT J S cs → Z (RX11, cX11_read, 3, some .int, false) G d Post 113 [(0, .ref (G.1 + 54)), (2, .int (Int32.ofInt (l2)))] [] cs := by
    intro n
    induction n with
    | zero => intro l2 S cs hn; exact absurd hn (Nat.not_lt_zero _)
    | succ n ih =>
      intro l2 S cs hn hI hW
      exact bX11_read_113' hd hJ hT hW hP  (fun l2 S cs hb hW => ih l2 S cs (Nat.lt_of_lt_of_le hb.2 (Nat.le_of_lt_succ hn)) hb.1 hW) (hs l2 S hI)
  exact key _ _ _ _ (Nat.lt_succ_self _) h0 hW
def wX11_read_21' (l1 : Int) (S : St) (K : Int → St → Prop) (B21 : Int → St → Prop) : Prop := (iv 0 3000 (S.1 54 41) → (rng (l1) ∧ ((S.1 54 41 ≤ l1 → (∀ S4, S4 = pI S 54 0 (0) → (wX11_parse S4 (fun r5 S6 => (iv (-2) 4000 (S6.1 54 59) → ((S6.1 54 59 = (-2) → (wX11_meaningless S6 (fun r9 S10 => (rng (r9) ∧ ((r9 = (-2) → ((0 : Int) ≤ 2 ∧ 2 < (3 : Int) ∧ (iv 0 30 (S10.2 67 (2)) → ((0 : Int) ≤ 1 ∧ 1 < (3 : Int) ∧ (∀ S16, S16 = pA S10 67 (1) (S10.2 67 (2)) → (∀ S17, S17 = pI S16 54 18 (1) → wX11_read_113 (0) S17 K)))))) ∧ ((¬ (r9 = (-2))) → ((0 : Int) ≤ r9 ∧ r9 < (200 : Int) ∧ (iv 0 3000 (S10.2 85 (r9)) → K (((-10001) - S10.2 85 (r9))) S10)))))))) ∧ ((¬ (S6.1 54 59 = (-2))) → K (((-1) - S6.1 54 59)) S6))))))) ∧ ((¬ (S.1 54 41 ≤ l1)) → ((0 : Int) ≤ l1 ∧ l1 < (3000 : Int) ∧ (iv (-2147483648) 2147483647 (S.2 55 (l1)) → ((0 : Int) ≤ l1 ∧ l1 < (3000 : Int) ∧ (∀ S23, S23 = pA S 84 (l1) (S.2 55 (l1)) → B21 ((l1 + 1)) S23))))))))
set_option maxRecDepth 100000 in
set_option maxHeartbeats 4000000 in
theorem bX11_read_21' {G : xG} {sh : Nat → Option Sh} {J : St → List va_E → Prop} {d : Nat} {Post : xP} {l1 : Int} {S : St} {cs : List va_E} {K : Int → St → Prop} {B21 : Int → St → Prop} (hd : 8 ≤ d) (hJ : Stb sh J) (hT : isM sh) (hW : Wd G sh mT J S cs) (hP : ∀ (v : Int) (S : St) (cs : List va_E), K v S → Wd G sh mT J S cs → Post (some (.int (Int32.ofInt v))) cs) (hB21 : ∀ (l1 : Int) (S : St) (cs : List va_E), B21 l1 S → Wd G sh mT J S cs → Z (RX11, cX11_read, 3, some .int, false) G d Post 21 [(0, .ref (G.1 + 54)), (1, .int (Int32.ofInt (l1)))] [] cs) (hw : wX11_read_21' l1 S K B21) : Z (RX11, cX11_read, 3, some .int, false) G d Post 21 [(0, .ref (G.1 + 54)), (1, .int (Int32.ofInt (l1)))] [] cs := by
  unfold wX11_read_21' at hw
  refine z_iload_n dX11_read_21 rfl rfl ?_
  refine z_aload_n dX11_read_22 rfl rfl ?_
  have q1 : iv 0 3000 (S.1 54 41) := mI41 hW
  have hw := hw q1
  refine g_getI hW hT.1 mr41 kX11 fX11_340 dX11_read_23 ?_
  obtain ⟨q3, hw⟩ := hw
  refine i_icmp_ge (tgt := 47) dX11_read_26 (by decide) q3 (rngq q1 (by decide) (by decide)) (fun h2 => ?_) (fun h2 => ?_)
  · have hw := hw.1 h2
    refine z_aload_n dX11_read_47 rfl rfl ?_
    refine z_iconst (v := Int32.ofInt 0) dX11_read_48 rfl ?_
    refine g_putI hJ hW hT.1 mr0 kX11 fX11_171 dX11_read_49 rfl rfl rfl ⟨by decide, by decide⟩ (fun cs hW => ?_)
    obtain ⟨S4, hS4⟩ : ∃ x, x = pI S 54 0 (0) := ⟨_, rfl⟩
    rw [← hS4] at hW
    have hw := hw S4 hS4
    refine z_aload_n dX11_read_52 rfl rfl ?_
    have hX := lX11_parse 6 (Nat.le_refl _) hJ hT hW  hw
    refine z_callV (As := []) eX11_parse sX11_parse lX11_499 rfl dX11_read_53 (hW.1 _ _ hT.1) hX (Nat.le_trans (by decide) hd) rfl (Nat.le_of_ble_eq_true rfl) (fun r cs hp => ?_)
    obtain ⟨r5, S6, rfl, hw, hW⟩ := hp
    refine z_st (st' := []) rfl ?_
    refine z_aload_n dX11_read_56 rfl rfl ?_
    have q7 : iv (-2) 4000 (S6.1 54 59) := mI59 hW
    have hw := hw q7
    refine g_getI hW hT.1 mr59 kX11 fX11_343 dX11_read_57 ?_
    refine z_bipush (v := Int32.ofInt (-2)) dX11_read_60 (by decide) ?_
    refine i_icmp_eq (tgt := 72) dX11_read_62 (by decide) (rngq q7 (by decide) (by decide)) ⟨by decide, by decide⟩ (fun h8 => ?_) (fun h8 => ?_)
    · have hw := hw.1 h8
      refine z_aload_n dX11_read_72 rfl rfl ?_
      have hX := lX11_meaningless 7 (Nat.le_refl _) hJ hT hW  hw
      refine z_callV (As := []) eX11_meaningless sX11_meaningless lX11_502 rfl dX11_read_73 (hW.1 _ _ hT.1) hX (Nat.le_trans (by decide) hd) rfl (Nat.le_of_ble_eq_true rfl) (fun r cs hp => ?_)
      obtain ⟨r9, S10, rfl, hw, hW⟩ := hp
      refine z_st (st' := [.int (Int32.ofInt (r9))]) rfl ?_
      refine z_istore_n dX11_read_76 rfl (by decide) ?_
      refine z_loc (L' := [(0, .ref (G.1 + 54)), (1, .int (Int32.ofInt (r9)))]) (List.forall_mem_cons.mpr ⟨rfl, (List.forall_mem_cons.mpr ⟨rfl, (fun _ h => nomatch h)⟩)⟩) ?_
      refine z_iload_n dX11_read_77 rfl rfl ?_
      refine z_bipush (v := Int32.ofInt (-2)) dX11_read_78 (by decide) ?_
      obtain ⟨q12, hw⟩ := hw
      refine i_icmp_eq (tgt := 94) dX11_read_80 (by decide) q12 ⟨by decide, by decide⟩ (fun h11 => ?_) (fun h11 => ?_)
      · have hw := hw.1 h11
        refine z_aload_n dX11_read_94 rfl rfl ?_
        refine g_getR hW hT.1 mr14 kX11 fX11_47 dX11_read_95 ?_
        refine z_iconst (v := Int32.ofInt 1) dX11_read_98 rfl ?_
        refine z_aload_n dX11_read_99 rfl rfl ?_
        refine g_getR hW hT.1 mr14 kX11 fX11_47 dX11_read_100 ?_
        refine z_iconst (v := Int32.ofInt 2) dX11_read_103 rfl ?_
        obtain ⟨q13a, q13b, hw⟩ := hw
        have q14 : iv 0 30 (S10.2 67 (2)) := mA67 hW _
        have hw := hw q14
        refine g_iald hW (ma67 hT) q13a q13b (by decide) dX11_read_104 ?_
        obtain ⟨q15a, q15b, hw⟩ := hw
        refine g_iast hJ hW (ma67 hT) q15a q15b (by decide) q14 dX11_read_105 (fun cs hW => ?_)
        obtain ⟨S16, hS16⟩ : ∃ x, x = pA S10 67 (1) (S10.2 67 (2)) := ⟨_, rfl⟩
        rw [← hS16] at hW
        have hw := hw S16 hS16
        refine z_aload_n dX11_read_106 rfl rfl ?_
        refine z_iconst (v := Int32.ofInt 1) dX11_read_107 rfl ?_
        refine g_putI hJ hW hT.1 mr18 kX11 fX11_241 dX11_read_108 rfl (nar01 (by decide)) (fit01 (by decide)) ⟨by decide, by decide⟩ (fun cs hW => ?_)
        obtain ⟨S17, hS17⟩ : ∃ x, x = pI S16 54 18 (1) := ⟨_, rfl⟩
        rw [← hS17] at hW
        have hw := hw S17 hS17
        refine z_iconst (v := Int32.ofInt 0) dX11_read_111 rfl ?_
        refine z_istore_n dX11_read_112 rfl (by decide) ?_
        refine z_loc (L' := [(0, .ref (G.1 + 54)), (1, .int (Int32.ofInt (r9))), (2, .int (Int32.ofInt (0)))]) (List.forall_mem_cons.mpr ⟨rfl, (List.forall_mem_cons.mpr ⟨rfl, (List.forall_mem_cons.mpr ⟨rfl, (fun _ h => nomatch h)⟩)⟩)⟩) ?_
        refine z_loc (L' := [(0, .ref (G.1 + 54)), (2, .int (Int32.ofInt (0)))]) (List.forall_mem_cons.mpr ⟨rfl, (List.forall_mem_cons.mpr ⟨rfl, (fun _ h => nomatch h)⟩)⟩) ?_
        exact bX11_read_113 hd hJ hT hW hP  hw
      · have hw := hw.2 h11
        refine z_sipush (v := Int32.ofInt (-10001)) dX11_read_83 (by decide) ?_
        refine z_aload_n dX11_read_86 rfl rfl ?_
        refine g_getR hW hT.1 mr44 kX11 fX11_105 dX11_read_87 ?_
        refine z_iload_n dX11_read_90 rfl rfl ?_
        obtain ⟨q18a, q18b, hw⟩ := hw
        have q19 : iv 0 3000 (S10.2 85 (r9)) := mA85 hW _
        have hw := hw q19
        refine g_iald hW (ma85 hT) q18a q18b (by decide) dX11_read_91 ?_
        refine i_isub dX11_read_92 ?_
        exact z_ireturn dX11_read_93 rfl rfl (hP _ _ _ hw hW)
    · have hw := hw.2 h8
      refine z_iconst (v := Int32.ofInt (-1)) dX11_read_65 rfl ?_
      refine z_aload_n dX11_read_66 rfl rfl ?_
      refine g_getI hW hT.1 mr59 kX11 fX11_343 dX11_read_67 ?_
      refine i_isub dX11_read_70 ?_
      exact z_ireturn dX11_read_71 rfl rfl (hP _ _ _ hw hW)
  · have hw := hw.2 h2
    refine z_aload_n dX11_read_29 rfl rfl ?_
    refine g_getR hW hT.1 mr42 kX11 fX11_102 dX11_read_30 ?_
    refine z_iload_n dX11_read_33 rfl rfl ?_
    refine z_aload_n dX11_read_34 rfl rfl ?_
    refine g_getR hW hT.1 mr1 kX11 fX11_7 dX11_read_35 ?_
    refine z_iload_n dX11_read_38 rfl rfl ?_
    obtain ⟨q20a, q20b, hw⟩ := hw
    have q21 : iv (-2147483648) 2147483647 (S.2 55 (l1)) := mA55 hW _
    have hw := hw q21
    refine g_iald hW (ma55 hT) q20a q20b (by decide) dX11_read_39 ?_
    obtain ⟨q22a, q22b, hw⟩ := hw
    refine g_iast hJ hW (ma84 hT) q22a q22b (by decide) q21 dX11_read_40 (fun cs hW => ?_)
    obtain ⟨S23, hS23⟩ : ∃ x, x = pA S 84 (l1) (S.2 55 (l1)) := ⟨_, rfl⟩
    rw [← hS23] at hW
    have hw := hw S23 hS23
    refine i_iinc (l := l1) dX11_read_41 rfl (by decide) ?_
    refine z_loc (L' := [(0, .ref (G.1 + 54)), (1, .int (Int32.ofInt ((l1 + 1))))]) (List.forall_mem_cons.mpr ⟨rfl, (List.forall_mem_cons.mpr ⟨rfl, (fun _ h => nomatch h)⟩)⟩) ?_
    refine z_goto (tgt := 21) dX11_read_44 (by decide) ?_
    refine z_loc (L' := [(0, .ref (G.1 + 54)), (1, .int (Int32.ofInt ((l1 + 1))))]) (List.forall_mem_cons.mpr ⟨rfl, (List.forall_mem_cons.mpr ⟨rfl, (fun _ h => nomatch h)⟩)⟩) ?_
    exact hB21 _ _ _ hw hW
def wX11_read_21 (l1 : Int) (S : St) (K : Int → St → Prop) : Prop := ∃ (Iv : Int → St → Prop) (mu : Int → St → Nat), Iv l1 S ∧ ∀ (l1 : Int) (S : St), Iv l1 S → wX11_read_21' l1 S K  (fun ml1 T => Iv ml1 T ∧ mu ml1 T < mu l1 S)
set_option maxRecDepth 100000 in
set_option maxHeartbeats 4000000 in
theorem bX11_read_21 {G : xG} {sh : Nat → Option Sh} {J : St → List va_E → Prop} {d : Nat} {Post : xP} {l1 : Int} {S : St} {cs : List va_E} {K : Int → St → Prop} (hd : 8 ≤ d) (hJ : Stb sh J) (hT : isM sh) (hW : Wd G sh mT J S cs) (hP : ∀ (v : Int) (S : St) (cs : List va_E), K v S → Wd G sh mT J S cs → Post (some (.int (Int32.ofInt v))) cs)  (hw : wX11_read_21 l1 S K ) : Z (RX11, cX11_read, 3, some .int, false) G d Post 21 [(0, .ref (G.1 + 54)), (1, .int (Int32.ofInt (l1)))] [] cs := by
  unfold wX11_read_21 at hw
  obtain ⟨Iv, mu, h0, hs⟩ := hw
  have key : ∀ (n : Nat) (l1 : Int) (S : St) (cs : List va_E), mu l1 S < n → Iv l1 S → Wd G sh mT J S cs → Z (RX11, cX11_read, 3, some .int, false) G d Post 21 [(0, .ref (G.1 + 54)), (1, .int (Int32.ofInt (l1)))] [] cs := by
    intro n
    induction n with
    | zero => intro l1 S cs hn; exact absurd hn (Nat.not_lt_zero _)
    | succ n ih =>
      intro l1 S cs hn hI hW
      exact bX11_read_21' hd hJ hT hW hP  (fun l1 S cs hb hW => ih l1 S cs (Nat.lt_of_lt_of_le hb.2 (Nat.le_of_lt_succ hn)) hb.1 hW) (hs l1 S hI)
  exact key _ _ _ _ (Nat.lt_succ_self _) h0 hW
def wX11_read (S : St) (K : Int → St → Prop) : Prop := (iv 0 6 (S.1 54 2) → ((¬ S.1 54 2 = 0 → (iv 0 3000 (S.1 54 0) → (∀ S4, S4 = pI S 54 41 (S.1 54 0) → wX11_read_21 (0) S4 K))) ∧ ((¬ (¬ S.1 54 2 = 0)) → K ((-3001)) S)))
set_option maxRecDepth 100000 in
set_option maxHeartbeats 4000000 in
theorem lX11_read {G : xG} {sh : Nat → Option Sh} {J : St → List va_E → Prop} {S : St} {cs : List va_E} {K : Int → St → Prop} (d : Nat) (hd : 8 ≤ d) (hJ : Stb sh J) (hT : isM sh) (hW : Wd G sh mT J S cs)  (hw : wX11_read  S K) : X G yX11_read cX11_read 3 (some .int) d [.ref (G.1 + 54)] cs (qI G sh mT J K) := by
  refine X.of false (by decide +kernel) (by decide) (Nat.le_of_ble_eq_true rfl) ?_
  show Z (RX11, cX11_read, 3, some .int, false) G d _ 0 [(0, .ref (G.1 + 54))] [] cs
  have hP : ∀ (v : Int) (S : St) (cs : List va_E), K v S → Wd G sh mT J S cs → qI G sh mT J K (some (.int (Int32.ofInt v))) cs := fun v S cs a b => ⟨v, S, rfl, a, b⟩
  unfold wX11_read at hw
  refine z_aload_n dX11_read_0 rfl rfl ?_
  have q1 : iv 0 6 (S.1 54 2) := mI2 hW
  have hw := hw q1
  refine g_getI hW hT.1 mr2 kX11 fX11_238 dX11_read_1 ?_
  refine i_if_ne (tgt := 11) dX11_read_4 (by decide) (rngq q1 (by decide) (by decide)) (fun h2 => ?_) (fun h2 => ?_)
  · have hw := hw.1 h2
    refine z_aload_n dX11_read_11 rfl rfl ?_
    refine z_aload_n dX11_read_12 rfl rfl ?_
    have q3 : iv 0 3000 (S.1 54 0) := mI0 hW
    have hw := hw q3
    refine g_getI hW hT.1 mr0 kX11 fX11_171 dX11_read_13 ?_
    refine g_putI hJ hW hT.1 mr41 kX11 fX11_340 dX11_read_16 rfl rfl rfl q3 (fun cs hW => ?_)
    obtain ⟨S4, hS4⟩ : ∃ x, x = pI S 54 41 (S.1 54 0) := ⟨_, rfl⟩
    rw [← hS4] at hW
    have hw := hw S4 hS4
    refine z_iconst (v := Int32.ofInt 0) dX11_read_19 rfl ?_
    refine z_istore_n dX11_read_20 rfl (by decide) ?_
    refine z_loc (L' := [(0, .ref (G.1 + 54)), (1, .int (Int32.ofInt (0)))]) (List.forall_mem_cons.mpr ⟨rfl, (List.forall_mem_cons.mpr ⟨rfl, (fun _ h => nomatch h)⟩)⟩) ?_
    refine z_loc (L' := [(0, .ref (G.1 + 54)), (1, .int (Int32.ofInt (0)))]) (List.forall_mem_cons.mpr ⟨rfl, (List.forall_mem_cons.mpr ⟨rfl, (fun _ h => nomatch h)⟩)⟩) ?_
    exact bX11_read_21 hd hJ hT hW hP  hw
  · have hw := hw.2 h2
    refine z_sipush (v := Int32.ofInt (-3001)) dX11_read_7 (by decide) ?_
    exact z_ireturn dX11_read_10 rfl rfl (hP _ _ _ hw hW)

def wX11_same_32' (l2 l3 : Int) (S : St) (K : Int → St → Prop) (B32 : Int → Int → St → Prop) : Prop := (iv 0 30 (S.1 54 71) → (rng (l3) ∧ ((S.1 54 71 ≤ l3 → (iv 0 1 (l2) ∧ K (l2) S)) ∧ ((¬ (S.1 54 71 ≤ l3)) → (rng (l2) ∧ ((l2 = 0 → (iv 0 1 (l2) ∧ K (l2) S)) ∧ ((¬ (l2 = 0)) → ((0 : Int) ≤ l3 ∧ l3 < (30 : Int) ∧ (iv 0 29 (S.2 105 (l3)) → ((0 : Int) ≤ l3 ∧ l3 < (30 : Int) ∧ (iv 0 29 (S.2 106 (l3)) → (wX11_areSame (S.2 105 (l3)) (S.2 106 (l3)) S (fun r12 S13 => B32 (r12) ((l3 + 1)) S13)))))))))))))
set_option maxRecDepth 100000 in
set_option maxHeartbeats 4000000 in
theorem bX11_same_32' {G : xG} {sh : Nat → Option Sh} {J : St → List va_E → Prop} {d : Nat} {Post : xP} {l2 l3 : Int} {S : St} {cs : List va_E} {K : Int → St → Prop} {B32 : Int → Int → St → Prop} (hd : 2 ≤ d) (hJ : Stb sh J) (hT : isM sh) (hW : Wd G sh mT J S cs) (hP : ∀ (v : Int) (S : St) (cs : List va_E), K v S → Wd G sh mT J S cs → Post (some (.int (Int32.ofInt v))) cs) (hB32 : ∀ (l2 : Int) (l3 : Int) (S : St) (cs : List va_E), B32 l2 l3 S → Wd G sh mT J S cs → Z (RX11, cX11_same, 4, some .boolean, false) G d Post 32 [(0, .ref (G.1 + 54)), (2, .int (Int32.ofInt (l2))), (3, .int (Int32.ofInt (l3)))] [] cs) (hw : wX11_same_32' l2 l3 S K B32) : Z (RX11, cX11_same, 4, some .boolean, false) G d Post 32 [(0, .ref (G.1 + 54)), (2, .int (Int32.ofInt (l2))), (3, .int (Int32.ofInt (l3)))] [] cs := by
  unfold wX11_same_32' at hw
  refine z_iload_n dX11_same_32 rfl rfl ?_
  refine z_aload_n dX11_same_33 rfl rfl ?_
  have q1 : iv 0 30 (S.1 54 71) := mI71 hW
  have hw := hw q1
  refine g_getI hW hT.1 mr71 kX11 fX11_505 dX11_same_34 ?_
  obtain ⟨q3, hw⟩ := hw
  refine i_icmp_ge (tgt := 67) dX11_same_37 (by decide) q3 (rngq q1 (by decide) (by decide)) (fun h2 => ?_) (fun h2 => ?_)
  · have hw := hw.1 h2
    refine z_iload_n dX11_same_67 rfl rfl ?_
    obtain ⟨q4, hw⟩ := hw
    exact z_ireturn dX11_same_68 rfl (nar01 (b01 q4)) (hP _ _ _ hw hW)
  · have hw := hw.2 h2
    refine z_iload_n dX11_same_40 rfl rfl ?_
    obtain ⟨q6, hw⟩ := hw
    refine i_if_eq (tgt := 67) dX11_same_41 (by decide) q6 (fun h5 => ?_) (fun h5 => ?_)
    · have hw := hw.1 h5
      refine z_iload_n dX11_same_67 rfl rfl ?_
      obtain ⟨q7, hw⟩ := hw
      exact z_ireturn dX11_same_68 rfl (nar01 (b01 q7)) (hP _ _ _ hw hW)
    · have hw := hw.2 h5
      refine z_aload_n dX11_same_44 rfl rfl ?_
      refine z_aload_n dX11_same_45 rfl rfl ?_
      refine g_getR hW hT.1 mr69 kX11 fX11_165 dX11_same_46 ?_
      refine z_iload_n dX11_same_49 rfl rfl ?_
      obtain ⟨q8a, q8b, hw⟩ := hw
      have q9 : iv 0 29 (S.2 105 (l3)) := mA105 hW _
      have hw := hw q9
      refine g_iald hW (ma105 hT) q8a q8b (by decide) dX11_same_50 ?_
      refine z_aload_n dX11_same_51 rfl rfl ?_
      refine g_getR hW hT.1 mr70 kX11 fX11_168 dX11_same_52 ?_
      refine z_iload_n dX11_same_55 rfl rfl ?_
      obtain ⟨q10a, q10b, hw⟩ := hw
      have q11 : iv 0 29 (S.2 106 (l3)) := mA106 hW _
      have hw := hw q11
      refine g_iald hW (ma106 hT) q10a q10b (by decide) dX11_same_56 ?_
      have hX := lX11_areSame 1 (Nat.le_refl _) hJ hT hW (rngq q9 (by decide) (by decide)) (rngq q11 (by decide) (by decide)) hw
      refine z_callV (As := [_, _]) eX11_areSame sX11_areSame lX11_511 rfl dX11_same_57 (hW.1 _ _ hT.1) hX (Nat.le_trans (by decide) hd) rfl (Nat.le_of_ble_eq_true rfl) (fun r cs hp => ?_)
      obtain ⟨r12, S13, rfl, hw, hW⟩ := hp
      refine z_st (st' := [.int (Int32.ofInt (r12))]) rfl ?_
      refine z_istore_n dX11_same_60 rfl (by decide) ?_
      refine z_loc (L' := [(0, .ref (G.1 + 54)), (2, .int (Int32.ofInt (r12))), (3, .int (Int32.ofInt (l3)))]) (List.forall_mem_cons.mpr ⟨rfl, (List.forall_mem_cons.mpr ⟨rfl, (List.forall_mem_cons.mpr ⟨rfl, (fun _ h => nomatch h)⟩)⟩)⟩) ?_
      refine i_iinc (l := l3) dX11_same_61 rfl (by decide) ?_
      refine z_loc (L' := [(0, .ref (G.1 + 54)), (2, .int (Int32.ofInt (r12))), (3, .int (Int32.ofInt ((l3 + 1))))]) (List.forall_mem_cons.mpr ⟨rfl, (List.forall_mem_cons.mpr ⟨rfl, (List.forall_mem_cons.mpr ⟨rfl, (fun _ h => nomatch h)⟩)⟩)⟩) ?_
      refine z_goto (tgt := 32) dX11_same_64 (by decide) ?_
      refine z_loc (L' := [(0, .ref (G.1 + 54)), (2, .int (Int32.ofInt (r12))), (3, .int (Int32.ofInt ((l3 + 1))))]) (List.forall_mem_cons.mpr ⟨rfl, (List.forall_mem_cons.mpr ⟨rfl, (List.forall_mem_cons.mpr ⟨rfl, (fun _ h => nomatch h)⟩)⟩)⟩) ?_
      exact hB32 _ _ _ _ hw hW
def wX11_same_32 (l2 l3 : Int) (S : St) (K : Int → St → Prop) : Prop := ∃ (Iv : Int → Int → St → Prop) (mu : Int → Int → St → Nat), Iv l2 l3 S ∧ ∀ (l2 l3 : Int) (S : St), Iv l2 l3 S → wX11_same_32' l2 l3 S K  (fun ml2 ml3 T => Iv ml2 ml3 T ∧ mu ml2 ml3 T < mu l2 l3 S)
set_option maxRecDepth 100000 in
set_option maxHeartbeats 4000000 in
theorem bX11_same_32 {G : xG} {sh : Nat → Option Sh} {J : St → List va_E → Prop} {d : Nat} {Post : xP} {l2 l3 : Int} {S : St} {cs : List va_E} {K : Int → St → Prop} (hd : 2 ≤ d) (hJ : Stb sh J) (hT : isM sh) (hW : Wd G sh mT J S cs) (hP : ∀ (v : Int) (S : St) (cs : List va_E), K v S → Wd G sh mT J S cs → Post (some (.int (Int32.ofInt v))) cs)  (hw : wX11_same_32 l2 l3 S K ) : Z (RX11, cX11_same, 4, some .boolean, false) G d Post 32 [(0, .ref (G.1 + 54)), (2, .int (Int32.ofInt (l2))), (3, .int (Int32.ofInt (l3)))] [] cs := by
  unfold wX11_same_32 at hw
  obtain ⟨Iv, mu, h0, hs⟩ := hw
  have key : ∀ (n : Nat) (l2 l3 : Int) (S : St) (cs : List va_E), mu l2 l3 S < n → Iv l2 l3 S → Wd G sh mT J S cs → Z (RX11, cX11_same, 4, some .boolean, false) G d Post 32 [(0, .ref (G.1 + 54)), (2, .int (Int32.ofInt (l2))), (3, .int (Int32.ofInt (l3)))] [] cs := by
    intro n
    induction n with
    | zero => intro l2 l3 S cs hn; exact absurd hn (Nat.not_lt_zero _)
    | succ n ih =>
      intro l2 l3 S cs hn hI hW
      exact bX11_same_32' hd hJ hT hW hP  (fun l2 l3 S cs hb hW => ih l2 l3 S cs (Nat.lt_of_lt_of_le hb.2 (Nat.le_of_lt_succ hn)) hb.1 hW) (hs l2 l3 S hI)
  exact key _ _ _ _ _ (Nat.lt_succ_self _) h0 hW
def wX11_same (a1 : Int) (S : St) (K : Int → St → Prop) : Prop := rng a1 → (iv 0 1 (S.1 54 18) → ((S.1 54 18 = 0 → K (0) S) ∧ ((¬ (S.1 54 18 = 0)) → (wX11_isObject (0) (a1) S (fun r3 S4 => (rng (r3) ∧ ((¬ r3 = 0 → (∀ S7, S7 = pI S4 54 71 (0) → (wX11_pair (a1) (0) S7 (fun r8 S9 => wX11_same_32 (r8) (0) S9 K)))) ∧ ((¬ (¬ r3 = 0)) → K (0) S4))))))))
set_option maxRecDepth 100000 in
set_option maxHeartbeats 4000000 in
theorem lX11_same {G : xG} {sh : Nat → Option Sh} {J : St → List va_E → Prop} {a1 : Int} {S : St} {cs : List va_E} {K : Int → St → Prop} (d : Nat) (hd : 2 ≤ d) (hJ : Stb sh J) (hT : isM sh) (hW : Wd G sh mT J S cs) (g1 : rng a1) (hw : wX11_same a1 S K) : X G yX11_same cX11_same 4 (some .boolean) d [.ref (G.1 + 54), .int (Int32.ofInt a1)] cs (qI G sh mT J K) := by
  refine X.of false (by decide +kernel) (by decide) (Nat.le_of_ble_eq_true rfl) ?_
  show Z (RX11, cX11_same, 4, some .boolean, false) G d _ 0 [(0, .ref (G.1 + 54)), (1, .int (Int32.ofInt a1))] [] cs
  have hP : ∀ (v : Int) (S : St) (cs : List va_E), K v S → Wd G sh mT J S cs → qI G sh mT J K (some (.int (Int32.ofInt v))) cs := fun v S cs a b => ⟨v, S, rfl, a, b⟩
  unfold wX11_same at hw
  have hw := hw g1
  refine z_aload_n dX11_same_0 rfl rfl ?_
  have q1 : iv 0 1 (S.1 54 18) := mI18 hW
  have hw := hw q1
  refine g_getI hW hT.1 mr18 kX11 fX11_241 dX11_same_1 ?_
  refine i_if_eq (tgt := 16) dX11_same_4 (by decide) (rngq q1 (by decide) (by decide)) (fun h2 => ?_) (fun h2 => ?_)
  · have hw := hw.1 h2
    refine z_iconst (v := Int32.ofInt 0) dX11_same_16 rfl ?_
    exact z_ireturn dX11_same_17 rfl (nar01 (by decide)) (hP _ _ _ hw hW)
  · have hw := hw.2 h2
    refine z_aload_n dX11_same_7 rfl rfl ?_
    refine z_iconst (v := Int32.ofInt 0) dX11_same_8 rfl ?_
    refine z_iload_n dX11_same_9 rfl rfl ?_
    have hX := lX11_isObject 0 (Nat.le_refl _) hJ hT hW ⟨by decide, by decide⟩ g1 hw
    refine z_callV (As := [_, _]) eX11_isObject sX11_isObject lX11_247 rfl dX11_same_10 (hW.1 _ _ hT.1) hX (Nat.le_trans (by decide) hd) rfl (Nat.le_of_ble_eq_true rfl) (fun r cs hp => ?_)
    obtain ⟨r3, S4, rfl, hw, hW⟩ := hp
    refine z_st (st' := [.int (Int32.ofInt (r3))]) rfl ?_
    obtain ⟨q6, hw⟩ := hw
    refine i_if_ne (tgt := 18) dX11_same_13 (by decide) q6 (fun h5 => ?_) (fun h5 => ?_)
    · have hw := hw.1 h5
      refine z_aload_n dX11_same_18 rfl rfl ?_
      refine z_iconst (v := Int32.ofInt 0) dX11_same_19 rfl ?_
      refine g_putI hJ hW hT.1 mr71 kX11 fX11_505 dX11_same_20 rfl rfl rfl ⟨by decide, by decide⟩ (fun cs hW => ?_)
      obtain ⟨S7, hS7⟩ : ∃ x, x = pI S4 54 71 (0) := ⟨_, rfl⟩
      rw [← hS7] at hW
      have hw := hw S7 hS7
      refine z_aload_n dX11_same_23 rfl rfl ?_
      refine z_iload_n dX11_same_24 rfl rfl ?_
      refine z_iconst (v := Int32.ofInt 0) dX11_same_25 rfl ?_
      have hX := lX11_pair 0 (Nat.le_refl _) hJ hT hW g1 ⟨by decide, by decide⟩ hw
      refine z_callV (As := [_, _]) eX11_pair sX11_pair lX11_508 rfl dX11_same_26 (hW.1 _ _ hT.1) hX (Nat.le_trans (by decide) hd) rfl (Nat.le_of_ble_eq_true rfl) (fun r cs hp => ?_)
      obtain ⟨r8, S9, rfl, hw, hW⟩ := hp
      refine z_st (st' := [.int (Int32.ofInt (r8))]) rfl ?_
      refine z_istore_n dX11_same_29 rfl (by decide) ?_
      refine z_loc (L' := [(0, .ref (G.1 + 54)), (1, .int (Int32.ofInt (a1))), (2, .int (Int32.ofInt (r8)))]) (List.forall_mem_cons.mpr ⟨rfl, (List.forall_mem_cons.mpr ⟨rfl, (List.forall_mem_cons.mpr ⟨rfl, (fun _ h => nomatch h)⟩)⟩)⟩) ?_
      refine z_iconst (v := Int32.ofInt 0) dX11_same_30 rfl ?_
      refine z_istore_n dX11_same_31 rfl (by decide) ?_
      refine z_loc (L' := [(0, .ref (G.1 + 54)), (1, .int (Int32.ofInt (a1))), (2, .int (Int32.ofInt (r8))), (3, .int (Int32.ofInt (0)))]) (List.forall_mem_cons.mpr ⟨rfl, (List.forall_mem_cons.mpr ⟨rfl, (List.forall_mem_cons.mpr ⟨rfl, (List.forall_mem_cons.mpr ⟨rfl, (fun _ h => nomatch h)⟩)⟩)⟩)⟩) ?_
      refine z_loc (L' := [(0, .ref (G.1 + 54)), (2, .int (Int32.ofInt (r8))), (3, .int (Int32.ofInt (0)))]) (List.forall_mem_cons.mpr ⟨rfl, (List.forall_mem_cons.mpr ⟨rfl, (List.forall_mem_cons.mpr ⟨rfl, (fun _ h => nomatch h)⟩)⟩)⟩) ?_
      exact bX11_same_32 hd hJ hT hW hP  hw
    · have hw := hw.2 h5
      refine z_iconst (v := Int32.ofInt 0) dX11_same_16 rfl ?_
      exact z_ireturn dX11_same_17 rfl (nar01 (by decide)) (hP _ _ _ hw hW)

def wX11_set_37 (l1 l2 l3 : Int) (S : St) (K : Int → St → Prop) : Prop := ((0 : Int) ≤ ((4 * l1) + l2) ∧ ((4 * l1) + l2) < (360 : Int) ∧ (iv (-2147483648) 2147483647 (l3) ∧ (∀ S2, S2 = pA S 69 (((4 * l1) + l2)) (l3) → K (1) S2)))
set_option maxRecDepth 100000 in
set_option maxHeartbeats 4000000 in
theorem bX11_set_37 {G : xG} {sh : Nat → Option Sh} {J : St → List va_E → Prop} {d : Nat} {Post : xP} {l1 l2 l3 : Int} {S : St} {cs : List va_E} {K : Int → St → Prop} (hd : 2 ≤ d) (hJ : Stb sh J) (hT : isM sh) (hW : Wd G sh mT J S cs) (hP : ∀ (v : Int) (S : St) (cs : List va_E), K v S → Wd G sh mT J S cs → Post (some (.int (Int32.ofInt v))) cs)  (hw : wX11_set_37 l1 l2 l3 S K ) : Z (RX11, cX11_set, 5, some .boolean, false) G d Post 37 [(0, .ref (G.1 + 54)), (1, .int (Int32.ofInt (l1))), (2, .int (Int32.ofInt (l2))), (3, .int (Int32.ofInt (l3)))] [] cs := by
  unfold wX11_set_37 at hw
  refine z_aload_n dX11_set_37 rfl rfl ?_
  refine g_getR hW hT.1 mr16 kX11 fX11_53 dX11_set_38 ?_
  refine z_iconst (v := Int32.ofInt 4) dX11_set_41 rfl ?_
  refine z_iload_n dX11_set_42 rfl rfl ?_
  refine i_imul dX11_set_43 ?_
  refine z_iload_n dX11_set_44 rfl rfl ?_
  refine i_iadd dX11_set_45 ?_
  refine z_iload_n dX11_set_46 rfl rfl ?_
  obtain ⟨q1a, q1b, hw⟩ := hw
  obtain ⟨q3, hw⟩ := hw
  refine g_iast hJ hW (ma69 hT) q1a q1b (by decide) q3 dX11_set_47 (fun cs hW => ?_)
  obtain ⟨S2, hS2⟩ : ∃ x, x = pA S 69 (((4 * l1) + l2)) (l3) := ⟨_, rfl⟩
  rw [← hS2] at hW
  have hw := hw S2 hS2
  refine z_iconst (v := Int32.ofInt 1) dX11_set_48 rfl ?_
  exact z_ireturn dX11_set_49 rfl (nar01 (by decide)) (hP _ _ _ hw hW)
def wX11_set (a1 a2 a3 : Int) (S : St) (K : Int → St → Prop) : Prop := rng a1 → rng a2 → rng a3 → (wX11_kindAt (0) (a1) (a2) S (fun r1 S2 => (rng (r1) ∧ ((r1 = 0 → wX11_set_37 (a1) (a2) (a3) S2 K) ∧ ((¬ (r1 = 0)) → ((¬ r1 = 2 → K (0) S2) ∧ ((¬ (¬ r1 = 2)) → ((a3 = (-2) → wX11_set_37 (a1) (a2) (a3) S2 K) ∧ ((¬ (a3 = (-2))) → (wX11_isObject (0) (a3) S2 (fun r7 S8 => (rng (r7) ∧ ((¬ r7 = 0 → wX11_set_37 (a1) (a2) (a3) S8 K) ∧ ((¬ (¬ r7 = 0)) → K (0) S8))))))))))))))
set_option maxRecDepth 100000 in
set_option maxHeartbeats 4000000 in
theorem lX11_set {G : xG} {sh : Nat → Option Sh} {J : St → List va_E → Prop} {a1 a2 a3 : Int} {S : St} {cs : List va_E} {K : Int → St → Prop} (d : Nat) (hd : 2 ≤ d) (hJ : Stb sh J) (hT : isM sh) (hW : Wd G sh mT J S cs) (g1 : rng a1) (g2 : rng a2) (g3 : rng a3) (hw : wX11_set a1 a2 a3 S K) : X G yX11_set cX11_set 5 (some .boolean) d [.ref (G.1 + 54), .int (Int32.ofInt a1), .int (Int32.ofInt a2), .int (Int32.ofInt a3)] cs (qI G sh mT J K) := by
  refine X.of false (by decide +kernel) (by decide) (Nat.le_of_ble_eq_true rfl) ?_
  show Z (RX11, cX11_set, 5, some .boolean, false) G d _ 0 [(0, .ref (G.1 + 54)), (1, .int (Int32.ofInt a1)), (2, .int (Int32.ofInt a2)), (3, .int (Int32.ofInt a3))] [] cs
  have hP : ∀ (v : Int) (S : St) (cs : List va_E), K v S → Wd G sh mT J S cs → qI G sh mT J K (some (.int (Int32.ofInt v))) cs := fun v S cs a b => ⟨v, S, rfl, a, b⟩
  unfold wX11_set at hw
  have hw := hw g1 g2 g3
  refine z_aload_n dX11_set_0 rfl rfl ?_
  refine z_iconst (v := Int32.ofInt 0) dX11_set_1 rfl ?_
  refine z_iload_n dX11_set_2 rfl rfl ?_
  refine z_iload_n dX11_set_3 rfl rfl ?_
  have hX := lX11_kindAt 1 (Nat.le_refl _) hJ hT hW ⟨by decide, by decide⟩ g1 g2 hw
  refine z_callV (As := [_, _, _]) eX11_kindAt sX11_kindAt lX11_253 rfl dX11_set_4 (hW.1 _ _ hT.1) hX (Nat.le_trans (by decide) hd) rfl (Nat.le_of_ble_eq_true rfl) (fun r cs hp => ?_)
  obtain ⟨r1, S2, rfl, hw, hW⟩ := hp
  refine z_st (st' := [.int (Int32.ofInt (r1))]) rfl ?_
  refine z_istore dX11_set_7 (by decide) ?_
  refine z_loc (L' := [(0, .ref (G.1 + 54)), (1, .int (Int32.ofInt (a1))), (2, .int (Int32.ofInt (a2))), (3, .int (Int32.ofInt (a3))), (4, .int (Int32.ofInt (r1)))]) (List.forall_mem_cons.mpr ⟨rfl, (List.forall_mem_cons.mpr ⟨rfl, (List.forall_mem_cons.mpr ⟨rfl, (List.forall_mem_cons.mpr ⟨rfl, (List.forall_mem_cons.mpr ⟨rfl, (fun _ h => nomatch h)⟩)⟩)⟩)⟩)⟩) ?_
  refine z_iload dX11_set_9 rfl ?_
  obtain ⟨q4, hw⟩ := hw
  refine i_if_eq (tgt := 37) dX11_set_11 (by decide) q4 (fun h3 => ?_) (fun h3 => ?_)
  · have hw := hw.1 h3
    refine z_loc (L' := [(0, .ref (G.1 + 54)), (1, .int (Int32.ofInt (a1))), (2, .int (Int32.ofInt (a2))), (3, .int (Int32.ofInt (a3)))]) (List.forall_mem_cons.mpr ⟨rfl, (List.forall_mem_cons.mpr ⟨rfl, (List.forall_mem_cons.mpr ⟨rfl, (List.forall_mem_cons.mpr ⟨rfl, (fun _ h => nomatch h)⟩)⟩)⟩)⟩) ?_
    exact bX11_set_37 hd hJ hT hW hP  hw
  · have hw := hw.2 h3
    refine z_iload dX11_set_14 rfl ?_
    refine z_iconst (v := Int32.ofInt 2) dX11_set_16 rfl ?_
    refine i_icmp_ne (tgt := 35) dX11_set_17 (by decide) q4 ⟨by decide, by decide⟩ (fun h5 => ?_) (fun h5 => ?_)
    · have hw := hw.1 h5
      refine z_iconst (v := Int32.ofInt 0) dX11_set_35 rfl ?_
      exact z_ireturn dX11_set_36 rfl (nar01 (by decide)) (hP _ _ _ hw hW)
    · have hw := hw.2 h5
      refine z_iload_n dX11_set_20 rfl rfl ?_
      refine z_bipush (v := Int32.ofInt (-2)) dX11_set_21 (by decide) ?_
      refine i_icmp_eq (tgt := 37) dX11_set_23 (by decide) g3 ⟨by decide, by decide⟩ (fun h6 => ?_) (fun h6 => ?_)
      · have hw := hw.1 h6
        refine z_loc (L' := [(0, .ref (G.1 + 54)), (1, .int (Int32.ofInt (a1))), (2, .int (Int32.ofInt (a2))), (3, .int (Int32.ofInt (a3)))]) (List.forall_mem_cons.mpr ⟨rfl, (List.forall_mem_cons.mpr ⟨rfl, (List.forall_mem_cons.mpr ⟨rfl, (List.forall_mem_cons.mpr ⟨rfl, (fun _ h => nomatch h)⟩)⟩)⟩)⟩) ?_
        exact bX11_set_37 hd hJ hT hW hP  hw
      · have hw := hw.2 h6
        refine z_aload_n dX11_set_26 rfl rfl ?_
        refine z_iconst (v := Int32.ofInt 0) dX11_set_27 rfl ?_
        refine z_iload_n dX11_set_28 rfl rfl ?_
        have hX := lX11_isObject 0 (Nat.le_refl _) hJ hT hW ⟨by decide, by decide⟩ g3 hw
        refine z_callV (As := [_, _]) eX11_isObject sX11_isObject lX11_247 rfl dX11_set_29 (hW.1 _ _ hT.1) hX (Nat.le_trans (by decide) hd) rfl (Nat.le_of_ble_eq_true rfl) (fun r cs hp => ?_)
        obtain ⟨r7, S8, rfl, hw, hW⟩ := hp
        refine z_st (st' := [.int (Int32.ofInt (r7))]) rfl ?_
        obtain ⟨q10, hw⟩ := hw
        refine i_if_ne (tgt := 37) dX11_set_32 (by decide) q10 (fun h9 => ?_) (fun h9 => ?_)
        · have hw := hw.1 h9
          refine z_loc (L' := [(0, .ref (G.1 + 54)), (1, .int (Int32.ofInt (a1))), (2, .int (Int32.ofInt (a2))), (3, .int (Int32.ofInt (a3)))]) (List.forall_mem_cons.mpr ⟨rfl, (List.forall_mem_cons.mpr ⟨rfl, (List.forall_mem_cons.mpr ⟨rfl, (List.forall_mem_cons.mpr ⟨rfl, (fun _ h => nomatch h)⟩)⟩)⟩)⟩) ?_
          exact bX11_set_37 hd hJ hT hW hP  hw
        · have hw := hw.2 h9
          refine z_iconst (v := Int32.ofInt 0) dX11_set_35 rfl ?_
          exact z_ireturn dX11_set_36 rfl (nar01 (by decide)) (hP _ _ _ hw hW)

def wX11_sign (a1 : Int) (S : St) (K : Int → St → Prop) : Prop := rng a1 → (iv 0 3000 (S.1 54 20) → (rng ((S.1 54 20 - 1)) ∧ (wX11_in (a1) (0) ((S.1 54 20 - 1)) S (fun r3 S4 => (rng (r3) ∧ ((r3 = 0 → K ((-1)) S4) ∧ ((¬ (r3 = 0)) → ((0 : Int) ≤ a1 ∧ a1 < (3000 : Int) ∧ (iv (-2147483648) 2147483647 (S4.2 71 (a1)) → K (S4.2 71 (a1)) S4)))))))))
set_option maxRecDepth 100000 in
set_option maxHeartbeats 4000000 in
theorem lX11_sign {G : xG} {sh : Nat → Option Sh} {J : St → List va_E → Prop} {a1 : Int} {S : St} {cs : List va_E} {K : Int → St → Prop} (d : Nat) (hd : 1 ≤ d) (hJ : Stb sh J) (hT : isM sh) (hW : Wd G sh mT J S cs) (g1 : rng a1) (hw : wX11_sign a1 S K) : X G yX11_sign cX11_sign 2 (some .int) d [.ref (G.1 + 54), .int (Int32.ofInt a1)] cs (qI G sh mT J K) := by
  refine X.of false (by decide +kernel) (by decide) (Nat.le_of_ble_eq_true rfl) ?_
  show Z (RX11, cX11_sign, 2, some .int, false) G d _ 0 [(0, .ref (G.1 + 54)), (1, .int (Int32.ofInt a1))] [] cs
  have hP : ∀ (v : Int) (S : St) (cs : List va_E), K v S → Wd G sh mT J S cs → qI G sh mT J K (some (.int (Int32.ofInt v))) cs := fun v S cs a b => ⟨v, S, rfl, a, b⟩
  unfold wX11_sign at hw
  have hw := hw g1
  refine z_iload_n dX11_sign_0 rfl rfl ?_
  refine z_iconst (v := Int32.ofInt 0) dX11_sign_1 rfl ?_
  refine z_aload_n dX11_sign_2 rfl rfl ?_
  have q1 : iv 0 3000 (S.1 54 20) := mI20 hW
  have hw := hw q1
  refine g_getI hW hT.1 mr20 kX11 fX11_244 dX11_sign_3 ?_
  refine z_iconst (v := Int32.ofInt 1) dX11_sign_6 rfl ?_
  refine i_isub dX11_sign_7 ?_
  obtain ⟨q2, hw⟩ := hw
  have hX := lX11_in 0 (Nat.le_refl _) hJ hT hW g1 ⟨by decide, by decide⟩ q2 hw
  refine z_callS (As := [_, _, _]) eX11_in sX11_in lX11_174 dX11_sign_8 hX (Nat.le_trans (by decide) hd) rfl (Nat.le_of_ble_eq_true rfl) (fun r cs hp => ?_)
  obtain ⟨r3, S4, rfl, hw, hW⟩ := hp
  refine z_st (st' := [.int (Int32.ofInt (r3))]) rfl ?_
  obtain ⟨q6, hw⟩ := hw
  refine i_if_eq (tgt := 23) dX11_sign_11 (by decide) q6 (fun h5 => ?_) (fun h5 => ?_)
  · have hw := hw.1 h5
    refine z_iconst (v := Int32.ofInt (-1)) dX11_sign_23 rfl ?_
    exact z_ireturn dX11_sign_24 rfl rfl (hP _ _ _ hw hW)
  · have hw := hw.2 h5
    refine z_aload_n dX11_sign_14 rfl rfl ?_
    refine g_getR hW hT.1 mr21 kX11 fX11_63 dX11_sign_15 ?_
    refine z_iload_n dX11_sign_18 rfl rfl ?_
    obtain ⟨q7a, q7b, hw⟩ := hw
    have q8 : iv (-2147483648) 2147483647 (S4.2 71 (a1)) := mA71 hW _
    have hw := hw q8
    refine g_iald hW (ma71 hT) q7a q7b (by decide) dX11_sign_19 ?_
    refine z_goto (tgt := 24) dX11_sign_20 (by decide) ?_
    exact z_ireturn dX11_sign_24 rfl rfl (hP _ _ _ hw hW)

