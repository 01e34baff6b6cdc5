def wX11_becomes_236 (l5 s0 : Int) (S : St) (K : Int → St → Prop) : Prop := (rngL (s0) ∧ ((s0 < (-2147483648) → K (0) S) ∧ ((¬ (s0 < (-2147483648))) → (rngL (s0) ∧ ((s0 ≤ 2147483647 → ((0 : Int) ≤ l5 ∧ l5 < (360 : Int) ∧ (iv (-2147483648) 2147483647 (s0) ∧ (∀ S6, S6 = pA S 69 (l5) (s0) → K (1) S6)))) ∧ ((¬ (s0 ≤ 2147483647)) → K (0) S))))))
set_option maxRecDepth 100000 in
set_option maxHeartbeats 4000000 in
theorem bX11_becomes_236 {G : xG} {sh : Nat → Option Sh} {J : St → List va_E → Prop} {d : Nat} {Post : xP} {l5 s0 : Int} {S : St} {cs : List va_E} {K : Int → St → Prop} (hd : 1 ≤ d) (hJ : Stb sh J) (hT : isM sh) (hW : Wd G sh mT J S cs) (hP : ∀ (v : Int) (S : St) (cs : List va_E), K v S → Wd G sh mT J S cs → Post (some (.int (Int32.ofInt v))) cs)  (hw : wX11_becomes_236 l5 s0 S K ) : Z (RX11, cX11_becomes, 10, some .boolean, false) G d Post 236 [(0, .ref (G.1 + 54)), (5, .int (Int32.ofInt (l5)))] [.long (Int64.ofInt (s0))] cs := by
  unfold wX11_becomes_236 at hw
  refine z_lstore dX11_becomes_236 (by decide) ?_
  refine z_loc (L' := [(0, .ref (G.1 + 54)), (5, .int (Int32.ofInt (l5))), (7, .long (Int64.ofInt (s0)))]) (List.forall_mem_cons.mpr ⟨rfl, (List.forall_mem_cons.mpr ⟨rfl, (List.forall_mem_cons.mpr ⟨rfl, (fun _ h => nomatch h)⟩)⟩)⟩) ?_
  refine z_lload dX11_becomes_238 rfl ?_
  refine i_ldc2 (n := (-2147483648)) qX11_425 rfl dX11_becomes_240 ?_
  obtain ⟨q1, hw⟩ := hw
  refine i_lcmp_lt (tgt := 256) dX11_becomes_243 dX11_becomes_244 (by decide) q1 ⟨by decide, by decide⟩ (fun h2 => ?_) (fun h2 => ?_)
  · have hw := hw.1 h2
    refine z_iconst (v := Int32.ofInt 0) dX11_becomes_256 rfl ?_
    exact z_ireturn dX11_becomes_257 rfl (nar01 (by decide)) (hP _ _ _ hw hW)
  · have hw := hw.2 h2
    refine z_lload dX11_becomes_247 rfl ?_
    refine i_ldc2 (n := 2147483647) qX11_427 rfl dX11_becomes_249 ?_
    obtain ⟨q3, hw⟩ := hw
    refine i_lcmp_le (tgt := 258) dX11_becomes_252 dX11_becomes_253 (by decide) q3 ⟨by decide, by decide⟩ (fun h4 => ?_) (fun h4 => ?_)
    · have hw := hw.1 h4
      refine z_aload_n dX11_becomes_258 rfl rfl ?_
      refine g_getR hW hT.1 mr16 kX11 fX11_53 dX11_becomes_259 ?_
      refine z_iload dX11_becomes_262 rfl ?_
      refine z_lload dX11_becomes_264 rfl ?_
      refine i_l2i dX11_becomes_266 ?_
      obtain ⟨q5a, q5b, hw⟩ := hw
      obtain ⟨q7, hw⟩ := hw
      refine g_iast hJ hW (ma69 hT) q5a q5b (by decide) q7 dX11_becomes_267 (fun cs hW => ?_)
      obtain ⟨S6, hS6⟩ : ∃ x, x = pA S 69 (l5) (s0) := ⟨_, rfl⟩
      rw [← hS6] at hW
      have hw := hw S6 hS6
      refine z_iconst (v := Int32.ofInt 1) dX11_becomes_268 rfl ?_
      exact z_ireturn dX11_becomes_269 rfl (nar01 (by decide)) (hP _ _ _ hw hW)
    · have hw := hw.2 h4
      refine z_iconst (v := Int32.ofInt 0) dX11_becomes_256 rfl ?_
      exact z_ireturn dX11_becomes_257 rfl (nar01 (by decide)) (hP _ _ _ hw hW)
def wX11_becomes_171' (l5 l6 l7 l9 : Int) (S : St) (K : Int → St → Prop) (B171 : Int → Int → Int → Int → St → Prop) : Prop := (iv 0 3000 (S.1 54 67) → (rng (l9) ∧ ((S.1 54 67 ≤ l9 → (rng (l6) ∧ ((¬ l6 = 1 → wX11_becomes_236 (l5) (l7) S K) ∧ ((¬ (¬ l6 = 1)) → wX11_becomes_236 (l5) ((-l7)) S K)))) ∧ ((¬ (S.1 54 67 ≤ l9)) → ((0 : Int) ≤ l9 ∧ l9 < (3000 : Int) ∧ (iv (-2147483648) 2147483647 (S.2 104 (l9)) → (wX11_isDigit (S.2 104 (l9)) S (fun r8 S9 => (rng (r8) ∧ ((¬ r8 = 0 → ((0 : Int) ≤ l9 ∧ l9 < (3000 : Int) ∧ (iv (-2147483648) 2147483647 (S9.2 104 (l9)) → (∀ x14 : Int, x14 = (((l7 * 10) + S9.2 104 (l9)) - 48) → B171 (l5) (l6) (x14) ((l9 + 1)) S9)))) ∧ ((¬ (¬ r8 = 0)) → K (0) S9)))))))))))
set_option maxRecDepth 100000 in
set_option maxHeartbeats 4000000 in
theorem bX11_becomes_171' {G : xG} {sh : Nat → Option Sh} {J : St → List va_E → Prop} {d : Nat} {Post : xP} {l5 l6 l7 l9 : Int} {S : St} {cs : List va_E} {K : Int → St → Prop} {B171 : Int → Int → Int → Int → St → Prop} (hd : 1 ≤ d) (hJ : Stb sh J) (hT : isM sh) (hW : Wd G sh mT J S cs) (hP : ∀ (v : Int) (S : St) (cs : List va_E), K v S → Wd G sh mT J S cs → Post (some (.int (Int32.ofInt v))) cs) (hB171 : ∀ (l5 : Int) (l6 : Int) (l7 : Int) (l9 : Int) (S : St) (cs : List va_E), B171 l5 l6 l7 l9 S → Wd G sh mT J S cs → Z (RX11, cX11_becomes, 10, some .boolean, false) G d Post 171 [(0, .ref (G.1 + 54)), (5, .int (Int32.ofInt (l5))), (6, .int (Int32.ofInt (l6))), (7, .long (Int64.ofInt (l7))), (9, .int (Int32.ofInt (l9)))] [] cs) (hw : wX11_becomes_171' l5 l6 l7 l9 S K B171) : Z (RX11, cX11_becomes, 10, some .boolean, false) G d Post 171 [(0, .ref (G.1 + 54)), (5, .int (Int32.ofInt (l5))), (6, .int (Int32.ofInt (l6))), (7, .long (Int64.ofInt (l7))), (9, .int (Int32.ofInt (l9)))] [] cs := by
  unfold wX11_becomes_171' at hw
  refine z_iload dX11_becomes_171 rfl ?_
  refine z_aload_n dX11_becomes_173 rfl rfl ?_
  have q1 : iv 0 3000 (S.1 54 67) := mI67 hW
  have hw := hw q1
  refine g_getI hW hT.1 mr67 kX11 fX11_420 dX11_becomes_174 ?_
  obtain ⟨q3, hw⟩ := hw
  refine i_icmp_ge (tgt := 222) dX11_becomes_177 (by decide) q3 (rngq q1 (by decide) (by decide)) (fun h2 => ?_) (fun h2 => ?_)
  · have hw := hw.1 h2
    refine z_iload dX11_becomes_222 rfl ?_
    refine z_iconst (v := Int32.ofInt 1) dX11_becomes_224 rfl ?_
    obtain ⟨q5, hw⟩ := hw
    refine i_icmp_ne (tgt := 234) dX11_becomes_225 (by decide) q5 ⟨by decide, by decide⟩ (fun h4 => ?_) (fun h4 => ?_)
    · have hw := hw.1 h4
      refine z_lload dX11_becomes_234 rfl ?_
      refine z_loc (L' := [(0, .ref (G.1 + 54)), (5, .int (Int32.ofInt (l5)))]) (List.forall_mem_cons.mpr ⟨rfl, (List.forall_mem_cons.mpr ⟨rfl, (fun _ h => nomatch h)⟩)⟩) ?_
      exact bX11_becomes_236 hd hJ hT hW hP  hw
    · have hw := hw.2 h4
      refine z_lload dX11_becomes_228 rfl ?_
      refine i_lneg dX11_becomes_230 ?_
      refine z_goto (tgt := 236) dX11_becomes_231 (by decide) ?_
      refine z_loc (L' := [(0, .ref (G.1 + 54)), (5, .int (Int32.ofInt (l5)))]) (List.forall_mem_cons.mpr ⟨rfl, (List.forall_mem_cons.mpr ⟨rfl, (fun _ h => nomatch h)⟩)⟩) ?_
      exact bX11_becomes_236 hd hJ hT hW hP  hw
  · have hw := hw.2 h2
    refine z_aload_n dX11_becomes_180 rfl rfl ?_
    refine g_getR hW hT.1 mr68 kX11 fX11_162 dX11_becomes_181 ?_
    refine z_iload dX11_becomes_184 rfl ?_
    obtain ⟨q6a, q6b, hw⟩ := hw
    have q7 : iv (-2147483648) 2147483647 (S.2 104 (l9)) := mA104 hW _
    have hw := hw q7
    refine g_iald hW (ma104 hT) q6a q6b (by decide) dX11_becomes_186 ?_
    have hX := lX11_isDigit 0 (Nat.le_refl _) hJ hT hW (rngq q7 (by decide) (by decide)) hw
    refine z_callS (As := [_]) eX11_isDigit sX11_isDigit lX11_189 dX11_becomes_187 hX (Nat.le_trans (by decide) hd) rfl (Nat.le_of_ble_eq_true rfl) (fun r cs hp => ?_)
    obtain ⟨r8, S9, rfl, hw, hW⟩ := hp
    refine z_st (st' := [.int (Int32.ofInt (r8))]) rfl ?_
    obtain ⟨q11, hw⟩ := hw
    refine i_if_ne (tgt := 195) dX11_becomes_190 (by decide) q11 (fun h10 => ?_) (fun h10 => ?_)
    · have hw := hw.1 h10
      refine z_lload dX11_becomes_195 rfl ?_
      refine i_ldc2 (n := 10) qX11_265 rfl dX11_becomes_197 ?_
      refine i_lmul dX11_becomes_200 ?_
      refine z_aload_n dX11_becomes_201 rfl rfl ?_
      refine g_getR hW hT.1 mr68 kX11 fX11_162 dX11_becomes_202 ?_
      refine z_iload dX11_becomes_205 rfl ?_
      obtain ⟨q12a, q12b, hw⟩ := hw
      have q13 : iv (-2147483648) 2147483647 (S9.2 104 (l9)) := mA104 hW _
      have hw := hw q13
      refine g_iald hW (ma104 hT) q12a q12b (by decide) dX11_becomes_207 ?_
      refine i_i2l dX11_becomes_208 (rngq q13 (by decide) (by decide)) ?_
      refine i_ladd dX11_becomes_209 ?_
      refine i_ldc2 (n := 48) qX11_423 rfl dX11_becomes_210 ?_
      refine i_lsub dX11_becomes_213 ?_
      obtain ⟨x14, hx14⟩ : ∃ x : Int, x = (((l7 * 10) + S9.2 104 (l9)) - 48) := ⟨_, rfl⟩
      have hw := hw x14 hx14
      refine z_st (st' := [.long (Int64.ofInt x14)]) (by rw [hx14]) ?_
      refine z_lstore dX11_becomes_214 (by decide) ?_
      refine z_loc (L' := [(0, .ref (G.1 + 54)), (5, .int (Int32.ofInt (l5))), (6, .int (Int32.ofInt (l6))), (7, .long (Int64.ofInt (x14))), (9, .int (Int32.ofInt (l9)))]) (List.forall_mem_cons.mpr ⟨rfl, (List.forall_mem_cons.mpr ⟨rfl, (List.forall_mem_cons.mpr ⟨rfl, (List.forall_mem_cons.mpr ⟨rfl, (List.forall_mem_cons.mpr ⟨rfl, (fun _ h => nomatch h)⟩)⟩)⟩)⟩)⟩) ?_
      refine i_iinc (l := l9) dX11_becomes_216 rfl (by decide) ?_
      refine z_loc (L' := [(0, .ref (G.1 + 54)), (5, .int (Int32.ofInt (l5))), (6, .int (Int32.ofInt (l6))), (7, .long (Int64.ofInt (x14))), (9, .int (Int32.ofInt ((l9 + 1))))]) (List.forall_mem_cons.mpr ⟨rfl, (List.forall_mem_cons.mpr ⟨rfl, (List.forall_mem_cons.mpr ⟨rfl, (List.forall_mem_cons.mpr ⟨rfl, (List.forall_mem_cons.mpr ⟨rfl, (fun _ h => nomatch h)⟩)⟩)⟩)⟩)⟩) ?_
      refine z_goto (tgt := 171) dX11_becomes_219 (by decide) ?_
      refine z_loc (L' := [(0, .ref (G.1 + 54)), (5, .int (Int32.ofInt (l5))), (6, .int (Int32.ofInt (l6))), (7, .long (Int64.ofInt (x14))), (9, .int (Int32.ofInt ((l9 + 1))))]) (List.forall_mem_cons.mpr ⟨rfl, (List.forall_mem_cons.mpr ⟨rfl, (List.forall_mem_cons.mpr ⟨rfl, (List.forall_mem_cons.mpr ⟨rfl, (List.forall_mem_cons.mpr ⟨rfl, (fun _ h => nomatch h)⟩)⟩)⟩)⟩)⟩) ?_
      exact hB171 _ _ _ _ _ _ hw hW
    · have hw := hw.2 h10
      refine z_iconst (v := Int32.ofInt 0) dX11_becomes_193 rfl ?_
      exact z_ireturn dX11_becomes_194 rfl (nar01 (by decide)) (hP _ _ _ hw hW)
def wX11_becomes_171 (l5 l6 l7 l9 : Int) (S : St) (K : Int → St → Prop) : Prop := ∃ (Iv : Int → Int → Int → Int → St → Prop) (mu : Int → Int → Int → Int → St → Nat), Iv l5 l6 l7 l9 S ∧ ∀ (l5 l6 l7 l9 : Int) (S : St), Iv l5 l6 l7 l9 S → wX11_becomes_171' l5 l6 l7 l9 S K  (fun ml5 ml6 ml7 ml9 T => Iv ml5 ml6 ml7 ml9 T ∧ mu ml5 ml6 ml7 ml9 T < mu l5 l6 l7 l9 S)
set_option maxRecDepth 100000 in
set_option maxHeartbeats 4000000 in
theorem bX11_becomes_171 {G : xG} {sh : Nat → Option Sh} {J : St → List va_E → Prop} {d : Nat} {Post : xP} {l5 l6 l7 l9 : Int} {S : St} {cs : List va_E} {K : Int → St → Prop} (hd : 1 ≤ d) (hJ : Stb sh J) (hT : isM sh) (hW : Wd G sh mT J S cs) (hP : ∀ (v : Int) (S : St) (cs : List va_E), K v S → Wd G sh mT J S cs → Post (some (.int (Int32.ofInt v))) cs)  (hw : wX11_becomes_171 l5 l6 l7 l9 S K ) : Z (RX11, cX11_becomes, 10, some .boolean, false) G d Post 171 [(0, .ref (G.1 + 54)), (5, .int (Int32.ofInt (l5))), (6, .int (Int32.ofInt (l6))), (7, .long (Int64.ofInt (l7))), (9, .int (Int32.ofInt (l9)))] [] cs := by
  unfold wX11_becomes_171 at hw
  obtain ⟨Iv, mu, h0, hs⟩ := hw
  have key : ∀ (n : Nat) (l5 l6 l7 l9 : Int) (S : St) (cs : List va_E), mu l5 l6 l7 l9 S < n → Iv l5 l6 l7 l9 S → Wd G sh mT J S cs → Z (RX11, cX11_becomes, 10, some .boolean, false) G d Post 171 [(0, .ref (G.1 + 54)), (5, .int (Int32.ofInt (l5))), (6, .int (Int32.ofInt (l6))), (7, .long (Int64.ofInt (l7))), (9, .int (Int32.ofInt (l9)))] [] cs := by
    intro n
    induction n with
    | zero => intro l5 l6 l7 l9 S cs hn; exact absurd hn (Nat.not_lt_zero _)
    | succ n ih =>
      intro l5 l6 l7 l9 S cs hn hI hW
      exact bX11_becomes_171' hd hJ hT hW hP  (fun l5 l6 l7 l9 S cs hb hW => ih l5 l6 l7 l9 S cs (Nat.lt_of_lt_of_le hb.2 (Nat.le_of_lt_succ hn)) hb.1 hW) (hs l5 l6 l7 l9 S hI)
  exact key _ _ _ _ _ _ _ (Nat.lt_succ_self _) h0 hW
def wX11_becomes_139 (l5 s0 : Int) (S : St) (K : Int → St → Prop) : Prop := (iv 0 3000 (S.1 54 67) → (rng (s0) ∧ ((S.1 54 67 = s0 → K (0) S) ∧ ((¬ (S.1 54 67 = s0)) → (rng ((S.1 54 67 - s0)) ∧ (((S.1 54 67 - s0) ≤ 10 → wX11_becomes_171 (l5) (s0) (0) (s0) S K) ∧ ((¬ ((S.1 54 67 - s0) ≤ 10)) → K (0) S)))))))
set_option maxRecDepth 100000 in
set_option maxHeartbeats 4000000 in
theorem bX11_becomes_139 {G : xG} {sh : Nat → Option Sh} {J : St → List va_E → Prop} {d : Nat} {Post : xP} {l5 s0 : Int} {S : St} {cs : List va_E} {K : Int → St → Prop} (hd : 1 ≤ d) (hJ : Stb sh J) (hT : isM sh) (hW : Wd G sh mT J S cs) (hP : ∀ (v : Int) (S : St) (cs : List va_E), K v S → Wd G sh mT J S cs → Post (some (.int (Int32.ofInt v))) cs)  (hw : wX11_becomes_139 l5 s0 S K ) : Z (RX11, cX11_becomes, 10, some .boolean, false) G d Post 139 [(0, .ref (G.1 + 54)), (5, .int (Int32.ofInt (l5)))] [.int (Int32.ofInt (s0))] cs := by
  unfold wX11_becomes_139 at hw
  refine z_istore dX11_becomes_139 (by decide) ?_
  refine z_loc (L' := [(0, .ref (G.1 + 54)), (5, .int (Int32.ofInt (l5))), (6, .int (Int32.ofInt (s0)))]) (List.forall_mem_cons.mpr ⟨rfl, (List.forall_mem_cons.mpr ⟨rfl, (List.forall_mem_cons.mpr ⟨rfl, (fun _ h => nomatch h)⟩)⟩)⟩) ?_
  refine z_aload_n dX11_becomes_141 rfl rfl ?_
  have q1 : iv 0 3000 (S.1 54 67) := mI67 hW
  have hw := hw q1
  refine g_getI hW hT.1 mr67 kX11 fX11_420 dX11_becomes_142 ?_
  refine z_iload dX11_becomes_145 rfl ?_
  obtain ⟨q3, hw⟩ := hw
  refine i_icmp_eq (tgt := 162) dX11_becomes_147 (by decide) (rngq q1 (by decide) (by decide)) q3 (fun h2 => ?_) (fun h2 => ?_)
  · have hw := hw.1 h2
    refine z_iconst (v := Int32.ofInt 0) dX11_becomes_162 rfl ?_
    exact z_ireturn dX11_becomes_163 rfl (nar01 (by decide)) (hP _ _ _ hw hW)
  · have hw := hw.2 h2
    refine z_aload_n dX11_becomes_150 rfl rfl ?_
    refine g_getI hW hT.1 mr67 kX11 fX11_420 dX11_becomes_151 ?_
    refine z_iload dX11_becomes_154 rfl ?_
    refine i_isub dX11_becomes_156 ?_
    refine z_bipush (v := Int32.ofInt 10) dX11_becomes_157 (by decide) ?_
    obtain ⟨q5, hw⟩ := hw
    refine i_icmp_le (tgt := 164) dX11_becomes_159 (by decide) q5 ⟨by decide, by decide⟩ (fun h4 => ?_) (fun h4 => ?_)
    · have hw := hw.1 h4
      refine z_lconst (v := Int64.ofInt 0) dX11_becomes_164 (by decide) ?_
      refine z_lstore dX11_becomes_165 (by decide) ?_
      refine z_loc (L' := [(0, .ref (G.1 + 54)), (5, .int (Int32.ofInt (l5))), (6, .int (Int32.ofInt (s0))), (7, .long (Int64.ofInt (0)))]) (List.forall_mem_cons.mpr ⟨rfl, (List.forall_mem_cons.mpr ⟨rfl, (List.forall_mem_cons.mpr ⟨rfl, (List.forall_mem_cons.mpr ⟨rfl, (fun _ h => nomatch h)⟩)⟩)⟩)⟩) ?_
      refine z_iload dX11_becomes_167 rfl ?_
      refine z_istore dX11_becomes_169 (by decide) ?_
      refine z_loc (L' := [(0, .ref (G.1 + 54)), (5, .int (Int32.ofInt (l5))), (6, .int (Int32.ofInt (s0))), (7, .long (Int64.ofInt (0))), (9, .int (Int32.ofInt (s0)))]) (List.forall_mem_cons.mpr ⟨rfl, (List.forall_mem_cons.mpr ⟨rfl, (List.forall_mem_cons.mpr ⟨rfl, (List.forall_mem_cons.mpr ⟨rfl, (List.forall_mem_cons.mpr ⟨rfl, (fun _ h => nomatch h)⟩)⟩)⟩)⟩)⟩) ?_
      refine z_loc (L' := [(0, .ref (G.1 + 54)), (5, .int (Int32.ofInt (l5))), (6, .int (Int32.ofInt (s0))), (7, .long (Int64.ofInt (0))), (9, .int (Int32.ofInt (s0)))]) (List.forall_mem_cons.mpr ⟨rfl, (List.forall_mem_cons.mpr ⟨rfl, (List.forall_mem_cons.mpr ⟨rfl, (List.forall_mem_cons.mpr ⟨rfl, (List.forall_mem_cons.mpr ⟨rfl, (fun _ h => nomatch h)⟩)⟩)⟩)⟩)⟩) ?_
      exact bX11_becomes_171 hd hJ hT hW hP  hw
    · have hw := hw.2 h4
      refine z_iconst (v := Int32.ofInt 0) dX11_becomes_162 rfl ?_
      exact z_ireturn dX11_becomes_163 rfl (nar01 (by decide)) (hP _ _ _ hw hW)
def wX11_becomes_138 (l5 : Int) (S : St) (K : Int → St → Prop) : Prop := wX11_becomes_139 (l5) (0) S K
set_option maxRecDepth 100000 in
set_option maxHeartbeats 4000000 in
theorem bX11_becomes_138 {G : xG} {sh : Nat → Option Sh} {J : St → List va_E → Prop} {d : Nat} {Post : xP} {l5 : Int} {S : St} {cs : List va_E} {K : Int → St → Prop} (hd : 1 ≤ d) (hJ : Stb sh J) (hT : isM sh) (hW : Wd G sh mT J S cs) (hP : ∀ (v : Int) (S : St) (cs : List va_E), K v S → Wd G sh mT J S cs → Post (some (.int (Int32.ofInt v))) cs)  (hw : wX11_becomes_138 l5 S K ) : Z (RX11, cX11_becomes, 10, some .boolean, false) G d Post 138 [(0, .ref (G.1 + 54)), (5, .int (Int32.ofInt (l5)))] [] cs := by
  unfold wX11_becomes_138 at hw
  refine z_iconst (v := Int32.ofInt 0) dX11_becomes_138 rfl ?_
  refine z_loc (L' := [(0, .ref (G.1 + 54)), (5, .int (Int32.ofInt (l5)))]) (List.forall_mem_cons.mpr ⟨rfl, (List.forall_mem_cons.mpr ⟨rfl, (fun _ h => nomatch h)⟩)⟩) ?_
  exact bX11_becomes_139 hd hJ hT hW hP  hw
def wX11_becomes_49' (l5 l6 : Int) (S : St) (K : Int → St → Prop) (B49 : Int → Int → St → Prop) : Prop := (iv 0 3000 (S.1 54 67) → (rng (l6) ∧ ((S.1 54 67 ≤ l6 → ((0 : Int) ≤ l5 ∧ l5 < (360 : Int) ∧ (iv (-2147483648) 2147483647 (S.1 54 67) ∧ (∀ S5, S5 = pA S 69 (l5) (S.1 54 67) → K (1) S5)))) ∧ ((¬ (S.1 54 67 ≤ l6)) → ((0 : Int) ≤ l6 ∧ l6 < (3000 : Int) ∧ (iv (-2147483648) 2147483647 (S.2 104 (l6)) → (wX11_in (S.2 104 (l6)) (32) (126) S (fun r9 S10 => (rng (r9) ∧ ((¬ r9 = 0 → ((0 : Int) ≤ l6 ∧ l6 < (3000 : Int) ∧ (iv (-2147483648) 2147483647 (S10.2 104 (l6)) → ((0 : Int) ≤ ((20 * l5) + l6) ∧ ((20 * l5) + l6) < (7200 : Int) ∧ (∀ S16, S16 = pA S10 70 (((20 * l5) + l6)) (S10.2 104 (l6)) → B49 (l5) ((l6 + 1)) S16))))) ∧ ((¬ (¬ r9 = 0)) → K (0) S10)))))))))))
set_option maxRecDepth 100000 in
set_option maxHeartbeats 4000000 in
theorem bX11_becomes_49' {G : xG} {sh : Nat → Option Sh} {J : St → List va_E → Prop} {d : Nat} {Post : xP} {l5 l6 : Int} {S : St} {cs : List va_E} {K : Int → St → Prop} {B49 : Int → Int → St → Prop} (hd : 1 ≤ d) (hJ : Stb sh J) (hT : isM sh) (hW : Wd G sh mT J S cs) (hP : ∀ (v : Int) (S : St) (cs : List va_E), K v S → Wd G sh mT J S cs → Post (some (.int (Int32.ofInt v))) cs) (hB49 : ∀ (l5 : Int) (l6 : Int) (S : St) (cs : List va_E), B49 l5 l6 S → Wd G sh mT J S cs → Z (RX11, cX11_becomes, 10, some .boolean, false) G d Post 49 [(0, .ref (G.1 + 54)), (5, .int (Int32.ofInt (l5))), (6, .int (Int32.ofInt (l6)))] [] cs) (hw : wX11_becomes_49' l5 l6 S K B49) : Z (RX11, cX11_becomes, 10, some .boolean, false) G d Post 49 [(0, .ref (G.1 + 54)), (5, .int (Int32.ofInt (l5))), (6, .int (Int32.ofInt (l6)))] [] cs := by
  unfold wX11_becomes_49' at hw
  refine z_iload dX11_becomes_49 rfl ?_
  refine z_aload_n dX11_becomes_51 rfl rfl ?_
  have q1 : iv 0 3000 (S.1 54 67) := mI67 hW
  have hw := hw q1
  refine g_getI hW hT.1 mr67 kX11 fX11_420 dX11_becomes_52 ?_
  obtain ⟨q3, hw⟩ := hw
  refine i_icmp_ge (tgt := 103) dX11_becomes_55 (by decide) q3 (rngq q1 (by decide) (by decide)) (fun h2 => ?_) (fun h2 => ?_)
  · have hw := hw.1 h2
    refine z_aload_n dX11_becomes_103 rfl rfl ?_
    refine g_getR hW hT.1 mr16 kX11 fX11_53 dX11_becomes_104 ?_
    refine z_iload dX11_becomes_107 rfl ?_
    refine z_aload_n dX11_becomes_109 rfl rfl ?_
    refine g_getI hW hT.1 mr67 kX11 fX11_420 dX11_becomes_110 ?_
    obtain ⟨q4a, q4b, hw⟩ := hw
    obtain ⟨q6, hw⟩ := hw
    refine g_iast hJ hW (ma69 hT) q4a q4b (by decide) q6 dX11_becomes_113 (fun cs hW => ?_)
    obtain ⟨S5, hS5⟩ : ∃ x, x = pA S 69 (l5) (S.1 54 67) := ⟨_, rfl⟩
    rw [← hS5] at hW
    have hw := hw S5 hS5
    refine z_iconst (v := Int32.ofInt 1) dX11_becomes_114 rfl ?_
    exact z_ireturn dX11_becomes_115 rfl (nar01 (by decide)) (hP _ _ _ hw hW)
  · have hw := hw.2 h2
    refine z_aload_n dX11_becomes_58 rfl rfl ?_
    refine g_getR hW hT.1 mr68 kX11 fX11_162 dX11_becomes_59 ?_
    refine z_iload dX11_becomes_62 rfl ?_
    obtain ⟨q7a, q7b, hw⟩ := hw
    have q8 : iv (-2147483648) 2147483647 (S.2 104 (l6)) := mA104 hW _
    have hw := hw q8
    refine g_iald hW (ma104 hT) q7a q7b (by decide) dX11_becomes_64 ?_
    refine z_bipush (v := Int32.ofInt 32) dX11_becomes_65 (by decide) ?_
    refine z_bipush (v := Int32.ofInt 126) dX11_becomes_67 (by decide) ?_
    have hX := lX11_in 0 (Nat.le_refl _) hJ hT hW (rngq q8 (by decide) (by decide)) ⟨by decide, by decide⟩ ⟨by decide, by decide⟩ hw
    refine z_callS (As := [_, _, _]) eX11_in sX11_in lX11_174 dX11_becomes_69 hX (Nat.le_trans (by decide) hd) rfl (Nat.le_of_ble_eq_true rfl) (fun r cs hp => ?_)
    obtain ⟨r9, S10, rfl, hw, hW⟩ := hp
    refine z_st (st' := [.int (Int32.ofInt (r9))]) rfl ?_
    obtain ⟨q12, hw⟩ := hw
    refine i_if_ne (tgt := 77) dX11_becomes_72 (by decide) q12 (fun h11 => ?_) (fun h11 => ?_)
    · have hw := hw.1 h11
      refine z_aload_n dX11_becomes_77 rfl rfl ?_
      refine g_getR hW hT.1 mr17 kX11 fX11_56 dX11_becomes_78 ?_
      refine z_bipush (v := Int32.ofInt 20) dX11_becomes_81 (by decide) ?_
      refine z_iload dX11_becomes_83 rfl ?_
      refine i_imul dX11_becomes_85 ?_
      refine z_iload dX11_becomes_86 rfl ?_
      refine i_iadd dX11_becomes_88 ?_
      refine z_aload_n dX11_becomes_89 rfl rfl ?_
      refine g_getR hW hT.1 mr68 kX11 fX11_162 dX11_becomes_90 ?_
      refine z_iload dX11_becomes_93 rfl ?_
      obtain ⟨q13a, q13b, hw⟩ := hw
      have q14 : iv (-2147483648) 2147483647 (S10.2 104 (l6)) := mA104 hW _
      have hw := hw q14
      refine g_iald hW (ma104 hT) q13a q13b (by decide) dX11_becomes_95 ?_
      obtain ⟨q15a, q15b, hw⟩ := hw
      refine g_iast hJ hW (ma70 hT) q15a q15b (by decide) q14 dX11_becomes_96 (fun cs hW => ?_)
      obtain ⟨S16, hS16⟩ : ∃ x, x = pA S10 70 (((20 * l5) + l6)) (S10.2 104 (l6)) := ⟨_, rfl⟩
      rw [← hS16] at hW
      have hw := hw S16 hS16
      refine i_iinc (l := l6) dX11_becomes_97 rfl (by decide) ?_
      refine z_loc (L' := [(0, .ref (G.1 + 54)), (5, .int (Int32.ofInt (l5))), (6, .int (Int32.ofInt ((l6 + 1))))]) (List.forall_mem_cons.mpr ⟨rfl, (List.forall_mem_cons.mpr ⟨rfl, (List.forall_mem_cons.mpr ⟨rfl, (fun _ h => nomatch h)⟩)⟩)⟩) ?_
      refine z_goto (tgt := 49) dX11_becomes_100 (by decide) ?_
      refine z_loc (L' := [(0, .ref (G.1 + 54)), (5, .int (Int32.ofInt (l5))), (6, .int (Int32.ofInt ((l6 + 1))))]) (List.forall_mem_cons.mpr ⟨rfl, (List.forall_mem_cons.mpr ⟨rfl, (List.forall_mem_cons.mpr ⟨rfl, (fun _ h => nomatch h)⟩)⟩)⟩) ?_
      exact hB49 _ _ _ _ hw hW
    · have hw := hw.2 h11
      refine z_iconst (v := Int32.ofInt 0) dX11_becomes_75 rfl ?_
      exact z_ireturn dX11_becomes_76 rfl (nar01 (by decide)) (hP _ _ _ hw hW)
def wX11_becomes_49 (l5 l6 : Int) (S : St) (K : Int → St → Prop) : Prop := ∃ (Iv : Int → Int → St → Prop) (mu : Int → Int → St → Nat), Iv l5 l6 S ∧ ∀ (l5 l6 : Int) (S : St), Iv l5 l6 S → wX11_becomes_49' l5 l6 S K  (fun ml5 ml6 T => Iv ml5 ml6 T ∧ mu ml5 ml6 T < mu l5 l6 S)
set_option maxRecDepth 100000 in
set_option maxHeartbeats 4000000 in
theorem bX11_becomes_49 {G : xG} {sh : Nat → Option Sh} {J : St → List va_E → Prop} {d : Nat} {Post : xP} {l5 l6 : Int} {S : St} {cs : List va_E} {K : Int → St → Prop} (hd : 1 ≤ d) (hJ : Stb sh J) (hT : isM sh) (hW : Wd G sh mT J S cs) (hP : ∀ (v : Int) (S : St) (cs : List va_E), K v S → Wd G sh mT J S cs → Post (some (.int (Int32.ofInt v))) cs)  (hw : wX11_becomes_49 l5 l6 S K ) : Z (RX11, cX11_becomes, 10, some .boolean, false) G d Post 49 [(0, .ref (G.1 + 54)), (5, .int (Int32.ofInt (l5))), (6, .int (Int32.ofInt (l6)))] [] cs := by
  unfold wX11_becomes_49 at hw
  obtain ⟨Iv, mu, h0, hs⟩ := hw
  have key : ∀ (n : Nat) (l5 l6 : Int) (S : St) (cs : List va_E), mu l5 l6 S < n → Iv l5 l6 S → Wd G sh mT J S cs → Z (RX11, cX11_becomes, 10, some .boolean, false) G d Post 49 [(0, .ref (G.1 + 54)), (5, .int (Int32.ofInt (l5))), (6, .int (Int32.ofInt (l6)))] [] cs := by
    intro n
    induction n with
    | zero => intro l5 l6 S cs hn; exact absurd hn (Nat.not_lt_zero _)
    | succ n ih =>
      intro l5 l6 S cs hn hI hW
      exact bX11_becomes_49' hd hJ hT hW hP  (fun l5 l6 S cs hb hW => ih l5 l6 S cs (Nat.lt_of_lt_of_le hb.2 (Nat.le_of_lt_succ hn)) hb.1 hW) (hs l5 l6 S hI)
  exact key _ _ _ _ _ (Nat.lt_succ_self _) h0 hW
def wX11_becomes (a1 a2 : Int) (S : St) (K : Int → St → Prop) : Prop := rng a1 → rng a2 → (∀ x1 : Int, x1 = (60 + a1) → ((0 : Int) ≤ x1 ∧ x1 < (90 : Int) ∧ (iv 0 5 (S.2 68 (x1)) → ((0 : Int) ≤ ((4 * S.2 68 (x1)) + a2) ∧ ((4 * S.2 68 (x1)) + a2) < (24 : Int) ∧ (iv 0 3 (S.2 59 (((4 * S.2 68 (x1)) + a2))) → (∀ x6 : Int, x6 = S.2 59 (((4 * S.2 68 (x1)) + a2)) → (∀ x9 : Int, x9 = ((4 * x1) + a2) → ((¬ x6 = 1 → (iv 0 3000 (S.1 54 67) → ((S.1 54 67 ≤ 0 → wX11_becomes_138 (x9) S K) ∧ ((¬ (S.1 54 67 ≤ 0)) → ((0 : Int) ≤ 0 ∧ 0 < (3000 : Int) ∧ (iv (-2147483648) 2147483647 (S.2 104 (0)) → ((¬ S.2 104 (0) = 45 → wX11_becomes_138 (x9) S K) ∧ ((¬ (¬ S.2 104 (0) = 45)) → wX11_becomes_139 (x9) (1) S K)))))))) ∧ ((¬ (¬ x6 = 1)) → (iv 0 3000 (S.1 54 67) → ((S.1 54 67 ≤ 20 → wX11_becomes_49 (x9) (0) S K) ∧ ((¬ (S.1 54 67 ≤ 20)) → K (0) S))))))))))))
set_option maxRecDepth 100000 in
set_option maxHeartbeats 4000000 in
theorem lX11_becomes {G : xG} {sh : Nat → Option Sh} {J : St → List va_E → Prop} {a1 a2 : Int} {S : St} {cs : List va_E} {K : Int → St → Prop} (d : Nat) (hd : 1 ≤ d) (hJ : Stb sh J) (hT : isM sh) (hW : Wd G sh mT J S cs) (g1 : rng a1) (g2 : rng a2) (hw : wX11_becomes a1 a2 S K) : X G yX11_becomes cX11_becomes 10 (some .boolean) d [.ref (G.1 + 54), .int (Int32.ofInt a1), .int (Int32.ofInt a2)] cs (qI G sh mT J K) := by
  refine X.of false (by decide +kernel) (by decide) (Nat.le_of_ble_eq_true rfl) ?_
  show Z (RX11, cX11_becomes, 10, some .boolean, false) G d _ 0 [(0, .ref (G.1 + 54)), (1, .int (Int32.ofInt a1)), (2, .int (Int32.ofInt a2))] [] cs
  have hP : ∀ (v : Int) (S : St) (cs : List va_E), K v S → Wd G sh mT J S cs → qI G sh mT J K (some (.int (Int32.ofInt v))) cs := fun v S cs a b => ⟨v, S, rfl, a, b⟩
  unfold wX11_becomes at hw
  have hw := hw g1 g2
  refine z_bipush (v := Int32.ofInt 60) dX11_becomes_0 (by decide) ?_
  refine z_iload_n dX11_becomes_2 rfl rfl ?_
  refine i_iadd dX11_becomes_3 ?_
  obtain ⟨x1, hx1⟩ : ∃ x : Int, x = (60 + a1) := ⟨_, rfl⟩
  have hw := hw x1 hx1
  refine z_st (st' := [.int (Int32.ofInt x1)]) (by rw [hx1]) ?_
  refine z_istore_n dX11_becomes_4 rfl (by decide) ?_
  refine z_loc (L' := [(0, .ref (G.1 + 54)), (1, .int (Int32.ofInt (a1))), (2, .int (Int32.ofInt (a2))), (3, .int (Int32.ofInt (x1)))]) (List.forall_mem_cons.mpr ⟨rfl, (List.forall_mem_cons.mpr ⟨rfl, (List.forall_mem_cons.mpr ⟨rfl, (List.forall_mem_cons.mpr ⟨rfl, (fun _ h => nomatch h)⟩)⟩)⟩)⟩) ?_
  refine z_aload_n dX11_becomes_5 rfl rfl ?_
  refine g_getR hW hT.1 mr6 kX11 fX11_22 dX11_becomes_6 ?_
  refine z_iconst (v := Int32.ofInt 4) dX11_becomes_9 rfl ?_
  refine z_aload_n dX11_becomes_10 rfl rfl ?_
  refine g_getR hW hT.1 mr15 kX11 fX11_50 dX11_becomes_11 ?_
  refine z_iload_n dX11_becomes_14 rfl rfl ?_
  obtain ⟨q2a, q2b, hw⟩ := hw
  have q3 : iv 0 5 (S.2 68 (x1)) := mA68 hW _
  have hw := hw q3
  refine g_iald hW (ma68 hT) q2a q2b (by decide) dX11_becomes_15 ?_
  refine i_imul dX11_becomes_16 ?_
  refine z_iload_n dX11_becomes_17 rfl rfl ?_
  refine i_iadd dX11_becomes_18 ?_
  obtain ⟨q4a, q4b, hw⟩ := hw
  have q5 : iv 0 3 (S.2 59 (((4 * S.2 68 (x1)) + a2))) := mA59 hW _
  have hw := hw q5
  refine g_iald hW (ma59 hT) q4a q4b (by decide) dX11_becomes_19 ?_
  obtain ⟨x6, hx6⟩ : ∃ x : Int, x = S.2 59 (((4 * S.2 68 (x1)) + a2)) := ⟨_, rfl⟩
  have hw := hw x6 hx6
  refine z_st (st' := [.int (Int32.ofInt x6)]) (by rw [hx6]) ?_
  have q7 : rng x6 := by rw [hx6]; exact (rngq q5 (by decide) (by decide))
  have q8 : iv 0 3 x6 := by rw [hx6]; exact q5
  refine z_istore dX11_becomes_20 (by decide) ?_
  refine z_loc (L' := [(0, .ref (G.1 + 54)), (1, .int (Int32.ofInt (a1))), (2, .int (Int32.ofInt (a2))), (3, .int (Int32.ofInt (x1))), (4, .int (Int32.ofInt (x6)))]) (List.forall_mem_cons.mpr ⟨rfl, (List.forall_mem_cons.mpr ⟨rfl, (List.forall_mem_cons.mpr ⟨rfl, (List.forall_mem_cons.mpr ⟨rfl, (List.forall_mem_cons.mpr ⟨rfl, (fun _ h => nomatch h)⟩)⟩)⟩)⟩)⟩) ?_
  refine z_iconst (v := Int32.ofInt 4) dX11_becomes_22 rfl ?_
  refine z_iload_n dX11_becomes_23 rfl rfl ?_
  refine i_imul dX11_becomes_24 ?_
  refine z_iload_n dX11_becomes_25 rfl rfl ?_
  refine i_iadd dX11_becomes_26 ?_
  obtain ⟨x9, hx9⟩ : ∃ x : Int, x = ((4 * x1) + a2) := ⟨_, rfl⟩
  have hw := hw x9 hx9
  refine z_st (st' := [.int (Int32.ofInt x9)]) (by rw [hx9]) ?_
  refine z_istore dX11_becomes_27 (by decide) ?_
  refine z_loc (L' := [(0, .ref (G.1 + 54)), (1, .int (Int32.ofInt (a1))), (2, .int (Int32.ofInt (a2))), (3, .int (Int32.ofInt (x1))), (4, .int (Int32.ofInt (x6))), (5, .int (Int32.ofInt (x9)))]) (List.forall_mem_cons.mpr ⟨rfl, (List.forall_mem_cons.mpr ⟨rfl, (List.forall_mem_cons.mpr ⟨rfl, (List.forall_mem_cons.mpr ⟨rfl, (List.forall_mem_cons.mpr ⟨rfl, (List.forall_mem_cons.mpr ⟨rfl, (fun _ h => nomatch h)⟩)⟩)⟩)⟩)⟩)⟩) ?_
  refine z_iload dX11_becomes_29 rfl ?_
  refine z_iconst (v := Int32.ofInt 1) dX11_becomes_31 rfl ?_
  refine i_icmp_ne (tgt := 116) dX11_becomes_32 (by decide) q7 ⟨by decide, by decide⟩ (fun h10 => ?_) (fun h10 => ?_)
  · have hw := hw.1 h10
    refine z_aload_n dX11_becomes_116 rfl rfl ?_
    have q11 : iv 0 3000 (S.1 54 67) := mI67 hW
    have hw := hw q11
    refine g_getI hW hT.1 mr67 kX11 fX11_420 dX11_becomes_117 ?_
    refine i_if_le (tgt := 138) dX11_becomes_120 (by decide) (rngq q11 (by decide) (by decide)) (fun h12 => ?_) (fun h12 => ?_)
    · have hw := hw.1 h12
      refine z_loc (L' := [(0, .ref (G.1 + 54)), (5, .int (Int32.ofInt (x9)))]) (List.forall_mem_cons.mpr ⟨rfl, (List.forall_mem_cons.mpr ⟨rfl, (fun _ h => nomatch h)⟩)⟩) ?_
      exact bX11_becomes_138 hd hJ hT hW hP  hw
    · have hw := hw.2 h12
      refine z_aload_n dX11_becomes_123 rfl rfl ?_
      refine g_getR hW hT.1 mr68 kX11 fX11_162 dX11_becomes_124 ?_
      refine z_iconst (v := Int32.ofInt 0) dX11_becomes_127 rfl ?_
      obtain ⟨q13a, q13b, hw⟩ := hw
      have q14 : iv (-2147483648) 2147483647 (S.2 104 (0)) := mA104 hW _
      have hw := hw q14
      refine g_iald hW (ma104 hT) q13a q13b (by decide) dX11_becomes_128 ?_
      refine z_bipush (v := Int32.ofInt 45) dX11_becomes_129 (by decide) ?_
      refine i_icmp_ne (tgt := 138) dX11_becomes_131 (by decide) (rngq q14 (by decide) (by decide)) ⟨by decide, by decide⟩ (fun h15 => ?_) (fun h15 => ?_)
      · have hw := hw.1 h15
        refine z_loc (L' := [(0, .ref (G.1 + 54)), (5, .int (Int32.ofInt (x9)))]) (List.forall_mem_cons.mpr ⟨rfl, (List.forall_mem_cons.mpr ⟨rfl, (fun _ h => nomatch h)⟩)⟩) ?_
        exact bX11_becomes_138 hd hJ hT hW hP  hw
      · have hw := hw.2 h15
        refine z_iconst (v := Int32.ofInt 1) dX11_becomes_134 rfl ?_
        refine z_goto (tgt := 139) dX11_becomes_135 (by decide) ?_
        refine z_loc (L' := [(0, .ref (G.1 + 54)), (5, .int (Int32.ofInt (x9)))]) (List.forall_mem_cons.mpr ⟨rfl, (List.forall_mem_cons.mpr ⟨rfl, (fun _ h => nomatch h)⟩)⟩) ?_
        exact bX11_becomes_139 hd hJ hT hW hP  hw
  · have hw := hw.2 h10
    refine z_aload_n dX11_becomes_35 rfl rfl ?_
    have q16 : iv 0 3000 (S.1 54 67) := mI67 hW
    have hw := hw q16
    refine g_getI hW hT.1 mr67 kX11 fX11_420 dX11_becomes_36 ?_
    refine z_bipush (v := Int32.ofInt 20) dX11_becomes_39 (by decide) ?_
    refine i_icmp_le (tgt := 46) dX11_becomes_41 (by decide) (rngq q16 (by decide) (by decide)) ⟨by decide, by decide⟩ (fun h17 => ?_) (fun h17 => ?_)
    · have hw := hw.1 h17
      refine z_iconst (v := Int32.ofInt 0) dX11_becomes_46 rfl ?_
      refine z_istore dX11_becomes_47 (by decide) ?_
      refine z_loc (L' := [(0, .ref (G.1 + 54)), (1, .int (Int32.ofInt (a1))), (2, .int (Int32.ofInt (a2))), (3, .int (Int32.ofInt (x1))), (4, .int (Int32.ofInt (x6))), (5, .int (Int32.ofInt (x9))), (6, .int (Int32.ofInt (0)))]) (List.forall_mem_cons.mpr ⟨rfl, (List.forall_mem_cons.mpr ⟨rfl, (List.forall_mem_cons.mpr ⟨rfl, (List.forall_mem_cons.mpr ⟨rfl, (List.forall_mem_cons.mpr ⟨rfl, (List.forall_mem_cons.mpr ⟨rfl, (List.forall_mem_cons.mpr ⟨rfl, (fun _ h => nomatch h)⟩)⟩)⟩)⟩)⟩)⟩)⟩) ?_
      refine z_loc (L' := [(0, .ref (G.1 + 54)), (5, .int (Int32.ofInt (x9))), (6, .int (Int32.ofInt (0)))]) (List.forall_mem_cons.mpr ⟨rfl, (List.forall_mem_cons.mpr ⟨rfl, (List.forall_mem_cons.mpr ⟨rfl, (fun _ h => nomatch h)⟩)⟩)⟩) ?_
      exact bX11_becomes_49 hd hJ hT hW hP  hw
    · have hw := hw.2 h17
      refine z_iconst (v := Int32.ofInt 0) dX11_becomes_44 rfl ?_
      exact z_ireturn dX11_becomes_45 rfl (nar01 (by decide)) (hP _ _ _ hw hW)

def wX11_sameName_71 (l1 l2 l4 s0 : Int) (S : St) (K : Int → St → Prop) (B24 : Int → Int → Int → Int → St → Prop) : Prop := B24 (l1) (l2) (s0) ((l4 + 1)) S
set_option maxRecDepth 100000 in
set_option maxHeartbeats 4000000 in
theorem bX11_sameName_71 {G : xG} {sh : Nat → Option Sh} {J : St → List va_E → Prop} {d : Nat} {Post : xP} {l1 l2 l4 s0 : Int} {S : St} {cs : List va_E} {K : Int → St → Prop} {B24 : Int → Int → Int → Int → St → Prop} (hd : 0 ≤ d) (hJ : Stb sh J) (hT : isM sh) (hW : Wd G sh mT J S cs) (hP : ∀ (v : Int) (S : St) (cs : List va_E), K v S → Wd G sh mT J S cs → Post (some (.int (Int32.ofInt v))) cs) (hB24 : ∀ (l1 : Int) (l2 : Int) (l3 : Int) (l4 : Int) (S : St) (cs : List va_E), B24 l1 l2 l3 l4 S → Wd G sh mT J S cs → Z (RX11, cX11_sameName, 5, some .boolean, false) G d Post 24 [(0, .ref (G.1 + 54)), (1, .int (Int32.ofInt (l1))), (2, .int (Int32.ofInt (l2))), (3, .int (Int32.ofInt (l3))), (4, .int (Int32.ofInt (l4)))] [] cs) (hw : wX11_sameName_71 l1 l2 l4 s0 S K B24) : Z (RX11, cX11_sameName, 5, some .boolean, false) G d Post 71 [(0, .ref (G.1 + 54)), (1, .int (Int32.ofInt (l1))), (2, .int (Int32.ofInt (l2))), (4, .int (Int32.ofInt (l4)))] [.int (Int32.ofInt (s0))] cs := by
  unfold wX11_sameName_71 at hw
  refine z_istore_n dX11_sameName_71 rfl (by decide) ?_
  refine z_loc (L' := [(0, .ref (G.1 + 54)), (1, .int (Int32.ofInt (l1))), (2, .int (Int32.ofInt (l2))), (3, .int (Int32.ofInt (s0))), (4, .int (Int32.ofInt (l4)))]) (List.forall_mem_cons.mpr ⟨rfl, (List.forall_mem_cons.mpr ⟨rfl, (List.forall_mem_cons.mpr ⟨rfl, (List.forall_mem_cons.mpr ⟨rfl, (List.forall_mem_cons.mpr ⟨rfl, (fun _ h => nomatch h)⟩)⟩)⟩)⟩)⟩) ?_
  refine i_iinc (l := l4) dX11_sameName_72 rfl (by decide) ?_
  refine z_loc (L' := [(0, .ref (G.1 + 54)), (1, .int (Int32.ofInt (l1))), (2, .int (Int32.ofInt (l2))), (3, .int (Int32.ofInt (s0))), (4, .int (Int32.ofInt ((l4 + 1))))]) (List.forall_mem_cons.mpr ⟨rfl, (List.forall_mem_cons.mpr ⟨rfl, (List.forall_mem_cons.mpr ⟨rfl, (List.forall_mem_cons.mpr ⟨rfl, (List.forall_mem_cons.mpr ⟨rfl, (fun _ h => nomatch h)⟩)⟩)⟩)⟩)⟩) ?_
  refine z_goto (tgt := 24) dX11_sameName_75 (by decide) ?_
  refine z_loc (L' := [(0, .ref (G.1 + 54)), (1, .int (Int32.ofInt (l1))), (2, .int (Int32.ofInt (l2))), (3, .int (Int32.ofInt (s0))), (4, .int (Int32.ofInt ((l4 + 1))))]) (List.forall_mem_cons.mpr ⟨rfl, (List.forall_mem_cons.mpr ⟨rfl, (List.forall_mem_cons.mpr ⟨rfl, (List.forall_mem_cons.mpr ⟨rfl, (List.forall_mem_cons.mpr ⟨rfl, (fun _ h => nomatch h)⟩)⟩)⟩)⟩)⟩) ?_
  exact hB24 _ _ _ _ _ _ hw hW
def wX11_sameName_24' (l1 l2 l3 l4 : Int) (S : St) (K : Int → St → Prop) (B24 : Int → Int → Int → Int → St → Prop) : Prop := ((0 : Int) ≤ l1 ∧ l1 < (30 : Int) ∧ (iv 0 8 (S.2 57 (l1)) → (rng (l4) ∧ ((S.2 57 (l1) ≤ l4 → (iv 0 1 (l3) ∧ K (l3) S)) ∧ ((¬ (S.2 57 (l1) ≤ l4)) → (rng (l3) ∧ ((l3 = 0 → (iv 0 1 (l3) ∧ K (l3) S)) ∧ ((¬ (l3 = 0)) → ((0 : Int) ≤ ((8 * l1) + l4) ∧ ((8 * l1) + l4) < (240 : Int) ∧ (iv (-2147483648) 2147483647 (S.2 58 (((8 * l1) + l4))) → ((0 : Int) ≤ ((8 * l2) + l4) ∧ ((8 * l2) + l4) < (240 : Int) ∧ (iv (-2147483648) 2147483647 (S.2 58 (((8 * l2) + l4))) → ((¬ S.2 58 (((8 * l1) + l4)) = S.2 58 (((8 * l2) + l4)) → wX11_sameName_71 (l1) (l2) (l4) (0) S K B24) ∧ ((¬ (¬ S.2 58 (((8 * l1) + l4)) = S.2 58 (((8 * l2) + l4)))) → wX11_sameName_71 (l1) (l2) (l4) (1) S K B24))))))))))))))
set_option maxRecDepth 100000 in
set_option maxHeartbeats 4000000 in
theorem bX11_sameName_24' {G : xG} {sh : Nat → Option Sh} {J : St → List va_E → Prop} {d : Nat} {Post : xP} {l1 l2 l3 l4 : Int} {S : St} {cs : List va_E} {K : Int → St → Prop} {B24 : Int → Int → Int → Int → St → Prop} (hd : 0 ≤ d) (hJ : Stb sh J) (hT : isM sh) (hW : Wd G sh mT J S cs) (hP : ∀ (v : Int) (S : St) (cs : List va_E), K v S → Wd G sh mT J S cs → Post (some (.int (Int32.ofInt v))) cs) (hB24 : ∀ (l1 : Int) (l2 : Int) (l3 : Int) (l4 : Int) (S : St) (cs : List va_E), B24 l1 l2 l3 l4 S → Wd G sh mT J S cs → Z (RX11, cX11_sameName, 5, some .boolean, false) G d Post 24 [(0, .ref (G.1 + 54)), (1, .int (Int32.ofInt (l1))), (2, .int (Int32.ofInt (l2))), (3, .int (Int32.ofInt (l3))), (4, .int (Int32.ofInt (l4)))] [] cs) (hw : wX11_sameName_24' l1 l2 l3 l4 S K B24) : Z (RX11, cX11_sameName, 5, some .boolean, false) G d Post 24 [(0, .ref (G.1 + 54)), (1, .int (Int32.ofInt (l1))), (2, .int (Int32.ofInt (l2))), (3, .int (Int32.ofInt (l3))), (4, .int (Int32.ofInt (l4)))] [] cs := by
  unfold wX11_sameName_24' at hw
  refine z_iload dX11_sameName_24 rfl ?_
  refine z_aload_n dX11_sameName_26 rfl rfl ?_
  refine g_getR hW hT.1 mr4 kX11 fX11_16 dX11_sameName_27 ?_
  refine z_iload_n dX11_sameName_30 rfl rfl ?_
  obtain ⟨q1a, q1b, hw⟩ := hw
  have q2 : iv 0 8 (S.2 57 (l1)) := mA57 hW _
  have hw := hw q2
  refine g_iald hW (ma57 hT) q1a q1b (by decide) dX11_sameName_31 ?_
  obtain ⟨q4, hw⟩ := hw
  refine i_icmp_ge (tgt := 78) dX11_sameName_32 (by decide) q4 (rngq q2 (by decide) (by decide)) (fun h3 => ?_) (fun h3 => ?_)
  · have hw := hw.1 h3
    refine z_iload_n dX11_sameName_78 rfl rfl ?_
    obtain ⟨q5, hw⟩ := hw
    exact z_ireturn dX11_sameName_79 rfl (nar01 (b01 q5)) (hP _ _ _ hw hW)
  · have hw := hw.2 h3
    refine z_iload_n dX11_sameName_35 rfl rfl ?_
    obtain ⟨q7, hw⟩ := hw
    refine i_if_eq (tgt := 78) dX11_sameName_36 (by decide) q7 (fun h6 => ?_) (fun h6 => ?_)
    · have hw := hw.1 h6
      refine z_iload_n dX11_sameName_78 rfl rfl ?_
      obtain ⟨q8, hw⟩ := hw
      exact z_ireturn dX11_sameName_79 rfl (nar01 (b01 q8)) (hP _ _ _ hw hW)
    · have hw := hw.2 h6
      refine z_aload_n dX11_sameName_39 rfl rfl ?_
      refine g_getR hW hT.1 mr5 kX11 fX11_19 dX11_sameName_40 ?_
      refine z_bipush (v := Int32.ofInt 8) dX11_sameName_43 (by decide) ?_
      refine z_iload_n dX11_sameName_45 rfl rfl ?_
      refine i_imul dX11_sameName_46 ?_
      refine z_iload dX11_sameName_47 rfl ?_
      refine i_iadd dX11_sameName_49 ?_
      obtain ⟨q9a, q9b, hw⟩ := hw
      have q10 : iv (-2147483648) 2147483647 (S.2 58 (((8 * l1) + l4))) := mA58 hW _
      have hw := hw q10
      refine g_iald hW (ma58 hT) q9a q9b (by decide) dX11_sameName_50 ?_
      refine z_aload_n dX11_sameName_51 rfl rfl ?_
      refine g_getR hW hT.1 mr5 kX11 fX11_19 dX11_sameName_52 ?_
      refine z_bipush (v := Int32.ofInt 8) dX11_sameName_55 (by decide) ?_
      refine z_iload_n dX11_sameName_57 rfl rfl ?_
      refine i_imul dX11_sameName_58 ?_
      refine z_iload dX11_sameName_59 rfl ?_
      refine i_iadd dX11_sameName_61 ?_
      obtain ⟨q11a, q11b, hw⟩ := hw
      have q12 : iv (-2147483648) 2147483647 (S.2 58 (((8 * l2) + l4))) := mA58 hW _
      have hw := hw q12
      refine g_iald hW (ma58 hT) q11a q11b (by decide) dX11_sameName_62 ?_
      refine i_icmp_ne (tgt := 70) dX11_sameName_63 (by decide) (rngq q10 (by decide) (by decide)) (rngq q12 (by decide) (by decide)) (fun h13 => ?_) (fun h13 => ?_)
      · have hw := hw.1 h13
        refine z_iconst (v := Int32.ofInt 0) dX11_sameName_70 rfl ?_
        refine z_loc (L' := [(0, .ref (G.1 + 54)), (1, .int (Int32.ofInt (l1))), (2, .int (Int32.ofInt (l2))), (4, .int (Int32.ofInt (l4)))]) (List.forall_mem_cons.mpr ⟨rfl, (List.forall_mem_cons.mpr ⟨rfl, (List.forall_mem_cons.mpr ⟨rfl, (List.forall_mem_cons.mpr ⟨rfl, (fun _ h => nomatch h)⟩)⟩)⟩)⟩) ?_
        exact bX11_sameName_71 hd hJ hT hW hP hB24 hw
      · have hw := hw.2 h13
        refine z_iconst (v := Int32.ofInt 1) dX11_sameName_66 rfl ?_
        refine z_goto (tgt := 71) dX11_sameName_67 (by decide) ?_
        refine z_loc (L' := [(0, .ref (G.1 + 54)), (1, .int (Int32.ofInt (l1))), (2, .int (Int32.ofInt (l2))), (4, .int (Int32.ofInt (l4)))]) (List.forall_mem_cons.mpr ⟨rfl, (List.forall_mem_cons.mpr ⟨rfl, (List.forall_mem_cons.mpr ⟨rfl, (List.forall_mem_cons.mpr ⟨rfl, (fun _ h => nomatch h)⟩)⟩)⟩)⟩) ?_
        exact bX11_sameName_71 hd hJ hT hW hP hB24 hw
def wX11_sameName_24 (l1 l2 l3 l4 : Int) (S : St) (K : Int → St → Prop) : Prop := ∃ (Iv : Int → Int → Int → Int → St → Prop) (mu : Int → Int → Int → Int → St → Nat), Iv l1 l2 l3 l4 S ∧ ∀ (l1 l2 l3 l4 : Int) (S : St), Iv l1 l2 l3 l4 S → wX11_sameName_24' l1 l2 l3 l4 S K  (fun ml1 ml2 ml3 ml4 T => Iv ml1 ml2 ml3 ml4 T ∧ mu ml1 ml2 ml3 ml4 T < mu l1 l2 l3 l4 S)
set_option maxRecDepth 100000 in
set_option maxHeartbeats 4000000 in
theorem bX11_sameName_24 {G : xG} {sh : Nat → Option Sh} {J : St → List va_E → Prop} {d : Nat} {Post : xP} {l1 l2 l3 l4 : Int} {S : St} {cs : List va_E} {K : Int → St → Prop} (hd : 0 ≤ d) (hJ : Stb sh J) (hT : isM sh) (hW : Wd G sh mT J S cs) (hP : ∀ (v : Int) (S : St) (cs : List va_E), K v S → Wd G sh mT J S cs → Post (some (.int (Int32.ofInt v))) cs)  (hw : wX11_sameName_24 l1 l2 l3 l4 S K ) : Z (RX11, cX11_sameName, 5, some .boolean, false) G d Post 24 [(0, .ref (G.1 + 54)), (1, .int (Int32.ofInt (l1))), (2, .int (Int32.ofInt (l2))), (3, .int (Int32.ofInt (l3))), (4, .int (Int32.ofInt (l4)))] [] cs := by
  unfold wX11_sameName_24 at hw
  obtain ⟨Iv, mu, h0, hs⟩ := hw
  have key : ∀ (n : Nat) (l1 l2 l3 l4 : Int) (S : St) (cs : List va_E), mu l1 l2 l3 l4 S < n → Iv l1 l2 l3 l4 S → Wd G sh mT J S cs → Z (RX11, cX11_sameName, 5, some .boolean, false) G d Post 24 [(0, .ref (G.1 + 54)), (1, .int (Int32.ofInt (l1))), (2, .int (Int32.ofInt (l2))), (3, .int (Int32.ofInt (l3))), (4, .int (Int32.ofInt (l4)))] [] cs := by
    intro n
    induction n with
    | zero => intro l1 l2 l3 l4 S cs hn; exact absurd hn (Nat.not_lt_zero _)
    | succ n ih =>
      intro l1 l2 l3 l4 S cs hn hI hW
      exact bX11_sameName_24' hd hJ hT hW hP  (fun l1 l2 l3 l4 S cs hb hW => ih l1 l2 l3 l4 S cs (Nat.lt_of_lt_of_le hb.2 (Nat.le_of_lt_succ hn)) hb.1 hW) (hs l1 l2 l3 l4 S hI)
  exact key _ _ _ _ _ _ _ (Nat.lt_succ_self _) h0 hW
def wX11_sameName_20 (l1 l2 s0 : Int) (S : St) (K : Int → St → Prop) : Prop := wX11_sameName_24 (l1) (l2) (s0) (0) S K
set_option maxRecDepth 100000 in
set_option maxHeartbeats 4000000 in
theorem bX11_sameName_20 {G : xG} {sh : Nat → Option Sh} {J : St → List va_E → Prop} {d : Nat} {Post : xP} {l1 l2 s0 : Int} {S : St} {cs : List va_E} {K : Int → St → Prop} (hd : 0 ≤ d) (hJ : Stb sh J) (hT : isM sh) (hW : Wd G sh mT J S cs) (hP : ∀ (v : Int) (S : St) (cs : List va_E), K v S → Wd G sh mT J S cs → Post (some (.int (Int32.ofInt v))) cs)  (hw : wX11_sameName_20 l1 l2 s0 S K ) : Z (RX11, cX11_sameName, 5, some .boolean, false) G d Post 20 [(0, .ref (G.1 + 54)), (1, .int (Int32.ofInt (l1))), (2, .int (Int32.ofInt (l2)))] [.int (Int32.ofInt (s0))] cs := by
  unfold wX11_sameName_20 at hw
  refine z_istore_n dX11_sameName_20 rfl (by decide) ?_
  refine z_loc (L' := [(0, .ref (G.1 + 54)), (1, .int (Int32.ofInt (l1))), (2, .int (Int32.ofInt (l2))), (3, .int (Int32.ofInt (s0)))]) (List.forall_mem_cons.mpr ⟨rfl, (List.forall_mem_cons.mpr ⟨rfl, (List.forall_mem_cons.mpr ⟨rfl, (List.forall_mem_cons.mpr ⟨rfl, (fun _ h => nomatch h)⟩)⟩)⟩)⟩) ?_
  refine z_iconst (v := Int32.ofInt 0) dX11_sameName_21 rfl ?_
  refine z_istore dX11_sameName_22 (by decide) ?_
  refine z_loc (L' := [(0, .ref (G.1 + 54)), (1, .int (Int32.ofInt (l1))), (2, .int (Int32.ofInt (l2))), (3, .int (Int32.ofInt (s0))), (4, .int (Int32.ofInt (0)))]) (List.forall_mem_cons.mpr ⟨rfl, (List.forall_mem_cons.mpr ⟨rfl, (List.forall_mem_cons.mpr ⟨rfl, (List.forall_mem_cons.mpr ⟨rfl, (List.forall_mem_cons.mpr ⟨rfl, (fun _ h => nomatch h)⟩)⟩)⟩)⟩)⟩) ?_
  refine z_loc (L' := [(0, .ref (G.1 + 54)), (1, .int (Int32.ofInt (l1))), (2, .int (Int32.ofInt (l2))), (3, .int (Int32.ofInt (s0))), (4, .int (Int32.ofInt (0)))]) (List.forall_mem_cons.mpr ⟨rfl, (List.forall_mem_cons.mpr ⟨rfl, (List.forall_mem_cons.mpr ⟨rfl, (List.forall_mem_cons.mpr ⟨rfl, (List.forall_mem_cons.mpr ⟨rfl, (fun _ h => nomatch h)⟩)⟩)⟩)⟩)⟩) ?_
  exact bX11_sameName_24 hd hJ hT hW hP  hw
def wX11_sameName (a1 a2 : Int) (S : St) (K : Int → St → Prop) : Prop := rng a1 → rng a2 → ((0 : Int) ≤ a1 ∧ a1 < (30 : Int) ∧ (iv 0 8 (S.2 57 (a1)) → ((0 : Int) ≤ a2 ∧ a2 < (30 : Int) ∧ (iv 0 8 (S.2 57 (a2)) → ((¬ S.2 57 (a1) = S.2 57 (a2) → wX11_sameName_20 (a1) (a2) (0) S K) ∧ ((¬ (¬ S.2 57 (a1) = S.2 57 (a2))) → wX11_sameName_20 (a1) (a2) (1) S K))))))
set_option maxRecDepth 100000 in
set_option maxHeartbeats 4000000 in
theorem lX11_sameName {G : xG} {sh : Nat → Option Sh} {J : St → List va_E → Prop} {a1 a2 : Int} {S : St} {cs : List va_E} {K : Int → St → Prop} (d : Nat) (hd : 0 ≤ d) (hJ : Stb sh J) (hT : isM sh) (hW : Wd G sh mT J S cs) (g1 : rng a1) (g2 : rng a2) (hw : wX11_sameName a1 a2 S K) : X G yX11_sameName cX11_sameName 5 (some .boolean) d [.ref (G.1 + 54), .int (Int32.ofInt a1), .int (Int32.ofInt a2)] cs (qI G sh mT J K) := by
  refine X.of false (by decide +kernel) (by decide) (Nat.le_of_ble_eq_true rfl) ?_
  show Z (RX11, cX11_sameName, 5, some .boolean, false) G d _ 0 [(0, .ref (G.1 + 54)), (1, .int (Int32.ofInt a1)), (2, .int (Int32.ofInt a2))] [] cs
  have hP : ∀ (v : Int) (S : St) (cs : List va_E), K v S → Wd G sh mT J S cs → qI G sh mT J K (some (.int (Int32.ofInt v))) cs := fun v S cs a b => ⟨v, S, rfl, a, b⟩
  unfold wX11_sameName at hw
  have hw := hw g1 g2
  refine z_aload_n dX11_sameName_0 rfl rfl ?_
  refine g_getR hW hT.1 mr4 kX11 fX11_16 dX11_sameName_1 ?_
  refine z_iload_n dX11_sameName_4 rfl rfl ?_
  obtain ⟨q1a, q1b, hw⟩ := hw
  have q2 : iv 0 8 (S.2 57 (a1)) := mA57 hW _
  have hw := hw q2
  refine g_iald hW (ma57 hT) q1a q1b (by decide) dX11_sameName_5 ?_
  refine z_aload_n dX11_sameName_6 rfl rfl ?_
  refine g_getR hW hT.1 mr4 kX11 fX11_16 dX11_sameName_7 ?_
  refine z_iload_n dX11_sameName_10 rfl rfl ?_
  obtain ⟨q3a, q3b, hw⟩ := hw
  have q4 : iv 0 8 (S.2 57 (a2)) := mA57 hW _
  have hw := hw q4
  refine g_iald hW (ma57 hT) q3a q3b (by decide) dX11_sameName_11 ?_
  refine i_icmp_ne (tgt := 19) dX11_sameName_12 (by decide) (rngq q2 (by decide) (by decide)) (rngq q4 (by decide) (by decide)) (fun h5 => ?_) (fun h5 => ?_)
  · have hw := hw.1 h5
    refine z_iconst (v := Int32.ofInt 0) dX11_sameName_19 rfl ?_
    refine z_loc (L' := [(0, .ref (G.1 + 54)), (1, .int (Int32.ofInt (a1))), (2, .int (Int32.ofInt (a2)))]) (List.forall_mem_cons.mpr ⟨rfl, (List.forall_mem_cons.mpr ⟨rfl, (List.forall_mem_cons.mpr ⟨rfl, (fun _ h => nomatch h)⟩)⟩)⟩) ?_
    exact bX11_sameName_20 hd hJ hT hW hP  hw
  · have hw := hw.2 h5
    refine z_iconst (v := Int32.ofInt 1) dX11_sameName_15 rfl ?_
    refine z_goto (tgt := 20) dX11_sameName_16 (by decide) ?_
    refine z_loc (L' := [(0, .ref (G.1 + 54)), (1, .int (Int32.ofInt (a1))), (2, .int (Int32.ofInt (a2)))]) (List.forall_mem_cons.mpr ⟨rfl, (List.forall_mem_cons.mpr ⟨rfl, (List.forall_mem_cons.mpr ⟨rfl, (fun _ h => nomatch h)⟩)⟩)⟩) ?_
    exact bX11_sameName_20 hd hJ hT hW hP  hw

