def wX11_areSame_225 (l1 l2 l3 l4 l5 : Int) (S : St) (K : Int → St → Prop) (B28 : Int → Int → Int → Int → Int → St → Prop) : Prop := B28 (l1) (l2) (l3) (l4) ((l5 + 1)) S
set_option maxRecDepth 100000 in
set_option maxHeartbeats 4000000 in
theorem bX11_areSame_225 {G : xG} {sh : Nat → Option Sh} {J : St → List va_E → Prop} {d : Nat} {Post : xP} {l1 l2 l3 l4 l5 : Int} {S : St} {cs : List va_E} {K : Int → St → Prop} {B28 : Int → Int → Int → Int → Int → St → Prop} (hd : 1 ≤ d) (hJ : Stb sh J) (hT : isM sh) (hW : Wd G sh mT J S cs) (hP : ∀ (v : Int) (S : St) (cs : List va_E), K v S → Wd G sh mT J S cs → Post (some (.int (Int32.ofInt v))) cs) (hB28 : ∀ (l1 : Int) (l2 : Int) (l3 : Int) (l4 : Int) (l5 : Int) (S : St) (cs : List va_E), B28 l1 l2 l3 l4 l5 S → Wd G sh mT J S cs → Z (RX11, cX11_areSame, 12, some .boolean, false) G d Post 28 [(0, .ref (G.1 + 54)), (1, .int (Int32.ofInt (l1))), (2, .int (Int32.ofInt (l2))), (3, .int (Int32.ofInt (l3))), (4, .int (Int32.ofInt (l4))), (5, .int (Int32.ofInt (l5)))] [] cs) (hw : wX11_areSame_225 l1 l2 l3 l4 l5 S K B28) : Z (RX11, cX11_areSame, 12, some .boolean, false) G d Post 225 [(0, .ref (G.1 + 54)), (1, .int (Int32.ofInt (l1))), (2, .int (Int32.ofInt (l2))), (3, .int (Int32.ofInt (l3))), (4, .int (Int32.ofInt (l4))), (5, .int (Int32.ofInt (l5)))] [] cs := by
  unfold wX11_areSame_225 at hw
  refine i_iinc (l := l5) dX11_areSame_225 rfl (by decide) ?_
  refine z_loc (L' := [(0, .ref (G.1 + 54)), (1, .int (Int32.ofInt (l1))), (2, .int (Int32.ofInt (l2))), (3, .int (Int32.ofInt (l3))), (4, .int (Int32.ofInt (l4))), (5, .int (Int32.ofInt ((l5 + 1))))]) (List.forall_mem_cons.mpr ⟨rfl, (List.forall_mem_cons.mpr ⟨rfl, (List.forall_mem_cons.mpr ⟨rfl, (List.forall_mem_cons.mpr ⟨rfl, (List.forall_mem_cons.mpr ⟨rfl, (List.forall_mem_cons.mpr ⟨rfl, (fun _ h => nomatch h)⟩)⟩)⟩)⟩)⟩)⟩) ?_
  refine z_goto (tgt := 28) dX11_areSame_228 (by decide) ?_
  refine z_loc (L' := [(0, .ref (G.1 + 54)), (1, .int (Int32.ofInt (l1))), (2, .int (Int32.ofInt (l2))), (3, .int (Int32.ofInt (l3))), (4, .int (Int32.ofInt (l4))), (5, .int (Int32.ofInt ((l5 + 1))))]) (List.forall_mem_cons.mpr ⟨rfl, (List.forall_mem_cons.mpr ⟨rfl, (List.forall_mem_cons.mpr ⟨rfl, (List.forall_mem_cons.mpr ⟨rfl, (List.forall_mem_cons.mpr ⟨rfl, (List.forall_mem_cons.mpr ⟨rfl, (fun _ h => nomatch h)⟩)⟩)⟩)⟩)⟩)⟩) ?_
  exact hB28 _ _ _ _ _ _ _ hw hW
def wX11_areSame_217 (l1 l2 l3 l5 l6 l7 l8 l9 s0 : Int) (S : St) (K : Int → St → Prop) (B28 : Int → Int → Int → Int → Int → St → Prop) (B130 : Int → Int → Int → Int → Int → Int → Int → Int → Int → St → Prop) : Prop := B130 (l1) (l2) (l3) (s0) (l5) (l6) (l7) (l8) ((l9 + 1)) S
set_option maxRecDepth 100000 in
set_option maxHeartbeats 4000000 in
theorem bX11_areSame_217 {G : xG} {sh : Nat → Option Sh} {J : St → List va_E → Prop} {d : Nat} {Post : xP} {l1 l2 l3 l5 l6 l7 l8 l9 s0 : Int} {S : St} {cs : List va_E} {K : Int → St → Prop} {B28 : Int → Int → Int → Int → Int → St → Prop} {B130 : Int → Int → Int → Int → Int → Int → Int → Int → Int → St → Prop} (hd : 1 ≤ d) (hJ : Stb sh J) (hT : isM sh) (hW : Wd G sh mT J S cs) (hP : ∀ (v : Int) (S : St) (cs : List va_E), K v S → Wd G sh mT J S cs → Post (some (.int (Int32.ofInt v))) cs) (hB28 : ∀ (l1 : Int) (l2 : Int) (l3 : Int) (l4 : Int) (l5 : Int) (S : St) (cs : List va_E), B28 l1 l2 l3 l4 l5 S → Wd G sh mT J S cs → Z (RX11, cX11_areSame, 12, some .boolean, false) G d Post 28 [(0, .ref (G.1 + 54)), (1, .int (Int32.ofInt (l1))), (2, .int (Int32.ofInt (l2))), (3, .int (Int32.ofInt (l3))), (4, .int (Int32.ofInt (l4))), (5, .int (Int32.ofInt (l5)))] [] cs) (hB130 : ∀ (l1 : Int) (l2 : Int) (l3 : Int) (l4 : Int) (l5 : Int) (l6 : Int) (l7 : Int) (l8 : Int) (l9 : Int) (S : St) (cs : List va_E), B130 l1 l2 l3 l4 l5 l6 l7 l8 l9 S → Wd G sh mT J S cs → Z (RX11, cX11_areSame, 12, some .boolean, false) G d Post 130 [(0, .ref (G.1 + 54)), (1, .int (Int32.ofInt (l1))), (2, .int (Int32.ofInt (l2))), (3, .int (Int32.ofInt (l3))), (4, .int (Int32.ofInt (l4))), (5, .int (Int32.ofInt (l5))), (6, .int (Int32.ofInt (l6))), (7, .int (Int32.ofInt (l7))), (8, .int (Int32.ofInt (l8))), (9, .int (Int32.ofInt (l9)))] [] cs) (hw : wX11_areSame_217 l1 l2 l3 l5 l6 l7 l8 l9 s0 S K B28 B130) : Z (RX11, cX11_areSame, 12, some .boolean, false) G d Post 217 [(0, .ref (G.1 + 54)), (1, .int (Int32.ofInt (l1))), (2, .int (Int32.ofInt (l2))), (3, .int (Int32.ofInt (l3))), (5, .int (Int32.ofInt (l5))), (6, .int (Int32.ofInt (l6))), (7, .int (Int32.ofInt (l7))), (8, .int (Int32.ofInt (l8))), (9, .int (Int32.ofInt (l9)))] [.int (Int32.ofInt (s0))] cs := by
  unfold wX11_areSame_217 at hw
  refine z_istore dX11_areSame_217 (by decide) ?_
  refine z_loc (L' := [(0, .ref (G.1 + 54)), (1, .int (Int32.ofInt (l1))), (2, .int (Int32.ofInt (l2))), (3, .int (Int32.ofInt (l3))), (4, .int (Int32.ofInt (s0))), (5, .int (Int32.ofInt (l5))), (6, .int (Int32.ofInt (l6))), (7, .int (Int32.ofInt (l7))), (8, .int (Int32.ofInt (l8))), (9, .int (Int32.ofInt (l9)))]) (List.forall_mem_cons.mpr ⟨rfl, (List.forall_mem_cons.mpr ⟨rfl, (List.forall_mem_cons.mpr ⟨rfl, (List.forall_mem_cons.mpr ⟨rfl, (List.forall_mem_cons.mpr ⟨rfl, (List.forall_mem_cons.mpr ⟨rfl, (List.forall_mem_cons.mpr ⟨rfl, (List.forall_mem_cons.mpr ⟨rfl, (List.forall_mem_cons.mpr ⟨rfl, (List.forall_mem_cons.mpr ⟨rfl, (fun _ h => nomatch h)⟩)⟩)⟩)⟩)⟩)⟩)⟩)⟩)⟩)⟩) ?_
  refine i_iinc (l := l9) dX11_areSame_219 rfl (by decide) ?_
  refine z_loc (L' := [(0, .ref (G.1 + 54)), (1, .int (Int32.ofInt (l1))), (2, .int (Int32.ofInt (l2))), (3, .int (Int32.ofInt (l3))), (4, .int (Int32.ofInt (s0))), (5, .int (Int32.ofInt (l5))), (6, .int (Int32.ofInt (l6))), (7, .int (Int32.ofInt (l7))), (8, .int (Int32.ofInt (l8))), (9, .int (Int32.ofInt ((l9 + 1))))]) (List.forall_mem_cons.mpr ⟨rfl, (List.forall_mem_cons.mpr ⟨rfl, (List.forall_mem_cons.mpr ⟨rfl, (List.forall_mem_cons.mpr ⟨rfl, (List.forall_mem_cons.mpr ⟨rfl, (List.forall_mem_cons.mpr ⟨rfl, (List.forall_mem_cons.mpr ⟨rfl, (List.forall_mem_cons.mpr ⟨rfl, (List.forall_mem_cons.mpr ⟨rfl, (List.forall_mem_cons.mpr ⟨rfl, (fun _ h => nomatch h)⟩)⟩)⟩)⟩)⟩)⟩)⟩)⟩)⟩)⟩) ?_
  refine z_goto (tgt := 130) dX11_areSame_222 (by decide) ?_
  refine z_loc (L' := [(0, .ref (G.1 + 54)), (1, .int (Int32.ofInt (l1))), (2, .int (Int32.ofInt (l2))), (3, .int (Int32.ofInt (l3))), (4, .int (Int32.ofInt (s0))), (5, .int (Int32.ofInt (l5))), (6, .int (Int32.ofInt (l6))), (7, .int (Int32.ofInt (l7))), (8, .int (Int32.ofInt (l8))), (9, .int (Int32.ofInt ((l9 + 1))))]) (List.forall_mem_cons.mpr ⟨rfl, (List.forall_mem_cons.mpr ⟨rfl, (List.forall_mem_cons.mpr ⟨rfl, (List.forall_mem_cons.mpr ⟨rfl, (List.forall_mem_cons.mpr ⟨rfl, (List.forall_mem_cons.mpr ⟨rfl, (List.forall_mem_cons.mpr ⟨rfl, (List.forall_mem_cons.mpr ⟨rfl, (List.forall_mem_cons.mpr ⟨rfl, (List.forall_mem_cons.mpr ⟨rfl, (fun _ h => nomatch h)⟩)⟩)⟩)⟩)⟩)⟩)⟩)⟩)⟩)⟩) ?_
  exact hB130 _ _ _ _ _ _ _ _ _ _ _ hw hW
def wX11_areSame_130' (l1 l2 l3 l4 l5 l6 l7 l8 l9 : Int) (S : St) (K : Int → St → Prop) (B28 : Int → Int → Int → Int → Int → St → Prop) (B130 : Int → Int → Int → Int → Int → Int → Int → Int → Int → St → Prop) : Prop := (rng (l8) ∧ ((l8 = 0 → wX11_areSame_225 (l1) (l2) (l3) (l4) (l5) S K B28) ∧ ((¬ (l8 = 0)) → ((l8 = 2 → wX11_areSame_225 (l1) (l2) (l3) (l4) (l5) S K B28) ∧ ((¬ (l8 = 2)) → ((0 : Int) ≤ l6 ∧ l6 < (360 : Int) ∧ (iv (-2147483648) 2147483647 (S.2 69 (l6)) → (rng (l9) ∧ ((S.2 69 (l6) ≤ l9 → wX11_areSame_225 (l1) (l2) (l3) (l4) (l5) S K B28) ∧ ((¬ (S.2 69 (l6) ≤ l9)) → (rng (l4) ∧ ((l4 = 0 → wX11_areSame_225 (l1) (l2) (l3) (l4) (l5) S K B28) ∧ ((¬ (l4 = 0)) → ((0 : Int) ≤ ((20 * l6) + l9) ∧ ((20 * l6) + l9) < (7200 : Int) ∧ (iv (-2147483648) 2147483647 (S.2 70 (((20 * l6) + l9))) → (∀ x12 : Int, x12 = S.2 70 (((20 * l6) + l9)) → ((0 : Int) ≤ ((20 * l7) + l9) ∧ ((20 * l7) + l9) < (7200 : Int) ∧ (iv (-2147483648) 2147483647 (S.2 70 (((20 * l7) + l9))) → (∀ x17 : Int, x17 = S.2 70 (((20 * l7) + l9)) → ((¬ l8 = 1 → (wX11_pair (x12) (x17) S (fun r21 S22 => wX11_areSame_217 (l1) (l2) (l3) (l5) (l6) (l7) (l8) (l9) (r21) S22 K B28 B130))) ∧ ((¬ (¬ l8 = 1)) → ((¬ x12 = x17 → wX11_areSame_217 (l1) (l2) (l3) (l5) (l6) (l7) (l8) (l9) (0) S K B28 B130) ∧ ((¬ (¬ x12 = x17)) → wX11_areSame_217 (l1) (l2) (l3) (l5) (l6) (l7) (l8) (l9) (1) S K B28 B130)))))))))))))))))))))))
set_option maxRecDepth 100000 in
set_option maxHeartbeats 4000000 in
theorem bX11_areSame_130' {G : xG} {sh : Nat → Option Sh} {J : St → List va_E → Prop} {d : Nat} {Post : xP} {l1 l2 l3 l4 l5 l6 l7 l8 l9 : Int} {S : St} {cs : List va_E} {K : Int → St → Prop} {B28 : Int → Int → Int → Int → Int → St → Prop} {B130 : Int → Int → Int → Int → Int → Int → Int → Int → Int → St → Prop} (hd : 1 ≤ d) (hJ : Stb sh J) (hT : isM sh) (hW : Wd G sh mT J S cs) (hP : ∀ (v : Int) (S : St) (cs : List va_E), K v S → Wd G sh mT J S cs → Post (some (.int (Int32.ofInt v))) cs) (hB28 : ∀ (l1 : Int) (l2 : Int) (l3 : Int) (l4 : Int) (l5 : Int) (S : St) (cs : List va_E), B28 l1 l2 l3 l4 l5 S → Wd G sh mT J S cs → Z (RX11, cX11_areSame, 12, some .boolean, false) G d Post 28 [(0, .ref (G.1 + 54)), (1, .int (Int32.ofInt (l1))), (2, .int (Int32.ofInt (l2))), (3, .int (Int32.ofInt (l3))), (4, .int (Int32.ofInt (l4))), (5, .int (Int32.ofInt (l5)))] [] cs) (hB130 : ∀ (l1 : Int) (l2 : Int) (l3 : Int) (l4 : Int) (l5 : Int) (l6 : Int) (l7 : Int) (l8 : Int) (l9 : Int) (S : St) (cs : List va_E), B130 l1 l2 l3 l4 l5 l6 l7 l8 l9 S → Wd G sh mT J S cs → Z (RX11, cX11_areSame, 12, some .boolean, false) G d Post 130 [(0, .ref (G.1 + 54)), (1, .int (Int32.ofInt (l1))), (2, .int (Int32.ofInt (l2))), (3, .int (Int32.ofInt (l3))), (4, .int (Int32.ofInt (l4))), (5, .int (Int32.ofInt (l5))), (6, .int (Int32.ofInt (l6))), (7, .int (Int32.ofInt (l7))), (8, .int (Int32.ofInt (l8))), (9, .int (Int32.ofInt (l9)))] [] cs) (hw : wX11_areSame_130' l1 l2 l3 l4 l5 l6 l7 l8 l9 S K B28 B130) : Z (RX11, cX11_areSame, 12, some .boolean, false) G d Post 130 [(0, .ref (G.1 + 54)), (1, .int (Int32.ofInt (l1))), (2, .int (Int32.ofInt (l2))), (3, .int (Int32.ofInt (l3))), (4, .int (Int32.ofInt (l4))), (5, .int (Int32.ofInt (l5))), (6, .int (Int32.ofInt (l6))), (7, .int (Int32.ofInt (l7))), (8, .int (Int32.ofInt (l8))), (9, .int (Int32.ofInt (l9)))] [] cs := by
  unfold wX11_areSame_130' at hw
  refine z_iload dX11_areSame_130 rfl ?_
  obtain ⟨q2, hw⟩ := hw
  refine i_if_eq (tgt := 225) dX11_areSame_132 (by decide) q2 (fun h1 => ?_) (fun h1 => ?_)
  · have hw := hw.1 h1
    refine z_loc (L' := [(0, .ref (G.1 + 54)), (1, .int (Int32.ofInt (l1))), (2, .int (Int32.ofInt (l2))), (3, .int (Int32.ofInt (l3))), (4, .int (Int32.ofInt (l4))), (5, .int (Int32.ofInt (l5)))]) (List.forall_mem_cons.mpr ⟨rfl, (List.forall_mem_cons.mpr ⟨rfl, (List.forall_mem_cons.mpr ⟨rfl, (List.forall_mem_cons.mpr ⟨rfl, (List.forall_mem_cons.mpr ⟨rfl, (List.forall_mem_cons.mpr ⟨rfl, (fun _ h => nomatch h)⟩)⟩)⟩)⟩)⟩)⟩) ?_
    exact bX11_areSame_225 hd hJ hT hW hP hB28 hw
  · have hw := hw.2 h1
    refine z_iload dX11_areSame_135 rfl ?_
    refine z_iconst (v := Int32.ofInt 2) dX11_areSame_137 rfl ?_
    refine i_icmp_eq (tgt := 225) dX11_areSame_138 (by decide) q2 ⟨by decide, by decide⟩ (fun h3 => ?_) (fun h3 => ?_)
    · have hw := hw.1 h3
      refine z_loc (L' := [(0, .ref (G.1 + 54)), (1, .int (Int32.ofInt (l1))), (2, .int (Int32.ofInt (l2))), (3, .int (Int32.ofInt (l3))), (4, .int (Int32.ofInt (l4))), (5, .int (Int32.ofInt (l5)))]) (List.forall_mem_cons.mpr ⟨rfl, (List.forall_mem_cons.mpr ⟨rfl, (List.forall_mem_cons.mpr ⟨rfl, (List.forall_mem_cons.mpr ⟨rfl, (List.forall_mem_cons.mpr ⟨rfl, (List.forall_mem_cons.mpr ⟨rfl, (fun _ h => nomatch h)⟩)⟩)⟩)⟩)⟩)⟩) ?_
      exact bX11_areSame_225 hd hJ hT hW hP hB28 hw
    · have hw := hw.2 h3
      refine z_iload dX11_areSame_141 rfl ?_
      refine z_aload_n dX11_areSame_143 rfl rfl ?_
      refine g_getR hW hT.1 mr16 kX11 fX11_53 dX11_areSame_144 ?_
      refine z_iload dX11_areSame_147 rfl ?_
      obtain ⟨q4a, q4b, hw⟩ := hw
      have q5 : iv (-2147483648) 2147483647 (S.2 69 (l6)) := mA69 hW _
      have hw := hw q5
      refine g_iald hW (ma69 hT) q4a q4b (by decide) dX11_areSame_149 ?_
      obtain ⟨q7, hw⟩ := hw
      refine i_icmp_ge (tgt := 225) dX11_areSame_150 (by decide) q7 (rngq q5 (by decide) (by decide)) (fun h6 => ?_) (fun h6 => ?_)
      · have hw := hw.1 h6
        refine z_loc (L' := [(0, .ref (G.1 + 54)), (1, .int (Int32.ofInt (l1))), (2, .int (Int32.ofInt (l2))), (3, .int (Int32.ofInt (l3))), (4, .int (Int32.ofInt (l4))), (5, .int (Int32.ofInt (l5)))]) (List.forall_mem_cons.mpr ⟨rfl, (List.forall_mem_cons.mpr ⟨rfl, (List.forall_mem_cons.mpr ⟨rfl, (List.forall_mem_cons.mpr ⟨rfl, (List.forall_mem_cons.mpr ⟨rfl, (List.forall_mem_cons.mpr ⟨rfl, (fun _ h => nomatch h)⟩)⟩)⟩)⟩)⟩)⟩) ?_
        exact bX11_areSame_225 hd hJ hT hW hP hB28 hw
      · have hw := hw.2 h6
        refine z_iload dX11_areSame_153 rfl ?_
        obtain ⟨q9, hw⟩ := hw
        refine i_if_eq (tgt := 225) dX11_areSame_155 (by decide) q9 (fun h8 => ?_) (fun h8 => ?_)
        · have hw := hw.1 h8
          refine z_loc (L' := [(0, .ref (G.1 + 54)), (1, .int (Int32.ofInt (l1))), (2, .int (Int32.ofInt (l2))), (3, .int (Int32.ofInt (l3))), (4, .int (Int32.ofInt (l4))), (5, .int (Int32.ofInt (l5)))]) (List.forall_mem_cons.mpr ⟨rfl, (List.forall_mem_cons.mpr ⟨rfl, (List.forall_mem_cons.mpr ⟨rfl, (List.forall_mem_cons.mpr ⟨rfl, (List.forall_mem_cons.mpr ⟨rfl, (List.forall_mem_cons.mpr ⟨rfl, (fun _ h => nomatch h)⟩)⟩)⟩)⟩)⟩)⟩) ?_
          exact bX11_areSame_225 hd hJ hT hW hP hB28 hw
        · have hw := hw.2 h8
          refine z_aload_n dX11_areSame_158 rfl rfl ?_
          refine g_getR hW hT.1 mr17 kX11 fX11_56 dX11_areSame_159 ?_
          refine z_bipush (v := Int32.ofInt 20) dX11_areSame_162 (by decide) ?_
          refine z_iload dX11_areSame_164 rfl ?_
          refine i_imul dX11_areSame_166 ?_
          refine z_iload dX11_areSame_167 rfl ?_
          refine i_iadd dX11_areSame_169 ?_
          obtain ⟨q10a, q10b, hw⟩ := hw
          have q11 : iv (-2147483648) 2147483647 (S.2 70 (((20 * l6) + l9))) := mA70 hW _
          have hw := hw q11
          refine g_iald hW (ma70 hT) q10a q10b (by decide) dX11_areSame_170 ?_
          obtain ⟨x12, hx12⟩ : ∃ x : Int, x = S.2 70 (((20 * l6) + l9)) := ⟨_, rfl⟩
          have hw := hw x12 hx12
          refine z_st (st' := [.int (Int32.ofInt x12)]) (by rw [hx12]) ?_
          have q13 : rng x12 := by rw [hx12]; exact (rngq q11 (by decide) (by decide))
          have q14 : iv (-2147483648) 2147483647 x12 := by rw [hx12]; exact q11
          refine z_istore dX11_areSame_171 (by decide) ?_
          refine z_loc (L' := [(0, .ref (G.1 + 54)), (1, .int (Int32.ofInt (l1))), (2, .int (Int32.ofInt (l2))), (3, .int (Int32.ofInt (l3))), (4, .int (Int32.ofInt (l4))), (5, .int (Int32.ofInt (l5))), (6, .int (Int32.ofInt (l6))), (7, .int (Int32.ofInt (l7))), (8, .int (Int32.ofInt (l8))), (9, .int (Int32.ofInt (l9))), (10, .int (Int32.ofInt (x12)))]) (List.forall_mem_cons.mpr ⟨rfl, (List.forall_mem_cons.mpr ⟨rfl, (List.forall_mem_cons.mpr ⟨rfl, (List.forall_mem_cons.mpr ⟨rfl, (List.forall_mem_cons.mpr ⟨rfl, (List.forall_mem_cons.mpr ⟨rfl, (List.forall_mem_cons.mpr ⟨rfl, (List.forall_mem_cons.mpr ⟨rfl, (List.forall_mem_cons.mpr ⟨rfl, (List.forall_mem_cons.mpr ⟨rfl, (List.forall_mem_cons.mpr ⟨rfl, (fun _ h => nomatch h)⟩)⟩)⟩)⟩)⟩)⟩)⟩)⟩)⟩)⟩)⟩) ?_
          refine z_aload_n dX11_areSame_173 rfl rfl ?_
          refine g_getR hW hT.1 mr17 kX11 fX11_56 dX11_areSame_174 ?_
          refine z_bipush (v := Int32.ofInt 20) dX11_areSame_177 (by decide) ?_
          refine z_iload dX11_areSame_179 rfl ?_
          refine i_imul dX11_areSame_181 ?_
          refine z_iload dX11_areSame_182 rfl ?_
          refine i_iadd dX11_areSame_184 ?_
          obtain ⟨q15a, q15b, hw⟩ := hw
          have q16 : iv (-2147483648) 2147483647 (S.2 70 (((20 * l7) + l9))) := mA70 hW _
          have hw := hw q16
          refine g_iald hW (ma70 hT) q15a q15b (by decide) dX11_areSame_185 ?_
          obtain ⟨x17, hx17⟩ : ∃ x : Int, x = S.2 70 (((20 * l7) + l9)) := ⟨_, rfl⟩
          have hw := hw x17 hx17
          refine z_st (st' := [.int (Int32.ofInt x17)]) (by rw [hx17]) ?_
          have q18 : rng x17 := by rw [hx17]; exact (rngq q16 (by decide) (by decide))
          have q19 : iv (-2147483648) 2147483647 x17 := by rw [hx17]; exact q16
          refine z_istore dX11_areSame_186 (by decide) ?_
          refine z_loc (L' := [(0, .ref (G.1 + 54)), (1, .int (Int32.ofInt (l1))), (2, .int (Int32.ofInt (l2))), (3, .int (Int32.ofInt (l3))), (4, .int (Int32.ofInt (l4))), (5, .int (Int32.ofInt (l5))), (6, .int (Int32.ofInt (l6))), (7, .int (Int32.ofInt (l7))), (8, .int (Int32.ofInt (l8))), (9, .int (Int32.ofInt (l9))), (10, .int (Int32.ofInt (x12))), (11, .int (Int32.ofInt (x17)))]) (List.forall_mem_cons.mpr ⟨rfl, (List.forall_mem_cons.mpr ⟨rfl, (List.forall_mem_cons.mpr ⟨rfl, (List.forall_mem_cons.mpr ⟨rfl, (List.forall_mem_cons.mpr ⟨rfl, (List.forall_mem_cons.mpr ⟨rfl, (List.forall_mem_cons.mpr ⟨rfl, (List.forall_mem_cons.mpr ⟨rfl, (List.forall_mem_cons.mpr ⟨rfl, (List.forall_mem_cons.mpr ⟨rfl, (List.forall_mem_cons.mpr ⟨rfl, (List.forall_mem_cons.mpr ⟨rfl, (fun _ h => nomatch h)⟩)⟩)⟩)⟩)⟩)⟩)⟩)⟩)⟩)⟩)⟩)⟩) ?_
          refine z_iload dX11_areSame_188 rfl ?_
          refine z_iconst (v := Int32.ofInt 1) dX11_areSame_190 rfl ?_
          refine i_icmp_ne (tgt := 209) dX11_areSame_191 (by decide) q2 ⟨by decide, by decide⟩ (fun h20 => ?_) (fun h20 => ?_)
          · have hw := hw.1 h20
            refine z_aload_n dX11_areSame_209 rfl rfl ?_
            refine z_iload dX11_areSame_210 rfl ?_
            refine z_iload dX11_areSame_212 rfl ?_
            have hX := lX11_pair 0 (Nat.le_refl _) hJ hT hW q13 q18 hw
            refine z_callV (As := [_, _]) eX11_pair sX11_pair lX11_508 rfl dX11_areSame_214 (hW.1 _ _ hT.1) hX (Nat.le_trans (by decide) hd) rfl (Nat.le_of_ble_eq_true rfl) (fun r cs hp => ?_)
            obtain ⟨r21, S22, rfl, hw, hW⟩ := hp
            refine z_st (st' := [.int (Int32.ofInt (r21))]) rfl ?_
            refine z_loc (L' := [(0, .ref (G.1 + 54)), (1, .int (Int32.ofInt (l1))), (2, .int (Int32.ofInt (l2))), (3, .int (Int32.ofInt (l3))), (5, .int (Int32.ofInt (l5))), (6, .int (Int32.ofInt (l6))), (7, .int (Int32.ofInt (l7))), (8, .int (Int32.ofInt (l8))), (9, .int (Int32.ofInt (l9)))]) (List.forall_mem_cons.mpr ⟨rfl, (List.forall_mem_cons.mpr ⟨rfl, (List.forall_mem_cons.mpr ⟨rfl, (List.forall_mem_cons.mpr ⟨rfl, (List.forall_mem_cons.mpr ⟨rfl, (List.forall_mem_cons.mpr ⟨rfl, (List.forall_mem_cons.mpr ⟨rfl, (List.forall_mem_cons.mpr ⟨rfl, (List.forall_mem_cons.mpr ⟨rfl, (fun _ h => nomatch h)⟩)⟩)⟩)⟩)⟩)⟩)⟩)⟩)⟩) ?_
            exact bX11_areSame_217 hd hJ hT hW hP hB28 hB130 hw
          · have hw := hw.2 h20
            refine z_iload dX11_areSame_194 rfl ?_
            refine z_iload dX11_areSame_196 rfl ?_
            refine i_icmp_ne (tgt := 205) dX11_areSame_198 (by decide) q13 q18 (fun h23 => ?_) (fun h23 => ?_)
            · have hw := hw.1 h23
              refine z_iconst (v := Int32.ofInt 0) dX11_areSame_205 rfl ?_
              refine z_goto (tgt := 217) dX11_areSame_206 (by decide) ?_
              refine z_loc (L' := [(0, .ref (G.1 + 54)), (1, .int (Int32.ofInt (l1))), (2, .int (Int32.ofInt (l2))), (3, .int (Int32.ofInt (l3))), (5, .int (Int32.ofInt (l5))), (6, .int (Int32.ofInt (l6))), (7, .int (Int32.ofInt (l7))), (8, .int (Int32.ofInt (l8))), (9, .int (Int32.ofInt (l9)))]) (List.forall_mem_cons.mpr ⟨rfl, (List.forall_mem_cons.mpr ⟨rfl, (List.forall_mem_cons.mpr ⟨rfl, (List.forall_mem_cons.mpr ⟨rfl, (List.forall_mem_cons.mpr ⟨rfl, (List.forall_mem_cons.mpr ⟨rfl, (List.forall_mem_cons.mpr ⟨rfl, (List.forall_mem_cons.mpr ⟨rfl, (List.forall_mem_cons.mpr ⟨rfl, (fun _ h => nomatch h)⟩)⟩)⟩)⟩)⟩)⟩)⟩)⟩)⟩) ?_
              exact bX11_areSame_217 hd hJ hT hW hP hB28 hB130 hw
            · have hw := hw.2 h23
              refine z_iconst (v := Int32.ofInt 1) dX11_areSame_201 rfl ?_
              refine z_goto (tgt := 217) dX11_areSame_202 (by decide) ?_
              refine z_loc (L' := [(0, .ref (G.1 + 54)), (1, .int (Int32.ofInt (l1))), (2, .int (Int32.ofInt (l2))), (3, .int (Int32.ofInt (l3))), (5, .int (Int32.ofInt (l5))), (6, .int (Int32.ofInt (l6))), (7, .int (Int32.ofInt (l7))), (8, .int (Int32.ofInt (l8))), (9, .int (Int32.ofInt (l9)))]) (List.forall_mem_cons.mpr ⟨rfl, (List.forall_mem_cons.mpr ⟨rfl, (List.forall_mem_cons.mpr ⟨rfl, (List.forall_mem_cons.mpr ⟨rfl, (List.forall_mem_cons.mpr ⟨rfl, (List.forall_mem_cons.mpr ⟨rfl, (List.forall_mem_cons.mpr ⟨rfl, (List.forall_mem_cons.mpr ⟨rfl, (List.forall_mem_cons.mpr ⟨rfl, (fun _ h => nomatch h)⟩)⟩)⟩)⟩)⟩)⟩)⟩)⟩)⟩) ?_
              exact bX11_areSame_217 hd hJ hT hW hP hB28 hB130 hw
def wX11_areSame_130 (l1 l2 l3 l4 l5 l6 l7 l8 l9 : Int) (S : St) (K : Int → St → Prop) (B28 : Int → Int → Int → Int → Int → St → Prop) : Prop := ∃ (Iv : Int → Int → Int → Int → Int → Int → Int → Int → Int → St → Prop) (mu : Int → Int → Int → Int → Int → Int → Int → Int → Int → St → Nat), Iv l1 l2 l3 l4 l5 l6 l7 l8 l9 S ∧ ∀ (l1 l2 l3 l4 l5 l6 l7 l8 l9 : Int) (S : St), Iv l1 l2 l3 l4 l5 l6 l7 l8 l9 S → wX11_areSame_130' l1 l2 l3 l4 l5 l6 l7 l8 l9 S K B28 (fun ml1 ml2 ml3 ml4 ml5 ml6 ml7 ml8 ml9 T => Iv ml1 ml2 ml3 ml4 ml5 ml6 ml7 ml8 ml9 T ∧ mu ml1 ml2 ml3 ml4 ml5 ml6 ml7 ml8 ml9 T < mu l1 l2 l3 l4 l5 l6 l7 l8 l9 S)
set_option maxRecDepth 100000 in
set_option maxHeartbeats 4000000 in
theorem bX11_areSame_130 {G : xG} {sh : Nat → Option Sh} {J : St → List va_E → Prop} {d : Nat} {Post : xP} {l1 l2 l3 l4 l5 l6 l7 l8 l9 : Int} {S : St} {cs : List va_E} {K : Int → St → Prop} {B28 : Int → Int → Int → Int → Int → St → Prop} (hd : 1 ≤ d) (hJ : Stb sh J) (hT : isM sh) (hW : Wd G sh mT J S cs) (hP : ∀ (v : Int) (S : St) (cs : List va_E), K v S → Wd G sh mT J S cs → Post (some (.int (Int32.ofInt v))) cs) (hB28 : ∀ (l1 : Int) (l2 : Int) (l3 : Int) (l4 : Int) (l5 : Int) (S : St) (cs : List va_E), B28 l1 l2 l3 l4 l5 S → Wd G sh mT J S cs → Z (RX11, cX11_areSame, 12, some .boolean, false) G d Post 28 [(0, .ref (G.1 + 54)), (1, .int (Int32.ofInt (l1))), (2, .int (Int32.ofInt (l2))), (3, .int (Int32.ofInt (l3))), (4, .int (Int32.ofInt (l4))), (5, .int (Int32.ofInt (l5)))] [] cs) (hw : wX11_areSame_130 l1 l2 l3 l4 l5 l6 l7 l8 l9 S K B28) : Z (RX11, cX11_areSame, 12, some .boolean, false) G d Post 130 [(0, .ref (G.1 + 54)), (1, .int (Int32.ofInt (l1))), (2, .int (Int32.ofInt (l2))), (3, .int (Int32.ofInt (l3))), (4, .int (Int32.ofInt (l4))), (5, .int (Int32.ofInt (l5))), (6, .int (Int32.ofInt (l6))), (7, .int (Int32.ofInt (l7))), (8, .int (Int32.ofInt (l8))), (9, .int (Int32.ofInt (l9)))] [] cs := by
  unfold wX11_areSame_130 at hw
  obtain ⟨Iv, mu, h0, hs⟩ := hw
  have key : ∀ (n : Nat) (l1 l2 l3 l4 l5 l6 l7 l8 l9 : Int) (S : St) (cs : List va_E), mu l1 l2 l3 l4 l5 l6 l7 l8 l9 S < n → Iv l1 l2 l3 l4 l5 l6 l7 l8 l9 S → Wd G sh mT J S cs → Z (RX11, cX11_areSame, 12, some .boolean, false) G d Post 130 [(0, .ref (G.1 + 54)), (1, .int (Int32.ofInt (l1))), (2, .int (Int32.ofInt (l2))), (3, .int (Int32.ofInt (l3))), (4, .int (Int32.ofInt (l4))), (5, .int (Int32.ofInt (l5))), (6, .int (Int32.ofInt (l6))), (7, .int (Int32.ofInt (l7))), (8, .int (Int32.ofInt (l8))), (9, .int (Int32.ofInt (l9)))] [] cs := by
    intro n
    induction n with
    | zero => intro l1 l2 l3 l4 l5 l6 l7 l8 l9 S cs hn; exact absurd hn (Nat.not_lt_zero _)
    | succ n ih =>
      intro l1 l2 l3 l4 l5 l6 l7 l8 l9 S cs hn hI hW
      exact bX11_areSame_130' hd hJ hT hW hP hB28 (fun l1 l2 l3 l4 l5 l6 l7 l8 l9 S cs hb hW => ih l1 l2 l3 l4 l5 l6 l7 l8 l9 S cs (Nat.lt_of_lt_of_le hb.2 (Nat.le_of_lt_succ hn)) hb.1 hW) (hs l1 l2 l3 l4 l5 l6 l7 l8 l9 S hI)
  exact key _ _ _ _ _ _ _ _ _ _ _ _ (Nat.lt_succ_self _) h0 hW
def wX11_areSame_125 (l1 l2 l3 l5 l6 l7 l8 s0 : Int) (S : St) (K : Int → St → Prop) (B28 : Int → Int → Int → Int → Int → St → Prop) : Prop := wX11_areSame_130 (l1) (l2) (l3) (s0) (l5) (l6) (l7) (l8) (0) S K B28
set_option maxRecDepth 100000 in
set_option maxHeartbeats 4000000 in
theorem bX11_areSame_125 {G : xG} {sh : Nat → Option Sh} {J : St → List va_E → Prop} {d : Nat} {Post : xP} {l1 l2 l3 l5 l6 l7 l8 s0 : Int} {S : St} {cs : List va_E} {K : Int → St → Prop} {B28 : Int → Int → Int → Int → Int → St → Prop} (hd : 1 ≤ d) (hJ : Stb sh J) (hT : isM sh) (hW : Wd G sh mT J S cs) (hP : ∀ (v : Int) (S : St) (cs : List va_E), K v S → Wd G sh mT J S cs → Post (some (.int (Int32.ofInt v))) cs) (hB28 : ∀ (l1 : Int) (l2 : Int) (l3 : Int) (l4 : Int) (l5 : Int) (S : St) (cs : List va_E), B28 l1 l2 l3 l4 l5 S → Wd G sh mT J S cs → Z (RX11, cX11_areSame, 12, some .boolean, false) G d Post 28 [(0, .ref (G.1 + 54)), (1, .int (Int32.ofInt (l1))), (2, .int (Int32.ofInt (l2))), (3, .int (Int32.ofInt (l3))), (4, .int (Int32.ofInt (l4))), (5, .int (Int32.ofInt (l5)))] [] cs) (hw : wX11_areSame_125 l1 l2 l3 l5 l6 l7 l8 s0 S K B28) : Z (RX11, cX11_areSame, 12, some .boolean, false) G d Post 125 [(0, .ref (G.1 + 54)), (1, .int (Int32.ofInt (l1))), (2, .int (Int32.ofInt (l2))), (3, .int (Int32.ofInt (l3))), (5, .int (Int32.ofInt (l5))), (6, .int (Int32.ofInt (l6))), (7, .int (Int32.ofInt (l7))), (8, .int (Int32.ofInt (l8)))] [.int (Int32.ofInt (s0))] cs := by
  unfold wX11_areSame_125 at hw
  refine z_istore dX11_areSame_125 (by decide) ?_
  refine z_loc (L' := [(0, .ref (G.1 + 54)), (1, .int (Int32.ofInt (l1))), (2, .int (Int32.ofInt (l2))), (3, .int (Int32.ofInt (l3))), (4, .int (Int32.ofInt (s0))), (5, .int (Int32.ofInt (l5))), (6, .int (Int32.ofInt (l6))), (7, .int (Int32.ofInt (l7))), (8, .int (Int32.ofInt (l8)))]) (List.forall_mem_cons.mpr ⟨rfl, (List.forall_mem_cons.mpr ⟨rfl, (List.forall_mem_cons.mpr ⟨rfl, (List.forall_mem_cons.mpr ⟨rfl, (List.forall_mem_cons.mpr ⟨rfl, (List.forall_mem_cons.mpr ⟨rfl, (List.forall_mem_cons.mpr ⟨rfl, (List.forall_mem_cons.mpr ⟨rfl, (List.forall_mem_cons.mpr ⟨rfl, (fun _ h => nomatch h)⟩)⟩)⟩)⟩)⟩)⟩)⟩)⟩)⟩) ?_
  refine z_iconst (v := Int32.ofInt 0) dX11_areSame_127 rfl ?_
  refine z_istore dX11_areSame_128 (by decide) ?_
  refine z_loc (L' := [(0, .ref (G.1 + 54)), (1, .int (Int32.ofInt (l1))), (2, .int (Int32.ofInt (l2))), (3, .int (Int32.ofInt (l3))), (4, .int (Int32.ofInt (s0))), (5, .int (Int32.ofInt (l5))), (6, .int (Int32.ofInt (l6))), (7, .int (Int32.ofInt (l7))), (8, .int (Int32.ofInt (l8))), (9, .int (Int32.ofInt (0)))]) (List.forall_mem_cons.mpr ⟨rfl, (List.forall_mem_cons.mpr ⟨rfl, (List.forall_mem_cons.mpr ⟨rfl, (List.forall_mem_cons.mpr ⟨rfl, (List.forall_mem_cons.mpr ⟨rfl, (List.forall_mem_cons.mpr ⟨rfl, (List.forall_mem_cons.mpr ⟨rfl, (List.forall_mem_cons.mpr ⟨rfl, (List.forall_mem_cons.mpr ⟨rfl, (List.forall_mem_cons.mpr ⟨rfl, (fun _ h => nomatch h)⟩)⟩)⟩)⟩)⟩)⟩)⟩)⟩)⟩)⟩) ?_
  refine z_loc (L' := [(0, .ref (G.1 + 54)), (1, .int (Int32.ofInt (l1))), (2, .int (Int32.ofInt (l2))), (3, .int (Int32.ofInt (l3))), (4, .int (Int32.ofInt (s0))), (5, .int (Int32.ofInt (l5))), (6, .int (Int32.ofInt (l6))), (7, .int (Int32.ofInt (l7))), (8, .int (Int32.ofInt (l8))), (9, .int (Int32.ofInt (0)))]) (List.forall_mem_cons.mpr ⟨rfl, (List.forall_mem_cons.mpr ⟨rfl, (List.forall_mem_cons.mpr ⟨rfl, (List.forall_mem_cons.mpr ⟨rfl, (List.forall_mem_cons.mpr ⟨rfl, (List.forall_mem_cons.mpr ⟨rfl, (List.forall_mem_cons.mpr ⟨rfl, (List.forall_mem_cons.mpr ⟨rfl, (List.forall_mem_cons.mpr ⟨rfl, (List.forall_mem_cons.mpr ⟨rfl, (fun _ h => nomatch h)⟩)⟩)⟩)⟩)⟩)⟩)⟩)⟩)⟩)⟩) ?_
  exact bX11_areSame_130 hd hJ hT hW hP hB28 hw
def wX11_areSame_28' (l1 l2 l3 l4 l5 : Int) (S : St) (K : Int → St → Prop) (B28 : Int → Int → Int → Int → Int → St → Prop) : Prop := ((0 : Int) ≤ l3 ∧ l3 < (6 : Int) ∧ (iv 0 4 (S.2 56 (l3)) → (rng (l5) ∧ ((S.2 56 (l3) ≤ l5 → (iv 0 1 (l4) ∧ K (l4) S)) ∧ ((¬ (S.2 56 (l3) ≤ l5)) → (rng (l4) ∧ ((l4 = 0 → (iv 0 1 (l4) ∧ K (l4) S)) ∧ ((¬ (l4 = 0)) → (∀ x9 : Int, x9 = ((4 * l1) + l5) → (∀ x10 : Int, x10 = ((4 * (30 + l2)) + l5) → ((0 : Int) ≤ ((4 * l3) + l5) ∧ ((4 * l3) + l5) < (24 : Int) ∧ (iv 0 3 (S.2 59 (((4 * l3) + l5))) → (∀ x13 : Int, x13 = S.2 59 (((4 * l3) + l5)) → ((¬ x13 = 2 → ((0 : Int) ≤ x9 ∧ x9 < (360 : Int) ∧ (iv (-2147483648) 2147483647 (S.2 69 (x9)) → ((0 : Int) ≤ x10 ∧ x10 < (360 : Int) ∧ (iv (-2147483648) 2147483647 (S.2 69 (x10)) → ((¬ S.2 69 (x9) = S.2 69 (x10) → wX11_areSame_125 (l1) (l2) (l3) (l5) (x9) (x10) (x13) (0) S K B28) ∧ ((¬ (¬ S.2 69 (x9) = S.2 69 (x10))) → wX11_areSame_125 (l1) (l2) (l3) (l5) (x9) (x10) (x13) (1) S K B28))))))) ∧ ((¬ (¬ x13 = 2)) → ((0 : Int) ≤ x9 ∧ x9 < (360 : Int) ∧ (iv (-2147483648) 2147483647 (S.2 69 (x9)) → ((0 : Int) ≤ x10 ∧ x10 < (360 : Int) ∧ (iv (-2147483648) 2147483647 (S.2 69 (x10)) → (wX11_pair (S.2 69 (x9)) (S.2 69 (x10)) S (fun r26 S27 => wX11_areSame_125 (l1) (l2) (l3) (l5) (x9) (x10) (x13) (r26) S27 K B28)))))))))))))))))))))
set_option maxRecDepth 100000 in
set_option maxHeartbeats 4000000 in
theorem bX11_areSame_28' {G : xG} {sh : Nat → Option Sh} {J : St → List va_E → Prop} {d : Nat} {Post : xP} {l1 l2 l3 l4 l5 : Int} {S : St} {cs : List va_E} {K : Int → St → Prop} {B28 : Int → Int → Int → Int → Int → St → Prop} (hd : 1 ≤ d) (hJ : Stb sh J) (hT : isM sh) (hW : Wd G sh mT J S cs) (hP : ∀ (v : Int) (S : St) (cs : List va_E), K v S → Wd G sh mT J S cs → Post (some (.int (Int32.ofInt v))) cs) (hB28 : ∀ (l1 : Int) (l2 : Int) (l3 : Int) (l4 : Int) (l5 : Int) (S : St) (cs : List va_E), B28 l1 l2 l3 l4 l5 S → Wd G sh mT J S cs → Z (RX11, cX11_areSame, 12, some .boolean, false) G d Post 28 [(0, .ref (G.1 + 54)), (1, .int (Int32.ofInt (l1))), (2, .int (Int32.ofInt (l2))), (3, .int (Int32.ofInt (l3))), (4, .int (Int32.ofInt (l4))), (5, .int (Int32.ofInt (l5)))] [] cs) (hw : wX11_areSame_28' l1 l2 l3 l4 l5 S K B28) : Z (RX11, cX11_areSame, 12, some .boolean, false) G d Post 28 [(0, .ref (G.1 + 54)), (1, .int (Int32.ofInt (l1))), (2, .int (Int32.ofInt (l2))), (3, .int (Int32.ofInt (l3))), (4, .int (Int32.ofInt (l4))), (5, .int (Int32.ofInt (l5)))] [] cs := by
  unfold wX11_areSame_28' at hw
  refine z_iload dX11_areSame_28 rfl ?_
  refine z_aload_n dX11_areSame_30 rfl rfl ?_
  refine g_getR hW hT.1 mr3 kX11 fX11_13 dX11_areSame_31 ?_
  refine z_iload_n dX11_areSame_34 rfl rfl ?_
  obtain ⟨q1a, q1b, hw⟩ := hw
  have q2 : iv 0 4 (S.2 56 (l3)) := mA56 hW _
  have hw := hw q2
  refine g_iald hW (ma56 hT) q1a q1b (by decide) dX11_areSame_35 ?_
  obtain ⟨q4, hw⟩ := hw
  refine i_icmp_ge (tgt := 231) dX11_areSame_36 (by decide) q4 (rngq q2 (by decide) (by decide)) (fun h3 => ?_) (fun h3 => ?_)
  · have hw := hw.1 h3
    refine z_iload dX11_areSame_231 rfl ?_
    obtain ⟨q5, hw⟩ := hw
    exact z_ireturn dX11_areSame_233 rfl (nar01 (b01 q5)) (hP _ _ _ hw hW)
  · have hw := hw.2 h3
    refine z_iload dX11_areSame_39 rfl ?_
    obtain ⟨q7, hw⟩ := hw
    refine i_if_eq (tgt := 231) dX11_areSame_41 (by decide) q7 (fun h6 => ?_) (fun h6 => ?_)
    · have hw := hw.1 h6
      refine z_iload dX11_areSame_231 rfl ?_
      obtain ⟨q8, hw⟩ := hw
      exact z_ireturn dX11_areSame_233 rfl (nar01 (b01 q8)) (hP _ _ _ hw hW)
    · have hw := hw.2 h6
      refine z_iconst (v := Int32.ofInt 4) dX11_areSame_44 rfl ?_
      refine z_iload_n dX11_areSame_45 rfl rfl ?_
      refine i_imul dX11_areSame_46 ?_
      refine z_iload dX11_areSame_47 rfl ?_
      refine i_iadd dX11_areSame_49 ?_
      obtain ⟨x9, hx9⟩ : ∃ x : Int, x = ((4 * l1) + l5) := ⟨_, rfl⟩
      have hw := hw x9 hx9
      refine z_st (st' := [.int (Int32.ofInt x9)]) (by rw [hx9]) ?_
      refine z_istore dX11_areSame_50 (by decide) ?_
      refine z_loc (L' := [(0, .ref (G.1 + 54)), (1, .int (Int32.ofInt (l1))), (2, .int (Int32.ofInt (l2))), (3, .int (Int32.ofInt (l3))), (4, .int (Int32.ofInt (l4))), (5, .int (Int32.ofInt (l5))), (6, .int (Int32.ofInt (x9)))]) (List.forall_mem_cons.mpr ⟨rfl, (List.forall_mem_cons.mpr ⟨rfl, (List.forall_mem_cons.mpr ⟨rfl, (List.forall_mem_cons.mpr ⟨rfl, (List.forall_mem_cons.mpr ⟨rfl, (List.forall_mem_cons.mpr ⟨rfl, (List.forall_mem_cons.mpr ⟨rfl, (fun _ h => nomatch h)⟩)⟩)⟩)⟩)⟩)⟩)⟩) ?_
      refine z_iconst (v := Int32.ofInt 4) dX11_areSame_52 rfl ?_
      refine z_bipush (v := Int32.ofInt 30) dX11_areSame_53 (by decide) ?_
      refine z_iload_n dX11_areSame_55 rfl rfl ?_
      refine i_iadd dX11_areSame_56 ?_
      refine i_imul dX11_areSame_57 ?_
      refine z_iload dX11_areSame_58 rfl ?_
      refine i_iadd dX11_areSame_60 ?_
      obtain ⟨x10, hx10⟩ : ∃ x : Int, x = ((4 * (30 + l2)) + l5) := ⟨_, rfl⟩
      have hw := hw x10 hx10
      refine z_st (st' := [.int (Int32.ofInt x10)]) (by rw [hx10]) ?_
      refine z_istore dX11_areSame_61 (by decide) ?_
      refine z_loc (L' := [(0, .ref (G.1 + 54)), (1, .int (Int32.ofInt (l1))), (2, .int (Int32.ofInt (l2))), (3, .int (Int32.ofInt (l3))), (4, .int (Int32.ofInt (l4))), (5, .int (Int32.ofInt (l5))), (6, .int (Int32.ofInt (x9))), (7, .int (Int32.ofInt (x10)))]) (List.forall_mem_cons.mpr ⟨rfl, (List.forall_mem_cons.mpr ⟨rfl, (List.forall_mem_cons.mpr ⟨rfl, (List.forall_mem_cons.mpr ⟨rfl, (List.forall_mem_cons.mpr ⟨rfl, (List.forall_mem_cons.mpr ⟨rfl, (List.forall_mem_cons.mpr ⟨rfl, (List.forall_mem_cons.mpr ⟨rfl, (fun _ h => nomatch h)⟩)⟩)⟩)⟩)⟩)⟩)⟩)⟩) ?_
      refine z_aload_n dX11_areSame_63 rfl rfl ?_
      refine g_getR hW hT.1 mr6 kX11 fX11_22 dX11_areSame_64 ?_
      refine z_iconst (v := Int32.ofInt 4) dX11_areSame_67 rfl ?_
      refine z_iload_n dX11_areSame_68 rfl rfl ?_
      refine i_imul dX11_areSame_69 ?_
      refine z_iload dX11_areSame_70 rfl ?_
      refine i_iadd dX11_areSame_72 ?_
      obtain ⟨q11a, q11b, hw⟩ := hw
      have q12 : iv 0 3 (S.2 59 (((4 * l3) + l5))) := mA59 hW _
      have hw := hw q12
      refine g_iald hW (ma59 hT) q11a q11b (by decide) dX11_areSame_73 ?_
      obtain ⟨x13, hx13⟩ : ∃ x : Int, x = S.2 59 (((4 * l3) + l5)) := ⟨_, rfl⟩
      have hw := hw x13 hx13
      refine z_st (st' := [.int (Int32.ofInt x13)]) (by rw [hx13]) ?_
      have q14 : rng x13 := by rw [hx13]; exact (rngq q12 (by decide) (by decide))
      have q15 : iv 0 3 x13 := by rw [hx13]; exact q12
      refine z_istore dX11_areSame_74 (by decide) ?_
      refine z_loc (L' := [(0, .ref (G.1 + 54)), (1, .int (Int32.ofInt (l1))), (2, .int (Int32.ofInt (l2))), (3, .int (Int32.ofInt (l3))), (4, .int (Int32.ofInt (l4))), (5, .int (Int32.ofInt (l5))), (6, .int (Int32.ofInt (x9))), (7, .int (Int32.ofInt (x10))), (8, .int (Int32.ofInt (x13)))]) (List.forall_mem_cons.mpr ⟨rfl, (List.forall_mem_cons.mpr ⟨rfl, (List.forall_mem_cons.mpr ⟨rfl, (List.forall_mem_cons.mpr ⟨rfl, (List.forall_mem_cons.mpr ⟨rfl, (List.forall_mem_cons.mpr ⟨rfl, (List.forall_mem_cons.mpr ⟨rfl, (List.forall_mem_cons.mpr ⟨rfl, (List.forall_mem_cons.mpr ⟨rfl, (fun _ h => nomatch h)⟩)⟩)⟩)⟩)⟩)⟩)⟩)⟩)⟩) ?_
      refine z_iload dX11_areSame_76 rfl ?_
      refine z_iconst (v := Int32.ofInt 2) dX11_areSame_78 rfl ?_
      refine i_icmp_ne (tgt := 103) dX11_areSame_79 (by decide) q14 ⟨by decide, by decide⟩ (fun h16 => ?_) (fun h16 => ?_)
      · have hw := hw.1 h16
        refine z_aload_n dX11_areSame_103 rfl rfl ?_
        refine g_getR hW hT.1 mr16 kX11 fX11_53 dX11_areSame_104 ?_
        refine z_iload dX11_areSame_107 rfl ?_
        obtain ⟨q17a, q17b, hw⟩ := hw
        have q18 : iv (-2147483648) 2147483647 (S.2 69 (x9)) := mA69 hW _
        have hw := hw q18
        refine g_iald hW (ma69 hT) q17a q17b (by decide) dX11_areSame_109 ?_
        refine z_aload_n dX11_areSame_110 rfl rfl ?_
        refine g_getR hW hT.1 mr16 kX11 fX11_53 dX11_areSame_111 ?_
        refine z_iload dX11_areSame_114 rfl ?_
        obtain ⟨q19a, q19b, hw⟩ := hw
        have q20 : iv (-2147483648) 2147483647 (S.2 69 (x10)) := mA69 hW _
        have hw := hw q20
        refine g_iald hW (ma69 hT) q19a q19b (by decide) dX11_areSame_116 ?_
        refine i_icmp_ne (tgt := 124) dX11_areSame_117 (by decide) (rngq q18 (by decide) (by decide)) (rngq q20 (by decide) (by decide)) (fun h21 => ?_) (fun h21 => ?_)
        · have hw := hw.1 h21
          refine z_iconst (v := Int32.ofInt 0) dX11_areSame_124 rfl ?_
          refine z_loc (L' := [(0, .ref (G.1 + 54)), (1, .int (Int32.ofInt (l1))), (2, .int (Int32.ofInt (l2))), (3, .int (Int32.ofInt (l3))), (5, .int (Int32.ofInt (l5))), (6, .int (Int32.ofInt (x9))), (7, .int (Int32.ofInt (x10))), (8, .int (Int32.ofInt (x13)))]) (List.forall_mem_cons.mpr ⟨rfl, (List.forall_mem_cons.mpr ⟨rfl, (List.forall_mem_cons.mpr ⟨rfl, (List.forall_mem_cons.mpr ⟨rfl, (List.forall_mem_cons.mpr ⟨rfl, (List.forall_mem_cons.mpr ⟨rfl, (List.forall_mem_cons.mpr ⟨rfl, (List.forall_mem_cons.mpr ⟨rfl, (fun _ h => nomatch h)⟩)⟩)⟩)⟩)⟩)⟩)⟩)⟩) ?_
          exact bX11_areSame_125 hd hJ hT hW hP hB28 hw
        · have hw := hw.2 h21
          refine z_iconst (v := Int32.ofInt 1) dX11_areSame_120 rfl ?_
          refine z_goto (tgt := 125) dX11_areSame_121 (by decide) ?_
          refine z_loc (L' := [(0, .ref (G.1 + 54)), (1, .int (Int32.ofInt (l1))), (2, .int (Int32.ofInt (l2))), (3, .int (Int32.ofInt (l3))), (5, .int (Int32.ofInt (l5))), (6, .int (Int32.ofInt (x9))), (7, .int (Int32.ofInt (x10))), (8, .int (Int32.ofInt (x13)))]) (List.forall_mem_cons.mpr ⟨rfl, (List.forall_mem_cons.mpr ⟨rfl, (List.forall_mem_cons.mpr ⟨rfl, (List.forall_mem_cons.mpr ⟨rfl, (List.forall_mem_cons.mpr ⟨rfl, (List.forall_mem_cons.mpr ⟨rfl, (List.forall_mem_cons.mpr ⟨rfl, (List.forall_mem_cons.mpr ⟨rfl, (fun _ h => nomatch h)⟩)⟩)⟩)⟩)⟩)⟩)⟩)⟩) ?_
          exact bX11_areSame_125 hd hJ hT hW hP hB28 hw
      · have hw := hw.2 h16
        refine z_aload_n dX11_areSame_82 rfl rfl ?_
        refine z_aload_n dX11_areSame_83 rfl rfl ?_
        refine g_getR hW hT.1 mr16 kX11 fX11_53 dX11_areSame_84 ?_
        refine z_iload dX11_areSame_87 rfl ?_
        obtain ⟨q22a, q22b, hw⟩ := hw
        have q23 : iv (-2147483648) 2147483647 (S.2 69 (x9)) := mA69 hW _
        have hw := hw q23
        refine g_iald hW (ma69 hT) q22a q22b (by decide) dX11_areSame_89 ?_
        refine z_aload_n dX11_areSame_90 rfl rfl ?_
        refine g_getR hW hT.1 mr16 kX11 fX11_53 dX11_areSame_91 ?_
        refine z_iload dX11_areSame_94 rfl ?_
        obtain ⟨q24a, q24b, hw⟩ := hw
        have q25 : iv (-2147483648) 2147483647 (S.2 69 (x10)) := mA69 hW _
        have hw := hw q25
        refine g_iald hW (ma69 hT) q24a q24b (by decide) dX11_areSame_96 ?_
        have hX := lX11_pair 0 (Nat.le_refl _) hJ hT hW (rngq q23 (by decide) (by decide)) (rngq q25 (by decide) (by decide)) hw
        refine z_callV (As := [_, _]) eX11_pair sX11_pair lX11_508 rfl dX11_areSame_97 (hW.1 _ _ hT.1) hX (Nat.le_trans (by decide) hd) rfl (Nat.le_of_ble_eq_true rfl) (fun r cs hp => ?_)
        obtain ⟨r26, S27, rfl, hw, hW⟩ := hp
        refine z_st (st' := [.int (Int32.ofInt (r26))]) rfl ?_
        refine z_goto (tgt := 125) dX11_areSame_100 (by decide) ?_
        refine z_loc (L' := [(0, .ref (G.1 + 54)), (1, .int (Int32.ofInt (l1))), (2, .int (Int32.ofInt (l2))), (3, .int (Int32.ofInt (l3))), (5, .int (Int32.ofInt (l5))), (6, .int (Int32.ofInt (x9))), (7, .int (Int32.ofInt (x10))), (8, .int (Int32.ofInt (x13)))]) (List.forall_mem_cons.mpr ⟨rfl, (List.forall_mem_cons.mpr ⟨rfl, (List.forall_mem_cons.mpr ⟨rfl, (List.forall_mem_cons.mpr ⟨rfl, (List.forall_mem_cons.mpr ⟨rfl, (List.forall_mem_cons.mpr ⟨rfl, (List.forall_mem_cons.mpr ⟨rfl, (List.forall_mem_cons.mpr ⟨rfl, (fun _ h => nomatch h)⟩)⟩)⟩)⟩)⟩)⟩)⟩)⟩) ?_
        exact bX11_areSame_125 hd hJ hT hW hP hB28 hw
def wX11_areSame_28 (l1 l2 l3 l4 l5 : Int) (S : St) (K : Int → St → Prop) : Prop := ∃ (Iv : Int → Int → Int → Int → Int → St → Prop) (mu : Int → Int → Int → Int → Int → St → Nat), Iv l1 l2 l3 l4 l5 S ∧ ∀ (l1 l2 l3 l4 l5 : Int) (S : St), Iv l1 l2 l3 l4 l5 S → wX11_areSame_28' l1 l2 l3 l4 l5 S K  (fun ml1 ml2 ml3 ml4 ml5 T => Iv ml1 ml2 ml3 ml4 ml5 T ∧ mu ml1 ml2 ml3 ml4 ml5 T < mu l1 l2 l3 l4 l5 S)
set_option maxRecDepth 100000 in
set_option maxHeartbeats 4000000 in
theorem bX11_areSame_28 {G : xG} {sh : Nat → Option Sh} {J : St → List va_E → Prop} {d : Nat} {Post : xP} {l1 l2 l3 l4 l5 : Int} {S : St} {cs : List va_E} {K : Int → St → Prop} (hd : 1 ≤ d) (hJ : Stb sh J) (hT : isM sh) (hW : Wd G sh mT J S cs) (hP : ∀ (v : Int) (S : St) (cs : List va_E), K v S → Wd G sh mT J S cs → Post (some (.int (Int32.ofInt v))) cs)  (hw : wX11_areSame_28 l1 l2 l3 l4 l5 S K ) : Z (RX11, cX11_areSame, 12, some .boolean, false) G d Post 28 [(0, .ref (G.1 + 54)), (1, .int (Int32.ofInt (l1))), (2, .int (Int32.ofInt (l2))), (3, .int (Int32.ofInt (l3))), (4, .int (Int32.ofInt (l4))), (5, .int (Int32.ofInt (l5)))] [] cs := by
  unfold wX11_areSame_28 at hw
  obtain ⟨Iv, mu, h0, hs⟩ := hw
  have key : ∀ (n : Nat) (l1 l2 l3 l4 l5 : Int) (S : St) (cs : List va_E), mu l1 l2 l3 l4 l5 S < n → Iv l1 l2 l3 l4 l5 S → Wd G sh mT J S cs → Z (RX11, cX11_areSame, 12, some .boolean, false) G d Post 28 [(0, .ref (G.1 + 54)), (1, .int (Int32.ofInt (l1))), (2, .int (Int32.ofInt (l2))), (3, .int (Int32.ofInt (l3))), (4, .int (Int32.ofInt (l4))), (5, .int (Int32.ofInt (l5)))] [] cs := by
    intro n
    induction n with
    | zero => intro l1 l2 l3 l4 l5 S cs hn; exact absurd hn (Nat.not_lt_zero _)
    | succ n ih =>
      intro l1 l2 l3 l4 l5 S cs hn hI hW
      exact bX11_areSame_28' hd hJ hT hW hP  (fun l1 l2 l3 l4 l5 S cs hb hW => ih l1 l2 l3 l4 l5 S cs (Nat.lt_of_lt_of_le hb.2 (Nat.le_of_lt_succ hn)) hb.1 hW) (hs l1 l2 l3 l4 l5 S hI)
  exact key _ _ _ _ _ _ _ _ (Nat.lt_succ_self _) h0 hW
def wX11_areSame (a1 a2 : Int) (S : St) (K : Int → St → Prop) : Prop := rng a1 → rng a2 → ((0 : Int) ≤ a1 ∧ a1 < (90 : Int) ∧ (iv 0 5 (S.2 68 (a1)) → (∀ x3 : Int, x3 = S.2 68 (a1) → ((0 : Int) ≤ (30 + a2) ∧ (30 + a2) < (90 : Int) ∧ (iv 0 5 (S.2 68 ((30 + a2))) → ((x3 = S.2 68 ((30 + a2)) → wX11_areSame_28 (a1) (a2) (x3) (1) (0) S K) ∧ ((¬ (x3 = S.2 68 ((30 + a2)))) → K (0) S)))))))
set_option maxRecDepth 100000 in
set_option maxHeartbeats 4000000 in
theorem lX11_areSame {G : xG} {sh : Nat → Option Sh} {J : St → List va_E → Prop} {a1 a2 : Int} {S : St} {cs : List va_E} {K : Int → St → Prop} (d : Nat) (hd : 1 ≤ d) (hJ : Stb sh J) (hT : isM sh) (hW : Wd G sh mT J S cs) (g1 : rng a1) (g2 : rng a2) (hw : wX11_areSame a1 a2 S K) : X G yX11_areSame cX11_areSame 12 (some .boolean) d [.ref (G.1 + 54), .int (Int32.ofInt a1), .int (Int32.ofInt a2)] cs (qI G sh mT J K) := by
  refine X.of false (by decide +kernel) (by decide) (Nat.le_of_ble_eq_true rfl) ?_
  show Z (RX11, cX11_areSame, 12, some .boolean, false) G d _ 0 [(0, .ref (G.1 + 54)), (1, .int (Int32.ofInt a1)), (2, .int (Int32.ofInt a2))] [] cs
  have hP : ∀ (v : Int) (S : St) (cs : List va_E), K v S → Wd G sh mT J S cs → qI G sh mT J K (some (.int (Int32.ofInt v))) cs := fun v S cs a b => ⟨v, S, rfl, a, b⟩
  unfold wX11_areSame at hw
  have hw := hw g1 g2
  refine z_aload_n dX11_areSame_0 rfl rfl ?_
  refine g_getR hW hT.1 mr15 kX11 fX11_50 dX11_areSame_1 ?_
  refine z_iload_n dX11_areSame_4 rfl rfl ?_
  obtain ⟨q1a, q1b, hw⟩ := hw
  have q2 : iv 0 5 (S.2 68 (a1)) := mA68 hW _
  have hw := hw q2
  refine g_iald hW (ma68 hT) q1a q1b (by decide) dX11_areSame_5 ?_
  obtain ⟨x3, hx3⟩ : ∃ x : Int, x = S.2 68 (a1) := ⟨_, rfl⟩
  have hw := hw x3 hx3
  refine z_st (st' := [.int (Int32.ofInt x3)]) (by rw [hx3]) ?_
  have q4 : rng x3 := by rw [hx3]; exact (rngq q2 (by decide) (by decide))
  have q5 : iv 0 5 x3 := by rw [hx3]; exact q2
  refine z_istore_n dX11_areSame_6 rfl (by decide) ?_
  refine z_loc (L' := [(0, .ref (G.1 + 54)), (1, .int (Int32.ofInt (a1))), (2, .int (Int32.ofInt (a2))), (3, .int (Int32.ofInt (x3)))]) (List.forall_mem_cons.mpr ⟨rfl, (List.forall_mem_cons.mpr ⟨rfl, (List.forall_mem_cons.mpr ⟨rfl, (List.forall_mem_cons.mpr ⟨rfl, (fun _ h => nomatch h)⟩)⟩)⟩)⟩) ?_
  refine z_iload_n dX11_areSame_7 rfl rfl ?_
  refine z_aload_n dX11_areSame_8 rfl rfl ?_
  refine g_getR hW hT.1 mr15 kX11 fX11_50 dX11_areSame_9 ?_
  refine z_bipush (v := Int32.ofInt 30) dX11_areSame_12 (by decide) ?_
  refine z_iload_n dX11_areSame_14 rfl rfl ?_
  refine i_iadd dX11_areSame_15 ?_
  obtain ⟨q6a, q6b, hw⟩ := hw
  have q7 : iv 0 5 (S.2 68 ((30 + a2))) := mA68 hW _
  have hw := hw q7
  refine g_iald hW (ma68 hT) q6a q6b (by decide) dX11_areSame_16 ?_
  refine i_icmp_eq (tgt := 22) dX11_areSame_17 (by decide) q4 (rngq q7 (by decide) (by decide)) (fun h8 => ?_) (fun h8 => ?_)
  · have hw := hw.1 h8
    refine z_iconst (v := Int32.ofInt 1) dX11_areSame_22 rfl ?_
    refine z_istore dX11_areSame_23 (by decide) ?_
    refine z_loc (L' := [(0, .ref (G.1 + 54)), (1, .int (Int32.ofInt (a1))), (2, .int (Int32.ofInt (a2))), (3, .int (Int32.ofInt (x3))), (4, .int (Int32.ofInt (1)))]) (List.forall_mem_cons.mpr ⟨rfl, (List.forall_mem_cons.mpr ⟨rfl, (List.forall_mem_cons.mpr ⟨rfl, (List.forall_mem_cons.mpr ⟨rfl, (List.forall_mem_cons.mpr ⟨rfl, (fun _ h => nomatch h)⟩)⟩)⟩)⟩)⟩) ?_
    refine z_iconst (v := Int32.ofInt 0) dX11_areSame_25 rfl ?_
    refine z_istore dX11_areSame_26 (by decide) ?_
    refine z_loc (L' := [(0, .ref (G.1 + 54)), (1, .int (Int32.ofInt (a1))), (2, .int (Int32.ofInt (a2))), (3, .int (Int32.ofInt (x3))), (4, .int (Int32.ofInt (1))), (5, .int (Int32.ofInt (0)))]) (List.forall_mem_cons.mpr ⟨rfl, (List.forall_mem_cons.mpr ⟨rfl, (List.forall_mem_cons.mpr ⟨rfl, (List.forall_mem_cons.mpr ⟨rfl, (List.forall_mem_cons.mpr ⟨rfl, (List.forall_mem_cons.mpr ⟨rfl, (fun _ h => nomatch h)⟩)⟩)⟩)⟩)⟩)⟩) ?_
    refine z_loc (L' := [(0, .ref (G.1 + 54)), (1, .int (Int32.ofInt (a1))), (2, .int (Int32.ofInt (a2))), (3, .int (Int32.ofInt (x3))), (4, .int (Int32.ofInt (1))), (5, .int (Int32.ofInt (0)))]) (List.forall_mem_cons.mpr ⟨rfl, (List.forall_mem_cons.mpr ⟨rfl, (List.forall_mem_cons.mpr ⟨rfl, (List.forall_mem_cons.mpr ⟨rfl, (List.forall_mem_cons.mpr ⟨rfl, (List.forall_mem_cons.mpr ⟨rfl, (fun _ h => nomatch h)⟩)⟩)⟩)⟩)⟩)⟩) ?_
    exact bX11_areSame_28 hd hJ hT hW hP  hw
  · have hw := hw.2 h8
    refine z_iconst (v := Int32.ofInt 0) dX11_areSame_20 rfl ?_
    exact z_ireturn dX11_areSame_21 rfl (nar01 (by decide)) (hP _ _ _ hw hW)

