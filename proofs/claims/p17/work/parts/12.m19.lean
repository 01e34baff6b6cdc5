def wX11_lists_178 (l1 : Int) (S : St) (K : Int → St → Prop) : Prop := ((0 : Int) ≤ l1 ∧ l1 < (24 : Int) ∧ (iv 0 4 (S.2 80 (l1)) → ((0 : Int) ≤ l1 ∧ l1 < (24 : Int) ∧ (iv 0 4 ((S.2 80 (l1) + 1)) ∧ (∀ S4, S4 = pA S 80 (l1) ((S.2 80 (l1) + 1)) → ((0 : Int) ≤ l1 ∧ l1 < (24 : Int) ∧ (∀ S7, S7 = pA S4 81 (l1) (0) → K (1) S7)))))))
set_option maxRecDepth 100000 in
set_option maxHeartbeats 4000000 in
theorem bX11_lists_178 {G : xG} {sh : Nat → Option Sh} {J : St → List va_E → Prop} {d : Nat} {Post : xP} {l1 : Int} {S : St} {cs : List va_E} {K : Int → St → Prop} (hd : 7 ≤ d) (hJ : Stb sh J) (hT : isM sh) (hW : Wd G sh mT J S cs) (hP : ∀ (v : Int) (S : St) (cs : List va_E), K v S → Wd G sh mT J S cs → Post (some (.int (Int32.ofInt v))) cs)  (hw : wX11_lists_178 l1 S K ) : Z (RX11, cX11_lists, 8, some .boolean, false) G d Post 178 [(0, .ref (G.1 + 54)), (1, .int (Int32.ofInt (l1)))] [] cs := by
  unfold wX11_lists_178 at hw
  refine z_aload_n dX11_lists_178 rfl rfl ?_
  refine g_getR hW hT.1 mr36 kX11 fX11_90 dX11_lists_179 ?_
  refine z_iload_n dX11_lists_182 rfl rfl ?_
  refine z_dup2 dX11_lists_183 rfl rfl ?_
  obtain ⟨q1a, q1b, hw⟩ := hw
  have q2 : iv 0 4 (S.2 80 (l1)) := mA80 hW _
  have hw := hw q2
  refine g_iald hW (ma80 hT) q1a q1b (by decide) dX11_lists_184 ?_
  refine z_iconst (v := Int32.ofInt 1) dX11_lists_185 rfl ?_
  refine i_iadd dX11_lists_186 ?_
  obtain ⟨q3a, q3b, hw⟩ := hw
  obtain ⟨q5, hw⟩ := hw
  refine g_iast hJ hW (ma80 hT) q3a q3b (by decide) q5 dX11_lists_187 (fun cs hW => ?_)
  obtain ⟨S4, hS4⟩ : ∃ x, x = pA S 80 (l1) ((S.2 80 (l1) + 1)) := ⟨_, rfl⟩
  rw [← hS4] at hW
  have hw := hw S4 hS4
  refine z_aload_n dX11_lists_188 rfl rfl ?_
  refine g_getR hW hT.1 mr37 kX11 fX11_93 dX11_lists_189 ?_
  refine z_iload_n dX11_lists_192 rfl rfl ?_
  refine z_iconst (v := Int32.ofInt 0) dX11_lists_193 rfl ?_
  obtain ⟨q6a, q6b, hw⟩ := hw
  refine g_iast hJ hW (ma81 hT) q6a q6b (by decide) ⟨by decide, by decide⟩ dX11_lists_194 (fun cs hW => ?_)
  obtain ⟨S7, hS7⟩ : ∃ x, x = pA S4 81 (l1) (0) := ⟨_, rfl⟩
  rw [← hS7] at hW
  have hw := hw S7 hS7
  refine z_iconst (v := Int32.ofInt 1) dX11_lists_195 rfl ?_
  exact z_ireturn dX11_lists_196 rfl (nar01 (by decide)) (hP _ _ _ hw hW)
def wX11_lists_145 (l4 l7 s0 s1 : Int) (S : St) (K : Int → St → Prop) : Prop := ((0 : Int) ≤ l7 ∧ l7 < (90 : Int) ∧ (iv 0 5 (S.2 68 (l7)) → (rng (s1) ∧ (rng (s0) ∧ (rng (l4) ∧ (wX11_child (s1) (s0) (S.2 68 (l7)) (0) (l4) S (fun r6 S7 => (iv 0 1 (r6) ∧ K (r6) S7))))))))
set_option maxRecDepth 100000 in
set_option maxHeartbeats 4000000 in
theorem bX11_lists_145 {G : xG} {sh : Nat → Option Sh} {J : St → List va_E → Prop} {d : Nat} {Post : xP} {l4 l7 s0 s1 : Int} {S : St} {cs : List va_E} {K : Int → St → Prop} (hd : 7 ≤ d) (hJ : Stb sh J) (hT : isM sh) (hW : Wd G sh mT J S cs) (hP : ∀ (v : Int) (S : St) (cs : List va_E), K v S → Wd G sh mT J S cs → Post (some (.int (Int32.ofInt v))) cs)  (hw : wX11_lists_145 l4 l7 s0 s1 S K ) : Z (RX11, cX11_lists, 8, some .boolean, false) G d Post 145 [(0, .ref (G.1 + 54)), (4, .int (Int32.ofInt (l4))), (7, .int (Int32.ofInt (l7)))] [.int (Int32.ofInt (s0)), .int (Int32.ofInt (s1)), .ref (G.1 + 54)] cs := by
  unfold wX11_lists_145 at hw
  refine z_aload_n dX11_lists_145 rfl rfl ?_
  refine g_getR hW hT.1 mr15 kX11 fX11_50 dX11_lists_146 ?_
  refine z_iload dX11_lists_149 rfl ?_
  obtain ⟨q1a, q1b, hw⟩ := hw
  have q2 : iv 0 5 (S.2 68 (l7)) := mA68 hW _
  have hw := hw q2
  refine g_iald hW (ma68 hT) q1a q1b (by decide) dX11_lists_151 ?_
  refine z_iconst (v := Int32.ofInt 0) dX11_lists_152 rfl ?_
  refine z_iload dX11_lists_153 rfl ?_
  obtain ⟨q3, hw⟩ := hw
  obtain ⟨q4, hw⟩ := hw
  obtain ⟨q5, hw⟩ := hw
  have hX := lX11_child 6 (Nat.le_refl _) hJ hT hW q3 q4 (rngq q2 (by decide) (by decide)) ⟨by decide, by decide⟩ q5 hw
  refine z_callV (As := [_, _, _, _, _]) eX11_child sX11_child lX11_333 rfl dX11_lists_155 (hW.1 _ _ hT.1) hX (Nat.le_trans (by decide) hd) rfl (Nat.le_of_ble_eq_true rfl) (fun r cs hp => ?_)
  obtain ⟨r6, S7, rfl, hw, hW⟩ := hp
  refine z_st (st' := [.int (Int32.ofInt (r6))]) rfl ?_
  obtain ⟨q8, hw⟩ := hw
  exact z_ireturn dX11_lists_158 rfl (nar01 (b01 q8)) (hP _ _ _ hw hW)
def wX11_lists_74 (l1 l2 l3 l4 l5 l6 : Int) (S : St) (K : Int → St → Prop) : Prop := (rng (l6) ∧ (rng (l3) ∧ ((l3 ≤ l6 → ((0 : Int) ≤ l2 ∧ l2 < (24 : Int) ∧ (iv 0 1 (S.2 60 (l2)) → ((¬ S.2 60 (l2) = 0 → wX11_lists_178 (l1) S K) ∧ ((¬ (¬ S.2 60 (l2) = 0)) → ((l3 ≤ 0 → wX11_lists_178 (l1) S K) ∧ ((¬ (l3 ≤ 0)) → (rng (l5) ∧ (wX11_end (l5) S (fun r9 S10 => wX11_lists_178 (l1) S10 K)))))))))) ∧ ((¬ (l3 ≤ l6)) → ((0 : Int) ≤ l1 ∧ l1 < (24 : Int) ∧ (iv 0 8 (S.2 81 (l1)) → ((0 : Int) ≤ l1 ∧ l1 < (24 : Int) ∧ (iv 0 8 ((S.2 81 (l1) + 1)) ∧ (∀ S14, S14 = pA S 81 (l1) ((S.2 81 (l1) + 1)) → ((0 : Int) ≤ l1 ∧ l1 < (24 : Int) ∧ (iv 0 29 (S14.2 77 (l1)) → ((0 : Int) ≤ l1 ∧ l1 < (24 : Int) ∧ (iv 0 4 (S14.2 80 (l1)) → ((0 : Int) ≤ ((20 * ((4 * S14.2 77 (l1)) + S14.2 80 (l1))) + l6) ∧ ((20 * ((4 * S14.2 77 (l1)) + S14.2 80 (l1))) + l6) < (7200 : Int) ∧ (iv (-2147483648) 2147483647 (S14.2 70 (((20 * ((4 * S14.2 77 (l1)) + S14.2 80 (l1))) + l6))) → (∀ x22 : Int, x22 = S14.2 70 (((20 * ((4 * S14.2 77 (l1)) + S14.2 80 (l1))) + l6)) → ((0 : Int) ≤ l2 ∧ l2 < (24 : Int) ∧ (iv 0 1 (S14.2 60 (l2)) → ((S14.2 60 (l2) = 0 → ((0 : Int) ≤ l1 ∧ l1 < (24 : Int) ∧ (iv (-2) 899 (S14.2 82 (l1)) → wX11_lists_145 (l4) (x22) (S14.2 82 (l1)) (x22) S14 K))) ∧ ((¬ (S14.2 60 (l2) = 0)) → ((0 : Int) ≤ l1 ∧ l1 < (24 : Int) ∧ (iv 0 899 (S14.2 78 (l1)) → wX11_lists_145 (l4) (x22) (S14.2 78 (l1)) (x22) S14 K))))))))))))))))))))))
set_option maxRecDepth 100000 in
set_option maxHeartbeats 4000000 in
theorem bX11_lists_74 {G : xG} {sh : Nat → Option Sh} {J : St → List va_E → Prop} {d : Nat} {Post : xP} {l1 l2 l3 l4 l5 l6 : Int} {S : St} {cs : List va_E} {K : Int → St → Prop} (hd : 7 ≤ d) (hJ : Stb sh J) (hT : isM sh) (hW : Wd G sh mT J S cs) (hP : ∀ (v : Int) (S : St) (cs : List va_E), K v S → Wd G sh mT J S cs → Post (some (.int (Int32.ofInt v))) cs)  (hw : wX11_lists_74 l1 l2 l3 l4 l5 l6 S K ) : Z (RX11, cX11_lists, 8, some .boolean, false) G d Post 74 [(0, .ref (G.1 + 54)), (1, .int (Int32.ofInt (l1))), (2, .int (Int32.ofInt (l2))), (3, .int (Int32.ofInt (l3))), (4, .int (Int32.ofInt (l4))), (5, .int (Int32.ofInt (l5))), (6, .int (Int32.ofInt (l6)))] [] cs := by
  unfold wX11_lists_74 at hw
  refine z_iload dX11_lists_74 rfl ?_
  refine z_iload_n dX11_lists_76 rfl rfl ?_
  obtain ⟨q2, hw⟩ := hw
  obtain ⟨q3, hw⟩ := hw
  refine i_icmp_ge (tgt := 159) dX11_lists_77 (by decide) q2 q3 (fun h1 => ?_) (fun h1 => ?_)
  · have hw := hw.1 h1
    refine z_aload_n dX11_lists_159 rfl rfl ?_
    refine g_getR hW hT.1 mr7 kX11 fX11_25 dX11_lists_160 ?_
    refine z_iload_n dX11_lists_163 rfl rfl ?_
    obtain ⟨q4a, q4b, hw⟩ := hw
    have q5 : iv 0 1 (S.2 60 (l2)) := mA60 hW _
    have hw := hw q5
    refine g_zald hW (ma60 hT) q4a q4b (by decide) dX11_lists_164 ?_
    refine i_if_ne (tgt := 178) dX11_lists_165 (by decide) (rngq q5 (by decide) (by decide)) (fun h6 => ?_) (fun h6 => ?_)
    · have hw := hw.1 h6
      refine z_loc (L' := [(0, .ref (G.1 + 54)), (1, .int (Int32.ofInt (l1)))]) (List.forall_mem_cons.mpr ⟨rfl, (List.forall_mem_cons.mpr ⟨rfl, (fun _ h => nomatch h)⟩)⟩) ?_
      exact bX11_lists_178 hd hJ hT hW hP  hw
    · have hw := hw.2 h6
      refine z_iload_n dX11_lists_168 rfl rfl ?_
      refine i_if_le (tgt := 178) dX11_lists_169 (by decide) q3 (fun h7 => ?_) (fun h7 => ?_)
      · have hw := hw.1 h7
        refine z_loc (L' := [(0, .ref (G.1 + 54)), (1, .int (Int32.ofInt (l1)))]) (List.forall_mem_cons.mpr ⟨rfl, (List.forall_mem_cons.mpr ⟨rfl, (fun _ h => nomatch h)⟩)⟩) ?_
        exact bX11_lists_178 hd hJ hT hW hP  hw
      · have hw := hw.2 h7
        refine z_aload_n dX11_lists_172 rfl rfl ?_
        refine z_iload dX11_lists_173 rfl ?_
        obtain ⟨q8, hw⟩ := hw
        have hX := lX11_end 2 (Nat.le_refl _) hJ hT hW q8 hw
        refine z_callV (As := [_]) eX11_end sX11_end lX11_326 rfl dX11_lists_175 (hW.1 _ _ hT.1) hX (Nat.le_trans (by decide) hd) rfl (Nat.le_of_ble_eq_true rfl) (fun r cs hp => ?_)
        obtain ⟨r9, S10, rfl, hw, hW⟩ := hp
        refine z_st (st' := []) rfl ?_
        refine z_loc (L' := [(0, .ref (G.1 + 54)), (1, .int (Int32.ofInt (l1)))]) (List.forall_mem_cons.mpr ⟨rfl, (List.forall_mem_cons.mpr ⟨rfl, (fun _ h => nomatch h)⟩)⟩) ?_
        exact bX11_lists_178 hd hJ hT hW hP  hw
  · have hw := hw.2 h1
    refine z_aload_n dX11_lists_80 rfl rfl ?_
    refine g_getR hW hT.1 mr37 kX11 fX11_93 dX11_lists_81 ?_
    refine z_iload_n dX11_lists_84 rfl rfl ?_
    refine z_dup2 dX11_lists_85 rfl rfl ?_
    obtain ⟨q11a, q11b, hw⟩ := hw
    have q12 : iv 0 8 (S.2 81 (l1)) := mA81 hW _
    have hw := hw q12
    refine g_iald hW (ma81 hT) q11a q11b (by decide) dX11_lists_86 ?_
    refine z_iconst (v := Int32.ofInt 1) dX11_lists_87 rfl ?_
    refine i_iadd dX11_lists_88 ?_
    obtain ⟨q13a, q13b, hw⟩ := hw
    obtain ⟨q15, hw⟩ := hw
    refine g_iast hJ hW (ma81 hT) q13a q13b (by decide) q15 dX11_lists_89 (fun cs hW => ?_)
    obtain ⟨S14, hS14⟩ : ∃ x, x = pA S 81 (l1) ((S.2 81 (l1) + 1)) := ⟨_, rfl⟩
    rw [← hS14] at hW
    have hw := hw S14 hS14
    refine z_aload_n dX11_lists_90 rfl rfl ?_
    refine g_getR hW hT.1 mr17 kX11 fX11_56 dX11_lists_91 ?_
    refine z_bipush (v := Int32.ofInt 20) dX11_lists_94 (by decide) ?_
    refine z_iconst (v := Int32.ofInt 4) dX11_lists_96 rfl ?_
    refine z_aload_n dX11_lists_97 rfl rfl ?_
    refine g_getR hW hT.1 mr33 kX11 fX11_81 dX11_lists_98 ?_
    refine z_iload_n dX11_lists_101 rfl rfl ?_
    obtain ⟨q16a, q16b, hw⟩ := hw
    have q17 : iv 0 29 (S14.2 77 (l1)) := mA77 hW _
    have hw := hw q17
    refine g_iald hW (ma77 hT) q16a q16b (by decide) dX11_lists_102 ?_
    refine i_imul dX11_lists_103 ?_
    refine z_aload_n dX11_lists_104 rfl rfl ?_
    refine g_getR hW hT.1 mr36 kX11 fX11_90 dX11_lists_105 ?_
    refine z_iload_n dX11_lists_108 rfl rfl ?_
    obtain ⟨q18a, q18b, hw⟩ := hw
    have q19 : iv 0 4 (S14.2 80 (l1)) := mA80 hW _
    have hw := hw q19
    refine g_iald hW (ma80 hT) q18a q18b (by decide) dX11_lists_109 ?_
    refine i_iadd dX11_lists_110 ?_
    refine i_imul dX11_lists_111 ?_
    refine z_iload dX11_lists_112 rfl ?_
    refine i_iadd dX11_lists_114 ?_
    obtain ⟨q20a, q20b, hw⟩ := hw
    have q21 : iv (-2147483648) 2147483647 (S14.2 70 (((20 * ((4 * S14.2 77 (l1)) + S14.2 80 (l1))) + l6))) := mA70 hW _
    have hw := hw q21
    refine g_iald hW (ma70 hT) q20a q20b (by decide) dX11_lists_115 ?_
    obtain ⟨x22, hx22⟩ : ∃ x : Int, x = S14.2 70 (((20 * ((4 * S14.2 77 (l1)) + S14.2 80 (l1))) + l6)) := ⟨_, rfl⟩
    have hw := hw x22 hx22
    refine z_st (st' := [.int (Int32.ofInt x22)]) (by rw [hx22]) ?_
    have q23 : rng x22 := by rw [hx22]; exact (rngq q21 (by decide) (by decide))
    have q24 : iv (-2147483648) 2147483647 x22 := by rw [hx22]; exact q21
    refine z_istore dX11_lists_116 (by decide) ?_
    refine z_loc (L' := [(0, .ref (G.1 + 54)), (1, .int (Int32.ofInt (l1))), (2, .int (Int32.ofInt (l2))), (3, .int (Int32.ofInt (l3))), (4, .int (Int32.ofInt (l4))), (5, .int (Int32.ofInt (l5))), (6, .int (Int32.ofInt (l6))), (7, .int (Int32.ofInt (x22)))]) (List.forall_mem_cons.mpr ⟨rfl, (List.forall_mem_cons.mpr ⟨rfl, (List.forall_mem_cons.mpr ⟨rfl, (List.forall_mem_cons.mpr ⟨rfl, (List.forall_mem_cons.mpr ⟨rfl, (List.forall_mem_cons.mpr ⟨rfl, (List.forall_mem_cons.mpr ⟨rfl, (List.forall_mem_cons.mpr ⟨rfl, (fun _ h => nomatch h)⟩)⟩)⟩)⟩)⟩)⟩)⟩)⟩) ?_
    refine z_aload_n dX11_lists_118 rfl rfl ?_
    refine z_iload dX11_lists_119 rfl ?_
    refine z_aload_n dX11_lists_121 rfl rfl ?_
    refine g_getR hW hT.1 mr7 kX11 fX11_25 dX11_lists_122 ?_
    refine z_iload_n dX11_lists_125 rfl rfl ?_
    obtain ⟨q25a, q25b, hw⟩ := hw
    have q26 : iv 0 1 (S14.2 60 (l2)) := mA60 hW _
    have hw := hw q26
    refine g_zald hW (ma60 hT) q25a q25b (by decide) dX11_lists_126 ?_
    refine i_if_eq (tgt := 139) dX11_lists_127 (by decide) (rngq q26 (by decide) (by decide)) (fun h27 => ?_) (fun h27 => ?_)
    · have hw := hw.1 h27
      refine z_aload_n dX11_lists_139 rfl rfl ?_
      refine g_getR hW hT.1 mr38 kX11 fX11_96 dX11_lists_140 ?_
      refine z_iload_n dX11_lists_143 rfl rfl ?_
      obtain ⟨q28a, q28b, hw⟩ := hw
      have q29 : iv (-2) 899 (S14.2 82 (l1)) := mA82 hW _
      have hw := hw q29
      refine g_iald hW (ma82 hT) q28a q28b (by decide) dX11_lists_144 ?_
      refine z_loc (L' := [(0, .ref (G.1 + 54)), (4, .int (Int32.ofInt (l4))), (7, .int (Int32.ofInt (x22)))]) (List.forall_mem_cons.mpr ⟨rfl, (List.forall_mem_cons.mpr ⟨rfl, (List.forall_mem_cons.mpr ⟨rfl, (fun _ h => nomatch h)⟩)⟩)⟩) ?_
      exact bX11_lists_145 hd hJ hT hW hP  hw
    · have hw := hw.2 h27
      refine z_aload_n dX11_lists_130 rfl rfl ?_
      refine g_getR hW hT.1 mr34 kX11 fX11_84 dX11_lists_131 ?_
      refine z_iload_n dX11_lists_134 rfl rfl ?_
      obtain ⟨q30a, q30b, hw⟩ := hw
      have q31 : iv 0 899 (S14.2 78 (l1)) := mA78 hW _
      have hw := hw q31
      refine g_iald hW (ma78 hT) q30a q30b (by decide) dX11_lists_135 ?_
      refine z_goto (tgt := 145) dX11_lists_136 (by decide) ?_
      refine z_loc (L' := [(0, .ref (G.1 + 54)), (4, .int (Int32.ofInt (l4))), (7, .int (Int32.ofInt (x22)))]) (List.forall_mem_cons.mpr ⟨rfl, (List.forall_mem_cons.mpr ⟨rfl, (List.forall_mem_cons.mpr ⟨rfl, (fun _ h => nomatch h)⟩)⟩)⟩) ?_
      exact bX11_lists_145 hd hJ hT hW hP  hw
def wX11_lists_68 (l1 l2 l3 l4 l5 l6 : Int) (S : St) (K : Int → St → Prop) : Prop := (wX11_put (62) S (fun r1 S2 => wX11_lists_74 (l1) (l2) (l3) (l4) (l5) (l6) S2 K))
set_option maxRecDepth 100000 in
set_option maxHeartbeats 4000000 in
theorem bX11_lists_68 {G : xG} {sh : Nat → Option Sh} {J : St → List va_E → Prop} {d : Nat} {Post : xP} {l1 l2 l3 l4 l5 l6 : Int} {S : St} {cs : List va_E} {K : Int → St → Prop} (hd : 7 ≤ d) (hJ : Stb sh J) (hT : isM sh) (hW : Wd G sh mT J S cs) (hP : ∀ (v : Int) (S : St) (cs : List va_E), K v S → Wd G sh mT J S cs → Post (some (.int (Int32.ofInt v))) cs)  (hw : wX11_lists_68 l1 l2 l3 l4 l5 l6 S K ) : Z (RX11, cX11_lists, 8, some .boolean, false) G d Post 68 [(0, .ref (G.1 + 54)), (1, .int (Int32.ofInt (l1))), (2, .int (Int32.ofInt (l2))), (3, .int (Int32.ofInt (l3))), (4, .int (Int32.ofInt (l4))), (5, .int (Int32.ofInt (l5))), (6, .int (Int32.ofInt (l6)))] [] cs := by
  unfold wX11_lists_68 at hw
  refine z_aload_n dX11_lists_68 rfl rfl ?_
  refine z_bipush (v := Int32.ofInt 62) dX11_lists_69 (by decide) ?_
  have hX := lX11_put 0 (Nat.le_refl _) hJ hT hW ⟨by decide, by decide⟩ hw
  refine z_callV (As := [_]) eX11_put sX11_put lX11_260 rfl dX11_lists_71 (hW.1 _ _ hT.1) hX (Nat.le_trans (by decide) hd) rfl (Nat.le_of_ble_eq_true rfl) (fun r cs hp => ?_)
  obtain ⟨r1, S2, rfl, hw, hW⟩ := hp
  refine z_st (st' := []) rfl ?_
  refine z_loc (L' := [(0, .ref (G.1 + 54)), (1, .int (Int32.ofInt (l1))), (2, .int (Int32.ofInt (l2))), (3, .int (Int32.ofInt (l3))), (4, .int (Int32.ofInt (l4))), (5, .int (Int32.ofInt (l5))), (6, .int (Int32.ofInt (l6)))]) (List.forall_mem_cons.mpr ⟨rfl, (List.forall_mem_cons.mpr ⟨rfl, (List.forall_mem_cons.mpr ⟨rfl, (List.forall_mem_cons.mpr ⟨rfl, (List.forall_mem_cons.mpr ⟨rfl, (List.forall_mem_cons.mpr ⟨rfl, (List.forall_mem_cons.mpr ⟨rfl, (fun _ h => nomatch h)⟩)⟩)⟩)⟩)⟩)⟩)⟩) ?_
  exact bX11_lists_74 hd hJ hT hW hP  hw
def wX11_lists (a1 a2 a3 a4 : Int) (S : St) (K : Int → St → Prop) : Prop := rng a1 → rng a2 → rng a3 → rng a4 → (∀ x1 : Int, x1 = (6 + a2) → ((0 : Int) ≤ a1 ∧ a1 < (24 : Int) ∧ (iv 0 8 (S.2 81 (a1)) → (∀ x4 : Int, x4 = S.2 81 (a1) → ((¬ x4 = 0 → wX11_lists_74 (a1) (a2) (a3) (a4) (x1) (x4) S K) ∧ ((¬ (¬ x4 = 0)) → ((0 : Int) ≤ a2 ∧ a2 < (24 : Int) ∧ (iv 0 1 (S.2 60 (a2)) → ((¬ S.2 60 (a2) = 0 → wX11_lists_74 (a1) (a2) (a3) (a4) (x1) (x4) S K) ∧ ((¬ (¬ S.2 60 (a2) = 0)) → ((0 : Int) ≤ a1 ∧ a1 < (24 : Int) ∧ (iv 0 899 (S.2 78 (a1)) → (rng (x1) ∧ (wX11_element (S.2 78 (a1)) (x1) S (fun r14 S15 => ((0 : Int) ≤ a1 ∧ a1 < (24 : Int) ∧ (iv (-2) 899 (r14) ∧ (∀ S17, S17 = pA S15 82 (a1) (r14) → (wX11_put (60) S17 (fun r19 S20 => (wX11_putName (x1) S20 (fun r21 S22 => ((¬ a3 = 0 → wX11_lists_68 (a1) (a2) (a3) (a4) (x1) (x4) S22 K) ∧ ((¬ (¬ a3 = 0)) → (wX11_put (47) S22 (fun r24 S25 => wX11_lists_68 (a1) (a2) (a3) (a4) (x1) (x4) S25 K))))))))))))))))))))))))))
set_option maxRecDepth 100000 in
set_option maxHeartbeats 4000000 in
theorem lX11_lists {G : xG} {sh : Nat → Option Sh} {J : St → List va_E → Prop} {a1 a2 a3 a4 : Int} {S : St} {cs : List va_E} {K : Int → St → Prop} (d : Nat) (hd : 7 ≤ d) (hJ : Stb sh J) (hT : isM sh) (hW : Wd G sh mT J S cs) (g1 : rng a1) (g2 : rng a2) (g3 : rng a3) (g4 : rng a4) (hw : wX11_lists a1 a2 a3 a4 S K) : X G yX11_lists cX11_lists 8 (some .boolean) d [.ref (G.1 + 54), .int (Int32.ofInt a1), .int (Int32.ofInt a2), .int (Int32.ofInt a3), .int (Int32.ofInt a4)] cs (qI G sh mT J K) := by
  refine X.of false (by decide +kernel) (by decide) (Nat.le_of_ble_eq_true rfl) ?_
  show Z (RX11, cX11_lists, 8, some .boolean, false) G d _ 0 [(0, .ref (G.1 + 54)), (1, .int (Int32.ofInt a1)), (2, .int (Int32.ofInt a2)), (3, .int (Int32.ofInt a3)), (4, .int (Int32.ofInt a4))] [] cs
  have hP : ∀ (v : Int) (S : St) (cs : List va_E), K v S → Wd G sh mT J S cs → qI G sh mT J K (some (.int (Int32.ofInt v))) cs := fun v S cs a b => ⟨v, S, rfl, a, b⟩
  unfold wX11_lists at hw
  have hw := hw g1 g2 g3 g4
  refine z_bipush (v := Int32.ofInt 6) dX11_lists_0 (by decide) ?_
  refine z_iload_n dX11_lists_2 rfl rfl ?_
  refine i_iadd dX11_lists_3 ?_
  obtain ⟨x1, hx1⟩ : ∃ x : Int, x = (6 + a2) := ⟨_, rfl⟩
  have hw := hw x1 hx1
  refine z_st (st' := [.int (Int32.ofInt x1)]) (by rw [hx1]) ?_
  refine z_istore dX11_lists_4 (by decide) ?_
  refine z_loc (L' := [(0, .ref (G.1 + 54)), (1, .int (Int32.ofInt (a1))), (2, .int (Int32.ofInt (a2))), (3, .int (Int32.ofInt (a3))), (4, .int (Int32.ofInt (a4))), (5, .int (Int32.ofInt (x1)))]) (List.forall_mem_cons.mpr ⟨rfl, (List.forall_mem_cons.mpr ⟨rfl, (List.forall_mem_cons.mpr ⟨rfl, (List.forall_mem_cons.mpr ⟨rfl, (List.forall_mem_cons.mpr ⟨rfl, (List.forall_mem_cons.mpr ⟨rfl, (fun _ h => nomatch h)⟩)⟩)⟩)⟩)⟩)⟩) ?_
  refine z_aload_n dX11_lists_6 rfl rfl ?_
  refine g_getR hW hT.1 mr37 kX11 fX11_93 dX11_lists_7 ?_
  refine z_iload_n dX11_lists_10 rfl rfl ?_
  obtain ⟨q2a, q2b, hw⟩ := hw
  have q3 : iv 0 8 (S.2 81 (a1)) := mA81 hW _
  have hw := hw q3
  refine g_iald hW (ma81 hT) q2a q2b (by decide) dX11_lists_11 ?_
  obtain ⟨x4, hx4⟩ : ∃ x : Int, x = S.2 81 (a1) := ⟨_, rfl⟩
  have hw := hw x4 hx4
  refine z_st (st' := [.int (Int32.ofInt x4)]) (by rw [hx4]) ?_
  have q5 : rng x4 := by rw [hx4]; exact (rngq q3 (by decide) (by decide))
  have q6 : iv 0 8 x4 := by rw [hx4]; exact q3
  refine z_istore dX11_lists_12 (by decide) ?_
  refine z_loc (L' := [(0, .ref (G.1 + 54)), (1, .int (Int32.ofInt (a1))), (2, .int (Int32.ofInt (a2))), (3, .int (Int32.ofInt (a3))), (4, .int (Int32.ofInt (a4))), (5, .int (Int32.ofInt (x1))), (6, .int (Int32.ofInt (x4)))]) (List.forall_mem_cons.mpr ⟨rfl, (List.forall_mem_cons.mpr ⟨rfl, (List.forall_mem_cons.mpr ⟨rfl, (List.forall_mem_cons.mpr ⟨rfl, (List.forall_mem_cons.mpr ⟨rfl, (List.forall_mem_cons.mpr ⟨rfl, (List.forall_mem_cons.mpr ⟨rfl, (fun _ h => nomatch h)⟩)⟩)⟩)⟩)⟩)⟩)⟩) ?_
  refine z_iload dX11_lists_14 rfl ?_
  refine i_if_ne (tgt := 74) dX11_lists_16 (by decide) q5 (fun h7 => ?_) (fun h7 => ?_)
  · have hw := hw.1 h7
    refine z_loc (L' := [(0, .ref (G.1 + 54)), (1, .int (Int32.ofInt (a1))), (2, .int (Int32.ofInt (a2))), (3, .int (Int32.ofInt (a3))), (4, .int (Int32.ofInt (a4))), (5, .int (Int32.ofInt (x1))), (6, .int (Int32.ofInt (x4)))]) (List.forall_mem_cons.mpr ⟨rfl, (List.forall_mem_cons.mpr ⟨rfl, (List.forall_mem_cons.mpr ⟨rfl, (List.forall_mem_cons.mpr ⟨rfl, (List.forall_mem_cons.mpr ⟨rfl, (List.forall_mem_cons.mpr ⟨rfl, (List.forall_mem_cons.mpr ⟨rfl, (fun _ h => nomatch h)⟩)⟩)⟩)⟩)⟩)⟩)⟩) ?_
    exact bX11_lists_74 hd hJ hT hW hP  hw
  · have hw := hw.2 h7
    refine z_aload_n dX11_lists_19 rfl rfl ?_
    refine g_getR hW hT.1 mr7 kX11 fX11_25 dX11_lists_20 ?_
    refine z_iload_n dX11_lists_23 rfl rfl ?_
    obtain ⟨q8a, q8b, hw⟩ := hw
    have q9 : iv 0 1 (S.2 60 (a2)) := mA60 hW _
    have hw := hw q9
    refine g_zald hW (ma60 hT) q8a q8b (by decide) dX11_lists_24 ?_
    refine i_if_ne (tgt := 74) dX11_lists_25 (by decide) (rngq q9 (by decide) (by decide)) (fun h10 => ?_) (fun h10 => ?_)
    · have hw := hw.1 h10
      refine z_loc (L' := [(0, .ref (G.1 + 54)), (1, .int (Int32.ofInt (a1))), (2, .int (Int32.ofInt (a2))), (3, .int (Int32.ofInt (a3))), (4, .int (Int32.ofInt (a4))), (5, .int (Int32.ofInt (x1))), (6, .int (Int32.ofInt (x4)))]) (List.forall_mem_cons.mpr ⟨rfl, (List.forall_mem_cons.mpr ⟨rfl, (List.forall_mem_cons.mpr ⟨rfl, (List.forall_mem_cons.mpr ⟨rfl, (List.forall_mem_cons.mpr ⟨rfl, (List.forall_mem_cons.mpr ⟨rfl, (List.forall_mem_cons.mpr ⟨rfl, (fun _ h => nomatch h)⟩)⟩)⟩)⟩)⟩)⟩)⟩) ?_
      exact bX11_lists_74 hd hJ hT hW hP  hw
    · have hw := hw.2 h10
      refine z_aload_n dX11_lists_28 rfl rfl ?_
      refine g_getR hW hT.1 mr38 kX11 fX11_96 dX11_lists_29 ?_
      refine z_iload_n dX11_lists_32 rfl rfl ?_
      refine z_aload_n dX11_lists_33 rfl rfl ?_
      refine z_aload_n dX11_lists_34 rfl rfl ?_
      refine g_getR hW hT.1 mr34 kX11 fX11_84 dX11_lists_35 ?_
      refine z_iload_n dX11_lists_38 rfl rfl ?_
      obtain ⟨q11a, q11b, hw⟩ := hw
      have q12 : iv 0 899 (S.2 78 (a1)) := mA78 hW _
      have hw := hw q12
      refine g_iald hW (ma78 hT) q11a q11b (by decide) dX11_lists_39 ?_
      refine z_iload dX11_lists_40 rfl ?_
      obtain ⟨q13, hw⟩ := hw
      have hX := lX11_element 1 (Nat.le_refl _) hJ hT hW (rngq q12 (by decide) (by decide)) q13 hw
      refine z_callV (As := [_, _]) eX11_element sX11_element lX11_297 rfl dX11_lists_42 (hW.1 _ _ hT.1) hX (Nat.le_trans (by decide) hd) rfl (Nat.le_of_ble_eq_true rfl) (fun r cs hp => ?_)
      obtain ⟨r14, S15, rfl, hw, hW⟩ := hp
      refine z_st (st' := [.int (Int32.ofInt (r14)), .int (Int32.ofInt (a1)), .ref (G.1 + 82)]) rfl ?_
      obtain ⟨q16a, q16b, hw⟩ := hw
      obtain ⟨q18, hw⟩ := hw
      refine g_iast hJ hW (ma82 hT) q16a q16b (by decide) q18 dX11_lists_45 (fun cs hW => ?_)
      obtain ⟨S17, hS17⟩ : ∃ x, x = pA S15 82 (a1) (r14) := ⟨_, rfl⟩
      rw [← hS17] at hW
      have hw := hw S17 hS17
      refine z_aload_n dX11_lists_46 rfl rfl ?_
      refine z_bipush (v := Int32.ofInt 60) dX11_lists_47 (by decide) ?_
      have hX := lX11_put 0 (Nat.le_refl _) hJ hT hW ⟨by decide, by decide⟩ hw
      refine z_callV (As := [_]) eX11_put sX11_put lX11_260 rfl dX11_lists_49 (hW.1 _ _ hT.1) hX (Nat.le_trans (by decide) hd) rfl (Nat.le_of_ble_eq_true rfl) (fun r cs hp => ?_)
      obtain ⟨r19, S20, rfl, hw, hW⟩ := hp
      refine z_st (st' := []) rfl ?_
      refine z_aload_n dX11_lists_52 rfl rfl ?_
      refine z_iload dX11_lists_53 rfl ?_
      have hX := lX11_putName 1 (Nat.le_refl _) hJ hT hW q13 hw
      refine z_callV (As := [_]) eX11_putName sX11_putName lX11_284 rfl dX11_lists_55 (hW.1 _ _ hT.1) hX (Nat.le_trans (by decide) hd) rfl (Nat.le_of_ble_eq_true rfl) (fun r cs hp => ?_)
      obtain ⟨r21, S22, rfl, hw, hW⟩ := hp
      refine z_st (st' := []) rfl ?_
      refine z_iload_n dX11_lists_58 rfl rfl ?_
      refine i_if_ne (tgt := 68) dX11_lists_59 (by decide) g3 (fun h23 => ?_) (fun h23 => ?_)
      · have hw := hw.1 h23
        refine z_loc (L' := [(0, .ref (G.1 + 54)), (1, .int (Int32.ofInt (a1))), (2, .int (Int32.ofInt (a2))), (3, .int (Int32.ofInt (a3))), (4, .int (Int32.ofInt (a4))), (5, .int (Int32.ofInt (x1))), (6, .int (Int32.ofInt (x4)))]) (List.forall_mem_cons.mpr ⟨rfl, (List.forall_mem_cons.mpr ⟨rfl, (List.forall_mem_cons.mpr ⟨rfl, (List.forall_mem_cons.mpr ⟨rfl, (List.forall_mem_cons.mpr ⟨rfl, (List.forall_mem_cons.mpr ⟨rfl, (List.forall_mem_cons.mpr ⟨rfl, (fun _ h => nomatch h)⟩)⟩)⟩)⟩)⟩)⟩)⟩) ?_
        exact bX11_lists_68 hd hJ hT hW hP  hw
      · have hw := hw.2 h23
        refine z_aload_n dX11_lists_62 rfl rfl ?_
        refine z_bipush (v := Int32.ofInt 47) dX11_lists_63 (by decide) ?_
        have hX := lX11_put 0 (Nat.le_refl _) hJ hT hW ⟨by decide, by decide⟩ hw
        refine z_callV (As := [_]) eX11_put sX11_put lX11_260 rfl dX11_lists_65 (hW.1 _ _ hT.1) hX (Nat.le_trans (by decide) hd) rfl (Nat.le_of_ble_eq_true rfl) (fun r cs hp => ?_)
        obtain ⟨r24, S25, rfl, hw, hW⟩ := hp
        refine z_st (st' := []) rfl ?_
        refine z_loc (L' := [(0, .ref (G.1 + 54)), (1, .int (Int32.ofInt (a1))), (2, .int (Int32.ofInt (a2))), (3, .int (Int32.ofInt (a3))), (4, .int (Int32.ofInt (a4))), (5, .int (Int32.ofInt (x1))), (6, .int (Int32.ofInt (x4)))]) (List.forall_mem_cons.mpr ⟨rfl, (List.forall_mem_cons.mpr ⟨rfl, (List.forall_mem_cons.mpr ⟨rfl, (List.forall_mem_cons.mpr ⟨rfl, (List.forall_mem_cons.mpr ⟨rfl, (List.forall_mem_cons.mpr ⟨rfl, (List.forall_mem_cons.mpr ⟨rfl, (fun _ h => nomatch h)⟩)⟩)⟩)⟩)⟩)⟩)⟩) ?_
        exact bX11_lists_68 hd hJ hT hW hP  hw

