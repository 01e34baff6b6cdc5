def wX11_isListed (a1 a2 a3 : Int) (S : St) (K : Int → St → Prop) : Prop := rng a1 → rng a2 → rng a3 → (∀ x1 : Int, x1 = ((4 * (60 + a2)) + a3) → ((0 : Int) ≤ x1 ∧ x1 < (360 : Int) ∧ (iv (-2147483648) 2147483647 (S.2 69 (x1)) → ((¬ S.2 69 (x1) = 8 → ((0 : Int) ≤ a1 ∧ a1 < (200 : Int) ∧ (iv (-2) 359 (x1) ∧ (∀ S6, S6 = pA S 100 (a1) (x1) → ((0 : Int) ≤ x1 ∧ x1 < (360 : Int) ∧ (iv (-2147483648) 2147483647 (S6.2 69 (x1)) → ((0 : Int) ≤ a1 ∧ a1 < (200 : Int) ∧ (iv (-2) 7 (S6.2 69 (x1)) ∧ (∀ S11, S11 = pA S6 101 (a1) (S6.2 69 (x1)) → ((0 : Int) ≤ x1 ∧ x1 < (360 : Int) ∧ (iv (-2147483648) 2147483647 (S11.2 69 (x1)) → ((0 : Int) ≤ x1 ∧ x1 < (360 : Int) ∧ (iv (-2147483648) 2147483647 ((S11.2 69 (x1) + 1)) ∧ (∀ S16, S16 = pA S11 69 (x1) ((S11.2 69 (x1) + 1)) → (wX11_isObjectElement (a1) (0) S16 (fun r18 S19 => ((0 : Int) ≤ a1 ∧ a1 < (200 : Int) ∧ (iv (-2) 7 (S19.2 101 (a1)) → ((0 : Int) ≤ a1 ∧ a1 < (200 : Int) ∧ (iv (-2) 5 (S19.2 98 (a1)) → ((¬ S19.2 98 (a1) = 4 → ((0 : Int) ≤ ((20 * x1) + S19.2 101 (a1)) ∧ ((20 * x1) + S19.2 101 (a1)) < (7200 : Int) ∧ (∀ S26, S26 = pA S19 70 (((20 * x1) + S19.2 101 (a1))) ((-2)) → (iv 0 1 (r18) ∧ K (r18) S26)))) ∧ ((¬ (¬ S19.2 98 (a1) = 4)) → ((0 : Int) ≤ a1 ∧ a1 < (200 : Int) ∧ (iv 0 29 (S19.2 99 (a1)) → ((0 : Int) ≤ ((20 * x1) + S19.2 101 (a1)) ∧ ((20 * x1) + S19.2 101 (a1)) < (7200 : Int) ∧ (iv (-2147483648) 2147483647 (S19.2 99 (a1)) ∧ (∀ S31, S31 = pA S19 70 (((20 * x1) + S19.2 101 (a1))) (S19.2 99 (a1)) → (iv 0 1 (r18) ∧ K (r18) S31)))))))))))))))))))))))))))) ∧ ((¬ (¬ S.2 69 (x1) = 8)) → K (0) S)))))
set_option maxRecDepth 100000 in
set_option maxHeartbeats 4000000 in
theorem lX11_isListed {G : xG} {sh : Nat → Option Sh} {J : St → List va_E → Prop} {a1 a2 a3 : Int} {S : St} {cs : List va_E} {K : Int → St → Prop} (d : Nat) (hd : 4 ≤ d) (hJ : Stb sh J) (hT : isM sh) (hW : Wd G sh mT J S cs) (g1 : rng a1) (g2 : rng a2) (g3 : rng a3) (hw : wX11_isListed a1 a2 a3 S K) : X G yX11_isListed cX11_isListed 6 (some .boolean) d [.ref (G.1 + 54), .int (Int32.ofInt a1), .int (Int32.ofInt a2), .int (Int32.ofInt a3)] cs (qI G sh mT J K) := by
  refine X.of false (by decide +kernel) (by decide) (Nat.le_of_ble_eq_true rfl) ?_
  show Z (RX11, cX11_isListed, 6, some .boolean, false) G d _ 0 [(0, .ref (G.1 + 54)), (1, .int (Int32.ofInt a1)), (2, .int (Int32.ofInt a2)), (3, .int (Int32.ofInt a3))] [] cs
  have hP : ∀ (v : Int) (S : St) (cs : List va_E), K v S → Wd G sh mT J S cs → qI G sh mT J K (some (.int (Int32.ofInt v))) cs := fun v S cs a b => ⟨v, S, rfl, a, b⟩
  unfold wX11_isListed at hw
  have hw := hw g1 g2 g3
  refine z_iconst (v := Int32.ofInt 4) dX11_isListed_0 rfl ?_
  refine z_bipush (v := Int32.ofInt 60) dX11_isListed_1 (by decide) ?_
  refine z_iload_n dX11_isListed_3 rfl rfl ?_
  refine i_iadd dX11_isListed_4 ?_
  refine i_imul dX11_isListed_5 ?_
  refine z_iload_n dX11_isListed_6 rfl rfl ?_
  refine i_iadd dX11_isListed_7 ?_
  obtain ⟨x1, hx1⟩ : ∃ x : Int, x = ((4 * (60 + a2)) + a3) := ⟨_, rfl⟩
  have hw := hw x1 hx1
  refine z_st (st' := [.int (Int32.ofInt x1)]) (by rw [hx1]) ?_
  refine z_istore dX11_isListed_8 (by decide) ?_
  refine z_loc (L' := [(0, .ref (G.1 + 54)), (1, .int (Int32.ofInt (a1))), (2, .int (Int32.ofInt (a2))), (3, .int (Int32.ofInt (a3))), (4, .int (Int32.ofInt (x1)))]) (List.forall_mem_cons.mpr ⟨rfl, (List.forall_mem_cons.mpr ⟨rfl, (List.forall_mem_cons.mpr ⟨rfl, (List.forall_mem_cons.mpr ⟨rfl, (List.forall_mem_cons.mpr ⟨rfl, (fun _ h => nomatch h)⟩)⟩)⟩)⟩)⟩) ?_
  refine z_aload_n dX11_isListed_10 rfl rfl ?_
  refine g_getR hW hT.1 mr16 kX11 fX11_53 dX11_isListed_11 ?_
  refine z_iload dX11_isListed_14 rfl ?_
  obtain ⟨q2a, q2b, hw⟩ := hw
  have q3 : iv (-2147483648) 2147483647 (S.2 69 (x1)) := mA69 hW _
  have hw := hw q3
  refine g_iald hW (ma69 hT) q2a q2b (by decide) dX11_isListed_16 ?_
  refine z_bipush (v := Int32.ofInt 8) dX11_isListed_17 (by decide) ?_
  refine i_icmp_ne (tgt := 24) dX11_isListed_19 (by decide) (rngq q3 (by decide) (by decide)) ⟨by decide, by decide⟩ (fun h4 => ?_) (fun h4 => ?_)
  · have hw := hw.1 h4
    refine z_aload_n dX11_isListed_24 rfl rfl ?_
    refine g_getR hW hT.1 mr63 kX11 fX11_150 dX11_isListed_25 ?_
    refine z_iload_n dX11_isListed_28 rfl rfl ?_
    refine z_iload dX11_isListed_29 rfl ?_
    obtain ⟨q5a, q5b, hw⟩ := hw
    obtain ⟨q7, hw⟩ := hw
    refine g_iast hJ hW (ma100 hT) q5a q5b (by decide) q7 dX11_isListed_31 (fun cs hW => ?_)
    obtain ⟨S6, hS6⟩ : ∃ x, x = pA S 100 (a1) (x1) := ⟨_, rfl⟩
    rw [← hS6] at hW
    have hw := hw S6 hS6
    refine z_aload_n dX11_isListed_32 rfl rfl ?_
    refine g_getR hW hT.1 mr64 kX11 fX11_153 dX11_isListed_33 ?_
    refine z_iload_n dX11_isListed_36 rfl rfl ?_
    refine z_aload_n dX11_isListed_37 rfl rfl ?_
    refine g_getR hW hT.1 mr16 kX11 fX11_53 dX11_isListed_38 ?_
    refine z_iload dX11_isListed_41 rfl ?_
    obtain ⟨q8a, q8b, hw⟩ := hw
    have q9 : iv (-2147483648) 2147483647 (S6.2 69 (x1)) := mA69 hW _
    have hw := hw q9
    refine g_iald hW (ma69 hT) q8a q8b (by decide) dX11_isListed_43 ?_
    obtain ⟨q10a, q10b, hw⟩ := hw
    obtain ⟨q12, hw⟩ := hw
    refine g_iast hJ hW (ma101 hT) q10a q10b (by decide) q12 dX11_isListed_44 (fun cs hW => ?_)
    obtain ⟨S11, hS11⟩ : ∃ x, x = pA S6 101 (a1) (S6.2 69 (x1)) := ⟨_, rfl⟩
    rw [← hS11] at hW
    have hw := hw S11 hS11
    refine z_aload_n dX11_isListed_45 rfl rfl ?_
    refine g_getR hW hT.1 mr16 kX11 fX11_53 dX11_isListed_46 ?_
    refine z_iload dX11_isListed_49 rfl ?_
    refine z_dup2 dX11_isListed_51 rfl rfl ?_
    obtain ⟨q13a, q13b, hw⟩ := hw
    have q14 : iv (-2147483648) 2147483647 (S11.2 69 (x1)) := mA69 hW _
    have hw := hw q14
    refine g_iald hW (ma69 hT) q13a q13b (by decide) dX11_isListed_52 ?_
    refine z_iconst (v := Int32.ofInt 1) dX11_isListed_53 rfl ?_
    refine i_iadd dX11_isListed_54 ?_
    obtain ⟨q15a, q15b, hw⟩ := hw
    obtain ⟨q17, hw⟩ := hw
    refine g_iast hJ hW (ma69 hT) q15a q15b (by decide) q17 dX11_isListed_55 (fun cs hW => ?_)
    obtain ⟨S16, hS16⟩ : ∃ x, x = pA S11 69 (x1) ((S11.2 69 (x1) + 1)) := ⟨_, rfl⟩
    rw [← hS16] at hW
    have hw := hw S16 hS16
    refine z_aload_n dX11_isListed_56 rfl rfl ?_
    refine z_iload_n dX11_isListed_57 rfl rfl ?_
    refine z_iconst (v := Int32.ofInt 0) dX11_isListed_58 rfl ?_
    have hX := lX11_isObjectElement 3 (Nat.le_refl _) hJ hT hW g1 ⟨by decide, by decide⟩ hw
    refine z_callV (As := [_, _]) eX11_isObjectElement sX11_isObjectElement lX11_460 rfl dX11_isListed_59 (hW.1 _ _ hT.1) hX (Nat.le_trans (by decide) hd) rfl (Nat.le_of_ble_eq_true rfl) (fun r cs hp => ?_)
    obtain ⟨r18, S19, rfl, hw, hW⟩ := hp
    refine z_st (st' := [.int (Int32.ofInt (r18))]) rfl ?_
    refine z_istore dX11_isListed_62 (by decide) ?_
    refine z_loc (L' := [(0, .ref (G.1 + 54)), (1, .int (Int32.ofInt (a1))), (2, .int (Int32.ofInt (a2))), (3, .int (Int32.ofInt (a3))), (4, .int (Int32.ofInt (x1))), (5, .int (Int32.ofInt (r18)))]) (List.forall_mem_cons.mpr ⟨rfl, (List.forall_mem_cons.mpr ⟨rfl, (List.forall_mem_cons.mpr ⟨rfl, (List.forall_mem_cons.mpr ⟨rfl, (List.forall_mem_cons.mpr ⟨rfl, (List.forall_mem_cons.mpr ⟨rfl, (fun _ h => nomatch h)⟩)⟩)⟩)⟩)⟩)⟩) ?_
    refine z_aload_n dX11_isListed_64 rfl rfl ?_
    refine g_getR hW hT.1 mr17 kX11 fX11_56 dX11_isListed_65 ?_
    refine z_bipush (v := Int32.ofInt 20) dX11_isListed_68 (by decide) ?_
    refine z_iload dX11_isListed_70 rfl ?_
    refine i_imul dX11_isListed_72 ?_
    refine z_aload_n dX11_isListed_73 rfl rfl ?_
    refine g_getR hW hT.1 mr64 kX11 fX11_153 dX11_isListed_74 ?_
    refine z_iload_n dX11_isListed_77 rfl rfl ?_
    obtain ⟨q20a, q20b, hw⟩ := hw
    have q21 : iv (-2) 7 (S19.2 101 (a1)) := mA101 hW _
    have hw := hw q21
    refine g_iald hW (ma101 hT) q20a q20b (by decide) dX11_isListed_78 ?_
    refine i_iadd dX11_isListed_79 ?_
    refine z_aload_n dX11_isListed_80 rfl rfl ?_
    refine g_getR hW hT.1 mr61 kX11 fX11_144 dX11_isListed_81 ?_
    refine z_iload_n dX11_isListed_84 rfl rfl ?_
    obtain ⟨q22a, q22b, hw⟩ := hw
    have q23 : iv (-2) 5 (S19.2 98 (a1)) := mA98 hW _
    have hw := hw q23
    refine g_iald hW (ma98 hT) q22a q22b (by decide) dX11_isListed_85 ?_
    refine z_iconst (v := Int32.ofInt 4) dX11_isListed_86 rfl ?_
    refine i_icmp_ne (tgt := 99) dX11_isListed_87 (by decide) (rngq q23 (by decide) (by decide)) ⟨by decide, by decide⟩ (fun h24 => ?_) (fun h24 => ?_)
    · have hw := hw.1 h24
      refine z_bipush (v := Int32.ofInt (-2)) dX11_isListed_99 (by decide) ?_
      obtain ⟨q25a, q25b, hw⟩ := hw
      refine g_iast hJ hW (ma70 hT) q25a q25b (by decide) ⟨by decide, by decide⟩ dX11_isListed_101 (fun cs hW => ?_)
      obtain ⟨S26, hS26⟩ : ∃ x, x = pA S19 70 (((20 * x1) + S19.2 101 (a1))) ((-2)) := ⟨_, rfl⟩
      rw [← hS26] at hW
      have hw := hw S26 hS26
      refine z_iload dX11_isListed_102 rfl ?_
      obtain ⟨q27, hw⟩ := hw
      exact z_ireturn dX11_isListed_104 rfl (nar01 (b01 q27)) (hP _ _ _ hw hW)
    · have hw := hw.2 h24
      refine z_aload_n dX11_isListed_90 rfl rfl ?_
      refine g_getR hW hT.1 mr62 kX11 fX11_147 dX11_isListed_91 ?_
      refine z_iload_n dX11_isListed_94 rfl rfl ?_
      obtain ⟨q28a, q28b, hw⟩ := hw
      have q29 : iv 0 29 (S19.2 99 (a1)) := mA99 hW _
      have hw := hw q29
      refine g_iald hW (ma99 hT) q28a q28b (by decide) dX11_isListed_95 ?_
      refine z_goto (tgt := 101) dX11_isListed_96 (by decide) ?_
      obtain ⟨q30a, q30b, hw⟩ := hw
      obtain ⟨q32, hw⟩ := hw
      refine g_iast hJ hW (ma70 hT) q30a q30b (by decide) q32 dX11_isListed_101 (fun cs hW => ?_)
      obtain ⟨S31, hS31⟩ : ∃ x, x = pA S19 70 (((20 * x1) + S19.2 101 (a1))) (S19.2 99 (a1)) := ⟨_, rfl⟩
      rw [← hS31] at hW
      have hw := hw S31 hS31
      refine z_iload dX11_isListed_102 rfl ?_
      obtain ⟨q33, hw⟩ := hw
      exact z_ireturn dX11_isListed_104 rfl (nar01 (b01 q33)) (hP _ _ _ hw hW)
  · have hw := hw.2 h4
    refine z_iconst (v := Int32.ofInt 0) dX11_isListed_22 rfl ?_
    exact z_ireturn dX11_isListed_23 rfl (nar01 (by decide)) (hP _ _ _ hw hW)

def wX11_pieceOfText_50 (l1 l2 : Int) (S : St) (K : Int → St → Prop) (B7 : Int → Int → St → Prop) : Prop := B7 (l1) ((l2 + 1)) S
set_option maxRecDepth 100000 in
set_option maxHeartbeats 4000000 in
theorem bX11_pieceOfText_50 {G : xG} {sh : Nat → Option Sh} {J : St → List va_E → Prop} {d : Nat} {Post : xP} {l1 l2 : Int} {S : St} {cs : List va_E} {K : Int → St → Prop} {B7 : Int → Int → St → Prop} (hd : 0 ≤ d) (hJ : Stb sh J) (hT : isM sh) (hW : Wd G sh mT J S cs) (hP : ∀ (v : Int) (S : St) (cs : List va_E), K v S → Wd G sh mT J S cs → Post (none) cs) (hB7 : ∀ (l1 : Int) (l2 : Int) (S : St) (cs : List va_E), B7 l1 l2 S → Wd G sh mT J S cs → Z (RX11, cX11_pieceOfText, 3, none, false) G d Post 7 [(0, .ref (G.1 + 54)), (1, .int (Int32.ofInt (l1))), (2, .int (Int32.ofInt (l2)))] [] cs) (hw : wX11_pieceOfText_50 l1 l2 S K B7) : Z (RX11, cX11_pieceOfText, 3, none, false) G d Post 50 [(0, .ref (G.1 + 54)), (1, .int (Int32.ofInt (l1))), (2, .int (Int32.ofInt (l2)))] [] cs := by
  unfold wX11_pieceOfText_50 at hw
  refine i_iinc (l := l2) dX11_pieceOfText_50 rfl (by decide) ?_
  refine z_loc (L' := [(0, .ref (G.1 + 54)), (1, .int (Int32.ofInt (l1))), (2, .int (Int32.ofInt ((l2 + 1))))]) (List.forall_mem_cons.mpr ⟨rfl, (List.forall_mem_cons.mpr ⟨rfl, (List.forall_mem_cons.mpr ⟨rfl, (fun _ h => nomatch h)⟩)⟩)⟩) ?_
  refine z_goto (tgt := 7) dX11_pieceOfText_53 (by decide) ?_
  refine z_loc (L' := [(0, .ref (G.1 + 54)), (1, .int (Int32.ofInt (l1))), (2, .int (Int32.ofInt ((l2 + 1))))]) (List.forall_mem_cons.mpr ⟨rfl, (List.forall_mem_cons.mpr ⟨rfl, (List.forall_mem_cons.mpr ⟨rfl, (fun _ h => nomatch h)⟩)⟩)⟩) ?_
  exact hB7 _ _ _ _ hw hW
def wX11_pieceOfText_7' (l1 l2 : Int) (S : St) (K : Int → St → Prop) (B7 : Int → Int → St → Prop) : Prop := (iv 0 3000 (S.1 54 56) → (rng (l2) ∧ ((S.1 54 56 ≤ l2 → K 0 S) ∧ ((¬ (S.1 54 56 ≤ l2)) → ((0 : Int) ≤ l2 ∧ l2 < (3000 : Int) ∧ (iv (-2) 199 (S.2 97 (l2)) → (rng (l1) ∧ ((¬ S.2 97 (l2) = l1 → wX11_pieceOfText_50 (l1) (l2) S K B7) ∧ ((¬ (¬ S.2 97 (l2) = l1)) → (iv 0 3000 (S.1 54 67) → ((0 : Int) ≤ l2 ∧ l2 < (3000 : Int) ∧ (iv (-2147483648) 2147483647 (S.2 96 (l2)) → ((0 : Int) ≤ S.1 54 67 ∧ S.1 54 67 < (3000 : Int) ∧ (∀ S12, S12 = pA S 104 (S.1 54 67) (S.2 96 (l2)) → (iv 0 3000 (S12.1 54 67) → (iv 0 3000 ((S12.1 54 67 + 1)) ∧ (∀ S14, S14 = pI S12 54 67 ((S12.1 54 67 + 1)) → wX11_pieceOfText_50 (l1) (l2) S14 K B7)))))))))))))))))
set_option maxRecDepth 100000 in
set_option maxHeartbeats 4000000 in
theorem bX11_pieceOfText_7' {G : xG} {sh : Nat → Option Sh} {J : St → List va_E → Prop} {d : Nat} {Post : xP} {l1 l2 : Int} {S : St} {cs : List va_E} {K : Int → St → Prop} {B7 : Int → Int → St → Prop} (hd : 0 ≤ d) (hJ : Stb sh J) (hT : isM sh) (hW : Wd G sh mT J S cs) (hP : ∀ (v : Int) (S : St) (cs : List va_E), K v S → Wd G sh mT J S cs → Post (none) cs) (hB7 : ∀ (l1 : Int) (l2 : Int) (S : St) (cs : List va_E), B7 l1 l2 S → Wd G sh mT J S cs → Z (RX11, cX11_pieceOfText, 3, none, false) G d Post 7 [(0, .ref (G.1 + 54)), (1, .int (Int32.ofInt (l1))), (2, .int (Int32.ofInt (l2)))] [] cs) (hw : wX11_pieceOfText_7' l1 l2 S K B7) : Z (RX11, cX11_pieceOfText, 3, none, false) G d Post 7 [(0, .ref (G.1 + 54)), (1, .int (Int32.ofInt (l1))), (2, .int (Int32.ofInt (l2)))] [] cs := by
  unfold wX11_pieceOfText_7' at hw
  refine z_iload_n dX11_pieceOfText_7 rfl rfl ?_
  refine z_aload_n dX11_pieceOfText_8 rfl rfl ?_
  have q1 : iv 0 3000 (S.1 54 56) := mI56 hW
  have hw := hw q1
  refine g_getI hW hT.1 mr56 kX11 fX11_355 dX11_pieceOfText_9 ?_
  obtain ⟨q3, hw⟩ := hw
  refine i_icmp_ge (tgt := 56) dX11_pieceOfText_12 (by decide) q3 (rngq q1 (by decide) (by decide)) (fun h2 => ?_) (fun h2 => ?_)
  · have hw := hw.1 h2
    exact z_return dX11_pieceOfText_56 rfl (hP 0 _ _ hw hW)
  · have hw := hw.2 h2
    refine z_aload_n dX11_pieceOfText_15 rfl rfl ?_
    refine g_getR hW hT.1 mr58 kX11 fX11_141 dX11_pieceOfText_16 ?_
    refine z_iload_n dX11_pieceOfText_19 rfl rfl ?_
    obtain ⟨q4a, q4b, hw⟩ := hw
    have q5 : iv (-2) 199 (S.2 97 (l2)) := mA97 hW _
    have hw := hw q5
    refine g_iald hW (ma97 hT) q4a q4b (by decide) dX11_pieceOfText_20 ?_
    refine z_iload_n dX11_pieceOfText_21 rfl rfl ?_
    obtain ⟨q7, hw⟩ := hw
    refine i_icmp_ne (tgt := 50) dX11_pieceOfText_22 (by decide) (rngq q5 (by decide) (by decide)) q7 (fun h6 => ?_) (fun h6 => ?_)
    · have hw := hw.1 h6
      refine z_loc (L' := [(0, .ref (G.1 + 54)), (1, .int (Int32.ofInt (l1))), (2, .int (Int32.ofInt (l2)))]) (List.forall_mem_cons.mpr ⟨rfl, (List.forall_mem_cons.mpr ⟨rfl, (List.forall_mem_cons.mpr ⟨rfl, (fun _ h => nomatch h)⟩)⟩)⟩) ?_
      exact bX11_pieceOfText_50 hd hJ hT hW hP hB7 hw
    · have hw := hw.2 h6
      refine z_aload_n dX11_pieceOfText_25 rfl rfl ?_
      refine g_getR hW hT.1 mr68 kX11 fX11_162 dX11_pieceOfText_26 ?_
      refine z_aload_n dX11_pieceOfText_29 rfl rfl ?_
      have q8 : iv 0 3000 (S.1 54 67) := mI67 hW
      have hw := hw q8
      refine g_getI hW hT.1 mr67 kX11 fX11_420 dX11_pieceOfText_30 ?_
      refine z_aload_n dX11_pieceOfText_33 rfl rfl ?_
      refine g_getR hW hT.1 mr57 kX11 fX11_138 dX11_pieceOfText_34 ?_
      refine z_iload_n dX11_pieceOfText_37 rfl rfl ?_
      obtain ⟨q9a, q9b, hw⟩ := hw
      have q10 : iv (-2147483648) 2147483647 (S.2 96 (l2)) := mA96 hW _
      have hw := hw q10
      refine g_iald hW (ma96 hT) q9a q9b (by decide) dX11_pieceOfText_38 ?_
      obtain ⟨q11a, q11b, hw⟩ := hw
      refine g_iast hJ hW (ma104 hT) q11a q11b (by decide) q10 dX11_pieceOfText_39 (fun cs hW => ?_)
      obtain ⟨S12, hS12⟩ : ∃ x, x = pA S 104 (S.1 54 67) (S.2 96 (l2)) := ⟨_, rfl⟩
      rw [← hS12] at hW
      have hw := hw S12 hS12
      refine z_aload_n dX11_pieceOfText_40 rfl rfl ?_
      refine z_dup dX11_pieceOfText_41 rfl ?_
      have q13 : iv 0 3000 (S12.1 54 67) := mI67 hW
      have hw := hw q13
      refine g_getI hW hT.1 mr67 kX11 fX11_420 dX11_pieceOfText_42 ?_
      refine z_iconst (v := Int32.ofInt 1) dX11_pieceOfText_45 rfl ?_
      refine i_iadd dX11_pieceOfText_46 ?_
      obtain ⟨q15, hw⟩ := hw
      refine g_putI hJ hW hT.1 mr67 kX11 fX11_420 dX11_pieceOfText_47 rfl rfl rfl q15 (fun cs hW => ?_)
      obtain ⟨S14, hS14⟩ : ∃ x, x = pI S12 54 67 ((S12.1 54 67 + 1)) := ⟨_, rfl⟩
      rw [← hS14] at hW
      have hw := hw S14 hS14
      refine z_loc (L' := [(0, .ref (G.1 + 54)), (1, .int (Int32.ofInt (l1))), (2, .int (Int32.ofInt (l2)))]) (List.forall_mem_cons.mpr ⟨rfl, (List.forall_mem_cons.mpr ⟨rfl, (List.forall_mem_cons.mpr ⟨rfl, (fun _ h => nomatch h)⟩)⟩)⟩) ?_
      exact bX11_pieceOfText_50 hd hJ hT hW hP hB7 hw
def wX11_pieceOfText_7 (l1 l2 : Int) (S : St) (K : Int → St → Prop) : Prop := ∃ (Iv : Int → Int → St → Prop) (mu : Int → Int → St → Nat), Iv l1 l2 S ∧ ∀ (l1 l2 : Int) (S : St), Iv l1 l2 S → wX11_pieceOfText_7' l1 l2 S K  (fun ml1 ml2 T => Iv ml1 ml2 T ∧ mu ml1 ml2 T < mu l1 l2 S)
set_option maxRecDepth 100000 in
set_option maxHeartbeats 4000000 in
theorem bX11_pieceOfText_7 {G : xG} {sh : Nat → Option Sh} {J : St → List va_E → Prop} {d : Nat} {Post : xP} {l1 l2 : Int} {S : St} {cs : List va_E} {K : Int → St → Prop} (hd : 0 ≤ d) (hJ : Stb sh J) (hT : isM sh) (hW : Wd G sh mT J S cs) (hP : ∀ (v : Int) (S : St) (cs : List va_E), K v S → Wd G sh mT J S cs → Post (none) cs)  (hw : wX11_pieceOfText_7 l1 l2 S K ) : Z (RX11, cX11_pieceOfText, 3, none, false) G d Post 7 [(0, .ref (G.1 + 54)), (1, .int (Int32.ofInt (l1))), (2, .int (Int32.ofInt (l2)))] [] cs := by
  unfold wX11_pieceOfText_7 at hw
  obtain ⟨Iv, mu, h0, hs⟩ := hw
  have key : ∀ (n : Nat) (l1 l2 : Int) (S : St) (cs : List va_E), mu l1 l2 S < n → Iv l1 l2 S → Wd G sh mT J S cs → Z (RX11, cX11_pieceOfText, 3, none, false) G d Post 7 [(0, .ref (G.1 + 54)), (1, .int (Int32.ofInt (l1))), (2, .int (Int32.ofInt (l2)))] [] cs := by
    intro n
    induction n with
    | zero => intro l1 l2 S cs hn; exact absurd hn (Nat.not_lt_zero _)
    | succ n ih =>
      intro l1 l2 S cs hn hI hW
      exact bX11_pieceOfText_7' hd hJ hT hW hP  (fun l1 l2 S cs hb hW => ih l1 l2 S cs (Nat.lt_of_lt_of_le hb.2 (Nat.le_of_lt_succ hn)) hb.1 hW) (hs l1 l2 S hI)
  exact key _ _ _ _ _ (Nat.lt_succ_self _) h0 hW
def wX11_pieceOfText (a1 : Int) (S : St) (K : Int → St → Prop) : Prop := rng a1 → (∀ S1, S1 = pI S 54 67 (0) → wX11_pieceOfText_7 (a1) (0) S1 K)
set_option maxRecDepth 100000 in
set_option maxHeartbeats 4000000 in
theorem lX11_pieceOfText {G : xG} {sh : Nat → Option Sh} {J : St → List va_E → Prop} {a1 : Int} {S : St} {cs : List va_E} {K : Int → St → Prop} (d : Nat) (hd : 0 ≤ d) (hJ : Stb sh J) (hT : isM sh) (hW : Wd G sh mT J S cs) (g1 : rng a1) (hw : wX11_pieceOfText a1 S K) : X G yX11_pieceOfText cX11_pieceOfText 3 none d [.ref (G.1 + 54), .int (Int32.ofInt a1)] cs (qV G sh mT J K) := by
  refine X.of false (by decide +kernel) (by decide) (Nat.le_of_ble_eq_true rfl) ?_
  show Z (RX11, cX11_pieceOfText, 3, none, false) G d _ 0 [(0, .ref (G.1 + 54)), (1, .int (Int32.ofInt a1))] [] cs
  have hP : ∀ (v : Int) (S : St) (cs : List va_E), K v S → Wd G sh mT J S cs → qV G sh mT J K (none) cs := fun v S cs a b => ⟨v, S, rfl, a, b⟩
  unfold wX11_pieceOfText at hw
  have hw := hw g1
  refine z_aload_n dX11_pieceOfText_0 rfl rfl ?_
  refine z_iconst (v := Int32.ofInt 0) dX11_pieceOfText_1 rfl ?_
  refine g_putI hJ hW hT.1 mr67 kX11 fX11_420 dX11_pieceOfText_2 rfl rfl rfl ⟨by decide, by decide⟩ (fun cs hW => ?_)
  obtain ⟨S1, hS1⟩ : ∃ x, x = pI S 54 67 (0) := ⟨_, rfl⟩
  rw [← hS1] at hW
  have hw := hw S1 hS1
  refine z_iconst (v := Int32.ofInt 0) dX11_pieceOfText_5 rfl ?_
  refine z_istore_n dX11_pieceOfText_6 rfl (by decide) ?_
  refine z_loc (L' := [(0, .ref (G.1 + 54)), (1, .int (Int32.ofInt (a1))), (2, .int (Int32.ofInt (0)))]) (List.forall_mem_cons.mpr ⟨rfl, (List.forall_mem_cons.mpr ⟨rfl, (List.forall_mem_cons.mpr ⟨rfl, (fun _ h => nomatch h)⟩)⟩)⟩) ?_
  refine z_loc (L' := [(0, .ref (G.1 + 54)), (1, .int (Int32.ofInt (a1))), (2, .int (Int32.ofInt (0)))]) (List.forall_mem_cons.mpr ⟨rfl, (List.forall_mem_cons.mpr ⟨rfl, (List.forall_mem_cons.mpr ⟨rfl, (fun _ h => nomatch h)⟩)⟩)⟩) ?_
  exact bX11_pieceOfText_7 hd hJ hT hW hP  hw

def wX11_hasMeaning (a1 : Int) (S : St) (K : Int → St → Prop) : Prop := rng a1 → ((0 : Int) ≤ a1 ∧ a1 < (200 : Int) ∧ (iv (-2) 199 (S.2 88 (a1)) → (∀ x3 : Int, x3 = S.2 88 (a1) → ((0 : Int) ≤ a1 ∧ a1 < (200 : Int) ∧ (∀ S7, S7 = pA S 98 (a1) ((-2)) → ((0 : Int) ≤ a1 ∧ a1 < (200 : Int) ∧ (∀ S9, S9 = pA S7 102 (a1) (0) → ((¬ x3 = (-2) → ((0 : Int) ≤ x3 ∧ x3 < (200 : Int) ∧ (iv 0 29 (S9.2 99 (x3)) → (∀ x13 : Int, x13 = S9.2 99 (x3) → ((0 : Int) ≤ x3 ∧ x3 < (200 : Int) ∧ (iv (-2) 5 (S9.2 98 (x3)) → ((¬ S9.2 98 (x3) = 3 → ((0 : Int) ≤ (60 + x13) ∧ (60 + x13) < (90 : Int) ∧ (iv 0 5 (S9.2 68 ((60 + x13))) → (∀ x21 : Int, x21 = S9.2 68 ((60 + x13)) → ((0 : Int) ≤ a1 ∧ a1 < (200 : Int) ∧ (iv 0 3000 (S9.2 86 (a1)) → ((0 : Int) ≤ a1 ∧ a1 < (200 : Int) ∧ (iv 0 3000 (S9.2 87 (a1)) → (wX11_fieldNamed (x21) (S9.2 86 (a1)) (S9.2 87 (a1)) (0) S9 (fun r28 S29 => (rng (r28) ∧ ((¬ r28 = (-2) → ((0 : Int) ≤ ((4 * x13) + r28) ∧ ((4 * x13) + r28) < (120 : Int) ∧ (iv 0 1 (S29.2 103 (((4 * x13) + r28))) → ((¬ S29.2 103 (((4 * x13) + r28)) = 1 → ((0 : Int) ≤ ((4 * x13) + r28) ∧ ((4 * x13) + r28) < (120 : Int) ∧ (∀ S36, S36 = pA S29 103 (((4 * x13) + r28)) (1) → ((0 : Int) ≤ ((4 * x21) + r28) ∧ ((4 * x21) + r28) < (24 : Int) ∧ (iv 0 3 (S36.2 59 (((4 * x21) + r28))) → (∀ x39 : Int, x39 = S36.2 59 (((4 * x21) + r28)) → ((0 : Int) ≤ a1 ∧ a1 < (200 : Int) ∧ (iv (-2) 359 (((4 * (60 + x13)) + r28)) ∧ (∀ S43, S43 = pA S36 100 (a1) (((4 * (60 + x13)) + r28)) → ((0 : Int) ≤ a1 ∧ a1 < (200 : Int) ∧ (∀ S46, S46 = pA S43 101 (a1) ((-2)) → ((¬ x39 = 2 → ((0 : Int) ≤ a1 ∧ a1 < (200 : Int) ∧ (iv (-2) 5 (x39) ∧ (∀ S49, S49 = pA S46 98 (a1) (x39) → ((0 : Int) ≤ a1 ∧ a1 < (200 : Int) ∧ (∀ S52, S52 = pA S49 99 (a1) (x13) → ((¬ x39 = 3 → ((0 : Int) ≤ a1 ∧ a1 < (200 : Int) ∧ (iv 0 600 (S52.2 91 (a1)) → ((0 < S52.2 91 (a1) → K (0) S52) ∧ ((¬ (0 < S52.2 91 (a1))) → (wX11_hasChild (a1) S52 (fun r57 S58 => (rng (r57) ∧ ((r57 = 0 → (wX11_pieceOfText (a1) S58 (fun r61 S62 => (wX11_becomes (x13) (r28) S62 (fun r63 S64 => (iv 0 1 (r63) ∧ K (r63) S64)))))) ∧ ((¬ (r57 = 0)) → K (0) S58)))))))))) ∧ ((¬ (¬ x39 = 3)) → ((0 : Int) ≤ a1 ∧ a1 < (200 : Int) ∧ (iv 0 600 (S52.2 91 (a1)) → ((¬ S52.2 91 (a1) = 0 → K (0) S52) ∧ ((¬ (¬ S52.2 91 (a1) = 0)) → (wX11_isBlankWithin (a1) S52 (fun r69 S70 => (rng (r69) ∧ ((r69 = 0 → K (0) S70) ∧ ((¬ (r69 = 0)) → K (1) S70))))))))))))))))) ∧ ((¬ (¬ x39 = 2)) → (wX11_isObjectElement (a1) (1) S46 (fun r73 S74 => ((0 : Int) ≤ a1 ∧ a1 < (200 : Int) ∧ (iv (-2) 359 (S74.2 100 (a1)) → ((0 : Int) ≤ a1 ∧ a1 < (200 : Int) ∧ (iv (-2) 5 (S74.2 98 (a1)) → ((¬ S74.2 98 (a1) = 4 → ((0 : Int) ≤ S74.2 100 (a1) ∧ S74.2 100 (a1) < (360 : Int) ∧ (∀ S81, S81 = pA S74 69 (S74.2 100 (a1)) ((-2)) → (iv 0 1 (r73) ∧ K (r73) S81)))) ∧ ((¬ (¬ S74.2 98 (a1) = 4)) → ((0 : Int) ≤ a1 ∧ a1 < (200 : Int) ∧ (iv 0 29 (S74.2 99 (a1)) → ((0 : Int) ≤ S74.2 100 (a1) ∧ S74.2 100 (a1) < (360 : Int) ∧ (iv (-2147483648) 2147483647 (S74.2 99 (a1)) ∧ (∀ S86, S86 = pA S74 69 (S74.2 100 (a1)) (S74.2 99 (a1)) → (iv 0 1 (r73) ∧ K (r73) S86))))))))))))))))))))))))))) ∧ ((¬ (¬ S29.2 103 (((4 * x13) + r28)) = 1)) → K (0) S29))))) ∧ ((¬ (¬ r28 = (-2))) → (wX11_implicitOf (x21) S29 (fun r89 S90 => (rng (r89) ∧ ((r89 = (-2) → K (0) S90) ∧ ((¬ (r89 = (-2))) → (wX11_isListed (a1) (x13) (r89) S90 (fun r93 S94 => (rng (r93) ∧ ((r93 = 0 → K (0) S94) ∧ ((¬ (r93 = 0)) → K (1) S94))))))))))))))))))))))) ∧ ((¬ (¬ S9.2 98 (x3) = 3)) → ((0 : Int) ≤ x3 ∧ x3 < (200 : Int) ∧ (iv (-2) 359 (S9.2 100 (x3)) → (rng ((S9.2 100 (x3) - Int.tdiv (S9.2 100 (x3)) (4) * 4)) ∧ (wX11_isListed (a1) (x13) ((S9.2 100 (x3) - Int.tdiv (S9.2 100 (x3)) (4) * 4)) S9 (fun r100 S101 => (iv 0 1 (r100) ∧ K (r100) S101)))))))))))))) ∧ ((¬ (¬ x3 = (-2))) → ((0 : Int) ≤ a1 ∧ a1 < (200 : Int) ∧ (∀ S104, S104 = pA S9 100 (a1) ((-2)) → (wX11_isObjectElement (a1) (0) S104 (fun r105 S106 => (iv 0 1 (r105) ∧ K (r105) S106))))))))))))))
set_option maxRecDepth 100000 in
set_option maxHeartbeats 4000000 in
theorem lX11_hasMeaning {G : xG} {sh : Nat → Option Sh} {J : St → List va_E → Prop} {a1 : Int} {S : St} {cs : List va_E} {K : Int → St → Prop} (d : Nat) (hd : 5 ≤ d) (hJ : Stb sh J) (hT : isM sh) (hW : Wd G sh mT J S cs) (g1 : rng a1) (hw : wX11_hasMeaning a1 S K) : X G yX11_hasMeaning cX11_hasMeaning 8 (some .boolean) d [.ref (G.1 + 54), .int (Int32.ofInt a1)] cs (qI G sh mT J K) := by
  refine X.of false (by decide +kernel) (by decide) (Nat.le_of_ble_eq_true rfl) ?_
  show Z (RX11, cX11_hasMeaning, 8, some .boolean, false) G d _ 0 [(0, .ref (G.1 + 54)), (1, .int (Int32.ofInt a1))] [] cs
  have hP : ∀ (v : Int) (S : St) (cs : List va_E), K v S → Wd G sh mT J S cs → qI G sh mT J K (some (.int (Int32.ofInt v))) cs := fun v S cs a b => ⟨v, S, rfl, a, b⟩
  unfold wX11_hasMeaning at hw
  have hw := hw g1
  refine z_aload_n dX11_hasMeaning_0 rfl rfl ?_
  refine g_getR hW hT.1 mr47 kX11 fX11_114 dX11_hasMeaning_1 ?_
  refine z_iload_n dX11_hasMeaning_4 rfl rfl ?_
  obtain ⟨q1a, q1b, hw⟩ := hw
  have q2 : iv (-2) 199 (S.2 88 (a1)) := mA88 hW _
  have hw := hw q2
  refine g_iald hW (ma88 hT) q1a q1b (by decide) dX11_hasMeaning_5 ?_
  obtain ⟨x3, hx3⟩ : ∃ x : Int, x = S.2 88 (a1) := ⟨_, rfl⟩
  have hw := hw x3 hx3
  refine z_st (st' := [.int (Int32.ofInt x3)]) (by rw [hx3]) ?_
  have q4 : rng x3 := by rw [hx3]; exact (rngq q2 (by decide) (by decide))
  have q5 : iv (-2) 199 x3 := by rw [hx3]; exact q2
  refine z_istore_n dX11_hasMeaning_6 rfl (by decide) ?_
  refine z_loc (L' := [(0, .ref (G.1 + 54)), (1, .int (Int32.ofInt (a1))), (2, .int (Int32.ofInt (x3)))]) (List.forall_mem_cons.mpr ⟨rfl, (List.forall_mem_cons.mpr ⟨rfl, (List.forall_mem_cons.mpr ⟨rfl, (fun _ h => nomatch h)⟩)⟩)⟩) ?_
  refine z_aload_n dX11_hasMeaning_7 rfl rfl ?_
  refine g_getR hW hT.1 mr61 kX11 fX11_144 dX11_hasMeaning_8 ?_
  refine z_iload_n dX11_hasMeaning_11 rfl rfl ?_
  refine z_bipush (v := Int32.ofInt (-2)) dX11_hasMeaning_12 (by decide) ?_
  obtain ⟨q6a, q6b, hw⟩ := hw
  refine g_iast hJ hW (ma98 hT) q6a q6b (by decide) ⟨by decide, by decide⟩ dX11_hasMeaning_14 (fun cs hW => ?_)
  obtain ⟨S7, hS7⟩ : ∃ x, x = pA S 98 (a1) ((-2)) := ⟨_, rfl⟩
  rw [← hS7] at hW
  have hw := hw S7 hS7
  refine z_aload_n dX11_hasMeaning_15 rfl rfl ?_
  refine g_getR hW hT.1 mr65 kX11 fX11_156 dX11_hasMeaning_16 ?_
  refine z_iload_n dX11_hasMeaning_19 rfl rfl ?_
  refine z_iconst (v := Int32.ofInt 0) dX11_hasMeaning_20 rfl ?_
  obtain ⟨q8a, q8b, hw⟩ := hw
  refine g_iast hJ hW (ma102 hT) q8a q8b (by decide) ⟨by decide, by decide⟩ dX11_hasMeaning_21 (fun cs hW => ?_)
  obtain ⟨S9, hS9⟩ : ∃ x, x = pA S7 102 (a1) (0) := ⟨_, rfl⟩
  rw [← hS9] at hW
  have hw := hw S9 hS9
  refine z_iload_n dX11_hasMeaning_22 rfl rfl ?_
  refine z_bipush (v := Int32.ofInt (-2)) dX11_hasMeaning_23 (by decide) ?_
  refine i_icmp_ne (tgt := 43) dX11_hasMeaning_25 (by decide) q4 ⟨by decide, by decide⟩ (fun h10 => ?_) (fun h10 => ?_)
  · have hw := hw.1 h10
    refine z_aload_n dX11_hasMeaning_43 rfl rfl ?_
    refine g_getR hW hT.1 mr62 kX11 fX11_147 dX11_hasMeaning_44 ?_
    refine z_iload_n dX11_hasMeaning_47 rfl rfl ?_
    obtain ⟨q11a, q11b, hw⟩ := hw
    have q12 : iv 0 29 (S9.2 99 (x3)) := mA99 hW _
    have hw := hw q12
    refine g_iald hW (ma99 hT) q11a q11b (by decide) dX11_hasMeaning_48 ?_
    obtain ⟨x13, hx13⟩ : ∃ x : Int, x = S9.2 99 (x3) := ⟨_, rfl⟩
    have hw := hw x13 hx13
    refine z_st (st' := [.int (Int32.ofInt x13)]) (by rw [hx13]) ?_
    have q14 : rng x13 := by rw [hx13]; exact (rngq q12 (by decide) (by decide))
    have q15 : iv 0 29 x13 := by rw [hx13]; exact q12
    refine z_istore_n dX11_hasMeaning_49 rfl (by decide) ?_
    refine z_loc (L' := [(0, .ref (G.1 + 54)), (1, .int (Int32.ofInt (a1))), (2, .int (Int32.ofInt (x3))), (3, .int (Int32.ofInt (x13)))]) (List.forall_mem_cons.mpr ⟨rfl, (List.forall_mem_cons.mpr ⟨rfl, (List.forall_mem_cons.mpr ⟨rfl, (List.forall_mem_cons.mpr ⟨rfl, (fun _ h => nomatch h)⟩)⟩)⟩)⟩) ?_
    refine z_aload_n dX11_hasMeaning_50 rfl rfl ?_
    refine g_getR hW hT.1 mr61 kX11 fX11_144 dX11_hasMeaning_51 ?_
    refine z_iload_n dX11_hasMeaning_54 rfl rfl ?_
    obtain ⟨q16a, q16b, hw⟩ := hw
    have q17 : iv (-2) 5 (S9.2 98 (x3)) := mA98 hW _
    have hw := hw q17
    refine g_iald hW (ma98 hT) q16a q16b (by decide) dX11_hasMeaning_55 ?_
    refine z_iconst (v := Int32.ofInt 3) dX11_hasMeaning_56 rfl ?_
    refine i_icmp_ne (tgt := 75) dX11_hasMeaning_57 (by decide) (rngq q17 (by decide) (by decide)) ⟨by decide, by decide⟩ (fun h18 => ?_) (fun h18 => ?_)
    · have hw := hw.1 h18
      refine z_aload_n dX11_hasMeaning_75 rfl rfl ?_
      refine g_getR hW hT.1 mr15 kX11 fX11_50 dX11_hasMeaning_76 ?_
      refine z_bipush (v := Int32.ofInt 60) dX11_hasMeaning_79 (by decide) ?_
      refine z_iload_n dX11_hasMeaning_81 rfl rfl ?_
      refine i_iadd dX11_hasMeaning_82 ?_
      obtain ⟨q19a, q19b, hw⟩ := hw
      have q20 : iv 0 5 (S9.2 68 ((60 + x13))) := mA68 hW _
      have hw := hw q20
      refine g_iald hW (ma68 hT) q19a q19b (by decide) dX11_hasMeaning_83 ?_
      obtain ⟨x21, hx21⟩ : ∃ x : Int, x = S9.2 68 ((60 + x13)) := ⟨_, rfl⟩
      have hw := hw x21 hx21
      refine z_st (st' := [.int (Int32.ofInt x21)]) (by rw [hx21]) ?_
      have q22 : rng x21 := by rw [hx21]; exact (rngq q20 (by decide) (by decide))
      have q23 : iv 0 5 x21 := by rw [hx21]; exact q20
      refine z_istore dX11_hasMeaning_84 (by decide) ?_
      refine z_loc (L' := [(0, .ref (G.1 + 54)), (1, .int (Int32.ofInt (a1))), (2, .int (Int32.ofInt (x3))), (3, .int (Int32.ofInt (x13))), (4, .int (Int32.ofInt (x21)))]) (List.forall_mem_cons.mpr ⟨rfl, (List.forall_mem_cons.mpr ⟨rfl, (List.forall_mem_cons.mpr ⟨rfl, (List.forall_mem_cons.mpr ⟨rfl, (List.forall_mem_cons.mpr ⟨rfl, (fun _ h => nomatch h)⟩)⟩)⟩)⟩)⟩) ?_
      refine z_aload_n dX11_hasMeaning_86 rfl rfl ?_
      refine z_iload dX11_hasMeaning_87 rfl ?_
      refine z_aload_n dX11_hasMeaning_89 rfl rfl ?_
      refine g_getR hW hT.1 mr45 kX11 fX11_108 dX11_hasMeaning_90 ?_
      refine z_iload_n dX11_hasMeaning_93 rfl rfl ?_
      obtain ⟨q24a, q24b, hw⟩ := hw
      have q25 : iv 0 3000 (S9.2 86 (a1)) := mA86 hW _
      have hw := hw q25
      refine g_iald hW (ma86 hT) q24a q24b (by decide) dX11_hasMeaning_94 ?_
      refine z_aload_n dX11_hasMeaning_95 rfl rfl ?_
      refine g_getR hW hT.1 mr46 kX11 fX11_111 dX11_hasMeaning_96 ?_
      refine z_iload_n dX11_hasMeaning_99 rfl rfl ?_
      obtain ⟨q26a, q26b, hw⟩ := hw
      have q27 : iv 0 3000 (S9.2 87 (a1)) := mA87 hW _
      have hw := hw q27
      refine g_iald hW (ma87 hT) q26a q26b (by decide) dX11_hasMeaning_100 ?_
      refine z_iconst (v := Int32.ofInt 0) dX11_hasMeaning_101 rfl ?_
      have hX := lX11_fieldNamed 2 (Nat.le_refl _) hJ hT hW q22 (rngq q25 (by decide) (by decide)) (rngq q27 (by decide) (by decide)) ⟨by decide, by decide⟩ hw
      refine z_callV (As := [_, _, _, _]) eX11_fieldNamed sX11_fieldNamed lX11_447 rfl dX11_hasMeaning_102 (hW.1 _ _ hT.1) hX (Nat.le_trans (by decide) hd) rfl (Nat.le_of_ble_eq_true rfl) (fun r cs hp => ?_)
      obtain ⟨r28, S29, rfl, hw, hW⟩ := hp
      refine z_st (st' := [.int (Int32.ofInt (r28))]) rfl ?_
      refine z_istore dX11_hasMeaning_105 (by decide) ?_
      refine z_loc (L' := [(0, .ref (G.1 + 54)), (1, .int (Int32.ofInt (a1))), (2, .int (Int32.ofInt (x3))), (3, .int (Int32.ofInt (x13))), (4, .int (Int32.ofInt (x21))), (5, .int (Int32.ofInt (r28)))]) (List.forall_mem_cons.mpr ⟨rfl, (List.forall_mem_cons.mpr ⟨rfl, (List.forall_mem_cons.mpr ⟨rfl, (List.forall_mem_cons.mpr ⟨rfl, (List.forall_mem_cons.mpr ⟨rfl, (List.forall_mem_cons.mpr ⟨rfl, (fun _ h => nomatch h)⟩)⟩)⟩)⟩)⟩)⟩) ?_
      refine z_iload dX11_hasMeaning_107 rfl ?_
      refine z_bipush (v := Int32.ofInt (-2)) dX11_hasMeaning_109 (by decide) ?_
      obtain ⟨q31, hw⟩ := hw
      refine i_icmp_ne (tgt := 146) dX11_hasMeaning_111 (by decide) q31 ⟨by decide, by decide⟩ (fun h30 => ?_) (fun h30 => ?_)
      · have hw := hw.1 h30
        refine z_aload_n dX11_hasMeaning_146 rfl rfl ?_
        refine g_getR hW hT.1 mr66 kX11 fX11_159 dX11_hasMeaning_147 ?_
        refine z_iconst (v := Int32.ofInt 4) dX11_hasMeaning_150 rfl ?_
        refine z_iload_n dX11_hasMeaning_151 rfl rfl ?_
        refine i_imul dX11_hasMeaning_152 ?_
        refine z_iload dX11_hasMeaning_153 rfl ?_
        refine i_iadd dX11_hasMeaning_155 ?_
        obtain ⟨q32a, q32b, hw⟩ := hw
        have q33 : iv 0 1 (S29.2 103 (((4 * x13) + r28))) := mA103 hW _
        have hw := hw q33
        refine g_iald hW (ma103 hT) q32a q32b (by decide) dX11_hasMeaning_156 ?_
        refine z_iconst (v := Int32.ofInt 1) dX11_hasMeaning_157 rfl ?_
        refine i_icmp_ne (tgt := 163) dX11_hasMeaning_158 (by decide) (rngq q33 (by decide) (by decide)) ⟨by decide, by decide⟩ (fun h34 => ?_) (fun h34 => ?_)
        · have hw := hw.1 h34
          refine z_aload_n dX11_hasMeaning_163 rfl rfl ?_
          refine g_getR hW hT.1 mr66 kX11 fX11_159 dX11_hasMeaning_164 ?_
          refine z_iconst (v := Int32.ofInt 4) dX11_hasMeaning_167 rfl ?_
          refine z_iload_n dX11_hasMeaning_168 rfl rfl ?_
          refine i_imul dX11_hasMeaning_169 ?_
          refine z_iload dX11_hasMeaning_170 rfl ?_
          refine i_iadd dX11_hasMeaning_172 ?_
          refine z_iconst (v := Int32.ofInt 1) dX11_hasMeaning_173 rfl ?_
          obtain ⟨q35a, q35b, hw⟩ := hw
          refine g_iast hJ hW (ma103 hT) q35a q35b (by decide) ⟨by decide, by decide⟩ dX11_hasMeaning_174 (fun cs hW => ?_)
          obtain ⟨S36, hS36⟩ : ∃ x, x = pA S29 103 (((4 * x13) + r28)) (1) := ⟨_, rfl⟩
          rw [← hS36] at hW
          have hw := hw S36 hS36
          refine z_aload_n dX11_hasMeaning_175 rfl rfl ?_
          refine g_getR hW hT.1 mr6 kX11 fX11_22 dX11_hasMeaning_176 ?_
          refine z_iconst (v := Int32.ofInt 4) dX11_hasMeaning_179 rfl ?_
          refine z_iload dX11_hasMeaning_180 rfl ?_
          refine i_imul dX11_hasMeaning_182 ?_
          refine z_iload dX11_hasMeaning_183 rfl ?_
          refine i_iadd dX11_hasMeaning_185 ?_
          obtain ⟨q37a, q37b, hw⟩ := hw
          have q38 : iv 0 3 (S36.2 59 (((4 * x21) + r28))) := mA59 hW _
          have hw := hw q38
          refine g_iald hW (ma59 hT) q37a q37b (by decide) dX11_hasMeaning_186 ?_
          obtain ⟨x39, hx39⟩ : ∃ x : Int, x = S36.2 59 (((4 * x21) + r28)) := ⟨_, rfl⟩
          have hw := hw x39 hx39
          refine z_st (st' := [.int (Int32.ofInt x39)]) (by rw [hx39]) ?_
          have q40 : rng x39 := by rw [hx39]; exact (rngq q38 (by decide) (by decide))
          have q41 : iv 0 3 x39 := by rw [hx39]; exact q38
          refine z_istore dX11_hasMeaning_187 (by decide) ?_
          refine z_loc (L' := [(0, .ref (G.1 + 54)), (1, .int (Int32.ofInt (a1))), (2, .int (Int32.ofInt (x3))), (3, .int (Int32.ofInt (x13))), (4, .int (Int32.ofInt (x21))), (5, .int (Int32.ofInt (r28))), (6, .int (Int32.ofInt (x39)))]) (List.forall_mem_cons.mpr ⟨rfl, (List.forall_mem_cons.mpr ⟨rfl, (List.forall_mem_cons.mpr ⟨rfl, (List.forall_mem_cons.mpr ⟨rfl, (List.forall_mem_cons.mpr ⟨rfl, (List.forall_mem_cons.mpr ⟨rfl, (List.forall_mem_cons.mpr ⟨rfl, (fun _ h => nomatch h)⟩)⟩)⟩)⟩)⟩)⟩)⟩) ?_
          refine z_aload_n dX11_hasMeaning_189 rfl rfl ?_
          refine g_getR hW hT.1 mr63 kX11 fX11_150 dX11_hasMeaning_190 ?_
          refine z_iload_n dX11_hasMeaning_193 rfl rfl ?_
          refine z_iconst (v := Int32.ofInt 4) dX11_hasMeaning_194 rfl ?_
          refine z_bipush (v := Int32.ofInt 60) dX11_hasMeaning_195 (by decide) ?_
          refine z_iload_n dX11_hasMeaning_197 rfl rfl ?_
          refine i_iadd dX11_hasMeaning_198 ?_
          refine i_imul dX11_hasMeaning_199 ?_
          refine z_iload dX11_hasMeaning_200 rfl ?_
          refine i_iadd dX11_hasMeaning_202 ?_
          obtain ⟨q42a, q42b, hw⟩ := hw
          obtain ⟨q44, hw⟩ := hw
          refine g_iast hJ hW (ma100 hT) q42a q42b (by decide) q44 dX11_hasMeaning_203 (fun cs hW => ?_)
          obtain ⟨S43, hS43⟩ : ∃ x, x = pA S36 100 (a1) (((4 * (60 + x13)) + r28)) := ⟨_, rfl⟩
          rw [← hS43] at hW
          have hw := hw S43 hS43
          refine z_aload_n dX11_hasMeaning_204 rfl rfl ?_
          refine g_getR hW hT.1 mr64 kX11 fX11_153 dX11_hasMeaning_205 ?_
          refine z_iload_n dX11_hasMeaning_208 rfl rfl ?_
          refine z_bipush (v := Int32.ofInt (-2)) dX11_hasMeaning_209 (by decide) ?_
          obtain ⟨q45a, q45b, hw⟩ := hw
          refine g_iast hJ hW (ma101 hT) q45a q45b (by decide) ⟨by decide, by decide⟩ dX11_hasMeaning_211 (fun cs hW => ?_)
          obtain ⟨S46, hS46⟩ : ∃ x, x = pA S43 101 (a1) ((-2)) := ⟨_, rfl⟩
          rw [← hS46] at hW
          have hw := hw S46 hS46
          refine z_iload dX11_hasMeaning_212 rfl ?_
          refine z_iconst (v := Int32.ofInt 2) dX11_hasMeaning_214 rfl ?_
          refine i_icmp_ne (tgt := 261) dX11_hasMeaning_215 (by decide) q40 ⟨by decide, by decide⟩ (fun h47 => ?_) (fun h47 => ?_)
          · have hw := hw.1 h47
            refine z_aload_n dX11_hasMeaning_261 rfl rfl ?_
            refine g_getR hW hT.1 mr61 kX11 fX11_144 dX11_hasMeaning_262 ?_
            refine z_iload_n dX11_hasMeaning_265 rfl rfl ?_
            refine z_iload dX11_hasMeaning_266 rfl ?_
            obtain ⟨q48a, q48b, hw⟩ := hw
            obtain ⟨q50, hw⟩ := hw
            refine g_iast hJ hW (ma98 hT) q48a q48b (by decide) q50 dX11_hasMeaning_268 (fun cs hW => ?_)
            obtain ⟨S49, hS49⟩ : ∃ x, x = pA S46 98 (a1) (x39) := ⟨_, rfl⟩
            rw [← hS49] at hW
            have hw := hw S49 hS49
            refine z_aload_n dX11_hasMeaning_269 rfl rfl ?_
            refine g_getR hW hT.1 mr62 kX11 fX11_147 dX11_hasMeaning_270 ?_
            refine z_iload_n dX11_hasMeaning_273 rfl rfl ?_
            refine z_iload_n dX11_hasMeaning_274 rfl rfl ?_
            obtain ⟨q51a, q51b, hw⟩ := hw
            refine g_iast hJ hW (ma99 hT) q51a q51b (by decide) q15 dX11_hasMeaning_275 (fun cs hW => ?_)
            obtain ⟨S52, hS52⟩ : ∃ x, x = pA S49 99 (a1) (x13) := ⟨_, rfl⟩
            rw [← hS52] at hW
            have hw := hw S52 hS52
            refine z_iload dX11_hasMeaning_276 rfl ?_
            refine z_iconst (v := Int32.ofInt 3) dX11_hasMeaning_278 rfl ?_
            refine i_icmp_ne (tgt := 305) dX11_hasMeaning_279 (by decide) q40 ⟨by decide, by decide⟩ (fun h53 => ?_) (fun h53 => ?_)
            · have hw := hw.1 h53
              refine z_aload_n dX11_hasMeaning_305 rfl rfl ?_
              refine g_getR hW hT.1 mr50 kX11 fX11_123 dX11_hasMeaning_306 ?_
              refine z_iload_n dX11_hasMeaning_309 rfl rfl ?_
              obtain ⟨q54a, q54b, hw⟩ := hw
              have q55 : iv 0 600 (S52.2 91 (a1)) := mA91 hW _
              have hw := hw q55
              refine g_iald hW (ma91 hT) q54a q54b (by decide) dX11_hasMeaning_310 ?_
              refine i_if_gt (tgt := 322) dX11_hasMeaning_311 (by decide) (rngq q55 (by decide) (by decide)) (fun h56 => ?_) (fun h56 => ?_)
              · have hw := hw.1 h56
                refine z_iconst (v := Int32.ofInt 0) dX11_hasMeaning_322 rfl ?_
                exact z_ireturn dX11_hasMeaning_323 rfl (nar01 (by decide)) (hP _ _ _ hw hW)
              · have hw := hw.2 h56
                refine z_aload_n dX11_hasMeaning_314 rfl rfl ?_
                refine z_iload_n dX11_hasMeaning_315 rfl rfl ?_
                have hX := lX11_hasChild 0 (Nat.le_refl _) hJ hT hW g1 hw
                refine z_callV (As := [_]) eX11_hasChild sX11_hasChild lX11_432 rfl dX11_hasMeaning_316 (hW.1 _ _ hT.1) hX (Nat.le_trans (by decide) hd) rfl (Nat.le_of_ble_eq_true rfl) (fun r cs hp => ?_)
                obtain ⟨r57, S58, rfl, hw, hW⟩ := hp
                refine z_st (st' := [.int (Int32.ofInt (r57))]) rfl ?_
                obtain ⟨q60, hw⟩ := hw
                refine i_if_eq (tgt := 324) dX11_hasMeaning_319 (by decide) q60 (fun h59 => ?_) (fun h59 => ?_)
                · have hw := hw.1 h59
                  refine z_aload_n dX11_hasMeaning_324 rfl rfl ?_
                  refine z_iload_n dX11_hasMeaning_325 rfl rfl ?_
                  have hX := lX11_pieceOfText 0 (Nat.le_refl _) hJ hT hW g1 hw
                  refine z_callV (As := [_]) eX11_pieceOfText sX11_pieceOfText lX11_470 rfl dX11_hasMeaning_326 (hW.1 _ _ hT.1) hX (Nat.le_trans (by decide) hd) rfl (Nat.le_of_ble_eq_true rfl) (fun r cs hp => ?_)
                  obtain ⟨r61, S62, rfl, hw, hW⟩ := hp
                  refine z_st (st' := []) rfl ?_
                  refine z_aload_n dX11_hasMeaning_329 rfl rfl ?_
                  refine z_iload_n dX11_hasMeaning_330 rfl rfl ?_
                  refine z_iload dX11_hasMeaning_331 rfl ?_
                  have hX := lX11_becomes 1 (Nat.le_refl _) hJ hT hW q14 q31 hw
                  refine z_callV (As := [_, _]) eX11_becomes sX11_becomes lX11_454 rfl dX11_hasMeaning_333 (hW.1 _ _ hT.1) hX (Nat.le_trans (by decide) hd) rfl (Nat.le_of_ble_eq_true rfl) (fun r cs hp => ?_)
                  obtain ⟨r63, S64, rfl, hw, hW⟩ := hp
                  refine z_st (st' := [.int (Int32.ofInt (r63))]) rfl ?_
                  obtain ⟨q65, hw⟩ := hw
                  exact z_ireturn dX11_hasMeaning_336 rfl (nar01 (b01 q65)) (hP _ _ _ hw hW)
                · have hw := hw.2 h59
                  refine z_iconst (v := Int32.ofInt 0) dX11_hasMeaning_322 rfl ?_
                  exact z_ireturn dX11_hasMeaning_323 rfl (nar01 (by decide)) (hP _ _ _ hw hW)
            · have hw := hw.2 h53
              refine z_aload_n dX11_hasMeaning_282 rfl rfl ?_
              refine g_getR hW hT.1 mr50 kX11 fX11_123 dX11_hasMeaning_283 ?_
              refine z_iload_n dX11_hasMeaning_286 rfl rfl ?_
              obtain ⟨q66a, q66b, hw⟩ := hw
              have q67 : iv 0 600 (S52.2 91 (a1)) := mA91 hW _
              have hw := hw q67
              refine g_iald hW (ma91 hT) q66a q66b (by decide) dX11_hasMeaning_287 ?_
              refine i_if_ne (tgt := 303) dX11_hasMeaning_288 (by decide) (rngq q67 (by decide) (by decide)) (fun h68 => ?_) (fun h68 => ?_)
              · have hw := hw.1 h68
                refine z_iconst (v := Int32.ofInt 0) dX11_hasMeaning_303 rfl ?_
                exact z_ireturn dX11_hasMeaning_304 rfl (nar01 (by decide)) (hP _ _ _ hw hW)
              · have hw := hw.2 h68
                refine z_aload_n dX11_hasMeaning_291 rfl rfl ?_
                refine z_iload_n dX11_hasMeaning_292 rfl rfl ?_
                have hX := lX11_isBlankWithin 1 (Nat.le_refl _) hJ hT hW g1 hw
                refine z_callV (As := [_]) eX11_isBlankWithin sX11_isBlankWithin lX11_444 rfl dX11_hasMeaning_293 (hW.1 _ _ hT.1) hX (Nat.le_trans (by decide) hd) rfl (Nat.le_of_ble_eq_true rfl) (fun r cs hp => ?_)
                obtain ⟨r69, S70, rfl, hw, hW⟩ := hp
                refine z_st (st' := [.int (Int32.ofInt (r69))]) rfl ?_
                obtain ⟨q72, hw⟩ := hw
                refine i_if_eq (tgt := 303) dX11_hasMeaning_296 (by decide) q72 (fun h71 => ?_) (fun h71 => ?_)
                · have hw := hw.1 h71
                  refine z_iconst (v := Int32.ofInt 0) dX11_hasMeaning_303 rfl ?_
                  exact z_ireturn dX11_hasMeaning_304 rfl (nar01 (by decide)) (hP _ _ _ hw hW)
                · have hw := hw.2 h71
                  refine z_iconst (v := Int32.ofInt 1) dX11_hasMeaning_299 rfl ?_
                  refine z_goto (tgt := 304) dX11_hasMeaning_300 (by decide) ?_
                  exact z_ireturn dX11_hasMeaning_304 rfl (nar01 (by decide)) (hP _ _ _ hw hW)
          · have hw := hw.2 h47
            refine z_aload_n dX11_hasMeaning_218 rfl rfl ?_
            refine z_iload_n dX11_hasMeaning_219 rfl rfl ?_
            refine z_iconst (v := Int32.ofInt 1) dX11_hasMeaning_220 rfl ?_
            have hX := lX11_isObjectElement 3 (Nat.le_refl _) hJ hT hW g1 ⟨by decide, by decide⟩ hw
            refine z_callV (As := [_, _]) eX11_isObjectElement sX11_isObjectElement lX11_460 rfl dX11_hasMeaning_221 (hW.1 _ _ hT.1) hX (Nat.le_trans (by decide) hd) rfl (Nat.le_of_ble_eq_true rfl) (fun r cs hp => ?_)
            obtain ⟨r73, S74, rfl, hw, hW⟩ := hp
            refine z_st (st' := [.int (Int32.ofInt (r73))]) rfl ?_
            refine z_istore dX11_hasMeaning_224 (by decide) ?_
            refine z_loc (L' := [(0, .ref (G.1 + 54)), (1, .int (Int32.ofInt (a1))), (2, .int (Int32.ofInt (x3))), (3, .int (Int32.ofInt (x13))), (4, .int (Int32.ofInt (x21))), (5, .int (Int32.ofInt (r28))), (6, .int (Int32.ofInt (x39))), (7, .int (Int32.ofInt (r73)))]) (List.forall_mem_cons.mpr ⟨rfl, (List.forall_mem_cons.mpr ⟨rfl, (List.forall_mem_cons.mpr ⟨rfl, (List.forall_mem_cons.mpr ⟨rfl, (List.forall_mem_cons.mpr ⟨rfl, (List.forall_mem_cons.mpr ⟨rfl, (List.forall_mem_cons.mpr ⟨rfl, (List.forall_mem_cons.mpr ⟨rfl, (fun _ h => nomatch h)⟩)⟩)⟩)⟩)⟩)⟩)⟩)⟩) ?_
            refine z_aload_n dX11_hasMeaning_226 rfl rfl ?_
            refine g_getR hW hT.1 mr16 kX11 fX11_53 dX11_hasMeaning_227 ?_
            refine z_aload_n dX11_hasMeaning_230 rfl rfl ?_
            refine g_getR hW hT.1 mr63 kX11 fX11_150 dX11_hasMeaning_231 ?_
            refine z_iload_n dX11_hasMeaning_234 rfl rfl ?_
            obtain ⟨q75a, q75b, hw⟩ := hw
            have q76 : iv (-2) 359 (S74.2 100 (a1)) := mA100 hW _
            have hw := hw q76
            refine g_iald hW (ma100 hT) q75a q75b (by decide) dX11_hasMeaning_235 ?_
            refine z_aload_n dX11_hasMeaning_236 rfl rfl ?_
            refine g_getR hW hT.1 mr61 kX11 fX11_144 dX11_hasMeaning_237 ?_
            refine z_iload_n dX11_hasMeaning_240 rfl rfl ?_
            obtain ⟨q77a, q77b, hw⟩ := hw
            have q78 : iv (-2) 5 (S74.2 98 (a1)) := mA98 hW _
            have hw := hw q78
            refine g_iald hW (ma98 hT) q77a q77b (by decide) dX11_hasMeaning_241 ?_
            refine z_iconst (v := Int32.ofInt 4) dX11_hasMeaning_242 rfl ?_
            refine i_icmp_ne (tgt := 255) dX11_hasMeaning_243 (by decide) (rngq q78 (by decide) (by decide)) ⟨by decide, by decide⟩ (fun h79 => ?_) (fun h79 => ?_)
            · have hw := hw.1 h79
              refine z_bipush (v := Int32.ofInt (-2)) dX11_hasMeaning_255 (by decide) ?_
              obtain ⟨q80a, q80b, hw⟩ := hw
              refine g_iast hJ hW (ma69 hT) q80a q80b (by decide) ⟨by decide, by decide⟩ dX11_hasMeaning_257 (fun cs hW => ?_)
              obtain ⟨S81, hS81⟩ : ∃ x, x = pA S74 69 (S74.2 100 (a1)) ((-2)) := ⟨_, rfl⟩
              rw [← hS81] at hW
              have hw := hw S81 hS81
              refine z_iload dX11_hasMeaning_258 rfl ?_
              obtain ⟨q82, hw⟩ := hw
              exact z_ireturn dX11_hasMeaning_260 rfl (nar01 (b01 q82)) (hP _ _ _ hw hW)
            · have hw := hw.2 h79
              refine z_aload_n dX11_hasMeaning_246 rfl rfl ?_
              refine g_getR hW hT.1 mr62 kX11 fX11_147 dX11_hasMeaning_247 ?_
              refine z_iload_n dX11_hasMeaning_250 rfl rfl ?_
              obtain ⟨q83a, q83b, hw⟩ := hw
              have q84 : iv 0 29 (S74.2 99 (a1)) := mA99 hW _
              have hw := hw q84
              refine g_iald hW (ma99 hT) q83a q83b (by decide) dX11_hasMeaning_251 ?_
              refine z_goto (tgt := 257) dX11_hasMeaning_252 (by decide) ?_
              obtain ⟨q85a, q85b, hw⟩ := hw
              obtain ⟨q87, hw⟩ := hw
              refine g_iast hJ hW (ma69 hT) q85a q85b (by decide) q87 dX11_hasMeaning_257 (fun cs hW => ?_)
              obtain ⟨S86, hS86⟩ : ∃ x, x = pA S74 69 (S74.2 100 (a1)) (S74.2 99 (a1)) := ⟨_, rfl⟩
              rw [← hS86] at hW
              have hw := hw S86 hS86
              refine z_iload dX11_hasMeaning_258 rfl ?_
              obtain ⟨q88, hw⟩ := hw
              exact z_ireturn dX11_hasMeaning_260 rfl (nar01 (b01 q88)) (hP _ _ _ hw hW)
        · have hw := hw.2 h34
          refine z_iconst (v := Int32.ofInt 0) dX11_hasMeaning_161 rfl ?_
          exact z_ireturn dX11_hasMeaning_162 rfl (nar01 (by decide)) (hP _ _ _ hw hW)
      · have hw := hw.2 h30
        refine z_aload_n dX11_hasMeaning_114 rfl rfl ?_
        refine z_iload dX11_hasMeaning_115 rfl ?_
        have hX := lX11_implicitOf 0 (Nat.le_refl _) hJ hT hW q22 hw
        refine z_callV (As := [_]) eX11_implicitOf sX11_implicitOf lX11_467 rfl dX11_hasMeaning_117 (hW.1 _ _ hT.1) hX (Nat.le_trans (by decide) hd) rfl (Nat.le_of_ble_eq_true rfl) (fun r cs hp => ?_)
        obtain ⟨r89, S90, rfl, hw, hW⟩ := hp
        refine z_st (st' := [.int (Int32.ofInt (r89))]) rfl ?_
        refine z_istore dX11_hasMeaning_120 (by decide) ?_
        refine z_loc (L' := [(0, .ref (G.1 + 54)), (1, .int (Int32.ofInt (a1))), (2, .int (Int32.ofInt (x3))), (3, .int (Int32.ofInt (x13))), (4, .int (Int32.ofInt (x21))), (5, .int (Int32.ofInt (r28))), (6, .int (Int32.ofInt (r89)))]) (List.forall_mem_cons.mpr ⟨rfl, (List.forall_mem_cons.mpr ⟨rfl, (List.forall_mem_cons.mpr ⟨rfl, (List.forall_mem_cons.mpr ⟨rfl, (List.forall_mem_cons.mpr ⟨rfl, (List.forall_mem_cons.mpr ⟨rfl, (List.forall_mem_cons.mpr ⟨rfl, (fun _ h => nomatch h)⟩)⟩)⟩)⟩)⟩)⟩)⟩) ?_
        refine z_iload dX11_hasMeaning_122 rfl ?_
        refine z_bipush (v := Int32.ofInt (-2)) dX11_hasMeaning_124 (by decide) ?_
        obtain ⟨q92, hw⟩ := hw
        refine i_icmp_eq (tgt := 144) dX11_hasMeaning_126 (by decide) q92 ⟨by decide, by decide⟩ (fun h91 => ?_) (fun h91 => ?_)
        · have hw := hw.1 h91
          refine z_iconst (v := Int32.ofInt 0) dX11_hasMeaning_144 rfl ?_
          exact z_ireturn dX11_hasMeaning_145 rfl (nar01 (by decide)) (hP _ _ _ hw hW)
        · have hw := hw.2 h91
          refine z_aload_n dX11_hasMeaning_129 rfl rfl ?_
          refine z_iload_n dX11_hasMeaning_130 rfl rfl ?_
          refine z_iload_n dX11_hasMeaning_131 rfl rfl ?_
          refine z_iload dX11_hasMeaning_132 rfl ?_
          have hX := lX11_isListed 4 (Nat.le_refl _) hJ hT hW g1 q14 q92 hw
          refine z_callV (As := [_, _, _]) eX11_isListed sX11_isListed lX11_464 rfl dX11_hasMeaning_134 (hW.1 _ _ hT.1) hX (Nat.le_trans (by decide) hd) rfl (Nat.le_of_ble_eq_true rfl) (fun r cs hp => ?_)
          obtain ⟨r93, S94, rfl, hw, hW⟩ := hp
          refine z_st (st' := [.int (Int32.ofInt (r93))]) rfl ?_
          obtain ⟨q96, hw⟩ := hw
          refine i_if_eq (tgt := 144) dX11_hasMeaning_137 (by decide) q96 (fun h95 => ?_) (fun h95 => ?_)
          · have hw := hw.1 h95
            refine z_iconst (v := Int32.ofInt 0) dX11_hasMeaning_144 rfl ?_
            exact z_ireturn dX11_hasMeaning_145 rfl (nar01 (by decide)) (hP _ _ _ hw hW)
          · have hw := hw.2 h95
            refine z_iconst (v := Int32.ofInt 1) dX11_hasMeaning_140 rfl ?_
            refine z_goto (tgt := 145) dX11_hasMeaning_141 (by decide) ?_
            exact z_ireturn dX11_hasMeaning_145 rfl (nar01 (by decide)) (hP _ _ _ hw hW)
    · have hw := hw.2 h18
      refine z_aload_n dX11_hasMeaning_60 rfl rfl ?_
      refine z_iload_n dX11_hasMeaning_61 rfl rfl ?_
      refine z_iload_n dX11_hasMeaning_62 rfl rfl ?_
      refine z_aload_n dX11_hasMeaning_63 rfl rfl ?_
      refine g_getR hW hT.1 mr63 kX11 fX11_150 dX11_hasMeaning_64 ?_
      refine z_iload_n dX11_hasMeaning_67 rfl rfl ?_
      obtain ⟨q97a, q97b, hw⟩ := hw
      have q98 : iv (-2) 359 (S9.2 100 (x3)) := mA100 hW _
      have hw := hw q98
      refine g_iald hW (ma100 hT) q97a q97b (by decide) dX11_hasMeaning_68 ?_
      refine z_iconst (v := Int32.ofInt 4) dX11_hasMeaning_69 rfl ?_
      refine i_irem dX11_hasMeaning_70 (by decide) (rngq q98 (by decide) (by decide)) ⟨by decide, by decide⟩ ?_
      obtain ⟨q99, hw⟩ := hw
      have hX := lX11_isListed 4 (Nat.le_refl _) hJ hT hW g1 q14 q99 hw
      refine z_callV (As := [_, _, _]) eX11_isListed sX11_isListed lX11_464 rfl dX11_hasMeaning_71 (hW.1 _ _ hT.1) hX (Nat.le_trans (by decide) hd) rfl (Nat.le_of_ble_eq_true rfl) (fun r cs hp => ?_)
      obtain ⟨r100, S101, rfl, hw, hW⟩ := hp
      refine z_st (st' := [.int (Int32.ofInt (r100))]) rfl ?_
      obtain ⟨q102, hw⟩ := hw
      exact z_ireturn dX11_hasMeaning_74 rfl (nar01 (b01 q102)) (hP _ _ _ hw hW)
  · have hw := hw.2 h10
    refine z_aload_n dX11_hasMeaning_28 rfl rfl ?_
    refine g_getR hW hT.1 mr63 kX11 fX11_150 dX11_hasMeaning_29 ?_
    refine z_iload_n dX11_hasMeaning_32 rfl rfl ?_
    refine z_bipush (v := Int32.ofInt (-2)) dX11_hasMeaning_33 (by decide) ?_
    obtain ⟨q103a, q103b, hw⟩ := hw
    refine g_iast hJ hW (ma100 hT) q103a q103b (by decide) ⟨by decide, by decide⟩ dX11_hasMeaning_35 (fun cs hW => ?_)
    obtain ⟨S104, hS104⟩ : ∃ x, x = pA S9 100 (a1) ((-2)) := ⟨_, rfl⟩
    rw [← hS104] at hW
    have hw := hw S104 hS104
    refine z_aload_n dX11_hasMeaning_36 rfl rfl ?_
    refine z_iload_n dX11_hasMeaning_37 rfl rfl ?_
    refine z_iconst (v := Int32.ofInt 0) dX11_hasMeaning_38 rfl ?_
    have hX := lX11_isObjectElement 3 (Nat.le_refl _) hJ hT hW g1 ⟨by decide, by decide⟩ hw
    refine z_callV (As := [_, _]) eX11_isObjectElement sX11_isObjectElement lX11_460 rfl dX11_hasMeaning_39 (hW.1 _ _ hT.1) hX (Nat.le_trans (by decide) hd) rfl (Nat.le_of_ble_eq_true rfl) (fun r cs hp => ?_)
    obtain ⟨r105, S106, rfl, hw, hW⟩ := hp
    refine z_st (st' := [.int (Int32.ofInt (r105))]) rfl ?_
    obtain ⟨q107, hw⟩ := hw
    exact z_ireturn dX11_hasMeaning_42 rfl (nar01 (b01 q107)) (hP _ _ _ hw hW)

