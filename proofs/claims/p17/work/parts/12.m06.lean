def wX11_element_47 (l1 l2 l4 s0 : Int) (S : St) (K : Int → St → Prop) (B5 : Int → Int → Int → Int → St → Prop) : Prop := B5 (l1) (l2) (s0) ((l4 + 1)) S
set_option maxRecDepth 100000 in
set_option maxHeartbeats 4000000 in
theorem bX11_element_47 {G : xG} {sh : Nat → Option Sh} {J : St → List va_E → Prop} {d : Nat} {Post : xP} {l1 l2 l4 s0 : Int} {S : St} {cs : List va_E} {K : Int → St → Prop} {B5 : Int → Int → Int → Int → St → Prop} (hd : 1 ≤ d) (hJ : Stb sh J) (hT : isM sh) (hW : Wd G sh mT J S cs) (hP : ∀ (v : Int) (S : St) (cs : List va_E), K v S → Wd G sh mT J S cs → Post (some (.int (Int32.ofInt v))) cs) (hB5 : ∀ (l1 : Int) (l2 : Int) (l3 : Int) (l4 : Int) (S : St) (cs : List va_E), B5 l1 l2 l3 l4 S → Wd G sh mT J S cs → Z (RX11, cX11_element, 5, some .int, false) G d Post 5 [(0, .ref (G.1 + 54)), (1, .int (Int32.ofInt (l1))), (2, .int (Int32.ofInt (l2))), (3, .int (Int32.ofInt (l3))), (4, .int (Int32.ofInt (l4)))] [] cs) (hw : wX11_element_47 l1 l2 l4 s0 S K B5) : Z (RX11, cX11_element, 5, some .int, false) G d Post 47 [(0, .ref (G.1 + 54)), (1, .int (Int32.ofInt (l1))), (2, .int (Int32.ofInt (l2))), (4, .int (Int32.ofInt (l4)))] [.int (Int32.ofInt (s0))] cs := by
  unfold wX11_element_47 at hw
  refine z_istore_n dX11_element_47 rfl (by decide) ?_
  refine z_loc (L' := [(0, .ref (G.1 + 54)), (1, .int (Int32.ofInt (l1))), (2, .int (Int32.ofInt (l2))), (3, .int (Int32.ofInt (s0))), (4, .int (Int32.ofInt (l4)))]) (List.forall_mem_cons.mpr ⟨rfl, (List.forall_mem_cons.mpr ⟨rfl, (List.forall_mem_cons.mpr ⟨rfl, (List.forall_mem_cons.mpr ⟨rfl, (List.forall_mem_cons.mpr ⟨rfl, (fun _ h => nomatch h)⟩)⟩)⟩)⟩)⟩) ?_
  refine i_iinc (l := l4) dX11_element_48 rfl (by decide) ?_
  refine z_loc (L' := [(0, .ref (G.1 + 54)), (1, .int (Int32.ofInt (l1))), (2, .int (Int32.ofInt (l2))), (3, .int (Int32.ofInt (s0))), (4, .int (Int32.ofInt ((l4 + 1))))]) (List.forall_mem_cons.mpr ⟨rfl, (List.forall_mem_cons.mpr ⟨rfl, (List.forall_mem_cons.mpr ⟨rfl, (List.forall_mem_cons.mpr ⟨rfl, (List.forall_mem_cons.mpr ⟨rfl, (fun _ h => nomatch h)⟩)⟩)⟩)⟩)⟩) ?_
  refine z_goto (tgt := 5) dX11_element_51 (by decide) ?_
  refine z_loc (L' := [(0, .ref (G.1 + 54)), (1, .int (Int32.ofInt (l1))), (2, .int (Int32.ofInt (l2))), (3, .int (Int32.ofInt (s0))), (4, .int (Int32.ofInt ((l4 + 1))))]) (List.forall_mem_cons.mpr ⟨rfl, (List.forall_mem_cons.mpr ⟨rfl, (List.forall_mem_cons.mpr ⟨rfl, (List.forall_mem_cons.mpr ⟨rfl, (List.forall_mem_cons.mpr ⟨rfl, (fun _ h => nomatch h)⟩)⟩)⟩)⟩)⟩) ?_
  exact hB5 _ _ _ _ _ _ hw hW
def wX11_element_46 (l1 l2 l3 l4 : Int) (S : St) (K : Int → St → Prop) (B5 : Int → Int → Int → Int → St → Prop) : Prop := wX11_element_47 (l1) (l2) (l4) (l3) S K B5
set_option maxRecDepth 100000 in
set_option maxHeartbeats 4000000 in
theorem bX11_element_46 {G : xG} {sh : Nat → Option Sh} {J : St → List va_E → Prop} {d : Nat} {Post : xP} {l1 l2 l3 l4 : Int} {S : St} {cs : List va_E} {K : Int → St → Prop} {B5 : Int → Int → Int → Int → St → Prop} (hd : 1 ≤ d) (hJ : Stb sh J) (hT : isM sh) (hW : Wd G sh mT J S cs) (hP : ∀ (v : Int) (S : St) (cs : List va_E), K v S → Wd G sh mT J S cs → Post (some (.int (Int32.ofInt v))) cs) (hB5 : ∀ (l1 : Int) (l2 : Int) (l3 : Int) (l4 : Int) (S : St) (cs : List va_E), B5 l1 l2 l3 l4 S → Wd G sh mT J S cs → Z (RX11, cX11_element, 5, some .int, false) G d Post 5 [(0, .ref (G.1 + 54)), (1, .int (Int32.ofInt (l1))), (2, .int (Int32.ofInt (l2))), (3, .int (Int32.ofInt (l3))), (4, .int (Int32.ofInt (l4)))] [] cs) (hw : wX11_element_46 l1 l2 l3 l4 S K B5) : Z (RX11, cX11_element, 5, some .int, false) G d Post 46 [(0, .ref (G.1 + 54)), (1, .int (Int32.ofInt (l1))), (2, .int (Int32.ofInt (l2))), (3, .int (Int32.ofInt (l3))), (4, .int (Int32.ofInt (l4)))] [] cs := by
  unfold wX11_element_46 at hw
  refine z_iload_n dX11_element_46 rfl rfl ?_
  refine z_loc (L' := [(0, .ref (G.1 + 54)), (1, .int (Int32.ofInt (l1))), (2, .int (Int32.ofInt (l2))), (4, .int (Int32.ofInt (l4)))]) (List.forall_mem_cons.mpr ⟨rfl, (List.forall_mem_cons.mpr ⟨rfl, (List.forall_mem_cons.mpr ⟨rfl, (List.forall_mem_cons.mpr ⟨rfl, (fun _ h => nomatch h)⟩)⟩)⟩)⟩) ?_
  exact bX11_element_47 hd hJ hT hW hP hB5 hw
def wX11_element_5' (l1 l2 l3 l4 : Int) (S : St) (K : Int → St → Prop) (B5 : Int → Int → Int → Int → St → Prop) : Prop := (iv 0 900 (S.1 54 25) → (rng (l4) ∧ ((S.1 54 25 ≤ l4 → ((0 : Int) ≤ S.1 54 25 ∧ S.1 54 25 < (900 : Int) ∧ (iv (-2) 899 (l1) ∧ (∀ S5, S5 = pA S 72 (S.1 54 25) (l1) → (iv 0 900 (S5.1 54 25) → ((0 : Int) ≤ S5.1 54 25 ∧ S5.1 54 25 < (900 : Int) ∧ (iv 0 29 (l2) ∧ (∀ S9, S9 = pA S5 73 (S5.1 54 25) (l2) → (iv 0 900 (S9.1 54 25) → ((0 : Int) ≤ S9.1 54 25 ∧ S9.1 54 25 < (900 : Int) ∧ (iv 0 901 (l3) ∧ (∀ S13, S13 = pA S9 74 (S9.1 54 25) (l3) → (iv 0 900 (S13.1 54 25) → (iv 0 900 ((S13.1 54 25 + 1)) ∧ (∀ S16, S16 = pI S13 54 25 ((S13.1 54 25 + 1)) → (iv 0 900 (S16.1 54 25) → K ((S16.1 54 25 - 1)) S16)))))))))))))))) ∧ ((¬ (S.1 54 25 ≤ l4)) → ((0 : Int) ≤ l4 ∧ l4 < (900 : Int) ∧ (iv (-2) 899 (S.2 72 (l4)) → (rng (l1) ∧ ((¬ S.2 72 (l4) = l1 → wX11_element_46 (l1) (l2) (l3) (l4) S K B5) ∧ ((¬ (¬ S.2 72 (l4) = l1)) → ((0 : Int) ≤ l4 ∧ l4 < (900 : Int) ∧ (iv 0 29 (S.2 73 (l4)) → (rng (l2) ∧ (wX11_sameName (S.2 73 (l4)) (l2) S (fun r26 S27 => (rng (r26) ∧ ((r26 = 0 → wX11_element_46 (l1) (l2) (l3) (l4) S27 K B5) ∧ ((¬ (r26 = 0)) → wX11_element_47 (l1) (l2) (l4) ((l3 + 1)) S27 K B5)))))))))))))))))
set_option maxRecDepth 100000 in
set_option maxHeartbeats 4000000 in
theorem bX11_element_5' {G : xG} {sh : Nat → Option Sh} {J : St → List va_E → Prop} {d : Nat} {Post : xP} {l1 l2 l3 l4 : Int} {S : St} {cs : List va_E} {K : Int → St → Prop} {B5 : Int → Int → Int → Int → St → Prop} (hd : 1 ≤ d) (hJ : Stb sh J) (hT : isM sh) (hW : Wd G sh mT J S cs) (hP : ∀ (v : Int) (S : St) (cs : List va_E), K v S → Wd G sh mT J S cs → Post (some (.int (Int32.ofInt v))) cs) (hB5 : ∀ (l1 : Int) (l2 : Int) (l3 : Int) (l4 : Int) (S : St) (cs : List va_E), B5 l1 l2 l3 l4 S → Wd G sh mT J S cs → Z (RX11, cX11_element, 5, some .int, false) G d Post 5 [(0, .ref (G.1 + 54)), (1, .int (Int32.ofInt (l1))), (2, .int (Int32.ofInt (l2))), (3, .int (Int32.ofInt (l3))), (4, .int (Int32.ofInt (l4)))] [] cs) (hw : wX11_element_5' l1 l2 l3 l4 S K B5) : Z (RX11, cX11_element, 5, some .int, false) G d Post 5 [(0, .ref (G.1 + 54)), (1, .int (Int32.ofInt (l1))), (2, .int (Int32.ofInt (l2))), (3, .int (Int32.ofInt (l3))), (4, .int (Int32.ofInt (l4)))] [] cs := by
  unfold wX11_element_5' at hw
  refine z_iload dX11_element_5 rfl ?_
  refine z_aload_n dX11_element_7 rfl rfl ?_
  have q1 : iv 0 900 (S.1 54 25) := mI25 hW
  have hw := hw q1
  refine g_getI hW hT.1 mr25 kX11 fX11_278 dX11_element_8 ?_
  obtain ⟨q3, hw⟩ := hw
  refine i_icmp_ge (tgt := 54) dX11_element_11 (by decide) q3 (rngq q1 (by decide) (by decide)) (fun h2 => ?_) (fun h2 => ?_)
  · have hw := hw.1 h2
    refine z_aload_n dX11_element_54 rfl rfl ?_
    refine g_getR hW hT.1 mr26 kX11 fX11_66 dX11_element_55 ?_
    refine z_aload_n dX11_element_58 rfl rfl ?_
    refine g_getI hW hT.1 mr25 kX11 fX11_278 dX11_element_59 ?_
    refine z_iload_n dX11_element_62 rfl rfl ?_
    obtain ⟨q4a, q4b, hw⟩ := hw
    obtain ⟨q6, hw⟩ := hw
    refine g_iast hJ hW (ma72 hT) q4a q4b (by decide) q6 dX11_element_63 (fun cs hW => ?_)
    obtain ⟨S5, hS5⟩ : ∃ x, x = pA S 72 (S.1 54 25) (l1) := ⟨_, rfl⟩
    rw [← hS5] at hW
    have hw := hw S5 hS5
    refine z_aload_n dX11_element_64 rfl rfl ?_
    refine g_getR hW hT.1 mr27 kX11 fX11_69 dX11_element_65 ?_
    refine z_aload_n dX11_element_68 rfl rfl ?_
    have q7 : iv 0 900 (S5.1 54 25) := mI25 hW
    have hw := hw q7
    refine g_getI hW hT.1 mr25 kX11 fX11_278 dX11_element_69 ?_
    refine z_iload_n dX11_element_72 rfl rfl ?_
    obtain ⟨q8a, q8b, hw⟩ := hw
    obtain ⟨q10, hw⟩ := hw
    refine g_iast hJ hW (ma73 hT) q8a q8b (by decide) q10 dX11_element_73 (fun cs hW => ?_)
    obtain ⟨S9, hS9⟩ : ∃ x, x = pA S5 73 (S5.1 54 25) (l2) := ⟨_, rfl⟩
    rw [← hS9] at hW
    have hw := hw S9 hS9
    refine z_aload_n dX11_element_74 rfl rfl ?_
    refine g_getR hW hT.1 mr28 kX11 fX11_72 dX11_element_75 ?_
    refine z_aload_n dX11_element_78 rfl rfl ?_
    have q11 : iv 0 900 (S9.1 54 25) := mI25 hW
    have hw := hw q11
    refine g_getI hW hT.1 mr25 kX11 fX11_278 dX11_element_79 ?_
    refine z_iload_n dX11_element_82 rfl rfl ?_
    obtain ⟨q12a, q12b, hw⟩ := hw
    obtain ⟨q14, hw⟩ := hw
    refine g_iast hJ hW (ma74 hT) q12a q12b (by decide) q14 dX11_element_83 (fun cs hW => ?_)
    obtain ⟨S13, hS13⟩ : ∃ x, x = pA S9 74 (S9.1 54 25) (l3) := ⟨_, rfl⟩
    rw [← hS13] at hW
    have hw := hw S13 hS13
    refine z_aload_n dX11_element_84 rfl rfl ?_
    refine z_dup dX11_element_85 rfl ?_
    have q15 : iv 0 900 (S13.1 54 25) := mI25 hW
    have hw := hw q15
    refine g_getI hW hT.1 mr25 kX11 fX11_278 dX11_element_86 ?_
    refine z_iconst (v := Int32.ofInt 1) dX11_element_89 rfl ?_
    refine i_iadd dX11_element_90 ?_
    obtain ⟨q17, hw⟩ := hw
    refine g_putI hJ hW hT.1 mr25 kX11 fX11_278 dX11_element_91 rfl rfl rfl q17 (fun cs hW => ?_)
    obtain ⟨S16, hS16⟩ : ∃ x, x = pI S13 54 25 ((S13.1 54 25 + 1)) := ⟨_, rfl⟩
    rw [← hS16] at hW
    have hw := hw S16 hS16
    refine z_aload_n dX11_element_94 rfl rfl ?_
    have q18 : iv 0 900 (S16.1 54 25) := mI25 hW
    have hw := hw q18
    refine g_getI hW hT.1 mr25 kX11 fX11_278 dX11_element_95 ?_
    refine z_iconst (v := Int32.ofInt 1) dX11_element_98 rfl ?_
    refine i_isub dX11_element_99 ?_
    exact z_ireturn dX11_element_100 rfl rfl (hP _ _ _ hw hW)
  · have hw := hw.2 h2
    refine z_aload_n dX11_element_14 rfl rfl ?_
    refine g_getR hW hT.1 mr26 kX11 fX11_66 dX11_element_15 ?_
    refine z_iload dX11_element_18 rfl ?_
    obtain ⟨q19a, q19b, hw⟩ := hw
    have q20 : iv (-2) 899 (S.2 72 (l4)) := mA72 hW _
    have hw := hw q20
    refine g_iald hW (ma72 hT) q19a q19b (by decide) dX11_element_20 ?_
    refine z_iload_n dX11_element_21 rfl rfl ?_
    obtain ⟨q22, hw⟩ := hw
    refine i_icmp_ne (tgt := 46) dX11_element_22 (by decide) (rngq q20 (by decide) (by decide)) q22 (fun h21 => ?_) (fun h21 => ?_)
    · have hw := hw.1 h21
      refine z_loc (L' := [(0, .ref (G.1 + 54)), (1, .int (Int32.ofInt (l1))), (2, .int (Int32.ofInt (l2))), (3, .int (Int32.ofInt (l3))), (4, .int (Int32.ofInt (l4)))]) (List.forall_mem_cons.mpr ⟨rfl, (List.forall_mem_cons.mpr ⟨rfl, (List.forall_mem_cons.mpr ⟨rfl, (List.forall_mem_cons.mpr ⟨rfl, (List.forall_mem_cons.mpr ⟨rfl, (fun _ h => nomatch h)⟩)⟩)⟩)⟩)⟩) ?_
      exact bX11_element_46 hd hJ hT hW hP hB5 hw
    · have hw := hw.2 h21
      refine z_aload_n dX11_element_25 rfl rfl ?_
      refine z_aload_n dX11_element_26 rfl rfl ?_
      refine g_getR hW hT.1 mr27 kX11 fX11_69 dX11_element_27 ?_
      refine z_iload dX11_element_30 rfl ?_
      obtain ⟨q23a, q23b, hw⟩ := hw
      have q24 : iv 0 29 (S.2 73 (l4)) := mA73 hW _
      have hw := hw q24
      refine g_iald hW (ma73 hT) q23a q23b (by decide) dX11_element_32 ?_
      refine z_iload_n dX11_element_33 rfl rfl ?_
      obtain ⟨q25, hw⟩ := hw
      have hX := lX11_sameName 0 (Nat.le_refl _) hJ hT hW (rngq q24 (by decide) (by decide)) q25 hw
      refine z_callV (As := [_, _]) eX11_sameName sX11_sameName lX11_281 rfl dX11_element_34 (hW.1 _ _ hT.1) hX (Nat.le_trans (by decide) hd) rfl (Nat.le_of_ble_eq_true rfl) (fun r cs hp => ?_)
      obtain ⟨r26, S27, rfl, hw, hW⟩ := hp
      refine z_st (st' := [.int (Int32.ofInt (r26))]) rfl ?_
      obtain ⟨q29, hw⟩ := hw
      refine i_if_eq (tgt := 46) dX11_element_37 (by decide) q29 (fun h28 => ?_) (fun h28 => ?_)
      · have hw := hw.1 h28
        refine z_loc (L' := [(0, .ref (G.1 + 54)), (1, .int (Int32.ofInt (l1))), (2, .int (Int32.ofInt (l2))), (3, .int (Int32.ofInt (l3))), (4, .int (Int32.ofInt (l4)))]) (List.forall_mem_cons.mpr ⟨rfl, (List.forall_mem_cons.mpr ⟨rfl, (List.forall_mem_cons.mpr ⟨rfl, (List.forall_mem_cons.mpr ⟨rfl, (List.forall_mem_cons.mpr ⟨rfl, (fun _ h => nomatch h)⟩)⟩)⟩)⟩)⟩) ?_
        exact bX11_element_46 hd hJ hT hW hP hB5 hw
      · have hw := hw.2 h28
        refine z_iload_n dX11_element_40 rfl rfl ?_
        refine z_iconst (v := Int32.ofInt 1) dX11_element_41 rfl ?_
        refine i_iadd dX11_element_42 ?_
        refine z_goto (tgt := 47) dX11_element_43 (by decide) ?_
        refine z_loc (L' := [(0, .ref (G.1 + 54)), (1, .int (Int32.ofInt (l1))), (2, .int (Int32.ofInt (l2))), (4, .int (Int32.ofInt (l4)))]) (List.forall_mem_cons.mpr ⟨rfl, (List.forall_mem_cons.mpr ⟨rfl, (List.forall_mem_cons.mpr ⟨rfl, (List.forall_mem_cons.mpr ⟨rfl, (fun _ h => nomatch h)⟩)⟩)⟩)⟩) ?_
        exact bX11_element_47 hd hJ hT hW hP hB5 hw
def wX11_element_5 (l1 l2 l3 l4 : Int) (S : St) (K : Int → St → Prop) : Prop := ∃ (Iv : Int → Int → Int → Int → St → Prop) (mu : Int → Int → Int → Int → St → Nat), Iv l1 l2 l3 l4 S ∧ ∀ (l1 l2 l3 l4 : Int) (S : St), Iv l1 l2 l3 l4 S → wX11_element_5' l1 l2 l3 l4 S K  (fun ml1 ml2 ml3 ml4 T => Iv ml1 ml2 ml3 ml4 T ∧ mu ml1 ml2 ml3 ml4 T < mu l1 l2 l3 l4 S)
set_option maxRecDepth 100000 in
set_option maxHeartbeats 4000000 in
theorem bX11_element_5 {G : xG} {sh : Nat → Option Sh} {J : St → List va_E → Prop} {d : Nat} {Post : xP} {l1 l2 l3 l4 : Int} {S : St} {cs : List va_E} {K : Int → St → Prop} (hd : 1 ≤ d) (hJ : Stb sh J) (hT : isM sh) (hW : Wd G sh mT J S cs) (hP : ∀ (v : Int) (S : St) (cs : List va_E), K v S → Wd G sh mT J S cs → Post (some (.int (Int32.ofInt v))) cs)  (hw : wX11_element_5 l1 l2 l3 l4 S K ) : Z (RX11, cX11_element, 5, some .int, false) G d Post 5 [(0, .ref (G.1 + 54)), (1, .int (Int32.ofInt (l1))), (2, .int (Int32.ofInt (l2))), (3, .int (Int32.ofInt (l3))), (4, .int (Int32.ofInt (l4)))] [] cs := by
  unfold wX11_element_5 at hw
  obtain ⟨Iv, mu, h0, hs⟩ := hw
  have key : ∀ (n : Nat) (l1 l2 l3 l4 : Int) (S : St) (cs : List va_E), mu l1 l2 l3 l4 S < n → Iv l1 l2 l3 l4 S → Wd G sh mT J S cs → Z (RX11, cX11_element, 5, some .int, false) G d Post 5 [(0, .ref (G.1 + 54)), (1, .int (Int32.ofInt (l1))), (2, .int (Int32.ofInt (l2))), (3, .int (Int32.ofInt (l3))), (4, .int (Int32.ofInt (l4)))] [] cs := by
    intro n
    induction n with
    | zero => intro l1 l2 l3 l4 S cs hn; exact absurd hn (Nat.not_lt_zero _)
    | succ n ih =>
      intro l1 l2 l3 l4 S cs hn hI hW
      exact bX11_element_5' hd hJ hT hW hP  (fun l1 l2 l3 l4 S cs hb hW => ih l1 l2 l3 l4 S cs (Nat.lt_of_lt_of_le hb.2 (Nat.le_of_lt_succ hn)) hb.1 hW) (hs l1 l2 l3 l4 S hI)
  exact key _ _ _ _ _ _ _ (Nat.lt_succ_self _) h0 hW
def wX11_element (a1 a2 : Int) (S : St) (K : Int → St → Prop) : Prop := rng a1 → rng a2 → wX11_element_5 (a1) (a2) (1) (0) S K
set_option maxRecDepth 100000 in
set_option maxHeartbeats 4000000 in
theorem lX11_element {G : xG} {sh : Nat → Option Sh} {J : St → List va_E → Prop} {a1 a2 : Int} {S : St} {cs : List va_E} {K : Int → St → Prop} (d : Nat) (hd : 1 ≤ d) (hJ : Stb sh J) (hT : isM sh) (hW : Wd G sh mT J S cs) (g1 : rng a1) (g2 : rng a2) (hw : wX11_element a1 a2 S K) : X G yX11_element cX11_element 5 (some .int) d [.ref (G.1 + 54), .int (Int32.ofInt a1), .int (Int32.ofInt a2)] cs (qI G sh mT J K) := by
  refine X.of false (by decide +kernel) (by decide) (Nat.le_of_ble_eq_true rfl) ?_
  show Z (RX11, cX11_element, 5, some .int, false) G d _ 0 [(0, .ref (G.1 + 54)), (1, .int (Int32.ofInt a1)), (2, .int (Int32.ofInt a2))] [] cs
  have hP : ∀ (v : Int) (S : St) (cs : List va_E), K v S → Wd G sh mT J S cs → qI G sh mT J K (some (.int (Int32.ofInt v))) cs := fun v S cs a b => ⟨v, S, rfl, a, b⟩
  unfold wX11_element at hw
  have hw := hw g1 g2
  refine z_iconst (v := Int32.ofInt 1) dX11_element_0 rfl ?_
  refine z_istore_n dX11_element_1 rfl (by decide) ?_
  refine z_loc (L' := [(0, .ref (G.1 + 54)), (1, .int (Int32.ofInt (a1))), (2, .int (Int32.ofInt (a2))), (3, .int (Int32.ofInt (1)))]) (List.forall_mem_cons.mpr ⟨rfl, (List.forall_mem_cons.mpr ⟨rfl, (List.forall_mem_cons.mpr ⟨rfl, (List.forall_mem_cons.mpr ⟨rfl, (fun _ h => nomatch h)⟩)⟩)⟩)⟩) ?_
  refine z_iconst (v := Int32.ofInt 0) dX11_element_2 rfl ?_
  refine z_istore dX11_element_3 (by decide) ?_
  refine z_loc (L' := [(0, .ref (G.1 + 54)), (1, .int (Int32.ofInt (a1))), (2, .int (Int32.ofInt (a2))), (3, .int (Int32.ofInt (1))), (4, .int (Int32.ofInt (0)))]) (List.forall_mem_cons.mpr ⟨rfl, (List.forall_mem_cons.mpr ⟨rfl, (List.forall_mem_cons.mpr ⟨rfl, (List.forall_mem_cons.mpr ⟨rfl, (List.forall_mem_cons.mpr ⟨rfl, (fun _ h => nomatch h)⟩)⟩)⟩)⟩)⟩) ?_
  refine z_loc (L' := [(0, .ref (G.1 + 54)), (1, .int (Int32.ofInt (a1))), (2, .int (Int32.ofInt (a2))), (3, .int (Int32.ofInt (1))), (4, .int (Int32.ofInt (0)))]) (List.forall_mem_cons.mpr ⟨rfl, (List.forall_mem_cons.mpr ⟨rfl, (List.forall_mem_cons.mpr ⟨rfl, (List.forall_mem_cons.mpr ⟨rfl, (List.forall_mem_cons.mpr ⟨rfl, (fun _ h => nomatch h)⟩)⟩)⟩)⟩)⟩) ?_
  exact bX11_element_5 hd hJ hT hW hP  hw

def wX11_hasContent_111 (l1 l2 l4 s0 : Int) (S : St) (K : Int → St → Prop) (B5 : Int → Int → Int → Int → St → Prop) : Prop := B5 (l1) (l2) (s0) ((l4 + 1)) S
set_option maxRecDepth 100000 in
set_option maxHeartbeats 4000000 in
theorem bX11_hasContent_111 {G : xG} {sh : Nat → Option Sh} {J : St → List va_E → Prop} {d : Nat} {Post : xP} {l1 l2 l4 s0 : Int} {S : St} {cs : List va_E} {K : Int → St → Prop} {B5 : Int → Int → Int → Int → St → Prop} (hd : 0 ≤ d) (hJ : Stb sh J) (hT : isM sh) (hW : Wd G sh mT J S cs) (hP : ∀ (v : Int) (S : St) (cs : List va_E), K v S → Wd G sh mT J S cs → Post (some (.int (Int32.ofInt v))) cs) (hB5 : ∀ (l1 : Int) (l2 : Int) (l3 : Int) (l4 : Int) (S : St) (cs : List va_E), B5 l1 l2 l3 l4 S → Wd G sh mT J S cs → Z (RX11, cX11_hasContent, 7, some .boolean, false) G d Post 5 [(0, .ref (G.1 + 54)), (1, .int (Int32.ofInt (l1))), (2, .int (Int32.ofInt (l2))), (3, .int (Int32.ofInt (l3))), (4, .int (Int32.ofInt (l4)))] [] cs) (hw : wX11_hasContent_111 l1 l2 l4 s0 S K B5) : Z (RX11, cX11_hasContent, 7, some .boolean, false) G d Post 111 [(0, .ref (G.1 + 54)), (1, .int (Int32.ofInt (l1))), (2, .int (Int32.ofInt (l2))), (4, .int (Int32.ofInt (l4)))] [.int (Int32.ofInt (s0))] cs := by
  unfold wX11_hasContent_111 at hw
  refine z_istore_n dX11_hasContent_111 rfl (by decide) ?_
  refine z_loc (L' := [(0, .ref (G.1 + 54)), (1, .int (Int32.ofInt (l1))), (2, .int (Int32.ofInt (l2))), (3, .int (Int32.ofInt (s0))), (4, .int (Int32.ofInt (l4)))]) (List.forall_mem_cons.mpr ⟨rfl, (List.forall_mem_cons.mpr ⟨rfl, (List.forall_mem_cons.mpr ⟨rfl, (List.forall_mem_cons.mpr ⟨rfl, (List.forall_mem_cons.mpr ⟨rfl, (fun _ h => nomatch h)⟩)⟩)⟩)⟩)⟩) ?_
  refine i_iinc (l := l4) dX11_hasContent_112 rfl (by decide) ?_
  refine z_loc (L' := [(0, .ref (G.1 + 54)), (1, .int (Int32.ofInt (l1))), (2, .int (Int32.ofInt (l2))), (3, .int (Int32.ofInt (s0))), (4, .int (Int32.ofInt ((l4 + 1))))]) (List.forall_mem_cons.mpr ⟨rfl, (List.forall_mem_cons.mpr ⟨rfl, (List.forall_mem_cons.mpr ⟨rfl, (List.forall_mem_cons.mpr ⟨rfl, (List.forall_mem_cons.mpr ⟨rfl, (fun _ h => nomatch h)⟩)⟩)⟩)⟩)⟩) ?_
  refine z_goto (tgt := 5) dX11_hasContent_115 (by decide) ?_
  refine z_loc (L' := [(0, .ref (G.1 + 54)), (1, .int (Int32.ofInt (l1))), (2, .int (Int32.ofInt (l2))), (3, .int (Int32.ofInt (s0))), (4, .int (Int32.ofInt ((l4 + 1))))]) (List.forall_mem_cons.mpr ⟨rfl, (List.forall_mem_cons.mpr ⟨rfl, (List.forall_mem_cons.mpr ⟨rfl, (List.forall_mem_cons.mpr ⟨rfl, (List.forall_mem_cons.mpr ⟨rfl, (fun _ h => nomatch h)⟩)⟩)⟩)⟩)⟩) ?_
  exact hB5 _ _ _ _ _ _ hw hW
def wX11_hasContent_106 (l1 l2 l4 : Int) (S : St) (K : Int → St → Prop) (B5 : Int → Int → Int → Int → St → Prop) : Prop := wX11_hasContent_111 (l1) (l2) (l4) (1) S K B5
set_option maxRecDepth 100000 in
set_option maxHeartbeats 4000000 in
theorem bX11_hasContent_106 {G : xG} {sh : Nat → Option Sh} {J : St → List va_E → Prop} {d : Nat} {Post : xP} {l1 l2 l4 : Int} {S : St} {cs : List va_E} {K : Int → St → Prop} {B5 : Int → Int → Int → Int → St → Prop} (hd : 0 ≤ d) (hJ : Stb sh J) (hT : isM sh) (hW : Wd G sh mT J S cs) (hP : ∀ (v : Int) (S : St) (cs : List va_E), K v S → Wd G sh mT J S cs → Post (some (.int (Int32.ofInt v))) cs) (hB5 : ∀ (l1 : Int) (l2 : Int) (l3 : Int) (l4 : Int) (S : St) (cs : List va_E), B5 l1 l2 l3 l4 S → Wd G sh mT J S cs → Z (RX11, cX11_hasContent, 7, some .boolean, false) G d Post 5 [(0, .ref (G.1 + 54)), (1, .int (Int32.ofInt (l1))), (2, .int (Int32.ofInt (l2))), (3, .int (Int32.ofInt (l3))), (4, .int (Int32.ofInt (l4)))] [] cs) (hw : wX11_hasContent_106 l1 l2 l4 S K B5) : Z (RX11, cX11_hasContent, 7, some .boolean, false) G d Post 106 [(0, .ref (G.1 + 54)), (1, .int (Int32.ofInt (l1))), (2, .int (Int32.ofInt (l2))), (4, .int (Int32.ofInt (l4)))] [] cs := by
  unfold wX11_hasContent_106 at hw
  refine z_iconst (v := Int32.ofInt 1) dX11_hasContent_106 rfl ?_
  refine z_goto (tgt := 111) dX11_hasContent_107 (by decide) ?_
  refine z_loc (L' := [(0, .ref (G.1 + 54)), (1, .int (Int32.ofInt (l1))), (2, .int (Int32.ofInt (l2))), (4, .int (Int32.ofInt (l4)))]) (List.forall_mem_cons.mpr ⟨rfl, (List.forall_mem_cons.mpr ⟨rfl, (List.forall_mem_cons.mpr ⟨rfl, (List.forall_mem_cons.mpr ⟨rfl, (fun _ h => nomatch h)⟩)⟩)⟩)⟩) ?_
  exact bX11_hasContent_111 hd hJ hT hW hP hB5 hw
def wX11_hasContent_110 (l1 l2 l4 : Int) (S : St) (K : Int → St → Prop) (B5 : Int → Int → Int → Int → St → Prop) : Prop := wX11_hasContent_111 (l1) (l2) (l4) (0) S K B5
set_option maxRecDepth 100000 in
set_option maxHeartbeats 4000000 in
theorem bX11_hasContent_110 {G : xG} {sh : Nat → Option Sh} {J : St → List va_E → Prop} {d : Nat} {Post : xP} {l1 l2 l4 : Int} {S : St} {cs : List va_E} {K : Int → St → Prop} {B5 : Int → Int → Int → Int → St → Prop} (hd : 0 ≤ d) (hJ : Stb sh J) (hT : isM sh) (hW : Wd G sh mT J S cs) (hP : ∀ (v : Int) (S : St) (cs : List va_E), K v S → Wd G sh mT J S cs → Post (some (.int (Int32.ofInt v))) cs) (hB5 : ∀ (l1 : Int) (l2 : Int) (l3 : Int) (l4 : Int) (S : St) (cs : List va_E), B5 l1 l2 l3 l4 S → Wd G sh mT J S cs → Z (RX11, cX11_hasContent, 7, some .boolean, false) G d Post 5 [(0, .ref (G.1 + 54)), (1, .int (Int32.ofInt (l1))), (2, .int (Int32.ofInt (l2))), (3, .int (Int32.ofInt (l3))), (4, .int (Int32.ofInt (l4)))] [] cs) (hw : wX11_hasContent_110 l1 l2 l4 S K B5) : Z (RX11, cX11_hasContent, 7, some .boolean, false) G d Post 110 [(0, .ref (G.1 + 54)), (1, .int (Int32.ofInt (l1))), (2, .int (Int32.ofInt (l2))), (4, .int (Int32.ofInt (l4)))] [] cs := by
  unfold wX11_hasContent_110 at hw
  refine z_iconst (v := Int32.ofInt 0) dX11_hasContent_110 rfl ?_
  refine z_loc (L' := [(0, .ref (G.1 + 54)), (1, .int (Int32.ofInt (l1))), (2, .int (Int32.ofInt (l2))), (4, .int (Int32.ofInt (l4)))]) (List.forall_mem_cons.mpr ⟨rfl, (List.forall_mem_cons.mpr ⟨rfl, (List.forall_mem_cons.mpr ⟨rfl, (List.forall_mem_cons.mpr ⟨rfl, (fun _ h => nomatch h)⟩)⟩)⟩)⟩) ?_
  exact bX11_hasContent_111 hd hJ hT hW hP hB5 hw
def wX11_hasContent_80 (l1 l2 l4 l5 l6 : Int) (S : St) (K : Int → St → Prop) (B5 : Int → Int → Int → Int → St → Prop) : Prop := ((0 : Int) ≤ l5 ∧ l5 < (24 : Int) ∧ (iv 0 3 (S.2 59 (l5)) → ((¬ S.2 59 (l5) = 3 → wX11_hasContent_110 (l1) (l2) (l4) S K B5) ∧ ((¬ (¬ S.2 59 (l5) = 3)) → ((0 : Int) ≤ l5 ∧ l5 < (24 : Int) ∧ (iv 0 1 (S.2 60 (l5)) → ((S.2 60 (l5) = 0 → wX11_hasContent_106 (l1) (l2) (l4) S K B5) ∧ ((¬ (S.2 60 (l5) = 0)) → (rng (l6) ∧ ((l6 ≤ 0 → wX11_hasContent_110 (l1) (l2) (l4) S K B5) ∧ ((¬ (l6 ≤ 0)) → wX11_hasContent_106 (l1) (l2) (l4) S K B5)))))))))))
set_option maxRecDepth 100000 in
set_option maxHeartbeats 4000000 in
theorem bX11_hasContent_80 {G : xG} {sh : Nat → Option Sh} {J : St → List va_E → Prop} {d : Nat} {Post : xP} {l1 l2 l4 l5 l6 : Int} {S : St} {cs : List va_E} {K : Int → St → Prop} {B5 : Int → Int → Int → Int → St → Prop} (hd : 0 ≤ d) (hJ : Stb sh J) (hT : isM sh) (hW : Wd G sh mT J S cs) (hP : ∀ (v : Int) (S : St) (cs : List va_E), K v S → Wd G sh mT J S cs → Post (some (.int (Int32.ofInt v))) cs) (hB5 : ∀ (l1 : Int) (l2 : Int) (l3 : Int) (l4 : Int) (S : St) (cs : List va_E), B5 l1 l2 l3 l4 S → Wd G sh mT J S cs → Z (RX11, cX11_hasContent, 7, some .boolean, false) G d Post 5 [(0, .ref (G.1 + 54)), (1, .int (Int32.ofInt (l1))), (2, .int (Int32.ofInt (l2))), (3, .int (Int32.ofInt (l3))), (4, .int (Int32.ofInt (l4)))] [] cs) (hw : wX11_hasContent_80 l1 l2 l4 l5 l6 S K B5) : Z (RX11, cX11_hasContent, 7, some .boolean, false) G d Post 80 [(0, .ref (G.1 + 54)), (1, .int (Int32.ofInt (l1))), (2, .int (Int32.ofInt (l2))), (4, .int (Int32.ofInt (l4))), (5, .int (Int32.ofInt (l5))), (6, .int (Int32.ofInt (l6)))] [] cs := by
  unfold wX11_hasContent_80 at hw
  refine z_aload_n dX11_hasContent_80 rfl rfl ?_
  refine g_getR hW hT.1 mr6 kX11 fX11_22 dX11_hasContent_81 ?_
  refine z_iload dX11_hasContent_84 rfl ?_
  obtain ⟨q1a, q1b, hw⟩ := hw
  have q2 : iv 0 3 (S.2 59 (l5)) := mA59 hW _
  have hw := hw q2
  refine g_iald hW (ma59 hT) q1a q1b (by decide) dX11_hasContent_86 ?_
  refine z_iconst (v := Int32.ofInt 3) dX11_hasContent_87 rfl ?_
  refine i_icmp_ne (tgt := 110) dX11_hasContent_88 (by decide) (rngq q2 (by decide) (by decide)) ⟨by decide, by decide⟩ (fun h3 => ?_) (fun h3 => ?_)
  · have hw := hw.1 h3
    refine z_loc (L' := [(0, .ref (G.1 + 54)), (1, .int (Int32.ofInt (l1))), (2, .int (Int32.ofInt (l2))), (4, .int (Int32.ofInt (l4)))]) (List.forall_mem_cons.mpr ⟨rfl, (List.forall_mem_cons.mpr ⟨rfl, (List.forall_mem_cons.mpr ⟨rfl, (List.forall_mem_cons.mpr ⟨rfl, (fun _ h => nomatch h)⟩)⟩)⟩)⟩) ?_
    exact bX11_hasContent_110 hd hJ hT hW hP hB5 hw
  · have hw := hw.2 h3
    refine z_aload_n dX11_hasContent_91 rfl rfl ?_
    refine g_getR hW hT.1 mr7 kX11 fX11_25 dX11_hasContent_92 ?_
    refine z_iload dX11_hasContent_95 rfl ?_
    obtain ⟨q4a, q4b, hw⟩ := hw
    have q5 : iv 0 1 (S.2 60 (l5)) := mA60 hW _
    have hw := hw q5
    refine g_zald hW (ma60 hT) q4a q4b (by decide) dX11_hasContent_97 ?_
    refine i_if_eq (tgt := 106) dX11_hasContent_98 (by decide) (rngq q5 (by decide) (by decide)) (fun h6 => ?_) (fun h6 => ?_)
    · have hw := hw.1 h6
      refine z_loc (L' := [(0, .ref (G.1 + 54)), (1, .int (Int32.ofInt (l1))), (2, .int (Int32.ofInt (l2))), (4, .int (Int32.ofInt (l4)))]) (List.forall_mem_cons.mpr ⟨rfl, (List.forall_mem_cons.mpr ⟨rfl, (List.forall_mem_cons.mpr ⟨rfl, (List.forall_mem_cons.mpr ⟨rfl, (fun _ h => nomatch h)⟩)⟩)⟩)⟩) ?_
      exact bX11_hasContent_106 hd hJ hT hW hP hB5 hw
    · have hw := hw.2 h6
      refine z_iload dX11_hasContent_101 rfl ?_
      obtain ⟨q8, hw⟩ := hw
      refine i_if_le (tgt := 110) dX11_hasContent_103 (by decide) q8 (fun h7 => ?_) (fun h7 => ?_)
      · have hw := hw.1 h7
        refine z_loc (L' := [(0, .ref (G.1 + 54)), (1, .int (Int32.ofInt (l1))), (2, .int (Int32.ofInt (l2))), (4, .int (Int32.ofInt (l4)))]) (List.forall_mem_cons.mpr ⟨rfl, (List.forall_mem_cons.mpr ⟨rfl, (List.forall_mem_cons.mpr ⟨rfl, (List.forall_mem_cons.mpr ⟨rfl, (fun _ h => nomatch h)⟩)⟩)⟩)⟩) ?_
        exact bX11_hasContent_110 hd hJ hT hW hP hB5 hw
      · have hw := hw.2 h7
        refine z_loc (L' := [(0, .ref (G.1 + 54)), (1, .int (Int32.ofInt (l1))), (2, .int (Int32.ofInt (l2))), (4, .int (Int32.ofInt (l4)))]) (List.forall_mem_cons.mpr ⟨rfl, (List.forall_mem_cons.mpr ⟨rfl, (List.forall_mem_cons.mpr ⟨rfl, (List.forall_mem_cons.mpr ⟨rfl, (fun _ h => nomatch h)⟩)⟩)⟩)⟩) ?_
        exact bX11_hasContent_106 hd hJ hT hW hP hB5 hw
def wX11_hasContent_62 (l1 l2 l4 l5 l6 : Int) (S : St) (K : Int → St → Prop) (B5 : Int → Int → Int → Int → St → Prop) : Prop := ((0 : Int) ≤ l5 ∧ l5 < (24 : Int) ∧ (iv 0 3 (S.2 59 (l5)) → ((¬ S.2 59 (l5) = 2 → wX11_hasContent_80 (l1) (l2) (l4) (l5) (l6) S K B5) ∧ ((¬ (¬ S.2 59 (l5) = 2)) → (rng (l6) ∧ ((¬ l6 = (-2) → wX11_hasContent_106 (l1) (l2) (l4) S K B5) ∧ ((¬ (¬ l6 = (-2))) → wX11_hasContent_80 (l1) (l2) (l4) (l5) (l6) S K B5)))))))
set_option maxRecDepth 100000 in
set_option maxHeartbeats 4000000 in
theorem bX11_hasContent_62 {G : xG} {sh : Nat → Option Sh} {J : St → List va_E → Prop} {d : Nat} {Post : xP} {l1 l2 l4 l5 l6 : Int} {S : St} {cs : List va_E} {K : Int → St → Prop} {B5 : Int → Int → Int → Int → St → Prop} (hd : 0 ≤ d) (hJ : Stb sh J) (hT : isM sh) (hW : Wd G sh mT J S cs) (hP : ∀ (v : Int) (S : St) (cs : List va_E), K v S → Wd G sh mT J S cs → Post (some (.int (Int32.ofInt v))) cs) (hB5 : ∀ (l1 : Int) (l2 : Int) (l3 : Int) (l4 : Int) (S : St) (cs : List va_E), B5 l1 l2 l3 l4 S → Wd G sh mT J S cs → Z (RX11, cX11_hasContent, 7, some .boolean, false) G d Post 5 [(0, .ref (G.1 + 54)), (1, .int (Int32.ofInt (l1))), (2, .int (Int32.ofInt (l2))), (3, .int (Int32.ofInt (l3))), (4, .int (Int32.ofInt (l4)))] [] cs) (hw : wX11_hasContent_62 l1 l2 l4 l5 l6 S K B5) : Z (RX11, cX11_hasContent, 7, some .boolean, false) G d Post 62 [(0, .ref (G.1 + 54)), (1, .int (Int32.ofInt (l1))), (2, .int (Int32.ofInt (l2))), (4, .int (Int32.ofInt (l4))), (5, .int (Int32.ofInt (l5))), (6, .int (Int32.ofInt (l6)))] [] cs := by
  unfold wX11_hasContent_62 at hw
  refine z_aload_n dX11_hasContent_62 rfl rfl ?_
  refine g_getR hW hT.1 mr6 kX11 fX11_22 dX11_hasContent_63 ?_
  refine z_iload dX11_hasContent_66 rfl ?_
  obtain ⟨q1a, q1b, hw⟩ := hw
  have q2 : iv 0 3 (S.2 59 (l5)) := mA59 hW _
  have hw := hw q2
  refine g_iald hW (ma59 hT) q1a q1b (by decide) dX11_hasContent_68 ?_
  refine z_iconst (v := Int32.ofInt 2) dX11_hasContent_69 rfl ?_
  refine i_icmp_ne (tgt := 80) dX11_hasContent_70 (by decide) (rngq q2 (by decide) (by decide)) ⟨by decide, by decide⟩ (fun h3 => ?_) (fun h3 => ?_)
  · have hw := hw.1 h3
    refine z_loc (L' := [(0, .ref (G.1 + 54)), (1, .int (Int32.ofInt (l1))), (2, .int (Int32.ofInt (l2))), (4, .int (Int32.ofInt (l4))), (5, .int (Int32.ofInt (l5))), (6, .int (Int32.ofInt (l6)))]) (List.forall_mem_cons.mpr ⟨rfl, (List.forall_mem_cons.mpr ⟨rfl, (List.forall_mem_cons.mpr ⟨rfl, (List.forall_mem_cons.mpr ⟨rfl, (List.forall_mem_cons.mpr ⟨rfl, (List.forall_mem_cons.mpr ⟨rfl, (fun _ h => nomatch h)⟩)⟩)⟩)⟩)⟩)⟩) ?_
    exact bX11_hasContent_80 hd hJ hT hW hP hB5 hw
  · have hw := hw.2 h3
    refine z_iload dX11_hasContent_73 rfl ?_
    refine z_bipush (v := Int32.ofInt (-2)) dX11_hasContent_75 (by decide) ?_
    obtain ⟨q5, hw⟩ := hw
    refine i_icmp_ne (tgt := 106) dX11_hasContent_77 (by decide) q5 ⟨by decide, by decide⟩ (fun h4 => ?_) (fun h4 => ?_)
    · have hw := hw.1 h4
      refine z_loc (L' := [(0, .ref (G.1 + 54)), (1, .int (Int32.ofInt (l1))), (2, .int (Int32.ofInt (l2))), (4, .int (Int32.ofInt (l4)))]) (List.forall_mem_cons.mpr ⟨rfl, (List.forall_mem_cons.mpr ⟨rfl, (List.forall_mem_cons.mpr ⟨rfl, (List.forall_mem_cons.mpr ⟨rfl, (fun _ h => nomatch h)⟩)⟩)⟩)⟩) ?_
      exact bX11_hasContent_106 hd hJ hT hW hP hB5 hw
    · have hw := hw.2 h4
      refine z_loc (L' := [(0, .ref (G.1 + 54)), (1, .int (Int32.ofInt (l1))), (2, .int (Int32.ofInt (l2))), (4, .int (Int32.ofInt (l4))), (5, .int (Int32.ofInt (l5))), (6, .int (Int32.ofInt (l6)))]) (List.forall_mem_cons.mpr ⟨rfl, (List.forall_mem_cons.mpr ⟨rfl, (List.forall_mem_cons.mpr ⟨rfl, (List.forall_mem_cons.mpr ⟨rfl, (List.forall_mem_cons.mpr ⟨rfl, (List.forall_mem_cons.mpr ⟨rfl, (fun _ h => nomatch h)⟩)⟩)⟩)⟩)⟩)⟩) ?_
      exact bX11_hasContent_80 hd hJ hT hW hP hB5 hw
def wX11_hasContent_5' (l1 l2 l3 l4 : Int) (S : St) (K : Int → St → Prop) (B5 : Int → Int → Int → Int → St → Prop) : Prop := ((0 : Int) ≤ l2 ∧ l2 < (6 : Int) ∧ (iv 0 4 (S.2 56 (l2)) → (rng (l4) ∧ ((S.2 56 (l2) ≤ l4 → (iv 0 1 (l3) ∧ K (l3) S)) ∧ ((¬ (S.2 56 (l2) ≤ l4)) → (∀ x6 : Int, x6 = ((4 * l2) + l4) → ((0 : Int) ≤ ((4 * l1) + l4) ∧ ((4 * l1) + l4) < (360 : Int) ∧ (iv (-2147483648) 2147483647 (S.2 69 (((4 * l1) + l4))) → (∀ x9 : Int, x9 = S.2 69 (((4 * l1) + l4)) → (rng (l3) ∧ ((¬ l3 = 0 → wX11_hasContent_106 (l1) (l2) (l4) S K B5) ∧ ((¬ (¬ l3 = 0)) → ((0 : Int) ≤ x6 ∧ x6 < (24 : Int) ∧ (iv 0 3 (S.2 59 (x6)) → ((1 < S.2 59 (x6) → wX11_hasContent_62 (l1) (l2) (l4) (x6) (x9) S K B5) ∧ ((¬ (1 < S.2 59 (x6))) → ((0 : Int) ≤ x6 ∧ x6 < (24 : Int) ∧ (iv 0 1 (S.2 60 (x6)) → ((S.2 60 (x6) = 0 → wX11_hasContent_106 (l1) (l2) (l4) S K B5) ∧ ((¬ (S.2 60 (x6) = 0)) → wX11_hasContent_62 (l1) (l2) (l4) (x6) (x9) S K B5))))))))))))))))))))
set_option maxRecDepth 100000 in
set_option maxHeartbeats 4000000 in
theorem bX11_hasContent_5' {G : xG} {sh : Nat → Option Sh} {J : St → List va_E → Prop} {d : Nat} {Post : xP} {l1 l2 l3 l4 : Int} {S : St} {cs : List va_E} {K : Int → St → Prop} {B5 : Int → Int → Int → Int → St → Prop} (hd : 0 ≤ d) (hJ : Stb sh J) (hT : isM sh) (hW : Wd G sh mT J S cs) (hP : ∀ (v : Int) (S : St) (cs : List va_E), K v S → Wd G sh mT J S cs → Post (some (.int (Int32.ofInt v))) cs) (hB5 : ∀ (l1 : Int) (l2 : Int) (l3 : Int) (l4 : Int) (S : St) (cs : List va_E), B5 l1 l2 l3 l4 S → Wd G sh mT J S cs → Z (RX11, cX11_hasContent, 7, some .boolean, false) G d Post 5 [(0, .ref (G.1 + 54)), (1, .int (Int32.ofInt (l1))), (2, .int (Int32.ofInt (l2))), (3, .int (Int32.ofInt (l3))), (4, .int (Int32.ofInt (l4)))] [] cs) (hw : wX11_hasContent_5' l1 l2 l3 l4 S K B5) : Z (RX11, cX11_hasContent, 7, some .boolean, false) G d Post 5 [(0, .ref (G.1 + 54)), (1, .int (Int32.ofInt (l1))), (2, .int (Int32.ofInt (l2))), (3, .int (Int32.ofInt (l3))), (4, .int (Int32.ofInt (l4)))] [] cs := by
  unfold wX11_hasContent_5' at hw
  refine z_iload dX11_hasContent_5 rfl ?_
  refine z_aload_n dX11_hasContent_7 rfl rfl ?_
  refine g_getR hW hT.1 mr3 kX11 fX11_13 dX11_hasContent_8 ?_
  refine z_iload_n dX11_hasContent_11 rfl rfl ?_
  obtain ⟨q1a, q1b, hw⟩ := hw
  have q2 : iv 0 4 (S.2 56 (l2)) := mA56 hW _
  have hw := hw q2
  refine g_iald hW (ma56 hT) q1a q1b (by decide) dX11_hasContent_12 ?_
  obtain ⟨q4, hw⟩ := hw
  refine i_icmp_ge (tgt := 118) dX11_hasContent_13 (by decide) q4 (rngq q2 (by decide) (by decide)) (fun h3 => ?_) (fun h3 => ?_)
  · have hw := hw.1 h3
    refine z_iload_n dX11_hasContent_118 rfl rfl ?_
    obtain ⟨q5, hw⟩ := hw
    exact z_ireturn dX11_hasContent_119 rfl (nar01 (b01 q5)) (hP _ _ _ hw hW)
  · have hw := hw.2 h3
    refine z_iconst (v := Int32.ofInt 4) dX11_hasContent_16 rfl ?_
    refine z_iload_n dX11_hasContent_17 rfl rfl ?_
    refine i_imul dX11_hasContent_18 ?_
    refine z_iload dX11_hasContent_19 rfl ?_
    refine i_iadd dX11_hasContent_21 ?_
    obtain ⟨x6, hx6⟩ : ∃ x : Int, x = ((4 * l2) + l4) := ⟨_, rfl⟩
    have hw := hw x6 hx6
    refine z_st (st' := [.int (Int32.ofInt x6)]) (by rw [hx6]) ?_
    refine z_istore dX11_hasContent_22 (by decide) ?_
    refine z_loc (L' := [(0, .ref (G.1 + 54)), (1, .int (Int32.ofInt (l1))), (2, .int (Int32.ofInt (l2))), (3, .int (Int32.ofInt (l3))), (4, .int (Int32.ofInt (l4))), (5, .int (Int32.ofInt (x6)))]) (List.forall_mem_cons.mpr ⟨rfl, (List.forall_mem_cons.mpr ⟨rfl, (List.forall_mem_cons.mpr ⟨rfl, (List.forall_mem_cons.mpr ⟨rfl, (List.forall_mem_cons.mpr ⟨rfl, (List.forall_mem_cons.mpr ⟨rfl, (fun _ h => nomatch h)⟩)⟩)⟩)⟩)⟩)⟩) ?_
    refine z_aload_n dX11_hasContent_24 rfl rfl ?_
    refine g_getR hW hT.1 mr16 kX11 fX11_53 dX11_hasContent_25 ?_
    refine z_iconst (v := Int32.ofInt 4) dX11_hasContent_28 rfl ?_
    refine z_iload_n dX11_hasContent_29 rfl rfl ?_
    refine i_imul dX11_hasContent_30 ?_
    refine z_iload dX11_hasContent_31 rfl ?_
    refine i_iadd dX11_hasContent_33 ?_
    obtain ⟨q7a, q7b, hw⟩ := hw
    have q8 : iv (-2147483648) 2147483647 (S.2 69 (((4 * l1) + l4))) := mA69 hW _
    have hw := hw q8
    refine g_iald hW (ma69 hT) q7a q7b (by decide) dX11_hasContent_34 ?_
    obtain ⟨x9, hx9⟩ : ∃ x : Int, x = S.2 69 (((4 * l1) + l4)) := ⟨_, rfl⟩
    have hw := hw x9 hx9
    refine z_st (st' := [.int (Int32.ofInt x9)]) (by rw [hx9]) ?_
    have q10 : rng x9 := by rw [hx9]; exact (rngq q8 (by decide) (by decide))
    have q11 : iv (-2147483648) 2147483647 x9 := by rw [hx9]; exact q8
    refine z_istore dX11_hasContent_35 (by decide) ?_
    refine z_loc (L' := [(0, .ref (G.1 + 54)), (1, .int (Int32.ofInt (l1))), (2, .int (Int32.ofInt (l2))), (3, .int (Int32.ofInt (l3))), (4, .int (Int32.ofInt (l4))), (5, .int (Int32.ofInt (x6))), (6, .int (Int32.ofInt (x9)))]) (List.forall_mem_cons.mpr ⟨rfl, (List.forall_mem_cons.mpr ⟨rfl, (List.forall_mem_cons.mpr ⟨rfl, (List.forall_mem_cons.mpr ⟨rfl, (List.forall_mem_cons.mpr ⟨rfl, (List.forall_mem_cons.mpr ⟨rfl, (List.forall_mem_cons.mpr ⟨rfl, (fun _ h => nomatch h)⟩)⟩)⟩)⟩)⟩)⟩)⟩) ?_
    refine z_iload_n dX11_hasContent_37 rfl rfl ?_
    obtain ⟨q13, hw⟩ := hw
    refine i_if_ne (tgt := 106) dX11_hasContent_38 (by decide) q13 (fun h12 => ?_) (fun h12 => ?_)
    · have hw := hw.1 h12
      refine z_loc (L' := [(0, .ref (G.1 + 54)), (1, .int (Int32.ofInt (l1))), (2, .int (Int32.ofInt (l2))), (4, .int (Int32.ofInt (l4)))]) (List.forall_mem_cons.mpr ⟨rfl, (List.forall_mem_cons.mpr ⟨rfl, (List.forall_mem_cons.mpr ⟨rfl, (List.forall_mem_cons.mpr ⟨rfl, (fun _ h => nomatch h)⟩)⟩)⟩)⟩) ?_
      exact bX11_hasContent_106 hd hJ hT hW hP hB5 hw
    · have hw := hw.2 h12
      refine z_aload_n dX11_hasContent_41 rfl rfl ?_
      refine g_getR hW hT.1 mr6 kX11 fX11_22 dX11_hasContent_42 ?_
      refine z_iload dX11_hasContent_45 rfl ?_
      obtain ⟨q14a, q14b, hw⟩ := hw
      have q15 : iv 0 3 (S.2 59 (x6)) := mA59 hW _
      have hw := hw q15
      refine g_iald hW (ma59 hT) q14a q14b (by decide) dX11_hasContent_47 ?_
      refine z_iconst (v := Int32.ofInt 1) dX11_hasContent_48 rfl ?_
      refine i_icmp_gt (tgt := 62) dX11_hasContent_49 (by decide) (rngq q15 (by decide) (by decide)) ⟨by decide, by decide⟩ (fun h16 => ?_) (fun h16 => ?_)
      · have hw := hw.1 h16
        refine z_loc (L' := [(0, .ref (G.1 + 54)), (1, .int (Int32.ofInt (l1))), (2, .int (Int32.ofInt (l2))), (4, .int (Int32.ofInt (l4))), (5, .int (Int32.ofInt (x6))), (6, .int (Int32.ofInt (x9)))]) (List.forall_mem_cons.mpr ⟨rfl, (List.forall_mem_cons.mpr ⟨rfl, (List.forall_mem_cons.mpr ⟨rfl, (List.forall_mem_cons.mpr ⟨rfl, (List.forall_mem_cons.mpr ⟨rfl, (List.forall_mem_cons.mpr ⟨rfl, (fun _ h => nomatch h)⟩)⟩)⟩)⟩)⟩)⟩) ?_
        exact bX11_hasContent_62 hd hJ hT hW hP hB5 hw
      · have hw := hw.2 h16
        refine z_aload_n dX11_hasContent_52 rfl rfl ?_
        refine g_getR hW hT.1 mr7 kX11 fX11_25 dX11_hasContent_53 ?_
        refine z_iload dX11_hasContent_56 rfl ?_
        obtain ⟨q17a, q17b, hw⟩ := hw
        have q18 : iv 0 1 (S.2 60 (x6)) := mA60 hW _
        have hw := hw q18
        refine g_zald hW (ma60 hT) q17a q17b (by decide) dX11_hasContent_58 ?_
        refine i_if_eq (tgt := 106) dX11_hasContent_59 (by decide) (rngq q18 (by decide) (by decide)) (fun h19 => ?_) (fun h19 => ?_)
        · have hw := hw.1 h19
          refine z_loc (L' := [(0, .ref (G.1 + 54)), (1, .int (Int32.ofInt (l1))), (2, .int (Int32.ofInt (l2))), (4, .int (Int32.ofInt (l4)))]) (List.forall_mem_cons.mpr ⟨rfl, (List.forall_mem_cons.mpr ⟨rfl, (List.forall_mem_cons.mpr ⟨rfl, (List.forall_mem_cons.mpr ⟨rfl, (fun _ h => nomatch h)⟩)⟩)⟩)⟩) ?_
          exact bX11_hasContent_106 hd hJ hT hW hP hB5 hw
        · have hw := hw.2 h19
          refine z_loc (L' := [(0, .ref (G.1 + 54)), (1, .int (Int32.ofInt (l1))), (2, .int (Int32.ofInt (l2))), (4, .int (Int32.ofInt (l4))), (5, .int (Int32.ofInt (x6))), (6, .int (Int32.ofInt (x9)))]) (List.forall_mem_cons.mpr ⟨rfl, (List.forall_mem_cons.mpr ⟨rfl, (List.forall_mem_cons.mpr ⟨rfl, (List.forall_mem_cons.mpr ⟨rfl, (List.forall_mem_cons.mpr ⟨rfl, (List.forall_mem_cons.mpr ⟨rfl, (fun _ h => nomatch h)⟩)⟩)⟩)⟩)⟩)⟩) ?_
          exact bX11_hasContent_62 hd hJ hT hW hP hB5 hw
def wX11_hasContent_5 (l1 l2 l3 l4 : Int) (S : St) (K : Int → St → Prop) : Prop := ∃ (Iv : Int → Int → Int → Int → St → Prop) (mu : Int → Int → Int → Int → St → Nat), Iv l1 l2 l3 l4 S ∧ ∀ (l1 l2 l3 l4 : Int) (S : St), Iv l1 l2 l3 l4 S → wX11_hasContent_5' l1 l2 l3 l4 S K  (fun ml1 ml2 ml3 ml4 T => Iv ml1 ml2 ml3 ml4 T ∧ mu ml1 ml2 ml3 ml4 T < mu l1 l2 l3 l4 S)
set_option maxRecDepth 100000 in
set_option maxHeartbeats 4000000 in
theorem bX11_hasContent_5 {G : xG} {sh : Nat → Option Sh} {J : St → List va_E → Prop} {d : Nat} {Post : xP} {l1 l2 l3 l4 : Int} {S : St} {cs : List va_E} {K : Int → St → Prop} (hd : 0 ≤ d) (hJ : Stb sh J) (hT : isM sh) (hW : Wd G sh mT J S cs) (hP : ∀ (v : Int) (S : St) (cs : List va_E), K v S → Wd G sh mT J S cs → Post (some (.int (Int32.ofInt v))) cs)  (hw : wX11_hasContent_5 l1 l2 l3 l4 S K ) : Z (RX11, cX11_hasContent, 7, some .boolean, false) G d Post 5 [(0, .ref (G.1 + 54)), (1, .int (Int32.ofInt (l1))), (2, .int (Int32.ofInt (l2))), (3, .int (Int32.ofInt (l3))), (4, .int (Int32.ofInt (l4)))] [] cs := by
  unfold wX11_hasContent_5 at hw
  obtain ⟨Iv, mu, h0, hs⟩ := hw
  have key : ∀ (n : Nat) (l1 l2 l3 l4 : Int) (S : St) (cs : List va_E), mu l1 l2 l3 l4 S < n → Iv l1 l2 l3 l4 S → Wd G sh mT J S cs → Z (RX11, cX11_hasContent, 7, some .boolean, false) G d Post 5 [(0, .ref (G.1 + 54)), (1, .int (Int32.ofInt (l1))), (2, .int (Int32.ofInt (l2))), (3, .int (Int32.ofInt (l3))), (4, .int (Int32.ofInt (l4)))] [] cs := by
    intro n
    induction n with
    | zero => intro l1 l2 l3 l4 S cs hn; exact absurd hn (Nat.not_lt_zero _)
    | succ n ih =>
      intro l1 l2 l3 l4 S cs hn hI hW
      exact bX11_hasContent_5' hd hJ hT hW hP  (fun l1 l2 l3 l4 S cs hb hW => ih l1 l2 l3 l4 S cs (Nat.lt_of_lt_of_le hb.2 (Nat.le_of_lt_succ hn)) hb.1 hW) (hs l1 l2 l3 l4 S hI)
  exact key _ _ _ _ _ _ _ (Nat.lt_succ_self _) h0 hW
def wX11_hasContent (a1 a2 : Int) (S : St) (K : Int → St → Prop) : Prop := rng a1 → rng a2 → wX11_hasContent_5 (a1) (a2) (0) (0) S K
set_option maxRecDepth 100000 in
set_option maxHeartbeats 4000000 in
theorem lX11_hasContent {G : xG} {sh : Nat → Option Sh} {J : St → List va_E → Prop} {a1 a2 : Int} {S : St} {cs : List va_E} {K : Int → St → Prop} (d : Nat) (hd : 0 ≤ d) (hJ : Stb sh J) (hT : isM sh) (hW : Wd G sh mT J S cs) (g1 : rng a1) (g2 : rng a2) (hw : wX11_hasContent a1 a2 S K) : X G yX11_hasContent cX11_hasContent 7 (some .boolean) d [.ref (G.1 + 54), .int (Int32.ofInt a1), .int (Int32.ofInt a2)] cs (qI G sh mT J K) := by
  refine X.of false (by decide +kernel) (by decide) (Nat.le_of_ble_eq_true rfl) ?_
  show Z (RX11, cX11_hasContent, 7, some .boolean, false) G d _ 0 [(0, .ref (G.1 + 54)), (1, .int (Int32.ofInt a1)), (2, .int (Int32.ofInt a2))] [] cs
  have hP : ∀ (v : Int) (S : St) (cs : List va_E), K v S → Wd G sh mT J S cs → qI G sh mT J K (some (.int (Int32.ofInt v))) cs := fun v S cs a b => ⟨v, S, rfl, a, b⟩
  unfold wX11_hasContent at hw
  have hw := hw g1 g2
  refine z_iconst (v := Int32.ofInt 0) dX11_hasContent_0 rfl ?_
  refine z_istore_n dX11_hasContent_1 rfl (by decide) ?_
  refine z_loc (L' := [(0, .ref (G.1 + 54)), (1, .int (Int32.ofInt (a1))), (2, .int (Int32.ofInt (a2))), (3, .int (Int32.ofInt (0)))]) (List.forall_mem_cons.mpr ⟨rfl, (List.forall_mem_cons.mpr ⟨rfl, (List.forall_mem_cons.mpr ⟨rfl, (List.forall_mem_cons.mpr ⟨rfl, (fun _ h => nomatch h)⟩)⟩)⟩)⟩) ?_
  refine z_iconst (v := Int32.ofInt 0) dX11_hasContent_2 rfl ?_
  refine z_istore dX11_hasContent_3 (by decide) ?_
  refine z_loc (L' := [(0, .ref (G.1 + 54)), (1, .int (Int32.ofInt (a1))), (2, .int (Int32.ofInt (a2))), (3, .int (Int32.ofInt (0))), (4, .int (Int32.ofInt (0)))]) (List.forall_mem_cons.mpr ⟨rfl, (List.forall_mem_cons.mpr ⟨rfl, (List.forall_mem_cons.mpr ⟨rfl, (List.forall_mem_cons.mpr ⟨rfl, (List.forall_mem_cons.mpr ⟨rfl, (fun _ h => nomatch h)⟩)⟩)⟩)⟩)⟩) ?_
  refine z_loc (L' := [(0, .ref (G.1 + 54)), (1, .int (Int32.ofInt (a1))), (2, .int (Int32.ofInt (a2))), (3, .int (Int32.ofInt (0))), (4, .int (Int32.ofInt (0)))]) (List.forall_mem_cons.mpr ⟨rfl, (List.forall_mem_cons.mpr ⟨rfl, (List.forall_mem_cons.mpr ⟨rfl, (List.forall_mem_cons.mpr ⟨rfl, (List.forall_mem_cons.mpr ⟨rfl, (fun _ h => nomatch h)⟩)⟩)⟩)⟩)⟩) ?_
  exact bX11_hasContent_5 hd hJ hT hW hP  hw

def wX11_put (a1 : Int) (S : St) (K : Int → St → Prop) : Prop := rng a1 → (iv 0 3001 (S.1 54 39) → ((3000 < S.1 54 39 → K 0 S) ∧ ((¬ (3000 < S.1 54 39)) → ((0 : Int) ≤ S.1 54 39 ∧ S.1 54 39 < (3001 : Int) ∧ (iv (-2147483648) 2147483647 (a1) ∧ (∀ S4, S4 = pA S 83 (S.1 54 39) (a1) → (iv 0 3001 (S4.1 54 39) → (iv 0 3001 ((S4.1 54 39 + 1)) ∧ (∀ S7, S7 = pI S4 54 39 ((S4.1 54 39 + 1)) → K 0 S7)))))))))
set_option maxRecDepth 100000 in
set_option maxHeartbeats 4000000 in
theorem lX11_put {G : xG} {sh : Nat → Option Sh} {J : St → List va_E → Prop} {a1 : Int} {S : St} {cs : List va_E} {K : Int → St → Prop} (d : Nat) (hd : 0 ≤ d) (hJ : Stb sh J) (hT : isM sh) (hW : Wd G sh mT J S cs) (g1 : rng a1) (hw : wX11_put a1 S K) : X G yX11_put cX11_put 2 none d [.ref (G.1 + 54), .int (Int32.ofInt a1)] cs (qV G sh mT J K) := by
  refine X.of false (by decide +kernel) (by decide) (Nat.le_of_ble_eq_true rfl) ?_
  show Z (RX11, cX11_put, 2, none, false) G d _ 0 [(0, .ref (G.1 + 54)), (1, .int (Int32.ofInt a1))] [] cs
  have hP : ∀ (v : Int) (S : St) (cs : List va_E), K v S → Wd G sh mT J S cs → qV G sh mT J K (none) cs := fun v S cs a b => ⟨v, S, rfl, a, b⟩
  unfold wX11_put at hw
  have hw := hw g1
  refine z_aload_n dX11_put_0 rfl rfl ?_
  have q1 : iv 0 3001 (S.1 54 39) := mI39 hW
  have hw := hw q1
  refine g_getI hW hT.1 mr39 kX11 fX11_257 dX11_put_1 ?_
  refine z_sipush (v := Int32.ofInt 3000) dX11_put_4 (by decide) ?_
  refine i_icmp_gt (tgt := 30) dX11_put_7 (by decide) (rngq q1 (by decide) (by decide)) ⟨by decide, by decide⟩ (fun h2 => ?_) (fun h2 => ?_)
  · have hw := hw.1 h2
    exact z_return dX11_put_30 rfl (hP 0 _ _ hw hW)
  · have hw := hw.2 h2
    refine z_aload_n dX11_put_10 rfl rfl ?_
    refine g_getR hW hT.1 mr40 kX11 fX11_99 dX11_put_11 ?_
    refine z_aload_n dX11_put_14 rfl rfl ?_
    refine g_getI hW hT.1 mr39 kX11 fX11_257 dX11_put_15 ?_
    refine z_iload_n dX11_put_18 rfl rfl ?_
    obtain ⟨q3a, q3b, hw⟩ := hw
    obtain ⟨q5, hw⟩ := hw
    refine g_iast hJ hW (ma83 hT) q3a q3b (by decide) q5 dX11_put_19 (fun cs hW => ?_)
    obtain ⟨S4, hS4⟩ : ∃ x, x = pA S 83 (S.1 54 39) (a1) := ⟨_, rfl⟩
    rw [← hS4] at hW
    have hw := hw S4 hS4
    refine z_aload_n dX11_put_20 rfl rfl ?_
    refine z_dup dX11_put_21 rfl ?_
    have q6 : iv 0 3001 (S4.1 54 39) := mI39 hW
    have hw := hw q6
    refine g_getI hW hT.1 mr39 kX11 fX11_257 dX11_put_22 ?_
    refine z_iconst (v := Int32.ofInt 1) dX11_put_25 rfl ?_
    refine i_iadd dX11_put_26 ?_
    obtain ⟨q8, hw⟩ := hw
    refine g_putI hJ hW hT.1 mr39 kX11 fX11_257 dX11_put_27 rfl rfl rfl q8 (fun cs hW => ?_)
    obtain ⟨S7, hS7⟩ : ∃ x, x = pI S4 54 39 ((S4.1 54 39 + 1)) := ⟨_, rfl⟩
    rw [← hS7] at hW
    have hw := hw S7 hS7
    exact z_return dX11_put_30 rfl (hP 0 _ _ hw hW)

