def wX11_name_79 (l1 l3 l6 s0 : Int) (S : St) (K : Int → St → Prop) (B53 : Int → Int → Int → Int → St → Prop) : Prop := B53 (l1) (l3) (s0) ((l6 + 1)) S
set_option maxRecDepth 100000 in
set_option maxHeartbeats 4000000 in
theorem bX11_name_79 {G : xG} {sh : Nat → Option Sh} {J : St → List va_E → Prop} {d : Nat} {Post : xP} {l1 l3 l6 s0 : Int} {S : St} {cs : List va_E} {K : Int → St → Prop} {B53 : Int → Int → Int → Int → St → Prop} (hd : 2 ≤ d) (hJ : Stb sh J) (hT : isM sh) (hW : Wd G sh mT J S cs) (hP : ∀ (v : Int) (S : St) (cs : List va_E), K v S → Wd G sh mT J S cs → Post (none) cs) (hB53 : ∀ (l1 : Int) (l3 : Int) (l5 : Int) (l6 : Int) (S : St) (cs : List va_E), B53 l1 l3 l5 l6 S → Wd G sh mT J S cs → Z (RX11, cX11_name, 7, none, false) G d Post 53 [(0, .ref (G.1 + 54)), (1, .int (Int32.ofInt (l1))), (3, .int (Int32.ofInt (l3))), (5, .int (Int32.ofInt (l5))), (6, .int (Int32.ofInt (l6)))] [] cs) (hw : wX11_name_79 l1 l3 l6 s0 S K B53) : Z (RX11, cX11_name, 7, none, false) G d Post 79 [(0, .ref (G.1 + 54)), (1, .int (Int32.ofInt (l1))), (3, .int (Int32.ofInt (l3))), (6, .int (Int32.ofInt (l6)))] [.int (Int32.ofInt (s0))] cs := by
  unfold wX11_name_79 at hw
  refine z_istore dX11_name_79 (by decide) ?_
  refine z_loc (L' := [(0, .ref (G.1 + 54)), (1, .int (Int32.ofInt (l1))), (3, .int (Int32.ofInt (l3))), (5, .int (Int32.ofInt (s0))), (6, .int (Int32.ofInt (l6)))]) (List.forall_mem_cons.mpr ⟨rfl, (List.forall_mem_cons.mpr ⟨rfl, (List.forall_mem_cons.mpr ⟨rfl, (List.forall_mem_cons.mpr ⟨rfl, (List.forall_mem_cons.mpr ⟨rfl, (fun _ h => nomatch h)⟩)⟩)⟩)⟩)⟩) ?_
  refine i_iinc (l := l6) dX11_name_81 rfl (by decide) ?_
  refine z_loc (L' := [(0, .ref (G.1 + 54)), (1, .int (Int32.ofInt (l1))), (3, .int (Int32.ofInt (l3))), (5, .int (Int32.ofInt (s0))), (6, .int (Int32.ofInt ((l6 + 1))))]) (List.forall_mem_cons.mpr ⟨rfl, (List.forall_mem_cons.mpr ⟨rfl, (List.forall_mem_cons.mpr ⟨rfl, (List.forall_mem_cons.mpr ⟨rfl, (List.forall_mem_cons.mpr ⟨rfl, (fun _ h => nomatch h)⟩)⟩)⟩)⟩)⟩) ?_
  refine z_goto (tgt := 53) dX11_name_84 (by decide) ?_
  refine z_loc (L' := [(0, .ref (G.1 + 54)), (1, .int (Int32.ofInt (l1))), (3, .int (Int32.ofInt (l3))), (5, .int (Int32.ofInt (s0))), (6, .int (Int32.ofInt ((l6 + 1))))]) (List.forall_mem_cons.mpr ⟨rfl, (List.forall_mem_cons.mpr ⟨rfl, (List.forall_mem_cons.mpr ⟨rfl, (List.forall_mem_cons.mpr ⟨rfl, (List.forall_mem_cons.mpr ⟨rfl, (fun _ h => nomatch h)⟩)⟩)⟩)⟩)⟩) ?_
  exact hB53 _ _ _ _ _ _ hw hW
def wX11_name_74 (l1 l3 l6 : Int) (S : St) (K : Int → St → Prop) (B53 : Int → Int → Int → Int → St → Prop) : Prop := wX11_name_79 (l1) (l3) (l6) (1) S K B53
set_option maxRecDepth 100000 in
set_option maxHeartbeats 4000000 in
theorem bX11_name_74 {G : xG} {sh : Nat → Option Sh} {J : St → List va_E → Prop} {d : Nat} {Post : xP} {l1 l3 l6 : Int} {S : St} {cs : List va_E} {K : Int → St → Prop} {B53 : Int → Int → Int → Int → St → Prop} (hd : 2 ≤ d) (hJ : Stb sh J) (hT : isM sh) (hW : Wd G sh mT J S cs) (hP : ∀ (v : Int) (S : St) (cs : List va_E), K v S → Wd G sh mT J S cs → Post (none) cs) (hB53 : ∀ (l1 : Int) (l3 : Int) (l5 : Int) (l6 : Int) (S : St) (cs : List va_E), B53 l1 l3 l5 l6 S → Wd G sh mT J S cs → Z (RX11, cX11_name, 7, none, false) G d Post 53 [(0, .ref (G.1 + 54)), (1, .int (Int32.ofInt (l1))), (3, .int (Int32.ofInt (l3))), (5, .int (Int32.ofInt (l5))), (6, .int (Int32.ofInt (l6)))] [] cs) (hw : wX11_name_74 l1 l3 l6 S K B53) : Z (RX11, cX11_name, 7, none, false) G d Post 74 [(0, .ref (G.1 + 54)), (1, .int (Int32.ofInt (l1))), (3, .int (Int32.ofInt (l3))), (6, .int (Int32.ofInt (l6)))] [] cs := by
  unfold wX11_name_74 at hw
  refine z_iconst (v := Int32.ofInt 1) dX11_name_74 rfl ?_
  refine z_goto (tgt := 79) dX11_name_75 (by decide) ?_
  refine z_loc (L' := [(0, .ref (G.1 + 54)), (1, .int (Int32.ofInt (l1))), (3, .int (Int32.ofInt (l3))), (6, .int (Int32.ofInt (l6)))]) (List.forall_mem_cons.mpr ⟨rfl, (List.forall_mem_cons.mpr ⟨rfl, (List.forall_mem_cons.mpr ⟨rfl, (List.forall_mem_cons.mpr ⟨rfl, (fun _ h => nomatch h)⟩)⟩)⟩)⟩) ?_
  exact bX11_name_79 hd hJ hT hW hP hB53 hw
def wX11_name_53' (l1 l3 l5 l6 : Int) (S : St) (K : Int → St → Prop) (B53 : Int → Int → Int → Int → St → Prop) : Prop := (rng (l6) ∧ (rng (l3) ∧ ((l3 ≤ l6 → (iv 0 1 (S.1 54 24) → ((¬ S.1 54 24 = 0 → (∀ S6, S6 = pI S 54 24 (1) → K 0 S6)) ∧ ((¬ (¬ S.1 54 24 = 0)) → (rng (l5) ∧ ((l5 = 0 → (∀ S9, S9 = pI S 54 24 (0) → K 0 S9)) ∧ ((¬ (l5 = 0)) → (∀ S10, S10 = pI S 54 24 (1) → K 0 S10)))))))) ∧ ((¬ (l3 ≤ l6)) → (rng (l5) ∧ ((¬ l5 = 0 → wX11_name_74 (l1) (l3) (l6) S K B53) ∧ ((¬ (¬ l5 = 0)) → (rng (l1) ∧ (wX11_areAlike (l6) (l1) S (fun r14 S15 => (rng (r14) ∧ ((r14 = 0 → wX11_name_79 (l1) (l3) (l6) (0) S15 K B53) ∧ ((¬ (r14 = 0)) → wX11_name_74 (l1) (l3) (l6) S15 K B53)))))))))))))
set_option maxRecDepth 100000 in
set_option maxHeartbeats 4000000 in
theorem bX11_name_53' {G : xG} {sh : Nat → Option Sh} {J : St → List va_E → Prop} {d : Nat} {Post : xP} {l1 l3 l5 l6 : Int} {S : St} {cs : List va_E} {K : Int → St → Prop} {B53 : Int → Int → Int → Int → St → Prop} (hd : 2 ≤ d) (hJ : Stb sh J) (hT : isM sh) (hW : Wd G sh mT J S cs) (hP : ∀ (v : Int) (S : St) (cs : List va_E), K v S → Wd G sh mT J S cs → Post (none) cs) (hB53 : ∀ (l1 : Int) (l3 : Int) (l5 : Int) (l6 : Int) (S : St) (cs : List va_E), B53 l1 l3 l5 l6 S → Wd G sh mT J S cs → Z (RX11, cX11_name, 7, none, false) G d Post 53 [(0, .ref (G.1 + 54)), (1, .int (Int32.ofInt (l1))), (3, .int (Int32.ofInt (l3))), (5, .int (Int32.ofInt (l5))), (6, .int (Int32.ofInt (l6)))] [] cs) (hw : wX11_name_53' l1 l3 l5 l6 S K B53) : Z (RX11, cX11_name, 7, none, false) G d Post 53 [(0, .ref (G.1 + 54)), (1, .int (Int32.ofInt (l1))), (3, .int (Int32.ofInt (l3))), (5, .int (Int32.ofInt (l5))), (6, .int (Int32.ofInt (l6)))] [] cs := by
  unfold wX11_name_53' at hw
  refine z_iload dX11_name_53 rfl ?_
  refine z_iload_n dX11_name_55 rfl rfl ?_
  obtain ⟨q2, hw⟩ := hw
  obtain ⟨q3, hw⟩ := hw
  refine i_icmp_ge (tgt := 87) dX11_name_56 (by decide) q2 q3 (fun h1 => ?_) (fun h1 => ?_)
  · have hw := hw.1 h1
    refine z_aload_n dX11_name_87 rfl rfl ?_
    refine z_aload_n dX11_name_88 rfl rfl ?_
    have q4 : iv 0 1 (S.1 54 24) := mI24 hW
    have hw := hw q4
    refine g_getI hW hT.1 mr24 kX11 fX11_210 dX11_name_89 ?_
    refine i_if_ne (tgt := 100) dX11_name_92 (by decide) (rngq q4 (by decide) (by decide)) (fun h5 => ?_) (fun h5 => ?_)
    · have hw := hw.1 h5
      refine z_iconst (v := Int32.ofInt 1) dX11_name_100 rfl ?_
      refine z_goto (tgt := 105) dX11_name_101 (by decide) ?_
      refine g_putI hJ hW hT.1 mr24 kX11 fX11_210 dX11_name_105 rfl (nar01 (by decide)) (fit01 (by decide)) ⟨by decide, by decide⟩ (fun cs hW => ?_)
      obtain ⟨S6, hS6⟩ : ∃ x, x = pI S 54 24 (1) := ⟨_, rfl⟩
      rw [← hS6] at hW
      have hw := hw S6 hS6
      exact z_return dX11_name_108 rfl (hP 0 _ _ hw hW)
    · have hw := hw.2 h5
      refine z_iload dX11_name_95 rfl ?_
      obtain ⟨q8, hw⟩ := hw
      refine i_if_eq (tgt := 104) dX11_name_97 (by decide) q8 (fun h7 => ?_) (fun h7 => ?_)
      · have hw := hw.1 h7
        refine z_iconst (v := Int32.ofInt 0) dX11_name_104 rfl ?_
        refine g_putI hJ hW hT.1 mr24 kX11 fX11_210 dX11_name_105 rfl (nar01 (by decide)) (fit01 (by decide)) ⟨by decide, by decide⟩ (fun cs hW => ?_)
        obtain ⟨S9, hS9⟩ : ∃ x, x = pI S 54 24 (0) := ⟨_, rfl⟩
        rw [← hS9] at hW
        have hw := hw S9 hS9
        exact z_return dX11_name_108 rfl (hP 0 _ _ hw hW)
      · have hw := hw.2 h7
        refine z_iconst (v := Int32.ofInt 1) dX11_name_100 rfl ?_
        refine z_goto (tgt := 105) dX11_name_101 (by decide) ?_
        refine g_putI hJ hW hT.1 mr24 kX11 fX11_210 dX11_name_105 rfl (nar01 (by decide)) (fit01 (by decide)) ⟨by decide, by decide⟩ (fun cs hW => ?_)
        obtain ⟨S10, hS10⟩ : ∃ x, x = pI S 54 24 (1) := ⟨_, rfl⟩
        rw [← hS10] at hW
        have hw := hw S10 hS10
        exact z_return dX11_name_108 rfl (hP 0 _ _ hw hW)
  · have hw := hw.2 h1
    refine z_iload dX11_name_59 rfl ?_
    obtain ⟨q12, hw⟩ := hw
    refine i_if_ne (tgt := 74) dX11_name_61 (by decide) q12 (fun h11 => ?_) (fun h11 => ?_)
    · have hw := hw.1 h11
      refine z_loc (L' := [(0, .ref (G.1 + 54)), (1, .int (Int32.ofInt (l1))), (3, .int (Int32.ofInt (l3))), (6, .int (Int32.ofInt (l6)))]) (List.forall_mem_cons.mpr ⟨rfl, (List.forall_mem_cons.mpr ⟨rfl, (List.forall_mem_cons.mpr ⟨rfl, (List.forall_mem_cons.mpr ⟨rfl, (fun _ h => nomatch h)⟩)⟩)⟩)⟩) ?_
      exact bX11_name_74 hd hJ hT hW hP hB53 hw
    · have hw := hw.2 h11
      refine z_aload_n dX11_name_64 rfl rfl ?_
      refine z_iload dX11_name_65 rfl ?_
      refine z_iload_n dX11_name_67 rfl rfl ?_
      obtain ⟨q13, hw⟩ := hw
      have hX := lX11_areAlike 0 (Nat.le_refl _) hJ hT hW q2 q13 hw
      refine z_callV (As := [_, _]) eX11_areAlike sX11_areAlike lX11_206 rfl dX11_name_68 (hW.1 _ _ hT.1) hX (Nat.le_trans (by decide) hd) rfl (Nat.le_of_ble_eq_true rfl) (fun r cs hp => ?_)
      obtain ⟨r14, S15, rfl, hw, hW⟩ := hp
      refine z_st (st' := [.int (Int32.ofInt (r14))]) rfl ?_
      obtain ⟨q17, hw⟩ := hw
      refine i_if_eq (tgt := 78) dX11_name_71 (by decide) q17 (fun h16 => ?_) (fun h16 => ?_)
      · have hw := hw.1 h16
        refine z_iconst (v := Int32.ofInt 0) dX11_name_78 rfl ?_
        refine z_loc (L' := [(0, .ref (G.1 + 54)), (1, .int (Int32.ofInt (l1))), (3, .int (Int32.ofInt (l3))), (6, .int (Int32.ofInt (l6)))]) (List.forall_mem_cons.mpr ⟨rfl, (List.forall_mem_cons.mpr ⟨rfl, (List.forall_mem_cons.mpr ⟨rfl, (List.forall_mem_cons.mpr ⟨rfl, (fun _ h => nomatch h)⟩)⟩)⟩)⟩) ?_
        exact bX11_name_79 hd hJ hT hW hP hB53 hw
      · have hw := hw.2 h16
        refine z_loc (L' := [(0, .ref (G.1 + 54)), (1, .int (Int32.ofInt (l1))), (3, .int (Int32.ofInt (l3))), (6, .int (Int32.ofInt (l6)))]) (List.forall_mem_cons.mpr ⟨rfl, (List.forall_mem_cons.mpr ⟨rfl, (List.forall_mem_cons.mpr ⟨rfl, (List.forall_mem_cons.mpr ⟨rfl, (fun _ h => nomatch h)⟩)⟩)⟩)⟩) ?_
        exact bX11_name_74 hd hJ hT hW hP hB53 hw
def wX11_name_53 (l1 l3 l5 l6 : Int) (S : St) (K : Int → St → Prop) : Prop := ∃ (Iv : Int → Int → Int → Int → St → Prop) (mu : Int → Int → Int → Int → St → Nat), Iv l1 l3 l5 l6 S ∧ ∀ (l1 l3 l5 l6 : Int) (S : St), Iv l1 l3 l5 l6 S → wX11_name_53' l1 l3 l5 l6 S K  (fun ml1 ml3 ml5 ml6 T => Iv ml1 ml3 ml5 ml6 T ∧ mu ml1 ml3 ml5 ml6 T < mu l1 l3 l5 l6 S)
set_option maxRecDepth 100000 in
set_option maxHeartbeats 4000000 in
theorem bX11_name_53 {G : xG} {sh : Nat → Option Sh} {J : St → List va_E → Prop} {d : Nat} {Post : xP} {l1 l3 l5 l6 : Int} {S : St} {cs : List va_E} {K : Int → St → Prop} (hd : 2 ≤ d) (hJ : Stb sh J) (hT : isM sh) (hW : Wd G sh mT J S cs) (hP : ∀ (v : Int) (S : St) (cs : List va_E), K v S → Wd G sh mT J S cs → Post (none) cs)  (hw : wX11_name_53 l1 l3 l5 l6 S K ) : Z (RX11, cX11_name, 7, none, false) G d Post 53 [(0, .ref (G.1 + 54)), (1, .int (Int32.ofInt (l1))), (3, .int (Int32.ofInt (l3))), (5, .int (Int32.ofInt (l5))), (6, .int (Int32.ofInt (l6)))] [] cs := by
  unfold wX11_name_53 at hw
  obtain ⟨Iv, mu, h0, hs⟩ := hw
  have key : ∀ (n : Nat) (l1 l3 l5 l6 : Int) (S : St) (cs : List va_E), mu l1 l3 l5 l6 S < n → Iv l1 l3 l5 l6 S → Wd G sh mT J S cs → Z (RX11, cX11_name, 7, none, false) G d Post 53 [(0, .ref (G.1 + 54)), (1, .int (Int32.ofInt (l1))), (3, .int (Int32.ofInt (l3))), (5, .int (Int32.ofInt (l5))), (6, .int (Int32.ofInt (l6)))] [] cs := by
    intro n
    induction n with
    | zero => intro l1 l3 l5 l6 S cs hn; exact absurd hn (Nat.not_lt_zero _)
    | succ n ih =>
      intro l1 l3 l5 l6 S cs hn hI hW
      exact bX11_name_53' hd hJ hT hW hP  (fun l1 l3 l5 l6 S cs hb hW => ih l1 l3 l5 l6 S cs (Nat.lt_of_lt_of_le hb.2 (Nat.le_of_lt_succ hn)) hb.1 hW) (hs l1 l3 l5 l6 S hI)
  exact key _ _ _ _ _ _ _ (Nat.lt_succ_self _) h0 hW
def wX11_name (a1 a2 a3 : Int) (S : St) (K : Int → St → Prop) : Prop := rng a1 → rng a2 → rng a3 → (iv 0 3000 (S.1 54 22) → (wX11_nameAt (S.1 54 22) (a1) S (fun r2 S3 => (rng (r2) ∧ ((0 ≤ r2 → (iv 0 3000 (S3.1 54 22) → (iv 0 3000 ((S3.1 54 22 + r2)) ∧ (∀ S7, S7 = pI S3 54 22 ((S3.1 54 22 + r2)) → wX11_name_53 (a1) (a3) (0) (a2) S7 K)))) ∧ ((¬ (0 ≤ r2)) → (iv 0 3000 (S3.1 54 22) → (iv 0 3000 (((S3.1 54 22 + (-2)) - r2)) ∧ (∀ S10, S10 = pI S3 54 22 (((S3.1 54 22 + (-2)) - r2)) → (∀ S12, S12 = pI S10 54 23 (1) → K 0 S12))))))))))
set_option maxRecDepth 100000 in
set_option maxHeartbeats 4000000 in
theorem lX11_name {G : xG} {sh : Nat → Option Sh} {J : St → List va_E → Prop} {a1 a2 a3 : Int} {S : St} {cs : List va_E} {K : Int → St → Prop} (d : Nat) (hd : 2 ≤ d) (hJ : Stb sh J) (hT : isM sh) (hW : Wd G sh mT J S cs) (g1 : rng a1) (g2 : rng a2) (g3 : rng a3) (hw : wX11_name a1 a2 a3 S K) : X G yX11_name cX11_name 7 none d [.ref (G.1 + 54), .int (Int32.ofInt a1), .int (Int32.ofInt a2), .int (Int32.ofInt a3)] cs (qV G sh mT J K) := by
  refine X.of false (by decide +kernel) (by decide) (Nat.le_of_ble_eq_true rfl) ?_
  show Z (RX11, cX11_name, 7, none, false) G d _ 0 [(0, .ref (G.1 + 54)), (1, .int (Int32.ofInt a1)), (2, .int (Int32.ofInt a2)), (3, .int (Int32.ofInt a3))] [] cs
  have hP : ∀ (v : Int) (S : St) (cs : List va_E), K v S → Wd G sh mT J S cs → qV G sh mT J K (none) cs := fun v S cs a b => ⟨v, S, rfl, a, b⟩
  unfold wX11_name at hw
  have hw := hw g1 g2 g3
  refine z_aload_n dX11_name_0 rfl rfl ?_
  refine z_aload_n dX11_name_1 rfl rfl ?_
  have q1 : iv 0 3000 (S.1 54 22) := mI22 hW
  have hw := hw q1
  refine g_getI hW hT.1 mr22 kX11 fX11_200 dX11_name_2 ?_
  refine z_iload_n dX11_name_5 rfl rfl ?_
  have hX := lX11_nameAt 1 (Nat.le_refl _) hJ hT hW (rngq q1 (by decide) (by decide)) g1 hw
  refine z_callV (As := [_, _]) eX11_nameAt sX11_nameAt lX11_203 rfl dX11_name_6 (hW.1 _ _ hT.1) hX (Nat.le_trans (by decide) hd) rfl (Nat.le_of_ble_eq_true rfl) (fun r cs hp => ?_)
  obtain ⟨r2, S3, rfl, hw, hW⟩ := hp
  refine z_st (st' := [.int (Int32.ofInt (r2))]) rfl ?_
  refine z_istore dX11_name_9 (by decide) ?_
  refine z_loc (L' := [(0, .ref (G.1 + 54)), (1, .int (Int32.ofInt (a1))), (2, .int (Int32.ofInt (a2))), (3, .int (Int32.ofInt (a3))), (4, .int (Int32.ofInt (r2)))]) (List.forall_mem_cons.mpr ⟨rfl, (List.forall_mem_cons.mpr ⟨rfl, (List.forall_mem_cons.mpr ⟨rfl, (List.forall_mem_cons.mpr ⟨rfl, (List.forall_mem_cons.mpr ⟨rfl, (fun _ h => nomatch h)⟩)⟩)⟩)⟩)⟩) ?_
  refine z_iload dX11_name_11 rfl ?_
  obtain ⟨q5, hw⟩ := hw
  refine i_if_ge (tgt := 36) dX11_name_13 (by decide) q5 (fun h4 => ?_) (fun h4 => ?_)
  · have hw := hw.1 h4
    refine z_aload_n dX11_name_36 rfl rfl ?_
    refine z_aload_n dX11_name_37 rfl rfl ?_
    have q6 : iv 0 3000 (S3.1 54 22) := mI22 hW
    have hw := hw q6
    refine g_getI hW hT.1 mr22 kX11 fX11_200 dX11_name_38 ?_
    refine z_iload dX11_name_41 rfl ?_
    refine i_iadd dX11_name_43 ?_
    obtain ⟨q8, hw⟩ := hw
    refine g_putI hJ hW hT.1 mr22 kX11 fX11_200 dX11_name_44 rfl rfl rfl q8 (fun cs hW => ?_)
    obtain ⟨S7, hS7⟩ : ∃ x, x = pI S3 54 22 ((S3.1 54 22 + r2)) := ⟨_, rfl⟩
    rw [← hS7] at hW
    have hw := hw S7 hS7
    refine z_iconst (v := Int32.ofInt 0) dX11_name_47 rfl ?_
    refine z_istore dX11_name_48 (by decide) ?_
    refine z_loc (L' := [(0, .ref (G.1 + 54)), (1, .int (Int32.ofInt (a1))), (2, .int (Int32.ofInt (a2))), (3, .int (Int32.ofInt (a3))), (4, .int (Int32.ofInt (r2))), (5, .int (Int32.ofInt (0)))]) (List.forall_mem_cons.mpr ⟨rfl, (List.forall_mem_cons.mpr ⟨rfl, (List.forall_mem_cons.mpr ⟨rfl, (List.forall_mem_cons.mpr ⟨rfl, (List.forall_mem_cons.mpr ⟨rfl, (List.forall_mem_cons.mpr ⟨rfl, (fun _ h => nomatch h)⟩)⟩)⟩)⟩)⟩)⟩) ?_
    refine z_iload_n dX11_name_50 rfl rfl ?_
    refine z_istore dX11_name_51 (by decide) ?_
    refine z_loc (L' := [(0, .ref (G.1 + 54)), (1, .int (Int32.ofInt (a1))), (2, .int (Int32.ofInt (a2))), (3, .int (Int32.ofInt (a3))), (4, .int (Int32.ofInt (r2))), (5, .int (Int32.ofInt (0))), (6, .int (Int32.ofInt (a2)))]) (List.forall_mem_cons.mpr ⟨rfl, (List.forall_mem_cons.mpr ⟨rfl, (List.forall_mem_cons.mpr ⟨rfl, (List.forall_mem_cons.mpr ⟨rfl, (List.forall_mem_cons.mpr ⟨rfl, (List.forall_mem_cons.mpr ⟨rfl, (List.forall_mem_cons.mpr ⟨rfl, (fun _ h => nomatch h)⟩)⟩)⟩)⟩)⟩)⟩)⟩) ?_
    refine z_loc (L' := [(0, .ref (G.1 + 54)), (1, .int (Int32.ofInt (a1))), (3, .int (Int32.ofInt (a3))), (5, .int (Int32.ofInt (0))), (6, .int (Int32.ofInt (a2)))]) (List.forall_mem_cons.mpr ⟨rfl, (List.forall_mem_cons.mpr ⟨rfl, (List.forall_mem_cons.mpr ⟨rfl, (List.forall_mem_cons.mpr ⟨rfl, (List.forall_mem_cons.mpr ⟨rfl, (fun _ h => nomatch h)⟩)⟩)⟩)⟩)⟩) ?_
    exact bX11_name_53 hd hJ hT hW hP  hw
  · have hw := hw.2 h4
    refine z_aload_n dX11_name_16 rfl rfl ?_
    refine z_aload_n dX11_name_17 rfl rfl ?_
    have q9 : iv 0 3000 (S3.1 54 22) := mI22 hW
    have hw := hw q9
    refine g_getI hW hT.1 mr22 kX11 fX11_200 dX11_name_18 ?_
    refine z_bipush (v := Int32.ofInt (-2)) dX11_name_21 (by decide) ?_
    refine i_iadd dX11_name_23 ?_
    refine z_iload dX11_name_24 rfl ?_
    refine i_isub dX11_name_26 ?_
    obtain ⟨q11, hw⟩ := hw
    refine g_putI hJ hW hT.1 mr22 kX11 fX11_200 dX11_name_27 rfl rfl rfl q11 (fun cs hW => ?_)
    obtain ⟨S10, hS10⟩ : ∃ x, x = pI S3 54 22 (((S3.1 54 22 + (-2)) - r2)) := ⟨_, rfl⟩
    rw [← hS10] at hW
    have hw := hw S10 hS10
    refine z_aload_n dX11_name_30 rfl rfl ?_
    refine z_iconst (v := Int32.ofInt 1) dX11_name_31 rfl ?_
    refine g_putI hJ hW hT.1 mr23 kX11 fX11_196 dX11_name_32 rfl (nar01 (by decide)) (fit01 (by decide)) ⟨by decide, by decide⟩ (fun cs hW => ?_)
    obtain ⟨S12, hS12⟩ : ∃ x, x = pI S10 54 23 (1) := ⟨_, rfl⟩
    rw [← hS12] at hW
    have hw := hw S12 hS12
    exact z_return dX11_name_35 rfl (hP 0 _ _ hw hW)

def wX11_field_295 (l3 s0 s1 : Int) (S : St) (K : Int → St → Prop) : Prop := ((0 : Int) ≤ s1 ∧ s1 < (24 : Int) ∧ (iv 0 1 (s0) ∧ (∀ S2, S2 = pA S 66 (s1) (s0) → ((0 : Int) ≤ l3 ∧ l3 < (24 : Int) ∧ (iv 0 1 (S2.2 66 (l3)) → ((S2.2 66 (l3) = 0 → (iv 0 3000 (S2.1 54 22) → (∀ S8, S8 = pI S2 54 22 (S2.1 54 22) → K 0 S8))) ∧ ((¬ (S2.2 66 (l3) = 0)) → (iv 0 3000 (S2.1 54 22) → (iv 0 3000 ((S2.1 54 22 + 1)) ∧ (∀ S10, S10 = pI S2 54 22 ((S2.1 54 22 + 1)) → K 0 S10))))))))))
set_option maxRecDepth 100000 in
set_option maxHeartbeats 4000000 in
theorem bX11_field_295 {G : xG} {sh : Nat → Option Sh} {J : St → List va_E → Prop} {d : Nat} {Post : xP} {l3 s0 s1 : Int} {S : St} {cs : List va_E} {K : Int → St → Prop} (hd : 3 ≤ d) (hJ : Stb sh J) (hT : isM sh) (hW : Wd G sh mT J S cs) (hP : ∀ (v : Int) (S : St) (cs : List va_E), K v S → Wd G sh mT J S cs → Post (none) cs)  (hw : wX11_field_295 l3 s0 s1 S K ) : Z (RX11, cX11_field, 7, none, false) G d Post 295 [(0, .ref (G.1 + 54)), (3, .int (Int32.ofInt (l3)))] [.int (Int32.ofInt (s0)), .int (Int32.ofInt (s1)), .ref (G.1 + 66)] cs := by
  unfold wX11_field_295 at hw
  obtain ⟨q1a, q1b, hw⟩ := hw
  obtain ⟨q3, hw⟩ := hw
  refine g_zast hJ hW (ma66 hT) q1a q1b (by decide) (b01 q3) q3 dX11_field_295 (fun cs hW => ?_)
  obtain ⟨S2, hS2⟩ : ∃ x, x = pA S 66 (s1) (s0) := ⟨_, rfl⟩
  rw [← hS2] at hW
  have hw := hw S2 hS2
  refine z_aload_n dX11_field_296 rfl rfl ?_
  refine z_aload_n dX11_field_297 rfl rfl ?_
  refine g_getR hW hT.1 mr13 kX11 fX11_44 dX11_field_298 ?_
  refine z_iload_n dX11_field_301 rfl rfl ?_
  obtain ⟨q4a, q4b, hw⟩ := hw
  have q5 : iv 0 1 (S2.2 66 (l3)) := mA66 hW _
  have hw := hw q5
  refine g_zald hW (ma66 hT) q4a q4b (by decide) dX11_field_302 ?_
  refine i_if_eq (tgt := 315) dX11_field_303 (by decide) (rngq q5 (by decide) (by decide)) (fun h6 => ?_) (fun h6 => ?_)
  · have hw := hw.1 h6
    refine z_aload_n dX11_field_315 rfl rfl ?_
    have q7 : iv 0 3000 (S2.1 54 22) := mI22 hW
    have hw := hw q7
    refine g_getI hW hT.1 mr22 kX11 fX11_200 dX11_field_316 ?_
    refine g_putI hJ hW hT.1 mr22 kX11 fX11_200 dX11_field_319 rfl rfl rfl q7 (fun cs hW => ?_)
    obtain ⟨S8, hS8⟩ : ∃ x, x = pI S2 54 22 (S2.1 54 22) := ⟨_, rfl⟩
    rw [← hS8] at hW
    have hw := hw S8 hS8
    exact z_return dX11_field_322 rfl (hP 0 _ _ hw hW)
  · have hw := hw.2 h6
    refine z_aload_n dX11_field_306 rfl rfl ?_
    have q9 : iv 0 3000 (S2.1 54 22) := mI22 hW
    have hw := hw q9
    refine g_getI hW hT.1 mr22 kX11 fX11_200 dX11_field_307 ?_
    refine z_iconst (v := Int32.ofInt 1) dX11_field_310 rfl ?_
    refine i_iadd dX11_field_311 ?_
    refine z_goto (tgt := 319) dX11_field_312 (by decide) ?_
    obtain ⟨q11, hw⟩ := hw
    refine g_putI hJ hW hT.1 mr22 kX11 fX11_200 dX11_field_319 rfl rfl rfl q11 (fun cs hW => ?_)
    obtain ⟨S10, hS10⟩ : ∃ x, x = pI S2 54 22 ((S2.1 54 22 + 1)) := ⟨_, rfl⟩
    rw [← hS10] at hW
    have hw := hw S10 hS10
    exact z_return dX11_field_322 rfl (hP 0 _ _ hw hW)
def wX11_field_294 (l3 s0 : Int) (S : St) (K : Int → St → Prop) : Prop := wX11_field_295 (l3) (0) (s0) S K
set_option maxRecDepth 100000 in
set_option maxHeartbeats 4000000 in
theorem bX11_field_294 {G : xG} {sh : Nat → Option Sh} {J : St → List va_E → Prop} {d : Nat} {Post : xP} {l3 s0 : Int} {S : St} {cs : List va_E} {K : Int → St → Prop} (hd : 3 ≤ d) (hJ : Stb sh J) (hT : isM sh) (hW : Wd G sh mT J S cs) (hP : ∀ (v : Int) (S : St) (cs : List va_E), K v S → Wd G sh mT J S cs → Post (none) cs)  (hw : wX11_field_294 l3 s0 S K ) : Z (RX11, cX11_field, 7, none, false) G d Post 294 [(0, .ref (G.1 + 54)), (3, .int (Int32.ofInt (l3)))] [.int (Int32.ofInt (s0)), .ref (G.1 + 66)] cs := by
  unfold wX11_field_294 at hw
  refine z_iconst (v := Int32.ofInt 0) dX11_field_294 rfl ?_
  refine z_loc (L' := [(0, .ref (G.1 + 54)), (3, .int (Int32.ofInt (l3)))]) (List.forall_mem_cons.mpr ⟨rfl, (List.forall_mem_cons.mpr ⟨rfl, (fun _ h => nomatch h)⟩)⟩) ?_
  exact bX11_field_295 hd hJ hT hW hP  hw
def wX11_field_290 (l3 s0 : Int) (S : St) (K : Int → St → Prop) : Prop := wX11_field_295 (l3) (1) (s0) S K
set_option maxRecDepth 100000 in
set_option maxHeartbeats 4000000 in
theorem bX11_field_290 {G : xG} {sh : Nat → Option Sh} {J : St → List va_E → Prop} {d : Nat} {Post : xP} {l3 s0 : Int} {S : St} {cs : List va_E} {K : Int → St → Prop} (hd : 3 ≤ d) (hJ : Stb sh J) (hT : isM sh) (hW : Wd G sh mT J S cs) (hP : ∀ (v : Int) (S : St) (cs : List va_E), K v S → Wd G sh mT J S cs → Post (none) cs)  (hw : wX11_field_290 l3 s0 S K ) : Z (RX11, cX11_field, 7, none, false) G d Post 290 [(0, .ref (G.1 + 54)), (3, .int (Int32.ofInt (l3)))] [.int (Int32.ofInt (s0)), .ref (G.1 + 66)] cs := by
  unfold wX11_field_290 at hw
  refine z_iconst (v := Int32.ofInt 1) dX11_field_290 rfl ?_
  refine z_goto (tgt := 295) dX11_field_291 (by decide) ?_
  refine z_loc (L' := [(0, .ref (G.1 + 54)), (3, .int (Int32.ofInt (l3)))]) (List.forall_mem_cons.mpr ⟨rfl, (List.forall_mem_cons.mpr ⟨rfl, (fun _ h => nomatch h)⟩)⟩) ?_
  exact bX11_field_295 hd hJ hT hW hP  hw
def wX11_field_268 (l3 l4 l5 s0 : Int) (S : St) (K : Int → St → Prop) : Prop := (rng (l4) ∧ ((¬ l4 = 42 → wX11_field_294 (l3) (s0) S K) ∧ ((¬ (¬ l4 = 42)) → ((0 : Int) ≤ l3 ∧ l3 < (24 : Int) ∧ (iv 0 3 (S.2 65 (l3)) → ((¬ S.2 65 (l3) = 3 → wX11_field_294 (l3) (s0) S K) ∧ ((¬ (¬ S.2 65 (l3) = 3)) → (rng (l5) ∧ ((¬ l5 = 0 → wX11_field_294 (l3) (s0) S K) ∧ ((¬ (¬ l5 = 0)) → wX11_field_290 (l3) (s0) S K))))))))))
set_option maxRecDepth 100000 in
set_option maxHeartbeats 4000000 in
theorem bX11_field_268 {G : xG} {sh : Nat → Option Sh} {J : St → List va_E → Prop} {d : Nat} {Post : xP} {l3 l4 l5 s0 : Int} {S : St} {cs : List va_E} {K : Int → St → Prop} (hd : 3 ≤ d) (hJ : Stb sh J) (hT : isM sh) (hW : Wd G sh mT J S cs) (hP : ∀ (v : Int) (S : St) (cs : List va_E), K v S → Wd G sh mT J S cs → Post (none) cs)  (hw : wX11_field_268 l3 l4 l5 s0 S K ) : Z (RX11, cX11_field, 7, none, false) G d Post 268 [(0, .ref (G.1 + 54)), (3, .int (Int32.ofInt (l3))), (4, .int (Int32.ofInt (l4))), (5, .int (Int32.ofInt (l5)))] [.int (Int32.ofInt (s0)), .ref (G.1 + 66)] cs := by
  unfold wX11_field_268 at hw
  refine z_iload dX11_field_268 rfl ?_
  refine z_bipush (v := Int32.ofInt 42) dX11_field_270 (by decide) ?_
  obtain ⟨q2, hw⟩ := hw
  refine i_icmp_ne (tgt := 294) dX11_field_272 (by decide) q2 ⟨by decide, by decide⟩ (fun h1 => ?_) (fun h1 => ?_)
  · have hw := hw.1 h1
    refine z_loc (L' := [(0, .ref (G.1 + 54)), (3, .int (Int32.ofInt (l3)))]) (List.forall_mem_cons.mpr ⟨rfl, (List.forall_mem_cons.mpr ⟨rfl, (fun _ h => nomatch h)⟩)⟩) ?_
    exact bX11_field_294 hd hJ hT hW hP  hw
  · have hw := hw.2 h1
    refine z_aload_n dX11_field_275 rfl rfl ?_
    refine g_getR hW hT.1 mr12 kX11 fX11_41 dX11_field_276 ?_
    refine z_iload_n dX11_field_279 rfl rfl ?_
    obtain ⟨q3a, q3b, hw⟩ := hw
    have q4 : iv 0 3 (S.2 65 (l3)) := mA65 hW _
    have hw := hw q4
    refine g_iald hW (ma65 hT) q3a q3b (by decide) dX11_field_280 ?_
    refine z_iconst (v := Int32.ofInt 3) dX11_field_281 rfl ?_
    refine i_icmp_ne (tgt := 294) dX11_field_282 (by decide) (rngq q4 (by decide) (by decide)) ⟨by decide, by decide⟩ (fun h5 => ?_) (fun h5 => ?_)
    · have hw := hw.1 h5
      refine z_loc (L' := [(0, .ref (G.1 + 54)), (3, .int (Int32.ofInt (l3)))]) (List.forall_mem_cons.mpr ⟨rfl, (List.forall_mem_cons.mpr ⟨rfl, (fun _ h => nomatch h)⟩)⟩) ?_
      exact bX11_field_294 hd hJ hT hW hP  hw
    · have hw := hw.2 h5
      refine z_iload dX11_field_285 rfl ?_
      obtain ⟨q7, hw⟩ := hw
      refine i_if_ne (tgt := 294) dX11_field_287 (by decide) q7 (fun h6 => ?_) (fun h6 => ?_)
      · have hw := hw.1 h6
        refine z_loc (L' := [(0, .ref (G.1 + 54)), (3, .int (Int32.ofInt (l3)))]) (List.forall_mem_cons.mpr ⟨rfl, (List.forall_mem_cons.mpr ⟨rfl, (fun _ h => nomatch h)⟩)⟩) ?_
        exact bX11_field_294 hd hJ hT hW hP  hw
      · have hw := hw.2 h6
        refine z_loc (L' := [(0, .ref (G.1 + 54)), (3, .int (Int32.ofInt (l3)))]) (List.forall_mem_cons.mpr ⟨rfl, (List.forall_mem_cons.mpr ⟨rfl, (fun _ h => nomatch h)⟩)⟩) ?_
        exact bX11_field_290 hd hJ hT hW hP  hw
def wX11_field_238 (l3 l4 l6 s0 : Int) (S : St) (K : Int → St → Prop) (B201 : Int → Int → Int → Int → St → Prop) : Prop := B201 (l3) (l4) (s0) ((l6 + 1)) S
set_option maxRecDepth 100000 in
set_option maxHeartbeats 4000000 in
theorem bX11_field_238 {G : xG} {sh : Nat → Option Sh} {J : St → List va_E → Prop} {d : Nat} {Post : xP} {l3 l4 l6 s0 : Int} {S : St} {cs : List va_E} {K : Int → St → Prop} {B201 : Int → Int → Int → Int → St → Prop} (hd : 3 ≤ d) (hJ : Stb sh J) (hT : isM sh) (hW : Wd G sh mT J S cs) (hP : ∀ (v : Int) (S : St) (cs : List va_E), K v S → Wd G sh mT J S cs → Post (none) cs) (hB201 : ∀ (l3 : Int) (l4 : Int) (l5 : Int) (l6 : Int) (S : St) (cs : List va_E), B201 l3 l4 l5 l6 S → Wd G sh mT J S cs → Z (RX11, cX11_field, 7, none, false) G d Post 201 [(0, .ref (G.1 + 54)), (3, .int (Int32.ofInt (l3))), (4, .int (Int32.ofInt (l4))), (5, .int (Int32.ofInt (l5))), (6, .int (Int32.ofInt (l6)))] [] cs) (hw : wX11_field_238 l3 l4 l6 s0 S K B201) : Z (RX11, cX11_field, 7, none, false) G d Post 238 [(0, .ref (G.1 + 54)), (3, .int (Int32.ofInt (l3))), (4, .int (Int32.ofInt (l4))), (6, .int (Int32.ofInt (l6)))] [.int (Int32.ofInt (s0))] cs := by
  unfold wX11_field_238 at hw
  refine z_istore dX11_field_238 (by decide) ?_
  refine z_loc (L' := [(0, .ref (G.1 + 54)), (3, .int (Int32.ofInt (l3))), (4, .int (Int32.ofInt (l4))), (5, .int (Int32.ofInt (s0))), (6, .int (Int32.ofInt (l6)))]) (List.forall_mem_cons.mpr ⟨rfl, (List.forall_mem_cons.mpr ⟨rfl, (List.forall_mem_cons.mpr ⟨rfl, (List.forall_mem_cons.mpr ⟨rfl, (List.forall_mem_cons.mpr ⟨rfl, (fun _ h => nomatch h)⟩)⟩)⟩)⟩)⟩) ?_
  refine i_iinc (l := l6) dX11_field_240 rfl (by decide) ?_
  refine z_loc (L' := [(0, .ref (G.1 + 54)), (3, .int (Int32.ofInt (l3))), (4, .int (Int32.ofInt (l4))), (5, .int (Int32.ofInt (s0))), (6, .int (Int32.ofInt ((l6 + 1))))]) (List.forall_mem_cons.mpr ⟨rfl, (List.forall_mem_cons.mpr ⟨rfl, (List.forall_mem_cons.mpr ⟨rfl, (List.forall_mem_cons.mpr ⟨rfl, (List.forall_mem_cons.mpr ⟨rfl, (fun _ h => nomatch h)⟩)⟩)⟩)⟩)⟩) ?_
  refine z_goto (tgt := 201) dX11_field_243 (by decide) ?_
  refine z_loc (L' := [(0, .ref (G.1 + 54)), (3, .int (Int32.ofInt (l3))), (4, .int (Int32.ofInt (l4))), (5, .int (Int32.ofInt (s0))), (6, .int (Int32.ofInt ((l6 + 1))))]) (List.forall_mem_cons.mpr ⟨rfl, (List.forall_mem_cons.mpr ⟨rfl, (List.forall_mem_cons.mpr ⟨rfl, (List.forall_mem_cons.mpr ⟨rfl, (List.forall_mem_cons.mpr ⟨rfl, (fun _ h => nomatch h)⟩)⟩)⟩)⟩)⟩) ?_
  exact hB201 _ _ _ _ _ _ hw hW
def wX11_field_233 (l3 l4 l6 : Int) (S : St) (K : Int → St → Prop) (B201 : Int → Int → Int → Int → St → Prop) : Prop := wX11_field_238 (l3) (l4) (l6) (1) S K B201
set_option maxRecDepth 100000 in
set_option maxHeartbeats 4000000 in
theorem bX11_field_233 {G : xG} {sh : Nat → Option Sh} {J : St → List va_E → Prop} {d : Nat} {Post : xP} {l3 l4 l6 : Int} {S : St} {cs : List va_E} {K : Int → St → Prop} {B201 : Int → Int → Int → Int → St → Prop} (hd : 3 ≤ d) (hJ : Stb sh J) (hT : isM sh) (hW : Wd G sh mT J S cs) (hP : ∀ (v : Int) (S : St) (cs : List va_E), K v S → Wd G sh mT J S cs → Post (none) cs) (hB201 : ∀ (l3 : Int) (l4 : Int) (l5 : Int) (l6 : Int) (S : St) (cs : List va_E), B201 l3 l4 l5 l6 S → Wd G sh mT J S cs → Z (RX11, cX11_field, 7, none, false) G d Post 201 [(0, .ref (G.1 + 54)), (3, .int (Int32.ofInt (l3))), (4, .int (Int32.ofInt (l4))), (5, .int (Int32.ofInt (l5))), (6, .int (Int32.ofInt (l6)))] [] cs) (hw : wX11_field_233 l3 l4 l6 S K B201) : Z (RX11, cX11_field, 7, none, false) G d Post 233 [(0, .ref (G.1 + 54)), (3, .int (Int32.ofInt (l3))), (4, .int (Int32.ofInt (l4))), (6, .int (Int32.ofInt (l6)))] [] cs := by
  unfold wX11_field_233 at hw
  refine z_iconst (v := Int32.ofInt 1) dX11_field_233 rfl ?_
  refine z_goto (tgt := 238) dX11_field_234 (by decide) ?_
  refine z_loc (L' := [(0, .ref (G.1 + 54)), (3, .int (Int32.ofInt (l3))), (4, .int (Int32.ofInt (l4))), (6, .int (Int32.ofInt (l6)))]) (List.forall_mem_cons.mpr ⟨rfl, (List.forall_mem_cons.mpr ⟨rfl, (List.forall_mem_cons.mpr ⟨rfl, (List.forall_mem_cons.mpr ⟨rfl, (fun _ h => nomatch h)⟩)⟩)⟩)⟩) ?_
  exact bX11_field_238 hd hJ hT hW hP hB201 hw
def wX11_field_237 (l3 l4 l6 : Int) (S : St) (K : Int → St → Prop) (B201 : Int → Int → Int → Int → St → Prop) : Prop := wX11_field_238 (l3) (l4) (l6) (0) S K B201
set_option maxRecDepth 100000 in
set_option maxHeartbeats 4000000 in
theorem bX11_field_237 {G : xG} {sh : Nat → Option Sh} {J : St → List va_E → Prop} {d : Nat} {Post : xP} {l3 l4 l6 : Int} {S : St} {cs : List va_E} {K : Int → St → Prop} {B201 : Int → Int → Int → Int → St → Prop} (hd : 3 ≤ d) (hJ : Stb sh J) (hT : isM sh) (hW : Wd G sh mT J S cs) (hP : ∀ (v : Int) (S : St) (cs : List va_E), K v S → Wd G sh mT J S cs → Post (none) cs) (hB201 : ∀ (l3 : Int) (l4 : Int) (l5 : Int) (l6 : Int) (S : St) (cs : List va_E), B201 l3 l4 l5 l6 S → Wd G sh mT J S cs → Z (RX11, cX11_field, 7, none, false) G d Post 201 [(0, .ref (G.1 + 54)), (3, .int (Int32.ofInt (l3))), (4, .int (Int32.ofInt (l4))), (5, .int (Int32.ofInt (l5))), (6, .int (Int32.ofInt (l6)))] [] cs) (hw : wX11_field_237 l3 l4 l6 S K B201) : Z (RX11, cX11_field, 7, none, false) G d Post 237 [(0, .ref (G.1 + 54)), (3, .int (Int32.ofInt (l3))), (4, .int (Int32.ofInt (l4))), (6, .int (Int32.ofInt (l6)))] [] cs := by
  unfold wX11_field_237 at hw
  refine z_iconst (v := Int32.ofInt 0) dX11_field_237 rfl ?_
  refine z_loc (L' := [(0, .ref (G.1 + 54)), (3, .int (Int32.ofInt (l3))), (4, .int (Int32.ofInt (l4))), (6, .int (Int32.ofInt (l6)))]) (List.forall_mem_cons.mpr ⟨rfl, (List.forall_mem_cons.mpr ⟨rfl, (List.forall_mem_cons.mpr ⟨rfl, (List.forall_mem_cons.mpr ⟨rfl, (fun _ h => nomatch h)⟩)⟩)⟩)⟩) ?_
  exact bX11_field_238 hd hJ hT hW hP hB201 hw
def wX11_field_201' (l3 l4 l5 l6 : Int) (S : St) (K : Int → St → Prop) (B201 : Int → Int → Int → Int → St → Prop) : Prop := (rng (l6) ∧ (rng (l3) ∧ ((l3 ≤ l6 → (rng (l4) ∧ ((¬ l4 = 64 → wX11_field_268 (l3) (l4) (l5) (l3) S K) ∧ ((¬ (¬ l4 = 64)) → ((0 : Int) ≤ l3 ∧ l3 < (24 : Int) ∧ (iv 0 3 (S.2 65 (l3)) → ((S.2 65 (l3) ≤ 1 → wX11_field_290 (l3) (l3) S K) ∧ ((¬ (S.2 65 (l3) ≤ 1)) → wX11_field_268 (l3) (l4) (l5) (l3) S K)))))))) ∧ ((¬ (l3 ≤ l6)) → (rng (l5) ∧ ((¬ l5 = 0 → wX11_field_233 (l3) (l4) (l6) S K B201) ∧ ((¬ (¬ l5 = 0)) → ((0 : Int) ≤ l6 ∧ l6 < (24 : Int) ∧ (iv 0 3 (S.2 65 (l6)) → ((¬ S.2 65 (l6) = 3 → wX11_field_237 (l3) (l4) (l6) S K B201) ∧ ((¬ (¬ S.2 65 (l6) = 3)) → ((0 : Int) ≤ l6 ∧ l6 < (24 : Int) ∧ (iv 0 1 (S.2 66 (l6)) → ((S.2 66 (l6) = 0 → wX11_field_237 (l3) (l4) (l6) S K B201) ∧ ((¬ (S.2 66 (l6) = 0)) → wX11_field_233 (l3) (l4) (l6) S K B201)))))))))))))))
set_option maxRecDepth 100000 in
set_option maxHeartbeats 4000000 in
theorem bX11_field_201' {G : xG} {sh : Nat → Option Sh} {J : St → List va_E → Prop} {d : Nat} {Post : xP} {l3 l4 l5 l6 : Int} {S : St} {cs : List va_E} {K : Int → St → Prop} {B201 : Int → Int → Int → Int → St → Prop} (hd : 3 ≤ d) (hJ : Stb sh J) (hT : isM sh) (hW : Wd G sh mT J S cs) (hP : ∀ (v : Int) (S : St) (cs : List va_E), K v S → Wd G sh mT J S cs → Post (none) cs) (hB201 : ∀ (l3 : Int) (l4 : Int) (l5 : Int) (l6 : Int) (S : St) (cs : List va_E), B201 l3 l4 l5 l6 S → Wd G sh mT J S cs → Z (RX11, cX11_field, 7, none, false) G d Post 201 [(0, .ref (G.1 + 54)), (3, .int (Int32.ofInt (l3))), (4, .int (Int32.ofInt (l4))), (5, .int (Int32.ofInt (l5))), (6, .int (Int32.ofInt (l6)))] [] cs) (hw : wX11_field_201' l3 l4 l5 l6 S K B201) : Z (RX11, cX11_field, 7, none, false) G d Post 201 [(0, .ref (G.1 + 54)), (3, .int (Int32.ofInt (l3))), (4, .int (Int32.ofInt (l4))), (5, .int (Int32.ofInt (l5))), (6, .int (Int32.ofInt (l6)))] [] cs := by
  unfold wX11_field_201' at hw
  refine z_iload dX11_field_201 rfl ?_
  refine z_iload_n dX11_field_203 rfl rfl ?_
  obtain ⟨q2, hw⟩ := hw
  obtain ⟨q3, hw⟩ := hw
  refine i_icmp_ge (tgt := 246) dX11_field_204 (by decide) q2 q3 (fun h1 => ?_) (fun h1 => ?_)
  · have hw := hw.1 h1
    refine z_aload_n dX11_field_246 rfl rfl ?_
    refine g_getR hW hT.1 mr13 kX11 fX11_44 dX11_field_247 ?_
    refine z_iload_n dX11_field_250 rfl rfl ?_
    refine z_iload dX11_field_251 rfl ?_
    refine z_bipush (v := Int32.ofInt 64) dX11_field_253 (by decide) ?_
    obtain ⟨q5, hw⟩ := hw
    refine i_icmp_ne (tgt := 268) dX11_field_255 (by decide) q5 ⟨by decide, by decide⟩ (fun h4 => ?_) (fun h4 => ?_)
    · have hw := hw.1 h4
      refine z_loc (L' := [(0, .ref (G.1 + 54)), (3, .int (Int32.ofInt (l3))), (4, .int (Int32.ofInt (l4))), (5, .int (Int32.ofInt (l5)))]) (List.forall_mem_cons.mpr ⟨rfl, (List.forall_mem_cons.mpr ⟨rfl, (List.forall_mem_cons.mpr ⟨rfl, (List.forall_mem_cons.mpr ⟨rfl, (fun _ h => nomatch h)⟩)⟩)⟩)⟩) ?_
      exact bX11_field_268 hd hJ hT hW hP  hw
    · have hw := hw.2 h4
      refine z_aload_n dX11_field_258 rfl rfl ?_
      refine g_getR hW hT.1 mr12 kX11 fX11_41 dX11_field_259 ?_
      refine z_iload_n dX11_field_262 rfl rfl ?_
      obtain ⟨q6a, q6b, hw⟩ := hw
      have q7 : iv 0 3 (S.2 65 (l3)) := mA65 hW _
      have hw := hw q7
      refine g_iald hW (ma65 hT) q6a q6b (by decide) dX11_field_263 ?_
      refine z_iconst (v := Int32.ofInt 1) dX11_field_264 rfl ?_
      refine i_icmp_le (tgt := 290) dX11_field_265 (by decide) (rngq q7 (by decide) (by decide)) ⟨by decide, by decide⟩ (fun h8 => ?_) (fun h8 => ?_)
      · have hw := hw.1 h8
        refine z_loc (L' := [(0, .ref (G.1 + 54)), (3, .int (Int32.ofInt (l3)))]) (List.forall_mem_cons.mpr ⟨rfl, (List.forall_mem_cons.mpr ⟨rfl, (fun _ h => nomatch h)⟩)⟩) ?_
        exact bX11_field_290 hd hJ hT hW hP  hw
      · have hw := hw.2 h8
        refine z_loc (L' := [(0, .ref (G.1 + 54)), (3, .int (Int32.ofInt (l3))), (4, .int (Int32.ofInt (l4))), (5, .int (Int32.ofInt (l5)))]) (List.forall_mem_cons.mpr ⟨rfl, (List.forall_mem_cons.mpr ⟨rfl, (List.forall_mem_cons.mpr ⟨rfl, (List.forall_mem_cons.mpr ⟨rfl, (fun _ h => nomatch h)⟩)⟩)⟩)⟩) ?_
        exact bX11_field_268 hd hJ hT hW hP  hw
  · have hw := hw.2 h1
    refine z_iload dX11_field_207 rfl ?_
    obtain ⟨q10, hw⟩ := hw
    refine i_if_ne (tgt := 233) dX11_field_209 (by decide) q10 (fun h9 => ?_) (fun h9 => ?_)
    · have hw := hw.1 h9
      refine z_loc (L' := [(0, .ref (G.1 + 54)), (3, .int (Int32.ofInt (l3))), (4, .int (Int32.ofInt (l4))), (6, .int (Int32.ofInt (l6)))]) (List.forall_mem_cons.mpr ⟨rfl, (List.forall_mem_cons.mpr ⟨rfl, (List.forall_mem_cons.mpr ⟨rfl, (List.forall_mem_cons.mpr ⟨rfl, (fun _ h => nomatch h)⟩)⟩)⟩)⟩) ?_
      exact bX11_field_233 hd hJ hT hW hP hB201 hw
    · have hw := hw.2 h9
      refine z_aload_n dX11_field_212 rfl rfl ?_
      refine g_getR hW hT.1 mr12 kX11 fX11_41 dX11_field_213 ?_
      refine z_iload dX11_field_216 rfl ?_
      obtain ⟨q11a, q11b, hw⟩ := hw
      have q12 : iv 0 3 (S.2 65 (l6)) := mA65 hW _
      have hw := hw q12
      refine g_iald hW (ma65 hT) q11a q11b (by decide) dX11_field_218 ?_
      refine z_iconst (v := Int32.ofInt 3) dX11_field_219 rfl ?_
      refine i_icmp_ne (tgt := 237) dX11_field_220 (by decide) (rngq q12 (by decide) (by decide)) ⟨by decide, by decide⟩ (fun h13 => ?_) (fun h13 => ?_)
      · have hw := hw.1 h13
        refine z_loc (L' := [(0, .ref (G.1 + 54)), (3, .int (Int32.ofInt (l3))), (4, .int (Int32.ofInt (l4))), (6, .int (Int32.ofInt (l6)))]) (List.forall_mem_cons.mpr ⟨rfl, (List.forall_mem_cons.mpr ⟨rfl, (List.forall_mem_cons.mpr ⟨rfl, (List.forall_mem_cons.mpr ⟨rfl, (fun _ h => nomatch h)⟩)⟩)⟩)⟩) ?_
        exact bX11_field_237 hd hJ hT hW hP hB201 hw
      · have hw := hw.2 h13
        refine z_aload_n dX11_field_223 rfl rfl ?_
        refine g_getR hW hT.1 mr13 kX11 fX11_44 dX11_field_224 ?_
        refine z_iload dX11_field_227 rfl ?_
        obtain ⟨q14a, q14b, hw⟩ := hw
        have q15 : iv 0 1 (S.2 66 (l6)) := mA66 hW _
        have hw := hw q15
        refine g_zald hW (ma66 hT) q14a q14b (by decide) dX11_field_229 ?_
        refine i_if_eq (tgt := 237) dX11_field_230 (by decide) (rngq q15 (by decide) (by decide)) (fun h16 => ?_) (fun h16 => ?_)
        · have hw := hw.1 h16
          refine z_loc (L' := [(0, .ref (G.1 + 54)), (3, .int (Int32.ofInt (l3))), (4, .int (Int32.ofInt (l4))), (6, .int (Int32.ofInt (l6)))]) (List.forall_mem_cons.mpr ⟨rfl, (List.forall_mem_cons.mpr ⟨rfl, (List.forall_mem_cons.mpr ⟨rfl, (List.forall_mem_cons.mpr ⟨rfl, (fun _ h => nomatch h)⟩)⟩)⟩)⟩) ?_
          exact bX11_field_237 hd hJ hT hW hP hB201 hw
        · have hw := hw.2 h16
          refine z_loc (L' := [(0, .ref (G.1 + 54)), (3, .int (Int32.ofInt (l3))), (4, .int (Int32.ofInt (l4))), (6, .int (Int32.ofInt (l6)))]) (List.forall_mem_cons.mpr ⟨rfl, (List.forall_mem_cons.mpr ⟨rfl, (List.forall_mem_cons.mpr ⟨rfl, (List.forall_mem_cons.mpr ⟨rfl, (fun _ h => nomatch h)⟩)⟩)⟩)⟩) ?_
          exact bX11_field_233 hd hJ hT hW hP hB201 hw
def wX11_field_201 (l3 l4 l5 l6 : Int) (S : St) (K : Int → St → Prop) : Prop := ∃ (Iv : Int → Int → Int → Int → St → Prop) (mu : Int → Int → Int → Int → St → Nat), Iv l3 l4 l5 l6 S ∧ ∀ (l3 l4 l5 l6 : Int) (S : St), Iv l3 l4 l5 l6 S → wX11_field_201' l3 l4 l5 l6 S K  (fun ml3 ml4 ml5 ml6 T => Iv ml3 ml4 ml5 ml6 T ∧ mu ml3 ml4 ml5 ml6 T < mu l3 l4 l5 l6 S)
set_option maxRecDepth 100000 in
set_option maxHeartbeats 4000000 in
theorem bX11_field_201 {G : xG} {sh : Nat → Option Sh} {J : St → List va_E → Prop} {d : Nat} {Post : xP} {l3 l4 l5 l6 : Int} {S : St} {cs : List va_E} {K : Int → St → Prop} (hd : 3 ≤ d) (hJ : Stb sh J) (hT : isM sh) (hW : Wd G sh mT J S cs) (hP : ∀ (v : Int) (S : St) (cs : List va_E), K v S → Wd G sh mT J S cs → Post (none) cs)  (hw : wX11_field_201 l3 l4 l5 l6 S K ) : Z (RX11, cX11_field, 7, none, false) G d Post 201 [(0, .ref (G.1 + 54)), (3, .int (Int32.ofInt (l3))), (4, .int (Int32.ofInt (l4))), (5, .int (Int32.ofInt (l5))), (6, .int (Int32.ofInt (l6)))] [] cs := by
  unfold wX11_field_201 at hw
  obtain ⟨Iv, mu, h0, hs⟩ := hw
  have key : ∀ (n : Nat) (l3 l4 l5 l6 : Int) (S : St) (cs : List va_E), mu l3 l4 l5 l6 S < n → Iv l3 l4 l5 l6 S → Wd G sh mT J S cs → Z (RX11, cX11_field, 7, none, false) G d Post 201 [(0, .ref (G.1 + 54)), (3, .int (Int32.ofInt (l3))), (4, .int (Int32.ofInt (l4))), (5, .int (Int32.ofInt (l5))), (6, .int (Int32.ofInt (l6)))] [] cs := by
    intro n
    induction n with
    | zero => intro l3 l4 l5 l6 S cs hn; exact absurd hn (Nat.not_lt_zero _)
    | succ n ih =>
      intro l3 l4 l5 l6 S cs hn hI hW
      exact bX11_field_201' hd hJ hT hW hP  (fun l3 l4 l5 l6 S cs hb hW => ih l3 l4 l5 l6 S cs (Nat.lt_of_lt_of_le hb.2 (Nat.le_of_lt_succ hn)) hb.1 hW) (hs l3 l4 l5 l6 S hI)
  exact key _ _ _ _ _ _ _ (Nat.lt_succ_self _) h0 hW
def wX11_field_162 (l1 l3 s0 : Int) (S : St) (K : Int → St → Prop) : Prop := (rng (s0) ∧ (wX11_want (s0) S (fun r2 S3 => (iv 0 1 (S3.1 54 23) → ((S3.1 54 23 = 0 → (iv 0 3000 (S3.1 54 22) → (iv 0 3000 ((S3.1 54 22 + 1)) ∧ (∀ S7, S7 = pI S3 54 22 ((S3.1 54 22 + 1)) → (iv 0 3000 (S7.1 54 22) → (wX11_signAt (S7.1 54 22) S7 (fun r10 S11 => (∀ x12 : Int, x12 = (4 * l1) → wX11_field_201 (l3) (r10) (0) (x12) S11 K)))))))) ∧ ((¬ (S3.1 54 23 = 0)) → K 0 S3))))))
set_option maxRecDepth 100000 in
set_option maxHeartbeats 4000000 in
theorem bX11_field_162 {G : xG} {sh : Nat → Option Sh} {J : St → List va_E → Prop} {d : Nat} {Post : xP} {l1 l3 s0 : Int} {S : St} {cs : List va_E} {K : Int → St → Prop} (hd : 3 ≤ d) (hJ : Stb sh J) (hT : isM sh) (hW : Wd G sh mT J S cs) (hP : ∀ (v : Int) (S : St) (cs : List va_E), K v S → Wd G sh mT J S cs → Post (none) cs)  (hw : wX11_field_162 l1 l3 s0 S K ) : Z (RX11, cX11_field, 7, none, false) G d Post 162 [(0, .ref (G.1 + 54)), (1, .int (Int32.ofInt (l1))), (3, .int (Int32.ofInt (l3)))] [.int (Int32.ofInt (s0)), .ref (G.1 + 54)] cs := by
  unfold wX11_field_162 at hw
  obtain ⟨q1, hw⟩ := hw
  have hX := lX11_want 0 (Nat.le_refl _) hJ hT hW q1 hw
  refine z_callV (As := [_]) eX11_want sX11_want lX11_213 rfl dX11_field_162 (hW.1 _ _ hT.1) hX (Nat.le_trans (by decide) hd) rfl (Nat.le_of_ble_eq_true rfl) (fun r cs hp => ?_)
  obtain ⟨r2, S3, rfl, hw, hW⟩ := hp
  refine z_st (st' := []) rfl ?_
  refine z_aload_n dX11_field_165 rfl rfl ?_
  have q4 : iv 0 1 (S3.1 54 23) := mI23 hW
  have hw := hw q4
  refine g_getI hW hT.1 mr23 kX11 fX11_196 dX11_field_166 ?_
  refine i_if_eq (tgt := 173) dX11_field_169 (by decide) (rngq q4 (by decide) (by decide)) (fun h5 => ?_) (fun h5 => ?_)
  · have hw := hw.1 h5
    refine z_aload_n dX11_field_173 rfl rfl ?_
    refine z_dup dX11_field_174 rfl ?_
    have q6 : iv 0 3000 (S3.1 54 22) := mI22 hW
    have hw := hw q6
    refine g_getI hW hT.1 mr22 kX11 fX11_200 dX11_field_175 ?_
    refine z_iconst (v := Int32.ofInt 1) dX11_field_178 rfl ?_
    refine i_iadd dX11_field_179 ?_
    obtain ⟨q8, hw⟩ := hw
    refine g_putI hJ hW hT.1 mr22 kX11 fX11_200 dX11_field_180 rfl rfl rfl q8 (fun cs hW => ?_)
    obtain ⟨S7, hS7⟩ : ∃ x, x = pI S3 54 22 ((S3.1 54 22 + 1)) := ⟨_, rfl⟩
    rw [← hS7] at hW
    have hw := hw S7 hS7
    refine z_aload_n dX11_field_183 rfl rfl ?_
    refine z_aload_n dX11_field_184 rfl rfl ?_
    have q9 : iv 0 3000 (S7.1 54 22) := mI22 hW
    have hw := hw q9
    refine g_getI hW hT.1 mr22 kX11 fX11_200 dX11_field_185 ?_
    have hX := lX11_signAt 0 (Nat.le_refl _) hJ hT hW (rngq q9 (by decide) (by decide)) hw
    refine z_callV (As := [_]) eX11_signAt sX11_signAt lX11_182 rfl dX11_field_188 (hW.1 _ _ hT.1) hX (Nat.le_trans (by decide) hd) rfl (Nat.le_of_ble_eq_true rfl) (fun r cs hp => ?_)
    obtain ⟨r10, S11, rfl, hw, hW⟩ := hp
    refine z_st (st' := [.int (Int32.ofInt (r10))]) rfl ?_
    refine z_istore dX11_field_191 (by decide) ?_
    refine z_loc (L' := [(0, .ref (G.1 + 54)), (1, .int (Int32.ofInt (l1))), (3, .int (Int32.ofInt (l3))), (4, .int (Int32.ofInt (r10)))]) (List.forall_mem_cons.mpr ⟨rfl, (List.forall_mem_cons.mpr ⟨rfl, (List.forall_mem_cons.mpr ⟨rfl, (List.forall_mem_cons.mpr ⟨rfl, (fun _ h => nomatch h)⟩)⟩)⟩)⟩) ?_
    refine z_iconst (v := Int32.ofInt 0) dX11_field_193 rfl ?_
    refine z_istore dX11_field_194 (by decide) ?_
    refine z_loc (L' := [(0, .ref (G.1 + 54)), (1, .int (Int32.ofInt (l1))), (3, .int (Int32.ofInt (l3))), (4, .int (Int32.ofInt (r10))), (5, .int (Int32.ofInt (0)))]) (List.forall_mem_cons.mpr ⟨rfl, (List.forall_mem_cons.mpr ⟨rfl, (List.forall_mem_cons.mpr ⟨rfl, (List.forall_mem_cons.mpr ⟨rfl, (List.forall_mem_cons.mpr ⟨rfl, (fun _ h => nomatch h)⟩)⟩)⟩)⟩)⟩) ?_
    refine z_iconst (v := Int32.ofInt 4) dX11_field_196 rfl ?_
    refine z_iload_n dX11_field_197 rfl rfl ?_
    refine i_imul dX11_field_198 ?_
    obtain ⟨x12, hx12⟩ : ∃ x : Int, x = (4 * l1) := ⟨_, rfl⟩
    have hw := hw x12 hx12
    refine z_st (st' := [.int (Int32.ofInt x12)]) (by rw [hx12]) ?_
    refine z_istore dX11_field_199 (by decide) ?_
    refine z_loc (L' := [(0, .ref (G.1 + 54)), (1, .int (Int32.ofInt (l1))), (3, .int (Int32.ofInt (l3))), (4, .int (Int32.ofInt (r10))), (5, .int (Int32.ofInt (0))), (6, .int (Int32.ofInt (x12)))]) (List.forall_mem_cons.mpr ⟨rfl, (List.forall_mem_cons.mpr ⟨rfl, (List.forall_mem_cons.mpr ⟨rfl, (List.forall_mem_cons.mpr ⟨rfl, (List.forall_mem_cons.mpr ⟨rfl, (List.forall_mem_cons.mpr ⟨rfl, (fun _ h => nomatch h)⟩)⟩)⟩)⟩)⟩)⟩) ?_
    refine z_loc (L' := [(0, .ref (G.1 + 54)), (3, .int (Int32.ofInt (l3))), (4, .int (Int32.ofInt (r10))), (5, .int (Int32.ofInt (0))), (6, .int (Int32.ofInt (x12)))]) (List.forall_mem_cons.mpr ⟨rfl, (List.forall_mem_cons.mpr ⟨rfl, (List.forall_mem_cons.mpr ⟨rfl, (List.forall_mem_cons.mpr ⟨rfl, (List.forall_mem_cons.mpr ⟨rfl, (fun _ h => nomatch h)⟩)⟩)⟩)⟩)⟩) ?_
    exact bX11_field_201 hd hJ hT hW hP  hw
  · have hw := hw.2 h5
    exact z_return dX11_field_172 rfl (hP 0 _ _ hw hW)
def wX11_field_157 (l1 l3 : Int) (S : St) (K : Int → St → Prop) : Prop := wX11_field_162 (l1) (l3) (1) S K
set_option maxRecDepth 100000 in
set_option maxHeartbeats 4000000 in
theorem bX11_field_157 {G : xG} {sh : Nat → Option Sh} {J : St → List va_E → Prop} {d : Nat} {Post : xP} {l1 l3 : Int} {S : St} {cs : List va_E} {K : Int → St → Prop} (hd : 3 ≤ d) (hJ : Stb sh J) (hT : isM sh) (hW : Wd G sh mT J S cs) (hP : ∀ (v : Int) (S : St) (cs : List va_E), K v S → Wd G sh mT J S cs → Post (none) cs)  (hw : wX11_field_157 l1 l3 S K ) : Z (RX11, cX11_field, 7, none, false) G d Post 157 [(0, .ref (G.1 + 54)), (1, .int (Int32.ofInt (l1))), (3, .int (Int32.ofInt (l3)))] [.ref (G.1 + 54)] cs := by
  unfold wX11_field_157 at hw
  refine z_iconst (v := Int32.ofInt 1) dX11_field_157 rfl ?_
  refine z_goto (tgt := 162) dX11_field_158 (by decide) ?_
  refine z_loc (L' := [(0, .ref (G.1 + 54)), (1, .int (Int32.ofInt (l1))), (3, .int (Int32.ofInt (l3)))]) (List.forall_mem_cons.mpr ⟨rfl, (List.forall_mem_cons.mpr ⟨rfl, (List.forall_mem_cons.mpr ⟨rfl, (fun _ h => nomatch h)⟩)⟩)⟩) ?_
  exact bX11_field_162 hd hJ hT hW hP  hw
def wX11_field_127 (l1 l3 l4 s0 s1 : Int) (S : St) (K : Int → St → Prop) : Prop := ((0 : Int) ≤ s1 ∧ s1 < (24 : Int) ∧ (iv 0 3 (s0) ∧ (∀ S2, S2 = pA S 65 (s1) (s0) → (rng (l4) ∧ ((l4 = 105 → wX11_field_157 (l1) (l3) S2 K) ∧ ((¬ (l4 = 105)) → ((l4 = 116 → wX11_field_157 (l1) (l3) S2 K) ∧ ((¬ (l4 = 116)) → ((l4 = 114 → wX11_field_157 (l1) (l3) S2 K) ∧ ((¬ (l4 = 114)) → ((¬ l4 = 108 → wX11_field_162 (l1) (l3) (0) S2 K) ∧ ((¬ (¬ l4 = 108)) → wX11_field_157 (l1) (l3) S2 K))))))))))))
set_option maxRecDepth 100000 in
set_option maxHeartbeats 4000000 in
theorem bX11_field_127 {G : xG} {sh : Nat → Option Sh} {J : St → List va_E → Prop} {d : Nat} {Post : xP} {l1 l3 l4 s0 s1 : Int} {S : St} {cs : List va_E} {K : Int → St → Prop} (hd : 3 ≤ d) (hJ : Stb sh J) (hT : isM sh) (hW : Wd G sh mT J S cs) (hP : ∀ (v : Int) (S : St) (cs : List va_E), K v S → Wd G sh mT J S cs → Post (none) cs)  (hw : wX11_field_127 l1 l3 l4 s0 s1 S K ) : Z (RX11, cX11_field, 7, none, false) G d Post 127 [(0, .ref (G.1 + 54)), (1, .int (Int32.ofInt (l1))), (3, .int (Int32.ofInt (l3))), (4, .int (Int32.ofInt (l4)))] [.int (Int32.ofInt (s0)), .int (Int32.ofInt (s1)), .ref (G.1 + 65)] cs := by
  unfold wX11_field_127 at hw
  obtain ⟨q1a, q1b, hw⟩ := hw
  obtain ⟨q3, hw⟩ := hw
  refine g_iast hJ hW (ma65 hT) q1a q1b (by decide) q3 dX11_field_127 (fun cs hW => ?_)
  obtain ⟨S2, hS2⟩ : ∃ x, x = pA S 65 (s1) (s0) := ⟨_, rfl⟩
  rw [← hS2] at hW
  have hw := hw S2 hS2
  refine z_aload_n dX11_field_128 rfl rfl ?_
  refine z_iload dX11_field_129 rfl ?_
  refine z_bipush (v := Int32.ofInt 105) dX11_field_131 (by decide) ?_
  obtain ⟨q5, hw⟩ := hw
  refine i_icmp_eq (tgt := 157) dX11_field_133 (by decide) q5 ⟨by decide, by decide⟩ (fun h4 => ?_) (fun h4 => ?_)
  · have hw := hw.1 h4
    refine z_loc (L' := [(0, .ref (G.1 + 54)), (1, .int (Int32.ofInt (l1))), (3, .int (Int32.ofInt (l3)))]) (List.forall_mem_cons.mpr ⟨rfl, (List.forall_mem_cons.mpr ⟨rfl, (List.forall_mem_cons.mpr ⟨rfl, (fun _ h => nomatch h)⟩)⟩)⟩) ?_
    exact bX11_field_157 hd hJ hT hW hP  hw
  · have hw := hw.2 h4
    refine z_iload dX11_field_136 rfl ?_
    refine z_bipush (v := Int32.ofInt 116) dX11_field_138 (by decide) ?_
    refine i_icmp_eq (tgt := 157) dX11_field_140 (by decide) q5 ⟨by decide, by decide⟩ (fun h6 => ?_) (fun h6 => ?_)
    · have hw := hw.1 h6
      refine z_loc (L' := [(0, .ref (G.1 + 54)), (1, .int (Int32.ofInt (l1))), (3, .int (Int32.ofInt (l3)))]) (List.forall_mem_cons.mpr ⟨rfl, (List.forall_mem_cons.mpr ⟨rfl, (List.forall_mem_cons.mpr ⟨rfl, (fun _ h => nomatch h)⟩)⟩)⟩) ?_
      exact bX11_field_157 hd hJ hT hW hP  hw
    · have hw := hw.2 h6
      refine z_iload dX11_field_143 rfl ?_
      refine z_bipush (v := Int32.ofInt 114) dX11_field_145 (by decide) ?_
      refine i_icmp_eq (tgt := 157) dX11_field_147 (by decide) q5 ⟨by decide, by decide⟩ (fun h7 => ?_) (fun h7 => ?_)
      · have hw := hw.1 h7
        refine z_loc (L' := [(0, .ref (G.1 + 54)), (1, .int (Int32.ofInt (l1))), (3, .int (Int32.ofInt (l3)))]) (List.forall_mem_cons.mpr ⟨rfl, (List.forall_mem_cons.mpr ⟨rfl, (List.forall_mem_cons.mpr ⟨rfl, (fun _ h => nomatch h)⟩)⟩)⟩) ?_
        exact bX11_field_157 hd hJ hT hW hP  hw
      · have hw := hw.2 h7
        refine z_iload dX11_field_150 rfl ?_
        refine z_bipush (v := Int32.ofInt 108) dX11_field_152 (by decide) ?_
        refine i_icmp_ne (tgt := 161) dX11_field_154 (by decide) q5 ⟨by decide, by decide⟩ (fun h8 => ?_) (fun h8 => ?_)
        · have hw := hw.1 h8
          refine z_iconst (v := Int32.ofInt 0) dX11_field_161 rfl ?_
          refine z_loc (L' := [(0, .ref (G.1 + 54)), (1, .int (Int32.ofInt (l1))), (3, .int (Int32.ofInt (l3)))]) (List.forall_mem_cons.mpr ⟨rfl, (List.forall_mem_cons.mpr ⟨rfl, (List.forall_mem_cons.mpr ⟨rfl, (fun _ h => nomatch h)⟩)⟩)⟩) ?_
          exact bX11_field_162 hd hJ hT hW hP  hw
        · have hw := hw.2 h8
          refine z_loc (L' := [(0, .ref (G.1 + 54)), (1, .int (Int32.ofInt (l1))), (3, .int (Int32.ofInt (l3)))]) (List.forall_mem_cons.mpr ⟨rfl, (List.forall_mem_cons.mpr ⟨rfl, (List.forall_mem_cons.mpr ⟨rfl, (fun _ h => nomatch h)⟩)⟩)⟩) ?_
          exact bX11_field_157 hd hJ hT hW hP  hw
def wX11_field_69 (l1 l3 s0 : Int) (S : St) (K : Int → St → Prop) : Prop := (iv 0 1 (s0) ∧ (∀ S1, S1 = pI S 54 24 (s0) → (wX11_eat (58) S1 (fun r3 S4 => (iv 0 3000 (S4.1 54 22) → (wX11_signAt (S4.1 54 22) S4 (fun r6 S7 => (rng (r6) ∧ ((¬ r6 = 105 → ((¬ r6 = 116 → ((¬ r6 = 114 → wX11_field_127 (l1) (l3) (r6) (3) (l3) S7 K) ∧ ((¬ (¬ r6 = 114)) → wX11_field_127 (l1) (l3) (r6) (2) (l3) S7 K))) ∧ ((¬ (¬ r6 = 116)) → wX11_field_127 (l1) (l3) (r6) (1) (l3) S7 K))) ∧ ((¬ (¬ r6 = 105)) → wX11_field_127 (l1) (l3) (r6) (0) (l3) S7 K))))))))))
set_option maxRecDepth 100000 in
set_option maxHeartbeats 4000000 in
theorem bX11_field_69 {G : xG} {sh : Nat → Option Sh} {J : St → List va_E → Prop} {d : Nat} {Post : xP} {l1 l3 s0 : Int} {S : St} {cs : List va_E} {K : Int → St → Prop} (hd : 3 ≤ d) (hJ : Stb sh J) (hT : isM sh) (hW : Wd G sh mT J S cs) (hP : ∀ (v : Int) (S : St) (cs : List va_E), K v S → Wd G sh mT J S cs → Post (none) cs)  (hw : wX11_field_69 l1 l3 s0 S K ) : Z (RX11, cX11_field, 7, none, false) G d Post 69 [(0, .ref (G.1 + 54)), (1, .int (Int32.ofInt (l1))), (3, .int (Int32.ofInt (l3)))] [.int (Int32.ofInt (s0)), .ref (G.1 + 54)] cs := by
  unfold wX11_field_69 at hw
  obtain ⟨q2, hw⟩ := hw
  refine g_putI hJ hW hT.1 mr24 kX11 fX11_210 dX11_field_69 rfl (nar01 (b01 q2)) (fit01 (b01 q2)) q2 (fun cs hW => ?_)
  obtain ⟨S1, hS1⟩ : ∃ x, x = pI S 54 24 (s0) := ⟨_, rfl⟩
  rw [← hS1] at hW
  have hw := hw S1 hS1
  refine z_aload_n dX11_field_72 rfl rfl ?_
  refine z_bipush (v := Int32.ofInt 58) dX11_field_73 (by decide) ?_
  have hX := lX11_eat 1 (Nat.le_refl _) hJ hT hW ⟨by decide, by decide⟩ hw
  refine z_callV (As := [_]) eX11_eat sX11_eat lX11_224 rfl dX11_field_75 (hW.1 _ _ hT.1) hX (Nat.le_trans (by decide) hd) rfl (Nat.le_of_ble_eq_true rfl) (fun r cs hp => ?_)
  obtain ⟨r3, S4, rfl, hw, hW⟩ := hp
  refine z_st (st' := []) rfl ?_
  refine z_aload_n dX11_field_78 rfl rfl ?_
  refine z_aload_n dX11_field_79 rfl rfl ?_
  have q5 : iv 0 3000 (S4.1 54 22) := mI22 hW
  have hw := hw q5
  refine g_getI hW hT.1 mr22 kX11 fX11_200 dX11_field_80 ?_
  have hX := lX11_signAt 0 (Nat.le_refl _) hJ hT hW (rngq q5 (by decide) (by decide)) hw
  refine z_callV (As := [_]) eX11_signAt sX11_signAt lX11_182 rfl dX11_field_83 (hW.1 _ _ hT.1) hX (Nat.le_trans (by decide) hd) rfl (Nat.le_of_ble_eq_true rfl) (fun r cs hp => ?_)
  obtain ⟨r6, S7, rfl, hw, hW⟩ := hp
  refine z_st (st' := [.int (Int32.ofInt (r6))]) rfl ?_
  refine z_istore dX11_field_86 (by decide) ?_
  refine z_loc (L' := [(0, .ref (G.1 + 54)), (1, .int (Int32.ofInt (l1))), (3, .int (Int32.ofInt (l3))), (4, .int (Int32.ofInt (r6)))]) (List.forall_mem_cons.mpr ⟨rfl, (List.forall_mem_cons.mpr ⟨rfl, (List.forall_mem_cons.mpr ⟨rfl, (List.forall_mem_cons.mpr ⟨rfl, (fun _ h => nomatch h)⟩)⟩)⟩)⟩) ?_
  refine z_aload_n dX11_field_88 rfl rfl ?_
  refine g_getR hW hT.1 mr12 kX11 fX11_41 dX11_field_89 ?_
  refine z_iload_n dX11_field_92 rfl rfl ?_
  refine z_iload dX11_field_93 rfl ?_
  refine z_bipush (v := Int32.ofInt 105) dX11_field_95 (by decide) ?_
  obtain ⟨q9, hw⟩ := hw
  refine i_icmp_ne (tgt := 104) dX11_field_97 (by decide) q9 ⟨by decide, by decide⟩ (fun h8 => ?_) (fun h8 => ?_)
  · have hw := hw.1 h8
    refine z_iload dX11_field_104 rfl ?_
    refine z_bipush (v := Int32.ofInt 116) dX11_field_106 (by decide) ?_
    refine i_icmp_ne (tgt := 115) dX11_field_108 (by decide) q9 ⟨by decide, by decide⟩ (fun h10 => ?_) (fun h10 => ?_)
    · have hw := hw.1 h10
      refine z_iload dX11_field_115 rfl ?_
      refine z_bipush (v := Int32.ofInt 114) dX11_field_117 (by decide) ?_
      refine i_icmp_ne (tgt := 126) dX11_field_119 (by decide) q9 ⟨by decide, by decide⟩ (fun h11 => ?_) (fun h11 => ?_)
      · have hw := hw.1 h11
        refine z_iconst (v := Int32.ofInt 3) dX11_field_126 rfl ?_
        refine z_loc (L' := [(0, .ref (G.1 + 54)), (1, .int (Int32.ofInt (l1))), (3, .int (Int32.ofInt (l3))), (4, .int (Int32.ofInt (r6)))]) (List.forall_mem_cons.mpr ⟨rfl, (List.forall_mem_cons.mpr ⟨rfl, (List.forall_mem_cons.mpr ⟨rfl, (List.forall_mem_cons.mpr ⟨rfl, (fun _ h => nomatch h)⟩)⟩)⟩)⟩) ?_
        exact bX11_field_127 hd hJ hT hW hP  hw
      · have hw := hw.2 h11
        refine z_iconst (v := Int32.ofInt 2) dX11_field_122 rfl ?_
        refine z_goto (tgt := 127) dX11_field_123 (by decide) ?_
        refine z_loc (L' := [(0, .ref (G.1 + 54)), (1, .int (Int32.ofInt (l1))), (3, .int (Int32.ofInt (l3))), (4, .int (Int32.ofInt (r6)))]) (List.forall_mem_cons.mpr ⟨rfl, (List.forall_mem_cons.mpr ⟨rfl, (List.forall_mem_cons.mpr ⟨rfl, (List.forall_mem_cons.mpr ⟨rfl, (fun _ h => nomatch h)⟩)⟩)⟩)⟩) ?_
        exact bX11_field_127 hd hJ hT hW hP  hw
    · have hw := hw.2 h10
      refine z_iconst (v := Int32.ofInt 1) dX11_field_111 rfl ?_
      refine z_goto (tgt := 127) dX11_field_112 (by decide) ?_
      refine z_loc (L' := [(0, .ref (G.1 + 54)), (1, .int (Int32.ofInt (l1))), (3, .int (Int32.ofInt (l3))), (4, .int (Int32.ofInt (r6)))]) (List.forall_mem_cons.mpr ⟨rfl, (List.forall_mem_cons.mpr ⟨rfl, (List.forall_mem_cons.mpr ⟨rfl, (List.forall_mem_cons.mpr ⟨rfl, (fun _ h => nomatch h)⟩)⟩)⟩)⟩) ?_
      exact bX11_field_127 hd hJ hT hW hP  hw
  · have hw := hw.2 h8
    refine z_iconst (v := Int32.ofInt 0) dX11_field_100 rfl ?_
    refine z_goto (tgt := 127) dX11_field_101 (by decide) ?_
    refine z_loc (L' := [(0, .ref (G.1 + 54)), (1, .int (Int32.ofInt (l1))), (3, .int (Int32.ofInt (l3))), (4, .int (Int32.ofInt (r6)))]) (List.forall_mem_cons.mpr ⟨rfl, (List.forall_mem_cons.mpr ⟨rfl, (List.forall_mem_cons.mpr ⟨rfl, (List.forall_mem_cons.mpr ⟨rfl, (fun _ h => nomatch h)⟩)⟩)⟩)⟩) ?_
    exact bX11_field_127 hd hJ hT hW hP  hw
def wX11_field_64 (l1 l3 : Int) (S : St) (K : Int → St → Prop) : Prop := wX11_field_69 (l1) (l3) (1) S K
set_option maxRecDepth 100000 in
set_option maxHeartbeats 4000000 in
theorem bX11_field_64 {G : xG} {sh : Nat → Option Sh} {J : St → List va_E → Prop} {d : Nat} {Post : xP} {l1 l3 : Int} {S : St} {cs : List va_E} {K : Int → St → Prop} (hd : 3 ≤ d) (hJ : Stb sh J) (hT : isM sh) (hW : Wd G sh mT J S cs) (hP : ∀ (v : Int) (S : St) (cs : List va_E), K v S → Wd G sh mT J S cs → Post (none) cs)  (hw : wX11_field_64 l1 l3 S K ) : Z (RX11, cX11_field, 7, none, false) G d Post 64 [(0, .ref (G.1 + 54)), (1, .int (Int32.ofInt (l1))), (3, .int (Int32.ofInt (l3)))] [.ref (G.1 + 54)] cs := by
  unfold wX11_field_64 at hw
  refine z_iconst (v := Int32.ofInt 1) dX11_field_64 rfl ?_
  refine z_goto (tgt := 69) dX11_field_65 (by decide) ?_
  refine z_loc (L' := [(0, .ref (G.1 + 54)), (1, .int (Int32.ofInt (l1))), (3, .int (Int32.ofInt (l3)))]) (List.forall_mem_cons.mpr ⟨rfl, (List.forall_mem_cons.mpr ⟨rfl, (List.forall_mem_cons.mpr ⟨rfl, (fun _ h => nomatch h)⟩)⟩)⟩) ?_
  exact bX11_field_69 hd hJ hT hW hP  hw
def wX11_field (a1 a2 : Int) (S : St) (K : Int → St → Prop) : Prop := rng a1 → rng a2 → (∀ x1 : Int, x1 = ((4 * a1) + a2) → (rng ((6 + x1)) ∧ (rng ((6 + (4 * a1))) ∧ (wX11_name ((6 + x1)) ((6 + (4 * a1))) ((6 + x1)) S (fun r4 S5 => (iv 0 1 (S5.1 54 23) → ((S5.1 54 23 = 0 → (iv 0 1 (S5.1 54 24) → ((¬ S5.1 54 24 = 0 → wX11_field_64 (a1) (x1) S5 K) ∧ ((¬ (¬ S5.1 54 24 = 0)) → (wX11_isWord ((6 + x1)) (0) S5 (fun r10 S11 => (rng (r10) ∧ ((¬ r10 = 0 → wX11_field_64 (a1) (x1) S11 K) ∧ ((¬ (¬ r10 = 0)) → (wX11_isWord ((6 + x1)) (1) S11 (fun r14 S15 => (rng (r14) ∧ ((r14 = 0 → wX11_field_69 (a1) (x1) (0) S15 K) ∧ ((¬ (r14 = 0)) → wX11_field_64 (a1) (x1) S15 K)))))))))))))) ∧ ((¬ (S5.1 54 23 = 0)) → K 0 S5))))))))
set_option maxRecDepth 100000 in
set_option maxHeartbeats 4000000 in
theorem lX11_field {G : xG} {sh : Nat → Option Sh} {J : St → List va_E → Prop} {a1 a2 : Int} {S : St} {cs : List va_E} {K : Int → St → Prop} (d : Nat) (hd : 3 ≤ d) (hJ : Stb sh J) (hT : isM sh) (hW : Wd G sh mT J S cs) (g1 : rng a1) (g2 : rng a2) (hw : wX11_field a1 a2 S K) : X G yX11_field cX11_field 7 none d [.ref (G.1 + 54), .int (Int32.ofInt a1), .int (Int32.ofInt a2)] cs (qV G sh mT J K) := by
  refine X.of false (by decide +kernel) (by decide) (Nat.le_of_ble_eq_true rfl) ?_
  show Z (RX11, cX11_field, 7, none, false) G d _ 0 [(0, .ref (G.1 + 54)), (1, .int (Int32.ofInt a1)), (2, .int (Int32.ofInt a2))] [] cs
  have hP : ∀ (v : Int) (S : St) (cs : List va_E), K v S → Wd G sh mT J S cs → qV G sh mT J K (none) cs := fun v S cs a b => ⟨v, S, rfl, a, b⟩
  unfold wX11_field at hw
  have hw := hw g1 g2
  refine z_iconst (v := Int32.ofInt 4) dX11_field_0 rfl ?_
  refine z_iload_n dX11_field_1 rfl rfl ?_
  refine i_imul dX11_field_2 ?_
  refine z_iload_n dX11_field_3 rfl rfl ?_
  refine i_iadd dX11_field_4 ?_
  obtain ⟨x1, hx1⟩ : ∃ x : Int, x = ((4 * a1) + a2) := ⟨_, rfl⟩
  have hw := hw x1 hx1
  refine z_st (st' := [.int (Int32.ofInt x1)]) (by rw [hx1]) ?_
  refine z_istore_n dX11_field_5 rfl (by decide) ?_
  refine z_loc (L' := [(0, .ref (G.1 + 54)), (1, .int (Int32.ofInt (a1))), (2, .int (Int32.ofInt (a2))), (3, .int (Int32.ofInt (x1)))]) (List.forall_mem_cons.mpr ⟨rfl, (List.forall_mem_cons.mpr ⟨rfl, (List.forall_mem_cons.mpr ⟨rfl, (List.forall_mem_cons.mpr ⟨rfl, (fun _ h => nomatch h)⟩)⟩)⟩)⟩) ?_
  refine z_aload_n dX11_field_6 rfl rfl ?_
  refine z_bipush (v := Int32.ofInt 6) dX11_field_7 (by decide) ?_
  refine z_iload_n dX11_field_9 rfl rfl ?_
  refine i_iadd dX11_field_10 ?_
  refine z_bipush (v := Int32.ofInt 6) dX11_field_11 (by decide) ?_
  refine z_iconst (v := Int32.ofInt 4) dX11_field_13 rfl ?_
  refine z_iload_n dX11_field_14 rfl rfl ?_
  refine i_imul dX11_field_15 ?_
  refine i_iadd dX11_field_16 ?_
  refine z_bipush (v := Int32.ofInt 6) dX11_field_17 (by decide) ?_
  refine z_iload_n dX11_field_19 rfl rfl ?_
  refine i_iadd dX11_field_20 ?_
  obtain ⟨q2, hw⟩ := hw
  obtain ⟨q3, hw⟩ := hw
  have hX := lX11_name 2 (Nat.le_refl _) hJ hT hW q2 q3 q2 hw
  refine z_callV (As := [_, _, _]) eX11_name sX11_name lX11_217 rfl dX11_field_21 (hW.1 _ _ hT.1) hX (Nat.le_trans (by decide) hd) rfl (Nat.le_of_ble_eq_true rfl) (fun r cs hp => ?_)
  obtain ⟨r4, S5, rfl, hw, hW⟩ := hp
  refine z_st (st' := []) rfl ?_
  refine z_aload_n dX11_field_24 rfl rfl ?_
  have q6 : iv 0 1 (S5.1 54 23) := mI23 hW
  have hw := hw q6
  refine g_getI hW hT.1 mr23 kX11 fX11_196 dX11_field_25 ?_
  refine i_if_eq (tgt := 32) dX11_field_28 (by decide) (rngq q6 (by decide) (by decide)) (fun h7 => ?_) (fun h7 => ?_)
  · have hw := hw.1 h7
    refine z_aload_n dX11_field_32 rfl rfl ?_
    refine z_aload_n dX11_field_33 rfl rfl ?_
    have q8 : iv 0 1 (S5.1 54 24) := mI24 hW
    have hw := hw q8
    refine g_getI hW hT.1 mr24 kX11 fX11_210 dX11_field_34 ?_
    refine i_if_ne (tgt := 64) dX11_field_37 (by decide) (rngq q8 (by decide) (by decide)) (fun h9 => ?_) (fun h9 => ?_)
    · have hw := hw.1 h9
      refine z_loc (L' := [(0, .ref (G.1 + 54)), (1, .int (Int32.ofInt (a1))), (3, .int (Int32.ofInt (x1)))]) (List.forall_mem_cons.mpr ⟨rfl, (List.forall_mem_cons.mpr ⟨rfl, (List.forall_mem_cons.mpr ⟨rfl, (fun _ h => nomatch h)⟩)⟩)⟩) ?_
      exact bX11_field_64 hd hJ hT hW hP  hw
    · have hw := hw.2 h9
      refine z_aload_n dX11_field_40 rfl rfl ?_
      refine z_bipush (v := Int32.ofInt 6) dX11_field_41 (by decide) ?_
      refine z_iload_n dX11_field_43 rfl rfl ?_
      refine i_iadd dX11_field_44 ?_
      refine z_iconst (v := Int32.ofInt 0) dX11_field_45 rfl ?_
      have hX := lX11_isWord 1 (Nat.le_refl _) hJ hT hW q2 ⟨by decide, by decide⟩ hw
      refine z_callV (As := [_, _]) eX11_isWord sX11_isWord lX11_221 rfl dX11_field_46 (hW.1 _ _ hT.1) hX (Nat.le_trans (by decide) hd) rfl (Nat.le_of_ble_eq_true rfl) (fun r cs hp => ?_)
      obtain ⟨r10, S11, rfl, hw, hW⟩ := hp
      refine z_st (st' := [.int (Int32.ofInt (r10)), .ref (G.1 + 54)]) rfl ?_
      obtain ⟨q13, hw⟩ := hw
      refine i_if_ne (tgt := 64) dX11_field_49 (by decide) q13 (fun h12 => ?_) (fun h12 => ?_)
      · have hw := hw.1 h12
        refine z_loc (L' := [(0, .ref (G.1 + 54)), (1, .int (Int32.ofInt (a1))), (3, .int (Int32.ofInt (x1)))]) (List.forall_mem_cons.mpr ⟨rfl, (List.forall_mem_cons.mpr ⟨rfl, (List.forall_mem_cons.mpr ⟨rfl, (fun _ h => nomatch h)⟩)⟩)⟩) ?_
        exact bX11_field_64 hd hJ hT hW hP  hw
      · have hw := hw.2 h12
        refine z_aload_n dX11_field_52 rfl rfl ?_
        refine z_bipush (v := Int32.ofInt 6) dX11_field_53 (by decide) ?_
        refine z_iload_n dX11_field_55 rfl rfl ?_
        refine i_iadd dX11_field_56 ?_
        refine z_iconst (v := Int32.ofInt 1) dX11_field_57 rfl ?_
        have hX := lX11_isWord 1 (Nat.le_refl _) hJ hT hW q2 ⟨by decide, by decide⟩ hw
        refine z_callV (As := [_, _]) eX11_isWord sX11_isWord lX11_221 rfl dX11_field_58 (hW.1 _ _ hT.1) hX (Nat.le_trans (by decide) hd) rfl (Nat.le_of_ble_eq_true rfl) (fun r cs hp => ?_)
        obtain ⟨r14, S15, rfl, hw, hW⟩ := hp
        refine z_st (st' := [.int (Int32.ofInt (r14)), .ref (G.1 + 54)]) rfl ?_
        obtain ⟨q17, hw⟩ := hw
        refine i_if_eq (tgt := 68) dX11_field_61 (by decide) q17 (fun h16 => ?_) (fun h16 => ?_)
        · have hw := hw.1 h16
          refine z_iconst (v := Int32.ofInt 0) dX11_field_68 rfl ?_
          refine z_loc (L' := [(0, .ref (G.1 + 54)), (1, .int (Int32.ofInt (a1))), (3, .int (Int32.ofInt (x1)))]) (List.forall_mem_cons.mpr ⟨rfl, (List.forall_mem_cons.mpr ⟨rfl, (List.forall_mem_cons.mpr ⟨rfl, (fun _ h => nomatch h)⟩)⟩)⟩) ?_
          exact bX11_field_69 hd hJ hT hW hP  hw
        · have hw := hw.2 h16
          refine z_loc (L' := [(0, .ref (G.1 + 54)), (1, .int (Int32.ofInt (a1))), (3, .int (Int32.ofInt (x1)))]) (List.forall_mem_cons.mpr ⟨rfl, (List.forall_mem_cons.mpr ⟨rfl, (List.forall_mem_cons.mpr ⟨rfl, (fun _ h => nomatch h)⟩)⟩)⟩) ?_
          exact bX11_field_64 hd hJ hT hW hP  hw
  · have hw := hw.2 h7
    exact z_return dX11_field_31 rfl (hP 0 _ _ hw hW)

