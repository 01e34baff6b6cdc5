def wX11_fieldNamed_103 (l1 l2 l3 l4 l6 s0 : Int) (S : St) (K : Int → St → Prop) (B7 : Int → Int → Int → Int → Int → Int → St → Prop) : Prop := B7 (l1) (l2) (l3) (l4) (s0) ((l6 + 1)) S
set_option maxRecDepth 100000 in
set_option maxHeartbeats 4000000 in
theorem bX11_fieldNamed_103 {G : xG} {sh : Nat → Option Sh} {J : St → List va_E → Prop} {d : Nat} {Post : xP} {l1 l2 l3 l4 l6 s0 : Int} {S : St} {cs : List va_E} {K : Int → St → Prop} {B7 : Int → Int → Int → Int → Int → Int → St → Prop} (hd : 2 ≤ d) (hJ : Stb sh J) (hT : isM sh) (hW : Wd G sh mT J S cs) (hP : ∀ (v : Int) (S : St) (cs : List va_E), K v S → Wd G sh mT J S cs → Post (some (.int (Int32.ofInt v))) cs) (hB7 : ∀ (l1 : Int) (l2 : Int) (l3 : Int) (l4 : Int) (l5 : Int) (l6 : Int) (S : St) (cs : List va_E), B7 l1 l2 l3 l4 l5 l6 S → Wd G sh mT J S cs → Z (RX11, cX11_fieldNamed, 9, some .int, false) G d Post 7 [(0, .ref (G.1 + 54)), (1, .int (Int32.ofInt (l1))), (2, .int (Int32.ofInt (l2))), (3, .int (Int32.ofInt (l3))), (4, .int (Int32.ofInt (l4))), (5, .int (Int32.ofInt (l5))), (6, .int (Int32.ofInt (l6)))] [] cs) (hw : wX11_fieldNamed_103 l1 l2 l3 l4 l6 s0 S K B7) : Z (RX11, cX11_fieldNamed, 9, some .int, false) G d Post 103 [(0, .ref (G.1 + 54)), (1, .int (Int32.ofInt (l1))), (2, .int (Int32.ofInt (l2))), (3, .int (Int32.ofInt (l3))), (4, .int (Int32.ofInt (l4))), (6, .int (Int32.ofInt (l6)))] [.int (Int32.ofInt (s0))] cs := by
  unfold wX11_fieldNamed_103 at hw
  refine z_istore dX11_fieldNamed_103 (by decide) ?_
  refine i_iinc (l := l6) dX11_fieldNamed_105 rfl (by decide) ?_
  refine z_goto (tgt := 7) dX11_fieldNamed_108 (by decide) ?_
  refine z_loc (L' := [(0, .ref (G.1 + 54)), (1, .int (Int32.ofInt (l1))), (2, .int (Int32.ofInt (l2))), (3, .int (Int32.ofInt (l3))), (4, .int (Int32.ofInt (l4))), (5, .int (Int32.ofInt (s0))), (6, .int (Int32.ofInt ((l6 + 1))))]) (List.forall_mem_cons.mpr ⟨rfl, (List.forall_mem_cons.mpr ⟨rfl, (List.forall_mem_cons.mpr ⟨rfl, (List.forall_mem_cons.mpr ⟨rfl, (List.forall_mem_cons.mpr ⟨rfl, (List.forall_mem_cons.mpr ⟨rfl, (List.forall_mem_cons.mpr ⟨rfl, (fun _ h => nomatch h)⟩)⟩)⟩)⟩)⟩)⟩)⟩) ?_
  exact hB7 _ _ _ _ _ _ _ _ hw hW
def wX11_fieldNamed_101 (l1 l2 l3 l4 l5 l6 : Int) (S : St) (K : Int → St → Prop) (B7 : Int → Int → Int → Int → Int → Int → St → Prop) : Prop := wX11_fieldNamed_103 (l1) (l2) (l3) (l4) (l6) (l5) S K B7
set_option maxRecDepth 100000 in
set_option maxHeartbeats 4000000 in
theorem bX11_fieldNamed_101 {G : xG} {sh : Nat → Option Sh} {J : St → List va_E → Prop} {d : Nat} {Post : xP} {l1 l2 l3 l4 l5 l6 : Int} {S : St} {cs : List va_E} {K : Int → St → Prop} {B7 : Int → Int → Int → Int → Int → Int → St → Prop} (hd : 2 ≤ d) (hJ : Stb sh J) (hT : isM sh) (hW : Wd G sh mT J S cs) (hP : ∀ (v : Int) (S : St) (cs : List va_E), K v S → Wd G sh mT J S cs → Post (some (.int (Int32.ofInt v))) cs) (hB7 : ∀ (l1 : Int) (l2 : Int) (l3 : Int) (l4 : Int) (l5 : Int) (l6 : Int) (S : St) (cs : List va_E), B7 l1 l2 l3 l4 l5 l6 S → Wd G sh mT J S cs → Z (RX11, cX11_fieldNamed, 9, some .int, false) G d Post 7 [(0, .ref (G.1 + 54)), (1, .int (Int32.ofInt (l1))), (2, .int (Int32.ofInt (l2))), (3, .int (Int32.ofInt (l3))), (4, .int (Int32.ofInt (l4))), (5, .int (Int32.ofInt (l5))), (6, .int (Int32.ofInt (l6)))] [] cs) (hw : wX11_fieldNamed_101 l1 l2 l3 l4 l5 l6 S K B7) : Z (RX11, cX11_fieldNamed, 9, some .int, false) G d Post 101 [(0, .ref (G.1 + 54)), (1, .int (Int32.ofInt (l1))), (2, .int (Int32.ofInt (l2))), (3, .int (Int32.ofInt (l3))), (4, .int (Int32.ofInt (l4))), (5, .int (Int32.ofInt (l5))), (6, .int (Int32.ofInt (l6)))] [] cs := by
  unfold wX11_fieldNamed_101 at hw
  refine z_iload dX11_fieldNamed_101 rfl ?_
  refine z_loc (L' := [(0, .ref (G.1 + 54)), (1, .int (Int32.ofInt (l1))), (2, .int (Int32.ofInt (l2))), (3, .int (Int32.ofInt (l3))), (4, .int (Int32.ofInt (l4))), (6, .int (Int32.ofInt (l6)))]) (List.forall_mem_cons.mpr ⟨rfl, (List.forall_mem_cons.mpr ⟨rfl, (List.forall_mem_cons.mpr ⟨rfl, (List.forall_mem_cons.mpr ⟨rfl, (List.forall_mem_cons.mpr ⟨rfl, (List.forall_mem_cons.mpr ⟨rfl, (fun _ h => nomatch h)⟩)⟩)⟩)⟩)⟩)⟩) ?_
  exact bX11_fieldNamed_103 hd hJ hT hW hP hB7 hw
def wX11_fieldNamed_75 (l1 l2 l3 l4 l5 l6 l7 s0 : Int) (S : St) (K : Int → St → Prop) (B7 : Int → Int → Int → Int → Int → Int → St → Prop) : Prop := (rng (s0) ∧ ((s0 = 0 → wX11_fieldNamed_101 (l1) (l2) (l3) (l4) (l5) (l6) S K B7) ∧ ((¬ (s0 = 0)) → (rng (l2) ∧ (rng (l3) ∧ (rng ((6 + l7)) ∧ (wX11_isNamed (l2) (l3) ((6 + l7)) S (fun r6 S7 => (rng (r6) ∧ ((r6 = 0 → wX11_fieldNamed_101 (l1) (l2) (l3) (l4) (l5) (l6) S7 K B7) ∧ ((¬ (r6 = 0)) → wX11_fieldNamed_103 (l1) (l2) (l3) (l4) (l6) (l6) S7 K B7)))))))))))
set_option maxRecDepth 100000 in
set_option maxHeartbeats 4000000 in
theorem bX11_fieldNamed_75 {G : xG} {sh : Nat → Option Sh} {J : St → List va_E → Prop} {d : Nat} {Post : xP} {l1 l2 l3 l4 l5 l6 l7 s0 : Int} {S : St} {cs : List va_E} {K : Int → St → Prop} {B7 : Int → Int → Int → Int → Int → Int → St → Prop} (hd : 2 ≤ d) (hJ : Stb sh J) (hT : isM sh) (hW : Wd G sh mT J S cs) (hP : ∀ (v : Int) (S : St) (cs : List va_E), K v S → Wd G sh mT J S cs → Post (some (.int (Int32.ofInt v))) cs) (hB7 : ∀ (l1 : Int) (l2 : Int) (l3 : Int) (l4 : Int) (l5 : Int) (l6 : Int) (S : St) (cs : List va_E), B7 l1 l2 l3 l4 l5 l6 S → Wd G sh mT J S cs → Z (RX11, cX11_fieldNamed, 9, some .int, false) G d Post 7 [(0, .ref (G.1 + 54)), (1, .int (Int32.ofInt (l1))), (2, .int (Int32.ofInt (l2))), (3, .int (Int32.ofInt (l3))), (4, .int (Int32.ofInt (l4))), (5, .int (Int32.ofInt (l5))), (6, .int (Int32.ofInt (l6)))] [] cs) (hw : wX11_fieldNamed_75 l1 l2 l3 l4 l5 l6 l7 s0 S K B7) : Z (RX11, cX11_fieldNamed, 9, some .int, false) G d Post 75 [(0, .ref (G.1 + 54)), (1, .int (Int32.ofInt (l1))), (2, .int (Int32.ofInt (l2))), (3, .int (Int32.ofInt (l3))), (4, .int (Int32.ofInt (l4))), (5, .int (Int32.ofInt (l5))), (6, .int (Int32.ofInt (l6))), (7, .int (Int32.ofInt (l7)))] [.int (Int32.ofInt (s0))] cs := by
  unfold wX11_fieldNamed_75 at hw
  refine z_istore dX11_fieldNamed_75 (by decide) ?_
  refine z_iload dX11_fieldNamed_77 rfl ?_
  obtain ⟨q2, hw⟩ := hw
  refine i_if_eq (tgt := 101) dX11_fieldNamed_79 (by decide) q2 (fun h1 => ?_) (fun h1 => ?_)
  · have hw := hw.1 h1
    refine z_loc (L' := [(0, .ref (G.1 + 54)), (1, .int (Int32.ofInt (l1))), (2, .int (Int32.ofInt (l2))), (3, .int (Int32.ofInt (l3))), (4, .int (Int32.ofInt (l4))), (5, .int (Int32.ofInt (l5))), (6, .int (Int32.ofInt (l6)))]) (List.forall_mem_cons.mpr ⟨rfl, (List.forall_mem_cons.mpr ⟨rfl, (List.forall_mem_cons.mpr ⟨rfl, (List.forall_mem_cons.mpr ⟨rfl, (List.forall_mem_cons.mpr ⟨rfl, (List.forall_mem_cons.mpr ⟨rfl, (List.forall_mem_cons.mpr ⟨rfl, (fun _ h => nomatch h)⟩)⟩)⟩)⟩)⟩)⟩)⟩) ?_
    exact bX11_fieldNamed_101 hd hJ hT hW hP hB7 hw
  · have hw := hw.2 h1
    refine z_aload_n dX11_fieldNamed_82 rfl rfl ?_
    refine z_iload_n dX11_fieldNamed_83 rfl rfl ?_
    refine z_iload_n dX11_fieldNamed_84 rfl rfl ?_
    refine z_bipush (v := Int32.ofInt 6) dX11_fieldNamed_85 (by decide) ?_
    refine z_iload dX11_fieldNamed_87 rfl ?_
    refine i_iadd dX11_fieldNamed_89 ?_
    obtain ⟨q3, hw⟩ := hw
    obtain ⟨q4, hw⟩ := hw
    obtain ⟨q5, hw⟩ := hw
    have hX := lX11_isNamed 1 (Nat.le_refl _) hJ hT hW q3 q4 q5 hw
    refine z_callV (As := [_, _, _]) eX11_isNamed sX11_isNamed lX11_414 rfl dX11_fieldNamed_90 (hW.1 _ _ hT.1) hX (Nat.le_trans (by decide) hd) rfl (Nat.le_of_ble_eq_true rfl) (fun r cs hp => ?_)
    obtain ⟨r6, S7, rfl, hw, hW⟩ := hp
    refine z_st (st' := [.int (Int32.ofInt (r6))]) rfl ?_
    obtain ⟨q9, hw⟩ := hw
    refine i_if_eq (tgt := 101) dX11_fieldNamed_93 (by decide) q9 (fun h8 => ?_) (fun h8 => ?_)
    · have hw := hw.1 h8
      refine z_loc (L' := [(0, .ref (G.1 + 54)), (1, .int (Int32.ofInt (l1))), (2, .int (Int32.ofInt (l2))), (3, .int (Int32.ofInt (l3))), (4, .int (Int32.ofInt (l4))), (5, .int (Int32.ofInt (l5))), (6, .int (Int32.ofInt (l6)))]) (List.forall_mem_cons.mpr ⟨rfl, (List.forall_mem_cons.mpr ⟨rfl, (List.forall_mem_cons.mpr ⟨rfl, (List.forall_mem_cons.mpr ⟨rfl, (List.forall_mem_cons.mpr ⟨rfl, (List.forall_mem_cons.mpr ⟨rfl, (List.forall_mem_cons.mpr ⟨rfl, (fun _ h => nomatch h)⟩)⟩)⟩)⟩)⟩)⟩)⟩) ?_
      exact bX11_fieldNamed_101 hd hJ hT hW hP hB7 hw
    · have hw := hw.2 h8
      refine z_iload dX11_fieldNamed_96 rfl ?_
      refine z_goto (tgt := 103) dX11_fieldNamed_98 (by decide) ?_
      refine z_loc (L' := [(0, .ref (G.1 + 54)), (1, .int (Int32.ofInt (l1))), (2, .int (Int32.ofInt (l2))), (3, .int (Int32.ofInt (l3))), (4, .int (Int32.ofInt (l4))), (6, .int (Int32.ofInt (l6)))]) (List.forall_mem_cons.mpr ⟨rfl, (List.forall_mem_cons.mpr ⟨rfl, (List.forall_mem_cons.mpr ⟨rfl, (List.forall_mem_cons.mpr ⟨rfl, (List.forall_mem_cons.mpr ⟨rfl, (List.forall_mem_cons.mpr ⟨rfl, (fun _ h => nomatch h)⟩)⟩)⟩)⟩)⟩)⟩) ?_
      exact bX11_fieldNamed_103 hd hJ hT hW hP hB7 hw
def wX11_fieldNamed_56 (l1 l2 l3 l4 l5 l6 l7 : Int) (S : St) (K : Int → St → Prop) (B7 : Int → Int → Int → Int → Int → Int → St → Prop) : Prop := wX11_fieldNamed_75 (l1) (l2) (l3) (l4) (l5) (l6) (l7) (0) S K B7
set_option maxRecDepth 100000 in
set_option maxHeartbeats 4000000 in
theorem bX11_fieldNamed_56 {G : xG} {sh : Nat → Option Sh} {J : St → List va_E → Prop} {d : Nat} {Post : xP} {l1 l2 l3 l4 l5 l6 l7 : Int} {S : St} {cs : List va_E} {K : Int → St → Prop} {B7 : Int → Int → Int → Int → Int → Int → St → Prop} (hd : 2 ≤ d) (hJ : Stb sh J) (hT : isM sh) (hW : Wd G sh mT J S cs) (hP : ∀ (v : Int) (S : St) (cs : List va_E), K v S → Wd G sh mT J S cs → Post (some (.int (Int32.ofInt v))) cs) (hB7 : ∀ (l1 : Int) (l2 : Int) (l3 : Int) (l4 : Int) (l5 : Int) (l6 : Int) (S : St) (cs : List va_E), B7 l1 l2 l3 l4 l5 l6 S → Wd G sh mT J S cs → Z (RX11, cX11_fieldNamed, 9, some .int, false) G d Post 7 [(0, .ref (G.1 + 54)), (1, .int (Int32.ofInt (l1))), (2, .int (Int32.ofInt (l2))), (3, .int (Int32.ofInt (l3))), (4, .int (Int32.ofInt (l4))), (5, .int (Int32.ofInt (l5))), (6, .int (Int32.ofInt (l6)))] [] cs) (hw : wX11_fieldNamed_56 l1 l2 l3 l4 l5 l6 l7 S K B7) : Z (RX11, cX11_fieldNamed, 9, some .int, false) G d Post 56 [(0, .ref (G.1 + 54)), (1, .int (Int32.ofInt (l1))), (2, .int (Int32.ofInt (l2))), (3, .int (Int32.ofInt (l3))), (4, .int (Int32.ofInt (l4))), (5, .int (Int32.ofInt (l5))), (6, .int (Int32.ofInt (l6))), (7, .int (Int32.ofInt (l7)))] [] cs := by
  unfold wX11_fieldNamed_56 at hw
  refine z_iconst (v := Int32.ofInt 0) dX11_fieldNamed_56 rfl ?_
  refine z_goto (tgt := 75) dX11_fieldNamed_57 (by decide) ?_
  refine z_loc (L' := [(0, .ref (G.1 + 54)), (1, .int (Int32.ofInt (l1))), (2, .int (Int32.ofInt (l2))), (3, .int (Int32.ofInt (l3))), (4, .int (Int32.ofInt (l4))), (5, .int (Int32.ofInt (l5))), (6, .int (Int32.ofInt (l6))), (7, .int (Int32.ofInt (l7)))]) (List.forall_mem_cons.mpr ⟨rfl, (List.forall_mem_cons.mpr ⟨rfl, (List.forall_mem_cons.mpr ⟨rfl, (List.forall_mem_cons.mpr ⟨rfl, (List.forall_mem_cons.mpr ⟨rfl, (List.forall_mem_cons.mpr ⟨rfl, (List.forall_mem_cons.mpr ⟨rfl, (List.forall_mem_cons.mpr ⟨rfl, (fun _ h => nomatch h)⟩)⟩)⟩)⟩)⟩)⟩)⟩)⟩) ?_
  exact bX11_fieldNamed_75 hd hJ hT hW hP hB7 hw
def wX11_fieldNamed_7' (l1 l2 l3 l4 l5 l6 : Int) (S : St) (K : Int → St → Prop) (B7 : Int → Int → Int → Int → Int → Int → St → Prop) : Prop := ((0 : Int) ≤ l1 ∧ l1 < (6 : Int) ∧ (iv 0 4 (S.2 56 (l1)) → (rng (l6) ∧ ((S.2 56 (l1) ≤ l6 → K (l5) S) ∧ ((¬ (S.2 56 (l1) ≤ l6)) → (rng (l4) ∧ ((l4 = 0 → ((0 : Int) ≤ ((4 * l1) + l6) ∧ ((4 * l1) + l6) < (24 : Int) ∧ (iv 0 1 (S.2 60 (((4 * l1) + l6))) → ((¬ S.2 60 (((4 * l1) + l6)) = 0 → wX11_fieldNamed_75 (l1) (l2) (l3) (l4) (l5) (l6) (((4 * l1) + l6)) (0) S K B7) ∧ ((¬ (¬ S.2 60 (((4 * l1) + l6)) = 0)) → wX11_fieldNamed_75 (l1) (l2) (l3) (l4) (l5) (l6) (((4 * l1) + l6)) (1) S K B7))))) ∧ ((¬ (l4 = 0)) → ((0 : Int) ≤ ((4 * l1) + l6) ∧ ((4 * l1) + l6) < (24 : Int) ∧ (iv 0 3 (S.2 59 (((4 * l1) + l6))) → ((1 < S.2 59 (((4 * l1) + l6)) → wX11_fieldNamed_56 (l1) (l2) (l3) (l4) (l5) (l6) (((4 * l1) + l6)) S K B7) ∧ ((¬ (1 < S.2 59 (((4 * l1) + l6)))) → ((0 : Int) ≤ ((4 * l1) + l6) ∧ ((4 * l1) + l6) < (24 : Int) ∧ (iv 0 1 (S.2 60 (((4 * l1) + l6))) → ((S.2 60 (((4 * l1) + l6)) = 0 → wX11_fieldNamed_56 (l1) (l2) (l3) (l4) (l5) (l6) (((4 * l1) + l6)) S K B7) ∧ ((¬ (S.2 60 (((4 * l1) + l6)) = 0)) → wX11_fieldNamed_75 (l1) (l2) (l3) (l4) (l5) (l6) (((4 * l1) + l6)) (1) S K B7))))))))))))))))
set_option maxRecDepth 100000 in
set_option maxHeartbeats 4000000 in
theorem bX11_fieldNamed_7' {G : xG} {sh : Nat → Option Sh} {J : St → List va_E → Prop} {d : Nat} {Post : xP} {l1 l2 l3 l4 l5 l6 : Int} {S : St} {cs : List va_E} {K : Int → St → Prop} {B7 : Int → Int → Int → Int → Int → Int → St → Prop} (hd : 2 ≤ d) (hJ : Stb sh J) (hT : isM sh) (hW : Wd G sh mT J S cs) (hP : ∀ (v : Int) (S : St) (cs : List va_E), K v S → Wd G sh mT J S cs → Post (some (.int (Int32.ofInt v))) cs) (hB7 : ∀ (l1 : Int) (l2 : Int) (l3 : Int) (l4 : Int) (l5 : Int) (l6 : Int) (S : St) (cs : List va_E), B7 l1 l2 l3 l4 l5 l6 S → Wd G sh mT J S cs → Z (RX11, cX11_fieldNamed, 9, some .int, false) G d Post 7 [(0, .ref (G.1 + 54)), (1, .int (Int32.ofInt (l1))), (2, .int (Int32.ofInt (l2))), (3, .int (Int32.ofInt (l3))), (4, .int (Int32.ofInt (l4))), (5, .int (Int32.ofInt (l5))), (6, .int (Int32.ofInt (l6)))] [] cs) (hw : wX11_fieldNamed_7' l1 l2 l3 l4 l5 l6 S K B7) : Z (RX11, cX11_fieldNamed, 9, some .int, false) G d Post 7 [(0, .ref (G.1 + 54)), (1, .int (Int32.ofInt (l1))), (2, .int (Int32.ofInt (l2))), (3, .int (Int32.ofInt (l3))), (4, .int (Int32.ofInt (l4))), (5, .int (Int32.ofInt (l5))), (6, .int (Int32.ofInt (l6)))] [] cs := by
  unfold wX11_fieldNamed_7' at hw
  refine z_iload dX11_fieldNamed_7 rfl ?_
  refine z_aload_n dX11_fieldNamed_9 rfl rfl ?_
  refine g_getR hW hT.1 mr3 kX11 fX11_13 dX11_fieldNamed_10 ?_
  refine z_iload_n dX11_fieldNamed_13 rfl rfl ?_
  obtain ⟨q1a, q1b, hw⟩ := hw
  have q2 : iv 0 4 (S.2 56 (l1)) := mA56 hW _
  have hw := hw q2
  refine g_iald hW (ma56 hT) q1a q1b (by decide) dX11_fieldNamed_14 ?_
  obtain ⟨q4, hw⟩ := hw
  refine i_icmp_ge (tgt := 111) dX11_fieldNamed_15 (by decide) q4 (rngq q2 (by decide) (by decide)) (fun h3 => ?_) (fun h3 => ?_)
  · have hw := hw.1 h3
    refine z_iload dX11_fieldNamed_111 rfl ?_
    exact z_ireturn dX11_fieldNamed_113 rfl rfl (hP _ _ _ hw hW)
  · have hw := hw.2 h3
    refine z_iconst (v := Int32.ofInt 4) dX11_fieldNamed_18 rfl ?_
    refine z_iload_n dX11_fieldNamed_19 rfl rfl ?_
    refine i_imul dX11_fieldNamed_20 ?_
    refine z_iload dX11_fieldNamed_21 rfl ?_
    refine i_iadd dX11_fieldNamed_23 ?_
    refine z_istore dX11_fieldNamed_24 (by decide) ?_
    refine z_iload dX11_fieldNamed_26 rfl ?_
    obtain ⟨q6, hw⟩ := hw
    refine i_if_eq (tgt := 60) dX11_fieldNamed_28 (by decide) q6 (fun h5 => ?_) (fun h5 => ?_)
    · have hw := hw.1 h5
      refine z_aload_n dX11_fieldNamed_60 rfl rfl ?_
      refine g_getR hW hT.1 mr7 kX11 fX11_25 dX11_fieldNamed_61 ?_
      refine z_iload dX11_fieldNamed_64 rfl ?_
      obtain ⟨q7a, q7b, hw⟩ := hw
      have q8 : iv 0 1 (S.2 60 (((4 * l1) + l6))) := mA60 hW _
      have hw := hw q8
      refine g_zald hW (ma60 hT) q7a q7b (by decide) dX11_fieldNamed_66 ?_
      refine i_if_ne (tgt := 74) dX11_fieldNamed_67 (by decide) (rngq q8 (by decide) (by decide)) (fun h9 => ?_) (fun h9 => ?_)
      · have hw := hw.1 h9
        refine z_iconst (v := Int32.ofInt 0) dX11_fieldNamed_74 rfl ?_
        refine z_loc (L' := [(0, .ref (G.1 + 54)), (1, .int (Int32.ofInt (l1))), (2, .int (Int32.ofInt (l2))), (3, .int (Int32.ofInt (l3))), (4, .int (Int32.ofInt (l4))), (5, .int (Int32.ofInt (l5))), (6, .int (Int32.ofInt (l6))), (7, .int (Int32.ofInt (((4 * l1) + l6))))]) (List.forall_mem_cons.mpr ⟨rfl, (List.forall_mem_cons.mpr ⟨rfl, (List.forall_mem_cons.mpr ⟨rfl, (List.forall_mem_cons.mpr ⟨rfl, (List.forall_mem_cons.mpr ⟨rfl, (List.forall_mem_cons.mpr ⟨rfl, (List.forall_mem_cons.mpr ⟨rfl, (List.forall_mem_cons.mpr ⟨rfl, (fun _ h => nomatch h)⟩)⟩)⟩)⟩)⟩)⟩)⟩)⟩) ?_
        exact bX11_fieldNamed_75 hd hJ hT hW hP hB7 hw
      · have hw := hw.2 h9
        refine z_iconst (v := Int32.ofInt 1) dX11_fieldNamed_70 rfl ?_
        refine z_goto (tgt := 75) dX11_fieldNamed_71 (by decide) ?_
        refine z_loc (L' := [(0, .ref (G.1 + 54)), (1, .int (Int32.ofInt (l1))), (2, .int (Int32.ofInt (l2))), (3, .int (Int32.ofInt (l3))), (4, .int (Int32.ofInt (l4))), (5, .int (Int32.ofInt (l5))), (6, .int (Int32.ofInt (l6))), (7, .int (Int32.ofInt (((4 * l1) + l6))))]) (List.forall_mem_cons.mpr ⟨rfl, (List.forall_mem_cons.mpr ⟨rfl, (List.forall_mem_cons.mpr ⟨rfl, (List.forall_mem_cons.mpr ⟨rfl, (List.forall_mem_cons.mpr ⟨rfl, (List.forall_mem_cons.mpr ⟨rfl, (List.forall_mem_cons.mpr ⟨rfl, (List.forall_mem_cons.mpr ⟨rfl, (fun _ h => nomatch h)⟩)⟩)⟩)⟩)⟩)⟩)⟩)⟩) ?_
        exact bX11_fieldNamed_75 hd hJ hT hW hP hB7 hw
    · have hw := hw.2 h5
      refine z_aload_n dX11_fieldNamed_31 rfl rfl ?_
      refine g_getR hW hT.1 mr6 kX11 fX11_22 dX11_fieldNamed_32 ?_
      refine z_iload dX11_fieldNamed_35 rfl ?_
      obtain ⟨q10a, q10b, hw⟩ := hw
      have q11 : iv 0 3 (S.2 59 (((4 * l1) + l6))) := mA59 hW _
      have hw := hw q11
      refine g_iald hW (ma59 hT) q10a q10b (by decide) dX11_fieldNamed_37 ?_
      refine z_iconst (v := Int32.ofInt 1) dX11_fieldNamed_38 rfl ?_
      refine i_icmp_gt (tgt := 56) dX11_fieldNamed_39 (by decide) (rngq q11 (by decide) (by decide)) ⟨by decide, by decide⟩ (fun h12 => ?_) (fun h12 => ?_)
      · have hw := hw.1 h12
        refine z_loc (L' := [(0, .ref (G.1 + 54)), (1, .int (Int32.ofInt (l1))), (2, .int (Int32.ofInt (l2))), (3, .int (Int32.ofInt (l3))), (4, .int (Int32.ofInt (l4))), (5, .int (Int32.ofInt (l5))), (6, .int (Int32.ofInt (l6))), (7, .int (Int32.ofInt (((4 * l1) + l6))))]) (List.forall_mem_cons.mpr ⟨rfl, (List.forall_mem_cons.mpr ⟨rfl, (List.forall_mem_cons.mpr ⟨rfl, (List.forall_mem_cons.mpr ⟨rfl, (List.forall_mem_cons.mpr ⟨rfl, (List.forall_mem_cons.mpr ⟨rfl, (List.forall_mem_cons.mpr ⟨rfl, (List.forall_mem_cons.mpr ⟨rfl, (fun _ h => nomatch h)⟩)⟩)⟩)⟩)⟩)⟩)⟩)⟩) ?_
        exact bX11_fieldNamed_56 hd hJ hT hW hP hB7 hw
      · have hw := hw.2 h12
        refine z_aload_n dX11_fieldNamed_42 rfl rfl ?_
        refine g_getR hW hT.1 mr7 kX11 fX11_25 dX11_fieldNamed_43 ?_
        refine z_iload dX11_fieldNamed_46 rfl ?_
        obtain ⟨q13a, q13b, hw⟩ := hw
        have q14 : iv 0 1 (S.2 60 (((4 * l1) + l6))) := mA60 hW _
        have hw := hw q14
        refine g_zald hW (ma60 hT) q13a q13b (by decide) dX11_fieldNamed_48 ?_
        refine i_if_eq (tgt := 56) dX11_fieldNamed_49 (by decide) (rngq q14 (by decide) (by decide)) (fun h15 => ?_) (fun h15 => ?_)
        · have hw := hw.1 h15
          refine z_loc (L' := [(0, .ref (G.1 + 54)), (1, .int (Int32.ofInt (l1))), (2, .int (Int32.ofInt (l2))), (3, .int (Int32.ofInt (l3))), (4, .int (Int32.ofInt (l4))), (5, .int (Int32.ofInt (l5))), (6, .int (Int32.ofInt (l6))), (7, .int (Int32.ofInt (((4 * l1) + l6))))]) (List.forall_mem_cons.mpr ⟨rfl, (List.forall_mem_cons.mpr ⟨rfl, (List.forall_mem_cons.mpr ⟨rfl, (List.forall_mem_cons.mpr ⟨rfl, (List.forall_mem_cons.mpr ⟨rfl, (List.forall_mem_cons.mpr ⟨rfl, (List.forall_mem_cons.mpr ⟨rfl, (List.forall_mem_cons.mpr ⟨rfl, (fun _ h => nomatch h)⟩)⟩)⟩)⟩)⟩)⟩)⟩)⟩) ?_
          exact bX11_fieldNamed_56 hd hJ hT hW hP hB7 hw
        · have hw := hw.2 h15
          refine z_iconst (v := Int32.ofInt 1) dX11_fieldNamed_52 rfl ?_
          refine z_goto (tgt := 75) dX11_fieldNamed_53 (by decide) ?_
          refine z_loc (L' := [(0, .ref (G.1 + 54)), (1, .int (Int32.ofInt (l1))), (2, .int (Int32.ofInt (l2))), (3, .int (Int32.ofInt (l3))), (4, .int (Int32.ofInt (l4))), (5, .int (Int32.ofInt (l5))), (6, .int (Int32.ofInt (l6))), (7, .int (Int32.ofInt (((4 * l1) + l6))))]) (List.forall_mem_cons.mpr ⟨rfl, (List.forall_mem_cons.mpr ⟨rfl, (List.forall_mem_cons.mpr ⟨rfl, (List.forall_mem_cons.mpr ⟨rfl, (List.forall_mem_cons.mpr ⟨rfl, (List.forall_mem_cons.mpr ⟨rfl, (List.forall_mem_cons.mpr ⟨rfl, (List.forall_mem_cons.mpr ⟨rfl, (fun _ h => nomatch h)⟩)⟩)⟩)⟩)⟩)⟩)⟩)⟩) ?_
          exact bX11_fieldNamed_75 hd hJ hT hW hP hB7 hw
def wX11_fieldNamed_7 (l1 l2 l3 l4 l5 l6 : Int) (S : St) (K : Int → St → Prop) : Prop := ∃ (Iv : Int → Int → Int → Int → Int → Int → St → Prop) (mu : Int → Int → Int → Int → Int → Int → St → Nat), Iv l1 l2 l3 l4 l5 l6 S ∧ ∀ (l1 l2 l3 l4 l5 l6 : Int) (S : St), Iv l1 l2 l3 l4 l5 l6 S → wX11_fieldNamed_7' l1 l2 l3 l4 l5 l6 S K  (fun ml1 ml2 ml3 ml4 ml5 ml6 T => Iv ml1 ml2 ml3 ml4 ml5 ml6 T ∧ mu ml1 ml2 ml3 ml4 ml5 ml6 T < mu l1 l2 l3 l4 l5 l6 S)
set_option maxRecDepth 100000 in
set_option maxHeartbeats 4000000 in
theorem bX11_fieldNamed_7 {G : xG} {sh : Nat → Option Sh} {J : St → List va_E → Prop} {d : Nat} {Post : xP} {l1 l2 l3 l4 l5 l6 : Int} {S : St} {cs : List va_E} {K : Int → St → Prop} (hd : 2 ≤ d) (hJ : Stb sh J) (hT : isM sh) (hW : Wd G sh mT J S cs) (hP : ∀ (v : Int) (S : St) (cs : List va_E), K v S → Wd G sh mT J S cs → Post (some (.int (Int32.ofInt v))) cs)  (hw : wX11_fieldNamed_7 l1 l2 l3 l4 l5 l6 S K ) : Z (RX11, cX11_fieldNamed, 9, some .int, false) G d Post 7 [(0, .ref (G.1 + 54)), (1, .int (Int32.ofInt (l1))), (2, .int (Int32.ofInt (l2))), (3, .int (Int32.ofInt (l3))), (4, .int (Int32.ofInt (l4))), (5, .int (Int32.ofInt (l5))), (6, .int (Int32.ofInt (l6)))] [] cs := by
  unfold wX11_fieldNamed_7 at hw
  obtain ⟨Iv, mu, h0, hs⟩ := hw
  have key : ∀ (n : Nat) (l1 l2 l3 l4 l5 l6 : Int) (S : St) (cs : List va_E), mu l1 l2 l3 l4 l5 l6 S < n → Iv l1 l2 l3 l4 l5 l6 S → Wd G sh mT J S cs → Z (RX11, cX11_fieldNamed, 9, some .int, false) G d Post 7 [(0, .ref (G.1 + 54)), (1, .int (Int32.ofInt (l1))), (2, .int (Int32.ofInt (l2))), (3, .int (Int32.ofInt (l3))), (4, .int (Int32.ofInt (l4))), (5, .int (Int32.ofInt (l5))), (6, .int (Int32.ofInt (l6)))] [] cs := by
    intro n
    induction n with
    | zero => intro l1 l2 l3 l4 l5 l6 S cs hn; exact absurd hn (Nat.not_lt_zero _)
    | succ n ih =>
      intro l1 l2 l3 l4 l5 l6 S cs hn hI hW
      exact bX11_fieldNamed_7' hd hJ hT hW hP  (fun l1 l2 l3 l4 l5 l6 S cs hb hW => ih l1 l2 l3 l4 l5 l6 S cs (Nat.lt_of_lt_of_le hb.2 (Nat.le_of_lt_succ hn)) hb.1 hW) (hs l1 l2 l3 l4 l5 l6 S hI)
  exact key _ _ _ _ _ _ _ _ _ (Nat.lt_succ_self _) h0 hW
def wX11_fieldNamed (a1 a2 a3 a4 : Int) (S : St) (K : Int → St → Prop) : Prop := rng a1 → rng a2 → rng a3 → rng a4 → wX11_fieldNamed_7 (a1) (a2) (a3) (a4) ((-2)) (0) S K
set_option maxRecDepth 100000 in
set_option maxHeartbeats 4000000 in
theorem lX11_fieldNamed {G : xG} {sh : Nat → Option Sh} {J : St → List va_E → Prop} {a1 a2 a3 a4 : Int} {S : St} {cs : List va_E} {K : Int → St → Prop} (d : Nat) (hd : 2 ≤ d) (hJ : Stb sh J) (hT : isM sh) (hW : Wd G sh mT J S cs) (g1 : rng a1) (g2 : rng a2) (g3 : rng a3) (g4 : rng a4) (hw : wX11_fieldNamed a1 a2 a3 a4 S K) : X G yX11_fieldNamed cX11_fieldNamed 9 (some .int) d [.ref (G.1 + 54), .int (Int32.ofInt a1), .int (Int32.ofInt a2), .int (Int32.ofInt a3), .int (Int32.ofInt a4)] cs (qI G sh mT J K) := by
  refine X.of false (by decide +kernel) (by decide) (Nat.le_of_ble_eq_true rfl) ?_
  show Z (RX11, cX11_fieldNamed, 9, some .int, false) G d _ 0 [(0, .ref (G.1 + 54)), (1, .int (Int32.ofInt a1)), (2, .int (Int32.ofInt a2)), (3, .int (Int32.ofInt a3)), (4, .int (Int32.ofInt a4))] [] cs
  have hP : ∀ (v : Int) (S : St) (cs : List va_E), K v S → Wd G sh mT J S cs → qI G sh mT J K (some (.int (Int32.ofInt v))) cs := fun v S cs a b => ⟨v, S, rfl, a, b⟩
  unfold wX11_fieldNamed at hw
  have hw := hw g1 g2 g3 g4
  refine z_bipush (v := Int32.ofInt (-2)) dX11_fieldNamed_0 (by decide) ?_
  refine z_istore dX11_fieldNamed_2 (by decide) ?_
  refine z_iconst (v := Int32.ofInt 0) dX11_fieldNamed_4 rfl ?_
  refine z_istore dX11_fieldNamed_5 (by decide) ?_
  refine z_loc (L' := [(0, .ref (G.1 + 54)), (1, .int (Int32.ofInt (a1))), (2, .int (Int32.ofInt (a2))), (3, .int (Int32.ofInt (a3))), (4, .int (Int32.ofInt (a4))), (5, .int (Int32.ofInt ((-2)))), (6, .int (Int32.ofInt (0)))]) (List.forall_mem_cons.mpr ⟨rfl, (List.forall_mem_cons.mpr ⟨rfl, (List.forall_mem_cons.mpr ⟨rfl, (List.forall_mem_cons.mpr ⟨rfl, (List.forall_mem_cons.mpr ⟨rfl, (List.forall_mem_cons.mpr ⟨rfl, (List.forall_mem_cons.mpr ⟨rfl, (fun _ h => nomatch h)⟩)⟩)⟩)⟩)⟩)⟩)⟩) ?_
  exact bX11_fieldNamed_7 hd hJ hT hW hP  hw

def wX11_forbid (a1 a2 : Int) (S : St) (K : Int → St → Prop) : Prop := rng a1 → rng a2 → (iv 0 6 (S.1 54 2) → (rng ((S.1 54 2 - 1)) ∧ (wX11_in (a1) (0) ((S.1 54 2 - 1)) S (fun r3 S4 => (rng (r3) ∧ ((¬ r3 = 0 → ((0 : Int) ≤ a1 ∧ a1 < (6 : Int) ∧ (iv 0 1 (S4.2 61 (a1)) → ((0 : Int) ≤ a1 ∧ a1 < (6 : Int) ∧ (iv 0 1 (a2) ∧ (∀ S10, S10 = pA S4 61 (a1) (a2) → K (S4.2 61 (a1)) S10)))))) ∧ ((¬ (¬ r3 = 0)) → K (0) S4)))))))
set_option maxRecDepth 100000 in
set_option maxHeartbeats 4000000 in
theorem lX11_forbid {G : xG} {sh : Nat → Option Sh} {J : St → List va_E → Prop} {a1 a2 : Int} {S : St} {cs : List va_E} {K : Int → St → Prop} (d : Nat) (hd : 1 ≤ d) (hJ : Stb sh J) (hT : isM sh) (hW : Wd G sh mT J S cs) (g1 : rng a1) (g2 : rng a2) (hw : wX11_forbid a1 a2 S K) : X G yX11_forbid cX11_forbid 4 (some .boolean) d [.ref (G.1 + 54), .int (Int32.ofInt a1), .int (Int32.ofInt a2)] cs (qI G sh mT J K) := by
  refine X.of false (by decide +kernel) (by decide) (Nat.le_of_ble_eq_true rfl) ?_
  show Z (RX11, cX11_forbid, 4, some .boolean, false) G d _ 0 [(0, .ref (G.1 + 54)), (1, .int (Int32.ofInt a1)), (2, .int (Int32.ofInt a2))] [] cs
  have hP : ∀ (v : Int) (S : St) (cs : List va_E), K v S → Wd G sh mT J S cs → qI G sh mT J K (some (.int (Int32.ofInt v))) cs := fun v S cs a b => ⟨v, S, rfl, a, b⟩
  unfold wX11_forbid at hw
  have hw := hw g1 g2
  refine z_iload_n dX11_forbid_0 rfl rfl ?_
  refine z_iconst (v := Int32.ofInt 0) dX11_forbid_1 rfl ?_
  refine z_aload_n dX11_forbid_2 rfl rfl ?_
  have q1 : iv 0 6 (S.1 54 2) := mI2 hW
  have hw := hw q1
  refine g_getI hW hT.1 mr2 kX11 fX11_238 dX11_forbid_3 ?_
  refine z_iconst (v := Int32.ofInt 1) dX11_forbid_6 rfl ?_
  refine i_isub dX11_forbid_7 ?_
  obtain ⟨q2, hw⟩ := hw
  have hX := lX11_in 0 (Nat.le_refl _) hJ hT hW g1 ⟨by decide, by decide⟩ q2 hw
  refine z_callS (As := [_, _, _]) eX11_in sX11_in lX11_174 dX11_forbid_8 hX (Nat.le_trans (by decide) hd) rfl (Nat.le_of_ble_eq_true rfl) (fun r cs hp => ?_)
  obtain ⟨r3, S4, rfl, hw, hW⟩ := hp
  refine z_st (st' := [.int (Int32.ofInt (r3))]) rfl ?_
  obtain ⟨q6, hw⟩ := hw
  refine i_if_ne (tgt := 16) dX11_forbid_11 (by decide) q6 (fun h5 => ?_) (fun h5 => ?_)
  · have hw := hw.1 h5
    refine z_aload_n dX11_forbid_16 rfl rfl ?_
    refine g_getR hW hT.1 mr8 kX11 fX11_29 dX11_forbid_17 ?_
    refine z_iload_n dX11_forbid_20 rfl rfl ?_
    obtain ⟨q7a, q7b, hw⟩ := hw
    have q8 : iv 0 1 (S4.2 61 (a1)) := mA61 hW _
    have hw := hw q8
    refine g_zald hW (ma61 hT) q7a q7b (by decide) dX11_forbid_21 ?_
    refine z_istore_n dX11_forbid_22 rfl (by decide) ?_
    refine z_aload_n dX11_forbid_23 rfl rfl ?_
    refine g_getR hW hT.1 mr8 kX11 fX11_29 dX11_forbid_24 ?_
    refine z_iload_n dX11_forbid_27 rfl rfl ?_
    refine z_iload_n dX11_forbid_28 rfl rfl ?_
    obtain ⟨q9a, q9b, hw⟩ := hw
    obtain ⟨q11, hw⟩ := hw
    refine g_zast hJ hW (ma61 hT) q9a q9b (by decide) (b01 q11) q11 dX11_forbid_29 (fun cs hW => ?_)
    obtain ⟨S10, hS10⟩ : ∃ x, x = pA S4 61 (a1) (a2) := ⟨_, rfl⟩
    rw [← hS10] at hW
    have hw := hw S10 hS10
    refine z_iload_n dX11_forbid_30 rfl rfl ?_
    exact z_ireturn dX11_forbid_31 rfl (nar01 (b01 q8)) (hP _ _ _ hw hW)
  · have hw := hw.2 h5
    refine z_iconst (v := Int32.ofInt 0) dX11_forbid_14 rfl ?_
    exact z_ireturn dX11_forbid_15 rfl (nar01 (by decide)) (hP _ _ _ hw hW)

def wX11_lists_178 (l1 : Int) (S : St) (K : Int → St → Prop) : Prop := ((0 : Int) ≤ l1 ∧ l1 < (24 : Int) ∧ (iv 0 4 (S.2 80 (l1)) → ((0 : Int) ≤ l1 ∧ l1 < (24 : Int) ∧ (iv 0 4 ((S.2 80 (l1) + 1)) ∧ (∀ S4, S4 = pA S 80 (l1) ((S.2 80 (l1) + 1)) → ((0 : Int) ≤ l1 ∧ l1 < (24 : Int) ∧ (∀ S7, S7 = pA S4 81 (l1) (0) → K (1) S7)))))))
set_option maxRecDepth 100000 in
set_option maxHeartbeats 4000000 in
theorem bX11_lists_178 {G : xG} {sh : Nat → Option Sh} {J : St → List va_E → Prop} {d : Nat} {Post : xP} {l1 : Int} {S : St} {cs : List va_E} {K : Int → St → Prop} (hd : 7 ≤ d) (hJ : Stb sh J) (hT : isM sh) (hW : Wd G sh mT J S cs) (hP : ∀ (v : Int) (S : St) (cs : List va_E), K v S → Wd G sh mT J S cs → Post (some (.int (Int32.ofInt v))) cs)  (hw : wX11_lists_178 l1 S K ) : Z (RX11, cX11_lists, 8, some .boolean, false) G d Post 178 [(0, .ref (G.1 + 54)), (1, .int (Int32.ofInt (l1)))] [] cs := by
  unfold wX11_lists_178 at hw
  refine z_aload_n dX11_lists_178 rfl rfl ?_
  refine g_getR hW hT.1 mr36 kX11 fX11_90 dX11_lists_179 ?_
  refine z_iload_n dX11_lists_182 rfl rfl ?_
  refine z_dup2 dX11_lists_183 rfl rfl ?_
  obtain ⟨q1a, q1b, hw⟩ := hw
  have q2 : iv 0 4 (S.2 80 (l1)) := mA80 hW _
  have hw := hw q2
  refine g_iald hW (ma80 hT) q1a q1b (by decide) dX11_lists_184 ?_
  refine z_iconst (v := Int32.ofInt 1) dX11_lists_185 rfl ?_
  refine i_iadd dX11_lists_186 ?_
  obtain ⟨q3a, q3b, hw⟩ := hw
  obtain ⟨q5, hw⟩ := hw
  refine g_iast hJ hW (ma80 hT) q3a q3b (by decide) q5 dX11_lists_187 (fun cs hW => ?_)
  obtain ⟨S4, hS4⟩ : ∃ x, x = pA S 80 (l1) ((S.2 80 (l1) + 1)) := ⟨_, rfl⟩
  rw [← hS4] at hW
  have hw := hw S4 hS4
  refine z_aload_n dX11_lists_188 rfl rfl ?_
  refine g_getR hW hT.1 mr37 kX11 fX11_93 dX11_lists_189 ?_
  refine z_iload_n dX11_lists_192 rfl rfl ?_
  refine z_iconst (v := Int32.ofInt 0) dX11_lists_193 rfl ?_
  obtain ⟨q6a, q6b, hw⟩ := hw
  refine g_iast hJ hW (ma81 hT) q6a q6b (by decide) ⟨by decide, by decide⟩ dX11_lists_194 (fun cs hW => ?_)
  obtain ⟨S7, hS7⟩ : ∃ x, x = pA S4 81 (l1) (0) := ⟨_, rfl⟩
  rw [← hS7] at hW
  have hw := hw S7 hS7
  refine z_iconst (v := Int32.ofInt 1) dX11_lists_195 rfl ?_
  exact z_ireturn dX11_lists_196 rfl (nar01 (by decide)) (hP _ _ _ hw hW)
def wX11_lists_145 (l4 l7 s0 s1 : Int) (S : St) (K : Int → St → Prop) : Prop := ((0 : Int) ≤ l7 ∧ l7 < (90 : Int) ∧ (iv 0 5 (S.2 68 (l7)) → (rng (s1) ∧ (rng (s0) ∧ (rng (l4) ∧ (wX11_child (s1) (s0) (S.2 68 (l7)) (0) (l4) S (fun r6 S7 => (iv 0 1 (r6) ∧ K (r6) S7))))))))
set_option maxRecDepth 100000 in
set_option maxHeartbeats 4000000 in
theorem bX11_lists_145 {G : xG} {sh : Nat → Option Sh} {J : St → List va_E → Prop} {d : Nat} {Post : xP} {l4 l7 s0 s1 : Int} {S : St} {cs : List va_E} {K : Int → St → Prop} (hd : 7 ≤ d) (hJ : Stb sh J) (hT : isM sh) (hW : Wd G sh mT J S cs) (hP : ∀ (v : Int) (S : St) (cs : List va_E), K v S → Wd G sh mT J S cs → Post (some (.int (Int32.ofInt v))) cs)  (hw : wX11_lists_145 l4 l7 s0 s1 S K ) : Z (RX11, cX11_lists, 8, some .boolean, false) G d Post 145 [(0, .ref (G.1 + 54)), (4, .int (Int32.ofInt (l4))), (7, .int (Int32.ofInt (l7)))] [.int (Int32.ofInt (s0)), .int (Int32.ofInt (s1)), .ref (G.1 + 54)] cs := by
  unfold wX11_lists_145 at hw
  refine z_aload_n dX11_lists_145 rfl rfl ?_
  refine g_getR hW hT.1 mr15 kX11 fX11_50 dX11_lists_146 ?_
  refine z_iload dX11_lists_149 rfl ?_
  obtain ⟨q1a, q1b, hw⟩ := hw
  have q2 : iv 0 5 (S.2 68 (l7)) := mA68 hW _
  have hw := hw q2
  refine g_iald hW (ma68 hT) q1a q1b (by decide) dX11_lists_151 ?_
  refine z_iconst (v := Int32.ofInt 0) dX11_lists_152 rfl ?_
  refine z_iload dX11_lists_153 rfl ?_
  obtain ⟨q3, hw⟩ := hw
  obtain ⟨q4, hw⟩ := hw
  obtain ⟨q5, hw⟩ := hw
  have hX := lX11_child 6 (Nat.le_refl _) hJ hT hW q3 q4 (rngq q2 (by decide) (by decide)) ⟨by decide, by decide⟩ q5 hw
  refine z_callV (As := [_, _, _, _, _]) eX11_child sX11_child lX11_333 rfl dX11_lists_155 (hW.1 _ _ hT.1) hX (Nat.le_trans (by decide) hd) rfl (Nat.le_of_ble_eq_true rfl) (fun r cs hp => ?_)
  obtain ⟨r6, S7, rfl, hw, hW⟩ := hp
  refine z_st (st' := [.int (Int32.ofInt (r6))]) rfl ?_
  obtain ⟨q8, hw⟩ := hw
  exact z_ireturn dX11_lists_158 rfl (nar01 (b01 q8)) (hP _ _ _ hw hW)
def wX11_lists_74 (l1 l2 l3 l4 l5 l6 : Int) (S : St) (K : Int → St → Prop) : Prop := (rng (l6) ∧ (rng (l3) ∧ ((l3 ≤ l6 → ((0 : Int) ≤ l2 ∧ l2 < (24 : Int) ∧ (iv 0 1 (S.2 60 (l2)) → ((¬ S.2 60 (l2) = 0 → wX11_lists_178 (l1) S K) ∧ ((¬ (¬ S.2 60 (l2) = 0)) → ((l3 ≤ 0 → wX11_lists_178 (l1) S K) ∧ ((¬ (l3 ≤ 0)) → (rng (l5) ∧ (wX11_end (l5) S (fun r9 S10 => wX11_lists_178 (l1) S10 K)))))))))) ∧ ((¬ (l3 ≤ l6)) → ((0 : Int) ≤ l1 ∧ l1 < (24 : Int) ∧ (iv 0 8 (S.2 81 (l1)) → ((0 : Int) ≤ l1 ∧ l1 < (24 : Int) ∧ (iv 0 8 ((S.2 81 (l1) + 1)) ∧ (∀ S14, S14 = pA S 81 (l1) ((S.2 81 (l1) + 1)) → ((0 : Int) ≤ l1 ∧ l1 < (24 : Int) ∧ (iv 0 29 (S14.2 77 (l1)) → ((0 : Int) ≤ l1 ∧ l1 < (24 : Int) ∧ (iv 0 4 (S14.2 80 (l1)) → ((0 : Int) ≤ ((20 * ((4 * S14.2 77 (l1)) + S14.2 80 (l1))) + l6) ∧ ((20 * ((4 * S14.2 77 (l1)) + S14.2 80 (l1))) + l6) < (7200 : Int) ∧ (iv (-2147483648) 2147483647 (S14.2 70 (((20 * ((4 * S14.2 77 (l1)) + S14.2 80 (l1))) + l6))) → ((0 : Int) ≤ l2 ∧ l2 < (24 : Int) ∧ (iv 0 1 (S14.2 60 (l2)) → ((S14.2 60 (l2) = 0 → ((0 : Int) ≤ l1 ∧ l1 < (24 : Int) ∧ (iv (-2) 899 (S14.2 82 (l1)) → wX11_lists_145 (l4) (S14.2 70 (((20 * ((4 * S14.2 77 (l1)) + S14.2 80 (l1))) + l6))) (S14.2 82 (l1)) (S14.2 70 (((20 * ((4 * S14.2 77 (l1)) + S14.2 80 (l1))) + l6))) S14 K))) ∧ ((¬ (S14.2 60 (l2) = 0)) → ((0 : Int) ≤ l1 ∧ l1 < (24 : Int) ∧ (iv 0 899 (S14.2 78 (l1)) → wX11_lists_145 (l4) (S14.2 70 (((20 * ((4 * S14.2 77 (l1)) + S14.2 80 (l1))) + l6))) (S14.2 78 (l1)) (S14.2 70 (((20 * ((4 * S14.2 77 (l1)) + S14.2 80 (l1))) + l6))) S14 K)))))))))))))))))))))
set_option maxRecDepth 100000 in
set_option maxHeartbeats 4000000 in
theorem bX11_lists_74 {G : xG} {sh : Nat → Option Sh} {J : St → List va_E → Prop} {d : Nat} {Post : xP} {l1 l2 l3 l4 l5 l6 : Int} {S : St} {cs : List va_E} {K : Int → St → Prop} (hd : 7 ≤ d) (hJ : Stb sh J) (hT : isM sh) (hW : Wd G sh mT J S cs) (hP : ∀ (v : Int) (S : St) (cs : List va_E), K v S → Wd G sh mT J S cs → Post (some (.int (Int32.ofInt v))) cs)  (hw : wX11_lists_74 l1 l2 l3 l4 l5 l6 S K ) : Z (RX11, cX11_lists, 8, some .boolean, false) G d Post 74 [(0, .ref (G.1 + 54)), (1, .int (Int32.ofInt (l1))), (2, .int (Int32.ofInt (l2))), (3, .int (Int32.ofInt (l3))), (4, .int (Int32.ofInt (l4))), (5, .int (Int32.ofInt (l5))), (6, .int (Int32.ofInt (l6)))] [] cs := by
  unfold wX11_lists_74 at hw
  refine z_iload dX11_lists_74 rfl ?_
  refine z_iload_n dX11_lists_76 rfl rfl ?_
  obtain ⟨q2, hw⟩ := hw
  obtain ⟨q3, hw⟩ := hw
  refine i_icmp_ge (tgt := 159) dX11_lists_77 (by decide) q2 q3 (fun h1 => ?_) (fun h1 => ?_)
  · have hw := hw.1 h1
    refine z_aload_n dX11_lists_159 rfl rfl ?_
    refine g_getR hW hT.1 mr7 kX11 fX11_25 dX11_lists_160 ?_
    refine z_iload_n dX11_lists_163 rfl rfl ?_
    obtain ⟨q4a, q4b, hw⟩ := hw
    have q5 : iv 0 1 (S.2 60 (l2)) := mA60 hW _
    have hw := hw q5
    refine g_zald hW (ma60 hT) q4a q4b (by decide) dX11_lists_164 ?_
    refine i_if_ne (tgt := 178) dX11_lists_165 (by decide) (rngq q5 (by decide) (by decide)) (fun h6 => ?_) (fun h6 => ?_)
    · have hw := hw.1 h6
      refine z_loc (L' := [(0, .ref (G.1 + 54)), (1, .int (Int32.ofInt (l1)))]) (List.forall_mem_cons.mpr ⟨rfl, (List.forall_mem_cons.mpr ⟨rfl, (fun _ h => nomatch h)⟩)⟩) ?_
      exact bX11_lists_178 hd hJ hT hW hP  hw
    · have hw := hw.2 h6
      refine z_iload_n dX11_lists_168 rfl rfl ?_
      refine i_if_le (tgt := 178) dX11_lists_169 (by decide) q3 (fun h7 => ?_) (fun h7 => ?_)
      · have hw := hw.1 h7
        refine z_loc (L' := [(0, .ref (G.1 + 54)), (1, .int (Int32.ofInt (l1)))]) (List.forall_mem_cons.mpr ⟨rfl, (List.forall_mem_cons.mpr ⟨rfl, (fun _ h => nomatch h)⟩)⟩) ?_
        exact bX11_lists_178 hd hJ hT hW hP  hw
      · have hw := hw.2 h7
        refine z_aload_n dX11_lists_172 rfl rfl ?_
        refine z_iload dX11_lists_173 rfl ?_
        obtain ⟨q8, hw⟩ := hw
        have hX := lX11_end 2 (Nat.le_refl _) hJ hT hW q8 hw
        refine z_callV (As := [_]) eX11_end sX11_end lX11_326 rfl dX11_lists_175 (hW.1 _ _ hT.1) hX (Nat.le_trans (by decide) hd) rfl (Nat.le_of_ble_eq_true rfl) (fun r cs hp => ?_)
        obtain ⟨r9, S10, rfl, hw, hW⟩ := hp
        refine z_st (st' := []) rfl ?_
        refine z_loc (L' := [(0, .ref (G.1 + 54)), (1, .int (Int32.ofInt (l1)))]) (List.forall_mem_cons.mpr ⟨rfl, (List.forall_mem_cons.mpr ⟨rfl, (fun _ h => nomatch h)⟩)⟩) ?_
        exact bX11_lists_178 hd hJ hT hW hP  hw
  · have hw := hw.2 h1
    refine z_aload_n dX11_lists_80 rfl rfl ?_
    refine g_getR hW hT.1 mr37 kX11 fX11_93 dX11_lists_81 ?_
    refine z_iload_n dX11_lists_84 rfl rfl ?_
    refine z_dup2 dX11_lists_85 rfl rfl ?_
    obtain ⟨q11a, q11b, hw⟩ := hw
    have q12 : iv 0 8 (S.2 81 (l1)) := mA81 hW _
    have hw := hw q12
    refine g_iald hW (ma81 hT) q11a q11b (by decide) dX11_lists_86 ?_
    refine z_iconst (v := Int32.ofInt 1) dX11_lists_87 rfl ?_
    refine i_iadd dX11_lists_88 ?_
    obtain ⟨q13a, q13b, hw⟩ := hw
    obtain ⟨q15, hw⟩ := hw
    refine g_iast hJ hW (ma81 hT) q13a q13b (by decide) q15 dX11_lists_89 (fun cs hW => ?_)
    obtain ⟨S14, hS14⟩ : ∃ x, x = pA S 81 (l1) ((S.2 81 (l1) + 1)) := ⟨_, rfl⟩
    rw [← hS14] at hW
    have hw := hw S14 hS14
    refine z_aload_n dX11_lists_90 rfl rfl ?_
    refine g_getR hW hT.1 mr17 kX11 fX11_56 dX11_lists_91 ?_
    refine z_bipush (v := Int32.ofInt 20) dX11_lists_94 (by decide) ?_
    refine z_iconst (v := Int32.ofInt 4) dX11_lists_96 rfl ?_
    refine z_aload_n dX11_lists_97 rfl rfl ?_
    refine g_getR hW hT.1 mr33 kX11 fX11_81 dX11_lists_98 ?_
    refine z_iload_n dX11_lists_101 rfl rfl ?_
    obtain ⟨q16a, q16b, hw⟩ := hw
    have q17 : iv 0 29 (S14.2 77 (l1)) := mA77 hW _
    have hw := hw q17
    refine g_iald hW (ma77 hT) q16a q16b (by decide) dX11_lists_102 ?_
    refine i_imul dX11_lists_103 ?_
    refine z_aload_n dX11_lists_104 rfl rfl ?_
    refine g_getR hW hT.1 mr36 kX11 fX11_90 dX11_lists_105 ?_
    refine z_iload_n dX11_lists_108 rfl rfl ?_
    obtain ⟨q18a, q18b, hw⟩ := hw
    have q19 : iv 0 4 (S14.2 80 (l1)) := mA80 hW _
    have hw := hw q19
    refine g_iald hW (ma80 hT) q18a q18b (by decide) dX11_lists_109 ?_
    refine i_iadd dX11_lists_110 ?_
    refine i_imul dX11_lists_111 ?_
    refine z_iload dX11_lists_112 rfl ?_
    refine i_iadd dX11_lists_114 ?_
    obtain ⟨q20a, q20b, hw⟩ := hw
    have q21 : iv (-2147483648) 2147483647 (S14.2 70 (((20 * ((4 * S14.2 77 (l1)) + S14.2 80 (l1))) + l6))) := mA70 hW _
    have hw := hw q21
    refine g_iald hW (ma70 hT) q20a q20b (by decide) dX11_lists_115 ?_
    refine z_istore dX11_lists_116 (by decide) ?_
    refine z_aload_n dX11_lists_118 rfl rfl ?_
    refine z_iload dX11_lists_119 rfl ?_
    refine z_aload_n dX11_lists_121 rfl rfl ?_
    refine g_getR hW hT.1 mr7 kX11 fX11_25 dX11_lists_122 ?_
    refine z_iload_n dX11_lists_125 rfl rfl ?_
    obtain ⟨q22a, q22b, hw⟩ := hw
    have q23 : iv 0 1 (S14.2 60 (l2)) := mA60 hW _
    have hw := hw q23
    refine g_zald hW (ma60 hT) q22a q22b (by decide) dX11_lists_126 ?_
    refine i_if_eq (tgt := 139) dX11_lists_127 (by decide) (rngq q23 (by decide) (by decide)) (fun h24 => ?_) (fun h24 => ?_)
    · have hw := hw.1 h24
      refine z_aload_n dX11_lists_139 rfl rfl ?_
      refine g_getR hW hT.1 mr38 kX11 fX11_96 dX11_lists_140 ?_
      refine z_iload_n dX11_lists_143 rfl rfl ?_
      obtain ⟨q25a, q25b, hw⟩ := hw
      have q26 : iv (-2) 899 (S14.2 82 (l1)) := mA82 hW _
      have hw := hw q26
      refine g_iald hW (ma82 hT) q25a q25b (by decide) dX11_lists_144 ?_
      refine z_loc (L' := [(0, .ref (G.1 + 54)), (4, .int (Int32.ofInt (l4))), (7, .int (Int32.ofInt (S14.2 70 (((20 * ((4 * S14.2 77 (l1)) + S14.2 80 (l1))) + l6)))))]) (List.forall_mem_cons.mpr ⟨rfl, (List.forall_mem_cons.mpr ⟨rfl, (List.forall_mem_cons.mpr ⟨rfl, (fun _ h => nomatch h)⟩)⟩)⟩) ?_
      exact bX11_lists_145 hd hJ hT hW hP  hw
    · have hw := hw.2 h24
      refine z_aload_n dX11_lists_130 rfl rfl ?_
      refine g_getR hW hT.1 mr34 kX11 fX11_84 dX11_lists_131 ?_
      refine z_iload_n dX11_lists_134 rfl rfl ?_
      obtain ⟨q27a, q27b, hw⟩ := hw
      have q28 : iv 0 899 (S14.2 78 (l1)) := mA78 hW _
      have hw := hw q28
      refine g_iald hW (ma78 hT) q27a q27b (by decide) dX11_lists_135 ?_
      refine z_goto (tgt := 145) dX11_lists_136 (by decide) ?_
      refine z_loc (L' := [(0, .ref (G.1 + 54)), (4, .int (Int32.ofInt (l4))), (7, .int (Int32.ofInt (S14.2 70 (((20 * ((4 * S14.2 77 (l1)) + S14.2 80 (l1))) + l6)))))]) (List.forall_mem_cons.mpr ⟨rfl, (List.forall_mem_cons.mpr ⟨rfl, (List.forall_mem_cons.mpr ⟨rfl, (fun _ h => nomatch h)⟩)⟩)⟩) ?_
      exact bX11_lists_145 hd hJ hT hW hP  hw
def wX11_lists_68 (l1 l2 l3 l4 l5 l6 : Int) (S : St) (K : Int → St → Prop) : Prop := (wX11_put (62) S (fun r1 S2 => wX11_lists_74 (l1) (l2) (l3) (l4) (l5) (l6) S2 K))
set_option maxRecDepth 100000 in
set_option maxHeartbeats 4000000 in
theorem bX11_lists_68 {G : xG} {sh : Nat → Option Sh} {J : St → List va_E → Prop} {d : Nat} {Post : xP} {l1 l2 l3 l4 l5 l6 : Int} {S : St} {cs : List va_E} {K : Int → St → Prop} (hd : 7 ≤ d) (hJ : Stb sh J) (hT : isM sh) (hW : Wd G sh mT J S cs) (hP : ∀ (v : Int) (S : St) (cs : List va_E), K v S → Wd G sh mT J S cs → Post (some (.int (Int32.ofInt v))) cs)  (hw : wX11_lists_68 l1 l2 l3 l4 l5 l6 S K ) : Z (RX11, cX11_lists, 8, some .boolean, false) G d Post 68 [(0, .ref (G.1 + 54)), (1, .int (Int32.ofInt (l1))), (2, .int (Int32.ofInt (l2))), (3, .int (Int32.ofInt (l3))), (4, .int (Int32.ofInt (l4))), (5, .int (Int32.ofInt (l5))), (6, .int (Int32.ofInt (l6)))] [] cs := by
  unfold wX11_lists_68 at hw
  refine z_aload_n dX11_lists_68 rfl rfl ?_
  refine z_bipush (v := Int32.ofInt 62) dX11_lists_69 (by decide) ?_
  have hX := lX11_put 0 (Nat.le_refl _) hJ hT hW ⟨by decide, by decide⟩ hw
  refine z_callV (As := [_]) eX11_put sX11_put lX11_260 rfl dX11_lists_71 (hW.1 _ _ hT.1) hX (Nat.le_trans (by decide) hd) rfl (Nat.le_of_ble_eq_true rfl) (fun r cs hp => ?_)
  obtain ⟨r1, S2, rfl, hw, hW⟩ := hp
  refine z_st (st' := []) rfl ?_
  refine z_loc (L' := [(0, .ref (G.1 + 54)), (1, .int (Int32.ofInt (l1))), (2, .int (Int32.ofInt (l2))), (3, .int (Int32.ofInt (l3))), (4, .int (Int32.ofInt (l4))), (5, .int (Int32.ofInt (l5))), (6, .int (Int32.ofInt (l6)))]) (List.forall_mem_cons.mpr ⟨rfl, (List.forall_mem_cons.mpr ⟨rfl, (List.forall_mem_cons.mpr ⟨rfl, (List.forall_mem_cons.mpr ⟨rfl, (List.forall_mem_cons.mpr ⟨rfl, (List.forall_mem_cons.mpr ⟨rfl, (List.forall_mem_cons.mpr ⟨rfl, (fun _ h => nomatch h)⟩)⟩)⟩)⟩)⟩)⟩)⟩) ?_
  exact bX11_lists_74 hd hJ hT hW hP  hw
def wX11_lists (a1 a2 a3 a4 : Int) (S : St) (K : Int → St → Prop) : Prop := rng a1 → rng a2 → rng a3 → rng a4 → ((0 : Int) ≤ a1 ∧ a1 < (24 : Int) ∧ (iv 0 8 (S.2 81 (a1)) → ((¬ S.2 81 (a1) = 0 → wX11_lists_74 (a1) (a2) (a3) (a4) ((6 + a2)) (S.2 81 (a1)) S K) ∧ ((¬ (¬ S.2 81 (a1) = 0)) → ((0 : Int) ≤ a2 ∧ a2 < (24 : Int) ∧ (iv 0 1 (S.2 60 (a2)) → ((¬ S.2 60 (a2) = 0 → wX11_lists_74 (a1) (a2) (a3) (a4) ((6 + a2)) (S.2 81 (a1)) S K) ∧ ((¬ (¬ S.2 60 (a2) = 0)) → ((0 : Int) ≤ a1 ∧ a1 < (24 : Int) ∧ (iv 0 899 (S.2 78 (a1)) → (rng ((6 + a2)) ∧ (wX11_element (S.2 78 (a1)) ((6 + a2)) S (fun r10 S11 => ((0 : Int) ≤ a1 ∧ a1 < (24 : Int) ∧ (iv (-2) 899 (r10) ∧ (∀ S13, S13 = pA S11 82 (a1) (r10) → (wX11_put (60) S13 (fun r15 S16 => (wX11_putName ((6 + a2)) S16 (fun r17 S18 => ((¬ a3 = 0 → wX11_lists_68 (a1) (a2) (a3) (a4) ((6 + a2)) (S.2 81 (a1)) S18 K) ∧ ((¬ (¬ a3 = 0)) → (wX11_put (47) S18 (fun r20 S21 => wX11_lists_68 (a1) (a2) (a3) (a4) ((6 + a2)) (S.2 81 (a1)) S21 K))))))))))))))))))))))))
set_option maxRecDepth 100000 in
set_option maxHeartbeats 4000000 in
theorem lX11_lists {G : xG} {sh : Nat → Option Sh} {J : St → List va_E → Prop} {a1 a2 a3 a4 : Int} {S : St} {cs : List va_E} {K : Int → St → Prop} (d : Nat) (hd : 7 ≤ d) (hJ : Stb sh J) (hT : isM sh) (hW : Wd G sh mT J S cs) (g1 : rng a1) (g2 : rng a2) (g3 : rng a3) (g4 : rng a4) (hw : wX11_lists a1 a2 a3 a4 S K) : X G yX11_lists cX11_lists 8 (some .boolean) d [.ref (G.1 + 54), .int (Int32.ofInt a1), .int (Int32.ofInt a2), .int (Int32.ofInt a3), .int (Int32.ofInt a4)] cs (qI G sh mT J K) := by
  refine X.of false (by decide +kernel) (by decide) (Nat.le_of_ble_eq_true rfl) ?_
  show Z (RX11, cX11_lists, 8, some .boolean, false) G d _ 0 [(0, .ref (G.1 + 54)), (1, .int (Int32.ofInt a1)), (2, .int (Int32.ofInt a2)), (3, .int (Int32.ofInt a3)), (4, .int (Int32.ofInt a4))] [] cs
  have hP : ∀ (v : Int) (S : St) (cs : List va_E), K v S → Wd G sh mT J S cs → qI G sh mT J K (some (.int (Int32.ofInt v))) cs := fun v S cs a b => ⟨v, S, rfl, a, b⟩
  unfold wX11_lists at hw
  have hw := hw g1 g2 g3 g4
  refine z_bipush (v := Int32.ofInt 6) dX11_lists_0 (by decide) ?_
  refine z_iload_n dX11_lists_2 rfl rfl ?_
  refine i_iadd dX11_lists_3 ?_
  refine z_istore dX11_lists_4 (by decide) ?_
  refine z_aload_n dX11_lists_6 rfl rfl ?_
  refine g_getR hW hT.1 mr37 kX11 fX11_93 dX11_lists_7 ?_
  refine z_iload_n dX11_lists_10 rfl rfl ?_
  obtain ⟨q1a, q1b, hw⟩ := hw
  have q2 : iv 0 8 (S.2 81 (a1)) := mA81 hW _
  have hw := hw q2
  refine g_iald hW (ma81 hT) q1a q1b (by decide) dX11_lists_11 ?_
  refine z_istore dX11_lists_12 (by decide) ?_
  refine z_iload dX11_lists_14 rfl ?_
  refine i_if_ne (tgt := 74) dX11_lists_16 (by decide) (rngq q2 (by decide) (by decide)) (fun h3 => ?_) (fun h3 => ?_)
  · have hw := hw.1 h3
    refine z_loc (L' := [(0, .ref (G.1 + 54)), (1, .int (Int32.ofInt (a1))), (2, .int (Int32.ofInt (a2))), (3, .int (Int32.ofInt (a3))), (4, .int (Int32.ofInt (a4))), (5, .int (Int32.ofInt ((6 + a2)))), (6, .int (Int32.ofInt (S.2 81 (a1))))]) (List.forall_mem_cons.mpr ⟨rfl, (List.forall_mem_cons.mpr ⟨rfl, (List.forall_mem_cons.mpr ⟨rfl, (List.forall_mem_cons.mpr ⟨rfl, (List.forall_mem_cons.mpr ⟨rfl, (List.forall_mem_cons.mpr ⟨rfl, (List.forall_mem_cons.mpr ⟨rfl, (fun _ h => nomatch h)⟩)⟩)⟩)⟩)⟩)⟩)⟩) ?_
    exact bX11_lists_74 hd hJ hT hW hP  hw
  · have hw := hw.2 h3
    refine z_aload_n dX11_lists_19 rfl rfl ?_
    refine g_getR hW hT.1 mr7 kX11 fX11_25 dX11_lists_20 ?_
    refine z_iload_n dX11_lists_23 rfl rfl ?_
    obtain ⟨q4a, q4b, hw⟩ := hw
    have q5 : iv 0 1 (S.2 60 (a2)) := mA60 hW _
    have hw := hw q5
    refine g_zald hW (ma60 hT) q4a q4b (by decide) dX11_lists_24 ?_
    refine i_if_ne (tgt := 74) dX11_lists_25 (by decide) (rngq q5 (by decide) (by decide)) (fun h6 => ?_) (fun h6 => ?_)
    · have hw := hw.1 h6
      refine z_loc (L' := [(0, .ref (G.1 + 54)), (1, .int (Int32.ofInt (a1))), (2, .int (Int32.ofInt (a2))), (3, .int (Int32.ofInt (a3))), (4, .int (Int32.ofInt (a4))), (5, .int (Int32.ofInt ((6 + a2)))), (6, .int (Int32.ofInt (S.2 81 (a1))))]) (List.forall_mem_cons.mpr ⟨rfl, (List.forall_mem_cons.mpr ⟨rfl, (List.forall_mem_cons.mpr ⟨rfl, (List.forall_mem_cons.mpr ⟨rfl, (List.forall_mem_cons.mpr ⟨rfl, (List.forall_mem_cons.mpr ⟨rfl, (List.forall_mem_cons.mpr ⟨rfl, (fun _ h => nomatch h)⟩)⟩)⟩)⟩)⟩)⟩)⟩) ?_
      exact bX11_lists_74 hd hJ hT hW hP  hw
    · have hw := hw.2 h6
      refine z_aload_n dX11_lists_28 rfl rfl ?_
      refine g_getR hW hT.1 mr38 kX11 fX11_96 dX11_lists_29 ?_
      refine z_iload_n dX11_lists_32 rfl rfl ?_
      refine z_aload_n dX11_lists_33 rfl rfl ?_
      refine z_aload_n dX11_lists_34 rfl rfl ?_
      refine g_getR hW hT.1 mr34 kX11 fX11_84 dX11_lists_35 ?_
      refine z_iload_n dX11_lists_38 rfl rfl ?_
      obtain ⟨q7a, q7b, hw⟩ := hw
      have q8 : iv 0 899 (S.2 78 (a1)) := mA78 hW _
      have hw := hw q8
      refine g_iald hW (ma78 hT) q7a q7b (by decide) dX11_lists_39 ?_
      refine z_iload dX11_lists_40 rfl ?_
      obtain ⟨q9, hw⟩ := hw
      have hX := lX11_element 1 (Nat.le_refl _) hJ hT hW (rngq q8 (by decide) (by decide)) q9 hw
      refine z_callV (As := [_, _]) eX11_element sX11_element lX11_297 rfl dX11_lists_42 (hW.1 _ _ hT.1) hX (Nat.le_trans (by decide) hd) rfl (Nat.le_of_ble_eq_true rfl) (fun r cs hp => ?_)
      obtain ⟨r10, S11, rfl, hw, hW⟩ := hp
      refine z_st (st' := [.int (Int32.ofInt (r10)), .int (Int32.ofInt (a1)), .ref (G.1 + 82)]) rfl ?_
      obtain ⟨q12a, q12b, hw⟩ := hw
      obtain ⟨q14, hw⟩ := hw
      refine g_iast hJ hW (ma82 hT) q12a q12b (by decide) q14 dX11_lists_45 (fun cs hW => ?_)
      obtain ⟨S13, hS13⟩ : ∃ x, x = pA S11 82 (a1) (r10) := ⟨_, rfl⟩
      rw [← hS13] at hW
      have hw := hw S13 hS13
      refine z_aload_n dX11_lists_46 rfl rfl ?_
      refine z_bipush (v := Int32.ofInt 60) dX11_lists_47 (by decide) ?_
      have hX := lX11_put 0 (Nat.le_refl _) hJ hT hW ⟨by decide, by decide⟩ hw
      refine z_callV (As := [_]) eX11_put sX11_put lX11_260 rfl dX11_lists_49 (hW.1 _ _ hT.1) hX (Nat.le_trans (by decide) hd) rfl (Nat.le_of_ble_eq_true rfl) (fun r cs hp => ?_)
      obtain ⟨r15, S16, rfl, hw, hW⟩ := hp
      refine z_st (st' := []) rfl ?_
      refine z_aload_n dX11_lists_52 rfl rfl ?_
      refine z_iload dX11_lists_53 rfl ?_
      have hX := lX11_putName 1 (Nat.le_refl _) hJ hT hW q9 hw
      refine z_callV (As := [_]) eX11_putName sX11_putName lX11_284 rfl dX11_lists_55 (hW.1 _ _ hT.1) hX (Nat.le_trans (by decide) hd) rfl (Nat.le_of_ble_eq_true rfl) (fun r cs hp => ?_)
      obtain ⟨r17, S18, rfl, hw, hW⟩ := hp
      refine z_st (st' := []) rfl ?_
      refine z_iload_n dX11_lists_58 rfl rfl ?_
      refine i_if_ne (tgt := 68) dX11_lists_59 (by decide) g3 (fun h19 => ?_) (fun h19 => ?_)
      · have hw := hw.1 h19
        refine z_loc (L' := [(0, .ref (G.1 + 54)), (1, .int (Int32.ofInt (a1))), (2, .int (Int32.ofInt (a2))), (3, .int (Int32.ofInt (a3))), (4, .int (Int32.ofInt (a4))), (5, .int (Int32.ofInt ((6 + a2)))), (6, .int (Int32.ofInt (S.2 81 (a1))))]) (List.forall_mem_cons.mpr ⟨rfl, (List.forall_mem_cons.mpr ⟨rfl, (List.forall_mem_cons.mpr ⟨rfl, (List.forall_mem_cons.mpr ⟨rfl, (List.forall_mem_cons.mpr ⟨rfl, (List.forall_mem_cons.mpr ⟨rfl, (List.forall_mem_cons.mpr ⟨rfl, (fun _ h => nomatch h)⟩)⟩)⟩)⟩)⟩)⟩)⟩) ?_
        exact bX11_lists_68 hd hJ hT hW hP  hw
      · have hw := hw.2 h19
        refine z_aload_n dX11_lists_62 rfl rfl ?_
        refine z_bipush (v := Int32.ofInt 47) dX11_lists_63 (by decide) ?_
        have hX := lX11_put 0 (Nat.le_refl _) hJ hT hW ⟨by decide, by decide⟩ hw
        refine z_callV (As := [_]) eX11_put sX11_put lX11_260 rfl dX11_lists_65 (hW.1 _ _ hT.1) hX (Nat.le_trans (by decide) hd) rfl (Nat.le_of_ble_eq_true rfl) (fun r cs hp => ?_)
        obtain ⟨r20, S21, rfl, hw, hW⟩ := hp
        refine z_st (st' := []) rfl ?_
        refine z_loc (L' := [(0, .ref (G.1 + 54)), (1, .int (Int32.ofInt (a1))), (2, .int (Int32.ofInt (a2))), (3, .int (Int32.ofInt (a3))), (4, .int (Int32.ofInt (a4))), (5, .int (Int32.ofInt ((6 + a2)))), (6, .int (Int32.ofInt (S.2 81 (a1))))]) (List.forall_mem_cons.mpr ⟨rfl, (List.forall_mem_cons.mpr ⟨rfl, (List.forall_mem_cons.mpr ⟨rfl, (List.forall_mem_cons.mpr ⟨rfl, (List.forall_mem_cons.mpr ⟨rfl, (List.forall_mem_cons.mpr ⟨rfl, (List.forall_mem_cons.mpr ⟨rfl, (fun _ h => nomatch h)⟩)⟩)⟩)⟩)⟩)⟩)⟩) ?_
        exact bX11_lists_68 hd hJ hT hW hP  hw

def wX11_goesOn_232 (l3 l4 l5 l7 : Int) (S : St) (K : Int → St → Prop) : Prop := (wX11_put (62) S (fun r1 S2 => (rng (l3) ∧ (rng (l5) ∧ (rng (l4) ∧ (wX11_putValue (l3) (l5) (l4) (0) S2 (fun r6 S7 => (rng (l7) ∧ (wX11_end (l7) S7 (fun r9 S10 => K (1) S10))))))))))
set_option maxRecDepth 100000 in
set_option maxHeartbeats 4000000 in
theorem bX11_goesOn_232 {G : xG} {sh : Nat → Option Sh} {J : St → List va_E → Prop} {d : Nat} {Post : xP} {l3 l4 l5 l7 : Int} {S : St} {cs : List va_E} {K : Int → St → Prop} (hd : 8 ≤ d) (hJ : Stb sh J) (hT : isM sh) (hW : Wd G sh mT J S cs) (hP : ∀ (v : Int) (S : St) (cs : List va_E), K v S → Wd G sh mT J S cs → Post (some (.int (Int32.ofInt v))) cs)  (hw : wX11_goesOn_232 l3 l4 l5 l7 S K ) : Z (RX11, cX11_goesOn, 10, some .boolean, false) G d Post 232 [(0, .ref (G.1 + 54)), (3, .int (Int32.ofInt (l3))), (4, .int (Int32.ofInt (l4))), (5, .int (Int32.ofInt (l5))), (7, .int (Int32.ofInt (l7)))] [] cs := by
  unfold wX11_goesOn_232 at hw
  refine z_aload_n dX11_goesOn_232 rfl rfl ?_
  refine z_bipush (v := Int32.ofInt 62) dX11_goesOn_233 (by decide) ?_
  have hX := lX11_put 0 (Nat.le_refl _) hJ hT hW ⟨by decide, by decide⟩ hw
  refine z_callV (As := [_]) eX11_put sX11_put lX11_260 rfl dX11_goesOn_235 (hW.1 _ _ hT.1) hX (Nat.le_trans (by decide) hd) rfl (Nat.le_of_ble_eq_true rfl) (fun r cs hp => ?_)
  obtain ⟨r1, S2, rfl, hw, hW⟩ := hp
  refine z_st (st' := []) rfl ?_
  refine z_aload_n dX11_goesOn_238 rfl rfl ?_
  refine z_iload_n dX11_goesOn_239 rfl rfl ?_
  refine z_iload dX11_goesOn_240 rfl ?_
  refine z_iload dX11_goesOn_242 rfl ?_
  refine z_iconst (v := Int32.ofInt 0) dX11_goesOn_244 rfl ?_
  obtain ⟨q3, hw⟩ := hw
  obtain ⟨q4, hw⟩ := hw
  obtain ⟨q5, hw⟩ := hw
  have hX := lX11_putValue 3 (Nat.le_refl _) hJ hT hW q3 q4 q5 ⟨by decide, by decide⟩ hw
  refine z_callV (As := [_, _, _, _]) eX11_putValue sX11_putValue lX11_309 rfl dX11_goesOn_245 (hW.1 _ _ hT.1) hX (Nat.le_trans (by decide) hd) rfl (Nat.le_of_ble_eq_true rfl) (fun r cs hp => ?_)
  obtain ⟨r6, S7, rfl, hw, hW⟩ := hp
  refine z_st (st' := []) rfl ?_
  refine z_aload_n dX11_goesOn_248 rfl rfl ?_
  refine z_iload dX11_goesOn_249 rfl ?_
  obtain ⟨q8, hw⟩ := hw
  have hX := lX11_end 2 (Nat.le_refl _) hJ hT hW q8 hw
  refine z_callV (As := [_]) eX11_end sX11_end lX11_326 rfl dX11_goesOn_251 (hW.1 _ _ hT.1) hX (Nat.le_trans (by decide) hd) rfl (Nat.le_of_ble_eq_true rfl) (fun r cs hp => ?_)
  obtain ⟨r9, S10, rfl, hw, hW⟩ := hp
  refine z_st (st' := []) rfl ?_
  refine z_iconst (v := Int32.ofInt 1) dX11_goesOn_254 rfl ?_
  exact z_ireturn dX11_goesOn_255 rfl (nar01 (by decide)) (hP _ _ _ hw hW)
def wX11_goesOn (a1 : Int) (S : St) (K : Int → St → Prop) : Prop := rng a1 → (iv 0 20 (S.1 54 32) → ((0 : Int) ≤ (S.1 54 32 - 1) ∧ (S.1 54 32 - 1) < (24 : Int) ∧ (iv 0 29 (S.2 77 ((S.1 54 32 - 1))) → ((0 : Int) ≤ S.2 77 ((S.1 54 32 - 1)) ∧ S.2 77 ((S.1 54 32 - 1)) < (90 : Int) ∧ (iv 0 5 (S.2 68 (S.2 77 ((S.1 54 32 - 1)))) → ((0 : Int) ≤ (S.1 54 32 - 1) ∧ (S.1 54 32 - 1) < (24 : Int) ∧ (iv 0 4 (S.2 80 ((S.1 54 32 - 1))) → ((0 : Int) ≤ S.2 68 (S.2 77 ((S.1 54 32 - 1))) ∧ S.2 68 (S.2 77 ((S.1 54 32 - 1))) < (6 : Int) ∧ (iv 0 4 (S.2 56 (S.2 68 (S.2 77 ((S.1 54 32 - 1))))) → ((¬ S.2 80 ((S.1 54 32 - 1)) = S.2 56 (S.2 68 (S.2 77 ((S.1 54 32 - 1)))) → ((0 : Int) ≤ ((4 * S.2 77 ((S.1 54 32 - 1))) + S.2 80 ((S.1 54 32 - 1))) ∧ ((4 * S.2 77 ((S.1 54 32 - 1))) + S.2 80 ((S.1 54 32 - 1))) < (360 : Int) ∧ (iv (-2147483648) 2147483647 (S.2 69 (((4 * S.2 77 ((S.1 54 32 - 1))) + S.2 80 ((S.1 54 32 - 1))))) → ((0 : Int) ≤ ((4 * S.2 68 (S.2 77 ((S.1 54 32 - 1)))) + S.2 80 ((S.1 54 32 - 1))) ∧ ((4 * S.2 68 (S.2 77 ((S.1 54 32 - 1)))) + S.2 80 ((S.1 54 32 - 1))) < (24 : Int) ∧ (iv 0 3 (S.2 59 (((4 * S.2 68 (S.2 77 ((S.1 54 32 - 1)))) + S.2 80 ((S.1 54 32 - 1))))) → ((¬ S.2 59 (((4 * S.2 68 (S.2 77 ((S.1 54 32 - 1)))) + S.2 80 ((S.1 54 32 - 1)))) = 3 → ((0 : Int) ≤ (S.1 54 32 - 1) ∧ (S.1 54 32 - 1) < (24 : Int) ∧ (iv 0 4 (S.2 80 ((S.1 54 32 - 1))) → ((0 : Int) ≤ (S.1 54 32 - 1) ∧ (S.1 54 32 - 1) < (24 : Int) ∧ (iv 0 4 ((S.2 80 ((S.1 54 32 - 1)) + 1)) ∧ (∀ S19, S19 = pA S 80 ((S.1 54 32 - 1)) ((S.2 80 ((S.1 54 32 - 1)) + 1)) → ((0 : Int) ≤ ((4 * S.2 68 (S.2 77 ((S.1 54 32 - 1)))) + S.2 80 ((S.1 54 32 - 1))) ∧ ((4 * S.2 68 (S.2 77 ((S.1 54 32 - 1)))) + S.2 80 ((S.1 54 32 - 1))) < (24 : Int) ∧ (iv 0 3 (S19.2 59 (((4 * S.2 68 (S.2 77 ((S.1 54 32 - 1)))) + S.2 80 ((S.1 54 32 - 1))))) → ((¬ S19.2 59 (((4 * S.2 68 (S.2 77 ((S.1 54 32 - 1)))) + S.2 80 ((S.1 54 32 - 1)))) = 2 → ((0 : Int) ≤ ((4 * S.2 68 (S.2 77 ((S.1 54 32 - 1)))) + S.2 80 ((S.1 54 32 - 1))) ∧ ((4 * S.2 68 (S.2 77 ((S.1 54 32 - 1)))) + S.2 80 ((S.1 54 32 - 1))) < (24 : Int) ∧ (iv 0 1 (S19.2 60 (((4 * S.2 68 (S.2 77 ((S.1 54 32 - 1)))) + S.2 80 ((S.1 54 32 - 1))))) → ((¬ S19.2 60 (((4 * S.2 68 (S.2 77 ((S.1 54 32 - 1)))) + S.2 80 ((S.1 54 32 - 1)))) = 0 → K (1) S19) ∧ ((¬ (¬ S19.2 60 (((4 * S.2 68 (S.2 77 ((S.1 54 32 - 1)))) + S.2 80 ((S.1 54 32 - 1)))) = 0)) → ((0 : Int) ≤ (S.1 54 32 - 1) ∧ (S.1 54 32 - 1) < (24 : Int) ∧ (iv 0 899 (S19.2 78 ((S.1 54 32 - 1))) → (rng ((6 + ((4 * S.2 68 (S.2 77 ((S.1 54 32 - 1)))) + S.2 80 ((S.1 54 32 - 1))))) ∧ (wX11_element (S19.2 78 ((S.1 54 32 - 1))) ((6 + ((4 * S.2 68 (S.2 77 ((S.1 54 32 - 1)))) + S.2 80 ((S.1 54 32 - 1))))) S19 (fun r30 S31 => (wX11_put (60) S31 (fun r32 S33 => (wX11_putName ((6 + ((4 * S.2 68 (S.2 77 ((S.1 54 32 - 1)))) + S.2 80 ((S.1 54 32 - 1))))) S33 (fun r34 S35 => ((0 : Int) ≤ ((4 * S.2 68 (S.2 77 ((S.1 54 32 - 1)))) + S.2 80 ((S.1 54 32 - 1))) ∧ ((4 * S.2 68 (S.2 77 ((S.1 54 32 - 1)))) + S.2 80 ((S.1 54 32 - 1))) < (24 : Int) ∧ (iv 0 3 (S35.2 59 (((4 * S.2 68 (S.2 77 ((S.1 54 32 - 1)))) + S.2 80 ((S.1 54 32 - 1))))) → ((¬ S35.2 59 (((4 * S.2 68 (S.2 77 ((S.1 54 32 - 1)))) + S.2 80 ((S.1 54 32 - 1)))) = 1 → wX11_goesOn_232 (S.2 77 ((S.1 54 32 - 1))) (S.2 68 (S.2 77 ((S.1 54 32 - 1)))) (S.2 80 ((S.1 54 32 - 1))) ((6 + ((4 * S.2 68 (S.2 77 ((S.1 54 32 - 1)))) + S.2 80 ((S.1 54 32 - 1))))) S35 K) ∧ ((¬ (¬ S35.2 59 (((4 * S.2 68 (S.2 77 ((S.1 54 32 - 1)))) + S.2 80 ((S.1 54 32 - 1)))) = 1)) → ((¬ S.2 69 (((4 * S.2 77 ((S.1 54 32 - 1))) + S.2 80 ((S.1 54 32 - 1)))) = 0 → wX11_goesOn_232 (S.2 77 ((S.1 54 32 - 1))) (S.2 68 (S.2 77 ((S.1 54 32 - 1)))) (S.2 80 ((S.1 54 32 - 1))) ((6 + ((4 * S.2 68 (S.2 77 ((S.1 54 32 - 1)))) + S.2 80 ((S.1 54 32 - 1))))) S35 K) ∧ ((¬ (¬ S.2 69 (((4 * S.2 77 ((S.1 54 32 - 1))) + S.2 80 ((S.1 54 32 - 1)))) = 0)) → (wX11_putWord (47) (62) (0) (0) S35 (fun r40 S41 => K (1) S41)))))))))))))))))))))) ∧ ((¬ (¬ S19.2 59 (((4 * S.2 68 (S.2 77 ((S.1 54 32 - 1)))) + S.2 80 ((S.1 54 32 - 1)))) = 2)) → ((S.2 69 (((4 * S.2 77 ((S.1 54 32 - 1))) + S.2 80 ((S.1 54 32 - 1)))) = (-2) → K (1) S19) ∧ ((¬ (S.2 69 (((4 * S.2 77 ((S.1 54 32 - 1))) + S.2 80 ((S.1 54 32 - 1)))) = (-2))) → ((0 : Int) ≤ (S.1 54 32 - 1) ∧ (S.1 54 32 - 1) < (24 : Int) ∧ (iv 0 899 (S19.2 78 ((S.1 54 32 - 1))) → (rng ((6 + ((4 * S.2 68 (S.2 77 ((S.1 54 32 - 1)))) + S.2 80 ((S.1 54 32 - 1))))) ∧ (wX11_child (S.2 69 (((4 * S.2 77 ((S.1 54 32 - 1))) + S.2 80 ((S.1 54 32 - 1))))) (S19.2 78 ((S.1 54 32 - 1))) ((6 + ((4 * S.2 68 (S.2 77 ((S.1 54 32 - 1)))) + S.2 80 ((S.1 54 32 - 1))))) (1) (a1) S19 (fun r46 S47 => (rng (r46) ∧ ((r46 = 0 → K (0) S47) ∧ ((¬ (r46 = 0)) → K (1) S47)))))))))))))))))))) ∧ ((¬ (¬ S.2 59 (((4 * S.2 68 (S.2 77 ((S.1 54 32 - 1)))) + S.2 80 ((S.1 54 32 - 1)))) = 3)) → (rng ((S.1 54 32 - 1)) ∧ (rng (((4 * S.2 68 (S.2 77 ((S.1 54 32 - 1)))) + S.2 80 ((S.1 54 32 - 1)))) ∧ (wX11_lists ((S.1 54 32 - 1)) (((4 * S.2 68 (S.2 77 ((S.1 54 32 - 1)))) + S.2 80 ((S.1 54 32 - 1)))) (S.2 69 (((4 * S.2 77 ((S.1 54 32 - 1))) + S.2 80 ((S.1 54 32 - 1))))) (a1) S (fun r52 S53 => (iv 0 1 (r52) ∧ K (r52) S53)))))))))))) ∧ ((¬ (¬ S.2 80 ((S.1 54 32 - 1)) = S.2 56 (S.2 68 (S.2 77 ((S.1 54 32 - 1)))))) → (iv 0 20 ((S.1 54 32 - 1)) ∧ (∀ S55, S55 = pI S 54 32 ((S.1 54 32 - 1)) → ((0 : Int) ≤ (S.1 54 32 - 1) ∧ (S.1 54 32 - 1) < (24 : Int) ∧ (iv 0 29 (S55.2 79 ((S.1 54 32 - 1))) → (wX11_end (S55.2 79 ((S.1 54 32 - 1))) S55 (fun r59 S60 => K (1) S60)))))))))))))))))
set_option maxRecDepth 100000 in
set_option maxHeartbeats 4000000 in
theorem lX11_goesOn {G : xG} {sh : Nat → Option Sh} {J : St → List va_E → Prop} {a1 : Int} {S : St} {cs : List va_E} {K : Int → St → Prop} (d : Nat) (hd : 8 ≤ d) (hJ : Stb sh J) (hT : isM sh) (hW : Wd G sh mT J S cs) (g1 : rng a1) (hw : wX11_goesOn a1 S K) : X G yX11_goesOn cX11_goesOn 10 (some .boolean) d [.ref (G.1 + 54), .int (Int32.ofInt a1)] cs (qI G sh mT J K) := by
  refine X.of false (by decide +kernel) (by decide) (Nat.le_of_ble_eq_true rfl) ?_
  show Z (RX11, cX11_goesOn, 10, some .boolean, false) G d _ 0 [(0, .ref (G.1 + 54)), (1, .int (Int32.ofInt a1))] [] cs
  have hP : ∀ (v : Int) (S : St) (cs : List va_E), K v S → Wd G sh mT J S cs → qI G sh mT J K (some (.int (Int32.ofInt v))) cs := fun v S cs a b => ⟨v, S, rfl, a, b⟩
  unfold wX11_goesOn at hw
  have hw := hw g1
  refine z_aload_n dX11_goesOn_0 rfl rfl ?_
  have q1 : iv 0 20 (S.1 54 32) := mI32 hW
  have hw := hw q1
  refine g_getI hW hT.1 mr32 kX11 fX11_316 dX11_goesOn_1 ?_
  refine z_iconst (v := Int32.ofInt 1) dX11_goesOn_4 rfl ?_
  refine i_isub dX11_goesOn_5 ?_
  refine z_istore_n dX11_goesOn_6 rfl (by decide) ?_
  refine z_aload_n dX11_goesOn_7 rfl rfl ?_
  refine g_getR hW hT.1 mr33 kX11 fX11_81 dX11_goesOn_8 ?_
  refine z_iload_n dX11_goesOn_11 rfl rfl ?_
  obtain ⟨q2a, q2b, hw⟩ := hw
  have q3 : iv 0 29 (S.2 77 ((S.1 54 32 - 1))) := mA77 hW _
  have hw := hw q3
  refine g_iald hW (ma77 hT) q2a q2b (by decide) dX11_goesOn_12 ?_
  refine z_istore_n dX11_goesOn_13 rfl (by decide) ?_
  refine z_aload_n dX11_goesOn_14 rfl rfl ?_
  refine g_getR hW hT.1 mr15 kX11 fX11_50 dX11_goesOn_15 ?_
  refine z_iload_n dX11_goesOn_18 rfl rfl ?_
  obtain ⟨q4a, q4b, hw⟩ := hw
  have q5 : iv 0 5 (S.2 68 (S.2 77 ((S.1 54 32 - 1)))) := mA68 hW _
  have hw := hw q5
  refine g_iald hW (ma68 hT) q4a q4b (by decide) dX11_goesOn_19 ?_
  refine z_istore dX11_goesOn_20 (by decide) ?_
  refine z_aload_n dX11_goesOn_22 rfl rfl ?_
  refine g_getR hW hT.1 mr36 kX11 fX11_90 dX11_goesOn_23 ?_
  refine z_iload_n dX11_goesOn_26 rfl rfl ?_
  obtain ⟨q6a, q6b, hw⟩ := hw
  have q7 : iv 0 4 (S.2 80 ((S.1 54 32 - 1))) := mA80 hW _
  have hw := hw q7
  refine g_iald hW (ma80 hT) q6a q6b (by decide) dX11_goesOn_27 ?_
  refine z_istore dX11_goesOn_28 (by decide) ?_
  refine z_iload dX11_goesOn_30 rfl ?_
  refine z_aload_n dX11_goesOn_32 rfl rfl ?_
  refine g_getR hW hT.1 mr3 kX11 fX11_13 dX11_goesOn_33 ?_
  refine z_iload dX11_goesOn_36 rfl ?_
  obtain ⟨q8a, q8b, hw⟩ := hw
  have q9 : iv 0 4 (S.2 56 (S.2 68 (S.2 77 ((S.1 54 32 - 1))))) := mA56 hW _
  have hw := hw q9
  refine g_iald hW (ma56 hT) q8a q8b (by decide) dX11_goesOn_38 ?_
  refine i_icmp_ne (tgt := 64) dX11_goesOn_39 (by decide) (rngq q7 (by decide) (by decide)) (rngq q9 (by decide) (by decide)) (fun h10 => ?_) (fun h10 => ?_)
  · have hw := hw.1 h10
    refine z_iconst (v := Int32.ofInt 4) dX11_goesOn_64 rfl ?_
    refine z_iload dX11_goesOn_65 rfl ?_
    refine i_imul dX11_goesOn_67 ?_
    refine z_iload dX11_goesOn_68 rfl ?_
    refine i_iadd dX11_goesOn_70 ?_
    refine z_istore dX11_goesOn_71 (by decide) ?_
    refine z_bipush (v := Int32.ofInt 6) dX11_goesOn_73 (by decide) ?_
    refine z_iload dX11_goesOn_75 rfl ?_
    refine i_iadd dX11_goesOn_77 ?_
    refine z_istore dX11_goesOn_78 (by decide) ?_
    refine z_aload_n dX11_goesOn_80 rfl rfl ?_
    refine g_getR hW hT.1 mr16 kX11 fX11_53 dX11_goesOn_81 ?_
    refine z_iconst (v := Int32.ofInt 4) dX11_goesOn_84 rfl ?_
    refine z_iload_n dX11_goesOn_85 rfl rfl ?_
    refine i_imul dX11_goesOn_86 ?_
    refine z_iload dX11_goesOn_87 rfl ?_
    refine i_iadd dX11_goesOn_89 ?_
    obtain ⟨q11a, q11b, hw⟩ := hw
    have q12 : iv (-2147483648) 2147483647 (S.2 69 (((4 * S.2 77 ((S.1 54 32 - 1))) + S.2 80 ((S.1 54 32 - 1))))) := mA69 hW _
    have hw := hw q12
    refine g_iald hW (ma69 hT) q11a q11b (by decide) dX11_goesOn_90 ?_
    refine z_istore dX11_goesOn_91 (by decide) ?_
    refine z_aload_n dX11_goesOn_93 rfl rfl ?_
    refine g_getR hW hT.1 mr6 kX11 fX11_22 dX11_goesOn_94 ?_
    refine z_iload dX11_goesOn_97 rfl ?_
    obtain ⟨q13a, q13b, hw⟩ := hw
    have q14 : iv 0 3 (S.2 59 (((4 * S.2 68 (S.2 77 ((S.1 54 32 - 1)))) + S.2 80 ((S.1 54 32 - 1))))) := mA59 hW _
    have hw := hw q14
    refine g_iald hW (ma59 hT) q13a q13b (by decide) dX11_goesOn_99 ?_
    refine z_iconst (v := Int32.ofInt 3) dX11_goesOn_100 rfl ?_
    refine i_icmp_ne (tgt := 115) dX11_goesOn_101 (by decide) (rngq q14 (by decide) (by decide)) ⟨by decide, by decide⟩ (fun h15 => ?_) (fun h15 => ?_)
    · have hw := hw.1 h15
      refine z_aload_n dX11_goesOn_115 rfl rfl ?_
      refine g_getR hW hT.1 mr36 kX11 fX11_90 dX11_goesOn_116 ?_
      refine z_iload_n dX11_goesOn_119 rfl rfl ?_
      refine z_dup2 dX11_goesOn_120 rfl rfl ?_
      obtain ⟨q16a, q16b, hw⟩ := hw
      have q17 : iv 0 4 (S.2 80 ((S.1 54 32 - 1))) := mA80 hW _
      have hw := hw q17
      refine g_iald hW (ma80 hT) q16a q16b (by decide) dX11_goesOn_121 ?_
      refine z_iconst (v := Int32.ofInt 1) dX11_goesOn_122 rfl ?_
      refine i_iadd dX11_goesOn_123 ?_
      obtain ⟨q18a, q18b, hw⟩ := hw
      obtain ⟨q20, hw⟩ := hw
      refine g_iast hJ hW (ma80 hT) q18a q18b (by decide) q20 dX11_goesOn_124 (fun cs hW => ?_)
      obtain ⟨S19, hS19⟩ : ∃ x, x = pA S 80 ((S.1 54 32 - 1)) ((S.2 80 ((S.1 54 32 - 1)) + 1)) := ⟨_, rfl⟩
      rw [← hS19] at hW
      have hw := hw S19 hS19
      refine z_aload_n dX11_goesOn_125 rfl rfl ?_
      refine g_getR hW hT.1 mr6 kX11 fX11_22 dX11_goesOn_126 ?_
      refine z_iload dX11_goesOn_129 rfl ?_
      obtain ⟨q21a, q21b, hw⟩ := hw
      have q22 : iv 0 3 (S19.2 59 (((4 * S.2 68 (S.2 77 ((S.1 54 32 - 1)))) + S.2 80 ((S.1 54 32 - 1))))) := mA59 hW _
      have hw := hw q22
      refine g_iald hW (ma59 hT) q21a q21b (by decide) dX11_goesOn_131 ?_
      refine z_iconst (v := Int32.ofInt 2) dX11_goesOn_132 rfl ?_
      refine i_icmp_ne (tgt := 168) dX11_goesOn_133 (by decide) (rngq q22 (by decide) (by decide)) ⟨by decide, by decide⟩ (fun h23 => ?_) (fun h23 => ?_)
      · have hw := hw.1 h23
        refine z_aload_n dX11_goesOn_168 rfl rfl ?_
        refine g_getR hW hT.1 mr7 kX11 fX11_25 dX11_goesOn_169 ?_
        refine z_iload dX11_goesOn_172 rfl ?_
        obtain ⟨q24a, q24b, hw⟩ := hw
        have q25 : iv 0 1 (S19.2 60 (((4 * S.2 68 (S.2 77 ((S.1 54 32 - 1)))) + S.2 80 ((S.1 54 32 - 1))))) := mA60 hW _
        have hw := hw q25
        refine g_zald hW (ma60 hT) q24a q24b (by decide) dX11_goesOn_174 ?_
        refine i_if_ne (tgt := 254) dX11_goesOn_175 (by decide) (rngq q25 (by decide) (by decide)) (fun h26 => ?_) (fun h26 => ?_)
        · have hw := hw.1 h26
          refine z_iconst (v := Int32.ofInt 1) dX11_goesOn_254 rfl ?_
          exact z_ireturn dX11_goesOn_255 rfl (nar01 (by decide)) (hP _ _ _ hw hW)
        · have hw := hw.2 h26
          refine z_aload_n dX11_goesOn_178 rfl rfl ?_
          refine z_aload_n dX11_goesOn_179 rfl rfl ?_
          refine g_getR hW hT.1 mr34 kX11 fX11_84 dX11_goesOn_180 ?_
          refine z_iload_n dX11_goesOn_183 rfl rfl ?_
          obtain ⟨q27a, q27b, hw⟩ := hw
          have q28 : iv 0 899 (S19.2 78 ((S.1 54 32 - 1))) := mA78 hW _
          have hw := hw q28
          refine g_iald hW (ma78 hT) q27a q27b (by decide) dX11_goesOn_184 ?_
          refine z_iload dX11_goesOn_185 rfl ?_
          obtain ⟨q29, hw⟩ := hw
          have hX := lX11_element 1 (Nat.le_refl _) hJ hT hW (rngq q28 (by decide) (by decide)) q29 hw
          refine z_callV (As := [_, _]) eX11_element sX11_element lX11_297 rfl dX11_goesOn_187 (hW.1 _ _ hT.1) hX (Nat.le_trans (by decide) hd) rfl (Nat.le_of_ble_eq_true rfl) (fun r cs hp => ?_)
          obtain ⟨r30, S31, rfl, hw, hW⟩ := hp
          refine z_st (st' := [.int (Int32.ofInt (r30))]) rfl ?_
          refine z_istore dX11_goesOn_190 (by decide) ?_
          refine z_aload_n dX11_goesOn_192 rfl rfl ?_
          refine z_bipush (v := Int32.ofInt 60) dX11_goesOn_193 (by decide) ?_
          have hX := lX11_put 0 (Nat.le_refl _) hJ hT hW ⟨by decide, by decide⟩ hw
          refine z_callV (As := [_]) eX11_put sX11_put lX11_260 rfl dX11_goesOn_195 (hW.1 _ _ hT.1) hX (Nat.le_trans (by decide) hd) rfl (Nat.le_of_ble_eq_true rfl) (fun r cs hp => ?_)
          obtain ⟨r32, S33, rfl, hw, hW⟩ := hp
          refine z_st (st' := []) rfl ?_
          refine z_aload_n dX11_goesOn_198 rfl rfl ?_
          refine z_iload dX11_goesOn_199 rfl ?_
          have hX := lX11_putName 1 (Nat.le_refl _) hJ hT hW q29 hw
          refine z_callV (As := [_]) eX11_putName sX11_putName lX11_284 rfl dX11_goesOn_201 (hW.1 _ _ hT.1) hX (Nat.le_trans (by decide) hd) rfl (Nat.le_of_ble_eq_true rfl) (fun r cs hp => ?_)
          obtain ⟨r34, S35, rfl, hw, hW⟩ := hp
          refine z_st (st' := []) rfl ?_
          refine z_aload_n dX11_goesOn_204 rfl rfl ?_
          refine g_getR hW hT.1 mr6 kX11 fX11_22 dX11_goesOn_205 ?_
          refine z_iload dX11_goesOn_208 rfl ?_
          obtain ⟨q36a, q36b, hw⟩ := hw
          have q37 : iv 0 3 (S35.2 59 (((4 * S.2 68 (S.2 77 ((S.1 54 32 - 1)))) + S.2 80 ((S.1 54 32 - 1))))) := mA59 hW _
          have hw := hw q37
          refine g_iald hW (ma59 hT) q36a q36b (by decide) dX11_goesOn_210 ?_
          refine z_iconst (v := Int32.ofInt 1) dX11_goesOn_211 rfl ?_
          refine i_icmp_ne (tgt := 232) dX11_goesOn_212 (by decide) (rngq q37 (by decide) (by decide)) ⟨by decide, by decide⟩ (fun h38 => ?_) (fun h38 => ?_)
          · have hw := hw.1 h38
            refine z_loc (L' := [(0, .ref (G.1 + 54)), (3, .int (Int32.ofInt (S.2 77 ((S.1 54 32 - 1))))), (4, .int (Int32.ofInt (S.2 68 (S.2 77 ((S.1 54 32 - 1)))))), (5, .int (Int32.ofInt (S.2 80 ((S.1 54 32 - 1))))), (7, .int (Int32.ofInt ((6 + ((4 * S.2 68 (S.2 77 ((S.1 54 32 - 1)))) + S.2 80 ((S.1 54 32 - 1)))))))]) (List.forall_mem_cons.mpr ⟨rfl, (List.forall_mem_cons.mpr ⟨rfl, (List.forall_mem_cons.mpr ⟨rfl, (List.forall_mem_cons.mpr ⟨rfl, (List.forall_mem_cons.mpr ⟨rfl, (fun _ h => nomatch h)⟩)⟩)⟩)⟩)⟩) ?_
            exact bX11_goesOn_232 hd hJ hT hW hP  hw
          · have hw := hw.2 h38
            refine z_iload dX11_goesOn_215 rfl ?_
            refine i_if_ne (tgt := 232) dX11_goesOn_217 (by decide) (rngq q12 (by decide) (by decide)) (fun h39 => ?_) (fun h39 => ?_)
            · have hw := hw.1 h39
              refine z_loc (L' := [(0, .ref (G.1 + 54)), (3, .int (Int32.ofInt (S.2 77 ((S.1 54 32 - 1))))), (4, .int (Int32.ofInt (S.2 68 (S.2 77 ((S.1 54 32 - 1)))))), (5, .int (Int32.ofInt (S.2 80 ((S.1 54 32 - 1))))), (7, .int (Int32.ofInt ((6 + ((4 * S.2 68 (S.2 77 ((S.1 54 32 - 1)))) + S.2 80 ((S.1 54 32 - 1)))))))]) (List.forall_mem_cons.mpr ⟨rfl, (List.forall_mem_cons.mpr ⟨rfl, (List.forall_mem_cons.mpr ⟨rfl, (List.forall_mem_cons.mpr ⟨rfl, (List.forall_mem_cons.mpr ⟨rfl, (fun _ h => nomatch h)⟩)⟩)⟩)⟩)⟩) ?_
              exact bX11_goesOn_232 hd hJ hT hW hP  hw
            · have hw := hw.2 h39
              refine z_aload_n dX11_goesOn_220 rfl rfl ?_
              refine z_bipush (v := Int32.ofInt 47) dX11_goesOn_221 (by decide) ?_
              refine z_bipush (v := Int32.ofInt 62) dX11_goesOn_223 (by decide) ?_
              refine z_iconst (v := Int32.ofInt 0) dX11_goesOn_225 rfl ?_
              refine z_iconst (v := Int32.ofInt 0) dX11_goesOn_226 rfl ?_
              have hX := lX11_putWord 1 (Nat.le_refl _) hJ hT hW ⟨by decide, by decide⟩ ⟨by decide, by decide⟩ ⟨by decide, by decide⟩ ⟨by decide, by decide⟩ hw
              refine z_callV (As := [_, _, _, _]) eX11_putWord sX11_putWord lX11_267 rfl dX11_goesOn_227 (hW.1 _ _ hT.1) hX (Nat.le_trans (by decide) hd) rfl (Nat.le_of_ble_eq_true rfl) (fun r cs hp => ?_)
              obtain ⟨r40, S41, rfl, hw, hW⟩ := hp
              refine z_st (st' := []) rfl ?_
              refine z_iconst (v := Int32.ofInt 1) dX11_goesOn_230 rfl ?_
              exact z_ireturn dX11_goesOn_231 rfl (nar01 (by decide)) (hP _ _ _ hw hW)
      · have hw := hw.2 h23
        refine z_iload dX11_goesOn_136 rfl ?_
        refine z_bipush (v := Int32.ofInt (-2)) dX11_goesOn_138 (by decide) ?_
        refine i_icmp_eq (tgt := 162) dX11_goesOn_140 (by decide) (rngq q12 (by decide) (by decide)) ⟨by decide, by decide⟩ (fun h42 => ?_) (fun h42 => ?_)
        · have hw := hw.1 h42
          refine z_iconst (v := Int32.ofInt 1) dX11_goesOn_162 rfl ?_
          refine z_goto (tgt := 167) dX11_goesOn_163 (by decide) ?_
          exact z_ireturn dX11_goesOn_167 rfl (nar01 (by decide)) (hP _ _ _ hw hW)
        · have hw := hw.2 h42
          refine z_aload_n dX11_goesOn_143 rfl rfl ?_
          refine z_iload dX11_goesOn_144 rfl ?_
          refine z_aload_n dX11_goesOn_146 rfl rfl ?_
          refine g_getR hW hT.1 mr34 kX11 fX11_84 dX11_goesOn_147 ?_
          refine z_iload_n dX11_goesOn_150 rfl rfl ?_
          obtain ⟨q43a, q43b, hw⟩ := hw
          have q44 : iv 0 899 (S19.2 78 ((S.1 54 32 - 1))) := mA78 hW _
          have hw := hw q44
          refine g_iald hW (ma78 hT) q43a q43b (by decide) dX11_goesOn_151 ?_
          refine z_iload dX11_goesOn_152 rfl ?_
          refine z_iconst (v := Int32.ofInt 1) dX11_goesOn_154 rfl ?_
          refine z_iload_n dX11_goesOn_155 rfl rfl ?_
          obtain ⟨q45, hw⟩ := hw
          have hX := lX11_child 6 (Nat.le_refl _) hJ hT hW (rngq q12 (by decide) (by decide)) (rngq q44 (by decide) (by decide)) q45 ⟨by decide, by decide⟩ g1 hw
          refine z_callV (As := [_, _, _, _, _]) eX11_child sX11_child lX11_333 rfl dX11_goesOn_156 (hW.1 _ _ hT.1) hX (Nat.le_trans (by decide) hd) rfl (Nat.le_of_ble_eq_true rfl) (fun r cs hp => ?_)
          obtain ⟨r46, S47, rfl, hw, hW⟩ := hp
          refine z_st (st' := [.int (Int32.ofInt (r46))]) rfl ?_
          obtain ⟨q49, hw⟩ := hw
          refine i_if_eq (tgt := 166) dX11_goesOn_159 (by decide) q49 (fun h48 => ?_) (fun h48 => ?_)
          · have hw := hw.1 h48
            refine z_iconst (v := Int32.ofInt 0) dX11_goesOn_166 rfl ?_
            exact z_ireturn dX11_goesOn_167 rfl (nar01 (by decide)) (hP _ _ _ hw hW)
          · have hw := hw.2 h48
            refine z_iconst (v := Int32.ofInt 1) dX11_goesOn_162 rfl ?_
            refine z_goto (tgt := 167) dX11_goesOn_163 (by decide) ?_
            exact z_ireturn dX11_goesOn_167 rfl (nar01 (by decide)) (hP _ _ _ hw hW)
    · have hw := hw.2 h15
      refine z_aload_n dX11_goesOn_104 rfl rfl ?_
      refine z_iload_n dX11_goesOn_105 rfl rfl ?_
      refine z_iload dX11_goesOn_106 rfl ?_
      refine z_iload dX11_goesOn_108 rfl ?_
      refine z_iload_n dX11_goesOn_110 rfl rfl ?_
      obtain ⟨q50, hw⟩ := hw
      obtain ⟨q51, hw⟩ := hw
      have hX := lX11_lists 7 (Nat.le_refl _) hJ hT hW q50 q51 (rngq q12 (by decide) (by decide)) g1 hw
      refine z_callV (As := [_, _, _, _]) eX11_lists sX11_lists lX11_329 rfl dX11_goesOn_111 (hW.1 _ _ hT.1) hX (Nat.le_trans (by decide) hd) rfl (Nat.le_of_ble_eq_true rfl) (fun r cs hp => ?_)
      obtain ⟨r52, S53, rfl, hw, hW⟩ := hp
      refine z_st (st' := [.int (Int32.ofInt (r52))]) rfl ?_
      obtain ⟨q54, hw⟩ := hw
      exact z_ireturn dX11_goesOn_114 rfl (nar01 (b01 q54)) (hP _ _ _ hw hW)
  · have hw := hw.2 h10
    refine z_aload_n dX11_goesOn_42 rfl rfl ?_
    refine z_dup dX11_goesOn_43 rfl ?_
    refine g_getI hW hT.1 mr32 kX11 fX11_316 dX11_goesOn_44 ?_
    refine z_iconst (v := Int32.ofInt 1) dX11_goesOn_47 rfl ?_
    refine i_isub dX11_goesOn_48 ?_
    obtain ⟨q56, hw⟩ := hw
    refine g_putI hJ hW hT.1 mr32 kX11 fX11_316 dX11_goesOn_49 rfl rfl rfl q56 (fun cs hW => ?_)
    obtain ⟨S55, hS55⟩ : ∃ x, x = pI S 54 32 ((S.1 54 32 - 1)) := ⟨_, rfl⟩
    rw [← hS55] at hW
    have hw := hw S55 hS55
    refine z_aload_n dX11_goesOn_52 rfl rfl ?_
    refine z_aload_n dX11_goesOn_53 rfl rfl ?_
    refine g_getR hW hT.1 mr35 kX11 fX11_87 dX11_goesOn_54 ?_
    refine z_iload_n dX11_goesOn_57 rfl rfl ?_
    obtain ⟨q57a, q57b, hw⟩ := hw
    have q58 : iv 0 29 (S55.2 79 ((S.1 54 32 - 1))) := mA79 hW _
    have hw := hw q58
    refine g_iald hW (ma79 hT) q57a q57b (by decide) dX11_goesOn_58 ?_
    have hX := lX11_end 2 (Nat.le_refl _) hJ hT hW (rngq q58 (by decide) (by decide)) hw
    refine z_callV (As := [_]) eX11_end sX11_end lX11_326 rfl dX11_goesOn_59 (hW.1 _ _ hT.1) hX (Nat.le_trans (by decide) hd) rfl (Nat.le_of_ble_eq_true rfl) (fun r cs hp => ?_)
    obtain ⟨r59, S60, rfl, hw, hW⟩ := hp
    refine z_st (st' := []) rfl ?_
    refine z_iconst (v := Int32.ofInt 1) dX11_goesOn_62 rfl ?_
    exact z_ireturn dX11_goesOn_63 rfl (nar01 (by decide)) (hP _ _ _ hw hW)

def wX11_hasChild (a1 : Int) (S : St) (K : Int → St → Prop) : Prop := rng a1 → (iv 0 200 (S.1 54 43) → (rng ((a1 + 1)) ∧ ((S.1 54 43 ≤ (a1 + 1) → K (0) S) ∧ ((¬ (S.1 54 43 ≤ (a1 + 1))) → ((0 : Int) ≤ (a1 + 1) ∧ (a1 + 1) < (200 : Int) ∧ (iv (-2) 199 (S.2 88 ((a1 + 1))) → ((¬ S.2 88 ((a1 + 1)) = a1 → K (0) S) ∧ ((¬ (¬ S.2 88 ((a1 + 1)) = a1)) → K (1) S))))))))
set_option maxRecDepth 100000 in
set_option maxHeartbeats 4000000 in
theorem lX11_hasChild {G : xG} {sh : Nat → Option Sh} {J : St → List va_E → Prop} {a1 : Int} {S : St} {cs : List va_E} {K : Int → St → Prop} (d : Nat) (hd : 0 ≤ d) (hJ : Stb sh J) (hT : isM sh) (hW : Wd G sh mT J S cs) (g1 : rng a1) (hw : wX11_hasChild a1 S K) : X G yX11_hasChild cX11_hasChild 2 (some .boolean) d [.ref (G.1 + 54), .int (Int32.ofInt a1)] cs (qI G sh mT J K) := by
  refine X.of false (by decide +kernel) (by decide) (Nat.le_of_ble_eq_true rfl) ?_
  show Z (RX11, cX11_hasChild, 2, some .boolean, false) G d _ 0 [(0, .ref (G.1 + 54)), (1, .int (Int32.ofInt a1))] [] cs
  have hP : ∀ (v : Int) (S : St) (cs : List va_E), K v S → Wd G sh mT J S cs → qI G sh mT J K (some (.int (Int32.ofInt v))) cs := fun v S cs a b => ⟨v, S, rfl, a, b⟩
  unfold wX11_hasChild at hw
  have hw := hw g1
  refine z_iload_n dX11_hasChild_0 rfl rfl ?_
  refine z_iconst (v := Int32.ofInt 1) dX11_hasChild_1 rfl ?_
  refine i_iadd dX11_hasChild_2 ?_
  refine z_aload_n dX11_hasChild_3 rfl rfl ?_
  have q1 : iv 0 200 (S.1 54 43) := mI43 hW
  have hw := hw q1
  refine g_getI hW hT.1 mr43 kX11 fX11_386 dX11_hasChild_4 ?_
  obtain ⟨q3, hw⟩ := hw
  refine i_icmp_ge (tgt := 26) dX11_hasChild_7 (by decide) q3 (rngq q1 (by decide) (by decide)) (fun h2 => ?_) (fun h2 => ?_)
  · have hw := hw.1 h2
    refine z_iconst (v := Int32.ofInt 0) dX11_hasChild_26 rfl ?_
    exact z_ireturn dX11_hasChild_27 rfl (nar01 (by decide)) (hP _ _ _ hw hW)
  · have hw := hw.2 h2
    refine z_aload_n dX11_hasChild_10 rfl rfl ?_
    refine g_getR hW hT.1 mr47 kX11 fX11_114 dX11_hasChild_11 ?_
    refine z_iload_n dX11_hasChild_14 rfl rfl ?_
    refine z_iconst (v := Int32.ofInt 1) dX11_hasChild_15 rfl ?_
    refine i_iadd dX11_hasChild_16 ?_
    obtain ⟨q4a, q4b, hw⟩ := hw
    have q5 : iv (-2) 199 (S.2 88 ((a1 + 1))) := mA88 hW _
    have hw := hw q5
    refine g_iald hW (ma88 hT) q4a q4b (by decide) dX11_hasChild_17 ?_
    refine z_iload_n dX11_hasChild_18 rfl rfl ?_
    refine i_icmp_ne (tgt := 26) dX11_hasChild_19 (by decide) (rngq q5 (by decide) (by decide)) g1 (fun h6 => ?_) (fun h6 => ?_)
    · have hw := hw.1 h6
      refine z_iconst (v := Int32.ofInt 0) dX11_hasChild_26 rfl ?_
      exact z_ireturn dX11_hasChild_27 rfl (nar01 (by decide)) (hP _ _ _ hw hW)
    · have hw := hw.2 h6
      refine z_iconst (v := Int32.ofInt 1) dX11_hasChild_22 rfl ?_
      refine z_goto (tgt := 27) dX11_hasChild_23 (by decide) ?_
      exact z_ireturn dX11_hasChild_27 rfl (nar01 (by decide)) (hP _ _ _ hw hW)

def wX11_implicitOf_47 (l1 l3 s0 : Int) (S : St) (K : Int → St → Prop) (B5 : Int → Int → Int → St → Prop) : Prop := B5 (l1) (s0) ((l3 + 1)) S
set_option maxRecDepth 100000 in
set_option maxHeartbeats 4000000 in
theorem bX11_implicitOf_47 {G : xG} {sh : Nat → Option Sh} {J : St → List va_E → Prop} {d : Nat} {Post : xP} {l1 l3 s0 : Int} {S : St} {cs : List va_E} {K : Int → St → Prop} {B5 : Int → Int → Int → St → Prop} (hd : 0 ≤ d) (hJ : Stb sh J) (hT : isM sh) (hW : Wd G sh mT J S cs) (hP : ∀ (v : Int) (S : St) (cs : List va_E), K v S → Wd G sh mT J S cs → Post (some (.int (Int32.ofInt v))) cs) (hB5 : ∀ (l1 : Int) (l2 : Int) (l3 : Int) (S : St) (cs : List va_E), B5 l1 l2 l3 S → Wd G sh mT J S cs → Z (RX11, cX11_implicitOf, 4, some .int, false) G d Post 5 [(0, .ref (G.1 + 54)), (1, .int (Int32.ofInt (l1))), (2, .int (Int32.ofInt (l2))), (3, .int (Int32.ofInt (l3)))] [] cs) (hw : wX11_implicitOf_47 l1 l3 s0 S K B5) : Z (RX11, cX11_implicitOf, 4, some .int, false) G d Post 47 [(0, .ref (G.1 + 54)), (1, .int (Int32.ofInt (l1))), (3, .int (Int32.ofInt (l3)))] [.int (Int32.ofInt (s0))] cs := by
  unfold wX11_implicitOf_47 at hw
  refine z_istore_n dX11_implicitOf_47 rfl (by decide) ?_
  refine i_iinc (l := l3) dX11_implicitOf_48 rfl (by decide) ?_
  refine z_goto (tgt := 5) dX11_implicitOf_51 (by decide) ?_
  refine z_loc (L' := [(0, .ref (G.1 + 54)), (1, .int (Int32.ofInt (l1))), (2, .int (Int32.ofInt (s0))), (3, .int (Int32.ofInt ((l3 + 1))))]) (List.forall_mem_cons.mpr ⟨rfl, (List.forall_mem_cons.mpr ⟨rfl, (List.forall_mem_cons.mpr ⟨rfl, (List.forall_mem_cons.mpr ⟨rfl, (fun _ h => nomatch h)⟩)⟩)⟩)⟩) ?_
  exact hB5 _ _ _ _ _ hw hW
def wX11_implicitOf_46 (l1 l2 l3 : Int) (S : St) (K : Int → St → Prop) (B5 : Int → Int → Int → St → Prop) : Prop := wX11_implicitOf_47 (l1) (l3) (l2) S K B5
set_option maxRecDepth 100000 in
set_option maxHeartbeats 4000000 in
theorem bX11_implicitOf_46 {G : xG} {sh : Nat → Option Sh} {J : St → List va_E → Prop} {d : Nat} {Post : xP} {l1 l2 l3 : Int} {S : St} {cs : List va_E} {K : Int → St → Prop} {B5 : Int → Int → Int → St → Prop} (hd : 0 ≤ d) (hJ : Stb sh J) (hT : isM sh) (hW : Wd G sh mT J S cs) (hP : ∀ (v : Int) (S : St) (cs : List va_E), K v S → Wd G sh mT J S cs → Post (some (.int (Int32.ofInt v))) cs) (hB5 : ∀ (l1 : Int) (l2 : Int) (l3 : Int) (S : St) (cs : List va_E), B5 l1 l2 l3 S → Wd G sh mT J S cs → Z (RX11, cX11_implicitOf, 4, some .int, false) G d Post 5 [(0, .ref (G.1 + 54)), (1, .int (Int32.ofInt (l1))), (2, .int (Int32.ofInt (l2))), (3, .int (Int32.ofInt (l3)))] [] cs) (hw : wX11_implicitOf_46 l1 l2 l3 S K B5) : Z (RX11, cX11_implicitOf, 4, some .int, false) G d Post 46 [(0, .ref (G.1 + 54)), (1, .int (Int32.ofInt (l1))), (2, .int (Int32.ofInt (l2))), (3, .int (Int32.ofInt (l3)))] [] cs := by
  unfold wX11_implicitOf_46 at hw
  refine z_iload_n dX11_implicitOf_46 rfl rfl ?_
  refine z_loc (L' := [(0, .ref (G.1 + 54)), (1, .int (Int32.ofInt (l1))), (3, .int (Int32.ofInt (l3)))]) (List.forall_mem_cons.mpr ⟨rfl, (List.forall_mem_cons.mpr ⟨rfl, (List.forall_mem_cons.mpr ⟨rfl, (fun _ h => nomatch h)⟩)⟩)⟩) ?_
  exact bX11_implicitOf_47 hd hJ hT hW hP hB5 hw
def wX11_implicitOf_5' (l1 l2 l3 : Int) (S : St) (K : Int → St → Prop) (B5 : Int → Int → Int → St → Prop) : Prop := ((0 : Int) ≤ l1 ∧ l1 < (6 : Int) ∧ (iv 0 4 (S.2 56 (l1)) → (rng (l3) ∧ ((S.2 56 (l1) ≤ l3 → K (l2) S) ∧ ((¬ (S.2 56 (l1) ≤ l3)) → ((0 : Int) ≤ ((4 * l1) + l3) ∧ ((4 * l1) + l3) < (24 : Int) ∧ (iv 0 3 (S.2 59 (((4 * l1) + l3))) → ((¬ S.2 59 (((4 * l1) + l3)) = 3 → wX11_implicitOf_46 (l1) (l2) (l3) S K B5) ∧ ((¬ (¬ S.2 59 (((4 * l1) + l3)) = 3)) → ((0 : Int) ≤ ((4 * l1) + l3) ∧ ((4 * l1) + l3) < (24 : Int) ∧ (iv 0 1 (S.2 60 (((4 * l1) + l3))) → ((S.2 60 (((4 * l1) + l3)) = 0 → wX11_implicitOf_46 (l1) (l2) (l3) S K B5) ∧ ((¬ (S.2 60 (((4 * l1) + l3)) = 0)) → wX11_implicitOf_47 (l1) (l3) (l3) S K B5)))))))))))))
set_option maxRecDepth 100000 in
set_option maxHeartbeats 4000000 in
theorem bX11_implicitOf_5' {G : xG} {sh : Nat → Option Sh} {J : St → List va_E → Prop} {d : Nat} {Post : xP} {l1 l2 l3 : Int} {S : St} {cs : List va_E} {K : Int → St → Prop} {B5 : Int → Int → Int → St → Prop} (hd : 0 ≤ d) (hJ : Stb sh J) (hT : isM sh) (hW : Wd G sh mT J S cs) (hP : ∀ (v : Int) (S : St) (cs : List va_E), K v S → Wd G sh mT J S cs → Post (some (.int (Int32.ofInt v))) cs) (hB5 : ∀ (l1 : Int) (l2 : Int) (l3 : Int) (S : St) (cs : List va_E), B5 l1 l2 l3 S → Wd G sh mT J S cs → Z (RX11, cX11_implicitOf, 4, some .int, false) G d Post 5 [(0, .ref (G.1 + 54)), (1, .int (Int32.ofInt (l1))), (2, .int (Int32.ofInt (l2))), (3, .int (Int32.ofInt (l3)))] [] cs) (hw : wX11_implicitOf_5' l1 l2 l3 S K B5) : Z (RX11, cX11_implicitOf, 4, some .int, false) G d Post 5 [(0, .ref (G.1 + 54)), (1, .int (Int32.ofInt (l1))), (2, .int (Int32.ofInt (l2))), (3, .int (Int32.ofInt (l3)))] [] cs := by
  unfold wX11_implicitOf_5' at hw
  refine z_iload_n dX11_implicitOf_5 rfl rfl ?_
  refine z_aload_n dX11_implicitOf_6 rfl rfl ?_
  refine g_getR hW hT.1 mr3 kX11 fX11_13 dX11_implicitOf_7 ?_
  refine z_iload_n dX11_implicitOf_10 rfl rfl ?_
  obtain ⟨q1a, q1b, hw⟩ := hw
  have q2 : iv 0 4 (S.2 56 (l1)) := mA56 hW _
  have hw := hw q2
  refine g_iald hW (ma56 hT) q1a q1b (by decide) dX11_implicitOf_11 ?_
  obtain ⟨q4, hw⟩ := hw
  refine i_icmp_ge (tgt := 54) dX11_implicitOf_12 (by decide) q4 (rngq q2 (by decide) (by decide)) (fun h3 => ?_) (fun h3 => ?_)
  · have hw := hw.1 h3
    refine z_iload_n dX11_implicitOf_54 rfl rfl ?_
    exact z_ireturn dX11_implicitOf_55 rfl rfl (hP _ _ _ hw hW)
  · have hw := hw.2 h3
    refine z_aload_n dX11_implicitOf_15 rfl rfl ?_
    refine g_getR hW hT.1 mr6 kX11 fX11_22 dX11_implicitOf_16 ?_
    refine z_iconst (v := Int32.ofInt 4) dX11_implicitOf_19 rfl ?_
    refine z_iload_n dX11_implicitOf_20 rfl rfl ?_
    refine i_imul dX11_implicitOf_21 ?_
    refine z_iload_n dX11_implicitOf_22 rfl rfl ?_
    refine i_iadd dX11_implicitOf_23 ?_
    obtain ⟨q5a, q5b, hw⟩ := hw
    have q6 : iv 0 3 (S.2 59 (((4 * l1) + l3))) := mA59 hW _
    have hw := hw q6
    refine g_iald hW (ma59 hT) q5a q5b (by decide) dX11_implicitOf_24 ?_
    refine z_iconst (v := Int32.ofInt 3) dX11_implicitOf_25 rfl ?_
    refine i_icmp_ne (tgt := 46) dX11_implicitOf_26 (by decide) (rngq q6 (by decide) (by decide)) ⟨by decide, by decide⟩ (fun h7 => ?_) (fun h7 => ?_)
    · have hw := hw.1 h7
      refine z_loc (L' := [(0, .ref (G.1 + 54)), (1, .int (Int32.ofInt (l1))), (2, .int (Int32.ofInt (l2))), (3, .int (Int32.ofInt (l3)))]) (List.forall_mem_cons.mpr ⟨rfl, (List.forall_mem_cons.mpr ⟨rfl, (List.forall_mem_cons.mpr ⟨rfl, (List.forall_mem_cons.mpr ⟨rfl, (fun _ h => nomatch h)⟩)⟩)⟩)⟩) ?_
      exact bX11_implicitOf_46 hd hJ hT hW hP hB5 hw
    · have hw := hw.2 h7
      refine z_aload_n dX11_implicitOf_29 rfl rfl ?_
      refine g_getR hW hT.1 mr7 kX11 fX11_25 dX11_implicitOf_30 ?_
      refine z_iconst (v := Int32.ofInt 4) dX11_implicitOf_33 rfl ?_
      refine z_iload_n dX11_implicitOf_34 rfl rfl ?_
      refine i_imul dX11_implicitOf_35 ?_
      refine z_iload_n dX11_implicitOf_36 rfl rfl ?_
      refine i_iadd dX11_implicitOf_37 ?_
      obtain ⟨q8a, q8b, hw⟩ := hw
      have q9 : iv 0 1 (S.2 60 (((4 * l1) + l3))) := mA60 hW _
      have hw := hw q9
      refine g_zald hW (ma60 hT) q8a q8b (by decide) dX11_implicitOf_38 ?_
      refine i_if_eq (tgt := 46) dX11_implicitOf_39 (by decide) (rngq q9 (by decide) (by decide)) (fun h10 => ?_) (fun h10 => ?_)
      · have hw := hw.1 h10
        refine z_loc (L' := [(0, .ref (G.1 + 54)), (1, .int (Int32.ofInt (l1))), (2, .int (Int32.ofInt (l2))), (3, .int (Int32.ofInt (l3)))]) (List.forall_mem_cons.mpr ⟨rfl, (List.forall_mem_cons.mpr ⟨rfl, (List.forall_mem_cons.mpr ⟨rfl, (List.forall_mem_cons.mpr ⟨rfl, (fun _ h => nomatch h)⟩)⟩)⟩)⟩) ?_
        exact bX11_implicitOf_46 hd hJ hT hW hP hB5 hw
      · have hw := hw.2 h10
        refine z_iload_n dX11_implicitOf_42 rfl rfl ?_
        refine z_goto (tgt := 47) dX11_implicitOf_43 (by decide) ?_
        refine z_loc (L' := [(0, .ref (G.1 + 54)), (1, .int (Int32.ofInt (l1))), (3, .int (Int32.ofInt (l3)))]) (List.forall_mem_cons.mpr ⟨rfl, (List.forall_mem_cons.mpr ⟨rfl, (List.forall_mem_cons.mpr ⟨rfl, (fun _ h => nomatch h)⟩)⟩)⟩) ?_
        exact bX11_implicitOf_47 hd hJ hT hW hP hB5 hw
def wX11_implicitOf_5 (l1 l2 l3 : Int) (S : St) (K : Int → St → Prop) : Prop := ∃ (Iv : Int → Int → Int → St → Prop) (mu : Int → Int → Int → St → Nat), Iv l1 l2 l3 S ∧ ∀ (l1 l2 l3 : Int) (S : St), Iv l1 l2 l3 S → wX11_implicitOf_5' l1 l2 l3 S K  (fun ml1 ml2 ml3 T => Iv ml1 ml2 ml3 T ∧ mu ml1 ml2 ml3 T < mu l1 l2 l3 S)
set_option maxRecDepth 100000 in
set_option maxHeartbeats 4000000 in
theorem bX11_implicitOf_5 {G : xG} {sh : Nat → Option Sh} {J : St → List va_E → Prop} {d : Nat} {Post : xP} {l1 l2 l3 : Int} {S : St} {cs : List va_E} {K : Int → St → Prop} (hd : 0 ≤ d) (hJ : Stb sh J) (hT : isM sh) (hW : Wd G sh mT J S cs) (hP : ∀ (v : Int) (S : St) (cs : List va_E), K v S → Wd G sh mT J S cs → Post (some (.int (Int32.ofInt v))) cs)  (hw : wX11_implicitOf_5 l1 l2 l3 S K ) : Z (RX11, cX11_implicitOf, 4, some .int, false) G d Post 5 [(0, .ref (G.1 + 54)), (1, .int (Int32.ofInt (l1))), (2, .int (Int32.ofInt (l2))), (3, .int (Int32.ofInt (l3)))] [] cs := by
  unfold wX11_implicitOf_5 at hw
  obtain ⟨Iv, mu, h0, hs⟩ := hw
  have key : ∀ (n : Nat) (l1 l2 l3 : Int) (S : St) (cs : List va_E), mu l1 l2 l3 S < n → Iv l1 l2 l3 S → Wd G sh mT J S cs → Z (RX11, cX11_implicitOf, 4, some .int, false) G d Post 5 [(0, .ref (G.1 + 54)), (1, .int (Int32.ofInt (l1))), (2, .int (Int32.ofInt (l2))), (3, .int (Int32.ofInt (l3)))] [] cs := by
    intro n
    induction n with
    | zero => intro l1 l2 l3 S cs hn; exact absurd hn (Nat.not_lt_zero _)
    | succ n ih =>
      intro l1 l2 l3 S cs hn hI hW
      exact bX11_implicitOf_5' hd hJ hT hW hP  (fun l1 l2 l3 S cs hb hW => ih l1 l2 l3 S cs (Nat.lt_of_lt_of_le hb.2 (Nat.le_of_lt_succ hn)) hb.1 hW) (hs l1 l2 l3 S hI)
  exact key _ _ _ _ _ _ (Nat.lt_succ_self _) h0 hW
def wX11_implicitOf (a1 : Int) (S : St) (K : Int → St → Prop) : Prop := rng a1 → wX11_implicitOf_5 (a1) ((-2)) (0) S K
set_option maxRecDepth 100000 in
set_option maxHeartbeats 4000000 in
theorem lX11_implicitOf {G : xG} {sh : Nat → Option Sh} {J : St → List va_E → Prop} {a1 : Int} {S : St} {cs : List va_E} {K : Int → St → Prop} (d : Nat) (hd : 0 ≤ d) (hJ : Stb sh J) (hT : isM sh) (hW : Wd G sh mT J S cs) (g1 : rng a1) (hw : wX11_implicitOf a1 S K) : X G yX11_implicitOf cX11_implicitOf 4 (some .int) d [.ref (G.1 + 54), .int (Int32.ofInt a1)] cs (qI G sh mT J K) := by
  refine X.of false (by decide +kernel) (by decide) (Nat.le_of_ble_eq_true rfl) ?_
  show Z (RX11, cX11_implicitOf, 4, some .int, false) G d _ 0 [(0, .ref (G.1 + 54)), (1, .int (Int32.ofInt a1))] [] cs
  have hP : ∀ (v : Int) (S : St) (cs : List va_E), K v S → Wd G sh mT J S cs → qI G sh mT J K (some (.int (Int32.ofInt v))) cs := fun v S cs a b => ⟨v, S, rfl, a, b⟩
  unfold wX11_implicitOf at hw
  have hw := hw g1
  refine z_bipush (v := Int32.ofInt (-2)) dX11_implicitOf_0 (by decide) ?_
  refine z_istore_n dX11_implicitOf_2 rfl (by decide) ?_
  refine z_iconst (v := Int32.ofInt 0) dX11_implicitOf_3 rfl ?_
  refine z_istore_n dX11_implicitOf_4 rfl (by decide) ?_
  refine z_loc (L' := [(0, .ref (G.1 + 54)), (1, .int (Int32.ofInt (a1))), (2, .int (Int32.ofInt ((-2)))), (3, .int (Int32.ofInt (0)))]) (List.forall_mem_cons.mpr ⟨rfl, (List.forall_mem_cons.mpr ⟨rfl, (List.forall_mem_cons.mpr ⟨rfl, (List.forall_mem_cons.mpr ⟨rfl, (fun _ h => nomatch h)⟩)⟩)⟩)⟩) ?_
  exact bX11_implicitOf_5 hd hJ hT hW hP  hw

def wX11_isBlankWithin_43 (l1 l3 s0 : Int) (S : St) (K : Int → St → Prop) (B4 : Int → Int → Int → St → Prop) : Prop := B4 (l1) (s0) ((l3 + 1)) S
set_option maxRecDepth 100000 in
set_option maxHeartbeats 4000000 in
theorem bX11_isBlankWithin_43 {G : xG} {sh : Nat → Option Sh} {J : St → List va_E → Prop} {d : Nat} {Post : xP} {l1 l3 s0 : Int} {S : St} {cs : List va_E} {K : Int → St → Prop} {B4 : Int → Int → Int → St → Prop} (hd : 1 ≤ d) (hJ : Stb sh J) (hT : isM sh) (hW : Wd G sh mT J S cs) (hP : ∀ (v : Int) (S : St) (cs : List va_E), K v S → Wd G sh mT J S cs → Post (some (.int (Int32.ofInt v))) cs) (hB4 : ∀ (l1 : Int) (l2 : Int) (l3 : Int) (S : St) (cs : List va_E), B4 l1 l2 l3 S → Wd G sh mT J S cs → Z (RX11, cX11_isBlankWithin, 4, some .boolean, false) G d Post 4 [(0, .ref (G.1 + 54)), (1, .int (Int32.ofInt (l1))), (2, .int (Int32.ofInt (l2))), (3, .int (Int32.ofInt (l3)))] [] cs) (hw : wX11_isBlankWithin_43 l1 l3 s0 S K B4) : Z (RX11, cX11_isBlankWithin, 4, some .boolean, false) G d Post 43 [(0, .ref (G.1 + 54)), (1, .int (Int32.ofInt (l1))), (3, .int (Int32.ofInt (l3)))] [.int (Int32.ofInt (s0))] cs := by
  unfold wX11_isBlankWithin_43 at hw
  refine z_istore_n dX11_isBlankWithin_43 rfl (by decide) ?_
  refine i_iinc (l := l3) dX11_isBlankWithin_44 rfl (by decide) ?_
  refine z_goto (tgt := 4) dX11_isBlankWithin_47 (by decide) ?_
  refine z_loc (L' := [(0, .ref (G.1 + 54)), (1, .int (Int32.ofInt (l1))), (2, .int (Int32.ofInt (s0))), (3, .int (Int32.ofInt ((l3 + 1))))]) (List.forall_mem_cons.mpr ⟨rfl, (List.forall_mem_cons.mpr ⟨rfl, (List.forall_mem_cons.mpr ⟨rfl, (List.forall_mem_cons.mpr ⟨rfl, (fun _ h => nomatch h)⟩)⟩)⟩)⟩) ?_
  exact hB4 _ _ _ _ _ hw hW
def wX11_isBlankWithin_42 (l1 l3 : Int) (S : St) (K : Int → St → Prop) (B4 : Int → Int → Int → St → Prop) : Prop := wX11_isBlankWithin_43 (l1) (l3) (0) S K B4
set_option maxRecDepth 100000 in
set_option maxHeartbeats 4000000 in
theorem bX11_isBlankWithin_42 {G : xG} {sh : Nat → Option Sh} {J : St → List va_E → Prop} {d : Nat} {Post : xP} {l1 l3 : Int} {S : St} {cs : List va_E} {K : Int → St → Prop} {B4 : Int → Int → Int → St → Prop} (hd : 1 ≤ d) (hJ : Stb sh J) (hT : isM sh) (hW : Wd G sh mT J S cs) (hP : ∀ (v : Int) (S : St) (cs : List va_E), K v S → Wd G sh mT J S cs → Post (some (.int (Int32.ofInt v))) cs) (hB4 : ∀ (l1 : Int) (l2 : Int) (l3 : Int) (S : St) (cs : List va_E), B4 l1 l2 l3 S → Wd G sh mT J S cs → Z (RX11, cX11_isBlankWithin, 4, some .boolean, false) G d Post 4 [(0, .ref (G.1 + 54)), (1, .int (Int32.ofInt (l1))), (2, .int (Int32.ofInt (l2))), (3, .int (Int32.ofInt (l3)))] [] cs) (hw : wX11_isBlankWithin_42 l1 l3 S K B4) : Z (RX11, cX11_isBlankWithin, 4, some .boolean, false) G d Post 42 [(0, .ref (G.1 + 54)), (1, .int (Int32.ofInt (l1))), (3, .int (Int32.ofInt (l3)))] [] cs := by
  unfold wX11_isBlankWithin_42 at hw
  refine z_iconst (v := Int32.ofInt 0) dX11_isBlankWithin_42 rfl ?_
  refine z_loc (L' := [(0, .ref (G.1 + 54)), (1, .int (Int32.ofInt (l1))), (3, .int (Int32.ofInt (l3)))]) (List.forall_mem_cons.mpr ⟨rfl, (List.forall_mem_cons.mpr ⟨rfl, (List.forall_mem_cons.mpr ⟨rfl, (fun _ h => nomatch h)⟩)⟩)⟩) ?_
  exact bX11_isBlankWithin_43 hd hJ hT hW hP hB4 hw
def wX11_isBlankWithin_38 (l1 l3 : Int) (S : St) (K : Int → St → Prop) (B4 : Int → Int → Int → St → Prop) : Prop := wX11_isBlankWithin_43 (l1) (l3) (1) S K B4
set_option maxRecDepth 100000 in
set_option maxHeartbeats 4000000 in
theorem bX11_isBlankWithin_38 {G : xG} {sh : Nat → Option Sh} {J : St → List va_E → Prop} {d : Nat} {Post : xP} {l1 l3 : Int} {S : St} {cs : List va_E} {K : Int → St → Prop} {B4 : Int → Int → Int → St → Prop} (hd : 1 ≤ d) (hJ : Stb sh J) (hT : isM sh) (hW : Wd G sh mT J S cs) (hP : ∀ (v : Int) (S : St) (cs : List va_E), K v S → Wd G sh mT J S cs → Post (some (.int (Int32.ofInt v))) cs) (hB4 : ∀ (l1 : Int) (l2 : Int) (l3 : Int) (S : St) (cs : List va_E), B4 l1 l2 l3 S → Wd G sh mT J S cs → Z (RX11, cX11_isBlankWithin, 4, some .boolean, false) G d Post 4 [(0, .ref (G.1 + 54)), (1, .int (Int32.ofInt (l1))), (2, .int (Int32.ofInt (l2))), (3, .int (Int32.ofInt (l3)))] [] cs) (hw : wX11_isBlankWithin_38 l1 l3 S K B4) : Z (RX11, cX11_isBlankWithin, 4, some .boolean, false) G d Post 38 [(0, .ref (G.1 + 54)), (1, .int (Int32.ofInt (l1))), (3, .int (Int32.ofInt (l3)))] [] cs := by
  unfold wX11_isBlankWithin_38 at hw
  refine z_iconst (v := Int32.ofInt 1) dX11_isBlankWithin_38 rfl ?_
  refine z_goto (tgt := 43) dX11_isBlankWithin_39 (by decide) ?_
  refine z_loc (L' := [(0, .ref (G.1 + 54)), (1, .int (Int32.ofInt (l1))), (3, .int (Int32.ofInt (l3)))]) (List.forall_mem_cons.mpr ⟨rfl, (List.forall_mem_cons.mpr ⟨rfl, (List.forall_mem_cons.mpr ⟨rfl, (fun _ h => nomatch h)⟩)⟩)⟩) ?_
  exact bX11_isBlankWithin_43 hd hJ hT hW hP hB4 hw
def wX11_isBlankWithin_4' (l1 l2 l3 : Int) (S : St) (K : Int → St → Prop) (B4 : Int → Int → Int → St → Prop) : Prop := (iv 0 3000 (S.1 54 56) → (rng (l3) ∧ ((S.1 54 56 ≤ l3 → (iv 0 1 (l2) ∧ K (l2) S)) ∧ ((¬ (S.1 54 56 ≤ l3)) → (rng (l2) ∧ ((l2 = 0 → wX11_isBlankWithin_42 (l1) (l3) S K B4) ∧ ((¬ (l2 = 0)) → ((0 : Int) ≤ l3 ∧ l3 < (3000 : Int) ∧ (iv (-2) 199 (S.2 97 (l3)) → (rng (l1) ∧ ((¬ S.2 97 (l3) = l1 → wX11_isBlankWithin_38 (l1) (l3) S K B4) ∧ ((¬ (¬ S.2 97 (l3) = l1)) → ((0 : Int) ≤ l3 ∧ l3 < (3000 : Int) ∧ (iv (-2147483648) 2147483647 (S.2 96 (l3)) → (wX11_isBlank (S.2 96 (l3)) S (fun r13 S14 => (rng (r13) ∧ ((r13 = 0 → wX11_isBlankWithin_42 (l1) (l3) S14 K B4) ∧ ((¬ (r13 = 0)) → wX11_isBlankWithin_38 (l1) (l3) S14 K B4)))))))))))))))))))
set_option maxRecDepth 100000 in
set_option maxHeartbeats 4000000 in
theorem bX11_isBlankWithin_4' {G : xG} {sh : Nat → Option Sh} {J : St → List va_E → Prop} {d : Nat} {Post : xP} {l1 l2 l3 : Int} {S : St} {cs : List va_E} {K : Int → St → Prop} {B4 : Int → Int → Int → St → Prop} (hd : 1 ≤ d) (hJ : Stb sh J) (hT : isM sh) (hW : Wd G sh mT J S cs) (hP : ∀ (v : Int) (S : St) (cs : List va_E), K v S → Wd G sh mT J S cs → Post (some (.int (Int32.ofInt v))) cs) (hB4 : ∀ (l1 : Int) (l2 : Int) (l3 : Int) (S : St) (cs : List va_E), B4 l1 l2 l3 S → Wd G sh mT J S cs → Z (RX11, cX11_isBlankWithin, 4, some .boolean, false) G d Post 4 [(0, .ref (G.1 + 54)), (1, .int (Int32.ofInt (l1))), (2, .int (Int32.ofInt (l2))), (3, .int (Int32.ofInt (l3)))] [] cs) (hw : wX11_isBlankWithin_4' l1 l2 l3 S K B4) : Z (RX11, cX11_isBlankWithin, 4, some .boolean, false) G d Post 4 [(0, .ref (G.1 + 54)), (1, .int (Int32.ofInt (l1))), (2, .int (Int32.ofInt (l2))), (3, .int (Int32.ofInt (l3)))] [] cs := by
  unfold wX11_isBlankWithin_4' at hw
  refine z_iload_n dX11_isBlankWithin_4 rfl rfl ?_
  refine z_aload_n dX11_isBlankWithin_5 rfl rfl ?_
  have q1 : iv 0 3000 (S.1 54 56) := mI56 hW
  have hw := hw q1
  refine g_getI hW hT.1 mr56 kX11 fX11_355 dX11_isBlankWithin_6 ?_
  obtain ⟨q3, hw⟩ := hw
  refine i_icmp_ge (tgt := 50) dX11_isBlankWithin_9 (by decide) q3 (rngq q1 (by decide) (by decide)) (fun h2 => ?_) (fun h2 => ?_)
  · have hw := hw.1 h2
    refine z_iload_n dX11_isBlankWithin_50 rfl rfl ?_
    obtain ⟨q4, hw⟩ := hw
    exact z_ireturn dX11_isBlankWithin_51 rfl (nar01 (b01 q4)) (hP _ _ _ hw hW)
  · have hw := hw.2 h2
    refine z_iload_n dX11_isBlankWithin_12 rfl rfl ?_
    obtain ⟨q6, hw⟩ := hw
    refine i_if_eq (tgt := 42) dX11_isBlankWithin_13 (by decide) q6 (fun h5 => ?_) (fun h5 => ?_)
    · have hw := hw.1 h5
      refine z_loc (L' := [(0, .ref (G.1 + 54)), (1, .int (Int32.ofInt (l1))), (3, .int (Int32.ofInt (l3)))]) (List.forall_mem_cons.mpr ⟨rfl, (List.forall_mem_cons.mpr ⟨rfl, (List.forall_mem_cons.mpr ⟨rfl, (fun _ h => nomatch h)⟩)⟩)⟩) ?_
      exact bX11_isBlankWithin_42 hd hJ hT hW hP hB4 hw
    · have hw := hw.2 h5
      refine z_aload_n dX11_isBlankWithin_16 rfl rfl ?_
      refine g_getR hW hT.1 mr58 kX11 fX11_141 dX11_isBlankWithin_17 ?_
      refine z_iload_n dX11_isBlankWithin_20 rfl rfl ?_
      obtain ⟨q7a, q7b, hw⟩ := hw
      have q8 : iv (-2) 199 (S.2 97 (l3)) := mA97 hW _
      have hw := hw q8
      refine g_iald hW (ma97 hT) q7a q7b (by decide) dX11_isBlankWithin_21 ?_
      refine z_iload_n dX11_isBlankWithin_22 rfl rfl ?_
      obtain ⟨q10, hw⟩ := hw
      refine i_icmp_ne (tgt := 38) dX11_isBlankWithin_23 (by decide) (rngq q8 (by decide) (by decide)) q10 (fun h9 => ?_) (fun h9 => ?_)
      · have hw := hw.1 h9
        refine z_loc (L' := [(0, .ref (G.1 + 54)), (1, .int (Int32.ofInt (l1))), (3, .int (Int32.ofInt (l3)))]) (List.forall_mem_cons.mpr ⟨rfl, (List.forall_mem_cons.mpr ⟨rfl, (List.forall_mem_cons.mpr ⟨rfl, (fun _ h => nomatch h)⟩)⟩)⟩) ?_
        exact bX11_isBlankWithin_38 hd hJ hT hW hP hB4 hw
      · have hw := hw.2 h9
        refine z_aload_n dX11_isBlankWithin_26 rfl rfl ?_
        refine g_getR hW hT.1 mr57 kX11 fX11_138 dX11_isBlankWithin_27 ?_
        refine z_iload_n dX11_isBlankWithin_30 rfl rfl ?_
        obtain ⟨q11a, q11b, hw⟩ := hw
        have q12 : iv (-2147483648) 2147483647 (S.2 96 (l3)) := mA96 hW _
        have hw := hw q12
        refine g_iald hW (ma96 hT) q11a q11b (by decide) dX11_isBlankWithin_31 ?_
        have hX := lX11_isBlank 0 (Nat.le_refl _) hJ hT hW (rngq q12 (by decide) (by decide)) hw
        refine z_callS (As := [_]) eX11_isBlank sX11_isBlank lX11_178 dX11_isBlankWithin_32 hX (Nat.le_trans (by decide) hd) rfl (Nat.le_of_ble_eq_true rfl) (fun r cs hp => ?_)
        obtain ⟨r13, S14, rfl, hw, hW⟩ := hp
        refine z_st (st' := [.int (Int32.ofInt (r13))]) rfl ?_
        obtain ⟨q16, hw⟩ := hw
        refine i_if_eq (tgt := 42) dX11_isBlankWithin_35 (by decide) q16 (fun h15 => ?_) (fun h15 => ?_)
        · have hw := hw.1 h15
          refine z_loc (L' := [(0, .ref (G.1 + 54)), (1, .int (Int32.ofInt (l1))), (3, .int (Int32.ofInt (l3)))]) (List.forall_mem_cons.mpr ⟨rfl, (List.forall_mem_cons.mpr ⟨rfl, (List.forall_mem_cons.mpr ⟨rfl, (fun _ h => nomatch h)⟩)⟩)⟩) ?_
          exact bX11_isBlankWithin_42 hd hJ hT hW hP hB4 hw
        · have hw := hw.2 h15
          refine z_loc (L' := [(0, .ref (G.1 + 54)), (1, .int (Int32.ofInt (l1))), (3, .int (Int32.ofInt (l3)))]) (List.forall_mem_cons.mpr ⟨rfl, (List.forall_mem_cons.mpr ⟨rfl, (List.forall_mem_cons.mpr ⟨rfl, (fun _ h => nomatch h)⟩)⟩)⟩) ?_
          exact bX11_isBlankWithin_38 hd hJ hT hW hP hB4 hw
def wX11_isBlankWithin_4 (l1 l2 l3 : Int) (S : St) (K : Int → St → Prop) : Prop := ∃ (Iv : Int → Int → Int → St → Prop) (mu : Int → Int → Int → St → Nat), Iv l1 l2 l3 S ∧ ∀ (l1 l2 l3 : Int) (S : St), Iv l1 l2 l3 S → wX11_isBlankWithin_4' l1 l2 l3 S K  (fun ml1 ml2 ml3 T => Iv ml1 ml2 ml3 T ∧ mu ml1 ml2 ml3 T < mu l1 l2 l3 S)
set_option maxRecDepth 100000 in
set_option maxHeartbeats 4000000 in
theorem bX11_isBlankWithin_4 {G : xG} {sh : Nat → Option Sh} {J : St → List va_E → Prop} {d : Nat} {Post : xP} {l1 l2 l3 : Int} {S : St} {cs : List va_E} {K : Int → St → Prop} (hd : 1 ≤ d) (hJ : Stb sh J) (hT : isM sh) (hW : Wd G sh mT J S cs) (hP : ∀ (v : Int) (S : St) (cs : List va_E), K v S → Wd G sh mT J S cs → Post (some (.int (Int32.ofInt v))) cs)  (hw : wX11_isBlankWithin_4 l1 l2 l3 S K ) : Z (RX11, cX11_isBlankWithin, 4, some .boolean, false) G d Post 4 [(0, .ref (G.1 + 54)), (1, .int (Int32.ofInt (l1))), (2, .int (Int32.ofInt (l2))), (3, .int (Int32.ofInt (l3)))] [] cs := by
  unfold wX11_isBlankWithin_4 at hw
  obtain ⟨Iv, mu, h0, hs⟩ := hw
  have key : ∀ (n : Nat) (l1 l2 l3 : Int) (S : St) (cs : List va_E), mu l1 l2 l3 S < n → Iv l1 l2 l3 S → Wd G sh mT J S cs → Z (RX11, cX11_isBlankWithin, 4, some .boolean, false) G d Post 4 [(0, .ref (G.1 + 54)), (1, .int (Int32.ofInt (l1))), (2, .int (Int32.ofInt (l2))), (3, .int (Int32.ofInt (l3)))] [] cs := by
    intro n
    induction n with
    | zero => intro l1 l2 l3 S cs hn; exact absurd hn (Nat.not_lt_zero _)
    | succ n ih =>
      intro l1 l2 l3 S cs hn hI hW
      exact bX11_isBlankWithin_4' hd hJ hT hW hP  (fun l1 l2 l3 S cs hb hW => ih l1 l2 l3 S cs (Nat.lt_of_lt_of_le hb.2 (Nat.le_of_lt_succ hn)) hb.1 hW) (hs l1 l2 l3 S hI)
  exact key _ _ _ _ _ _ (Nat.lt_succ_self _) h0 hW
def wX11_isBlankWithin (a1 : Int) (S : St) (K : Int → St → Prop) : Prop := rng a1 → wX11_isBlankWithin_4 (a1) (1) (0) S K
set_option maxRecDepth 100000 in
set_option maxHeartbeats 4000000 in
theorem lX11_isBlankWithin {G : xG} {sh : Nat → Option Sh} {J : St → List va_E → Prop} {a1 : Int} {S : St} {cs : List va_E} {K : Int → St → Prop} (d : Nat) (hd : 1 ≤ d) (hJ : Stb sh J) (hT : isM sh) (hW : Wd G sh mT J S cs) (g1 : rng a1) (hw : wX11_isBlankWithin a1 S K) : X G yX11_isBlankWithin cX11_isBlankWithin 4 (some .boolean) d [.ref (G.1 + 54), .int (Int32.ofInt a1)] cs (qI G sh mT J K) := by
  refine X.of false (by decide +kernel) (by decide) (Nat.le_of_ble_eq_true rfl) ?_
  show Z (RX11, cX11_isBlankWithin, 4, some .boolean, false) G d _ 0 [(0, .ref (G.1 + 54)), (1, .int (Int32.ofInt a1))] [] cs
  have hP : ∀ (v : Int) (S : St) (cs : List va_E), K v S → Wd G sh mT J S cs → qI G sh mT J K (some (.int (Int32.ofInt v))) cs := fun v S cs a b => ⟨v, S, rfl, a, b⟩
  unfold wX11_isBlankWithin at hw
  have hw := hw g1
  refine z_iconst (v := Int32.ofInt 1) dX11_isBlankWithin_0 rfl ?_
  refine z_istore_n dX11_isBlankWithin_1 rfl (by decide) ?_
  refine z_iconst (v := Int32.ofInt 0) dX11_isBlankWithin_2 rfl ?_
  refine z_istore_n dX11_isBlankWithin_3 rfl (by decide) ?_
  refine z_loc (L' := [(0, .ref (G.1 + 54)), (1, .int (Int32.ofInt (a1))), (2, .int (Int32.ofInt (1))), (3, .int (Int32.ofInt (0)))]) (List.forall_mem_cons.mpr ⟨rfl, (List.forall_mem_cons.mpr ⟨rfl, (List.forall_mem_cons.mpr ⟨rfl, (List.forall_mem_cons.mpr ⟨rfl, (fun _ h => nomatch h)⟩)⟩)⟩)⟩) ?_
  exact bX11_isBlankWithin_4 hd hJ hT hW hP  hw

def wX11_isId_135 (l1 l4 l6 s0 : Int) (S : St) (K : Int → St → Prop) (B107 : Int → Int → Int → Int → St → Prop) : Prop := B107 (l1) (l4) (s0) ((l6 + 1)) S
set_option maxRecDepth 100000 in
set_option maxHeartbeats 4000000 in
theorem bX11_isId_135 {G : xG} {sh : Nat → Option Sh} {J : St → List va_E → Prop} {d : Nat} {Post : xP} {l1 l4 l6 s0 : Int} {S : St} {cs : List va_E} {K : Int → St → Prop} {B107 : Int → Int → Int → Int → St → Prop} (hd : 1 ≤ d) (hJ : Stb sh J) (hT : isM sh) (hW : Wd G sh mT J S cs) (hP : ∀ (v : Int) (S : St) (cs : List va_E), K v S → Wd G sh mT J S cs → Post (some (.int (Int32.ofInt v))) cs) (hB107 : ∀ (l1 : Int) (l4 : Int) (l5 : Int) (l6 : Int) (S : St) (cs : List va_E), B107 l1 l4 l5 l6 S → Wd G sh mT J S cs → Z (RX11, cX11_isId, 7, some .boolean, false) G d Post 107 [(0, .ref (G.1 + 54)), (1, .int (Int32.ofInt (l1))), (4, .int (Int32.ofInt (l4))), (5, .int (Int32.ofInt (l5))), (6, .int (Int32.ofInt (l6)))] [] cs) (hw : wX11_isId_135 l1 l4 l6 s0 S K B107) : Z (RX11, cX11_isId, 7, some .boolean, false) G d Post 135 [(0, .ref (G.1 + 54)), (1, .int (Int32.ofInt (l1))), (4, .int (Int32.ofInt (l4))), (6, .int (Int32.ofInt (l6)))] [.int (Int32.ofInt (s0))] cs := by
  unfold wX11_isId_135 at hw
  refine z_istore dX11_isId_135 (by decide) ?_
  refine i_iinc (l := l6) dX11_isId_137 rfl (by decide) ?_
  refine z_goto (tgt := 107) dX11_isId_140 (by decide) ?_
  refine z_loc (L' := [(0, .ref (G.1 + 54)), (1, .int (Int32.ofInt (l1))), (4, .int (Int32.ofInt (l4))), (5, .int (Int32.ofInt (s0))), (6, .int (Int32.ofInt ((l6 + 1))))]) (List.forall_mem_cons.mpr ⟨rfl, (List.forall_mem_cons.mpr ⟨rfl, (List.forall_mem_cons.mpr ⟨rfl, (List.forall_mem_cons.mpr ⟨rfl, (List.forall_mem_cons.mpr ⟨rfl, (fun _ h => nomatch h)⟩)⟩)⟩)⟩)⟩) ?_
  exact hB107 _ _ _ _ _ _ hw hW
def wX11_isId_130 (l1 l4 l6 : Int) (S : St) (K : Int → St → Prop) (B107 : Int → Int → Int → Int → St → Prop) : Prop := wX11_isId_135 (l1) (l4) (l6) (1) S K B107
set_option maxRecDepth 100000 in
set_option maxHeartbeats 4000000 in
theorem bX11_isId_130 {G : xG} {sh : Nat → Option Sh} {J : St → List va_E → Prop} {d : Nat} {Post : xP} {l1 l4 l6 : Int} {S : St} {cs : List va_E} {K : Int → St → Prop} {B107 : Int → Int → Int → Int → St → Prop} (hd : 1 ≤ d) (hJ : Stb sh J) (hT : isM sh) (hW : Wd G sh mT J S cs) (hP : ∀ (v : Int) (S : St) (cs : List va_E), K v S → Wd G sh mT J S cs → Post (some (.int (Int32.ofInt v))) cs) (hB107 : ∀ (l1 : Int) (l4 : Int) (l5 : Int) (l6 : Int) (S : St) (cs : List va_E), B107 l1 l4 l5 l6 S → Wd G sh mT J S cs → Z (RX11, cX11_isId, 7, some .boolean, false) G d Post 107 [(0, .ref (G.1 + 54)), (1, .int (Int32.ofInt (l1))), (4, .int (Int32.ofInt (l4))), (5, .int (Int32.ofInt (l5))), (6, .int (Int32.ofInt (l6)))] [] cs) (hw : wX11_isId_130 l1 l4 l6 S K B107) : Z (RX11, cX11_isId, 7, some .boolean, false) G d Post 130 [(0, .ref (G.1 + 54)), (1, .int (Int32.ofInt (l1))), (4, .int (Int32.ofInt (l4))), (6, .int (Int32.ofInt (l6)))] [] cs := by
  unfold wX11_isId_130 at hw
  refine z_iconst (v := Int32.ofInt 1) dX11_isId_130 rfl ?_
  refine z_goto (tgt := 135) dX11_isId_131 (by decide) ?_
  refine z_loc (L' := [(0, .ref (G.1 + 54)), (1, .int (Int32.ofInt (l1))), (4, .int (Int32.ofInt (l4))), (6, .int (Int32.ofInt (l6)))]) (List.forall_mem_cons.mpr ⟨rfl, (List.forall_mem_cons.mpr ⟨rfl, (List.forall_mem_cons.mpr ⟨rfl, (List.forall_mem_cons.mpr ⟨rfl, (fun _ h => nomatch h)⟩)⟩)⟩)⟩) ?_
  exact bX11_isId_135 hd hJ hT hW hP hB107 hw
def wX11_isId_107' (l1 l4 l5 l6 : Int) (S : St) (K : Int → St → Prop) (B107 : Int → Int → Int → Int → St → Prop) : Prop := (rng (l6) ∧ (rng (l1) ∧ ((l1 ≤ l6 → (rng (l5) ∧ ((¬ l5 = 0 → K (0) S) ∧ ((¬ (¬ l5 = 0)) → K (1) S)))) ∧ ((¬ (l1 ≤ l6)) → (rng (l5) ∧ ((¬ l5 = 0 → wX11_isId_130 (l1) (l4) (l6) S K B107) ∧ ((¬ (¬ l5 = 0)) → ((0 : Int) ≤ l6 ∧ l6 < (200 : Int) ∧ (iv 0 99999 (S.2 102 (l6)) → (rng (l4) ∧ ((¬ S.2 102 (l6) = l4 → wX11_isId_135 (l1) (l4) (l6) (0) S K B107) ∧ ((¬ (¬ S.2 102 (l6) = l4)) → wX11_isId_130 (l1) (l4) (l6) S K B107))))))))))))
set_option maxRecDepth 100000 in
set_option maxHeartbeats 4000000 in
theorem bX11_isId_107' {G : xG} {sh : Nat → Option Sh} {J : St → List va_E → Prop} {d : Nat} {Post : xP} {l1 l4 l5 l6 : Int} {S : St} {cs : List va_E} {K : Int → St → Prop} {B107 : Int → Int → Int → Int → St → Prop} (hd : 1 ≤ d) (hJ : Stb sh J) (hT : isM sh) (hW : Wd G sh mT J S cs) (hP : ∀ (v : Int) (S : St) (cs : List va_E), K v S → Wd G sh mT J S cs → Post (some (.int (Int32.ofInt v))) cs) (hB107 : ∀ (l1 : Int) (l4 : Int) (l5 : Int) (l6 : Int) (S : St) (cs : List va_E), B107 l1 l4 l5 l6 S → Wd G sh mT J S cs → Z (RX11, cX11_isId, 7, some .boolean, false) G d Post 107 [(0, .ref (G.1 + 54)), (1, .int (Int32.ofInt (l1))), (4, .int (Int32.ofInt (l4))), (5, .int (Int32.ofInt (l5))), (6, .int (Int32.ofInt (l6)))] [] cs) (hw : wX11_isId_107' l1 l4 l5 l6 S K B107) : Z (RX11, cX11_isId, 7, some .boolean, false) G d Post 107 [(0, .ref (G.1 + 54)), (1, .int (Int32.ofInt (l1))), (4, .int (Int32.ofInt (l4))), (5, .int (Int32.ofInt (l5))), (6, .int (Int32.ofInt (l6)))] [] cs := by
  unfold wX11_isId_107' at hw
  refine z_iload dX11_isId_107 rfl ?_
  refine z_iload_n dX11_isId_109 rfl rfl ?_
  obtain ⟨q2, hw⟩ := hw
  obtain ⟨q3, hw⟩ := hw
  refine i_icmp_ge (tgt := 143) dX11_isId_110 (by decide) q2 q3 (fun h1 => ?_) (fun h1 => ?_)
  · have hw := hw.1 h1
    refine z_iload dX11_isId_143 rfl ?_
    obtain ⟨q5, hw⟩ := hw
    refine i_if_ne (tgt := 152) dX11_isId_145 (by decide) q5 (fun h4 => ?_) (fun h4 => ?_)
    · have hw := hw.1 h4
      refine z_iconst (v := Int32.ofInt 0) dX11_isId_152 rfl ?_
      exact z_ireturn dX11_isId_153 rfl (nar01 (by decide)) (hP _ _ _ hw hW)
    · have hw := hw.2 h4
      refine z_iconst (v := Int32.ofInt 1) dX11_isId_148 rfl ?_
      refine z_goto (tgt := 153) dX11_isId_149 (by decide) ?_
      exact z_ireturn dX11_isId_153 rfl (nar01 (by decide)) (hP _ _ _ hw hW)
  · have hw := hw.2 h1
    refine z_iload dX11_isId_113 rfl ?_
    obtain ⟨q7, hw⟩ := hw
    refine i_if_ne (tgt := 130) dX11_isId_115 (by decide) q7 (fun h6 => ?_) (fun h6 => ?_)
    · have hw := hw.1 h6
      refine z_loc (L' := [(0, .ref (G.1 + 54)), (1, .int (Int32.ofInt (l1))), (4, .int (Int32.ofInt (l4))), (6, .int (Int32.ofInt (l6)))]) (List.forall_mem_cons.mpr ⟨rfl, (List.forall_mem_cons.mpr ⟨rfl, (List.forall_mem_cons.mpr ⟨rfl, (List.forall_mem_cons.mpr ⟨rfl, (fun _ h => nomatch h)⟩)⟩)⟩)⟩) ?_
      exact bX11_isId_130 hd hJ hT hW hP hB107 hw
    · have hw := hw.2 h6
      refine z_aload_n dX11_isId_118 rfl rfl ?_
      refine g_getR hW hT.1 mr65 kX11 fX11_156 dX11_isId_119 ?_
      refine z_iload dX11_isId_122 rfl ?_
      obtain ⟨q8a, q8b, hw⟩ := hw
      have q9 : iv 0 99999 (S.2 102 (l6)) := mA102 hW _
      have hw := hw q9
      refine g_iald hW (ma102 hT) q8a q8b (by decide) dX11_isId_124 ?_
      refine z_iload dX11_isId_125 rfl ?_
      obtain ⟨q11, hw⟩ := hw
      refine i_icmp_ne (tgt := 134) dX11_isId_127 (by decide) (rngq q9 (by decide) (by decide)) q11 (fun h10 => ?_) (fun h10 => ?_)
      · have hw := hw.1 h10
        refine z_iconst (v := Int32.ofInt 0) dX11_isId_134 rfl ?_
        refine z_loc (L' := [(0, .ref (G.1 + 54)), (1, .int (Int32.ofInt (l1))), (4, .int (Int32.ofInt (l4))), (6, .int (Int32.ofInt (l6)))]) (List.forall_mem_cons.mpr ⟨rfl, (List.forall_mem_cons.mpr ⟨rfl, (List.forall_mem_cons.mpr ⟨rfl, (List.forall_mem_cons.mpr ⟨rfl, (fun _ h => nomatch h)⟩)⟩)⟩)⟩) ?_
        exact bX11_isId_135 hd hJ hT hW hP hB107 hw
      · have hw := hw.2 h10
        refine z_loc (L' := [(0, .ref (G.1 + 54)), (1, .int (Int32.ofInt (l1))), (4, .int (Int32.ofInt (l4))), (6, .int (Int32.ofInt (l6)))]) (List.forall_mem_cons.mpr ⟨rfl, (List.forall_mem_cons.mpr ⟨rfl, (List.forall_mem_cons.mpr ⟨rfl, (List.forall_mem_cons.mpr ⟨rfl, (fun _ h => nomatch h)⟩)⟩)⟩)⟩) ?_
        exact bX11_isId_130 hd hJ hT hW hP hB107 hw
def wX11_isId_107 (l1 l4 l5 l6 : Int) (S : St) (K : Int → St → Prop) : Prop := ∃ (Iv : Int → Int → Int → Int → St → Prop) (mu : Int → Int → Int → Int → St → Nat), Iv l1 l4 l5 l6 S ∧ ∀ (l1 l4 l5 l6 : Int) (S : St), Iv l1 l4 l5 l6 S → wX11_isId_107' l1 l4 l5 l6 S K  (fun ml1 ml4 ml5 ml6 T => Iv ml1 ml4 ml5 ml6 T ∧ mu ml1 ml4 ml5 ml6 T < mu l1 l4 l5 l6 S)
set_option maxRecDepth 100000 in
set_option maxHeartbeats 4000000 in
theorem bX11_isId_107 {G : xG} {sh : Nat → Option Sh} {J : St → List va_E → Prop} {d : Nat} {Post : xP} {l1 l4 l5 l6 : Int} {S : St} {cs : List va_E} {K : Int → St → Prop} (hd : 1 ≤ d) (hJ : Stb sh J) (hT : isM sh) (hW : Wd G sh mT J S cs) (hP : ∀ (v : Int) (S : St) (cs : List va_E), K v S → Wd G sh mT J S cs → Post (some (.int (Int32.ofInt v))) cs)  (hw : wX11_isId_107 l1 l4 l5 l6 S K ) : Z (RX11, cX11_isId, 7, some .boolean, false) G d Post 107 [(0, .ref (G.1 + 54)), (1, .int (Int32.ofInt (l1))), (4, .int (Int32.ofInt (l4))), (5, .int (Int32.ofInt (l5))), (6, .int (Int32.ofInt (l6)))] [] cs := by
  unfold wX11_isId_107 at hw
  obtain ⟨Iv, mu, h0, hs⟩ := hw
  have key : ∀ (n : Nat) (l1 l4 l5 l6 : Int) (S : St) (cs : List va_E), mu l1 l4 l5 l6 S < n → Iv l1 l4 l5 l6 S → Wd G sh mT J S cs → Z (RX11, cX11_isId, 7, some .boolean, false) G d Post 107 [(0, .ref (G.1 + 54)), (1, .int (Int32.ofInt (l1))), (4, .int (Int32.ofInt (l4))), (5, .int (Int32.ofInt (l5))), (6, .int (Int32.ofInt (l6)))] [] cs := by
    intro n
    induction n with
    | zero => intro l1 l4 l5 l6 S cs hn; exact absurd hn (Nat.not_lt_zero _)
    | succ n ih =>
      intro l1 l4 l5 l6 S cs hn hI hW
      exact bX11_isId_107' hd hJ hT hW hP  (fun l1 l4 l5 l6 S cs hb hW => ih l1 l4 l5 l6 S cs (Nat.lt_of_lt_of_le hb.2 (Nat.le_of_lt_succ hn)) hb.1 hW) (hs l1 l4 l5 l6 S hI)
  exact key _ _ _ _ _ _ _ (Nat.lt_succ_self _) h0 hW
def wX11_isId_82 (l1 l3 l4 : Int) (S : St) (K : Int → St → Prop) : Prop := (rng (l3) ∧ (wX11_in (l3) (1) (4) S (fun r2 S3 => (rng (r2) ∧ ((¬ r2 = 0 → ((0 : Int) ≤ l1 ∧ l1 < (200 : Int) ∧ (iv 0 99999 (l4) ∧ (∀ S7, S7 = pA S3 102 (l1) (l4) → wX11_isId_107 (l1) (l4) (0) (0) S7 K)))) ∧ ((¬ (¬ r2 = 0)) → K (0) S3))))))
set_option maxRecDepth 100000 in
set_option maxHeartbeats 4000000 in
theorem bX11_isId_82 {G : xG} {sh : Nat → Option Sh} {J : St → List va_E → Prop} {d : Nat} {Post : xP} {l1 l3 l4 : Int} {S : St} {cs : List va_E} {K : Int → St → Prop} (hd : 1 ≤ d) (hJ : Stb sh J) (hT : isM sh) (hW : Wd G sh mT J S cs) (hP : ∀ (v : Int) (S : St) (cs : List va_E), K v S → Wd G sh mT J S cs → Post (some (.int (Int32.ofInt v))) cs)  (hw : wX11_isId_82 l1 l3 l4 S K ) : Z (RX11, cX11_isId, 7, some .boolean, false) G d Post 82 [(0, .ref (G.1 + 54)), (1, .int (Int32.ofInt (l1))), (3, .int (Int32.ofInt (l3))), (4, .int (Int32.ofInt (l4)))] [] cs := by
  unfold wX11_isId_82 at hw
  refine z_iload_n dX11_isId_82 rfl rfl ?_
  refine z_iconst (v := Int32.ofInt 1) dX11_isId_83 rfl ?_
  refine z_iconst (v := Int32.ofInt 4) dX11_isId_84 rfl ?_
  obtain ⟨q1, hw⟩ := hw
  have hX := lX11_in 0 (Nat.le_refl _) hJ hT hW q1 ⟨by decide, by decide⟩ ⟨by decide, by decide⟩ hw
  refine z_callS (As := [_, _, _]) eX11_in sX11_in lX11_174 dX11_isId_85 hX (Nat.le_trans (by decide) hd) rfl (Nat.le_of_ble_eq_true rfl) (fun r cs hp => ?_)
  obtain ⟨r2, S3, rfl, hw, hW⟩ := hp
  refine z_st (st' := [.int (Int32.ofInt (r2))]) rfl ?_
  obtain ⟨q5, hw⟩ := hw
  refine i_if_ne (tgt := 93) dX11_isId_88 (by decide) q5 (fun h4 => ?_) (fun h4 => ?_)
  · have hw := hw.1 h4
    refine z_aload_n dX11_isId_93 rfl rfl ?_
    refine g_getR hW hT.1 mr65 kX11 fX11_156 dX11_isId_94 ?_
    refine z_iload_n dX11_isId_97 rfl rfl ?_
    refine z_iload dX11_isId_98 rfl ?_
    obtain ⟨q6a, q6b, hw⟩ := hw
    obtain ⟨q8, hw⟩ := hw
    refine g_iast hJ hW (ma102 hT) q6a q6b (by decide) q8 dX11_isId_100 (fun cs hW => ?_)
    obtain ⟨S7, hS7⟩ : ∃ x, x = pA S3 102 (l1) (l4) := ⟨_, rfl⟩
    rw [← hS7] at hW
    have hw := hw S7 hS7
    refine z_iconst (v := Int32.ofInt 0) dX11_isId_101 rfl ?_
    refine z_istore dX11_isId_102 (by decide) ?_
    refine z_iconst (v := Int32.ofInt 0) dX11_isId_104 rfl ?_
    refine z_istore dX11_isId_105 (by decide) ?_
    refine z_loc (L' := [(0, .ref (G.1 + 54)), (1, .int (Int32.ofInt (l1))), (4, .int (Int32.ofInt (l4))), (5, .int (Int32.ofInt (0))), (6, .int (Int32.ofInt (0)))]) (List.forall_mem_cons.mpr ⟨rfl, (List.forall_mem_cons.mpr ⟨rfl, (List.forall_mem_cons.mpr ⟨rfl, (List.forall_mem_cons.mpr ⟨rfl, (List.forall_mem_cons.mpr ⟨rfl, (fun _ h => nomatch h)⟩)⟩)⟩)⟩)⟩) ?_
    exact bX11_isId_107 hd hJ hT hW hP  hw
  · have hw := hw.2 h4
    refine z_iconst (v := Int32.ofInt 0) dX11_isId_91 rfl ?_
    exact z_ireturn dX11_isId_92 rfl (nar01 (by decide)) (hP _ _ _ hw hW)
def wX11_isId_63 (l1 l2 l3 l4 l5 l6 : Int) (S : St) (K : Int → St → Prop) (B13 : Int → Int → Int → Int → Int → St → Prop) : Prop := B13 (l1) (l2) (l3) ((((l4 * 10) + l6) - 48)) ((l5 + 1)) S
set_option maxRecDepth 100000 in
set_option maxHeartbeats 4000000 in
theorem bX11_isId_63 {G : xG} {sh : Nat → Option Sh} {J : St → List va_E → Prop} {d : Nat} {Post : xP} {l1 l2 l3 l4 l5 l6 : Int} {S : St} {cs : List va_E} {K : Int → St → Prop} {B13 : Int → Int → Int → Int → Int → St → Prop} (hd : 1 ≤ d) (hJ : Stb sh J) (hT : isM sh) (hW : Wd G sh mT J S cs) (hP : ∀ (v : Int) (S : St) (cs : List va_E), K v S → Wd G sh mT J S cs → Post (some (.int (Int32.ofInt v))) cs) (hB13 : ∀ (l1 : Int) (l2 : Int) (l3 : Int) (l4 : Int) (l5 : Int) (S : St) (cs : List va_E), B13 l1 l2 l3 l4 l5 S → Wd G sh mT J S cs → Z (RX11, cX11_isId, 7, some .boolean, false) G d Post 13 [(0, .ref (G.1 + 54)), (1, .int (Int32.ofInt (l1))), (2, .int (Int32.ofInt (l2))), (3, .int (Int32.ofInt (l3))), (4, .int (Int32.ofInt (l4))), (5, .int (Int32.ofInt (l5)))] [] cs) (hw : wX11_isId_63 l1 l2 l3 l4 l5 l6 S K B13) : Z (RX11, cX11_isId, 7, some .boolean, false) G d Post 63 [(0, .ref (G.1 + 54)), (1, .int (Int32.ofInt (l1))), (2, .int (Int32.ofInt (l2))), (3, .int (Int32.ofInt (l3))), (4, .int (Int32.ofInt (l4))), (5, .int (Int32.ofInt (l5))), (6, .int (Int32.ofInt (l6)))] [] cs := by
  unfold wX11_isId_63 at hw
  refine z_iload dX11_isId_63 rfl ?_
  refine z_bipush (v := Int32.ofInt 10) dX11_isId_65 (by decide) ?_
  refine i_imul dX11_isId_67 ?_
  refine z_iload dX11_isId_68 rfl ?_
  refine i_iadd dX11_isId_70 ?_
  refine z_bipush (v := Int32.ofInt 48) dX11_isId_71 (by decide) ?_
  refine i_isub dX11_isId_73 ?_
  refine z_istore dX11_isId_74 (by decide) ?_
  refine i_iinc (l := l5) dX11_isId_76 rfl (by decide) ?_
  refine z_goto (tgt := 13) dX11_isId_79 (by decide) ?_
  refine z_loc (L' := [(0, .ref (G.1 + 54)), (1, .int (Int32.ofInt (l1))), (2, .int (Int32.ofInt (l2))), (3, .int (Int32.ofInt (l3))), (4, .int (Int32.ofInt ((((l4 * 10) + l6) - 48)))), (5, .int (Int32.ofInt ((l5 + 1))))]) (List.forall_mem_cons.mpr ⟨rfl, (List.forall_mem_cons.mpr ⟨rfl, (List.forall_mem_cons.mpr ⟨rfl, (List.forall_mem_cons.mpr ⟨rfl, (List.forall_mem_cons.mpr ⟨rfl, (List.forall_mem_cons.mpr ⟨rfl, (fun _ h => nomatch h)⟩)⟩)⟩)⟩)⟩)⟩) ?_
  exact hB13 _ _ _ _ _ _ _ hw hW
def wX11_isId_13' (l1 l2 l3 l4 l5 : Int) (S : St) (K : Int → St → Prop) (B13 : Int → Int → Int → Int → Int → St → Prop) : Prop := (rng (l5) ∧ (rng (l3) ∧ ((l3 ≤ l5 → wX11_isId_82 (l1) (l3) (l4) S K) ∧ ((¬ (l3 ≤ l5)) → ((5 ≤ l5 → wX11_isId_82 (l1) (l3) (l4) S K) ∧ ((¬ (5 ≤ l5)) → ((0 : Int) ≤ l2 ∧ l2 < (600 : Int) ∧ (iv 0 3000 (S.2 94 (l2)) → ((0 : Int) ≤ (S.2 94 (l2) + l5) ∧ (S.2 94 (l2) + l5) < (3000 : Int) ∧ (iv (-2147483648) 2147483647 (S.2 96 ((S.2 94 (l2) + l5))) → (wX11_isDigit (S.2 96 ((S.2 94 (l2) + l5))) S (fun r9 S10 => (rng (r9) ∧ ((r9 = 0 → K (0) S10) ∧ ((¬ (r9 = 0)) → ((¬ l5 = 0 → wX11_isId_63 (l1) (l2) (l3) (l4) (l5) (S.2 96 ((S.2 94 (l2) + l5))) S10 K B13) ∧ ((¬ (¬ l5 = 0)) → ((¬ S.2 96 ((S.2 94 (l2) + l5)) = 48 → wX11_isId_63 (l1) (l2) (l3) (l4) (l5) (S.2 96 ((S.2 94 (l2) + l5))) S10 K B13) ∧ ((¬ (¬ S.2 96 ((S.2 94 (l2) + l5)) = 48)) → K (0) S10)))))))))))))))))))
set_option maxRecDepth 100000 in
set_option maxHeartbeats 4000000 in
theorem bX11_isId_13' {G : xG} {sh : Nat → Option Sh} {J : St → List va_E → Prop} {d : Nat} {Post : xP} {l1 l2 l3 l4 l5 : Int} {S : St} {cs : List va_E} {K : Int → St → Prop} {B13 : Int → Int → Int → Int → Int → St → Prop} (hd : 1 ≤ d) (hJ : Stb sh J) (hT : isM sh) (hW : Wd G sh mT J S cs) (hP : ∀ (v : Int) (S : St) (cs : List va_E), K v S → Wd G sh mT J S cs → Post (some (.int (Int32.ofInt v))) cs) (hB13 : ∀ (l1 : Int) (l2 : Int) (l3 : Int) (l4 : Int) (l5 : Int) (S : St) (cs : List va_E), B13 l1 l2 l3 l4 l5 S → Wd G sh mT J S cs → Z (RX11, cX11_isId, 7, some .boolean, false) G d Post 13 [(0, .ref (G.1 + 54)), (1, .int (Int32.ofInt (l1))), (2, .int (Int32.ofInt (l2))), (3, .int (Int32.ofInt (l3))), (4, .int (Int32.ofInt (l4))), (5, .int (Int32.ofInt (l5)))] [] cs) (hw : wX11_isId_13' l1 l2 l3 l4 l5 S K B13) : Z (RX11, cX11_isId, 7, some .boolean, false) G d Post 13 [(0, .ref (G.1 + 54)), (1, .int (Int32.ofInt (l1))), (2, .int (Int32.ofInt (l2))), (3, .int (Int32.ofInt (l3))), (4, .int (Int32.ofInt (l4))), (5, .int (Int32.ofInt (l5)))] [] cs := by
  unfold wX11_isId_13' at hw
  refine z_iload dX11_isId_13 rfl ?_
  refine z_iload_n dX11_isId_15 rfl rfl ?_
  obtain ⟨q2, hw⟩ := hw
  obtain ⟨q3, hw⟩ := hw
  refine i_icmp_ge (tgt := 82) dX11_isId_16 (by decide) q2 q3 (fun h1 => ?_) (fun h1 => ?_)
  · have hw := hw.1 h1
    refine z_loc (L' := [(0, .ref (G.1 + 54)), (1, .int (Int32.ofInt (l1))), (3, .int (Int32.ofInt (l3))), (4, .int (Int32.ofInt (l4)))]) (List.forall_mem_cons.mpr ⟨rfl, (List.forall_mem_cons.mpr ⟨rfl, (List.forall_mem_cons.mpr ⟨rfl, (List.forall_mem_cons.mpr ⟨rfl, (fun _ h => nomatch h)⟩)⟩)⟩)⟩) ?_
    exact bX11_isId_82 hd hJ hT hW hP  hw
  · have hw := hw.2 h1
    refine z_iload dX11_isId_19 rfl ?_
    refine z_iconst (v := Int32.ofInt 5) dX11_isId_21 rfl ?_
    refine i_icmp_ge (tgt := 82) dX11_isId_22 (by decide) q2 ⟨by decide, by decide⟩ (fun h4 => ?_) (fun h4 => ?_)
    · have hw := hw.1 h4
      refine z_loc (L' := [(0, .ref (G.1 + 54)), (1, .int (Int32.ofInt (l1))), (3, .int (Int32.ofInt (l3))), (4, .int (Int32.ofInt (l4)))]) (List.forall_mem_cons.mpr ⟨rfl, (List.forall_mem_cons.mpr ⟨rfl, (List.forall_mem_cons.mpr ⟨rfl, (List.forall_mem_cons.mpr ⟨rfl, (fun _ h => nomatch h)⟩)⟩)⟩)⟩) ?_
      exact bX11_isId_82 hd hJ hT hW hP  hw
    · have hw := hw.2 h4
      refine z_aload_n dX11_isId_25 rfl rfl ?_
      refine g_getR hW hT.1 mr57 kX11 fX11_138 dX11_isId_26 ?_
      refine z_aload_n dX11_isId_29 rfl rfl ?_
      refine g_getR hW hT.1 mr54 kX11 fX11_132 dX11_isId_30 ?_
      refine z_iload_n dX11_isId_33 rfl rfl ?_
      obtain ⟨q5a, q5b, hw⟩ := hw
      have q6 : iv 0 3000 (S.2 94 (l2)) := mA94 hW _
      have hw := hw q6
      refine g_iald hW (ma94 hT) q5a q5b (by decide) dX11_isId_34 ?_
      refine z_iload dX11_isId_35 rfl ?_
      refine i_iadd dX11_isId_37 ?_
      obtain ⟨q7a, q7b, hw⟩ := hw
      have q8 : iv (-2147483648) 2147483647 (S.2 96 ((S.2 94 (l2) + l5))) := mA96 hW _
      have hw := hw q8
      refine g_iald hW (ma96 hT) q7a q7b (by decide) dX11_isId_38 ?_
      refine z_istore dX11_isId_39 (by decide) ?_
      refine z_iload dX11_isId_41 rfl ?_
      have hX := lX11_isDigit 0 (Nat.le_refl _) hJ hT hW (rngq q8 (by decide) (by decide)) hw
      refine z_callS (As := [_]) eX11_isDigit sX11_isDigit lX11_189 dX11_isId_43 hX (Nat.le_trans (by decide) hd) rfl (Nat.le_of_ble_eq_true rfl) (fun r cs hp => ?_)
      obtain ⟨r9, S10, rfl, hw, hW⟩ := hp
      refine z_st (st' := [.int (Int32.ofInt (r9))]) rfl ?_
      obtain ⟨q12, hw⟩ := hw
      refine i_if_eq (tgt := 61) dX11_isId_46 (by decide) q12 (fun h11 => ?_) (fun h11 => ?_)
      · have hw := hw.1 h11
        refine z_iconst (v := Int32.ofInt 0) dX11_isId_61 rfl ?_
        exact z_ireturn dX11_isId_62 rfl (nar01 (by decide)) (hP _ _ _ hw hW)
      · have hw := hw.2 h11
        refine z_iload dX11_isId_49 rfl ?_
        refine i_if_ne (tgt := 63) dX11_isId_51 (by decide) q2 (fun h13 => ?_) (fun h13 => ?_)
        · have hw := hw.1 h13
          refine z_loc (L' := [(0, .ref (G.1 + 54)), (1, .int (Int32.ofInt (l1))), (2, .int (Int32.ofInt (l2))), (3, .int (Int32.ofInt (l3))), (4, .int (Int32.ofInt (l4))), (5, .int (Int32.ofInt (l5))), (6, .int (Int32.ofInt (S.2 96 ((S.2 94 (l2) + l5)))))]) (List.forall_mem_cons.mpr ⟨rfl, (List.forall_mem_cons.mpr ⟨rfl, (List.forall_mem_cons.mpr ⟨rfl, (List.forall_mem_cons.mpr ⟨rfl, (List.forall_mem_cons.mpr ⟨rfl, (List.forall_mem_cons.mpr ⟨rfl, (List.forall_mem_cons.mpr ⟨rfl, (fun _ h => nomatch h)⟩)⟩)⟩)⟩)⟩)⟩)⟩) ?_
          exact bX11_isId_63 hd hJ hT hW hP hB13 hw
        · have hw := hw.2 h13
          refine z_iload dX11_isId_54 rfl ?_
          refine z_bipush (v := Int32.ofInt 48) dX11_isId_56 (by decide) ?_
          refine i_icmp_ne (tgt := 63) dX11_isId_58 (by decide) (rngq q8 (by decide) (by decide)) ⟨by decide, by decide⟩ (fun h14 => ?_) (fun h14 => ?_)
          · have hw := hw.1 h14
            refine z_loc (L' := [(0, .ref (G.1 + 54)), (1, .int (Int32.ofInt (l1))), (2, .int (Int32.ofInt (l2))), (3, .int (Int32.ofInt (l3))), (4, .int (Int32.ofInt (l4))), (5, .int (Int32.ofInt (l5))), (6, .int (Int32.ofInt (S.2 96 ((S.2 94 (l2) + l5)))))]) (List.forall_mem_cons.mpr ⟨rfl, (List.forall_mem_cons.mpr ⟨rfl, (List.forall_mem_cons.mpr ⟨rfl, (List.forall_mem_cons.mpr ⟨rfl, (List.forall_mem_cons.mpr ⟨rfl, (List.forall_mem_cons.mpr ⟨rfl, (List.forall_mem_cons.mpr ⟨rfl, (fun _ h => nomatch h)⟩)⟩)⟩)⟩)⟩)⟩)⟩) ?_
            exact bX11_isId_63 hd hJ hT hW hP hB13 hw
          · have hw := hw.2 h14
            refine z_iconst (v := Int32.ofInt 0) dX11_isId_61 rfl ?_
            exact z_ireturn dX11_isId_62 rfl (nar01 (by decide)) (hP _ _ _ hw hW)
def wX11_isId_13 (l1 l2 l3 l4 l5 : Int) (S : St) (K : Int → St → Prop) : Prop := ∃ (Iv : Int → Int → Int → Int → Int → St → Prop) (mu : Int → Int → Int → Int → Int → St → Nat), Iv l1 l2 l3 l4 l5 S ∧ ∀ (l1 l2 l3 l4 l5 : Int) (S : St), Iv l1 l2 l3 l4 l5 S → wX11_isId_13' l1 l2 l3 l4 l5 S K  (fun ml1 ml2 ml3 ml4 ml5 T => Iv ml1 ml2 ml3 ml4 ml5 T ∧ mu ml1 ml2 ml3 ml4 ml5 T < mu l1 l2 l3 l4 l5 S)
set_option maxRecDepth 100000 in
set_option maxHeartbeats 4000000 in
theorem bX11_isId_13 {G : xG} {sh : Nat → Option Sh} {J : St → List va_E → Prop} {d : Nat} {Post : xP} {l1 l2 l3 l4 l5 : Int} {S : St} {cs : List va_E} {K : Int → St → Prop} (hd : 1 ≤ d) (hJ : Stb sh J) (hT : isM sh) (hW : Wd G sh mT J S cs) (hP : ∀ (v : Int) (S : St) (cs : List va_E), K v S → Wd G sh mT J S cs → Post (some (.int (Int32.ofInt v))) cs)  (hw : wX11_isId_13 l1 l2 l3 l4 l5 S K ) : Z (RX11, cX11_isId, 7, some .boolean, false) G d Post 13 [(0, .ref (G.1 + 54)), (1, .int (Int32.ofInt (l1))), (2, .int (Int32.ofInt (l2))), (3, .int (Int32.ofInt (l3))), (4, .int (Int32.ofInt (l4))), (5, .int (Int32.ofInt (l5)))] [] cs := by
  unfold wX11_isId_13 at hw
  obtain ⟨Iv, mu, h0, hs⟩ := hw
  have key : ∀ (n : Nat) (l1 l2 l3 l4 l5 : Int) (S : St) (cs : List va_E), mu l1 l2 l3 l4 l5 S < n → Iv l1 l2 l3 l4 l5 S → Wd G sh mT J S cs → Z (RX11, cX11_isId, 7, some .boolean, false) G d Post 13 [(0, .ref (G.1 + 54)), (1, .int (Int32.ofInt (l1))), (2, .int (Int32.ofInt (l2))), (3, .int (Int32.ofInt (l3))), (4, .int (Int32.ofInt (l4))), (5, .int (Int32.ofInt (l5)))] [] cs := by
    intro n
    induction n with
    | zero => intro l1 l2 l3 l4 l5 S cs hn; exact absurd hn (Nat.not_lt_zero _)
    | succ n ih =>
      intro l1 l2 l3 l4 l5 S cs hn hI hW
      exact bX11_isId_13' hd hJ hT hW hP  (fun l1 l2 l3 l4 l5 S cs hb hW => ih l1 l2 l3 l4 l5 S cs (Nat.lt_of_lt_of_le hb.2 (Nat.le_of_lt_succ hn)) hb.1 hW) (hs l1 l2 l3 l4 l5 S hI)
  exact key _ _ _ _ _ _ _ _ (Nat.lt_succ_self _) h0 hW
def wX11_isId (a1 a2 : Int) (S : St) (K : Int → St → Prop) : Prop := rng a1 → rng a2 → ((0 : Int) ≤ a2 ∧ a2 < (600 : Int) ∧ (iv 0 3000 (S.2 95 (a2)) → wX11_isId_13 (a1) (a2) (S.2 95 (a2)) (0) (0) S K))
set_option maxRecDepth 100000 in
set_option maxHeartbeats 4000000 in
theorem lX11_isId {G : xG} {sh : Nat → Option Sh} {J : St → List va_E → Prop} {a1 a2 : Int} {S : St} {cs : List va_E} {K : Int → St → Prop} (d : Nat) (hd : 1 ≤ d) (hJ : Stb sh J) (hT : isM sh) (hW : Wd G sh mT J S cs) (g1 : rng a1) (g2 : rng a2) (hw : wX11_isId a1 a2 S K) : X G yX11_isId cX11_isId 7 (some .boolean) d [.ref (G.1 + 54), .int (Int32.ofInt a1), .int (Int32.ofInt a2)] cs (qI G sh mT J K) := by
  refine X.of false (by decide +kernel) (by decide) (Nat.le_of_ble_eq_true rfl) ?_
  show Z (RX11, cX11_isId, 7, some .boolean, false) G d _ 0 [(0, .ref (G.1 + 54)), (1, .int (Int32.ofInt a1)), (2, .int (Int32.ofInt a2))] [] cs
  have hP : ∀ (v : Int) (S : St) (cs : List va_E), K v S → Wd G sh mT J S cs → qI G sh mT J K (some (.int (Int32.ofInt v))) cs := fun v S cs a b => ⟨v, S, rfl, a, b⟩
  unfold wX11_isId at hw
  have hw := hw g1 g2
  refine z_aload_n dX11_isId_0 rfl rfl ?_
  refine g_getR hW hT.1 mr55 kX11 fX11_135 dX11_isId_1 ?_
  refine z_iload_n dX11_isId_4 rfl rfl ?_
  obtain ⟨q1a, q1b, hw⟩ := hw
  have q2 : iv 0 3000 (S.2 95 (a2)) := mA95 hW _
  have hw := hw q2
  refine g_iald hW (ma95 hT) q1a q1b (by decide) dX11_isId_5 ?_
  refine z_istore_n dX11_isId_6 rfl (by decide) ?_
  refine z_iconst (v := Int32.ofInt 0) dX11_isId_7 rfl ?_
  refine z_istore dX11_isId_8 (by decide) ?_
  refine z_iconst (v := Int32.ofInt 0) dX11_isId_10 rfl ?_
  refine z_istore dX11_isId_11 (by decide) ?_
  refine z_loc (L' := [(0, .ref (G.1 + 54)), (1, .int (Int32.ofInt (a1))), (2, .int (Int32.ofInt (a2))), (3, .int (Int32.ofInt (S.2 95 (a2)))), (4, .int (Int32.ofInt (0))), (5, .int (Int32.ofInt (0)))]) (List.forall_mem_cons.mpr ⟨rfl, (List.forall_mem_cons.mpr ⟨rfl, (List.forall_mem_cons.mpr ⟨rfl, (List.forall_mem_cons.mpr ⟨rfl, (List.forall_mem_cons.mpr ⟨rfl, (List.forall_mem_cons.mpr ⟨rfl, (fun _ h => nomatch h)⟩)⟩)⟩)⟩)⟩)⟩) ?_
  exact bX11_isId_13 hd hJ hT hW hP  hw

def wX11_wordSign (a1 a2 : Int) (S : St) (K : Int → St → Prop) : Prop := rng a1 → rng a2 → ((¬ a1 = 0 → ((¬ a1 = 1 → ((¬ (0 ≤ a2 ∧ a2 ≤ 8) → K (0) S) ∧ ((a2 = 0 → K (114) S) ∧ ((a2 = 1 → K (101) S) ∧ ((a2 = 2 → K (102) S) ∧ ((a2 = 3 → K (101) S) ∧ ((a2 = 4 → K (114) S) ∧ ((a2 = 5 → K (101) S) ∧ ((a2 = 6 → K (110) S) ∧ ((a2 = 7 → K (99) S) ∧ (a2 = 8 → K (101) S))))))))))) ∧ ((¬ (¬ a1 = 1)) → ((¬ a2 = 0 → ((¬ a2 = 1 → K (0) S) ∧ ((¬ (¬ a2 = 1)) → K (100) S))) ∧ ((¬ (¬ a2 = 0)) → K (105) S))))) ∧ ((¬ (¬ a1 = 0)) → ((¬ a2 = 0 → ((¬ a2 = 1 → ((¬ a2 = 2 → ((5 ≤ a2 → K (0) S) ∧ ((¬ (5 ≤ a2)) → K (115) S))) ∧ ((¬ (¬ a2 = 2)) → K (97) S))) ∧ ((¬ (¬ a2 = 1)) → K (108) S))) ∧ ((¬ (¬ a2 = 0)) → K (99) S))))
set_option maxRecDepth 100000 in
set_option maxHeartbeats 4000000 in
theorem lX11_wordSign {G : xG} {sh : Nat → Option Sh} {J : St → List va_E → Prop} {a1 a2 : Int} {S : St} {cs : List va_E} {K : Int → St → Prop} (d : Nat) (hd : 0 ≤ d) (hJ : Stb sh J) (hT : isM sh) (hW : Wd G sh mT J S cs) (g1 : rng a1) (g2 : rng a2) (hw : wX11_wordSign a1 a2 S K) : X G yX11_wordSign cX11_wordSign 2 (some .int) d [.int (Int32.ofInt a1), .int (Int32.ofInt a2)] cs (qI G sh mT J K) := by
  refine X.of false (by decide +kernel) (by decide) (Nat.le_of_ble_eq_true rfl) ?_
  show Z (RX11, cX11_wordSign, 2, some .int, false) G d _ 0 [(0, .int (Int32.ofInt a1)), (1, .int (Int32.ofInt a2))] [] cs
  have hP : ∀ (v : Int) (S : St) (cs : List va_E), K v S → Wd G sh mT J S cs → qI G sh mT J K (some (.int (Int32.ofInt v))) cs := fun v S cs a b => ⟨v, S, rfl, a, b⟩
  unfold wX11_wordSign at hw
  have hw := hw g1 g2
  refine z_iload_n dX11_wordSign_0 rfl rfl ?_
  refine i_if_ne (tgt := 45) dX11_wordSign_1 (by decide) g1 (fun h1 => ?_) (fun h1 => ?_)
  · have hw := hw.1 h1
    refine z_iload_n dX11_wordSign_45 rfl rfl ?_
    refine z_iconst (v := Int32.ofInt 1) dX11_wordSign_46 rfl ?_
    refine i_icmp_ne (tgt := 71) dX11_wordSign_47 (by decide) g1 ⟨by decide, by decide⟩ (fun h2 => ?_) (fun h2 => ?_)
    · have hw := hw.1 h2
      refine z_iload_n dX11_wordSign_71 rfl rfl ?_
      rcases (show (¬ (0 ≤ a2 ∧ a2 ≤ 8)) ∨ a2 = 0 ∨ a2 = 1 ∨ a2 = 2 ∨ a2 = 3 ∨ a2 = 4 ∨ a2 = 5 ∨ a2 = 6 ∨ a2 = 7 ∨ a2 = 8 by omega) with h3 | h3 | h3 | h3 | h3 | h3 | h3 | h3 | h3 | h3
      · have hw := hw.1 h3
        refine i_tableOut (tgt := 151) dX11_wordSign_72 g2 h3 (by decide) ?_
        refine z_iconst (v := Int32.ofInt 0) dX11_wordSign_151 rfl ?_
        exact z_ireturn dX11_wordSign_152 rfl rfl (hP _ _ _ hw hW)
      · have hw := hw.2.1 h3
        refine i_tableIn (c := 0) (off := 52) (tgt := 124) dX11_wordSign_72 h3 ⟨by decide, by decide⟩ (by decide) (by decide) rfl (by decide) ?_
        refine z_bipush (v := Int32.ofInt 114) dX11_wordSign_124 (by decide) ?_
        exact z_ireturn dX11_wordSign_126 rfl rfl (hP _ _ _ hw hW)
      · have hw := hw.2.2.1 h3
        refine i_tableIn (c := 1) (off := 55) (tgt := 127) dX11_wordSign_72 h3 ⟨by decide, by decide⟩ (by decide) (by decide) rfl (by decide) ?_
        refine z_bipush (v := Int32.ofInt 101) dX11_wordSign_127 (by decide) ?_
        exact z_ireturn dX11_wordSign_129 rfl rfl (hP _ _ _ hw hW)
      · have hw := hw.2.2.2.1 h3
        refine i_tableIn (c := 2) (off := 58) (tgt := 130) dX11_wordSign_72 h3 ⟨by decide, by decide⟩ (by decide) (by decide) rfl (by decide) ?_
        refine z_bipush (v := Int32.ofInt 102) dX11_wordSign_130 (by decide) ?_
        exact z_ireturn dX11_wordSign_132 rfl rfl (hP _ _ _ hw hW)
      · have hw := hw.2.2.2.2.1 h3
        refine i_tableIn (c := 3) (off := 61) (tgt := 133) dX11_wordSign_72 h3 ⟨by decide, by decide⟩ (by decide) (by decide) rfl (by decide) ?_
        refine z_bipush (v := Int32.ofInt 101) dX11_wordSign_133 (by decide) ?_
        exact z_ireturn dX11_wordSign_135 rfl rfl (hP _ _ _ hw hW)
      · have hw := hw.2.2.2.2.2.1 h3
        refine i_tableIn (c := 4) (off := 64) (tgt := 136) dX11_wordSign_72 h3 ⟨by decide, by decide⟩ (by decide) (by decide) rfl (by decide) ?_
        refine z_bipush (v := Int32.ofInt 114) dX11_wordSign_136 (by decide) ?_
        exact z_ireturn dX11_wordSign_138 rfl rfl (hP _ _ _ hw hW)
      · have hw := hw.2.2.2.2.2.2.1 h3
        refine i_tableIn (c := 5) (off := 67) (tgt := 139) dX11_wordSign_72 h3 ⟨by decide, by decide⟩ (by decide) (by decide) rfl (by decide) ?_
        refine z_bipush (v := Int32.ofInt 101) dX11_wordSign_139 (by decide) ?_
        exact z_ireturn dX11_wordSign_141 rfl rfl (hP _ _ _ hw hW)
      · have hw := hw.2.2.2.2.2.2.2.1 h3
        refine i_tableIn (c := 6) (off := 70) (tgt := 142) dX11_wordSign_72 h3 ⟨by decide, by decide⟩ (by decide) (by decide) rfl (by decide) ?_
        refine z_bipush (v := Int32.ofInt 110) dX11_wordSign_142 (by decide) ?_
        exact z_ireturn dX11_wordSign_144 rfl rfl (hP _ _ _ hw hW)
      · have hw := hw.2.2.2.2.2.2.2.2.1 h3
        refine i_tableIn (c := 7) (off := 73) (tgt := 145) dX11_wordSign_72 h3 ⟨by decide, by decide⟩ (by decide) (by decide) rfl (by decide) ?_
        refine z_bipush (v := Int32.ofInt 99) dX11_wordSign_145 (by decide) ?_
        exact z_ireturn dX11_wordSign_147 rfl rfl (hP _ _ _ hw hW)
      · have hw := hw.2.2.2.2.2.2.2.2.2 h3
        refine i_tableIn (c := 8) (off := 76) (tgt := 148) dX11_wordSign_72 h3 ⟨by decide, by decide⟩ (by decide) (by decide) rfl (by decide) ?_
        refine z_bipush (v := Int32.ofInt 101) dX11_wordSign_148 (by decide) ?_
        exact z_ireturn dX11_wordSign_150 rfl rfl (hP _ _ _ hw hW)
    · have hw := hw.2 h2
      refine z_iload_n dX11_wordSign_50 rfl rfl ?_
      refine i_if_ne (tgt := 59) dX11_wordSign_51 (by decide) g2 (fun h4 => ?_) (fun h4 => ?_)
      · have hw := hw.1 h4
        refine z_iload_n dX11_wordSign_59 rfl rfl ?_
        refine z_iconst (v := Int32.ofInt 1) dX11_wordSign_60 rfl ?_
        refine i_icmp_ne (tgt := 69) dX11_wordSign_61 (by decide) g2 ⟨by decide, by decide⟩ (fun h5 => ?_) (fun h5 => ?_)
        · have hw := hw.1 h5
          refine z_iconst (v := Int32.ofInt 0) dX11_wordSign_69 rfl ?_
          exact z_ireturn dX11_wordSign_70 rfl rfl (hP _ _ _ hw hW)
        · have hw := hw.2 h5
          refine z_bipush (v := Int32.ofInt 100) dX11_wordSign_64 (by decide) ?_
          refine z_goto (tgt := 70) dX11_wordSign_66 (by decide) ?_
          exact z_ireturn dX11_wordSign_70 rfl rfl (hP _ _ _ hw hW)
      · have hw := hw.2 h4
        refine z_bipush (v := Int32.ofInt 105) dX11_wordSign_54 (by decide) ?_
        refine z_goto (tgt := 70) dX11_wordSign_56 (by decide) ?_
        exact z_ireturn dX11_wordSign_70 rfl rfl (hP _ _ _ hw hW)
  · have hw := hw.2 h1
    refine z_iload_n dX11_wordSign_4 rfl rfl ?_
    refine i_if_ne (tgt := 13) dX11_wordSign_5 (by decide) g2 (fun h6 => ?_) (fun h6 => ?_)
    · have hw := hw.1 h6
      refine z_iload_n dX11_wordSign_13 rfl rfl ?_
      refine z_iconst (v := Int32.ofInt 1) dX11_wordSign_14 rfl ?_
      refine i_icmp_ne (tgt := 23) dX11_wordSign_15 (by decide) g2 ⟨by decide, by decide⟩ (fun h7 => ?_) (fun h7 => ?_)
      · have hw := hw.1 h7
        refine z_iload_n dX11_wordSign_23 rfl rfl ?_
        refine z_iconst (v := Int32.ofInt 2) dX11_wordSign_24 rfl ?_
        refine i_icmp_ne (tgt := 33) dX11_wordSign_25 (by decide) g2 ⟨by decide, by decide⟩ (fun h8 => ?_) (fun h8 => ?_)
        · have hw := hw.1 h8
          refine z_iload_n dX11_wordSign_33 rfl rfl ?_
          refine z_iconst (v := Int32.ofInt 5) dX11_wordSign_34 rfl ?_
          refine i_icmp_ge (tgt := 43) dX11_wordSign_35 (by decide) g2 ⟨by decide, by decide⟩ (fun h9 => ?_) (fun h9 => ?_)
          · have hw := hw.1 h9
            refine z_iconst (v := Int32.ofInt 0) dX11_wordSign_43 rfl ?_
            exact z_ireturn dX11_wordSign_44 rfl rfl (hP _ _ _ hw hW)
          · have hw := hw.2 h9
            refine z_bipush (v := Int32.ofInt 115) dX11_wordSign_38 (by decide) ?_
            refine z_goto (tgt := 44) dX11_wordSign_40 (by decide) ?_
            exact z_ireturn dX11_wordSign_44 rfl rfl (hP _ _ _ hw hW)
        · have hw := hw.2 h8
          refine z_bipush (v := Int32.ofInt 97) dX11_wordSign_28 (by decide) ?_
          refine z_goto (tgt := 44) dX11_wordSign_30 (by decide) ?_
          exact z_ireturn dX11_wordSign_44 rfl rfl (hP _ _ _ hw hW)
      · have hw := hw.2 h7
        refine z_bipush (v := Int32.ofInt 108) dX11_wordSign_18 (by decide) ?_
        refine z_goto (tgt := 44) dX11_wordSign_20 (by decide) ?_
        exact z_ireturn dX11_wordSign_44 rfl rfl (hP _ _ _ hw hW)
    · have hw := hw.2 h6
      refine z_bipush (v := Int32.ofInt 99) dX11_wordSign_8 (by decide) ?_
      refine z_goto (tgt := 44) dX11_wordSign_10 (by decide) ?_
      exact z_ireturn dX11_wordSign_44 rfl rfl (hP _ _ _ hw hW)
