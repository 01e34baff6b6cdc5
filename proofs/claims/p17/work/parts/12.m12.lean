def wX11_writtenSign_110 (l1 l2 l4 s0 : Int) (S : St) (K : Int → St → Prop) (B5 : Int → Int → Int → Int → St → Prop) : Prop := B5 (l1) (l2) (s0) ((l4 + 1)) S
set_option maxRecDepth 100000 in
set_option maxHeartbeats 4000000 in
theorem bX11_writtenSign_110 {G : xG} {sh : Nat → Option Sh} {J : St → List va_E → Prop} {d : Nat} {Post : xP} {l1 l2 l4 s0 : Int} {S : St} {cs : List va_E} {K : Int → St → Prop} {B5 : Int → Int → Int → Int → St → Prop} (hd : 0 ≤ d) (hJ : Stb sh J) (hT : isM sh) (hW : Wd G sh mT J S cs) (hP : ∀ (v : Int) (S : St) (cs : List va_E), K v S → Wd G sh mT J S cs → Post (some (.int (Int32.ofInt v))) cs) (hB5 : ∀ (l1 : Int) (l2 : Int) (l3 : Int) (l4 : Int) (S : St) (cs : List va_E), B5 l1 l2 l3 l4 S → Wd G sh mT J S cs → Z (RX11, cX11_writtenSign, 7, some .int, false) G d Post 5 [(0, .ref (G.1 + 54)), (1, .int (Int32.ofInt (l1))), (2, .int (Int32.ofInt (l2))), (3, .int (Int32.ofInt (l3))), (4, .int (Int32.ofInt (l4)))] [] cs) (hw : wX11_writtenSign_110 l1 l2 l4 s0 S K B5) : Z (RX11, cX11_writtenSign, 7, some .int, false) G d Post 110 [(0, .ref (G.1 + 54)), (1, .int (Int32.ofInt (l1))), (2, .int (Int32.ofInt (l2))), (4, .int (Int32.ofInt (l4)))] [.int (Int32.ofInt (s0))] cs := by
  unfold wX11_writtenSign_110 at hw
  refine z_istore_n dX11_writtenSign_110 rfl (by decide) ?_
  refine z_loc (L' := [(0, .ref (G.1 + 54)), (1, .int (Int32.ofInt (l1))), (2, .int (Int32.ofInt (l2))), (3, .int (Int32.ofInt (s0))), (4, .int (Int32.ofInt (l4)))]) (List.forall_mem_cons.mpr ⟨rfl, (List.forall_mem_cons.mpr ⟨rfl, (List.forall_mem_cons.mpr ⟨rfl, (List.forall_mem_cons.mpr ⟨rfl, (List.forall_mem_cons.mpr ⟨rfl, (fun _ h => nomatch h)⟩)⟩)⟩)⟩)⟩) ?_
  refine i_iinc (l := l4) dX11_writtenSign_111 rfl (by decide) ?_
  refine z_loc (L' := [(0, .ref (G.1 + 54)), (1, .int (Int32.ofInt (l1))), (2, .int (Int32.ofInt (l2))), (3, .int (Int32.ofInt (s0))), (4, .int (Int32.ofInt ((l4 + 1))))]) (List.forall_mem_cons.mpr ⟨rfl, (List.forall_mem_cons.mpr ⟨rfl, (List.forall_mem_cons.mpr ⟨rfl, (List.forall_mem_cons.mpr ⟨rfl, (List.forall_mem_cons.mpr ⟨rfl, (fun _ h => nomatch h)⟩)⟩)⟩)⟩)⟩) ?_
  refine z_goto (tgt := 5) dX11_writtenSign_114 (by decide) ?_
  refine z_loc (L' := [(0, .ref (G.1 + 54)), (1, .int (Int32.ofInt (l1))), (2, .int (Int32.ofInt (l2))), (3, .int (Int32.ofInt (s0))), (4, .int (Int32.ofInt ((l4 + 1))))]) (List.forall_mem_cons.mpr ⟨rfl, (List.forall_mem_cons.mpr ⟨rfl, (List.forall_mem_cons.mpr ⟨rfl, (List.forall_mem_cons.mpr ⟨rfl, (List.forall_mem_cons.mpr ⟨rfl, (fun _ h => nomatch h)⟩)⟩)⟩)⟩)⟩) ?_
  exact hB5 _ _ _ _ _ _ hw hW
def wX11_writtenSign_96 (l1 l2 l3 l4 l6 : Int) (S : St) (K : Int → St → Prop) (B5 : Int → Int → Int → Int → St → Prop) : Prop := (rng (l6) ∧ ((l6 = 0 → wX11_writtenSign_110 (l1) (l2) (l4) ((l3 + 1)) S K B5) ∧ ((¬ (l6 = 0)) → wX11_writtenSign_110 (l1) (l2) (l4) ((l3 + 2)) S K B5)))
set_option maxRecDepth 100000 in
set_option maxHeartbeats 4000000 in
theorem bX11_writtenSign_96 {G : xG} {sh : Nat → Option Sh} {J : St → List va_E → Prop} {d : Nat} {Post : xP} {l1 l2 l3 l4 l6 : Int} {S : St} {cs : List va_E} {K : Int → St → Prop} {B5 : Int → Int → Int → Int → St → Prop} (hd : 0 ≤ d) (hJ : Stb sh J) (hT : isM sh) (hW : Wd G sh mT J S cs) (hP : ∀ (v : Int) (S : St) (cs : List va_E), K v S → Wd G sh mT J S cs → Post (some (.int (Int32.ofInt v))) cs) (hB5 : ∀ (l1 : Int) (l2 : Int) (l3 : Int) (l4 : Int) (S : St) (cs : List va_E), B5 l1 l2 l3 l4 S → Wd G sh mT J S cs → Z (RX11, cX11_writtenSign, 7, some .int, false) G d Post 5 [(0, .ref (G.1 + 54)), (1, .int (Int32.ofInt (l1))), (2, .int (Int32.ofInt (l2))), (3, .int (Int32.ofInt (l3))), (4, .int (Int32.ofInt (l4)))] [] cs) (hw : wX11_writtenSign_96 l1 l2 l3 l4 l6 S K B5) : Z (RX11, cX11_writtenSign, 7, some .int, false) G d Post 96 [(0, .ref (G.1 + 54)), (1, .int (Int32.ofInt (l1))), (2, .int (Int32.ofInt (l2))), (3, .int (Int32.ofInt (l3))), (4, .int (Int32.ofInt (l4))), (6, .int (Int32.ofInt (l6)))] [] cs := by
  unfold wX11_writtenSign_96 at hw
  refine z_iload dX11_writtenSign_96 rfl ?_
  obtain ⟨q2, hw⟩ := hw
  refine i_if_eq (tgt := 107) dX11_writtenSign_98 (by decide) q2 (fun h1 => ?_) (fun h1 => ?_)
  · have hw := hw.1 h1
    refine z_iload_n dX11_writtenSign_107 rfl rfl ?_
    refine z_iconst (v := Int32.ofInt 1) dX11_writtenSign_108 rfl ?_
    refine i_iadd dX11_writtenSign_109 ?_
    refine z_loc (L' := [(0, .ref (G.1 + 54)), (1, .int (Int32.ofInt (l1))), (2, .int (Int32.ofInt (l2))), (4, .int (Int32.ofInt (l4)))]) (List.forall_mem_cons.mpr ⟨rfl, (List.forall_mem_cons.mpr ⟨rfl, (List.forall_mem_cons.mpr ⟨rfl, (List.forall_mem_cons.mpr ⟨rfl, (fun _ h => nomatch h)⟩)⟩)⟩)⟩) ?_
    exact bX11_writtenSign_110 hd hJ hT hW hP hB5 hw
  · have hw := hw.2 h1
    refine z_iload_n dX11_writtenSign_101 rfl rfl ?_
    refine z_iconst (v := Int32.ofInt 2) dX11_writtenSign_102 rfl ?_
    refine i_iadd dX11_writtenSign_103 ?_
    refine z_goto (tgt := 110) dX11_writtenSign_104 (by decide) ?_
    refine z_loc (L' := [(0, .ref (G.1 + 54)), (1, .int (Int32.ofInt (l1))), (2, .int (Int32.ofInt (l2))), (4, .int (Int32.ofInt (l4)))]) (List.forall_mem_cons.mpr ⟨rfl, (List.forall_mem_cons.mpr ⟨rfl, (List.forall_mem_cons.mpr ⟨rfl, (List.forall_mem_cons.mpr ⟨rfl, (fun _ h => nomatch h)⟩)⟩)⟩)⟩) ?_
    exact bX11_writtenSign_110 hd hJ hT hW hP hB5 hw
def wX11_writtenSign_49 (l1 l2 l3 l4 l5 s0 : Int) (S : St) (K : Int → St → Prop) (B5 : Int → Int → Int → Int → St → Prop) : Prop := (rng (l3) ∧ (rng (l2) ∧ ((¬ l3 = l2 → (rng (s0) ∧ ((s0 = 0 → wX11_writtenSign_96 (l1) (l2) (l3) (l4) (s0) S K B5) ∧ ((¬ (s0 = 0)) → (rng ((l3 + 1)) ∧ ((¬ (l3 + 1) = l2 → wX11_writtenSign_96 (l1) (l2) (l3) (l4) (s0) S K B5) ∧ ((¬ (¬ (l3 + 1) = l2)) → (rng (l5) ∧ ((¬ l5 = 95 → K (45) S) ∧ ((¬ (¬ l5 = 95)) → K (95) S)))))))))) ∧ ((¬ (¬ l3 = l2)) → (rng (s0) ∧ ((s0 = 0 → K (l5) S) ∧ ((¬ (s0 = 0)) → K (95) S)))))))
set_option maxRecDepth 100000 in
set_option maxHeartbeats 4000000 in
theorem bX11_writtenSign_49 {G : xG} {sh : Nat → Option Sh} {J : St → List va_E → Prop} {d : Nat} {Post : xP} {l1 l2 l3 l4 l5 s0 : Int} {S : St} {cs : List va_E} {K : Int → St → Prop} {B5 : Int → Int → Int → Int → St → Prop} (hd : 0 ≤ d) (hJ : Stb sh J) (hT : isM sh) (hW : Wd G sh mT J S cs) (hP : ∀ (v : Int) (S : St) (cs : List va_E), K v S → Wd G sh mT J S cs → Post (some (.int (Int32.ofInt v))) cs) (hB5 : ∀ (l1 : Int) (l2 : Int) (l3 : Int) (l4 : Int) (S : St) (cs : List va_E), B5 l1 l2 l3 l4 S → Wd G sh mT J S cs → Z (RX11, cX11_writtenSign, 7, some .int, false) G d Post 5 [(0, .ref (G.1 + 54)), (1, .int (Int32.ofInt (l1))), (2, .int (Int32.ofInt (l2))), (3, .int (Int32.ofInt (l3))), (4, .int (Int32.ofInt (l4)))] [] cs) (hw : wX11_writtenSign_49 l1 l2 l3 l4 l5 s0 S K B5) : Z (RX11, cX11_writtenSign, 7, some .int, false) G d Post 49 [(0, .ref (G.1 + 54)), (1, .int (Int32.ofInt (l1))), (2, .int (Int32.ofInt (l2))), (3, .int (Int32.ofInt (l3))), (4, .int (Int32.ofInt (l4))), (5, .int (Int32.ofInt (l5)))] [.int (Int32.ofInt (s0))] cs := by
  unfold wX11_writtenSign_49 at hw
  refine z_istore dX11_writtenSign_49 (by decide) ?_
  refine z_loc (L' := [(0, .ref (G.1 + 54)), (1, .int (Int32.ofInt (l1))), (2, .int (Int32.ofInt (l2))), (3, .int (Int32.ofInt (l3))), (4, .int (Int32.ofInt (l4))), (5, .int (Int32.ofInt (l5))), (6, .int (Int32.ofInt (s0)))]) (List.forall_mem_cons.mpr ⟨rfl, (List.forall_mem_cons.mpr ⟨rfl, (List.forall_mem_cons.mpr ⟨rfl, (List.forall_mem_cons.mpr ⟨rfl, (List.forall_mem_cons.mpr ⟨rfl, (List.forall_mem_cons.mpr ⟨rfl, (List.forall_mem_cons.mpr ⟨rfl, (fun _ h => nomatch h)⟩)⟩)⟩)⟩)⟩)⟩)⟩) ?_
  refine z_iload_n dX11_writtenSign_51 rfl rfl ?_
  refine z_iload_n dX11_writtenSign_52 rfl rfl ?_
  obtain ⟨q2, hw⟩ := hw
  obtain ⟨q3, hw⟩ := hw
  refine i_icmp_ne (tgt := 69) dX11_writtenSign_53 (by decide) q2 q3 (fun h1 => ?_) (fun h1 => ?_)
  · have hw := hw.1 h1
    refine z_iload dX11_writtenSign_69 rfl ?_
    obtain ⟨q5, hw⟩ := hw
    refine i_if_eq (tgt := 96) dX11_writtenSign_71 (by decide) q5 (fun h4 => ?_) (fun h4 => ?_)
    · have hw := hw.1 h4
      refine z_loc (L' := [(0, .ref (G.1 + 54)), (1, .int (Int32.ofInt (l1))), (2, .int (Int32.ofInt (l2))), (3, .int (Int32.ofInt (l3))), (4, .int (Int32.ofInt (l4))), (6, .int (Int32.ofInt (s0)))]) (List.forall_mem_cons.mpr ⟨rfl, (List.forall_mem_cons.mpr ⟨rfl, (List.forall_mem_cons.mpr ⟨rfl, (List.forall_mem_cons.mpr ⟨rfl, (List.forall_mem_cons.mpr ⟨rfl, (List.forall_mem_cons.mpr ⟨rfl, (fun _ h => nomatch h)⟩)⟩)⟩)⟩)⟩)⟩) ?_
      exact bX11_writtenSign_96 hd hJ hT hW hP hB5 hw
    · have hw := hw.2 h4
      refine z_iload_n dX11_writtenSign_74 rfl rfl ?_
      refine z_iconst (v := Int32.ofInt 1) dX11_writtenSign_75 rfl ?_
      refine i_iadd dX11_writtenSign_76 ?_
      refine z_iload_n dX11_writtenSign_77 rfl rfl ?_
      obtain ⟨q7, hw⟩ := hw
      refine i_icmp_ne (tgt := 96) dX11_writtenSign_78 (by decide) q7 q3 (fun h6 => ?_) (fun h6 => ?_)
      · have hw := hw.1 h6
        refine z_loc (L' := [(0, .ref (G.1 + 54)), (1, .int (Int32.ofInt (l1))), (2, .int (Int32.ofInt (l2))), (3, .int (Int32.ofInt (l3))), (4, .int (Int32.ofInt (l4))), (6, .int (Int32.ofInt (s0)))]) (List.forall_mem_cons.mpr ⟨rfl, (List.forall_mem_cons.mpr ⟨rfl, (List.forall_mem_cons.mpr ⟨rfl, (List.forall_mem_cons.mpr ⟨rfl, (List.forall_mem_cons.mpr ⟨rfl, (List.forall_mem_cons.mpr ⟨rfl, (fun _ h => nomatch h)⟩)⟩)⟩)⟩)⟩)⟩) ?_
        exact bX11_writtenSign_96 hd hJ hT hW hP hB5 hw
      · have hw := hw.2 h6
        refine z_iload dX11_writtenSign_81 rfl ?_
        refine z_bipush (v := Int32.ofInt 95) dX11_writtenSign_83 (by decide) ?_
        obtain ⟨q9, hw⟩ := hw
        refine i_icmp_ne (tgt := 93) dX11_writtenSign_85 (by decide) q9 ⟨by decide, by decide⟩ (fun h8 => ?_) (fun h8 => ?_)
        · have hw := hw.1 h8
          refine z_bipush (v := Int32.ofInt 45) dX11_writtenSign_93 (by decide) ?_
          exact z_ireturn dX11_writtenSign_95 rfl rfl (hP _ _ _ hw hW)
        · have hw := hw.2 h8
          refine z_bipush (v := Int32.ofInt 95) dX11_writtenSign_88 (by decide) ?_
          refine z_goto (tgt := 95) dX11_writtenSign_90 (by decide) ?_
          exact z_ireturn dX11_writtenSign_95 rfl rfl (hP _ _ _ hw hW)
  · have hw := hw.2 h1
    refine z_iload dX11_writtenSign_56 rfl ?_
    obtain ⟨q11, hw⟩ := hw
    refine i_if_eq (tgt := 66) dX11_writtenSign_58 (by decide) q11 (fun h10 => ?_) (fun h10 => ?_)
    · have hw := hw.1 h10
      refine z_iload dX11_writtenSign_66 rfl ?_
      exact z_ireturn dX11_writtenSign_68 rfl rfl (hP _ _ _ hw hW)
    · have hw := hw.2 h10
      refine z_bipush (v := Int32.ofInt 95) dX11_writtenSign_61 (by decide) ?_
      refine z_goto (tgt := 68) dX11_writtenSign_63 (by decide) ?_
      exact z_ireturn dX11_writtenSign_68 rfl rfl (hP _ _ _ hw hW)
def wX11_writtenSign_44 (l1 l2 l3 l4 l5 : Int) (S : St) (K : Int → St → Prop) (B5 : Int → Int → Int → Int → St → Prop) : Prop := wX11_writtenSign_49 (l1) (l2) (l3) (l4) (l5) (1) S K B5
set_option maxRecDepth 100000 in
set_option maxHeartbeats 4000000 in
theorem bX11_writtenSign_44 {G : xG} {sh : Nat → Option Sh} {J : St → List va_E → Prop} {d : Nat} {Post : xP} {l1 l2 l3 l4 l5 : Int} {S : St} {cs : List va_E} {K : Int → St → Prop} {B5 : Int → Int → Int → Int → St → Prop} (hd : 0 ≤ d) (hJ : Stb sh J) (hT : isM sh) (hW : Wd G sh mT J S cs) (hP : ∀ (v : Int) (S : St) (cs : List va_E), K v S → Wd G sh mT J S cs → Post (some (.int (Int32.ofInt v))) cs) (hB5 : ∀ (l1 : Int) (l2 : Int) (l3 : Int) (l4 : Int) (S : St) (cs : List va_E), B5 l1 l2 l3 l4 S → Wd G sh mT J S cs → Z (RX11, cX11_writtenSign, 7, some .int, false) G d Post 5 [(0, .ref (G.1 + 54)), (1, .int (Int32.ofInt (l1))), (2, .int (Int32.ofInt (l2))), (3, .int (Int32.ofInt (l3))), (4, .int (Int32.ofInt (l4)))] [] cs) (hw : wX11_writtenSign_44 l1 l2 l3 l4 l5 S K B5) : Z (RX11, cX11_writtenSign, 7, some .int, false) G d Post 44 [(0, .ref (G.1 + 54)), (1, .int (Int32.ofInt (l1))), (2, .int (Int32.ofInt (l2))), (3, .int (Int32.ofInt (l3))), (4, .int (Int32.ofInt (l4))), (5, .int (Int32.ofInt (l5)))] [] cs := by
  unfold wX11_writtenSign_44 at hw
  refine z_iconst (v := Int32.ofInt 1) dX11_writtenSign_44 rfl ?_
  refine z_goto (tgt := 49) dX11_writtenSign_45 (by decide) ?_
  refine z_loc (L' := [(0, .ref (G.1 + 54)), (1, .int (Int32.ofInt (l1))), (2, .int (Int32.ofInt (l2))), (3, .int (Int32.ofInt (l3))), (4, .int (Int32.ofInt (l4))), (5, .int (Int32.ofInt (l5)))]) (List.forall_mem_cons.mpr ⟨rfl, (List.forall_mem_cons.mpr ⟨rfl, (List.forall_mem_cons.mpr ⟨rfl, (List.forall_mem_cons.mpr ⟨rfl, (List.forall_mem_cons.mpr ⟨rfl, (List.forall_mem_cons.mpr ⟨rfl, (fun _ h => nomatch h)⟩)⟩)⟩)⟩)⟩)⟩) ?_
  exact bX11_writtenSign_49 hd hJ hT hW hP hB5 hw
def wX11_writtenSign_5' (l1 l2 l3 l4 : Int) (S : St) (K : Int → St → Prop) (B5 : Int → Int → Int → Int → St → Prop) : Prop := ((0 : Int) ≤ l1 ∧ l1 < (30 : Int) ∧ (iv 0 8 (S.2 57 (l1)) → (rng (l4) ∧ ((S.2 57 (l1) ≤ l4 → K (0) S) ∧ ((¬ (S.2 57 (l1) ≤ l4)) → ((0 : Int) ≤ ((8 * l1) + l4) ∧ ((8 * l1) + l4) < (240 : Int) ∧ (iv (-2147483648) 2147483647 (S.2 58 (((8 * l1) + l4))) → (∀ x7 : Int, x7 = S.2 58 (((8 * l1) + l4)) → ((x7 = 95 → wX11_writtenSign_44 (l1) (l2) (l3) (l4) (x7) S K B5) ∧ ((¬ (x7 = 95)) → ((¬ x7 = 36 → wX11_writtenSign_49 (l1) (l2) (l3) (l4) (x7) (0) S K B5) ∧ ((¬ (¬ x7 = 36)) → wX11_writtenSign_44 (l1) (l2) (l3) (l4) (x7) S K B5))))))))))))
set_option maxRecDepth 100000 in
set_option maxHeartbeats 4000000 in
theorem bX11_writtenSign_5' {G : xG} {sh : Nat → Option Sh} {J : St → List va_E → Prop} {d : Nat} {Post : xP} {l1 l2 l3 l4 : Int} {S : St} {cs : List va_E} {K : Int → St → Prop} {B5 : Int → Int → Int → Int → St → Prop} (hd : 0 ≤ d) (hJ : Stb sh J) (hT : isM sh) (hW : Wd G sh mT J S cs) (hP : ∀ (v : Int) (S : St) (cs : List va_E), K v S → Wd G sh mT J S cs → Post (some (.int (Int32.ofInt v))) cs) (hB5 : ∀ (l1 : Int) (l2 : Int) (l3 : Int) (l4 : Int) (S : St) (cs : List va_E), B5 l1 l2 l3 l4 S → Wd G sh mT J S cs → Z (RX11, cX11_writtenSign, 7, some .int, false) G d Post 5 [(0, .ref (G.1 + 54)), (1, .int (Int32.ofInt (l1))), (2, .int (Int32.ofInt (l2))), (3, .int (Int32.ofInt (l3))), (4, .int (Int32.ofInt (l4)))] [] cs) (hw : wX11_writtenSign_5' l1 l2 l3 l4 S K B5) : Z (RX11, cX11_writtenSign, 7, some .int, false) G d Post 5 [(0, .ref (G.1 + 54)), (1, .int (Int32.ofInt (l1))), (2, .int (Int32.ofInt (l2))), (3, .int (Int32.ofInt (l3))), (4, .int (Int32.ofInt (l4)))] [] cs := by
  unfold wX11_writtenSign_5' at hw
  refine z_iload dX11_writtenSign_5 rfl ?_
  refine z_aload_n dX11_writtenSign_7 rfl rfl ?_
  refine g_getR hW hT.1 mr4 kX11 fX11_16 dX11_writtenSign_8 ?_
  refine z_iload_n dX11_writtenSign_11 rfl rfl ?_
  obtain ⟨q1a, q1b, hw⟩ := hw
  have q2 : iv 0 8 (S.2 57 (l1)) := mA57 hW _
  have hw := hw q2
  refine g_iald hW (ma57 hT) q1a q1b (by decide) dX11_writtenSign_12 ?_
  obtain ⟨q4, hw⟩ := hw
  refine i_icmp_ge (tgt := 117) dX11_writtenSign_13 (by decide) q4 (rngq q2 (by decide) (by decide)) (fun h3 => ?_) (fun h3 => ?_)
  · have hw := hw.1 h3
    refine z_iconst (v := Int32.ofInt 0) dX11_writtenSign_117 rfl ?_
    exact z_ireturn dX11_writtenSign_118 rfl rfl (hP _ _ _ hw hW)
  · have hw := hw.2 h3
    refine z_aload_n dX11_writtenSign_16 rfl rfl ?_
    refine g_getR hW hT.1 mr5 kX11 fX11_19 dX11_writtenSign_17 ?_
    refine z_bipush (v := Int32.ofInt 8) dX11_writtenSign_20 (by decide) ?_
    refine z_iload_n dX11_writtenSign_22 rfl rfl ?_
    refine i_imul dX11_writtenSign_23 ?_
    refine z_iload dX11_writtenSign_24 rfl ?_
    refine i_iadd dX11_writtenSign_26 ?_
    obtain ⟨q5a, q5b, hw⟩ := hw
    have q6 : iv (-2147483648) 2147483647 (S.2 58 (((8 * l1) + l4))) := mA58 hW _
    have hw := hw q6
    refine g_iald hW (ma58 hT) q5a q5b (by decide) dX11_writtenSign_27 ?_
    obtain ⟨x7, hx7⟩ : ∃ x : Int, x = S.2 58 (((8 * l1) + l4)) := ⟨_, rfl⟩
    have hw := hw x7 hx7
    refine z_st (st' := [.int (Int32.ofInt x7)]) (by rw [hx7]) ?_
    have q8 : rng x7 := by rw [hx7]; exact (rngq q6 (by decide) (by decide))
    have q9 : iv (-2147483648) 2147483647 x7 := by rw [hx7]; exact q6
    refine z_istore dX11_writtenSign_28 (by decide) ?_
    refine z_loc (L' := [(0, .ref (G.1 + 54)), (1, .int (Int32.ofInt (l1))), (2, .int (Int32.ofInt (l2))), (3, .int (Int32.ofInt (l3))), (4, .int (Int32.ofInt (l4))), (5, .int (Int32.ofInt (x7)))]) (List.forall_mem_cons.mpr ⟨rfl, (List.forall_mem_cons.mpr ⟨rfl, (List.forall_mem_cons.mpr ⟨rfl, (List.forall_mem_cons.mpr ⟨rfl, (List.forall_mem_cons.mpr ⟨rfl, (List.forall_mem_cons.mpr ⟨rfl, (fun _ h => nomatch h)⟩)⟩)⟩)⟩)⟩)⟩) ?_
    refine z_iload dX11_writtenSign_30 rfl ?_
    refine z_bipush (v := Int32.ofInt 95) dX11_writtenSign_32 (by decide) ?_
    refine i_icmp_eq (tgt := 44) dX11_writtenSign_34 (by decide) q8 ⟨by decide, by decide⟩ (fun h10 => ?_) (fun h10 => ?_)
    · have hw := hw.1 h10
      refine z_loc (L' := [(0, .ref (G.1 + 54)), (1, .int (Int32.ofInt (l1))), (2, .int (Int32.ofInt (l2))), (3, .int (Int32.ofInt (l3))), (4, .int (Int32.ofInt (l4))), (5, .int (Int32.ofInt (x7)))]) (List.forall_mem_cons.mpr ⟨rfl, (List.forall_mem_cons.mpr ⟨rfl, (List.forall_mem_cons.mpr ⟨rfl, (List.forall_mem_cons.mpr ⟨rfl, (List.forall_mem_cons.mpr ⟨rfl, (List.forall_mem_cons.mpr ⟨rfl, (fun _ h => nomatch h)⟩)⟩)⟩)⟩)⟩)⟩) ?_
      exact bX11_writtenSign_44 hd hJ hT hW hP hB5 hw
    · have hw := hw.2 h10
      refine z_iload dX11_writtenSign_37 rfl ?_
      refine z_bipush (v := Int32.ofInt 36) dX11_writtenSign_39 (by decide) ?_
      refine i_icmp_ne (tgt := 48) dX11_writtenSign_41 (by decide) q8 ⟨by decide, by decide⟩ (fun h11 => ?_) (fun h11 => ?_)
      · have hw := hw.1 h11
        refine z_iconst (v := Int32.ofInt 0) dX11_writtenSign_48 rfl ?_
        refine z_loc (L' := [(0, .ref (G.1 + 54)), (1, .int (Int32.ofInt (l1))), (2, .int (Int32.ofInt (l2))), (3, .int (Int32.ofInt (l3))), (4, .int (Int32.ofInt (l4))), (5, .int (Int32.ofInt (x7)))]) (List.forall_mem_cons.mpr ⟨rfl, (List.forall_mem_cons.mpr ⟨rfl, (List.forall_mem_cons.mpr ⟨rfl, (List.forall_mem_cons.mpr ⟨rfl, (List.forall_mem_cons.mpr ⟨rfl, (List.forall_mem_cons.mpr ⟨rfl, (fun _ h => nomatch h)⟩)⟩)⟩)⟩)⟩)⟩) ?_
        exact bX11_writtenSign_49 hd hJ hT hW hP hB5 hw
      · have hw := hw.2 h11
        refine z_loc (L' := [(0, .ref (G.1 + 54)), (1, .int (Int32.ofInt (l1))), (2, .int (Int32.ofInt (l2))), (3, .int (Int32.ofInt (l3))), (4, .int (Int32.ofInt (l4))), (5, .int (Int32.ofInt (x7)))]) (List.forall_mem_cons.mpr ⟨rfl, (List.forall_mem_cons.mpr ⟨rfl, (List.forall_mem_cons.mpr ⟨rfl, (List.forall_mem_cons.mpr ⟨rfl, (List.forall_mem_cons.mpr ⟨rfl, (List.forall_mem_cons.mpr ⟨rfl, (fun _ h => nomatch h)⟩)⟩)⟩)⟩)⟩)⟩) ?_
        exact bX11_writtenSign_44 hd hJ hT hW hP hB5 hw
def wX11_writtenSign_5 (l1 l2 l3 l4 : Int) (S : St) (K : Int → St → Prop) : Prop := ∃ (Iv : Int → Int → Int → Int → St → Prop) (mu : Int → Int → Int → Int → St → Nat), Iv l1 l2 l3 l4 S ∧ ∀ (l1 l2 l3 l4 : Int) (S : St), Iv l1 l2 l3 l4 S → wX11_writtenSign_5' l1 l2 l3 l4 S K  (fun ml1 ml2 ml3 ml4 T => Iv ml1 ml2 ml3 ml4 T ∧ mu ml1 ml2 ml3 ml4 T < mu l1 l2 l3 l4 S)
set_option maxRecDepth 100000 in
set_option maxHeartbeats 4000000 in
theorem bX11_writtenSign_5 {G : xG} {sh : Nat → Option Sh} {J : St → List va_E → Prop} {d : Nat} {Post : xP} {l1 l2 l3 l4 : Int} {S : St} {cs : List va_E} {K : Int → St → Prop} (hd : 0 ≤ d) (hJ : Stb sh J) (hT : isM sh) (hW : Wd G sh mT J S cs) (hP : ∀ (v : Int) (S : St) (cs : List va_E), K v S → Wd G sh mT J S cs → Post (some (.int (Int32.ofInt v))) cs)  (hw : wX11_writtenSign_5 l1 l2 l3 l4 S K ) : Z (RX11, cX11_writtenSign, 7, some .int, false) G d Post 5 [(0, .ref (G.1 + 54)), (1, .int (Int32.ofInt (l1))), (2, .int (Int32.ofInt (l2))), (3, .int (Int32.ofInt (l3))), (4, .int (Int32.ofInt (l4)))] [] cs := by
  unfold wX11_writtenSign_5 at hw
  obtain ⟨Iv, mu, h0, hs⟩ := hw
  have key : ∀ (n : Nat) (l1 l2 l3 l4 : Int) (S : St) (cs : List va_E), mu l1 l2 l3 l4 S < n → Iv l1 l2 l3 l4 S → Wd G sh mT J S cs → Z (RX11, cX11_writtenSign, 7, some .int, false) G d Post 5 [(0, .ref (G.1 + 54)), (1, .int (Int32.ofInt (l1))), (2, .int (Int32.ofInt (l2))), (3, .int (Int32.ofInt (l3))), (4, .int (Int32.ofInt (l4)))] [] cs := by
    intro n
    induction n with
    | zero => intro l1 l2 l3 l4 S cs hn; exact absurd hn (Nat.not_lt_zero _)
    | succ n ih =>
      intro l1 l2 l3 l4 S cs hn hI hW
      exact bX11_writtenSign_5' hd hJ hT hW hP  (fun l1 l2 l3 l4 S cs hb hW => ih l1 l2 l3 l4 S cs (Nat.lt_of_lt_of_le hb.2 (Nat.le_of_lt_succ hn)) hb.1 hW) (hs l1 l2 l3 l4 S hI)
  exact key _ _ _ _ _ _ _ (Nat.lt_succ_self _) h0 hW
def wX11_writtenSign (a1 a2 : Int) (S : St) (K : Int → St → Prop) : Prop := rng a1 → rng a2 → wX11_writtenSign_5 (a1) (a2) (0) (0) S K
set_option maxRecDepth 100000 in
set_option maxHeartbeats 4000000 in
theorem lX11_writtenSign {G : xG} {sh : Nat → Option Sh} {J : St → List va_E → Prop} {a1 a2 : Int} {S : St} {cs : List va_E} {K : Int → St → Prop} (d : Nat) (hd : 0 ≤ d) (hJ : Stb sh J) (hT : isM sh) (hW : Wd G sh mT J S cs) (g1 : rng a1) (g2 : rng a2) (hw : wX11_writtenSign a1 a2 S K) : X G yX11_writtenSign cX11_writtenSign 7 (some .int) d [.ref (G.1 + 54), .int (Int32.ofInt a1), .int (Int32.ofInt a2)] cs (qI G sh mT J K) := by
  refine X.of false (by decide +kernel) (by decide) (Nat.le_of_ble_eq_true rfl) ?_
  show Z (RX11, cX11_writtenSign, 7, some .int, false) G d _ 0 [(0, .ref (G.1 + 54)), (1, .int (Int32.ofInt a1)), (2, .int (Int32.ofInt a2))] [] cs
  have hP : ∀ (v : Int) (S : St) (cs : List va_E), K v S → Wd G sh mT J S cs → qI G sh mT J K (some (.int (Int32.ofInt v))) cs := fun v S cs a b => ⟨v, S, rfl, a, b⟩
  unfold wX11_writtenSign at hw
  have hw := hw g1 g2
  refine z_iconst (v := Int32.ofInt 0) dX11_writtenSign_0 rfl ?_
  refine z_istore_n dX11_writtenSign_1 rfl (by decide) ?_
  refine z_loc (L' := [(0, .ref (G.1 + 54)), (1, .int (Int32.ofInt (a1))), (2, .int (Int32.ofInt (a2))), (3, .int (Int32.ofInt (0)))]) (List.forall_mem_cons.mpr ⟨rfl, (List.forall_mem_cons.mpr ⟨rfl, (List.forall_mem_cons.mpr ⟨rfl, (List.forall_mem_cons.mpr ⟨rfl, (fun _ h => nomatch h)⟩)⟩)⟩)⟩) ?_
  refine z_iconst (v := Int32.ofInt 0) dX11_writtenSign_2 rfl ?_
  refine z_istore dX11_writtenSign_3 (by decide) ?_
  refine z_loc (L' := [(0, .ref (G.1 + 54)), (1, .int (Int32.ofInt (a1))), (2, .int (Int32.ofInt (a2))), (3, .int (Int32.ofInt (0))), (4, .int (Int32.ofInt (0)))]) (List.forall_mem_cons.mpr ⟨rfl, (List.forall_mem_cons.mpr ⟨rfl, (List.forall_mem_cons.mpr ⟨rfl, (List.forall_mem_cons.mpr ⟨rfl, (List.forall_mem_cons.mpr ⟨rfl, (fun _ h => nomatch h)⟩)⟩)⟩)⟩)⟩) ?_
  refine z_loc (L' := [(0, .ref (G.1 + 54)), (1, .int (Int32.ofInt (a1))), (2, .int (Int32.ofInt (a2))), (3, .int (Int32.ofInt (0))), (4, .int (Int32.ofInt (0)))]) (List.forall_mem_cons.mpr ⟨rfl, (List.forall_mem_cons.mpr ⟨rfl, (List.forall_mem_cons.mpr ⟨rfl, (List.forall_mem_cons.mpr ⟨rfl, (List.forall_mem_cons.mpr ⟨rfl, (fun _ h => nomatch h)⟩)⟩)⟩)⟩)⟩) ?_
  exact bX11_writtenSign_5 hd hJ hT hW hP  hw

def wX11_isNamed_54 (l1 l2 l3 l5 s0 : Int) (S : St) (K : Int → St → Prop) (B19 : Int → Int → Int → Int → Int → St → Prop) : Prop := B19 (l1) (l2) (l3) (s0) ((l5 + 1)) S
set_option maxRecDepth 100000 in
set_option maxHeartbeats 4000000 in
theorem bX11_isNamed_54 {G : xG} {sh : Nat → Option Sh} {J : St → List va_E → Prop} {d : Nat} {Post : xP} {l1 l2 l3 l5 s0 : Int} {S : St} {cs : List va_E} {K : Int → St → Prop} {B19 : Int → Int → Int → Int → Int → St → Prop} (hd : 1 ≤ d) (hJ : Stb sh J) (hT : isM sh) (hW : Wd G sh mT J S cs) (hP : ∀ (v : Int) (S : St) (cs : List va_E), K v S → Wd G sh mT J S cs → Post (some (.int (Int32.ofInt v))) cs) (hB19 : ∀ (l1 : Int) (l2 : Int) (l3 : Int) (l4 : Int) (l5 : Int) (S : St) (cs : List va_E), B19 l1 l2 l3 l4 l5 S → Wd G sh mT J S cs → Z (RX11, cX11_isNamed, 6, some .boolean, false) G d Post 19 [(0, .ref (G.1 + 54)), (1, .int (Int32.ofInt (l1))), (2, .int (Int32.ofInt (l2))), (3, .int (Int32.ofInt (l3))), (4, .int (Int32.ofInt (l4))), (5, .int (Int32.ofInt (l5)))] [] cs) (hw : wX11_isNamed_54 l1 l2 l3 l5 s0 S K B19) : Z (RX11, cX11_isNamed, 6, some .boolean, false) G d Post 54 [(0, .ref (G.1 + 54)), (1, .int (Int32.ofInt (l1))), (2, .int (Int32.ofInt (l2))), (3, .int (Int32.ofInt (l3))), (5, .int (Int32.ofInt (l5)))] [.int (Int32.ofInt (s0))] cs := by
  unfold wX11_isNamed_54 at hw
  refine z_istore dX11_isNamed_54 (by decide) ?_
  refine z_loc (L' := [(0, .ref (G.1 + 54)), (1, .int (Int32.ofInt (l1))), (2, .int (Int32.ofInt (l2))), (3, .int (Int32.ofInt (l3))), (4, .int (Int32.ofInt (s0))), (5, .int (Int32.ofInt (l5)))]) (List.forall_mem_cons.mpr ⟨rfl, (List.forall_mem_cons.mpr ⟨rfl, (List.forall_mem_cons.mpr ⟨rfl, (List.forall_mem_cons.mpr ⟨rfl, (List.forall_mem_cons.mpr ⟨rfl, (List.forall_mem_cons.mpr ⟨rfl, (fun _ h => nomatch h)⟩)⟩)⟩)⟩)⟩)⟩) ?_
  refine i_iinc (l := l5) dX11_isNamed_56 rfl (by decide) ?_
  refine z_loc (L' := [(0, .ref (G.1 + 54)), (1, .int (Int32.ofInt (l1))), (2, .int (Int32.ofInt (l2))), (3, .int (Int32.ofInt (l3))), (4, .int (Int32.ofInt (s0))), (5, .int (Int32.ofInt ((l5 + 1))))]) (List.forall_mem_cons.mpr ⟨rfl, (List.forall_mem_cons.mpr ⟨rfl, (List.forall_mem_cons.mpr ⟨rfl, (List.forall_mem_cons.mpr ⟨rfl, (List.forall_mem_cons.mpr ⟨rfl, (List.forall_mem_cons.mpr ⟨rfl, (fun _ h => nomatch h)⟩)⟩)⟩)⟩)⟩)⟩) ?_
  refine z_goto (tgt := 19) dX11_isNamed_59 (by decide) ?_
  refine z_loc (L' := [(0, .ref (G.1 + 54)), (1, .int (Int32.ofInt (l1))), (2, .int (Int32.ofInt (l2))), (3, .int (Int32.ofInt (l3))), (4, .int (Int32.ofInt (s0))), (5, .int (Int32.ofInt ((l5 + 1))))]) (List.forall_mem_cons.mpr ⟨rfl, (List.forall_mem_cons.mpr ⟨rfl, (List.forall_mem_cons.mpr ⟨rfl, (List.forall_mem_cons.mpr ⟨rfl, (List.forall_mem_cons.mpr ⟨rfl, (List.forall_mem_cons.mpr ⟨rfl, (fun _ h => nomatch h)⟩)⟩)⟩)⟩)⟩)⟩) ?_
  exact hB19 _ _ _ _ _ _ _ hw hW
def wX11_isNamed_19' (l1 l2 l3 l4 l5 : Int) (S : St) (K : Int → St → Prop) (B19 : Int → Int → Int → Int → Int → St → Prop) : Prop := (rng (l5) ∧ (rng (l2) ∧ ((l2 ≤ l5 → (iv 0 1 (l4) ∧ K (l4) S)) ∧ ((¬ (l2 ≤ l5)) → (rng (l4) ∧ ((l4 = 0 → (iv 0 1 (l4) ∧ K (l4) S)) ∧ ((¬ (l4 = 0)) → ((0 : Int) ≤ (l1 + l5) ∧ (l1 + l5) < (3000 : Int) ∧ (iv (-2147483648) 2147483647 (S.2 84 ((l1 + l5))) → (rng (l3) ∧ (wX11_writtenSign (l3) (l5) S (fun r11 S12 => (rng (r11) ∧ ((¬ S.2 84 ((l1 + l5)) = r11 → wX11_isNamed_54 (l1) (l2) (l3) (l5) (0) S12 K B19) ∧ ((¬ (¬ S.2 84 ((l1 + l5)) = r11)) → wX11_isNamed_54 (l1) (l2) (l3) (l5) (1) S12 K B19)))))))))))))))
set_option maxRecDepth 100000 in
set_option maxHeartbeats 4000000 in
theorem bX11_isNamed_19' {G : xG} {sh : Nat → Option Sh} {J : St → List va_E → Prop} {d : Nat} {Post : xP} {l1 l2 l3 l4 l5 : Int} {S : St} {cs : List va_E} {K : Int → St → Prop} {B19 : Int → Int → Int → Int → Int → St → Prop} (hd : 1 ≤ d) (hJ : Stb sh J) (hT : isM sh) (hW : Wd G sh mT J S cs) (hP : ∀ (v : Int) (S : St) (cs : List va_E), K v S → Wd G sh mT J S cs → Post (some (.int (Int32.ofInt v))) cs) (hB19 : ∀ (l1 : Int) (l2 : Int) (l3 : Int) (l4 : Int) (l5 : Int) (S : St) (cs : List va_E), B19 l1 l2 l3 l4 l5 S → Wd G sh mT J S cs → Z (RX11, cX11_isNamed, 6, some .boolean, false) G d Post 19 [(0, .ref (G.1 + 54)), (1, .int (Int32.ofInt (l1))), (2, .int (Int32.ofInt (l2))), (3, .int (Int32.ofInt (l3))), (4, .int (Int32.ofInt (l4))), (5, .int (Int32.ofInt (l5)))] [] cs) (hw : wX11_isNamed_19' l1 l2 l3 l4 l5 S K B19) : Z (RX11, cX11_isNamed, 6, some .boolean, false) G d Post 19 [(0, .ref (G.1 + 54)), (1, .int (Int32.ofInt (l1))), (2, .int (Int32.ofInt (l2))), (3, .int (Int32.ofInt (l3))), (4, .int (Int32.ofInt (l4))), (5, .int (Int32.ofInt (l5)))] [] cs := by
  unfold wX11_isNamed_19' at hw
  refine z_iload dX11_isNamed_19 rfl ?_
  refine z_iload_n dX11_isNamed_21 rfl rfl ?_
  obtain ⟨q2, hw⟩ := hw
  obtain ⟨q3, hw⟩ := hw
  refine i_icmp_ge (tgt := 62) dX11_isNamed_22 (by decide) q2 q3 (fun h1 => ?_) (fun h1 => ?_)
  · have hw := hw.1 h1
    refine z_iload dX11_isNamed_62 rfl ?_
    obtain ⟨q4, hw⟩ := hw
    exact z_ireturn dX11_isNamed_64 rfl (nar01 (b01 q4)) (hP _ _ _ hw hW)
  · have hw := hw.2 h1
    refine z_iload dX11_isNamed_25 rfl ?_
    obtain ⟨q6, hw⟩ := hw
    refine i_if_eq (tgt := 62) dX11_isNamed_27 (by decide) q6 (fun h5 => ?_) (fun h5 => ?_)
    · have hw := hw.1 h5
      refine z_iload dX11_isNamed_62 rfl ?_
      obtain ⟨q7, hw⟩ := hw
      exact z_ireturn dX11_isNamed_64 rfl (nar01 (b01 q7)) (hP _ _ _ hw hW)
    · have hw := hw.2 h5
      refine z_aload_n dX11_isNamed_30 rfl rfl ?_
      refine g_getR hW hT.1 mr42 kX11 fX11_102 dX11_isNamed_31 ?_
      refine z_iload_n dX11_isNamed_34 rfl rfl ?_
      refine z_iload dX11_isNamed_35 rfl ?_
      refine i_iadd dX11_isNamed_37 ?_
      obtain ⟨q8a, q8b, hw⟩ := hw
      have q9 : iv (-2147483648) 2147483647 (S.2 84 ((l1 + l5))) := mA84 hW _
      have hw := hw q9
      refine g_iald hW (ma84 hT) q8a q8b (by decide) dX11_isNamed_38 ?_
      refine z_aload_n dX11_isNamed_39 rfl rfl ?_
      refine z_iload_n dX11_isNamed_40 rfl rfl ?_
      refine z_iload dX11_isNamed_41 rfl ?_
      obtain ⟨q10, hw⟩ := hw
      have hX := lX11_writtenSign 0 (Nat.le_refl _) hJ hT hW q10 q2 hw
      refine z_callV (As := [_, _]) eX11_writtenSign sX11_writtenSign lX11_411 rfl dX11_isNamed_43 (hW.1 _ _ hT.1) hX (Nat.le_trans (by decide) hd) rfl (Nat.le_of_ble_eq_true rfl) (fun r cs hp => ?_)
      obtain ⟨r11, S12, rfl, hw, hW⟩ := hp
      refine z_st (st' := [.int (Int32.ofInt (r11)), .int (Int32.ofInt (S.2 84 ((l1 + l5))))]) rfl ?_
      obtain ⟨q14, hw⟩ := hw
      refine i_icmp_ne (tgt := 53) dX11_isNamed_46 (by decide) (rngq q9 (by decide) (by decide)) q14 (fun h13 => ?_) (fun h13 => ?_)
      · have hw := hw.1 h13
        refine z_iconst (v := Int32.ofInt 0) dX11_isNamed_53 rfl ?_
        refine z_loc (L' := [(0, .ref (G.1 + 54)), (1, .int (Int32.ofInt (l1))), (2, .int (Int32.ofInt (l2))), (3, .int (Int32.ofInt (l3))), (5, .int (Int32.ofInt (l5)))]) (List.forall_mem_cons.mpr ⟨rfl, (List.forall_mem_cons.mpr ⟨rfl, (List.forall_mem_cons.mpr ⟨rfl, (List.forall_mem_cons.mpr ⟨rfl, (List.forall_mem_cons.mpr ⟨rfl, (fun _ h => nomatch h)⟩)⟩)⟩)⟩)⟩) ?_
        exact bX11_isNamed_54 hd hJ hT hW hP hB19 hw
      · have hw := hw.2 h13
        refine z_iconst (v := Int32.ofInt 1) dX11_isNamed_49 rfl ?_
        refine z_goto (tgt := 54) dX11_isNamed_50 (by decide) ?_
        refine z_loc (L' := [(0, .ref (G.1 + 54)), (1, .int (Int32.ofInt (l1))), (2, .int (Int32.ofInt (l2))), (3, .int (Int32.ofInt (l3))), (5, .int (Int32.ofInt (l5)))]) (List.forall_mem_cons.mpr ⟨rfl, (List.forall_mem_cons.mpr ⟨rfl, (List.forall_mem_cons.mpr ⟨rfl, (List.forall_mem_cons.mpr ⟨rfl, (List.forall_mem_cons.mpr ⟨rfl, (fun _ h => nomatch h)⟩)⟩)⟩)⟩)⟩) ?_
        exact bX11_isNamed_54 hd hJ hT hW hP hB19 hw
def wX11_isNamed_19 (l1 l2 l3 l4 l5 : Int) (S : St) (K : Int → St → Prop) : Prop := ∃ (Iv : Int → Int → Int → Int → Int → St → Prop) (mu : Int → Int → Int → Int → Int → St → Nat), Iv l1 l2 l3 l4 l5 S ∧ ∀ (l1 l2 l3 l4 l5 : Int) (S : St), Iv l1 l2 l3 l4 l5 S → wX11_isNamed_19' l1 l2 l3 l4 l5 S K  (fun ml1 ml2 ml3 ml4 ml5 T => Iv ml1 ml2 ml3 ml4 ml5 T ∧ mu ml1 ml2 ml3 ml4 ml5 T < mu l1 l2 l3 l4 l5 S)
set_option maxRecDepth 100000 in
set_option maxHeartbeats 4000000 in
theorem bX11_isNamed_19 {G : xG} {sh : Nat → Option Sh} {J : St → List va_E → Prop} {d : Nat} {Post : xP} {l1 l2 l3 l4 l5 : Int} {S : St} {cs : List va_E} {K : Int → St → Prop} (hd : 1 ≤ d) (hJ : Stb sh J) (hT : isM sh) (hW : Wd G sh mT J S cs) (hP : ∀ (v : Int) (S : St) (cs : List va_E), K v S → Wd G sh mT J S cs → Post (some (.int (Int32.ofInt v))) cs)  (hw : wX11_isNamed_19 l1 l2 l3 l4 l5 S K ) : Z (RX11, cX11_isNamed, 6, some .boolean, false) G d Post 19 [(0, .ref (G.1 + 54)), (1, .int (Int32.ofInt (l1))), (2, .int (Int32.ofInt (l2))), (3, .int (Int32.ofInt (l3))), (4, .int (Int32.ofInt (l4))), (5, .int (Int32.ofInt (l5)))] [] cs := by
  unfold wX11_isNamed_19 at hw
  obtain ⟨Iv, mu, h0, hs⟩ := hw
  have key : ∀ (n : Nat) (l1 l2 l3 l4 l5 : Int) (S : St) (cs : List va_E), mu l1 l2 l3 l4 l5 S < n → Iv l1 l2 l3 l4 l5 S → Wd G sh mT J S cs → Z (RX11, cX11_isNamed, 6, some .boolean, false) G d Post 19 [(0, .ref (G.1 + 54)), (1, .int (Int32.ofInt (l1))), (2, .int (Int32.ofInt (l2))), (3, .int (Int32.ofInt (l3))), (4, .int (Int32.ofInt (l4))), (5, .int (Int32.ofInt (l5)))] [] cs := by
    intro n
    induction n with
    | zero => intro l1 l2 l3 l4 l5 S cs hn; exact absurd hn (Nat.not_lt_zero _)
    | succ n ih =>
      intro l1 l2 l3 l4 l5 S cs hn hI hW
      exact bX11_isNamed_19' hd hJ hT hW hP  (fun l1 l2 l3 l4 l5 S cs hb hW => ih l1 l2 l3 l4 l5 S cs (Nat.lt_of_lt_of_le hb.2 (Nat.le_of_lt_succ hn)) hb.1 hW) (hs l1 l2 l3 l4 l5 S hI)
  exact key _ _ _ _ _ _ _ _ (Nat.lt_succ_self _) h0 hW
def wX11_isNamed_14 (l1 l2 l3 s0 : Int) (S : St) (K : Int → St → Prop) : Prop := wX11_isNamed_19 (l1) (l2) (l3) (s0) (0) S K
set_option maxRecDepth 100000 in
set_option maxHeartbeats 4000000 in
theorem bX11_isNamed_14 {G : xG} {sh : Nat → Option Sh} {J : St → List va_E → Prop} {d : Nat} {Post : xP} {l1 l2 l3 s0 : Int} {S : St} {cs : List va_E} {K : Int → St → Prop} (hd : 1 ≤ d) (hJ : Stb sh J) (hT : isM sh) (hW : Wd G sh mT J S cs) (hP : ∀ (v : Int) (S : St) (cs : List va_E), K v S → Wd G sh mT J S cs → Post (some (.int (Int32.ofInt v))) cs)  (hw : wX11_isNamed_14 l1 l2 l3 s0 S K ) : Z (RX11, cX11_isNamed, 6, some .boolean, false) G d Post 14 [(0, .ref (G.1 + 54)), (1, .int (Int32.ofInt (l1))), (2, .int (Int32.ofInt (l2))), (3, .int (Int32.ofInt (l3)))] [.int (Int32.ofInt (s0))] cs := by
  unfold wX11_isNamed_14 at hw
  refine z_istore dX11_isNamed_14 (by decide) ?_
  refine z_loc (L' := [(0, .ref (G.1 + 54)), (1, .int (Int32.ofInt (l1))), (2, .int (Int32.ofInt (l2))), (3, .int (Int32.ofInt (l3))), (4, .int (Int32.ofInt (s0)))]) (List.forall_mem_cons.mpr ⟨rfl, (List.forall_mem_cons.mpr ⟨rfl, (List.forall_mem_cons.mpr ⟨rfl, (List.forall_mem_cons.mpr ⟨rfl, (List.forall_mem_cons.mpr ⟨rfl, (fun _ h => nomatch h)⟩)⟩)⟩)⟩)⟩) ?_
  refine z_iconst (v := Int32.ofInt 0) dX11_isNamed_16 rfl ?_
  refine z_istore dX11_isNamed_17 (by decide) ?_
  refine z_loc (L' := [(0, .ref (G.1 + 54)), (1, .int (Int32.ofInt (l1))), (2, .int (Int32.ofInt (l2))), (3, .int (Int32.ofInt (l3))), (4, .int (Int32.ofInt (s0))), (5, .int (Int32.ofInt (0)))]) (List.forall_mem_cons.mpr ⟨rfl, (List.forall_mem_cons.mpr ⟨rfl, (List.forall_mem_cons.mpr ⟨rfl, (List.forall_mem_cons.mpr ⟨rfl, (List.forall_mem_cons.mpr ⟨rfl, (List.forall_mem_cons.mpr ⟨rfl, (fun _ h => nomatch h)⟩)⟩)⟩)⟩)⟩)⟩) ?_
  refine z_loc (L' := [(0, .ref (G.1 + 54)), (1, .int (Int32.ofInt (l1))), (2, .int (Int32.ofInt (l2))), (3, .int (Int32.ofInt (l3))), (4, .int (Int32.ofInt (s0))), (5, .int (Int32.ofInt (0)))]) (List.forall_mem_cons.mpr ⟨rfl, (List.forall_mem_cons.mpr ⟨rfl, (List.forall_mem_cons.mpr ⟨rfl, (List.forall_mem_cons.mpr ⟨rfl, (List.forall_mem_cons.mpr ⟨rfl, (List.forall_mem_cons.mpr ⟨rfl, (fun _ h => nomatch h)⟩)⟩)⟩)⟩)⟩)⟩) ?_
  exact bX11_isNamed_19 hd hJ hT hW hP  hw
def wX11_isNamed (a1 a2 a3 : Int) (S : St) (K : Int → St → Prop) : Prop := rng a1 → rng a2 → rng a3 → (wX11_writtenSign (a3) (a2) S (fun r1 S2 => (rng (r1) ∧ ((¬ r1 = 0 → wX11_isNamed_14 (a1) (a2) (a3) (0) S2 K) ∧ ((¬ (¬ r1 = 0)) → wX11_isNamed_14 (a1) (a2) (a3) (1) S2 K)))))
set_option maxRecDepth 100000 in
set_option maxHeartbeats 4000000 in
theorem lX11_isNamed {G : xG} {sh : Nat → Option Sh} {J : St → List va_E → Prop} {a1 a2 a3 : Int} {S : St} {cs : List va_E} {K : Int → St → Prop} (d : Nat) (hd : 1 ≤ d) (hJ : Stb sh J) (hT : isM sh) (hW : Wd G sh mT J S cs) (g1 : rng a1) (g2 : rng a2) (g3 : rng a3) (hw : wX11_isNamed a1 a2 a3 S K) : X G yX11_isNamed cX11_isNamed 6 (some .boolean) d [.ref (G.1 + 54), .int (Int32.ofInt a1), .int (Int32.ofInt a2), .int (Int32.ofInt a3)] cs (qI G sh mT J K) := by
  refine X.of false (by decide +kernel) (by decide) (Nat.le_of_ble_eq_true rfl) ?_
  show Z (RX11, cX11_isNamed, 6, some .boolean, false) G d _ 0 [(0, .ref (G.1 + 54)), (1, .int (Int32.ofInt a1)), (2, .int (Int32.ofInt a2)), (3, .int (Int32.ofInt a3))] [] cs
  have hP : ∀ (v : Int) (S : St) (cs : List va_E), K v S → Wd G sh mT J S cs → qI G sh mT J K (some (.int (Int32.ofInt v))) cs := fun v S cs a b => ⟨v, S, rfl, a, b⟩
  unfold wX11_isNamed at hw
  have hw := hw g1 g2 g3
  refine z_aload_n dX11_isNamed_0 rfl rfl ?_
  refine z_iload_n dX11_isNamed_1 rfl rfl ?_
  refine z_iload_n dX11_isNamed_2 rfl rfl ?_
  have hX := lX11_writtenSign 0 (Nat.le_refl _) hJ hT hW g3 g2 hw
  refine z_callV (As := [_, _]) eX11_writtenSign sX11_writtenSign lX11_411 rfl dX11_isNamed_3 (hW.1 _ _ hT.1) hX (Nat.le_trans (by decide) hd) rfl (Nat.le_of_ble_eq_true rfl) (fun r cs hp => ?_)
  obtain ⟨r1, S2, rfl, hw, hW⟩ := hp
  refine z_st (st' := [.int (Int32.ofInt (r1))]) rfl ?_
  obtain ⟨q4, hw⟩ := hw
  refine i_if_ne (tgt := 13) dX11_isNamed_6 (by decide) q4 (fun h3 => ?_) (fun h3 => ?_)
  · have hw := hw.1 h3
    refine z_iconst (v := Int32.ofInt 0) dX11_isNamed_13 rfl ?_
    refine z_loc (L' := [(0, .ref (G.1 + 54)), (1, .int (Int32.ofInt (a1))), (2, .int (Int32.ofInt (a2))), (3, .int (Int32.ofInt (a3)))]) (List.forall_mem_cons.mpr ⟨rfl, (List.forall_mem_cons.mpr ⟨rfl, (List.forall_mem_cons.mpr ⟨rfl, (List.forall_mem_cons.mpr ⟨rfl, (fun _ h => nomatch h)⟩)⟩)⟩)⟩) ?_
    exact bX11_isNamed_14 hd hJ hT hW hP  hw
  · have hw := hw.2 h3
    refine z_iconst (v := Int32.ofInt 1) dX11_isNamed_9 rfl ?_
    refine z_goto (tgt := 14) dX11_isNamed_10 (by decide) ?_
    refine z_loc (L' := [(0, .ref (G.1 + 54)), (1, .int (Int32.ofInt (a1))), (2, .int (Int32.ofInt (a2))), (3, .int (Int32.ofInt (a3)))]) (List.forall_mem_cons.mpr ⟨rfl, (List.forall_mem_cons.mpr ⟨rfl, (List.forall_mem_cons.mpr ⟨rfl, (List.forall_mem_cons.mpr ⟨rfl, (fun _ h => nomatch h)⟩)⟩)⟩)⟩) ?_
    exact bX11_isNamed_14 hd hJ hT hW hP  hw

def wX11_classNamed_42 (l1 l2 l4 s0 : Int) (S : St) (K : Int → St → Prop) (B6 : Int → Int → Int → Int → St → Prop) : Prop := B6 (l1) (l2) (s0) ((l4 + 1)) S
set_option maxRecDepth 100000 in
set_option maxHeartbeats 4000000 in
theorem bX11_classNamed_42 {G : xG} {sh : Nat → Option Sh} {J : St → List va_E → Prop} {d : Nat} {Post : xP} {l1 l2 l4 s0 : Int} {S : St} {cs : List va_E} {K : Int → St → Prop} {B6 : Int → Int → Int → Int → St → Prop} (hd : 2 ≤ d) (hJ : Stb sh J) (hT : isM sh) (hW : Wd G sh mT J S cs) (hP : ∀ (v : Int) (S : St) (cs : List va_E), K v S → Wd G sh mT J S cs → Post (some (.int (Int32.ofInt v))) cs) (hB6 : ∀ (l1 : Int) (l2 : Int) (l3 : Int) (l4 : Int) (S : St) (cs : List va_E), B6 l1 l2 l3 l4 S → Wd G sh mT J S cs → Z (RX11, cX11_classNamed, 5, some .int, false) G d Post 6 [(0, .ref (G.1 + 54)), (1, .int (Int32.ofInt (l1))), (2, .int (Int32.ofInt (l2))), (3, .int (Int32.ofInt (l3))), (4, .int (Int32.ofInt (l4)))] [] cs) (hw : wX11_classNamed_42 l1 l2 l4 s0 S K B6) : Z (RX11, cX11_classNamed, 5, some .int, false) G d Post 42 [(0, .ref (G.1 + 54)), (1, .int (Int32.ofInt (l1))), (2, .int (Int32.ofInt (l2))), (4, .int (Int32.ofInt (l4)))] [.int (Int32.ofInt (s0))] cs := by
  unfold wX11_classNamed_42 at hw
  refine z_istore_n dX11_classNamed_42 rfl (by decide) ?_
  refine z_loc (L' := [(0, .ref (G.1 + 54)), (1, .int (Int32.ofInt (l1))), (2, .int (Int32.ofInt (l2))), (3, .int (Int32.ofInt (s0))), (4, .int (Int32.ofInt (l4)))]) (List.forall_mem_cons.mpr ⟨rfl, (List.forall_mem_cons.mpr ⟨rfl, (List.forall_mem_cons.mpr ⟨rfl, (List.forall_mem_cons.mpr ⟨rfl, (List.forall_mem_cons.mpr ⟨rfl, (fun _ h => nomatch h)⟩)⟩)⟩)⟩)⟩) ?_
  refine i_iinc (l := l4) dX11_classNamed_43 rfl (by decide) ?_
  refine z_loc (L' := [(0, .ref (G.1 + 54)), (1, .int (Int32.ofInt (l1))), (2, .int (Int32.ofInt (l2))), (3, .int (Int32.ofInt (s0))), (4, .int (Int32.ofInt ((l4 + 1))))]) (List.forall_mem_cons.mpr ⟨rfl, (List.forall_mem_cons.mpr ⟨rfl, (List.forall_mem_cons.mpr ⟨rfl, (List.forall_mem_cons.mpr ⟨rfl, (List.forall_mem_cons.mpr ⟨rfl, (fun _ h => nomatch h)⟩)⟩)⟩)⟩)⟩) ?_
  refine z_goto (tgt := 6) dX11_classNamed_46 (by decide) ?_
  refine z_loc (L' := [(0, .ref (G.1 + 54)), (1, .int (Int32.ofInt (l1))), (2, .int (Int32.ofInt (l2))), (3, .int (Int32.ofInt (s0))), (4, .int (Int32.ofInt ((l4 + 1))))]) (List.forall_mem_cons.mpr ⟨rfl, (List.forall_mem_cons.mpr ⟨rfl, (List.forall_mem_cons.mpr ⟨rfl, (List.forall_mem_cons.mpr ⟨rfl, (List.forall_mem_cons.mpr ⟨rfl, (fun _ h => nomatch h)⟩)⟩)⟩)⟩)⟩) ?_
  exact hB6 _ _ _ _ _ _ hw hW
def wX11_classNamed_41 (l1 l2 l3 l4 : Int) (S : St) (K : Int → St → Prop) (B6 : Int → Int → Int → Int → St → Prop) : Prop := wX11_classNamed_42 (l1) (l2) (l4) (l3) S K B6
set_option maxRecDepth 100000 in
set_option maxHeartbeats 4000000 in
theorem bX11_classNamed_41 {G : xG} {sh : Nat → Option Sh} {J : St → List va_E → Prop} {d : Nat} {Post : xP} {l1 l2 l3 l4 : Int} {S : St} {cs : List va_E} {K : Int → St → Prop} {B6 : Int → Int → Int → Int → St → Prop} (hd : 2 ≤ d) (hJ : Stb sh J) (hT : isM sh) (hW : Wd G sh mT J S cs) (hP : ∀ (v : Int) (S : St) (cs : List va_E), K v S → Wd G sh mT J S cs → Post (some (.int (Int32.ofInt v))) cs) (hB6 : ∀ (l1 : Int) (l2 : Int) (l3 : Int) (l4 : Int) (S : St) (cs : List va_E), B6 l1 l2 l3 l4 S → Wd G sh mT J S cs → Z (RX11, cX11_classNamed, 5, some .int, false) G d Post 6 [(0, .ref (G.1 + 54)), (1, .int (Int32.ofInt (l1))), (2, .int (Int32.ofInt (l2))), (3, .int (Int32.ofInt (l3))), (4, .int (Int32.ofInt (l4)))] [] cs) (hw : wX11_classNamed_41 l1 l2 l3 l4 S K B6) : Z (RX11, cX11_classNamed, 5, some .int, false) G d Post 41 [(0, .ref (G.1 + 54)), (1, .int (Int32.ofInt (l1))), (2, .int (Int32.ofInt (l2))), (3, .int (Int32.ofInt (l3))), (4, .int (Int32.ofInt (l4)))] [] cs := by
  unfold wX11_classNamed_41 at hw
  refine z_iload_n dX11_classNamed_41 rfl rfl ?_
  refine z_loc (L' := [(0, .ref (G.1 + 54)), (1, .int (Int32.ofInt (l1))), (2, .int (Int32.ofInt (l2))), (4, .int (Int32.ofInt (l4)))]) (List.forall_mem_cons.mpr ⟨rfl, (List.forall_mem_cons.mpr ⟨rfl, (List.forall_mem_cons.mpr ⟨rfl, (List.forall_mem_cons.mpr ⟨rfl, (fun _ h => nomatch h)⟩)⟩)⟩)⟩) ?_
  exact bX11_classNamed_42 hd hJ hT hW hP hB6 hw
def wX11_classNamed_6' (l1 l2 l3 l4 : Int) (S : St) (K : Int → St → Prop) (B6 : Int → Int → Int → Int → St → Prop) : Prop := (iv 0 6 (S.1 54 2) → (rng (l4) ∧ ((S.1 54 2 ≤ l4 → K (l3) S) ∧ ((¬ (S.1 54 2 ≤ l4)) → ((0 : Int) ≤ l4 ∧ l4 < (6 : Int) ∧ (iv 0 1 (S.2 61 (l4)) → ((¬ S.2 61 (l4) = 0 → wX11_classNamed_41 (l1) (l2) (l3) (l4) S K B6) ∧ ((¬ (¬ S.2 61 (l4) = 0)) → (rng (l1) ∧ (rng (l2) ∧ (wX11_isNamed (l1) (l2) (l4) S (fun r9 S10 => (rng (r9) ∧ ((r9 = 0 → wX11_classNamed_41 (l1) (l2) (l3) (l4) S10 K B6) ∧ ((¬ (r9 = 0)) → wX11_classNamed_42 (l1) (l2) (l4) (l4) S10 K B6)))))))))))))))
set_option maxRecDepth 100000 in
set_option maxHeartbeats 4000000 in
theorem bX11_classNamed_6' {G : xG} {sh : Nat → Option Sh} {J : St → List va_E → Prop} {d : Nat} {Post : xP} {l1 l2 l3 l4 : Int} {S : St} {cs : List va_E} {K : Int → St → Prop} {B6 : Int → Int → Int → Int → St → Prop} (hd : 2 ≤ d) (hJ : Stb sh J) (hT : isM sh) (hW : Wd G sh mT J S cs) (hP : ∀ (v : Int) (S : St) (cs : List va_E), K v S → Wd G sh mT J S cs → Post (some (.int (Int32.ofInt v))) cs) (hB6 : ∀ (l1 : Int) (l2 : Int) (l3 : Int) (l4 : Int) (S : St) (cs : List va_E), B6 l1 l2 l3 l4 S → Wd G sh mT J S cs → Z (RX11, cX11_classNamed, 5, some .int, false) G d Post 6 [(0, .ref (G.1 + 54)), (1, .int (Int32.ofInt (l1))), (2, .int (Int32.ofInt (l2))), (3, .int (Int32.ofInt (l3))), (4, .int (Int32.ofInt (l4)))] [] cs) (hw : wX11_classNamed_6' l1 l2 l3 l4 S K B6) : Z (RX11, cX11_classNamed, 5, some .int, false) G d Post 6 [(0, .ref (G.1 + 54)), (1, .int (Int32.ofInt (l1))), (2, .int (Int32.ofInt (l2))), (3, .int (Int32.ofInt (l3))), (4, .int (Int32.ofInt (l4)))] [] cs := by
  unfold wX11_classNamed_6' at hw
  refine z_iload dX11_classNamed_6 rfl ?_
  refine z_aload_n dX11_classNamed_8 rfl rfl ?_
  have q1 : iv 0 6 (S.1 54 2) := mI2 hW
  have hw := hw q1
  refine g_getI hW hT.1 mr2 kX11 fX11_238 dX11_classNamed_9 ?_
  obtain ⟨q3, hw⟩ := hw
  refine i_icmp_ge (tgt := 49) dX11_classNamed_12 (by decide) q3 (rngq q1 (by decide) (by decide)) (fun h2 => ?_) (fun h2 => ?_)
  · have hw := hw.1 h2
    refine z_iload_n dX11_classNamed_49 rfl rfl ?_
    exact z_ireturn dX11_classNamed_50 rfl rfl (hP _ _ _ hw hW)
  · have hw := hw.2 h2
    refine z_aload_n dX11_classNamed_15 rfl rfl ?_
    refine g_getR hW hT.1 mr8 kX11 fX11_29 dX11_classNamed_16 ?_
    refine z_iload dX11_classNamed_19 rfl ?_
    obtain ⟨q4a, q4b, hw⟩ := hw
    have q5 : iv 0 1 (S.2 61 (l4)) := mA61 hW _
    have hw := hw q5
    refine g_zald hW (ma61 hT) q4a q4b (by decide) dX11_classNamed_21 ?_
    refine i_if_ne (tgt := 41) dX11_classNamed_22 (by decide) (rngq q5 (by decide) (by decide)) (fun h6 => ?_) (fun h6 => ?_)
    · have hw := hw.1 h6
      refine z_loc (L' := [(0, .ref (G.1 + 54)), (1, .int (Int32.ofInt (l1))), (2, .int (Int32.ofInt (l2))), (3, .int (Int32.ofInt (l3))), (4, .int (Int32.ofInt (l4)))]) (List.forall_mem_cons.mpr ⟨rfl, (List.forall_mem_cons.mpr ⟨rfl, (List.forall_mem_cons.mpr ⟨rfl, (List.forall_mem_cons.mpr ⟨rfl, (List.forall_mem_cons.mpr ⟨rfl, (fun _ h => nomatch h)⟩)⟩)⟩)⟩)⟩) ?_
      exact bX11_classNamed_41 hd hJ hT hW hP hB6 hw
    · have hw := hw.2 h6
      refine z_aload_n dX11_classNamed_25 rfl rfl ?_
      refine z_iload_n dX11_classNamed_26 rfl rfl ?_
      refine z_iload_n dX11_classNamed_27 rfl rfl ?_
      refine z_iload dX11_classNamed_28 rfl ?_
      obtain ⟨q7, hw⟩ := hw
      obtain ⟨q8, hw⟩ := hw
      have hX := lX11_isNamed 1 (Nat.le_refl _) hJ hT hW q7 q8 q3 hw
      refine z_callV (As := [_, _, _]) eX11_isNamed sX11_isNamed lX11_414 rfl dX11_classNamed_30 (hW.1 _ _ hT.1) hX (Nat.le_trans (by decide) hd) rfl (Nat.le_of_ble_eq_true rfl) (fun r cs hp => ?_)
      obtain ⟨r9, S10, rfl, hw, hW⟩ := hp
      refine z_st (st' := [.int (Int32.ofInt (r9))]) rfl ?_
      obtain ⟨q12, hw⟩ := hw
      refine i_if_eq (tgt := 41) dX11_classNamed_33 (by decide) q12 (fun h11 => ?_) (fun h11 => ?_)
      · have hw := hw.1 h11
        refine z_loc (L' := [(0, .ref (G.1 + 54)), (1, .int (Int32.ofInt (l1))), (2, .int (Int32.ofInt (l2))), (3, .int (Int32.ofInt (l3))), (4, .int (Int32.ofInt (l4)))]) (List.forall_mem_cons.mpr ⟨rfl, (List.forall_mem_cons.mpr ⟨rfl, (List.forall_mem_cons.mpr ⟨rfl, (List.forall_mem_cons.mpr ⟨rfl, (List.forall_mem_cons.mpr ⟨rfl, (fun _ h => nomatch h)⟩)⟩)⟩)⟩)⟩) ?_
        exact bX11_classNamed_41 hd hJ hT hW hP hB6 hw
      · have hw := hw.2 h11
        refine z_iload dX11_classNamed_36 rfl ?_
        refine z_goto (tgt := 42) dX11_classNamed_38 (by decide) ?_
        refine z_loc (L' := [(0, .ref (G.1 + 54)), (1, .int (Int32.ofInt (l1))), (2, .int (Int32.ofInt (l2))), (4, .int (Int32.ofInt (l4)))]) (List.forall_mem_cons.mpr ⟨rfl, (List.forall_mem_cons.mpr ⟨rfl, (List.forall_mem_cons.mpr ⟨rfl, (List.forall_mem_cons.mpr ⟨rfl, (fun _ h => nomatch h)⟩)⟩)⟩)⟩) ?_
        exact bX11_classNamed_42 hd hJ hT hW hP hB6 hw
def wX11_classNamed_6 (l1 l2 l3 l4 : Int) (S : St) (K : Int → St → Prop) : Prop := ∃ (Iv : Int → Int → Int → Int → St → Prop) (mu : Int → Int → Int → Int → St → Nat), Iv l1 l2 l3 l4 S ∧ ∀ (l1 l2 l3 l4 : Int) (S : St), Iv l1 l2 l3 l4 S → wX11_classNamed_6' l1 l2 l3 l4 S K  (fun ml1 ml2 ml3 ml4 T => Iv ml1 ml2 ml3 ml4 T ∧ mu ml1 ml2 ml3 ml4 T < mu l1 l2 l3 l4 S)
set_option maxRecDepth 100000 in
set_option maxHeartbeats 4000000 in
theorem bX11_classNamed_6 {G : xG} {sh : Nat → Option Sh} {J : St → List va_E → Prop} {d : Nat} {Post : xP} {l1 l2 l3 l4 : Int} {S : St} {cs : List va_E} {K : Int → St → Prop} (hd : 2 ≤ d) (hJ : Stb sh J) (hT : isM sh) (hW : Wd G sh mT J S cs) (hP : ∀ (v : Int) (S : St) (cs : List va_E), K v S → Wd G sh mT J S cs → Post (some (.int (Int32.ofInt v))) cs)  (hw : wX11_classNamed_6 l1 l2 l3 l4 S K ) : Z (RX11, cX11_classNamed, 5, some .int, false) G d Post 6 [(0, .ref (G.1 + 54)), (1, .int (Int32.ofInt (l1))), (2, .int (Int32.ofInt (l2))), (3, .int (Int32.ofInt (l3))), (4, .int (Int32.ofInt (l4)))] [] cs := by
  unfold wX11_classNamed_6 at hw
  obtain ⟨Iv, mu, h0, hs⟩ := hw
  have key : ∀ (n : Nat) (l1 l2 l3 l4 : Int) (S : St) (cs : List va_E), mu l1 l2 l3 l4 S < n → Iv l1 l2 l3 l4 S → Wd G sh mT J S cs → Z (RX11, cX11_classNamed, 5, some .int, false) G d Post 6 [(0, .ref (G.1 + 54)), (1, .int (Int32.ofInt (l1))), (2, .int (Int32.ofInt (l2))), (3, .int (Int32.ofInt (l3))), (4, .int (Int32.ofInt (l4)))] [] cs := by
    intro n
    induction n with
    | zero => intro l1 l2 l3 l4 S cs hn; exact absurd hn (Nat.not_lt_zero _)
    | succ n ih =>
      intro l1 l2 l3 l4 S cs hn hI hW
      exact bX11_classNamed_6' hd hJ hT hW hP  (fun l1 l2 l3 l4 S cs hb hW => ih l1 l2 l3 l4 S cs (Nat.lt_of_lt_of_le hb.2 (Nat.le_of_lt_succ hn)) hb.1 hW) (hs l1 l2 l3 l4 S hI)
  exact key _ _ _ _ _ _ _ (Nat.lt_succ_self _) h0 hW
def wX11_classNamed (a1 a2 : Int) (S : St) (K : Int → St → Prop) : Prop := rng a1 → rng a2 → wX11_classNamed_6 (a1) (a2) ((-2)) (0) S K
set_option maxRecDepth 100000 in
set_option maxHeartbeats 4000000 in
theorem lX11_classNamed {G : xG} {sh : Nat → Option Sh} {J : St → List va_E → Prop} {a1 a2 : Int} {S : St} {cs : List va_E} {K : Int → St → Prop} (d : Nat) (hd : 2 ≤ d) (hJ : Stb sh J) (hT : isM sh) (hW : Wd G sh mT J S cs) (g1 : rng a1) (g2 : rng a2) (hw : wX11_classNamed a1 a2 S K) : X G yX11_classNamed cX11_classNamed 5 (some .int) d [.ref (G.1 + 54), .int (Int32.ofInt a1), .int (Int32.ofInt a2)] cs (qI G sh mT J K) := by
  refine X.of false (by decide +kernel) (by decide) (Nat.le_of_ble_eq_true rfl) ?_
  show Z (RX11, cX11_classNamed, 5, some .int, false) G d _ 0 [(0, .ref (G.1 + 54)), (1, .int (Int32.ofInt a1)), (2, .int (Int32.ofInt a2))] [] cs
  have hP : ∀ (v : Int) (S : St) (cs : List va_E), K v S → Wd G sh mT J S cs → qI G sh mT J K (some (.int (Int32.ofInt v))) cs := fun v S cs a b => ⟨v, S, rfl, a, b⟩
  unfold wX11_classNamed at hw
  have hw := hw g1 g2
  refine z_bipush (v := Int32.ofInt (-2)) dX11_classNamed_0 (by decide) ?_
  refine z_istore_n dX11_classNamed_2 rfl (by decide) ?_
  refine z_loc (L' := [(0, .ref (G.1 + 54)), (1, .int (Int32.ofInt (a1))), (2, .int (Int32.ofInt (a2))), (3, .int (Int32.ofInt ((-2))))]) (List.forall_mem_cons.mpr ⟨rfl, (List.forall_mem_cons.mpr ⟨rfl, (List.forall_mem_cons.mpr ⟨rfl, (List.forall_mem_cons.mpr ⟨rfl, (fun _ h => nomatch h)⟩)⟩)⟩)⟩) ?_
  refine z_iconst (v := Int32.ofInt 0) dX11_classNamed_3 rfl ?_
  refine z_istore dX11_classNamed_4 (by decide) ?_
  refine z_loc (L' := [(0, .ref (G.1 + 54)), (1, .int (Int32.ofInt (a1))), (2, .int (Int32.ofInt (a2))), (3, .int (Int32.ofInt ((-2)))), (4, .int (Int32.ofInt (0)))]) (List.forall_mem_cons.mpr ⟨rfl, (List.forall_mem_cons.mpr ⟨rfl, (List.forall_mem_cons.mpr ⟨rfl, (List.forall_mem_cons.mpr ⟨rfl, (List.forall_mem_cons.mpr ⟨rfl, (fun _ h => nomatch h)⟩)⟩)⟩)⟩)⟩) ?_
  refine z_loc (L' := [(0, .ref (G.1 + 54)), (1, .int (Int32.ofInt (a1))), (2, .int (Int32.ofInt (a2))), (3, .int (Int32.ofInt ((-2)))), (4, .int (Int32.ofInt (0)))]) (List.forall_mem_cons.mpr ⟨rfl, (List.forall_mem_cons.mpr ⟨rfl, (List.forall_mem_cons.mpr ⟨rfl, (List.forall_mem_cons.mpr ⟨rfl, (List.forall_mem_cons.mpr ⟨rfl, (fun _ h => nomatch h)⟩)⟩)⟩)⟩)⟩) ?_
  exact bX11_classNamed_6 hd hJ hT hW hP  hw

