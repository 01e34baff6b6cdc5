def wX11_classOfValue_109 (l1 l3 s0 : Int) (S : St) (K : Int → St → Prop) (B5 : Int → Int → Int → St → Prop) : Prop := B5 (l1) (s0) ((l3 + 1)) S
set_option maxRecDepth 100000 in
set_option maxHeartbeats 4000000 in
theorem bX11_classOfValue_109 {G : xG} {sh : Nat → Option Sh} {J : St → List va_E → Prop} {d : Nat} {Post : xP} {l1 l3 s0 : Int} {S : St} {cs : List va_E} {K : Int → St → Prop} {B5 : Int → Int → Int → St → Prop} (hd : 1 ≤ d) (hJ : Stb sh J) (hT : isM sh) (hW : Wd G sh mT J S cs) (hP : ∀ (v : Int) (S : St) (cs : List va_E), K v S → Wd G sh mT J S cs → Post (some (.int (Int32.ofInt v))) cs) (hB5 : ∀ (l1 : Int) (l2 : Int) (l3 : Int) (S : St) (cs : List va_E), B5 l1 l2 l3 S → Wd G sh mT J S cs → Z (RX11, cX11_classOfValue, 6, some .int, false) G d Post 5 [(0, .ref (G.1 + 54)), (1, .int (Int32.ofInt (l1))), (2, .int (Int32.ofInt (l2))), (3, .int (Int32.ofInt (l3)))] [] cs) (hw : wX11_classOfValue_109 l1 l3 s0 S K B5) : Z (RX11, cX11_classOfValue, 6, some .int, false) G d Post 109 [(0, .ref (G.1 + 54)), (1, .int (Int32.ofInt (l1))), (3, .int (Int32.ofInt (l3)))] [.int (Int32.ofInt (s0))] cs := by
  unfold wX11_classOfValue_109 at hw
  refine z_istore_n dX11_classOfValue_109 rfl (by decide) ?_
  refine z_loc (L' := [(0, .ref (G.1 + 54)), (1, .int (Int32.ofInt (l1))), (2, .int (Int32.ofInt (s0))), (3, .int (Int32.ofInt (l3)))]) (List.forall_mem_cons.mpr ⟨rfl, (List.forall_mem_cons.mpr ⟨rfl, (List.forall_mem_cons.mpr ⟨rfl, (List.forall_mem_cons.mpr ⟨rfl, (fun _ h => nomatch h)⟩)⟩)⟩)⟩) ?_
  refine i_iinc (l := l3) dX11_classOfValue_110 rfl (by decide) ?_
  refine z_loc (L' := [(0, .ref (G.1 + 54)), (1, .int (Int32.ofInt (l1))), (2, .int (Int32.ofInt (s0))), (3, .int (Int32.ofInt ((l3 + 1))))]) (List.forall_mem_cons.mpr ⟨rfl, (List.forall_mem_cons.mpr ⟨rfl, (List.forall_mem_cons.mpr ⟨rfl, (List.forall_mem_cons.mpr ⟨rfl, (fun _ h => nomatch h)⟩)⟩)⟩)⟩) ?_
  refine z_goto (tgt := 5) dX11_classOfValue_113 (by decide) ?_
  refine z_loc (L' := [(0, .ref (G.1 + 54)), (1, .int (Int32.ofInt (l1))), (2, .int (Int32.ofInt (s0))), (3, .int (Int32.ofInt ((l3 + 1))))]) (List.forall_mem_cons.mpr ⟨rfl, (List.forall_mem_cons.mpr ⟨rfl, (List.forall_mem_cons.mpr ⟨rfl, (List.forall_mem_cons.mpr ⟨rfl, (fun _ h => nomatch h)⟩)⟩)⟩)⟩) ?_
  exact hB5 _ _ _ _ _ hw hW
def wX11_classOfValue_99 (l1 l2 l3 l4 : Int) (S : St) (K : Int → St → Prop) (B5 : Int → Int → Int → St → Prop) : Prop := (rng (l4) ∧ ((l4 = 0 → wX11_classOfValue_109 (l1) (l3) (l2) S K B5) ∧ ((¬ (l4 = 0)) → wX11_classOfValue_109 (l1) (l3) (l3) S K B5)))
set_option maxRecDepth 100000 in
set_option maxHeartbeats 4000000 in
theorem bX11_classOfValue_99 {G : xG} {sh : Nat → Option Sh} {J : St → List va_E → Prop} {d : Nat} {Post : xP} {l1 l2 l3 l4 : Int} {S : St} {cs : List va_E} {K : Int → St → Prop} {B5 : Int → Int → Int → St → Prop} (hd : 1 ≤ d) (hJ : Stb sh J) (hT : isM sh) (hW : Wd G sh mT J S cs) (hP : ∀ (v : Int) (S : St) (cs : List va_E), K v S → Wd G sh mT J S cs → Post (some (.int (Int32.ofInt v))) cs) (hB5 : ∀ (l1 : Int) (l2 : Int) (l3 : Int) (S : St) (cs : List va_E), B5 l1 l2 l3 S → Wd G sh mT J S cs → Z (RX11, cX11_classOfValue, 6, some .int, false) G d Post 5 [(0, .ref (G.1 + 54)), (1, .int (Int32.ofInt (l1))), (2, .int (Int32.ofInt (l2))), (3, .int (Int32.ofInt (l3)))] [] cs) (hw : wX11_classOfValue_99 l1 l2 l3 l4 S K B5) : Z (RX11, cX11_classOfValue, 6, some .int, false) G d Post 99 [(0, .ref (G.1 + 54)), (1, .int (Int32.ofInt (l1))), (2, .int (Int32.ofInt (l2))), (3, .int (Int32.ofInt (l3))), (4, .int (Int32.ofInt (l4)))] [] cs := by
  unfold wX11_classOfValue_99 at hw
  refine z_iload dX11_classOfValue_99 rfl ?_
  obtain ⟨q2, hw⟩ := hw
  refine i_if_eq (tgt := 108) dX11_classOfValue_101 (by decide) q2 (fun h1 => ?_) (fun h1 => ?_)
  · have hw := hw.1 h1
    refine z_iload_n dX11_classOfValue_108 rfl rfl ?_
    refine z_loc (L' := [(0, .ref (G.1 + 54)), (1, .int (Int32.ofInt (l1))), (3, .int (Int32.ofInt (l3)))]) (List.forall_mem_cons.mpr ⟨rfl, (List.forall_mem_cons.mpr ⟨rfl, (List.forall_mem_cons.mpr ⟨rfl, (fun _ h => nomatch h)⟩)⟩)⟩) ?_
    exact bX11_classOfValue_109 hd hJ hT hW hP hB5 hw
  · have hw := hw.2 h1
    refine z_iload_n dX11_classOfValue_104 rfl rfl ?_
    refine z_goto (tgt := 109) dX11_classOfValue_105 (by decide) ?_
    refine z_loc (L' := [(0, .ref (G.1 + 54)), (1, .int (Int32.ofInt (l1))), (3, .int (Int32.ofInt (l3)))]) (List.forall_mem_cons.mpr ⟨rfl, (List.forall_mem_cons.mpr ⟨rfl, (List.forall_mem_cons.mpr ⟨rfl, (fun _ h => nomatch h)⟩)⟩)⟩) ?_
    exact bX11_classOfValue_109 hd hJ hT hW hP hB5 hw
def wX11_classOfValue_91 (l1 l2 l3 l5 s0 : Int) (S : St) (K : Int → St → Prop) (B5 : Int → Int → Int → St → Prop) (B46 : Int → Int → Int → Int → Int → St → Prop) : Prop := B46 (l1) (l2) (l3) (s0) ((l5 + 1)) S
set_option maxRecDepth 100000 in
set_option maxHeartbeats 4000000 in
theorem bX11_classOfValue_91 {G : xG} {sh : Nat → Option Sh} {J : St → List va_E → Prop} {d : Nat} {Post : xP} {l1 l2 l3 l5 s0 : Int} {S : St} {cs : List va_E} {K : Int → St → Prop} {B5 : Int → Int → Int → St → Prop} {B46 : Int → Int → Int → Int → Int → St → Prop} (hd : 1 ≤ d) (hJ : Stb sh J) (hT : isM sh) (hW : Wd G sh mT J S cs) (hP : ∀ (v : Int) (S : St) (cs : List va_E), K v S → Wd G sh mT J S cs → Post (some (.int (Int32.ofInt v))) cs) (hB5 : ∀ (l1 : Int) (l2 : Int) (l3 : Int) (S : St) (cs : List va_E), B5 l1 l2 l3 S → Wd G sh mT J S cs → Z (RX11, cX11_classOfValue, 6, some .int, false) G d Post 5 [(0, .ref (G.1 + 54)), (1, .int (Int32.ofInt (l1))), (2, .int (Int32.ofInt (l2))), (3, .int (Int32.ofInt (l3)))] [] cs) (hB46 : ∀ (l1 : Int) (l2 : Int) (l3 : Int) (l4 : Int) (l5 : Int) (S : St) (cs : List va_E), B46 l1 l2 l3 l4 l5 S → Wd G sh mT J S cs → Z (RX11, cX11_classOfValue, 6, some .int, false) G d Post 46 [(0, .ref (G.1 + 54)), (1, .int (Int32.ofInt (l1))), (2, .int (Int32.ofInt (l2))), (3, .int (Int32.ofInt (l3))), (4, .int (Int32.ofInt (l4))), (5, .int (Int32.ofInt (l5)))] [] cs) (hw : wX11_classOfValue_91 l1 l2 l3 l5 s0 S K B5 B46) : Z (RX11, cX11_classOfValue, 6, some .int, false) G d Post 91 [(0, .ref (G.1 + 54)), (1, .int (Int32.ofInt (l1))), (2, .int (Int32.ofInt (l2))), (3, .int (Int32.ofInt (l3))), (5, .int (Int32.ofInt (l5)))] [.int (Int32.ofInt (s0))] cs := by
  unfold wX11_classOfValue_91 at hw
  refine z_istore dX11_classOfValue_91 (by decide) ?_
  refine z_loc (L' := [(0, .ref (G.1 + 54)), (1, .int (Int32.ofInt (l1))), (2, .int (Int32.ofInt (l2))), (3, .int (Int32.ofInt (l3))), (4, .int (Int32.ofInt (s0))), (5, .int (Int32.ofInt (l5)))]) (List.forall_mem_cons.mpr ⟨rfl, (List.forall_mem_cons.mpr ⟨rfl, (List.forall_mem_cons.mpr ⟨rfl, (List.forall_mem_cons.mpr ⟨rfl, (List.forall_mem_cons.mpr ⟨rfl, (List.forall_mem_cons.mpr ⟨rfl, (fun _ h => nomatch h)⟩)⟩)⟩)⟩)⟩)⟩) ?_
  refine i_iinc (l := l5) dX11_classOfValue_93 rfl (by decide) ?_
  refine z_loc (L' := [(0, .ref (G.1 + 54)), (1, .int (Int32.ofInt (l1))), (2, .int (Int32.ofInt (l2))), (3, .int (Int32.ofInt (l3))), (4, .int (Int32.ofInt (s0))), (5, .int (Int32.ofInt ((l5 + 1))))]) (List.forall_mem_cons.mpr ⟨rfl, (List.forall_mem_cons.mpr ⟨rfl, (List.forall_mem_cons.mpr ⟨rfl, (List.forall_mem_cons.mpr ⟨rfl, (List.forall_mem_cons.mpr ⟨rfl, (List.forall_mem_cons.mpr ⟨rfl, (fun _ h => nomatch h)⟩)⟩)⟩)⟩)⟩)⟩) ?_
  refine z_goto (tgt := 46) dX11_classOfValue_96 (by decide) ?_
  refine z_loc (L' := [(0, .ref (G.1 + 54)), (1, .int (Int32.ofInt (l1))), (2, .int (Int32.ofInt (l2))), (3, .int (Int32.ofInt (l3))), (4, .int (Int32.ofInt (s0))), (5, .int (Int32.ofInt ((l5 + 1))))]) (List.forall_mem_cons.mpr ⟨rfl, (List.forall_mem_cons.mpr ⟨rfl, (List.forall_mem_cons.mpr ⟨rfl, (List.forall_mem_cons.mpr ⟨rfl, (List.forall_mem_cons.mpr ⟨rfl, (List.forall_mem_cons.mpr ⟨rfl, (fun _ h => nomatch h)⟩)⟩)⟩)⟩)⟩)⟩) ?_
  exact hB46 _ _ _ _ _ _ _ hw hW
def wX11_classOfValue_46' (l1 l2 l3 l4 l5 : Int) (S : St) (K : Int → St → Prop) (B5 : Int → Int → Int → St → Prop) (B46 : Int → Int → Int → Int → Int → St → Prop) : Prop := ((0 : Int) ≤ l1 ∧ l1 < (600 : Int) ∧ (iv 0 3000 (S.2 95 (l1)) → (rng (l5) ∧ ((S.2 95 (l1) ≤ l5 → wX11_classOfValue_99 (l1) (l2) (l3) (l4) S K B5) ∧ ((¬ (S.2 95 (l1) ≤ l5)) → (rng (l4) ∧ ((l4 = 0 → wX11_classOfValue_99 (l1) (l2) (l3) (l4) S K B5) ∧ ((¬ (l4 = 0)) → ((0 : Int) ≤ l1 ∧ l1 < (600 : Int) ∧ (iv 0 3000 (S.2 94 (l1)) → ((0 : Int) ≤ (S.2 94 (l1) + l5) ∧ (S.2 94 (l1) + l5) < (3000 : Int) ∧ (iv (-2147483648) 2147483647 (S.2 96 ((S.2 94 (l1) + l5))) → (rng (l3) ∧ (wX11_writtenSign (l3) (l5) S (fun r12 S13 => (rng (r12) ∧ ((¬ S.2 96 ((S.2 94 (l1) + l5)) = r12 → wX11_classOfValue_91 (l1) (l2) (l3) (l5) (0) S13 K B5 B46) ∧ ((¬ (¬ S.2 96 ((S.2 94 (l1) + l5)) = r12)) → wX11_classOfValue_91 (l1) (l2) (l3) (l5) (1) S13 K B5 B46))))))))))))))))))
set_option maxRecDepth 100000 in
set_option maxHeartbeats 4000000 in
theorem bX11_classOfValue_46' {G : xG} {sh : Nat → Option Sh} {J : St → List va_E → Prop} {d : Nat} {Post : xP} {l1 l2 l3 l4 l5 : Int} {S : St} {cs : List va_E} {K : Int → St → Prop} {B5 : Int → Int → Int → St → Prop} {B46 : Int → Int → Int → Int → Int → St → Prop} (hd : 1 ≤ d) (hJ : Stb sh J) (hT : isM sh) (hW : Wd G sh mT J S cs) (hP : ∀ (v : Int) (S : St) (cs : List va_E), K v S → Wd G sh mT J S cs → Post (some (.int (Int32.ofInt v))) cs) (hB5 : ∀ (l1 : Int) (l2 : Int) (l3 : Int) (S : St) (cs : List va_E), B5 l1 l2 l3 S → Wd G sh mT J S cs → Z (RX11, cX11_classOfValue, 6, some .int, false) G d Post 5 [(0, .ref (G.1 + 54)), (1, .int (Int32.ofInt (l1))), (2, .int (Int32.ofInt (l2))), (3, .int (Int32.ofInt (l3)))] [] cs) (hB46 : ∀ (l1 : Int) (l2 : Int) (l3 : Int) (l4 : Int) (l5 : Int) (S : St) (cs : List va_E), B46 l1 l2 l3 l4 l5 S → Wd G sh mT J S cs → Z (RX11, cX11_classOfValue, 6, some .int, false) G d Post 46 [(0, .ref (G.1 + 54)), (1, .int (Int32.ofInt (l1))), (2, .int (Int32.ofInt (l2))), (3, .int (Int32.ofInt (l3))), (4, .int (Int32.ofInt (l4))), (5, .int (Int32.ofInt (l5)))] [] cs) (hw : wX11_classOfValue_46' l1 l2 l3 l4 l5 S K B5 B46) : Z (RX11, cX11_classOfValue, 6, some .int, false) G d Post 46 [(0, .ref (G.1 + 54)), (1, .int (Int32.ofInt (l1))), (2, .int (Int32.ofInt (l2))), (3, .int (Int32.ofInt (l3))), (4, .int (Int32.ofInt (l4))), (5, .int (Int32.ofInt (l5)))] [] cs := by
  unfold wX11_classOfValue_46' at hw
  refine z_iload dX11_classOfValue_46 rfl ?_
  refine z_aload_n dX11_classOfValue_48 rfl rfl ?_
  refine g_getR hW hT.1 mr55 kX11 fX11_135 dX11_classOfValue_49 ?_
  refine z_iload_n dX11_classOfValue_52 rfl rfl ?_
  obtain ⟨q1a, q1b, hw⟩ := hw
  have q2 : iv 0 3000 (S.2 95 (l1)) := mA95 hW _
  have hw := hw q2
  refine g_iald hW (ma95 hT) q1a q1b (by decide) dX11_classOfValue_53 ?_
  obtain ⟨q4, hw⟩ := hw
  refine i_icmp_ge (tgt := 99) dX11_classOfValue_54 (by decide) q4 (rngq q2 (by decide) (by decide)) (fun h3 => ?_) (fun h3 => ?_)
  · have hw := hw.1 h3
    refine z_loc (L' := [(0, .ref (G.1 + 54)), (1, .int (Int32.ofInt (l1))), (2, .int (Int32.ofInt (l2))), (3, .int (Int32.ofInt (l3))), (4, .int (Int32.ofInt (l4)))]) (List.forall_mem_cons.mpr ⟨rfl, (List.forall_mem_cons.mpr ⟨rfl, (List.forall_mem_cons.mpr ⟨rfl, (List.forall_mem_cons.mpr ⟨rfl, (List.forall_mem_cons.mpr ⟨rfl, (fun _ h => nomatch h)⟩)⟩)⟩)⟩)⟩) ?_
    exact bX11_classOfValue_99 hd hJ hT hW hP hB5 hw
  · have hw := hw.2 h3
    refine z_iload dX11_classOfValue_57 rfl ?_
    obtain ⟨q6, hw⟩ := hw
    refine i_if_eq (tgt := 99) dX11_classOfValue_59 (by decide) q6 (fun h5 => ?_) (fun h5 => ?_)
    · have hw := hw.1 h5
      refine z_loc (L' := [(0, .ref (G.1 + 54)), (1, .int (Int32.ofInt (l1))), (2, .int (Int32.ofInt (l2))), (3, .int (Int32.ofInt (l3))), (4, .int (Int32.ofInt (l4)))]) (List.forall_mem_cons.mpr ⟨rfl, (List.forall_mem_cons.mpr ⟨rfl, (List.forall_mem_cons.mpr ⟨rfl, (List.forall_mem_cons.mpr ⟨rfl, (List.forall_mem_cons.mpr ⟨rfl, (fun _ h => nomatch h)⟩)⟩)⟩)⟩)⟩) ?_
      exact bX11_classOfValue_99 hd hJ hT hW hP hB5 hw
    · have hw := hw.2 h5
      refine z_aload_n dX11_classOfValue_62 rfl rfl ?_
      refine g_getR hW hT.1 mr57 kX11 fX11_138 dX11_classOfValue_63 ?_
      refine z_aload_n dX11_classOfValue_66 rfl rfl ?_
      refine g_getR hW hT.1 mr54 kX11 fX11_132 dX11_classOfValue_67 ?_
      refine z_iload_n dX11_classOfValue_70 rfl rfl ?_
      obtain ⟨q7a, q7b, hw⟩ := hw
      have q8 : iv 0 3000 (S.2 94 (l1)) := mA94 hW _
      have hw := hw q8
      refine g_iald hW (ma94 hT) q7a q7b (by decide) dX11_classOfValue_71 ?_
      refine z_iload dX11_classOfValue_72 rfl ?_
      refine i_iadd dX11_classOfValue_74 ?_
      obtain ⟨q9a, q9b, hw⟩ := hw
      have q10 : iv (-2147483648) 2147483647 (S.2 96 ((S.2 94 (l1) + l5))) := mA96 hW _
      have hw := hw q10
      refine g_iald hW (ma96 hT) q9a q9b (by decide) dX11_classOfValue_75 ?_
      refine z_aload_n dX11_classOfValue_76 rfl rfl ?_
      refine z_iload_n dX11_classOfValue_77 rfl rfl ?_
      refine z_iload dX11_classOfValue_78 rfl ?_
      obtain ⟨q11, hw⟩ := hw
      have hX := lX11_writtenSign 0 (Nat.le_refl _) hJ hT hW q11 q4 hw
      refine z_callV (As := [_, _]) eX11_writtenSign sX11_writtenSign lX11_411 rfl dX11_classOfValue_80 (hW.1 _ _ hT.1) hX (Nat.le_trans (by decide) hd) rfl (Nat.le_of_ble_eq_true rfl) (fun r cs hp => ?_)
      obtain ⟨r12, S13, rfl, hw, hW⟩ := hp
      refine z_st (st' := [.int (Int32.ofInt (r12)), .int (Int32.ofInt (S.2 96 ((S.2 94 (l1) + l5))))]) rfl ?_
      obtain ⟨q15, hw⟩ := hw
      refine i_icmp_ne (tgt := 90) dX11_classOfValue_83 (by decide) (rngq q10 (by decide) (by decide)) q15 (fun h14 => ?_) (fun h14 => ?_)
      · have hw := hw.1 h14
        refine z_iconst (v := Int32.ofInt 0) dX11_classOfValue_90 rfl ?_
        refine z_loc (L' := [(0, .ref (G.1 + 54)), (1, .int (Int32.ofInt (l1))), (2, .int (Int32.ofInt (l2))), (3, .int (Int32.ofInt (l3))), (5, .int (Int32.ofInt (l5)))]) (List.forall_mem_cons.mpr ⟨rfl, (List.forall_mem_cons.mpr ⟨rfl, (List.forall_mem_cons.mpr ⟨rfl, (List.forall_mem_cons.mpr ⟨rfl, (List.forall_mem_cons.mpr ⟨rfl, (fun _ h => nomatch h)⟩)⟩)⟩)⟩)⟩) ?_
        exact bX11_classOfValue_91 hd hJ hT hW hP hB5 hB46 hw
      · have hw := hw.2 h14
        refine z_iconst (v := Int32.ofInt 1) dX11_classOfValue_86 rfl ?_
        refine z_goto (tgt := 91) dX11_classOfValue_87 (by decide) ?_
        refine z_loc (L' := [(0, .ref (G.1 + 54)), (1, .int (Int32.ofInt (l1))), (2, .int (Int32.ofInt (l2))), (3, .int (Int32.ofInt (l3))), (5, .int (Int32.ofInt (l5)))]) (List.forall_mem_cons.mpr ⟨rfl, (List.forall_mem_cons.mpr ⟨rfl, (List.forall_mem_cons.mpr ⟨rfl, (List.forall_mem_cons.mpr ⟨rfl, (List.forall_mem_cons.mpr ⟨rfl, (fun _ h => nomatch h)⟩)⟩)⟩)⟩)⟩) ?_
        exact bX11_classOfValue_91 hd hJ hT hW hP hB5 hB46 hw
def wX11_classOfValue_46 (l1 l2 l3 l4 l5 : Int) (S : St) (K : Int → St → Prop) (B5 : Int → Int → Int → St → Prop) : Prop := ∃ (Iv : Int → Int → Int → Int → Int → St → Prop) (mu : Int → Int → Int → Int → Int → St → Nat), Iv l1 l2 l3 l4 l5 S ∧ ∀ (l1 l2 l3 l4 l5 : Int) (S : St), Iv l1 l2 l3 l4 l5 S → wX11_classOfValue_46' l1 l2 l3 l4 l5 S K B5 (fun ml1 ml2 ml3 ml4 ml5 T => Iv ml1 ml2 ml3 ml4 ml5 T ∧ mu ml1 ml2 ml3 ml4 ml5 T < mu l1 l2 l3 l4 l5 S)
set_option maxRecDepth 100000 in
set_option maxHeartbeats 4000000 in
theorem bX11_classOfValue_46 {G : xG} {sh : Nat → Option Sh} {J : St → List va_E → Prop} {d : Nat} {Post : xP} {l1 l2 l3 l4 l5 : Int} {S : St} {cs : List va_E} {K : Int → St → Prop} {B5 : Int → Int → Int → St → Prop} (hd : 1 ≤ d) (hJ : Stb sh J) (hT : isM sh) (hW : Wd G sh mT J S cs) (hP : ∀ (v : Int) (S : St) (cs : List va_E), K v S → Wd G sh mT J S cs → Post (some (.int (Int32.ofInt v))) cs) (hB5 : ∀ (l1 : Int) (l2 : Int) (l3 : Int) (S : St) (cs : List va_E), B5 l1 l2 l3 S → Wd G sh mT J S cs → Z (RX11, cX11_classOfValue, 6, some .int, false) G d Post 5 [(0, .ref (G.1 + 54)), (1, .int (Int32.ofInt (l1))), (2, .int (Int32.ofInt (l2))), (3, .int (Int32.ofInt (l3)))] [] cs) (hw : wX11_classOfValue_46 l1 l2 l3 l4 l5 S K B5) : Z (RX11, cX11_classOfValue, 6, some .int, false) G d Post 46 [(0, .ref (G.1 + 54)), (1, .int (Int32.ofInt (l1))), (2, .int (Int32.ofInt (l2))), (3, .int (Int32.ofInt (l3))), (4, .int (Int32.ofInt (l4))), (5, .int (Int32.ofInt (l5)))] [] cs := by
  unfold wX11_classOfValue_46 at hw
  obtain ⟨Iv, mu, h0, hs⟩ := hw
  have key : ∀ (n : Nat) (l1 l2 l3 l4 l5 : Int) (S : St) (cs : List va_E), mu l1 l2 l3 l4 l5 S < n → Iv l1 l2 l3 l4 l5 S → Wd G sh mT J S cs → Z (RX11, cX11_classOfValue, 6, some .int, false) G d Post 46 [(0, .ref (G.1 + 54)), (1, .int (Int32.ofInt (l1))), (2, .int (Int32.ofInt (l2))), (3, .int (Int32.ofInt (l3))), (4, .int (Int32.ofInt (l4))), (5, .int (Int32.ofInt (l5)))] [] cs := by
    intro n
    induction n with
    | zero => intro l1 l2 l3 l4 l5 S cs hn; exact absurd hn (Nat.not_lt_zero _)
    | succ n ih =>
      intro l1 l2 l3 l4 l5 S cs hn hI hW
      exact bX11_classOfValue_46' hd hJ hT hW hP hB5 (fun l1 l2 l3 l4 l5 S cs hb hW => ih l1 l2 l3 l4 l5 S cs (Nat.lt_of_lt_of_le hb.2 (Nat.le_of_lt_succ hn)) hb.1 hW) (hs l1 l2 l3 l4 l5 S hI)
  exact key _ _ _ _ _ _ _ _ (Nat.lt_succ_self _) h0 hW
def wX11_classOfValue_41 (l1 l2 l3 s0 : Int) (S : St) (K : Int → St → Prop) (B5 : Int → Int → Int → St → Prop) : Prop := wX11_classOfValue_46 (l1) (l2) (l3) (s0) (0) S K B5
set_option maxRecDepth 100000 in
set_option maxHeartbeats 4000000 in
theorem bX11_classOfValue_41 {G : xG} {sh : Nat → Option Sh} {J : St → List va_E → Prop} {d : Nat} {Post : xP} {l1 l2 l3 s0 : Int} {S : St} {cs : List va_E} {K : Int → St → Prop} {B5 : Int → Int → Int → St → Prop} (hd : 1 ≤ d) (hJ : Stb sh J) (hT : isM sh) (hW : Wd G sh mT J S cs) (hP : ∀ (v : Int) (S : St) (cs : List va_E), K v S → Wd G sh mT J S cs → Post (some (.int (Int32.ofInt v))) cs) (hB5 : ∀ (l1 : Int) (l2 : Int) (l3 : Int) (S : St) (cs : List va_E), B5 l1 l2 l3 S → Wd G sh mT J S cs → Z (RX11, cX11_classOfValue, 6, some .int, false) G d Post 5 [(0, .ref (G.1 + 54)), (1, .int (Int32.ofInt (l1))), (2, .int (Int32.ofInt (l2))), (3, .int (Int32.ofInt (l3)))] [] cs) (hw : wX11_classOfValue_41 l1 l2 l3 s0 S K B5) : Z (RX11, cX11_classOfValue, 6, some .int, false) G d Post 41 [(0, .ref (G.1 + 54)), (1, .int (Int32.ofInt (l1))), (2, .int (Int32.ofInt (l2))), (3, .int (Int32.ofInt (l3)))] [.int (Int32.ofInt (s0))] cs := by
  unfold wX11_classOfValue_41 at hw
  refine z_istore dX11_classOfValue_41 (by decide) ?_
  refine z_loc (L' := [(0, .ref (G.1 + 54)), (1, .int (Int32.ofInt (l1))), (2, .int (Int32.ofInt (l2))), (3, .int (Int32.ofInt (l3))), (4, .int (Int32.ofInt (s0)))]) (List.forall_mem_cons.mpr ⟨rfl, (List.forall_mem_cons.mpr ⟨rfl, (List.forall_mem_cons.mpr ⟨rfl, (List.forall_mem_cons.mpr ⟨rfl, (List.forall_mem_cons.mpr ⟨rfl, (fun _ h => nomatch h)⟩)⟩)⟩)⟩)⟩) ?_
  refine z_iconst (v := Int32.ofInt 0) dX11_classOfValue_43 rfl ?_
  refine z_istore dX11_classOfValue_44 (by decide) ?_
  refine z_loc (L' := [(0, .ref (G.1 + 54)), (1, .int (Int32.ofInt (l1))), (2, .int (Int32.ofInt (l2))), (3, .int (Int32.ofInt (l3))), (4, .int (Int32.ofInt (s0))), (5, .int (Int32.ofInt (0)))]) (List.forall_mem_cons.mpr ⟨rfl, (List.forall_mem_cons.mpr ⟨rfl, (List.forall_mem_cons.mpr ⟨rfl, (List.forall_mem_cons.mpr ⟨rfl, (List.forall_mem_cons.mpr ⟨rfl, (List.forall_mem_cons.mpr ⟨rfl, (fun _ h => nomatch h)⟩)⟩)⟩)⟩)⟩)⟩) ?_
  refine z_loc (L' := [(0, .ref (G.1 + 54)), (1, .int (Int32.ofInt (l1))), (2, .int (Int32.ofInt (l2))), (3, .int (Int32.ofInt (l3))), (4, .int (Int32.ofInt (s0))), (5, .int (Int32.ofInt (0)))]) (List.forall_mem_cons.mpr ⟨rfl, (List.forall_mem_cons.mpr ⟨rfl, (List.forall_mem_cons.mpr ⟨rfl, (List.forall_mem_cons.mpr ⟨rfl, (List.forall_mem_cons.mpr ⟨rfl, (List.forall_mem_cons.mpr ⟨rfl, (fun _ h => nomatch h)⟩)⟩)⟩)⟩)⟩)⟩) ?_
  exact bX11_classOfValue_46 hd hJ hT hW hP hB5 hw
def wX11_classOfValue_40 (l1 l2 l3 : Int) (S : St) (K : Int → St → Prop) (B5 : Int → Int → Int → St → Prop) : Prop := wX11_classOfValue_41 (l1) (l2) (l3) (0) S K B5
set_option maxRecDepth 100000 in
set_option maxHeartbeats 4000000 in
theorem bX11_classOfValue_40 {G : xG} {sh : Nat → Option Sh} {J : St → List va_E → Prop} {d : Nat} {Post : xP} {l1 l2 l3 : Int} {S : St} {cs : List va_E} {K : Int → St → Prop} {B5 : Int → Int → Int → St → Prop} (hd : 1 ≤ d) (hJ : Stb sh J) (hT : isM sh) (hW : Wd G sh mT J S cs) (hP : ∀ (v : Int) (S : St) (cs : List va_E), K v S → Wd G sh mT J S cs → Post (some (.int (Int32.ofInt v))) cs) (hB5 : ∀ (l1 : Int) (l2 : Int) (l3 : Int) (S : St) (cs : List va_E), B5 l1 l2 l3 S → Wd G sh mT J S cs → Z (RX11, cX11_classOfValue, 6, some .int, false) G d Post 5 [(0, .ref (G.1 + 54)), (1, .int (Int32.ofInt (l1))), (2, .int (Int32.ofInt (l2))), (3, .int (Int32.ofInt (l3)))] [] cs) (hw : wX11_classOfValue_40 l1 l2 l3 S K B5) : Z (RX11, cX11_classOfValue, 6, some .int, false) G d Post 40 [(0, .ref (G.1 + 54)), (1, .int (Int32.ofInt (l1))), (2, .int (Int32.ofInt (l2))), (3, .int (Int32.ofInt (l3)))] [] cs := by
  unfold wX11_classOfValue_40 at hw
  refine z_iconst (v := Int32.ofInt 0) dX11_classOfValue_40 rfl ?_
  refine z_loc (L' := [(0, .ref (G.1 + 54)), (1, .int (Int32.ofInt (l1))), (2, .int (Int32.ofInt (l2))), (3, .int (Int32.ofInt (l3)))]) (List.forall_mem_cons.mpr ⟨rfl, (List.forall_mem_cons.mpr ⟨rfl, (List.forall_mem_cons.mpr ⟨rfl, (List.forall_mem_cons.mpr ⟨rfl, (fun _ h => nomatch h)⟩)⟩)⟩)⟩) ?_
  exact bX11_classOfValue_41 hd hJ hT hW hP hB5 hw
def wX11_classOfValue_5' (l1 l2 l3 : Int) (S : St) (K : Int → St → Prop) (B5 : Int → Int → Int → St → Prop) : Prop := (iv 0 6 (S.1 54 2) → (rng (l3) ∧ ((S.1 54 2 ≤ l3 → K (l2) S) ∧ ((¬ (S.1 54 2 ≤ l3)) → ((0 : Int) ≤ l3 ∧ l3 < (6 : Int) ∧ (iv 0 1 (S.2 61 (l3)) → ((¬ S.2 61 (l3) = 0 → wX11_classOfValue_40 (l1) (l2) (l3) S K B5) ∧ ((¬ (¬ S.2 61 (l3) = 0)) → ((0 : Int) ≤ l1 ∧ l1 < (600 : Int) ∧ (iv 0 3000 (S.2 95 (l1)) → (wX11_writtenSign (l3) (S.2 95 (l1)) S (fun r9 S10 => (rng (r9) ∧ ((¬ r9 = 0 → wX11_classOfValue_40 (l1) (l2) (l3) S10 K B5) ∧ ((¬ (¬ r9 = 0)) → wX11_classOfValue_41 (l1) (l2) (l3) (1) S10 K B5)))))))))))))))
set_option maxRecDepth 100000 in
set_option maxHeartbeats 4000000 in
theorem bX11_classOfValue_5' {G : xG} {sh : Nat → Option Sh} {J : St → List va_E → Prop} {d : Nat} {Post : xP} {l1 l2 l3 : Int} {S : St} {cs : List va_E} {K : Int → St → Prop} {B5 : Int → Int → Int → St → Prop} (hd : 1 ≤ d) (hJ : Stb sh J) (hT : isM sh) (hW : Wd G sh mT J S cs) (hP : ∀ (v : Int) (S : St) (cs : List va_E), K v S → Wd G sh mT J S cs → Post (some (.int (Int32.ofInt v))) cs) (hB5 : ∀ (l1 : Int) (l2 : Int) (l3 : Int) (S : St) (cs : List va_E), B5 l1 l2 l3 S → Wd G sh mT J S cs → Z (RX11, cX11_classOfValue, 6, some .int, false) G d Post 5 [(0, .ref (G.1 + 54)), (1, .int (Int32.ofInt (l1))), (2, .int (Int32.ofInt (l2))), (3, .int (Int32.ofInt (l3)))] [] cs) (hw : wX11_classOfValue_5' l1 l2 l3 S K B5) : Z (RX11, cX11_classOfValue, 6, some .int, false) G d Post 5 [(0, .ref (G.1 + 54)), (1, .int (Int32.ofInt (l1))), (2, .int (Int32.ofInt (l2))), (3, .int (Int32.ofInt (l3)))] [] cs := by
  unfold wX11_classOfValue_5' at hw
  refine z_iload_n dX11_classOfValue_5 rfl rfl ?_
  refine z_aload_n dX11_classOfValue_6 rfl rfl ?_
  have q1 : iv 0 6 (S.1 54 2) := mI2 hW
  have hw := hw q1
  refine g_getI hW hT.1 mr2 kX11 fX11_238 dX11_classOfValue_7 ?_
  obtain ⟨q3, hw⟩ := hw
  refine i_icmp_ge (tgt := 116) dX11_classOfValue_10 (by decide) q3 (rngq q1 (by decide) (by decide)) (fun h2 => ?_) (fun h2 => ?_)
  · have hw := hw.1 h2
    refine z_iload_n dX11_classOfValue_116 rfl rfl ?_
    exact z_ireturn dX11_classOfValue_117 rfl rfl (hP _ _ _ hw hW)
  · have hw := hw.2 h2
    refine z_aload_n dX11_classOfValue_13 rfl rfl ?_
    refine g_getR hW hT.1 mr8 kX11 fX11_29 dX11_classOfValue_14 ?_
    refine z_iload_n dX11_classOfValue_17 rfl rfl ?_
    obtain ⟨q4a, q4b, hw⟩ := hw
    have q5 : iv 0 1 (S.2 61 (l3)) := mA61 hW _
    have hw := hw q5
    refine g_zald hW (ma61 hT) q4a q4b (by decide) dX11_classOfValue_18 ?_
    refine i_if_ne (tgt := 40) dX11_classOfValue_19 (by decide) (rngq q5 (by decide) (by decide)) (fun h6 => ?_) (fun h6 => ?_)
    · have hw := hw.1 h6
      refine z_loc (L' := [(0, .ref (G.1 + 54)), (1, .int (Int32.ofInt (l1))), (2, .int (Int32.ofInt (l2))), (3, .int (Int32.ofInt (l3)))]) (List.forall_mem_cons.mpr ⟨rfl, (List.forall_mem_cons.mpr ⟨rfl, (List.forall_mem_cons.mpr ⟨rfl, (List.forall_mem_cons.mpr ⟨rfl, (fun _ h => nomatch h)⟩)⟩)⟩)⟩) ?_
      exact bX11_classOfValue_40 hd hJ hT hW hP hB5 hw
    · have hw := hw.2 h6
      refine z_aload_n dX11_classOfValue_22 rfl rfl ?_
      refine z_iload_n dX11_classOfValue_23 rfl rfl ?_
      refine z_aload_n dX11_classOfValue_24 rfl rfl ?_
      refine g_getR hW hT.1 mr55 kX11 fX11_135 dX11_classOfValue_25 ?_
      refine z_iload_n dX11_classOfValue_28 rfl rfl ?_
      obtain ⟨q7a, q7b, hw⟩ := hw
      have q8 : iv 0 3000 (S.2 95 (l1)) := mA95 hW _
      have hw := hw q8
      refine g_iald hW (ma95 hT) q7a q7b (by decide) dX11_classOfValue_29 ?_
      have hX := lX11_writtenSign 0 (Nat.le_refl _) hJ hT hW q3 (rngq q8 (by decide) (by decide)) hw
      refine z_callV (As := [_, _]) eX11_writtenSign sX11_writtenSign lX11_411 rfl dX11_classOfValue_30 (hW.1 _ _ hT.1) hX (Nat.le_trans (by decide) hd) rfl (Nat.le_of_ble_eq_true rfl) (fun r cs hp => ?_)
      obtain ⟨r9, S10, rfl, hw, hW⟩ := hp
      refine z_st (st' := [.int (Int32.ofInt (r9))]) rfl ?_
      obtain ⟨q12, hw⟩ := hw
      refine i_if_ne (tgt := 40) dX11_classOfValue_33 (by decide) q12 (fun h11 => ?_) (fun h11 => ?_)
      · have hw := hw.1 h11
        refine z_loc (L' := [(0, .ref (G.1 + 54)), (1, .int (Int32.ofInt (l1))), (2, .int (Int32.ofInt (l2))), (3, .int (Int32.ofInt (l3)))]) (List.forall_mem_cons.mpr ⟨rfl, (List.forall_mem_cons.mpr ⟨rfl, (List.forall_mem_cons.mpr ⟨rfl, (List.forall_mem_cons.mpr ⟨rfl, (fun _ h => nomatch h)⟩)⟩)⟩)⟩) ?_
        exact bX11_classOfValue_40 hd hJ hT hW hP hB5 hw
      · have hw := hw.2 h11
        refine z_iconst (v := Int32.ofInt 1) dX11_classOfValue_36 rfl ?_
        refine z_goto (tgt := 41) dX11_classOfValue_37 (by decide) ?_
        refine z_loc (L' := [(0, .ref (G.1 + 54)), (1, .int (Int32.ofInt (l1))), (2, .int (Int32.ofInt (l2))), (3, .int (Int32.ofInt (l3)))]) (List.forall_mem_cons.mpr ⟨rfl, (List.forall_mem_cons.mpr ⟨rfl, (List.forall_mem_cons.mpr ⟨rfl, (List.forall_mem_cons.mpr ⟨rfl, (fun _ h => nomatch h)⟩)⟩)⟩)⟩) ?_
        exact bX11_classOfValue_41 hd hJ hT hW hP hB5 hw
def wX11_classOfValue_5 (l1 l2 l3 : Int) (S : St) (K : Int → St → Prop) : Prop := ∃ (Iv : Int → Int → Int → St → Prop) (mu : Int → Int → Int → St → Nat), Iv l1 l2 l3 S ∧ ∀ (l1 l2 l3 : Int) (S : St), Iv l1 l2 l3 S → wX11_classOfValue_5' l1 l2 l3 S K  (fun ml1 ml2 ml3 T => Iv ml1 ml2 ml3 T ∧ mu ml1 ml2 ml3 T < mu l1 l2 l3 S)
set_option maxRecDepth 100000 in
set_option maxHeartbeats 4000000 in
theorem bX11_classOfValue_5 {G : xG} {sh : Nat → Option Sh} {J : St → List va_E → Prop} {d : Nat} {Post : xP} {l1 l2 l3 : Int} {S : St} {cs : List va_E} {K : Int → St → Prop} (hd : 1 ≤ d) (hJ : Stb sh J) (hT : isM sh) (hW : Wd G sh mT J S cs) (hP : ∀ (v : Int) (S : St) (cs : List va_E), K v S → Wd G sh mT J S cs → Post (some (.int (Int32.ofInt v))) cs)  (hw : wX11_classOfValue_5 l1 l2 l3 S K ) : Z (RX11, cX11_classOfValue, 6, some .int, false) G d Post 5 [(0, .ref (G.1 + 54)), (1, .int (Int32.ofInt (l1))), (2, .int (Int32.ofInt (l2))), (3, .int (Int32.ofInt (l3)))] [] cs := by
  unfold wX11_classOfValue_5 at hw
  obtain ⟨Iv, mu, h0, hs⟩ := hw
  have key : ∀ (n : Nat) (l1 l2 l3 : Int) (S : St) (cs : List va_E), mu l1 l2 l3 S < n → Iv l1 l2 l3 S → Wd G sh mT J S cs → Z (RX11, cX11_classOfValue, 6, some .int, false) G d Post 5 [(0, .ref (G.1 + 54)), (1, .int (Int32.ofInt (l1))), (2, .int (Int32.ofInt (l2))), (3, .int (Int32.ofInt (l3)))] [] cs := by
    intro n
    induction n with
    | zero => intro l1 l2 l3 S cs hn; exact absurd hn (Nat.not_lt_zero _)
    | succ n ih =>
      intro l1 l2 l3 S cs hn hI hW
      exact bX11_classOfValue_5' hd hJ hT hW hP  (fun l1 l2 l3 S cs hb hW => ih l1 l2 l3 S cs (Nat.lt_of_lt_of_le hb.2 (Nat.le_of_lt_succ hn)) hb.1 hW) (hs l1 l2 l3 S hI)
  exact key _ _ _ _ _ _ (Nat.lt_succ_self _) h0 hW
def wX11_classOfValue (a1 : Int) (S : St) (K : Int → St → Prop) : Prop := rng a1 → wX11_classOfValue_5 (a1) ((-2)) (0) S K
set_option maxRecDepth 100000 in
set_option maxHeartbeats 4000000 in
theorem lX11_classOfValue {G : xG} {sh : Nat → Option Sh} {J : St → List va_E → Prop} {a1 : Int} {S : St} {cs : List va_E} {K : Int → St → Prop} (d : Nat) (hd : 1 ≤ d) (hJ : Stb sh J) (hT : isM sh) (hW : Wd G sh mT J S cs) (g1 : rng a1) (hw : wX11_classOfValue a1 S K) : X G yX11_classOfValue cX11_classOfValue 6 (some .int) d [.ref (G.1 + 54), .int (Int32.ofInt a1)] cs (qI G sh mT J K) := by
  refine X.of false (by decide +kernel) (by decide) (Nat.le_of_ble_eq_true rfl) ?_
  show Z (RX11, cX11_classOfValue, 6, some .int, false) G d _ 0 [(0, .ref (G.1 + 54)), (1, .int (Int32.ofInt a1))] [] cs
  have hP : ∀ (v : Int) (S : St) (cs : List va_E), K v S → Wd G sh mT J S cs → qI G sh mT J K (some (.int (Int32.ofInt v))) cs := fun v S cs a b => ⟨v, S, rfl, a, b⟩
  unfold wX11_classOfValue at hw
  have hw := hw g1
  refine z_bipush (v := Int32.ofInt (-2)) dX11_classOfValue_0 (by decide) ?_
  refine z_istore_n dX11_classOfValue_2 rfl (by decide) ?_
  refine z_loc (L' := [(0, .ref (G.1 + 54)), (1, .int (Int32.ofInt (a1))), (2, .int (Int32.ofInt ((-2))))]) (List.forall_mem_cons.mpr ⟨rfl, (List.forall_mem_cons.mpr ⟨rfl, (List.forall_mem_cons.mpr ⟨rfl, (fun _ h => nomatch h)⟩)⟩)⟩) ?_
  refine z_iconst (v := Int32.ofInt 0) dX11_classOfValue_3 rfl ?_
  refine z_istore_n dX11_classOfValue_4 rfl (by decide) ?_
  refine z_loc (L' := [(0, .ref (G.1 + 54)), (1, .int (Int32.ofInt (a1))), (2, .int (Int32.ofInt ((-2)))), (3, .int (Int32.ofInt (0)))]) (List.forall_mem_cons.mpr ⟨rfl, (List.forall_mem_cons.mpr ⟨rfl, (List.forall_mem_cons.mpr ⟨rfl, (List.forall_mem_cons.mpr ⟨rfl, (fun _ h => nomatch h)⟩)⟩)⟩)⟩) ?_
  refine z_loc (L' := [(0, .ref (G.1 + 54)), (1, .int (Int32.ofInt (a1))), (2, .int (Int32.ofInt ((-2)))), (3, .int (Int32.ofInt (0)))]) (List.forall_mem_cons.mpr ⟨rfl, (List.forall_mem_cons.mpr ⟨rfl, (List.forall_mem_cons.mpr ⟨rfl, (List.forall_mem_cons.mpr ⟨rfl, (fun _ h => nomatch h)⟩)⟩)⟩)⟩) ?_
  exact bX11_classOfValue_5 hd hJ hT hW hP  hw

def wX11_isMixed_141 (l1 l2 l3 : Int) (S : St) (K : Int → St → Prop) (B4 : Int → Int → Int → St → Prop) : Prop := B4 (l1) (l2) ((l3 + 1)) S
set_option maxRecDepth 100000 in
set_option maxHeartbeats 4000000 in
theorem bX11_isMixed_141 {G : xG} {sh : Nat → Option Sh} {J : St → List va_E → Prop} {d : Nat} {Post : xP} {l1 l2 l3 : Int} {S : St} {cs : List va_E} {K : Int → St → Prop} {B4 : Int → Int → Int → St → Prop} (hd : 1 ≤ d) (hJ : Stb sh J) (hT : isM sh) (hW : Wd G sh mT J S cs) (hP : ∀ (v : Int) (S : St) (cs : List va_E), K v S → Wd G sh mT J S cs → Post (some (.int (Int32.ofInt v))) cs) (hB4 : ∀ (l1 : Int) (l2 : Int) (l3 : Int) (S : St) (cs : List va_E), B4 l1 l2 l3 S → Wd G sh mT J S cs → Z (RX11, cX11_isMixed, 7, some .boolean, false) G d Post 4 [(0, .ref (G.1 + 54)), (1, .int (Int32.ofInt (l1))), (2, .int (Int32.ofInt (l2))), (3, .int (Int32.ofInt (l3)))] [] cs) (hw : wX11_isMixed_141 l1 l2 l3 S K B4) : Z (RX11, cX11_isMixed, 7, some .boolean, false) G d Post 141 [(0, .ref (G.1 + 54)), (1, .int (Int32.ofInt (l1))), (2, .int (Int32.ofInt (l2))), (3, .int (Int32.ofInt (l3)))] [] cs := by
  unfold wX11_isMixed_141 at hw
  refine i_iinc (l := l3) dX11_isMixed_141 rfl (by decide) ?_
  refine z_loc (L' := [(0, .ref (G.1 + 54)), (1, .int (Int32.ofInt (l1))), (2, .int (Int32.ofInt (l2))), (3, .int (Int32.ofInt ((l3 + 1))))]) (List.forall_mem_cons.mpr ⟨rfl, (List.forall_mem_cons.mpr ⟨rfl, (List.forall_mem_cons.mpr ⟨rfl, (List.forall_mem_cons.mpr ⟨rfl, (fun _ h => nomatch h)⟩)⟩)⟩)⟩) ?_
  refine z_goto (tgt := 4) dX11_isMixed_144 (by decide) ?_
  refine z_loc (L' := [(0, .ref (G.1 + 54)), (1, .int (Int32.ofInt (l1))), (2, .int (Int32.ofInt (l2))), (3, .int (Int32.ofInt ((l3 + 1))))]) (List.forall_mem_cons.mpr ⟨rfl, (List.forall_mem_cons.mpr ⟨rfl, (List.forall_mem_cons.mpr ⟨rfl, (List.forall_mem_cons.mpr ⟨rfl, (fun _ h => nomatch h)⟩)⟩)⟩)⟩) ?_
  exact hB4 _ _ _ _ _ hw hW
def wX11_isMixed_128 (l1 l3 l4 l5 l6 s0 : Int) (S : St) (K : Int → St → Prop) (B4 : Int → Int → Int → St → Prop) (B76 : Int → Int → Int → Int → Int → St → Prop) (B95 : Int → Int → Int → Int → Int → Int → St → Prop) : Prop := B95 (l1) (s0) (l3) (l4) (l5) ((l6 + 1)) S
set_option maxRecDepth 100000 in
set_option maxHeartbeats 4000000 in
theorem bX11_isMixed_128 {G : xG} {sh : Nat → Option Sh} {J : St → List va_E → Prop} {d : Nat} {Post : xP} {l1 l3 l4 l5 l6 s0 : Int} {S : St} {cs : List va_E} {K : Int → St → Prop} {B4 : Int → Int → Int → St → Prop} {B76 : Int → Int → Int → Int → Int → St → Prop} {B95 : Int → Int → Int → Int → Int → Int → St → Prop} (hd : 1 ≤ d) (hJ : Stb sh J) (hT : isM sh) (hW : Wd G sh mT J S cs) (hP : ∀ (v : Int) (S : St) (cs : List va_E), K v S → Wd G sh mT J S cs → Post (some (.int (Int32.ofInt v))) cs) (hB4 : ∀ (l1 : Int) (l2 : Int) (l3 : Int) (S : St) (cs : List va_E), B4 l1 l2 l3 S → Wd G sh mT J S cs → Z (RX11, cX11_isMixed, 7, some .boolean, false) G d Post 4 [(0, .ref (G.1 + 54)), (1, .int (Int32.ofInt (l1))), (2, .int (Int32.ofInt (l2))), (3, .int (Int32.ofInt (l3)))] [] cs) (hB76 : ∀ (l1 : Int) (l2 : Int) (l3 : Int) (l4 : Int) (l5 : Int) (S : St) (cs : List va_E), B76 l1 l2 l3 l4 l5 S → Wd G sh mT J S cs → Z (RX11, cX11_isMixed, 7, some .boolean, false) G d Post 76 [(0, .ref (G.1 + 54)), (1, .int (Int32.ofInt (l1))), (2, .int (Int32.ofInt (l2))), (3, .int (Int32.ofInt (l3))), (4, .int (Int32.ofInt (l4))), (5, .int (Int32.ofInt (l5)))] [] cs) (hB95 : ∀ (l1 : Int) (l2 : Int) (l3 : Int) (l4 : Int) (l5 : Int) (l6 : Int) (S : St) (cs : List va_E), B95 l1 l2 l3 l4 l5 l6 S → Wd G sh mT J S cs → Z (RX11, cX11_isMixed, 7, some .boolean, false) G d Post 95 [(0, .ref (G.1 + 54)), (1, .int (Int32.ofInt (l1))), (2, .int (Int32.ofInt (l2))), (3, .int (Int32.ofInt (l3))), (4, .int (Int32.ofInt (l4))), (5, .int (Int32.ofInt (l5))), (6, .int (Int32.ofInt (l6)))] [] cs) (hw : wX11_isMixed_128 l1 l3 l4 l5 l6 s0 S K B4 B76 B95) : Z (RX11, cX11_isMixed, 7, some .boolean, false) G d Post 128 [(0, .ref (G.1 + 54)), (1, .int (Int32.ofInt (l1))), (3, .int (Int32.ofInt (l3))), (4, .int (Int32.ofInt (l4))), (5, .int (Int32.ofInt (l5))), (6, .int (Int32.ofInt (l6)))] [.int (Int32.ofInt (s0))] cs := by
  unfold wX11_isMixed_128 at hw
  refine z_istore_n dX11_isMixed_128 rfl (by decide) ?_
  refine z_loc (L' := [(0, .ref (G.1 + 54)), (1, .int (Int32.ofInt (l1))), (2, .int (Int32.ofInt (s0))), (3, .int (Int32.ofInt (l3))), (4, .int (Int32.ofInt (l4))), (5, .int (Int32.ofInt (l5))), (6, .int (Int32.ofInt (l6)))]) (List.forall_mem_cons.mpr ⟨rfl, (List.forall_mem_cons.mpr ⟨rfl, (List.forall_mem_cons.mpr ⟨rfl, (List.forall_mem_cons.mpr ⟨rfl, (List.forall_mem_cons.mpr ⟨rfl, (List.forall_mem_cons.mpr ⟨rfl, (List.forall_mem_cons.mpr ⟨rfl, (fun _ h => nomatch h)⟩)⟩)⟩)⟩)⟩)⟩)⟩) ?_
  refine i_iinc (l := l6) dX11_isMixed_129 rfl (by decide) ?_
  refine z_loc (L' := [(0, .ref (G.1 + 54)), (1, .int (Int32.ofInt (l1))), (2, .int (Int32.ofInt (s0))), (3, .int (Int32.ofInt (l3))), (4, .int (Int32.ofInt (l4))), (5, .int (Int32.ofInt (l5))), (6, .int (Int32.ofInt ((l6 + 1))))]) (List.forall_mem_cons.mpr ⟨rfl, (List.forall_mem_cons.mpr ⟨rfl, (List.forall_mem_cons.mpr ⟨rfl, (List.forall_mem_cons.mpr ⟨rfl, (List.forall_mem_cons.mpr ⟨rfl, (List.forall_mem_cons.mpr ⟨rfl, (List.forall_mem_cons.mpr ⟨rfl, (fun _ h => nomatch h)⟩)⟩)⟩)⟩)⟩)⟩)⟩) ?_
  refine z_goto (tgt := 95) dX11_isMixed_132 (by decide) ?_
  refine z_loc (L' := [(0, .ref (G.1 + 54)), (1, .int (Int32.ofInt (l1))), (2, .int (Int32.ofInt (s0))), (3, .int (Int32.ofInt (l3))), (4, .int (Int32.ofInt (l4))), (5, .int (Int32.ofInt (l5))), (6, .int (Int32.ofInt ((l6 + 1))))]) (List.forall_mem_cons.mpr ⟨rfl, (List.forall_mem_cons.mpr ⟨rfl, (List.forall_mem_cons.mpr ⟨rfl, (List.forall_mem_cons.mpr ⟨rfl, (List.forall_mem_cons.mpr ⟨rfl, (List.forall_mem_cons.mpr ⟨rfl, (List.forall_mem_cons.mpr ⟨rfl, (fun _ h => nomatch h)⟩)⟩)⟩)⟩)⟩)⟩)⟩) ?_
  exact hB95 _ _ _ _ _ _ _ _ hw hW
def wX11_isMixed_123 (l1 l3 l4 l5 l6 : Int) (S : St) (K : Int → St → Prop) (B4 : Int → Int → Int → St → Prop) (B76 : Int → Int → Int → Int → Int → St → Prop) (B95 : Int → Int → Int → Int → Int → Int → St → Prop) : Prop := wX11_isMixed_128 (l1) (l3) (l4) (l5) (l6) (1) S K B4 B76 B95
set_option maxRecDepth 100000 in
set_option maxHeartbeats 4000000 in
theorem bX11_isMixed_123 {G : xG} {sh : Nat → Option Sh} {J : St → List va_E → Prop} {d : Nat} {Post : xP} {l1 l3 l4 l5 l6 : Int} {S : St} {cs : List va_E} {K : Int → St → Prop} {B4 : Int → Int → Int → St → Prop} {B76 : Int → Int → Int → Int → Int → St → Prop} {B95 : Int → Int → Int → Int → Int → Int → St → Prop} (hd : 1 ≤ d) (hJ : Stb sh J) (hT : isM sh) (hW : Wd G sh mT J S cs) (hP : ∀ (v : Int) (S : St) (cs : List va_E), K v S → Wd G sh mT J S cs → Post (some (.int (Int32.ofInt v))) cs) (hB4 : ∀ (l1 : Int) (l2 : Int) (l3 : Int) (S : St) (cs : List va_E), B4 l1 l2 l3 S → Wd G sh mT J S cs → Z (RX11, cX11_isMixed, 7, some .boolean, false) G d Post 4 [(0, .ref (G.1 + 54)), (1, .int (Int32.ofInt (l1))), (2, .int (Int32.ofInt (l2))), (3, .int (Int32.ofInt (l3)))] [] cs) (hB76 : ∀ (l1 : Int) (l2 : Int) (l3 : Int) (l4 : Int) (l5 : Int) (S : St) (cs : List va_E), B76 l1 l2 l3 l4 l5 S → Wd G sh mT J S cs → Z (RX11, cX11_isMixed, 7, some .boolean, false) G d Post 76 [(0, .ref (G.1 + 54)), (1, .int (Int32.ofInt (l1))), (2, .int (Int32.ofInt (l2))), (3, .int (Int32.ofInt (l3))), (4, .int (Int32.ofInt (l4))), (5, .int (Int32.ofInt (l5)))] [] cs) (hB95 : ∀ (l1 : Int) (l2 : Int) (l3 : Int) (l4 : Int) (l5 : Int) (l6 : Int) (S : St) (cs : List va_E), B95 l1 l2 l3 l4 l5 l6 S → Wd G sh mT J S cs → Z (RX11, cX11_isMixed, 7, some .boolean, false) G d Post 95 [(0, .ref (G.1 + 54)), (1, .int (Int32.ofInt (l1))), (2, .int (Int32.ofInt (l2))), (3, .int (Int32.ofInt (l3))), (4, .int (Int32.ofInt (l4))), (5, .int (Int32.ofInt (l5))), (6, .int (Int32.ofInt (l6)))] [] cs) (hw : wX11_isMixed_123 l1 l3 l4 l5 l6 S K B4 B76 B95) : Z (RX11, cX11_isMixed, 7, some .boolean, false) G d Post 123 [(0, .ref (G.1 + 54)), (1, .int (Int32.ofInt (l1))), (3, .int (Int32.ofInt (l3))), (4, .int (Int32.ofInt (l4))), (5, .int (Int32.ofInt (l5))), (6, .int (Int32.ofInt (l6)))] [] cs := by
  unfold wX11_isMixed_123 at hw
  refine z_iconst (v := Int32.ofInt 1) dX11_isMixed_123 rfl ?_
  refine z_goto (tgt := 128) dX11_isMixed_124 (by decide) ?_
  refine z_loc (L' := [(0, .ref (G.1 + 54)), (1, .int (Int32.ofInt (l1))), (3, .int (Int32.ofInt (l3))), (4, .int (Int32.ofInt (l4))), (5, .int (Int32.ofInt (l5))), (6, .int (Int32.ofInt (l6)))]) (List.forall_mem_cons.mpr ⟨rfl, (List.forall_mem_cons.mpr ⟨rfl, (List.forall_mem_cons.mpr ⟨rfl, (List.forall_mem_cons.mpr ⟨rfl, (List.forall_mem_cons.mpr ⟨rfl, (List.forall_mem_cons.mpr ⟨rfl, (fun _ h => nomatch h)⟩)⟩)⟩)⟩)⟩)⟩) ?_
  exact bX11_isMixed_128 hd hJ hT hW hP hB4 hB76 hB95 hw
def wX11_isMixed_95' (l1 l2 l3 l4 l5 l6 : Int) (S : St) (K : Int → St → Prop) (B4 : Int → Int → Int → St → Prop) (B76 : Int → Int → Int → Int → Int → St → Prop) (B95 : Int → Int → Int → Int → Int → Int → St → Prop) : Prop := (rng (l6) ∧ (rng (l1) ∧ ((l1 ≤ l6 → B76 (l1) (l2) (l3) (l4) ((l5 + 1)) S) ∧ ((¬ (l1 ≤ l6)) → (rng (l2) ∧ ((¬ l2 = 0 → wX11_isMixed_123 (l1) (l3) (l4) (l5) (l6) S K B4 B76 B95) ∧ ((¬ (¬ l2 = 0)) → (rng (((6 + (4 * l3)) + l5)) ∧ (wX11_areAlike (l6) (((6 + (4 * l3)) + l5)) S (fun r7 S8 => (rng (r7) ∧ ((r7 = 0 → wX11_isMixed_128 (l1) (l3) (l4) (l5) (l6) (0) S8 K B4 B76 B95) ∧ ((¬ (r7 = 0)) → wX11_isMixed_123 (l1) (l3) (l4) (l5) (l6) S8 K B4 B76 B95)))))))))))))
set_option maxRecDepth 100000 in
set_option maxHeartbeats 4000000 in
theorem bX11_isMixed_95' {G : xG} {sh : Nat → Option Sh} {J : St → List va_E → Prop} {d : Nat} {Post : xP} {l1 l2 l3 l4 l5 l6 : Int} {S : St} {cs : List va_E} {K : Int → St → Prop} {B4 : Int → Int → Int → St → Prop} {B76 : Int → Int → Int → Int → Int → St → Prop} {B95 : Int → Int → Int → Int → Int → Int → St → Prop} (hd : 1 ≤ d) (hJ : Stb sh J) (hT : isM sh) (hW : Wd G sh mT J S cs) (hP : ∀ (v : Int) (S : St) (cs : List va_E), K v S → Wd G sh mT J S cs → Post (some (.int (Int32.ofInt v))) cs) (hB4 : ∀ (l1 : Int) (l2 : Int) (l3 : Int) (S : St) (cs : List va_E), B4 l1 l2 l3 S → Wd G sh mT J S cs → Z (RX11, cX11_isMixed, 7, some .boolean, false) G d Post 4 [(0, .ref (G.1 + 54)), (1, .int (Int32.ofInt (l1))), (2, .int (Int32.ofInt (l2))), (3, .int (Int32.ofInt (l3)))] [] cs) (hB76 : ∀ (l1 : Int) (l2 : Int) (l3 : Int) (l4 : Int) (l5 : Int) (S : St) (cs : List va_E), B76 l1 l2 l3 l4 l5 S → Wd G sh mT J S cs → Z (RX11, cX11_isMixed, 7, some .boolean, false) G d Post 76 [(0, .ref (G.1 + 54)), (1, .int (Int32.ofInt (l1))), (2, .int (Int32.ofInt (l2))), (3, .int (Int32.ofInt (l3))), (4, .int (Int32.ofInt (l4))), (5, .int (Int32.ofInt (l5)))] [] cs) (hB95 : ∀ (l1 : Int) (l2 : Int) (l3 : Int) (l4 : Int) (l5 : Int) (l6 : Int) (S : St) (cs : List va_E), B95 l1 l2 l3 l4 l5 l6 S → Wd G sh mT J S cs → Z (RX11, cX11_isMixed, 7, some .boolean, false) G d Post 95 [(0, .ref (G.1 + 54)), (1, .int (Int32.ofInt (l1))), (2, .int (Int32.ofInt (l2))), (3, .int (Int32.ofInt (l3))), (4, .int (Int32.ofInt (l4))), (5, .int (Int32.ofInt (l5))), (6, .int (Int32.ofInt (l6)))] [] cs) (hw : wX11_isMixed_95' l1 l2 l3 l4 l5 l6 S K B4 B76 B95) : Z (RX11, cX11_isMixed, 7, some .boolean, false) G d Post 95 [(0, .ref (G.1 + 54)), (1, .int (Int32.ofInt (l1))), (2, .int (Int32.ofInt (l2))), (3, .int (Int32.ofInt (l3))), (4, .int (Int32.ofInt (l4))), (5, .int (Int32.ofInt (l5))), (6, .int (Int32.ofInt (l6)))] [] cs := by
  unfold wX11_isMixed_95' at hw
  refine z_iload dX11_isMixed_95 rfl ?_
  refine z_iload_n dX11_isMixed_97 rfl rfl ?_
  obtain ⟨q2, hw⟩ := hw
  obtain ⟨q3, hw⟩ := hw
  refine i_icmp_ge (tgt := 135) dX11_isMixed_98 (by decide) q2 q3 (fun h1 => ?_) (fun h1 => ?_)
  · have hw := hw.1 h1
    refine i_iinc (l := l5) dX11_isMixed_135 rfl (by decide) ?_
    refine z_loc (L' := [(0, .ref (G.1 + 54)), (1, .int (Int32.ofInt (l1))), (2, .int (Int32.ofInt (l2))), (3, .int (Int32.ofInt (l3))), (4, .int (Int32.ofInt (l4))), (5, .int (Int32.ofInt ((l5 + 1)))), (6, .int (Int32.ofInt (l6)))]) (List.forall_mem_cons.mpr ⟨rfl, (List.forall_mem_cons.mpr ⟨rfl, (List.forall_mem_cons.mpr ⟨rfl, (List.forall_mem_cons.mpr ⟨rfl, (List.forall_mem_cons.mpr ⟨rfl, (List.forall_mem_cons.mpr ⟨rfl, (List.forall_mem_cons.mpr ⟨rfl, (fun _ h => nomatch h)⟩)⟩)⟩)⟩)⟩)⟩)⟩) ?_
    refine z_goto (tgt := 76) dX11_isMixed_138 (by decide) ?_
    refine z_loc (L' := [(0, .ref (G.1 + 54)), (1, .int (Int32.ofInt (l1))), (2, .int (Int32.ofInt (l2))), (3, .int (Int32.ofInt (l3))), (4, .int (Int32.ofInt (l4))), (5, .int (Int32.ofInt ((l5 + 1))))]) (List.forall_mem_cons.mpr ⟨rfl, (List.forall_mem_cons.mpr ⟨rfl, (List.forall_mem_cons.mpr ⟨rfl, (List.forall_mem_cons.mpr ⟨rfl, (List.forall_mem_cons.mpr ⟨rfl, (List.forall_mem_cons.mpr ⟨rfl, (fun _ h => nomatch h)⟩)⟩)⟩)⟩)⟩)⟩) ?_
    exact hB76 _ _ _ _ _ _ _ hw hW
  · have hw := hw.2 h1
    refine z_iload_n dX11_isMixed_101 rfl rfl ?_
    obtain ⟨q5, hw⟩ := hw
    refine i_if_ne (tgt := 123) dX11_isMixed_102 (by decide) q5 (fun h4 => ?_) (fun h4 => ?_)
    · have hw := hw.1 h4
      refine z_loc (L' := [(0, .ref (G.1 + 54)), (1, .int (Int32.ofInt (l1))), (3, .int (Int32.ofInt (l3))), (4, .int (Int32.ofInt (l4))), (5, .int (Int32.ofInt (l5))), (6, .int (Int32.ofInt (l6)))]) (List.forall_mem_cons.mpr ⟨rfl, (List.forall_mem_cons.mpr ⟨rfl, (List.forall_mem_cons.mpr ⟨rfl, (List.forall_mem_cons.mpr ⟨rfl, (List.forall_mem_cons.mpr ⟨rfl, (List.forall_mem_cons.mpr ⟨rfl, (fun _ h => nomatch h)⟩)⟩)⟩)⟩)⟩)⟩) ?_
      exact bX11_isMixed_123 hd hJ hT hW hP hB4 hB76 hB95 hw
    · have hw := hw.2 h4
      refine z_aload_n dX11_isMixed_105 rfl rfl ?_
      refine z_iload dX11_isMixed_106 rfl ?_
      refine z_bipush (v := Int32.ofInt 6) dX11_isMixed_108 (by decide) ?_
      refine z_iconst (v := Int32.ofInt 4) dX11_isMixed_110 rfl ?_
      refine z_iload_n dX11_isMixed_111 rfl rfl ?_
      refine i_imul dX11_isMixed_112 ?_
      refine i_iadd dX11_isMixed_113 ?_
      refine z_iload dX11_isMixed_114 rfl ?_
      refine i_iadd dX11_isMixed_116 ?_
      obtain ⟨q6, hw⟩ := hw
      have hX := lX11_areAlike 0 (Nat.le_refl _) hJ hT hW q2 q6 hw
      refine z_callV (As := [_, _]) eX11_areAlike sX11_areAlike lX11_206 rfl dX11_isMixed_117 (hW.1 _ _ hT.1) hX (Nat.le_trans (by decide) hd) rfl (Nat.le_of_ble_eq_true rfl) (fun r cs hp => ?_)
      obtain ⟨r7, S8, rfl, hw, hW⟩ := hp
      refine z_st (st' := [.int (Int32.ofInt (r7))]) rfl ?_
      obtain ⟨q10, hw⟩ := hw
      refine i_if_eq (tgt := 127) dX11_isMixed_120 (by decide) q10 (fun h9 => ?_) (fun h9 => ?_)
      · have hw := hw.1 h9
        refine z_iconst (v := Int32.ofInt 0) dX11_isMixed_127 rfl ?_
        refine z_loc (L' := [(0, .ref (G.1 + 54)), (1, .int (Int32.ofInt (l1))), (3, .int (Int32.ofInt (l3))), (4, .int (Int32.ofInt (l4))), (5, .int (Int32.ofInt (l5))), (6, .int (Int32.ofInt (l6)))]) (List.forall_mem_cons.mpr ⟨rfl, (List.forall_mem_cons.mpr ⟨rfl, (List.forall_mem_cons.mpr ⟨rfl, (List.forall_mem_cons.mpr ⟨rfl, (List.forall_mem_cons.mpr ⟨rfl, (List.forall_mem_cons.mpr ⟨rfl, (fun _ h => nomatch h)⟩)⟩)⟩)⟩)⟩)⟩) ?_
        exact bX11_isMixed_128 hd hJ hT hW hP hB4 hB76 hB95 hw
      · have hw := hw.2 h9
        refine z_loc (L' := [(0, .ref (G.1 + 54)), (1, .int (Int32.ofInt (l1))), (3, .int (Int32.ofInt (l3))), (4, .int (Int32.ofInt (l4))), (5, .int (Int32.ofInt (l5))), (6, .int (Int32.ofInt (l6)))]) (List.forall_mem_cons.mpr ⟨rfl, (List.forall_mem_cons.mpr ⟨rfl, (List.forall_mem_cons.mpr ⟨rfl, (List.forall_mem_cons.mpr ⟨rfl, (List.forall_mem_cons.mpr ⟨rfl, (List.forall_mem_cons.mpr ⟨rfl, (fun _ h => nomatch h)⟩)⟩)⟩)⟩)⟩)⟩) ?_
        exact bX11_isMixed_123 hd hJ hT hW hP hB4 hB76 hB95 hw
def wX11_isMixed_95 (l1 l2 l3 l4 l5 l6 : Int) (S : St) (K : Int → St → Prop) (B4 : Int → Int → Int → St → Prop) (B76 : Int → Int → Int → Int → Int → St → Prop) : Prop := ∃ (Iv : Int → Int → Int → Int → Int → Int → St → Prop) (mu : Int → Int → Int → Int → Int → Int → St → Nat), Iv l1 l2 l3 l4 l5 l6 S ∧ ∀ (l1 l2 l3 l4 l5 l6 : Int) (S : St), Iv l1 l2 l3 l4 l5 l6 S → wX11_isMixed_95' l1 l2 l3 l4 l5 l6 S K B4 B76 (fun ml1 ml2 ml3 ml4 ml5 ml6 T => Iv ml1 ml2 ml3 ml4 ml5 ml6 T ∧ mu ml1 ml2 ml3 ml4 ml5 ml6 T < mu l1 l2 l3 l4 l5 l6 S)
set_option maxRecDepth 100000 in
set_option maxHeartbeats 4000000 in
theorem bX11_isMixed_95 {G : xG} {sh : Nat → Option Sh} {J : St → List va_E → Prop} {d : Nat} {Post : xP} {l1 l2 l3 l4 l5 l6 : Int} {S : St} {cs : List va_E} {K : Int → St → Prop} {B4 : Int → Int → Int → St → Prop} {B76 : Int → Int → Int → Int → Int → St → Prop} (hd : 1 ≤ d) (hJ : Stb sh J) (hT : isM sh) (hW : Wd G sh mT J S cs) (hP : ∀ (v : Int) (S : St) (cs : List va_E), K v S → Wd G sh mT J S cs → Post (some (.int (Int32.ofInt v))) cs) (hB4 : ∀ (l1 : Int) (l2 : Int) (l3 : Int) (S : St) (cs : List va_E), B4 l1 l2 l3 S → Wd G sh mT J S cs → Z (RX11, cX11_isMixed, 7, some .boolean, false) G d Post 4 [(0, .ref (G.1 + 54)), (1, .int (Int32.ofInt (l1))), (2, .int (Int32.ofInt (l2))), (3, .int (Int32.ofInt (l3)))] [] cs) (hB76 : ∀ (l1 : Int) (l2 : Int) (l3 : Int) (l4 : Int) (l5 : Int) (S : St) (cs : List va_E), B76 l1 l2 l3 l4 l5 S → Wd G sh mT J S cs → Z (RX11, cX11_isMixed, 7, some .boolean, false) G d Post 76 [(0, .ref (G.1 + 54)), (1, .int (Int32.ofInt (l1))), (2, .int (Int32.ofInt (l2))), (3, .int (Int32.ofInt (l3))), (4, .int (Int32.ofInt (l4))), (5, .int (Int32.ofInt (l5)))] [] cs) (hw : wX11_isMixed_95 l1 l2 l3 l4 l5 l6 S K B4 B76) : Z (RX11, cX11_isMixed, 7, some .boolean, false) G d Post 95 [(0, .ref (G.1 + 54)), (1, .int (Int32.ofInt (l1))), (2, .int (Int32.ofInt (l2))), (3, .int (Int32.ofInt (l3))), (4, .int (Int32.ofInt (l4))), (5, .int (Int32.ofInt (l5))), (6, .int (Int32.ofInt (l6)))] [] cs := by
  unfold wX11_isMixed_95 at hw
  obtain ⟨Iv, mu, h0, hs⟩ := hw
  have key : ∀ (n : Nat) (l1 l2 l3 l4 l5 l6 : Int) (S : St) (cs : List va_E), mu l1 l2 l3 l4 l5 l6 S < n → Iv l1 l2 l3 l4 l5 l6 S → Wd G sh mT J S cs → Z (RX11, cX11_isMixed, 7, some .boolean, false) G d Post 95 [(0, .ref (G.1 + 54)), (1, .int (Int32.ofInt (l1))), (2, .int (Int32.ofInt (l2))), (3, .int (Int32.ofInt (l3))), (4, .int (Int32.ofInt (l4))), (5, .int (Int32.ofInt (l5))), (6, .int (Int32.ofInt (l6)))] [] cs := by
    intro n
    induction n with
    | zero => intro l1 l2 l3 l4 l5 l6 S cs hn; exact absurd hn (Nat.not_lt_zero _)
    | succ n ih =>
      intro l1 l2 l3 l4 l5 l6 S cs hn hI hW
      exact bX11_isMixed_95' hd hJ hT hW hP hB4 hB76 (fun l1 l2 l3 l4 l5 l6 S cs hb hW => ih l1 l2 l3 l4 l5 l6 S cs (Nat.lt_of_lt_of_le hb.2 (Nat.le_of_lt_succ hn)) hb.1 hW) (hs l1 l2 l3 l4 l5 l6 S hI)
  exact key _ _ _ _ _ _ _ _ _ (Nat.lt_succ_self _) h0 hW
def wX11_isMixed_76' (l1 l2 l3 l4 l5 : Int) (S : St) (K : Int → St → Prop) (B4 : Int → Int → Int → St → Prop) (B76 : Int → Int → Int → Int → Int → St → Prop) : Prop := ((0 : Int) ≤ l3 ∧ l3 < (6 : Int) ∧ (iv 0 4 (S.2 62 (l3)) → (rng (l5) ∧ ((S.2 62 (l3) ≤ l5 → wX11_isMixed_141 (l1) (l2) (l3) S K B4) ∧ ((¬ (S.2 62 (l3) ≤ l5)) → (rng (l4) ∧ ((l4 = 0 → wX11_isMixed_141 (l1) (l2) (l3) S K B4) ∧ ((¬ (l4 = 0)) → wX11_isMixed_95 (l1) (l2) (l3) (l4) (l5) (0) S K B4 B76))))))))
set_option maxRecDepth 100000 in
set_option maxHeartbeats 4000000 in
theorem bX11_isMixed_76' {G : xG} {sh : Nat → Option Sh} {J : St → List va_E → Prop} {d : Nat} {Post : xP} {l1 l2 l3 l4 l5 : Int} {S : St} {cs : List va_E} {K : Int → St → Prop} {B4 : Int → Int → Int → St → Prop} {B76 : Int → Int → Int → Int → Int → St → Prop} (hd : 1 ≤ d) (hJ : Stb sh J) (hT : isM sh) (hW : Wd G sh mT J S cs) (hP : ∀ (v : Int) (S : St) (cs : List va_E), K v S → Wd G sh mT J S cs → Post (some (.int (Int32.ofInt v))) cs) (hB4 : ∀ (l1 : Int) (l2 : Int) (l3 : Int) (S : St) (cs : List va_E), B4 l1 l2 l3 S → Wd G sh mT J S cs → Z (RX11, cX11_isMixed, 7, some .boolean, false) G d Post 4 [(0, .ref (G.1 + 54)), (1, .int (Int32.ofInt (l1))), (2, .int (Int32.ofInt (l2))), (3, .int (Int32.ofInt (l3)))] [] cs) (hB76 : ∀ (l1 : Int) (l2 : Int) (l3 : Int) (l4 : Int) (l5 : Int) (S : St) (cs : List va_E), B76 l1 l2 l3 l4 l5 S → Wd G sh mT J S cs → Z (RX11, cX11_isMixed, 7, some .boolean, false) G d Post 76 [(0, .ref (G.1 + 54)), (1, .int (Int32.ofInt (l1))), (2, .int (Int32.ofInt (l2))), (3, .int (Int32.ofInt (l3))), (4, .int (Int32.ofInt (l4))), (5, .int (Int32.ofInt (l5)))] [] cs) (hw : wX11_isMixed_76' l1 l2 l3 l4 l5 S K B4 B76) : Z (RX11, cX11_isMixed, 7, some .boolean, false) G d Post 76 [(0, .ref (G.1 + 54)), (1, .int (Int32.ofInt (l1))), (2, .int (Int32.ofInt (l2))), (3, .int (Int32.ofInt (l3))), (4, .int (Int32.ofInt (l4))), (5, .int (Int32.ofInt (l5)))] [] cs := by
  unfold wX11_isMixed_76' at hw
  refine z_iload dX11_isMixed_76 rfl ?_
  refine z_aload_n dX11_isMixed_78 rfl rfl ?_
  refine g_getR hW hT.1 mr9 kX11 fX11_32 dX11_isMixed_79 ?_
  refine z_iload_n dX11_isMixed_82 rfl rfl ?_
  obtain ⟨q1a, q1b, hw⟩ := hw
  have q2 : iv 0 4 (S.2 62 (l3)) := mA62 hW _
  have hw := hw q2
  refine g_iald hW (ma62 hT) q1a q1b (by decide) dX11_isMixed_83 ?_
  obtain ⟨q4, hw⟩ := hw
  refine i_icmp_ge (tgt := 141) dX11_isMixed_84 (by decide) q4 (rngq q2 (by decide) (by decide)) (fun h3 => ?_) (fun h3 => ?_)
  · have hw := hw.1 h3
    refine z_loc (L' := [(0, .ref (G.1 + 54)), (1, .int (Int32.ofInt (l1))), (2, .int (Int32.ofInt (l2))), (3, .int (Int32.ofInt (l3)))]) (List.forall_mem_cons.mpr ⟨rfl, (List.forall_mem_cons.mpr ⟨rfl, (List.forall_mem_cons.mpr ⟨rfl, (List.forall_mem_cons.mpr ⟨rfl, (fun _ h => nomatch h)⟩)⟩)⟩)⟩) ?_
    exact bX11_isMixed_141 hd hJ hT hW hP hB4 hw
  · have hw := hw.2 h3
    refine z_iload dX11_isMixed_87 rfl ?_
    obtain ⟨q6, hw⟩ := hw
    refine i_if_eq (tgt := 141) dX11_isMixed_89 (by decide) q6 (fun h5 => ?_) (fun h5 => ?_)
    · have hw := hw.1 h5
      refine z_loc (L' := [(0, .ref (G.1 + 54)), (1, .int (Int32.ofInt (l1))), (2, .int (Int32.ofInt (l2))), (3, .int (Int32.ofInt (l3)))]) (List.forall_mem_cons.mpr ⟨rfl, (List.forall_mem_cons.mpr ⟨rfl, (List.forall_mem_cons.mpr ⟨rfl, (List.forall_mem_cons.mpr ⟨rfl, (fun _ h => nomatch h)⟩)⟩)⟩)⟩) ?_
      exact bX11_isMixed_141 hd hJ hT hW hP hB4 hw
    · have hw := hw.2 h5
      refine z_iconst (v := Int32.ofInt 0) dX11_isMixed_92 rfl ?_
      refine z_istore dX11_isMixed_93 (by decide) ?_
      refine z_loc (L' := [(0, .ref (G.1 + 54)), (1, .int (Int32.ofInt (l1))), (2, .int (Int32.ofInt (l2))), (3, .int (Int32.ofInt (l3))), (4, .int (Int32.ofInt (l4))), (5, .int (Int32.ofInt (l5))), (6, .int (Int32.ofInt (0)))]) (List.forall_mem_cons.mpr ⟨rfl, (List.forall_mem_cons.mpr ⟨rfl, (List.forall_mem_cons.mpr ⟨rfl, (List.forall_mem_cons.mpr ⟨rfl, (List.forall_mem_cons.mpr ⟨rfl, (List.forall_mem_cons.mpr ⟨rfl, (List.forall_mem_cons.mpr ⟨rfl, (fun _ h => nomatch h)⟩)⟩)⟩)⟩)⟩)⟩)⟩) ?_
      refine z_loc (L' := [(0, .ref (G.1 + 54)), (1, .int (Int32.ofInt (l1))), (2, .int (Int32.ofInt (l2))), (3, .int (Int32.ofInt (l3))), (4, .int (Int32.ofInt (l4))), (5, .int (Int32.ofInt (l5))), (6, .int (Int32.ofInt (0)))]) (List.forall_mem_cons.mpr ⟨rfl, (List.forall_mem_cons.mpr ⟨rfl, (List.forall_mem_cons.mpr ⟨rfl, (List.forall_mem_cons.mpr ⟨rfl, (List.forall_mem_cons.mpr ⟨rfl, (List.forall_mem_cons.mpr ⟨rfl, (List.forall_mem_cons.mpr ⟨rfl, (fun _ h => nomatch h)⟩)⟩)⟩)⟩)⟩)⟩)⟩) ?_
      exact bX11_isMixed_95 hd hJ hT hW hP hB4 hB76 hw
def wX11_isMixed_76 (l1 l2 l3 l4 l5 : Int) (S : St) (K : Int → St → Prop) (B4 : Int → Int → Int → St → Prop) : Prop := ∃ (Iv : Int → Int → Int → Int → Int → St → Prop) (mu : Int → Int → Int → Int → Int → St → Nat), Iv l1 l2 l3 l4 l5 S ∧ ∀ (l1 l2 l3 l4 l5 : Int) (S : St), Iv l1 l2 l3 l4 l5 S → wX11_isMixed_76' l1 l2 l3 l4 l5 S K B4 (fun ml1 ml2 ml3 ml4 ml5 T => Iv ml1 ml2 ml3 ml4 ml5 T ∧ mu ml1 ml2 ml3 ml4 ml5 T < mu l1 l2 l3 l4 l5 S)
set_option maxRecDepth 100000 in
set_option maxHeartbeats 4000000 in
theorem bX11_isMixed_76 {G : xG} {sh : Nat → Option Sh} {J : St → List va_E → Prop} {d : Nat} {Post : xP} {l1 l2 l3 l4 l5 : Int} {S : St} {cs : List va_E} {K : Int → St → Prop} {B4 : Int → Int → Int → St → Prop} (hd : 1 ≤ d) (hJ : Stb sh J) (hT : isM sh) (hW : Wd G sh mT J S cs) (hP : ∀ (v : Int) (S : St) (cs : List va_E), K v S → Wd G sh mT J S cs → Post (some (.int (Int32.ofInt v))) cs) (hB4 : ∀ (l1 : Int) (l2 : Int) (l3 : Int) (S : St) (cs : List va_E), B4 l1 l2 l3 S → Wd G sh mT J S cs → Z (RX11, cX11_isMixed, 7, some .boolean, false) G d Post 4 [(0, .ref (G.1 + 54)), (1, .int (Int32.ofInt (l1))), (2, .int (Int32.ofInt (l2))), (3, .int (Int32.ofInt (l3)))] [] cs) (hw : wX11_isMixed_76 l1 l2 l3 l4 l5 S K B4) : Z (RX11, cX11_isMixed, 7, some .boolean, false) G d Post 76 [(0, .ref (G.1 + 54)), (1, .int (Int32.ofInt (l1))), (2, .int (Int32.ofInt (l2))), (3, .int (Int32.ofInt (l3))), (4, .int (Int32.ofInt (l4))), (5, .int (Int32.ofInt (l5)))] [] cs := by
  unfold wX11_isMixed_76 at hw
  obtain ⟨Iv, mu, h0, hs⟩ := hw
  have key : ∀ (n : Nat) (l1 l2 l3 l4 l5 : Int) (S : St) (cs : List va_E), mu l1 l2 l3 l4 l5 S < n → Iv l1 l2 l3 l4 l5 S → Wd G sh mT J S cs → Z (RX11, cX11_isMixed, 7, some .boolean, false) G d Post 76 [(0, .ref (G.1 + 54)), (1, .int (Int32.ofInt (l1))), (2, .int (Int32.ofInt (l2))), (3, .int (Int32.ofInt (l3))), (4, .int (Int32.ofInt (l4))), (5, .int (Int32.ofInt (l5)))] [] cs := by
    intro n
    induction n with
    | zero => intro l1 l2 l3 l4 l5 S cs hn; exact absurd hn (Nat.not_lt_zero _)
    | succ n ih =>
      intro l1 l2 l3 l4 l5 S cs hn hI hW
      exact bX11_isMixed_76' hd hJ hT hW hP hB4 (fun l1 l2 l3 l4 l5 S cs hb hW => ih l1 l2 l3 l4 l5 S cs (Nat.lt_of_lt_of_le hb.2 (Nat.le_of_lt_succ hn)) hb.1 hW) (hs l1 l2 l3 l4 l5 S hI)
  exact key _ _ _ _ _ _ _ _ (Nat.lt_succ_self _) h0 hW
def wX11_isMixed_65 (l1 l2 l3 l5 s0 : Int) (S : St) (K : Int → St → Prop) (B4 : Int → Int → Int → St → Prop) (B15 : Int → Int → Int → Int → Int → St → Prop) : Prop := B15 (l1) (l2) (l3) (s0) ((l5 + 1)) S
set_option maxRecDepth 100000 in
set_option maxHeartbeats 4000000 in
theorem bX11_isMixed_65 {G : xG} {sh : Nat → Option Sh} {J : St → List va_E → Prop} {d : Nat} {Post : xP} {l1 l2 l3 l5 s0 : Int} {S : St} {cs : List va_E} {K : Int → St → Prop} {B4 : Int → Int → Int → St → Prop} {B15 : Int → Int → Int → Int → Int → St → Prop} (hd : 1 ≤ d) (hJ : Stb sh J) (hT : isM sh) (hW : Wd G sh mT J S cs) (hP : ∀ (v : Int) (S : St) (cs : List va_E), K v S → Wd G sh mT J S cs → Post (some (.int (Int32.ofInt v))) cs) (hB4 : ∀ (l1 : Int) (l2 : Int) (l3 : Int) (S : St) (cs : List va_E), B4 l1 l2 l3 S → Wd G sh mT J S cs → Z (RX11, cX11_isMixed, 7, some .boolean, false) G d Post 4 [(0, .ref (G.1 + 54)), (1, .int (Int32.ofInt (l1))), (2, .int (Int32.ofInt (l2))), (3, .int (Int32.ofInt (l3)))] [] cs) (hB15 : ∀ (l1 : Int) (l2 : Int) (l3 : Int) (l4 : Int) (l5 : Int) (S : St) (cs : List va_E), B15 l1 l2 l3 l4 l5 S → Wd G sh mT J S cs → Z (RX11, cX11_isMixed, 7, some .boolean, false) G d Post 15 [(0, .ref (G.1 + 54)), (1, .int (Int32.ofInt (l1))), (2, .int (Int32.ofInt (l2))), (3, .int (Int32.ofInt (l3))), (4, .int (Int32.ofInt (l4))), (5, .int (Int32.ofInt (l5)))] [] cs) (hw : wX11_isMixed_65 l1 l2 l3 l5 s0 S K B4 B15) : Z (RX11, cX11_isMixed, 7, some .boolean, false) G d Post 65 [(0, .ref (G.1 + 54)), (1, .int (Int32.ofInt (l1))), (2, .int (Int32.ofInt (l2))), (3, .int (Int32.ofInt (l3))), (5, .int (Int32.ofInt (l5)))] [.int (Int32.ofInt (s0))] cs := by
  unfold wX11_isMixed_65 at hw
  refine z_istore dX11_isMixed_65 (by decide) ?_
  refine z_loc (L' := [(0, .ref (G.1 + 54)), (1, .int (Int32.ofInt (l1))), (2, .int (Int32.ofInt (l2))), (3, .int (Int32.ofInt (l3))), (4, .int (Int32.ofInt (s0))), (5, .int (Int32.ofInt (l5)))]) (List.forall_mem_cons.mpr ⟨rfl, (List.forall_mem_cons.mpr ⟨rfl, (List.forall_mem_cons.mpr ⟨rfl, (List.forall_mem_cons.mpr ⟨rfl, (List.forall_mem_cons.mpr ⟨rfl, (List.forall_mem_cons.mpr ⟨rfl, (fun _ h => nomatch h)⟩)⟩)⟩)⟩)⟩)⟩) ?_
  refine i_iinc (l := l5) dX11_isMixed_67 rfl (by decide) ?_
  refine z_loc (L' := [(0, .ref (G.1 + 54)), (1, .int (Int32.ofInt (l1))), (2, .int (Int32.ofInt (l2))), (3, .int (Int32.ofInt (l3))), (4, .int (Int32.ofInt (s0))), (5, .int (Int32.ofInt ((l5 + 1))))]) (List.forall_mem_cons.mpr ⟨rfl, (List.forall_mem_cons.mpr ⟨rfl, (List.forall_mem_cons.mpr ⟨rfl, (List.forall_mem_cons.mpr ⟨rfl, (List.forall_mem_cons.mpr ⟨rfl, (List.forall_mem_cons.mpr ⟨rfl, (fun _ h => nomatch h)⟩)⟩)⟩)⟩)⟩)⟩) ?_
  refine z_goto (tgt := 15) dX11_isMixed_70 (by decide) ?_
  refine z_loc (L' := [(0, .ref (G.1 + 54)), (1, .int (Int32.ofInt (l1))), (2, .int (Int32.ofInt (l2))), (3, .int (Int32.ofInt (l3))), (4, .int (Int32.ofInt (s0))), (5, .int (Int32.ofInt ((l5 + 1))))]) (List.forall_mem_cons.mpr ⟨rfl, (List.forall_mem_cons.mpr ⟨rfl, (List.forall_mem_cons.mpr ⟨rfl, (List.forall_mem_cons.mpr ⟨rfl, (List.forall_mem_cons.mpr ⟨rfl, (List.forall_mem_cons.mpr ⟨rfl, (fun _ h => nomatch h)⟩)⟩)⟩)⟩)⟩)⟩) ?_
  exact hB15 _ _ _ _ _ _ _ hw hW
def wX11_isMixed_60 (l1 l2 l3 l5 : Int) (S : St) (K : Int → St → Prop) (B4 : Int → Int → Int → St → Prop) (B15 : Int → Int → Int → Int → Int → St → Prop) : Prop := wX11_isMixed_65 (l1) (l2) (l3) (l5) (1) S K B4 B15
set_option maxRecDepth 100000 in
set_option maxHeartbeats 4000000 in
theorem bX11_isMixed_60 {G : xG} {sh : Nat → Option Sh} {J : St → List va_E → Prop} {d : Nat} {Post : xP} {l1 l2 l3 l5 : Int} {S : St} {cs : List va_E} {K : Int → St → Prop} {B4 : Int → Int → Int → St → Prop} {B15 : Int → Int → Int → Int → Int → St → Prop} (hd : 1 ≤ d) (hJ : Stb sh J) (hT : isM sh) (hW : Wd G sh mT J S cs) (hP : ∀ (v : Int) (S : St) (cs : List va_E), K v S → Wd G sh mT J S cs → Post (some (.int (Int32.ofInt v))) cs) (hB4 : ∀ (l1 : Int) (l2 : Int) (l3 : Int) (S : St) (cs : List va_E), B4 l1 l2 l3 S → Wd G sh mT J S cs → Z (RX11, cX11_isMixed, 7, some .boolean, false) G d Post 4 [(0, .ref (G.1 + 54)), (1, .int (Int32.ofInt (l1))), (2, .int (Int32.ofInt (l2))), (3, .int (Int32.ofInt (l3)))] [] cs) (hB15 : ∀ (l1 : Int) (l2 : Int) (l3 : Int) (l4 : Int) (l5 : Int) (S : St) (cs : List va_E), B15 l1 l2 l3 l4 l5 S → Wd G sh mT J S cs → Z (RX11, cX11_isMixed, 7, some .boolean, false) G d Post 15 [(0, .ref (G.1 + 54)), (1, .int (Int32.ofInt (l1))), (2, .int (Int32.ofInt (l2))), (3, .int (Int32.ofInt (l3))), (4, .int (Int32.ofInt (l4))), (5, .int (Int32.ofInt (l5)))] [] cs) (hw : wX11_isMixed_60 l1 l2 l3 l5 S K B4 B15) : Z (RX11, cX11_isMixed, 7, some .boolean, false) G d Post 60 [(0, .ref (G.1 + 54)), (1, .int (Int32.ofInt (l1))), (2, .int (Int32.ofInt (l2))), (3, .int (Int32.ofInt (l3))), (5, .int (Int32.ofInt (l5)))] [] cs := by
  unfold wX11_isMixed_60 at hw
  refine z_iconst (v := Int32.ofInt 1) dX11_isMixed_60 rfl ?_
  refine z_goto (tgt := 65) dX11_isMixed_61 (by decide) ?_
  refine z_loc (L' := [(0, .ref (G.1 + 54)), (1, .int (Int32.ofInt (l1))), (2, .int (Int32.ofInt (l2))), (3, .int (Int32.ofInt (l3))), (5, .int (Int32.ofInt (l5)))]) (List.forall_mem_cons.mpr ⟨rfl, (List.forall_mem_cons.mpr ⟨rfl, (List.forall_mem_cons.mpr ⟨rfl, (List.forall_mem_cons.mpr ⟨rfl, (List.forall_mem_cons.mpr ⟨rfl, (fun _ h => nomatch h)⟩)⟩)⟩)⟩)⟩) ?_
  exact bX11_isMixed_65 hd hJ hT hW hP hB4 hB15 hw
def wX11_isMixed_64 (l1 l2 l3 l5 : Int) (S : St) (K : Int → St → Prop) (B4 : Int → Int → Int → St → Prop) (B15 : Int → Int → Int → Int → Int → St → Prop) : Prop := wX11_isMixed_65 (l1) (l2) (l3) (l5) (0) S K B4 B15
set_option maxRecDepth 100000 in
set_option maxHeartbeats 4000000 in
theorem bX11_isMixed_64 {G : xG} {sh : Nat → Option Sh} {J : St → List va_E → Prop} {d : Nat} {Post : xP} {l1 l2 l3 l5 : Int} {S : St} {cs : List va_E} {K : Int → St → Prop} {B4 : Int → Int → Int → St → Prop} {B15 : Int → Int → Int → Int → Int → St → Prop} (hd : 1 ≤ d) (hJ : Stb sh J) (hT : isM sh) (hW : Wd G sh mT J S cs) (hP : ∀ (v : Int) (S : St) (cs : List va_E), K v S → Wd G sh mT J S cs → Post (some (.int (Int32.ofInt v))) cs) (hB4 : ∀ (l1 : Int) (l2 : Int) (l3 : Int) (S : St) (cs : List va_E), B4 l1 l2 l3 S → Wd G sh mT J S cs → Z (RX11, cX11_isMixed, 7, some .boolean, false) G d Post 4 [(0, .ref (G.1 + 54)), (1, .int (Int32.ofInt (l1))), (2, .int (Int32.ofInt (l2))), (3, .int (Int32.ofInt (l3)))] [] cs) (hB15 : ∀ (l1 : Int) (l2 : Int) (l3 : Int) (l4 : Int) (l5 : Int) (S : St) (cs : List va_E), B15 l1 l2 l3 l4 l5 S → Wd G sh mT J S cs → Z (RX11, cX11_isMixed, 7, some .boolean, false) G d Post 15 [(0, .ref (G.1 + 54)), (1, .int (Int32.ofInt (l1))), (2, .int (Int32.ofInt (l2))), (3, .int (Int32.ofInt (l3))), (4, .int (Int32.ofInt (l4))), (5, .int (Int32.ofInt (l5)))] [] cs) (hw : wX11_isMixed_64 l1 l2 l3 l5 S K B4 B15) : Z (RX11, cX11_isMixed, 7, some .boolean, false) G d Post 64 [(0, .ref (G.1 + 54)), (1, .int (Int32.ofInt (l1))), (2, .int (Int32.ofInt (l2))), (3, .int (Int32.ofInt (l3))), (5, .int (Int32.ofInt (l5)))] [] cs := by
  unfold wX11_isMixed_64 at hw
  refine z_iconst (v := Int32.ofInt 0) dX11_isMixed_64 rfl ?_
  refine z_loc (L' := [(0, .ref (G.1 + 54)), (1, .int (Int32.ofInt (l1))), (2, .int (Int32.ofInt (l2))), (3, .int (Int32.ofInt (l3))), (5, .int (Int32.ofInt (l5)))]) (List.forall_mem_cons.mpr ⟨rfl, (List.forall_mem_cons.mpr ⟨rfl, (List.forall_mem_cons.mpr ⟨rfl, (List.forall_mem_cons.mpr ⟨rfl, (List.forall_mem_cons.mpr ⟨rfl, (fun _ h => nomatch h)⟩)⟩)⟩)⟩)⟩) ?_
  exact bX11_isMixed_65 hd hJ hT hW hP hB4 hB15 hw
def wX11_isMixed_15' (l1 l2 l3 l4 l5 : Int) (S : St) (K : Int → St → Prop) (B4 : Int → Int → Int → St → Prop) (B15 : Int → Int → Int → Int → Int → St → Prop) : Prop := ((0 : Int) ≤ l3 ∧ l3 < (6 : Int) ∧ (iv 0 4 (S.2 62 (l3)) → (rng (l5) ∧ ((S.2 62 (l3) ≤ l5 → wX11_isMixed_76 (l1) (l2) (l3) (l4) (0) S K B4) ∧ ((¬ (S.2 62 (l3) ≤ l5)) → (rng (l4) ∧ ((¬ l4 = 0 → wX11_isMixed_60 (l1) (l2) (l3) (l5) S K B4 B15) ∧ ((¬ (¬ l4 = 0)) → ((0 : Int) ≤ ((4 * l3) + l5) ∧ ((4 * l3) + l5) < (24 : Int) ∧ (iv 0 3 (S.2 65 (((4 * l3) + l5))) → ((¬ S.2 65 (((4 * l3) + l5)) = 3 → wX11_isMixed_64 (l1) (l2) (l3) (l5) S K B4 B15) ∧ ((¬ (¬ S.2 65 (((4 * l3) + l5)) = 3)) → ((0 : Int) ≤ ((4 * l3) + l5) ∧ ((4 * l3) + l5) < (24 : Int) ∧ (iv 0 1 (S.2 66 (((4 * l3) + l5))) → ((S.2 66 (((4 * l3) + l5)) = 0 → wX11_isMixed_64 (l1) (l2) (l3) (l5) S K B4 B15) ∧ ((¬ (S.2 66 (((4 * l3) + l5)) = 0)) → wX11_isMixed_60 (l1) (l2) (l3) (l5) S K B4 B15))))))))))))))))
set_option maxRecDepth 100000 in
set_option maxHeartbeats 4000000 in
theorem bX11_isMixed_15' {G : xG} {sh : Nat → Option Sh} {J : St → List va_E → Prop} {d : Nat} {Post : xP} {l1 l2 l3 l4 l5 : Int} {S : St} {cs : List va_E} {K : Int → St → Prop} {B4 : Int → Int → Int → St → Prop} {B15 : Int → Int → Int → Int → Int → St → Prop} (hd : 1 ≤ d) (hJ : Stb sh J) (hT : isM sh) (hW : Wd G sh mT J S cs) (hP : ∀ (v : Int) (S : St) (cs : List va_E), K v S → Wd G sh mT J S cs → Post (some (.int (Int32.ofInt v))) cs) (hB4 : ∀ (l1 : Int) (l2 : Int) (l3 : Int) (S : St) (cs : List va_E), B4 l1 l2 l3 S → Wd G sh mT J S cs → Z (RX11, cX11_isMixed, 7, some .boolean, false) G d Post 4 [(0, .ref (G.1 + 54)), (1, .int (Int32.ofInt (l1))), (2, .int (Int32.ofInt (l2))), (3, .int (Int32.ofInt (l3)))] [] cs) (hB15 : ∀ (l1 : Int) (l2 : Int) (l3 : Int) (l4 : Int) (l5 : Int) (S : St) (cs : List va_E), B15 l1 l2 l3 l4 l5 S → Wd G sh mT J S cs → Z (RX11, cX11_isMixed, 7, some .boolean, false) G d Post 15 [(0, .ref (G.1 + 54)), (1, .int (Int32.ofInt (l1))), (2, .int (Int32.ofInt (l2))), (3, .int (Int32.ofInt (l3))), (4, .int (Int32.ofInt (l4))), (5, .int (Int32.ofInt (l5)))] [] cs) (hw : wX11_isMixed_15' l1 l2 l3 l4 l5 S K B4 B15) : Z (RX11, cX11_isMixed, 7, some .boolean, false) G d Post 15 [(0, .ref (G.1 + 54)), (1, .int (Int32.ofInt (l1))), (2, .int (Int32.ofInt (l2))), (3, .int (Int32.ofInt (l3))), (4, .int (Int32.ofInt (l4))), (5, .int (Int32.ofInt (l5)))] [] cs := by
  unfold wX11_isMixed_15' at hw
  refine z_iload dX11_isMixed_15 rfl ?_
  refine z_aload_n dX11_isMixed_17 rfl rfl ?_
  refine g_getR hW hT.1 mr9 kX11 fX11_32 dX11_isMixed_18 ?_
  refine z_iload_n dX11_isMixed_21 rfl rfl ?_
  obtain ⟨q1a, q1b, hw⟩ := hw
  have q2 : iv 0 4 (S.2 62 (l3)) := mA62 hW _
  have hw := hw q2
  refine g_iald hW (ma62 hT) q1a q1b (by decide) dX11_isMixed_22 ?_
  obtain ⟨q4, hw⟩ := hw
  refine i_icmp_ge (tgt := 73) dX11_isMixed_23 (by decide) q4 (rngq q2 (by decide) (by decide)) (fun h3 => ?_) (fun h3 => ?_)
  · have hw := hw.1 h3
    refine z_iconst (v := Int32.ofInt 0) dX11_isMixed_73 rfl ?_
    refine z_istore dX11_isMixed_74 (by decide) ?_
    refine z_loc (L' := [(0, .ref (G.1 + 54)), (1, .int (Int32.ofInt (l1))), (2, .int (Int32.ofInt (l2))), (3, .int (Int32.ofInt (l3))), (4, .int (Int32.ofInt (l4))), (5, .int (Int32.ofInt (0)))]) (List.forall_mem_cons.mpr ⟨rfl, (List.forall_mem_cons.mpr ⟨rfl, (List.forall_mem_cons.mpr ⟨rfl, (List.forall_mem_cons.mpr ⟨rfl, (List.forall_mem_cons.mpr ⟨rfl, (List.forall_mem_cons.mpr ⟨rfl, (fun _ h => nomatch h)⟩)⟩)⟩)⟩)⟩)⟩) ?_
    refine z_loc (L' := [(0, .ref (G.1 + 54)), (1, .int (Int32.ofInt (l1))), (2, .int (Int32.ofInt (l2))), (3, .int (Int32.ofInt (l3))), (4, .int (Int32.ofInt (l4))), (5, .int (Int32.ofInt (0)))]) (List.forall_mem_cons.mpr ⟨rfl, (List.forall_mem_cons.mpr ⟨rfl, (List.forall_mem_cons.mpr ⟨rfl, (List.forall_mem_cons.mpr ⟨rfl, (List.forall_mem_cons.mpr ⟨rfl, (List.forall_mem_cons.mpr ⟨rfl, (fun _ h => nomatch h)⟩)⟩)⟩)⟩)⟩)⟩) ?_
    exact bX11_isMixed_76 hd hJ hT hW hP hB4 hw
  · have hw := hw.2 h3
    refine z_iload dX11_isMixed_26 rfl ?_
    obtain ⟨q6, hw⟩ := hw
    refine i_if_ne (tgt := 60) dX11_isMixed_28 (by decide) q6 (fun h5 => ?_) (fun h5 => ?_)
    · have hw := hw.1 h5
      refine z_loc (L' := [(0, .ref (G.1 + 54)), (1, .int (Int32.ofInt (l1))), (2, .int (Int32.ofInt (l2))), (3, .int (Int32.ofInt (l3))), (5, .int (Int32.ofInt (l5)))]) (List.forall_mem_cons.mpr ⟨rfl, (List.forall_mem_cons.mpr ⟨rfl, (List.forall_mem_cons.mpr ⟨rfl, (List.forall_mem_cons.mpr ⟨rfl, (List.forall_mem_cons.mpr ⟨rfl, (fun _ h => nomatch h)⟩)⟩)⟩)⟩)⟩) ?_
      exact bX11_isMixed_60 hd hJ hT hW hP hB4 hB15 hw
    · have hw := hw.2 h5
      refine z_aload_n dX11_isMixed_31 rfl rfl ?_
      refine g_getR hW hT.1 mr12 kX11 fX11_41 dX11_isMixed_32 ?_
      refine z_iconst (v := Int32.ofInt 4) dX11_isMixed_35 rfl ?_
      refine z_iload_n dX11_isMixed_36 rfl rfl ?_
      refine i_imul dX11_isMixed_37 ?_
      refine z_iload dX11_isMixed_38 rfl ?_
      refine i_iadd dX11_isMixed_40 ?_
      obtain ⟨q7a, q7b, hw⟩ := hw
      have q8 : iv 0 3 (S.2 65 (((4 * l3) + l5))) := mA65 hW _
      have hw := hw q8
      refine g_iald hW (ma65 hT) q7a q7b (by decide) dX11_isMixed_41 ?_
      refine z_iconst (v := Int32.ofInt 3) dX11_isMixed_42 rfl ?_
      refine i_icmp_ne (tgt := 64) dX11_isMixed_43 (by decide) (rngq q8 (by decide) (by decide)) ⟨by decide, by decide⟩ (fun h9 => ?_) (fun h9 => ?_)
      · have hw := hw.1 h9
        refine z_loc (L' := [(0, .ref (G.1 + 54)), (1, .int (Int32.ofInt (l1))), (2, .int (Int32.ofInt (l2))), (3, .int (Int32.ofInt (l3))), (5, .int (Int32.ofInt (l5)))]) (List.forall_mem_cons.mpr ⟨rfl, (List.forall_mem_cons.mpr ⟨rfl, (List.forall_mem_cons.mpr ⟨rfl, (List.forall_mem_cons.mpr ⟨rfl, (List.forall_mem_cons.mpr ⟨rfl, (fun _ h => nomatch h)⟩)⟩)⟩)⟩)⟩) ?_
        exact bX11_isMixed_64 hd hJ hT hW hP hB4 hB15 hw
      · have hw := hw.2 h9
        refine z_aload_n dX11_isMixed_46 rfl rfl ?_
        refine g_getR hW hT.1 mr13 kX11 fX11_44 dX11_isMixed_47 ?_
        refine z_iconst (v := Int32.ofInt 4) dX11_isMixed_50 rfl ?_
        refine z_iload_n dX11_isMixed_51 rfl rfl ?_
        refine i_imul dX11_isMixed_52 ?_
        refine z_iload dX11_isMixed_53 rfl ?_
        refine i_iadd dX11_isMixed_55 ?_
        obtain ⟨q10a, q10b, hw⟩ := hw
        have q11 : iv 0 1 (S.2 66 (((4 * l3) + l5))) := mA66 hW _
        have hw := hw q11
        refine g_zald hW (ma66 hT) q10a q10b (by decide) dX11_isMixed_56 ?_
        refine i_if_eq (tgt := 64) dX11_isMixed_57 (by decide) (rngq q11 (by decide) (by decide)) (fun h12 => ?_) (fun h12 => ?_)
        · have hw := hw.1 h12
          refine z_loc (L' := [(0, .ref (G.1 + 54)), (1, .int (Int32.ofInt (l1))), (2, .int (Int32.ofInt (l2))), (3, .int (Int32.ofInt (l3))), (5, .int (Int32.ofInt (l5)))]) (List.forall_mem_cons.mpr ⟨rfl, (List.forall_mem_cons.mpr ⟨rfl, (List.forall_mem_cons.mpr ⟨rfl, (List.forall_mem_cons.mpr ⟨rfl, (List.forall_mem_cons.mpr ⟨rfl, (fun _ h => nomatch h)⟩)⟩)⟩)⟩)⟩) ?_
          exact bX11_isMixed_64 hd hJ hT hW hP hB4 hB15 hw
        · have hw := hw.2 h12
          refine z_loc (L' := [(0, .ref (G.1 + 54)), (1, .int (Int32.ofInt (l1))), (2, .int (Int32.ofInt (l2))), (3, .int (Int32.ofInt (l3))), (5, .int (Int32.ofInt (l5)))]) (List.forall_mem_cons.mpr ⟨rfl, (List.forall_mem_cons.mpr ⟨rfl, (List.forall_mem_cons.mpr ⟨rfl, (List.forall_mem_cons.mpr ⟨rfl, (List.forall_mem_cons.mpr ⟨rfl, (fun _ h => nomatch h)⟩)⟩)⟩)⟩)⟩) ?_
          exact bX11_isMixed_60 hd hJ hT hW hP hB4 hB15 hw
def wX11_isMixed_15 (l1 l2 l3 l4 l5 : Int) (S : St) (K : Int → St → Prop) (B4 : Int → Int → Int → St → Prop) : Prop := ∃ (Iv : Int → Int → Int → Int → Int → St → Prop) (mu : Int → Int → Int → Int → Int → St → Nat), Iv l1 l2 l3 l4 l5 S ∧ ∀ (l1 l2 l3 l4 l5 : Int) (S : St), Iv l1 l2 l3 l4 l5 S → wX11_isMixed_15' l1 l2 l3 l4 l5 S K B4 (fun ml1 ml2 ml3 ml4 ml5 T => Iv ml1 ml2 ml3 ml4 ml5 T ∧ mu ml1 ml2 ml3 ml4 ml5 T < mu l1 l2 l3 l4 l5 S)
set_option maxRecDepth 100000 in
set_option maxHeartbeats 4000000 in
theorem bX11_isMixed_15 {G : xG} {sh : Nat → Option Sh} {J : St → List va_E → Prop} {d : Nat} {Post : xP} {l1 l2 l3 l4 l5 : Int} {S : St} {cs : List va_E} {K : Int → St → Prop} {B4 : Int → Int → Int → St → Prop} (hd : 1 ≤ d) (hJ : Stb sh J) (hT : isM sh) (hW : Wd G sh mT J S cs) (hP : ∀ (v : Int) (S : St) (cs : List va_E), K v S → Wd G sh mT J S cs → Post (some (.int (Int32.ofInt v))) cs) (hB4 : ∀ (l1 : Int) (l2 : Int) (l3 : Int) (S : St) (cs : List va_E), B4 l1 l2 l3 S → Wd G sh mT J S cs → Z (RX11, cX11_isMixed, 7, some .boolean, false) G d Post 4 [(0, .ref (G.1 + 54)), (1, .int (Int32.ofInt (l1))), (2, .int (Int32.ofInt (l2))), (3, .int (Int32.ofInt (l3)))] [] cs) (hw : wX11_isMixed_15 l1 l2 l3 l4 l5 S K B4) : Z (RX11, cX11_isMixed, 7, some .boolean, false) G d Post 15 [(0, .ref (G.1 + 54)), (1, .int (Int32.ofInt (l1))), (2, .int (Int32.ofInt (l2))), (3, .int (Int32.ofInt (l3))), (4, .int (Int32.ofInt (l4))), (5, .int (Int32.ofInt (l5)))] [] cs := by
  unfold wX11_isMixed_15 at hw
  obtain ⟨Iv, mu, h0, hs⟩ := hw
  have key : ∀ (n : Nat) (l1 l2 l3 l4 l5 : Int) (S : St) (cs : List va_E), mu l1 l2 l3 l4 l5 S < n → Iv l1 l2 l3 l4 l5 S → Wd G sh mT J S cs → Z (RX11, cX11_isMixed, 7, some .boolean, false) G d Post 15 [(0, .ref (G.1 + 54)), (1, .int (Int32.ofInt (l1))), (2, .int (Int32.ofInt (l2))), (3, .int (Int32.ofInt (l3))), (4, .int (Int32.ofInt (l4))), (5, .int (Int32.ofInt (l5)))] [] cs := by
    intro n
    induction n with
    | zero => intro l1 l2 l3 l4 l5 S cs hn; exact absurd hn (Nat.not_lt_zero _)
    | succ n ih =>
      intro l1 l2 l3 l4 l5 S cs hn hI hW
      exact bX11_isMixed_15' hd hJ hT hW hP hB4 (fun l1 l2 l3 l4 l5 S cs hb hW => ih l1 l2 l3 l4 l5 S cs (Nat.lt_of_lt_of_le hb.2 (Nat.le_of_lt_succ hn)) hb.1 hW) (hs l1 l2 l3 l4 l5 S hI)
  exact key _ _ _ _ _ _ _ _ (Nat.lt_succ_self _) h0 hW
def wX11_isMixed_4' (l1 l2 l3 : Int) (S : St) (K : Int → St → Prop) (B4 : Int → Int → Int → St → Prop) : Prop := (rng (l3) ∧ (rng (l1) ∧ ((l1 ≤ l3 → (iv 0 1 (l2) ∧ K (l2) S)) ∧ ((¬ (l1 ≤ l3)) → wX11_isMixed_15 (l1) (l2) (l3) (0) (0) S K B4))))
set_option maxRecDepth 100000 in
set_option maxHeartbeats 4000000 in
theorem bX11_isMixed_4' {G : xG} {sh : Nat → Option Sh} {J : St → List va_E → Prop} {d : Nat} {Post : xP} {l1 l2 l3 : Int} {S : St} {cs : List va_E} {K : Int → St → Prop} {B4 : Int → Int → Int → St → Prop} (hd : 1 ≤ d) (hJ : Stb sh J) (hT : isM sh) (hW : Wd G sh mT J S cs) (hP : ∀ (v : Int) (S : St) (cs : List va_E), K v S → Wd G sh mT J S cs → Post (some (.int (Int32.ofInt v))) cs) (hB4 : ∀ (l1 : Int) (l2 : Int) (l3 : Int) (S : St) (cs : List va_E), B4 l1 l2 l3 S → Wd G sh mT J S cs → Z (RX11, cX11_isMixed, 7, some .boolean, false) G d Post 4 [(0, .ref (G.1 + 54)), (1, .int (Int32.ofInt (l1))), (2, .int (Int32.ofInt (l2))), (3, .int (Int32.ofInt (l3)))] [] cs) (hw : wX11_isMixed_4' l1 l2 l3 S K B4) : Z (RX11, cX11_isMixed, 7, some .boolean, false) G d Post 4 [(0, .ref (G.1 + 54)), (1, .int (Int32.ofInt (l1))), (2, .int (Int32.ofInt (l2))), (3, .int (Int32.ofInt (l3)))] [] cs := by
  unfold wX11_isMixed_4' at hw
  refine z_iload_n dX11_isMixed_4 rfl rfl ?_
  refine z_iload_n dX11_isMixed_5 rfl rfl ?_
  obtain ⟨q2, hw⟩ := hw
  obtain ⟨q3, hw⟩ := hw
  refine i_icmp_ge (tgt := 147) dX11_isMixed_6 (by decide) q2 q3 (fun h1 => ?_) (fun h1 => ?_)
  · have hw := hw.1 h1
    refine z_iload_n dX11_isMixed_147 rfl rfl ?_
    obtain ⟨q4, hw⟩ := hw
    exact z_ireturn dX11_isMixed_148 rfl (nar01 (b01 q4)) (hP _ _ _ hw hW)
  · have hw := hw.2 h1
    refine z_iconst (v := Int32.ofInt 0) dX11_isMixed_9 rfl ?_
    refine z_istore dX11_isMixed_10 (by decide) ?_
    refine z_loc (L' := [(0, .ref (G.1 + 54)), (1, .int (Int32.ofInt (l1))), (2, .int (Int32.ofInt (l2))), (3, .int (Int32.ofInt (l3))), (4, .int (Int32.ofInt (0)))]) (List.forall_mem_cons.mpr ⟨rfl, (List.forall_mem_cons.mpr ⟨rfl, (List.forall_mem_cons.mpr ⟨rfl, (List.forall_mem_cons.mpr ⟨rfl, (List.forall_mem_cons.mpr ⟨rfl, (fun _ h => nomatch h)⟩)⟩)⟩)⟩)⟩) ?_
    refine z_iconst (v := Int32.ofInt 0) dX11_isMixed_12 rfl ?_
    refine z_istore dX11_isMixed_13 (by decide) ?_
    refine z_loc (L' := [(0, .ref (G.1 + 54)), (1, .int (Int32.ofInt (l1))), (2, .int (Int32.ofInt (l2))), (3, .int (Int32.ofInt (l3))), (4, .int (Int32.ofInt (0))), (5, .int (Int32.ofInt (0)))]) (List.forall_mem_cons.mpr ⟨rfl, (List.forall_mem_cons.mpr ⟨rfl, (List.forall_mem_cons.mpr ⟨rfl, (List.forall_mem_cons.mpr ⟨rfl, (List.forall_mem_cons.mpr ⟨rfl, (List.forall_mem_cons.mpr ⟨rfl, (fun _ h => nomatch h)⟩)⟩)⟩)⟩)⟩)⟩) ?_
    refine z_loc (L' := [(0, .ref (G.1 + 54)), (1, .int (Int32.ofInt (l1))), (2, .int (Int32.ofInt (l2))), (3, .int (Int32.ofInt (l3))), (4, .int (Int32.ofInt (0))), (5, .int (Int32.ofInt (0)))]) (List.forall_mem_cons.mpr ⟨rfl, (List.forall_mem_cons.mpr ⟨rfl, (List.forall_mem_cons.mpr ⟨rfl, (List.forall_mem_cons.mpr ⟨rfl, (List.forall_mem_cons.mpr ⟨rfl, (List.forall_mem_cons.mpr ⟨rfl, (fun _ h => nomatch h)⟩)⟩)⟩)⟩)⟩)⟩) ?_
    exact bX11_isMixed_15 hd hJ hT hW hP hB4 hw
def wX11_isMixed_4 (l1 l2 l3 : Int) (S : St) (K : Int → St → Prop) : Prop := ∃ (Iv : Int → Int → Int → St → Prop) (mu : Int → Int → Int → St → Nat), Iv l1 l2 l3 S ∧ ∀ (l1 l2 l3 : Int) (S : St), Iv l1 l2 l3 S → wX11_isMixed_4' l1 l2 l3 S K  (fun ml1 ml2 ml3 T => Iv ml1 ml2 ml3 T ∧ mu ml1 ml2 ml3 T < mu l1 l2 l3 S)
set_option maxRecDepth 100000 in
set_option maxHeartbeats 4000000 in
theorem bX11_isMixed_4 {G : xG} {sh : Nat → Option Sh} {J : St → List va_E → Prop} {d : Nat} {Post : xP} {l1 l2 l3 : Int} {S : St} {cs : List va_E} {K : Int → St → Prop} (hd : 1 ≤ d) (hJ : Stb sh J) (hT : isM sh) (hW : Wd G sh mT J S cs) (hP : ∀ (v : Int) (S : St) (cs : List va_E), K v S → Wd G sh mT J S cs → Post (some (.int (Int32.ofInt v))) cs)  (hw : wX11_isMixed_4 l1 l2 l3 S K ) : Z (RX11, cX11_isMixed, 7, some .boolean, false) G d Post 4 [(0, .ref (G.1 + 54)), (1, .int (Int32.ofInt (l1))), (2, .int (Int32.ofInt (l2))), (3, .int (Int32.ofInt (l3)))] [] cs := by
  unfold wX11_isMixed_4 at hw
  obtain ⟨Iv, mu, h0, hs⟩ := hw
  have key : ∀ (n : Nat) (l1 l2 l3 : Int) (S : St) (cs : List va_E), mu l1 l2 l3 S < n → Iv l1 l2 l3 S → Wd G sh mT J S cs → Z (RX11, cX11_isMixed, 7, some .boolean, false) G d Post 4 [(0, .ref (G.1 + 54)), (1, .int (Int32.ofInt (l1))), (2, .int (Int32.ofInt (l2))), (3, .int (Int32.ofInt (l3)))] [] cs := by
    intro n
    induction n with
    | zero => intro l1 l2 l3 S cs hn; exact absurd hn (Nat.not_lt_zero _)
    | succ n ih =>
      intro l1 l2 l3 S cs hn hI hW
      exact bX11_isMixed_4' hd hJ hT hW hP  (fun l1 l2 l3 S cs hb hW => ih l1 l2 l3 S cs (Nat.lt_of_lt_of_le hb.2 (Nat.le_of_lt_succ hn)) hb.1 hW) (hs l1 l2 l3 S hI)
  exact key _ _ _ _ _ _ (Nat.lt_succ_self _) h0 hW
def wX11_isMixed (a1 : Int) (S : St) (K : Int → St → Prop) : Prop := rng a1 → wX11_isMixed_4 (a1) (0) (0) S K
set_option maxRecDepth 100000 in
set_option maxHeartbeats 4000000 in
theorem lX11_isMixed {G : xG} {sh : Nat → Option Sh} {J : St → List va_E → Prop} {a1 : Int} {S : St} {cs : List va_E} {K : Int → St → Prop} (d : Nat) (hd : 1 ≤ d) (hJ : Stb sh J) (hT : isM sh) (hW : Wd G sh mT J S cs) (g1 : rng a1) (hw : wX11_isMixed a1 S K) : X G yX11_isMixed cX11_isMixed 7 (some .boolean) d [.ref (G.1 + 54), .int (Int32.ofInt a1)] cs (qI G sh mT J K) := by
  refine X.of false (by decide +kernel) (by decide) (Nat.le_of_ble_eq_true rfl) ?_
  show Z (RX11, cX11_isMixed, 7, some .boolean, false) G d _ 0 [(0, .ref (G.1 + 54)), (1, .int (Int32.ofInt a1))] [] cs
  have hP : ∀ (v : Int) (S : St) (cs : List va_E), K v S → Wd G sh mT J S cs → qI G sh mT J K (some (.int (Int32.ofInt v))) cs := fun v S cs a b => ⟨v, S, rfl, a, b⟩
  unfold wX11_isMixed at hw
  have hw := hw g1
  refine z_iconst (v := Int32.ofInt 0) dX11_isMixed_0 rfl ?_
  refine z_istore_n dX11_isMixed_1 rfl (by decide) ?_
  refine z_loc (L' := [(0, .ref (G.1 + 54)), (1, .int (Int32.ofInt (a1))), (2, .int (Int32.ofInt (0)))]) (List.forall_mem_cons.mpr ⟨rfl, (List.forall_mem_cons.mpr ⟨rfl, (List.forall_mem_cons.mpr ⟨rfl, (fun _ h => nomatch h)⟩)⟩)⟩) ?_
  refine z_iconst (v := Int32.ofInt 0) dX11_isMixed_2 rfl ?_
  refine z_istore_n dX11_isMixed_3 rfl (by decide) ?_
  refine z_loc (L' := [(0, .ref (G.1 + 54)), (1, .int (Int32.ofInt (a1))), (2, .int (Int32.ofInt (0))), (3, .int (Int32.ofInt (0)))]) (List.forall_mem_cons.mpr ⟨rfl, (List.forall_mem_cons.mpr ⟨rfl, (List.forall_mem_cons.mpr ⟨rfl, (List.forall_mem_cons.mpr ⟨rfl, (fun _ h => nomatch h)⟩)⟩)⟩)⟩) ?_
  refine z_loc (L' := [(0, .ref (G.1 + 54)), (1, .int (Int32.ofInt (a1))), (2, .int (Int32.ofInt (0))), (3, .int (Int32.ofInt (0)))]) (List.forall_mem_cons.mpr ⟨rfl, (List.forall_mem_cons.mpr ⟨rfl, (List.forall_mem_cons.mpr ⟨rfl, (List.forall_mem_cons.mpr ⟨rfl, (fun _ h => nomatch h)⟩)⟩)⟩)⟩) ?_
  exact bX11_isMixed_4 hd hJ hT hW hP  hw

