def wX11_classNamed_42 (l1 l2 l4 s0 : Int) (S : St) (K : Int → St → Prop) (B6 : Int → Int → Int → Int → St → Prop) : Prop := B6 (l1) (l2) (s0) ((l4 + 1)) S
set_option maxRecDepth 100000 in
set_option maxHeartbeats 4000000 in
theorem bX11_classNamed_42 {G : xG} {sh : Nat → Option Sh} {J : St → List va_E → Prop} {d : Nat} {Post : xP} {l1 l2 l4 s0 : Int} {S : St} {cs : List va_E} {K : Int → St → Prop} {B6 : Int → Int → Int → Int → St → Prop} (hd : 2 ≤ d) (hJ : Stb sh J) (hT : isM sh) (hW : Wd G sh mT J S cs) (hP : ∀ (v : Int) (S : St) (cs : List va_E), K v S → Wd G sh mT J S cs → Post (some (.int (Int32.ofInt v))) cs) (hB6 : ∀ (l1 : Int) (l2 : Int) (l3 : Int) (l4 : Int) (S : St) (cs : List va_E), B6 l1 l2 l3 l4 S → Wd G sh mT J S cs → Z (RX11, cX11_classNamed, 5, some .int, false) G d Post 6 [(0, .ref (G.1 + 54)), (1, .int (Int32.ofInt (l1))), (2, .int (Int32.ofInt (l2))), (3, .int (Int32.ofInt (l3))), (4, .int (Int32.ofInt (l4)))] [] cs) (hw : wX11_classNamed_42 l1 l2 l4 s0 S K B6) : Z (RX11, cX11_classNamed, 5, some .int, false) G d Post 42 [(0, .ref (G.1 + 54)), (1, .int (Int32.ofInt (l1))), (2, .int (Int32.ofInt (l2))), (4, .int (Int32.ofInt (l4)))] [.int (Int32.ofInt (s0))] cs := by
  unfold wX11_classNamed_42 at hw
  refine z_istore_n dX11_classNamed_42 rfl (by decide) ?_
  refine i_iinc (l := l4) dX11_classNamed_43 rfl (by decide) ?_
  refine z_goto (tgt := 6) dX11_classNamed_46 (by decide) ?_
  refine z_loc (L' := [(0, .ref (G.1 + 54)), (1, .int (Int32.ofInt (l1))), (2, .int (Int32.ofInt (l2))), (3, .int (Int32.ofInt (s0))), (4, .int (Int32.ofInt ((l4 + 1))))]) (List.forall_mem_cons.mpr ⟨rfl, (List.forall_mem_cons.mpr ⟨rfl, (List.forall_mem_cons.mpr ⟨rfl, (List.forall_mem_cons.mpr ⟨rfl, (List.forall_mem_cons.mpr ⟨rfl, (fun _ h => nomatch h)⟩)⟩)⟩)⟩)⟩) ?_
  exact hB6 _ _ _ _ _ _ hw hW
def wX11_classNamed_41 (l1 l2 l3 l4 : Int) (S : St) (K : Int → St → Prop) (B6 : Int → Int → Int → Int → St → Prop) : Prop := wX11_classNamed_42 (l1) (l2) (l4) (l3) S K B6
set_option maxRecDepth 100000 in
set_option maxHeartbeats 4000000 in
theorem bX11_classNamed_41 {G : xG} {sh : Nat → Option Sh} {J : St → List va_E → Prop} {d : Nat} {Post : xP} {l1 l2 l3 l4 : Int} {S : St} {cs : List va_E} {K : Int → St → Prop} {B6 : Int → Int → Int → Int → St → Prop} (hd : 2 ≤ d) (hJ : Stb sh J) (hT : isM sh) (hW : Wd G sh mT J S cs) (hP : ∀ (v : Int) (S : St) (cs : List va_E), K v S → Wd G sh mT J S cs → Post (some (.int (Int32.ofInt v))) cs) (hB6 : ∀ (l1 : Int) (l2 : Int) (l3 : Int) (l4 : Int) (S : St) (cs : List va_E), B6 l1 l2 l3 l4 S → Wd G sh mT J S cs → Z (RX11, cX11_classNamed, 5, some .int, false) G d Post 6 [(0, .ref (G.1 + 54)), (1, .int (Int32.ofInt (l1))), (2, .int (Int32.ofInt (l2))), (3, .int (Int32.ofInt (l3))), (4, .int (Int32.ofInt (l4)))] [] cs) (hw : wX11_classNamed_41 l1 l2 l3 l4 S K B6) : Z (RX11, cX11_classNamed, 5, some .int, false) G d Post 41 [(0, .ref (G.1 + 54)), (1, .int (Int32.ofInt (l1))), (2, .int (Int32.ofInt (l2))), (3, .int (Int32.ofInt (l3))), (4, .int (Int32.ofInt (l4)))] [] cs := by
  unfold wX11_classNamed_41 at hw
  refine z_iload_n dX11_classNamed_41 rfl rfl ?_
  refine z_loc (L' := [(0, .ref (G.1 + 54)), (1, .int (Int32.ofInt (l1))), (2, .int (Int32.ofInt (l2))), (4, .int (Int32.ofInt (l4)))]) (List.forall_mem_cons.mpr ⟨rfl, (List.forall_mem_cons.mpr ⟨rfl, (List.forall_mem_cons.mpr ⟨rfl, (List.forall_mem_cons.mpr ⟨rfl, (fun _ h => nomatch h)⟩)⟩)⟩)⟩) ?_
  exact bX11_classNamed_42 hd hJ hT hW hP hB6 hw
def wX11_classNamed_6' (l1 l2 l3 l4 : Int) (S : St) (K : Int → St → Prop) (B6 : Int → Int → Int → Int → St → Prop) : Prop := (iv 0 6 (S.1 54 2) → (rng (l4) ∧ ((S.1 54 2 ≤ l4 → K (l3) S) ∧ ((¬ (S.1 54 2 ≤ l4)) → ((0 : Int) ≤ l4 ∧ l4 < (6 : Int) ∧ (iv 0 1 (S.2 61 (l4)) → ((¬ S.2 61 (l4) = 0 → wX11_classNamed_41 (l1) (l2) (l3) (l4) S K B6) ∧ ((¬ (¬ S.2 61 (l4) = 0)) → (rng (l1) ∧ (rng (l2) ∧ (wX11_isNamed (l1) (l2) (l4) S (fun r9 S10 => (rng (r9) ∧ ((r9 = 0 → wX11_classNamed_41 (l1) (l2) (l3) (l4) S10 K B6) ∧ ((¬ (r9 = 0)) → wX11_classNamed_42 (l1) (l2) (l4) (l4) S10 K B6)))))))))))))))
set_option maxRecDepth 100000 in
set_option maxHeartbeats 4000000 in
theorem bX11_classNamed_6' {G : xG} {sh : Nat → Option Sh} {J : St → List va_E → Prop} {d : Nat} {Post : xP} {l1 l2 l3 l4 : Int} {S : St} {cs : List va_E} {K : Int → St → Prop} {B6 : Int → Int → Int → Int → St → Prop} (hd : 2 ≤ d) (hJ : Stb sh J) (hT : isM sh) (hW : Wd G sh mT J S cs) (hP : ∀ (v : Int) (S : St) (cs : List va_E), K v S → Wd G sh mT J S cs → Post (some (.int (Int32.ofInt v))) cs) (hB6 : ∀ (l1 : Int) (l2 : Int) (l3 : Int) (l4 : Int) (S : St) (cs : List va_E), B6 l1 l2 l3 l4 S → Wd G sh mT J S cs → Z (RX11, cX11_classNamed, 5, some .int, false) G d Post 6 [(0, .ref (G.1 + 54)), (1, .int (Int32.ofInt (l1))), (2, .int (Int32.ofInt (l2))), (3, .int (Int32.ofInt (l3))), (4, .int (Int32.ofInt (l4)))] [] cs) (hw : wX11_classNamed_6' l1 l2 l3 l4 S K B6) : Z (RX11, cX11_classNamed, 5, some .int, false) G d Post 6 [(0, .ref (G.1 + 54)), (1, .int (Int32.ofInt (l1))), (2, .int (Int32.ofInt (l2))), (3, .int (Int32.ofInt (l3))), (4, .int (Int32.ofInt (l4)))] [] cs := by
  unfold wX11_classNamed_6' at hw
  refine z_iload dX11_classNamed_6 rfl ?_
  refine z_aload_n dX11_classNamed_8 rfl rfl ?_
  have q1 : iv 0 6 (S.1 54 2) := mI2 hW
  have hw := hw q1
  refine g_getI hW hT.1 mr2 kX11 fX11_238 dX11_classNamed_9 ?_
  obtain ⟨q3, hw⟩ := hw
  refine i_icmp_ge (tgt := 49) dX11_classNamed_12 (by decide) q3 (rngq q1 (by decide) (by decide)) (fun h2 => ?_) (fun h2 => ?_)
  · have hw := hw.1 h2
    refine z_iload_n dX11_classNamed_49 rfl rfl ?_
    exact z_ireturn dX11_classNamed_50 rfl rfl (hP _ _ _ hw hW)
  · have hw := hw.2 h2
    refine z_aload_n dX11_classNamed_15 rfl rfl ?_
    refine g_getR hW hT.1 mr8 kX11 fX11_29 dX11_classNamed_16 ?_
    refine z_iload dX11_classNamed_19 rfl ?_
    obtain ⟨q4a, q4b, hw⟩ := hw
    have q5 : iv 0 1 (S.2 61 (l4)) := mA61 hW _
    have hw := hw q5
    refine g_zald hW (ma61 hT) q4a q4b (by decide) dX11_classNamed_21 ?_
    refine i_if_ne (tgt := 41) dX11_classNamed_22 (by decide) (rngq q5 (by decide) (by decide)) (fun h6 => ?_) (fun h6 => ?_)
    · have hw := hw.1 h6
      refine z_loc (L' := [(0, .ref (G.1 + 54)), (1, .int (Int32.ofInt (l1))), (2, .int (Int32.ofInt (l2))), (3, .int (Int32.ofInt (l3))), (4, .int (Int32.ofInt (l4)))]) (List.forall_mem_cons.mpr ⟨rfl, (List.forall_mem_cons.mpr ⟨rfl, (List.forall_mem_cons.mpr ⟨rfl, (List.forall_mem_cons.mpr ⟨rfl, (List.forall_mem_cons.mpr ⟨rfl, (fun _ h => nomatch h)⟩)⟩)⟩)⟩)⟩) ?_
      exact bX11_classNamed_41 hd hJ hT hW hP hB6 hw
    · have hw := hw.2 h6
      refine z_aload_n dX11_classNamed_25 rfl rfl ?_
      refine z_iload_n dX11_classNamed_26 rfl rfl ?_
      refine z_iload_n dX11_classNamed_27 rfl rfl ?_
      refine z_iload dX11_classNamed_28 rfl ?_
      obtain ⟨q7, hw⟩ := hw
      obtain ⟨q8, hw⟩ := hw
      have hX := lX11_isNamed 1 (Nat.le_refl _) hJ hT hW q7 q8 q3 hw
      refine z_callV (As := [_, _, _]) eX11_isNamed sX11_isNamed lX11_414 rfl dX11_classNamed_30 (hW.1 _ _ hT.1) hX (Nat.le_trans (by decide) hd) rfl (Nat.le_of_ble_eq_true rfl) (fun r cs hp => ?_)
      obtain ⟨r9, S10, rfl, hw, hW⟩ := hp
      refine z_st (st' := [.int (Int32.ofInt (r9))]) rfl ?_
      obtain ⟨q12, hw⟩ := hw
      refine i_if_eq (tgt := 41) dX11_classNamed_33 (by decide) q12 (fun h11 => ?_) (fun h11 => ?_)
      · have hw := hw.1 h11
        refine z_loc (L' := [(0, .ref (G.1 + 54)), (1, .int (Int32.ofInt (l1))), (2, .int (Int32.ofInt (l2))), (3, .int (Int32.ofInt (l3))), (4, .int (Int32.ofInt (l4)))]) (List.forall_mem_cons.mpr ⟨rfl, (List.forall_mem_cons.mpr ⟨rfl, (List.forall_mem_cons.mpr ⟨rfl, (List.forall_mem_cons.mpr ⟨rfl, (List.forall_mem_cons.mpr ⟨rfl, (fun _ h => nomatch h)⟩)⟩)⟩)⟩)⟩) ?_
        exact bX11_classNamed_41 hd hJ hT hW hP hB6 hw
      · have hw := hw.2 h11
        refine z_iload dX11_classNamed_36 rfl ?_
        refine z_goto (tgt := 42) dX11_classNamed_38 (by decide) ?_
        refine z_loc (L' := [(0, .ref (G.1 + 54)), (1, .int (Int32.ofInt (l1))), (2, .int (Int32.ofInt (l2))), (4, .int (Int32.ofInt (l4)))]) (List.forall_mem_cons.mpr ⟨rfl, (List.forall_mem_cons.mpr ⟨rfl, (List.forall_mem_cons.mpr ⟨rfl, (List.forall_mem_cons.mpr ⟨rfl, (fun _ h => nomatch h)⟩)⟩)⟩)⟩) ?_
        exact bX11_classNamed_42 hd hJ hT hW hP hB6 hw
def wX11_classNamed_6 (l1 l2 l3 l4 : Int) (S : St) (K : Int → St → Prop) : Prop := ∃ (Iv : Int → Int → Int → Int → St → Prop) (mu : Int → Int → Int → Int → St → Nat), Iv l1 l2 l3 l4 S ∧ ∀ (l1 l2 l3 l4 : Int) (S : St), Iv l1 l2 l3 l4 S → wX11_classNamed_6' l1 l2 l3 l4 S K  (fun ml1 ml2 ml3 ml4 T => Iv ml1 ml2 ml3 ml4 T ∧ mu ml1 ml2 ml3 ml4 T < mu l1 l2 l3 l4 S)
set_option maxRecDepth 100000 in
set_option maxHeartbeats 4000000 in
theorem bX11_classNamed_6 {G : xG} {sh : Nat → Option Sh} {J : St → List va_E → Prop} {d : Nat} {Post : xP} {l1 l2 l3 l4 : Int} {S : St} {cs : List va_E} {K : Int → St → Prop} (hd : 2 ≤ d) (hJ : Stb sh J) (hT : isM sh) (hW : Wd G sh mT J S cs) (hP : ∀ (v : Int) (S : St) (cs : List va_E), K v S → Wd G sh mT J S cs → Post (some (.int (Int32.ofInt v))) cs)  (hw : wX11_classNamed_6 l1 l2 l3 l4 S K ) : Z (RX11, cX11_classNamed, 5, some .int, false) G d Post 6 [(0, .ref (G.1 + 54)), (1, .int (Int32.ofInt (l1))), (2, .int (Int32.ofInt (l2))), (3, .int (Int32.ofInt (l3))), (4, .int (Int32.ofInt (l4)))] [] cs := by
  unfold wX11_classNamed_6 at hw
  obtain ⟨Iv, mu, h0, hs⟩ := hw
  have key : ∀ (n : Nat) (l1 l2 l3 l4 : Int) (S : St) (cs : List va_E), mu l1 l2 l3 l4 S < n → Iv l1 l2 l3 l4 S → Wd G sh mT J S cs → Z (RX11, cX11_classNamed, 5, some .int, false) G d Post 6 [(0, .ref (G.1 + 54)), (1, .int (Int32.ofInt (l1))), (2, .int (Int32.ofInt (l2))), (3, .int (Int32.ofInt (l3))), (4, .int (Int32.ofInt (l4)))] [] cs := by
    intro n
    induction n with
    | zero => intro l1 l2 l3 l4 S cs hn; exact absurd hn (Nat.not_lt_zero _)
    | succ n ih =>
      intro l1 l2 l3 l4 S cs hn hI hW
      exact bX11_classNamed_6' hd hJ hT hW hP  (fun l1 l2 l3 l4 S cs hb hW => ih l1 l2 l3 l4 S cs (Nat.lt_of_lt_of_le hb.2 (Nat.le_of_lt_succ hn)) hb.1 hW) (hs l1 l2 l3 l4 S hI)
  exact key _ _ _ _ _ _ _ (Nat.lt_succ_self _) h0 hW
def wX11_classNamed (a1 a2 : Int) (S : St) (K : Int → St → Prop) : Prop := rng a1 → rng a2 → wX11_classNamed_6 (a1) (a2) ((-2)) (0) S K
set_option maxRecDepth 100000 in
set_option maxHeartbeats 4000000 in
theorem lX11_classNamed {G : xG} {sh : Nat → Option Sh} {J : St → List va_E → Prop} {a1 a2 : Int} {S : St} {cs : List va_E} {K : Int → St → Prop} (d : Nat) (hd : 2 ≤ d) (hJ : Stb sh J) (hT : isM sh) (hW : Wd G sh mT J S cs) (g1 : rng a1) (g2 : rng a2) (hw : wX11_classNamed a1 a2 S K) : X G yX11_classNamed cX11_classNamed 5 (some .int) d [.ref (G.1 + 54), .int (Int32.ofInt a1), .int (Int32.ofInt a2)] cs (qI G sh mT J K) := by
  refine X.of false (by decide +kernel) (by decide) (Nat.le_of_ble_eq_true rfl) ?_
  show Z (RX11, cX11_classNamed, 5, some .int, false) G d _ 0 [(0, .ref (G.1 + 54)), (1, .int (Int32.ofInt a1)), (2, .int (Int32.ofInt a2))] [] cs
  have hP : ∀ (v : Int) (S : St) (cs : List va_E), K v S → Wd G sh mT J S cs → qI G sh mT J K (some (.int (Int32.ofInt v))) cs := fun v S cs a b => ⟨v, S, rfl, a, b⟩
  unfold wX11_classNamed at hw
  have hw := hw g1 g2
  refine z_bipush (v := Int32.ofInt (-2)) dX11_classNamed_0 (by decide) ?_
  refine z_istore_n dX11_classNamed_2 rfl (by decide) ?_
  refine z_iconst (v := Int32.ofInt 0) dX11_classNamed_3 rfl ?_
  refine z_istore dX11_classNamed_4 (by decide) ?_
  refine z_loc (L' := [(0, .ref (G.1 + 54)), (1, .int (Int32.ofInt (a1))), (2, .int (Int32.ofInt (a2))), (3, .int (Int32.ofInt ((-2)))), (4, .int (Int32.ofInt (0)))]) (List.forall_mem_cons.mpr ⟨rfl, (List.forall_mem_cons.mpr ⟨rfl, (List.forall_mem_cons.mpr ⟨rfl, (List.forall_mem_cons.mpr ⟨rfl, (List.forall_mem_cons.mpr ⟨rfl, (fun _ h => nomatch h)⟩)⟩)⟩)⟩)⟩) ?_
  exact bX11_classNamed_6 hd hJ hT hW hP  hw

def wX11_classOfValue_109 (l1 l3 s0 : Int) (S : St) (K : Int → St → Prop) (B5 : Int → Int → Int → St → Prop) : Prop := B5 (l1) (s0) ((l3 + 1)) S
set_option maxRecDepth 100000 in
set_option maxHeartbeats 4000000 in
theorem bX11_classOfValue_109 {G : xG} {sh : Nat → Option Sh} {J : St → List va_E → Prop} {d : Nat} {Post : xP} {l1 l3 s0 : Int} {S : St} {cs : List va_E} {K : Int → St → Prop} {B5 : Int → Int → Int → St → Prop} (hd : 1 ≤ d) (hJ : Stb sh J) (hT : isM sh) (hW : Wd G sh mT J S cs) (hP : ∀ (v : Int) (S : St) (cs : List va_E), K v S → Wd G sh mT J S cs → Post (some (.int (Int32.ofInt v))) cs) (hB5 : ∀ (l1 : Int) (l2 : Int) (l3 : Int) (S : St) (cs : List va_E), B5 l1 l2 l3 S → Wd G sh mT J S cs → Z (RX11, cX11_classOfValue, 6, some .int, false) G d Post 5 [(0, .ref (G.1 + 54)), (1, .int (Int32.ofInt (l1))), (2, .int (Int32.ofInt (l2))), (3, .int (Int32.ofInt (l3)))] [] cs) (hw : wX11_classOfValue_109 l1 l3 s0 S K B5) : Z (RX11, cX11_classOfValue, 6, some .int, false) G d Post 109 [(0, .ref (G.1 + 54)), (1, .int (Int32.ofInt (l1))), (3, .int (Int32.ofInt (l3)))] [.int (Int32.ofInt (s0))] cs := by
  unfold wX11_classOfValue_109 at hw
  refine z_istore_n dX11_classOfValue_109 rfl (by decide) ?_
  refine i_iinc (l := l3) dX11_classOfValue_110 rfl (by decide) ?_
  refine z_goto (tgt := 5) dX11_classOfValue_113 (by decide) ?_
  refine z_loc (L' := [(0, .ref (G.1 + 54)), (1, .int (Int32.ofInt (l1))), (2, .int (Int32.ofInt (s0))), (3, .int (Int32.ofInt ((l3 + 1))))]) (List.forall_mem_cons.mpr ⟨rfl, (List.forall_mem_cons.mpr ⟨rfl, (List.forall_mem_cons.mpr ⟨rfl, (List.forall_mem_cons.mpr ⟨rfl, (fun _ h => nomatch h)⟩)⟩)⟩)⟩) ?_
  exact hB5 _ _ _ _ _ hw hW
def wX11_classOfValue_99 (l1 l2 l3 l4 : Int) (S : St) (K : Int → St → Prop) (B5 : Int → Int → Int → St → Prop) : Prop := (rng (l4) ∧ ((l4 = 0 → wX11_classOfValue_109 (l1) (l3) (l2) S K B5) ∧ ((¬ (l4 = 0)) → wX11_classOfValue_109 (l1) (l3) (l3) S K B5)))
set_option maxRecDepth 100000 in
set_option maxHeartbeats 4000000 in
theorem bX11_classOfValue_99 {G : xG} {sh : Nat → Option Sh} {J : St → List va_E → Prop} {d : Nat} {Post : xP} {l1 l2 l3 l4 : Int} {S : St} {cs : List va_E} {K : Int → St → Prop} {B5 : Int → Int → Int → St → Prop} (hd : 1 ≤ d) (hJ : Stb sh J) (hT : isM sh) (hW : Wd G sh mT J S cs) (hP : ∀ (v : Int) (S : St) (cs : List va_E), K v S → Wd G sh mT J S cs → Post (some (.int (Int32.ofInt v))) cs) (hB5 : ∀ (l1 : Int) (l2 : Int) (l3 : Int) (S : St) (cs : List va_E), B5 l1 l2 l3 S → Wd G sh mT J S cs → Z (RX11, cX11_classOfValue, 6, some .int, false) G d Post 5 [(0, .ref (G.1 + 54)), (1, .int (Int32.ofInt (l1))), (2, .int (Int32.ofInt (l2))), (3, .int (Int32.ofInt (l3)))] [] cs) (hw : wX11_classOfValue_99 l1 l2 l3 l4 S K B5) : Z (RX11, cX11_classOfValue, 6, some .int, false) G d Post 99 [(0, .ref (G.1 + 54)), (1, .int (Int32.ofInt (l1))), (2, .int (Int32.ofInt (l2))), (3, .int (Int32.ofInt (l3))), (4, .int (Int32.ofInt (l4)))] [] cs := by
  unfold wX11_classOfValue_99 at hw
  refine z_iload dX11_classOfValue_99 rfl ?_
  obtain ⟨q2, hw⟩ := hw
  refine i_if_eq (tgt := 108) dX11_classOfValue_101 (by decide) q2 (fun h1 => ?_) (fun h1 => ?_)
  · have hw := hw.1 h1
    refine z_iload_n dX11_classOfValue_108 rfl rfl ?_
    refine z_loc (L' := [(0, .ref (G.1 + 54)), (1, .int (Int32.ofInt (l1))), (3, .int (Int32.ofInt (l3)))]) (List.forall_mem_cons.mpr ⟨rfl, (List.forall_mem_cons.mpr ⟨rfl, (List.forall_mem_cons.mpr ⟨rfl, (fun _ h => nomatch h)⟩)⟩)⟩) ?_
    exact bX11_classOfValue_109 hd hJ hT hW hP hB5 hw
  · have hw := hw.2 h1
    refine z_iload_n dX11_classOfValue_104 rfl rfl ?_
    refine z_goto (tgt := 109) dX11_classOfValue_105 (by decide) ?_
    refine z_loc (L' := [(0, .ref (G.1 + 54)), (1, .int (Int32.ofInt (l1))), (3, .int (Int32.ofInt (l3)))]) (List.forall_mem_cons.mpr ⟨rfl, (List.forall_mem_cons.mpr ⟨rfl, (List.forall_mem_cons.mpr ⟨rfl, (fun _ h => nomatch h)⟩)⟩)⟩) ?_
    exact bX11_classOfValue_109 hd hJ hT hW hP hB5 hw
def wX11_classOfValue_91 (l1 l2 l3 l5 s0 : Int) (S : St) (K : Int → St → Prop) (B5 : Int → Int → Int → St → Prop) (B46 : Int → Int → Int → Int → Int → St → Prop) : Prop := B46 (l1) (l2) (l3) (s0) ((l5 + 1)) S
set_option maxRecDepth 100000 in
set_option maxHeartbeats 4000000 in
theorem bX11_classOfValue_91 {G : xG} {sh : Nat → Option Sh} {J : St → List va_E → Prop} {d : Nat} {Post : xP} {l1 l2 l3 l5 s0 : Int} {S : St} {cs : List va_E} {K : Int → St → Prop} {B5 : Int → Int → Int → St → Prop} {B46 : Int → Int → Int → Int → Int → St → Prop} (hd : 1 ≤ d) (hJ : Stb sh J) (hT : isM sh) (hW : Wd G sh mT J S cs) (hP : ∀ (v : Int) (S : St) (cs : List va_E), K v S → Wd G sh mT J S cs → Post (some (.int (Int32.ofInt v))) cs) (hB5 : ∀ (l1 : Int) (l2 : Int) (l3 : Int) (S : St) (cs : List va_E), B5 l1 l2 l3 S → Wd G sh mT J S cs → Z (RX11, cX11_classOfValue, 6, some .int, false) G d Post 5 [(0, .ref (G.1 + 54)), (1, .int (Int32.ofInt (l1))), (2, .int (Int32.ofInt (l2))), (3, .int (Int32.ofInt (l3)))] [] cs) (hB46 : ∀ (l1 : Int) (l2 : Int) (l3 : Int) (l4 : Int) (l5 : Int) (S : St) (cs : List va_E), B46 l1 l2 l3 l4 l5 S → Wd G sh mT J S cs → Z (RX11, cX11_classOfValue, 6, some .int, false) G d Post 46 [(0, .ref (G.1 + 54)), (1, .int (Int32.ofInt (l1))), (2, .int (Int32.ofInt (l2))), (3, .int (Int32.ofInt (l3))), (4, .int (Int32.ofInt (l4))), (5, .int (Int32.ofInt (l5)))] [] cs) (hw : wX11_classOfValue_91 l1 l2 l3 l5 s0 S K B5 B46) : Z (RX11, cX11_classOfValue, 6, some .int, false) G d Post 91 [(0, .ref (G.1 + 54)), (1, .int (Int32.ofInt (l1))), (2, .int (Int32.ofInt (l2))), (3, .int (Int32.ofInt (l3))), (5, .int (Int32.ofInt (l5)))] [.int (Int32.ofInt (s0))] cs := by
  unfold wX11_classOfValue_91 at hw
  refine z_istore dX11_classOfValue_91 (by decide) ?_
  refine i_iinc (l := l5) dX11_classOfValue_93 rfl (by decide) ?_
  refine z_goto (tgt := 46) dX11_classOfValue_96 (by decide) ?_
  refine z_loc (L' := [(0, .ref (G.1 + 54)), (1, .int (Int32.ofInt (l1))), (2, .int (Int32.ofInt (l2))), (3, .int (Int32.ofInt (l3))), (4, .int (Int32.ofInt (s0))), (5, .int (Int32.ofInt ((l5 + 1))))]) (List.forall_mem_cons.mpr ⟨rfl, (List.forall_mem_cons.mpr ⟨rfl, (List.forall_mem_cons.mpr ⟨rfl, (List.forall_mem_cons.mpr ⟨rfl, (List.forall_mem_cons.mpr ⟨rfl, (List.forall_mem_cons.mpr ⟨rfl, (fun _ h => nomatch h)⟩)⟩)⟩)⟩)⟩)⟩) ?_
  exact hB46 _ _ _ _ _ _ _ hw hW
def wX11_classOfValue_46' (l1 l2 l3 l4 l5 : Int) (S : St) (K : Int → St → Prop) (B5 : Int → Int → Int → St → Prop) (B46 : Int → Int → Int → Int → Int → St → Prop) : Prop := ((0 : Int) ≤ l1 ∧ l1 < (600 : Int) ∧ (iv 0 3000 (S.2 95 (l1)) → (rng (l5) ∧ ((S.2 95 (l1) ≤ l5 → wX11_classOfValue_99 (l1) (l2) (l3) (l4) S K B5) ∧ ((¬ (S.2 95 (l1) ≤ l5)) → (rng (l4) ∧ ((l4 = 0 → wX11_classOfValue_99 (l1) (l2) (l3) (l4) S K B5) ∧ ((¬ (l4 = 0)) → ((0 : Int) ≤ l1 ∧ l1 < (600 : Int) ∧ (iv 0 3000 (S.2 94 (l1)) → ((0 : Int) ≤ (S.2 94 (l1) + l5) ∧ (S.2 94 (l1) + l5) < (3000 : Int) ∧ (iv (-2147483648) 2147483647 (S.2 96 ((S.2 94 (l1) + l5))) → (rng (l3) ∧ (wX11_writtenSign (l3) (l5) S (fun r12 S13 => (rng (r12) ∧ ((¬ S.2 96 ((S.2 94 (l1) + l5)) = r12 → wX11_classOfValue_91 (l1) (l2) (l3) (l5) (0) S13 K B5 B46) ∧ ((¬ (¬ S.2 96 ((S.2 94 (l1) + l5)) = r12)) → wX11_classOfValue_91 (l1) (l2) (l3) (l5) (1) S13 K B5 B46))))))))))))))))))
set_option maxRecDepth 100000 in
set_option maxHeartbeats 4000000 in
theorem bX11_classOfValue_46' {G : xG} {sh : Nat → Option Sh} {J : St → List va_E → Prop} {d : Nat} {Post : xP} {l1 l2 l3 l4 l5 : Int} {S : St} {cs : List va_E} {K : Int → St → Prop} {B5 : Int → Int → Int → St → Prop} {B46 : Int → Int → Int → Int → Int → St → Prop} (hd : 1 ≤ d) (hJ : Stb sh J) (hT : isM sh) (hW : Wd G sh mT J S cs) (hP : ∀ (v : Int) (S : St) (cs : List va_E), K v S → Wd G sh mT J S cs → Post (some (.int (Int32.ofInt v))) cs) (hB5 : ∀ (l1 : Int) (l2 : Int) (l3 : Int) (S : St) (cs : List va_E), B5 l1 l2 l3 S → Wd G sh mT J S cs → Z (RX11, cX11_classOfValue, 6, some .int, false) G d Post 5 [(0, .ref (G.1 + 54)), (1, .int (Int32.ofInt (l1))), (2, .int (Int32.ofInt (l2))), (3, .int (Int32.ofInt (l3)))] [] cs) (hB46 : ∀ (l1 : Int) (l2 : Int) (l3 : Int) (l4 : Int) (l5 : Int) (S : St) (cs : List va_E), B46 l1 l2 l3 l4 l5 S → Wd G sh mT J S cs → Z (RX11, cX11_classOfValue, 6, some .int, false) G d Post 46 [(0, .ref (G.1 + 54)), (1, .int (Int32.ofInt (l1))), (2, .int (Int32.ofInt (l2))), (3, .int (Int32.ofInt (l3))), (4, .int (Int32.ofInt (l4))), (5, .int (Int32.ofInt (l5)))] [] cs) (hw : wX11_classOfValue_46' l1 l2 l3 l4 l5 S K B5 B46) : Z (RX11, cX11_classOfValue, 6, some .int, false) G d Post 46 [(0, .ref (G.1 + 54)), (1, .int (Int32.ofInt (l1))), (2, .int (Int32.ofInt (l2))), (3, .int (Int32.ofInt (l3))), (4, .int (Int32.ofInt (l4))), (5, .int (Int32.ofInt (l5)))] [] cs := by
  unfold wX11_classOfValue_46' at hw
  refine z_iload dX11_classOfValue_46 rfl ?_
  refine z_aload_n dX11_classOfValue_48 rfl rfl ?_
  refine g_getR hW hT.1 mr55 kX11 fX11_135 dX11_classOfValue_49 ?_
  refine z_iload_n dX11_classOfValue_52 rfl rfl ?_
  obtain ⟨q1a, q1b, hw⟩ := hw
  have q2 : iv 0 3000 (S.2 95 (l1)) := mA95 hW _
  have hw := hw q2
  refine g_iald hW (ma95 hT) q1a q1b (by decide) dX11_classOfValue_53 ?_
  obtain ⟨q4, hw⟩ := hw
  refine i_icmp_ge (tgt := 99) dX11_classOfValue_54 (by decide) q4 (rngq q2 (by decide) (by decide)) (fun h3 => ?_) (fun h3 => ?_)
  · have hw := hw.1 h3
    refine z_loc (L' := [(0, .ref (G.1 + 54)), (1, .int (Int32.ofInt (l1))), (2, .int (Int32.ofInt (l2))), (3, .int (Int32.ofInt (l3))), (4, .int (Int32.ofInt (l4)))]) (List.forall_mem_cons.mpr ⟨rfl, (List.forall_mem_cons.mpr ⟨rfl, (List.forall_mem_cons.mpr ⟨rfl, (List.forall_mem_cons.mpr ⟨rfl, (List.forall_mem_cons.mpr ⟨rfl, (fun _ h => nomatch h)⟩)⟩)⟩)⟩)⟩) ?_
    exact bX11_classOfValue_99 hd hJ hT hW hP hB5 hw
  · have hw := hw.2 h3
    refine z_iload dX11_classOfValue_57 rfl ?_
    obtain ⟨q6, hw⟩ := hw
    refine i_if_eq (tgt := 99) dX11_classOfValue_59 (by decide) q6 (fun h5 => ?_) (fun h5 => ?_)
    · have hw := hw.1 h5
      refine z_loc (L' := [(0, .ref (G.1 + 54)), (1, .int (Int32.ofInt (l1))), (2, .int (Int32.ofInt (l2))), (3, .int (Int32.ofInt (l3))), (4, .int (Int32.ofInt (l4)))]) (List.forall_mem_cons.mpr ⟨rfl, (List.forall_mem_cons.mpr ⟨rfl, (List.forall_mem_cons.mpr ⟨rfl, (List.forall_mem_cons.mpr ⟨rfl, (List.forall_mem_cons.mpr ⟨rfl, (fun _ h => nomatch h)⟩)⟩)⟩)⟩)⟩) ?_
      exact bX11_classOfValue_99 hd hJ hT hW hP hB5 hw
    · have hw := hw.2 h5
      refine z_aload_n dX11_classOfValue_62 rfl rfl ?_
      refine g_getR hW hT.1 mr57 kX11 fX11_138 dX11_classOfValue_63 ?_
      refine z_aload_n dX11_classOfValue_66 rfl rfl ?_
      refine g_getR hW hT.1 mr54 kX11 fX11_132 dX11_classOfValue_67 ?_
      refine z_iload_n dX11_classOfValue_70 rfl rfl ?_
      obtain ⟨q7a, q7b, hw⟩ := hw
      have q8 : iv 0 3000 (S.2 94 (l1)) := mA94 hW _
      have hw := hw q8
      refine g_iald hW (ma94 hT) q7a q7b (by decide) dX11_classOfValue_71 ?_
      refine z_iload dX11_classOfValue_72 rfl ?_
      refine i_iadd dX11_classOfValue_74 ?_
      obtain ⟨q9a, q9b, hw⟩ := hw
      have q10 : iv (-2147483648) 2147483647 (S.2 96 ((S.2 94 (l1) + l5))) := mA96 hW _
      have hw := hw q10
      refine g_iald hW (ma96 hT) q9a q9b (by decide) dX11_classOfValue_75 ?_
      refine z_aload_n dX11_classOfValue_76 rfl rfl ?_
      refine z_iload_n dX11_classOfValue_77 rfl rfl ?_
      refine z_iload dX11_classOfValue_78 rfl ?_
      obtain ⟨q11, hw⟩ := hw
      have hX := lX11_writtenSign 0 (Nat.le_refl _) hJ hT hW q11 q4 hw
      refine z_callV (As := [_, _]) eX11_writtenSign sX11_writtenSign lX11_411 rfl dX11_classOfValue_80 (hW.1 _ _ hT.1) hX (Nat.le_trans (by decide) hd) rfl (Nat.le_of_ble_eq_true rfl) (fun r cs hp => ?_)
      obtain ⟨r12, S13, rfl, hw, hW⟩ := hp
      refine z_st (st' := [.int (Int32.ofInt (r12)), .int (Int32.ofInt (S.2 96 ((S.2 94 (l1) + l5))))]) rfl ?_
      obtain ⟨q15, hw⟩ := hw
      refine i_icmp_ne (tgt := 90) dX11_classOfValue_83 (by decide) (rngq q10 (by decide) (by decide)) q15 (fun h14 => ?_) (fun h14 => ?_)
      · have hw := hw.1 h14
        refine z_iconst (v := Int32.ofInt 0) dX11_classOfValue_90 rfl ?_
        refine z_loc (L' := [(0, .ref (G.1 + 54)), (1, .int (Int32.ofInt (l1))), (2, .int (Int32.ofInt (l2))), (3, .int (Int32.ofInt (l3))), (5, .int (Int32.ofInt (l5)))]) (List.forall_mem_cons.mpr ⟨rfl, (List.forall_mem_cons.mpr ⟨rfl, (List.forall_mem_cons.mpr ⟨rfl, (List.forall_mem_cons.mpr ⟨rfl, (List.forall_mem_cons.mpr ⟨rfl, (fun _ h => nomatch h)⟩)⟩)⟩)⟩)⟩) ?_
        exact bX11_classOfValue_91 hd hJ hT hW hP hB5 hB46 hw
      · have hw := hw.2 h14
        refine z_iconst (v := Int32.ofInt 1) dX11_classOfValue_86 rfl ?_
        refine z_goto (tgt := 91) dX11_classOfValue_87 (by decide) ?_
        refine z_loc (L' := [(0, .ref (G.1 + 54)), (1, .int (Int32.ofInt (l1))), (2, .int (Int32.ofInt (l2))), (3, .int (Int32.ofInt (l3))), (5, .int (Int32.ofInt (l5)))]) (List.forall_mem_cons.mpr ⟨rfl, (List.forall_mem_cons.mpr ⟨rfl, (List.forall_mem_cons.mpr ⟨rfl, (List.forall_mem_cons.mpr ⟨rfl, (List.forall_mem_cons.mpr ⟨rfl, (fun _ h => nomatch h)⟩)⟩)⟩)⟩)⟩) ?_
        exact bX11_classOfValue_91 hd hJ hT hW hP hB5 hB46 hw
def wX11_classOfValue_46 (l1 l2 l3 l4 l5 : Int) (S : St) (K : Int → St → Prop) (B5 : Int → Int → Int → St → Prop) : Prop := ∃ (Iv : Int → Int → Int → Int → Int → St → Prop) (mu : Int → Int → Int → Int → Int → St → Nat), Iv l1 l2 l3 l4 l5 S ∧ ∀ (l1 l2 l3 l4 l5 : Int) (S : St), Iv l1 l2 l3 l4 l5 S → wX11_classOfValue_46' l1 l2 l3 l4 l5 S K B5 (fun ml1 ml2 ml3 ml4 ml5 T => Iv ml1 ml2 ml3 ml4 ml5 T ∧ mu ml1 ml2 ml3 ml4 ml5 T < mu l1 l2 l3 l4 l5 S)
set_option maxRecDepth 100000 in
set_option maxHeartbeats 4000000 in
theorem bX11_classOfValue_46 {G : xG} {sh : Nat → Option Sh} {J : St → List va_E → Prop} {d : Nat} {Post : xP} {l1 l2 l3 l4 l5 : Int} {S : St} {cs : List va_E} {K : Int → St → Prop} {B5 : Int → Int → Int → St → Prop} (hd : 1 ≤ d) (hJ : Stb sh J) (hT : isM sh) (hW : Wd G sh mT J S cs) (hP : ∀ (v : Int) (S : St) (cs : List va_E), K v S → Wd G sh mT J S cs → Post (some (.int (Int32.ofInt v))) cs) (hB5 : ∀ (l1 : Int) (l2 : Int) (l3 : Int) (S : St) (cs : List va_E), B5 l1 l2 l3 S → Wd G sh mT J S cs → Z (RX11, cX11_classOfValue, 6, some .int, false) G d Post 5 [(0, .ref (G.1 + 54)), (1, .int (Int32.ofInt (l1))), (2, .int (Int32.ofInt (l2))), (3, .int (Int32.ofInt (l3)))] [] cs) (hw : wX11_classOfValue_46 l1 l2 l3 l4 l5 S K B5) : Z (RX11, cX11_classOfValue, 6, some .int, false) G d Post 46 [(0, .ref (G.1 + 54)), (1, .int (Int32.ofInt (l1))), (2, .int (Int32.ofInt (l2))), (3, .int (Int32.ofInt (l3))), (4, .int (Int32.ofInt (l4))), (5, .int (Int32.ofInt (l5)))] [] cs := by
  unfold wX11_classOfValue_46 at hw
  obtain ⟨Iv, mu, h0, hs⟩ := hw
  have key : ∀ (n : Nat) (l1 l2 l3 l4 l5 : Int) (S : St) (cs : List va_E), mu l1 l2 l3 l4 l5 S < n → Iv l1 l2 l3 l4 l5 S → Wd G sh mT J S cs → Z (RX11, cX11_classOfValue, 6, some .int, false) G d Post 46 [(0, .ref (G.1 + 54)), (1, .int (Int32.ofInt (l1))), (2, .int (Int32.ofInt (l2))), (3, .int (Int32.ofInt (l3))), (4, .int (Int32.ofInt (l4))), (5, .int (Int32.ofInt (l5)))] [] cs := by
    intro n
    induction n with
    | zero => intro l1 l2 l3 l4 l5 S cs hn; exact absurd hn (Nat.not_lt_zero _)
    | succ n ih =>
      intro l1 l2 l3 l4 l5 S cs hn hI hW
      exact bX11_classOfValue_46' hd hJ hT hW hP hB5 (fun l1 l2 l3 l4 l5 S cs hb hW => ih l1 l2 l3 l4 l5 S cs (Nat.lt_of_lt_of_le hb.2 (Nat.le_of_lt_succ hn)) hb.1 hW) (hs l1 l2 l3 l4 l5 S hI)
  exact key _ _ _ _ _ _ _ _ (Nat.lt_succ_self _) h0 hW
def wX11_classOfValue_41 (l1 l2 l3 s0 : Int) (S : St) (K : Int → St → Prop) (B5 : Int → Int → Int → St → Prop) : Prop := wX11_classOfValue_46 (l1) (l2) (l3) (s0) (0) S K B5
set_option maxRecDepth 100000 in
set_option maxHeartbeats 4000000 in
theorem bX11_classOfValue_41 {G : xG} {sh : Nat → Option Sh} {J : St → List va_E → Prop} {d : Nat} {Post : xP} {l1 l2 l3 s0 : Int} {S : St} {cs : List va_E} {K : Int → St → Prop} {B5 : Int → Int → Int → St → Prop} (hd : 1 ≤ d) (hJ : Stb sh J) (hT : isM sh) (hW : Wd G sh mT J S cs) (hP : ∀ (v : Int) (S : St) (cs : List va_E), K v S → Wd G sh mT J S cs → Post (some (.int (Int32.ofInt v))) cs) (hB5 : ∀ (l1 : Int) (l2 : Int) (l3 : Int) (S : St) (cs : List va_E), B5 l1 l2 l3 S → Wd G sh mT J S cs → Z (RX11, cX11_classOfValue, 6, some .int, false) G d Post 5 [(0, .ref (G.1 + 54)), (1, .int (Int32.ofInt (l1))), (2, .int (Int32.ofInt (l2))), (3, .int (Int32.ofInt (l3)))] [] cs) (hw : wX11_classOfValue_41 l1 l2 l3 s0 S K B5) : Z (RX11, cX11_classOfValue, 6, some .int, false) G d Post 41 [(0, .ref (G.1 + 54)), (1, .int (Int32.ofInt (l1))), (2, .int (Int32.ofInt (l2))), (3, .int (Int32.ofInt (l3)))] [.int (Int32.ofInt (s0))] cs := by
  unfold wX11_classOfValue_41 at hw
  refine z_istore dX11_classOfValue_41 (by decide) ?_
  refine z_iconst (v := Int32.ofInt 0) dX11_classOfValue_43 rfl ?_
  refine z_istore dX11_classOfValue_44 (by decide) ?_
  refine z_loc (L' := [(0, .ref (G.1 + 54)), (1, .int (Int32.ofInt (l1))), (2, .int (Int32.ofInt (l2))), (3, .int (Int32.ofInt (l3))), (4, .int (Int32.ofInt (s0))), (5, .int (Int32.ofInt (0)))]) (List.forall_mem_cons.mpr ⟨rfl, (List.forall_mem_cons.mpr ⟨rfl, (List.forall_mem_cons.mpr ⟨rfl, (List.forall_mem_cons.mpr ⟨rfl, (List.forall_mem_cons.mpr ⟨rfl, (List.forall_mem_cons.mpr ⟨rfl, (fun _ h => nomatch h)⟩)⟩)⟩)⟩)⟩)⟩) ?_
  exact bX11_classOfValue_46 hd hJ hT hW hP hB5 hw
def wX11_classOfValue_40 (l1 l2 l3 : Int) (S : St) (K : Int → St → Prop) (B5 : Int → Int → Int → St → Prop) : Prop := wX11_classOfValue_41 (l1) (l2) (l3) (0) S K B5
set_option maxRecDepth 100000 in
set_option maxHeartbeats 4000000 in
theorem bX11_classOfValue_40 {G : xG} {sh : Nat → Option Sh} {J : St → List va_E → Prop} {d : Nat} {Post : xP} {l1 l2 l3 : Int} {S : St} {cs : List va_E} {K : Int → St → Prop} {B5 : Int → Int → Int → St → Prop} (hd : 1 ≤ d) (hJ : Stb sh J) (hT : isM sh) (hW : Wd G sh mT J S cs) (hP : ∀ (v : Int) (S : St) (cs : List va_E), K v S → Wd G sh mT J S cs → Post (some (.int (Int32.ofInt v))) cs) (hB5 : ∀ (l1 : Int) (l2 : Int) (l3 : Int) (S : St) (cs : List va_E), B5 l1 l2 l3 S → Wd G sh mT J S cs → Z (RX11, cX11_classOfValue, 6, some .int, false) G d Post 5 [(0, .ref (G.1 + 54)), (1, .int (Int32.ofInt (l1))), (2, .int (Int32.ofInt (l2))), (3, .int (Int32.ofInt (l3)))] [] cs) (hw : wX11_classOfValue_40 l1 l2 l3 S K B5) : Z (RX11, cX11_classOfValue, 6, some .int, false) G d Post 40 [(0, .ref (G.1 + 54)), (1, .int (Int32.ofInt (l1))), (2, .int (Int32.ofInt (l2))), (3, .int (Int32.ofInt (l3)))] [] cs := by
  unfold wX11_classOfValue_40 at hw
  refine z_iconst (v := Int32.ofInt 0) dX11_classOfValue_40 rfl ?_
  refine z_loc (L' := [(0, .ref (G.1 + 54)), (1, .int (Int32.ofInt (l1))), (2, .int (Int32.ofInt (l2))), (3, .int (Int32.ofInt (l3)))]) (List.forall_mem_cons.mpr ⟨rfl, (List.forall_mem_cons.mpr ⟨rfl, (List.forall_mem_cons.mpr ⟨rfl, (List.forall_mem_cons.mpr ⟨rfl, (fun _ h => nomatch h)⟩)⟩)⟩)⟩) ?_
  exact bX11_classOfValue_41 hd hJ hT hW hP hB5 hw
def wX11_classOfValue_5' (l1 l2 l3 : Int) (S : St) (K : Int → St → Prop) (B5 : Int → Int → Int → St → Prop) : Prop := (iv 0 6 (S.1 54 2) → (rng (l3) ∧ ((S.1 54 2 ≤ l3 → K (l2) S) ∧ ((¬ (S.1 54 2 ≤ l3)) → ((0 : Int) ≤ l3 ∧ l3 < (6 : Int) ∧ (iv 0 1 (S.2 61 (l3)) → ((¬ S.2 61 (l3) = 0 → wX11_classOfValue_40 (l1) (l2) (l3) S K B5) ∧ ((¬ (¬ S.2 61 (l3) = 0)) → ((0 : Int) ≤ l1 ∧ l1 < (600 : Int) ∧ (iv 0 3000 (S.2 95 (l1)) → (wX11_writtenSign (l3) (S.2 95 (l1)) S (fun r9 S10 => (rng (r9) ∧ ((¬ r9 = 0 → wX11_classOfValue_40 (l1) (l2) (l3) S10 K B5) ∧ ((¬ (¬ r9 = 0)) → wX11_classOfValue_41 (l1) (l2) (l3) (1) S10 K B5)))))))))))))))
set_option maxRecDepth 100000 in
set_option maxHeartbeats 4000000 in
theorem bX11_classOfValue_5' {G : xG} {sh : Nat → Option Sh} {J : St → List va_E → Prop} {d : Nat} {Post : xP} {l1 l2 l3 : Int} {S : St} {cs : List va_E} {K : Int → St → Prop} {B5 : Int → Int → Int → St → Prop} (hd : 1 ≤ d) (hJ : Stb sh J) (hT : isM sh) (hW : Wd G sh mT J S cs) (hP : ∀ (v : Int) (S : St) (cs : List va_E), K v S → Wd G sh mT J S cs → Post (some (.int (Int32.ofInt v))) cs) (hB5 : ∀ (l1 : Int) (l2 : Int) (l3 : Int) (S : St) (cs : List va_E), B5 l1 l2 l3 S → Wd G sh mT J S cs → Z (RX11, cX11_classOfValue, 6, some .int, false) G d Post 5 [(0, .ref (G.1 + 54)), (1, .int (Int32.ofInt (l1))), (2, .int (Int32.ofInt (l2))), (3, .int (Int32.ofInt (l3)))] [] cs) (hw : wX11_classOfValue_5' l1 l2 l3 S K B5) : Z (RX11, cX11_classOfValue, 6, some .int, false) G d Post 5 [(0, .ref (G.1 + 54)), (1, .int (Int32.ofInt (l1))), (2, .int (Int32.ofInt (l2))), (3, .int (Int32.ofInt (l3)))] [] cs := by
  unfold wX11_classOfValue_5' at hw
  refine z_iload_n dX11_classOfValue_5 rfl rfl ?_
  refine z_aload_n dX11_classOfValue_6 rfl rfl ?_
  have q1 : iv 0 6 (S.1 54 2) := mI2 hW
  have hw := hw q1
  refine g_getI hW hT.1 mr2 kX11 fX11_238 dX11_classOfValue_7 ?_
  obtain ⟨q3, hw⟩ := hw
  refine i_icmp_ge (tgt := 116) dX11_classOfValue_10 (by decide) q3 (rngq q1 (by decide) (by decide)) (fun h2 => ?_) (fun h2 => ?_)
  · have hw := hw.1 h2
    refine z_iload_n dX11_classOfValue_116 rfl rfl ?_
    exact z_ireturn dX11_classOfValue_117 rfl rfl (hP _ _ _ hw hW)
  · have hw := hw.2 h2
    refine z_aload_n dX11_classOfValue_13 rfl rfl ?_
    refine g_getR hW hT.1 mr8 kX11 fX11_29 dX11_classOfValue_14 ?_
    refine z_iload_n dX11_classOfValue_17 rfl rfl ?_
    obtain ⟨q4a, q4b, hw⟩ := hw
    have q5 : iv 0 1 (S.2 61 (l3)) := mA61 hW _
    have hw := hw q5
    refine g_zald hW (ma61 hT) q4a q4b (by decide) dX11_classOfValue_18 ?_
    refine i_if_ne (tgt := 40) dX11_classOfValue_19 (by decide) (rngq q5 (by decide) (by decide)) (fun h6 => ?_) (fun h6 => ?_)
    · have hw := hw.1 h6
      refine z_loc (L' := [(0, .ref (G.1 + 54)), (1, .int (Int32.ofInt (l1))), (2, .int (Int32.ofInt (l2))), (3, .int (Int32.ofInt (l3)))]) (List.forall_mem_cons.mpr ⟨rfl, (List.forall_mem_cons.mpr ⟨rfl, (List.forall_mem_cons.mpr ⟨rfl, (List.forall_mem_cons.mpr ⟨rfl, (fun _ h => nomatch h)⟩)⟩)⟩)⟩) ?_
      exact bX11_classOfValue_40 hd hJ hT hW hP hB5 hw
    · have hw := hw.2 h6
      refine z_aload_n dX11_classOfValue_22 rfl rfl ?_
      refine z_iload_n dX11_classOfValue_23 rfl rfl ?_
      refine z_aload_n dX11_classOfValue_24 rfl rfl ?_
      refine g_getR hW hT.1 mr55 kX11 fX11_135 dX11_classOfValue_25 ?_
      refine z_iload_n dX11_classOfValue_28 rfl rfl ?_
      obtain ⟨q7a, q7b, hw⟩ := hw
      have q8 : iv 0 3000 (S.2 95 (l1)) := mA95 hW _
      have hw := hw q8
      refine g_iald hW (ma95 hT) q7a q7b (by decide) dX11_classOfValue_29 ?_
      have hX := lX11_writtenSign 0 (Nat.le_refl _) hJ hT hW q3 (rngq q8 (by decide) (by decide)) hw
      refine z_callV (As := [_, _]) eX11_writtenSign sX11_writtenSign lX11_411 rfl dX11_classOfValue_30 (hW.1 _ _ hT.1) hX (Nat.le_trans (by decide) hd) rfl (Nat.le_of_ble_eq_true rfl) (fun r cs hp => ?_)
      obtain ⟨r9, S10, rfl, hw, hW⟩ := hp
      refine z_st (st' := [.int (Int32.ofInt (r9))]) rfl ?_
      obtain ⟨q12, hw⟩ := hw
      refine i_if_ne (tgt := 40) dX11_classOfValue_33 (by decide) q12 (fun h11 => ?_) (fun h11 => ?_)
      · have hw := hw.1 h11
        refine z_loc (L' := [(0, .ref (G.1 + 54)), (1, .int (Int32.ofInt (l1))), (2, .int (Int32.ofInt (l2))), (3, .int (Int32.ofInt (l3)))]) (List.forall_mem_cons.mpr ⟨rfl, (List.forall_mem_cons.mpr ⟨rfl, (List.forall_mem_cons.mpr ⟨rfl, (List.forall_mem_cons.mpr ⟨rfl, (fun _ h => nomatch h)⟩)⟩)⟩)⟩) ?_
        exact bX11_classOfValue_40 hd hJ hT hW hP hB5 hw
      · have hw := hw.2 h11
        refine z_iconst (v := Int32.ofInt 1) dX11_classOfValue_36 rfl ?_
        refine z_goto (tgt := 41) dX11_classOfValue_37 (by decide) ?_
        refine z_loc (L' := [(0, .ref (G.1 + 54)), (1, .int (Int32.ofInt (l1))), (2, .int (Int32.ofInt (l2))), (3, .int (Int32.ofInt (l3)))]) (List.forall_mem_cons.mpr ⟨rfl, (List.forall_mem_cons.mpr ⟨rfl, (List.forall_mem_cons.mpr ⟨rfl, (List.forall_mem_cons.mpr ⟨rfl, (fun _ h => nomatch h)⟩)⟩)⟩)⟩) ?_
        exact bX11_classOfValue_41 hd hJ hT hW hP hB5 hw
def wX11_classOfValue_5 (l1 l2 l3 : Int) (S : St) (K : Int → St → Prop) : Prop := ∃ (Iv : Int → Int → Int → St → Prop) (mu : Int → Int → Int → St → Nat), Iv l1 l2 l3 S ∧ ∀ (l1 l2 l3 : Int) (S : St), Iv l1 l2 l3 S → wX11_classOfValue_5' l1 l2 l3 S K  (fun ml1 ml2 ml3 T => Iv ml1 ml2 ml3 T ∧ mu ml1 ml2 ml3 T < mu l1 l2 l3 S)
set_option maxRecDepth 100000 in
set_option maxHeartbeats 4000000 in
theorem bX11_classOfValue_5 {G : xG} {sh : Nat → Option Sh} {J : St → List va_E → Prop} {d : Nat} {Post : xP} {l1 l2 l3 : Int} {S : St} {cs : List va_E} {K : Int → St → Prop} (hd : 1 ≤ d) (hJ : Stb sh J) (hT : isM sh) (hW : Wd G sh mT J S cs) (hP : ∀ (v : Int) (S : St) (cs : List va_E), K v S → Wd G sh mT J S cs → Post (some (.int (Int32.ofInt v))) cs)  (hw : wX11_classOfValue_5 l1 l2 l3 S K ) : Z (RX11, cX11_classOfValue, 6, some .int, false) G d Post 5 [(0, .ref (G.1 + 54)), (1, .int (Int32.ofInt (l1))), (2, .int (Int32.ofInt (l2))), (3, .int (Int32.ofInt (l3)))] [] cs := by
  unfold wX11_classOfValue_5 at hw
  obtain ⟨Iv, mu, h0, hs⟩ := hw
  have key : ∀ (n : Nat) (l1 l2 l3 : Int) (S : St) (cs : List va_E), mu l1 l2 l3 S < n → Iv l1 l2 l3 S → Wd G sh mT J S cs → Z (RX11, cX11_classOfValue, 6, some .int, false) G d Post 5 [(0, .ref (G.1 + 54)), (1, .int (Int32.ofInt (l1))), (2, .int (Int32.ofInt (l2))), (3, .int (Int32.ofInt (l3)))] [] cs := by
    intro n
    induction n with
    | zero => intro l1 l2 l3 S cs hn; exact absurd hn (Nat.not_lt_zero _)
    | succ n ih =>
      intro l1 l2 l3 S cs hn hI hW
      exact bX11_classOfValue_5' hd hJ hT hW hP  (fun l1 l2 l3 S cs hb hW => ih l1 l2 l3 S cs (Nat.lt_of_lt_of_le hb.2 (Nat.le_of_lt_succ hn)) hb.1 hW) (hs l1 l2 l3 S hI)
  exact key _ _ _ _ _ _ (Nat.lt_succ_self _) h0 hW
def wX11_classOfValue (a1 : Int) (S : St) (K : Int → St → Prop) : Prop := rng a1 → wX11_classOfValue_5 (a1) ((-2)) (0) S K
set_option maxRecDepth 100000 in
set_option maxHeartbeats 4000000 in
theorem lX11_classOfValue {G : xG} {sh : Nat → Option Sh} {J : St → List va_E → Prop} {a1 : Int} {S : St} {cs : List va_E} {K : Int → St → Prop} (d : Nat) (hd : 1 ≤ d) (hJ : Stb sh J) (hT : isM sh) (hW : Wd G sh mT J S cs) (g1 : rng a1) (hw : wX11_classOfValue a1 S K) : X G yX11_classOfValue cX11_classOfValue 6 (some .int) d [.ref (G.1 + 54), .int (Int32.ofInt a1)] cs (qI G sh mT J K) := by
  refine X.of false (by decide +kernel) (by decide) (Nat.le_of_ble_eq_true rfl) ?_
  show Z (RX11, cX11_classOfValue, 6, some .int, false) G d _ 0 [(0, .ref (G.1 + 54)), (1, .int (Int32.ofInt a1))] [] cs
  have hP : ∀ (v : Int) (S : St) (cs : List va_E), K v S → Wd G sh mT J S cs → qI G sh mT J K (some (.int (Int32.ofInt v))) cs := fun v S cs a b => ⟨v, S, rfl, a, b⟩
  unfold wX11_classOfValue at hw
  have hw := hw g1
  refine z_bipush (v := Int32.ofInt (-2)) dX11_classOfValue_0 (by decide) ?_
  refine z_istore_n dX11_classOfValue_2 rfl (by decide) ?_
  refine z_iconst (v := Int32.ofInt 0) dX11_classOfValue_3 rfl ?_
  refine z_istore_n dX11_classOfValue_4 rfl (by decide) ?_
  refine z_loc (L' := [(0, .ref (G.1 + 54)), (1, .int (Int32.ofInt (a1))), (2, .int (Int32.ofInt ((-2)))), (3, .int (Int32.ofInt (0)))]) (List.forall_mem_cons.mpr ⟨rfl, (List.forall_mem_cons.mpr ⟨rfl, (List.forall_mem_cons.mpr ⟨rfl, (List.forall_mem_cons.mpr ⟨rfl, (fun _ h => nomatch h)⟩)⟩)⟩)⟩) ?_
  exact bX11_classOfValue_5 hd hJ hT hW hP  hw

def wX11_isMixed_141 (l1 l2 l3 : Int) (S : St) (K : Int → St → Prop) (B4 : Int → Int → Int → St → Prop) : Prop := B4 (l1) (l2) ((l3 + 1)) S
set_option maxRecDepth 100000 in
set_option maxHeartbeats 4000000 in
theorem bX11_isMixed_141 {G : xG} {sh : Nat → Option Sh} {J : St → List va_E → Prop} {d : Nat} {Post : xP} {l1 l2 l3 : Int} {S : St} {cs : List va_E} {K : Int → St → Prop} {B4 : Int → Int → Int → St → Prop} (hd : 1 ≤ d) (hJ : Stb sh J) (hT : isM sh) (hW : Wd G sh mT J S cs) (hP : ∀ (v : Int) (S : St) (cs : List va_E), K v S → Wd G sh mT J S cs → Post (some (.int (Int32.ofInt v))) cs) (hB4 : ∀ (l1 : Int) (l2 : Int) (l3 : Int) (S : St) (cs : List va_E), B4 l1 l2 l3 S → Wd G sh mT J S cs → Z (RX11, cX11_isMixed, 7, some .boolean, false) G d Post 4 [(0, .ref (G.1 + 54)), (1, .int (Int32.ofInt (l1))), (2, .int (Int32.ofInt (l2))), (3, .int (Int32.ofInt (l3)))] [] cs) (hw : wX11_isMixed_141 l1 l2 l3 S K B4) : Z (RX11, cX11_isMixed, 7, some .boolean, false) G d Post 141 [(0, .ref (G.1 + 54)), (1, .int (Int32.ofInt (l1))), (2, .int (Int32.ofInt (l2))), (3, .int (Int32.ofInt (l3)))] [] cs := by
  unfold wX11_isMixed_141 at hw
  refine i_iinc (l := l3) dX11_isMixed_141 rfl (by decide) ?_
  refine z_goto (tgt := 4) dX11_isMixed_144 (by decide) ?_
  refine z_loc (L' := [(0, .ref (G.1 + 54)), (1, .int (Int32.ofInt (l1))), (2, .int (Int32.ofInt (l2))), (3, .int (Int32.ofInt ((l3 + 1))))]) (List.forall_mem_cons.mpr ⟨rfl, (List.forall_mem_cons.mpr ⟨rfl, (List.forall_mem_cons.mpr ⟨rfl, (List.forall_mem_cons.mpr ⟨rfl, (fun _ h => nomatch h)⟩)⟩)⟩)⟩) ?_
  exact hB4 _ _ _ _ _ hw hW
def wX11_isMixed_128 (l1 l3 l4 l5 l6 s0 : Int) (S : St) (K : Int → St → Prop) (B4 : Int → Int → Int → St → Prop) (B76 : Int → Int → Int → Int → Int → St → Prop) (B95 : Int → Int → Int → Int → Int → Int → St → Prop) : Prop := B95 (l1) (s0) (l3) (l4) (l5) ((l6 + 1)) S
set_option maxRecDepth 100000 in
set_option maxHeartbeats 4000000 in
theorem bX11_isMixed_128 {G : xG} {sh : Nat → Option Sh} {J : St → List va_E → Prop} {d : Nat} {Post : xP} {l1 l3 l4 l5 l6 s0 : Int} {S : St} {cs : List va_E} {K : Int → St → Prop} {B4 : Int → Int → Int → St → Prop} {B76 : Int → Int → Int → Int → Int → St → Prop} {B95 : Int → Int → Int → Int → Int → Int → St → Prop} (hd : 1 ≤ d) (hJ : Stb sh J) (hT : isM sh) (hW : Wd G sh mT J S cs) (hP : ∀ (v : Int) (S : St) (cs : List va_E), K v S → Wd G sh mT J S cs → Post (some (.int (Int32.ofInt v))) cs) (hB4 : ∀ (l1 : Int) (l2 : Int) (l3 : Int) (S : St) (cs : List va_E), B4 l1 l2 l3 S → Wd G sh mT J S cs → Z (RX11, cX11_isMixed, 7, some .boolean, false) G d Post 4 [(0, .ref (G.1 + 54)), (1, .int (Int32.ofInt (l1))), (2, .int (Int32.ofInt (l2))), (3, .int (Int32.ofInt (l3)))] [] cs) (hB76 : ∀ (l1 : Int) (l2 : Int) (l3 : Int) (l4 : Int) (l5 : Int) (S : St) (cs : List va_E), B76 l1 l2 l3 l4 l5 S → Wd G sh mT J S cs → Z (RX11, cX11_isMixed, 7, some .boolean, false) G d Post 76 [(0, .ref (G.1 + 54)), (1, .int (Int32.ofInt (l1))), (2, .int (Int32.ofInt (l2))), (3, .int (Int32.ofInt (l3))), (4, .int (Int32.ofInt (l4))), (5, .int (Int32.ofInt (l5)))] [] cs) (hB95 : ∀ (l1 : Int) (l2 : Int) (l3 : Int) (l4 : Int) (l5 : Int) (l6 : Int) (S : St) (cs : List va_E), B95 l1 l2 l3 l4 l5 l6 S → Wd G sh mT J S cs → Z (RX11, cX11_isMixed, 7, some .boolean, false) G d Post 95 [(0, .ref (G.1 + 54)), (1, .int (Int32.ofInt (l1))), (2, .int (Int32.ofInt (l2))), (3, .int (Int32.ofInt (l3))), (4, .int (Int32.ofInt (l4))), (5, .int (Int32.ofInt (l5))), (6, .int (Int32.ofInt (l6)))] [] cs) (hw : wX11_isMixed_128 l1 l3 l4 l5 l6 s0 S K B4 B76 B95) : Z (RX11, cX11_isMixed, 7, some .boolean, false) G d Post 128 [(0, .ref (G.1 + 54)), (1, .int (Int32.ofInt (l1))), (3, .int (Int32.ofInt (l3))), (4, .int (Int32.ofInt (l4))), (5, .int (Int32.ofInt (l5))), (6, .int (Int32.ofInt (l6)))] [.int (Int32.ofInt (s0))] cs := by
  unfold wX11_isMixed_128 at hw
  refine z_istore_n dX11_isMixed_128 rfl (by decide) ?_
  refine i_iinc (l := l6) dX11_isMixed_129 rfl (by decide) ?_
  refine z_goto (tgt := 95) dX11_isMixed_132 (by decide) ?_
  refine z_loc (L' := [(0, .ref (G.1 + 54)), (1, .int (Int32.ofInt (l1))), (2, .int (Int32.ofInt (s0))), (3, .int (Int32.ofInt (l3))), (4, .int (Int32.ofInt (l4))), (5, .int (Int32.ofInt (l5))), (6, .int (Int32.ofInt ((l6 + 1))))]) (List.forall_mem_cons.mpr ⟨rfl, (List.forall_mem_cons.mpr ⟨rfl, (List.forall_mem_cons.mpr ⟨rfl, (List.forall_mem_cons.mpr ⟨rfl, (List.forall_mem_cons.mpr ⟨rfl, (List.forall_mem_cons.mpr ⟨rfl, (List.forall_mem_cons.mpr ⟨rfl, (fun _ h => nomatch h)⟩)⟩)⟩)⟩)⟩)⟩)⟩) ?_
  exact hB95 _ _ _ _ _ _ _ _ hw hW
def wX11_isMixed_123 (l1 l3 l4 l5 l6 : Int) (S : St) (K : Int → St → Prop) (B4 : Int → Int → Int → St → Prop) (B76 : Int → Int → Int → Int → Int → St → Prop) (B95 : Int → Int → Int → Int → Int → Int → St → Prop) : Prop := wX11_isMixed_128 (l1) (l3) (l4) (l5) (l6) (1) S K B4 B76 B95
set_option maxRecDepth 100000 in
set_option maxHeartbeats 4000000 in
theorem bX11_isMixed_123 {G : xG} {sh : Nat → Option Sh} {J : St → List va_E → Prop} {d : Nat} {Post : xP} {l1 l3 l4 l5 l6 : Int} {S : St} {cs : List va_E} {K : Int → St → Prop} {B4 : Int → Int → Int → St → Prop} {B76 : Int → Int → Int → Int → Int → St → Prop} {B95 : Int → Int → Int → Int → Int → Int → St → Prop} (hd : 1 ≤ d) (hJ : Stb sh J) (hT : isM sh) (hW : Wd G sh mT J S cs) (hP : ∀ (v : Int) (S : St) (cs : List va_E), K v S → Wd G sh mT J S cs → Post (some (.int (Int32.ofInt v))) cs) (hB4 : ∀ (l1 : Int) (l2 : Int) (l3 : Int) (S : St) (cs : List va_E), B4 l1 l2 l3 S → Wd G sh mT J S cs → Z (RX11, cX11_isMixed, 7, some .boolean, false) G d Post 4 [(0, .ref (G.1 + 54)), (1, .int (Int32.ofInt (l1))), (2, .int (Int32.ofInt (l2))), (3, .int (Int32.ofInt (l3)))] [] cs) (hB76 : ∀ (l1 : Int) (l2 : Int) (l3 : Int) (l4 : Int) (l5 : Int) (S : St) (cs : List va_E), B76 l1 l2 l3 l4 l5 S → Wd G sh mT J S cs → Z (RX11, cX11_isMixed, 7, some .boolean, false) G d Post 76 [(0, .ref (G.1 + 54)), (1, .int (Int32.ofInt (l1))), (2, .int (Int32.ofInt (l2))), (3, .int (Int32.ofInt (l3))), (4, .int (Int32.ofInt (l4))), (5, .int (Int32.ofInt (l5)))] [] cs) (hB95 : ∀ (l1 : Int) (l2 : Int) (l3 : Int) (l4 : Int) (l5 : Int) (l6 : Int) (S : St) (cs : List va_E), B95 l1 l2 l3 l4 l5 l6 S → Wd G sh mT J S cs → Z (RX11, cX11_isMixed, 7, some .boolean, false) G d Post 95 [(0, .ref (G.1 + 54)), (1, .int (Int32.ofInt (l1))), (2, .int (Int32.ofInt (l2))), (3, .int (Int32.ofInt (l3))), (4, .int (Int32.ofInt (l4))), (5, .int (Int32.ofInt (l5))), (6, .int (Int32.ofInt (l6)))] [] cs) (hw : wX11_isMixed_123 l1 l3 l4 l5 l6 S K B4 B76 B95) : Z (RX11, cX11_isMixed, 7, some .boolean, false) G d Post 123 [(0, .ref (G.1 + 54)), (1, .int (Int32.ofInt (l1))), (3, .int (Int32.ofInt (l3))), (4, .int (Int32.ofInt (l4))), (5, .int (Int32.ofInt (l5))), (6, .int (Int32.ofInt (l6)))] [] cs := by
  unfold wX11_isMixed_123 at hw
  refine z_iconst (v := Int32.ofInt 1) dX11_isMixed_123 rfl ?_
  refine z_goto (tgt := 128) dX11_isMixed_124 (by decide) ?_
  refine z_loc (L' := [(0, .ref (G.1 + 54)), (1, .int (Int32.ofInt (l1))), (3, .int (Int32.ofInt (l3))), (4, .int (Int32.ofInt (l4))), (5, .int (Int32.ofInt (l5))), (6, .int (Int32.ofInt (l6)))]) (List.forall_mem_cons.mpr ⟨rfl, (List.forall_mem_cons.mpr ⟨rfl, (List.forall_mem_cons.mpr ⟨rfl, (List.forall_mem_cons.mpr ⟨rfl, (List.forall_mem_cons.mpr ⟨rfl, (List.forall_mem_cons.mpr ⟨rfl, (fun _ h => nomatch h)⟩)⟩)⟩)⟩)⟩)⟩) ?_
  exact bX11_isMixed_128 hd hJ hT hW hP hB4 hB76 hB95 hw
def wX11_isMixed_95' (l1 l2 l3 l4 l5 l6 : Int) (S : St) (K : Int → St → Prop) (B4 : Int → Int → Int → St → Prop) (B76 : Int → Int → Int → Int → Int → St → Prop) (B95 : Int → Int → Int → Int → Int → Int → St → Prop) : Prop := (rng (l6) ∧ (rng (l1) ∧ ((l1 ≤ l6 → B76 (l1) (l2) (l3) (l4) ((l5 + 1)) S) ∧ ((¬ (l1 ≤ l6)) → (rng (l2) ∧ ((¬ l2 = 0 → wX11_isMixed_123 (l1) (l3) (l4) (l5) (l6) S K B4 B76 B95) ∧ ((¬ (¬ l2 = 0)) → (rng (((6 + (4 * l3)) + l5)) ∧ (wX11_areAlike (l6) (((6 + (4 * l3)) + l5)) S (fun r7 S8 => (rng (r7) ∧ ((r7 = 0 → wX11_isMixed_128 (l1) (l3) (l4) (l5) (l6) (0) S8 K B4 B76 B95) ∧ ((¬ (r7 = 0)) → wX11_isMixed_123 (l1) (l3) (l4) (l5) (l6) S8 K B4 B76 B95)))))))))))))
set_option maxRecDepth 100000 in
set_option maxHeartbeats 4000000 in
theorem bX11_isMixed_95' {G : xG} {sh : Nat → Option Sh} {J : St → List va_E → Prop} {d : Nat} {Post : xP} {l1 l2 l3 l4 l5 l6 : Int} {S : St} {cs : List va_E} {K : Int → St → Prop} {B4 : Int → Int → Int → St → Prop} {B76 : Int → Int → Int → Int → Int → St → Prop} {B95 : Int → Int → Int → Int → Int → Int → St → Prop} (hd : 1 ≤ d) (hJ : Stb sh J) (hT : isM sh) (hW : Wd G sh mT J S cs) (hP : ∀ (v : Int) (S : St) (cs : List va_E), K v S → Wd G sh mT J S cs → Post (some (.int (Int32.ofInt v))) cs) (hB4 : ∀ (l1 : Int) (l2 : Int) (l3 : Int) (S : St) (cs : List va_E), B4 l1 l2 l3 S → Wd G sh mT J S cs → Z (RX11, cX11_isMixed, 7, some .boolean, false) G d Post 4 [(0, .ref (G.1 + 54)), (1, .int (Int32.ofInt (l1))), (2, .int (Int32.ofInt (l2))), (3, .int (Int32.ofInt (l3)))] [] cs) (hB76 : ∀ (l1 : Int) (l2 : Int) (l3 : Int) (l4 : Int) (l5 : Int) (S : St) (cs : List va_E), B76 l1 l2 l3 l4 l5 S → Wd G sh mT J S cs → Z (RX11, cX11_isMixed, 7, some .boolean, false) G d Post 76 [(0, .ref (G.1 + 54)), (1, .int (Int32.ofInt (l1))), (2, .int (Int32.ofInt (l2))), (3, .int (Int32.ofInt (l3))), (4, .int (Int32.ofInt (l4))), (5, .int (Int32.ofInt (l5)))] [] cs) (hB95 : ∀ (l1 : Int) (l2 : Int) (l3 : Int) (l4 : Int) (l5 : Int) (l6 : Int) (S : St) (cs : List va_E), B95 l1 l2 l3 l4 l5 l6 S → Wd G sh mT J S cs → Z (RX11, cX11_isMixed, 7, some .boolean, false) G d Post 95 [(0, .ref (G.1 + 54)), (1, .int (Int32.ofInt (l1))), (2, .int (Int32.ofInt (l2))), (3, .int (Int32.ofInt (l3))), (4, .int (Int32.ofInt (l4))), (5, .int (Int32.ofInt (l5))), (6, .int (Int32.ofInt (l6)))] [] cs) (hw : wX11_isMixed_95' l1 l2 l3 l4 l5 l6 S K B4 B76 B95) : Z (RX11, cX11_isMixed, 7, some .boolean, false) G d Post 95 [(0, .ref (G.1 + 54)), (1, .int (Int32.ofInt (l1))), (2, .int (Int32.ofInt (l2))), (3, .int (Int32.ofInt (l3))), (4, .int (Int32.ofInt (l4))), (5, .int (Int32.ofInt (l5))), (6, .int (Int32.ofInt (l6)))] [] cs := by
  unfold wX11_isMixed_95' at hw
  refine z_iload dX11_isMixed_95 rfl ?_
  refine z_iload_n dX11_isMixed_97 rfl rfl ?_
  obtain ⟨q2, hw⟩ := hw
  obtain ⟨q3, hw⟩ := hw
  refine i_icmp_ge (tgt := 135) dX11_isMixed_98 (by decide) q2 q3 (fun h1 => ?_) (fun h1 => ?_)
  · have hw := hw.1 h1
    refine i_iinc (l := l5) dX11_isMixed_135 rfl (by decide) ?_
    refine z_goto (tgt := 76) dX11_isMixed_138 (by decide) ?_
    refine z_loc (L' := [(0, .ref (G.1 + 54)), (1, .int (Int32.ofInt (l1))), (2, .int (Int32.ofInt (l2))), (3, .int (Int32.ofInt (l3))), (4, .int (Int32.ofInt (l4))), (5, .int (Int32.ofInt ((l5 + 1))))]) (List.forall_mem_cons.mpr ⟨rfl, (List.forall_mem_cons.mpr ⟨rfl, (List.forall_mem_cons.mpr ⟨rfl, (List.forall_mem_cons.mpr ⟨rfl, (List.forall_mem_cons.mpr ⟨rfl, (List.forall_mem_cons.mpr ⟨rfl, (fun _ h => nomatch h)⟩)⟩)⟩)⟩)⟩)⟩) ?_
    exact hB76 _ _ _ _ _ _ _ hw hW
  · have hw := hw.2 h1
    refine z_iload_n dX11_isMixed_101 rfl rfl ?_
    obtain ⟨q5, hw⟩ := hw
    refine i_if_ne (tgt := 123) dX11_isMixed_102 (by decide) q5 (fun h4 => ?_) (fun h4 => ?_)
    · have hw := hw.1 h4
      refine z_loc (L' := [(0, .ref (G.1 + 54)), (1, .int (Int32.ofInt (l1))), (3, .int (Int32.ofInt (l3))), (4, .int (Int32.ofInt (l4))), (5, .int (Int32.ofInt (l5))), (6, .int (Int32.ofInt (l6)))]) (List.forall_mem_cons.mpr ⟨rfl, (List.forall_mem_cons.mpr ⟨rfl, (List.forall_mem_cons.mpr ⟨rfl, (List.forall_mem_cons.mpr ⟨rfl, (List.forall_mem_cons.mpr ⟨rfl, (List.forall_mem_cons.mpr ⟨rfl, (fun _ h => nomatch h)⟩)⟩)⟩)⟩)⟩)⟩) ?_
      exact bX11_isMixed_123 hd hJ hT hW hP hB4 hB76 hB95 hw
    · have hw := hw.2 h4
      refine z_aload_n dX11_isMixed_105 rfl rfl ?_
      refine z_iload dX11_isMixed_106 rfl ?_
      refine z_bipush (v := Int32.ofInt 6) dX11_isMixed_108 (by decide) ?_
      refine z_iconst (v := Int32.ofInt 4) dX11_isMixed_110 rfl ?_
      refine z_iload_n dX11_isMixed_111 rfl rfl ?_
      refine i_imul dX11_isMixed_112 ?_
      refine i_iadd dX11_isMixed_113 ?_
      refine z_iload dX11_isMixed_114 rfl ?_
      refine i_iadd dX11_isMixed_116 ?_
      obtain ⟨q6, hw⟩ := hw
      have hX := lX11_areAlike 0 (Nat.le_refl _) hJ hT hW q2 q6 hw
      refine z_callV (As := [_, _]) eX11_areAlike sX11_areAlike lX11_206 rfl dX11_isMixed_117 (hW.1 _ _ hT.1) hX (Nat.le_trans (by decide) hd) rfl (Nat.le_of_ble_eq_true rfl) (fun r cs hp => ?_)
      obtain ⟨r7, S8, rfl, hw, hW⟩ := hp
      refine z_st (st' := [.int (Int32.ofInt (r7))]) rfl ?_
      obtain ⟨q10, hw⟩ := hw
      refine i_if_eq (tgt := 127) dX11_isMixed_120 (by decide) q10 (fun h9 => ?_) (fun h9 => ?_)
      · have hw := hw.1 h9
        refine z_iconst (v := Int32.ofInt 0) dX11_isMixed_127 rfl ?_
        refine z_loc (L' := [(0, .ref (G.1 + 54)), (1, .int (Int32.ofInt (l1))), (3, .int (Int32.ofInt (l3))), (4, .int (Int32.ofInt (l4))), (5, .int (Int32.ofInt (l5))), (6, .int (Int32.ofInt (l6)))]) (List.forall_mem_cons.mpr ⟨rfl, (List.forall_mem_cons.mpr ⟨rfl, (List.forall_mem_cons.mpr ⟨rfl, (List.forall_mem_cons.mpr ⟨rfl, (List.forall_mem_cons.mpr ⟨rfl, (List.forall_mem_cons.mpr ⟨rfl, (fun _ h => nomatch h)⟩)⟩)⟩)⟩)⟩)⟩) ?_
        exact bX11_isMixed_128 hd hJ hT hW hP hB4 hB76 hB95 hw
      · have hw := hw.2 h9
        refine z_loc (L' := [(0, .ref (G.1 + 54)), (1, .int (Int32.ofInt (l1))), (3, .int (Int32.ofInt (l3))), (4, .int (Int32.ofInt (l4))), (5, .int (Int32.ofInt (l5))), (6, .int (Int32.ofInt (l6)))]) (List.forall_mem_cons.mpr ⟨rfl, (List.forall_mem_cons.mpr ⟨rfl, (List.forall_mem_cons.mpr ⟨rfl, (List.forall_mem_cons.mpr ⟨rfl, (List.forall_mem_cons.mpr ⟨rfl, (List.forall_mem_cons.mpr ⟨rfl, (fun _ h => nomatch h)⟩)⟩)⟩)⟩)⟩)⟩) ?_
        exact bX11_isMixed_123 hd hJ hT hW hP hB4 hB76 hB95 hw
def wX11_isMixed_95 (l1 l2 l3 l4 l5 l6 : Int) (S : St) (K : Int → St → Prop) (B4 : Int → Int → Int → St → Prop) (B76 : Int → Int → Int → Int → Int → St → Prop) : Prop := ∃ (Iv : Int → Int → Int → Int → Int → Int → St → Prop) (mu : Int → Int → Int → Int → Int → Int → St → Nat), Iv l1 l2 l3 l4 l5 l6 S ∧ ∀ (l1 l2 l3 l4 l5 l6 : Int) (S : St), Iv l1 l2 l3 l4 l5 l6 S → wX11_isMixed_95' l1 l2 l3 l4 l5 l6 S K B4 B76 (fun ml1 ml2 ml3 ml4 ml5 ml6 T => Iv ml1 ml2 ml3 ml4 ml5 ml6 T ∧ mu ml1 ml2 ml3 ml4 ml5 ml6 T < mu l1 l2 l3 l4 l5 l6 S)
set_option maxRecDepth 100000 in
set_option maxHeartbeats 4000000 in
theorem bX11_isMixed_95 {G : xG} {sh : Nat → Option Sh} {J : St → List va_E → Prop} {d : Nat} {Post : xP} {l1 l2 l3 l4 l5 l6 : Int} {S : St} {cs : List va_E} {K : Int → St → Prop} {B4 : Int → Int → Int → St → Prop} {B76 : Int → Int → Int → Int → Int → St → Prop} (hd : 1 ≤ d) (hJ : Stb sh J) (hT : isM sh) (hW : Wd G sh mT J S cs) (hP : ∀ (v : Int) (S : St) (cs : List va_E), K v S → Wd G sh mT J S cs → Post (some (.int (Int32.ofInt v))) cs) (hB4 : ∀ (l1 : Int) (l2 : Int) (l3 : Int) (S : St) (cs : List va_E), B4 l1 l2 l3 S → Wd G sh mT J S cs → Z (RX11, cX11_isMixed, 7, some .boolean, false) G d Post 4 [(0, .ref (G.1 + 54)), (1, .int (Int32.ofInt (l1))), (2, .int (Int32.ofInt (l2))), (3, .int (Int32.ofInt (l3)))] [] cs) (hB76 : ∀ (l1 : Int) (l2 : Int) (l3 : Int) (l4 : Int) (l5 : Int) (S : St) (cs : List va_E), B76 l1 l2 l3 l4 l5 S → Wd G sh mT J S cs → Z (RX11, cX11_isMixed, 7, some .boolean, false) G d Post 76 [(0, .ref (G.1 + 54)), (1, .int (Int32.ofInt (l1))), (2, .int (Int32.ofInt (l2))), (3, .int (Int32.ofInt (l3))), (4, .int (Int32.ofInt (l4))), (5, .int (Int32.ofInt (l5)))] [] cs) (hw : wX11_isMixed_95 l1 l2 l3 l4 l5 l6 S K B4 B76) : Z (RX11, cX11_isMixed, 7, some .boolean, false) G d Post 95 [(0, .ref (G.1 + 54)), (1, .int (Int32.ofInt (l1))), (2, .int (Int32.ofInt (l2))), (3, .int (Int32.ofInt (l3))), (4, .int (Int32.ofInt (l4))), (5, .int (Int32.ofInt (l5))), (6, .int (Int32.ofInt (l6)))] [] cs := by
  unfold wX11_isMixed_95 at hw
  obtain ⟨Iv, mu, h0, hs⟩ := hw
  have key : ∀ (n : Nat) (l1 l2 l3 l4 l5 l6 : Int) (S : St) (cs : List va_E), mu l1 l2 l3 l4 l5 l6 S < n → Iv l1 l2 l3 l4 l5 l6 S → Wd G sh mT J S cs → Z (RX11, cX11_isMixed, 7, some .boolean, false) G d Post 95 [(0, .ref (G.1 + 54)), (1, .int (Int32.ofInt (l1))), (2, .int (Int32.ofInt (l2))), (3, .int (Int32.ofInt (l3))), (4, .int (Int32.ofInt (l4))), (5, .int (Int32.ofInt (l5))), (6, .int (Int32.ofInt (l6)))] [] cs := by
    intro n
    induction n with
    | zero => intro l1 l2 l3 l4 l5 l6 S cs hn; exact absurd hn (Nat.not_lt_zero _)
    | succ n ih =>
      intro l1 l2 l3 l4 l5 l6 S cs hn hI hW
      exact bX11_isMixed_95' hd hJ hT hW hP hB4 hB76 (fun l1 l2 l3 l4 l5 l6 S cs hb hW => ih l1 l2 l3 l4 l5 l6 S cs (Nat.lt_of_lt_of_le hb.2 (Nat.le_of_lt_succ hn)) hb.1 hW) (hs l1 l2 l3 l4 l5 l6 S hI)
  exact key _ _ _ _ _ _ _ _ _ (Nat.lt_succ_self _) h0 hW
def wX11_isMixed_76' (l1 l2 l3 l4 l5 : Int) (S : St) (K : Int → St → Prop) (B4 : Int → Int → Int → St → Prop) (B76 : Int → Int → Int → Int → Int → St → Prop) : Prop := ((0 : Int) ≤ l3 ∧ l3 < (6 : Int) ∧ (iv 0 4 (S.2 62 (l3)) → (rng (l5) ∧ ((S.2 62 (l3) ≤ l5 → wX11_isMixed_141 (l1) (l2) (l3) S K B4) ∧ ((¬ (S.2 62 (l3) ≤ l5)) → (rng (l4) ∧ ((l4 = 0 → wX11_isMixed_141 (l1) (l2) (l3) S K B4) ∧ ((¬ (l4 = 0)) → wX11_isMixed_95 (l1) (l2) (l3) (l4) (l5) (0) S K B4 B76))))))))
set_option maxRecDepth 100000 in
set_option maxHeartbeats 4000000 in
theorem bX11_isMixed_76' {G : xG} {sh : Nat → Option Sh} {J : St → List va_E → Prop} {d : Nat} {Post : xP} {l1 l2 l3 l4 l5 : Int} {S : St} {cs : List va_E} {K : Int → St → Prop} {B4 : Int → Int → Int → St → Prop} {B76 : Int → Int → Int → Int → Int → St → Prop} (hd : 1 ≤ d) (hJ : Stb sh J) (hT : isM sh) (hW : Wd G sh mT J S cs) (hP : ∀ (v : Int) (S : St) (cs : List va_E), K v S → Wd G sh mT J S cs → Post (some (.int (Int32.ofInt v))) cs) (hB4 : ∀ (l1 : Int) (l2 : Int) (l3 : Int) (S : St) (cs : List va_E), B4 l1 l2 l3 S → Wd G sh mT J S cs → Z (RX11, cX11_isMixed, 7, some .boolean, false) G d Post 4 [(0, .ref (G.1 + 54)), (1, .int (Int32.ofInt (l1))), (2, .int (Int32.ofInt (l2))), (3, .int (Int32.ofInt (l3)))] [] cs) (hB76 : ∀ (l1 : Int) (l2 : Int) (l3 : Int) (l4 : Int) (l5 : Int) (S : St) (cs : List va_E), B76 l1 l2 l3 l4 l5 S → Wd G sh mT J S cs → Z (RX11, cX11_isMixed, 7, some .boolean, false) G d Post 76 [(0, .ref (G.1 + 54)), (1, .int (Int32.ofInt (l1))), (2, .int (Int32.ofInt (l2))), (3, .int (Int32.ofInt (l3))), (4, .int (Int32.ofInt (l4))), (5, .int (Int32.ofInt (l5)))] [] cs) (hw : wX11_isMixed_76' l1 l2 l3 l4 l5 S K B4 B76) : Z (RX11, cX11_isMixed, 7, some .boolean, false) G d Post 76 [(0, .ref (G.1 + 54)), (1, .int (Int32.ofInt (l1))), (2, .int (Int32.ofInt (l2))), (3, .int (Int32.ofInt (l3))), (4, .int (Int32.ofInt (l4))), (5, .int (Int32.ofInt (l5)))] [] cs := by
  unfold wX11_isMixed_76' at hw
  refine z_iload dX11_isMixed_76 rfl ?_
  refine z_aload_n dX11_isMixed_78 rfl rfl ?_
  refine g_getR hW hT.1 mr9 kX11 fX11_32 dX11_isMixed_79 ?_
  refine z_iload_n dX11_isMixed_82 rfl rfl ?_
  obtain ⟨q1a, q1b, hw⟩ := hw
  have q2 : iv 0 4 (S.2 62 (l3)) := mA62 hW _
  have hw := hw q2
  refine g_iald hW (ma62 hT) q1a q1b (by decide) dX11_isMixed_83 ?_
  obtain ⟨q4, hw⟩ := hw
  refine i_icmp_ge (tgt := 141) dX11_isMixed_84 (by decide) q4 (rngq q2 (by decide) (by decide)) (fun h3 => ?_) (fun h3 => ?_)
  · have hw := hw.1 h3
    refine z_loc (L' := [(0, .ref (G.1 + 54)), (1, .int (Int32.ofInt (l1))), (2, .int (Int32.ofInt (l2))), (3, .int (Int32.ofInt (l3)))]) (List.forall_mem_cons.mpr ⟨rfl, (List.forall_mem_cons.mpr ⟨rfl, (List.forall_mem_cons.mpr ⟨rfl, (List.forall_mem_cons.mpr ⟨rfl, (fun _ h => nomatch h)⟩)⟩)⟩)⟩) ?_
    exact bX11_isMixed_141 hd hJ hT hW hP hB4 hw
  · have hw := hw.2 h3
    refine z_iload dX11_isMixed_87 rfl ?_
    obtain ⟨q6, hw⟩ := hw
    refine i_if_eq (tgt := 141) dX11_isMixed_89 (by decide) q6 (fun h5 => ?_) (fun h5 => ?_)
    · have hw := hw.1 h5
      refine z_loc (L' := [(0, .ref (G.1 + 54)), (1, .int (Int32.ofInt (l1))), (2, .int (Int32.ofInt (l2))), (3, .int (Int32.ofInt (l3)))]) (List.forall_mem_cons.mpr ⟨rfl, (List.forall_mem_cons.mpr ⟨rfl, (List.forall_mem_cons.mpr ⟨rfl, (List.forall_mem_cons.mpr ⟨rfl, (fun _ h => nomatch h)⟩)⟩)⟩)⟩) ?_
      exact bX11_isMixed_141 hd hJ hT hW hP hB4 hw
    · have hw := hw.2 h5
      refine z_iconst (v := Int32.ofInt 0) dX11_isMixed_92 rfl ?_
      refine z_istore dX11_isMixed_93 (by decide) ?_
      refine z_loc (L' := [(0, .ref (G.1 + 54)), (1, .int (Int32.ofInt (l1))), (2, .int (Int32.ofInt (l2))), (3, .int (Int32.ofInt (l3))), (4, .int (Int32.ofInt (l4))), (5, .int (Int32.ofInt (l5))), (6, .int (Int32.ofInt (0)))]) (List.forall_mem_cons.mpr ⟨rfl, (List.forall_mem_cons.mpr ⟨rfl, (List.forall_mem_cons.mpr ⟨rfl, (List.forall_mem_cons.mpr ⟨rfl, (List.forall_mem_cons.mpr ⟨rfl, (List.forall_mem_cons.mpr ⟨rfl, (List.forall_mem_cons.mpr ⟨rfl, (fun _ h => nomatch h)⟩)⟩)⟩)⟩)⟩)⟩)⟩) ?_
      exact bX11_isMixed_95 hd hJ hT hW hP hB4 hB76 hw
def wX11_isMixed_76 (l1 l2 l3 l4 l5 : Int) (S : St) (K : Int → St → Prop) (B4 : Int → Int → Int → St → Prop) : Prop := ∃ (Iv : Int → Int → Int → Int → Int → St → Prop) (mu : Int → Int → Int → Int → Int → St → Nat), Iv l1 l2 l3 l4 l5 S ∧ ∀ (l1 l2 l3 l4 l5 : Int) (S : St), Iv l1 l2 l3 l4 l5 S → wX11_isMixed_76' l1 l2 l3 l4 l5 S K B4 (fun ml1 ml2 ml3 ml4 ml5 T => Iv ml1 ml2 ml3 ml4 ml5 T ∧ mu ml1 ml2 ml3 ml4 ml5 T < mu l1 l2 l3 l4 l5 S)
set_option maxRecDepth 100000 in
set_option maxHeartbeats 4000000 in
theorem bX11_isMixed_76 {G : xG} {sh : Nat → Option Sh} {J : St → List va_E → Prop} {d : Nat} {Post : xP} {l1 l2 l3 l4 l5 : Int} {S : St} {cs : List va_E} {K : Int → St → Prop} {B4 : Int → Int → Int → St → Prop} (hd : 1 ≤ d) (hJ : Stb sh J) (hT : isM sh) (hW : Wd G sh mT J S cs) (hP : ∀ (v : Int) (S : St) (cs : List va_E), K v S → Wd G sh mT J S cs → Post (some (.int (Int32.ofInt v))) cs) (hB4 : ∀ (l1 : Int) (l2 : Int) (l3 : Int) (S : St) (cs : List va_E), B4 l1 l2 l3 S → Wd G sh mT J S cs → Z (RX11, cX11_isMixed, 7, some .boolean, false) G d Post 4 [(0, .ref (G.1 + 54)), (1, .int (Int32.ofInt (l1))), (2, .int (Int32.ofInt (l2))), (3, .int (Int32.ofInt (l3)))] [] cs) (hw : wX11_isMixed_76 l1 l2 l3 l4 l5 S K B4) : Z (RX11, cX11_isMixed, 7, some .boolean, false) G d Post 76 [(0, .ref (G.1 + 54)), (1, .int (Int32.ofInt (l1))), (2, .int (Int32.ofInt (l2))), (3, .int (Int32.ofInt (l3))), (4, .int (Int32.ofInt (l4))), (5, .int (Int32.ofInt (l5)))] [] cs := by
  unfold wX11_isMixed_76 at hw
  obtain ⟨Iv, mu, h0, hs⟩ := hw
  have key : ∀ (n : Nat) (l1 l2 l3 l4 l5 : Int) (S : St) (cs : List va_E), mu l1 l2 l3 l4 l5 S < n → Iv l1 l2 l3 l4 l5 S → Wd G sh mT J S cs → Z (RX11, cX11_isMixed, 7, some .boolean, false) G d Post 76 [(0, .ref (G.1 + 54)), (1, .int (Int32.ofInt (l1))), (2, .int (Int32.ofInt (l2))), (3, .int (Int32.ofInt (l3))), (4, .int (Int32.ofInt (l4))), (5, .int (Int32.ofInt (l5)))] [] cs := by
    intro n
    induction n with
    | zero => intro l1 l2 l3 l4 l5 S cs hn; exact absurd hn (Nat.not_lt_zero _)
    | succ n ih =>
      intro l1 l2 l3 l4 l5 S cs hn hI hW
      exact bX11_isMixed_76' hd hJ hT hW hP hB4 (fun l1 l2 l3 l4 l5 S cs hb hW => ih l1 l2 l3 l4 l5 S cs (Nat.lt_of_lt_of_le hb.2 (Nat.le_of_lt_succ hn)) hb.1 hW) (hs l1 l2 l3 l4 l5 S hI)
  exact key _ _ _ _ _ _ _ _ (Nat.lt_succ_self _) h0 hW
def wX11_isMixed_65 (l1 l2 l3 l5 s0 : Int) (S : St) (K : Int → St → Prop) (B4 : Int → Int → Int → St → Prop) (B15 : Int → Int → Int → Int → Int → St → Prop) : Prop := B15 (l1) (l2) (l3) (s0) ((l5 + 1)) S
set_option maxRecDepth 100000 in
set_option maxHeartbeats 4000000 in
theorem bX11_isMixed_65 {G : xG} {sh : Nat → Option Sh} {J : St → List va_E → Prop} {d : Nat} {Post : xP} {l1 l2 l3 l5 s0 : Int} {S : St} {cs : List va_E} {K : Int → St → Prop} {B4 : Int → Int → Int → St → Prop} {B15 : Int → Int → Int → Int → Int → St → Prop} (hd : 1 ≤ d) (hJ : Stb sh J) (hT : isM sh) (hW : Wd G sh mT J S cs) (hP : ∀ (v : Int) (S : St) (cs : List va_E), K v S → Wd G sh mT J S cs → Post (some (.int (Int32.ofInt v))) cs) (hB4 : ∀ (l1 : Int) (l2 : Int) (l3 : Int) (S : St) (cs : List va_E), B4 l1 l2 l3 S → Wd G sh mT J S cs → Z (RX11, cX11_isMixed, 7, some .boolean, false) G d Post 4 [(0, .ref (G.1 + 54)), (1, .int (Int32.ofInt (l1))), (2, .int (Int32.ofInt (l2))), (3, .int (Int32.ofInt (l3)))] [] cs) (hB15 : ∀ (l1 : Int) (l2 : Int) (l3 : Int) (l4 : Int) (l5 : Int) (S : St) (cs : List va_E), B15 l1 l2 l3 l4 l5 S → Wd G sh mT J S cs → Z (RX11, cX11_isMixed, 7, some .boolean, false) G d Post 15 [(0, .ref (G.1 + 54)), (1, .int (Int32.ofInt (l1))), (2, .int (Int32.ofInt (l2))), (3, .int (Int32.ofInt (l3))), (4, .int (Int32.ofInt (l4))), (5, .int (Int32.ofInt (l5)))] [] cs) (hw : wX11_isMixed_65 l1 l2 l3 l5 s0 S K B4 B15) : Z (RX11, cX11_isMixed, 7, some .boolean, false) G d Post 65 [(0, .ref (G.1 + 54)), (1, .int (Int32.ofInt (l1))), (2, .int (Int32.ofInt (l2))), (3, .int (Int32.ofInt (l3))), (5, .int (Int32.ofInt (l5)))] [.int (Int32.ofInt (s0))] cs := by
  unfold wX11_isMixed_65 at hw
  refine z_istore dX11_isMixed_65 (by decide) ?_
  refine i_iinc (l := l5) dX11_isMixed_67 rfl (by decide) ?_
  refine z_goto (tgt := 15) dX11_isMixed_70 (by decide) ?_
  refine z_loc (L' := [(0, .ref (G.1 + 54)), (1, .int (Int32.ofInt (l1))), (2, .int (Int32.ofInt (l2))), (3, .int (Int32.ofInt (l3))), (4, .int (Int32.ofInt (s0))), (5, .int (Int32.ofInt ((l5 + 1))))]) (List.forall_mem_cons.mpr ⟨rfl, (List.forall_mem_cons.mpr ⟨rfl, (List.forall_mem_cons.mpr ⟨rfl, (List.forall_mem_cons.mpr ⟨rfl, (List.forall_mem_cons.mpr ⟨rfl, (List.forall_mem_cons.mpr ⟨rfl, (fun _ h => nomatch h)⟩)⟩)⟩)⟩)⟩)⟩) ?_
  exact hB15 _ _ _ _ _ _ _ hw hW
def wX11_isMixed_60 (l1 l2 l3 l5 : Int) (S : St) (K : Int → St → Prop) (B4 : Int → Int → Int → St → Prop) (B15 : Int → Int → Int → Int → Int → St → Prop) : Prop := wX11_isMixed_65 (l1) (l2) (l3) (l5) (1) S K B4 B15
set_option maxRecDepth 100000 in
set_option maxHeartbeats 4000000 in
theorem bX11_isMixed_60 {G : xG} {sh : Nat → Option Sh} {J : St → List va_E → Prop} {d : Nat} {Post : xP} {l1 l2 l3 l5 : Int} {S : St} {cs : List va_E} {K : Int → St → Prop} {B4 : Int → Int → Int → St → Prop} {B15 : Int → Int → Int → Int → Int → St → Prop} (hd : 1 ≤ d) (hJ : Stb sh J) (hT : isM sh) (hW : Wd G sh mT J S cs) (hP : ∀ (v : Int) (S : St) (cs : List va_E), K v S → Wd G sh mT J S cs → Post (some (.int (Int32.ofInt v))) cs) (hB4 : ∀ (l1 : Int) (l2 : Int) (l3 : Int) (S : St) (cs : List va_E), B4 l1 l2 l3 S → Wd G sh mT J S cs → Z (RX11, cX11_isMixed, 7, some .boolean, false) G d Post 4 [(0, .ref (G.1 + 54)), (1, .int (Int32.ofInt (l1))), (2, .int (Int32.ofInt (l2))), (3, .int (Int32.ofInt (l3)))] [] cs) (hB15 : ∀ (l1 : Int) (l2 : Int) (l3 : Int) (l4 : Int) (l5 : Int) (S : St) (cs : List va_E), B15 l1 l2 l3 l4 l5 S → Wd G sh mT J S cs → Z (RX11, cX11_isMixed, 7, some .boolean, false) G d Post 15 [(0, .ref (G.1 + 54)), (1, .int (Int32.ofInt (l1))), (2, .int (Int32.ofInt (l2))), (3, .int (Int32.ofInt (l3))), (4, .int (Int32.ofInt (l4))), (5, .int (Int32.ofInt (l5)))] [] cs) (hw : wX11_isMixed_60 l1 l2 l3 l5 S K B4 B15) : Z (RX11, cX11_isMixed, 7, some .boolean, false) G d Post 60 [(0, .ref (G.1 + 54)), (1, .int (Int32.ofInt (l1))), (2, .int (Int32.ofInt (l2))), (3, .int (Int32.ofInt (l3))), (5, .int (Int32.ofInt (l5)))] [] cs := by
  unfold wX11_isMixed_60 at hw
  refine z_iconst (v := Int32.ofInt 1) dX11_isMixed_60 rfl ?_
  refine z_goto (tgt := 65) dX11_isMixed_61 (by decide) ?_
  refine z_loc (L' := [(0, .ref (G.1 + 54)), (1, .int (Int32.ofInt (l1))), (2, .int (Int32.ofInt (l2))), (3, .int (Int32.ofInt (l3))), (5, .int (Int32.ofInt (l5)))]) (List.forall_mem_cons.mpr ⟨rfl, (List.forall_mem_cons.mpr ⟨rfl, (List.forall_mem_cons.mpr ⟨rfl, (List.forall_mem_cons.mpr ⟨rfl, (List.forall_mem_cons.mpr ⟨rfl, (fun _ h => nomatch h)⟩)⟩)⟩)⟩)⟩) ?_
  exact bX11_isMixed_65 hd hJ hT hW hP hB4 hB15 hw
def wX11_isMixed_64 (l1 l2 l3 l5 : Int) (S : St) (K : Int → St → Prop) (B4 : Int → Int → Int → St → Prop) (B15 : Int → Int → Int → Int → Int → St → Prop) : Prop := wX11_isMixed_65 (l1) (l2) (l3) (l5) (0) S K B4 B15
set_option maxRecDepth 100000 in
set_option maxHeartbeats 4000000 in
theorem bX11_isMixed_64 {G : xG} {sh : Nat → Option Sh} {J : St → List va_E → Prop} {d : Nat} {Post : xP} {l1 l2 l3 l5 : Int} {S : St} {cs : List va_E} {K : Int → St → Prop} {B4 : Int → Int → Int → St → Prop} {B15 : Int → Int → Int → Int → Int → St → Prop} (hd : 1 ≤ d) (hJ : Stb sh J) (hT : isM sh) (hW : Wd G sh mT J S cs) (hP : ∀ (v : Int) (S : St) (cs : List va_E), K v S → Wd G sh mT J S cs → Post (some (.int (Int32.ofInt v))) cs) (hB4 : ∀ (l1 : Int) (l2 : Int) (l3 : Int) (S : St) (cs : List va_E), B4 l1 l2 l3 S → Wd G sh mT J S cs → Z (RX11, cX11_isMixed, 7, some .boolean, false) G d Post 4 [(0, .ref (G.1 + 54)), (1, .int (Int32.ofInt (l1))), (2, .int (Int32.ofInt (l2))), (3, .int (Int32.ofInt (l3)))] [] cs) (hB15 : ∀ (l1 : Int) (l2 : Int) (l3 : Int) (l4 : Int) (l5 : Int) (S : St) (cs : List va_E), B15 l1 l2 l3 l4 l5 S → Wd G sh mT J S cs → Z (RX11, cX11_isMixed, 7, some .boolean, false) G d Post 15 [(0, .ref (G.1 + 54)), (1, .int (Int32.ofInt (l1))), (2, .int (Int32.ofInt (l2))), (3, .int (Int32.ofInt (l3))), (4, .int (Int32.ofInt (l4))), (5, .int (Int32.ofInt (l5)))] [] cs) (hw : wX11_isMixed_64 l1 l2 l3 l5 S K B4 B15) : Z (RX11, cX11_isMixed, 7, some .boolean, false) G d Post 64 [(0, .ref (G.1 + 54)), (1, .int (Int32.ofInt (l1))), (2, .int (Int32.ofInt (l2))), (3, .int (Int32.ofInt (l3))), (5, .int (Int32.ofInt (l5)))] [] cs := by
  unfold wX11_isMixed_64 at hw
  refine z_iconst (v := Int32.ofInt 0) dX11_isMixed_64 rfl ?_
  refine z_loc (L' := [(0, .ref (G.1 + 54)), (1, .int (Int32.ofInt (l1))), (2, .int (Int32.ofInt (l2))), (3, .int (Int32.ofInt (l3))), (5, .int (Int32.ofInt (l5)))]) (List.forall_mem_cons.mpr ⟨rfl, (List.forall_mem_cons.mpr ⟨rfl, (List.forall_mem_cons.mpr ⟨rfl, (List.forall_mem_cons.mpr ⟨rfl, (List.forall_mem_cons.mpr ⟨rfl, (fun _ h => nomatch h)⟩)⟩)⟩)⟩)⟩) ?_
  exact bX11_isMixed_65 hd hJ hT hW hP hB4 hB15 hw
def wX11_isMixed_15' (l1 l2 l3 l4 l5 : Int) (S : St) (K : Int → St → Prop) (B4 : Int → Int → Int → St → Prop) (B15 : Int → Int → Int → Int → Int → St → Prop) : Prop := ((0 : Int) ≤ l3 ∧ l3 < (6 : Int) ∧ (iv 0 4 (S.2 62 (l3)) → (rng (l5) ∧ ((S.2 62 (l3) ≤ l5 → wX11_isMixed_76 (l1) (l2) (l3) (l4) (0) S K B4) ∧ ((¬ (S.2 62 (l3) ≤ l5)) → (rng (l4) ∧ ((¬ l4 = 0 → wX11_isMixed_60 (l1) (l2) (l3) (l5) S K B4 B15) ∧ ((¬ (¬ l4 = 0)) → ((0 : Int) ≤ ((4 * l3) + l5) ∧ ((4 * l3) + l5) < (24 : Int) ∧ (iv 0 3 (S.2 65 (((4 * l3) + l5))) → ((¬ S.2 65 (((4 * l3) + l5)) = 3 → wX11_isMixed_64 (l1) (l2) (l3) (l5) S K B4 B15) ∧ ((¬ (¬ S.2 65 (((4 * l3) + l5)) = 3)) → ((0 : Int) ≤ ((4 * l3) + l5) ∧ ((4 * l3) + l5) < (24 : Int) ∧ (iv 0 1 (S.2 66 (((4 * l3) + l5))) → ((S.2 66 (((4 * l3) + l5)) = 0 → wX11_isMixed_64 (l1) (l2) (l3) (l5) S K B4 B15) ∧ ((¬ (S.2 66 (((4 * l3) + l5)) = 0)) → wX11_isMixed_60 (l1) (l2) (l3) (l5) S K B4 B15))))))))))))))))
set_option maxRecDepth 100000 in
set_option maxHeartbeats 4000000 in
theorem bX11_isMixed_15' {G : xG} {sh : Nat → Option Sh} {J : St → List va_E → Prop} {d : Nat} {Post : xP} {l1 l2 l3 l4 l5 : Int} {S : St} {cs : List va_E} {K : Int → St → Prop} {B4 : Int → Int → Int → St → Prop} {B15 : Int → Int → Int → Int → Int → St → Prop} (hd : 1 ≤ d) (hJ : Stb sh J) (hT : isM sh) (hW : Wd G sh mT J S cs) (hP : ∀ (v : Int) (S : St) (cs : List va_E), K v S → Wd G sh mT J S cs → Post (some (.int (Int32.ofInt v))) cs) (hB4 : ∀ (l1 : Int) (l2 : Int) (l3 : Int) (S : St) (cs : List va_E), B4 l1 l2 l3 S → Wd G sh mT J S cs → Z (RX11, cX11_isMixed, 7, some .boolean, false) G d Post 4 [(0, .ref (G.1 + 54)), (1, .int (Int32.ofInt (l1))), (2, .int (Int32.ofInt (l2))), (3, .int (Int32.ofInt (l3)))] [] cs) (hB15 : ∀ (l1 : Int) (l2 : Int) (l3 : Int) (l4 : Int) (l5 : Int) (S : St) (cs : List va_E), B15 l1 l2 l3 l4 l5 S → Wd G sh mT J S cs → Z (RX11, cX11_isMixed, 7, some .boolean, false) G d Post 15 [(0, .ref (G.1 + 54)), (1, .int (Int32.ofInt (l1))), (2, .int (Int32.ofInt (l2))), (3, .int (Int32.ofInt (l3))), (4, .int (Int32.ofInt (l4))), (5, .int (Int32.ofInt (l5)))] [] cs) (hw : wX11_isMixed_15' l1 l2 l3 l4 l5 S K B4 B15) : Z (RX11, cX11_isMixed, 7, some .boolean, false) G d Post 15 [(0, .ref (G.1 + 54)), (1, .int (Int32.ofInt (l1))), (2, .int (Int32.ofInt (l2))), (3, .int (Int32.ofInt (l3))), (4, .int (Int32.ofInt (l4))), (5, .int (Int32.ofInt (l5)))] [] cs := by
  unfold wX11_isMixed_15' at hw
  refine z_iload dX11_isMixed_15 rfl ?_
  refine z_aload_n dX11_isMixed_17 rfl rfl ?_
  refine g_getR hW hT.1 mr9 kX11 fX11_32 dX11_isMixed_18 ?_
  refine z_iload_n dX11_isMixed_21 rfl rfl ?_
  obtain ⟨q1a, q1b, hw⟩ := hw
  have q2 : iv 0 4 (S.2 62 (l3)) := mA62 hW _
  have hw := hw q2
  refine g_iald hW (ma62 hT) q1a q1b (by decide) dX11_isMixed_22 ?_
  obtain ⟨q4, hw⟩ := hw
  refine i_icmp_ge (tgt := 73) dX11_isMixed_23 (by decide) q4 (rngq q2 (by decide) (by decide)) (fun h3 => ?_) (fun h3 => ?_)
  · have hw := hw.1 h3
    refine z_iconst (v := Int32.ofInt 0) dX11_isMixed_73 rfl ?_
    refine z_istore dX11_isMixed_74 (by decide) ?_
    refine z_loc (L' := [(0, .ref (G.1 + 54)), (1, .int (Int32.ofInt (l1))), (2, .int (Int32.ofInt (l2))), (3, .int (Int32.ofInt (l3))), (4, .int (Int32.ofInt (l4))), (5, .int (Int32.ofInt (0)))]) (List.forall_mem_cons.mpr ⟨rfl, (List.forall_mem_cons.mpr ⟨rfl, (List.forall_mem_cons.mpr ⟨rfl, (List.forall_mem_cons.mpr ⟨rfl, (List.forall_mem_cons.mpr ⟨rfl, (List.forall_mem_cons.mpr ⟨rfl, (fun _ h => nomatch h)⟩)⟩)⟩)⟩)⟩)⟩) ?_
    exact bX11_isMixed_76 hd hJ hT hW hP hB4 hw
  · have hw := hw.2 h3
    refine z_iload dX11_isMixed_26 rfl ?_
    obtain ⟨q6, hw⟩ := hw
    refine i_if_ne (tgt := 60) dX11_isMixed_28 (by decide) q6 (fun h5 => ?_) (fun h5 => ?_)
    · have hw := hw.1 h5
      refine z_loc (L' := [(0, .ref (G.1 + 54)), (1, .int (Int32.ofInt (l1))), (2, .int (Int32.ofInt (l2))), (3, .int (Int32.ofInt (l3))), (5, .int (Int32.ofInt (l5)))]) (List.forall_mem_cons.mpr ⟨rfl, (List.forall_mem_cons.mpr ⟨rfl, (List.forall_mem_cons.mpr ⟨rfl, (List.forall_mem_cons.mpr ⟨rfl, (List.forall_mem_cons.mpr ⟨rfl, (fun _ h => nomatch h)⟩)⟩)⟩)⟩)⟩) ?_
      exact bX11_isMixed_60 hd hJ hT hW hP hB4 hB15 hw
    · have hw := hw.2 h5
      refine z_aload_n dX11_isMixed_31 rfl rfl ?_
      refine g_getR hW hT.1 mr12 kX11 fX11_41 dX11_isMixed_32 ?_
      refine z_iconst (v := Int32.ofInt 4) dX11_isMixed_35 rfl ?_
      refine z_iload_n dX11_isMixed_36 rfl rfl ?_
      refine i_imul dX11_isMixed_37 ?_
      refine z_iload dX11_isMixed_38 rfl ?_
      refine i_iadd dX11_isMixed_40 ?_
      obtain ⟨q7a, q7b, hw⟩ := hw
      have q8 : iv 0 3 (S.2 65 (((4 * l3) + l5))) := mA65 hW _
      have hw := hw q8
      refine g_iald hW (ma65 hT) q7a q7b (by decide) dX11_isMixed_41 ?_
      refine z_iconst (v := Int32.ofInt 3) dX11_isMixed_42 rfl ?_
      refine i_icmp_ne (tgt := 64) dX11_isMixed_43 (by decide) (rngq q8 (by decide) (by decide)) ⟨by decide, by decide⟩ (fun h9 => ?_) (fun h9 => ?_)
      · have hw := hw.1 h9
        refine z_loc (L' := [(0, .ref (G.1 + 54)), (1, .int (Int32.ofInt (l1))), (2, .int (Int32.ofInt (l2))), (3, .int (Int32.ofInt (l3))), (5, .int (Int32.ofInt (l5)))]) (List.forall_mem_cons.mpr ⟨rfl, (List.forall_mem_cons.mpr ⟨rfl, (List.forall_mem_cons.mpr ⟨rfl, (List.forall_mem_cons.mpr ⟨rfl, (List.forall_mem_cons.mpr ⟨rfl, (fun _ h => nomatch h)⟩)⟩)⟩)⟩)⟩) ?_
        exact bX11_isMixed_64 hd hJ hT hW hP hB4 hB15 hw
      · have hw := hw.2 h9
        refine z_aload_n dX11_isMixed_46 rfl rfl ?_
        refine g_getR hW hT.1 mr13 kX11 fX11_44 dX11_isMixed_47 ?_
        refine z_iconst (v := Int32.ofInt 4) dX11_isMixed_50 rfl ?_
        refine z_iload_n dX11_isMixed_51 rfl rfl ?_
        refine i_imul dX11_isMixed_52 ?_
        refine z_iload dX11_isMixed_53 rfl ?_
        refine i_iadd dX11_isMixed_55 ?_
        obtain ⟨q10a, q10b, hw⟩ := hw
        have q11 : iv 0 1 (S.2 66 (((4 * l3) + l5))) := mA66 hW _
        have hw := hw q11
        refine g_zald hW (ma66 hT) q10a q10b (by decide) dX11_isMixed_56 ?_
        refine i_if_eq (tgt := 64) dX11_isMixed_57 (by decide) (rngq q11 (by decide) (by decide)) (fun h12 => ?_) (fun h12 => ?_)
        · have hw := hw.1 h12
          refine z_loc (L' := [(0, .ref (G.1 + 54)), (1, .int (Int32.ofInt (l1))), (2, .int (Int32.ofInt (l2))), (3, .int (Int32.ofInt (l3))), (5, .int (Int32.ofInt (l5)))]) (List.forall_mem_cons.mpr ⟨rfl, (List.forall_mem_cons.mpr ⟨rfl, (List.forall_mem_cons.mpr ⟨rfl, (List.forall_mem_cons.mpr ⟨rfl, (List.forall_mem_cons.mpr ⟨rfl, (fun _ h => nomatch h)⟩)⟩)⟩)⟩)⟩) ?_
          exact bX11_isMixed_64 hd hJ hT hW hP hB4 hB15 hw
        · have hw := hw.2 h12
          refine z_loc (L' := [(0, .ref (G.1 + 54)), (1, .int (Int32.ofInt (l1))), (2, .int (Int32.ofInt (l2))), (3, .int (Int32.ofInt (l3))), (5, .int (Int32.ofInt (l5)))]) (List.forall_mem_cons.mpr ⟨rfl, (List.forall_mem_cons.mpr ⟨rfl, (List.forall_mem_cons.mpr ⟨rfl, (List.forall_mem_cons.mpr ⟨rfl, (List.forall_mem_cons.mpr ⟨rfl, (fun _ h => nomatch h)⟩)⟩)⟩)⟩)⟩) ?_
          exact bX11_isMixed_60 hd hJ hT hW hP hB4 hB15 hw
def wX11_isMixed_15 (l1 l2 l3 l4 l5 : Int) (S : St) (K : Int → St → Prop) (B4 : Int → Int → Int → St → Prop) : Prop := ∃ (Iv : Int → Int → Int → Int → Int → St → Prop) (mu : Int → Int → Int → Int → Int → St → Nat), Iv l1 l2 l3 l4 l5 S ∧ ∀ (l1 l2 l3 l4 l5 : Int) (S : St), Iv l1 l2 l3 l4 l5 S → wX11_isMixed_15' l1 l2 l3 l4 l5 S K B4 (fun ml1 ml2 ml3 ml4 ml5 T => Iv ml1 ml2 ml3 ml4 ml5 T ∧ mu ml1 ml2 ml3 ml4 ml5 T < mu l1 l2 l3 l4 l5 S)
set_option maxRecDepth 100000 in
set_option maxHeartbeats 4000000 in
theorem bX11_isMixed_15 {G : xG} {sh : Nat → Option Sh} {J : St → List va_E → Prop} {d : Nat} {Post : xP} {l1 l2 l3 l4 l5 : Int} {S : St} {cs : List va_E} {K : Int → St → Prop} {B4 : Int → Int → Int → St → Prop} (hd : 1 ≤ d) (hJ : Stb sh J) (hT : isM sh) (hW : Wd G sh mT J S cs) (hP : ∀ (v : Int) (S : St) (cs : List va_E), K v S → Wd G sh mT J S cs → Post (some (.int (Int32.ofInt v))) cs) (hB4 : ∀ (l1 : Int) (l2 : Int) (l3 : Int) (S : St) (cs : List va_E), B4 l1 l2 l3 S → Wd G sh mT J S cs → Z (RX11, cX11_isMixed, 7, some .boolean, false) G d Post 4 [(0, .ref (G.1 + 54)), (1, .int (Int32.ofInt (l1))), (2, .int (Int32.ofInt (l2))), (3, .int (Int32.ofInt (l3)))] [] cs) (hw : wX11_isMixed_15 l1 l2 l3 l4 l5 S K B4) : Z (RX11, cX11_isMixed, 7, some .boolean, false) G d Post 15 [(0, .ref (G.1 + 54)), (1, .int (Int32.ofInt (l1))), (2, .int (Int32.ofInt (l2))), (3, .int (Int32.ofInt (l3))), (4, .int (Int32.ofInt (l4))), (5, .int (Int32.ofInt (l5)))] [] cs := by
  unfold wX11_isMixed_15 at hw
  obtain ⟨Iv, mu, h0, hs⟩ := hw
  have key : ∀ (n : Nat) (l1 l2 l3 l4 l5 : Int) (S : St) (cs : List va_E), mu l1 l2 l3 l4 l5 S < n → Iv l1 l2 l3 l4 l5 S → Wd G sh mT J S cs → Z (RX11, cX11_isMixed, 7, some .boolean, false) G d Post 15 [(0, .ref (G.1 + 54)), (1, .int (Int32.ofInt (l1))), (2, .int (Int32.ofInt (l2))), (3, .int (Int32.ofInt (l3))), (4, .int (Int32.ofInt (l4))), (5, .int (Int32.ofInt (l5)))] [] cs := by
    intro n
    induction n with
    | zero => intro l1 l2 l3 l4 l5 S cs hn; exact absurd hn (Nat.not_lt_zero _)
    | succ n ih =>
      intro l1 l2 l3 l4 l5 S cs hn hI hW
      exact bX11_isMixed_15' hd hJ hT hW hP hB4 (fun l1 l2 l3 l4 l5 S cs hb hW => ih l1 l2 l3 l4 l5 S cs (Nat.lt_of_lt_of_le hb.2 (Nat.le_of_lt_succ hn)) hb.1 hW) (hs l1 l2 l3 l4 l5 S hI)
  exact key _ _ _ _ _ _ _ _ (Nat.lt_succ_self _) h0 hW
def wX11_isMixed_4' (l1 l2 l3 : Int) (S : St) (K : Int → St → Prop) (B4 : Int → Int → Int → St → Prop) : Prop := (rng (l3) ∧ (rng (l1) ∧ ((l1 ≤ l3 → (iv 0 1 (l2) ∧ K (l2) S)) ∧ ((¬ (l1 ≤ l3)) → wX11_isMixed_15 (l1) (l2) (l3) (0) (0) S K B4))))
set_option maxRecDepth 100000 in
set_option maxHeartbeats 4000000 in
theorem bX11_isMixed_4' {G : xG} {sh : Nat → Option Sh} {J : St → List va_E → Prop} {d : Nat} {Post : xP} {l1 l2 l3 : Int} {S : St} {cs : List va_E} {K : Int → St → Prop} {B4 : Int → Int → Int → St → Prop} (hd : 1 ≤ d) (hJ : Stb sh J) (hT : isM sh) (hW : Wd G sh mT J S cs) (hP : ∀ (v : Int) (S : St) (cs : List va_E), K v S → Wd G sh mT J S cs → Post (some (.int (Int32.ofInt v))) cs) (hB4 : ∀ (l1 : Int) (l2 : Int) (l3 : Int) (S : St) (cs : List va_E), B4 l1 l2 l3 S → Wd G sh mT J S cs → Z (RX11, cX11_isMixed, 7, some .boolean, false) G d Post 4 [(0, .ref (G.1 + 54)), (1, .int (Int32.ofInt (l1))), (2, .int (Int32.ofInt (l2))), (3, .int (Int32.ofInt (l3)))] [] cs) (hw : wX11_isMixed_4' l1 l2 l3 S K B4) : Z (RX11, cX11_isMixed, 7, some .boolean, false) G d Post 4 [(0, .ref (G.1 + 54)), (1, .int (Int32.ofInt (l1))), (2, .int (Int32.ofInt (l2))), (3, .int (Int32.ofInt (l3)))] [] cs := by
  unfold wX11_isMixed_4' at hw
  refine z_iload_n dX11_isMixed_4 rfl rfl ?_
  refine z_iload_n dX11_isMixed_5 rfl rfl ?_
  obtain ⟨q2, hw⟩ := hw
  obtain ⟨q3, hw⟩ := hw
  refine i_icmp_ge (tgt := 147) dX11_isMixed_6 (by decide) q2 q3 (fun h1 => ?_) (fun h1 => ?_)
  · have hw := hw.1 h1
    refine z_iload_n dX11_isMixed_147 rfl rfl ?_
    obtain ⟨q4, hw⟩ := hw
    exact z_ireturn dX11_isMixed_148 rfl (nar01 (b01 q4)) (hP _ _ _ hw hW)
  · have hw := hw.2 h1
    refine z_iconst (v := Int32.ofInt 0) dX11_isMixed_9 rfl ?_
    refine z_istore dX11_isMixed_10 (by decide) ?_
    refine z_iconst (v := Int32.ofInt 0) dX11_isMixed_12 rfl ?_
    refine z_istore dX11_isMixed_13 (by decide) ?_
    refine z_loc (L' := [(0, .ref (G.1 + 54)), (1, .int (Int32.ofInt (l1))), (2, .int (Int32.ofInt (l2))), (3, .int (Int32.ofInt (l3))), (4, .int (Int32.ofInt (0))), (5, .int (Int32.ofInt (0)))]) (List.forall_mem_cons.mpr ⟨rfl, (List.forall_mem_cons.mpr ⟨rfl, (List.forall_mem_cons.mpr ⟨rfl, (List.forall_mem_cons.mpr ⟨rfl, (List.forall_mem_cons.mpr ⟨rfl, (List.forall_mem_cons.mpr ⟨rfl, (fun _ h => nomatch h)⟩)⟩)⟩)⟩)⟩)⟩) ?_
    exact bX11_isMixed_15 hd hJ hT hW hP hB4 hw
def wX11_isMixed_4 (l1 l2 l3 : Int) (S : St) (K : Int → St → Prop) : Prop := ∃ (Iv : Int → Int → Int → St → Prop) (mu : Int → Int → Int → St → Nat), Iv l1 l2 l3 S ∧ ∀ (l1 l2 l3 : Int) (S : St), Iv l1 l2 l3 S → wX11_isMixed_4' l1 l2 l3 S K  (fun ml1 ml2 ml3 T => Iv ml1 ml2 ml3 T ∧ mu ml1 ml2 ml3 T < mu l1 l2 l3 S)
set_option maxRecDepth 100000 in
set_option maxHeartbeats 4000000 in
theorem bX11_isMixed_4 {G : xG} {sh : Nat → Option Sh} {J : St → List va_E → Prop} {d : Nat} {Post : xP} {l1 l2 l3 : Int} {S : St} {cs : List va_E} {K : Int → St → Prop} (hd : 1 ≤ d) (hJ : Stb sh J) (hT : isM sh) (hW : Wd G sh mT J S cs) (hP : ∀ (v : Int) (S : St) (cs : List va_E), K v S → Wd G sh mT J S cs → Post (some (.int (Int32.ofInt v))) cs)  (hw : wX11_isMixed_4 l1 l2 l3 S K ) : Z (RX11, cX11_isMixed, 7, some .boolean, false) G d Post 4 [(0, .ref (G.1 + 54)), (1, .int (Int32.ofInt (l1))), (2, .int (Int32.ofInt (l2))), (3, .int (Int32.ofInt (l3)))] [] cs := by
  unfold wX11_isMixed_4 at hw
  obtain ⟨Iv, mu, h0, hs⟩ := hw
  have key : ∀ (n : Nat) (l1 l2 l3 : Int) (S : St) (cs : List va_E), mu l1 l2 l3 S < n → Iv l1 l2 l3 S → Wd G sh mT J S cs → Z (RX11, cX11_isMixed, 7, some .boolean, false) G d Post 4 [(0, .ref (G.1 + 54)), (1, .int (Int32.ofInt (l1))), (2, .int (Int32.ofInt (l2))), (3, .int (Int32.ofInt (l3)))] [] cs := by
    intro n
    induction n with
    | zero => intro l1 l2 l3 S cs hn; exact absurd hn (Nat.not_lt_zero _)
    | succ n ih =>
      intro l1 l2 l3 S cs hn hI hW
      exact bX11_isMixed_4' hd hJ hT hW hP  (fun l1 l2 l3 S cs hb hW => ih l1 l2 l3 S cs (Nat.lt_of_lt_of_le hb.2 (Nat.le_of_lt_succ hn)) hb.1 hW) (hs l1 l2 l3 S hI)
  exact key _ _ _ _ _ _ (Nat.lt_succ_self _) h0 hW
def wX11_isMixed (a1 : Int) (S : St) (K : Int → St → Prop) : Prop := rng a1 → wX11_isMixed_4 (a1) (0) (0) S K
set_option maxRecDepth 100000 in
set_option maxHeartbeats 4000000 in
theorem lX11_isMixed {G : xG} {sh : Nat → Option Sh} {J : St → List va_E → Prop} {a1 : Int} {S : St} {cs : List va_E} {K : Int → St → Prop} (d : Nat) (hd : 1 ≤ d) (hJ : Stb sh J) (hT : isM sh) (hW : Wd G sh mT J S cs) (g1 : rng a1) (hw : wX11_isMixed a1 S K) : X G yX11_isMixed cX11_isMixed 7 (some .boolean) d [.ref (G.1 + 54), .int (Int32.ofInt a1)] cs (qI G sh mT J K) := by
  refine X.of false (by decide +kernel) (by decide) (Nat.le_of_ble_eq_true rfl) ?_
  show Z (RX11, cX11_isMixed, 7, some .boolean, false) G d _ 0 [(0, .ref (G.1 + 54)), (1, .int (Int32.ofInt a1))] [] cs
  have hP : ∀ (v : Int) (S : St) (cs : List va_E), K v S → Wd G sh mT J S cs → qI G sh mT J K (some (.int (Int32.ofInt v))) cs := fun v S cs a b => ⟨v, S, rfl, a, b⟩
  unfold wX11_isMixed at hw
  have hw := hw g1
  refine z_iconst (v := Int32.ofInt 0) dX11_isMixed_0 rfl ?_
  refine z_istore_n dX11_isMixed_1 rfl (by decide) ?_
  refine z_iconst (v := Int32.ofInt 0) dX11_isMixed_2 rfl ?_
  refine z_istore_n dX11_isMixed_3 rfl (by decide) ?_
  refine z_loc (L' := [(0, .ref (G.1 + 54)), (1, .int (Int32.ofInt (a1))), (2, .int (Int32.ofInt (0))), (3, .int (Int32.ofInt (0)))]) (List.forall_mem_cons.mpr ⟨rfl, (List.forall_mem_cons.mpr ⟨rfl, (List.forall_mem_cons.mpr ⟨rfl, (List.forall_mem_cons.mpr ⟨rfl, (fun _ h => nomatch h)⟩)⟩)⟩)⟩) ?_
  exact bX11_isMixed_4 hd hJ hT hW hP  hw

def wX11_signAt (a1 : Int) (S : St) (K : Int → St → Prop) : Prop := rng a1 → (iv 0 3000 (S.1 54 0) → ((S.1 54 0 ≤ a1 → K (0) S) ∧ ((¬ (S.1 54 0 ≤ a1)) → ((0 : Int) ≤ a1 ∧ a1 < (3000 : Int) ∧ (iv (-2147483648) 2147483647 (S.2 55 (a1)) → K (S.2 55 (a1)) S)))))
set_option maxRecDepth 100000 in
set_option maxHeartbeats 4000000 in
theorem lX11_signAt {G : xG} {sh : Nat → Option Sh} {J : St → List va_E → Prop} {a1 : Int} {S : St} {cs : List va_E} {K : Int → St → Prop} (d : Nat) (hd : 0 ≤ d) (hJ : Stb sh J) (hT : isM sh) (hW : Wd G sh mT J S cs) (g1 : rng a1) (hw : wX11_signAt a1 S K) : X G yX11_signAt cX11_signAt 2 (some .int) d [.ref (G.1 + 54), .int (Int32.ofInt a1)] cs (qI G sh mT J K) := by
  refine X.of false (by decide +kernel) (by decide) (Nat.le_of_ble_eq_true rfl) ?_
  show Z (RX11, cX11_signAt, 2, some .int, false) G d _ 0 [(0, .ref (G.1 + 54)), (1, .int (Int32.ofInt a1))] [] cs
  have hP : ∀ (v : Int) (S : St) (cs : List va_E), K v S → Wd G sh mT J S cs → qI G sh mT J K (some (.int (Int32.ofInt v))) cs := fun v S cs a b => ⟨v, S, rfl, a, b⟩
  unfold wX11_signAt at hw
  have hw := hw g1
  refine z_iload_n dX11_signAt_0 rfl rfl ?_
  refine z_aload_n dX11_signAt_1 rfl rfl ?_
  have q1 : iv 0 3000 (S.1 54 0) := mI0 hW
  have hw := hw q1
  refine g_getI hW hT.1 mr0 kX11 fX11_171 dX11_signAt_2 ?_
  refine i_icmp_ge (tgt := 17) dX11_signAt_5 (by decide) g1 (rngq q1 (by decide) (by decide)) (fun h2 => ?_) (fun h2 => ?_)
  · have hw := hw.1 h2
    refine z_iconst (v := Int32.ofInt 0) dX11_signAt_17 rfl ?_
    exact z_ireturn dX11_signAt_18 rfl rfl (hP _ _ _ hw hW)
  · have hw := hw.2 h2
    refine z_aload_n dX11_signAt_8 rfl rfl ?_
    refine g_getR hW hT.1 mr1 kX11 fX11_7 dX11_signAt_9 ?_
    refine z_iload_n dX11_signAt_12 rfl rfl ?_
    obtain ⟨q3a, q3b, hw⟩ := hw
    have q4 : iv (-2147483648) 2147483647 (S.2 55 (a1)) := mA55 hW _
    have hw := hw q4
    refine g_iald hW (ma55 hT) q3a q3b (by decide) dX11_signAt_13 ?_
    refine z_goto (tgt := 18) dX11_signAt_14 (by decide) ?_
    exact z_ireturn dX11_signAt_18 rfl rfl (hP _ _ _ hw hW)

def wX11_want (a1 : Int) (S : St) (K : Int → St → Prop) : Prop := rng a1 → (iv 0 1 (S.1 54 23) → ((¬ S.1 54 23 = 0 → (∀ S3, S3 = pI S 54 23 (1) → K 0 S3)) ∧ ((¬ (¬ S.1 54 23 = 0)) → ((¬ a1 = 0 → (∀ S5, S5 = pI S 54 23 (0) → K 0 S5)) ∧ ((¬ (¬ a1 = 0)) → (∀ S6, S6 = pI S 54 23 (1) → K 0 S6))))))
set_option maxRecDepth 100000 in
set_option maxHeartbeats 4000000 in
theorem lX11_want {G : xG} {sh : Nat → Option Sh} {J : St → List va_E → Prop} {a1 : Int} {S : St} {cs : List va_E} {K : Int → St → Prop} (d : Nat) (hd : 0 ≤ d) (hJ : Stb sh J) (hT : isM sh) (hW : Wd G sh mT J S cs) (g1 : rng a1) (hw : wX11_want a1 S K) : X G yX11_want cX11_want 2 none d [.ref (G.1 + 54), .int (Int32.ofInt a1)] cs (qV G sh mT J K) := by
  refine X.of false (by decide +kernel) (by decide) (Nat.le_of_ble_eq_true rfl) ?_
  show Z (RX11, cX11_want, 2, none, false) G d _ 0 [(0, .ref (G.1 + 54)), (1, .int (Int32.ofInt a1))] [] cs
  have hP : ∀ (v : Int) (S : St) (cs : List va_E), K v S → Wd G sh mT J S cs → qV G sh mT J K (none) cs := fun v S cs a b => ⟨v, S, rfl, a, b⟩
  unfold wX11_want at hw
  have hw := hw g1
  refine z_aload_n dX11_want_0 rfl rfl ?_
  refine z_aload_n dX11_want_1 rfl rfl ?_
  have q1 : iv 0 1 (S.1 54 23) := mI23 hW
  have hw := hw q1
  refine g_getI hW hT.1 mr23 kX11 fX11_196 dX11_want_2 ?_
  refine i_if_ne (tgt := 12) dX11_want_5 (by decide) (rngq q1 (by decide) (by decide)) (fun h2 => ?_) (fun h2 => ?_)
  · have hw := hw.1 h2
    refine z_iconst (v := Int32.ofInt 1) dX11_want_12 rfl ?_
    refine z_goto (tgt := 17) dX11_want_13 (by decide) ?_
    refine g_putI hJ hW hT.1 mr23 kX11 fX11_196 dX11_want_17 rfl (nar01 (by decide)) (fit01 (by decide)) ⟨by decide, by decide⟩ (fun cs hW => ?_)
    obtain ⟨S3, hS3⟩ : ∃ x, x = pI S 54 23 (1) := ⟨_, rfl⟩
    rw [← hS3] at hW
    have hw := hw S3 hS3
    exact z_return dX11_want_20 rfl (hP 0 _ _ hw hW)
  · have hw := hw.2 h2
    refine z_iload_n dX11_want_8 rfl rfl ?_
    refine i_if_ne (tgt := 16) dX11_want_9 (by decide) g1 (fun h4 => ?_) (fun h4 => ?_)
    · have hw := hw.1 h4
      refine z_iconst (v := Int32.ofInt 0) dX11_want_16 rfl ?_
      refine g_putI hJ hW hT.1 mr23 kX11 fX11_196 dX11_want_17 rfl (nar01 (by decide)) (fit01 (by decide)) ⟨by decide, by decide⟩ (fun cs hW => ?_)
      obtain ⟨S5, hS5⟩ : ∃ x, x = pI S 54 23 (0) := ⟨_, rfl⟩
      rw [← hS5] at hW
      have hw := hw S5 hS5
      exact z_return dX11_want_20 rfl (hP 0 _ _ hw hW)
    · have hw := hw.2 h4
      refine z_iconst (v := Int32.ofInt 1) dX11_want_12 rfl ?_
      refine z_goto (tgt := 17) dX11_want_13 (by decide) ?_
      refine g_putI hJ hW hT.1 mr23 kX11 fX11_196 dX11_want_17 rfl (nar01 (by decide)) (fit01 (by decide)) ⟨by decide, by decide⟩ (fun cs hW => ?_)
      obtain ⟨S6, hS6⟩ : ∃ x, x = pI S 54 23 (1) := ⟨_, rfl⟩
      rw [← hS6] at hW
      have hw := hw S6 hS6
      exact z_return dX11_want_20 rfl (hP 0 _ _ hw hW)

def wX11_eat_18 (s0 : Int) (S : St) (K : Int → St → Prop) : Prop := (rng (s0) ∧ (wX11_want (s0) S (fun r2 S3 => (iv 0 1 (S3.1 54 23) → ((S3.1 54 23 = 0 → (iv 0 3000 (S3.1 54 22) → (iv 0 3000 ((S3.1 54 22 + 1)) ∧ (∀ S7, S7 = pI S3 54 22 ((S3.1 54 22 + 1)) → K 0 S7)))) ∧ ((¬ (S3.1 54 23 = 0)) → (iv 0 3000 (S3.1 54 22) → (∀ S10, S10 = pI S3 54 22 (S3.1 54 22) → K 0 S10))))))))
set_option maxRecDepth 100000 in
set_option maxHeartbeats 4000000 in
theorem bX11_eat_18 {G : xG} {sh : Nat → Option Sh} {J : St → List va_E → Prop} {d : Nat} {Post : xP} {s0 : Int} {S : St} {cs : List va_E} {K : Int → St → Prop} (hd : 1 ≤ d) (hJ : Stb sh J) (hT : isM sh) (hW : Wd G sh mT J S cs) (hP : ∀ (v : Int) (S : St) (cs : List va_E), K v S → Wd G sh mT J S cs → Post (none) cs)  (hw : wX11_eat_18 s0 S K ) : Z (RX11, cX11_eat, 2, none, false) G d Post 18 [(0, .ref (G.1 + 54))] [.int (Int32.ofInt (s0)), .ref (G.1 + 54)] cs := by
  unfold wX11_eat_18 at hw
  obtain ⟨q1, hw⟩ := hw
  have hX := lX11_want 0 (Nat.le_refl _) hJ hT hW q1 hw
  refine z_callV (As := [_]) eX11_want sX11_want lX11_213 rfl dX11_eat_18 (hW.1 _ _ hT.1) hX (Nat.le_trans (by decide) hd) rfl (Nat.le_of_ble_eq_true rfl) (fun r cs hp => ?_)
  obtain ⟨r2, S3, rfl, hw, hW⟩ := hp
  refine z_st (st' := []) rfl ?_
  refine z_aload_n dX11_eat_21 rfl rfl ?_
  refine z_aload_n dX11_eat_22 rfl rfl ?_
  have q4 : iv 0 1 (S3.1 54 23) := mI23 hW
  have hw := hw q4
  refine g_getI hW hT.1 mr23 kX11 fX11_196 dX11_eat_23 ?_
  refine i_if_eq (tgt := 36) dX11_eat_26 (by decide) (rngq q4 (by decide) (by decide)) (fun h5 => ?_) (fun h5 => ?_)
  · have hw := hw.1 h5
    refine z_aload_n dX11_eat_36 rfl rfl ?_
    have q6 : iv 0 3000 (S3.1 54 22) := mI22 hW
    have hw := hw q6
    refine g_getI hW hT.1 mr22 kX11 fX11_200 dX11_eat_37 ?_
    refine z_iconst (v := Int32.ofInt 1) dX11_eat_40 rfl ?_
    refine i_iadd dX11_eat_41 ?_
    obtain ⟨q8, hw⟩ := hw
    refine g_putI hJ hW hT.1 mr22 kX11 fX11_200 dX11_eat_42 rfl rfl rfl q8 (fun cs hW => ?_)
    obtain ⟨S7, hS7⟩ : ∃ x, x = pI S3 54 22 ((S3.1 54 22 + 1)) := ⟨_, rfl⟩
    rw [← hS7] at hW
    have hw := hw S7 hS7
    exact z_return dX11_eat_45 rfl (hP 0 _ _ hw hW)
  · have hw := hw.2 h5
    refine z_aload_n dX11_eat_29 rfl rfl ?_
    have q9 : iv 0 3000 (S3.1 54 22) := mI22 hW
    have hw := hw q9
    refine g_getI hW hT.1 mr22 kX11 fX11_200 dX11_eat_30 ?_
    refine z_goto (tgt := 42) dX11_eat_33 (by decide) ?_
    refine g_putI hJ hW hT.1 mr22 kX11 fX11_200 dX11_eat_42 rfl rfl rfl q9 (fun cs hW => ?_)
    obtain ⟨S10, hS10⟩ : ∃ x, x = pI S3 54 22 (S3.1 54 22) := ⟨_, rfl⟩
    rw [← hS10] at hW
    have hw := hw S10 hS10
    exact z_return dX11_eat_45 rfl (hP 0 _ _ hw hW)
def wX11_eat (a1 : Int) (S : St) (K : Int → St → Prop) : Prop := rng a1 → (iv 0 3000 (S.1 54 22) → (wX11_signAt (S.1 54 22) S (fun r2 S3 => (rng (r2) ∧ ((¬ r2 = a1 → wX11_eat_18 (0) S3 K) ∧ ((¬ (¬ r2 = a1)) → wX11_eat_18 (1) S3 K))))))
set_option maxRecDepth 100000 in
set_option maxHeartbeats 4000000 in
theorem lX11_eat {G : xG} {sh : Nat → Option Sh} {J : St → List va_E → Prop} {a1 : Int} {S : St} {cs : List va_E} {K : Int → St → Prop} (d : Nat) (hd : 1 ≤ d) (hJ : Stb sh J) (hT : isM sh) (hW : Wd G sh mT J S cs) (g1 : rng a1) (hw : wX11_eat a1 S K) : X G yX11_eat cX11_eat 2 none d [.ref (G.1 + 54), .int (Int32.ofInt a1)] cs (qV G sh mT J K) := by
  refine X.of false (by decide +kernel) (by decide) (Nat.le_of_ble_eq_true rfl) ?_
  show Z (RX11, cX11_eat, 2, none, false) G d _ 0 [(0, .ref (G.1 + 54)), (1, .int (Int32.ofInt a1))] [] cs
  have hP : ∀ (v : Int) (S : St) (cs : List va_E), K v S → Wd G sh mT J S cs → qV G sh mT J K (none) cs := fun v S cs a b => ⟨v, S, rfl, a, b⟩
  unfold wX11_eat at hw
  have hw := hw g1
  refine z_aload_n dX11_eat_0 rfl rfl ?_
  refine z_aload_n dX11_eat_1 rfl rfl ?_
  refine z_aload_n dX11_eat_2 rfl rfl ?_
  have q1 : iv 0 3000 (S.1 54 22) := mI22 hW
  have hw := hw q1
  refine g_getI hW hT.1 mr22 kX11 fX11_200 dX11_eat_3 ?_
  have hX := lX11_signAt 0 (Nat.le_refl _) hJ hT hW (rngq q1 (by decide) (by decide)) hw
  refine z_callV (As := [_]) eX11_signAt sX11_signAt lX11_182 rfl dX11_eat_6 (hW.1 _ _ hT.1) hX (Nat.le_trans (by decide) hd) rfl (Nat.le_of_ble_eq_true rfl) (fun r cs hp => ?_)
  obtain ⟨r2, S3, rfl, hw, hW⟩ := hp
  refine z_st (st' := [.int (Int32.ofInt (r2)), .ref (G.1 + 54)]) rfl ?_
  refine z_iload_n dX11_eat_9 rfl rfl ?_
  obtain ⟨q5, hw⟩ := hw
  refine i_icmp_ne (tgt := 17) dX11_eat_10 (by decide) q5 g1 (fun h4 => ?_) (fun h4 => ?_)
  · have hw := hw.1 h4
    refine z_iconst (v := Int32.ofInt 0) dX11_eat_17 rfl ?_
    refine z_loc (L' := [(0, .ref (G.1 + 54))]) (List.forall_mem_cons.mpr ⟨rfl, (fun _ h => nomatch h)⟩) ?_
    exact bX11_eat_18 hd hJ hT hW hP  hw
  · have hw := hw.2 h4
    refine z_iconst (v := Int32.ofInt 1) dX11_eat_13 rfl ?_
    refine z_goto (tgt := 18) dX11_eat_14 (by decide) ?_
    refine z_loc (L' := [(0, .ref (G.1 + 54))]) (List.forall_mem_cons.mpr ⟨rfl, (fun _ h => nomatch h)⟩) ?_
    exact bX11_eat_18 hd hJ hT hW hP  hw

def wX11_letterOf (a1 a2 : Int) (S : St) (K : Int → St → Prop) : Prop := rng a1 → rng a2 → ((¬ a1 = 0 → ((¬ a2 = 0 → K (100) S) ∧ ((¬ (¬ a2 = 0)) → K (105) S))) ∧ ((¬ (¬ a1 = 0)) → ((¬ a2 = 0 → ((¬ a2 = 1 → ((¬ a2 = 2 → K (115) S) ∧ ((¬ (¬ a2 = 2)) → K (97) S))) ∧ ((¬ (¬ a2 = 1)) → K (108) S))) ∧ ((¬ (¬ a2 = 0)) → K (99) S))))
set_option maxRecDepth 100000 in
set_option maxHeartbeats 4000000 in
theorem lX11_letterOf {G : xG} {sh : Nat → Option Sh} {J : St → List va_E → Prop} {a1 a2 : Int} {S : St} {cs : List va_E} {K : Int → St → Prop} (d : Nat) (hd : 0 ≤ d) (hJ : Stb sh J) (hT : isM sh) (hW : Wd G sh mT J S cs) (g1 : rng a1) (g2 : rng a2) (hw : wX11_letterOf a1 a2 S K) : X G yX11_letterOf cX11_letterOf 2 (some .int) d [.int (Int32.ofInt a1), .int (Int32.ofInt a2)] cs (qI G sh mT J K) := by
  refine X.of false (by decide +kernel) (by decide) (Nat.le_of_ble_eq_true rfl) ?_
  show Z (RX11, cX11_letterOf, 2, some .int, false) G d _ 0 [(0, .int (Int32.ofInt a1)), (1, .int (Int32.ofInt a2))] [] cs
  have hP : ∀ (v : Int) (S : St) (cs : List va_E), K v S → Wd G sh mT J S cs → qI G sh mT J K (some (.int (Int32.ofInt v))) cs := fun v S cs a b => ⟨v, S, rfl, a, b⟩
  unfold wX11_letterOf at hw
  have hw := hw g1 g2
  refine z_iload_n dX11_letterOf_0 rfl rfl ?_
  refine i_if_ne (tgt := 36) dX11_letterOf_1 (by decide) g1 (fun h1 => ?_) (fun h1 => ?_)
  · have hw := hw.1 h1
    refine z_iload_n dX11_letterOf_36 rfl rfl ?_
    refine i_if_ne (tgt := 45) dX11_letterOf_37 (by decide) g2 (fun h2 => ?_) (fun h2 => ?_)
    · have hw := hw.1 h2
      refine z_bipush (v := Int32.ofInt 100) dX11_letterOf_45 (by decide) ?_
      exact z_ireturn dX11_letterOf_47 rfl rfl (hP _ _ _ hw hW)
    · have hw := hw.2 h2
      refine z_bipush (v := Int32.ofInt 105) dX11_letterOf_40 (by decide) ?_
      refine z_goto (tgt := 47) dX11_letterOf_42 (by decide) ?_
      exact z_ireturn dX11_letterOf_47 rfl rfl (hP _ _ _ hw hW)
  · have hw := hw.2 h1
    refine z_iload_n dX11_letterOf_4 rfl rfl ?_
    refine i_if_ne (tgt := 13) dX11_letterOf_5 (by decide) g2 (fun h3 => ?_) (fun h3 => ?_)
    · have hw := hw.1 h3
      refine z_iload_n dX11_letterOf_13 rfl rfl ?_
      refine z_iconst (v := Int32.ofInt 1) dX11_letterOf_14 rfl ?_
      refine i_icmp_ne (tgt := 23) dX11_letterOf_15 (by decide) g2 ⟨by decide, by decide⟩ (fun h4 => ?_) (fun h4 => ?_)
      · have hw := hw.1 h4
        refine z_iload_n dX11_letterOf_23 rfl rfl ?_
        refine z_iconst (v := Int32.ofInt 2) dX11_letterOf_24 rfl ?_
        refine i_icmp_ne (tgt := 33) dX11_letterOf_25 (by decide) g2 ⟨by decide, by decide⟩ (fun h5 => ?_) (fun h5 => ?_)
        · have hw := hw.1 h5
          refine z_bipush (v := Int32.ofInt 115) dX11_letterOf_33 (by decide) ?_
          exact z_ireturn dX11_letterOf_35 rfl rfl (hP _ _ _ hw hW)
        · have hw := hw.2 h5
          refine z_bipush (v := Int32.ofInt 97) dX11_letterOf_28 (by decide) ?_
          refine z_goto (tgt := 35) dX11_letterOf_30 (by decide) ?_
          exact z_ireturn dX11_letterOf_35 rfl rfl (hP _ _ _ hw hW)
      · have hw := hw.2 h4
        refine z_bipush (v := Int32.ofInt 108) dX11_letterOf_18 (by decide) ?_
        refine z_goto (tgt := 35) dX11_letterOf_20 (by decide) ?_
        exact z_ireturn dX11_letterOf_35 rfl rfl (hP _ _ _ hw hW)
    · have hw := hw.2 h3
      refine z_bipush (v := Int32.ofInt 99) dX11_letterOf_8 (by decide) ?_
      refine z_goto (tgt := 35) dX11_letterOf_10 (by decide) ?_
      exact z_ireturn dX11_letterOf_35 rfl rfl (hP _ _ _ hw hW)

def wX11_isWord_67 (l1 l2 l3 l5 s0 : Int) (S : St) (K : Int → St → Prop) (B30 : Int → Int → Int → Int → Int → St → Prop) : Prop := B30 (l1) (l2) (l3) (s0) ((l5 + 1)) S
set_option maxRecDepth 100000 in
set_option maxHeartbeats 4000000 in
theorem bX11_isWord_67 {G : xG} {sh : Nat → Option Sh} {J : St → List va_E → Prop} {d : Nat} {Post : xP} {l1 l2 l3 l5 s0 : Int} {S : St} {cs : List va_E} {K : Int → St → Prop} {B30 : Int → Int → Int → Int → Int → St → Prop} (hd : 1 ≤ d) (hJ : Stb sh J) (hT : isM sh) (hW : Wd G sh mT J S cs) (hP : ∀ (v : Int) (S : St) (cs : List va_E), K v S → Wd G sh mT J S cs → Post (some (.int (Int32.ofInt v))) cs) (hB30 : ∀ (l1 : Int) (l2 : Int) (l3 : Int) (l4 : Int) (l5 : Int) (S : St) (cs : List va_E), B30 l1 l2 l3 l4 l5 S → Wd G sh mT J S cs → Z (RX11, cX11_isWord, 6, some .boolean, false) G d Post 30 [(0, .ref (G.1 + 54)), (1, .int (Int32.ofInt (l1))), (2, .int (Int32.ofInt (l2))), (3, .int (Int32.ofInt (l3))), (4, .int (Int32.ofInt (l4))), (5, .int (Int32.ofInt (l5)))] [] cs) (hw : wX11_isWord_67 l1 l2 l3 l5 s0 S K B30) : Z (RX11, cX11_isWord, 6, some .boolean, false) G d Post 67 [(0, .ref (G.1 + 54)), (1, .int (Int32.ofInt (l1))), (2, .int (Int32.ofInt (l2))), (3, .int (Int32.ofInt (l3))), (5, .int (Int32.ofInt (l5)))] [.int (Int32.ofInt (s0))] cs := by
  unfold wX11_isWord_67 at hw
  refine z_istore dX11_isWord_67 (by decide) ?_
  refine i_iinc (l := l5) dX11_isWord_69 rfl (by decide) ?_
  refine z_goto (tgt := 30) dX11_isWord_72 (by decide) ?_
  refine z_loc (L' := [(0, .ref (G.1 + 54)), (1, .int (Int32.ofInt (l1))), (2, .int (Int32.ofInt (l2))), (3, .int (Int32.ofInt (l3))), (4, .int (Int32.ofInt (s0))), (5, .int (Int32.ofInt ((l5 + 1))))]) (List.forall_mem_cons.mpr ⟨rfl, (List.forall_mem_cons.mpr ⟨rfl, (List.forall_mem_cons.mpr ⟨rfl, (List.forall_mem_cons.mpr ⟨rfl, (List.forall_mem_cons.mpr ⟨rfl, (List.forall_mem_cons.mpr ⟨rfl, (fun _ h => nomatch h)⟩)⟩)⟩)⟩)⟩)⟩) ?_
  exact hB30 _ _ _ _ _ _ _ hw hW
def wX11_isWord_30' (l1 l2 l3 l4 l5 : Int) (S : St) (K : Int → St → Prop) (B30 : Int → Int → Int → Int → Int → St → Prop) : Prop := (rng (l5) ∧ (rng (l3) ∧ ((l3 ≤ l5 → (iv 0 1 (l4) ∧ K (l4) S)) ∧ ((¬ (l3 ≤ l5)) → (rng (l4) ∧ ((l4 = 0 → (iv 0 1 (l4) ∧ K (l4) S)) ∧ ((¬ (l4 = 0)) → ((0 : Int) ≤ ((8 * l1) + l5) ∧ ((8 * l1) + l5) < (240 : Int) ∧ (iv (-2147483648) 2147483647 (S.2 64 (((8 * l1) + l5))) → (rng (l2) ∧ (wX11_letterOf (l2) (l5) S (fun r11 S12 => (rng (r11) ∧ ((¬ S.2 64 (((8 * l1) + l5)) = r11 → wX11_isWord_67 (l1) (l2) (l3) (l5) (0) S12 K B30) ∧ ((¬ (¬ S.2 64 (((8 * l1) + l5)) = r11)) → wX11_isWord_67 (l1) (l2) (l3) (l5) (1) S12 K B30)))))))))))))))
set_option maxRecDepth 100000 in
set_option maxHeartbeats 4000000 in
theorem bX11_isWord_30' {G : xG} {sh : Nat → Option Sh} {J : St → List va_E → Prop} {d : Nat} {Post : xP} {l1 l2 l3 l4 l5 : Int} {S : St} {cs : List va_E} {K : Int → St → Prop} {B30 : Int → Int → Int → Int → Int → St → Prop} (hd : 1 ≤ d) (hJ : Stb sh J) (hT : isM sh) (hW : Wd G sh mT J S cs) (hP : ∀ (v : Int) (S : St) (cs : List va_E), K v S → Wd G sh mT J S cs → Post (some (.int (Int32.ofInt v))) cs) (hB30 : ∀ (l1 : Int) (l2 : Int) (l3 : Int) (l4 : Int) (l5 : Int) (S : St) (cs : List va_E), B30 l1 l2 l3 l4 l5 S → Wd G sh mT J S cs → Z (RX11, cX11_isWord, 6, some .boolean, false) G d Post 30 [(0, .ref (G.1 + 54)), (1, .int (Int32.ofInt (l1))), (2, .int (Int32.ofInt (l2))), (3, .int (Int32.ofInt (l3))), (4, .int (Int32.ofInt (l4))), (5, .int (Int32.ofInt (l5)))] [] cs) (hw : wX11_isWord_30' l1 l2 l3 l4 l5 S K B30) : Z (RX11, cX11_isWord, 6, some .boolean, false) G d Post 30 [(0, .ref (G.1 + 54)), (1, .int (Int32.ofInt (l1))), (2, .int (Int32.ofInt (l2))), (3, .int (Int32.ofInt (l3))), (4, .int (Int32.ofInt (l4))), (5, .int (Int32.ofInt (l5)))] [] cs := by
  unfold wX11_isWord_30' at hw
  refine z_iload dX11_isWord_30 rfl ?_
  refine z_iload_n dX11_isWord_32 rfl rfl ?_
  obtain ⟨q2, hw⟩ := hw
  obtain ⟨q3, hw⟩ := hw
  refine i_icmp_ge (tgt := 75) dX11_isWord_33 (by decide) q2 q3 (fun h1 => ?_) (fun h1 => ?_)
  · have hw := hw.1 h1
    refine z_iload dX11_isWord_75 rfl ?_
    obtain ⟨q4, hw⟩ := hw
    exact z_ireturn dX11_isWord_77 rfl (nar01 (b01 q4)) (hP _ _ _ hw hW)
  · have hw := hw.2 h1
    refine z_iload dX11_isWord_36 rfl ?_
    obtain ⟨q6, hw⟩ := hw
    refine i_if_eq (tgt := 75) dX11_isWord_38 (by decide) q6 (fun h5 => ?_) (fun h5 => ?_)
    · have hw := hw.1 h5
      refine z_iload dX11_isWord_75 rfl ?_
      obtain ⟨q7, hw⟩ := hw
      exact z_ireturn dX11_isWord_77 rfl (nar01 (b01 q7)) (hP _ _ _ hw hW)
    · have hw := hw.2 h5
      refine z_aload_n dX11_isWord_41 rfl rfl ?_
      refine g_getR hW hT.1 mr11 kX11 fX11_38 dX11_isWord_42 ?_
      refine z_bipush (v := Int32.ofInt 8) dX11_isWord_45 (by decide) ?_
      refine z_iload_n dX11_isWord_47 rfl rfl ?_
      refine i_imul dX11_isWord_48 ?_
      refine z_iload dX11_isWord_49 rfl ?_
      refine i_iadd dX11_isWord_51 ?_
      obtain ⟨q8a, q8b, hw⟩ := hw
      have q9 : iv (-2147483648) 2147483647 (S.2 64 (((8 * l1) + l5))) := mA64 hW _
      have hw := hw q9
      refine g_iald hW (ma64 hT) q8a q8b (by decide) dX11_isWord_52 ?_
      refine z_iload_n dX11_isWord_53 rfl rfl ?_
      refine z_iload dX11_isWord_54 rfl ?_
      obtain ⟨q10, hw⟩ := hw
      have hX := lX11_letterOf 0 (Nat.le_refl _) hJ hT hW q10 q2 hw
      refine z_callS (As := [_, _]) eX11_letterOf sX11_letterOf lX11_192 dX11_isWord_56 hX (Nat.le_trans (by decide) hd) rfl (Nat.le_of_ble_eq_true rfl) (fun r cs hp => ?_)
      obtain ⟨r11, S12, rfl, hw, hW⟩ := hp
      refine z_st (st' := [.int (Int32.ofInt (r11)), .int (Int32.ofInt (S.2 64 (((8 * l1) + l5))))]) rfl ?_
      obtain ⟨q14, hw⟩ := hw
      refine i_icmp_ne (tgt := 66) dX11_isWord_59 (by decide) (rngq q9 (by decide) (by decide)) q14 (fun h13 => ?_) (fun h13 => ?_)
      · have hw := hw.1 h13
        refine z_iconst (v := Int32.ofInt 0) dX11_isWord_66 rfl ?_
        refine z_loc (L' := [(0, .ref (G.1 + 54)), (1, .int (Int32.ofInt (l1))), (2, .int (Int32.ofInt (l2))), (3, .int (Int32.ofInt (l3))), (5, .int (Int32.ofInt (l5)))]) (List.forall_mem_cons.mpr ⟨rfl, (List.forall_mem_cons.mpr ⟨rfl, (List.forall_mem_cons.mpr ⟨rfl, (List.forall_mem_cons.mpr ⟨rfl, (List.forall_mem_cons.mpr ⟨rfl, (fun _ h => nomatch h)⟩)⟩)⟩)⟩)⟩) ?_
        exact bX11_isWord_67 hd hJ hT hW hP hB30 hw
      · have hw := hw.2 h13
        refine z_iconst (v := Int32.ofInt 1) dX11_isWord_62 rfl ?_
        refine z_goto (tgt := 67) dX11_isWord_63 (by decide) ?_
        refine z_loc (L' := [(0, .ref (G.1 + 54)), (1, .int (Int32.ofInt (l1))), (2, .int (Int32.ofInt (l2))), (3, .int (Int32.ofInt (l3))), (5, .int (Int32.ofInt (l5)))]) (List.forall_mem_cons.mpr ⟨rfl, (List.forall_mem_cons.mpr ⟨rfl, (List.forall_mem_cons.mpr ⟨rfl, (List.forall_mem_cons.mpr ⟨rfl, (List.forall_mem_cons.mpr ⟨rfl, (fun _ h => nomatch h)⟩)⟩)⟩)⟩)⟩) ?_
        exact bX11_isWord_67 hd hJ hT hW hP hB30 hw
def wX11_isWord_30 (l1 l2 l3 l4 l5 : Int) (S : St) (K : Int → St → Prop) : Prop := ∃ (Iv : Int → Int → Int → Int → Int → St → Prop) (mu : Int → Int → Int → Int → Int → St → Nat), Iv l1 l2 l3 l4 l5 S ∧ ∀ (l1 l2 l3 l4 l5 : Int) (S : St), Iv l1 l2 l3 l4 l5 S → wX11_isWord_30' l1 l2 l3 l4 l5 S K  (fun ml1 ml2 ml3 ml4 ml5 T => Iv ml1 ml2 ml3 ml4 ml5 T ∧ mu ml1 ml2 ml3 ml4 ml5 T < mu l1 l2 l3 l4 l5 S)
set_option maxRecDepth 100000 in
set_option maxHeartbeats 4000000 in
theorem bX11_isWord_30 {G : xG} {sh : Nat → Option Sh} {J : St → List va_E → Prop} {d : Nat} {Post : xP} {l1 l2 l3 l4 l5 : Int} {S : St} {cs : List va_E} {K : Int → St → Prop} (hd : 1 ≤ d) (hJ : Stb sh J) (hT : isM sh) (hW : Wd G sh mT J S cs) (hP : ∀ (v : Int) (S : St) (cs : List va_E), K v S → Wd G sh mT J S cs → Post (some (.int (Int32.ofInt v))) cs)  (hw : wX11_isWord_30 l1 l2 l3 l4 l5 S K ) : Z (RX11, cX11_isWord, 6, some .boolean, false) G d Post 30 [(0, .ref (G.1 + 54)), (1, .int (Int32.ofInt (l1))), (2, .int (Int32.ofInt (l2))), (3, .int (Int32.ofInt (l3))), (4, .int (Int32.ofInt (l4))), (5, .int (Int32.ofInt (l5)))] [] cs := by
  unfold wX11_isWord_30 at hw
  obtain ⟨Iv, mu, h0, hs⟩ := hw
  have key : ∀ (n : Nat) (l1 l2 l3 l4 l5 : Int) (S : St) (cs : List va_E), mu l1 l2 l3 l4 l5 S < n → Iv l1 l2 l3 l4 l5 S → Wd G sh mT J S cs → Z (RX11, cX11_isWord, 6, some .boolean, false) G d Post 30 [(0, .ref (G.1 + 54)), (1, .int (Int32.ofInt (l1))), (2, .int (Int32.ofInt (l2))), (3, .int (Int32.ofInt (l3))), (4, .int (Int32.ofInt (l4))), (5, .int (Int32.ofInt (l5)))] [] cs := by
    intro n
    induction n with
    | zero => intro l1 l2 l3 l4 l5 S cs hn; exact absurd hn (Nat.not_lt_zero _)
    | succ n ih =>
      intro l1 l2 l3 l4 l5 S cs hn hI hW
      exact bX11_isWord_30' hd hJ hT hW hP  (fun l1 l2 l3 l4 l5 S cs hb hW => ih l1 l2 l3 l4 l5 S cs (Nat.lt_of_lt_of_le hb.2 (Nat.le_of_lt_succ hn)) hb.1 hW) (hs l1 l2 l3 l4 l5 S hI)
  exact key _ _ _ _ _ _ _ _ (Nat.lt_succ_self _) h0 hW
def wX11_isWord_25 (l1 l2 l3 s0 : Int) (S : St) (K : Int → St → Prop) : Prop := wX11_isWord_30 (l1) (l2) (l3) (s0) (0) S K
set_option maxRecDepth 100000 in
set_option maxHeartbeats 4000000 in
theorem bX11_isWord_25 {G : xG} {sh : Nat → Option Sh} {J : St → List va_E → Prop} {d : Nat} {Post : xP} {l1 l2 l3 s0 : Int} {S : St} {cs : List va_E} {K : Int → St → Prop} (hd : 1 ≤ d) (hJ : Stb sh J) (hT : isM sh) (hW : Wd G sh mT J S cs) (hP : ∀ (v : Int) (S : St) (cs : List va_E), K v S → Wd G sh mT J S cs → Post (some (.int (Int32.ofInt v))) cs)  (hw : wX11_isWord_25 l1 l2 l3 s0 S K ) : Z (RX11, cX11_isWord, 6, some .boolean, false) G d Post 25 [(0, .ref (G.1 + 54)), (1, .int (Int32.ofInt (l1))), (2, .int (Int32.ofInt (l2))), (3, .int (Int32.ofInt (l3)))] [.int (Int32.ofInt (s0))] cs := by
  unfold wX11_isWord_25 at hw
  refine z_istore dX11_isWord_25 (by decide) ?_
  refine z_iconst (v := Int32.ofInt 0) dX11_isWord_27 rfl ?_
  refine z_istore dX11_isWord_28 (by decide) ?_
  refine z_loc (L' := [(0, .ref (G.1 + 54)), (1, .int (Int32.ofInt (l1))), (2, .int (Int32.ofInt (l2))), (3, .int (Int32.ofInt (l3))), (4, .int (Int32.ofInt (s0))), (5, .int (Int32.ofInt (0)))]) (List.forall_mem_cons.mpr ⟨rfl, (List.forall_mem_cons.mpr ⟨rfl, (List.forall_mem_cons.mpr ⟨rfl, (List.forall_mem_cons.mpr ⟨rfl, (List.forall_mem_cons.mpr ⟨rfl, (List.forall_mem_cons.mpr ⟨rfl, (fun _ h => nomatch h)⟩)⟩)⟩)⟩)⟩)⟩) ?_
  exact bX11_isWord_30 hd hJ hT hW hP  hw
def wX11_isWord_9 (l1 l2 s0 : Int) (S : St) (K : Int → St → Prop) : Prop := ((0 : Int) ≤ l1 ∧ l1 < (30 : Int) ∧ (iv 0 8 (S.2 63 (l1)) → (rng (s0) ∧ ((¬ S.2 63 (l1) = s0 → wX11_isWord_25 (l1) (l2) (s0) (0) S K) ∧ ((¬ (¬ S.2 63 (l1) = s0)) → wX11_isWord_25 (l1) (l2) (s0) (1) S K)))))
set_option maxRecDepth 100000 in
set_option maxHeartbeats 4000000 in
theorem bX11_isWord_9 {G : xG} {sh : Nat → Option Sh} {J : St → List va_E → Prop} {d : Nat} {Post : xP} {l1 l2 s0 : Int} {S : St} {cs : List va_E} {K : Int → St → Prop} (hd : 1 ≤ d) (hJ : Stb sh J) (hT : isM sh) (hW : Wd G sh mT J S cs) (hP : ∀ (v : Int) (S : St) (cs : List va_E), K v S → Wd G sh mT J S cs → Post (some (.int (Int32.ofInt v))) cs)  (hw : wX11_isWord_9 l1 l2 s0 S K ) : Z (RX11, cX11_isWord, 6, some .boolean, false) G d Post 9 [(0, .ref (G.1 + 54)), (1, .int (Int32.ofInt (l1))), (2, .int (Int32.ofInt (l2)))] [.int (Int32.ofInt (s0))] cs := by
  unfold wX11_isWord_9 at hw
  refine z_istore_n dX11_isWord_9 rfl (by decide) ?_
  refine z_aload_n dX11_isWord_10 rfl rfl ?_
  refine g_getR hW hT.1 mr10 kX11 fX11_35 dX11_isWord_11 ?_
  refine z_iload_n dX11_isWord_14 rfl rfl ?_
  obtain ⟨q1a, q1b, hw⟩ := hw
  have q2 : iv 0 8 (S.2 63 (l1)) := mA63 hW _
  have hw := hw q2
  refine g_iald hW (ma63 hT) q1a q1b (by decide) dX11_isWord_15 ?_
  refine z_iload_n dX11_isWord_16 rfl rfl ?_
  obtain ⟨q4, hw⟩ := hw
  refine i_icmp_ne (tgt := 24) dX11_isWord_17 (by decide) (rngq q2 (by decide) (by decide)) q4 (fun h3 => ?_) (fun h3 => ?_)
  · have hw := hw.1 h3
    refine z_iconst (v := Int32.ofInt 0) dX11_isWord_24 rfl ?_
    refine z_loc (L' := [(0, .ref (G.1 + 54)), (1, .int (Int32.ofInt (l1))), (2, .int (Int32.ofInt (l2))), (3, .int (Int32.ofInt (s0)))]) (List.forall_mem_cons.mpr ⟨rfl, (List.forall_mem_cons.mpr ⟨rfl, (List.forall_mem_cons.mpr ⟨rfl, (List.forall_mem_cons.mpr ⟨rfl, (fun _ h => nomatch h)⟩)⟩)⟩)⟩) ?_
    exact bX11_isWord_25 hd hJ hT hW hP  hw
  · have hw := hw.2 h3
    refine z_iconst (v := Int32.ofInt 1) dX11_isWord_20 rfl ?_
    refine z_goto (tgt := 25) dX11_isWord_21 (by decide) ?_
    refine z_loc (L' := [(0, .ref (G.1 + 54)), (1, .int (Int32.ofInt (l1))), (2, .int (Int32.ofInt (l2))), (3, .int (Int32.ofInt (s0)))]) (List.forall_mem_cons.mpr ⟨rfl, (List.forall_mem_cons.mpr ⟨rfl, (List.forall_mem_cons.mpr ⟨rfl, (List.forall_mem_cons.mpr ⟨rfl, (fun _ h => nomatch h)⟩)⟩)⟩)⟩) ?_
    exact bX11_isWord_25 hd hJ hT hW hP  hw
def wX11_isWord (a1 a2 : Int) (S : St) (K : Int → St → Prop) : Prop := rng a1 → rng a2 → ((¬ a2 = 0 → wX11_isWord_9 (a1) (a2) (2) S K) ∧ ((¬ (¬ a2 = 0)) → wX11_isWord_9 (a1) (a2) (5) S K))
set_option maxRecDepth 100000 in
set_option maxHeartbeats 4000000 in
theorem lX11_isWord {G : xG} {sh : Nat → Option Sh} {J : St → List va_E → Prop} {a1 a2 : Int} {S : St} {cs : List va_E} {K : Int → St → Prop} (d : Nat) (hd : 1 ≤ d) (hJ : Stb sh J) (hT : isM sh) (hW : Wd G sh mT J S cs) (g1 : rng a1) (g2 : rng a2) (hw : wX11_isWord a1 a2 S K) : X G yX11_isWord cX11_isWord 6 (some .boolean) d [.ref (G.1 + 54), .int (Int32.ofInt a1), .int (Int32.ofInt a2)] cs (qI G sh mT J K) := by
  refine X.of false (by decide +kernel) (by decide) (Nat.le_of_ble_eq_true rfl) ?_
  show Z (RX11, cX11_isWord, 6, some .boolean, false) G d _ 0 [(0, .ref (G.1 + 54)), (1, .int (Int32.ofInt a1)), (2, .int (Int32.ofInt a2))] [] cs
  have hP : ∀ (v : Int) (S : St) (cs : List va_E), K v S → Wd G sh mT J S cs → qI G sh mT J K (some (.int (Int32.ofInt v))) cs := fun v S cs a b => ⟨v, S, rfl, a, b⟩
  unfold wX11_isWord at hw
  have hw := hw g1 g2
  refine z_iload_n dX11_isWord_0 rfl rfl ?_
  refine i_if_ne (tgt := 8) dX11_isWord_1 (by decide) g2 (fun h1 => ?_) (fun h1 => ?_)
  · have hw := hw.1 h1
    refine z_iconst (v := Int32.ofInt 2) dX11_isWord_8 rfl ?_
    refine z_loc (L' := [(0, .ref (G.1 + 54)), (1, .int (Int32.ofInt (a1))), (2, .int (Int32.ofInt (a2)))]) (List.forall_mem_cons.mpr ⟨rfl, (List.forall_mem_cons.mpr ⟨rfl, (List.forall_mem_cons.mpr ⟨rfl, (fun _ h => nomatch h)⟩)⟩)⟩) ?_
    exact bX11_isWord_9 hd hJ hT hW hP  hw
  · have hw := hw.2 h1
    refine z_iconst (v := Int32.ofInt 5) dX11_isWord_4 rfl ?_
    refine z_goto (tgt := 9) dX11_isWord_5 (by decide) ?_
    refine z_loc (L' := [(0, .ref (G.1 + 54)), (1, .int (Int32.ofInt (a1))), (2, .int (Int32.ofInt (a2)))]) (List.forall_mem_cons.mpr ⟨rfl, (List.forall_mem_cons.mpr ⟨rfl, (List.forall_mem_cons.mpr ⟨rfl, (fun _ h => nomatch h)⟩)⟩)⟩) ?_
    exact bX11_isWord_9 hd hJ hT hW hP  hw

def wX11_nameAt_43 (l1 l2 l3 l4 : Int) (S : St) (K : Int → St → Prop) (B9 : Int → Int → Int → Int → St → Prop) : Prop := (rng (l3) ∧ ((¬ l3 = 8 → ((0 : Int) ≤ ((8 * l2) + l3) ∧ ((8 * l2) + l3) < (240 : Int) ∧ (iv (-2147483648) 2147483647 (l4) ∧ (∀ S4, S4 = pA S 64 (((8 * l2) + l3)) (l4) → (rng ((l1 + (l3 + 1))) ∧ (wX11_signAt ((l1 + (l3 + 1))) S4 (fun r7 S8 => B9 (l1) (l2) ((l3 + 1)) (r7) S8))))))) ∧ ((¬ (¬ l3 = 8)) → K ((-10)) S)))
set_option maxRecDepth 100000 in
set_option maxHeartbeats 4000000 in
theorem bX11_nameAt_43 {G : xG} {sh : Nat → Option Sh} {J : St → List va_E → Prop} {d : Nat} {Post : xP} {l1 l2 l3 l4 : Int} {S : St} {cs : List va_E} {K : Int → St → Prop} {B9 : Int → Int → Int → Int → St → Prop} (hd : 1 ≤ d) (hJ : Stb sh J) (hT : isM sh) (hW : Wd G sh mT J S cs) (hP : ∀ (v : Int) (S : St) (cs : List va_E), K v S → Wd G sh mT J S cs → Post (some (.int (Int32.ofInt v))) cs) (hB9 : ∀ (l1 : Int) (l2 : Int) (l3 : Int) (l4 : Int) (S : St) (cs : List va_E), B9 l1 l2 l3 l4 S → Wd G sh mT J S cs → Z (RX11, cX11_nameAt, 5, some .int, false) G d Post 9 [(0, .ref (G.1 + 54)), (1, .int (Int32.ofInt (l1))), (2, .int (Int32.ofInt (l2))), (3, .int (Int32.ofInt (l3))), (4, .int (Int32.ofInt (l4)))] [] cs) (hw : wX11_nameAt_43 l1 l2 l3 l4 S K B9) : Z (RX11, cX11_nameAt, 5, some .int, false) G d Post 43 [(0, .ref (G.1 + 54)), (1, .int (Int32.ofInt (l1))), (2, .int (Int32.ofInt (l2))), (3, .int (Int32.ofInt (l3))), (4, .int (Int32.ofInt (l4)))] [] cs := by
  unfold wX11_nameAt_43 at hw
  refine z_iload_n dX11_nameAt_43 rfl rfl ?_
  refine z_bipush (v := Int32.ofInt 8) dX11_nameAt_44 (by decide) ?_
  obtain ⟨q2, hw⟩ := hw
  refine i_icmp_ne (tgt := 52) dX11_nameAt_46 (by decide) q2 ⟨by decide, by decide⟩ (fun h1 => ?_) (fun h1 => ?_)
  · have hw := hw.1 h1
    refine z_aload_n dX11_nameAt_52 rfl rfl ?_
    refine g_getR hW hT.1 mr11 kX11 fX11_38 dX11_nameAt_53 ?_
    refine z_bipush (v := Int32.ofInt 8) dX11_nameAt_56 (by decide) ?_
    refine z_iload_n dX11_nameAt_58 rfl rfl ?_
    refine i_imul dX11_nameAt_59 ?_
    refine z_iload_n dX11_nameAt_60 rfl rfl ?_
    refine i_iadd dX11_nameAt_61 ?_
    refine z_iload dX11_nameAt_62 rfl ?_
    obtain ⟨q3a, q3b, hw⟩ := hw
    obtain ⟨q5, hw⟩ := hw
    refine g_iast hJ hW (ma64 hT) q3a q3b (by decide) q5 dX11_nameAt_64 (fun cs hW => ?_)
    obtain ⟨S4, hS4⟩ : ∃ x, x = pA S 64 (((8 * l2) + l3)) (l4) := ⟨_, rfl⟩
    rw [← hS4] at hW
    have hw := hw S4 hS4
    refine i_iinc (l := l3) dX11_nameAt_65 rfl (by decide) ?_
    refine z_aload_n dX11_nameAt_68 rfl rfl ?_
    refine z_iload_n dX11_nameAt_69 rfl rfl ?_
    refine z_iload_n dX11_nameAt_70 rfl rfl ?_
    refine i_iadd dX11_nameAt_71 ?_
    obtain ⟨q6, hw⟩ := hw
    have hX := lX11_signAt 0 (Nat.le_refl _) hJ hT hW q6 hw
    refine z_callV (As := [_]) eX11_signAt sX11_signAt lX11_182 rfl dX11_nameAt_72 (hW.1 _ _ hT.1) hX (Nat.le_trans (by decide) hd) rfl (Nat.le_of_ble_eq_true rfl) (fun r cs hp => ?_)
    obtain ⟨r7, S8, rfl, hw, hW⟩ := hp
    refine z_st (st' := [.int (Int32.ofInt (r7))]) rfl ?_
    refine z_istore dX11_nameAt_75 (by decide) ?_
    refine z_goto (tgt := 9) dX11_nameAt_77 (by decide) ?_
    refine z_loc (L' := [(0, .ref (G.1 + 54)), (1, .int (Int32.ofInt (l1))), (2, .int (Int32.ofInt (l2))), (3, .int (Int32.ofInt ((l3 + 1)))), (4, .int (Int32.ofInt (r7)))]) (List.forall_mem_cons.mpr ⟨rfl, (List.forall_mem_cons.mpr ⟨rfl, (List.forall_mem_cons.mpr ⟨rfl, (List.forall_mem_cons.mpr ⟨rfl, (List.forall_mem_cons.mpr ⟨rfl, (fun _ h => nomatch h)⟩)⟩)⟩)⟩)⟩) ?_
    exact hB9 _ _ _ _ _ _ hw hW
  · have hw := hw.2 h1
    refine z_bipush (v := Int32.ofInt (-10)) dX11_nameAt_49 (by decide) ?_
    exact z_ireturn dX11_nameAt_51 rfl rfl (hP _ _ _ hw hW)
def wX11_nameAt_80 (l2 l3 : Int) (S : St) (K : Int → St → Prop) : Prop := ((0 : Int) ≤ l2 ∧ l2 < (30 : Int) ∧ (iv 0 8 (l3) ∧ (∀ S2, S2 = pA S 63 (l2) (l3) → ((¬ l3 = 0 → K (l3) S2) ∧ ((¬ (¬ l3 = 0)) → K ((-2)) S2)))))
set_option maxRecDepth 100000 in
set_option maxHeartbeats 4000000 in
theorem bX11_nameAt_80 {G : xG} {sh : Nat → Option Sh} {J : St → List va_E → Prop} {d : Nat} {Post : xP} {l2 l3 : Int} {S : St} {cs : List va_E} {K : Int → St → Prop} (hd : 1 ≤ d) (hJ : Stb sh J) (hT : isM sh) (hW : Wd G sh mT J S cs) (hP : ∀ (v : Int) (S : St) (cs : List va_E), K v S → Wd G sh mT J S cs → Post (some (.int (Int32.ofInt v))) cs)  (hw : wX11_nameAt_80 l2 l3 S K ) : Z (RX11, cX11_nameAt, 5, some .int, false) G d Post 80 [(0, .ref (G.1 + 54)), (2, .int (Int32.ofInt (l2))), (3, .int (Int32.ofInt (l3)))] [] cs := by
  unfold wX11_nameAt_80 at hw
  refine z_aload_n dX11_nameAt_80 rfl rfl ?_
  refine g_getR hW hT.1 mr10 kX11 fX11_35 dX11_nameAt_81 ?_
  refine z_iload_n dX11_nameAt_84 rfl rfl ?_
  refine z_iload_n dX11_nameAt_85 rfl rfl ?_
  obtain ⟨q1a, q1b, hw⟩ := hw
  obtain ⟨q3, hw⟩ := hw
  refine g_iast hJ hW (ma63 hT) q1a q1b (by decide) q3 dX11_nameAt_86 (fun cs hW => ?_)
  obtain ⟨S2, hS2⟩ : ∃ x, x = pA S 63 (l2) (l3) := ⟨_, rfl⟩
  rw [← hS2] at hW
  have hw := hw S2 hS2
  refine z_iload_n dX11_nameAt_87 rfl rfl ?_
  refine i_if_ne (tgt := 96) dX11_nameAt_88 (by decide) (rngq q3 (by decide) (by decide)) (fun h4 => ?_) (fun h4 => ?_)
  · have hw := hw.1 h4
    refine z_iload_n dX11_nameAt_96 rfl rfl ?_
    exact z_ireturn dX11_nameAt_97 rfl rfl (hP _ _ _ hw hW)
  · have hw := hw.2 h4
    refine z_bipush (v := Int32.ofInt (-2)) dX11_nameAt_91 (by decide) ?_
    refine z_goto (tgt := 97) dX11_nameAt_93 (by decide) ?_
    exact z_ireturn dX11_nameAt_97 rfl rfl (hP _ _ _ hw hW)
def wX11_nameAt_9' (l1 l2 l3 l4 : Int) (S : St) (K : Int → St → Prop) (B9 : Int → Int → Int → Int → St → Prop) : Prop := (rng (l4) ∧ (wX11_isLetter (l4) S (fun r2 S3 => (rng (r2) ∧ ((¬ r2 = 0 → wX11_nameAt_43 (l1) (l2) (l3) (l4) S3 K B9) ∧ ((¬ (¬ r2 = 0)) → ((l4 = 95 → wX11_nameAt_43 (l1) (l2) (l3) (l4) S3 K B9) ∧ ((¬ (l4 = 95)) → ((l4 = 36 → wX11_nameAt_43 (l1) (l2) (l3) (l4) S3 K B9) ∧ ((¬ (l4 = 36)) → (rng (l3) ∧ ((l3 ≤ 0 → wX11_nameAt_80 (l2) (l3) S3 K) ∧ ((¬ (l3 ≤ 0)) → (wX11_isDigit (l4) S3 (fun r10 S11 => (rng (r10) ∧ ((r10 = 0 → wX11_nameAt_80 (l2) (l3) S11 K) ∧ ((¬ (r10 = 0)) → wX11_nameAt_43 (l1) (l2) (l3) (l4) S11 K B9))))))))))))))))))
set_option maxRecDepth 100000 in
set_option maxHeartbeats 4000000 in
theorem bX11_nameAt_9' {G : xG} {sh : Nat → Option Sh} {J : St → List va_E → Prop} {d : Nat} {Post : xP} {l1 l2 l3 l4 : Int} {S : St} {cs : List va_E} {K : Int → St → Prop} {B9 : Int → Int → Int → Int → St → Prop} (hd : 1 ≤ d) (hJ : Stb sh J) (hT : isM sh) (hW : Wd G sh mT J S cs) (hP : ∀ (v : Int) (S : St) (cs : List va_E), K v S → Wd G sh mT J S cs → Post (some (.int (Int32.ofInt v))) cs) (hB9 : ∀ (l1 : Int) (l2 : Int) (l3 : Int) (l4 : Int) (S : St) (cs : List va_E), B9 l1 l2 l3 l4 S → Wd G sh mT J S cs → Z (RX11, cX11_nameAt, 5, some .int, false) G d Post 9 [(0, .ref (G.1 + 54)), (1, .int (Int32.ofInt (l1))), (2, .int (Int32.ofInt (l2))), (3, .int (Int32.ofInt (l3))), (4, .int (Int32.ofInt (l4)))] [] cs) (hw : wX11_nameAt_9' l1 l2 l3 l4 S K B9) : Z (RX11, cX11_nameAt, 5, some .int, false) G d Post 9 [(0, .ref (G.1 + 54)), (1, .int (Int32.ofInt (l1))), (2, .int (Int32.ofInt (l2))), (3, .int (Int32.ofInt (l3))), (4, .int (Int32.ofInt (l4)))] [] cs := by
  unfold wX11_nameAt_9' at hw
  refine z_iload dX11_nameAt_9 rfl ?_
  obtain ⟨q1, hw⟩ := hw
  have hX := lX11_isLetter 0 (Nat.le_refl _) hJ hT hW q1 hw
  refine z_callS (As := [_]) eX11_isLetter sX11_isLetter lX11_186 dX11_nameAt_11 hX (Nat.le_trans (by decide) hd) rfl (Nat.le_of_ble_eq_true rfl) (fun r cs hp => ?_)
  obtain ⟨r2, S3, rfl, hw, hW⟩ := hp
  refine z_st (st' := [.int (Int32.ofInt (r2))]) rfl ?_
  obtain ⟨q5, hw⟩ := hw
  refine i_if_ne (tgt := 43) dX11_nameAt_14 (by decide) q5 (fun h4 => ?_) (fun h4 => ?_)
  · have hw := hw.1 h4
    refine z_loc (L' := [(0, .ref (G.1 + 54)), (1, .int (Int32.ofInt (l1))), (2, .int (Int32.ofInt (l2))), (3, .int (Int32.ofInt (l3))), (4, .int (Int32.ofInt (l4)))]) (List.forall_mem_cons.mpr ⟨rfl, (List.forall_mem_cons.mpr ⟨rfl, (List.forall_mem_cons.mpr ⟨rfl, (List.forall_mem_cons.mpr ⟨rfl, (List.forall_mem_cons.mpr ⟨rfl, (fun _ h => nomatch h)⟩)⟩)⟩)⟩)⟩) ?_
    exact bX11_nameAt_43 hd hJ hT hW hP hB9 hw
  · have hw := hw.2 h4
    refine z_iload dX11_nameAt_17 rfl ?_
    refine z_bipush (v := Int32.ofInt 95) dX11_nameAt_19 (by decide) ?_
    refine i_icmp_eq (tgt := 43) dX11_nameAt_21 (by decide) q1 ⟨by decide, by decide⟩ (fun h6 => ?_) (fun h6 => ?_)
    · have hw := hw.1 h6
      refine z_loc (L' := [(0, .ref (G.1 + 54)), (1, .int (Int32.ofInt (l1))), (2, .int (Int32.ofInt (l2))), (3, .int (Int32.ofInt (l3))), (4, .int (Int32.ofInt (l4)))]) (List.forall_mem_cons.mpr ⟨rfl, (List.forall_mem_cons.mpr ⟨rfl, (List.forall_mem_cons.mpr ⟨rfl, (List.forall_mem_cons.mpr ⟨rfl, (List.forall_mem_cons.mpr ⟨rfl, (fun _ h => nomatch h)⟩)⟩)⟩)⟩)⟩) ?_
      exact bX11_nameAt_43 hd hJ hT hW hP hB9 hw
    · have hw := hw.2 h6
      refine z_iload dX11_nameAt_24 rfl ?_
      refine z_bipush (v := Int32.ofInt 36) dX11_nameAt_26 (by decide) ?_
      refine i_icmp_eq (tgt := 43) dX11_nameAt_28 (by decide) q1 ⟨by decide, by decide⟩ (fun h7 => ?_) (fun h7 => ?_)
      · have hw := hw.1 h7
        refine z_loc (L' := [(0, .ref (G.1 + 54)), (1, .int (Int32.ofInt (l1))), (2, .int (Int32.ofInt (l2))), (3, .int (Int32.ofInt (l3))), (4, .int (Int32.ofInt (l4)))]) (List.forall_mem_cons.mpr ⟨rfl, (List.forall_mem_cons.mpr ⟨rfl, (List.forall_mem_cons.mpr ⟨rfl, (List.forall_mem_cons.mpr ⟨rfl, (List.forall_mem_cons.mpr ⟨rfl, (fun _ h => nomatch h)⟩)⟩)⟩)⟩)⟩) ?_
        exact bX11_nameAt_43 hd hJ hT hW hP hB9 hw
      · have hw := hw.2 h7
        refine z_iload_n dX11_nameAt_31 rfl rfl ?_
        obtain ⟨q9, hw⟩ := hw
        refine i_if_le (tgt := 80) dX11_nameAt_32 (by decide) q9 (fun h8 => ?_) (fun h8 => ?_)
        · have hw := hw.1 h8
          refine z_loc (L' := [(0, .ref (G.1 + 54)), (2, .int (Int32.ofInt (l2))), (3, .int (Int32.ofInt (l3)))]) (List.forall_mem_cons.mpr ⟨rfl, (List.forall_mem_cons.mpr ⟨rfl, (List.forall_mem_cons.mpr ⟨rfl, (fun _ h => nomatch h)⟩)⟩)⟩) ?_
          exact bX11_nameAt_80 hd hJ hT hW hP  hw
        · have hw := hw.2 h8
          refine z_iload dX11_nameAt_35 rfl ?_
          have hX := lX11_isDigit 0 (Nat.le_refl _) hJ hT hW q1 hw
          refine z_callS (As := [_]) eX11_isDigit sX11_isDigit lX11_189 dX11_nameAt_37 hX (Nat.le_trans (by decide) hd) rfl (Nat.le_of_ble_eq_true rfl) (fun r cs hp => ?_)
          obtain ⟨r10, S11, rfl, hw, hW⟩ := hp
          refine z_st (st' := [.int (Int32.ofInt (r10))]) rfl ?_
          obtain ⟨q13, hw⟩ := hw
          refine i_if_eq (tgt := 80) dX11_nameAt_40 (by decide) q13 (fun h12 => ?_) (fun h12 => ?_)
          · have hw := hw.1 h12
            refine z_loc (L' := [(0, .ref (G.1 + 54)), (2, .int (Int32.ofInt (l2))), (3, .int (Int32.ofInt (l3)))]) (List.forall_mem_cons.mpr ⟨rfl, (List.forall_mem_cons.mpr ⟨rfl, (List.forall_mem_cons.mpr ⟨rfl, (fun _ h => nomatch h)⟩)⟩)⟩) ?_
            exact bX11_nameAt_80 hd hJ hT hW hP  hw
          · have hw := hw.2 h12
            refine z_loc (L' := [(0, .ref (G.1 + 54)), (1, .int (Int32.ofInt (l1))), (2, .int (Int32.ofInt (l2))), (3, .int (Int32.ofInt (l3))), (4, .int (Int32.ofInt (l4)))]) (List.forall_mem_cons.mpr ⟨rfl, (List.forall_mem_cons.mpr ⟨rfl, (List.forall_mem_cons.mpr ⟨rfl, (List.forall_mem_cons.mpr ⟨rfl, (List.forall_mem_cons.mpr ⟨rfl, (fun _ h => nomatch h)⟩)⟩)⟩)⟩)⟩) ?_
            exact bX11_nameAt_43 hd hJ hT hW hP hB9 hw
def wX11_nameAt_9 (l1 l2 l3 l4 : Int) (S : St) (K : Int → St → Prop) : Prop := ∃ (Iv : Int → Int → Int → Int → St → Prop) (mu : Int → Int → Int → Int → St → Nat), Iv l1 l2 l3 l4 S ∧ ∀ (l1 l2 l3 l4 : Int) (S : St), Iv l1 l2 l3 l4 S → wX11_nameAt_9' l1 l2 l3 l4 S K  (fun ml1 ml2 ml3 ml4 T => Iv ml1 ml2 ml3 ml4 T ∧ mu ml1 ml2 ml3 ml4 T < mu l1 l2 l3 l4 S)
set_option maxRecDepth 100000 in
set_option maxHeartbeats 4000000 in
theorem bX11_nameAt_9 {G : xG} {sh : Nat → Option Sh} {J : St → List va_E → Prop} {d : Nat} {Post : xP} {l1 l2 l3 l4 : Int} {S : St} {cs : List va_E} {K : Int → St → Prop} (hd : 1 ≤ d) (hJ : Stb sh J) (hT : isM sh) (hW : Wd G sh mT J S cs) (hP : ∀ (v : Int) (S : St) (cs : List va_E), K v S → Wd G sh mT J S cs → Post (some (.int (Int32.ofInt v))) cs)  (hw : wX11_nameAt_9 l1 l2 l3 l4 S K ) : Z (RX11, cX11_nameAt, 5, some .int, false) G d Post 9 [(0, .ref (G.1 + 54)), (1, .int (Int32.ofInt (l1))), (2, .int (Int32.ofInt (l2))), (3, .int (Int32.ofInt (l3))), (4, .int (Int32.ofInt (l4)))] [] cs := by
  unfold wX11_nameAt_9 at hw
  obtain ⟨Iv, mu, h0, hs⟩ := hw
  have key : ∀ (n : Nat) (l1 l2 l3 l4 : Int) (S : St) (cs : List va_E), mu l1 l2 l3 l4 S < n → Iv l1 l2 l3 l4 S → Wd G sh mT J S cs → Z (RX11, cX11_nameAt, 5, some .int, false) G d Post 9 [(0, .ref (G.1 + 54)), (1, .int (Int32.ofInt (l1))), (2, .int (Int32.ofInt (l2))), (3, .int (Int32.ofInt (l3))), (4, .int (Int32.ofInt (l4)))] [] cs := by
    intro n
    induction n with
    | zero => intro l1 l2 l3 l4 S cs hn; exact absurd hn (Nat.not_lt_zero _)
    | succ n ih =>
      intro l1 l2 l3 l4 S cs hn hI hW
      exact bX11_nameAt_9' hd hJ hT hW hP  (fun l1 l2 l3 l4 S cs hb hW => ih l1 l2 l3 l4 S cs (Nat.lt_of_lt_of_le hb.2 (Nat.le_of_lt_succ hn)) hb.1 hW) (hs l1 l2 l3 l4 S hI)
  exact key _ _ _ _ _ _ _ (Nat.lt_succ_self _) h0 hW
def wX11_nameAt (a1 a2 : Int) (S : St) (K : Int → St → Prop) : Prop := rng a1 → rng a2 → (wX11_signAt (a1) S (fun r1 S2 => wX11_nameAt_9 (a1) (a2) (0) (r1) S2 K))
set_option maxRecDepth 100000 in
set_option maxHeartbeats 4000000 in
theorem lX11_nameAt {G : xG} {sh : Nat → Option Sh} {J : St → List va_E → Prop} {a1 a2 : Int} {S : St} {cs : List va_E} {K : Int → St → Prop} (d : Nat) (hd : 1 ≤ d) (hJ : Stb sh J) (hT : isM sh) (hW : Wd G sh mT J S cs) (g1 : rng a1) (g2 : rng a2) (hw : wX11_nameAt a1 a2 S K) : X G yX11_nameAt cX11_nameAt 5 (some .int) d [.ref (G.1 + 54), .int (Int32.ofInt a1), .int (Int32.ofInt a2)] cs (qI G sh mT J K) := by
  refine X.of false (by decide +kernel) (by decide) (Nat.le_of_ble_eq_true rfl) ?_
  show Z (RX11, cX11_nameAt, 5, some .int, false) G d _ 0 [(0, .ref (G.1 + 54)), (1, .int (Int32.ofInt a1)), (2, .int (Int32.ofInt a2))] [] cs
  have hP : ∀ (v : Int) (S : St) (cs : List va_E), K v S → Wd G sh mT J S cs → qI G sh mT J K (some (.int (Int32.ofInt v))) cs := fun v S cs a b => ⟨v, S, rfl, a, b⟩
  unfold wX11_nameAt at hw
  have hw := hw g1 g2
  refine z_iconst (v := Int32.ofInt 0) dX11_nameAt_0 rfl ?_
  refine z_istore_n dX11_nameAt_1 rfl (by decide) ?_
  refine z_aload_n dX11_nameAt_2 rfl rfl ?_
  refine z_iload_n dX11_nameAt_3 rfl rfl ?_
  have hX := lX11_signAt 0 (Nat.le_refl _) hJ hT hW g1 hw
  refine z_callV (As := [_]) eX11_signAt sX11_signAt lX11_182 rfl dX11_nameAt_4 (hW.1 _ _ hT.1) hX (Nat.le_trans (by decide) hd) rfl (Nat.le_of_ble_eq_true rfl) (fun r cs hp => ?_)
  obtain ⟨r1, S2, rfl, hw, hW⟩ := hp
  refine z_st (st' := [.int (Int32.ofInt (r1))]) rfl ?_
  refine z_istore dX11_nameAt_7 (by decide) ?_
  refine z_loc (L' := [(0, .ref (G.1 + 54)), (1, .int (Int32.ofInt (a1))), (2, .int (Int32.ofInt (a2))), (3, .int (Int32.ofInt (0))), (4, .int (Int32.ofInt (r1)))]) (List.forall_mem_cons.mpr ⟨rfl, (List.forall_mem_cons.mpr ⟨rfl, (List.forall_mem_cons.mpr ⟨rfl, (List.forall_mem_cons.mpr ⟨rfl, (List.forall_mem_cons.mpr ⟨rfl, (fun _ h => nomatch h)⟩)⟩)⟩)⟩)⟩) ?_
  exact bX11_nameAt_9 hd hJ hT hW hP  hw

def wX11_name_79 (l1 l3 l6 s0 : Int) (S : St) (K : Int → St → Prop) (B53 : Int → Int → Int → Int → St → Prop) : Prop := B53 (l1) (l3) (s0) ((l6 + 1)) S
set_option maxRecDepth 100000 in
set_option maxHeartbeats 4000000 in
theorem bX11_name_79 {G : xG} {sh : Nat → Option Sh} {J : St → List va_E → Prop} {d : Nat} {Post : xP} {l1 l3 l6 s0 : Int} {S : St} {cs : List va_E} {K : Int → St → Prop} {B53 : Int → Int → Int → Int → St → Prop} (hd : 2 ≤ d) (hJ : Stb sh J) (hT : isM sh) (hW : Wd G sh mT J S cs) (hP : ∀ (v : Int) (S : St) (cs : List va_E), K v S → Wd G sh mT J S cs → Post (none) cs) (hB53 : ∀ (l1 : Int) (l3 : Int) (l5 : Int) (l6 : Int) (S : St) (cs : List va_E), B53 l1 l3 l5 l6 S → Wd G sh mT J S cs → Z (RX11, cX11_name, 7, none, false) G d Post 53 [(0, .ref (G.1 + 54)), (1, .int (Int32.ofInt (l1))), (3, .int (Int32.ofInt (l3))), (5, .int (Int32.ofInt (l5))), (6, .int (Int32.ofInt (l6)))] [] cs) (hw : wX11_name_79 l1 l3 l6 s0 S K B53) : Z (RX11, cX11_name, 7, none, false) G d Post 79 [(0, .ref (G.1 + 54)), (1, .int (Int32.ofInt (l1))), (3, .int (Int32.ofInt (l3))), (6, .int (Int32.ofInt (l6)))] [.int (Int32.ofInt (s0))] cs := by
  unfold wX11_name_79 at hw
  refine z_istore dX11_name_79 (by decide) ?_
  refine i_iinc (l := l6) dX11_name_81 rfl (by decide) ?_
  refine z_goto (tgt := 53) dX11_name_84 (by decide) ?_
  refine z_loc (L' := [(0, .ref (G.1 + 54)), (1, .int (Int32.ofInt (l1))), (3, .int (Int32.ofInt (l3))), (5, .int (Int32.ofInt (s0))), (6, .int (Int32.ofInt ((l6 + 1))))]) (List.forall_mem_cons.mpr ⟨rfl, (List.forall_mem_cons.mpr ⟨rfl, (List.forall_mem_cons.mpr ⟨rfl, (List.forall_mem_cons.mpr ⟨rfl, (List.forall_mem_cons.mpr ⟨rfl, (fun _ h => nomatch h)⟩)⟩)⟩)⟩)⟩) ?_
  exact hB53 _ _ _ _ _ _ hw hW
def wX11_name_74 (l1 l3 l6 : Int) (S : St) (K : Int → St → Prop) (B53 : Int → Int → Int → Int → St → Prop) : Prop := wX11_name_79 (l1) (l3) (l6) (1) S K B53
set_option maxRecDepth 100000 in
set_option maxHeartbeats 4000000 in
theorem bX11_name_74 {G : xG} {sh : Nat → Option Sh} {J : St → List va_E → Prop} {d : Nat} {Post : xP} {l1 l3 l6 : Int} {S : St} {cs : List va_E} {K : Int → St → Prop} {B53 : Int → Int → Int → Int → St → Prop} (hd : 2 ≤ d) (hJ : Stb sh J) (hT : isM sh) (hW : Wd G sh mT J S cs) (hP : ∀ (v : Int) (S : St) (cs : List va_E), K v S → Wd G sh mT J S cs → Post (none) cs) (hB53 : ∀ (l1 : Int) (l3 : Int) (l5 : Int) (l6 : Int) (S : St) (cs : List va_E), B53 l1 l3 l5 l6 S → Wd G sh mT J S cs → Z (RX11, cX11_name, 7, none, false) G d Post 53 [(0, .ref (G.1 + 54)), (1, .int (Int32.ofInt (l1))), (3, .int (Int32.ofInt (l3))), (5, .int (Int32.ofInt (l5))), (6, .int (Int32.ofInt (l6)))] [] cs) (hw : wX11_name_74 l1 l3 l6 S K B53) : Z (RX11, cX11_name, 7, none, false) G d Post 74 [(0, .ref (G.1 + 54)), (1, .int (Int32.ofInt (l1))), (3, .int (Int32.ofInt (l3))), (6, .int (Int32.ofInt (l6)))] [] cs := by
  unfold wX11_name_74 at hw
  refine z_iconst (v := Int32.ofInt 1) dX11_name_74 rfl ?_
  refine z_goto (tgt := 79) dX11_name_75 (by decide) ?_
  refine z_loc (L' := [(0, .ref (G.1 + 54)), (1, .int (Int32.ofInt (l1))), (3, .int (Int32.ofInt (l3))), (6, .int (Int32.ofInt (l6)))]) (List.forall_mem_cons.mpr ⟨rfl, (List.forall_mem_cons.mpr ⟨rfl, (List.forall_mem_cons.mpr ⟨rfl, (List.forall_mem_cons.mpr ⟨rfl, (fun _ h => nomatch h)⟩)⟩)⟩)⟩) ?_
  exact bX11_name_79 hd hJ hT hW hP hB53 hw
def wX11_name_53' (l1 l3 l5 l6 : Int) (S : St) (K : Int → St → Prop) (B53 : Int → Int → Int → Int → St → Prop) : Prop := (rng (l6) ∧ (rng (l3) ∧ ((l3 ≤ l6 → (iv 0 1 (S.1 54 24) → ((¬ S.1 54 24 = 0 → (∀ S6, S6 = pI S 54 24 (1) → K 0 S6)) ∧ ((¬ (¬ S.1 54 24 = 0)) → (rng (l5) ∧ ((l5 = 0 → (∀ S9, S9 = pI S 54 24 (0) → K 0 S9)) ∧ ((¬ (l5 = 0)) → (∀ S10, S10 = pI S 54 24 (1) → K 0 S10)))))))) ∧ ((¬ (l3 ≤ l6)) → (rng (l5) ∧ ((¬ l5 = 0 → wX11_name_74 (l1) (l3) (l6) S K B53) ∧ ((¬ (¬ l5 = 0)) → (rng (l1) ∧ (wX11_areAlike (l6) (l1) S (fun r14 S15 => (rng (r14) ∧ ((r14 = 0 → wX11_name_79 (l1) (l3) (l6) (0) S15 K B53) ∧ ((¬ (r14 = 0)) → wX11_name_74 (l1) (l3) (l6) S15 K B53)))))))))))))
set_option maxRecDepth 100000 in
set_option maxHeartbeats 4000000 in
theorem bX11_name_53' {G : xG} {sh : Nat → Option Sh} {J : St → List va_E → Prop} {d : Nat} {Post : xP} {l1 l3 l5 l6 : Int} {S : St} {cs : List va_E} {K : Int → St → Prop} {B53 : Int → Int → Int → Int → St → Prop} (hd : 2 ≤ d) (hJ : Stb sh J) (hT : isM sh) (hW : Wd G sh mT J S cs) (hP : ∀ (v : Int) (S : St) (cs : List va_E), K v S → Wd G sh mT J S cs → Post (none) cs) (hB53 : ∀ (l1 : Int) (l3 : Int) (l5 : Int) (l6 : Int) (S : St) (cs : List va_E), B53 l1 l3 l5 l6 S → Wd G sh mT J S cs → Z (RX11, cX11_name, 7, none, false) G d Post 53 [(0, .ref (G.1 + 54)), (1, .int (Int32.ofInt (l1))), (3, .int (Int32.ofInt (l3))), (5, .int (Int32.ofInt (l5))), (6, .int (Int32.ofInt (l6)))] [] cs) (hw : wX11_name_53' l1 l3 l5 l6 S K B53) : Z (RX11, cX11_name, 7, none, false) G d Post 53 [(0, .ref (G.1 + 54)), (1, .int (Int32.ofInt (l1))), (3, .int (Int32.ofInt (l3))), (5, .int (Int32.ofInt (l5))), (6, .int (Int32.ofInt (l6)))] [] cs := by
  unfold wX11_name_53' at hw
  refine z_iload dX11_name_53 rfl ?_
  refine z_iload_n dX11_name_55 rfl rfl ?_
  obtain ⟨q2, hw⟩ := hw
  obtain ⟨q3, hw⟩ := hw
  refine i_icmp_ge (tgt := 87) dX11_name_56 (by decide) q2 q3 (fun h1 => ?_) (fun h1 => ?_)
  · have hw := hw.1 h1
    refine z_aload_n dX11_name_87 rfl rfl ?_
    refine z_aload_n dX11_name_88 rfl rfl ?_
    have q4 : iv 0 1 (S.1 54 24) := mI24 hW
    have hw := hw q4
    refine g_getI hW hT.1 mr24 kX11 fX11_210 dX11_name_89 ?_
    refine i_if_ne (tgt := 100) dX11_name_92 (by decide) (rngq q4 (by decide) (by decide)) (fun h5 => ?_) (fun h5 => ?_)
    · have hw := hw.1 h5
      refine z_iconst (v := Int32.ofInt 1) dX11_name_100 rfl ?_
      refine z_goto (tgt := 105) dX11_name_101 (by decide) ?_
      refine g_putI hJ hW hT.1 mr24 kX11 fX11_210 dX11_name_105 rfl (nar01 (by decide)) (fit01 (by decide)) ⟨by decide, by decide⟩ (fun cs hW => ?_)
      obtain ⟨S6, hS6⟩ : ∃ x, x = pI S 54 24 (1) := ⟨_, rfl⟩
      rw [← hS6] at hW
      have hw := hw S6 hS6
      exact z_return dX11_name_108 rfl (hP 0 _ _ hw hW)
    · have hw := hw.2 h5
      refine z_iload dX11_name_95 rfl ?_
      obtain ⟨q8, hw⟩ := hw
      refine i_if_eq (tgt := 104) dX11_name_97 (by decide) q8 (fun h7 => ?_) (fun h7 => ?_)
      · have hw := hw.1 h7
        refine z_iconst (v := Int32.ofInt 0) dX11_name_104 rfl ?_
        refine g_putI hJ hW hT.1 mr24 kX11 fX11_210 dX11_name_105 rfl (nar01 (by decide)) (fit01 (by decide)) ⟨by decide, by decide⟩ (fun cs hW => ?_)
        obtain ⟨S9, hS9⟩ : ∃ x, x = pI S 54 24 (0) := ⟨_, rfl⟩
        rw [← hS9] at hW
        have hw := hw S9 hS9
        exact z_return dX11_name_108 rfl (hP 0 _ _ hw hW)
      · have hw := hw.2 h7
        refine z_iconst (v := Int32.ofInt 1) dX11_name_100 rfl ?_
        refine z_goto (tgt := 105) dX11_name_101 (by decide) ?_
        refine g_putI hJ hW hT.1 mr24 kX11 fX11_210 dX11_name_105 rfl (nar01 (by decide)) (fit01 (by decide)) ⟨by decide, by decide⟩ (fun cs hW => ?_)
        obtain ⟨S10, hS10⟩ : ∃ x, x = pI S 54 24 (1) := ⟨_, rfl⟩
        rw [← hS10] at hW
        have hw := hw S10 hS10
        exact z_return dX11_name_108 rfl (hP 0 _ _ hw hW)
  · have hw := hw.2 h1
    refine z_iload dX11_name_59 rfl ?_
    obtain ⟨q12, hw⟩ := hw
    refine i_if_ne (tgt := 74) dX11_name_61 (by decide) q12 (fun h11 => ?_) (fun h11 => ?_)
    · have hw := hw.1 h11
      refine z_loc (L' := [(0, .ref (G.1 + 54)), (1, .int (Int32.ofInt (l1))), (3, .int (Int32.ofInt (l3))), (6, .int (Int32.ofInt (l6)))]) (List.forall_mem_cons.mpr ⟨rfl, (List.forall_mem_cons.mpr ⟨rfl, (List.forall_mem_cons.mpr ⟨rfl, (List.forall_mem_cons.mpr ⟨rfl, (fun _ h => nomatch h)⟩)⟩)⟩)⟩) ?_
      exact bX11_name_74 hd hJ hT hW hP hB53 hw
    · have hw := hw.2 h11
      refine z_aload_n dX11_name_64 rfl rfl ?_
      refine z_iload dX11_name_65 rfl ?_
      refine z_iload_n dX11_name_67 rfl rfl ?_
      obtain ⟨q13, hw⟩ := hw
      have hX := lX11_areAlike 0 (Nat.le_refl _) hJ hT hW q2 q13 hw
      refine z_callV (As := [_, _]) eX11_areAlike sX11_areAlike lX11_206 rfl dX11_name_68 (hW.1 _ _ hT.1) hX (Nat.le_trans (by decide) hd) rfl (Nat.le_of_ble_eq_true rfl) (fun r cs hp => ?_)
      obtain ⟨r14, S15, rfl, hw, hW⟩ := hp
      refine z_st (st' := [.int (Int32.ofInt (r14))]) rfl ?_
      obtain ⟨q17, hw⟩ := hw
      refine i_if_eq (tgt := 78) dX11_name_71 (by decide) q17 (fun h16 => ?_) (fun h16 => ?_)
      · have hw := hw.1 h16
        refine z_iconst (v := Int32.ofInt 0) dX11_name_78 rfl ?_
        refine z_loc (L' := [(0, .ref (G.1 + 54)), (1, .int (Int32.ofInt (l1))), (3, .int (Int32.ofInt (l3))), (6, .int (Int32.ofInt (l6)))]) (List.forall_mem_cons.mpr ⟨rfl, (List.forall_mem_cons.mpr ⟨rfl, (List.forall_mem_cons.mpr ⟨rfl, (List.forall_mem_cons.mpr ⟨rfl, (fun _ h => nomatch h)⟩)⟩)⟩)⟩) ?_
        exact bX11_name_79 hd hJ hT hW hP hB53 hw
      · have hw := hw.2 h16
        refine z_loc (L' := [(0, .ref (G.1 + 54)), (1, .int (Int32.ofInt (l1))), (3, .int (Int32.ofInt (l3))), (6, .int (Int32.ofInt (l6)))]) (List.forall_mem_cons.mpr ⟨rfl, (List.forall_mem_cons.mpr ⟨rfl, (List.forall_mem_cons.mpr ⟨rfl, (List.forall_mem_cons.mpr ⟨rfl, (fun _ h => nomatch h)⟩)⟩)⟩)⟩) ?_
        exact bX11_name_74 hd hJ hT hW hP hB53 hw
def wX11_name_53 (l1 l3 l5 l6 : Int) (S : St) (K : Int → St → Prop) : Prop := ∃ (Iv : Int → Int → Int → Int → St → Prop) (mu : Int → Int → Int → Int → St → Nat), Iv l1 l3 l5 l6 S ∧ ∀ (l1 l3 l5 l6 : Int) (S : St), Iv l1 l3 l5 l6 S → wX11_name_53' l1 l3 l5 l6 S K  (fun ml1 ml3 ml5 ml6 T => Iv ml1 ml3 ml5 ml6 T ∧ mu ml1 ml3 ml5 ml6 T < mu l1 l3 l5 l6 S)
set_option maxRecDepth 100000 in
set_option maxHeartbeats 4000000 in
theorem bX11_name_53 {G : xG} {sh : Nat → Option Sh} {J : St → List va_E → Prop} {d : Nat} {Post : xP} {l1 l3 l5 l6 : Int} {S : St} {cs : List va_E} {K : Int → St → Prop} (hd : 2 ≤ d) (hJ : Stb sh J) (hT : isM sh) (hW : Wd G sh mT J S cs) (hP : ∀ (v : Int) (S : St) (cs : List va_E), K v S → Wd G sh mT J S cs → Post (none) cs)  (hw : wX11_name_53 l1 l3 l5 l6 S K ) : Z (RX11, cX11_name, 7, none, false) G d Post 53 [(0, .ref (G.1 + 54)), (1, .int (Int32.ofInt (l1))), (3, .int (Int32.ofInt (l3))), (5, .int (Int32.ofInt (l5))), (6, .int (Int32.ofInt (l6)))] [] cs := by
  unfold wX11_name_53 at hw
  obtain ⟨Iv, mu, h0, hs⟩ := hw
  have key : ∀ (n : Nat) (l1 l3 l5 l6 : Int) (S : St) (cs : List va_E), mu l1 l3 l5 l6 S < n → Iv l1 l3 l5 l6 S → Wd G sh mT J S cs → Z (RX11, cX11_name, 7, none, false) G d Post 53 [(0, .ref (G.1 + 54)), (1, .int (Int32.ofInt (l1))), (3, .int (Int32.ofInt (l3))), (5, .int (Int32.ofInt (l5))), (6, .int (Int32.ofInt (l6)))] [] cs := by
    intro n
    induction n with
    | zero => intro l1 l3 l5 l6 S cs hn; exact absurd hn (Nat.not_lt_zero _)
    | succ n ih =>
      intro l1 l3 l5 l6 S cs hn hI hW
      exact bX11_name_53' hd hJ hT hW hP  (fun l1 l3 l5 l6 S cs hb hW => ih l1 l3 l5 l6 S cs (Nat.lt_of_lt_of_le hb.2 (Nat.le_of_lt_succ hn)) hb.1 hW) (hs l1 l3 l5 l6 S hI)
  exact key _ _ _ _ _ _ _ (Nat.lt_succ_self _) h0 hW
def wX11_name (a1 a2 a3 : Int) (S : St) (K : Int → St → Prop) : Prop := rng a1 → rng a2 → rng a3 → (iv 0 3000 (S.1 54 22) → (wX11_nameAt (S.1 54 22) (a1) S (fun r2 S3 => (rng (r2) ∧ ((0 ≤ r2 → (iv 0 3000 (S3.1 54 22) → (iv 0 3000 ((S3.1 54 22 + r2)) ∧ (∀ S7, S7 = pI S3 54 22 ((S3.1 54 22 + r2)) → wX11_name_53 (a1) (a3) (0) (a2) S7 K)))) ∧ ((¬ (0 ≤ r2)) → (iv 0 3000 (S3.1 54 22) → (iv 0 3000 (((S3.1 54 22 + (-2)) - r2)) ∧ (∀ S10, S10 = pI S3 54 22 (((S3.1 54 22 + (-2)) - r2)) → (∀ S12, S12 = pI S10 54 23 (1) → K 0 S12))))))))))
set_option maxRecDepth 100000 in
set_option maxHeartbeats 4000000 in
theorem lX11_name {G : xG} {sh : Nat → Option Sh} {J : St → List va_E → Prop} {a1 a2 a3 : Int} {S : St} {cs : List va_E} {K : Int → St → Prop} (d : Nat) (hd : 2 ≤ d) (hJ : Stb sh J) (hT : isM sh) (hW : Wd G sh mT J S cs) (g1 : rng a1) (g2 : rng a2) (g3 : rng a3) (hw : wX11_name a1 a2 a3 S K) : X G yX11_name cX11_name 7 none d [.ref (G.1 + 54), .int (Int32.ofInt a1), .int (Int32.ofInt a2), .int (Int32.ofInt a3)] cs (qV G sh mT J K) := by
  refine X.of false (by decide +kernel) (by decide) (Nat.le_of_ble_eq_true rfl) ?_
  show Z (RX11, cX11_name, 7, none, false) G d _ 0 [(0, .ref (G.1 + 54)), (1, .int (Int32.ofInt a1)), (2, .int (Int32.ofInt a2)), (3, .int (Int32.ofInt a3))] [] cs
  have hP : ∀ (v : Int) (S : St) (cs : List va_E), K v S → Wd G sh mT J S cs → qV G sh mT J K (none) cs := fun v S cs a b => ⟨v, S, rfl, a, b⟩
  unfold wX11_name at hw
  have hw := hw g1 g2 g3
  refine z_aload_n dX11_name_0 rfl rfl ?_
  refine z_aload_n dX11_name_1 rfl rfl ?_
  have q1 : iv 0 3000 (S.1 54 22) := mI22 hW
  have hw := hw q1
  refine g_getI hW hT.1 mr22 kX11 fX11_200 dX11_name_2 ?_
  refine z_iload_n dX11_name_5 rfl rfl ?_
  have hX := lX11_nameAt 1 (Nat.le_refl _) hJ hT hW (rngq q1 (by decide) (by decide)) g1 hw
  refine z_callV (As := [_, _]) eX11_nameAt sX11_nameAt lX11_203 rfl dX11_name_6 (hW.1 _ _ hT.1) hX (Nat.le_trans (by decide) hd) rfl (Nat.le_of_ble_eq_true rfl) (fun r cs hp => ?_)
  obtain ⟨r2, S3, rfl, hw, hW⟩ := hp
  refine z_st (st' := [.int (Int32.ofInt (r2))]) rfl ?_
  refine z_istore dX11_name_9 (by decide) ?_
  refine z_iload dX11_name_11 rfl ?_
  obtain ⟨q5, hw⟩ := hw
  refine i_if_ge (tgt := 36) dX11_name_13 (by decide) q5 (fun h4 => ?_) (fun h4 => ?_)
  · have hw := hw.1 h4
    refine z_aload_n dX11_name_36 rfl rfl ?_
    refine z_aload_n dX11_name_37 rfl rfl ?_
    have q6 : iv 0 3000 (S3.1 54 22) := mI22 hW
    have hw := hw q6
    refine g_getI hW hT.1 mr22 kX11 fX11_200 dX11_name_38 ?_
    refine z_iload dX11_name_41 rfl ?_
    refine i_iadd dX11_name_43 ?_
    obtain ⟨q8, hw⟩ := hw
    refine g_putI hJ hW hT.1 mr22 kX11 fX11_200 dX11_name_44 rfl rfl rfl q8 (fun cs hW => ?_)
    obtain ⟨S7, hS7⟩ : ∃ x, x = pI S3 54 22 ((S3.1 54 22 + r2)) := ⟨_, rfl⟩
    rw [← hS7] at hW
    have hw := hw S7 hS7
    refine z_iconst (v := Int32.ofInt 0) dX11_name_47 rfl ?_
    refine z_istore dX11_name_48 (by decide) ?_
    refine z_iload_n dX11_name_50 rfl rfl ?_
    refine z_istore dX11_name_51 (by decide) ?_
    refine z_loc (L' := [(0, .ref (G.1 + 54)), (1, .int (Int32.ofInt (a1))), (3, .int (Int32.ofInt (a3))), (5, .int (Int32.ofInt (0))), (6, .int (Int32.ofInt (a2)))]) (List.forall_mem_cons.mpr ⟨rfl, (List.forall_mem_cons.mpr ⟨rfl, (List.forall_mem_cons.mpr ⟨rfl, (List.forall_mem_cons.mpr ⟨rfl, (List.forall_mem_cons.mpr ⟨rfl, (fun _ h => nomatch h)⟩)⟩)⟩)⟩)⟩) ?_
    exact bX11_name_53 hd hJ hT hW hP  hw
  · have hw := hw.2 h4
    refine z_aload_n dX11_name_16 rfl rfl ?_
    refine z_aload_n dX11_name_17 rfl rfl ?_
    have q9 : iv 0 3000 (S3.1 54 22) := mI22 hW
    have hw := hw q9
    refine g_getI hW hT.1 mr22 kX11 fX11_200 dX11_name_18 ?_
    refine z_bipush (v := Int32.ofInt (-2)) dX11_name_21 (by decide) ?_
    refine i_iadd dX11_name_23 ?_
    refine z_iload dX11_name_24 rfl ?_
    refine i_isub dX11_name_26 ?_
    obtain ⟨q11, hw⟩ := hw
    refine g_putI hJ hW hT.1 mr22 kX11 fX11_200 dX11_name_27 rfl rfl rfl q11 (fun cs hW => ?_)
    obtain ⟨S10, hS10⟩ : ∃ x, x = pI S3 54 22 (((S3.1 54 22 + (-2)) - r2)) := ⟨_, rfl⟩
    rw [← hS10] at hW
    have hw := hw S10 hS10
    refine z_aload_n dX11_name_30 rfl rfl ?_
    refine z_iconst (v := Int32.ofInt 1) dX11_name_31 rfl ?_
    refine g_putI hJ hW hT.1 mr23 kX11 fX11_196 dX11_name_32 rfl (nar01 (by decide)) (fit01 (by decide)) ⟨by decide, by decide⟩ (fun cs hW => ?_)
    obtain ⟨S12, hS12⟩ : ∃ x, x = pI S10 54 23 (1) := ⟨_, rfl⟩
    rw [← hS12] at hW
    have hw := hw S12 hS12
    exact z_return dX11_name_35 rfl (hP 0 _ _ hw hW)
