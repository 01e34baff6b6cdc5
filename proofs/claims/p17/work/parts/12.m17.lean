def wX11_count_28 (l1 l3 s0 : Int) (S : St) (K : Int → St → Prop) (B4 : Int → Int → Int → St → Prop) : Prop := B4 (l1) (s0) ((l3 + 1)) S
set_option maxRecDepth 100000 in
set_option maxHeartbeats 4000000 in
theorem bX11_count_28 {G : xG} {sh : Nat → Option Sh} {J : St → List va_E → Prop} {d : Nat} {Post : xP} {l1 l3 s0 : Int} {S : St} {cs : List va_E} {K : Int → St → Prop} {B4 : Int → Int → Int → St → Prop} (hd : 0 ≤ d) (hJ : Stb sh J) (hT : isM sh) (hW : Wd G sh mT J S cs) (hP : ∀ (v : Int) (S : St) (cs : List va_E), K v S → Wd G sh mT J S cs → Post (some (.int (Int32.ofInt v))) cs) (hB4 : ∀ (l1 : Int) (l2 : Int) (l3 : Int) (S : St) (cs : List va_E), B4 l1 l2 l3 S → Wd G sh mT J S cs → Z (RX11, cX11_count, 4, some .int, false) G d Post 4 [(0, .ref (G.1 + 54)), (1, .int (Int32.ofInt (l1))), (2, .int (Int32.ofInt (l2))), (3, .int (Int32.ofInt (l3)))] [] cs) (hw : wX11_count_28 l1 l3 s0 S K B4) : Z (RX11, cX11_count, 4, some .int, false) G d Post 28 [(0, .ref (G.1 + 54)), (1, .int (Int32.ofInt (l1))), (3, .int (Int32.ofInt (l3)))] [.int (Int32.ofInt (s0))] cs := by
  unfold wX11_count_28 at hw
  refine z_istore_n dX11_count_28 rfl (by decide) ?_
  refine z_loc (L' := [(0, .ref (G.1 + 54)), (1, .int (Int32.ofInt (l1))), (2, .int (Int32.ofInt (s0))), (3, .int (Int32.ofInt (l3)))]) (List.forall_mem_cons.mpr ⟨rfl, (List.forall_mem_cons.mpr ⟨rfl, (List.forall_mem_cons.mpr ⟨rfl, (List.forall_mem_cons.mpr ⟨rfl, (fun _ h => nomatch h)⟩)⟩)⟩)⟩) ?_
  refine i_iinc (l := l3) dX11_count_29 rfl (by decide) ?_
  refine z_loc (L' := [(0, .ref (G.1 + 54)), (1, .int (Int32.ofInt (l1))), (2, .int (Int32.ofInt (s0))), (3, .int (Int32.ofInt ((l3 + 1))))]) (List.forall_mem_cons.mpr ⟨rfl, (List.forall_mem_cons.mpr ⟨rfl, (List.forall_mem_cons.mpr ⟨rfl, (List.forall_mem_cons.mpr ⟨rfl, (fun _ h => nomatch h)⟩)⟩)⟩)⟩) ?_
  refine z_goto (tgt := 4) dX11_count_32 (by decide) ?_
  refine z_loc (L' := [(0, .ref (G.1 + 54)), (1, .int (Int32.ofInt (l1))), (2, .int (Int32.ofInt (s0))), (3, .int (Int32.ofInt ((l3 + 1))))]) (List.forall_mem_cons.mpr ⟨rfl, (List.forall_mem_cons.mpr ⟨rfl, (List.forall_mem_cons.mpr ⟨rfl, (List.forall_mem_cons.mpr ⟨rfl, (fun _ h => nomatch h)⟩)⟩)⟩)⟩) ?_
  exact hB4 _ _ _ _ _ hw hW
def wX11_count_4' (l1 l2 l3 : Int) (S : St) (K : Int → St → Prop) (B4 : Int → Int → Int → St → Prop) : Prop := (iv 0 6 (S.1 54 2) → (rng (l3) ∧ ((S.1 54 2 ≤ l3 → (rng (l1) ∧ ((¬ (0 ≤ l1 ∧ l1 ≤ 5) → K ((-1)) S) ∧ ((l1 = 0 → K (S.1 54 2) S) ∧ ((l1 = 1 → ((0 : Int) ≤ 0 ∧ 0 < (3 : Int) ∧ (iv 0 30 (S.2 67 (0)) → K (S.2 67 (0)) S))) ∧ ((l1 = 2 → ((0 : Int) ≤ 1 ∧ 1 < (3 : Int) ∧ (iv 0 30 (S.2 67 (1)) → K (S.2 67 (1)) S))) ∧ ((l1 = 3 → (iv 0 3000 (S.1 54 20) → K (S.1 54 20) S)) ∧ ((l1 = 4 → (iv 0 3000 (S.1 54 0) → K (S.1 54 0) S)) ∧ (l1 = 5 → K (l2) S))))))))) ∧ ((¬ (S.1 54 2 ≤ l3)) → ((0 : Int) ≤ l3 ∧ l3 < (6 : Int) ∧ (iv 0 1 (S.2 61 (l3)) → ((S.2 61 (l3) = 0 → wX11_count_28 (l1) (l3) (l2) S K B4) ∧ ((¬ (S.2 61 (l3) = 0)) → wX11_count_28 (l1) (l3) ((l2 + 1)) S K B4))))))))
set_option maxRecDepth 100000 in
set_option maxHeartbeats 4000000 in
theorem bX11_count_4' {G : xG} {sh : Nat → Option Sh} {J : St → List va_E → Prop} {d : Nat} {Post : xP} {l1 l2 l3 : Int} {S : St} {cs : List va_E} {K : Int → St → Prop} {B4 : Int → Int → Int → St → Prop} (hd : 0 ≤ d) (hJ : Stb sh J) (hT : isM sh) (hW : Wd G sh mT J S cs) (hP : ∀ (v : Int) (S : St) (cs : List va_E), K v S → Wd G sh mT J S cs → Post (some (.int (Int32.ofInt v))) cs) (hB4 : ∀ (l1 : Int) (l2 : Int) (l3 : Int) (S : St) (cs : List va_E), B4 l1 l2 l3 S → Wd G sh mT J S cs → Z (RX11, cX11_count, 4, some .int, false) G d Post 4 [(0, .ref (G.1 + 54)), (1, .int (Int32.ofInt (l1))), (2, .int (Int32.ofInt (l2))), (3, .int (Int32.ofInt (l3)))] [] cs) (hw : wX11_count_4' l1 l2 l3 S K B4) : Z (RX11, cX11_count, 4, some .int, false) G d Post 4 [(0, .ref (G.1 + 54)), (1, .int (Int32.ofInt (l1))), (2, .int (Int32.ofInt (l2))), (3, .int (Int32.ofInt (l3)))] [] cs := by
  unfold wX11_count_4' at hw
  refine z_iload_n dX11_count_4 rfl rfl ?_
  refine z_aload_n dX11_count_5 rfl rfl ?_
  have q1 : iv 0 6 (S.1 54 2) := mI2 hW
  have hw := hw q1
  refine g_getI hW hT.1 mr2 kX11 fX11_238 dX11_count_6 ?_
  obtain ⟨q3, hw⟩ := hw
  refine i_icmp_ge (tgt := 35) dX11_count_9 (by decide) q3 (rngq q1 (by decide) (by decide)) (fun h2 => ?_) (fun h2 => ?_)
  · have hw := hw.1 h2
    refine z_iload_n dX11_count_35 rfl rfl ?_
    obtain ⟨q4, hw⟩ := hw
    rcases (show (¬ (0 ≤ l1 ∧ l1 ≤ 5)) ∨ l1 = 0 ∨ l1 = 1 ∨ l1 = 2 ∨ l1 = 3 ∨ l1 = 4 ∨ l1 = 5 by omega) with h5 | h5 | h5 | h5 | h5 | h5 | h5
    · have hw := hw.1 h5
      refine i_tableOut (tgt := 107) dX11_count_36 q4 h5 (by decide) ?_
      refine z_iconst (v := Int32.ofInt (-1)) dX11_count_107 rfl ?_
      exact z_ireturn dX11_count_108 rfl rfl (hP _ _ _ hw hW)
    · have hw := hw.2.1 h5
      refine i_tableIn (c := 0) (off := 40) (tgt := 76) dX11_count_36 h5 ⟨by decide, by decide⟩ (by decide) (by decide) rfl (by decide) ?_
      refine z_aload_n dX11_count_76 rfl rfl ?_
      refine g_getI hW hT.1 mr2 kX11 fX11_238 dX11_count_77 ?_
      exact z_ireturn dX11_count_80 rfl rfl (hP _ _ _ hw hW)
    · have hw := hw.2.2.1 h5
      refine i_tableIn (c := 1) (off := 45) (tgt := 81) dX11_count_36 h5 ⟨by decide, by decide⟩ (by decide) (by decide) rfl (by decide) ?_
      refine z_aload_n dX11_count_81 rfl rfl ?_
      refine g_getR hW hT.1 mr14 kX11 fX11_47 dX11_count_82 ?_
      refine z_iconst (v := Int32.ofInt 0) dX11_count_85 rfl ?_
      obtain ⟨q6a, q6b, hw⟩ := hw
      have q7 : iv 0 30 (S.2 67 (0)) := mA67 hW _
      have hw := hw q7
      refine g_iald hW (ma67 hT) q6a q6b (by decide) dX11_count_86 ?_
      exact z_ireturn dX11_count_87 rfl rfl (hP _ _ _ hw hW)
    · have hw := hw.2.2.2.1 h5
      refine i_tableIn (c := 2) (off := 52) (tgt := 88) dX11_count_36 h5 ⟨by decide, by decide⟩ (by decide) (by decide) rfl (by decide) ?_
      refine z_aload_n dX11_count_88 rfl rfl ?_
      refine g_getR hW hT.1 mr14 kX11 fX11_47 dX11_count_89 ?_
      refine z_iconst (v := Int32.ofInt 1) dX11_count_92 rfl ?_
      obtain ⟨q8a, q8b, hw⟩ := hw
      have q9 : iv 0 30 (S.2 67 (1)) := mA67 hW _
      have hw := hw q9
      refine g_iald hW (ma67 hT) q8a q8b (by decide) dX11_count_93 ?_
      exact z_ireturn dX11_count_94 rfl rfl (hP _ _ _ hw hW)
    · have hw := hw.2.2.2.2.1 h5
      refine i_tableIn (c := 3) (off := 59) (tgt := 95) dX11_count_36 h5 ⟨by decide, by decide⟩ (by decide) (by decide) rfl (by decide) ?_
      refine z_aload_n dX11_count_95 rfl rfl ?_
      have q10 : iv 0 3000 (S.1 54 20) := mI20 hW
      have hw := hw q10
      refine g_getI hW hT.1 mr20 kX11 fX11_244 dX11_count_96 ?_
      exact z_ireturn dX11_count_99 rfl rfl (hP _ _ _ hw hW)
    · have hw := hw.2.2.2.2.2.1 h5
      refine i_tableIn (c := 4) (off := 64) (tgt := 100) dX11_count_36 h5 ⟨by decide, by decide⟩ (by decide) (by decide) rfl (by decide) ?_
      refine z_aload_n dX11_count_100 rfl rfl ?_
      have q11 : iv 0 3000 (S.1 54 0) := mI0 hW
      have hw := hw q11
      refine g_getI hW hT.1 mr0 kX11 fX11_171 dX11_count_101 ?_
      exact z_ireturn dX11_count_104 rfl rfl (hP _ _ _ hw hW)
    · have hw := hw.2.2.2.2.2.2 h5
      refine i_tableIn (c := 5) (off := 69) (tgt := 105) dX11_count_36 h5 ⟨by decide, by decide⟩ (by decide) (by decide) rfl (by decide) ?_
      refine z_iload_n dX11_count_105 rfl rfl ?_
      exact z_ireturn dX11_count_106 rfl rfl (hP _ _ _ hw hW)
  · have hw := hw.2 h2
    refine z_aload_n dX11_count_12 rfl rfl ?_
    refine g_getR hW hT.1 mr8 kX11 fX11_29 dX11_count_13 ?_
    refine z_iload_n dX11_count_16 rfl rfl ?_
    obtain ⟨q12a, q12b, hw⟩ := hw
    have q13 : iv 0 1 (S.2 61 (l3)) := mA61 hW _
    have hw := hw q13
    refine g_zald hW (ma61 hT) q12a q12b (by decide) dX11_count_17 ?_
    refine i_if_eq (tgt := 27) dX11_count_18 (by decide) (rngq q13 (by decide) (by decide)) (fun h14 => ?_) (fun h14 => ?_)
    · have hw := hw.1 h14
      refine z_iload_n dX11_count_27 rfl rfl ?_
      refine z_loc (L' := [(0, .ref (G.1 + 54)), (1, .int (Int32.ofInt (l1))), (3, .int (Int32.ofInt (l3)))]) (List.forall_mem_cons.mpr ⟨rfl, (List.forall_mem_cons.mpr ⟨rfl, (List.forall_mem_cons.mpr ⟨rfl, (fun _ h => nomatch h)⟩)⟩)⟩) ?_
      exact bX11_count_28 hd hJ hT hW hP hB4 hw
    · have hw := hw.2 h14
      refine z_iload_n dX11_count_21 rfl rfl ?_
      refine z_iconst (v := Int32.ofInt 1) dX11_count_22 rfl ?_
      refine i_iadd dX11_count_23 ?_
      refine z_goto (tgt := 28) dX11_count_24 (by decide) ?_
      refine z_loc (L' := [(0, .ref (G.1 + 54)), (1, .int (Int32.ofInt (l1))), (3, .int (Int32.ofInt (l3)))]) (List.forall_mem_cons.mpr ⟨rfl, (List.forall_mem_cons.mpr ⟨rfl, (List.forall_mem_cons.mpr ⟨rfl, (fun _ h => nomatch h)⟩)⟩)⟩) ?_
      exact bX11_count_28 hd hJ hT hW hP hB4 hw
def wX11_count_4 (l1 l2 l3 : Int) (S : St) (K : Int → St → Prop) : Prop := ∃ (Iv : Int → Int → Int → St → Prop) (mu : Int → Int → Int → St → Nat), Iv l1 l2 l3 S ∧ ∀ (l1 l2 l3 : Int) (S : St), Iv l1 l2 l3 S → wX11_count_4' l1 l2 l3 S K  (fun ml1 ml2 ml3 T => Iv ml1 ml2 ml3 T ∧ mu ml1 ml2 ml3 T < mu l1 l2 l3 S)
set_option maxRecDepth 100000 in
set_option maxHeartbeats 4000000 in
theorem bX11_count_4 {G : xG} {sh : Nat → Option Sh} {J : St → List va_E → Prop} {d : Nat} {Post : xP} {l1 l2 l3 : Int} {S : St} {cs : List va_E} {K : Int → St → Prop} (hd : 0 ≤ d) (hJ : Stb sh J) (hT : isM sh) (hW : Wd G sh mT J S cs) (hP : ∀ (v : Int) (S : St) (cs : List va_E), K v S → Wd G sh mT J S cs → Post (some (.int (Int32.ofInt v))) cs)  (hw : wX11_count_4 l1 l2 l3 S K ) : Z (RX11, cX11_count, 4, some .int, false) G d Post 4 [(0, .ref (G.1 + 54)), (1, .int (Int32.ofInt (l1))), (2, .int (Int32.ofInt (l2))), (3, .int (Int32.ofInt (l3)))] [] cs := by
  unfold wX11_count_4 at hw
  obtain ⟨Iv, mu, h0, hs⟩ := hw
  have key : ∀ (n : Nat) (l1 l2 l3 : Int) (S : St) (cs : List va_E), mu l1 l2 l3 S < n → Iv l1 l2 l3 S → Wd G sh mT J S cs → Z (RX11, cX11_count, 4, some .int, false) G d Post 4 [(0, .ref (G.1 + 54)), (1, .int (Int32.ofInt (l1))), (2, .int (Int32.ofInt (l2))), (3, .int (Int32.ofInt (l3)))] [] cs := by
    intro n
    induction n with
    | zero => intro l1 l2 l3 S cs hn; exact absurd hn (Nat.not_lt_zero _)
    | succ n ih =>
      intro l1 l2 l3 S cs hn hI hW
      exact bX11_count_4' hd hJ hT hW hP  (fun l1 l2 l3 S cs hb hW => ih l1 l2 l3 S cs (Nat.lt_of_lt_of_le hb.2 (Nat.le_of_lt_succ hn)) hb.1 hW) (hs l1 l2 l3 S hI)
  exact key _ _ _ _ _ _ (Nat.lt_succ_self _) h0 hW
def wX11_count (a1 : Int) (S : St) (K : Int → St → Prop) : Prop := rng a1 → wX11_count_4 (a1) (0) (0) S K
set_option maxRecDepth 100000 in
set_option maxHeartbeats 4000000 in
theorem lX11_count {G : xG} {sh : Nat → Option Sh} {J : St → List va_E → Prop} {a1 : Int} {S : St} {cs : List va_E} {K : Int → St → Prop} (d : Nat) (hd : 0 ≤ d) (hJ : Stb sh J) (hT : isM sh) (hW : Wd G sh mT J S cs) (g1 : rng a1) (hw : wX11_count a1 S K) : X G yX11_count cX11_count 4 (some .int) d [.ref (G.1 + 54), .int (Int32.ofInt a1)] cs (qI G sh mT J K) := by
  refine X.of false (by decide +kernel) (by decide) (Nat.le_of_ble_eq_true rfl) ?_
  show Z (RX11, cX11_count, 4, some .int, false) G d _ 0 [(0, .ref (G.1 + 54)), (1, .int (Int32.ofInt a1))] [] cs
  have hP : ∀ (v : Int) (S : St) (cs : List va_E), K v S → Wd G sh mT J S cs → qI G sh mT J K (some (.int (Int32.ofInt v))) cs := fun v S cs a b => ⟨v, S, rfl, a, b⟩
  unfold wX11_count at hw
  have hw := hw g1
  refine z_iconst (v := Int32.ofInt 0) dX11_count_0 rfl ?_
  refine z_istore_n dX11_count_1 rfl (by decide) ?_
  refine z_loc (L' := [(0, .ref (G.1 + 54)), (1, .int (Int32.ofInt (a1))), (2, .int (Int32.ofInt (0)))]) (List.forall_mem_cons.mpr ⟨rfl, (List.forall_mem_cons.mpr ⟨rfl, (List.forall_mem_cons.mpr ⟨rfl, (fun _ h => nomatch h)⟩)⟩)⟩) ?_
  refine z_iconst (v := Int32.ofInt 0) dX11_count_2 rfl ?_
  refine z_istore_n dX11_count_3 rfl (by decide) ?_
  refine z_loc (L' := [(0, .ref (G.1 + 54)), (1, .int (Int32.ofInt (a1))), (2, .int (Int32.ofInt (0))), (3, .int (Int32.ofInt (0)))]) (List.forall_mem_cons.mpr ⟨rfl, (List.forall_mem_cons.mpr ⟨rfl, (List.forall_mem_cons.mpr ⟨rfl, (List.forall_mem_cons.mpr ⟨rfl, (fun _ h => nomatch h)⟩)⟩)⟩)⟩) ?_
  refine z_loc (L' := [(0, .ref (G.1 + 54)), (1, .int (Int32.ofInt (a1))), (2, .int (Int32.ofInt (0))), (3, .int (Int32.ofInt (0)))]) (List.forall_mem_cons.mpr ⟨rfl, (List.forall_mem_cons.mpr ⟨rfl, (List.forall_mem_cons.mpr ⟨rfl, (List.forall_mem_cons.mpr ⟨rfl, (fun _ h => nomatch h)⟩)⟩)⟩)⟩) ?_
  exact bX11_count_4 hd hJ hT hW hP  hw

def wX11_end (a1 : Int) (S : St) (K : Int → St → Prop) : Prop := rng a1 → (wX11_putWord (60) (47) (0) (0) S (fun r1 S2 => (wX11_putName (a1) S2 (fun r3 S4 => (wX11_put (62) S4 (fun r5 S6 => K 0 S6))))))
set_option maxRecDepth 100000 in
set_option maxHeartbeats 4000000 in
theorem lX11_end {G : xG} {sh : Nat → Option Sh} {J : St → List va_E → Prop} {a1 : Int} {S : St} {cs : List va_E} {K : Int → St → Prop} (d : Nat) (hd : 2 ≤ d) (hJ : Stb sh J) (hT : isM sh) (hW : Wd G sh mT J S cs) (g1 : rng a1) (hw : wX11_end a1 S K) : X G yX11_end cX11_end 2 none d [.ref (G.1 + 54), .int (Int32.ofInt a1)] cs (qV G sh mT J K) := by
  refine X.of false (by decide +kernel) (by decide) (Nat.le_of_ble_eq_true rfl) ?_
  show Z (RX11, cX11_end, 2, none, false) G d _ 0 [(0, .ref (G.1 + 54)), (1, .int (Int32.ofInt a1))] [] cs
  have hP : ∀ (v : Int) (S : St) (cs : List va_E), K v S → Wd G sh mT J S cs → qV G sh mT J K (none) cs := fun v S cs a b => ⟨v, S, rfl, a, b⟩
  unfold wX11_end at hw
  have hw := hw g1
  refine z_aload_n dX11_end_0 rfl rfl ?_
  refine z_bipush (v := Int32.ofInt 60) dX11_end_1 (by decide) ?_
  refine z_bipush (v := Int32.ofInt 47) dX11_end_3 (by decide) ?_
  refine z_iconst (v := Int32.ofInt 0) dX11_end_5 rfl ?_
  refine z_iconst (v := Int32.ofInt 0) dX11_end_6 rfl ?_
  have hX := lX11_putWord 1 (Nat.le_refl _) hJ hT hW ⟨by decide, by decide⟩ ⟨by decide, by decide⟩ ⟨by decide, by decide⟩ ⟨by decide, by decide⟩ hw
  refine z_callV (As := [_, _, _, _]) eX11_putWord sX11_putWord lX11_267 rfl dX11_end_7 (hW.1 _ _ hT.1) hX (Nat.le_trans (by decide) hd) rfl (Nat.le_of_ble_eq_true rfl) (fun r cs hp => ?_)
  obtain ⟨r1, S2, rfl, hw, hW⟩ := hp
  refine z_st (st' := []) rfl ?_
  refine z_aload_n dX11_end_10 rfl rfl ?_
  refine z_iload_n dX11_end_11 rfl rfl ?_
  have hX := lX11_putName 1 (Nat.le_refl _) hJ hT hW g1 hw
  refine z_callV (As := [_]) eX11_putName sX11_putName lX11_284 rfl dX11_end_12 (hW.1 _ _ hT.1) hX (Nat.le_trans (by decide) hd) rfl (Nat.le_of_ble_eq_true rfl) (fun r cs hp => ?_)
  obtain ⟨r3, S4, rfl, hw, hW⟩ := hp
  refine z_st (st' := []) rfl ?_
  refine z_aload_n dX11_end_15 rfl rfl ?_
  refine z_bipush (v := Int32.ofInt 62) dX11_end_16 (by decide) ?_
  have hX := lX11_put 0 (Nat.le_refl _) hJ hT hW ⟨by decide, by decide⟩ hw
  refine z_callV (As := [_]) eX11_put sX11_put lX11_260 rfl dX11_end_18 (hW.1 _ _ hT.1) hX (Nat.le_trans (by decide) hd) rfl (Nat.le_of_ble_eq_true rfl) (fun r cs hp => ?_)
  obtain ⟨r5, S6, rfl, hw, hW⟩ := hp
  refine z_st (st' := []) rfl ?_
  exact z_return dX11_end_21 rfl (hP 0 _ _ hw hW)

def wX11_endTag_70 (l1 l3 : Int) (S : St) (K : Int → St → Prop) : Prop := (rng ((l1 + 2)) ∧ (wX11_fail ((l1 + 2)) S (fun r2 S3 => K (l3) S3)))
set_option maxRecDepth 100000 in
set_option maxHeartbeats 4000000 in
theorem bX11_endTag_70 {G : xG} {sh : Nat → Option Sh} {J : St → List va_E → Prop} {d : Nat} {Post : xP} {l1 l3 : Int} {S : St} {cs : List va_E} {K : Int → St → Prop} (hd : 4 ≤ d) (hJ : Stb sh J) (hT : isM sh) (hW : Wd G sh mT J S cs) (hP : ∀ (v : Int) (S : St) (cs : List va_E), K v S → Wd G sh mT J S cs → Post (some (.int (Int32.ofInt v))) cs)  (hw : wX11_endTag_70 l1 l3 S K ) : Z (RX11, cX11_endTag, 6, some .int, false) G d Post 70 [(0, .ref (G.1 + 54)), (1, .int (Int32.ofInt (l1))), (3, .int (Int32.ofInt (l3)))] [] cs := by
  unfold wX11_endTag_70 at hw
  refine z_aload_n dX11_endTag_70 rfl rfl ?_
  refine z_iload_n dX11_endTag_71 rfl rfl ?_
  refine z_iconst (v := Int32.ofInt 2) dX11_endTag_72 rfl ?_
  refine i_iadd dX11_endTag_73 ?_
  obtain ⟨q1, hw⟩ := hw
  have hX := lX11_fail 0 (Nat.le_refl _) hJ hT hW q1 hw
  refine z_callV (As := [_]) eX11_fail sX11_fail lX11_362 rfl dX11_endTag_74 (hW.1 _ _ hT.1) hX (Nat.le_trans (by decide) hd) rfl (Nat.le_of_ble_eq_true rfl) (fun r cs hp => ?_)
  obtain ⟨r2, S3, rfl, hw, hW⟩ := hp
  refine z_st (st' := []) rfl ?_
  refine z_iload_n dX11_endTag_77 rfl rfl ?_
  exact z_ireturn dX11_endTag_78 rfl rfl (hP _ _ _ hw hW)
def wX11_endTag_44 (l1 l2 l3 l4 s0 s1 : Int) (S : St) (K : Int → St → Prop) : Prop := (rng (s1) ∧ (rng (s0) ∧ (rng ((l1 + 2)) ∧ (rng (l4) ∧ (wX11_sameNames (s1) (s0) ((l1 + 2)) (l4) S (fun r5 S6 => (rng (r5) ∧ ((r5 = 0 → wX11_endTag_70 (l1) (l3) S6 K) ∧ ((¬ (r5 = 0)) → ((0 : Int) ≤ l2 ∧ l2 < (200 : Int) ∧ (iv 0 3000 (S6.2 87 (l2)) → ((S6.2 87 (l2) ≤ l4 → (rng (l3) ∧ (wX11_blanksFrom (l3) S6 (fun r13 S14 => (rng (r13) ∧ (wX11_docAt (r13) S14 (fun r16 S17 => (rng (r16) ∧ ((r16 = 62 → K ((r13 + 1)) S17) ∧ ((¬ (r16 = 62)) → (wX11_fail (r13) S17 (fun r20 S21 => K ((r13 + 1)) S21)))))))))))) ∧ ((¬ (S6.2 87 (l2) ≤ l4)) → wX11_endTag_70 (l1) (l3) S6 K)))))))))))))
set_option maxRecDepth 100000 in
set_option maxHeartbeats 4000000 in
theorem bX11_endTag_44 {G : xG} {sh : Nat → Option Sh} {J : St → List va_E → Prop} {d : Nat} {Post : xP} {l1 l2 l3 l4 s0 s1 : Int} {S : St} {cs : List va_E} {K : Int → St → Prop} (hd : 4 ≤ d) (hJ : Stb sh J) (hT : isM sh) (hW : Wd G sh mT J S cs) (hP : ∀ (v : Int) (S : St) (cs : List va_E), K v S → Wd G sh mT J S cs → Post (some (.int (Int32.ofInt v))) cs)  (hw : wX11_endTag_44 l1 l2 l3 l4 s0 s1 S K ) : Z (RX11, cX11_endTag, 6, some .int, false) G d Post 44 [(0, .ref (G.1 + 54)), (1, .int (Int32.ofInt (l1))), (2, .int (Int32.ofInt (l2))), (3, .int (Int32.ofInt (l3))), (4, .int (Int32.ofInt (l4)))] [.int (Int32.ofInt (s0)), .int (Int32.ofInt (s1)), .ref (G.1 + 54)] cs := by
  unfold wX11_endTag_44 at hw
  refine z_iload_n dX11_endTag_44 rfl rfl ?_
  refine z_iconst (v := Int32.ofInt 2) dX11_endTag_45 rfl ?_
  refine i_iadd dX11_endTag_46 ?_
  refine z_iload dX11_endTag_47 rfl ?_
  obtain ⟨q1, hw⟩ := hw
  obtain ⟨q2, hw⟩ := hw
  obtain ⟨q3, hw⟩ := hw
  obtain ⟨q4, hw⟩ := hw
  have hX := lX11_sameNames 0 (Nat.le_refl _) hJ hT hW q1 q2 q3 q4 hw
  refine z_callV (As := [_, _, _, _]) eX11_sameNames sX11_sameNames lX11_380 rfl dX11_endTag_49 (hW.1 _ _ hT.1) hX (Nat.le_trans (by decide) hd) rfl (Nat.le_of_ble_eq_true rfl) (fun r cs hp => ?_)
  obtain ⟨r5, S6, rfl, hw, hW⟩ := hp
  refine z_st (st' := [.int (Int32.ofInt (r5))]) rfl ?_
  refine z_istore dX11_endTag_52 (by decide) ?_
  refine z_loc (L' := [(0, .ref (G.1 + 54)), (1, .int (Int32.ofInt (l1))), (2, .int (Int32.ofInt (l2))), (3, .int (Int32.ofInt (l3))), (4, .int (Int32.ofInt (l4))), (5, .int (Int32.ofInt (r5)))]) (List.forall_mem_cons.mpr ⟨rfl, (List.forall_mem_cons.mpr ⟨rfl, (List.forall_mem_cons.mpr ⟨rfl, (List.forall_mem_cons.mpr ⟨rfl, (List.forall_mem_cons.mpr ⟨rfl, (List.forall_mem_cons.mpr ⟨rfl, (fun _ h => nomatch h)⟩)⟩)⟩)⟩)⟩)⟩) ?_
  refine z_iload dX11_endTag_54 rfl ?_
  obtain ⟨q8, hw⟩ := hw
  refine i_if_eq (tgt := 70) dX11_endTag_56 (by decide) q8 (fun h7 => ?_) (fun h7 => ?_)
  · have hw := hw.1 h7
    refine z_loc (L' := [(0, .ref (G.1 + 54)), (1, .int (Int32.ofInt (l1))), (3, .int (Int32.ofInt (l3)))]) (List.forall_mem_cons.mpr ⟨rfl, (List.forall_mem_cons.mpr ⟨rfl, (List.forall_mem_cons.mpr ⟨rfl, (fun _ h => nomatch h)⟩)⟩)⟩) ?_
    exact bX11_endTag_70 hd hJ hT hW hP  hw
  · have hw := hw.2 h7
    refine z_iload dX11_endTag_59 rfl ?_
    refine z_aload_n dX11_endTag_61 rfl rfl ?_
    refine g_getR hW hT.1 mr46 kX11 fX11_111 dX11_endTag_62 ?_
    refine z_iload_n dX11_endTag_65 rfl rfl ?_
    obtain ⟨q9a, q9b, hw⟩ := hw
    have q10 : iv 0 3000 (S6.2 87 (l2)) := mA87 hW _
    have hw := hw q10
    refine g_iald hW (ma87 hT) q9a q9b (by decide) dX11_endTag_66 ?_
    refine i_icmp_ge (tgt := 79) dX11_endTag_67 (by decide) q4 (rngq q10 (by decide) (by decide)) (fun h11 => ?_) (fun h11 => ?_)
    · have hw := hw.1 h11
      refine z_aload_n dX11_endTag_79 rfl rfl ?_
      refine z_iload_n dX11_endTag_80 rfl rfl ?_
      obtain ⟨q12, hw⟩ := hw
      have hX := lX11_blanksFrom 1 (Nat.le_refl _) hJ hT hW q12 hw
      refine z_callV (As := [_]) eX11_blanksFrom sX11_blanksFrom lX11_389 rfl dX11_endTag_81 (hW.1 _ _ hT.1) hX (Nat.le_trans (by decide) hd) rfl (Nat.le_of_ble_eq_true rfl) (fun r cs hp => ?_)
      obtain ⟨r13, S14, rfl, hw, hW⟩ := hp
      refine z_st (st' := [.int (Int32.ofInt (r13))]) rfl ?_
      refine z_istore_n dX11_endTag_84 rfl (by decide) ?_
      refine z_loc (L' := [(0, .ref (G.1 + 54)), (1, .int (Int32.ofInt (l1))), (2, .int (Int32.ofInt (l2))), (3, .int (Int32.ofInt (r13))), (4, .int (Int32.ofInt (l4))), (5, .int (Int32.ofInt (r5)))]) (List.forall_mem_cons.mpr ⟨rfl, (List.forall_mem_cons.mpr ⟨rfl, (List.forall_mem_cons.mpr ⟨rfl, (List.forall_mem_cons.mpr ⟨rfl, (List.forall_mem_cons.mpr ⟨rfl, (List.forall_mem_cons.mpr ⟨rfl, (fun _ h => nomatch h)⟩)⟩)⟩)⟩)⟩)⟩) ?_
      refine z_aload_n dX11_endTag_85 rfl rfl ?_
      refine z_iload_n dX11_endTag_86 rfl rfl ?_
      obtain ⟨q15, hw⟩ := hw
      have hX := lX11_docAt 0 (Nat.le_refl _) hJ hT hW q15 hw
      refine z_callV (As := [_]) eX11_docAt sX11_docAt lX11_349 rfl dX11_endTag_87 (hW.1 _ _ hT.1) hX (Nat.le_trans (by decide) hd) rfl (Nat.le_of_ble_eq_true rfl) (fun r cs hp => ?_)
      obtain ⟨r16, S17, rfl, hw, hW⟩ := hp
      refine z_st (st' := [.int (Int32.ofInt (r16))]) rfl ?_
      refine z_bipush (v := Int32.ofInt 62) dX11_endTag_90 (by decide) ?_
      obtain ⟨q19, hw⟩ := hw
      refine i_icmp_eq (tgt := 100) dX11_endTag_92 (by decide) q19 ⟨by decide, by decide⟩ (fun h18 => ?_) (fun h18 => ?_)
      · have hw := hw.1 h18
        refine z_iload_n dX11_endTag_100 rfl rfl ?_
        refine z_iconst (v := Int32.ofInt 1) dX11_endTag_101 rfl ?_
        refine i_iadd dX11_endTag_102 ?_
        exact z_ireturn dX11_endTag_103 rfl rfl (hP _ _ _ hw hW)
      · have hw := hw.2 h18
        refine z_aload_n dX11_endTag_95 rfl rfl ?_
        refine z_iload_n dX11_endTag_96 rfl rfl ?_
        have hX := lX11_fail 0 (Nat.le_refl _) hJ hT hW q15 hw
        refine z_callV (As := [_]) eX11_fail sX11_fail lX11_362 rfl dX11_endTag_97 (hW.1 _ _ hT.1) hX (Nat.le_trans (by decide) hd) rfl (Nat.le_of_ble_eq_true rfl) (fun r cs hp => ?_)
        obtain ⟨r20, S21, rfl, hw, hW⟩ := hp
        refine z_st (st' := []) rfl ?_
        refine z_iload_n dX11_endTag_100 rfl rfl ?_
        refine z_iconst (v := Int32.ofInt 1) dX11_endTag_101 rfl ?_
        refine i_iadd dX11_endTag_102 ?_
        exact z_ireturn dX11_endTag_103 rfl rfl (hP _ _ _ hw hW)
    · have hw := hw.2 h11
      refine z_loc (L' := [(0, .ref (G.1 + 54)), (1, .int (Int32.ofInt (l1))), (3, .int (Int32.ofInt (l3)))]) (List.forall_mem_cons.mpr ⟨rfl, (List.forall_mem_cons.mpr ⟨rfl, (List.forall_mem_cons.mpr ⟨rfl, (fun _ h => nomatch h)⟩)⟩)⟩) ?_
      exact bX11_endTag_70 hd hJ hT hW hP  hw
def wX11_endTag (a1 a2 : Int) (S : St) (K : Int → St → Prop) : Prop := rng a1 → rng a2 → (rng ((a1 + 2)) ∧ (wX11_nameEnd ((a1 + 2)) S (fun r2 S3 => (∀ x4 : Int, x4 = ((r2 - a1) - 2) → ((0 : Int) ≤ a2 ∧ a2 < (200 : Int) ∧ (iv 0 3000 (S3.2 86 (a2)) → ((0 : Int) ≤ a2 ∧ a2 < (200 : Int) ∧ (iv 0 3000 (S3.2 87 (a2)) → (rng (x4) ∧ ((S3.2 87 (a2) ≤ x4 → ((0 : Int) ≤ a2 ∧ a2 < (200 : Int) ∧ (iv 0 3000 (S3.2 87 (a2)) → wX11_endTag_44 (a1) (a2) (r2) (x4) (S3.2 87 (a2)) (S3.2 86 (a2)) S3 K))) ∧ ((¬ (S3.2 87 (a2) ≤ x4)) → wX11_endTag_44 (a1) (a2) (r2) (x4) (x4) (S3.2 86 (a2)) S3 K)))))))))))
set_option maxRecDepth 100000 in
set_option maxHeartbeats 4000000 in
theorem lX11_endTag {G : xG} {sh : Nat → Option Sh} {J : St → List va_E → Prop} {a1 a2 : Int} {S : St} {cs : List va_E} {K : Int → St → Prop} (d : Nat) (hd : 4 ≤ d) (hJ : Stb sh J) (hT : isM sh) (hW : Wd G sh mT J S cs) (g1 : rng a1) (g2 : rng a2) (hw : wX11_endTag a1 a2 S K) : X G yX11_endTag cX11_endTag 6 (some .int) d [.ref (G.1 + 54), .int (Int32.ofInt a1), .int (Int32.ofInt a2)] cs (qI G sh mT J K) := by
  refine X.of false (by decide +kernel) (by decide) (Nat.le_of_ble_eq_true rfl) ?_
  show Z (RX11, cX11_endTag, 6, some .int, false) G d _ 0 [(0, .ref (G.1 + 54)), (1, .int (Int32.ofInt a1)), (2, .int (Int32.ofInt a2))] [] cs
  have hP : ∀ (v : Int) (S : St) (cs : List va_E), K v S → Wd G sh mT J S cs → qI G sh mT J K (some (.int (Int32.ofInt v))) cs := fun v S cs a b => ⟨v, S, rfl, a, b⟩
  unfold wX11_endTag at hw
  have hw := hw g1 g2
  refine z_aload_n dX11_endTag_0 rfl rfl ?_
  refine z_iload_n dX11_endTag_1 rfl rfl ?_
  refine z_iconst (v := Int32.ofInt 2) dX11_endTag_2 rfl ?_
  refine i_iadd dX11_endTag_3 ?_
  obtain ⟨q1, hw⟩ := hw
  have hX := lX11_nameEnd 3 (Nat.le_refl _) hJ hT hW q1 hw
  refine z_callV (As := [_]) eX11_nameEnd sX11_nameEnd lX11_374 rfl dX11_endTag_4 (hW.1 _ _ hT.1) hX (Nat.le_trans (by decide) hd) rfl (Nat.le_of_ble_eq_true rfl) (fun r cs hp => ?_)
  obtain ⟨r2, S3, rfl, hw, hW⟩ := hp
  refine z_st (st' := [.int (Int32.ofInt (r2))]) rfl ?_
  refine z_istore_n dX11_endTag_7 rfl (by decide) ?_
  refine z_loc (L' := [(0, .ref (G.1 + 54)), (1, .int (Int32.ofInt (a1))), (2, .int (Int32.ofInt (a2))), (3, .int (Int32.ofInt (r2)))]) (List.forall_mem_cons.mpr ⟨rfl, (List.forall_mem_cons.mpr ⟨rfl, (List.forall_mem_cons.mpr ⟨rfl, (List.forall_mem_cons.mpr ⟨rfl, (fun _ h => nomatch h)⟩)⟩)⟩)⟩) ?_
  refine z_iload_n dX11_endTag_8 rfl rfl ?_
  refine z_iload_n dX11_endTag_9 rfl rfl ?_
  refine i_isub dX11_endTag_10 ?_
  refine z_iconst (v := Int32.ofInt 2) dX11_endTag_11 rfl ?_
  refine i_isub dX11_endTag_12 ?_
  obtain ⟨x4, hx4⟩ : ∃ x : Int, x = ((r2 - a1) - 2) := ⟨_, rfl⟩
  have hw := hw x4 hx4
  refine z_st (st' := [.int (Int32.ofInt x4)]) (by rw [hx4]) ?_
  refine z_istore dX11_endTag_13 (by decide) ?_
  refine z_loc (L' := [(0, .ref (G.1 + 54)), (1, .int (Int32.ofInt (a1))), (2, .int (Int32.ofInt (a2))), (3, .int (Int32.ofInt (r2))), (4, .int (Int32.ofInt (x4)))]) (List.forall_mem_cons.mpr ⟨rfl, (List.forall_mem_cons.mpr ⟨rfl, (List.forall_mem_cons.mpr ⟨rfl, (List.forall_mem_cons.mpr ⟨rfl, (List.forall_mem_cons.mpr ⟨rfl, (fun _ h => nomatch h)⟩)⟩)⟩)⟩)⟩) ?_
  refine z_aload_n dX11_endTag_15 rfl rfl ?_
  refine z_aload_n dX11_endTag_16 rfl rfl ?_
  refine g_getR hW hT.1 mr45 kX11 fX11_108 dX11_endTag_17 ?_
  refine z_iload_n dX11_endTag_20 rfl rfl ?_
  obtain ⟨q5a, q5b, hw⟩ := hw
  have q6 : iv 0 3000 (S3.2 86 (a2)) := mA86 hW _
  have hw := hw q6
  refine g_iald hW (ma86 hT) q5a q5b (by decide) dX11_endTag_21 ?_
  refine z_iload dX11_endTag_22 rfl ?_
  refine z_aload_n dX11_endTag_24 rfl rfl ?_
  refine g_getR hW hT.1 mr46 kX11 fX11_111 dX11_endTag_25 ?_
  refine z_iload_n dX11_endTag_28 rfl rfl ?_
  obtain ⟨q7a, q7b, hw⟩ := hw
  have q8 : iv 0 3000 (S3.2 87 (a2)) := mA87 hW _
  have hw := hw q8
  refine g_iald hW (ma87 hT) q7a q7b (by decide) dX11_endTag_29 ?_
  obtain ⟨q10, hw⟩ := hw
  refine i_icmp_ge (tgt := 38) dX11_endTag_30 (by decide) q10 (rngq q8 (by decide) (by decide)) (fun h9 => ?_) (fun h9 => ?_)
  · have hw := hw.1 h9
    refine z_aload_n dX11_endTag_38 rfl rfl ?_
    refine g_getR hW hT.1 mr46 kX11 fX11_111 dX11_endTag_39 ?_
    refine z_iload_n dX11_endTag_42 rfl rfl ?_
    obtain ⟨q11a, q11b, hw⟩ := hw
    have q12 : iv 0 3000 (S3.2 87 (a2)) := mA87 hW _
    have hw := hw q12
    refine g_iald hW (ma87 hT) q11a q11b (by decide) dX11_endTag_43 ?_
    refine z_loc (L' := [(0, .ref (G.1 + 54)), (1, .int (Int32.ofInt (a1))), (2, .int (Int32.ofInt (a2))), (3, .int (Int32.ofInt (r2))), (4, .int (Int32.ofInt (x4)))]) (List.forall_mem_cons.mpr ⟨rfl, (List.forall_mem_cons.mpr ⟨rfl, (List.forall_mem_cons.mpr ⟨rfl, (List.forall_mem_cons.mpr ⟨rfl, (List.forall_mem_cons.mpr ⟨rfl, (fun _ h => nomatch h)⟩)⟩)⟩)⟩)⟩) ?_
    exact bX11_endTag_44 hd hJ hT hW hP  hw
  · have hw := hw.2 h9
    refine z_iload dX11_endTag_33 rfl ?_
    refine z_goto (tgt := 44) dX11_endTag_35 (by decide) ?_
    refine z_loc (L' := [(0, .ref (G.1 + 54)), (1, .int (Int32.ofInt (a1))), (2, .int (Int32.ofInt (a2))), (3, .int (Int32.ofInt (r2))), (4, .int (Int32.ofInt (x4)))]) (List.forall_mem_cons.mpr ⟨rfl, (List.forall_mem_cons.mpr ⟨rfl, (List.forall_mem_cons.mpr ⟨rfl, (List.forall_mem_cons.mpr ⟨rfl, (List.forall_mem_cons.mpr ⟨rfl, (fun _ h => nomatch h)⟩)⟩)⟩)⟩)⟩) ?_
    exact bX11_endTag_44 hd hJ hT hW hP  hw

def wX11_fieldNamed_103 (l1 l2 l3 l4 l6 s0 : Int) (S : St) (K : Int → St → Prop) (B7 : Int → Int → Int → Int → Int → Int → St → Prop) : Prop := B7 (l1) (l2) (l3) (l4) (s0) ((l6 + 1)) S
set_option maxRecDepth 100000 in
set_option maxHeartbeats 4000000 in
theorem bX11_fieldNamed_103 {G : xG} {sh : Nat → Option Sh} {J : St → List va_E → Prop} {d : Nat} {Post : xP} {l1 l2 l3 l4 l6 s0 : Int} {S : St} {cs : List va_E} {K : Int → St → Prop} {B7 : Int → Int → Int → Int → Int → Int → St → Prop} (hd : 2 ≤ d) (hJ : Stb sh J) (hT : isM sh) (hW : Wd G sh mT J S cs) (hP : ∀ (v : Int) (S : St) (cs : List va_E), K v S → Wd G sh mT J S cs → Post (some (.int (Int32.ofInt v))) cs) (hB7 : ∀ (l1 : Int) (l2 : Int) (l3 : Int) (l4 : Int) (l5 : Int) (l6 : Int) (S : St) (cs : List va_E), B7 l1 l2 l3 l4 l5 l6 S → Wd G sh mT J S cs → Z (RX11, cX11_fieldNamed, 9, some .int, false) G d Post 7 [(0, .ref (G.1 + 54)), (1, .int (Int32.ofInt (l1))), (2, .int (Int32.ofInt (l2))), (3, .int (Int32.ofInt (l3))), (4, .int (Int32.ofInt (l4))), (5, .int (Int32.ofInt (l5))), (6, .int (Int32.ofInt (l6)))] [] cs) (hw : wX11_fieldNamed_103 l1 l2 l3 l4 l6 s0 S K B7) : Z (RX11, cX11_fieldNamed, 9, some .int, false) G d Post 103 [(0, .ref (G.1 + 54)), (1, .int (Int32.ofInt (l1))), (2, .int (Int32.ofInt (l2))), (3, .int (Int32.ofInt (l3))), (4, .int (Int32.ofInt (l4))), (6, .int (Int32.ofInt (l6)))] [.int (Int32.ofInt (s0))] cs := by
  unfold wX11_fieldNamed_103 at hw
  refine z_istore dX11_fieldNamed_103 (by decide) ?_
  refine z_loc (L' := [(0, .ref (G.1 + 54)), (1, .int (Int32.ofInt (l1))), (2, .int (Int32.ofInt (l2))), (3, .int (Int32.ofInt (l3))), (4, .int (Int32.ofInt (l4))), (5, .int (Int32.ofInt (s0))), (6, .int (Int32.ofInt (l6)))]) (List.forall_mem_cons.mpr ⟨rfl, (List.forall_mem_cons.mpr ⟨rfl, (List.forall_mem_cons.mpr ⟨rfl, (List.forall_mem_cons.mpr ⟨rfl, (List.forall_mem_cons.mpr ⟨rfl, (List.forall_mem_cons.mpr ⟨rfl, (List.forall_mem_cons.mpr ⟨rfl, (fun _ h => nomatch h)⟩)⟩)⟩)⟩)⟩)⟩)⟩) ?_
  refine i_iinc (l := l6) dX11_fieldNamed_105 rfl (by decide) ?_
  refine z_loc (L' := [(0, .ref (G.1 + 54)), (1, .int (Int32.ofInt (l1))), (2, .int (Int32.ofInt (l2))), (3, .int (Int32.ofInt (l3))), (4, .int (Int32.ofInt (l4))), (5, .int (Int32.ofInt (s0))), (6, .int (Int32.ofInt ((l6 + 1))))]) (List.forall_mem_cons.mpr ⟨rfl, (List.forall_mem_cons.mpr ⟨rfl, (List.forall_mem_cons.mpr ⟨rfl, (List.forall_mem_cons.mpr ⟨rfl, (List.forall_mem_cons.mpr ⟨rfl, (List.forall_mem_cons.mpr ⟨rfl, (List.forall_mem_cons.mpr ⟨rfl, (fun _ h => nomatch h)⟩)⟩)⟩)⟩)⟩)⟩)⟩) ?_
  refine z_goto (tgt := 7) dX11_fieldNamed_108 (by decide) ?_
  refine z_loc (L' := [(0, .ref (G.1 + 54)), (1, .int (Int32.ofInt (l1))), (2, .int (Int32.ofInt (l2))), (3, .int (Int32.ofInt (l3))), (4, .int (Int32.ofInt (l4))), (5, .int (Int32.ofInt (s0))), (6, .int (Int32.ofInt ((l6 + 1))))]) (List.forall_mem_cons.mpr ⟨rfl, (List.forall_mem_cons.mpr ⟨rfl, (List.forall_mem_cons.mpr ⟨rfl, (List.forall_mem_cons.mpr ⟨rfl, (List.forall_mem_cons.mpr ⟨rfl, (List.forall_mem_cons.mpr ⟨rfl, (List.forall_mem_cons.mpr ⟨rfl, (fun _ h => nomatch h)⟩)⟩)⟩)⟩)⟩)⟩)⟩) ?_
  exact hB7 _ _ _ _ _ _ _ _ hw hW
def wX11_fieldNamed_101 (l1 l2 l3 l4 l5 l6 : Int) (S : St) (K : Int → St → Prop) (B7 : Int → Int → Int → Int → Int → Int → St → Prop) : Prop := wX11_fieldNamed_103 (l1) (l2) (l3) (l4) (l6) (l5) S K B7
set_option maxRecDepth 100000 in
set_option maxHeartbeats 4000000 in
theorem bX11_fieldNamed_101 {G : xG} {sh : Nat → Option Sh} {J : St → List va_E → Prop} {d : Nat} {Post : xP} {l1 l2 l3 l4 l5 l6 : Int} {S : St} {cs : List va_E} {K : Int → St → Prop} {B7 : Int → Int → Int → Int → Int → Int → St → Prop} (hd : 2 ≤ d) (hJ : Stb sh J) (hT : isM sh) (hW : Wd G sh mT J S cs) (hP : ∀ (v : Int) (S : St) (cs : List va_E), K v S → Wd G sh mT J S cs → Post (some (.int (Int32.ofInt v))) cs) (hB7 : ∀ (l1 : Int) (l2 : Int) (l3 : Int) (l4 : Int) (l5 : Int) (l6 : Int) (S : St) (cs : List va_E), B7 l1 l2 l3 l4 l5 l6 S → Wd G sh mT J S cs → Z (RX11, cX11_fieldNamed, 9, some .int, false) G d Post 7 [(0, .ref (G.1 + 54)), (1, .int (Int32.ofInt (l1))), (2, .int (Int32.ofInt (l2))), (3, .int (Int32.ofInt (l3))), (4, .int (Int32.ofInt (l4))), (5, .int (Int32.ofInt (l5))), (6, .int (Int32.ofInt (l6)))] [] cs) (hw : wX11_fieldNamed_101 l1 l2 l3 l4 l5 l6 S K B7) : Z (RX11, cX11_fieldNamed, 9, some .int, false) G d Post 101 [(0, .ref (G.1 + 54)), (1, .int (Int32.ofInt (l1))), (2, .int (Int32.ofInt (l2))), (3, .int (Int32.ofInt (l3))), (4, .int (Int32.ofInt (l4))), (5, .int (Int32.ofInt (l5))), (6, .int (Int32.ofInt (l6)))] [] cs := by
  unfold wX11_fieldNamed_101 at hw
  refine z_iload dX11_fieldNamed_101 rfl ?_
  refine z_loc (L' := [(0, .ref (G.1 + 54)), (1, .int (Int32.ofInt (l1))), (2, .int (Int32.ofInt (l2))), (3, .int (Int32.ofInt (l3))), (4, .int (Int32.ofInt (l4))), (6, .int (Int32.ofInt (l6)))]) (List.forall_mem_cons.mpr ⟨rfl, (List.forall_mem_cons.mpr ⟨rfl, (List.forall_mem_cons.mpr ⟨rfl, (List.forall_mem_cons.mpr ⟨rfl, (List.forall_mem_cons.mpr ⟨rfl, (List.forall_mem_cons.mpr ⟨rfl, (fun _ h => nomatch h)⟩)⟩)⟩)⟩)⟩)⟩) ?_
  exact bX11_fieldNamed_103 hd hJ hT hW hP hB7 hw
def wX11_fieldNamed_75 (l1 l2 l3 l4 l5 l6 l7 s0 : Int) (S : St) (K : Int → St → Prop) (B7 : Int → Int → Int → Int → Int → Int → St → Prop) : Prop := (rng (s0) ∧ ((s0 = 0 → wX11_fieldNamed_101 (l1) (l2) (l3) (l4) (l5) (l6) S K B7) ∧ ((¬ (s0 = 0)) → (rng (l2) ∧ (rng (l3) ∧ (rng ((6 + l7)) ∧ (wX11_isNamed (l2) (l3) ((6 + l7)) S (fun r6 S7 => (rng (r6) ∧ ((r6 = 0 → wX11_fieldNamed_101 (l1) (l2) (l3) (l4) (l5) (l6) S7 K B7) ∧ ((¬ (r6 = 0)) → wX11_fieldNamed_103 (l1) (l2) (l3) (l4) (l6) (l6) S7 K B7)))))))))))
set_option maxRecDepth 100000 in
set_option maxHeartbeats 4000000 in
theorem bX11_fieldNamed_75 {G : xG} {sh : Nat → Option Sh} {J : St → List va_E → Prop} {d : Nat} {Post : xP} {l1 l2 l3 l4 l5 l6 l7 s0 : Int} {S : St} {cs : List va_E} {K : Int → St → Prop} {B7 : Int → Int → Int → Int → Int → Int → St → Prop} (hd : 2 ≤ d) (hJ : Stb sh J) (hT : isM sh) (hW : Wd G sh mT J S cs) (hP : ∀ (v : Int) (S : St) (cs : List va_E), K v S → Wd G sh mT J S cs → Post (some (.int (Int32.ofInt v))) cs) (hB7 : ∀ (l1 : Int) (l2 : Int) (l3 : Int) (l4 : Int) (l5 : Int) (l6 : Int) (S : St) (cs : List va_E), B7 l1 l2 l3 l4 l5 l6 S → Wd G sh mT J S cs → Z (RX11, cX11_fieldNamed, 9, some .int, false) G d Post 7 [(0, .ref (G.1 + 54)), (1, .int (Int32.ofInt (l1))), (2, .int (Int32.ofInt (l2))), (3, .int (Int32.ofInt (l3))), (4, .int (Int32.ofInt (l4))), (5, .int (Int32.ofInt (l5))), (6, .int (Int32.ofInt (l6)))] [] cs) (hw : wX11_fieldNamed_75 l1 l2 l3 l4 l5 l6 l7 s0 S K B7) : Z (RX11, cX11_fieldNamed, 9, some .int, false) G d Post 75 [(0, .ref (G.1 + 54)), (1, .int (Int32.ofInt (l1))), (2, .int (Int32.ofInt (l2))), (3, .int (Int32.ofInt (l3))), (4, .int (Int32.ofInt (l4))), (5, .int (Int32.ofInt (l5))), (6, .int (Int32.ofInt (l6))), (7, .int (Int32.ofInt (l7)))] [.int (Int32.ofInt (s0))] cs := by
  unfold wX11_fieldNamed_75 at hw
  refine z_istore dX11_fieldNamed_75 (by decide) ?_
  refine z_loc (L' := [(0, .ref (G.1 + 54)), (1, .int (Int32.ofInt (l1))), (2, .int (Int32.ofInt (l2))), (3, .int (Int32.ofInt (l3))), (4, .int (Int32.ofInt (l4))), (5, .int (Int32.ofInt (l5))), (6, .int (Int32.ofInt (l6))), (7, .int (Int32.ofInt (l7))), (8, .int (Int32.ofInt (s0)))]) (List.forall_mem_cons.mpr ⟨rfl, (List.forall_mem_cons.mpr ⟨rfl, (List.forall_mem_cons.mpr ⟨rfl, (List.forall_mem_cons.mpr ⟨rfl, (List.forall_mem_cons.mpr ⟨rfl, (List.forall_mem_cons.mpr ⟨rfl, (List.forall_mem_cons.mpr ⟨rfl, (List.forall_mem_cons.mpr ⟨rfl, (List.forall_mem_cons.mpr ⟨rfl, (fun _ h => nomatch h)⟩)⟩)⟩)⟩)⟩)⟩)⟩)⟩)⟩) ?_
  refine z_iload dX11_fieldNamed_77 rfl ?_
  obtain ⟨q2, hw⟩ := hw
  refine i_if_eq (tgt := 101) dX11_fieldNamed_79 (by decide) q2 (fun h1 => ?_) (fun h1 => ?_)
  · have hw := hw.1 h1
    refine z_loc (L' := [(0, .ref (G.1 + 54)), (1, .int (Int32.ofInt (l1))), (2, .int (Int32.ofInt (l2))), (3, .int (Int32.ofInt (l3))), (4, .int (Int32.ofInt (l4))), (5, .int (Int32.ofInt (l5))), (6, .int (Int32.ofInt (l6)))]) (List.forall_mem_cons.mpr ⟨rfl, (List.forall_mem_cons.mpr ⟨rfl, (List.forall_mem_cons.mpr ⟨rfl, (List.forall_mem_cons.mpr ⟨rfl, (List.forall_mem_cons.mpr ⟨rfl, (List.forall_mem_cons.mpr ⟨rfl, (List.forall_mem_cons.mpr ⟨rfl, (fun _ h => nomatch h)⟩)⟩)⟩)⟩)⟩)⟩)⟩) ?_
    exact bX11_fieldNamed_101 hd hJ hT hW hP hB7 hw
  · have hw := hw.2 h1
    refine z_aload_n dX11_fieldNamed_82 rfl rfl ?_
    refine z_iload_n dX11_fieldNamed_83 rfl rfl ?_
    refine z_iload_n dX11_fieldNamed_84 rfl rfl ?_
    refine z_bipush (v := Int32.ofInt 6) dX11_fieldNamed_85 (by decide) ?_
    refine z_iload dX11_fieldNamed_87 rfl ?_
    refine i_iadd dX11_fieldNamed_89 ?_
    obtain ⟨q3, hw⟩ := hw
    obtain ⟨q4, hw⟩ := hw
    obtain ⟨q5, hw⟩ := hw
    have hX := lX11_isNamed 1 (Nat.le_refl _) hJ hT hW q3 q4 q5 hw
    refine z_callV (As := [_, _, _]) eX11_isNamed sX11_isNamed lX11_414 rfl dX11_fieldNamed_90 (hW.1 _ _ hT.1) hX (Nat.le_trans (by decide) hd) rfl (Nat.le_of_ble_eq_true rfl) (fun r cs hp => ?_)
    obtain ⟨r6, S7, rfl, hw, hW⟩ := hp
    refine z_st (st' := [.int (Int32.ofInt (r6))]) rfl ?_
    obtain ⟨q9, hw⟩ := hw
    refine i_if_eq (tgt := 101) dX11_fieldNamed_93 (by decide) q9 (fun h8 => ?_) (fun h8 => ?_)
    · have hw := hw.1 h8
      refine z_loc (L' := [(0, .ref (G.1 + 54)), (1, .int (Int32.ofInt (l1))), (2, .int (Int32.ofInt (l2))), (3, .int (Int32.ofInt (l3))), (4, .int (Int32.ofInt (l4))), (5, .int (Int32.ofInt (l5))), (6, .int (Int32.ofInt (l6)))]) (List.forall_mem_cons.mpr ⟨rfl, (List.forall_mem_cons.mpr ⟨rfl, (List.forall_mem_cons.mpr ⟨rfl, (List.forall_mem_cons.mpr ⟨rfl, (List.forall_mem_cons.mpr ⟨rfl, (List.forall_mem_cons.mpr ⟨rfl, (List.forall_mem_cons.mpr ⟨rfl, (fun _ h => nomatch h)⟩)⟩)⟩)⟩)⟩)⟩)⟩) ?_
      exact bX11_fieldNamed_101 hd hJ hT hW hP hB7 hw
    · have hw := hw.2 h8
      refine z_iload dX11_fieldNamed_96 rfl ?_
      refine z_goto (tgt := 103) dX11_fieldNamed_98 (by decide) ?_
      refine z_loc (L' := [(0, .ref (G.1 + 54)), (1, .int (Int32.ofInt (l1))), (2, .int (Int32.ofInt (l2))), (3, .int (Int32.ofInt (l3))), (4, .int (Int32.ofInt (l4))), (6, .int (Int32.ofInt (l6)))]) (List.forall_mem_cons.mpr ⟨rfl, (List.forall_mem_cons.mpr ⟨rfl, (List.forall_mem_cons.mpr ⟨rfl, (List.forall_mem_cons.mpr ⟨rfl, (List.forall_mem_cons.mpr ⟨rfl, (List.forall_mem_cons.mpr ⟨rfl, (fun _ h => nomatch h)⟩)⟩)⟩)⟩)⟩)⟩) ?_
      exact bX11_fieldNamed_103 hd hJ hT hW hP hB7 hw
def wX11_fieldNamed_56 (l1 l2 l3 l4 l5 l6 l7 : Int) (S : St) (K : Int → St → Prop) (B7 : Int → Int → Int → Int → Int → Int → St → Prop) : Prop := wX11_fieldNamed_75 (l1) (l2) (l3) (l4) (l5) (l6) (l7) (0) S K B7
set_option maxRecDepth 100000 in
set_option maxHeartbeats 4000000 in
theorem bX11_fieldNamed_56 {G : xG} {sh : Nat → Option Sh} {J : St → List va_E → Prop} {d : Nat} {Post : xP} {l1 l2 l3 l4 l5 l6 l7 : Int} {S : St} {cs : List va_E} {K : Int → St → Prop} {B7 : Int → Int → Int → Int → Int → Int → St → Prop} (hd : 2 ≤ d) (hJ : Stb sh J) (hT : isM sh) (hW : Wd G sh mT J S cs) (hP : ∀ (v : Int) (S : St) (cs : List va_E), K v S → Wd G sh mT J S cs → Post (some (.int (Int32.ofInt v))) cs) (hB7 : ∀ (l1 : Int) (l2 : Int) (l3 : Int) (l4 : Int) (l5 : Int) (l6 : Int) (S : St) (cs : List va_E), B7 l1 l2 l3 l4 l5 l6 S → Wd G sh mT J S cs → Z (RX11, cX11_fieldNamed, 9, some .int, false) G d Post 7 [(0, .ref (G.1 + 54)), (1, .int (Int32.ofInt (l1))), (2, .int (Int32.ofInt (l2))), (3, .int (Int32.ofInt (l3))), (4, .int (Int32.ofInt (l4))), (5, .int (Int32.ofInt (l5))), (6, .int (Int32.ofInt (l6)))] [] cs) (hw : wX11_fieldNamed_56 l1 l2 l3 l4 l5 l6 l7 S K B7) : Z (RX11, cX11_fieldNamed, 9, some .int, false) G d Post 56 [(0, .ref (G.1 + 54)), (1, .int (Int32.ofInt (l1))), (2, .int (Int32.ofInt (l2))), (3, .int (Int32.ofInt (l3))), (4, .int (Int32.ofInt (l4))), (5, .int (Int32.ofInt (l5))), (6, .int (Int32.ofInt (l6))), (7, .int (Int32.ofInt (l7)))] [] cs := by
  unfold wX11_fieldNamed_56 at hw
  refine z_iconst (v := Int32.ofInt 0) dX11_fieldNamed_56 rfl ?_
  refine z_goto (tgt := 75) dX11_fieldNamed_57 (by decide) ?_
  refine z_loc (L' := [(0, .ref (G.1 + 54)), (1, .int (Int32.ofInt (l1))), (2, .int (Int32.ofInt (l2))), (3, .int (Int32.ofInt (l3))), (4, .int (Int32.ofInt (l4))), (5, .int (Int32.ofInt (l5))), (6, .int (Int32.ofInt (l6))), (7, .int (Int32.ofInt (l7)))]) (List.forall_mem_cons.mpr ⟨rfl, (List.forall_mem_cons.mpr ⟨rfl, (List.forall_mem_cons.mpr ⟨rfl, (List.forall_mem_cons.mpr ⟨rfl, (List.forall_mem_cons.mpr ⟨rfl, (List.forall_mem_cons.mpr ⟨rfl, (List.forall_mem_cons.mpr ⟨rfl, (List.forall_mem_cons.mpr ⟨rfl, (fun _ h => nomatch h)⟩)⟩)⟩)⟩)⟩)⟩)⟩)⟩) ?_
  exact bX11_fieldNamed_75 hd hJ hT hW hP hB7 hw
def wX11_fieldNamed_7' (l1 l2 l3 l4 l5 l6 : Int) (S : St) (K : Int → St → Prop) (B7 : Int → Int → Int → Int → Int → Int → St → Prop) : Prop := ((0 : Int) ≤ l1 ∧ l1 < (6 : Int) ∧ (iv 0 4 (S.2 56 (l1)) → (rng (l6) ∧ ((S.2 56 (l1) ≤ l6 → K (l5) S) ∧ ((¬ (S.2 56 (l1) ≤ l6)) → (∀ x5 : Int, x5 = ((4 * l1) + l6) → (rng (l4) ∧ ((l4 = 0 → ((0 : Int) ≤ x5 ∧ x5 < (24 : Int) ∧ (iv 0 1 (S.2 60 (x5)) → ((¬ S.2 60 (x5) = 0 → wX11_fieldNamed_75 (l1) (l2) (l3) (l4) (l5) (l6) (x5) (0) S K B7) ∧ ((¬ (¬ S.2 60 (x5) = 0)) → wX11_fieldNamed_75 (l1) (l2) (l3) (l4) (l5) (l6) (x5) (1) S K B7))))) ∧ ((¬ (l4 = 0)) → ((0 : Int) ≤ x5 ∧ x5 < (24 : Int) ∧ (iv 0 3 (S.2 59 (x5)) → ((1 < S.2 59 (x5) → wX11_fieldNamed_56 (l1) (l2) (l3) (l4) (l5) (l6) (x5) S K B7) ∧ ((¬ (1 < S.2 59 (x5))) → ((0 : Int) ≤ x5 ∧ x5 < (24 : Int) ∧ (iv 0 1 (S.2 60 (x5)) → ((S.2 60 (x5) = 0 → wX11_fieldNamed_56 (l1) (l2) (l3) (l4) (l5) (l6) (x5) S K B7) ∧ ((¬ (S.2 60 (x5) = 0)) → wX11_fieldNamed_75 (l1) (l2) (l3) (l4) (l5) (l6) (x5) (1) S K B7)))))))))))))))))
set_option maxRecDepth 100000 in
set_option maxHeartbeats 4000000 in
theorem bX11_fieldNamed_7' {G : xG} {sh : Nat → Option Sh} {J : St → List va_E → Prop} {d : Nat} {Post : xP} {l1 l2 l3 l4 l5 l6 : Int} {S : St} {cs : List va_E} {K : Int → St → Prop} {B7 : Int → Int → Int → Int → Int → Int → St → Prop} (hd : 2 ≤ d) (hJ : Stb sh J) (hT : isM sh) (hW : Wd G sh mT J S cs) (hP : ∀ (v : Int) (S : St) (cs : List va_E), K v S → Wd G sh mT J S cs → Post (some (.int (Int32.ofInt v))) cs) (hB7 : ∀ (l1 : Int) (l2 : Int) (l3 : Int) (l4 : Int) (l5 : Int) (l6 : Int) (S : St) (cs : List va_E), B7 l1 l2 l3 l4 l5 l6 S → Wd G sh mT J S cs → Z (RX11, cX11_fieldNamed, 9, some .int, false) G d Post 7 [(0, .ref (G.1 + 54)), (1, .int (Int32.ofInt (l1))), (2, .int (Int32.ofInt (l2))), (3, .int (Int32.ofInt (l3))), (4, .int (Int32.ofInt (l4))), (5, .int (Int32.ofInt (l5))), (6, .int (Int32.ofInt (l6)))] [] cs) (hw : wX11_fieldNamed_7' l1 l2 l3 l4 l5 l6 S K B7) : Z (RX11, cX11_fieldNamed, 9, some .int, false) G d Post 7 [(0, .ref (G.1 + 54)), (1, .int (Int32.ofInt (l1))), (2, .int (Int32.ofInt (l2))), (3, .int (Int32.ofInt (l3))), (4, .int (Int32.ofInt (l4))), (5, .int (Int32.ofInt (l5))), (6, .int (Int32.ofInt (l6)))] [] cs := by
  unfold wX11_fieldNamed_7' at hw
  refine z_iload dX11_fieldNamed_7 rfl ?_
  refine z_aload_n dX11_fieldNamed_9 rfl rfl ?_
  refine g_getR hW hT.1 mr3 kX11 fX11_13 dX11_fieldNamed_10 ?_
  refine z_iload_n dX11_fieldNamed_13 rfl rfl ?_
  obtain ⟨q1a, q1b, hw⟩ := hw
  have q2 : iv 0 4 (S.2 56 (l1)) := mA56 hW _
  have hw := hw q2
  refine g_iald hW (ma56 hT) q1a q1b (by decide) dX11_fieldNamed_14 ?_
  obtain ⟨q4, hw⟩ := hw
  refine i_icmp_ge (tgt := 111) dX11_fieldNamed_15 (by decide) q4 (rngq q2 (by decide) (by decide)) (fun h3 => ?_) (fun h3 => ?_)
  · have hw := hw.1 h3
    refine z_iload dX11_fieldNamed_111 rfl ?_
    exact z_ireturn dX11_fieldNamed_113 rfl rfl (hP _ _ _ hw hW)
  · have hw := hw.2 h3
    refine z_iconst (v := Int32.ofInt 4) dX11_fieldNamed_18 rfl ?_
    refine z_iload_n dX11_fieldNamed_19 rfl rfl ?_
    refine i_imul dX11_fieldNamed_20 ?_
    refine z_iload dX11_fieldNamed_21 rfl ?_
    refine i_iadd dX11_fieldNamed_23 ?_
    obtain ⟨x5, hx5⟩ : ∃ x : Int, x = ((4 * l1) + l6) := ⟨_, rfl⟩
    have hw := hw x5 hx5
    refine z_st (st' := [.int (Int32.ofInt x5)]) (by rw [hx5]) ?_
    refine z_istore dX11_fieldNamed_24 (by decide) ?_
    refine z_loc (L' := [(0, .ref (G.1 + 54)), (1, .int (Int32.ofInt (l1))), (2, .int (Int32.ofInt (l2))), (3, .int (Int32.ofInt (l3))), (4, .int (Int32.ofInt (l4))), (5, .int (Int32.ofInt (l5))), (6, .int (Int32.ofInt (l6))), (7, .int (Int32.ofInt (x5)))]) (List.forall_mem_cons.mpr ⟨rfl, (List.forall_mem_cons.mpr ⟨rfl, (List.forall_mem_cons.mpr ⟨rfl, (List.forall_mem_cons.mpr ⟨rfl, (List.forall_mem_cons.mpr ⟨rfl, (List.forall_mem_cons.mpr ⟨rfl, (List.forall_mem_cons.mpr ⟨rfl, (List.forall_mem_cons.mpr ⟨rfl, (fun _ h => nomatch h)⟩)⟩)⟩)⟩)⟩)⟩)⟩)⟩) ?_
    refine z_iload dX11_fieldNamed_26 rfl ?_
    obtain ⟨q7, hw⟩ := hw
    refine i_if_eq (tgt := 60) dX11_fieldNamed_28 (by decide) q7 (fun h6 => ?_) (fun h6 => ?_)
    · have hw := hw.1 h6
      refine z_aload_n dX11_fieldNamed_60 rfl rfl ?_
      refine g_getR hW hT.1 mr7 kX11 fX11_25 dX11_fieldNamed_61 ?_
      refine z_iload dX11_fieldNamed_64 rfl ?_
      obtain ⟨q8a, q8b, hw⟩ := hw
      have q9 : iv 0 1 (S.2 60 (x5)) := mA60 hW _
      have hw := hw q9
      refine g_zald hW (ma60 hT) q8a q8b (by decide) dX11_fieldNamed_66 ?_
      refine i_if_ne (tgt := 74) dX11_fieldNamed_67 (by decide) (rngq q9 (by decide) (by decide)) (fun h10 => ?_) (fun h10 => ?_)
      · have hw := hw.1 h10
        refine z_iconst (v := Int32.ofInt 0) dX11_fieldNamed_74 rfl ?_
        refine z_loc (L' := [(0, .ref (G.1 + 54)), (1, .int (Int32.ofInt (l1))), (2, .int (Int32.ofInt (l2))), (3, .int (Int32.ofInt (l3))), (4, .int (Int32.ofInt (l4))), (5, .int (Int32.ofInt (l5))), (6, .int (Int32.ofInt (l6))), (7, .int (Int32.ofInt (x5)))]) (List.forall_mem_cons.mpr ⟨rfl, (List.forall_mem_cons.mpr ⟨rfl, (List.forall_mem_cons.mpr ⟨rfl, (List.forall_mem_cons.mpr ⟨rfl, (List.forall_mem_cons.mpr ⟨rfl, (List.forall_mem_cons.mpr ⟨rfl, (List.forall_mem_cons.mpr ⟨rfl, (List.forall_mem_cons.mpr ⟨rfl, (fun _ h => nomatch h)⟩)⟩)⟩)⟩)⟩)⟩)⟩)⟩) ?_
        exact bX11_fieldNamed_75 hd hJ hT hW hP hB7 hw
      · have hw := hw.2 h10
        refine z_iconst (v := Int32.ofInt 1) dX11_fieldNamed_70 rfl ?_
        refine z_goto (tgt := 75) dX11_fieldNamed_71 (by decide) ?_
        refine z_loc (L' := [(0, .ref (G.1 + 54)), (1, .int (Int32.ofInt (l1))), (2, .int (Int32.ofInt (l2))), (3, .int (Int32.ofInt (l3))), (4, .int (Int32.ofInt (l4))), (5, .int (Int32.ofInt (l5))), (6, .int (Int32.ofInt (l6))), (7, .int (Int32.ofInt (x5)))]) (List.forall_mem_cons.mpr ⟨rfl, (List.forall_mem_cons.mpr ⟨rfl, (List.forall_mem_cons.mpr ⟨rfl, (List.forall_mem_cons.mpr ⟨rfl, (List.forall_mem_cons.mpr ⟨rfl, (List.forall_mem_cons.mpr ⟨rfl, (List.forall_mem_cons.mpr ⟨rfl, (List.forall_mem_cons.mpr ⟨rfl, (fun _ h => nomatch h)⟩)⟩)⟩)⟩)⟩)⟩)⟩)⟩) ?_
        exact bX11_fieldNamed_75 hd hJ hT hW hP hB7 hw
    · have hw := hw.2 h6
      refine z_aload_n dX11_fieldNamed_31 rfl rfl ?_
      refine g_getR hW hT.1 mr6 kX11 fX11_22 dX11_fieldNamed_32 ?_
      refine z_iload dX11_fieldNamed_35 rfl ?_
      obtain ⟨q11a, q11b, hw⟩ := hw
      have q12 : iv 0 3 (S.2 59 (x5)) := mA59 hW _
      have hw := hw q12
      refine g_iald hW (ma59 hT) q11a q11b (by decide) dX11_fieldNamed_37 ?_
      refine z_iconst (v := Int32.ofInt 1) dX11_fieldNamed_38 rfl ?_
      refine i_icmp_gt (tgt := 56) dX11_fieldNamed_39 (by decide) (rngq q12 (by decide) (by decide)) ⟨by decide, by decide⟩ (fun h13 => ?_) (fun h13 => ?_)
      · have hw := hw.1 h13
        refine z_loc (L' := [(0, .ref (G.1 + 54)), (1, .int (Int32.ofInt (l1))), (2, .int (Int32.ofInt (l2))), (3, .int (Int32.ofInt (l3))), (4, .int (Int32.ofInt (l4))), (5, .int (Int32.ofInt (l5))), (6, .int (Int32.ofInt (l6))), (7, .int (Int32.ofInt (x5)))]) (List.forall_mem_cons.mpr ⟨rfl, (List.forall_mem_cons.mpr ⟨rfl, (List.forall_mem_cons.mpr ⟨rfl, (List.forall_mem_cons.mpr ⟨rfl, (List.forall_mem_cons.mpr ⟨rfl, (List.forall_mem_cons.mpr ⟨rfl, (List.forall_mem_cons.mpr ⟨rfl, (List.forall_mem_cons.mpr ⟨rfl, (fun _ h => nomatch h)⟩)⟩)⟩)⟩)⟩)⟩)⟩)⟩) ?_
        exact bX11_fieldNamed_56 hd hJ hT hW hP hB7 hw
      · have hw := hw.2 h13
        refine z_aload_n dX11_fieldNamed_42 rfl rfl ?_
        refine g_getR hW hT.1 mr7 kX11 fX11_25 dX11_fieldNamed_43 ?_
        refine z_iload dX11_fieldNamed_46 rfl ?_
        obtain ⟨q14a, q14b, hw⟩ := hw
        have q15 : iv 0 1 (S.2 60 (x5)) := mA60 hW _
        have hw := hw q15
        refine g_zald hW (ma60 hT) q14a q14b (by decide) dX11_fieldNamed_48 ?_
        refine i_if_eq (tgt := 56) dX11_fieldNamed_49 (by decide) (rngq q15 (by decide) (by decide)) (fun h16 => ?_) (fun h16 => ?_)
        · have hw := hw.1 h16
          refine z_loc (L' := [(0, .ref (G.1 + 54)), (1, .int (Int32.ofInt (l1))), (2, .int (Int32.ofInt (l2))), (3, .int (Int32.ofInt (l3))), (4, .int (Int32.ofInt (l4))), (5, .int (Int32.ofInt (l5))), (6, .int (Int32.ofInt (l6))), (7, .int (Int32.ofInt (x5)))]) (List.forall_mem_cons.mpr ⟨rfl, (List.forall_mem_cons.mpr ⟨rfl, (List.forall_mem_cons.mpr ⟨rfl, (List.forall_mem_cons.mpr ⟨rfl, (List.forall_mem_cons.mpr ⟨rfl, (List.forall_mem_cons.mpr ⟨rfl, (List.forall_mem_cons.mpr ⟨rfl, (List.forall_mem_cons.mpr ⟨rfl, (fun _ h => nomatch h)⟩)⟩)⟩)⟩)⟩)⟩)⟩)⟩) ?_
          exact bX11_fieldNamed_56 hd hJ hT hW hP hB7 hw
        · have hw := hw.2 h16
          refine z_iconst (v := Int32.ofInt 1) dX11_fieldNamed_52 rfl ?_
          refine z_goto (tgt := 75) dX11_fieldNamed_53 (by decide) ?_
          refine z_loc (L' := [(0, .ref (G.1 + 54)), (1, .int (Int32.ofInt (l1))), (2, .int (Int32.ofInt (l2))), (3, .int (Int32.ofInt (l3))), (4, .int (Int32.ofInt (l4))), (5, .int (Int32.ofInt (l5))), (6, .int (Int32.ofInt (l6))), (7, .int (Int32.ofInt (x5)))]) (List.forall_mem_cons.mpr ⟨rfl, (List.forall_mem_cons.mpr ⟨rfl, (List.forall_mem_cons.mpr ⟨rfl, (List.forall_mem_cons.mpr ⟨rfl, (List.forall_mem_cons.mpr ⟨rfl, (List.forall_mem_cons.mpr ⟨rfl, (List.forall_mem_cons.mpr ⟨rfl, (List.forall_mem_cons.mpr ⟨rfl, (fun _ h => nomatch h)⟩)⟩)⟩)⟩)⟩)⟩)⟩)⟩) ?_
          exact bX11_fieldNamed_75 hd hJ hT hW hP hB7 hw
def wX11_fieldNamed_7 (l1 l2 l3 l4 l5 l6 : Int) (S : St) (K : Int → St → Prop) : Prop := ∃ (Iv : Int → Int → Int → Int → Int → Int → St → Prop) (mu : Int → Int → Int → Int → Int → Int → St → Nat), Iv l1 l2 l3 l4 l5 l6 S ∧ ∀ (l1 l2 l3 l4 l5 l6 : Int) (S : St), Iv l1 l2 l3 l4 l5 l6 S → wX11_fieldNamed_7' l1 l2 l3 l4 l5 l6 S K  (fun ml1 ml2 ml3 ml4 ml5 ml6 T => Iv ml1 ml2 ml3 ml4 ml5 ml6 T ∧ mu ml1 ml2 ml3 ml4 ml5 ml6 T < mu l1 l2 l3 l4 l5 l6 S)
set_option maxRecDepth 100000 in
set_option maxHeartbeats 4000000 in
theorem bX11_fieldNamed_7 {G : xG} {sh : Nat → Option Sh} {J : St → List va_E → Prop} {d : Nat} {Post : xP} {l1 l2 l3 l4 l5 l6 : Int} {S : St} {cs : List va_E} {K : Int → St → Prop} (hd : 2 ≤ d) (hJ : Stb sh J) (hT : isM sh) (hW : Wd G sh mT J S cs) (hP : ∀ (v : Int) (S : St) (cs : List va_E), K v S → Wd G sh mT J S cs → Post (some (.int (Int32.ofInt v))) cs)  (hw : wX11_fieldNamed_7 l1 l2 l3 l4 l5 l6 S K ) : Z (RX11, cX11_fieldNamed, 9, some .int, false) G d Post 7 [(0, .ref (G.1 + 54)), (1, .int (Int32.ofInt (l1))), (2, .int (Int32.ofInt (l2))), (3, .int (Int32.ofInt (l3))), (4, .int (Int32.ofInt (l4))), (5, .int (Int32.ofInt (l5))), (6, .int (Int32.ofInt (l6)))] [] cs := by
  unfold wX11_fieldNamed_7 at hw
  obtain ⟨Iv, mu, h0, hs⟩ := hw
  have key : ∀ (n : Nat) (l1 l2 l3 l4 l5 l6 : Int) (S : St) (cs : List va_E), mu l1 l2 l3 l4 l5 l6 S < n → Iv l1 l2 l3 l4 l5 l6 S → Wd G sh mT J S cs → Z (RX11, cX11_fieldNamed, 9, some .int, false) G d Post 7 [(0, .ref (G.1 + 54)), (1, .int (Int32.ofInt (l1))), (2, .int (Int32.ofInt (l2))), (3, .int (Int32.ofInt (l3))), (4, .int (Int32.ofInt (l4))), (5, .int (Int32.ofInt (l5))), (6, .int (Int32.ofInt (l6)))] [] cs := by
    intro n
    induction n with
    | zero => intro l1 l2 l3 l4 l5 l6 S cs hn; exact absurd hn (Nat.not_lt_zero _)
    | succ n ih =>
      intro l1 l2 l3 l4 l5 l6 S cs hn hI hW
      exact bX11_fieldNamed_7' hd hJ hT hW hP  (fun l1 l2 l3 l4 l5 l6 S cs hb hW => ih l1 l2 l3 l4 l5 l6 S cs (Nat.lt_of_lt_of_le hb.2 (Nat.le_of_lt_succ hn)) hb.1 hW) (hs l1 l2 l3 l4 l5 l6 S hI)
  exact key _ _ _ _ _ _ _ _ _ (Nat.lt_succ_self _) h0 hW
def wX11_fieldNamed (a1 a2 a3 a4 : Int) (S : St) (K : Int → St → Prop) : Prop := rng a1 → rng a2 → rng a3 → rng a4 → wX11_fieldNamed_7 (a1) (a2) (a3) (a4) ((-2)) (0) S K
set_option maxRecDepth 100000 in
set_option maxHeartbeats 4000000 in
theorem lX11_fieldNamed {G : xG} {sh : Nat → Option Sh} {J : St → List va_E → Prop} {a1 a2 a3 a4 : Int} {S : St} {cs : List va_E} {K : Int → St → Prop} (d : Nat) (hd : 2 ≤ d) (hJ : Stb sh J) (hT : isM sh) (hW : Wd G sh mT J S cs) (g1 : rng a1) (g2 : rng a2) (g3 : rng a3) (g4 : rng a4) (hw : wX11_fieldNamed a1 a2 a3 a4 S K) : X G yX11_fieldNamed cX11_fieldNamed 9 (some .int) d [.ref (G.1 + 54), .int (Int32.ofInt a1), .int (Int32.ofInt a2), .int (Int32.ofInt a3), .int (Int32.ofInt a4)] cs (qI G sh mT J K) := by
  refine X.of false (by decide +kernel) (by decide) (Nat.le_of_ble_eq_true rfl) ?_
  show Z (RX11, cX11_fieldNamed, 9, some .int, false) G d _ 0 [(0, .ref (G.1 + 54)), (1, .int (Int32.ofInt a1)), (2, .int (Int32.ofInt a2)), (3, .int (Int32.ofInt a3)), (4, .int (Int32.ofInt a4))] [] cs
  have hP : ∀ (v : Int) (S : St) (cs : List va_E), K v S → Wd G sh mT J S cs → qI G sh mT J K (some (.int (Int32.ofInt v))) cs := fun v S cs a b => ⟨v, S, rfl, a, b⟩
  unfold wX11_fieldNamed at hw
  have hw := hw g1 g2 g3 g4
  refine z_bipush (v := Int32.ofInt (-2)) dX11_fieldNamed_0 (by decide) ?_
  refine z_istore dX11_fieldNamed_2 (by decide) ?_
  refine z_loc (L' := [(0, .ref (G.1 + 54)), (1, .int (Int32.ofInt (a1))), (2, .int (Int32.ofInt (a2))), (3, .int (Int32.ofInt (a3))), (4, .int (Int32.ofInt (a4))), (5, .int (Int32.ofInt ((-2))))]) (List.forall_mem_cons.mpr ⟨rfl, (List.forall_mem_cons.mpr ⟨rfl, (List.forall_mem_cons.mpr ⟨rfl, (List.forall_mem_cons.mpr ⟨rfl, (List.forall_mem_cons.mpr ⟨rfl, (List.forall_mem_cons.mpr ⟨rfl, (fun _ h => nomatch h)⟩)⟩)⟩)⟩)⟩)⟩) ?_
  refine z_iconst (v := Int32.ofInt 0) dX11_fieldNamed_4 rfl ?_
  refine z_istore dX11_fieldNamed_5 (by decide) ?_
  refine z_loc (L' := [(0, .ref (G.1 + 54)), (1, .int (Int32.ofInt (a1))), (2, .int (Int32.ofInt (a2))), (3, .int (Int32.ofInt (a3))), (4, .int (Int32.ofInt (a4))), (5, .int (Int32.ofInt ((-2)))), (6, .int (Int32.ofInt (0)))]) (List.forall_mem_cons.mpr ⟨rfl, (List.forall_mem_cons.mpr ⟨rfl, (List.forall_mem_cons.mpr ⟨rfl, (List.forall_mem_cons.mpr ⟨rfl, (List.forall_mem_cons.mpr ⟨rfl, (List.forall_mem_cons.mpr ⟨rfl, (List.forall_mem_cons.mpr ⟨rfl, (fun _ h => nomatch h)⟩)⟩)⟩)⟩)⟩)⟩)⟩) ?_
  refine z_loc (L' := [(0, .ref (G.1 + 54)), (1, .int (Int32.ofInt (a1))), (2, .int (Int32.ofInt (a2))), (3, .int (Int32.ofInt (a3))), (4, .int (Int32.ofInt (a4))), (5, .int (Int32.ofInt ((-2)))), (6, .int (Int32.ofInt (0)))]) (List.forall_mem_cons.mpr ⟨rfl, (List.forall_mem_cons.mpr ⟨rfl, (List.forall_mem_cons.mpr ⟨rfl, (List.forall_mem_cons.mpr ⟨rfl, (List.forall_mem_cons.mpr ⟨rfl, (List.forall_mem_cons.mpr ⟨rfl, (List.forall_mem_cons.mpr ⟨rfl, (fun _ h => nomatch h)⟩)⟩)⟩)⟩)⟩)⟩)⟩) ?_
  exact bX11_fieldNamed_7 hd hJ hT hW hP  hw

