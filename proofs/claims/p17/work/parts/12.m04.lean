def wX11_sameNames_53 (l1 l2 l3 l6 s0 : Int) (S : St) (K : Int → St → Prop) (B16 : Int → Int → Int → Int → Int → St → Prop) : Prop := B16 (l1) (l2) (l3) (s0) ((l6 + 1)) S
set_option maxRecDepth 100000 in
set_option maxHeartbeats 4000000 in
theorem bX11_sameNames_53 {G : xG} {sh : Nat → Option Sh} {J : St → List va_E → Prop} {d : Nat} {Post : xP} {l1 l2 l3 l6 s0 : Int} {S : St} {cs : List va_E} {K : Int → St → Prop} {B16 : Int → Int → Int → Int → Int → St → Prop} (hd : 0 ≤ d) (hJ : Stb sh J) (hT : isM sh) (hW : Wd G sh mT J S cs) (hP : ∀ (v : Int) (S : St) (cs : List va_E), K v S → Wd G sh mT J S cs → Post (some (.int (Int32.ofInt v))) cs) (hB16 : ∀ (l1 : Int) (l2 : Int) (l3 : Int) (l5 : Int) (l6 : Int) (S : St) (cs : List va_E), B16 l1 l2 l3 l5 l6 S → Wd G sh mT J S cs → Z (RX11, cX11_sameNames, 7, some .boolean, false) G d Post 16 [(0, .ref (G.1 + 54)), (1, .int (Int32.ofInt (l1))), (2, .int (Int32.ofInt (l2))), (3, .int (Int32.ofInt (l3))), (5, .int (Int32.ofInt (l5))), (6, .int (Int32.ofInt (l6)))] [] cs) (hw : wX11_sameNames_53 l1 l2 l3 l6 s0 S K B16) : Z (RX11, cX11_sameNames, 7, some .boolean, false) G d Post 53 [(0, .ref (G.1 + 54)), (1, .int (Int32.ofInt (l1))), (2, .int (Int32.ofInt (l2))), (3, .int (Int32.ofInt (l3))), (6, .int (Int32.ofInt (l6)))] [.int (Int32.ofInt (s0))] cs := by
  unfold wX11_sameNames_53 at hw
  refine z_istore dX11_sameNames_53 (by decide) ?_
  refine z_loc (L' := [(0, .ref (G.1 + 54)), (1, .int (Int32.ofInt (l1))), (2, .int (Int32.ofInt (l2))), (3, .int (Int32.ofInt (l3))), (5, .int (Int32.ofInt (s0))), (6, .int (Int32.ofInt (l6)))]) (List.forall_mem_cons.mpr ⟨rfl, (List.forall_mem_cons.mpr ⟨rfl, (List.forall_mem_cons.mpr ⟨rfl, (List.forall_mem_cons.mpr ⟨rfl, (List.forall_mem_cons.mpr ⟨rfl, (List.forall_mem_cons.mpr ⟨rfl, (fun _ h => nomatch h)⟩)⟩)⟩)⟩)⟩)⟩) ?_
  refine i_iinc (l := l6) dX11_sameNames_55 rfl (by decide) ?_
  refine z_loc (L' := [(0, .ref (G.1 + 54)), (1, .int (Int32.ofInt (l1))), (2, .int (Int32.ofInt (l2))), (3, .int (Int32.ofInt (l3))), (5, .int (Int32.ofInt (s0))), (6, .int (Int32.ofInt ((l6 + 1))))]) (List.forall_mem_cons.mpr ⟨rfl, (List.forall_mem_cons.mpr ⟨rfl, (List.forall_mem_cons.mpr ⟨rfl, (List.forall_mem_cons.mpr ⟨rfl, (List.forall_mem_cons.mpr ⟨rfl, (List.forall_mem_cons.mpr ⟨rfl, (fun _ h => nomatch h)⟩)⟩)⟩)⟩)⟩)⟩) ?_
  refine z_goto (tgt := 16) dX11_sameNames_58 (by decide) ?_
  refine z_loc (L' := [(0, .ref (G.1 + 54)), (1, .int (Int32.ofInt (l1))), (2, .int (Int32.ofInt (l2))), (3, .int (Int32.ofInt (l3))), (5, .int (Int32.ofInt (s0))), (6, .int (Int32.ofInt ((l6 + 1))))]) (List.forall_mem_cons.mpr ⟨rfl, (List.forall_mem_cons.mpr ⟨rfl, (List.forall_mem_cons.mpr ⟨rfl, (List.forall_mem_cons.mpr ⟨rfl, (List.forall_mem_cons.mpr ⟨rfl, (List.forall_mem_cons.mpr ⟨rfl, (fun _ h => nomatch h)⟩)⟩)⟩)⟩)⟩)⟩) ?_
  exact hB16 _ _ _ _ _ _ _ hw hW
def wX11_sameNames_16' (l1 l2 l3 l5 l6 : Int) (S : St) (K : Int → St → Prop) (B16 : Int → Int → Int → Int → Int → St → Prop) : Prop := (rng (l6) ∧ (rng (l2) ∧ ((l2 ≤ l6 → (iv 0 1 (l5) ∧ K (l5) S)) ∧ ((¬ (l2 ≤ l6)) → (rng (l5) ∧ ((l5 = 0 → (iv 0 1 (l5) ∧ K (l5) S)) ∧ ((¬ (l5 = 0)) → ((0 : Int) ≤ (l1 + l6) ∧ (l1 + l6) < (3000 : Int) ∧ (iv (-2147483648) 2147483647 (S.2 84 ((l1 + l6))) → ((0 : Int) ≤ (l3 + l6) ∧ (l3 + l6) < (3000 : Int) ∧ (iv (-2147483648) 2147483647 (S.2 84 ((l3 + l6))) → ((¬ S.2 84 ((l1 + l6)) = S.2 84 ((l3 + l6)) → wX11_sameNames_53 (l1) (l2) (l3) (l6) (0) S K B16) ∧ ((¬ (¬ S.2 84 ((l1 + l6)) = S.2 84 ((l3 + l6)))) → wX11_sameNames_53 (l1) (l2) (l3) (l6) (1) S K B16)))))))))))))
set_option maxRecDepth 100000 in
set_option maxHeartbeats 4000000 in
theorem bX11_sameNames_16' {G : xG} {sh : Nat → Option Sh} {J : St → List va_E → Prop} {d : Nat} {Post : xP} {l1 l2 l3 l5 l6 : Int} {S : St} {cs : List va_E} {K : Int → St → Prop} {B16 : Int → Int → Int → Int → Int → St → Prop} (hd : 0 ≤ d) (hJ : Stb sh J) (hT : isM sh) (hW : Wd G sh mT J S cs) (hP : ∀ (v : Int) (S : St) (cs : List va_E), K v S → Wd G sh mT J S cs → Post (some (.int (Int32.ofInt v))) cs) (hB16 : ∀ (l1 : Int) (l2 : Int) (l3 : Int) (l5 : Int) (l6 : Int) (S : St) (cs : List va_E), B16 l1 l2 l3 l5 l6 S → Wd G sh mT J S cs → Z (RX11, cX11_sameNames, 7, some .boolean, false) G d Post 16 [(0, .ref (G.1 + 54)), (1, .int (Int32.ofInt (l1))), (2, .int (Int32.ofInt (l2))), (3, .int (Int32.ofInt (l3))), (5, .int (Int32.ofInt (l5))), (6, .int (Int32.ofInt (l6)))] [] cs) (hw : wX11_sameNames_16' l1 l2 l3 l5 l6 S K B16) : Z (RX11, cX11_sameNames, 7, some .boolean, false) G d Post 16 [(0, .ref (G.1 + 54)), (1, .int (Int32.ofInt (l1))), (2, .int (Int32.ofInt (l2))), (3, .int (Int32.ofInt (l3))), (5, .int (Int32.ofInt (l5))), (6, .int (Int32.ofInt (l6)))] [] cs := by
  unfold wX11_sameNames_16' at hw
  refine z_iload dX11_sameNames_16 rfl ?_
  refine z_iload_n dX11_sameNames_18 rfl rfl ?_
  obtain ⟨q2, hw⟩ := hw
  obtain ⟨q3, hw⟩ := hw
  refine i_icmp_ge (tgt := 61) dX11_sameNames_19 (by decide) q2 q3 (fun h1 => ?_) (fun h1 => ?_)
  · have hw := hw.1 h1
    refine z_iload dX11_sameNames_61 rfl ?_
    obtain ⟨q4, hw⟩ := hw
    exact z_ireturn dX11_sameNames_63 rfl (nar01 (b01 q4)) (hP _ _ _ hw hW)
  · have hw := hw.2 h1
    refine z_iload dX11_sameNames_22 rfl ?_
    obtain ⟨q6, hw⟩ := hw
    refine i_if_eq (tgt := 61) dX11_sameNames_24 (by decide) q6 (fun h5 => ?_) (fun h5 => ?_)
    · have hw := hw.1 h5
      refine z_iload dX11_sameNames_61 rfl ?_
      obtain ⟨q7, hw⟩ := hw
      exact z_ireturn dX11_sameNames_63 rfl (nar01 (b01 q7)) (hP _ _ _ hw hW)
    · have hw := hw.2 h5
      refine z_aload_n dX11_sameNames_27 rfl rfl ?_
      refine g_getR hW hT.1 mr42 kX11 fX11_102 dX11_sameNames_28 ?_
      refine z_iload_n dX11_sameNames_31 rfl rfl ?_
      refine z_iload dX11_sameNames_32 rfl ?_
      refine i_iadd dX11_sameNames_34 ?_
      obtain ⟨q8a, q8b, hw⟩ := hw
      have q9 : iv (-2147483648) 2147483647 (S.2 84 ((l1 + l6))) := mA84 hW _
      have hw := hw q9
      refine g_iald hW (ma84 hT) q8a q8b (by decide) dX11_sameNames_35 ?_
      refine z_aload_n dX11_sameNames_36 rfl rfl ?_
      refine g_getR hW hT.1 mr42 kX11 fX11_102 dX11_sameNames_37 ?_
      refine z_iload_n dX11_sameNames_40 rfl rfl ?_
      refine z_iload dX11_sameNames_41 rfl ?_
      refine i_iadd dX11_sameNames_43 ?_
      obtain ⟨q10a, q10b, hw⟩ := hw
      have q11 : iv (-2147483648) 2147483647 (S.2 84 ((l3 + l6))) := mA84 hW _
      have hw := hw q11
      refine g_iald hW (ma84 hT) q10a q10b (by decide) dX11_sameNames_44 ?_
      refine i_icmp_ne (tgt := 52) dX11_sameNames_45 (by decide) (rngq q9 (by decide) (by decide)) (rngq q11 (by decide) (by decide)) (fun h12 => ?_) (fun h12 => ?_)
      · have hw := hw.1 h12
        refine z_iconst (v := Int32.ofInt 0) dX11_sameNames_52 rfl ?_
        refine z_loc (L' := [(0, .ref (G.1 + 54)), (1, .int (Int32.ofInt (l1))), (2, .int (Int32.ofInt (l2))), (3, .int (Int32.ofInt (l3))), (6, .int (Int32.ofInt (l6)))]) (List.forall_mem_cons.mpr ⟨rfl, (List.forall_mem_cons.mpr ⟨rfl, (List.forall_mem_cons.mpr ⟨rfl, (List.forall_mem_cons.mpr ⟨rfl, (List.forall_mem_cons.mpr ⟨rfl, (fun _ h => nomatch h)⟩)⟩)⟩)⟩)⟩) ?_
        exact bX11_sameNames_53 hd hJ hT hW hP hB16 hw
      · have hw := hw.2 h12
        refine z_iconst (v := Int32.ofInt 1) dX11_sameNames_48 rfl ?_
        refine z_goto (tgt := 53) dX11_sameNames_49 (by decide) ?_
        refine z_loc (L' := [(0, .ref (G.1 + 54)), (1, .int (Int32.ofInt (l1))), (2, .int (Int32.ofInt (l2))), (3, .int (Int32.ofInt (l3))), (6, .int (Int32.ofInt (l6)))]) (List.forall_mem_cons.mpr ⟨rfl, (List.forall_mem_cons.mpr ⟨rfl, (List.forall_mem_cons.mpr ⟨rfl, (List.forall_mem_cons.mpr ⟨rfl, (List.forall_mem_cons.mpr ⟨rfl, (fun _ h => nomatch h)⟩)⟩)⟩)⟩)⟩) ?_
        exact bX11_sameNames_53 hd hJ hT hW hP hB16 hw
def wX11_sameNames_16 (l1 l2 l3 l5 l6 : Int) (S : St) (K : Int → St → Prop) : Prop := ∃ (Iv : Int → Int → Int → Int → Int → St → Prop) (mu : Int → Int → Int → Int → Int → St → Nat), Iv l1 l2 l3 l5 l6 S ∧ ∀ (l1 l2 l3 l5 l6 : Int) (S : St), Iv l1 l2 l3 l5 l6 S → wX11_sameNames_16' l1 l2 l3 l5 l6 S K  (fun ml1 ml2 ml3 ml5 ml6 T => Iv ml1 ml2 ml3 ml5 ml6 T ∧ mu ml1 ml2 ml3 ml5 ml6 T < mu l1 l2 l3 l5 l6 S)
set_option maxRecDepth 100000 in
set_option maxHeartbeats 4000000 in
theorem bX11_sameNames_16 {G : xG} {sh : Nat → Option Sh} {J : St → List va_E → Prop} {d : Nat} {Post : xP} {l1 l2 l3 l5 l6 : Int} {S : St} {cs : List va_E} {K : Int → St → Prop} (hd : 0 ≤ d) (hJ : Stb sh J) (hT : isM sh) (hW : Wd G sh mT J S cs) (hP : ∀ (v : Int) (S : St) (cs : List va_E), K v S → Wd G sh mT J S cs → Post (some (.int (Int32.ofInt v))) cs)  (hw : wX11_sameNames_16 l1 l2 l3 l5 l6 S K ) : Z (RX11, cX11_sameNames, 7, some .boolean, false) G d Post 16 [(0, .ref (G.1 + 54)), (1, .int (Int32.ofInt (l1))), (2, .int (Int32.ofInt (l2))), (3, .int (Int32.ofInt (l3))), (5, .int (Int32.ofInt (l5))), (6, .int (Int32.ofInt (l6)))] [] cs := by
  unfold wX11_sameNames_16 at hw
  obtain ⟨Iv, mu, h0, hs⟩ := hw
  have key : ∀ (n : Nat) (l1 l2 l3 l5 l6 : Int) (S : St) (cs : List va_E), mu l1 l2 l3 l5 l6 S < n → Iv l1 l2 l3 l5 l6 S → Wd G sh mT J S cs → Z (RX11, cX11_sameNames, 7, some .boolean, false) G d Post 16 [(0, .ref (G.1 + 54)), (1, .int (Int32.ofInt (l1))), (2, .int (Int32.ofInt (l2))), (3, .int (Int32.ofInt (l3))), (5, .int (Int32.ofInt (l5))), (6, .int (Int32.ofInt (l6)))] [] cs := by
    intro n
    induction n with
    | zero => intro l1 l2 l3 l5 l6 S cs hn; exact absurd hn (Nat.not_lt_zero _)
    | succ n ih =>
      intro l1 l2 l3 l5 l6 S cs hn hI hW
      exact bX11_sameNames_16' hd hJ hT hW hP  (fun l1 l2 l3 l5 l6 S cs hb hW => ih l1 l2 l3 l5 l6 S cs (Nat.lt_of_lt_of_le hb.2 (Nat.le_of_lt_succ hn)) hb.1 hW) (hs l1 l2 l3 l5 l6 S hI)
  exact key _ _ _ _ _ _ _ _ (Nat.lt_succ_self _) h0 hW
def wX11_sameNames_11 (l1 l2 l3 s0 : Int) (S : St) (K : Int → St → Prop) : Prop := wX11_sameNames_16 (l1) (l2) (l3) (s0) (0) S K
set_option maxRecDepth 100000 in
set_option maxHeartbeats 4000000 in
theorem bX11_sameNames_11 {G : xG} {sh : Nat → Option Sh} {J : St → List va_E → Prop} {d : Nat} {Post : xP} {l1 l2 l3 s0 : Int} {S : St} {cs : List va_E} {K : Int → St → Prop} (hd : 0 ≤ d) (hJ : Stb sh J) (hT : isM sh) (hW : Wd G sh mT J S cs) (hP : ∀ (v : Int) (S : St) (cs : List va_E), K v S → Wd G sh mT J S cs → Post (some (.int (Int32.ofInt v))) cs)  (hw : wX11_sameNames_11 l1 l2 l3 s0 S K ) : Z (RX11, cX11_sameNames, 7, some .boolean, false) G d Post 11 [(0, .ref (G.1 + 54)), (1, .int (Int32.ofInt (l1))), (2, .int (Int32.ofInt (l2))), (3, .int (Int32.ofInt (l3)))] [.int (Int32.ofInt (s0))] cs := by
  unfold wX11_sameNames_11 at hw
  refine z_istore dX11_sameNames_11 (by decide) ?_
  refine z_loc (L' := [(0, .ref (G.1 + 54)), (1, .int (Int32.ofInt (l1))), (2, .int (Int32.ofInt (l2))), (3, .int (Int32.ofInt (l3))), (5, .int (Int32.ofInt (s0)))]) (List.forall_mem_cons.mpr ⟨rfl, (List.forall_mem_cons.mpr ⟨rfl, (List.forall_mem_cons.mpr ⟨rfl, (List.forall_mem_cons.mpr ⟨rfl, (List.forall_mem_cons.mpr ⟨rfl, (fun _ h => nomatch h)⟩)⟩)⟩)⟩)⟩) ?_
  refine z_iconst (v := Int32.ofInt 0) dX11_sameNames_13 rfl ?_
  refine z_istore dX11_sameNames_14 (by decide) ?_
  refine z_loc (L' := [(0, .ref (G.1 + 54)), (1, .int (Int32.ofInt (l1))), (2, .int (Int32.ofInt (l2))), (3, .int (Int32.ofInt (l3))), (5, .int (Int32.ofInt (s0))), (6, .int (Int32.ofInt (0)))]) (List.forall_mem_cons.mpr ⟨rfl, (List.forall_mem_cons.mpr ⟨rfl, (List.forall_mem_cons.mpr ⟨rfl, (List.forall_mem_cons.mpr ⟨rfl, (List.forall_mem_cons.mpr ⟨rfl, (List.forall_mem_cons.mpr ⟨rfl, (fun _ h => nomatch h)⟩)⟩)⟩)⟩)⟩)⟩) ?_
  refine z_loc (L' := [(0, .ref (G.1 + 54)), (1, .int (Int32.ofInt (l1))), (2, .int (Int32.ofInt (l2))), (3, .int (Int32.ofInt (l3))), (5, .int (Int32.ofInt (s0))), (6, .int (Int32.ofInt (0)))]) (List.forall_mem_cons.mpr ⟨rfl, (List.forall_mem_cons.mpr ⟨rfl, (List.forall_mem_cons.mpr ⟨rfl, (List.forall_mem_cons.mpr ⟨rfl, (List.forall_mem_cons.mpr ⟨rfl, (List.forall_mem_cons.mpr ⟨rfl, (fun _ h => nomatch h)⟩)⟩)⟩)⟩)⟩)⟩) ?_
  exact bX11_sameNames_16 hd hJ hT hW hP  hw
def wX11_sameNames (a1 a2 a3 a4 : Int) (S : St) (K : Int → St → Prop) : Prop := rng a1 → rng a2 → rng a3 → rng a4 → ((¬ a2 = a4 → wX11_sameNames_11 (a1) (a2) (a3) (0) S K) ∧ ((¬ (¬ a2 = a4)) → wX11_sameNames_11 (a1) (a2) (a3) (1) S K))
set_option maxRecDepth 100000 in
set_option maxHeartbeats 4000000 in
theorem lX11_sameNames {G : xG} {sh : Nat → Option Sh} {J : St → List va_E → Prop} {a1 a2 a3 a4 : Int} {S : St} {cs : List va_E} {K : Int → St → Prop} (d : Nat) (hd : 0 ≤ d) (hJ : Stb sh J) (hT : isM sh) (hW : Wd G sh mT J S cs) (g1 : rng a1) (g2 : rng a2) (g3 : rng a3) (g4 : rng a4) (hw : wX11_sameNames a1 a2 a3 a4 S K) : X G yX11_sameNames cX11_sameNames 7 (some .boolean) d [.ref (G.1 + 54), .int (Int32.ofInt a1), .int (Int32.ofInt a2), .int (Int32.ofInt a3), .int (Int32.ofInt a4)] cs (qI G sh mT J K) := by
  refine X.of false (by decide +kernel) (by decide) (Nat.le_of_ble_eq_true rfl) ?_
  show Z (RX11, cX11_sameNames, 7, some .boolean, false) G d _ 0 [(0, .ref (G.1 + 54)), (1, .int (Int32.ofInt a1)), (2, .int (Int32.ofInt a2)), (3, .int (Int32.ofInt a3)), (4, .int (Int32.ofInt a4))] [] cs
  have hP : ∀ (v : Int) (S : St) (cs : List va_E), K v S → Wd G sh mT J S cs → qI G sh mT J K (some (.int (Int32.ofInt v))) cs := fun v S cs a b => ⟨v, S, rfl, a, b⟩
  unfold wX11_sameNames at hw
  have hw := hw g1 g2 g3 g4
  refine z_iload_n dX11_sameNames_0 rfl rfl ?_
  refine z_iload dX11_sameNames_1 rfl ?_
  refine i_icmp_ne (tgt := 10) dX11_sameNames_3 (by decide) g2 g4 (fun h1 => ?_) (fun h1 => ?_)
  · have hw := hw.1 h1
    refine z_iconst (v := Int32.ofInt 0) dX11_sameNames_10 rfl ?_
    refine z_loc (L' := [(0, .ref (G.1 + 54)), (1, .int (Int32.ofInt (a1))), (2, .int (Int32.ofInt (a2))), (3, .int (Int32.ofInt (a3)))]) (List.forall_mem_cons.mpr ⟨rfl, (List.forall_mem_cons.mpr ⟨rfl, (List.forall_mem_cons.mpr ⟨rfl, (List.forall_mem_cons.mpr ⟨rfl, (fun _ h => nomatch h)⟩)⟩)⟩)⟩) ?_
    exact bX11_sameNames_11 hd hJ hT hW hP  hw
  · have hw := hw.2 h1
    refine z_iconst (v := Int32.ofInt 1) dX11_sameNames_6 rfl ?_
    refine z_goto (tgt := 11) dX11_sameNames_7 (by decide) ?_
    refine z_loc (L' := [(0, .ref (G.1 + 54)), (1, .int (Int32.ofInt (a1))), (2, .int (Int32.ofInt (a2))), (3, .int (Int32.ofInt (a3)))]) (List.forall_mem_cons.mpr ⟨rfl, (List.forall_mem_cons.mpr ⟨rfl, (List.forall_mem_cons.mpr ⟨rfl, (List.forall_mem_cons.mpr ⟨rfl, (fun _ h => nomatch h)⟩)⟩)⟩)⟩) ?_
    exact bX11_sameNames_11 hd hJ hT hW hP  hw

def wX11_attribute_87 (l3 : Int) (S : St) (K : Int → St → Prop) : Prop := (rng (l3) ∧ (wX11_fail (l3) S (fun r2 S3 => K (l3) S3)))
set_option maxRecDepth 100000 in
set_option maxHeartbeats 4000000 in
theorem bX11_attribute_87 {G : xG} {sh : Nat → Option Sh} {J : St → List va_E → Prop} {d : Nat} {Post : xP} {l3 : Int} {S : St} {cs : List va_E} {K : Int → St → Prop} (hd : 4 ≤ d) (hJ : Stb sh J) (hT : isM sh) (hW : Wd G sh mT J S cs) (hP : ∀ (v : Int) (S : St) (cs : List va_E), K v S → Wd G sh mT J S cs → Post (some (.int (Int32.ofInt v))) cs)  (hw : wX11_attribute_87 l3 S K ) : Z (RX11, cX11_attribute, 7, some .int, false) G d Post 87 [(0, .ref (G.1 + 54)), (3, .int (Int32.ofInt (l3)))] [] cs := by
  unfold wX11_attribute_87 at hw
  refine z_aload_n dX11_attribute_87 rfl rfl ?_
  refine z_iload_n dX11_attribute_88 rfl rfl ?_
  obtain ⟨q1, hw⟩ := hw
  have hX := lX11_fail 0 (Nat.le_refl _) hJ hT hW q1 hw
  refine z_callV (As := [_]) eX11_fail sX11_fail lX11_362 rfl dX11_attribute_89 (hW.1 _ _ hT.1) hX (Nat.le_trans (by decide) hd) rfl (Nat.le_of_ble_eq_true rfl) (fun r cs hp => ?_)
  obtain ⟨r2, S3, rfl, hw, hW⟩ := hp
  refine z_st (st' := []) rfl ?_
  refine z_iload_n dX11_attribute_92 rfl rfl ?_
  exact z_ireturn dX11_attribute_93 rfl rfl (hP _ _ _ hw hW)
def wX11_attribute_234 (l2 l3 l5 : Int) (S : St) (K : Int → St → Prop) : Prop := (iv 0 3000 (S.1 54 56) → ((0 : Int) ≤ l5 ∧ l5 < (600 : Int) ∧ (iv 0 3000 (S.2 94 (l5)) → ((0 : Int) ≤ l5 ∧ l5 < (600 : Int) ∧ (iv 0 3000 ((S.1 54 56 - S.2 94 (l5))) ∧ (∀ S5, S5 = pA S 95 (l5) ((S.1 54 56 - S.2 94 (l5))) → (iv 0 600 (S5.1 54 51) → (iv 0 600 ((S5.1 54 51 + 1)) ∧ (∀ S8, S8 = pI S5 54 51 ((S5.1 54 51 + 1)) → ((0 : Int) ≤ l2 ∧ l2 < (200 : Int) ∧ (iv 0 600 (S8.2 91 (l2)) → ((0 : Int) ≤ l2 ∧ l2 < (200 : Int) ∧ (iv 0 600 ((S8.2 91 (l2) + 1)) ∧ (∀ S13, S13 = pA S8 91 (l2) ((S8.2 91 (l2) + 1)) → K ((l3 + 1)) S13))))))))))))))
set_option maxRecDepth 100000 in
set_option maxHeartbeats 4000000 in
theorem bX11_attribute_234 {G : xG} {sh : Nat → Option Sh} {J : St → List va_E → Prop} {d : Nat} {Post : xP} {l2 l3 l5 : Int} {S : St} {cs : List va_E} {K : Int → St → Prop} (hd : 4 ≤ d) (hJ : Stb sh J) (hT : isM sh) (hW : Wd G sh mT J S cs) (hP : ∀ (v : Int) (S : St) (cs : List va_E), K v S → Wd G sh mT J S cs → Post (some (.int (Int32.ofInt v))) cs)  (hw : wX11_attribute_234 l2 l3 l5 S K ) : Z (RX11, cX11_attribute, 7, some .int, false) G d Post 234 [(0, .ref (G.1 + 54)), (2, .int (Int32.ofInt (l2))), (3, .int (Int32.ofInt (l3))), (5, .int (Int32.ofInt (l5)))] [] cs := by
  unfold wX11_attribute_234 at hw
  refine z_aload_n dX11_attribute_234 rfl rfl ?_
  refine g_getR hW hT.1 mr55 kX11 fX11_135 dX11_attribute_235 ?_
  refine z_iload dX11_attribute_238 rfl ?_
  refine z_aload_n dX11_attribute_240 rfl rfl ?_
  have q1 : iv 0 3000 (S.1 54 56) := mI56 hW
  have hw := hw q1
  refine g_getI hW hT.1 mr56 kX11 fX11_355 dX11_attribute_241 ?_
  refine z_aload_n dX11_attribute_244 rfl rfl ?_
  refine g_getR hW hT.1 mr54 kX11 fX11_132 dX11_attribute_245 ?_
  refine z_iload dX11_attribute_248 rfl ?_
  obtain ⟨q2a, q2b, hw⟩ := hw
  have q3 : iv 0 3000 (S.2 94 (l5)) := mA94 hW _
  have hw := hw q3
  refine g_iald hW (ma94 hT) q2a q2b (by decide) dX11_attribute_250 ?_
  refine i_isub dX11_attribute_251 ?_
  obtain ⟨q4a, q4b, hw⟩ := hw
  obtain ⟨q6, hw⟩ := hw
  refine g_iast hJ hW (ma95 hT) q4a q4b (by decide) q6 dX11_attribute_252 (fun cs hW => ?_)
  obtain ⟨S5, hS5⟩ : ∃ x, x = pA S 95 (l5) ((S.1 54 56 - S.2 94 (l5))) := ⟨_, rfl⟩
  rw [← hS5] at hW
  have hw := hw S5 hS5
  refine z_aload_n dX11_attribute_253 rfl rfl ?_
  refine z_dup dX11_attribute_254 rfl ?_
  have q7 : iv 0 600 (S5.1 54 51) := mI51 hW
  have hw := hw q7
  refine g_getI hW hT.1 mr51 kX11 fX11_377 dX11_attribute_255 ?_
  refine z_iconst (v := Int32.ofInt 1) dX11_attribute_258 rfl ?_
  refine i_iadd dX11_attribute_259 ?_
  obtain ⟨q9, hw⟩ := hw
  refine g_putI hJ hW hT.1 mr51 kX11 fX11_377 dX11_attribute_260 rfl rfl rfl q9 (fun cs hW => ?_)
  obtain ⟨S8, hS8⟩ : ∃ x, x = pI S5 54 51 ((S5.1 54 51 + 1)) := ⟨_, rfl⟩
  rw [← hS8] at hW
  have hw := hw S8 hS8
  refine z_aload_n dX11_attribute_263 rfl rfl ?_
  refine g_getR hW hT.1 mr50 kX11 fX11_123 dX11_attribute_264 ?_
  refine z_iload_n dX11_attribute_267 rfl rfl ?_
  refine z_dup2 dX11_attribute_268 rfl rfl ?_
  obtain ⟨q10a, q10b, hw⟩ := hw
  have q11 : iv 0 600 (S8.2 91 (l2)) := mA91 hW _
  have hw := hw q11
  refine g_iald hW (ma91 hT) q10a q10b (by decide) dX11_attribute_269 ?_
  refine z_iconst (v := Int32.ofInt 1) dX11_attribute_270 rfl ?_
  refine i_iadd dX11_attribute_271 ?_
  obtain ⟨q12a, q12b, hw⟩ := hw
  obtain ⟨q14, hw⟩ := hw
  refine g_iast hJ hW (ma91 hT) q12a q12b (by decide) q14 dX11_attribute_272 (fun cs hW => ?_)
  obtain ⟨S13, hS13⟩ : ∃ x, x = pA S8 91 (l2) ((S8.2 91 (l2) + 1)) := ⟨_, rfl⟩
  rw [← hS13] at hW
  have hw := hw S13 hS13
  refine z_iload_n dX11_attribute_273 rfl rfl ?_
  refine z_iconst (v := Int32.ofInt 1) dX11_attribute_274 rfl ?_
  refine i_iadd dX11_attribute_275 ?_
  exact z_ireturn dX11_attribute_276 rfl rfl (hP _ _ _ hw hW)
def wX11_attribute_231 (l2 l3 l4 l5 : Int) (S : St) (K : Int → St → Prop) (B156 : Int → Int → Int → Int → St → Prop) : Prop := B156 (l2) (l3) (l4) (l5) S
set_option maxRecDepth 100000 in
set_option maxHeartbeats 4000000 in
theorem bX11_attribute_231 {G : xG} {sh : Nat → Option Sh} {J : St → List va_E → Prop} {d : Nat} {Post : xP} {l2 l3 l4 l5 : Int} {S : St} {cs : List va_E} {K : Int → St → Prop} {B156 : Int → Int → Int → Int → St → Prop} (hd : 4 ≤ d) (hJ : Stb sh J) (hT : isM sh) (hW : Wd G sh mT J S cs) (hP : ∀ (v : Int) (S : St) (cs : List va_E), K v S → Wd G sh mT J S cs → Post (some (.int (Int32.ofInt v))) cs) (hB156 : ∀ (l2 : Int) (l3 : Int) (l4 : Int) (l5 : Int) (S : St) (cs : List va_E), B156 l2 l3 l4 l5 S → Wd G sh mT J S cs → Z (RX11, cX11_attribute, 7, some .int, false) G d Post 156 [(0, .ref (G.1 + 54)), (2, .int (Int32.ofInt (l2))), (3, .int (Int32.ofInt (l3))), (4, .int (Int32.ofInt (l4))), (5, .int (Int32.ofInt (l5)))] [] cs) (hw : wX11_attribute_231 l2 l3 l4 l5 S K B156) : Z (RX11, cX11_attribute, 7, some .int, false) G d Post 231 [(0, .ref (G.1 + 54)), (2, .int (Int32.ofInt (l2))), (3, .int (Int32.ofInt (l3))), (4, .int (Int32.ofInt (l4))), (5, .int (Int32.ofInt (l5)))] [] cs := by
  unfold wX11_attribute_231 at hw
  refine z_goto (tgt := 156) dX11_attribute_231 (by decide) ?_
  refine z_loc (L' := [(0, .ref (G.1 + 54)), (2, .int (Int32.ofInt (l2))), (3, .int (Int32.ofInt (l3))), (4, .int (Int32.ofInt (l4))), (5, .int (Int32.ofInt (l5)))]) (List.forall_mem_cons.mpr ⟨rfl, (List.forall_mem_cons.mpr ⟨rfl, (List.forall_mem_cons.mpr ⟨rfl, (List.forall_mem_cons.mpr ⟨rfl, (List.forall_mem_cons.mpr ⟨rfl, (fun _ h => nomatch h)⟩)⟩)⟩)⟩)⟩) ?_
  exact hB156 _ _ _ _ _ _ hw hW
def wX11_attribute_194 (l2 l3 l4 l5 : Int) (S : St) (K : Int → St → Prop) (B156 : Int → Int → Int → Int → St → Prop) : Prop := (rng (l3) ∧ (wX11_fail (l3) S (fun r2 S3 => wX11_attribute_231 (l2) (l3) (l4) (l5) S3 K B156)))
set_option maxRecDepth 100000 in
set_option maxHeartbeats 4000000 in
theorem bX11_attribute_194 {G : xG} {sh : Nat → Option Sh} {J : St → List va_E → Prop} {d : Nat} {Post : xP} {l2 l3 l4 l5 : Int} {S : St} {cs : List va_E} {K : Int → St → Prop} {B156 : Int → Int → Int → Int → St → Prop} (hd : 4 ≤ d) (hJ : Stb sh J) (hT : isM sh) (hW : Wd G sh mT J S cs) (hP : ∀ (v : Int) (S : St) (cs : List va_E), K v S → Wd G sh mT J S cs → Post (some (.int (Int32.ofInt v))) cs) (hB156 : ∀ (l2 : Int) (l3 : Int) (l4 : Int) (l5 : Int) (S : St) (cs : List va_E), B156 l2 l3 l4 l5 S → Wd G sh mT J S cs → Z (RX11, cX11_attribute, 7, some .int, false) G d Post 156 [(0, .ref (G.1 + 54)), (2, .int (Int32.ofInt (l2))), (3, .int (Int32.ofInt (l3))), (4, .int (Int32.ofInt (l4))), (5, .int (Int32.ofInt (l5)))] [] cs) (hw : wX11_attribute_194 l2 l3 l4 l5 S K B156) : Z (RX11, cX11_attribute, 7, some .int, false) G d Post 194 [(0, .ref (G.1 + 54)), (2, .int (Int32.ofInt (l2))), (3, .int (Int32.ofInt (l3))), (4, .int (Int32.ofInt (l4))), (5, .int (Int32.ofInt (l5)))] [] cs := by
  unfold wX11_attribute_194 at hw
  refine z_aload_n dX11_attribute_194 rfl rfl ?_
  refine z_iload_n dX11_attribute_195 rfl rfl ?_
  obtain ⟨q1, hw⟩ := hw
  have hX := lX11_fail 0 (Nat.le_refl _) hJ hT hW q1 hw
  refine z_callV (As := [_]) eX11_fail sX11_fail lX11_362 rfl dX11_attribute_196 (hW.1 _ _ hT.1) hX (Nat.le_trans (by decide) hd) rfl (Nat.le_of_ble_eq_true rfl) (fun r cs hp => ?_)
  obtain ⟨r2, S3, rfl, hw, hW⟩ := hp
  refine z_st (st' := []) rfl ?_
  refine z_goto (tgt := 231) dX11_attribute_199 (by decide) ?_
  refine z_loc (L' := [(0, .ref (G.1 + 54)), (2, .int (Int32.ofInt (l2))), (3, .int (Int32.ofInt (l3))), (4, .int (Int32.ofInt (l4))), (5, .int (Int32.ofInt (l5)))]) (List.forall_mem_cons.mpr ⟨rfl, (List.forall_mem_cons.mpr ⟨rfl, (List.forall_mem_cons.mpr ⟨rfl, (List.forall_mem_cons.mpr ⟨rfl, (List.forall_mem_cons.mpr ⟨rfl, (fun _ h => nomatch h)⟩)⟩)⟩)⟩)⟩) ?_
  exact bX11_attribute_231 hd hJ hT hW hP hB156 hw
def wX11_attribute_156' (l2 l3 l4 l5 : Int) (S : St) (K : Int → St → Prop) (B156 : Int → Int → Int → Int → St → Prop) : Prop := (iv (-2) 4000 (S.1 54 59) → ((¬ S.1 54 59 = (-2) → wX11_attribute_234 (l2) (l3) (l5) S K) ∧ ((¬ (¬ S.1 54 59 = (-2))) → (rng (l3) ∧ (wX11_docAt (l3) S (fun r4 S5 => (rng (r4) ∧ (rng (l4) ∧ ((r4 = l4 → wX11_attribute_234 (l2) (l3) (l5) S5 K) ∧ ((¬ (r4 = l4)) → (wX11_docAt (l3) S5 (fun r9 S10 => (rng (r9) ∧ ((r9 < 0 → wX11_attribute_194 (l2) (l3) (l4) (l5) S10 K B156) ∧ ((¬ (r9 < 0)) → ((¬ r9 = 60 → ((¬ r9 = 38 → (wX11_keep (r9) ((-2)) S10 (fun r15 S16 => wX11_attribute_231 (l2) ((l3 + 1)) (l4) (l5) S16 K B156))) ∧ ((¬ (¬ r9 = 38)) → (wX11_reference (l3) ((-2)) S10 (fun r17 S18 => wX11_attribute_231 (l2) (r17) (l4) (l5) S18 K B156))))) ∧ ((¬ (¬ r9 = 60)) → wX11_attribute_194 (l2) (l3) (l4) (l5) S10 K B156)))))))))))))))))
set_option maxRecDepth 100000 in
set_option maxHeartbeats 4000000 in
theorem bX11_attribute_156' {G : xG} {sh : Nat → Option Sh} {J : St → List va_E → Prop} {d : Nat} {Post : xP} {l2 l3 l4 l5 : Int} {S : St} {cs : List va_E} {K : Int → St → Prop} {B156 : Int → Int → Int → Int → St → Prop} (hd : 4 ≤ d) (hJ : Stb sh J) (hT : isM sh) (hW : Wd G sh mT J S cs) (hP : ∀ (v : Int) (S : St) (cs : List va_E), K v S → Wd G sh mT J S cs → Post (some (.int (Int32.ofInt v))) cs) (hB156 : ∀ (l2 : Int) (l3 : Int) (l4 : Int) (l5 : Int) (S : St) (cs : List va_E), B156 l2 l3 l4 l5 S → Wd G sh mT J S cs → Z (RX11, cX11_attribute, 7, some .int, false) G d Post 156 [(0, .ref (G.1 + 54)), (2, .int (Int32.ofInt (l2))), (3, .int (Int32.ofInt (l3))), (4, .int (Int32.ofInt (l4))), (5, .int (Int32.ofInt (l5)))] [] cs) (hw : wX11_attribute_156' l2 l3 l4 l5 S K B156) : Z (RX11, cX11_attribute, 7, some .int, false) G d Post 156 [(0, .ref (G.1 + 54)), (2, .int (Int32.ofInt (l2))), (3, .int (Int32.ofInt (l3))), (4, .int (Int32.ofInt (l4))), (5, .int (Int32.ofInt (l5)))] [] cs := by
  unfold wX11_attribute_156' at hw
  refine z_aload_n dX11_attribute_156 rfl rfl ?_
  have q1 : iv (-2) 4000 (S.1 54 59) := mI59 hW
  have hw := hw q1
  refine g_getI hW hT.1 mr59 kX11 fX11_343 dX11_attribute_157 ?_
  refine z_bipush (v := Int32.ofInt (-2)) dX11_attribute_160 (by decide) ?_
  refine i_icmp_ne (tgt := 234) dX11_attribute_162 (by decide) (rngq q1 (by decide) (by decide)) ⟨by decide, by decide⟩ (fun h2 => ?_) (fun h2 => ?_)
  · have hw := hw.1 h2
    refine z_loc (L' := [(0, .ref (G.1 + 54)), (2, .int (Int32.ofInt (l2))), (3, .int (Int32.ofInt (l3))), (5, .int (Int32.ofInt (l5)))]) (List.forall_mem_cons.mpr ⟨rfl, (List.forall_mem_cons.mpr ⟨rfl, (List.forall_mem_cons.mpr ⟨rfl, (List.forall_mem_cons.mpr ⟨rfl, (fun _ h => nomatch h)⟩)⟩)⟩)⟩) ?_
    exact bX11_attribute_234 hd hJ hT hW hP  hw
  · have hw := hw.2 h2
    refine z_aload_n dX11_attribute_165 rfl rfl ?_
    refine z_iload_n dX11_attribute_166 rfl rfl ?_
    obtain ⟨q3, hw⟩ := hw
    have hX := lX11_docAt 0 (Nat.le_refl _) hJ hT hW q3 hw
    refine z_callV (As := [_]) eX11_docAt sX11_docAt lX11_349 rfl dX11_attribute_167 (hW.1 _ _ hT.1) hX (Nat.le_trans (by decide) hd) rfl (Nat.le_of_ble_eq_true rfl) (fun r cs hp => ?_)
    obtain ⟨r4, S5, rfl, hw, hW⟩ := hp
    refine z_st (st' := [.int (Int32.ofInt (r4))]) rfl ?_
    refine z_iload dX11_attribute_170 rfl ?_
    obtain ⟨q7, hw⟩ := hw
    obtain ⟨q8, hw⟩ := hw
    refine i_icmp_eq (tgt := 234) dX11_attribute_172 (by decide) q7 q8 (fun h6 => ?_) (fun h6 => ?_)
    · have hw := hw.1 h6
      refine z_loc (L' := [(0, .ref (G.1 + 54)), (2, .int (Int32.ofInt (l2))), (3, .int (Int32.ofInt (l3))), (5, .int (Int32.ofInt (l5)))]) (List.forall_mem_cons.mpr ⟨rfl, (List.forall_mem_cons.mpr ⟨rfl, (List.forall_mem_cons.mpr ⟨rfl, (List.forall_mem_cons.mpr ⟨rfl, (fun _ h => nomatch h)⟩)⟩)⟩)⟩) ?_
      exact bX11_attribute_234 hd hJ hT hW hP  hw
    · have hw := hw.2 h6
      refine z_aload_n dX11_attribute_175 rfl rfl ?_
      refine z_iload_n dX11_attribute_176 rfl rfl ?_
      have hX := lX11_docAt 0 (Nat.le_refl _) hJ hT hW q3 hw
      refine z_callV (As := [_]) eX11_docAt sX11_docAt lX11_349 rfl dX11_attribute_177 (hW.1 _ _ hT.1) hX (Nat.le_trans (by decide) hd) rfl (Nat.le_of_ble_eq_true rfl) (fun r cs hp => ?_)
      obtain ⟨r9, S10, rfl, hw, hW⟩ := hp
      refine z_st (st' := [.int (Int32.ofInt (r9))]) rfl ?_
      refine z_istore dX11_attribute_180 (by decide) ?_
      refine z_loc (L' := [(0, .ref (G.1 + 54)), (2, .int (Int32.ofInt (l2))), (3, .int (Int32.ofInt (l3))), (4, .int (Int32.ofInt (l4))), (5, .int (Int32.ofInt (l5))), (6, .int (Int32.ofInt (r9)))]) (List.forall_mem_cons.mpr ⟨rfl, (List.forall_mem_cons.mpr ⟨rfl, (List.forall_mem_cons.mpr ⟨rfl, (List.forall_mem_cons.mpr ⟨rfl, (List.forall_mem_cons.mpr ⟨rfl, (List.forall_mem_cons.mpr ⟨rfl, (fun _ h => nomatch h)⟩)⟩)⟩)⟩)⟩)⟩) ?_
      refine z_iload dX11_attribute_182 rfl ?_
      obtain ⟨q12, hw⟩ := hw
      refine i_if_lt (tgt := 194) dX11_attribute_184 (by decide) q12 (fun h11 => ?_) (fun h11 => ?_)
      · have hw := hw.1 h11
        refine z_loc (L' := [(0, .ref (G.1 + 54)), (2, .int (Int32.ofInt (l2))), (3, .int (Int32.ofInt (l3))), (4, .int (Int32.ofInt (l4))), (5, .int (Int32.ofInt (l5)))]) (List.forall_mem_cons.mpr ⟨rfl, (List.forall_mem_cons.mpr ⟨rfl, (List.forall_mem_cons.mpr ⟨rfl, (List.forall_mem_cons.mpr ⟨rfl, (List.forall_mem_cons.mpr ⟨rfl, (fun _ h => nomatch h)⟩)⟩)⟩)⟩)⟩) ?_
        exact bX11_attribute_194 hd hJ hT hW hP hB156 hw
      · have hw := hw.2 h11
        refine z_iload dX11_attribute_187 rfl ?_
        refine z_bipush (v := Int32.ofInt 60) dX11_attribute_189 (by decide) ?_
        refine i_icmp_ne (tgt := 202) dX11_attribute_191 (by decide) q12 ⟨by decide, by decide⟩ (fun h13 => ?_) (fun h13 => ?_)
        · have hw := hw.1 h13
          refine z_iload dX11_attribute_202 rfl ?_
          refine z_bipush (v := Int32.ofInt 38) dX11_attribute_204 (by decide) ?_
          refine i_icmp_ne (tgt := 220) dX11_attribute_206 (by decide) q12 ⟨by decide, by decide⟩ (fun h14 => ?_) (fun h14 => ?_)
          · have hw := hw.1 h14
            refine z_aload_n dX11_attribute_220 rfl rfl ?_
            refine z_iload dX11_attribute_221 rfl ?_
            refine z_bipush (v := Int32.ofInt (-2)) dX11_attribute_223 (by decide) ?_
            have hX := lX11_keep 0 (Nat.le_refl _) hJ hT hW q12 ⟨by decide, by decide⟩ hw
            refine z_callV (As := [_, _]) eX11_keep sX11_keep lX11_365 rfl dX11_attribute_225 (hW.1 _ _ hT.1) hX (Nat.le_trans (by decide) hd) rfl (Nat.le_of_ble_eq_true rfl) (fun r cs hp => ?_)
            obtain ⟨r15, S16, rfl, hw, hW⟩ := hp
            refine z_st (st' := []) rfl ?_
            refine i_iinc (l := l3) dX11_attribute_228 rfl (by decide) ?_
            refine z_loc (L' := [(0, .ref (G.1 + 54)), (2, .int (Int32.ofInt (l2))), (3, .int (Int32.ofInt ((l3 + 1)))), (4, .int (Int32.ofInt (l4))), (5, .int (Int32.ofInt (l5))), (6, .int (Int32.ofInt (r9)))]) (List.forall_mem_cons.mpr ⟨rfl, (List.forall_mem_cons.mpr ⟨rfl, (List.forall_mem_cons.mpr ⟨rfl, (List.forall_mem_cons.mpr ⟨rfl, (List.forall_mem_cons.mpr ⟨rfl, (List.forall_mem_cons.mpr ⟨rfl, (fun _ h => nomatch h)⟩)⟩)⟩)⟩)⟩)⟩) ?_
            refine z_loc (L' := [(0, .ref (G.1 + 54)), (2, .int (Int32.ofInt (l2))), (3, .int (Int32.ofInt ((l3 + 1)))), (4, .int (Int32.ofInt (l4))), (5, .int (Int32.ofInt (l5)))]) (List.forall_mem_cons.mpr ⟨rfl, (List.forall_mem_cons.mpr ⟨rfl, (List.forall_mem_cons.mpr ⟨rfl, (List.forall_mem_cons.mpr ⟨rfl, (List.forall_mem_cons.mpr ⟨rfl, (fun _ h => nomatch h)⟩)⟩)⟩)⟩)⟩) ?_
            exact bX11_attribute_231 hd hJ hT hW hP hB156 hw
          · have hw := hw.2 h14
            refine z_aload_n dX11_attribute_209 rfl rfl ?_
            refine z_iload_n dX11_attribute_210 rfl rfl ?_
            refine z_bipush (v := Int32.ofInt (-2)) dX11_attribute_211 (by decide) ?_
            have hX := lX11_reference 2 (Nat.le_refl _) hJ hT hW q3 ⟨by decide, by decide⟩ hw
            refine z_callV (As := [_, _]) eX11_reference sX11_reference lX11_383 rfl dX11_attribute_213 (hW.1 _ _ hT.1) hX (Nat.le_trans (by decide) hd) rfl (Nat.le_of_ble_eq_true rfl) (fun r cs hp => ?_)
            obtain ⟨r17, S18, rfl, hw, hW⟩ := hp
            refine z_st (st' := [.int (Int32.ofInt (r17))]) rfl ?_
            refine z_istore_n dX11_attribute_216 rfl (by decide) ?_
            refine z_loc (L' := [(0, .ref (G.1 + 54)), (2, .int (Int32.ofInt (l2))), (3, .int (Int32.ofInt (r17))), (4, .int (Int32.ofInt (l4))), (5, .int (Int32.ofInt (l5))), (6, .int (Int32.ofInt (r9)))]) (List.forall_mem_cons.mpr ⟨rfl, (List.forall_mem_cons.mpr ⟨rfl, (List.forall_mem_cons.mpr ⟨rfl, (List.forall_mem_cons.mpr ⟨rfl, (List.forall_mem_cons.mpr ⟨rfl, (List.forall_mem_cons.mpr ⟨rfl, (fun _ h => nomatch h)⟩)⟩)⟩)⟩)⟩)⟩) ?_
            refine z_goto (tgt := 231) dX11_attribute_217 (by decide) ?_
            refine z_loc (L' := [(0, .ref (G.1 + 54)), (2, .int (Int32.ofInt (l2))), (3, .int (Int32.ofInt (r17))), (4, .int (Int32.ofInt (l4))), (5, .int (Int32.ofInt (l5)))]) (List.forall_mem_cons.mpr ⟨rfl, (List.forall_mem_cons.mpr ⟨rfl, (List.forall_mem_cons.mpr ⟨rfl, (List.forall_mem_cons.mpr ⟨rfl, (List.forall_mem_cons.mpr ⟨rfl, (fun _ h => nomatch h)⟩)⟩)⟩)⟩)⟩) ?_
            exact bX11_attribute_231 hd hJ hT hW hP hB156 hw
        · have hw := hw.2 h13
          refine z_loc (L' := [(0, .ref (G.1 + 54)), (2, .int (Int32.ofInt (l2))), (3, .int (Int32.ofInt (l3))), (4, .int (Int32.ofInt (l4))), (5, .int (Int32.ofInt (l5)))]) (List.forall_mem_cons.mpr ⟨rfl, (List.forall_mem_cons.mpr ⟨rfl, (List.forall_mem_cons.mpr ⟨rfl, (List.forall_mem_cons.mpr ⟨rfl, (List.forall_mem_cons.mpr ⟨rfl, (fun _ h => nomatch h)⟩)⟩)⟩)⟩)⟩) ?_
          exact bX11_attribute_194 hd hJ hT hW hP hB156 hw
def wX11_attribute_156 (l2 l3 l4 l5 : Int) (S : St) (K : Int → St → Prop) : Prop := ∃ (Iv : Int → Int → Int → Int → St → Prop) (mu : Int → Int → Int → Int → St → Nat), Iv l2 l3 l4 l5 S ∧ ∀ (l2 l3 l4 l5 : Int) (S : St), Iv l2 l3 l4 l5 S → wX11_attribute_156' l2 l3 l4 l5 S K  (fun ml2 ml3 ml4 ml5 T => Iv ml2 ml3 ml4 ml5 T ∧ mu ml2 ml3 ml4 ml5 T < mu l2 l3 l4 l5 S)
set_option maxRecDepth 100000 in
set_option maxHeartbeats 4000000 in
theorem bX11_attribute_156 {G : xG} {sh : Nat → Option Sh} {J : St → List va_E → Prop} {d : Nat} {Post : xP} {l2 l3 l4 l5 : Int} {S : St} {cs : List va_E} {K : Int → St → Prop} (hd : 4 ≤ d) (hJ : Stb sh J) (hT : isM sh) (hW : Wd G sh mT J S cs) (hP : ∀ (v : Int) (S : St) (cs : List va_E), K v S → Wd G sh mT J S cs → Post (some (.int (Int32.ofInt v))) cs)  (hw : wX11_attribute_156 l2 l3 l4 l5 S K ) : Z (RX11, cX11_attribute, 7, some .int, false) G d Post 156 [(0, .ref (G.1 + 54)), (2, .int (Int32.ofInt (l2))), (3, .int (Int32.ofInt (l3))), (4, .int (Int32.ofInt (l4))), (5, .int (Int32.ofInt (l5)))] [] cs := by
  unfold wX11_attribute_156 at hw
  obtain ⟨Iv, mu, h0, hs⟩ := hw
  have key : ∀ (n : Nat) (l2 l3 l4 l5 : Int) (S : St) (cs : List va_E), mu l2 l3 l4 l5 S < n → Iv l2 l3 l4 l5 S → Wd G sh mT J S cs → Z (RX11, cX11_attribute, 7, some .int, false) G d Post 156 [(0, .ref (G.1 + 54)), (2, .int (Int32.ofInt (l2))), (3, .int (Int32.ofInt (l3))), (4, .int (Int32.ofInt (l4))), (5, .int (Int32.ofInt (l5)))] [] cs := by
    intro n
    induction n with
    | zero => intro l2 l3 l4 l5 S cs hn; exact absurd hn (Nat.not_lt_zero _)
    | succ n ih =>
      intro l2 l3 l4 l5 S cs hn hI hW
      exact bX11_attribute_156' hd hJ hT hW hP  (fun l2 l3 l4 l5 S cs hb hW => ih l2 l3 l4 l5 S cs (Nat.lt_of_lt_of_le hb.2 (Nat.le_of_lt_succ hn)) hb.1 hW) (hs l2 l3 l4 l5 S hI)
  exact key _ _ _ _ _ _ _ (Nat.lt_succ_self _) h0 hW
def wX11_attribute_117 (l1 l2 l3 l4 : Int) (S : St) (K : Int → St → Prop) : Prop := (iv 0 600 (S.1 54 51) → ((0 : Int) ≤ S.1 54 51 ∧ S.1 54 51 < (600 : Int) ∧ (iv 0 3000 (l1) ∧ (∀ S3, S3 = pA S 92 (S.1 54 51) (l1) → ((0 : Int) ≤ S.1 54 51 ∧ S.1 54 51 < (600 : Int) ∧ (iv 0 3000 ((l3 - l1)) ∧ (∀ S6, S6 = pA S3 93 (S.1 54 51) ((l3 - l1)) → (iv 0 3000 (S6.1 54 56) → ((0 : Int) ≤ S.1 54 51 ∧ S.1 54 51 < (600 : Int) ∧ (∀ S10, S10 = pA S6 94 (S.1 54 51) (S6.1 54 56) → (∀ x11 : Int, x11 = (l3 + 2) → wX11_attribute_156 (l2) (x11) (l4) (S.1 54 51) S10 K)))))))))))
set_option maxRecDepth 100000 in
set_option maxHeartbeats 4000000 in
theorem bX11_attribute_117 {G : xG} {sh : Nat → Option Sh} {J : St → List va_E → Prop} {d : Nat} {Post : xP} {l1 l2 l3 l4 : Int} {S : St} {cs : List va_E} {K : Int → St → Prop} (hd : 4 ≤ d) (hJ : Stb sh J) (hT : isM sh) (hW : Wd G sh mT J S cs) (hP : ∀ (v : Int) (S : St) (cs : List va_E), K v S → Wd G sh mT J S cs → Post (some (.int (Int32.ofInt v))) cs)  (hw : wX11_attribute_117 l1 l2 l3 l4 S K ) : Z (RX11, cX11_attribute, 7, some .int, false) G d Post 117 [(0, .ref (G.1 + 54)), (1, .int (Int32.ofInt (l1))), (2, .int (Int32.ofInt (l2))), (3, .int (Int32.ofInt (l3))), (4, .int (Int32.ofInt (l4)))] [] cs := by
  unfold wX11_attribute_117 at hw
  refine z_aload_n dX11_attribute_117 rfl rfl ?_
  have q1 : iv 0 600 (S.1 54 51) := mI51 hW
  have hw := hw q1
  refine g_getI hW hT.1 mr51 kX11 fX11_377 dX11_attribute_118 ?_
  refine z_istore dX11_attribute_121 (by decide) ?_
  refine z_loc (L' := [(0, .ref (G.1 + 54)), (1, .int (Int32.ofInt (l1))), (2, .int (Int32.ofInt (l2))), (3, .int (Int32.ofInt (l3))), (4, .int (Int32.ofInt (l4))), (5, .int (Int32.ofInt (S.1 54 51)))]) (List.forall_mem_cons.mpr ⟨rfl, (List.forall_mem_cons.mpr ⟨rfl, (List.forall_mem_cons.mpr ⟨rfl, (List.forall_mem_cons.mpr ⟨rfl, (List.forall_mem_cons.mpr ⟨rfl, (List.forall_mem_cons.mpr ⟨rfl, (fun _ h => nomatch h)⟩)⟩)⟩)⟩)⟩)⟩) ?_
  refine z_aload_n dX11_attribute_123 rfl rfl ?_
  refine g_getR hW hT.1 mr52 kX11 fX11_126 dX11_attribute_124 ?_
  refine z_iload dX11_attribute_127 rfl ?_
  refine z_iload_n dX11_attribute_129 rfl rfl ?_
  obtain ⟨q2a, q2b, hw⟩ := hw
  obtain ⟨q4, hw⟩ := hw
  refine g_iast hJ hW (ma92 hT) q2a q2b (by decide) q4 dX11_attribute_130 (fun cs hW => ?_)
  obtain ⟨S3, hS3⟩ : ∃ x, x = pA S 92 (S.1 54 51) (l1) := ⟨_, rfl⟩
  rw [← hS3] at hW
  have hw := hw S3 hS3
  refine z_aload_n dX11_attribute_131 rfl rfl ?_
  refine g_getR hW hT.1 mr53 kX11 fX11_129 dX11_attribute_132 ?_
  refine z_iload dX11_attribute_135 rfl ?_
  refine z_iload_n dX11_attribute_137 rfl rfl ?_
  refine z_iload_n dX11_attribute_138 rfl rfl ?_
  refine i_isub dX11_attribute_139 ?_
  obtain ⟨q5a, q5b, hw⟩ := hw
  obtain ⟨q7, hw⟩ := hw
  refine g_iast hJ hW (ma93 hT) q5a q5b (by decide) q7 dX11_attribute_140 (fun cs hW => ?_)
  obtain ⟨S6, hS6⟩ : ∃ x, x = pA S3 93 (S.1 54 51) ((l3 - l1)) := ⟨_, rfl⟩
  rw [← hS6] at hW
  have hw := hw S6 hS6
  refine z_aload_n dX11_attribute_141 rfl rfl ?_
  refine g_getR hW hT.1 mr54 kX11 fX11_132 dX11_attribute_142 ?_
  refine z_iload dX11_attribute_145 rfl ?_
  refine z_aload_n dX11_attribute_147 rfl rfl ?_
  have q8 : iv 0 3000 (S6.1 54 56) := mI56 hW
  have hw := hw q8
  refine g_getI hW hT.1 mr56 kX11 fX11_355 dX11_attribute_148 ?_
  obtain ⟨q9a, q9b, hw⟩ := hw
  refine g_iast hJ hW (ma94 hT) q9a q9b (by decide) q8 dX11_attribute_151 (fun cs hW => ?_)
  obtain ⟨S10, hS10⟩ : ∃ x, x = pA S6 94 (S.1 54 51) (S6.1 54 56) := ⟨_, rfl⟩
  rw [← hS10] at hW
  have hw := hw S10 hS10
  refine z_iload_n dX11_attribute_152 rfl rfl ?_
  refine z_iconst (v := Int32.ofInt 2) dX11_attribute_153 rfl ?_
  refine i_iadd dX11_attribute_154 ?_
  obtain ⟨x11, hx11⟩ : ∃ x : Int, x = (l3 + 2) := ⟨_, rfl⟩
  have hw := hw x11 hx11
  refine z_st (st' := [.int (Int32.ofInt x11)]) (by rw [hx11]) ?_
  refine z_istore_n dX11_attribute_155 rfl (by decide) ?_
  refine z_loc (L' := [(0, .ref (G.1 + 54)), (1, .int (Int32.ofInt (l1))), (2, .int (Int32.ofInt (l2))), (3, .int (Int32.ofInt (x11))), (4, .int (Int32.ofInt (l4))), (5, .int (Int32.ofInt (S.1 54 51)))]) (List.forall_mem_cons.mpr ⟨rfl, (List.forall_mem_cons.mpr ⟨rfl, (List.forall_mem_cons.mpr ⟨rfl, (List.forall_mem_cons.mpr ⟨rfl, (List.forall_mem_cons.mpr ⟨rfl, (List.forall_mem_cons.mpr ⟨rfl, (fun _ h => nomatch h)⟩)⟩)⟩)⟩)⟩)⟩) ?_
  refine z_loc (L' := [(0, .ref (G.1 + 54)), (2, .int (Int32.ofInt (l2))), (3, .int (Int32.ofInt (x11))), (4, .int (Int32.ofInt (l4))), (5, .int (Int32.ofInt (S.1 54 51)))]) (List.forall_mem_cons.mpr ⟨rfl, (List.forall_mem_cons.mpr ⟨rfl, (List.forall_mem_cons.mpr ⟨rfl, (List.forall_mem_cons.mpr ⟨rfl, (List.forall_mem_cons.mpr ⟨rfl, (fun _ h => nomatch h)⟩)⟩)⟩)⟩)⟩) ?_
  exact bX11_attribute_156 hd hJ hT hW hP  hw
def wX11_attribute_53 (l1 l2 l3 l4 : Int) (S : St) (K : Int → St → Prop) (B14 : Int → Int → Int → Int → St → Prop) : Prop := B14 (l1) (l2) (l3) ((l4 + 1)) S
set_option maxRecDepth 100000 in
set_option maxHeartbeats 4000000 in
theorem bX11_attribute_53 {G : xG} {sh : Nat → Option Sh} {J : St → List va_E → Prop} {d : Nat} {Post : xP} {l1 l2 l3 l4 : Int} {S : St} {cs : List va_E} {K : Int → St → Prop} {B14 : Int → Int → Int → Int → St → Prop} (hd : 4 ≤ d) (hJ : Stb sh J) (hT : isM sh) (hW : Wd G sh mT J S cs) (hP : ∀ (v : Int) (S : St) (cs : List va_E), K v S → Wd G sh mT J S cs → Post (some (.int (Int32.ofInt v))) cs) (hB14 : ∀ (l1 : Int) (l2 : Int) (l3 : Int) (l4 : Int) (S : St) (cs : List va_E), B14 l1 l2 l3 l4 S → Wd G sh mT J S cs → Z (RX11, cX11_attribute, 7, some .int, false) G d Post 14 [(0, .ref (G.1 + 54)), (1, .int (Int32.ofInt (l1))), (2, .int (Int32.ofInt (l2))), (3, .int (Int32.ofInt (l3))), (4, .int (Int32.ofInt (l4)))] [] cs) (hw : wX11_attribute_53 l1 l2 l3 l4 S K B14) : Z (RX11, cX11_attribute, 7, some .int, false) G d Post 53 [(0, .ref (G.1 + 54)), (1, .int (Int32.ofInt (l1))), (2, .int (Int32.ofInt (l2))), (3, .int (Int32.ofInt (l3))), (4, .int (Int32.ofInt (l4)))] [] cs := by
  unfold wX11_attribute_53 at hw
  refine i_iinc (l := l4) dX11_attribute_53 rfl (by decide) ?_
  refine z_loc (L' := [(0, .ref (G.1 + 54)), (1, .int (Int32.ofInt (l1))), (2, .int (Int32.ofInt (l2))), (3, .int (Int32.ofInt (l3))), (4, .int (Int32.ofInt ((l4 + 1))))]) (List.forall_mem_cons.mpr ⟨rfl, (List.forall_mem_cons.mpr ⟨rfl, (List.forall_mem_cons.mpr ⟨rfl, (List.forall_mem_cons.mpr ⟨rfl, (List.forall_mem_cons.mpr ⟨rfl, (fun _ h => nomatch h)⟩)⟩)⟩)⟩)⟩) ?_
  refine z_goto (tgt := 14) dX11_attribute_56 (by decide) ?_
  refine z_loc (L' := [(0, .ref (G.1 + 54)), (1, .int (Int32.ofInt (l1))), (2, .int (Int32.ofInt (l2))), (3, .int (Int32.ofInt (l3))), (4, .int (Int32.ofInt ((l4 + 1))))]) (List.forall_mem_cons.mpr ⟨rfl, (List.forall_mem_cons.mpr ⟨rfl, (List.forall_mem_cons.mpr ⟨rfl, (List.forall_mem_cons.mpr ⟨rfl, (List.forall_mem_cons.mpr ⟨rfl, (fun _ h => nomatch h)⟩)⟩)⟩)⟩)⟩) ?_
  exact hB14 _ _ _ _ _ _ hw hW
def wX11_attribute_14' (l1 l2 l3 l4 : Int) (S : St) (K : Int → St → Prop) (B14 : Int → Int → Int → Int → St → Prop) : Prop := (iv 0 600 (S.1 54 51) → (rng (l4) ∧ ((S.1 54 51 ≤ l4 → (rng ((l3 + 1)) ∧ (wX11_docAt ((l3 + 1)) S (fun r5 S6 => (iv (-2) 4000 (S6.1 54 59) → ((¬ S6.1 54 59 = (-2) → wX11_attribute_87 (l3) S6 K) ∧ ((¬ (¬ S6.1 54 59 = (-2))) → (rng (l3) ∧ (wX11_docAt (l3) S6 (fun r10 S11 => (rng (r10) ∧ ((r10 = 61 → (rng (r5) ∧ ((r5 = 34 → wX11_attribute_117 (l1) (l2) (l3) (r5) S11 K) ∧ ((¬ (r5 = 34)) → ((r5 = 39 → wX11_attribute_117 (l1) (l2) (l3) (r5) S11 K) ∧ ((¬ (r5 = 39)) → (wX11_fail ((l3 + 1)) S11 (fun r17 S18 => K (l3) S18)))))))) ∧ ((¬ (r10 = 61)) → wX11_attribute_87 (l3) S11 K))))))))))))) ∧ ((¬ (S.1 54 51 ≤ l4)) → ((0 : Int) ≤ l4 ∧ l4 < (600 : Int) ∧ (iv 0 3000 (S.2 92 (l4)) → ((0 : Int) ≤ l4 ∧ l4 < (600 : Int) ∧ (iv 0 3000 (S.2 93 (l4)) → (rng (l1) ∧ (rng ((l3 - l1)) ∧ (wX11_sameNames (S.2 92 (l4)) (S.2 93 (l4)) (l1) ((l3 - l1)) S (fun r25 S26 => (rng (r25) ∧ ((r25 = 0 → wX11_attribute_53 (l1) (l2) (l3) (l4) S26 K B14) ∧ ((¬ (r25 = 0)) → (wX11_fail (l1) S26 (fun r29 S30 => wX11_attribute_53 (l1) (l2) (l3) (l4) S30 K B14)))))))))))))))))
set_option maxRecDepth 100000 in
set_option maxHeartbeats 4000000 in
theorem bX11_attribute_14' {G : xG} {sh : Nat → Option Sh} {J : St → List va_E → Prop} {d : Nat} {Post : xP} {l1 l2 l3 l4 : Int} {S : St} {cs : List va_E} {K : Int → St → Prop} {B14 : Int → Int → Int → Int → St → Prop} (hd : 4 ≤ d) (hJ : Stb sh J) (hT : isM sh) (hW : Wd G sh mT J S cs) (hP : ∀ (v : Int) (S : St) (cs : List va_E), K v S → Wd G sh mT J S cs → Post (some (.int (Int32.ofInt v))) cs) (hB14 : ∀ (l1 : Int) (l2 : Int) (l3 : Int) (l4 : Int) (S : St) (cs : List va_E), B14 l1 l2 l3 l4 S → Wd G sh mT J S cs → Z (RX11, cX11_attribute, 7, some .int, false) G d Post 14 [(0, .ref (G.1 + 54)), (1, .int (Int32.ofInt (l1))), (2, .int (Int32.ofInt (l2))), (3, .int (Int32.ofInt (l3))), (4, .int (Int32.ofInt (l4)))] [] cs) (hw : wX11_attribute_14' l1 l2 l3 l4 S K B14) : Z (RX11, cX11_attribute, 7, some .int, false) G d Post 14 [(0, .ref (G.1 + 54)), (1, .int (Int32.ofInt (l1))), (2, .int (Int32.ofInt (l2))), (3, .int (Int32.ofInt (l3))), (4, .int (Int32.ofInt (l4)))] [] cs := by
  unfold wX11_attribute_14' at hw
  refine z_iload dX11_attribute_14 rfl ?_
  refine z_aload_n dX11_attribute_16 rfl rfl ?_
  have q1 : iv 0 600 (S.1 54 51) := mI51 hW
  have hw := hw q1
  refine g_getI hW hT.1 mr51 kX11 fX11_377 dX11_attribute_17 ?_
  obtain ⟨q3, hw⟩ := hw
  refine i_icmp_ge (tgt := 59) dX11_attribute_20 (by decide) q3 (rngq q1 (by decide) (by decide)) (fun h2 => ?_) (fun h2 => ?_)
  · have hw := hw.1 h2
    refine z_aload_n dX11_attribute_59 rfl rfl ?_
    refine z_iload_n dX11_attribute_60 rfl rfl ?_
    refine z_iconst (v := Int32.ofInt 1) dX11_attribute_61 rfl ?_
    refine i_iadd dX11_attribute_62 ?_
    obtain ⟨q4, hw⟩ := hw
    have hX := lX11_docAt 0 (Nat.le_refl _) hJ hT hW q4 hw
    refine z_callV (As := [_]) eX11_docAt sX11_docAt lX11_349 rfl dX11_attribute_63 (hW.1 _ _ hT.1) hX (Nat.le_trans (by decide) hd) rfl (Nat.le_of_ble_eq_true rfl) (fun r cs hp => ?_)
    obtain ⟨r5, S6, rfl, hw, hW⟩ := hp
    refine z_st (st' := [.int (Int32.ofInt (r5))]) rfl ?_
    refine z_istore dX11_attribute_66 (by decide) ?_
    refine z_loc (L' := [(0, .ref (G.1 + 54)), (1, .int (Int32.ofInt (l1))), (2, .int (Int32.ofInt (l2))), (3, .int (Int32.ofInt (l3))), (4, .int (Int32.ofInt (r5)))]) (List.forall_mem_cons.mpr ⟨rfl, (List.forall_mem_cons.mpr ⟨rfl, (List.forall_mem_cons.mpr ⟨rfl, (List.forall_mem_cons.mpr ⟨rfl, (List.forall_mem_cons.mpr ⟨rfl, (fun _ h => nomatch h)⟩)⟩)⟩)⟩)⟩) ?_
    refine z_aload_n dX11_attribute_68 rfl rfl ?_
    have q7 : iv (-2) 4000 (S6.1 54 59) := mI59 hW
    have hw := hw q7
    refine g_getI hW hT.1 mr59 kX11 fX11_343 dX11_attribute_69 ?_
    refine z_bipush (v := Int32.ofInt (-2)) dX11_attribute_72 (by decide) ?_
    refine i_icmp_ne (tgt := 87) dX11_attribute_74 (by decide) (rngq q7 (by decide) (by decide)) ⟨by decide, by decide⟩ (fun h8 => ?_) (fun h8 => ?_)
    · have hw := hw.1 h8
      refine z_loc (L' := [(0, .ref (G.1 + 54)), (3, .int (Int32.ofInt (l3)))]) (List.forall_mem_cons.mpr ⟨rfl, (List.forall_mem_cons.mpr ⟨rfl, (fun _ h => nomatch h)⟩)⟩) ?_
      exact bX11_attribute_87 hd hJ hT hW hP  hw
    · have hw := hw.2 h8
      refine z_aload_n dX11_attribute_77 rfl rfl ?_
      refine z_iload_n dX11_attribute_78 rfl rfl ?_
      obtain ⟨q9, hw⟩ := hw
      have hX := lX11_docAt 0 (Nat.le_refl _) hJ hT hW q9 hw
      refine z_callV (As := [_]) eX11_docAt sX11_docAt lX11_349 rfl dX11_attribute_79 (hW.1 _ _ hT.1) hX (Nat.le_trans (by decide) hd) rfl (Nat.le_of_ble_eq_true rfl) (fun r cs hp => ?_)
      obtain ⟨r10, S11, rfl, hw, hW⟩ := hp
      refine z_st (st' := [.int (Int32.ofInt (r10))]) rfl ?_
      refine z_bipush (v := Int32.ofInt 61) dX11_attribute_82 (by decide) ?_
      obtain ⟨q13, hw⟩ := hw
      refine i_icmp_eq (tgt := 94) dX11_attribute_84 (by decide) q13 ⟨by decide, by decide⟩ (fun h12 => ?_) (fun h12 => ?_)
      · have hw := hw.1 h12
        refine z_iload dX11_attribute_94 rfl ?_
        refine z_bipush (v := Int32.ofInt 34) dX11_attribute_96 (by decide) ?_
        obtain ⟨q15, hw⟩ := hw
        refine i_icmp_eq (tgt := 117) dX11_attribute_98 (by decide) q15 ⟨by decide, by decide⟩ (fun h14 => ?_) (fun h14 => ?_)
        · have hw := hw.1 h14
          refine z_loc (L' := [(0, .ref (G.1 + 54)), (1, .int (Int32.ofInt (l1))), (2, .int (Int32.ofInt (l2))), (3, .int (Int32.ofInt (l3))), (4, .int (Int32.ofInt (r5)))]) (List.forall_mem_cons.mpr ⟨rfl, (List.forall_mem_cons.mpr ⟨rfl, (List.forall_mem_cons.mpr ⟨rfl, (List.forall_mem_cons.mpr ⟨rfl, (List.forall_mem_cons.mpr ⟨rfl, (fun _ h => nomatch h)⟩)⟩)⟩)⟩)⟩) ?_
          exact bX11_attribute_117 hd hJ hT hW hP  hw
        · have hw := hw.2 h14
          refine z_iload dX11_attribute_101 rfl ?_
          refine z_bipush (v := Int32.ofInt 39) dX11_attribute_103 (by decide) ?_
          refine i_icmp_eq (tgt := 117) dX11_attribute_105 (by decide) q15 ⟨by decide, by decide⟩ (fun h16 => ?_) (fun h16 => ?_)
          · have hw := hw.1 h16
            refine z_loc (L' := [(0, .ref (G.1 + 54)), (1, .int (Int32.ofInt (l1))), (2, .int (Int32.ofInt (l2))), (3, .int (Int32.ofInt (l3))), (4, .int (Int32.ofInt (r5)))]) (List.forall_mem_cons.mpr ⟨rfl, (List.forall_mem_cons.mpr ⟨rfl, (List.forall_mem_cons.mpr ⟨rfl, (List.forall_mem_cons.mpr ⟨rfl, (List.forall_mem_cons.mpr ⟨rfl, (fun _ h => nomatch h)⟩)⟩)⟩)⟩)⟩) ?_
            exact bX11_attribute_117 hd hJ hT hW hP  hw
          · have hw := hw.2 h16
            refine z_aload_n dX11_attribute_108 rfl rfl ?_
            refine z_iload_n dX11_attribute_109 rfl rfl ?_
            refine z_iconst (v := Int32.ofInt 1) dX11_attribute_110 rfl ?_
            refine i_iadd dX11_attribute_111 ?_
            have hX := lX11_fail 0 (Nat.le_refl _) hJ hT hW q4 hw
            refine z_callV (As := [_]) eX11_fail sX11_fail lX11_362 rfl dX11_attribute_112 (hW.1 _ _ hT.1) hX (Nat.le_trans (by decide) hd) rfl (Nat.le_of_ble_eq_true rfl) (fun r cs hp => ?_)
            obtain ⟨r17, S18, rfl, hw, hW⟩ := hp
            refine z_st (st' := []) rfl ?_
            refine z_iload_n dX11_attribute_115 rfl rfl ?_
            exact z_ireturn dX11_attribute_116 rfl rfl (hP _ _ _ hw hW)
      · have hw := hw.2 h12
        refine z_loc (L' := [(0, .ref (G.1 + 54)), (3, .int (Int32.ofInt (l3)))]) (List.forall_mem_cons.mpr ⟨rfl, (List.forall_mem_cons.mpr ⟨rfl, (fun _ h => nomatch h)⟩)⟩) ?_
        exact bX11_attribute_87 hd hJ hT hW hP  hw
  · have hw := hw.2 h2
    refine z_aload_n dX11_attribute_23 rfl rfl ?_
    refine z_aload_n dX11_attribute_24 rfl rfl ?_
    refine g_getR hW hT.1 mr52 kX11 fX11_126 dX11_attribute_25 ?_
    refine z_iload dX11_attribute_28 rfl ?_
    obtain ⟨q19a, q19b, hw⟩ := hw
    have q20 : iv 0 3000 (S.2 92 (l4)) := mA92 hW _
    have hw := hw q20
    refine g_iald hW (ma92 hT) q19a q19b (by decide) dX11_attribute_30 ?_
    refine z_aload_n dX11_attribute_31 rfl rfl ?_
    refine g_getR hW hT.1 mr53 kX11 fX11_129 dX11_attribute_32 ?_
    refine z_iload dX11_attribute_35 rfl ?_
    obtain ⟨q21a, q21b, hw⟩ := hw
    have q22 : iv 0 3000 (S.2 93 (l4)) := mA93 hW _
    have hw := hw q22
    refine g_iald hW (ma93 hT) q21a q21b (by decide) dX11_attribute_37 ?_
    refine z_iload_n dX11_attribute_38 rfl rfl ?_
    refine z_iload_n dX11_attribute_39 rfl rfl ?_
    refine z_iload_n dX11_attribute_40 rfl rfl ?_
    refine i_isub dX11_attribute_41 ?_
    obtain ⟨q23, hw⟩ := hw
    obtain ⟨q24, hw⟩ := hw
    have hX := lX11_sameNames 0 (Nat.le_refl _) hJ hT hW (rngq q20 (by decide) (by decide)) (rngq q22 (by decide) (by decide)) q23 q24 hw
    refine z_callV (As := [_, _, _, _]) eX11_sameNames sX11_sameNames lX11_380 rfl dX11_attribute_42 (hW.1 _ _ hT.1) hX (Nat.le_trans (by decide) hd) rfl (Nat.le_of_ble_eq_true rfl) (fun r cs hp => ?_)
    obtain ⟨r25, S26, rfl, hw, hW⟩ := hp
    refine z_st (st' := [.int (Int32.ofInt (r25))]) rfl ?_
    obtain ⟨q28, hw⟩ := hw
    refine i_if_eq (tgt := 53) dX11_attribute_45 (by decide) q28 (fun h27 => ?_) (fun h27 => ?_)
    · have hw := hw.1 h27
      refine z_loc (L' := [(0, .ref (G.1 + 54)), (1, .int (Int32.ofInt (l1))), (2, .int (Int32.ofInt (l2))), (3, .int (Int32.ofInt (l3))), (4, .int (Int32.ofInt (l4)))]) (List.forall_mem_cons.mpr ⟨rfl, (List.forall_mem_cons.mpr ⟨rfl, (List.forall_mem_cons.mpr ⟨rfl, (List.forall_mem_cons.mpr ⟨rfl, (List.forall_mem_cons.mpr ⟨rfl, (fun _ h => nomatch h)⟩)⟩)⟩)⟩)⟩) ?_
      exact bX11_attribute_53 hd hJ hT hW hP hB14 hw
    · have hw := hw.2 h27
      refine z_aload_n dX11_attribute_48 rfl rfl ?_
      refine z_iload_n dX11_attribute_49 rfl rfl ?_
      have hX := lX11_fail 0 (Nat.le_refl _) hJ hT hW q23 hw
      refine z_callV (As := [_]) eX11_fail sX11_fail lX11_362 rfl dX11_attribute_50 (hW.1 _ _ hT.1) hX (Nat.le_trans (by decide) hd) rfl (Nat.le_of_ble_eq_true rfl) (fun r cs hp => ?_)
      obtain ⟨r29, S30, rfl, hw, hW⟩ := hp
      refine z_st (st' := []) rfl ?_
      refine z_loc (L' := [(0, .ref (G.1 + 54)), (1, .int (Int32.ofInt (l1))), (2, .int (Int32.ofInt (l2))), (3, .int (Int32.ofInt (l3))), (4, .int (Int32.ofInt (l4)))]) (List.forall_mem_cons.mpr ⟨rfl, (List.forall_mem_cons.mpr ⟨rfl, (List.forall_mem_cons.mpr ⟨rfl, (List.forall_mem_cons.mpr ⟨rfl, (List.forall_mem_cons.mpr ⟨rfl, (fun _ h => nomatch h)⟩)⟩)⟩)⟩)⟩) ?_
      exact bX11_attribute_53 hd hJ hT hW hP hB14 hw
def wX11_attribute_14 (l1 l2 l3 l4 : Int) (S : St) (K : Int → St → Prop) : Prop := ∃ (Iv : Int → Int → Int → Int → St → Prop) (mu : Int → Int → Int → Int → St → Nat), Iv l1 l2 l3 l4 S ∧ ∀ (l1 l2 l3 l4 : Int) (S : St), Iv l1 l2 l3 l4 S → wX11_attribute_14' l1 l2 l3 l4 S K  (fun ml1 ml2 ml3 ml4 T => Iv ml1 ml2 ml3 ml4 T ∧ mu ml1 ml2 ml3 ml4 T < mu l1 l2 l3 l4 S)
set_option maxRecDepth 100000 in
set_option maxHeartbeats 4000000 in
theorem bX11_attribute_14 {G : xG} {sh : Nat → Option Sh} {J : St → List va_E → Prop} {d : Nat} {Post : xP} {l1 l2 l3 l4 : Int} {S : St} {cs : List va_E} {K : Int → St → Prop} (hd : 4 ≤ d) (hJ : Stb sh J) (hT : isM sh) (hW : Wd G sh mT J S cs) (hP : ∀ (v : Int) (S : St) (cs : List va_E), K v S → Wd G sh mT J S cs → Post (some (.int (Int32.ofInt v))) cs)  (hw : wX11_attribute_14 l1 l2 l3 l4 S K ) : Z (RX11, cX11_attribute, 7, some .int, false) G d Post 14 [(0, .ref (G.1 + 54)), (1, .int (Int32.ofInt (l1))), (2, .int (Int32.ofInt (l2))), (3, .int (Int32.ofInt (l3))), (4, .int (Int32.ofInt (l4)))] [] cs := by
  unfold wX11_attribute_14 at hw
  obtain ⟨Iv, mu, h0, hs⟩ := hw
  have key : ∀ (n : Nat) (l1 l2 l3 l4 : Int) (S : St) (cs : List va_E), mu l1 l2 l3 l4 S < n → Iv l1 l2 l3 l4 S → Wd G sh mT J S cs → Z (RX11, cX11_attribute, 7, some .int, false) G d Post 14 [(0, .ref (G.1 + 54)), (1, .int (Int32.ofInt (l1))), (2, .int (Int32.ofInt (l2))), (3, .int (Int32.ofInt (l3))), (4, .int (Int32.ofInt (l4)))] [] cs := by
    intro n
    induction n with
    | zero => intro l1 l2 l3 l4 S cs hn; exact absurd hn (Nat.not_lt_zero _)
    | succ n ih =>
      intro l1 l2 l3 l4 S cs hn hI hW
      exact bX11_attribute_14' hd hJ hT hW hP  (fun l1 l2 l3 l4 S cs hb hW => ih l1 l2 l3 l4 S cs (Nat.lt_of_lt_of_le hb.2 (Nat.le_of_lt_succ hn)) hb.1 hW) (hs l1 l2 l3 l4 S hI)
  exact key _ _ _ _ _ _ _ (Nat.lt_succ_self _) h0 hW
def wX11_attribute (a1 a2 : Int) (S : St) (K : Int → St → Prop) : Prop := rng a1 → rng a2 → (wX11_nameEnd (a1) S (fun r1 S2 => ((0 : Int) ≤ a2 ∧ a2 < (200 : Int) ∧ (iv 0 600 (S2.2 90 (a2)) → (∀ x5 : Int, x5 = S2.2 90 (a2) → wX11_attribute_14 (a1) (a2) (r1) (x5) S2 K)))))
set_option maxRecDepth 100000 in
set_option maxHeartbeats 4000000 in
theorem lX11_attribute {G : xG} {sh : Nat → Option Sh} {J : St → List va_E → Prop} {a1 a2 : Int} {S : St} {cs : List va_E} {K : Int → St → Prop} (d : Nat) (hd : 4 ≤ d) (hJ : Stb sh J) (hT : isM sh) (hW : Wd G sh mT J S cs) (g1 : rng a1) (g2 : rng a2) (hw : wX11_attribute a1 a2 S K) : X G yX11_attribute cX11_attribute 7 (some .int) d [.ref (G.1 + 54), .int (Int32.ofInt a1), .int (Int32.ofInt a2)] cs (qI G sh mT J K) := by
  refine X.of false (by decide +kernel) (by decide) (Nat.le_of_ble_eq_true rfl) ?_
  show Z (RX11, cX11_attribute, 7, some .int, false) G d _ 0 [(0, .ref (G.1 + 54)), (1, .int (Int32.ofInt a1)), (2, .int (Int32.ofInt a2))] [] cs
  have hP : ∀ (v : Int) (S : St) (cs : List va_E), K v S → Wd G sh mT J S cs → qI G sh mT J K (some (.int (Int32.ofInt v))) cs := fun v S cs a b => ⟨v, S, rfl, a, b⟩
  unfold wX11_attribute at hw
  have hw := hw g1 g2
  refine z_aload_n dX11_attribute_0 rfl rfl ?_
  refine z_iload_n dX11_attribute_1 rfl rfl ?_
  have hX := lX11_nameEnd 3 (Nat.le_refl _) hJ hT hW g1 hw
  refine z_callV (As := [_]) eX11_nameEnd sX11_nameEnd lX11_374 rfl dX11_attribute_2 (hW.1 _ _ hT.1) hX (Nat.le_trans (by decide) hd) rfl (Nat.le_of_ble_eq_true rfl) (fun r cs hp => ?_)
  obtain ⟨r1, S2, rfl, hw, hW⟩ := hp
  refine z_st (st' := [.int (Int32.ofInt (r1))]) rfl ?_
  refine z_istore_n dX11_attribute_5 rfl (by decide) ?_
  refine z_loc (L' := [(0, .ref (G.1 + 54)), (1, .int (Int32.ofInt (a1))), (2, .int (Int32.ofInt (a2))), (3, .int (Int32.ofInt (r1)))]) (List.forall_mem_cons.mpr ⟨rfl, (List.forall_mem_cons.mpr ⟨rfl, (List.forall_mem_cons.mpr ⟨rfl, (List.forall_mem_cons.mpr ⟨rfl, (fun _ h => nomatch h)⟩)⟩)⟩)⟩) ?_
  refine z_aload_n dX11_attribute_6 rfl rfl ?_
  refine g_getR hW hT.1 mr49 kX11 fX11_120 dX11_attribute_7 ?_
  refine z_iload_n dX11_attribute_10 rfl rfl ?_
  obtain ⟨q3a, q3b, hw⟩ := hw
  have q4 : iv 0 600 (S2.2 90 (a2)) := mA90 hW _
  have hw := hw q4
  refine g_iald hW (ma90 hT) q3a q3b (by decide) dX11_attribute_11 ?_
  obtain ⟨x5, hx5⟩ : ∃ x : Int, x = S2.2 90 (a2) := ⟨_, rfl⟩
  have hw := hw x5 hx5
  refine z_st (st' := [.int (Int32.ofInt x5)]) (by rw [hx5]) ?_
  have q6 : rng x5 := by rw [hx5]; exact (rngq q4 (by decide) (by decide))
  have q7 : iv 0 600 x5 := by rw [hx5]; exact q4
  refine z_istore dX11_attribute_12 (by decide) ?_
  refine z_loc (L' := [(0, .ref (G.1 + 54)), (1, .int (Int32.ofInt (a1))), (2, .int (Int32.ofInt (a2))), (3, .int (Int32.ofInt (r1))), (4, .int (Int32.ofInt (x5)))]) (List.forall_mem_cons.mpr ⟨rfl, (List.forall_mem_cons.mpr ⟨rfl, (List.forall_mem_cons.mpr ⟨rfl, (List.forall_mem_cons.mpr ⟨rfl, (List.forall_mem_cons.mpr ⟨rfl, (fun _ h => nomatch h)⟩)⟩)⟩)⟩)⟩) ?_
  refine z_loc (L' := [(0, .ref (G.1 + 54)), (1, .int (Int32.ofInt (a1))), (2, .int (Int32.ofInt (a2))), (3, .int (Int32.ofInt (r1))), (4, .int (Int32.ofInt (x5)))]) (List.forall_mem_cons.mpr ⟨rfl, (List.forall_mem_cons.mpr ⟨rfl, (List.forall_mem_cons.mpr ⟨rfl, (List.forall_mem_cons.mpr ⟨rfl, (List.forall_mem_cons.mpr ⟨rfl, (fun _ h => nomatch h)⟩)⟩)⟩)⟩)⟩) ?_
  exact bX11_attribute_14 hd hJ hT hW hP  hw

