def wX11_sameNames_53 (l1 l2 l3 l6 s0 : Int) (S : St) (K : Int → St → Prop) (B16 : Int → Int → Int → Int → Int → St → Prop) : Prop := B16 (l1) (l2) (l3) (s0) ((l6 + 1)) S
set_option maxRecDepth 100000 in
set_option maxHeartbeats 4000000 in
theorem bX11_sameNames_53 {G : xG} {sh : Nat → Option Sh} {J : St → List va_E → Prop} {d : Nat} {Post : xP} {l1 l2 l3 l6 s0 : Int} {S : St} {cs : List va_E} {K : Int → St → Prop} {B16 : Int → Int → Int → Int → Int → St → Prop} (hd : 0 ≤ d) (hJ : Stb sh J) (hT : isM sh) (hW : Wd G sh mT J S cs) (hP : ∀ (v : Int) (S : St) (cs : List va_E), K v S → Wd G sh mT J S cs → Post (some (.int (Int32.ofInt v))) cs) (hB16 : ∀ (l1 : Int) (l2 : Int) (l3 : Int) (l5 : Int) (l6 : Int) (S : St) (cs : List va_E), B16 l1 l2 l3 l5 l6 S → Wd G sh mT J S cs → Z (RX11, cX11_sameNames, 7, some .boolean, false) G d Post 16 [(0, .ref (G.1 + 54)), (1, .int (Int32.ofInt (l1))), (2, .int (Int32.ofInt (l2))), (3, .int (Int32.ofInt (l3))), (5, .int (Int32.ofInt (l5))), (6, .int (Int32.ofInt (l6)))] [] cs) (hw : wX11_sameNames_53 l1 l2 l3 l6 s0 S K B16) : Z (RX11, cX11_sameNames, 7, some .boolean, false) G d Post 53 [(0, .ref (G.1 + 54)), (1, .int (Int32.ofInt (l1))), (2, .int (Int32.ofInt (l2))), (3, .int (Int32.ofInt (l3))), (6, .int (Int32.ofInt (l6)))] [.int (Int32.ofInt (s0))] cs := by
  unfold wX11_sameNames_53 at hw
  refine z_istore dX11_sameNames_53 (by decide) ?_
  refine i_iinc (l := l6) dX11_sameNames_55 rfl (by decide) ?_
  refine z_goto (tgt := 16) dX11_sameNames_58 (by decide) ?_
  refine z_loc (L' := [(0, .ref (G.1 + 54)), (1, .int (Int32.ofInt (l1))), (2, .int (Int32.ofInt (l2))), (3, .int (Int32.ofInt (l3))), (5, .int (Int32.ofInt (s0))), (6, .int (Int32.ofInt ((l6 + 1))))]) (List.forall_mem_cons.mpr ⟨rfl, (List.forall_mem_cons.mpr ⟨rfl, (List.forall_mem_cons.mpr ⟨rfl, (List.forall_mem_cons.mpr ⟨rfl, (List.forall_mem_cons.mpr ⟨rfl, (List.forall_mem_cons.mpr ⟨rfl, (fun _ h => nomatch h)⟩)⟩)⟩)⟩)⟩)⟩) ?_
  exact hB16 _ _ _ _ _ _ _ hw hW
def wX11_sameNames_16' (l1 l2 l3 l5 l6 : Int) (S : St) (K : Int → St → Prop) (B16 : Int → Int → Int → Int → Int → St → Prop) : Prop := (rng (l6) ∧ (rng (l2) ∧ ((l2 ≤ l6 → (iv 0 1 (l5) ∧ K (l5) S)) ∧ ((¬ (l2 ≤ l6)) → (rng (l5) ∧ ((l5 = 0 → (iv 0 1 (l5) ∧ K (l5) S)) ∧ ((¬ (l5 = 0)) → ((0 : Int) ≤ (l1 + l6) ∧ (l1 + l6) < (3000 : Int) ∧ (iv (-2147483648) 2147483647 (S.2 84 ((l1 + l6))) → ((0 : Int) ≤ (l3 + l6) ∧ (l3 + l6) < (3000 : Int) ∧ (iv (-2147483648) 2147483647 (S.2 84 ((l3 + l6))) → ((¬ S.2 84 ((l1 + l6)) = S.2 84 ((l3 + l6)) → wX11_sameNames_53 (l1) (l2) (l3) (l6) (0) S K B16) ∧ ((¬ (¬ S.2 84 ((l1 + l6)) = S.2 84 ((l3 + l6)))) → wX11_sameNames_53 (l1) (l2) (l3) (l6) (1) S K B16)))))))))))))
set_option maxRecDepth 100000 in
set_option maxHeartbeats 4000000 in
theorem bX11_sameNames_16' {G : xG} {sh : Nat → Option Sh} {J : St → List va_E → Prop} {d : Nat} {Post : xP} {l1 l2 l3 l5 l6 : Int} {S : St} {cs : List va_E} {K : Int → St → Prop} {B16 : Int → Int → Int → Int → Int → St → Prop} (hd : 0 ≤ d) (hJ : Stb sh J) (hT : isM sh) (hW : Wd G sh mT J S cs) (hP : ∀ (v : Int) (S : St) (cs : List va_E), K v S → Wd G sh mT J S cs → Post (some (.int (Int32.ofInt v))) cs) (hB16 : ∀ (l1 : Int) (l2 : Int) (l3 : Int) (l5 : Int) (l6 : Int) (S : St) (cs : List va_E), B16 l1 l2 l3 l5 l6 S → Wd G sh mT J S cs → Z (RX11, cX11_sameNames, 7, some .boolean, false) G d Post 16 [(0, .ref (G.1 + 54)), (1, .int (Int32.ofInt (l1))), (2, .int (Int32.ofInt (l2))), (3, .int (Int32.ofInt (l3))), (5, .int (Int32.ofInt (l5))), (6, .int (Int32.ofInt (l6)))] [] cs) (hw : wX11_sameNames_16' l1 l2 l3 l5 l6 S K B16) : Z (RX11, cX11_sameNames, 7, some .boolean, false) G d Post 16 [(0, .ref (G.1 + 54)), (1, .int (Int32.ofInt (l1))), (2, .int (Int32.ofInt (l2))), (3, .int (Int32.ofInt (l3))), (5, .int (Int32.ofInt (l5))), (6, .int (Int32.ofInt (l6)))] [] cs := by
  unfold wX11_sameNames_16' at hw
  refine z_iload dX11_sameNames_16 rfl ?_
  refine z_iload_n dX11_sameNames_18 rfl rfl ?_
  obtain ⟨q2, hw⟩ := hw
  obtain ⟨q3, hw⟩ := hw
  refine i_icmp_ge (tgt := 61) dX11_sameNames_19 (by decide) q2 q3 (fun h1 => ?_) (fun h1 => ?_)
  · have hw := hw.1 h1
    refine z_iload dX11_sameNames_61 rfl ?_
    obtain ⟨q4, hw⟩ := hw
    exact z_ireturn dX11_sameNames_63 rfl (nar01 (b01 q4)) (hP _ _ _ hw hW)
  · have hw := hw.2 h1
    refine z_iload dX11_sameNames_22 rfl ?_
    obtain ⟨q6, hw⟩ := hw
    refine i_if_eq (tgt := 61) dX11_sameNames_24 (by decide) q6 (fun h5 => ?_) (fun h5 => ?_)
    · have hw := hw.1 h5
      refine z_iload dX11_sameNames_61 rfl ?_
      obtain ⟨q7, hw⟩ := hw
      exact z_ireturn dX11_sameNames_63 rfl (nar01 (b01 q7)) (hP _ _ _ hw hW)
    · have hw := hw.2 h5
      refine z_aload_n dX11_sameNames_27 rfl rfl ?_
      refine g_getR hW hT.1 mr42 kX11 fX11_102 dX11_sameNames_28 ?_
      refine z_iload_n dX11_sameNames_31 rfl rfl ?_
      refine z_iload dX11_sameNames_32 rfl ?_
      refine i_iadd dX11_sameNames_34 ?_
      obtain ⟨q8a, q8b, hw⟩ := hw
      have q9 : iv (-2147483648) 2147483647 (S.2 84 ((l1 + l6))) := mA84 hW _
      have hw := hw q9
      refine g_iald hW (ma84 hT) q8a q8b (by decide) dX11_sameNames_35 ?_
      refine z_aload_n dX11_sameNames_36 rfl rfl ?_
      refine g_getR hW hT.1 mr42 kX11 fX11_102 dX11_sameNames_37 ?_
      refine z_iload_n dX11_sameNames_40 rfl rfl ?_
      refine z_iload dX11_sameNames_41 rfl ?_
      refine i_iadd dX11_sameNames_43 ?_
      obtain ⟨q10a, q10b, hw⟩ := hw
      have q11 : iv (-2147483648) 2147483647 (S.2 84 ((l3 + l6))) := mA84 hW _
      have hw := hw q11
      refine g_iald hW (ma84 hT) q10a q10b (by decide) dX11_sameNames_44 ?_
      refine i_icmp_ne (tgt := 52) dX11_sameNames_45 (by decide) (rngq q9 (by decide) (by decide)) (rngq q11 (by decide) (by decide)) (fun h12 => ?_) (fun h12 => ?_)
      · have hw := hw.1 h12
        refine z_iconst (v := Int32.ofInt 0) dX11_sameNames_52 rfl ?_
        refine z_loc (L' := [(0, .ref (G.1 + 54)), (1, .int (Int32.ofInt (l1))), (2, .int (Int32.ofInt (l2))), (3, .int (Int32.ofInt (l3))), (6, .int (Int32.ofInt (l6)))]) (List.forall_mem_cons.mpr ⟨rfl, (List.forall_mem_cons.mpr ⟨rfl, (List.forall_mem_cons.mpr ⟨rfl, (List.forall_mem_cons.mpr ⟨rfl, (List.forall_mem_cons.mpr ⟨rfl, (fun _ h => nomatch h)⟩)⟩)⟩)⟩)⟩) ?_
        exact bX11_sameNames_53 hd hJ hT hW hP hB16 hw
      · have hw := hw.2 h12
        refine z_iconst (v := Int32.ofInt 1) dX11_sameNames_48 rfl ?_
        refine z_goto (tgt := 53) dX11_sameNames_49 (by decide) ?_
        refine z_loc (L' := [(0, .ref (G.1 + 54)), (1, .int (Int32.ofInt (l1))), (2, .int (Int32.ofInt (l2))), (3, .int (Int32.ofInt (l3))), (6, .int (Int32.ofInt (l6)))]) (List.forall_mem_cons.mpr ⟨rfl, (List.forall_mem_cons.mpr ⟨rfl, (List.forall_mem_cons.mpr ⟨rfl, (List.forall_mem_cons.mpr ⟨rfl, (List.forall_mem_cons.mpr ⟨rfl, (fun _ h => nomatch h)⟩)⟩)⟩)⟩)⟩) ?_
        exact bX11_sameNames_53 hd hJ hT hW hP hB16 hw
def wX11_sameNames_16 (l1 l2 l3 l5 l6 : Int) (S : St) (K : Int → St → Prop) : Prop := ∃ (Iv : Int → Int → Int → Int → Int → St → Prop) (mu : Int → Int → Int → Int → Int → St → Nat), Iv l1 l2 l3 l5 l6 S ∧ ∀ (l1 l2 l3 l5 l6 : Int) (S : St), Iv l1 l2 l3 l5 l6 S → wX11_sameNames_16' l1 l2 l3 l5 l6 S K  (fun ml1 ml2 ml3 ml5 ml6 T => Iv ml1 ml2 ml3 ml5 ml6 T ∧ mu ml1 ml2 ml3 ml5 ml6 T < mu l1 l2 l3 l5 l6 S)
set_option maxRecDepth 100000 in
set_option maxHeartbeats 4000000 in
theorem bX11_sameNames_16 {G : xG} {sh : Nat → Option Sh} {J : St → List va_E → Prop} {d : Nat} {Post : xP} {l1 l2 l3 l5 l6 : Int} {S : St} {cs : List va_E} {K : Int → St → Prop} (hd : 0 ≤ d) (hJ : Stb sh J) (hT : isM sh) (hW : Wd G sh mT J S cs) (hP : ∀ (v : Int) (S : St) (cs : List va_E), K v S → Wd G sh mT J S cs → Post (some (.int (Int32.ofInt v))) cs)  (hw : wX11_sameNames_16 l1 l2 l3 l5 l6 S K ) : Z (RX11, cX11_sameNames, 7, some .boolean, false) G d Post 16 [(0, .ref (G.1 + 54)), (1, .int (Int32.ofInt (l1))), (2, .int (Int32.ofInt (l2))), (3, .int (Int32.ofInt (l3))), (5, .int (Int32.ofInt (l5))), (6, .int (Int32.ofInt (l6)))] [] cs := by
  unfold wX11_sameNames_16 at hw
  obtain ⟨Iv, mu, h0, hs⟩ := hw
  have key : ∀ (n : Nat) (l1 l2 l3 l5 l6 : Int) (S : St) (cs : List va_E), mu l1 l2 l3 l5 l6 S < n → Iv l1 l2 l3 l5 l6 S → Wd G sh mT J S cs → Z (RX11, cX11_sameNames, 7, some .boolean, false) G d Post 16 [(0, .ref (G.1 + 54)), (1, .int (Int32.ofInt (l1))), (2, .int (Int32.ofInt (l2))), (3, .int (Int32.ofInt (l3))), (5, .int (Int32.ofInt (l5))), (6, .int (Int32.ofInt (l6)))] [] cs := by
    intro n
    induction n with
    | zero => intro l1 l2 l3 l5 l6 S cs hn; exact absurd hn (Nat.not_lt_zero _)
    | succ n ih =>
      intro l1 l2 l3 l5 l6 S cs hn hI hW
      exact bX11_sameNames_16' hd hJ hT hW hP  (fun l1 l2 l3 l5 l6 S cs hb hW => ih l1 l2 l3 l5 l6 S cs (Nat.lt_of_lt_of_le hb.2 (Nat.le_of_lt_succ hn)) hb.1 hW) (hs l1 l2 l3 l5 l6 S hI)
  exact key _ _ _ _ _ _ _ _ (Nat.lt_succ_self _) h0 hW
def wX11_sameNames_11 (l1 l2 l3 s0 : Int) (S : St) (K : Int → St → Prop) : Prop := wX11_sameNames_16 (l1) (l2) (l3) (s0) (0) S K
set_option maxRecDepth 100000 in
set_option maxHeartbeats 4000000 in
theorem bX11_sameNames_11 {G : xG} {sh : Nat → Option Sh} {J : St → List va_E → Prop} {d : Nat} {Post : xP} {l1 l2 l3 s0 : Int} {S : St} {cs : List va_E} {K : Int → St → Prop} (hd : 0 ≤ d) (hJ : Stb sh J) (hT : isM sh) (hW : Wd G sh mT J S cs) (hP : ∀ (v : Int) (S : St) (cs : List va_E), K v S → Wd G sh mT J S cs → Post (some (.int (Int32.ofInt v))) cs)  (hw : wX11_sameNames_11 l1 l2 l3 s0 S K ) : Z (RX11, cX11_sameNames, 7, some .boolean, false) G d Post 11 [(0, .ref (G.1 + 54)), (1, .int (Int32.ofInt (l1))), (2, .int (Int32.ofInt (l2))), (3, .int (Int32.ofInt (l3)))] [.int (Int32.ofInt (s0))] cs := by
  unfold wX11_sameNames_11 at hw
  refine z_istore dX11_sameNames_11 (by decide) ?_
  refine z_iconst (v := Int32.ofInt 0) dX11_sameNames_13 rfl ?_
  refine z_istore dX11_sameNames_14 (by decide) ?_
  refine z_loc (L' := [(0, .ref (G.1 + 54)), (1, .int (Int32.ofInt (l1))), (2, .int (Int32.ofInt (l2))), (3, .int (Int32.ofInt (l3))), (5, .int (Int32.ofInt (s0))), (6, .int (Int32.ofInt (0)))]) (List.forall_mem_cons.mpr ⟨rfl, (List.forall_mem_cons.mpr ⟨rfl, (List.forall_mem_cons.mpr ⟨rfl, (List.forall_mem_cons.mpr ⟨rfl, (List.forall_mem_cons.mpr ⟨rfl, (List.forall_mem_cons.mpr ⟨rfl, (fun _ h => nomatch h)⟩)⟩)⟩)⟩)⟩)⟩) ?_
  exact bX11_sameNames_16 hd hJ hT hW hP  hw
def wX11_sameNames (a1 a2 a3 a4 : Int) (S : St) (K : Int → St → Prop) : Prop := rng a1 → rng a2 → rng a3 → rng a4 → ((¬ a2 = a4 → wX11_sameNames_11 (a1) (a2) (a3) (0) S K) ∧ ((¬ (¬ a2 = a4)) → wX11_sameNames_11 (a1) (a2) (a3) (1) S K))
set_option maxRecDepth 100000 in
set_option maxHeartbeats 4000000 in
theorem lX11_sameNames {G : xG} {sh : Nat → Option Sh} {J : St → List va_E → Prop} {a1 a2 a3 a4 : Int} {S : St} {cs : List va_E} {K : Int → St → Prop} (d : Nat) (hd : 0 ≤ d) (hJ : Stb sh J) (hT : isM sh) (hW : Wd G sh mT J S cs) (g1 : rng a1) (g2 : rng a2) (g3 : rng a3) (g4 : rng a4) (hw : wX11_sameNames a1 a2 a3 a4 S K) : X G yX11_sameNames cX11_sameNames 7 (some .boolean) d [.ref (G.1 + 54), .int (Int32.ofInt a1), .int (Int32.ofInt a2), .int (Int32.ofInt a3), .int (Int32.ofInt a4)] cs (qI G sh mT J K) := by
  refine X.of false (by decide +kernel) (by decide) (Nat.le_of_ble_eq_true rfl) ?_
  show Z (RX11, cX11_sameNames, 7, some .boolean, false) G d _ 0 [(0, .ref (G.1 + 54)), (1, .int (Int32.ofInt a1)), (2, .int (Int32.ofInt a2)), (3, .int (Int32.ofInt a3)), (4, .int (Int32.ofInt a4))] [] cs
  have hP : ∀ (v : Int) (S : St) (cs : List va_E), K v S → Wd G sh mT J S cs → qI G sh mT J K (some (.int (Int32.ofInt v))) cs := fun v S cs a b => ⟨v, S, rfl, a, b⟩
  unfold wX11_sameNames at hw
  have hw := hw g1 g2 g3 g4
  refine z_iload_n dX11_sameNames_0 rfl rfl ?_
  refine z_iload dX11_sameNames_1 rfl ?_
  refine i_icmp_ne (tgt := 10) dX11_sameNames_3 (by decide) g2 g4 (fun h1 => ?_) (fun h1 => ?_)
  · have hw := hw.1 h1
    refine z_iconst (v := Int32.ofInt 0) dX11_sameNames_10 rfl ?_
    refine z_loc (L' := [(0, .ref (G.1 + 54)), (1, .int (Int32.ofInt (a1))), (2, .int (Int32.ofInt (a2))), (3, .int (Int32.ofInt (a3)))]) (List.forall_mem_cons.mpr ⟨rfl, (List.forall_mem_cons.mpr ⟨rfl, (List.forall_mem_cons.mpr ⟨rfl, (List.forall_mem_cons.mpr ⟨rfl, (fun _ h => nomatch h)⟩)⟩)⟩)⟩) ?_
    exact bX11_sameNames_11 hd hJ hT hW hP  hw
  · have hw := hw.2 h1
    refine z_iconst (v := Int32.ofInt 1) dX11_sameNames_6 rfl ?_
    refine z_goto (tgt := 11) dX11_sameNames_7 (by decide) ?_
    refine z_loc (L' := [(0, .ref (G.1 + 54)), (1, .int (Int32.ofInt (a1))), (2, .int (Int32.ofInt (a2))), (3, .int (Int32.ofInt (a3)))]) (List.forall_mem_cons.mpr ⟨rfl, (List.forall_mem_cons.mpr ⟨rfl, (List.forall_mem_cons.mpr ⟨rfl, (List.forall_mem_cons.mpr ⟨rfl, (fun _ h => nomatch h)⟩)⟩)⟩)⟩) ?_
    exact bX11_sameNames_11 hd hJ hT hW hP  hw

def wX11_attribute_87 (l3 : Int) (S : St) (K : Int → St → Prop) : Prop := (rng (l3) ∧ (wX11_fail (l3) S (fun r2 S3 => K (l3) S3)))
set_option maxRecDepth 100000 in
set_option maxHeartbeats 4000000 in
theorem bX11_attribute_87 {G : xG} {sh : Nat → Option Sh} {J : St → List va_E → Prop} {d : Nat} {Post : xP} {l3 : Int} {S : St} {cs : List va_E} {K : Int → St → Prop} (hd : 4 ≤ d) (hJ : Stb sh J) (hT : isM sh) (hW : Wd G sh mT J S cs) (hP : ∀ (v : Int) (S : St) (cs : List va_E), K v S → Wd G sh mT J S cs → Post (some (.int (Int32.ofInt v))) cs)  (hw : wX11_attribute_87 l3 S K ) : Z (RX11, cX11_attribute, 7, some .int, false) G d Post 87 [(0, .ref (G.1 + 54)), (3, .int (Int32.ofInt (l3)))] [] cs := by
  unfold wX11_attribute_87 at hw
  refine z_aload_n dX11_attribute_87 rfl rfl ?_
  refine z_iload_n dX11_attribute_88 rfl rfl ?_
  obtain ⟨q1, hw⟩ := hw
  have hX := lX11_fail 0 (Nat.le_refl _) hJ hT hW q1 hw
  refine z_callV (As := [_]) eX11_fail sX11_fail lX11_362 rfl dX11_attribute_89 (hW.1 _ _ hT.1) hX (Nat.le_trans (by decide) hd) rfl (Nat.le_of_ble_eq_true rfl) (fun r cs hp => ?_)
  obtain ⟨r2, S3, rfl, hw, hW⟩ := hp
  refine z_st (st' := []) rfl ?_
  refine z_iload_n dX11_attribute_92 rfl rfl ?_
  exact z_ireturn dX11_attribute_93 rfl rfl (hP _ _ _ hw hW)
def wX11_attribute_234 (l2 l3 l5 : Int) (S : St) (K : Int → St → Prop) : Prop := (iv 0 3000 (S.1 54 56) → ((0 : Int) ≤ l5 ∧ l5 < (600 : Int) ∧ (iv 0 3000 (S.2 94 (l5)) → ((0 : Int) ≤ l5 ∧ l5 < (600 : Int) ∧ (iv 0 3000 ((S.1 54 56 - S.2 94 (l5))) ∧ (∀ S5, S5 = pA S 95 (l5) ((S.1 54 56 - S.2 94 (l5))) → (iv 0 600 (S5.1 54 51) → (iv 0 600 ((S5.1 54 51 + 1)) ∧ (∀ S8, S8 = pI S5 54 51 ((S5.1 54 51 + 1)) → ((0 : Int) ≤ l2 ∧ l2 < (200 : Int) ∧ (iv 0 600 (S8.2 91 (l2)) → ((0 : Int) ≤ l2 ∧ l2 < (200 : Int) ∧ (iv 0 600 ((S8.2 91 (l2) + 1)) ∧ (∀ S13, S13 = pA S8 91 (l2) ((S8.2 91 (l2) + 1)) → K ((l3 + 1)) S13))))))))))))))
set_option maxRecDepth 100000 in
set_option maxHeartbeats 4000000 in
theorem bX11_attribute_234 {G : xG} {sh : Nat → Option Sh} {J : St → List va_E → Prop} {d : Nat} {Post : xP} {l2 l3 l5 : Int} {S : St} {cs : List va_E} {K : Int → St → Prop} (hd : 4 ≤ d) (hJ : Stb sh J) (hT : isM sh) (hW : Wd G sh mT J S cs) (hP : ∀ (v : Int) (S : St) (cs : List va_E), K v S → Wd G sh mT J S cs → Post (some (.int (Int32.ofInt v))) cs)  (hw : wX11_attribute_234 l2 l3 l5 S K ) : Z (RX11, cX11_attribute, 7, some .int, false) G d Post 234 [(0, .ref (G.1 + 54)), (2, .int (Int32.ofInt (l2))), (3, .int (Int32.ofInt (l3))), (5, .int (Int32.ofInt (l5)))] [] cs := by
  unfold wX11_attribute_234 at hw
  refine z_aload_n dX11_attribute_234 rfl rfl ?_
  refine g_getR hW hT.1 mr55 kX11 fX11_135 dX11_attribute_235 ?_
  refine z_iload dX11_attribute_238 rfl ?_
  refine z_aload_n dX11_attribute_240 rfl rfl ?_
  have q1 : iv 0 3000 (S.1 54 56) := mI56 hW
  have hw := hw q1
  refine g_getI hW hT.1 mr56 kX11 fX11_355 dX11_attribute_241 ?_
  refine z_aload_n dX11_attribute_244 rfl rfl ?_
  refine g_getR hW hT.1 mr54 kX11 fX11_132 dX11_attribute_245 ?_
  refine z_iload dX11_attribute_248 rfl ?_
  obtain ⟨q2a, q2b, hw⟩ := hw
  have q3 : iv 0 3000 (S.2 94 (l5)) := mA94 hW _
  have hw := hw q3
  refine g_iald hW (ma94 hT) q2a q2b (by decide) dX11_attribute_250 ?_
  refine i_isub dX11_attribute_251 ?_
  obtain ⟨q4a, q4b, hw⟩ := hw
  obtain ⟨q6, hw⟩ := hw
  refine g_iast hJ hW (ma95 hT) q4a q4b (by decide) q6 dX11_attribute_252 (fun cs hW => ?_)
  obtain ⟨S5, hS5⟩ : ∃ x, x = pA S 95 (l5) ((S.1 54 56 - S.2 94 (l5))) := ⟨_, rfl⟩
  rw [← hS5] at hW
  have hw := hw S5 hS5
  refine z_aload_n dX11_attribute_253 rfl rfl ?_
  refine z_dup dX11_attribute_254 rfl ?_
  have q7 : iv 0 600 (S5.1 54 51) := mI51 hW
  have hw := hw q7
  refine g_getI hW hT.1 mr51 kX11 fX11_377 dX11_attribute_255 ?_
  refine z_iconst (v := Int32.ofInt 1) dX11_attribute_258 rfl ?_
  refine i_iadd dX11_attribute_259 ?_
  obtain ⟨q9, hw⟩ := hw
  refine g_putI hJ hW hT.1 mr51 kX11 fX11_377 dX11_attribute_260 rfl rfl rfl q9 (fun cs hW => ?_)
  obtain ⟨S8, hS8⟩ : ∃ x, x = pI S5 54 51 ((S5.1 54 51 + 1)) := ⟨_, rfl⟩
  rw [← hS8] at hW
  have hw := hw S8 hS8
  refine z_aload_n dX11_attribute_263 rfl rfl ?_
  refine g_getR hW hT.1 mr50 kX11 fX11_123 dX11_attribute_264 ?_
  refine z_iload_n dX11_attribute_267 rfl rfl ?_
  refine z_dup2 dX11_attribute_268 rfl rfl ?_
  obtain ⟨q10a, q10b, hw⟩ := hw
  have q11 : iv 0 600 (S8.2 91 (l2)) := mA91 hW _
  have hw := hw q11
  refine g_iald hW (ma91 hT) q10a q10b (by decide) dX11_attribute_269 ?_
  refine z_iconst (v := Int32.ofInt 1) dX11_attribute_270 rfl ?_
  refine i_iadd dX11_attribute_271 ?_
  obtain ⟨q12a, q12b, hw⟩ := hw
  obtain ⟨q14, hw⟩ := hw
  refine g_iast hJ hW (ma91 hT) q12a q12b (by decide) q14 dX11_attribute_272 (fun cs hW => ?_)
  obtain ⟨S13, hS13⟩ : ∃ x, x = pA S8 91 (l2) ((S8.2 91 (l2) + 1)) := ⟨_, rfl⟩
  rw [← hS13] at hW
  have hw := hw S13 hS13
  refine z_iload_n dX11_attribute_273 rfl rfl ?_
  refine z_iconst (v := Int32.ofInt 1) dX11_attribute_274 rfl ?_
  refine i_iadd dX11_attribute_275 ?_
  exact z_ireturn dX11_attribute_276 rfl rfl (hP _ _ _ hw hW)
def wX11_attribute_231 (l2 l3 l4 l5 : Int) (S : St) (K : Int → St → Prop) (B156 : Int → Int → Int → Int → St → Prop) : Prop := B156 (l2) (l3) (l4) (l5) S
set_option maxRecDepth 100000 in
set_option maxHeartbeats 4000000 in
theorem bX11_attribute_231 {G : xG} {sh : Nat → Option Sh} {J : St → List va_E → Prop} {d : Nat} {Post : xP} {l2 l3 l4 l5 : Int} {S : St} {cs : List va_E} {K : Int → St → Prop} {B156 : Int → Int → Int → Int → St → Prop} (hd : 4 ≤ d) (hJ : Stb sh J) (hT : isM sh) (hW : Wd G sh mT J S cs) (hP : ∀ (v : Int) (S : St) (cs : List va_E), K v S → Wd G sh mT J S cs → Post (some (.int (Int32.ofInt v))) cs) (hB156 : ∀ (l2 : Int) (l3 : Int) (l4 : Int) (l5 : Int) (S : St) (cs : List va_E), B156 l2 l3 l4 l5 S → Wd G sh mT J S cs → Z (RX11, cX11_attribute, 7, some .int, false) G d Post 156 [(0, .ref (G.1 + 54)), (2, .int (Int32.ofInt (l2))), (3, .int (Int32.ofInt (l3))), (4, .int (Int32.ofInt (l4))), (5, .int (Int32.ofInt (l5)))] [] cs) (hw : wX11_attribute_231 l2 l3 l4 l5 S K B156) : Z (RX11, cX11_attribute, 7, some .int, false) G d Post 231 [(0, .ref (G.1 + 54)), (2, .int (Int32.ofInt (l2))), (3, .int (Int32.ofInt (l3))), (4, .int (Int32.ofInt (l4))), (5, .int (Int32.ofInt (l5)))] [] cs := by
  unfold wX11_attribute_231 at hw
  refine z_goto (tgt := 156) dX11_attribute_231 (by decide) ?_
  refine z_loc (L' := [(0, .ref (G.1 + 54)), (2, .int (Int32.ofInt (l2))), (3, .int (Int32.ofInt (l3))), (4, .int (Int32.ofInt (l4))), (5, .int (Int32.ofInt (l5)))]) (List.forall_mem_cons.mpr ⟨rfl, (List.forall_mem_cons.mpr ⟨rfl, (List.forall_mem_cons.mpr ⟨rfl, (List.forall_mem_cons.mpr ⟨rfl, (List.forall_mem_cons.mpr ⟨rfl, (fun _ h => nomatch h)⟩)⟩)⟩)⟩)⟩) ?_
  exact hB156 _ _ _ _ _ _ hw hW
def wX11_attribute_194 (l2 l3 l4 l5 : Int) (S : St) (K : Int → St → Prop) (B156 : Int → Int → Int → Int → St → Prop) : Prop := (rng (l3) ∧ (wX11_fail (l3) S (fun r2 S3 => wX11_attribute_231 (l2) (l3) (l4) (l5) S3 K B156)))
set_option maxRecDepth 100000 in
set_option maxHeartbeats 4000000 in
theorem bX11_attribute_194 {G : xG} {sh : Nat → Option Sh} {J : St → List va_E → Prop} {d : Nat} {Post : xP} {l2 l3 l4 l5 : Int} {S : St} {cs : List va_E} {K : Int → St → Prop} {B156 : Int → Int → Int → Int → St → Prop} (hd : 4 ≤ d) (hJ : Stb sh J) (hT : isM sh) (hW : Wd G sh mT J S cs) (hP : ∀ (v : Int) (S : St) (cs : List va_E), K v S → Wd G sh mT J S cs → Post (some (.int (Int32.ofInt v))) cs) (hB156 : ∀ (l2 : Int) (l3 : Int) (l4 : Int) (l5 : Int) (S : St) (cs : List va_E), B156 l2 l3 l4 l5 S → Wd G sh mT J S cs → Z (RX11, cX11_attribute, 7, some .int, false) G d Post 156 [(0, .ref (G.1 + 54)), (2, .int (Int32.ofInt (l2))), (3, .int (Int32.ofInt (l3))), (4, .int (Int32.ofInt (l4))), (5, .int (Int32.ofInt (l5)))] [] cs) (hw : wX11_attribute_194 l2 l3 l4 l5 S K B156) : Z (RX11, cX11_attribute, 7, some .int, false) G d Post 194 [(0, .ref (G.1 + 54)), (2, .int (Int32.ofInt (l2))), (3, .int (Int32.ofInt (l3))), (4, .int (Int32.ofInt (l4))), (5, .int (Int32.ofInt (l5)))] [] cs := by
  unfold wX11_attribute_194 at hw
  refine z_aload_n dX11_attribute_194 rfl rfl ?_
  refine z_iload_n dX11_attribute_195 rfl rfl ?_
  obtain ⟨q1, hw⟩ := hw
  have hX := lX11_fail 0 (Nat.le_refl _) hJ hT hW q1 hw
  refine z_callV (As := [_]) eX11_fail sX11_fail lX11_362 rfl dX11_attribute_196 (hW.1 _ _ hT.1) hX (Nat.le_trans (by decide) hd) rfl (Nat.le_of_ble_eq_true rfl) (fun r cs hp => ?_)
  obtain ⟨r2, S3, rfl, hw, hW⟩ := hp
  refine z_st (st' := []) rfl ?_
  refine z_goto (tgt := 231) dX11_attribute_199 (by decide) ?_
  refine z_loc (L' := [(0, .ref (G.1 + 54)), (2, .int (Int32.ofInt (l2))), (3, .int (Int32.ofInt (l3))), (4, .int (Int32.ofInt (l4))), (5, .int (Int32.ofInt (l5)))]) (List.forall_mem_cons.mpr ⟨rfl, (List.forall_mem_cons.mpr ⟨rfl, (List.forall_mem_cons.mpr ⟨rfl, (List.forall_mem_cons.mpr ⟨rfl, (List.forall_mem_cons.mpr ⟨rfl, (fun _ h => nomatch h)⟩)⟩)⟩)⟩)⟩) ?_
  exact bX11_attribute_231 hd hJ hT hW hP hB156 hw
def wX11_attribute_156' (l2 l3 l4 l5 : Int) (S : St) (K : Int → St → Prop) (B156 : Int → Int → Int → Int → St → Prop) : Prop := (iv (-2147483648) 2147483647 (S.1 54 59) → ((¬ S.1 54 59 = (-2) → wX11_attribute_234 (l2) (l3) (l5) S K) ∧ ((¬ (¬ S.1 54 59 = (-2))) → (rng (l3) ∧ (wX11_docAt (l3) S (fun r4 S5 => (rng (r4) ∧ (rng (l4) ∧ ((r4 = l4 → wX11_attribute_234 (l2) (l3) (l5) S5 K) ∧ ((¬ (r4 = l4)) → (wX11_docAt (l3) S5 (fun r9 S10 => (rng (r9) ∧ ((r9 < 0 → wX11_attribute_194 (l2) (l3) (l4) (l5) S10 K B156) ∧ ((¬ (r9 < 0)) → ((¬ r9 = 60 → ((¬ r9 = 38 → (wX11_keep (r9) ((-2)) S10 (fun r15 S16 => wX11_attribute_231 (l2) ((l3 + 1)) (l4) (l5) S16 K B156))) ∧ ((¬ (¬ r9 = 38)) → (wX11_reference (l3) ((-2)) S10 (fun r17 S18 => wX11_attribute_231 (l2) (r17) (l4) (l5) S18 K B156))))) ∧ ((¬ (¬ r9 = 60)) → wX11_attribute_194 (l2) (l3) (l4) (l5) S10 K B156)))))))))))))))))
set_option maxRecDepth 100000 in
set_option maxHeartbeats 4000000 in
theorem bX11_attribute_156' {G : xG} {sh : Nat → Option Sh} {J : St → List va_E → Prop} {d : Nat} {Post : xP} {l2 l3 l4 l5 : Int} {S : St} {cs : List va_E} {K : Int → St → Prop} {B156 : Int → Int → Int → Int → St → Prop} (hd : 4 ≤ d) (hJ : Stb sh J) (hT : isM sh) (hW : Wd G sh mT J S cs) (hP : ∀ (v : Int) (S : St) (cs : List va_E), K v S → Wd G sh mT J S cs → Post (some (.int (Int32.ofInt v))) cs) (hB156 : ∀ (l2 : Int) (l3 : Int) (l4 : Int) (l5 : Int) (S : St) (cs : List va_E), B156 l2 l3 l4 l5 S → Wd G sh mT J S cs → Z (RX11, cX11_attribute, 7, some .int, false) G d Post 156 [(0, .ref (G.1 + 54)), (2, .int (Int32.ofInt (l2))), (3, .int (Int32.ofInt (l3))), (4, .int (Int32.ofInt (l4))), (5, .int (Int32.ofInt (l5)))] [] cs) (hw : wX11_attribute_156' l2 l3 l4 l5 S K B156) : Z (RX11, cX11_attribute, 7, some .int, false) G d Post 156 [(0, .ref (G.1 + 54)), (2, .int (Int32.ofInt (l2))), (3, .int (Int32.ofInt (l3))), (4, .int (Int32.ofInt (l4))), (5, .int (Int32.ofInt (l5)))] [] cs := by
  unfold wX11_attribute_156' at hw
  refine z_aload_n dX11_attribute_156 rfl rfl ?_
  have q1 : iv (-2147483648) 2147483647 (S.1 54 59) := mI59 hW
  have hw := hw q1
  refine g_getI hW hT.1 mr59 kX11 fX11_343 dX11_attribute_157 ?_
  refine z_bipush (v := Int32.ofInt (-2)) dX11_attribute_160 (by decide) ?_
  refine i_icmp_ne (tgt := 234) dX11_attribute_162 (by decide) (rngq q1 (by decide) (by decide)) ⟨by decide, by decide⟩ (fun h2 => ?_) (fun h2 => ?_)
  · have hw := hw.1 h2
    refine z_loc (L' := [(0, .ref (G.1 + 54)), (2, .int (Int32.ofInt (l2))), (3, .int (Int32.ofInt (l3))), (5, .int (Int32.ofInt (l5)))]) (List.forall_mem_cons.mpr ⟨rfl, (List.forall_mem_cons.mpr ⟨rfl, (List.forall_mem_cons.mpr ⟨rfl, (List.forall_mem_cons.mpr ⟨rfl, (fun _ h => nomatch h)⟩)⟩)⟩)⟩) ?_
    exact bX11_attribute_234 hd hJ hT hW hP  hw
  · have hw := hw.2 h2
    refine z_aload_n dX11_attribute_165 rfl rfl ?_
    refine z_iload_n dX11_attribute_166 rfl rfl ?_
    obtain ⟨q3, hw⟩ := hw
    have hX := lX11_docAt 0 (Nat.le_refl _) hJ hT hW q3 hw
    refine z_callV (As := [_]) eX11_docAt sX11_docAt lX11_349 rfl dX11_attribute_167 (hW.1 _ _ hT.1) hX (Nat.le_trans (by decide) hd) rfl (Nat.le_of_ble_eq_true rfl) (fun r cs hp => ?_)
    obtain ⟨r4, S5, rfl, hw, hW⟩ := hp
    refine z_st (st' := [.int (Int32.ofInt (r4))]) rfl ?_
    refine z_iload dX11_attribute_170 rfl ?_
    obtain ⟨q7, hw⟩ := hw
    obtain ⟨q8, hw⟩ := hw
    refine i_icmp_eq (tgt := 234) dX11_attribute_172 (by decide) q7 q8 (fun h6 => ?_) (fun h6 => ?_)
    · have hw := hw.1 h6
      refine z_loc (L' := [(0, .ref (G.1 + 54)), (2, .int (Int32.ofInt (l2))), (3, .int (Int32.ofInt (l3))), (5, .int (Int32.ofInt (l5)))]) (List.forall_mem_cons.mpr ⟨rfl, (List.forall_mem_cons.mpr ⟨rfl, (List.forall_mem_cons.mpr ⟨rfl, (List.forall_mem_cons.mpr ⟨rfl, (fun _ h => nomatch h)⟩)⟩)⟩)⟩) ?_
      exact bX11_attribute_234 hd hJ hT hW hP  hw
    · have hw := hw.2 h6
      refine z_aload_n dX11_attribute_175 rfl rfl ?_
      refine z_iload_n dX11_attribute_176 rfl rfl ?_
      have hX := lX11_docAt 0 (Nat.le_refl _) hJ hT hW q3 hw
      refine z_callV (As := [_]) eX11_docAt sX11_docAt lX11_349 rfl dX11_attribute_177 (hW.1 _ _ hT.1) hX (Nat.le_trans (by decide) hd) rfl (Nat.le_of_ble_eq_true rfl) (fun r cs hp => ?_)
      obtain ⟨r9, S10, rfl, hw, hW⟩ := hp
      refine z_st (st' := [.int (Int32.ofInt (r9))]) rfl ?_
      refine z_istore dX11_attribute_180 (by decide) ?_
      refine z_iload dX11_attribute_182 rfl ?_
      obtain ⟨q12, hw⟩ := hw
      refine i_if_lt (tgt := 194) dX11_attribute_184 (by decide) q12 (fun h11 => ?_) (fun h11 => ?_)
      · have hw := hw.1 h11
        refine z_loc (L' := [(0, .ref (G.1 + 54)), (2, .int (Int32.ofInt (l2))), (3, .int (Int32.ofInt (l3))), (4, .int (Int32.ofInt (l4))), (5, .int (Int32.ofInt (l5)))]) (List.forall_mem_cons.mpr ⟨rfl, (List.forall_mem_cons.mpr ⟨rfl, (List.forall_mem_cons.mpr ⟨rfl, (List.forall_mem_cons.mpr ⟨rfl, (List.forall_mem_cons.mpr ⟨rfl, (fun _ h => nomatch h)⟩)⟩)⟩)⟩)⟩) ?_
        exact bX11_attribute_194 hd hJ hT hW hP hB156 hw
      · have hw := hw.2 h11
        refine z_iload dX11_attribute_187 rfl ?_
        refine z_bipush (v := Int32.ofInt 60) dX11_attribute_189 (by decide) ?_
        refine i_icmp_ne (tgt := 202) dX11_attribute_191 (by decide) q12 ⟨by decide, by decide⟩ (fun h13 => ?_) (fun h13 => ?_)
        · have hw := hw.1 h13
          refine z_iload dX11_attribute_202 rfl ?_
          refine z_bipush (v := Int32.ofInt 38) dX11_attribute_204 (by decide) ?_
          refine i_icmp_ne (tgt := 220) dX11_attribute_206 (by decide) q12 ⟨by decide, by decide⟩ (fun h14 => ?_) (fun h14 => ?_)
          · have hw := hw.1 h14
            refine z_aload_n dX11_attribute_220 rfl rfl ?_
            refine z_iload dX11_attribute_221 rfl ?_
            refine z_bipush (v := Int32.ofInt (-2)) dX11_attribute_223 (by decide) ?_
            have hX := lX11_keep 0 (Nat.le_refl _) hJ hT hW q12 ⟨by decide, by decide⟩ hw
            refine z_callV (As := [_, _]) eX11_keep sX11_keep lX11_365 rfl dX11_attribute_225 (hW.1 _ _ hT.1) hX (Nat.le_trans (by decide) hd) rfl (Nat.le_of_ble_eq_true rfl) (fun r cs hp => ?_)
            obtain ⟨r15, S16, rfl, hw, hW⟩ := hp
            refine z_st (st' := []) rfl ?_
            refine i_iinc (l := l3) dX11_attribute_228 rfl (by decide) ?_
            refine z_loc (L' := [(0, .ref (G.1 + 54)), (2, .int (Int32.ofInt (l2))), (3, .int (Int32.ofInt ((l3 + 1)))), (4, .int (Int32.ofInt (l4))), (5, .int (Int32.ofInt (l5)))]) (List.forall_mem_cons.mpr ⟨rfl, (List.forall_mem_cons.mpr ⟨rfl, (List.forall_mem_cons.mpr ⟨rfl, (List.forall_mem_cons.mpr ⟨rfl, (List.forall_mem_cons.mpr ⟨rfl, (fun _ h => nomatch h)⟩)⟩)⟩)⟩)⟩) ?_
            exact bX11_attribute_231 hd hJ hT hW hP hB156 hw
          · have hw := hw.2 h14
            refine z_aload_n dX11_attribute_209 rfl rfl ?_
            refine z_iload_n dX11_attribute_210 rfl rfl ?_
            refine z_bipush (v := Int32.ofInt (-2)) dX11_attribute_211 (by decide) ?_
            have hX := lX11_reference 2 (Nat.le_refl _) hJ hT hW q3 ⟨by decide, by decide⟩ hw
            refine z_callV (As := [_, _]) eX11_reference sX11_reference lX11_383 rfl dX11_attribute_213 (hW.1 _ _ hT.1) hX (Nat.le_trans (by decide) hd) rfl (Nat.le_of_ble_eq_true rfl) (fun r cs hp => ?_)
            obtain ⟨r17, S18, rfl, hw, hW⟩ := hp
            refine z_st (st' := [.int (Int32.ofInt (r17))]) rfl ?_
            refine z_istore_n dX11_attribute_216 rfl (by decide) ?_
            refine z_goto (tgt := 231) dX11_attribute_217 (by decide) ?_
            refine z_loc (L' := [(0, .ref (G.1 + 54)), (2, .int (Int32.ofInt (l2))), (3, .int (Int32.ofInt (r17))), (4, .int (Int32.ofInt (l4))), (5, .int (Int32.ofInt (l5)))]) (List.forall_mem_cons.mpr ⟨rfl, (List.forall_mem_cons.mpr ⟨rfl, (List.forall_mem_cons.mpr ⟨rfl, (List.forall_mem_cons.mpr ⟨rfl, (List.forall_mem_cons.mpr ⟨rfl, (fun _ h => nomatch h)⟩)⟩)⟩)⟩)⟩) ?_
            exact bX11_attribute_231 hd hJ hT hW hP hB156 hw
        · have hw := hw.2 h13
          refine z_loc (L' := [(0, .ref (G.1 + 54)), (2, .int (Int32.ofInt (l2))), (3, .int (Int32.ofInt (l3))), (4, .int (Int32.ofInt (l4))), (5, .int (Int32.ofInt (l5)))]) (List.forall_mem_cons.mpr ⟨rfl, (List.forall_mem_cons.mpr ⟨rfl, (List.forall_mem_cons.mpr ⟨rfl, (List.forall_mem_cons.mpr ⟨rfl, (List.forall_mem_cons.mpr ⟨rfl, (fun _ h => nomatch h)⟩)⟩)⟩)⟩)⟩) ?_
          exact bX11_attribute_194 hd hJ hT hW hP hB156 hw
def wX11_attribute_156 (l2 l3 l4 l5 : Int) (S : St) (K : Int → St → Prop) : Prop := ∃ (Iv : Int → Int → Int → Int → St → Prop) (mu : Int → Int → Int → Int → St → Nat), Iv l2 l3 l4 l5 S ∧ ∀ (l2 l3 l4 l5 : Int) (S : St), Iv l2 l3 l4 l5 S → wX11_attribute_156' l2 l3 l4 l5 S K  (fun ml2 ml3 ml4 ml5 T => Iv ml2 ml3 ml4 ml5 T ∧ mu ml2 ml3 ml4 ml5 T < mu l2 l3 l4 l5 S)
set_option maxRecDepth 100000 in
set_option maxHeartbeats 4000000 in
theorem bX11_attribute_156 {G : xG} {sh : Nat → Option Sh} {J : St → List va_E → Prop} {d : Nat} {Post : xP} {l2 l3 l4 l5 : Int} {S : St} {cs : List va_E} {K : Int → St → Prop} (hd : 4 ≤ d) (hJ : Stb sh J) (hT : isM sh) (hW : Wd G sh mT J S cs) (hP : ∀ (v : Int) (S : St) (cs : List va_E), K v S → Wd G sh mT J S cs → Post (some (.int (Int32.ofInt v))) cs)  (hw : wX11_attribute_156 l2 l3 l4 l5 S K ) : Z (RX11, cX11_attribute, 7, some .int, false) G d Post 156 [(0, .ref (G.1 + 54)), (2, .int (Int32.ofInt (l2))), (3, .int (Int32.ofInt (l3))), (4, .int (Int32.ofInt (l4))), (5, .int (Int32.ofInt (l5)))] [] cs := by
  unfold wX11_attribute_156 at hw
  obtain ⟨Iv, mu, h0, hs⟩ := hw
  have key : ∀ (n : Nat) (l2 l3 l4 l5 : Int) (S : St) (cs : List va_E), mu l2 l3 l4 l5 S < n → Iv l2 l3 l4 l5 S → Wd G sh mT J S cs → Z (RX11, cX11_attribute, 7, some .int, false) G d Post 156 [(0, .ref (G.1 + 54)), (2, .int (Int32.ofInt (l2))), (3, .int (Int32.ofInt (l3))), (4, .int (Int32.ofInt (l4))), (5, .int (Int32.ofInt (l5)))] [] cs := by
    intro n
    induction n with
    | zero => intro l2 l3 l4 l5 S cs hn; exact absurd hn (Nat.not_lt_zero _)
    | succ n ih =>
      intro l2 l3 l4 l5 S cs hn hI hW
      exact bX11_attribute_156' hd hJ hT hW hP  (fun l2 l3 l4 l5 S cs hb hW => ih l2 l3 l4 l5 S cs (Nat.lt_of_lt_of_le hb.2 (Nat.le_of_lt_succ hn)) hb.1 hW) (hs l2 l3 l4 l5 S hI)
  exact key _ _ _ _ _ _ _ (Nat.lt_succ_self _) h0 hW
def wX11_attribute_117 (l1 l2 l3 l4 : Int) (S : St) (K : Int → St → Prop) : Prop := (iv 0 600 (S.1 54 51) → ((0 : Int) ≤ S.1 54 51 ∧ S.1 54 51 < (600 : Int) ∧ (iv 0 3000 (l1) ∧ (∀ S3, S3 = pA S 92 (S.1 54 51) (l1) → ((0 : Int) ≤ S.1 54 51 ∧ S.1 54 51 < (600 : Int) ∧ (iv 0 3000 ((l3 - l1)) ∧ (∀ S6, S6 = pA S3 93 (S.1 54 51) ((l3 - l1)) → (iv 0 3000 (S6.1 54 56) → ((0 : Int) ≤ S.1 54 51 ∧ S.1 54 51 < (600 : Int) ∧ (∀ S10, S10 = pA S6 94 (S.1 54 51) (S6.1 54 56) → wX11_attribute_156 (l2) ((l3 + 2)) (l4) (S.1 54 51) S10 K))))))))))
set_option maxRecDepth 100000 in
set_option maxHeartbeats 4000000 in
theorem bX11_attribute_117 {G : xG} {sh : Nat → Option Sh} {J : St → List va_E → Prop} {d : Nat} {Post : xP} {l1 l2 l3 l4 : Int} {S : St} {cs : List va_E} {K : Int → St → Prop} (hd : 4 ≤ d) (hJ : Stb sh J) (hT : isM sh) (hW : Wd G sh mT J S cs) (hP : ∀ (v : Int) (S : St) (cs : List va_E), K v S → Wd G sh mT J S cs → Post (some (.int (Int32.ofInt v))) cs)  (hw : wX11_attribute_117 l1 l2 l3 l4 S K ) : Z (RX11, cX11_attribute, 7, some .int, false) G d Post 117 [(0, .ref (G.1 + 54)), (1, .int (Int32.ofInt (l1))), (2, .int (Int32.ofInt (l2))), (3, .int (Int32.ofInt (l3))), (4, .int (Int32.ofInt (l4)))] [] cs := by
  unfold wX11_attribute_117 at hw
  refine z_aload_n dX11_attribute_117 rfl rfl ?_
  have q1 : iv 0 600 (S.1 54 51) := mI51 hW
  have hw := hw q1
  refine g_getI hW hT.1 mr51 kX11 fX11_377 dX11_attribute_118 ?_
  refine z_istore dX11_attribute_121 (by decide) ?_
  refine z_aload_n dX11_attribute_123 rfl rfl ?_
  refine g_getR hW hT.1 mr52 kX11 fX11_126 dX11_attribute_124 ?_
  refine z_iload dX11_attribute_127 rfl ?_
  refine z_iload_n dX11_attribute_129 rfl rfl ?_
  obtain ⟨q2a, q2b, hw⟩ := hw
  obtain ⟨q4, hw⟩ := hw
  refine g_iast hJ hW (ma92 hT) q2a q2b (by decide) q4 dX11_attribute_130 (fun cs hW => ?_)
  obtain ⟨S3, hS3⟩ : ∃ x, x = pA S 92 (S.1 54 51) (l1) := ⟨_, rfl⟩
  rw [← hS3] at hW
  have hw := hw S3 hS3
  refine z_aload_n dX11_attribute_131 rfl rfl ?_
  refine g_getR hW hT.1 mr53 kX11 fX11_129 dX11_attribute_132 ?_
  refine z_iload dX11_attribute_135 rfl ?_
  refine z_iload_n dX11_attribute_137 rfl rfl ?_
  refine z_iload_n dX11_attribute_138 rfl rfl ?_
  refine i_isub dX11_attribute_139 ?_
  obtain ⟨q5a, q5b, hw⟩ := hw
  obtain ⟨q7, hw⟩ := hw
  refine g_iast hJ hW (ma93 hT) q5a q5b (by decide) q7 dX11_attribute_140 (fun cs hW => ?_)
  obtain ⟨S6, hS6⟩ : ∃ x, x = pA S3 93 (S.1 54 51) ((l3 - l1)) := ⟨_, rfl⟩
  rw [← hS6] at hW
  have hw := hw S6 hS6
  refine z_aload_n dX11_attribute_141 rfl rfl ?_
  refine g_getR hW hT.1 mr54 kX11 fX11_132 dX11_attribute_142 ?_
  refine z_iload dX11_attribute_145 rfl ?_
  refine z_aload_n dX11_attribute_147 rfl rfl ?_
  have q8 : iv 0 3000 (S6.1 54 56) := mI56 hW
  have hw := hw q8
  refine g_getI hW hT.1 mr56 kX11 fX11_355 dX11_attribute_148 ?_
  obtain ⟨q9a, q9b, hw⟩ := hw
  refine g_iast hJ hW (ma94 hT) q9a q9b (by decide) q8 dX11_attribute_151 (fun cs hW => ?_)
  obtain ⟨S10, hS10⟩ : ∃ x, x = pA S6 94 (S.1 54 51) (S6.1 54 56) := ⟨_, rfl⟩
  rw [← hS10] at hW
  have hw := hw S10 hS10
  refine z_iload_n dX11_attribute_152 rfl rfl ?_
  refine z_iconst (v := Int32.ofInt 2) dX11_attribute_153 rfl ?_
  refine i_iadd dX11_attribute_154 ?_
  refine z_istore_n dX11_attribute_155 rfl (by decide) ?_
  refine z_loc (L' := [(0, .ref (G.1 + 54)), (2, .int (Int32.ofInt (l2))), (3, .int (Int32.ofInt ((l3 + 2)))), (4, .int (Int32.ofInt (l4))), (5, .int (Int32.ofInt (S.1 54 51)))]) (List.forall_mem_cons.mpr ⟨rfl, (List.forall_mem_cons.mpr ⟨rfl, (List.forall_mem_cons.mpr ⟨rfl, (List.forall_mem_cons.mpr ⟨rfl, (List.forall_mem_cons.mpr ⟨rfl, (fun _ h => nomatch h)⟩)⟩)⟩)⟩)⟩) ?_
  exact bX11_attribute_156 hd hJ hT hW hP  hw
def wX11_attribute_53 (l1 l2 l3 l4 : Int) (S : St) (K : Int → St → Prop) (B14 : Int → Int → Int → Int → St → Prop) : Prop := B14 (l1) (l2) (l3) ((l4 + 1)) S
set_option maxRecDepth 100000 in
set_option maxHeartbeats 4000000 in
theorem bX11_attribute_53 {G : xG} {sh : Nat → Option Sh} {J : St → List va_E → Prop} {d : Nat} {Post : xP} {l1 l2 l3 l4 : Int} {S : St} {cs : List va_E} {K : Int → St → Prop} {B14 : Int → Int → Int → Int → St → Prop} (hd : 4 ≤ d) (hJ : Stb sh J) (hT : isM sh) (hW : Wd G sh mT J S cs) (hP : ∀ (v : Int) (S : St) (cs : List va_E), K v S → Wd G sh mT J S cs → Post (some (.int (Int32.ofInt v))) cs) (hB14 : ∀ (l1 : Int) (l2 : Int) (l3 : Int) (l4 : Int) (S : St) (cs : List va_E), B14 l1 l2 l3 l4 S → Wd G sh mT J S cs → Z (RX11, cX11_attribute, 7, some .int, false) G d Post 14 [(0, .ref (G.1 + 54)), (1, .int (Int32.ofInt (l1))), (2, .int (Int32.ofInt (l2))), (3, .int (Int32.ofInt (l3))), (4, .int (Int32.ofInt (l4)))] [] cs) (hw : wX11_attribute_53 l1 l2 l3 l4 S K B14) : Z (RX11, cX11_attribute, 7, some .int, false) G d Post 53 [(0, .ref (G.1 + 54)), (1, .int (Int32.ofInt (l1))), (2, .int (Int32.ofInt (l2))), (3, .int (Int32.ofInt (l3))), (4, .int (Int32.ofInt (l4)))] [] cs := by
  unfold wX11_attribute_53 at hw
  refine i_iinc (l := l4) dX11_attribute_53 rfl (by decide) ?_
  refine z_goto (tgt := 14) dX11_attribute_56 (by decide) ?_
  refine z_loc (L' := [(0, .ref (G.1 + 54)), (1, .int (Int32.ofInt (l1))), (2, .int (Int32.ofInt (l2))), (3, .int (Int32.ofInt (l3))), (4, .int (Int32.ofInt ((l4 + 1))))]) (List.forall_mem_cons.mpr ⟨rfl, (List.forall_mem_cons.mpr ⟨rfl, (List.forall_mem_cons.mpr ⟨rfl, (List.forall_mem_cons.mpr ⟨rfl, (List.forall_mem_cons.mpr ⟨rfl, (fun _ h => nomatch h)⟩)⟩)⟩)⟩)⟩) ?_
  exact hB14 _ _ _ _ _ _ hw hW
def wX11_attribute_14' (l1 l2 l3 l4 : Int) (S : St) (K : Int → St → Prop) (B14 : Int → Int → Int → Int → St → Prop) : Prop := (iv 0 600 (S.1 54 51) → (rng (l4) ∧ ((S.1 54 51 ≤ l4 → (rng ((l3 + 1)) ∧ (wX11_docAt ((l3 + 1)) S (fun r5 S6 => (iv (-2147483648) 2147483647 (S6.1 54 59) → ((¬ S6.1 54 59 = (-2) → wX11_attribute_87 (l3) S6 K) ∧ ((¬ (¬ S6.1 54 59 = (-2))) → (rng (l3) ∧ (wX11_docAt (l3) S6 (fun r10 S11 => (rng (r10) ∧ ((r10 = 61 → (rng (r5) ∧ ((r5 = 34 → wX11_attribute_117 (l1) (l2) (l3) (r5) S11 K) ∧ ((¬ (r5 = 34)) → ((r5 = 39 → wX11_attribute_117 (l1) (l2) (l3) (r5) S11 K) ∧ ((¬ (r5 = 39)) → (wX11_fail ((l3 + 1)) S11 (fun r17 S18 => K (l3) S18)))))))) ∧ ((¬ (r10 = 61)) → wX11_attribute_87 (l3) S11 K))))))))))))) ∧ ((¬ (S.1 54 51 ≤ l4)) → ((0 : Int) ≤ l4 ∧ l4 < (600 : Int) ∧ (iv 0 3000 (S.2 92 (l4)) → ((0 : Int) ≤ l4 ∧ l4 < (600 : Int) ∧ (iv 0 3000 (S.2 93 (l4)) → (rng (l1) ∧ (rng ((l3 - l1)) ∧ (wX11_sameNames (S.2 92 (l4)) (S.2 93 (l4)) (l1) ((l3 - l1)) S (fun r25 S26 => (rng (r25) ∧ ((r25 = 0 → wX11_attribute_53 (l1) (l2) (l3) (l4) S26 K B14) ∧ ((¬ (r25 = 0)) → (wX11_fail (l1) S26 (fun r29 S30 => wX11_attribute_53 (l1) (l2) (l3) (l4) S30 K B14)))))))))))))))))
set_option maxRecDepth 100000 in
set_option maxHeartbeats 4000000 in
theorem bX11_attribute_14' {G : xG} {sh : Nat → Option Sh} {J : St → List va_E → Prop} {d : Nat} {Post : xP} {l1 l2 l3 l4 : Int} {S : St} {cs : List va_E} {K : Int → St → Prop} {B14 : Int → Int → Int → Int → St → Prop} (hd : 4 ≤ d) (hJ : Stb sh J) (hT : isM sh) (hW : Wd G sh mT J S cs) (hP : ∀ (v : Int) (S : St) (cs : List va_E), K v S → Wd G sh mT J S cs → Post (some (.int (Int32.ofInt v))) cs) (hB14 : ∀ (l1 : Int) (l2 : Int) (l3 : Int) (l4 : Int) (S : St) (cs : List va_E), B14 l1 l2 l3 l4 S → Wd G sh mT J S cs → Z (RX11, cX11_attribute, 7, some .int, false) G d Post 14 [(0, .ref (G.1 + 54)), (1, .int (Int32.ofInt (l1))), (2, .int (Int32.ofInt (l2))), (3, .int (Int32.ofInt (l3))), (4, .int (Int32.ofInt (l4)))] [] cs) (hw : wX11_attribute_14' l1 l2 l3 l4 S K B14) : Z (RX11, cX11_attribute, 7, some .int, false) G d Post 14 [(0, .ref (G.1 + 54)), (1, .int (Int32.ofInt (l1))), (2, .int (Int32.ofInt (l2))), (3, .int (Int32.ofInt (l3))), (4, .int (Int32.ofInt (l4)))] [] cs := by
  unfold wX11_attribute_14' at hw
  refine z_iload dX11_attribute_14 rfl ?_
  refine z_aload_n dX11_attribute_16 rfl rfl ?_
  have q1 : iv 0 600 (S.1 54 51) := mI51 hW
  have hw := hw q1
  refine g_getI hW hT.1 mr51 kX11 fX11_377 dX11_attribute_17 ?_
  obtain ⟨q3, hw⟩ := hw
  refine i_icmp_ge (tgt := 59) dX11_attribute_20 (by decide) q3 (rngq q1 (by decide) (by decide)) (fun h2 => ?_) (fun h2 => ?_)
  · have hw := hw.1 h2
    refine z_aload_n dX11_attribute_59 rfl rfl ?_
    refine z_iload_n dX11_attribute_60 rfl rfl ?_
    refine z_iconst (v := Int32.ofInt 1) dX11_attribute_61 rfl ?_
    refine i_iadd dX11_attribute_62 ?_
    obtain ⟨q4, hw⟩ := hw
    have hX := lX11_docAt 0 (Nat.le_refl _) hJ hT hW q4 hw
    refine z_callV (As := [_]) eX11_docAt sX11_docAt lX11_349 rfl dX11_attribute_63 (hW.1 _ _ hT.1) hX (Nat.le_trans (by decide) hd) rfl (Nat.le_of_ble_eq_true rfl) (fun r cs hp => ?_)
    obtain ⟨r5, S6, rfl, hw, hW⟩ := hp
    refine z_st (st' := [.int (Int32.ofInt (r5))]) rfl ?_
    refine z_istore dX11_attribute_66 (by decide) ?_
    refine z_aload_n dX11_attribute_68 rfl rfl ?_
    have q7 : iv (-2147483648) 2147483647 (S6.1 54 59) := mI59 hW
    have hw := hw q7
    refine g_getI hW hT.1 mr59 kX11 fX11_343 dX11_attribute_69 ?_
    refine z_bipush (v := Int32.ofInt (-2)) dX11_attribute_72 (by decide) ?_
    refine i_icmp_ne (tgt := 87) dX11_attribute_74 (by decide) (rngq q7 (by decide) (by decide)) ⟨by decide, by decide⟩ (fun h8 => ?_) (fun h8 => ?_)
    · have hw := hw.1 h8
      refine z_loc (L' := [(0, .ref (G.1 + 54)), (3, .int (Int32.ofInt (l3)))]) (List.forall_mem_cons.mpr ⟨rfl, (List.forall_mem_cons.mpr ⟨rfl, (fun _ h => nomatch h)⟩)⟩) ?_
      exact bX11_attribute_87 hd hJ hT hW hP  hw
    · have hw := hw.2 h8
      refine z_aload_n dX11_attribute_77 rfl rfl ?_
      refine z_iload_n dX11_attribute_78 rfl rfl ?_
      obtain ⟨q9, hw⟩ := hw
      have hX := lX11_docAt 0 (Nat.le_refl _) hJ hT hW q9 hw
      refine z_callV (As := [_]) eX11_docAt sX11_docAt lX11_349 rfl dX11_attribute_79 (hW.1 _ _ hT.1) hX (Nat.le_trans (by decide) hd) rfl (Nat.le_of_ble_eq_true rfl) (fun r cs hp => ?_)
      obtain ⟨r10, S11, rfl, hw, hW⟩ := hp
      refine z_st (st' := [.int (Int32.ofInt (r10))]) rfl ?_
      refine z_bipush (v := Int32.ofInt 61) dX11_attribute_82 (by decide) ?_
      obtain ⟨q13, hw⟩ := hw
      refine i_icmp_eq (tgt := 94) dX11_attribute_84 (by decide) q13 ⟨by decide, by decide⟩ (fun h12 => ?_) (fun h12 => ?_)
      · have hw := hw.1 h12
        refine z_iload dX11_attribute_94 rfl ?_
        refine z_bipush (v := Int32.ofInt 34) dX11_attribute_96 (by decide) ?_
        obtain ⟨q15, hw⟩ := hw
        refine i_icmp_eq (tgt := 117) dX11_attribute_98 (by decide) q15 ⟨by decide, by decide⟩ (fun h14 => ?_) (fun h14 => ?_)
        · have hw := hw.1 h14
          refine z_loc (L' := [(0, .ref (G.1 + 54)), (1, .int (Int32.ofInt (l1))), (2, .int (Int32.ofInt (l2))), (3, .int (Int32.ofInt (l3))), (4, .int (Int32.ofInt (r5)))]) (List.forall_mem_cons.mpr ⟨rfl, (List.forall_mem_cons.mpr ⟨rfl, (List.forall_mem_cons.mpr ⟨rfl, (List.forall_mem_cons.mpr ⟨rfl, (List.forall_mem_cons.mpr ⟨rfl, (fun _ h => nomatch h)⟩)⟩)⟩)⟩)⟩) ?_
          exact bX11_attribute_117 hd hJ hT hW hP  hw
        · have hw := hw.2 h14
          refine z_iload dX11_attribute_101 rfl ?_
          refine z_bipush (v := Int32.ofInt 39) dX11_attribute_103 (by decide) ?_
          refine i_icmp_eq (tgt := 117) dX11_attribute_105 (by decide) q15 ⟨by decide, by decide⟩ (fun h16 => ?_) (fun h16 => ?_)
          · have hw := hw.1 h16
            refine z_loc (L' := [(0, .ref (G.1 + 54)), (1, .int (Int32.ofInt (l1))), (2, .int (Int32.ofInt (l2))), (3, .int (Int32.ofInt (l3))), (4, .int (Int32.ofInt (r5)))]) (List.forall_mem_cons.mpr ⟨rfl, (List.forall_mem_cons.mpr ⟨rfl, (List.forall_mem_cons.mpr ⟨rfl, (List.forall_mem_cons.mpr ⟨rfl, (List.forall_mem_cons.mpr ⟨rfl, (fun _ h => nomatch h)⟩)⟩)⟩)⟩)⟩) ?_
            exact bX11_attribute_117 hd hJ hT hW hP  hw
          · have hw := hw.2 h16
            refine z_aload_n dX11_attribute_108 rfl rfl ?_
            refine z_iload_n dX11_attribute_109 rfl rfl ?_
            refine z_iconst (v := Int32.ofInt 1) dX11_attribute_110 rfl ?_
            refine i_iadd dX11_attribute_111 ?_
            have hX := lX11_fail 0 (Nat.le_refl _) hJ hT hW q4 hw
            refine z_callV (As := [_]) eX11_fail sX11_fail lX11_362 rfl dX11_attribute_112 (hW.1 _ _ hT.1) hX (Nat.le_trans (by decide) hd) rfl (Nat.le_of_ble_eq_true rfl) (fun r cs hp => ?_)
            obtain ⟨r17, S18, rfl, hw, hW⟩ := hp
            refine z_st (st' := []) rfl ?_
            refine z_iload_n dX11_attribute_115 rfl rfl ?_
            exact z_ireturn dX11_attribute_116 rfl rfl (hP _ _ _ hw hW)
      · have hw := hw.2 h12
        refine z_loc (L' := [(0, .ref (G.1 + 54)), (3, .int (Int32.ofInt (l3)))]) (List.forall_mem_cons.mpr ⟨rfl, (List.forall_mem_cons.mpr ⟨rfl, (fun _ h => nomatch h)⟩)⟩) ?_
        exact bX11_attribute_87 hd hJ hT hW hP  hw
  · have hw := hw.2 h2
    refine z_aload_n dX11_attribute_23 rfl rfl ?_
    refine z_aload_n dX11_attribute_24 rfl rfl ?_
    refine g_getR hW hT.1 mr52 kX11 fX11_126 dX11_attribute_25 ?_
    refine z_iload dX11_attribute_28 rfl ?_
    obtain ⟨q19a, q19b, hw⟩ := hw
    have q20 : iv 0 3000 (S.2 92 (l4)) := mA92 hW _
    have hw := hw q20
    refine g_iald hW (ma92 hT) q19a q19b (by decide) dX11_attribute_30 ?_
    refine z_aload_n dX11_attribute_31 rfl rfl ?_
    refine g_getR hW hT.1 mr53 kX11 fX11_129 dX11_attribute_32 ?_
    refine z_iload dX11_attribute_35 rfl ?_
    obtain ⟨q21a, q21b, hw⟩ := hw
    have q22 : iv 0 3000 (S.2 93 (l4)) := mA93 hW _
    have hw := hw q22
    refine g_iald hW (ma93 hT) q21a q21b (by decide) dX11_attribute_37 ?_
    refine z_iload_n dX11_attribute_38 rfl rfl ?_
    refine z_iload_n dX11_attribute_39 rfl rfl ?_
    refine z_iload_n dX11_attribute_40 rfl rfl ?_
    refine i_isub dX11_attribute_41 ?_
    obtain ⟨q23, hw⟩ := hw
    obtain ⟨q24, hw⟩ := hw
    have hX := lX11_sameNames 0 (Nat.le_refl _) hJ hT hW (rngq q20 (by decide) (by decide)) (rngq q22 (by decide) (by decide)) q23 q24 hw
    refine z_callV (As := [_, _, _, _]) eX11_sameNames sX11_sameNames lX11_380 rfl dX11_attribute_42 (hW.1 _ _ hT.1) hX (Nat.le_trans (by decide) hd) rfl (Nat.le_of_ble_eq_true rfl) (fun r cs hp => ?_)
    obtain ⟨r25, S26, rfl, hw, hW⟩ := hp
    refine z_st (st' := [.int (Int32.ofInt (r25))]) rfl ?_
    obtain ⟨q28, hw⟩ := hw
    refine i_if_eq (tgt := 53) dX11_attribute_45 (by decide) q28 (fun h27 => ?_) (fun h27 => ?_)
    · have hw := hw.1 h27
      refine z_loc (L' := [(0, .ref (G.1 + 54)), (1, .int (Int32.ofInt (l1))), (2, .int (Int32.ofInt (l2))), (3, .int (Int32.ofInt (l3))), (4, .int (Int32.ofInt (l4)))]) (List.forall_mem_cons.mpr ⟨rfl, (List.forall_mem_cons.mpr ⟨rfl, (List.forall_mem_cons.mpr ⟨rfl, (List.forall_mem_cons.mpr ⟨rfl, (List.forall_mem_cons.mpr ⟨rfl, (fun _ h => nomatch h)⟩)⟩)⟩)⟩)⟩) ?_
      exact bX11_attribute_53 hd hJ hT hW hP hB14 hw
    · have hw := hw.2 h27
      refine z_aload_n dX11_attribute_48 rfl rfl ?_
      refine z_iload_n dX11_attribute_49 rfl rfl ?_
      have hX := lX11_fail 0 (Nat.le_refl _) hJ hT hW q23 hw
      refine z_callV (As := [_]) eX11_fail sX11_fail lX11_362 rfl dX11_attribute_50 (hW.1 _ _ hT.1) hX (Nat.le_trans (by decide) hd) rfl (Nat.le_of_ble_eq_true rfl) (fun r cs hp => ?_)
      obtain ⟨r29, S30, rfl, hw, hW⟩ := hp
      refine z_st (st' := []) rfl ?_
      refine z_loc (L' := [(0, .ref (G.1 + 54)), (1, .int (Int32.ofInt (l1))), (2, .int (Int32.ofInt (l2))), (3, .int (Int32.ofInt (l3))), (4, .int (Int32.ofInt (l4)))]) (List.forall_mem_cons.mpr ⟨rfl, (List.forall_mem_cons.mpr ⟨rfl, (List.forall_mem_cons.mpr ⟨rfl, (List.forall_mem_cons.mpr ⟨rfl, (List.forall_mem_cons.mpr ⟨rfl, (fun _ h => nomatch h)⟩)⟩)⟩)⟩)⟩) ?_
      exact bX11_attribute_53 hd hJ hT hW hP hB14 hw
def wX11_attribute_14 (l1 l2 l3 l4 : Int) (S : St) (K : Int → St → Prop) : Prop := ∃ (Iv : Int → Int → Int → Int → St → Prop) (mu : Int → Int → Int → Int → St → Nat), Iv l1 l2 l3 l4 S ∧ ∀ (l1 l2 l3 l4 : Int) (S : St), Iv l1 l2 l3 l4 S → wX11_attribute_14' l1 l2 l3 l4 S K  (fun ml1 ml2 ml3 ml4 T => Iv ml1 ml2 ml3 ml4 T ∧ mu ml1 ml2 ml3 ml4 T < mu l1 l2 l3 l4 S)
set_option maxRecDepth 100000 in
set_option maxHeartbeats 4000000 in
theorem bX11_attribute_14 {G : xG} {sh : Nat → Option Sh} {J : St → List va_E → Prop} {d : Nat} {Post : xP} {l1 l2 l3 l4 : Int} {S : St} {cs : List va_E} {K : Int → St → Prop} (hd : 4 ≤ d) (hJ : Stb sh J) (hT : isM sh) (hW : Wd G sh mT J S cs) (hP : ∀ (v : Int) (S : St) (cs : List va_E), K v S → Wd G sh mT J S cs → Post (some (.int (Int32.ofInt v))) cs)  (hw : wX11_attribute_14 l1 l2 l3 l4 S K ) : Z (RX11, cX11_attribute, 7, some .int, false) G d Post 14 [(0, .ref (G.1 + 54)), (1, .int (Int32.ofInt (l1))), (2, .int (Int32.ofInt (l2))), (3, .int (Int32.ofInt (l3))), (4, .int (Int32.ofInt (l4)))] [] cs := by
  unfold wX11_attribute_14 at hw
  obtain ⟨Iv, mu, h0, hs⟩ := hw
  have key : ∀ (n : Nat) (l1 l2 l3 l4 : Int) (S : St) (cs : List va_E), mu l1 l2 l3 l4 S < n → Iv l1 l2 l3 l4 S → Wd G sh mT J S cs → Z (RX11, cX11_attribute, 7, some .int, false) G d Post 14 [(0, .ref (G.1 + 54)), (1, .int (Int32.ofInt (l1))), (2, .int (Int32.ofInt (l2))), (3, .int (Int32.ofInt (l3))), (4, .int (Int32.ofInt (l4)))] [] cs := by
    intro n
    induction n with
    | zero => intro l1 l2 l3 l4 S cs hn; exact absurd hn (Nat.not_lt_zero _)
    | succ n ih =>
      intro l1 l2 l3 l4 S cs hn hI hW
      exact bX11_attribute_14' hd hJ hT hW hP  (fun l1 l2 l3 l4 S cs hb hW => ih l1 l2 l3 l4 S cs (Nat.lt_of_lt_of_le hb.2 (Nat.le_of_lt_succ hn)) hb.1 hW) (hs l1 l2 l3 l4 S hI)
  exact key _ _ _ _ _ _ _ (Nat.lt_succ_self _) h0 hW
def wX11_attribute (a1 a2 : Int) (S : St) (K : Int → St → Prop) : Prop := rng a1 → rng a2 → (wX11_nameEnd (a1) S (fun r1 S2 => ((0 : Int) ≤ a2 ∧ a2 < (200 : Int) ∧ (iv 0 600 (S2.2 90 (a2)) → wX11_attribute_14 (a1) (a2) (r1) (S2.2 90 (a2)) S2 K))))
set_option maxRecDepth 100000 in
set_option maxHeartbeats 4000000 in
theorem lX11_attribute {G : xG} {sh : Nat → Option Sh} {J : St → List va_E → Prop} {a1 a2 : Int} {S : St} {cs : List va_E} {K : Int → St → Prop} (d : Nat) (hd : 4 ≤ d) (hJ : Stb sh J) (hT : isM sh) (hW : Wd G sh mT J S cs) (g1 : rng a1) (g2 : rng a2) (hw : wX11_attribute a1 a2 S K) : X G yX11_attribute cX11_attribute 7 (some .int) d [.ref (G.1 + 54), .int (Int32.ofInt a1), .int (Int32.ofInt a2)] cs (qI G sh mT J K) := by
  refine X.of false (by decide +kernel) (by decide) (Nat.le_of_ble_eq_true rfl) ?_
  show Z (RX11, cX11_attribute, 7, some .int, false) G d _ 0 [(0, .ref (G.1 + 54)), (1, .int (Int32.ofInt a1)), (2, .int (Int32.ofInt a2))] [] cs
  have hP : ∀ (v : Int) (S : St) (cs : List va_E), K v S → Wd G sh mT J S cs → qI G sh mT J K (some (.int (Int32.ofInt v))) cs := fun v S cs a b => ⟨v, S, rfl, a, b⟩
  unfold wX11_attribute at hw
  have hw := hw g1 g2
  refine z_aload_n dX11_attribute_0 rfl rfl ?_
  refine z_iload_n dX11_attribute_1 rfl rfl ?_
  have hX := lX11_nameEnd 3 (Nat.le_refl _) hJ hT hW g1 hw
  refine z_callV (As := [_]) eX11_nameEnd sX11_nameEnd lX11_374 rfl dX11_attribute_2 (hW.1 _ _ hT.1) hX (Nat.le_trans (by decide) hd) rfl (Nat.le_of_ble_eq_true rfl) (fun r cs hp => ?_)
  obtain ⟨r1, S2, rfl, hw, hW⟩ := hp
  refine z_st (st' := [.int (Int32.ofInt (r1))]) rfl ?_
  refine z_istore_n dX11_attribute_5 rfl (by decide) ?_
  refine z_aload_n dX11_attribute_6 rfl rfl ?_
  refine g_getR hW hT.1 mr49 kX11 fX11_120 dX11_attribute_7 ?_
  refine z_iload_n dX11_attribute_10 rfl rfl ?_
  obtain ⟨q3a, q3b, hw⟩ := hw
  have q4 : iv 0 600 (S2.2 90 (a2)) := mA90 hW _
  have hw := hw q4
  refine g_iald hW (ma90 hT) q3a q3b (by decide) dX11_attribute_11 ?_
  refine z_istore dX11_attribute_12 (by decide) ?_
  refine z_loc (L' := [(0, .ref (G.1 + 54)), (1, .int (Int32.ofInt (a1))), (2, .int (Int32.ofInt (a2))), (3, .int (Int32.ofInt (r1))), (4, .int (Int32.ofInt (S2.2 90 (a2))))]) (List.forall_mem_cons.mpr ⟨rfl, (List.forall_mem_cons.mpr ⟨rfl, (List.forall_mem_cons.mpr ⟨rfl, (List.forall_mem_cons.mpr ⟨rfl, (List.forall_mem_cons.mpr ⟨rfl, (fun _ h => nomatch h)⟩)⟩)⟩)⟩)⟩) ?_
  exact bX11_attribute_14 hd hJ hT hW hP  hw

def wX11_becomes_236 (l5 s0 : Int) (S : St) (K : Int → St → Prop) : Prop := (rngL (s0) ∧ ((s0 < (-2147483648) → K (0) S) ∧ ((¬ (s0 < (-2147483648))) → (rngL (s0) ∧ ((s0 ≤ 2147483647 → ((0 : Int) ≤ l5 ∧ l5 < (360 : Int) ∧ (iv (-2147483648) 2147483647 (s0) ∧ (∀ S6, S6 = pA S 69 (l5) (s0) → K (1) S6)))) ∧ ((¬ (s0 ≤ 2147483647)) → K (0) S))))))
set_option maxRecDepth 100000 in
set_option maxHeartbeats 4000000 in
theorem bX11_becomes_236 {G : xG} {sh : Nat → Option Sh} {J : St → List va_E → Prop} {d : Nat} {Post : xP} {l5 s0 : Int} {S : St} {cs : List va_E} {K : Int → St → Prop} (hd : 1 ≤ d) (hJ : Stb sh J) (hT : isM sh) (hW : Wd G sh mT J S cs) (hP : ∀ (v : Int) (S : St) (cs : List va_E), K v S → Wd G sh mT J S cs → Post (some (.int (Int32.ofInt v))) cs)  (hw : wX11_becomes_236 l5 s0 S K ) : Z (RX11, cX11_becomes, 10, some .boolean, false) G d Post 236 [(0, .ref (G.1 + 54)), (5, .int (Int32.ofInt (l5)))] [.long (Int64.ofInt (s0))] cs := by
  unfold wX11_becomes_236 at hw
  refine z_lstore dX11_becomes_236 (by decide) ?_
  refine z_lload dX11_becomes_238 rfl ?_
  refine i_ldc2 (n := (-2147483648)) qX11_425 rfl dX11_becomes_240 ?_
  obtain ⟨q1, hw⟩ := hw
  refine i_lcmp_lt (tgt := 256) dX11_becomes_243 dX11_becomes_244 (by decide) q1 ⟨by decide, by decide⟩ (fun h2 => ?_) (fun h2 => ?_)
  · have hw := hw.1 h2
    refine z_iconst (v := Int32.ofInt 0) dX11_becomes_256 rfl ?_
    exact z_ireturn dX11_becomes_257 rfl (nar01 (by decide)) (hP _ _ _ hw hW)
  · have hw := hw.2 h2
    refine z_lload dX11_becomes_247 rfl ?_
    refine i_ldc2 (n := 2147483647) qX11_427 rfl dX11_becomes_249 ?_
    obtain ⟨q3, hw⟩ := hw
    refine i_lcmp_le (tgt := 258) dX11_becomes_252 dX11_becomes_253 (by decide) q3 ⟨by decide, by decide⟩ (fun h4 => ?_) (fun h4 => ?_)
    · have hw := hw.1 h4
      refine z_aload_n dX11_becomes_258 rfl rfl ?_
      refine g_getR hW hT.1 mr16 kX11 fX11_53 dX11_becomes_259 ?_
      refine z_iload dX11_becomes_262 rfl ?_
      refine z_lload dX11_becomes_264 rfl ?_
      refine i_l2i dX11_becomes_266 ?_
      obtain ⟨q5a, q5b, hw⟩ := hw
      obtain ⟨q7, hw⟩ := hw
      refine g_iast hJ hW (ma69 hT) q5a q5b (by decide) q7 dX11_becomes_267 (fun cs hW => ?_)
      obtain ⟨S6, hS6⟩ : ∃ x, x = pA S 69 (l5) (s0) := ⟨_, rfl⟩
      rw [← hS6] at hW
      have hw := hw S6 hS6
      refine z_iconst (v := Int32.ofInt 1) dX11_becomes_268 rfl ?_
      exact z_ireturn dX11_becomes_269 rfl (nar01 (by decide)) (hP _ _ _ hw hW)
    · have hw := hw.2 h4
      refine z_iconst (v := Int32.ofInt 0) dX11_becomes_256 rfl ?_
      exact z_ireturn dX11_becomes_257 rfl (nar01 (by decide)) (hP _ _ _ hw hW)
def wX11_becomes_171' (l5 l6 l7 l9 : Int) (S : St) (K : Int → St → Prop) (B171 : Int → Int → Int → Int → St → Prop) : Prop := (iv 0 3000 (S.1 54 67) → (rng (l9) ∧ ((S.1 54 67 ≤ l9 → (rng (l6) ∧ ((¬ l6 = 1 → wX11_becomes_236 (l5) (l7) S K) ∧ ((¬ (¬ l6 = 1)) → wX11_becomes_236 (l5) ((-l7)) S K)))) ∧ ((¬ (S.1 54 67 ≤ l9)) → ((0 : Int) ≤ l9 ∧ l9 < (3000 : Int) ∧ (iv (-2147483648) 2147483647 (S.2 104 (l9)) → (wX11_isDigit (S.2 104 (l9)) S (fun r8 S9 => (rng (r8) ∧ ((¬ r8 = 0 → ((0 : Int) ≤ l9 ∧ l9 < (3000 : Int) ∧ (iv (-2147483648) 2147483647 (S9.2 104 (l9)) → B171 (l5) (l6) ((((l7 * 10) + S9.2 104 (l9)) - 48)) ((l9 + 1)) S9))) ∧ ((¬ (¬ r8 = 0)) → K (0) S9)))))))))))
set_option maxRecDepth 100000 in
set_option maxHeartbeats 4000000 in
theorem bX11_becomes_171' {G : xG} {sh : Nat → Option Sh} {J : St → List va_E → Prop} {d : Nat} {Post : xP} {l5 l6 l7 l9 : Int} {S : St} {cs : List va_E} {K : Int → St → Prop} {B171 : Int → Int → Int → Int → St → Prop} (hd : 1 ≤ d) (hJ : Stb sh J) (hT : isM sh) (hW : Wd G sh mT J S cs) (hP : ∀ (v : Int) (S : St) (cs : List va_E), K v S → Wd G sh mT J S cs → Post (some (.int (Int32.ofInt v))) cs) (hB171 : ∀ (l5 : Int) (l6 : Int) (l7 : Int) (l9 : Int) (S : St) (cs : List va_E), B171 l5 l6 l7 l9 S → Wd G sh mT J S cs → Z (RX11, cX11_becomes, 10, some .boolean, false) G d Post 171 [(0, .ref (G.1 + 54)), (5, .int (Int32.ofInt (l5))), (6, .int (Int32.ofInt (l6))), (7, .long (Int64.ofInt (l7))), (9, .int (Int32.ofInt (l9)))] [] cs) (hw : wX11_becomes_171' l5 l6 l7 l9 S K B171) : Z (RX11, cX11_becomes, 10, some .boolean, false) G d Post 171 [(0, .ref (G.1 + 54)), (5, .int (Int32.ofInt (l5))), (6, .int (Int32.ofInt (l6))), (7, .long (Int64.ofInt (l7))), (9, .int (Int32.ofInt (l9)))] [] cs := by
  unfold wX11_becomes_171' at hw
  refine z_iload dX11_becomes_171 rfl ?_
  refine z_aload_n dX11_becomes_173 rfl rfl ?_
  have q1 : iv 0 3000 (S.1 54 67) := mI67 hW
  have hw := hw q1
  refine g_getI hW hT.1 mr67 kX11 fX11_420 dX11_becomes_174 ?_
  obtain ⟨q3, hw⟩ := hw
  refine i_icmp_ge (tgt := 222) dX11_becomes_177 (by decide) q3 (rngq q1 (by decide) (by decide)) (fun h2 => ?_) (fun h2 => ?_)
  · have hw := hw.1 h2
    refine z_iload dX11_becomes_222 rfl ?_
    refine z_iconst (v := Int32.ofInt 1) dX11_becomes_224 rfl ?_
    obtain ⟨q5, hw⟩ := hw
    refine i_icmp_ne (tgt := 234) dX11_becomes_225 (by decide) q5 ⟨by decide, by decide⟩ (fun h4 => ?_) (fun h4 => ?_)
    · have hw := hw.1 h4
      refine z_lload dX11_becomes_234 rfl ?_
      refine z_loc (L' := [(0, .ref (G.1 + 54)), (5, .int (Int32.ofInt (l5)))]) (List.forall_mem_cons.mpr ⟨rfl, (List.forall_mem_cons.mpr ⟨rfl, (fun _ h => nomatch h)⟩)⟩) ?_
      exact bX11_becomes_236 hd hJ hT hW hP  hw
    · have hw := hw.2 h4
      refine z_lload dX11_becomes_228 rfl ?_
      refine i_lneg dX11_becomes_230 ?_
      refine z_goto (tgt := 236) dX11_becomes_231 (by decide) ?_
      refine z_loc (L' := [(0, .ref (G.1 + 54)), (5, .int (Int32.ofInt (l5)))]) (List.forall_mem_cons.mpr ⟨rfl, (List.forall_mem_cons.mpr ⟨rfl, (fun _ h => nomatch h)⟩)⟩) ?_
      exact bX11_becomes_236 hd hJ hT hW hP  hw
  · have hw := hw.2 h2
    refine z_aload_n dX11_becomes_180 rfl rfl ?_
    refine g_getR hW hT.1 mr68 kX11 fX11_162 dX11_becomes_181 ?_
    refine z_iload dX11_becomes_184 rfl ?_
    obtain ⟨q6a, q6b, hw⟩ := hw
    have q7 : iv (-2147483648) 2147483647 (S.2 104 (l9)) := mA104 hW _
    have hw := hw q7
    refine g_iald hW (ma104 hT) q6a q6b (by decide) dX11_becomes_186 ?_
    have hX := lX11_isDigit 0 (Nat.le_refl _) hJ hT hW (rngq q7 (by decide) (by decide)) hw
    refine z_callS (As := [_]) eX11_isDigit sX11_isDigit lX11_189 dX11_becomes_187 hX (Nat.le_trans (by decide) hd) rfl (Nat.le_of_ble_eq_true rfl) (fun r cs hp => ?_)
    obtain ⟨r8, S9, rfl, hw, hW⟩ := hp
    refine z_st (st' := [.int (Int32.ofInt (r8))]) rfl ?_
    obtain ⟨q11, hw⟩ := hw
    refine i_if_ne (tgt := 195) dX11_becomes_190 (by decide) q11 (fun h10 => ?_) (fun h10 => ?_)
    · have hw := hw.1 h10
      refine z_lload dX11_becomes_195 rfl ?_
      refine i_ldc2 (n := 10) qX11_265 rfl dX11_becomes_197 ?_
      refine i_lmul dX11_becomes_200 ?_
      refine z_aload_n dX11_becomes_201 rfl rfl ?_
      refine g_getR hW hT.1 mr68 kX11 fX11_162 dX11_becomes_202 ?_
      refine z_iload dX11_becomes_205 rfl ?_
      obtain ⟨q12a, q12b, hw⟩ := hw
      have q13 : iv (-2147483648) 2147483647 (S9.2 104 (l9)) := mA104 hW _
      have hw := hw q13
      refine g_iald hW (ma104 hT) q12a q12b (by decide) dX11_becomes_207 ?_
      refine i_i2l dX11_becomes_208 (rngq q13 (by decide) (by decide)) ?_
      refine i_ladd dX11_becomes_209 ?_
      refine i_ldc2 (n := 48) qX11_423 rfl dX11_becomes_210 ?_
      refine i_lsub dX11_becomes_213 ?_
      refine z_lstore dX11_becomes_214 (by decide) ?_
      refine i_iinc (l := l9) dX11_becomes_216 rfl (by decide) ?_
      refine z_goto (tgt := 171) dX11_becomes_219 (by decide) ?_
      refine z_loc (L' := [(0, .ref (G.1 + 54)), (5, .int (Int32.ofInt (l5))), (6, .int (Int32.ofInt (l6))), (7, .long (Int64.ofInt ((((l7 * 10) + S9.2 104 (l9)) - 48)))), (9, .int (Int32.ofInt ((l9 + 1))))]) (List.forall_mem_cons.mpr ⟨rfl, (List.forall_mem_cons.mpr ⟨rfl, (List.forall_mem_cons.mpr ⟨rfl, (List.forall_mem_cons.mpr ⟨rfl, (List.forall_mem_cons.mpr ⟨rfl, (fun _ h => nomatch h)⟩)⟩)⟩)⟩)⟩) ?_
      exact hB171 _ _ _ _ _ _ hw hW
    · have hw := hw.2 h10
      refine z_iconst (v := Int32.ofInt 0) dX11_becomes_193 rfl ?_
      exact z_ireturn dX11_becomes_194 rfl (nar01 (by decide)) (hP _ _ _ hw hW)
def wX11_becomes_171 (l5 l6 l7 l9 : Int) (S : St) (K : Int → St → Prop) : Prop := ∃ (Iv : Int → Int → Int → Int → St → Prop) (mu : Int → Int → Int → Int → St → Nat), Iv l5 l6 l7 l9 S ∧ ∀ (l5 l6 l7 l9 : Int) (S : St), Iv l5 l6 l7 l9 S → wX11_becomes_171' l5 l6 l7 l9 S K  (fun ml5 ml6 ml7 ml9 T => Iv ml5 ml6 ml7 ml9 T ∧ mu ml5 ml6 ml7 ml9 T < mu l5 l6 l7 l9 S)
set_option maxRecDepth 100000 in
set_option maxHeartbeats 4000000 in
theorem bX11_becomes_171 {G : xG} {sh : Nat → Option Sh} {J : St → List va_E → Prop} {d : Nat} {Post : xP} {l5 l6 l7 l9 : Int} {S : St} {cs : List va_E} {K : Int → St → Prop} (hd : 1 ≤ d) (hJ : Stb sh J) (hT : isM sh) (hW : Wd G sh mT J S cs) (hP : ∀ (v : Int) (S : St) (cs : List va_E), K v S → Wd G sh mT J S cs → Post (some (.int (Int32.ofInt v))) cs)  (hw : wX11_becomes_171 l5 l6 l7 l9 S K ) : Z (RX11, cX11_becomes, 10, some .boolean, false) G d Post 171 [(0, .ref (G.1 + 54)), (5, .int (Int32.ofInt (l5))), (6, .int (Int32.ofInt (l6))), (7, .long (Int64.ofInt (l7))), (9, .int (Int32.ofInt (l9)))] [] cs := by
  unfold wX11_becomes_171 at hw
  obtain ⟨Iv, mu, h0, hs⟩ := hw
  have key : ∀ (n : Nat) (l5 l6 l7 l9 : Int) (S : St) (cs : List va_E), mu l5 l6 l7 l9 S < n → Iv l5 l6 l7 l9 S → Wd G sh mT J S cs → Z (RX11, cX11_becomes, 10, some .boolean, false) G d Post 171 [(0, .ref (G.1 + 54)), (5, .int (Int32.ofInt (l5))), (6, .int (Int32.ofInt (l6))), (7, .long (Int64.ofInt (l7))), (9, .int (Int32.ofInt (l9)))] [] cs := by
    intro n
    induction n with
    | zero => intro l5 l6 l7 l9 S cs hn; exact absurd hn (Nat.not_lt_zero _)
    | succ n ih =>
      intro l5 l6 l7 l9 S cs hn hI hW
      exact bX11_becomes_171' hd hJ hT hW hP  (fun l5 l6 l7 l9 S cs hb hW => ih l5 l6 l7 l9 S cs (Nat.lt_of_lt_of_le hb.2 (Nat.le_of_lt_succ hn)) hb.1 hW) (hs l5 l6 l7 l9 S hI)
  exact key _ _ _ _ _ _ _ (Nat.lt_succ_self _) h0 hW
def wX11_becomes_139 (l5 s0 : Int) (S : St) (K : Int → St → Prop) : Prop := (iv 0 3000 (S.1 54 67) → (rng (s0) ∧ ((S.1 54 67 = s0 → K (0) S) ∧ ((¬ (S.1 54 67 = s0)) → (rng ((S.1 54 67 - s0)) ∧ (((S.1 54 67 - s0) ≤ 10 → wX11_becomes_171 (l5) (s0) (0) (s0) S K) ∧ ((¬ ((S.1 54 67 - s0) ≤ 10)) → K (0) S)))))))
set_option maxRecDepth 100000 in
set_option maxHeartbeats 4000000 in
theorem bX11_becomes_139 {G : xG} {sh : Nat → Option Sh} {J : St → List va_E → Prop} {d : Nat} {Post : xP} {l5 s0 : Int} {S : St} {cs : List va_E} {K : Int → St → Prop} (hd : 1 ≤ d) (hJ : Stb sh J) (hT : isM sh) (hW : Wd G sh mT J S cs) (hP : ∀ (v : Int) (S : St) (cs : List va_E), K v S → Wd G sh mT J S cs → Post (some (.int (Int32.ofInt v))) cs)  (hw : wX11_becomes_139 l5 s0 S K ) : Z (RX11, cX11_becomes, 10, some .boolean, false) G d Post 139 [(0, .ref (G.1 + 54)), (5, .int (Int32.ofInt (l5)))] [.int (Int32.ofInt (s0))] cs := by
  unfold wX11_becomes_139 at hw
  refine z_istore dX11_becomes_139 (by decide) ?_
  refine z_aload_n dX11_becomes_141 rfl rfl ?_
  have q1 : iv 0 3000 (S.1 54 67) := mI67 hW
  have hw := hw q1
  refine g_getI hW hT.1 mr67 kX11 fX11_420 dX11_becomes_142 ?_
  refine z_iload dX11_becomes_145 rfl ?_
  obtain ⟨q3, hw⟩ := hw
  refine i_icmp_eq (tgt := 162) dX11_becomes_147 (by decide) (rngq q1 (by decide) (by decide)) q3 (fun h2 => ?_) (fun h2 => ?_)
  · have hw := hw.1 h2
    refine z_iconst (v := Int32.ofInt 0) dX11_becomes_162 rfl ?_
    exact z_ireturn dX11_becomes_163 rfl (nar01 (by decide)) (hP _ _ _ hw hW)
  · have hw := hw.2 h2
    refine z_aload_n dX11_becomes_150 rfl rfl ?_
    refine g_getI hW hT.1 mr67 kX11 fX11_420 dX11_becomes_151 ?_
    refine z_iload dX11_becomes_154 rfl ?_
    refine i_isub dX11_becomes_156 ?_
    refine z_bipush (v := Int32.ofInt 10) dX11_becomes_157 (by decide) ?_
    obtain ⟨q5, hw⟩ := hw
    refine i_icmp_le (tgt := 164) dX11_becomes_159 (by decide) q5 ⟨by decide, by decide⟩ (fun h4 => ?_) (fun h4 => ?_)
    · have hw := hw.1 h4
      refine z_lconst (v := Int64.ofInt 0) dX11_becomes_164 (by decide) ?_
      refine z_lstore dX11_becomes_165 (by decide) ?_
      refine z_iload dX11_becomes_167 rfl ?_
      refine z_istore dX11_becomes_169 (by decide) ?_
      refine z_loc (L' := [(0, .ref (G.1 + 54)), (5, .int (Int32.ofInt (l5))), (6, .int (Int32.ofInt (s0))), (7, .long (Int64.ofInt (0))), (9, .int (Int32.ofInt (s0)))]) (List.forall_mem_cons.mpr ⟨rfl, (List.forall_mem_cons.mpr ⟨rfl, (List.forall_mem_cons.mpr ⟨rfl, (List.forall_mem_cons.mpr ⟨rfl, (List.forall_mem_cons.mpr ⟨rfl, (fun _ h => nomatch h)⟩)⟩)⟩)⟩)⟩) ?_
      exact bX11_becomes_171 hd hJ hT hW hP  hw
    · have hw := hw.2 h4
      refine z_iconst (v := Int32.ofInt 0) dX11_becomes_162 rfl ?_
      exact z_ireturn dX11_becomes_163 rfl (nar01 (by decide)) (hP _ _ _ hw hW)
def wX11_becomes_138 (l5 : Int) (S : St) (K : Int → St → Prop) : Prop := wX11_becomes_139 (l5) (0) S K
set_option maxRecDepth 100000 in
set_option maxHeartbeats 4000000 in
theorem bX11_becomes_138 {G : xG} {sh : Nat → Option Sh} {J : St → List va_E → Prop} {d : Nat} {Post : xP} {l5 : Int} {S : St} {cs : List va_E} {K : Int → St → Prop} (hd : 1 ≤ d) (hJ : Stb sh J) (hT : isM sh) (hW : Wd G sh mT J S cs) (hP : ∀ (v : Int) (S : St) (cs : List va_E), K v S → Wd G sh mT J S cs → Post (some (.int (Int32.ofInt v))) cs)  (hw : wX11_becomes_138 l5 S K ) : Z (RX11, cX11_becomes, 10, some .boolean, false) G d Post 138 [(0, .ref (G.1 + 54)), (5, .int (Int32.ofInt (l5)))] [] cs := by
  unfold wX11_becomes_138 at hw
  refine z_iconst (v := Int32.ofInt 0) dX11_becomes_138 rfl ?_
  refine z_loc (L' := [(0, .ref (G.1 + 54)), (5, .int (Int32.ofInt (l5)))]) (List.forall_mem_cons.mpr ⟨rfl, (List.forall_mem_cons.mpr ⟨rfl, (fun _ h => nomatch h)⟩)⟩) ?_
  exact bX11_becomes_139 hd hJ hT hW hP  hw
def wX11_becomes_49' (l5 l6 : Int) (S : St) (K : Int → St → Prop) (B49 : Int → Int → St → Prop) : Prop := (iv 0 3000 (S.1 54 67) → (rng (l6) ∧ ((S.1 54 67 ≤ l6 → ((0 : Int) ≤ l5 ∧ l5 < (360 : Int) ∧ (iv (-2147483648) 2147483647 (S.1 54 67) ∧ (∀ S5, S5 = pA S 69 (l5) (S.1 54 67) → K (1) S5)))) ∧ ((¬ (S.1 54 67 ≤ l6)) → ((0 : Int) ≤ l6 ∧ l6 < (3000 : Int) ∧ (iv (-2147483648) 2147483647 (S.2 104 (l6)) → (wX11_in (S.2 104 (l6)) (32) (126) S (fun r9 S10 => (rng (r9) ∧ ((¬ r9 = 0 → ((0 : Int) ≤ l6 ∧ l6 < (3000 : Int) ∧ (iv (-2147483648) 2147483647 (S10.2 104 (l6)) → ((0 : Int) ≤ ((20 * l5) + l6) ∧ ((20 * l5) + l6) < (7200 : Int) ∧ (∀ S16, S16 = pA S10 70 (((20 * l5) + l6)) (S10.2 104 (l6)) → B49 (l5) ((l6 + 1)) S16))))) ∧ ((¬ (¬ r9 = 0)) → K (0) S10)))))))))))
set_option maxRecDepth 100000 in
set_option maxHeartbeats 4000000 in
theorem bX11_becomes_49' {G : xG} {sh : Nat → Option Sh} {J : St → List va_E → Prop} {d : Nat} {Post : xP} {l5 l6 : Int} {S : St} {cs : List va_E} {K : Int → St → Prop} {B49 : Int → Int → St → Prop} (hd : 1 ≤ d) (hJ : Stb sh J) (hT : isM sh) (hW : Wd G sh mT J S cs) (hP : ∀ (v : Int) (S : St) (cs : List va_E), K v S → Wd G sh mT J S cs → Post (some (.int (Int32.ofInt v))) cs) (hB49 : ∀ (l5 : Int) (l6 : Int) (S : St) (cs : List va_E), B49 l5 l6 S → Wd G sh mT J S cs → Z (RX11, cX11_becomes, 10, some .boolean, false) G d Post 49 [(0, .ref (G.1 + 54)), (5, .int (Int32.ofInt (l5))), (6, .int (Int32.ofInt (l6)))] [] cs) (hw : wX11_becomes_49' l5 l6 S K B49) : Z (RX11, cX11_becomes, 10, some .boolean, false) G d Post 49 [(0, .ref (G.1 + 54)), (5, .int (Int32.ofInt (l5))), (6, .int (Int32.ofInt (l6)))] [] cs := by
  unfold wX11_becomes_49' at hw
  refine z_iload dX11_becomes_49 rfl ?_
  refine z_aload_n dX11_becomes_51 rfl rfl ?_
  have q1 : iv 0 3000 (S.1 54 67) := mI67 hW
  have hw := hw q1
  refine g_getI hW hT.1 mr67 kX11 fX11_420 dX11_becomes_52 ?_
  obtain ⟨q3, hw⟩ := hw
  refine i_icmp_ge (tgt := 103) dX11_becomes_55 (by decide) q3 (rngq q1 (by decide) (by decide)) (fun h2 => ?_) (fun h2 => ?_)
  · have hw := hw.1 h2
    refine z_aload_n dX11_becomes_103 rfl rfl ?_
    refine g_getR hW hT.1 mr16 kX11 fX11_53 dX11_becomes_104 ?_
    refine z_iload dX11_becomes_107 rfl ?_
    refine z_aload_n dX11_becomes_109 rfl rfl ?_
    refine g_getI hW hT.1 mr67 kX11 fX11_420 dX11_becomes_110 ?_
    obtain ⟨q4a, q4b, hw⟩ := hw
    obtain ⟨q6, hw⟩ := hw
    refine g_iast hJ hW (ma69 hT) q4a q4b (by decide) q6 dX11_becomes_113 (fun cs hW => ?_)
    obtain ⟨S5, hS5⟩ : ∃ x, x = pA S 69 (l5) (S.1 54 67) := ⟨_, rfl⟩
    rw [← hS5] at hW
    have hw := hw S5 hS5
    refine z_iconst (v := Int32.ofInt 1) dX11_becomes_114 rfl ?_
    exact z_ireturn dX11_becomes_115 rfl (nar01 (by decide)) (hP _ _ _ hw hW)
  · have hw := hw.2 h2
    refine z_aload_n dX11_becomes_58 rfl rfl ?_
    refine g_getR hW hT.1 mr68 kX11 fX11_162 dX11_becomes_59 ?_
    refine z_iload dX11_becomes_62 rfl ?_
    obtain ⟨q7a, q7b, hw⟩ := hw
    have q8 : iv (-2147483648) 2147483647 (S.2 104 (l6)) := mA104 hW _
    have hw := hw q8
    refine g_iald hW (ma104 hT) q7a q7b (by decide) dX11_becomes_64 ?_
    refine z_bipush (v := Int32.ofInt 32) dX11_becomes_65 (by decide) ?_
    refine z_bipush (v := Int32.ofInt 126) dX11_becomes_67 (by decide) ?_
    have hX := lX11_in 0 (Nat.le_refl _) hJ hT hW (rngq q8 (by decide) (by decide)) ⟨by decide, by decide⟩ ⟨by decide, by decide⟩ hw
    refine z_callS (As := [_, _, _]) eX11_in sX11_in lX11_174 dX11_becomes_69 hX (Nat.le_trans (by decide) hd) rfl (Nat.le_of_ble_eq_true rfl) (fun r cs hp => ?_)
    obtain ⟨r9, S10, rfl, hw, hW⟩ := hp
    refine z_st (st' := [.int (Int32.ofInt (r9))]) rfl ?_
    obtain ⟨q12, hw⟩ := hw
    refine i_if_ne (tgt := 77) dX11_becomes_72 (by decide) q12 (fun h11 => ?_) (fun h11 => ?_)
    · have hw := hw.1 h11
      refine z_aload_n dX11_becomes_77 rfl rfl ?_
      refine g_getR hW hT.1 mr17 kX11 fX11_56 dX11_becomes_78 ?_
      refine z_bipush (v := Int32.ofInt 20) dX11_becomes_81 (by decide) ?_
      refine z_iload dX11_becomes_83 rfl ?_
      refine i_imul dX11_becomes_85 ?_
      refine z_iload dX11_becomes_86 rfl ?_
      refine i_iadd dX11_becomes_88 ?_
      refine z_aload_n dX11_becomes_89 rfl rfl ?_
      refine g_getR hW hT.1 mr68 kX11 fX11_162 dX11_becomes_90 ?_
      refine z_iload dX11_becomes_93 rfl ?_
      obtain ⟨q13a, q13b, hw⟩ := hw
      have q14 : iv (-2147483648) 2147483647 (S10.2 104 (l6)) := mA104 hW _
      have hw := hw q14
      refine g_iald hW (ma104 hT) q13a q13b (by decide) dX11_becomes_95 ?_
      obtain ⟨q15a, q15b, hw⟩ := hw
      refine g_iast hJ hW (ma70 hT) q15a q15b (by decide) q14 dX11_becomes_96 (fun cs hW => ?_)
      obtain ⟨S16, hS16⟩ : ∃ x, x = pA S10 70 (((20 * l5) + l6)) (S10.2 104 (l6)) := ⟨_, rfl⟩
      rw [← hS16] at hW
      have hw := hw S16 hS16
      refine i_iinc (l := l6) dX11_becomes_97 rfl (by decide) ?_
      refine z_goto (tgt := 49) dX11_becomes_100 (by decide) ?_
      refine z_loc (L' := [(0, .ref (G.1 + 54)), (5, .int (Int32.ofInt (l5))), (6, .int (Int32.ofInt ((l6 + 1))))]) (List.forall_mem_cons.mpr ⟨rfl, (List.forall_mem_cons.mpr ⟨rfl, (List.forall_mem_cons.mpr ⟨rfl, (fun _ h => nomatch h)⟩)⟩)⟩) ?_
      exact hB49 _ _ _ _ hw hW
    · have hw := hw.2 h11
      refine z_iconst (v := Int32.ofInt 0) dX11_becomes_75 rfl ?_
      exact z_ireturn dX11_becomes_76 rfl (nar01 (by decide)) (hP _ _ _ hw hW)
def wX11_becomes_49 (l5 l6 : Int) (S : St) (K : Int → St → Prop) : Prop := ∃ (Iv : Int → Int → St → Prop) (mu : Int → Int → St → Nat), Iv l5 l6 S ∧ ∀ (l5 l6 : Int) (S : St), Iv l5 l6 S → wX11_becomes_49' l5 l6 S K  (fun ml5 ml6 T => Iv ml5 ml6 T ∧ mu ml5 ml6 T < mu l5 l6 S)
set_option maxRecDepth 100000 in
set_option maxHeartbeats 4000000 in
theorem bX11_becomes_49 {G : xG} {sh : Nat → Option Sh} {J : St → List va_E → Prop} {d : Nat} {Post : xP} {l5 l6 : Int} {S : St} {cs : List va_E} {K : Int → St → Prop} (hd : 1 ≤ d) (hJ : Stb sh J) (hT : isM sh) (hW : Wd G sh mT J S cs) (hP : ∀ (v : Int) (S : St) (cs : List va_E), K v S → Wd G sh mT J S cs → Post (some (.int (Int32.ofInt v))) cs)  (hw : wX11_becomes_49 l5 l6 S K ) : Z (RX11, cX11_becomes, 10, some .boolean, false) G d Post 49 [(0, .ref (G.1 + 54)), (5, .int (Int32.ofInt (l5))), (6, .int (Int32.ofInt (l6)))] [] cs := by
  unfold wX11_becomes_49 at hw
  obtain ⟨Iv, mu, h0, hs⟩ := hw
  have key : ∀ (n : Nat) (l5 l6 : Int) (S : St) (cs : List va_E), mu l5 l6 S < n → Iv l5 l6 S → Wd G sh mT J S cs → Z (RX11, cX11_becomes, 10, some .boolean, false) G d Post 49 [(0, .ref (G.1 + 54)), (5, .int (Int32.ofInt (l5))), (6, .int (Int32.ofInt (l6)))] [] cs := by
    intro n
    induction n with
    | zero => intro l5 l6 S cs hn; exact absurd hn (Nat.not_lt_zero _)
    | succ n ih =>
      intro l5 l6 S cs hn hI hW
      exact bX11_becomes_49' hd hJ hT hW hP  (fun l5 l6 S cs hb hW => ih l5 l6 S cs (Nat.lt_of_lt_of_le hb.2 (Nat.le_of_lt_succ hn)) hb.1 hW) (hs l5 l6 S hI)
  exact key _ _ _ _ _ (Nat.lt_succ_self _) h0 hW
def wX11_becomes (a1 a2 : Int) (S : St) (K : Int → St → Prop) : Prop := rng a1 → rng a2 → ((0 : Int) ≤ (60 + a1) ∧ (60 + a1) < (90 : Int) ∧ (iv 0 5 (S.2 68 ((60 + a1))) → ((0 : Int) ≤ ((4 * S.2 68 ((60 + a1))) + a2) ∧ ((4 * S.2 68 ((60 + a1))) + a2) < (24 : Int) ∧ (iv 0 3 (S.2 59 (((4 * S.2 68 ((60 + a1))) + a2))) → ((¬ S.2 59 (((4 * S.2 68 ((60 + a1))) + a2)) = 1 → (iv 0 3000 (S.1 54 67) → ((S.1 54 67 ≤ 0 → wX11_becomes_138 (((4 * (60 + a1)) + a2)) S K) ∧ ((¬ (S.1 54 67 ≤ 0)) → ((0 : Int) ≤ 0 ∧ 0 < (3000 : Int) ∧ (iv (-2147483648) 2147483647 (S.2 104 (0)) → ((¬ S.2 104 (0) = 45 → wX11_becomes_138 (((4 * (60 + a1)) + a2)) S K) ∧ ((¬ (¬ S.2 104 (0) = 45)) → wX11_becomes_139 (((4 * (60 + a1)) + a2)) (1) S K)))))))) ∧ ((¬ (¬ S.2 59 (((4 * S.2 68 ((60 + a1))) + a2)) = 1)) → (iv 0 3000 (S.1 54 67) → ((S.1 54 67 ≤ 20 → wX11_becomes_49 (((4 * (60 + a1)) + a2)) (0) S K) ∧ ((¬ (S.1 54 67 ≤ 20)) → K (0) S)))))))))
set_option maxRecDepth 100000 in
set_option maxHeartbeats 4000000 in
theorem lX11_becomes {G : xG} {sh : Nat → Option Sh} {J : St → List va_E → Prop} {a1 a2 : Int} {S : St} {cs : List va_E} {K : Int → St → Prop} (d : Nat) (hd : 1 ≤ d) (hJ : Stb sh J) (hT : isM sh) (hW : Wd G sh mT J S cs) (g1 : rng a1) (g2 : rng a2) (hw : wX11_becomes a1 a2 S K) : X G yX11_becomes cX11_becomes 10 (some .boolean) d [.ref (G.1 + 54), .int (Int32.ofInt a1), .int (Int32.ofInt a2)] cs (qI G sh mT J K) := by
  refine X.of false (by decide +kernel) (by decide) (Nat.le_of_ble_eq_true rfl) ?_
  show Z (RX11, cX11_becomes, 10, some .boolean, false) G d _ 0 [(0, .ref (G.1 + 54)), (1, .int (Int32.ofInt a1)), (2, .int (Int32.ofInt a2))] [] cs
  have hP : ∀ (v : Int) (S : St) (cs : List va_E), K v S → Wd G sh mT J S cs → qI G sh mT J K (some (.int (Int32.ofInt v))) cs := fun v S cs a b => ⟨v, S, rfl, a, b⟩
  unfold wX11_becomes at hw
  have hw := hw g1 g2
  refine z_bipush (v := Int32.ofInt 60) dX11_becomes_0 (by decide) ?_
  refine z_iload_n dX11_becomes_2 rfl rfl ?_
  refine i_iadd dX11_becomes_3 ?_
  refine z_istore_n dX11_becomes_4 rfl (by decide) ?_
  refine z_aload_n dX11_becomes_5 rfl rfl ?_
  refine g_getR hW hT.1 mr6 kX11 fX11_22 dX11_becomes_6 ?_
  refine z_iconst (v := Int32.ofInt 4) dX11_becomes_9 rfl ?_
  refine z_aload_n dX11_becomes_10 rfl rfl ?_
  refine g_getR hW hT.1 mr15 kX11 fX11_50 dX11_becomes_11 ?_
  refine z_iload_n dX11_becomes_14 rfl rfl ?_
  obtain ⟨q1a, q1b, hw⟩ := hw
  have q2 : iv 0 5 (S.2 68 ((60 + a1))) := mA68 hW _
  have hw := hw q2
  refine g_iald hW (ma68 hT) q1a q1b (by decide) dX11_becomes_15 ?_
  refine i_imul dX11_becomes_16 ?_
  refine z_iload_n dX11_becomes_17 rfl rfl ?_
  refine i_iadd dX11_becomes_18 ?_
  obtain ⟨q3a, q3b, hw⟩ := hw
  have q4 : iv 0 3 (S.2 59 (((4 * S.2 68 ((60 + a1))) + a2))) := mA59 hW _
  have hw := hw q4
  refine g_iald hW (ma59 hT) q3a q3b (by decide) dX11_becomes_19 ?_
  refine z_istore dX11_becomes_20 (by decide) ?_
  refine z_iconst (v := Int32.ofInt 4) dX11_becomes_22 rfl ?_
  refine z_iload_n dX11_becomes_23 rfl rfl ?_
  refine i_imul dX11_becomes_24 ?_
  refine z_iload_n dX11_becomes_25 rfl rfl ?_
  refine i_iadd dX11_becomes_26 ?_
  refine z_istore dX11_becomes_27 (by decide) ?_
  refine z_iload dX11_becomes_29 rfl ?_
  refine z_iconst (v := Int32.ofInt 1) dX11_becomes_31 rfl ?_
  refine i_icmp_ne (tgt := 116) dX11_becomes_32 (by decide) (rngq q4 (by decide) (by decide)) ⟨by decide, by decide⟩ (fun h5 => ?_) (fun h5 => ?_)
  · have hw := hw.1 h5
    refine z_aload_n dX11_becomes_116 rfl rfl ?_
    have q6 : iv 0 3000 (S.1 54 67) := mI67 hW
    have hw := hw q6
    refine g_getI hW hT.1 mr67 kX11 fX11_420 dX11_becomes_117 ?_
    refine i_if_le (tgt := 138) dX11_becomes_120 (by decide) (rngq q6 (by decide) (by decide)) (fun h7 => ?_) (fun h7 => ?_)
    · have hw := hw.1 h7
      refine z_loc (L' := [(0, .ref (G.1 + 54)), (5, .int (Int32.ofInt (((4 * (60 + a1)) + a2))))]) (List.forall_mem_cons.mpr ⟨rfl, (List.forall_mem_cons.mpr ⟨rfl, (fun _ h => nomatch h)⟩)⟩) ?_
      exact bX11_becomes_138 hd hJ hT hW hP  hw
    · have hw := hw.2 h7
      refine z_aload_n dX11_becomes_123 rfl rfl ?_
      refine g_getR hW hT.1 mr68 kX11 fX11_162 dX11_becomes_124 ?_
      refine z_iconst (v := Int32.ofInt 0) dX11_becomes_127 rfl ?_
      obtain ⟨q8a, q8b, hw⟩ := hw
      have q9 : iv (-2147483648) 2147483647 (S.2 104 (0)) := mA104 hW _
      have hw := hw q9
      refine g_iald hW (ma104 hT) q8a q8b (by decide) dX11_becomes_128 ?_
      refine z_bipush (v := Int32.ofInt 45) dX11_becomes_129 (by decide) ?_
      refine i_icmp_ne (tgt := 138) dX11_becomes_131 (by decide) (rngq q9 (by decide) (by decide)) ⟨by decide, by decide⟩ (fun h10 => ?_) (fun h10 => ?_)
      · have hw := hw.1 h10
        refine z_loc (L' := [(0, .ref (G.1 + 54)), (5, .int (Int32.ofInt (((4 * (60 + a1)) + a2))))]) (List.forall_mem_cons.mpr ⟨rfl, (List.forall_mem_cons.mpr ⟨rfl, (fun _ h => nomatch h)⟩)⟩) ?_
        exact bX11_becomes_138 hd hJ hT hW hP  hw
      · have hw := hw.2 h10
        refine z_iconst (v := Int32.ofInt 1) dX11_becomes_134 rfl ?_
        refine z_goto (tgt := 139) dX11_becomes_135 (by decide) ?_
        refine z_loc (L' := [(0, .ref (G.1 + 54)), (5, .int (Int32.ofInt (((4 * (60 + a1)) + a2))))]) (List.forall_mem_cons.mpr ⟨rfl, (List.forall_mem_cons.mpr ⟨rfl, (fun _ h => nomatch h)⟩)⟩) ?_
        exact bX11_becomes_139 hd hJ hT hW hP  hw
  · have hw := hw.2 h5
    refine z_aload_n dX11_becomes_35 rfl rfl ?_
    have q11 : iv 0 3000 (S.1 54 67) := mI67 hW
    have hw := hw q11
    refine g_getI hW hT.1 mr67 kX11 fX11_420 dX11_becomes_36 ?_
    refine z_bipush (v := Int32.ofInt 20) dX11_becomes_39 (by decide) ?_
    refine i_icmp_le (tgt := 46) dX11_becomes_41 (by decide) (rngq q11 (by decide) (by decide)) ⟨by decide, by decide⟩ (fun h12 => ?_) (fun h12 => ?_)
    · have hw := hw.1 h12
      refine z_iconst (v := Int32.ofInt 0) dX11_becomes_46 rfl ?_
      refine z_istore dX11_becomes_47 (by decide) ?_
      refine z_loc (L' := [(0, .ref (G.1 + 54)), (5, .int (Int32.ofInt (((4 * (60 + a1)) + a2)))), (6, .int (Int32.ofInt (0)))]) (List.forall_mem_cons.mpr ⟨rfl, (List.forall_mem_cons.mpr ⟨rfl, (List.forall_mem_cons.mpr ⟨rfl, (fun _ h => nomatch h)⟩)⟩)⟩) ?_
      exact bX11_becomes_49 hd hJ hT hW hP  hw
    · have hw := hw.2 h12
      refine z_iconst (v := Int32.ofInt 0) dX11_becomes_44 rfl ?_
      exact z_ireturn dX11_becomes_45 rfl (nar01 (by decide)) (hP _ _ _ hw hW)

def wX11_sameName_71 (l1 l2 l4 s0 : Int) (S : St) (K : Int → St → Prop) (B24 : Int → Int → Int → Int → St → Prop) : Prop := B24 (l1) (l2) (s0) ((l4 + 1)) S
set_option maxRecDepth 100000 in
set_option maxHeartbeats 4000000 in
theorem bX11_sameName_71 {G : xG} {sh : Nat → Option Sh} {J : St → List va_E → Prop} {d : Nat} {Post : xP} {l1 l2 l4 s0 : Int} {S : St} {cs : List va_E} {K : Int → St → Prop} {B24 : Int → Int → Int → Int → St → Prop} (hd : 0 ≤ d) (hJ : Stb sh J) (hT : isM sh) (hW : Wd G sh mT J S cs) (hP : ∀ (v : Int) (S : St) (cs : List va_E), K v S → Wd G sh mT J S cs → Post (some (.int (Int32.ofInt v))) cs) (hB24 : ∀ (l1 : Int) (l2 : Int) (l3 : Int) (l4 : Int) (S : St) (cs : List va_E), B24 l1 l2 l3 l4 S → Wd G sh mT J S cs → Z (RX11, cX11_sameName, 5, some .boolean, false) G d Post 24 [(0, .ref (G.1 + 54)), (1, .int (Int32.ofInt (l1))), (2, .int (Int32.ofInt (l2))), (3, .int (Int32.ofInt (l3))), (4, .int (Int32.ofInt (l4)))] [] cs) (hw : wX11_sameName_71 l1 l2 l4 s0 S K B24) : Z (RX11, cX11_sameName, 5, some .boolean, false) G d Post 71 [(0, .ref (G.1 + 54)), (1, .int (Int32.ofInt (l1))), (2, .int (Int32.ofInt (l2))), (4, .int (Int32.ofInt (l4)))] [.int (Int32.ofInt (s0))] cs := by
  unfold wX11_sameName_71 at hw
  refine z_istore_n dX11_sameName_71 rfl (by decide) ?_
  refine i_iinc (l := l4) dX11_sameName_72 rfl (by decide) ?_
  refine z_goto (tgt := 24) dX11_sameName_75 (by decide) ?_
  refine z_loc (L' := [(0, .ref (G.1 + 54)), (1, .int (Int32.ofInt (l1))), (2, .int (Int32.ofInt (l2))), (3, .int (Int32.ofInt (s0))), (4, .int (Int32.ofInt ((l4 + 1))))]) (List.forall_mem_cons.mpr ⟨rfl, (List.forall_mem_cons.mpr ⟨rfl, (List.forall_mem_cons.mpr ⟨rfl, (List.forall_mem_cons.mpr ⟨rfl, (List.forall_mem_cons.mpr ⟨rfl, (fun _ h => nomatch h)⟩)⟩)⟩)⟩)⟩) ?_
  exact hB24 _ _ _ _ _ _ hw hW
def wX11_sameName_24' (l1 l2 l3 l4 : Int) (S : St) (K : Int → St → Prop) (B24 : Int → Int → Int → Int → St → Prop) : Prop := ((0 : Int) ≤ l1 ∧ l1 < (30 : Int) ∧ (iv 0 8 (S.2 57 (l1)) → (rng (l4) ∧ ((S.2 57 (l1) ≤ l4 → (iv 0 1 (l3) ∧ K (l3) S)) ∧ ((¬ (S.2 57 (l1) ≤ l4)) → (rng (l3) ∧ ((l3 = 0 → (iv 0 1 (l3) ∧ K (l3) S)) ∧ ((¬ (l3 = 0)) → ((0 : Int) ≤ ((8 * l1) + l4) ∧ ((8 * l1) + l4) < (240 : Int) ∧ (iv (-2147483648) 2147483647 (S.2 58 (((8 * l1) + l4))) → ((0 : Int) ≤ ((8 * l2) + l4) ∧ ((8 * l2) + l4) < (240 : Int) ∧ (iv (-2147483648) 2147483647 (S.2 58 (((8 * l2) + l4))) → ((¬ S.2 58 (((8 * l1) + l4)) = S.2 58 (((8 * l2) + l4)) → wX11_sameName_71 (l1) (l2) (l4) (0) S K B24) ∧ ((¬ (¬ S.2 58 (((8 * l1) + l4)) = S.2 58 (((8 * l2) + l4)))) → wX11_sameName_71 (l1) (l2) (l4) (1) S K B24))))))))))))))
set_option maxRecDepth 100000 in
set_option maxHeartbeats 4000000 in
theorem bX11_sameName_24' {G : xG} {sh : Nat → Option Sh} {J : St → List va_E → Prop} {d : Nat} {Post : xP} {l1 l2 l3 l4 : Int} {S : St} {cs : List va_E} {K : Int → St → Prop} {B24 : Int → Int → Int → Int → St → Prop} (hd : 0 ≤ d) (hJ : Stb sh J) (hT : isM sh) (hW : Wd G sh mT J S cs) (hP : ∀ (v : Int) (S : St) (cs : List va_E), K v S → Wd G sh mT J S cs → Post (some (.int (Int32.ofInt v))) cs) (hB24 : ∀ (l1 : Int) (l2 : Int) (l3 : Int) (l4 : Int) (S : St) (cs : List va_E), B24 l1 l2 l3 l4 S → Wd G sh mT J S cs → Z (RX11, cX11_sameName, 5, some .boolean, false) G d Post 24 [(0, .ref (G.1 + 54)), (1, .int (Int32.ofInt (l1))), (2, .int (Int32.ofInt (l2))), (3, .int (Int32.ofInt (l3))), (4, .int (Int32.ofInt (l4)))] [] cs) (hw : wX11_sameName_24' l1 l2 l3 l4 S K B24) : Z (RX11, cX11_sameName, 5, some .boolean, false) G d Post 24 [(0, .ref (G.1 + 54)), (1, .int (Int32.ofInt (l1))), (2, .int (Int32.ofInt (l2))), (3, .int (Int32.ofInt (l3))), (4, .int (Int32.ofInt (l4)))] [] cs := by
  unfold wX11_sameName_24' at hw
  refine z_iload dX11_sameName_24 rfl ?_
  refine z_aload_n dX11_sameName_26 rfl rfl ?_
  refine g_getR hW hT.1 mr4 kX11 fX11_16 dX11_sameName_27 ?_
  refine z_iload_n dX11_sameName_30 rfl rfl ?_
  obtain ⟨q1a, q1b, hw⟩ := hw
  have q2 : iv 0 8 (S.2 57 (l1)) := mA57 hW _
  have hw := hw q2
  refine g_iald hW (ma57 hT) q1a q1b (by decide) dX11_sameName_31 ?_
  obtain ⟨q4, hw⟩ := hw
  refine i_icmp_ge (tgt := 78) dX11_sameName_32 (by decide) q4 (rngq q2 (by decide) (by decide)) (fun h3 => ?_) (fun h3 => ?_)
  · have hw := hw.1 h3
    refine z_iload_n dX11_sameName_78 rfl rfl ?_
    obtain ⟨q5, hw⟩ := hw
    exact z_ireturn dX11_sameName_79 rfl (nar01 (b01 q5)) (hP _ _ _ hw hW)
  · have hw := hw.2 h3
    refine z_iload_n dX11_sameName_35 rfl rfl ?_
    obtain ⟨q7, hw⟩ := hw
    refine i_if_eq (tgt := 78) dX11_sameName_36 (by decide) q7 (fun h6 => ?_) (fun h6 => ?_)
    · have hw := hw.1 h6
      refine z_iload_n dX11_sameName_78 rfl rfl ?_
      obtain ⟨q8, hw⟩ := hw
      exact z_ireturn dX11_sameName_79 rfl (nar01 (b01 q8)) (hP _ _ _ hw hW)
    · have hw := hw.2 h6
      refine z_aload_n dX11_sameName_39 rfl rfl ?_
      refine g_getR hW hT.1 mr5 kX11 fX11_19 dX11_sameName_40 ?_
      refine z_bipush (v := Int32.ofInt 8) dX11_sameName_43 (by decide) ?_
      refine z_iload_n dX11_sameName_45 rfl rfl ?_
      refine i_imul dX11_sameName_46 ?_
      refine z_iload dX11_sameName_47 rfl ?_
      refine i_iadd dX11_sameName_49 ?_
      obtain ⟨q9a, q9b, hw⟩ := hw
      have q10 : iv (-2147483648) 2147483647 (S.2 58 (((8 * l1) + l4))) := mA58 hW _
      have hw := hw q10
      refine g_iald hW (ma58 hT) q9a q9b (by decide) dX11_sameName_50 ?_
      refine z_aload_n dX11_sameName_51 rfl rfl ?_
      refine g_getR hW hT.1 mr5 kX11 fX11_19 dX11_sameName_52 ?_
      refine z_bipush (v := Int32.ofInt 8) dX11_sameName_55 (by decide) ?_
      refine z_iload_n dX11_sameName_57 rfl rfl ?_
      refine i_imul dX11_sameName_58 ?_
      refine z_iload dX11_sameName_59 rfl ?_
      refine i_iadd dX11_sameName_61 ?_
      obtain ⟨q11a, q11b, hw⟩ := hw
      have q12 : iv (-2147483648) 2147483647 (S.2 58 (((8 * l2) + l4))) := mA58 hW _
      have hw := hw q12
      refine g_iald hW (ma58 hT) q11a q11b (by decide) dX11_sameName_62 ?_
      refine i_icmp_ne (tgt := 70) dX11_sameName_63 (by decide) (rngq q10 (by decide) (by decide)) (rngq q12 (by decide) (by decide)) (fun h13 => ?_) (fun h13 => ?_)
      · have hw := hw.1 h13
        refine z_iconst (v := Int32.ofInt 0) dX11_sameName_70 rfl ?_
        refine z_loc (L' := [(0, .ref (G.1 + 54)), (1, .int (Int32.ofInt (l1))), (2, .int (Int32.ofInt (l2))), (4, .int (Int32.ofInt (l4)))]) (List.forall_mem_cons.mpr ⟨rfl, (List.forall_mem_cons.mpr ⟨rfl, (List.forall_mem_cons.mpr ⟨rfl, (List.forall_mem_cons.mpr ⟨rfl, (fun _ h => nomatch h)⟩)⟩)⟩)⟩) ?_
        exact bX11_sameName_71 hd hJ hT hW hP hB24 hw
      · have hw := hw.2 h13
        refine z_iconst (v := Int32.ofInt 1) dX11_sameName_66 rfl ?_
        refine z_goto (tgt := 71) dX11_sameName_67 (by decide) ?_
        refine z_loc (L' := [(0, .ref (G.1 + 54)), (1, .int (Int32.ofInt (l1))), (2, .int (Int32.ofInt (l2))), (4, .int (Int32.ofInt (l4)))]) (List.forall_mem_cons.mpr ⟨rfl, (List.forall_mem_cons.mpr ⟨rfl, (List.forall_mem_cons.mpr ⟨rfl, (List.forall_mem_cons.mpr ⟨rfl, (fun _ h => nomatch h)⟩)⟩)⟩)⟩) ?_
        exact bX11_sameName_71 hd hJ hT hW hP hB24 hw
def wX11_sameName_24 (l1 l2 l3 l4 : Int) (S : St) (K : Int → St → Prop) : Prop := ∃ (Iv : Int → Int → Int → Int → St → Prop) (mu : Int → Int → Int → Int → St → Nat), Iv l1 l2 l3 l4 S ∧ ∀ (l1 l2 l3 l4 : Int) (S : St), Iv l1 l2 l3 l4 S → wX11_sameName_24' l1 l2 l3 l4 S K  (fun ml1 ml2 ml3 ml4 T => Iv ml1 ml2 ml3 ml4 T ∧ mu ml1 ml2 ml3 ml4 T < mu l1 l2 l3 l4 S)
set_option maxRecDepth 100000 in
set_option maxHeartbeats 4000000 in
theorem bX11_sameName_24 {G : xG} {sh : Nat → Option Sh} {J : St → List va_E → Prop} {d : Nat} {Post : xP} {l1 l2 l3 l4 : Int} {S : St} {cs : List va_E} {K : Int → St → Prop} (hd : 0 ≤ d) (hJ : Stb sh J) (hT : isM sh) (hW : Wd G sh mT J S cs) (hP : ∀ (v : Int) (S : St) (cs : List va_E), K v S → Wd G sh mT J S cs → Post (some (.int (Int32.ofInt v))) cs)  (hw : wX11_sameName_24 l1 l2 l3 l4 S K ) : Z (RX11, cX11_sameName, 5, some .boolean, false) G d Post 24 [(0, .ref (G.1 + 54)), (1, .int (Int32.ofInt (l1))), (2, .int (Int32.ofInt (l2))), (3, .int (Int32.ofInt (l3))), (4, .int (Int32.ofInt (l4)))] [] cs := by
  unfold wX11_sameName_24 at hw
  obtain ⟨Iv, mu, h0, hs⟩ := hw
  have key : ∀ (n : Nat) (l1 l2 l3 l4 : Int) (S : St) (cs : List va_E), mu l1 l2 l3 l4 S < n → Iv l1 l2 l3 l4 S → Wd G sh mT J S cs → Z (RX11, cX11_sameName, 5, some .boolean, false) G d Post 24 [(0, .ref (G.1 + 54)), (1, .int (Int32.ofInt (l1))), (2, .int (Int32.ofInt (l2))), (3, .int (Int32.ofInt (l3))), (4, .int (Int32.ofInt (l4)))] [] cs := by
    intro n
    induction n with
    | zero => intro l1 l2 l3 l4 S cs hn; exact absurd hn (Nat.not_lt_zero _)
    | succ n ih =>
      intro l1 l2 l3 l4 S cs hn hI hW
      exact bX11_sameName_24' hd hJ hT hW hP  (fun l1 l2 l3 l4 S cs hb hW => ih l1 l2 l3 l4 S cs (Nat.lt_of_lt_of_le hb.2 (Nat.le_of_lt_succ hn)) hb.1 hW) (hs l1 l2 l3 l4 S hI)
  exact key _ _ _ _ _ _ _ (Nat.lt_succ_self _) h0 hW
def wX11_sameName_20 (l1 l2 s0 : Int) (S : St) (K : Int → St → Prop) : Prop := wX11_sameName_24 (l1) (l2) (s0) (0) S K
set_option maxRecDepth 100000 in
set_option maxHeartbeats 4000000 in
theorem bX11_sameName_20 {G : xG} {sh : Nat → Option Sh} {J : St → List va_E → Prop} {d : Nat} {Post : xP} {l1 l2 s0 : Int} {S : St} {cs : List va_E} {K : Int → St → Prop} (hd : 0 ≤ d) (hJ : Stb sh J) (hT : isM sh) (hW : Wd G sh mT J S cs) (hP : ∀ (v : Int) (S : St) (cs : List va_E), K v S → Wd G sh mT J S cs → Post (some (.int (Int32.ofInt v))) cs)  (hw : wX11_sameName_20 l1 l2 s0 S K ) : Z (RX11, cX11_sameName, 5, some .boolean, false) G d Post 20 [(0, .ref (G.1 + 54)), (1, .int (Int32.ofInt (l1))), (2, .int (Int32.ofInt (l2)))] [.int (Int32.ofInt (s0))] cs := by
  unfold wX11_sameName_20 at hw
  refine z_istore_n dX11_sameName_20 rfl (by decide) ?_
  refine z_iconst (v := Int32.ofInt 0) dX11_sameName_21 rfl ?_
  refine z_istore dX11_sameName_22 (by decide) ?_
  refine z_loc (L' := [(0, .ref (G.1 + 54)), (1, .int (Int32.ofInt (l1))), (2, .int (Int32.ofInt (l2))), (3, .int (Int32.ofInt (s0))), (4, .int (Int32.ofInt (0)))]) (List.forall_mem_cons.mpr ⟨rfl, (List.forall_mem_cons.mpr ⟨rfl, (List.forall_mem_cons.mpr ⟨rfl, (List.forall_mem_cons.mpr ⟨rfl, (List.forall_mem_cons.mpr ⟨rfl, (fun _ h => nomatch h)⟩)⟩)⟩)⟩)⟩) ?_
  exact bX11_sameName_24 hd hJ hT hW hP  hw
def wX11_sameName (a1 a2 : Int) (S : St) (K : Int → St → Prop) : Prop := rng a1 → rng a2 → ((0 : Int) ≤ a1 ∧ a1 < (30 : Int) ∧ (iv 0 8 (S.2 57 (a1)) → ((0 : Int) ≤ a2 ∧ a2 < (30 : Int) ∧ (iv 0 8 (S.2 57 (a2)) → ((¬ S.2 57 (a1) = S.2 57 (a2) → wX11_sameName_20 (a1) (a2) (0) S K) ∧ ((¬ (¬ S.2 57 (a1) = S.2 57 (a2))) → wX11_sameName_20 (a1) (a2) (1) S K))))))
set_option maxRecDepth 100000 in
set_option maxHeartbeats 4000000 in
theorem lX11_sameName {G : xG} {sh : Nat → Option Sh} {J : St → List va_E → Prop} {a1 a2 : Int} {S : St} {cs : List va_E} {K : Int → St → Prop} (d : Nat) (hd : 0 ≤ d) (hJ : Stb sh J) (hT : isM sh) (hW : Wd G sh mT J S cs) (g1 : rng a1) (g2 : rng a2) (hw : wX11_sameName a1 a2 S K) : X G yX11_sameName cX11_sameName 5 (some .boolean) d [.ref (G.1 + 54), .int (Int32.ofInt a1), .int (Int32.ofInt a2)] cs (qI G sh mT J K) := by
  refine X.of false (by decide +kernel) (by decide) (Nat.le_of_ble_eq_true rfl) ?_
  show Z (RX11, cX11_sameName, 5, some .boolean, false) G d _ 0 [(0, .ref (G.1 + 54)), (1, .int (Int32.ofInt a1)), (2, .int (Int32.ofInt a2))] [] cs
  have hP : ∀ (v : Int) (S : St) (cs : List va_E), K v S → Wd G sh mT J S cs → qI G sh mT J K (some (.int (Int32.ofInt v))) cs := fun v S cs a b => ⟨v, S, rfl, a, b⟩
  unfold wX11_sameName at hw
  have hw := hw g1 g2
  refine z_aload_n dX11_sameName_0 rfl rfl ?_
  refine g_getR hW hT.1 mr4 kX11 fX11_16 dX11_sameName_1 ?_
  refine z_iload_n dX11_sameName_4 rfl rfl ?_
  obtain ⟨q1a, q1b, hw⟩ := hw
  have q2 : iv 0 8 (S.2 57 (a1)) := mA57 hW _
  have hw := hw q2
  refine g_iald hW (ma57 hT) q1a q1b (by decide) dX11_sameName_5 ?_
  refine z_aload_n dX11_sameName_6 rfl rfl ?_
  refine g_getR hW hT.1 mr4 kX11 fX11_16 dX11_sameName_7 ?_
  refine z_iload_n dX11_sameName_10 rfl rfl ?_
  obtain ⟨q3a, q3b, hw⟩ := hw
  have q4 : iv 0 8 (S.2 57 (a2)) := mA57 hW _
  have hw := hw q4
  refine g_iald hW (ma57 hT) q3a q3b (by decide) dX11_sameName_11 ?_
  refine i_icmp_ne (tgt := 19) dX11_sameName_12 (by decide) (rngq q2 (by decide) (by decide)) (rngq q4 (by decide) (by decide)) (fun h5 => ?_) (fun h5 => ?_)
  · have hw := hw.1 h5
    refine z_iconst (v := Int32.ofInt 0) dX11_sameName_19 rfl ?_
    refine z_loc (L' := [(0, .ref (G.1 + 54)), (1, .int (Int32.ofInt (a1))), (2, .int (Int32.ofInt (a2)))]) (List.forall_mem_cons.mpr ⟨rfl, (List.forall_mem_cons.mpr ⟨rfl, (List.forall_mem_cons.mpr ⟨rfl, (fun _ h => nomatch h)⟩)⟩)⟩) ?_
    exact bX11_sameName_20 hd hJ hT hW hP  hw
  · have hw := hw.2 h5
    refine z_iconst (v := Int32.ofInt 1) dX11_sameName_15 rfl ?_
    refine z_goto (tgt := 20) dX11_sameName_16 (by decide) ?_
    refine z_loc (L' := [(0, .ref (G.1 + 54)), (1, .int (Int32.ofInt (a1))), (2, .int (Int32.ofInt (a2)))]) (List.forall_mem_cons.mpr ⟨rfl, (List.forall_mem_cons.mpr ⟨rfl, (List.forall_mem_cons.mpr ⟨rfl, (fun _ h => nomatch h)⟩)⟩)⟩) ?_
    exact bX11_sameName_20 hd hJ hT hW hP  hw

def wX11_element_47 (l1 l2 l4 s0 : Int) (S : St) (K : Int → St → Prop) (B5 : Int → Int → Int → Int → St → Prop) : Prop := B5 (l1) (l2) (s0) ((l4 + 1)) S
set_option maxRecDepth 100000 in
set_option maxHeartbeats 4000000 in
theorem bX11_element_47 {G : xG} {sh : Nat → Option Sh} {J : St → List va_E → Prop} {d : Nat} {Post : xP} {l1 l2 l4 s0 : Int} {S : St} {cs : List va_E} {K : Int → St → Prop} {B5 : Int → Int → Int → Int → St → Prop} (hd : 1 ≤ d) (hJ : Stb sh J) (hT : isM sh) (hW : Wd G sh mT J S cs) (hP : ∀ (v : Int) (S : St) (cs : List va_E), K v S → Wd G sh mT J S cs → Post (some (.int (Int32.ofInt v))) cs) (hB5 : ∀ (l1 : Int) (l2 : Int) (l3 : Int) (l4 : Int) (S : St) (cs : List va_E), B5 l1 l2 l3 l4 S → Wd G sh mT J S cs → Z (RX11, cX11_element, 5, some .int, false) G d Post 5 [(0, .ref (G.1 + 54)), (1, .int (Int32.ofInt (l1))), (2, .int (Int32.ofInt (l2))), (3, .int (Int32.ofInt (l3))), (4, .int (Int32.ofInt (l4)))] [] cs) (hw : wX11_element_47 l1 l2 l4 s0 S K B5) : Z (RX11, cX11_element, 5, some .int, false) G d Post 47 [(0, .ref (G.1 + 54)), (1, .int (Int32.ofInt (l1))), (2, .int (Int32.ofInt (l2))), (4, .int (Int32.ofInt (l4)))] [.int (Int32.ofInt (s0))] cs := by
  unfold wX11_element_47 at hw
  refine z_istore_n dX11_element_47 rfl (by decide) ?_
  refine i_iinc (l := l4) dX11_element_48 rfl (by decide) ?_
  refine z_goto (tgt := 5) dX11_element_51 (by decide) ?_
  refine z_loc (L' := [(0, .ref (G.1 + 54)), (1, .int (Int32.ofInt (l1))), (2, .int (Int32.ofInt (l2))), (3, .int (Int32.ofInt (s0))), (4, .int (Int32.ofInt ((l4 + 1))))]) (List.forall_mem_cons.mpr ⟨rfl, (List.forall_mem_cons.mpr ⟨rfl, (List.forall_mem_cons.mpr ⟨rfl, (List.forall_mem_cons.mpr ⟨rfl, (List.forall_mem_cons.mpr ⟨rfl, (fun _ h => nomatch h)⟩)⟩)⟩)⟩)⟩) ?_
  exact hB5 _ _ _ _ _ _ hw hW
def wX11_element_46 (l1 l2 l3 l4 : Int) (S : St) (K : Int → St → Prop) (B5 : Int → Int → Int → Int → St → Prop) : Prop := wX11_element_47 (l1) (l2) (l4) (l3) S K B5
set_option maxRecDepth 100000 in
set_option maxHeartbeats 4000000 in
theorem bX11_element_46 {G : xG} {sh : Nat → Option Sh} {J : St → List va_E → Prop} {d : Nat} {Post : xP} {l1 l2 l3 l4 : Int} {S : St} {cs : List va_E} {K : Int → St → Prop} {B5 : Int → Int → Int → Int → St → Prop} (hd : 1 ≤ d) (hJ : Stb sh J) (hT : isM sh) (hW : Wd G sh mT J S cs) (hP : ∀ (v : Int) (S : St) (cs : List va_E), K v S → Wd G sh mT J S cs → Post (some (.int (Int32.ofInt v))) cs) (hB5 : ∀ (l1 : Int) (l2 : Int) (l3 : Int) (l4 : Int) (S : St) (cs : List va_E), B5 l1 l2 l3 l4 S → Wd G sh mT J S cs → Z (RX11, cX11_element, 5, some .int, false) G d Post 5 [(0, .ref (G.1 + 54)), (1, .int (Int32.ofInt (l1))), (2, .int (Int32.ofInt (l2))), (3, .int (Int32.ofInt (l3))), (4, .int (Int32.ofInt (l4)))] [] cs) (hw : wX11_element_46 l1 l2 l3 l4 S K B5) : Z (RX11, cX11_element, 5, some .int, false) G d Post 46 [(0, .ref (G.1 + 54)), (1, .int (Int32.ofInt (l1))), (2, .int (Int32.ofInt (l2))), (3, .int (Int32.ofInt (l3))), (4, .int (Int32.ofInt (l4)))] [] cs := by
  unfold wX11_element_46 at hw
  refine z_iload_n dX11_element_46 rfl rfl ?_
  refine z_loc (L' := [(0, .ref (G.1 + 54)), (1, .int (Int32.ofInt (l1))), (2, .int (Int32.ofInt (l2))), (4, .int (Int32.ofInt (l4)))]) (List.forall_mem_cons.mpr ⟨rfl, (List.forall_mem_cons.mpr ⟨rfl, (List.forall_mem_cons.mpr ⟨rfl, (List.forall_mem_cons.mpr ⟨rfl, (fun _ h => nomatch h)⟩)⟩)⟩)⟩) ?_
  exact bX11_element_47 hd hJ hT hW hP hB5 hw
def wX11_element_5' (l1 l2 l3 l4 : Int) (S : St) (K : Int → St → Prop) (B5 : Int → Int → Int → Int → St → Prop) : Prop := (iv 0 900 (S.1 54 25) → (rng (l4) ∧ ((S.1 54 25 ≤ l4 → ((0 : Int) ≤ S.1 54 25 ∧ S.1 54 25 < (900 : Int) ∧ (iv (-2) 899 (l1) ∧ (∀ S5, S5 = pA S 72 (S.1 54 25) (l1) → (iv 0 900 (S5.1 54 25) → ((0 : Int) ≤ S5.1 54 25 ∧ S5.1 54 25 < (900 : Int) ∧ (iv 0 29 (l2) ∧ (∀ S9, S9 = pA S5 73 (S5.1 54 25) (l2) → (iv 0 900 (S9.1 54 25) → ((0 : Int) ≤ S9.1 54 25 ∧ S9.1 54 25 < (900 : Int) ∧ (iv 0 901 (l3) ∧ (∀ S13, S13 = pA S9 74 (S9.1 54 25) (l3) → (iv 0 900 (S13.1 54 25) → (iv 0 900 ((S13.1 54 25 + 1)) ∧ (∀ S16, S16 = pI S13 54 25 ((S13.1 54 25 + 1)) → (iv 0 900 (S16.1 54 25) → K ((S16.1 54 25 - 1)) S16)))))))))))))))) ∧ ((¬ (S.1 54 25 ≤ l4)) → ((0 : Int) ≤ l4 ∧ l4 < (900 : Int) ∧ (iv (-2) 899 (S.2 72 (l4)) → (rng (l1) ∧ ((¬ S.2 72 (l4) = l1 → wX11_element_46 (l1) (l2) (l3) (l4) S K B5) ∧ ((¬ (¬ S.2 72 (l4) = l1)) → ((0 : Int) ≤ l4 ∧ l4 < (900 : Int) ∧ (iv 0 29 (S.2 73 (l4)) → (rng (l2) ∧ (wX11_sameName (S.2 73 (l4)) (l2) S (fun r26 S27 => (rng (r26) ∧ ((r26 = 0 → wX11_element_46 (l1) (l2) (l3) (l4) S27 K B5) ∧ ((¬ (r26 = 0)) → wX11_element_47 (l1) (l2) (l4) ((l3 + 1)) S27 K B5)))))))))))))))))
set_option maxRecDepth 100000 in
set_option maxHeartbeats 4000000 in
theorem bX11_element_5' {G : xG} {sh : Nat → Option Sh} {J : St → List va_E → Prop} {d : Nat} {Post : xP} {l1 l2 l3 l4 : Int} {S : St} {cs : List va_E} {K : Int → St → Prop} {B5 : Int → Int → Int → Int → St → Prop} (hd : 1 ≤ d) (hJ : Stb sh J) (hT : isM sh) (hW : Wd G sh mT J S cs) (hP : ∀ (v : Int) (S : St) (cs : List va_E), K v S → Wd G sh mT J S cs → Post (some (.int (Int32.ofInt v))) cs) (hB5 : ∀ (l1 : Int) (l2 : Int) (l3 : Int) (l4 : Int) (S : St) (cs : List va_E), B5 l1 l2 l3 l4 S → Wd G sh mT J S cs → Z (RX11, cX11_element, 5, some .int, false) G d Post 5 [(0, .ref (G.1 + 54)), (1, .int (Int32.ofInt (l1))), (2, .int (Int32.ofInt (l2))), (3, .int (Int32.ofInt (l3))), (4, .int (Int32.ofInt (l4)))] [] cs) (hw : wX11_element_5' l1 l2 l3 l4 S K B5) : Z (RX11, cX11_element, 5, some .int, false) G d Post 5 [(0, .ref (G.1 + 54)), (1, .int (Int32.ofInt (l1))), (2, .int (Int32.ofInt (l2))), (3, .int (Int32.ofInt (l3))), (4, .int (Int32.ofInt (l4)))] [] cs := by
  unfold wX11_element_5' at hw
  refine z_iload dX11_element_5 rfl ?_
  refine z_aload_n dX11_element_7 rfl rfl ?_
  have q1 : iv 0 900 (S.1 54 25) := mI25 hW
  have hw := hw q1
  refine g_getI hW hT.1 mr25 kX11 fX11_278 dX11_element_8 ?_
  obtain ⟨q3, hw⟩ := hw
  refine i_icmp_ge (tgt := 54) dX11_element_11 (by decide) q3 (rngq q1 (by decide) (by decide)) (fun h2 => ?_) (fun h2 => ?_)
  · have hw := hw.1 h2
    refine z_aload_n dX11_element_54 rfl rfl ?_
    refine g_getR hW hT.1 mr26 kX11 fX11_66 dX11_element_55 ?_
    refine z_aload_n dX11_element_58 rfl rfl ?_
    refine g_getI hW hT.1 mr25 kX11 fX11_278 dX11_element_59 ?_
    refine z_iload_n dX11_element_62 rfl rfl ?_
    obtain ⟨q4a, q4b, hw⟩ := hw
    obtain ⟨q6, hw⟩ := hw
    refine g_iast hJ hW (ma72 hT) q4a q4b (by decide) q6 dX11_element_63 (fun cs hW => ?_)
    obtain ⟨S5, hS5⟩ : ∃ x, x = pA S 72 (S.1 54 25) (l1) := ⟨_, rfl⟩
    rw [← hS5] at hW
    have hw := hw S5 hS5
    refine z_aload_n dX11_element_64 rfl rfl ?_
    refine g_getR hW hT.1 mr27 kX11 fX11_69 dX11_element_65 ?_
    refine z_aload_n dX11_element_68 rfl rfl ?_
    have q7 : iv 0 900 (S5.1 54 25) := mI25 hW
    have hw := hw q7
    refine g_getI hW hT.1 mr25 kX11 fX11_278 dX11_element_69 ?_
    refine z_iload_n dX11_element_72 rfl rfl ?_
    obtain ⟨q8a, q8b, hw⟩ := hw
    obtain ⟨q10, hw⟩ := hw
    refine g_iast hJ hW (ma73 hT) q8a q8b (by decide) q10 dX11_element_73 (fun cs hW => ?_)
    obtain ⟨S9, hS9⟩ : ∃ x, x = pA S5 73 (S5.1 54 25) (l2) := ⟨_, rfl⟩
    rw [← hS9] at hW
    have hw := hw S9 hS9
    refine z_aload_n dX11_element_74 rfl rfl ?_
    refine g_getR hW hT.1 mr28 kX11 fX11_72 dX11_element_75 ?_
    refine z_aload_n dX11_element_78 rfl rfl ?_
    have q11 : iv 0 900 (S9.1 54 25) := mI25 hW
    have hw := hw q11
    refine g_getI hW hT.1 mr25 kX11 fX11_278 dX11_element_79 ?_
    refine z_iload_n dX11_element_82 rfl rfl ?_
    obtain ⟨q12a, q12b, hw⟩ := hw
    obtain ⟨q14, hw⟩ := hw
    refine g_iast hJ hW (ma74 hT) q12a q12b (by decide) q14 dX11_element_83 (fun cs hW => ?_)
    obtain ⟨S13, hS13⟩ : ∃ x, x = pA S9 74 (S9.1 54 25) (l3) := ⟨_, rfl⟩
    rw [← hS13] at hW
    have hw := hw S13 hS13
    refine z_aload_n dX11_element_84 rfl rfl ?_
    refine z_dup dX11_element_85 rfl ?_
    have q15 : iv 0 900 (S13.1 54 25) := mI25 hW
    have hw := hw q15
    refine g_getI hW hT.1 mr25 kX11 fX11_278 dX11_element_86 ?_
    refine z_iconst (v := Int32.ofInt 1) dX11_element_89 rfl ?_
    refine i_iadd dX11_element_90 ?_
    obtain ⟨q17, hw⟩ := hw
    refine g_putI hJ hW hT.1 mr25 kX11 fX11_278 dX11_element_91 rfl rfl rfl q17 (fun cs hW => ?_)
    obtain ⟨S16, hS16⟩ : ∃ x, x = pI S13 54 25 ((S13.1 54 25 + 1)) := ⟨_, rfl⟩
    rw [← hS16] at hW
    have hw := hw S16 hS16
    refine z_aload_n dX11_element_94 rfl rfl ?_
    have q18 : iv 0 900 (S16.1 54 25) := mI25 hW
    have hw := hw q18
    refine g_getI hW hT.1 mr25 kX11 fX11_278 dX11_element_95 ?_
    refine z_iconst (v := Int32.ofInt 1) dX11_element_98 rfl ?_
    refine i_isub dX11_element_99 ?_
    exact z_ireturn dX11_element_100 rfl rfl (hP _ _ _ hw hW)
  · have hw := hw.2 h2
    refine z_aload_n dX11_element_14 rfl rfl ?_
    refine g_getR hW hT.1 mr26 kX11 fX11_66 dX11_element_15 ?_
    refine z_iload dX11_element_18 rfl ?_
    obtain ⟨q19a, q19b, hw⟩ := hw
    have q20 : iv (-2) 899 (S.2 72 (l4)) := mA72 hW _
    have hw := hw q20
    refine g_iald hW (ma72 hT) q19a q19b (by decide) dX11_element_20 ?_
    refine z_iload_n dX11_element_21 rfl rfl ?_
    obtain ⟨q22, hw⟩ := hw
    refine i_icmp_ne (tgt := 46) dX11_element_22 (by decide) (rngq q20 (by decide) (by decide)) q22 (fun h21 => ?_) (fun h21 => ?_)
    · have hw := hw.1 h21
      refine z_loc (L' := [(0, .ref (G.1 + 54)), (1, .int (Int32.ofInt (l1))), (2, .int (Int32.ofInt (l2))), (3, .int (Int32.ofInt (l3))), (4, .int (Int32.ofInt (l4)))]) (List.forall_mem_cons.mpr ⟨rfl, (List.forall_mem_cons.mpr ⟨rfl, (List.forall_mem_cons.mpr ⟨rfl, (List.forall_mem_cons.mpr ⟨rfl, (List.forall_mem_cons.mpr ⟨rfl, (fun _ h => nomatch h)⟩)⟩)⟩)⟩)⟩) ?_
      exact bX11_element_46 hd hJ hT hW hP hB5 hw
    · have hw := hw.2 h21
      refine z_aload_n dX11_element_25 rfl rfl ?_
      refine z_aload_n dX11_element_26 rfl rfl ?_
      refine g_getR hW hT.1 mr27 kX11 fX11_69 dX11_element_27 ?_
      refine z_iload dX11_element_30 rfl ?_
      obtain ⟨q23a, q23b, hw⟩ := hw
      have q24 : iv 0 29 (S.2 73 (l4)) := mA73 hW _
      have hw := hw q24
      refine g_iald hW (ma73 hT) q23a q23b (by decide) dX11_element_32 ?_
      refine z_iload_n dX11_element_33 rfl rfl ?_
      obtain ⟨q25, hw⟩ := hw
      have hX := lX11_sameName 0 (Nat.le_refl _) hJ hT hW (rngq q24 (by decide) (by decide)) q25 hw
      refine z_callV (As := [_, _]) eX11_sameName sX11_sameName lX11_281 rfl dX11_element_34 (hW.1 _ _ hT.1) hX (Nat.le_trans (by decide) hd) rfl (Nat.le_of_ble_eq_true rfl) (fun r cs hp => ?_)
      obtain ⟨r26, S27, rfl, hw, hW⟩ := hp
      refine z_st (st' := [.int (Int32.ofInt (r26))]) rfl ?_
      obtain ⟨q29, hw⟩ := hw
      refine i_if_eq (tgt := 46) dX11_element_37 (by decide) q29 (fun h28 => ?_) (fun h28 => ?_)
      · have hw := hw.1 h28
        refine z_loc (L' := [(0, .ref (G.1 + 54)), (1, .int (Int32.ofInt (l1))), (2, .int (Int32.ofInt (l2))), (3, .int (Int32.ofInt (l3))), (4, .int (Int32.ofInt (l4)))]) (List.forall_mem_cons.mpr ⟨rfl, (List.forall_mem_cons.mpr ⟨rfl, (List.forall_mem_cons.mpr ⟨rfl, (List.forall_mem_cons.mpr ⟨rfl, (List.forall_mem_cons.mpr ⟨rfl, (fun _ h => nomatch h)⟩)⟩)⟩)⟩)⟩) ?_
        exact bX11_element_46 hd hJ hT hW hP hB5 hw
      · have hw := hw.2 h28
        refine z_iload_n dX11_element_40 rfl rfl ?_
        refine z_iconst (v := Int32.ofInt 1) dX11_element_41 rfl ?_
        refine i_iadd dX11_element_42 ?_
        refine z_goto (tgt := 47) dX11_element_43 (by decide) ?_
        refine z_loc (L' := [(0, .ref (G.1 + 54)), (1, .int (Int32.ofInt (l1))), (2, .int (Int32.ofInt (l2))), (4, .int (Int32.ofInt (l4)))]) (List.forall_mem_cons.mpr ⟨rfl, (List.forall_mem_cons.mpr ⟨rfl, (List.forall_mem_cons.mpr ⟨rfl, (List.forall_mem_cons.mpr ⟨rfl, (fun _ h => nomatch h)⟩)⟩)⟩)⟩) ?_
        exact bX11_element_47 hd hJ hT hW hP hB5 hw
def wX11_element_5 (l1 l2 l3 l4 : Int) (S : St) (K : Int → St → Prop) : Prop := ∃ (Iv : Int → Int → Int → Int → St → Prop) (mu : Int → Int → Int → Int → St → Nat), Iv l1 l2 l3 l4 S ∧ ∀ (l1 l2 l3 l4 : Int) (S : St), Iv l1 l2 l3 l4 S → wX11_element_5' l1 l2 l3 l4 S K  (fun ml1 ml2 ml3 ml4 T => Iv ml1 ml2 ml3 ml4 T ∧ mu ml1 ml2 ml3 ml4 T < mu l1 l2 l3 l4 S)
set_option maxRecDepth 100000 in
set_option maxHeartbeats 4000000 in
theorem bX11_element_5 {G : xG} {sh : Nat → Option Sh} {J : St → List va_E → Prop} {d : Nat} {Post : xP} {l1 l2 l3 l4 : Int} {S : St} {cs : List va_E} {K : Int → St → Prop} (hd : 1 ≤ d) (hJ : Stb sh J) (hT : isM sh) (hW : Wd G sh mT J S cs) (hP : ∀ (v : Int) (S : St) (cs : List va_E), K v S → Wd G sh mT J S cs → Post (some (.int (Int32.ofInt v))) cs)  (hw : wX11_element_5 l1 l2 l3 l4 S K ) : Z (RX11, cX11_element, 5, some .int, false) G d Post 5 [(0, .ref (G.1 + 54)), (1, .int (Int32.ofInt (l1))), (2, .int (Int32.ofInt (l2))), (3, .int (Int32.ofInt (l3))), (4, .int (Int32.ofInt (l4)))] [] cs := by
  unfold wX11_element_5 at hw
  obtain ⟨Iv, mu, h0, hs⟩ := hw
  have key : ∀ (n : Nat) (l1 l2 l3 l4 : Int) (S : St) (cs : List va_E), mu l1 l2 l3 l4 S < n → Iv l1 l2 l3 l4 S → Wd G sh mT J S cs → Z (RX11, cX11_element, 5, some .int, false) G d Post 5 [(0, .ref (G.1 + 54)), (1, .int (Int32.ofInt (l1))), (2, .int (Int32.ofInt (l2))), (3, .int (Int32.ofInt (l3))), (4, .int (Int32.ofInt (l4)))] [] cs := by
    intro n
    induction n with
    | zero => intro l1 l2 l3 l4 S cs hn; exact absurd hn (Nat.not_lt_zero _)
    | succ n ih =>
      intro l1 l2 l3 l4 S cs hn hI hW
      exact bX11_element_5' hd hJ hT hW hP  (fun l1 l2 l3 l4 S cs hb hW => ih l1 l2 l3 l4 S cs (Nat.lt_of_lt_of_le hb.2 (Nat.le_of_lt_succ hn)) hb.1 hW) (hs l1 l2 l3 l4 S hI)
  exact key _ _ _ _ _ _ _ (Nat.lt_succ_self _) h0 hW
def wX11_element (a1 a2 : Int) (S : St) (K : Int → St → Prop) : Prop := rng a1 → rng a2 → wX11_element_5 (a1) (a2) (1) (0) S K
set_option maxRecDepth 100000 in
set_option maxHeartbeats 4000000 in
theorem lX11_element {G : xG} {sh : Nat → Option Sh} {J : St → List va_E → Prop} {a1 a2 : Int} {S : St} {cs : List va_E} {K : Int → St → Prop} (d : Nat) (hd : 1 ≤ d) (hJ : Stb sh J) (hT : isM sh) (hW : Wd G sh mT J S cs) (g1 : rng a1) (g2 : rng a2) (hw : wX11_element a1 a2 S K) : X G yX11_element cX11_element 5 (some .int) d [.ref (G.1 + 54), .int (Int32.ofInt a1), .int (Int32.ofInt a2)] cs (qI G sh mT J K) := by
  refine X.of false (by decide +kernel) (by decide) (Nat.le_of_ble_eq_true rfl) ?_
  show Z (RX11, cX11_element, 5, some .int, false) G d _ 0 [(0, .ref (G.1 + 54)), (1, .int (Int32.ofInt a1)), (2, .int (Int32.ofInt a2))] [] cs
  have hP : ∀ (v : Int) (S : St) (cs : List va_E), K v S → Wd G sh mT J S cs → qI G sh mT J K (some (.int (Int32.ofInt v))) cs := fun v S cs a b => ⟨v, S, rfl, a, b⟩
  unfold wX11_element at hw
  have hw := hw g1 g2
  refine z_iconst (v := Int32.ofInt 1) dX11_element_0 rfl ?_
  refine z_istore_n dX11_element_1 rfl (by decide) ?_
  refine z_iconst (v := Int32.ofInt 0) dX11_element_2 rfl ?_
  refine z_istore dX11_element_3 (by decide) ?_
  refine z_loc (L' := [(0, .ref (G.1 + 54)), (1, .int (Int32.ofInt (a1))), (2, .int (Int32.ofInt (a2))), (3, .int (Int32.ofInt (1))), (4, .int (Int32.ofInt (0)))]) (List.forall_mem_cons.mpr ⟨rfl, (List.forall_mem_cons.mpr ⟨rfl, (List.forall_mem_cons.mpr ⟨rfl, (List.forall_mem_cons.mpr ⟨rfl, (List.forall_mem_cons.mpr ⟨rfl, (fun _ h => nomatch h)⟩)⟩)⟩)⟩)⟩) ?_
  exact bX11_element_5 hd hJ hT hW hP  hw

def wX11_hasContent_111 (l1 l2 l4 s0 : Int) (S : St) (K : Int → St → Prop) (B5 : Int → Int → Int → Int → St → Prop) : Prop := B5 (l1) (l2) (s0) ((l4 + 1)) S
set_option maxRecDepth 100000 in
set_option maxHeartbeats 4000000 in
theorem bX11_hasContent_111 {G : xG} {sh : Nat → Option Sh} {J : St → List va_E → Prop} {d : Nat} {Post : xP} {l1 l2 l4 s0 : Int} {S : St} {cs : List va_E} {K : Int → St → Prop} {B5 : Int → Int → Int → Int → St → Prop} (hd : 0 ≤ d) (hJ : Stb sh J) (hT : isM sh) (hW : Wd G sh mT J S cs) (hP : ∀ (v : Int) (S : St) (cs : List va_E), K v S → Wd G sh mT J S cs → Post (some (.int (Int32.ofInt v))) cs) (hB5 : ∀ (l1 : Int) (l2 : Int) (l3 : Int) (l4 : Int) (S : St) (cs : List va_E), B5 l1 l2 l3 l4 S → Wd G sh mT J S cs → Z (RX11, cX11_hasContent, 7, some .boolean, false) G d Post 5 [(0, .ref (G.1 + 54)), (1, .int (Int32.ofInt (l1))), (2, .int (Int32.ofInt (l2))), (3, .int (Int32.ofInt (l3))), (4, .int (Int32.ofInt (l4)))] [] cs) (hw : wX11_hasContent_111 l1 l2 l4 s0 S K B5) : Z (RX11, cX11_hasContent, 7, some .boolean, false) G d Post 111 [(0, .ref (G.1 + 54)), (1, .int (Int32.ofInt (l1))), (2, .int (Int32.ofInt (l2))), (4, .int (Int32.ofInt (l4)))] [.int (Int32.ofInt (s0))] cs := by
  unfold wX11_hasContent_111 at hw
  refine z_istore_n dX11_hasContent_111 rfl (by decide) ?_
  refine i_iinc (l := l4) dX11_hasContent_112 rfl (by decide) ?_
  refine z_goto (tgt := 5) dX11_hasContent_115 (by decide) ?_
  refine z_loc (L' := [(0, .ref (G.1 + 54)), (1, .int (Int32.ofInt (l1))), (2, .int (Int32.ofInt (l2))), (3, .int (Int32.ofInt (s0))), (4, .int (Int32.ofInt ((l4 + 1))))]) (List.forall_mem_cons.mpr ⟨rfl, (List.forall_mem_cons.mpr ⟨rfl, (List.forall_mem_cons.mpr ⟨rfl, (List.forall_mem_cons.mpr ⟨rfl, (List.forall_mem_cons.mpr ⟨rfl, (fun _ h => nomatch h)⟩)⟩)⟩)⟩)⟩) ?_
  exact hB5 _ _ _ _ _ _ hw hW
def wX11_hasContent_106 (l1 l2 l4 : Int) (S : St) (K : Int → St → Prop) (B5 : Int → Int → Int → Int → St → Prop) : Prop := wX11_hasContent_111 (l1) (l2) (l4) (1) S K B5
set_option maxRecDepth 100000 in
set_option maxHeartbeats 4000000 in
theorem bX11_hasContent_106 {G : xG} {sh : Nat → Option Sh} {J : St → List va_E → Prop} {d : Nat} {Post : xP} {l1 l2 l4 : Int} {S : St} {cs : List va_E} {K : Int → St → Prop} {B5 : Int → Int → Int → Int → St → Prop} (hd : 0 ≤ d) (hJ : Stb sh J) (hT : isM sh) (hW : Wd G sh mT J S cs) (hP : ∀ (v : Int) (S : St) (cs : List va_E), K v S → Wd G sh mT J S cs → Post (some (.int (Int32.ofInt v))) cs) (hB5 : ∀ (l1 : Int) (l2 : Int) (l3 : Int) (l4 : Int) (S : St) (cs : List va_E), B5 l1 l2 l3 l4 S → Wd G sh mT J S cs → Z (RX11, cX11_hasContent, 7, some .boolean, false) G d Post 5 [(0, .ref (G.1 + 54)), (1, .int (Int32.ofInt (l1))), (2, .int (Int32.ofInt (l2))), (3, .int (Int32.ofInt (l3))), (4, .int (Int32.ofInt (l4)))] [] cs) (hw : wX11_hasContent_106 l1 l2 l4 S K B5) : Z (RX11, cX11_hasContent, 7, some .boolean, false) G d Post 106 [(0, .ref (G.1 + 54)), (1, .int (Int32.ofInt (l1))), (2, .int (Int32.ofInt (l2))), (4, .int (Int32.ofInt (l4)))] [] cs := by
  unfold wX11_hasContent_106 at hw
  refine z_iconst (v := Int32.ofInt 1) dX11_hasContent_106 rfl ?_
  refine z_goto (tgt := 111) dX11_hasContent_107 (by decide) ?_
  refine z_loc (L' := [(0, .ref (G.1 + 54)), (1, .int (Int32.ofInt (l1))), (2, .int (Int32.ofInt (l2))), (4, .int (Int32.ofInt (l4)))]) (List.forall_mem_cons.mpr ⟨rfl, (List.forall_mem_cons.mpr ⟨rfl, (List.forall_mem_cons.mpr ⟨rfl, (List.forall_mem_cons.mpr ⟨rfl, (fun _ h => nomatch h)⟩)⟩)⟩)⟩) ?_
  exact bX11_hasContent_111 hd hJ hT hW hP hB5 hw
def wX11_hasContent_110 (l1 l2 l4 : Int) (S : St) (K : Int → St → Prop) (B5 : Int → Int → Int → Int → St → Prop) : Prop := wX11_hasContent_111 (l1) (l2) (l4) (0) S K B5
set_option maxRecDepth 100000 in
set_option maxHeartbeats 4000000 in
theorem bX11_hasContent_110 {G : xG} {sh : Nat → Option Sh} {J : St → List va_E → Prop} {d : Nat} {Post : xP} {l1 l2 l4 : Int} {S : St} {cs : List va_E} {K : Int → St → Prop} {B5 : Int → Int → Int → Int → St → Prop} (hd : 0 ≤ d) (hJ : Stb sh J) (hT : isM sh) (hW : Wd G sh mT J S cs) (hP : ∀ (v : Int) (S : St) (cs : List va_E), K v S → Wd G sh mT J S cs → Post (some (.int (Int32.ofInt v))) cs) (hB5 : ∀ (l1 : Int) (l2 : Int) (l3 : Int) (l4 : Int) (S : St) (cs : List va_E), B5 l1 l2 l3 l4 S → Wd G sh mT J S cs → Z (RX11, cX11_hasContent, 7, some .boolean, false) G d Post 5 [(0, .ref (G.1 + 54)), (1, .int (Int32.ofInt (l1))), (2, .int (Int32.ofInt (l2))), (3, .int (Int32.ofInt (l3))), (4, .int (Int32.ofInt (l4)))] [] cs) (hw : wX11_hasContent_110 l1 l2 l4 S K B5) : Z (RX11, cX11_hasContent, 7, some .boolean, false) G d Post 110 [(0, .ref (G.1 + 54)), (1, .int (Int32.ofInt (l1))), (2, .int (Int32.ofInt (l2))), (4, .int (Int32.ofInt (l4)))] [] cs := by
  unfold wX11_hasContent_110 at hw
  refine z_iconst (v := Int32.ofInt 0) dX11_hasContent_110 rfl ?_
  refine z_loc (L' := [(0, .ref (G.1 + 54)), (1, .int (Int32.ofInt (l1))), (2, .int (Int32.ofInt (l2))), (4, .int (Int32.ofInt (l4)))]) (List.forall_mem_cons.mpr ⟨rfl, (List.forall_mem_cons.mpr ⟨rfl, (List.forall_mem_cons.mpr ⟨rfl, (List.forall_mem_cons.mpr ⟨rfl, (fun _ h => nomatch h)⟩)⟩)⟩)⟩) ?_
  exact bX11_hasContent_111 hd hJ hT hW hP hB5 hw
def wX11_hasContent_80 (l1 l2 l4 l5 l6 : Int) (S : St) (K : Int → St → Prop) (B5 : Int → Int → Int → Int → St → Prop) : Prop := ((0 : Int) ≤ l5 ∧ l5 < (24 : Int) ∧ (iv 0 3 (S.2 59 (l5)) → ((¬ S.2 59 (l5) = 3 → wX11_hasContent_110 (l1) (l2) (l4) S K B5) ∧ ((¬ (¬ S.2 59 (l5) = 3)) → ((0 : Int) ≤ l5 ∧ l5 < (24 : Int) ∧ (iv 0 1 (S.2 60 (l5)) → ((S.2 60 (l5) = 0 → wX11_hasContent_106 (l1) (l2) (l4) S K B5) ∧ ((¬ (S.2 60 (l5) = 0)) → (rng (l6) ∧ ((l6 ≤ 0 → wX11_hasContent_110 (l1) (l2) (l4) S K B5) ∧ ((¬ (l6 ≤ 0)) → wX11_hasContent_106 (l1) (l2) (l4) S K B5)))))))))))
set_option maxRecDepth 100000 in
set_option maxHeartbeats 4000000 in
theorem bX11_hasContent_80 {G : xG} {sh : Nat → Option Sh} {J : St → List va_E → Prop} {d : Nat} {Post : xP} {l1 l2 l4 l5 l6 : Int} {S : St} {cs : List va_E} {K : Int → St → Prop} {B5 : Int → Int → Int → Int → St → Prop} (hd : 0 ≤ d) (hJ : Stb sh J) (hT : isM sh) (hW : Wd G sh mT J S cs) (hP : ∀ (v : Int) (S : St) (cs : List va_E), K v S → Wd G sh mT J S cs → Post (some (.int (Int32.ofInt v))) cs) (hB5 : ∀ (l1 : Int) (l2 : Int) (l3 : Int) (l4 : Int) (S : St) (cs : List va_E), B5 l1 l2 l3 l4 S → Wd G sh mT J S cs → Z (RX11, cX11_hasContent, 7, some .boolean, false) G d Post 5 [(0, .ref (G.1 + 54)), (1, .int (Int32.ofInt (l1))), (2, .int (Int32.ofInt (l2))), (3, .int (Int32.ofInt (l3))), (4, .int (Int32.ofInt (l4)))] [] cs) (hw : wX11_hasContent_80 l1 l2 l4 l5 l6 S K B5) : Z (RX11, cX11_hasContent, 7, some .boolean, false) G d Post 80 [(0, .ref (G.1 + 54)), (1, .int (Int32.ofInt (l1))), (2, .int (Int32.ofInt (l2))), (4, .int (Int32.ofInt (l4))), (5, .int (Int32.ofInt (l5))), (6, .int (Int32.ofInt (l6)))] [] cs := by
  unfold wX11_hasContent_80 at hw
  refine z_aload_n dX11_hasContent_80 rfl rfl ?_
  refine g_getR hW hT.1 mr6 kX11 fX11_22 dX11_hasContent_81 ?_
  refine z_iload dX11_hasContent_84 rfl ?_
  obtain ⟨q1a, q1b, hw⟩ := hw
  have q2 : iv 0 3 (S.2 59 (l5)) := mA59 hW _
  have hw := hw q2
  refine g_iald hW (ma59 hT) q1a q1b (by decide) dX11_hasContent_86 ?_
  refine z_iconst (v := Int32.ofInt 3) dX11_hasContent_87 rfl ?_
  refine i_icmp_ne (tgt := 110) dX11_hasContent_88 (by decide) (rngq q2 (by decide) (by decide)) ⟨by decide, by decide⟩ (fun h3 => ?_) (fun h3 => ?_)
  · have hw := hw.1 h3
    refine z_loc (L' := [(0, .ref (G.1 + 54)), (1, .int (Int32.ofInt (l1))), (2, .int (Int32.ofInt (l2))), (4, .int (Int32.ofInt (l4)))]) (List.forall_mem_cons.mpr ⟨rfl, (List.forall_mem_cons.mpr ⟨rfl, (List.forall_mem_cons.mpr ⟨rfl, (List.forall_mem_cons.mpr ⟨rfl, (fun _ h => nomatch h)⟩)⟩)⟩)⟩) ?_
    exact bX11_hasContent_110 hd hJ hT hW hP hB5 hw
  · have hw := hw.2 h3
    refine z_aload_n dX11_hasContent_91 rfl rfl ?_
    refine g_getR hW hT.1 mr7 kX11 fX11_25 dX11_hasContent_92 ?_
    refine z_iload dX11_hasContent_95 rfl ?_
    obtain ⟨q4a, q4b, hw⟩ := hw
    have q5 : iv 0 1 (S.2 60 (l5)) := mA60 hW _
    have hw := hw q5
    refine g_zald hW (ma60 hT) q4a q4b (by decide) dX11_hasContent_97 ?_
    refine i_if_eq (tgt := 106) dX11_hasContent_98 (by decide) (rngq q5 (by decide) (by decide)) (fun h6 => ?_) (fun h6 => ?_)
    · have hw := hw.1 h6
      refine z_loc (L' := [(0, .ref (G.1 + 54)), (1, .int (Int32.ofInt (l1))), (2, .int (Int32.ofInt (l2))), (4, .int (Int32.ofInt (l4)))]) (List.forall_mem_cons.mpr ⟨rfl, (List.forall_mem_cons.mpr ⟨rfl, (List.forall_mem_cons.mpr ⟨rfl, (List.forall_mem_cons.mpr ⟨rfl, (fun _ h => nomatch h)⟩)⟩)⟩)⟩) ?_
      exact bX11_hasContent_106 hd hJ hT hW hP hB5 hw
    · have hw := hw.2 h6
      refine z_iload dX11_hasContent_101 rfl ?_
      obtain ⟨q8, hw⟩ := hw
      refine i_if_le (tgt := 110) dX11_hasContent_103 (by decide) q8 (fun h7 => ?_) (fun h7 => ?_)
      · have hw := hw.1 h7
        refine z_loc (L' := [(0, .ref (G.1 + 54)), (1, .int (Int32.ofInt (l1))), (2, .int (Int32.ofInt (l2))), (4, .int (Int32.ofInt (l4)))]) (List.forall_mem_cons.mpr ⟨rfl, (List.forall_mem_cons.mpr ⟨rfl, (List.forall_mem_cons.mpr ⟨rfl, (List.forall_mem_cons.mpr ⟨rfl, (fun _ h => nomatch h)⟩)⟩)⟩)⟩) ?_
        exact bX11_hasContent_110 hd hJ hT hW hP hB5 hw
      · have hw := hw.2 h7
        refine z_loc (L' := [(0, .ref (G.1 + 54)), (1, .int (Int32.ofInt (l1))), (2, .int (Int32.ofInt (l2))), (4, .int (Int32.ofInt (l4)))]) (List.forall_mem_cons.mpr ⟨rfl, (List.forall_mem_cons.mpr ⟨rfl, (List.forall_mem_cons.mpr ⟨rfl, (List.forall_mem_cons.mpr ⟨rfl, (fun _ h => nomatch h)⟩)⟩)⟩)⟩) ?_
        exact bX11_hasContent_106 hd hJ hT hW hP hB5 hw
def wX11_hasContent_62 (l1 l2 l4 l5 l6 : Int) (S : St) (K : Int → St → Prop) (B5 : Int → Int → Int → Int → St → Prop) : Prop := ((0 : Int) ≤ l5 ∧ l5 < (24 : Int) ∧ (iv 0 3 (S.2 59 (l5)) → ((¬ S.2 59 (l5) = 2 → wX11_hasContent_80 (l1) (l2) (l4) (l5) (l6) S K B5) ∧ ((¬ (¬ S.2 59 (l5) = 2)) → (rng (l6) ∧ ((¬ l6 = (-2) → wX11_hasContent_106 (l1) (l2) (l4) S K B5) ∧ ((¬ (¬ l6 = (-2))) → wX11_hasContent_80 (l1) (l2) (l4) (l5) (l6) S K B5)))))))
set_option maxRecDepth 100000 in
set_option maxHeartbeats 4000000 in
theorem bX11_hasContent_62 {G : xG} {sh : Nat → Option Sh} {J : St → List va_E → Prop} {d : Nat} {Post : xP} {l1 l2 l4 l5 l6 : Int} {S : St} {cs : List va_E} {K : Int → St → Prop} {B5 : Int → Int → Int → Int → St → Prop} (hd : 0 ≤ d) (hJ : Stb sh J) (hT : isM sh) (hW : Wd G sh mT J S cs) (hP : ∀ (v : Int) (S : St) (cs : List va_E), K v S → Wd G sh mT J S cs → Post (some (.int (Int32.ofInt v))) cs) (hB5 : ∀ (l1 : Int) (l2 : Int) (l3 : Int) (l4 : Int) (S : St) (cs : List va_E), B5 l1 l2 l3 l4 S → Wd G sh mT J S cs → Z (RX11, cX11_hasContent, 7, some .boolean, false) G d Post 5 [(0, .ref (G.1 + 54)), (1, .int (Int32.ofInt (l1))), (2, .int (Int32.ofInt (l2))), (3, .int (Int32.ofInt (l3))), (4, .int (Int32.ofInt (l4)))] [] cs) (hw : wX11_hasContent_62 l1 l2 l4 l5 l6 S K B5) : Z (RX11, cX11_hasContent, 7, some .boolean, false) G d Post 62 [(0, .ref (G.1 + 54)), (1, .int (Int32.ofInt (l1))), (2, .int (Int32.ofInt (l2))), (4, .int (Int32.ofInt (l4))), (5, .int (Int32.ofInt (l5))), (6, .int (Int32.ofInt (l6)))] [] cs := by
  unfold wX11_hasContent_62 at hw
  refine z_aload_n dX11_hasContent_62 rfl rfl ?_
  refine g_getR hW hT.1 mr6 kX11 fX11_22 dX11_hasContent_63 ?_
  refine z_iload dX11_hasContent_66 rfl ?_
  obtain ⟨q1a, q1b, hw⟩ := hw
  have q2 : iv 0 3 (S.2 59 (l5)) := mA59 hW _
  have hw := hw q2
  refine g_iald hW (ma59 hT) q1a q1b (by decide) dX11_hasContent_68 ?_
  refine z_iconst (v := Int32.ofInt 2) dX11_hasContent_69 rfl ?_
  refine i_icmp_ne (tgt := 80) dX11_hasContent_70 (by decide) (rngq q2 (by decide) (by decide)) ⟨by decide, by decide⟩ (fun h3 => ?_) (fun h3 => ?_)
  · have hw := hw.1 h3
    refine z_loc (L' := [(0, .ref (G.1 + 54)), (1, .int (Int32.ofInt (l1))), (2, .int (Int32.ofInt (l2))), (4, .int (Int32.ofInt (l4))), (5, .int (Int32.ofInt (l5))), (6, .int (Int32.ofInt (l6)))]) (List.forall_mem_cons.mpr ⟨rfl, (List.forall_mem_cons.mpr ⟨rfl, (List.forall_mem_cons.mpr ⟨rfl, (List.forall_mem_cons.mpr ⟨rfl, (List.forall_mem_cons.mpr ⟨rfl, (List.forall_mem_cons.mpr ⟨rfl, (fun _ h => nomatch h)⟩)⟩)⟩)⟩)⟩)⟩) ?_
    exact bX11_hasContent_80 hd hJ hT hW hP hB5 hw
  · have hw := hw.2 h3
    refine z_iload dX11_hasContent_73 rfl ?_
    refine z_bipush (v := Int32.ofInt (-2)) dX11_hasContent_75 (by decide) ?_
    obtain ⟨q5, hw⟩ := hw
    refine i_icmp_ne (tgt := 106) dX11_hasContent_77 (by decide) q5 ⟨by decide, by decide⟩ (fun h4 => ?_) (fun h4 => ?_)
    · have hw := hw.1 h4
      refine z_loc (L' := [(0, .ref (G.1 + 54)), (1, .int (Int32.ofInt (l1))), (2, .int (Int32.ofInt (l2))), (4, .int (Int32.ofInt (l4)))]) (List.forall_mem_cons.mpr ⟨rfl, (List.forall_mem_cons.mpr ⟨rfl, (List.forall_mem_cons.mpr ⟨rfl, (List.forall_mem_cons.mpr ⟨rfl, (fun _ h => nomatch h)⟩)⟩)⟩)⟩) ?_
      exact bX11_hasContent_106 hd hJ hT hW hP hB5 hw
    · have hw := hw.2 h4
      refine z_loc (L' := [(0, .ref (G.1 + 54)), (1, .int (Int32.ofInt (l1))), (2, .int (Int32.ofInt (l2))), (4, .int (Int32.ofInt (l4))), (5, .int (Int32.ofInt (l5))), (6, .int (Int32.ofInt (l6)))]) (List.forall_mem_cons.mpr ⟨rfl, (List.forall_mem_cons.mpr ⟨rfl, (List.forall_mem_cons.mpr ⟨rfl, (List.forall_mem_cons.mpr ⟨rfl, (List.forall_mem_cons.mpr ⟨rfl, (List.forall_mem_cons.mpr ⟨rfl, (fun _ h => nomatch h)⟩)⟩)⟩)⟩)⟩)⟩) ?_
      exact bX11_hasContent_80 hd hJ hT hW hP hB5 hw
def wX11_hasContent_5' (l1 l2 l3 l4 : Int) (S : St) (K : Int → St → Prop) (B5 : Int → Int → Int → Int → St → Prop) : Prop := ((0 : Int) ≤ l2 ∧ l2 < (6 : Int) ∧ (iv 0 4 (S.2 56 (l2)) → (rng (l4) ∧ ((S.2 56 (l2) ≤ l4 → (iv 0 1 (l3) ∧ K (l3) S)) ∧ ((¬ (S.2 56 (l2) ≤ l4)) → ((0 : Int) ≤ ((4 * l1) + l4) ∧ ((4 * l1) + l4) < (360 : Int) ∧ (iv (-2147483648) 2147483647 (S.2 69 (((4 * l1) + l4))) → (rng (l3) ∧ ((¬ l3 = 0 → wX11_hasContent_106 (l1) (l2) (l4) S K B5) ∧ ((¬ (¬ l3 = 0)) → ((0 : Int) ≤ ((4 * l2) + l4) ∧ ((4 * l2) + l4) < (24 : Int) ∧ (iv 0 3 (S.2 59 (((4 * l2) + l4))) → ((1 < S.2 59 (((4 * l2) + l4)) → wX11_hasContent_62 (l1) (l2) (l4) (((4 * l2) + l4)) (S.2 69 (((4 * l1) + l4))) S K B5) ∧ ((¬ (1 < S.2 59 (((4 * l2) + l4)))) → ((0 : Int) ≤ ((4 * l2) + l4) ∧ ((4 * l2) + l4) < (24 : Int) ∧ (iv 0 1 (S.2 60 (((4 * l2) + l4))) → ((S.2 60 (((4 * l2) + l4)) = 0 → wX11_hasContent_106 (l1) (l2) (l4) S K B5) ∧ ((¬ (S.2 60 (((4 * l2) + l4)) = 0)) → wX11_hasContent_62 (l1) (l2) (l4) (((4 * l2) + l4)) (S.2 69 (((4 * l1) + l4))) S K B5))))))))))))))))))
set_option maxRecDepth 100000 in
set_option maxHeartbeats 4000000 in
theorem bX11_hasContent_5' {G : xG} {sh : Nat → Option Sh} {J : St → List va_E → Prop} {d : Nat} {Post : xP} {l1 l2 l3 l4 : Int} {S : St} {cs : List va_E} {K : Int → St → Prop} {B5 : Int → Int → Int → Int → St → Prop} (hd : 0 ≤ d) (hJ : Stb sh J) (hT : isM sh) (hW : Wd G sh mT J S cs) (hP : ∀ (v : Int) (S : St) (cs : List va_E), K v S → Wd G sh mT J S cs → Post (some (.int (Int32.ofInt v))) cs) (hB5 : ∀ (l1 : Int) (l2 : Int) (l3 : Int) (l4 : Int) (S : St) (cs : List va_E), B5 l1 l2 l3 l4 S → Wd G sh mT J S cs → Z (RX11, cX11_hasContent, 7, some .boolean, false) G d Post 5 [(0, .ref (G.1 + 54)), (1, .int (Int32.ofInt (l1))), (2, .int (Int32.ofInt (l2))), (3, .int (Int32.ofInt (l3))), (4, .int (Int32.ofInt (l4)))] [] cs) (hw : wX11_hasContent_5' l1 l2 l3 l4 S K B5) : Z (RX11, cX11_hasContent, 7, some .boolean, false) G d Post 5 [(0, .ref (G.1 + 54)), (1, .int (Int32.ofInt (l1))), (2, .int (Int32.ofInt (l2))), (3, .int (Int32.ofInt (l3))), (4, .int (Int32.ofInt (l4)))] [] cs := by
  unfold wX11_hasContent_5' at hw
  refine z_iload dX11_hasContent_5 rfl ?_
  refine z_aload_n dX11_hasContent_7 rfl rfl ?_
  refine g_getR hW hT.1 mr3 kX11 fX11_13 dX11_hasContent_8 ?_
  refine z_iload_n dX11_hasContent_11 rfl rfl ?_
  obtain ⟨q1a, q1b, hw⟩ := hw
  have q2 : iv 0 4 (S.2 56 (l2)) := mA56 hW _
  have hw := hw q2
  refine g_iald hW (ma56 hT) q1a q1b (by decide) dX11_hasContent_12 ?_
  obtain ⟨q4, hw⟩ := hw
  refine i_icmp_ge (tgt := 118) dX11_hasContent_13 (by decide) q4 (rngq q2 (by decide) (by decide)) (fun h3 => ?_) (fun h3 => ?_)
  · have hw := hw.1 h3
    refine z_iload_n dX11_hasContent_118 rfl rfl ?_
    obtain ⟨q5, hw⟩ := hw
    exact z_ireturn dX11_hasContent_119 rfl (nar01 (b01 q5)) (hP _ _ _ hw hW)
  · have hw := hw.2 h3
    refine z_iconst (v := Int32.ofInt 4) dX11_hasContent_16 rfl ?_
    refine z_iload_n dX11_hasContent_17 rfl rfl ?_
    refine i_imul dX11_hasContent_18 ?_
    refine z_iload dX11_hasContent_19 rfl ?_
    refine i_iadd dX11_hasContent_21 ?_
    refine z_istore dX11_hasContent_22 (by decide) ?_
    refine z_aload_n dX11_hasContent_24 rfl rfl ?_
    refine g_getR hW hT.1 mr16 kX11 fX11_53 dX11_hasContent_25 ?_
    refine z_iconst (v := Int32.ofInt 4) dX11_hasContent_28 rfl ?_
    refine z_iload_n dX11_hasContent_29 rfl rfl ?_
    refine i_imul dX11_hasContent_30 ?_
    refine z_iload dX11_hasContent_31 rfl ?_
    refine i_iadd dX11_hasContent_33 ?_
    obtain ⟨q6a, q6b, hw⟩ := hw
    have q7 : iv (-2147483648) 2147483647 (S.2 69 (((4 * l1) + l4))) := mA69 hW _
    have hw := hw q7
    refine g_iald hW (ma69 hT) q6a q6b (by decide) dX11_hasContent_34 ?_
    refine z_istore dX11_hasContent_35 (by decide) ?_
    refine z_iload_n dX11_hasContent_37 rfl rfl ?_
    obtain ⟨q9, hw⟩ := hw
    refine i_if_ne (tgt := 106) dX11_hasContent_38 (by decide) q9 (fun h8 => ?_) (fun h8 => ?_)
    · have hw := hw.1 h8
      refine z_loc (L' := [(0, .ref (G.1 + 54)), (1, .int (Int32.ofInt (l1))), (2, .int (Int32.ofInt (l2))), (4, .int (Int32.ofInt (l4)))]) (List.forall_mem_cons.mpr ⟨rfl, (List.forall_mem_cons.mpr ⟨rfl, (List.forall_mem_cons.mpr ⟨rfl, (List.forall_mem_cons.mpr ⟨rfl, (fun _ h => nomatch h)⟩)⟩)⟩)⟩) ?_
      exact bX11_hasContent_106 hd hJ hT hW hP hB5 hw
    · have hw := hw.2 h8
      refine z_aload_n dX11_hasContent_41 rfl rfl ?_
      refine g_getR hW hT.1 mr6 kX11 fX11_22 dX11_hasContent_42 ?_
      refine z_iload dX11_hasContent_45 rfl ?_
      obtain ⟨q10a, q10b, hw⟩ := hw
      have q11 : iv 0 3 (S.2 59 (((4 * l2) + l4))) := mA59 hW _
      have hw := hw q11
      refine g_iald hW (ma59 hT) q10a q10b (by decide) dX11_hasContent_47 ?_
      refine z_iconst (v := Int32.ofInt 1) dX11_hasContent_48 rfl ?_
      refine i_icmp_gt (tgt := 62) dX11_hasContent_49 (by decide) (rngq q11 (by decide) (by decide)) ⟨by decide, by decide⟩ (fun h12 => ?_) (fun h12 => ?_)
      · have hw := hw.1 h12
        refine z_loc (L' := [(0, .ref (G.1 + 54)), (1, .int (Int32.ofInt (l1))), (2, .int (Int32.ofInt (l2))), (4, .int (Int32.ofInt (l4))), (5, .int (Int32.ofInt (((4 * l2) + l4)))), (6, .int (Int32.ofInt (S.2 69 (((4 * l1) + l4)))))]) (List.forall_mem_cons.mpr ⟨rfl, (List.forall_mem_cons.mpr ⟨rfl, (List.forall_mem_cons.mpr ⟨rfl, (List.forall_mem_cons.mpr ⟨rfl, (List.forall_mem_cons.mpr ⟨rfl, (List.forall_mem_cons.mpr ⟨rfl, (fun _ h => nomatch h)⟩)⟩)⟩)⟩)⟩)⟩) ?_
        exact bX11_hasContent_62 hd hJ hT hW hP hB5 hw
      · have hw := hw.2 h12
        refine z_aload_n dX11_hasContent_52 rfl rfl ?_
        refine g_getR hW hT.1 mr7 kX11 fX11_25 dX11_hasContent_53 ?_
        refine z_iload dX11_hasContent_56 rfl ?_
        obtain ⟨q13a, q13b, hw⟩ := hw
        have q14 : iv 0 1 (S.2 60 (((4 * l2) + l4))) := mA60 hW _
        have hw := hw q14
        refine g_zald hW (ma60 hT) q13a q13b (by decide) dX11_hasContent_58 ?_
        refine i_if_eq (tgt := 106) dX11_hasContent_59 (by decide) (rngq q14 (by decide) (by decide)) (fun h15 => ?_) (fun h15 => ?_)
        · have hw := hw.1 h15
          refine z_loc (L' := [(0, .ref (G.1 + 54)), (1, .int (Int32.ofInt (l1))), (2, .int (Int32.ofInt (l2))), (4, .int (Int32.ofInt (l4)))]) (List.forall_mem_cons.mpr ⟨rfl, (List.forall_mem_cons.mpr ⟨rfl, (List.forall_mem_cons.mpr ⟨rfl, (List.forall_mem_cons.mpr ⟨rfl, (fun _ h => nomatch h)⟩)⟩)⟩)⟩) ?_
          exact bX11_hasContent_106 hd hJ hT hW hP hB5 hw
        · have hw := hw.2 h15
          refine z_loc (L' := [(0, .ref (G.1 + 54)), (1, .int (Int32.ofInt (l1))), (2, .int (Int32.ofInt (l2))), (4, .int (Int32.ofInt (l4))), (5, .int (Int32.ofInt (((4 * l2) + l4)))), (6, .int (Int32.ofInt (S.2 69 (((4 * l1) + l4)))))]) (List.forall_mem_cons.mpr ⟨rfl, (List.forall_mem_cons.mpr ⟨rfl, (List.forall_mem_cons.mpr ⟨rfl, (List.forall_mem_cons.mpr ⟨rfl, (List.forall_mem_cons.mpr ⟨rfl, (List.forall_mem_cons.mpr ⟨rfl, (fun _ h => nomatch h)⟩)⟩)⟩)⟩)⟩)⟩) ?_
          exact bX11_hasContent_62 hd hJ hT hW hP hB5 hw
def wX11_hasContent_5 (l1 l2 l3 l4 : Int) (S : St) (K : Int → St → Prop) : Prop := ∃ (Iv : Int → Int → Int → Int → St → Prop) (mu : Int → Int → Int → Int → St → Nat), Iv l1 l2 l3 l4 S ∧ ∀ (l1 l2 l3 l4 : Int) (S : St), Iv l1 l2 l3 l4 S → wX11_hasContent_5' l1 l2 l3 l4 S K  (fun ml1 ml2 ml3 ml4 T => Iv ml1 ml2 ml3 ml4 T ∧ mu ml1 ml2 ml3 ml4 T < mu l1 l2 l3 l4 S)
set_option maxRecDepth 100000 in
set_option maxHeartbeats 4000000 in
theorem bX11_hasContent_5 {G : xG} {sh : Nat → Option Sh} {J : St → List va_E → Prop} {d : Nat} {Post : xP} {l1 l2 l3 l4 : Int} {S : St} {cs : List va_E} {K : Int → St → Prop} (hd : 0 ≤ d) (hJ : Stb sh J) (hT : isM sh) (hW : Wd G sh mT J S cs) (hP : ∀ (v : Int) (S : St) (cs : List va_E), K v S → Wd G sh mT J S cs → Post (some (.int (Int32.ofInt v))) cs)  (hw : wX11_hasContent_5 l1 l2 l3 l4 S K ) : Z (RX11, cX11_hasContent, 7, some .boolean, false) G d Post 5 [(0, .ref (G.1 + 54)), (1, .int (Int32.ofInt (l1))), (2, .int (Int32.ofInt (l2))), (3, .int (Int32.ofInt (l3))), (4, .int (Int32.ofInt (l4)))] [] cs := by
  unfold wX11_hasContent_5 at hw
  obtain ⟨Iv, mu, h0, hs⟩ := hw
  have key : ∀ (n : Nat) (l1 l2 l3 l4 : Int) (S : St) (cs : List va_E), mu l1 l2 l3 l4 S < n → Iv l1 l2 l3 l4 S → Wd G sh mT J S cs → Z (RX11, cX11_hasContent, 7, some .boolean, false) G d Post 5 [(0, .ref (G.1 + 54)), (1, .int (Int32.ofInt (l1))), (2, .int (Int32.ofInt (l2))), (3, .int (Int32.ofInt (l3))), (4, .int (Int32.ofInt (l4)))] [] cs := by
    intro n
    induction n with
    | zero => intro l1 l2 l3 l4 S cs hn; exact absurd hn (Nat.not_lt_zero _)
    | succ n ih =>
      intro l1 l2 l3 l4 S cs hn hI hW
      exact bX11_hasContent_5' hd hJ hT hW hP  (fun l1 l2 l3 l4 S cs hb hW => ih l1 l2 l3 l4 S cs (Nat.lt_of_lt_of_le hb.2 (Nat.le_of_lt_succ hn)) hb.1 hW) (hs l1 l2 l3 l4 S hI)
  exact key _ _ _ _ _ _ _ (Nat.lt_succ_self _) h0 hW
def wX11_hasContent (a1 a2 : Int) (S : St) (K : Int → St → Prop) : Prop := rng a1 → rng a2 → wX11_hasContent_5 (a1) (a2) (0) (0) S K
set_option maxRecDepth 100000 in
set_option maxHeartbeats 4000000 in
theorem lX11_hasContent {G : xG} {sh : Nat → Option Sh} {J : St → List va_E → Prop} {a1 a2 : Int} {S : St} {cs : List va_E} {K : Int → St → Prop} (d : Nat) (hd : 0 ≤ d) (hJ : Stb sh J) (hT : isM sh) (hW : Wd G sh mT J S cs) (g1 : rng a1) (g2 : rng a2) (hw : wX11_hasContent a1 a2 S K) : X G yX11_hasContent cX11_hasContent 7 (some .boolean) d [.ref (G.1 + 54), .int (Int32.ofInt a1), .int (Int32.ofInt a2)] cs (qI G sh mT J K) := by
  refine X.of false (by decide +kernel) (by decide) (Nat.le_of_ble_eq_true rfl) ?_
  show Z (RX11, cX11_hasContent, 7, some .boolean, false) G d _ 0 [(0, .ref (G.1 + 54)), (1, .int (Int32.ofInt a1)), (2, .int (Int32.ofInt a2))] [] cs
  have hP : ∀ (v : Int) (S : St) (cs : List va_E), K v S → Wd G sh mT J S cs → qI G sh mT J K (some (.int (Int32.ofInt v))) cs := fun v S cs a b => ⟨v, S, rfl, a, b⟩
  unfold wX11_hasContent at hw
  have hw := hw g1 g2
  refine z_iconst (v := Int32.ofInt 0) dX11_hasContent_0 rfl ?_
  refine z_istore_n dX11_hasContent_1 rfl (by decide) ?_
  refine z_iconst (v := Int32.ofInt 0) dX11_hasContent_2 rfl ?_
  refine z_istore dX11_hasContent_3 (by decide) ?_
  refine z_loc (L' := [(0, .ref (G.1 + 54)), (1, .int (Int32.ofInt (a1))), (2, .int (Int32.ofInt (a2))), (3, .int (Int32.ofInt (0))), (4, .int (Int32.ofInt (0)))]) (List.forall_mem_cons.mpr ⟨rfl, (List.forall_mem_cons.mpr ⟨rfl, (List.forall_mem_cons.mpr ⟨rfl, (List.forall_mem_cons.mpr ⟨rfl, (List.forall_mem_cons.mpr ⟨rfl, (fun _ h => nomatch h)⟩)⟩)⟩)⟩)⟩) ?_
  exact bX11_hasContent_5 hd hJ hT hW hP  hw
