def wX11_way_97 (l2 l3 : Int) (S : St) (K : Int → St → Prop) : Prop := (rng (l2) ∧ ((¬ l2 = (-2) → (rng (l3) ∧ (wX11_steps (l3) (l2) S (fun r4 S5 => K (r4) S5)))) ∧ ((¬ (¬ l2 = (-2))) → K ((-2)) S)))
set_option maxRecDepth 100000 in
set_option maxHeartbeats 4000000 in
theorem bX11_way_97 {G : xG} {sh : Nat → Option Sh} {J : St → List va_E → Prop} {d : Nat} {Post : xP} {l2 l3 : Int} {S : St} {cs : List va_E} {K : Int → St → Prop} (hd : 4 ≤ d) (hJ : Stb sh J) (hT : isM sh) (hW : Wd G sh mT J S cs) (hP : ∀ (v : Int) (S : St) (cs : List va_E), K v S → Wd G sh mT J S cs → Post (some (.int (Int32.ofInt v))) cs)  (hw : wX11_way_97 l2 l3 S K ) : Z (RX11, cX11_way, 5, some .int, false) G d Post 97 [(0, .ref (G.1 + 54)), (2, .int (Int32.ofInt (l2))), (3, .int (Int32.ofInt (l3)))] [] cs := by
  unfold wX11_way_97 at hw
  refine z_iload_n dX11_way_97 rfl rfl ?_
  refine z_bipush (v := Int32.ofInt (-2)) dX11_way_98 (by decide) ?_
  obtain ⟨q2, hw⟩ := hw
  refine i_icmp_ne (tgt := 108) dX11_way_100 (by decide) q2 ⟨by decide, by decide⟩ (fun h1 => ?_) (fun h1 => ?_)
  · have hw := hw.1 h1
    refine z_aload_n dX11_way_108 rfl rfl ?_
    refine z_iload_n dX11_way_109 rfl rfl ?_
    refine z_iload_n dX11_way_110 rfl rfl ?_
    obtain ⟨q3, hw⟩ := hw
    have hX := lX11_steps 3 (Nat.le_refl _) hJ hT hW q3 q2 hw
    refine z_callV (As := [_, _]) eX11_steps sX11_steps lX11_480 rfl dX11_way_111 (hW.1 _ _ hT.1) hX (Nat.le_trans (by decide) hd) rfl (Nat.le_of_ble_eq_true rfl) (fun r cs hp => ?_)
    obtain ⟨r4, S5, rfl, hw, hW⟩ := hp
    refine z_st (st' := [.int (Int32.ofInt (r4))]) rfl ?_
    exact z_ireturn dX11_way_114 rfl rfl (hP _ _ _ hw hW)
  · have hw := hw.2 h1
    refine z_bipush (v := Int32.ofInt (-2)) dX11_way_103 (by decide) ?_
    refine z_goto (tgt := 114) dX11_way_105 (by decide) ?_
    exact z_ireturn dX11_way_114 rfl rfl (hP _ _ _ hw hW)
def wX11_way_69 (l2 l3 s0 : Int) (S : St) (K : Int → St → Prop) (B7 : Int → Int → Int → St → Prop) : Prop := (rng (s0) ∧ ((¬ s0 = 0 → B7 (l2) ((l3 + 1)) (s0) S) ∧ ((¬ (¬ s0 = 0)) → (iv 0 3000 (S.1 54 67) → (rng (l3) ∧ ((¬ l3 = S.1 54 67 → K ((-2)) S) ∧ ((¬ (¬ l3 = S.1 54 67)) → K (l2) S)))))))
set_option maxRecDepth 100000 in
set_option maxHeartbeats 4000000 in
theorem bX11_way_69 {G : xG} {sh : Nat → Option Sh} {J : St → List va_E → Prop} {d : Nat} {Post : xP} {l2 l3 s0 : Int} {S : St} {cs : List va_E} {K : Int → St → Prop} {B7 : Int → Int → Int → St → Prop} (hd : 4 ≤ d) (hJ : Stb sh J) (hT : isM sh) (hW : Wd G sh mT J S cs) (hP : ∀ (v : Int) (S : St) (cs : List va_E), K v S → Wd G sh mT J S cs → Post (some (.int (Int32.ofInt v))) cs) (hB7 : ∀ (l2 : Int) (l3 : Int) (l4 : Int) (S : St) (cs : List va_E), B7 l2 l3 l4 S → Wd G sh mT J S cs → Z (RX11, cX11_way, 5, some .int, false) G d Post 7 [(0, .ref (G.1 + 54)), (2, .int (Int32.ofInt (l2))), (3, .int (Int32.ofInt (l3))), (4, .int (Int32.ofInt (l4)))] [] cs) (hw : wX11_way_69 l2 l3 s0 S K B7) : Z (RX11, cX11_way, 5, some .int, false) G d Post 69 [(0, .ref (G.1 + 54)), (2, .int (Int32.ofInt (l2))), (3, .int (Int32.ofInt (l3)))] [.int (Int32.ofInt (s0))] cs := by
  unfold wX11_way_69 at hw
  refine z_istore dX11_way_69 (by decide) ?_
  refine z_loc (L' := [(0, .ref (G.1 + 54)), (2, .int (Int32.ofInt (l2))), (3, .int (Int32.ofInt (l3))), (4, .int (Int32.ofInt (s0)))]) (List.forall_mem_cons.mpr ⟨rfl, (List.forall_mem_cons.mpr ⟨rfl, (List.forall_mem_cons.mpr ⟨rfl, (List.forall_mem_cons.mpr ⟨rfl, (fun _ h => nomatch h)⟩)⟩)⟩)⟩) ?_
  refine z_iload dX11_way_71 rfl ?_
  obtain ⟨q2, hw⟩ := hw
  refine i_if_ne (tgt := 91) dX11_way_73 (by decide) q2 (fun h1 => ?_) (fun h1 => ?_)
  · have hw := hw.1 h1
    refine i_iinc (l := l3) dX11_way_91 rfl (by decide) ?_
    refine z_loc (L' := [(0, .ref (G.1 + 54)), (2, .int (Int32.ofInt (l2))), (3, .int (Int32.ofInt ((l3 + 1)))), (4, .int (Int32.ofInt (s0)))]) (List.forall_mem_cons.mpr ⟨rfl, (List.forall_mem_cons.mpr ⟨rfl, (List.forall_mem_cons.mpr ⟨rfl, (List.forall_mem_cons.mpr ⟨rfl, (fun _ h => nomatch h)⟩)⟩)⟩)⟩) ?_
    refine z_goto (tgt := 7) dX11_way_94 (by decide) ?_
    refine z_loc (L' := [(0, .ref (G.1 + 54)), (2, .int (Int32.ofInt (l2))), (3, .int (Int32.ofInt ((l3 + 1)))), (4, .int (Int32.ofInt (s0)))]) (List.forall_mem_cons.mpr ⟨rfl, (List.forall_mem_cons.mpr ⟨rfl, (List.forall_mem_cons.mpr ⟨rfl, (List.forall_mem_cons.mpr ⟨rfl, (fun _ h => nomatch h)⟩)⟩)⟩)⟩) ?_
    exact hB7 _ _ _ _ _ hw hW
  · have hw := hw.2 h1
    refine z_iload_n dX11_way_76 rfl rfl ?_
    refine z_aload_n dX11_way_77 rfl rfl ?_
    have q3 : iv 0 3000 (S.1 54 67) := mI67 hW
    have hw := hw q3
    refine g_getI hW hT.1 mr67 kX11 fX11_420 dX11_way_78 ?_
    obtain ⟨q5, hw⟩ := hw
    refine i_icmp_ne (tgt := 88) dX11_way_81 (by decide) q5 (rngq q3 (by decide) (by decide)) (fun h4 => ?_) (fun h4 => ?_)
    · have hw := hw.1 h4
      refine z_bipush (v := Int32.ofInt (-2)) dX11_way_88 (by decide) ?_
      exact z_ireturn dX11_way_90 rfl rfl (hP _ _ _ hw hW)
    · have hw := hw.2 h4
      refine z_iload_n dX11_way_84 rfl rfl ?_
      refine z_goto (tgt := 90) dX11_way_85 (by decide) ?_
      exact z_ireturn dX11_way_90 rfl rfl (hP _ _ _ hw hW)
def wX11_way_7' (l2 l3 l4 : Int) (S : St) (K : Int → St → Prop) (B7 : Int → Int → Int → St → Prop) : Prop := (rng (l4) ∧ ((l4 = 0 → wX11_way_97 (l2) (l3) S K) ∧ ((¬ (l4 = 0)) → (rng (l3) ∧ (wX11_pieceAt (l3) S (fun r4 S5 => (rng (r4) ∧ ((¬ r4 = 46 → wX11_way_97 (l2) (l3) S5 K) ∧ ((¬ (¬ r4 = 46)) → (rng ((l3 + 1)) ∧ (wX11_pieceAt ((l3 + 1)) S5 (fun r9 S10 => (rng (r9) ∧ ((¬ r9 = 46 → wX11_way_97 (l2) (l3) S10 K) ∧ ((¬ (¬ r9 = 46)) → (rng (l2) ∧ ((¬ l2 = (-2) → ((0 : Int) ≤ l2 ∧ l2 < (200 : Int) ∧ (iv (-2) 199 (S10.2 88 (l2)) → (∀ x17 : Int, x17 = S10.2 88 (l2) → (∀ x20 : Int, x20 = (l3 + 2) → (rng (x20) ∧ (wX11_pieceAt (x20) S10 (fun r22 S23 => (rng (r22) ∧ ((¬ r22 = 47 → wX11_way_69 (x17) (x20) (0) S23 K B7) ∧ ((¬ (¬ r22 = 47)) → wX11_way_69 (x17) (x20) (1) S23 K B7))))))))))) ∧ ((¬ (¬ l2 = (-2))) → K ((-2)) S10))))))))))))))))))
set_option maxRecDepth 100000 in
set_option maxHeartbeats 4000000 in
theorem bX11_way_7' {G : xG} {sh : Nat → Option Sh} {J : St → List va_E → Prop} {d : Nat} {Post : xP} {l2 l3 l4 : Int} {S : St} {cs : List va_E} {K : Int → St → Prop} {B7 : Int → Int → Int → St → Prop} (hd : 4 ≤ d) (hJ : Stb sh J) (hT : isM sh) (hW : Wd G sh mT J S cs) (hP : ∀ (v : Int) (S : St) (cs : List va_E), K v S → Wd G sh mT J S cs → Post (some (.int (Int32.ofInt v))) cs) (hB7 : ∀ (l2 : Int) (l3 : Int) (l4 : Int) (S : St) (cs : List va_E), B7 l2 l3 l4 S → Wd G sh mT J S cs → Z (RX11, cX11_way, 5, some .int, false) G d Post 7 [(0, .ref (G.1 + 54)), (2, .int (Int32.ofInt (l2))), (3, .int (Int32.ofInt (l3))), (4, .int (Int32.ofInt (l4)))] [] cs) (hw : wX11_way_7' l2 l3 l4 S K B7) : Z (RX11, cX11_way, 5, some .int, false) G d Post 7 [(0, .ref (G.1 + 54)), (2, .int (Int32.ofInt (l2))), (3, .int (Int32.ofInt (l3))), (4, .int (Int32.ofInt (l4)))] [] cs := by
  unfold wX11_way_7' at hw
  refine z_iload dX11_way_7 rfl ?_
  obtain ⟨q2, hw⟩ := hw
  refine i_if_eq (tgt := 97) dX11_way_9 (by decide) q2 (fun h1 => ?_) (fun h1 => ?_)
  · have hw := hw.1 h1
    refine z_loc (L' := [(0, .ref (G.1 + 54)), (2, .int (Int32.ofInt (l2))), (3, .int (Int32.ofInt (l3)))]) (List.forall_mem_cons.mpr ⟨rfl, (List.forall_mem_cons.mpr ⟨rfl, (List.forall_mem_cons.mpr ⟨rfl, (fun _ h => nomatch h)⟩)⟩)⟩) ?_
    exact bX11_way_97 hd hJ hT hW hP  hw
  · have hw := hw.2 h1
    refine z_aload_n dX11_way_12 rfl rfl ?_
    refine z_iload_n dX11_way_13 rfl rfl ?_
    obtain ⟨q3, hw⟩ := hw
    have hX := lX11_pieceAt 0 (Nat.le_refl _) hJ hT hW q3 hw
    refine z_callV (As := [_]) eX11_pieceAt sX11_pieceAt lX11_473 rfl dX11_way_14 (hW.1 _ _ hT.1) hX (Nat.le_trans (by decide) hd) rfl (Nat.le_of_ble_eq_true rfl) (fun r cs hp => ?_)
    obtain ⟨r4, S5, rfl, hw, hW⟩ := hp
    refine z_st (st' := [.int (Int32.ofInt (r4))]) rfl ?_
    refine z_bipush (v := Int32.ofInt 46) dX11_way_17 (by decide) ?_
    obtain ⟨q7, hw⟩ := hw
    refine i_icmp_ne (tgt := 97) dX11_way_19 (by decide) q7 ⟨by decide, by decide⟩ (fun h6 => ?_) (fun h6 => ?_)
    · have hw := hw.1 h6
      refine z_loc (L' := [(0, .ref (G.1 + 54)), (2, .int (Int32.ofInt (l2))), (3, .int (Int32.ofInt (l3)))]) (List.forall_mem_cons.mpr ⟨rfl, (List.forall_mem_cons.mpr ⟨rfl, (List.forall_mem_cons.mpr ⟨rfl, (fun _ h => nomatch h)⟩)⟩)⟩) ?_
      exact bX11_way_97 hd hJ hT hW hP  hw
    · have hw := hw.2 h6
      refine z_aload_n dX11_way_22 rfl rfl ?_
      refine z_iload_n dX11_way_23 rfl rfl ?_
      refine z_iconst (v := Int32.ofInt 1) dX11_way_24 rfl ?_
      refine i_iadd dX11_way_25 ?_
      obtain ⟨q8, hw⟩ := hw
      have hX := lX11_pieceAt 0 (Nat.le_refl _) hJ hT hW q8 hw
      refine z_callV (As := [_]) eX11_pieceAt sX11_pieceAt lX11_473 rfl dX11_way_26 (hW.1 _ _ hT.1) hX (Nat.le_trans (by decide) hd) rfl (Nat.le_of_ble_eq_true rfl) (fun r cs hp => ?_)
      obtain ⟨r9, S10, rfl, hw, hW⟩ := hp
      refine z_st (st' := [.int (Int32.ofInt (r9))]) rfl ?_
      refine z_bipush (v := Int32.ofInt 46) dX11_way_29 (by decide) ?_
      obtain ⟨q12, hw⟩ := hw
      refine i_icmp_ne (tgt := 97) dX11_way_31 (by decide) q12 ⟨by decide, by decide⟩ (fun h11 => ?_) (fun h11 => ?_)
      · have hw := hw.1 h11
        refine z_loc (L' := [(0, .ref (G.1 + 54)), (2, .int (Int32.ofInt (l2))), (3, .int (Int32.ofInt (l3)))]) (List.forall_mem_cons.mpr ⟨rfl, (List.forall_mem_cons.mpr ⟨rfl, (List.forall_mem_cons.mpr ⟨rfl, (fun _ h => nomatch h)⟩)⟩)⟩) ?_
        exact bX11_way_97 hd hJ hT hW hP  hw
      · have hw := hw.2 h11
        refine z_iload_n dX11_way_34 rfl rfl ?_
        refine z_bipush (v := Int32.ofInt (-2)) dX11_way_35 (by decide) ?_
        obtain ⟨q14, hw⟩ := hw
        refine i_icmp_ne (tgt := 43) dX11_way_37 (by decide) q14 ⟨by decide, by decide⟩ (fun h13 => ?_) (fun h13 => ?_)
        · have hw := hw.1 h13
          refine z_aload_n dX11_way_43 rfl rfl ?_
          refine g_getR hW hT.1 mr47 kX11 fX11_114 dX11_way_44 ?_
          refine z_iload_n dX11_way_47 rfl rfl ?_
          obtain ⟨q15a, q15b, hw⟩ := hw
          have q16 : iv (-2) 199 (S10.2 88 (l2)) := mA88 hW _
          have hw := hw q16
          refine g_iald hW (ma88 hT) q15a q15b (by decide) dX11_way_48 ?_
          obtain ⟨x17, hx17⟩ : ∃ x : Int, x = S10.2 88 (l2) := ⟨_, rfl⟩
          have hw := hw x17 hx17
          refine z_st (st' := [.int (Int32.ofInt x17)]) (by rw [hx17]) ?_
          have q18 : rng x17 := by rw [hx17]; exact (rngq q16 (by decide) (by decide))
          have q19 : iv (-2) 199 x17 := by rw [hx17]; exact q16
          refine z_istore_n dX11_way_49 rfl (by decide) ?_
          refine z_loc (L' := [(0, .ref (G.1 + 54)), (2, .int (Int32.ofInt (x17))), (3, .int (Int32.ofInt (l3))), (4, .int (Int32.ofInt (l4)))]) (List.forall_mem_cons.mpr ⟨rfl, (List.forall_mem_cons.mpr ⟨rfl, (List.forall_mem_cons.mpr ⟨rfl, (List.forall_mem_cons.mpr ⟨rfl, (fun _ h => nomatch h)⟩)⟩)⟩)⟩) ?_
          refine z_iload_n dX11_way_50 rfl rfl ?_
          refine z_iconst (v := Int32.ofInt 2) dX11_way_51 rfl ?_
          refine i_iadd dX11_way_52 ?_
          obtain ⟨x20, hx20⟩ : ∃ x : Int, x = (l3 + 2) := ⟨_, rfl⟩
          have hw := hw x20 hx20
          refine z_st (st' := [.int (Int32.ofInt x20)]) (by rw [hx20]) ?_
          refine z_istore_n dX11_way_53 rfl (by decide) ?_
          refine z_loc (L' := [(0, .ref (G.1 + 54)), (2, .int (Int32.ofInt (x17))), (3, .int (Int32.ofInt (x20))), (4, .int (Int32.ofInt (l4)))]) (List.forall_mem_cons.mpr ⟨rfl, (List.forall_mem_cons.mpr ⟨rfl, (List.forall_mem_cons.mpr ⟨rfl, (List.forall_mem_cons.mpr ⟨rfl, (fun _ h => nomatch h)⟩)⟩)⟩)⟩) ?_
          refine z_aload_n dX11_way_54 rfl rfl ?_
          refine z_iload_n dX11_way_55 rfl rfl ?_
          obtain ⟨q21, hw⟩ := hw
          have hX := lX11_pieceAt 0 (Nat.le_refl _) hJ hT hW q21 hw
          refine z_callV (As := [_]) eX11_pieceAt sX11_pieceAt lX11_473 rfl dX11_way_56 (hW.1 _ _ hT.1) hX (Nat.le_trans (by decide) hd) rfl (Nat.le_of_ble_eq_true rfl) (fun r cs hp => ?_)
          obtain ⟨r22, S23, rfl, hw, hW⟩ := hp
          refine z_st (st' := [.int (Int32.ofInt (r22))]) rfl ?_
          refine z_bipush (v := Int32.ofInt 47) dX11_way_59 (by decide) ?_
          obtain ⟨q25, hw⟩ := hw
          refine i_icmp_ne (tgt := 68) dX11_way_61 (by decide) q25 ⟨by decide, by decide⟩ (fun h24 => ?_) (fun h24 => ?_)
          · have hw := hw.1 h24
            refine z_iconst (v := Int32.ofInt 0) dX11_way_68 rfl ?_
            refine z_loc (L' := [(0, .ref (G.1 + 54)), (2, .int (Int32.ofInt (x17))), (3, .int (Int32.ofInt (x20)))]) (List.forall_mem_cons.mpr ⟨rfl, (List.forall_mem_cons.mpr ⟨rfl, (List.forall_mem_cons.mpr ⟨rfl, (fun _ h => nomatch h)⟩)⟩)⟩) ?_
            exact bX11_way_69 hd hJ hT hW hP hB7 hw
          · have hw := hw.2 h24
            refine z_iconst (v := Int32.ofInt 1) dX11_way_64 rfl ?_
            refine z_goto (tgt := 69) dX11_way_65 (by decide) ?_
            refine z_loc (L' := [(0, .ref (G.1 + 54)), (2, .int (Int32.ofInt (x17))), (3, .int (Int32.ofInt (x20)))]) (List.forall_mem_cons.mpr ⟨rfl, (List.forall_mem_cons.mpr ⟨rfl, (List.forall_mem_cons.mpr ⟨rfl, (fun _ h => nomatch h)⟩)⟩)⟩) ?_
            exact bX11_way_69 hd hJ hT hW hP hB7 hw
        · have hw := hw.2 h13
          refine z_bipush (v := Int32.ofInt (-2)) dX11_way_40 (by decide) ?_
          exact z_ireturn dX11_way_42 rfl rfl (hP _ _ _ hw hW)
def wX11_way_7 (l2 l3 l4 : Int) (S : St) (K : Int → St → Prop) : Prop := ∃ (Iv : Int → Int → Int → St → Prop) (mu : Int → Int → Int → St → Nat), Iv l2 l3 l4 S ∧ ∀ (l2 l3 l4 : Int) (S : St), Iv l2 l3 l4 S → wX11_way_7' l2 l3 l4 S K  (fun ml2 ml3 ml4 T => Iv ml2 ml3 ml4 T ∧ mu ml2 ml3 ml4 T < mu l2 l3 l4 S)
set_option maxRecDepth 100000 in
set_option maxHeartbeats 4000000 in
theorem bX11_way_7 {G : xG} {sh : Nat → Option Sh} {J : St → List va_E → Prop} {d : Nat} {Post : xP} {l2 l3 l4 : Int} {S : St} {cs : List va_E} {K : Int → St → Prop} (hd : 4 ≤ d) (hJ : Stb sh J) (hT : isM sh) (hW : Wd G sh mT J S cs) (hP : ∀ (v : Int) (S : St) (cs : List va_E), K v S → Wd G sh mT J S cs → Post (some (.int (Int32.ofInt v))) cs)  (hw : wX11_way_7 l2 l3 l4 S K ) : Z (RX11, cX11_way, 5, some .int, false) G d Post 7 [(0, .ref (G.1 + 54)), (2, .int (Int32.ofInt (l2))), (3, .int (Int32.ofInt (l3))), (4, .int (Int32.ofInt (l4)))] [] cs := by
  unfold wX11_way_7 at hw
  obtain ⟨Iv, mu, h0, hs⟩ := hw
  have key : ∀ (n : Nat) (l2 l3 l4 : Int) (S : St) (cs : List va_E), mu l2 l3 l4 S < n → Iv l2 l3 l4 S → Wd G sh mT J S cs → Z (RX11, cX11_way, 5, some .int, false) G d Post 7 [(0, .ref (G.1 + 54)), (2, .int (Int32.ofInt (l2))), (3, .int (Int32.ofInt (l3))), (4, .int (Int32.ofInt (l4)))] [] cs := by
    intro n
    induction n with
    | zero => intro l2 l3 l4 S cs hn; exact absurd hn (Nat.not_lt_zero _)
    | succ n ih =>
      intro l2 l3 l4 S cs hn hI hW
      exact bX11_way_7' hd hJ hT hW hP  (fun l2 l3 l4 S cs hb hW => ih l2 l3 l4 S cs (Nat.lt_of_lt_of_le hb.2 (Nat.le_of_lt_succ hn)) hb.1 hW) (hs l2 l3 l4 S hI)
  exact key _ _ _ _ _ _ (Nat.lt_succ_self _) h0 hW
def wX11_way (a1 : Int) (S : St) (K : Int → St → Prop) : Prop := rng a1 → wX11_way_7 (a1) (0) (1) S K
set_option maxRecDepth 100000 in
set_option maxHeartbeats 4000000 in
theorem lX11_way {G : xG} {sh : Nat → Option Sh} {J : St → List va_E → Prop} {a1 : Int} {S : St} {cs : List va_E} {K : Int → St → Prop} (d : Nat) (hd : 4 ≤ d) (hJ : Stb sh J) (hT : isM sh) (hW : Wd G sh mT J S cs) (g1 : rng a1) (hw : wX11_way a1 S K) : X G yX11_way cX11_way 5 (some .int) d [.ref (G.1 + 54), .int (Int32.ofInt a1)] cs (qI G sh mT J K) := by
  refine X.of false (by decide +kernel) (by decide) (Nat.le_of_ble_eq_true rfl) ?_
  show Z (RX11, cX11_way, 5, some .int, false) G d _ 0 [(0, .ref (G.1 + 54)), (1, .int (Int32.ofInt a1))] [] cs
  have hP : ∀ (v : Int) (S : St) (cs : List va_E), K v S → Wd G sh mT J S cs → qI G sh mT J K (some (.int (Int32.ofInt v))) cs := fun v S cs a b => ⟨v, S, rfl, a, b⟩
  unfold wX11_way at hw
  have hw := hw g1
  refine z_iload_n dX11_way_0 rfl rfl ?_
  refine z_istore_n dX11_way_1 rfl (by decide) ?_
  refine z_loc (L' := [(0, .ref (G.1 + 54)), (1, .int (Int32.ofInt (a1))), (2, .int (Int32.ofInt (a1)))]) (List.forall_mem_cons.mpr ⟨rfl, (List.forall_mem_cons.mpr ⟨rfl, (List.forall_mem_cons.mpr ⟨rfl, (fun _ h => nomatch h)⟩)⟩)⟩) ?_
  refine z_iconst (v := Int32.ofInt 0) dX11_way_2 rfl ?_
  refine z_istore_n dX11_way_3 rfl (by decide) ?_
  refine z_loc (L' := [(0, .ref (G.1 + 54)), (1, .int (Int32.ofInt (a1))), (2, .int (Int32.ofInt (a1))), (3, .int (Int32.ofInt (0)))]) (List.forall_mem_cons.mpr ⟨rfl, (List.forall_mem_cons.mpr ⟨rfl, (List.forall_mem_cons.mpr ⟨rfl, (List.forall_mem_cons.mpr ⟨rfl, (fun _ h => nomatch h)⟩)⟩)⟩)⟩) ?_
  refine z_iconst (v := Int32.ofInt 1) dX11_way_4 rfl ?_
  refine z_istore dX11_way_5 (by decide) ?_
  refine z_loc (L' := [(0, .ref (G.1 + 54)), (1, .int (Int32.ofInt (a1))), (2, .int (Int32.ofInt (a1))), (3, .int (Int32.ofInt (0))), (4, .int (Int32.ofInt (1)))]) (List.forall_mem_cons.mpr ⟨rfl, (List.forall_mem_cons.mpr ⟨rfl, (List.forall_mem_cons.mpr ⟨rfl, (List.forall_mem_cons.mpr ⟨rfl, (List.forall_mem_cons.mpr ⟨rfl, (fun _ h => nomatch h)⟩)⟩)⟩)⟩)⟩) ?_
  refine z_loc (L' := [(0, .ref (G.1 + 54)), (2, .int (Int32.ofInt (a1))), (3, .int (Int32.ofInt (0))), (4, .int (Int32.ofInt (1)))]) (List.forall_mem_cons.mpr ⟨rfl, (List.forall_mem_cons.mpr ⟨rfl, (List.forall_mem_cons.mpr ⟨rfl, (List.forall_mem_cons.mpr ⟨rfl, (fun _ h => nomatch h)⟩)⟩)⟩)⟩) ?_
  exact bX11_way_7 hd hJ hT hW hP  hw

def wX11_withId_126 (l1 l2 l4 s0 : Int) (S : St) (K : Int → St → Prop) (B85 : Int → Int → Int → Int → St → Prop) : Prop := B85 (l1) (l2) (s0) ((l4 + 1)) S
set_option maxRecDepth 100000 in
set_option maxHeartbeats 4000000 in
theorem bX11_withId_126 {G : xG} {sh : Nat → Option Sh} {J : St → List va_E → Prop} {d : Nat} {Post : xP} {l1 l2 l4 s0 : Int} {S : St} {cs : List va_E} {K : Int → St → Prop} {B85 : Int → Int → Int → Int → St → Prop} (hd : 1 ≤ d) (hJ : Stb sh J) (hT : isM sh) (hW : Wd G sh mT J S cs) (hP : ∀ (v : Int) (S : St) (cs : List va_E), K v S → Wd G sh mT J S cs → Post (some (.int (Int32.ofInt v))) cs) (hB85 : ∀ (l1 : Int) (l2 : Int) (l3 : Int) (l4 : Int) (S : St) (cs : List va_E), B85 l1 l2 l3 l4 S → Wd G sh mT J S cs → Z (RX11, cX11_withId, 5, some .int, false) G d Post 85 [(0, .ref (G.1 + 54)), (1, .int (Int32.ofInt (l1))), (2, .int (Int32.ofInt (l2))), (3, .int (Int32.ofInt (l3))), (4, .int (Int32.ofInt (l4)))] [] cs) (hw : wX11_withId_126 l1 l2 l4 s0 S K B85) : Z (RX11, cX11_withId, 5, some .int, false) G d Post 126 [(0, .ref (G.1 + 54)), (1, .int (Int32.ofInt (l1))), (2, .int (Int32.ofInt (l2))), (4, .int (Int32.ofInt (l4)))] [.int (Int32.ofInt (s0))] cs := by
  unfold wX11_withId_126 at hw
  refine z_istore_n dX11_withId_126 rfl (by decide) ?_
  refine z_loc (L' := [(0, .ref (G.1 + 54)), (1, .int (Int32.ofInt (l1))), (2, .int (Int32.ofInt (l2))), (3, .int (Int32.ofInt (s0))), (4, .int (Int32.ofInt (l4)))]) (List.forall_mem_cons.mpr ⟨rfl, (List.forall_mem_cons.mpr ⟨rfl, (List.forall_mem_cons.mpr ⟨rfl, (List.forall_mem_cons.mpr ⟨rfl, (List.forall_mem_cons.mpr ⟨rfl, (fun _ h => nomatch h)⟩)⟩)⟩)⟩)⟩) ?_
  refine i_iinc (l := l4) dX11_withId_127 rfl (by decide) ?_
  refine z_loc (L' := [(0, .ref (G.1 + 54)), (1, .int (Int32.ofInt (l1))), (2, .int (Int32.ofInt (l2))), (3, .int (Int32.ofInt (s0))), (4, .int (Int32.ofInt ((l4 + 1))))]) (List.forall_mem_cons.mpr ⟨rfl, (List.forall_mem_cons.mpr ⟨rfl, (List.forall_mem_cons.mpr ⟨rfl, (List.forall_mem_cons.mpr ⟨rfl, (List.forall_mem_cons.mpr ⟨rfl, (fun _ h => nomatch h)⟩)⟩)⟩)⟩)⟩) ?_
  refine z_goto (tgt := 85) dX11_withId_130 (by decide) ?_
  refine z_loc (L' := [(0, .ref (G.1 + 54)), (1, .int (Int32.ofInt (l1))), (2, .int (Int32.ofInt (l2))), (3, .int (Int32.ofInt (s0))), (4, .int (Int32.ofInt ((l4 + 1))))]) (List.forall_mem_cons.mpr ⟨rfl, (List.forall_mem_cons.mpr ⟨rfl, (List.forall_mem_cons.mpr ⟨rfl, (List.forall_mem_cons.mpr ⟨rfl, (List.forall_mem_cons.mpr ⟨rfl, (fun _ h => nomatch h)⟩)⟩)⟩)⟩)⟩) ?_
  exact hB85 _ _ _ _ _ _ hw hW
def wX11_withId_125 (l1 l2 l3 l4 : Int) (S : St) (K : Int → St → Prop) (B85 : Int → Int → Int → Int → St → Prop) : Prop := wX11_withId_126 (l1) (l2) (l4) (l3) S K B85
set_option maxRecDepth 100000 in
set_option maxHeartbeats 4000000 in
theorem bX11_withId_125 {G : xG} {sh : Nat → Option Sh} {J : St → List va_E → Prop} {d : Nat} {Post : xP} {l1 l2 l3 l4 : Int} {S : St} {cs : List va_E} {K : Int → St → Prop} {B85 : Int → Int → Int → Int → St → Prop} (hd : 1 ≤ d) (hJ : Stb sh J) (hT : isM sh) (hW : Wd G sh mT J S cs) (hP : ∀ (v : Int) (S : St) (cs : List va_E), K v S → Wd G sh mT J S cs → Post (some (.int (Int32.ofInt v))) cs) (hB85 : ∀ (l1 : Int) (l2 : Int) (l3 : Int) (l4 : Int) (S : St) (cs : List va_E), B85 l1 l2 l3 l4 S → Wd G sh mT J S cs → Z (RX11, cX11_withId, 5, some .int, false) G d Post 85 [(0, .ref (G.1 + 54)), (1, .int (Int32.ofInt (l1))), (2, .int (Int32.ofInt (l2))), (3, .int (Int32.ofInt (l3))), (4, .int (Int32.ofInt (l4)))] [] cs) (hw : wX11_withId_125 l1 l2 l3 l4 S K B85) : Z (RX11, cX11_withId, 5, some .int, false) G d Post 125 [(0, .ref (G.1 + 54)), (1, .int (Int32.ofInt (l1))), (2, .int (Int32.ofInt (l2))), (3, .int (Int32.ofInt (l3))), (4, .int (Int32.ofInt (l4)))] [] cs := by
  unfold wX11_withId_125 at hw
  refine z_iload_n dX11_withId_125 rfl rfl ?_
  refine z_loc (L' := [(0, .ref (G.1 + 54)), (1, .int (Int32.ofInt (l1))), (2, .int (Int32.ofInt (l2))), (4, .int (Int32.ofInt (l4)))]) (List.forall_mem_cons.mpr ⟨rfl, (List.forall_mem_cons.mpr ⟨rfl, (List.forall_mem_cons.mpr ⟨rfl, (List.forall_mem_cons.mpr ⟨rfl, (fun _ h => nomatch h)⟩)⟩)⟩)⟩) ?_
  exact bX11_withId_126 hd hJ hT hW hP hB85 hw
def wX11_withId_85' (l1 l2 l3 l4 : Int) (S : St) (K : Int → St → Prop) (B85 : Int → Int → Int → Int → St → Prop) : Prop := (iv 0 200 (S.1 54 43) → (rng (l4) ∧ ((S.1 54 43 ≤ l4 → K (l3) S) ∧ ((¬ (S.1 54 43 ≤ l4)) → (rng (l2) ∧ ((l2 = 0 → K (l3) S) ∧ ((¬ (l2 = 0)) → ((0 : Int) ≤ l4 ∧ l4 < (200 : Int) ∧ (iv (-2) 5 (S.2 98 (l4)) → ((¬ S.2 98 (l4) = 4 → wX11_withId_125 (l1) (l2) (l3) (l4) S K B85) ∧ ((¬ (¬ S.2 98 (l4) = 4)) → ((0 : Int) ≤ l4 ∧ l4 < (200 : Int) ∧ (iv 0 99999 (S.2 102 (l4)) → (rng (l1) ∧ ((¬ S.2 102 (l4) = l1 → wX11_withId_125 (l1) (l2) (l3) (l4) S K B85) ∧ ((¬ (¬ S.2 102 (l4) = l1)) → wX11_withId_126 (l1) (l2) (l4) (l4) S K B85))))))))))))))))
set_option maxRecDepth 100000 in
set_option maxHeartbeats 4000000 in
theorem bX11_withId_85' {G : xG} {sh : Nat → Option Sh} {J : St → List va_E → Prop} {d : Nat} {Post : xP} {l1 l2 l3 l4 : Int} {S : St} {cs : List va_E} {K : Int → St → Prop} {B85 : Int → Int → Int → Int → St → Prop} (hd : 1 ≤ d) (hJ : Stb sh J) (hT : isM sh) (hW : Wd G sh mT J S cs) (hP : ∀ (v : Int) (S : St) (cs : List va_E), K v S → Wd G sh mT J S cs → Post (some (.int (Int32.ofInt v))) cs) (hB85 : ∀ (l1 : Int) (l2 : Int) (l3 : Int) (l4 : Int) (S : St) (cs : List va_E), B85 l1 l2 l3 l4 S → Wd G sh mT J S cs → Z (RX11, cX11_withId, 5, some .int, false) G d Post 85 [(0, .ref (G.1 + 54)), (1, .int (Int32.ofInt (l1))), (2, .int (Int32.ofInt (l2))), (3, .int (Int32.ofInt (l3))), (4, .int (Int32.ofInt (l4)))] [] cs) (hw : wX11_withId_85' l1 l2 l3 l4 S K B85) : Z (RX11, cX11_withId, 5, some .int, false) G d Post 85 [(0, .ref (G.1 + 54)), (1, .int (Int32.ofInt (l1))), (2, .int (Int32.ofInt (l2))), (3, .int (Int32.ofInt (l3))), (4, .int (Int32.ofInt (l4)))] [] cs := by
  unfold wX11_withId_85' at hw
  refine z_iload dX11_withId_85 rfl ?_
  refine z_aload_n dX11_withId_87 rfl rfl ?_
  have q1 : iv 0 200 (S.1 54 43) := mI43 hW
  have hw := hw q1
  refine g_getI hW hT.1 mr43 kX11 fX11_386 dX11_withId_88 ?_
  obtain ⟨q3, hw⟩ := hw
  refine i_icmp_ge (tgt := 133) dX11_withId_91 (by decide) q3 (rngq q1 (by decide) (by decide)) (fun h2 => ?_) (fun h2 => ?_)
  · have hw := hw.1 h2
    refine z_iload_n dX11_withId_133 rfl rfl ?_
    exact z_ireturn dX11_withId_134 rfl rfl (hP _ _ _ hw hW)
  · have hw := hw.2 h2
    refine z_iload_n dX11_withId_94 rfl rfl ?_
    obtain ⟨q5, hw⟩ := hw
    refine i_if_eq (tgt := 133) dX11_withId_95 (by decide) q5 (fun h4 => ?_) (fun h4 => ?_)
    · have hw := hw.1 h4
      refine z_iload_n dX11_withId_133 rfl rfl ?_
      exact z_ireturn dX11_withId_134 rfl rfl (hP _ _ _ hw hW)
    · have hw := hw.2 h4
      refine z_aload_n dX11_withId_98 rfl rfl ?_
      refine g_getR hW hT.1 mr61 kX11 fX11_144 dX11_withId_99 ?_
      refine z_iload dX11_withId_102 rfl ?_
      obtain ⟨q6a, q6b, hw⟩ := hw
      have q7 : iv (-2) 5 (S.2 98 (l4)) := mA98 hW _
      have hw := hw q7
      refine g_iald hW (ma98 hT) q6a q6b (by decide) dX11_withId_104 ?_
      refine z_iconst (v := Int32.ofInt 4) dX11_withId_105 rfl ?_
      refine i_icmp_ne (tgt := 125) dX11_withId_106 (by decide) (rngq q7 (by decide) (by decide)) ⟨by decide, by decide⟩ (fun h8 => ?_) (fun h8 => ?_)
      · have hw := hw.1 h8
        refine z_loc (L' := [(0, .ref (G.1 + 54)), (1, .int (Int32.ofInt (l1))), (2, .int (Int32.ofInt (l2))), (3, .int (Int32.ofInt (l3))), (4, .int (Int32.ofInt (l4)))]) (List.forall_mem_cons.mpr ⟨rfl, (List.forall_mem_cons.mpr ⟨rfl, (List.forall_mem_cons.mpr ⟨rfl, (List.forall_mem_cons.mpr ⟨rfl, (List.forall_mem_cons.mpr ⟨rfl, (fun _ h => nomatch h)⟩)⟩)⟩)⟩)⟩) ?_
        exact bX11_withId_125 hd hJ hT hW hP hB85 hw
      · have hw := hw.2 h8
        refine z_aload_n dX11_withId_109 rfl rfl ?_
        refine g_getR hW hT.1 mr65 kX11 fX11_156 dX11_withId_110 ?_
        refine z_iload dX11_withId_113 rfl ?_
        obtain ⟨q9a, q9b, hw⟩ := hw
        have q10 : iv 0 99999 (S.2 102 (l4)) := mA102 hW _
        have hw := hw q10
        refine g_iald hW (ma102 hT) q9a q9b (by decide) dX11_withId_115 ?_
        refine z_iload_n dX11_withId_116 rfl rfl ?_
        obtain ⟨q12, hw⟩ := hw
        refine i_icmp_ne (tgt := 125) dX11_withId_117 (by decide) (rngq q10 (by decide) (by decide)) q12 (fun h11 => ?_) (fun h11 => ?_)
        · have hw := hw.1 h11
          refine z_loc (L' := [(0, .ref (G.1 + 54)), (1, .int (Int32.ofInt (l1))), (2, .int (Int32.ofInt (l2))), (3, .int (Int32.ofInt (l3))), (4, .int (Int32.ofInt (l4)))]) (List.forall_mem_cons.mpr ⟨rfl, (List.forall_mem_cons.mpr ⟨rfl, (List.forall_mem_cons.mpr ⟨rfl, (List.forall_mem_cons.mpr ⟨rfl, (List.forall_mem_cons.mpr ⟨rfl, (fun _ h => nomatch h)⟩)⟩)⟩)⟩)⟩) ?_
          exact bX11_withId_125 hd hJ hT hW hP hB85 hw
        · have hw := hw.2 h11
          refine z_iload dX11_withId_120 rfl ?_
          refine z_goto (tgt := 126) dX11_withId_122 (by decide) ?_
          refine z_loc (L' := [(0, .ref (G.1 + 54)), (1, .int (Int32.ofInt (l1))), (2, .int (Int32.ofInt (l2))), (4, .int (Int32.ofInt (l4)))]) (List.forall_mem_cons.mpr ⟨rfl, (List.forall_mem_cons.mpr ⟨rfl, (List.forall_mem_cons.mpr ⟨rfl, (List.forall_mem_cons.mpr ⟨rfl, (fun _ h => nomatch h)⟩)⟩)⟩)⟩) ?_
          exact bX11_withId_126 hd hJ hT hW hP hB85 hw
def wX11_withId_85 (l1 l2 l3 l4 : Int) (S : St) (K : Int → St → Prop) : Prop := ∃ (Iv : Int → Int → Int → Int → St → Prop) (mu : Int → Int → Int → Int → St → Nat), Iv l1 l2 l3 l4 S ∧ ∀ (l1 l2 l3 l4 : Int) (S : St), Iv l1 l2 l3 l4 S → wX11_withId_85' l1 l2 l3 l4 S K  (fun ml1 ml2 ml3 ml4 T => Iv ml1 ml2 ml3 ml4 T ∧ mu ml1 ml2 ml3 ml4 T < mu l1 l2 l3 l4 S)
set_option maxRecDepth 100000 in
set_option maxHeartbeats 4000000 in
theorem bX11_withId_85 {G : xG} {sh : Nat → Option Sh} {J : St → List va_E → Prop} {d : Nat} {Post : xP} {l1 l2 l3 l4 : Int} {S : St} {cs : List va_E} {K : Int → St → Prop} (hd : 1 ≤ d) (hJ : Stb sh J) (hT : isM sh) (hW : Wd G sh mT J S cs) (hP : ∀ (v : Int) (S : St) (cs : List va_E), K v S → Wd G sh mT J S cs → Post (some (.int (Int32.ofInt v))) cs)  (hw : wX11_withId_85 l1 l2 l3 l4 S K ) : Z (RX11, cX11_withId, 5, some .int, false) G d Post 85 [(0, .ref (G.1 + 54)), (1, .int (Int32.ofInt (l1))), (2, .int (Int32.ofInt (l2))), (3, .int (Int32.ofInt (l3))), (4, .int (Int32.ofInt (l4)))] [] cs := by
  unfold wX11_withId_85 at hw
  obtain ⟨Iv, mu, h0, hs⟩ := hw
  have key : ∀ (n : Nat) (l1 l2 l3 l4 : Int) (S : St) (cs : List va_E), mu l1 l2 l3 l4 S < n → Iv l1 l2 l3 l4 S → Wd G sh mT J S cs → Z (RX11, cX11_withId, 5, some .int, false) G d Post 85 [(0, .ref (G.1 + 54)), (1, .int (Int32.ofInt (l1))), (2, .int (Int32.ofInt (l2))), (3, .int (Int32.ofInt (l3))), (4, .int (Int32.ofInt (l4)))] [] cs := by
    intro n
    induction n with
    | zero => intro l1 l2 l3 l4 S cs hn; exact absurd hn (Nat.not_lt_zero _)
    | succ n ih =>
      intro l1 l2 l3 l4 S cs hn hI hW
      exact bX11_withId_85' hd hJ hT hW hP  (fun l1 l2 l3 l4 S cs hb hW => ih l1 l2 l3 l4 S cs (Nat.lt_of_lt_of_le hb.2 (Nat.le_of_lt_succ hn)) hb.1 hW) (hs l1 l2 l3 l4 S hI)
  exact key _ _ _ _ _ _ _ (Nat.lt_succ_self _) h0 hW
def wX11_withId_79 (l1 l2 : Int) (S : St) (K : Int → St → Prop) : Prop := wX11_withId_85 (l1) (l2) ((-2)) (0) S K
set_option maxRecDepth 100000 in
set_option maxHeartbeats 4000000 in
theorem bX11_withId_79 {G : xG} {sh : Nat → Option Sh} {J : St → List va_E → Prop} {d : Nat} {Post : xP} {l1 l2 : Int} {S : St} {cs : List va_E} {K : Int → St → Prop} (hd : 1 ≤ d) (hJ : Stb sh J) (hT : isM sh) (hW : Wd G sh mT J S cs) (hP : ∀ (v : Int) (S : St) (cs : List va_E), K v S → Wd G sh mT J S cs → Post (some (.int (Int32.ofInt v))) cs)  (hw : wX11_withId_79 l1 l2 S K ) : Z (RX11, cX11_withId, 5, some .int, false) G d Post 79 [(0, .ref (G.1 + 54)), (1, .int (Int32.ofInt (l1))), (2, .int (Int32.ofInt (l2)))] [] cs := by
  unfold wX11_withId_79 at hw
  refine z_bipush (v := Int32.ofInt (-2)) dX11_withId_79 (by decide) ?_
  refine z_istore_n dX11_withId_81 rfl (by decide) ?_
  refine z_loc (L' := [(0, .ref (G.1 + 54)), (1, .int (Int32.ofInt (l1))), (2, .int (Int32.ofInt (l2))), (3, .int (Int32.ofInt ((-2))))]) (List.forall_mem_cons.mpr ⟨rfl, (List.forall_mem_cons.mpr ⟨rfl, (List.forall_mem_cons.mpr ⟨rfl, (List.forall_mem_cons.mpr ⟨rfl, (fun _ h => nomatch h)⟩)⟩)⟩)⟩) ?_
  refine z_iconst (v := Int32.ofInt 0) dX11_withId_82 rfl ?_
  refine z_istore dX11_withId_83 (by decide) ?_
  refine z_loc (L' := [(0, .ref (G.1 + 54)), (1, .int (Int32.ofInt (l1))), (2, .int (Int32.ofInt (l2))), (3, .int (Int32.ofInt ((-2)))), (4, .int (Int32.ofInt (0)))]) (List.forall_mem_cons.mpr ⟨rfl, (List.forall_mem_cons.mpr ⟨rfl, (List.forall_mem_cons.mpr ⟨rfl, (List.forall_mem_cons.mpr ⟨rfl, (List.forall_mem_cons.mpr ⟨rfl, (fun _ h => nomatch h)⟩)⟩)⟩)⟩)⟩) ?_
  refine z_loc (L' := [(0, .ref (G.1 + 54)), (1, .int (Int32.ofInt (l1))), (2, .int (Int32.ofInt (l2))), (3, .int (Int32.ofInt ((-2)))), (4, .int (Int32.ofInt (0)))]) (List.forall_mem_cons.mpr ⟨rfl, (List.forall_mem_cons.mpr ⟨rfl, (List.forall_mem_cons.mpr ⟨rfl, (List.forall_mem_cons.mpr ⟨rfl, (List.forall_mem_cons.mpr ⟨rfl, (fun _ h => nomatch h)⟩)⟩)⟩)⟩)⟩) ?_
  exact bX11_withId_85 hd hJ hT hW hP  hw
def wX11_withId_36' (l1 l2 l3 : Int) (S : St) (K : Int → St → Prop) (B36 : Int → Int → Int → St → Prop) : Prop := (iv 0 3000 (S.1 54 67) → (rng (l3) ∧ ((S.1 54 67 ≤ l3 → wX11_withId_79 (l1) (l2) S K) ∧ ((¬ (S.1 54 67 ≤ l3)) → (rng (l2) ∧ ((l2 = 0 → wX11_withId_79 (l1) (l2) S K) ∧ ((¬ (l2 = 0)) → ((0 : Int) ≤ l3 ∧ l3 < (3000 : Int) ∧ (iv (-2147483648) 2147483647 (S.2 104 (l3)) → (wX11_isDigit (S.2 104 (l3)) S (fun r8 S9 => ((0 : Int) ≤ l3 ∧ l3 < (3000 : Int) ∧ (iv (-2147483648) 2147483647 (S9.2 104 (l3)) → (∀ x12 : Int, x12 = (((10 * l1) + S9.2 104 (l3)) - 48) → B36 (x12) (r8) ((l3 + 1)) S9))))))))))))))
set_option maxRecDepth 100000 in
set_option maxHeartbeats 4000000 in
theorem bX11_withId_36' {G : xG} {sh : Nat → Option Sh} {J : St → List va_E → Prop} {d : Nat} {Post : xP} {l1 l2 l3 : Int} {S : St} {cs : List va_E} {K : Int → St → Prop} {B36 : Int → Int → Int → St → Prop} (hd : 1 ≤ d) (hJ : Stb sh J) (hT : isM sh) (hW : Wd G sh mT J S cs) (hP : ∀ (v : Int) (S : St) (cs : List va_E), K v S → Wd G sh mT J S cs → Post (some (.int (Int32.ofInt v))) cs) (hB36 : ∀ (l1 : Int) (l2 : Int) (l3 : Int) (S : St) (cs : List va_E), B36 l1 l2 l3 S → Wd G sh mT J S cs → Z (RX11, cX11_withId, 5, some .int, false) G d Post 36 [(0, .ref (G.1 + 54)), (1, .int (Int32.ofInt (l1))), (2, .int (Int32.ofInt (l2))), (3, .int (Int32.ofInt (l3)))] [] cs) (hw : wX11_withId_36' l1 l2 l3 S K B36) : Z (RX11, cX11_withId, 5, some .int, false) G d Post 36 [(0, .ref (G.1 + 54)), (1, .int (Int32.ofInt (l1))), (2, .int (Int32.ofInt (l2))), (3, .int (Int32.ofInt (l3)))] [] cs := by
  unfold wX11_withId_36' at hw
  refine z_iload_n dX11_withId_36 rfl rfl ?_
  refine z_aload_n dX11_withId_37 rfl rfl ?_
  have q1 : iv 0 3000 (S.1 54 67) := mI67 hW
  have hw := hw q1
  refine g_getI hW hT.1 mr67 kX11 fX11_420 dX11_withId_38 ?_
  obtain ⟨q3, hw⟩ := hw
  refine i_icmp_ge (tgt := 79) dX11_withId_41 (by decide) q3 (rngq q1 (by decide) (by decide)) (fun h2 => ?_) (fun h2 => ?_)
  · have hw := hw.1 h2
    refine z_loc (L' := [(0, .ref (G.1 + 54)), (1, .int (Int32.ofInt (l1))), (2, .int (Int32.ofInt (l2)))]) (List.forall_mem_cons.mpr ⟨rfl, (List.forall_mem_cons.mpr ⟨rfl, (List.forall_mem_cons.mpr ⟨rfl, (fun _ h => nomatch h)⟩)⟩)⟩) ?_
    exact bX11_withId_79 hd hJ hT hW hP  hw
  · have hw := hw.2 h2
    refine z_iload_n dX11_withId_44 rfl rfl ?_
    obtain ⟨q5, hw⟩ := hw
    refine i_if_eq (tgt := 79) dX11_withId_45 (by decide) q5 (fun h4 => ?_) (fun h4 => ?_)
    · have hw := hw.1 h4
      refine z_loc (L' := [(0, .ref (G.1 + 54)), (1, .int (Int32.ofInt (l1))), (2, .int (Int32.ofInt (l2)))]) (List.forall_mem_cons.mpr ⟨rfl, (List.forall_mem_cons.mpr ⟨rfl, (List.forall_mem_cons.mpr ⟨rfl, (fun _ h => nomatch h)⟩)⟩)⟩) ?_
      exact bX11_withId_79 hd hJ hT hW hP  hw
    · have hw := hw.2 h4
      refine z_aload_n dX11_withId_48 rfl rfl ?_
      refine g_getR hW hT.1 mr68 kX11 fX11_162 dX11_withId_49 ?_
      refine z_iload_n dX11_withId_52 rfl rfl ?_
      obtain ⟨q6a, q6b, hw⟩ := hw
      have q7 : iv (-2147483648) 2147483647 (S.2 104 (l3)) := mA104 hW _
      have hw := hw q7
      refine g_iald hW (ma104 hT) q6a q6b (by decide) dX11_withId_53 ?_
      have hX := lX11_isDigit 0 (Nat.le_refl _) hJ hT hW (rngq q7 (by decide) (by decide)) hw
      refine z_callS (As := [_]) eX11_isDigit sX11_isDigit lX11_189 dX11_withId_54 hX (Nat.le_trans (by decide) hd) rfl (Nat.le_of_ble_eq_true rfl) (fun r cs hp => ?_)
      obtain ⟨r8, S9, rfl, hw, hW⟩ := hp
      refine z_st (st' := [.int (Int32.ofInt (r8))]) rfl ?_
      refine z_istore_n dX11_withId_57 rfl (by decide) ?_
      refine z_loc (L' := [(0, .ref (G.1 + 54)), (1, .int (Int32.ofInt (l1))), (2, .int (Int32.ofInt (r8))), (3, .int (Int32.ofInt (l3)))]) (List.forall_mem_cons.mpr ⟨rfl, (List.forall_mem_cons.mpr ⟨rfl, (List.forall_mem_cons.mpr ⟨rfl, (List.forall_mem_cons.mpr ⟨rfl, (fun _ h => nomatch h)⟩)⟩)⟩)⟩) ?_
      refine z_bipush (v := Int32.ofInt 10) dX11_withId_58 (by decide) ?_
      refine z_iload_n dX11_withId_60 rfl rfl ?_
      refine i_imul dX11_withId_61 ?_
      refine z_aload_n dX11_withId_62 rfl rfl ?_
      refine g_getR hW hT.1 mr68 kX11 fX11_162 dX11_withId_63 ?_
      refine z_iload_n dX11_withId_66 rfl rfl ?_
      obtain ⟨q10a, q10b, hw⟩ := hw
      have q11 : iv (-2147483648) 2147483647 (S9.2 104 (l3)) := mA104 hW _
      have hw := hw q11
      refine g_iald hW (ma104 hT) q10a q10b (by decide) dX11_withId_67 ?_
      refine i_iadd dX11_withId_68 ?_
      refine z_bipush (v := Int32.ofInt 48) dX11_withId_69 (by decide) ?_
      refine i_isub dX11_withId_71 ?_
      obtain ⟨x12, hx12⟩ : ∃ x : Int, x = (((10 * l1) + S9.2 104 (l3)) - 48) := ⟨_, rfl⟩
      have hw := hw x12 hx12
      refine z_st (st' := [.int (Int32.ofInt x12)]) (by rw [hx12]) ?_
      refine z_istore_n dX11_withId_72 rfl (by decide) ?_
      refine z_loc (L' := [(0, .ref (G.1 + 54)), (1, .int (Int32.ofInt (x12))), (2, .int (Int32.ofInt (r8))), (3, .int (Int32.ofInt (l3)))]) (List.forall_mem_cons.mpr ⟨rfl, (List.forall_mem_cons.mpr ⟨rfl, (List.forall_mem_cons.mpr ⟨rfl, (List.forall_mem_cons.mpr ⟨rfl, (fun _ h => nomatch h)⟩)⟩)⟩)⟩) ?_
      refine i_iinc (l := l3) dX11_withId_73 rfl (by decide) ?_
      refine z_loc (L' := [(0, .ref (G.1 + 54)), (1, .int (Int32.ofInt (x12))), (2, .int (Int32.ofInt (r8))), (3, .int (Int32.ofInt ((l3 + 1))))]) (List.forall_mem_cons.mpr ⟨rfl, (List.forall_mem_cons.mpr ⟨rfl, (List.forall_mem_cons.mpr ⟨rfl, (List.forall_mem_cons.mpr ⟨rfl, (fun _ h => nomatch h)⟩)⟩)⟩)⟩) ?_
      refine z_goto (tgt := 36) dX11_withId_76 (by decide) ?_
      refine z_loc (L' := [(0, .ref (G.1 + 54)), (1, .int (Int32.ofInt (x12))), (2, .int (Int32.ofInt (r8))), (3, .int (Int32.ofInt ((l3 + 1))))]) (List.forall_mem_cons.mpr ⟨rfl, (List.forall_mem_cons.mpr ⟨rfl, (List.forall_mem_cons.mpr ⟨rfl, (List.forall_mem_cons.mpr ⟨rfl, (fun _ h => nomatch h)⟩)⟩)⟩)⟩) ?_
      exact hB36 _ _ _ _ _ hw hW
def wX11_withId_36 (l1 l2 l3 : Int) (S : St) (K : Int → St → Prop) : Prop := ∃ (Iv : Int → Int → Int → St → Prop) (mu : Int → Int → Int → St → Nat), Iv l1 l2 l3 S ∧ ∀ (l1 l2 l3 : Int) (S : St), Iv l1 l2 l3 S → wX11_withId_36' l1 l2 l3 S K  (fun ml1 ml2 ml3 T => Iv ml1 ml2 ml3 T ∧ mu ml1 ml2 ml3 T < mu l1 l2 l3 S)
set_option maxRecDepth 100000 in
set_option maxHeartbeats 4000000 in
theorem bX11_withId_36 {G : xG} {sh : Nat → Option Sh} {J : St → List va_E → Prop} {d : Nat} {Post : xP} {l1 l2 l3 : Int} {S : St} {cs : List va_E} {K : Int → St → Prop} (hd : 1 ≤ d) (hJ : Stb sh J) (hT : isM sh) (hW : Wd G sh mT J S cs) (hP : ∀ (v : Int) (S : St) (cs : List va_E), K v S → Wd G sh mT J S cs → Post (some (.int (Int32.ofInt v))) cs)  (hw : wX11_withId_36 l1 l2 l3 S K ) : Z (RX11, cX11_withId, 5, some .int, false) G d Post 36 [(0, .ref (G.1 + 54)), (1, .int (Int32.ofInt (l1))), (2, .int (Int32.ofInt (l2))), (3, .int (Int32.ofInt (l3)))] [] cs := by
  unfold wX11_withId_36 at hw
  obtain ⟨Iv, mu, h0, hs⟩ := hw
  have key : ∀ (n : Nat) (l1 l2 l3 : Int) (S : St) (cs : List va_E), mu l1 l2 l3 S < n → Iv l1 l2 l3 S → Wd G sh mT J S cs → Z (RX11, cX11_withId, 5, some .int, false) G d Post 36 [(0, .ref (G.1 + 54)), (1, .int (Int32.ofInt (l1))), (2, .int (Int32.ofInt (l2))), (3, .int (Int32.ofInt (l3)))] [] cs := by
    intro n
    induction n with
    | zero => intro l1 l2 l3 S cs hn; exact absurd hn (Nat.not_lt_zero _)
    | succ n ih =>
      intro l1 l2 l3 S cs hn hI hW
      exact bX11_withId_36' hd hJ hT hW hP  (fun l1 l2 l3 S cs hb hW => ih l1 l2 l3 S cs (Nat.lt_of_lt_of_le hb.2 (Nat.le_of_lt_succ hn)) hb.1 hW) (hs l1 l2 l3 S hI)
  exact key _ _ _ _ _ _ (Nat.lt_succ_self _) h0 hW
def wX11_withId_33 (l1 s0 : Int) (S : St) (K : Int → St → Prop) : Prop := wX11_withId_36 (l1) (s0) (0) S K
set_option maxRecDepth 100000 in
set_option maxHeartbeats 4000000 in
theorem bX11_withId_33 {G : xG} {sh : Nat → Option Sh} {J : St → List va_E → Prop} {d : Nat} {Post : xP} {l1 s0 : Int} {S : St} {cs : List va_E} {K : Int → St → Prop} (hd : 1 ≤ d) (hJ : Stb sh J) (hT : isM sh) (hW : Wd G sh mT J S cs) (hP : ∀ (v : Int) (S : St) (cs : List va_E), K v S → Wd G sh mT J S cs → Post (some (.int (Int32.ofInt v))) cs)  (hw : wX11_withId_33 l1 s0 S K ) : Z (RX11, cX11_withId, 5, some .int, false) G d Post 33 [(0, .ref (G.1 + 54)), (1, .int (Int32.ofInt (l1)))] [.int (Int32.ofInt (s0))] cs := by
  unfold wX11_withId_33 at hw
  refine z_istore_n dX11_withId_33 rfl (by decide) ?_
  refine z_loc (L' := [(0, .ref (G.1 + 54)), (1, .int (Int32.ofInt (l1))), (2, .int (Int32.ofInt (s0)))]) (List.forall_mem_cons.mpr ⟨rfl, (List.forall_mem_cons.mpr ⟨rfl, (List.forall_mem_cons.mpr ⟨rfl, (fun _ h => nomatch h)⟩)⟩)⟩) ?_
  refine z_iconst (v := Int32.ofInt 0) dX11_withId_34 rfl ?_
  refine z_istore_n dX11_withId_35 rfl (by decide) ?_
  refine z_loc (L' := [(0, .ref (G.1 + 54)), (1, .int (Int32.ofInt (l1))), (2, .int (Int32.ofInt (s0))), (3, .int (Int32.ofInt (0)))]) (List.forall_mem_cons.mpr ⟨rfl, (List.forall_mem_cons.mpr ⟨rfl, (List.forall_mem_cons.mpr ⟨rfl, (List.forall_mem_cons.mpr ⟨rfl, (fun _ h => nomatch h)⟩)⟩)⟩)⟩) ?_
  refine z_loc (L' := [(0, .ref (G.1 + 54)), (1, .int (Int32.ofInt (l1))), (2, .int (Int32.ofInt (s0))), (3, .int (Int32.ofInt (0)))]) (List.forall_mem_cons.mpr ⟨rfl, (List.forall_mem_cons.mpr ⟨rfl, (List.forall_mem_cons.mpr ⟨rfl, (List.forall_mem_cons.mpr ⟨rfl, (fun _ h => nomatch h)⟩)⟩)⟩)⟩) ?_
  exact bX11_withId_36 hd hJ hT hW hP  hw
def wX11_withId_32 (l1 : Int) (S : St) (K : Int → St → Prop) : Prop := wX11_withId_33 (l1) (0) S K
set_option maxRecDepth 100000 in
set_option maxHeartbeats 4000000 in
theorem bX11_withId_32 {G : xG} {sh : Nat → Option Sh} {J : St → List va_E → Prop} {d : Nat} {Post : xP} {l1 : Int} {S : St} {cs : List va_E} {K : Int → St → Prop} (hd : 1 ≤ d) (hJ : Stb sh J) (hT : isM sh) (hW : Wd G sh mT J S cs) (hP : ∀ (v : Int) (S : St) (cs : List va_E), K v S → Wd G sh mT J S cs → Post (some (.int (Int32.ofInt v))) cs)  (hw : wX11_withId_32 l1 S K ) : Z (RX11, cX11_withId, 5, some .int, false) G d Post 32 [(0, .ref (G.1 + 54)), (1, .int (Int32.ofInt (l1)))] [] cs := by
  unfold wX11_withId_32 at hw
  refine z_iconst (v := Int32.ofInt 0) dX11_withId_32 rfl ?_
  refine z_loc (L' := [(0, .ref (G.1 + 54)), (1, .int (Int32.ofInt (l1)))]) (List.forall_mem_cons.mpr ⟨rfl, (List.forall_mem_cons.mpr ⟨rfl, (fun _ h => nomatch h)⟩)⟩) ?_
  exact bX11_withId_33 hd hJ hT hW hP  hw
def wX11_withId (S : St) (K : Int → St → Prop) : Prop := (iv 0 3000 (S.1 54 67) → ((S.1 54 67 ≤ 0 → wX11_withId_32 (0) S K) ∧ ((¬ (S.1 54 67 ≤ 0)) → ((5 ≤ S.1 54 67 → wX11_withId_32 (0) S K) ∧ ((¬ (5 ≤ S.1 54 67)) → ((0 : Int) ≤ 0 ∧ 0 < (3000 : Int) ∧ (iv (-2147483648) 2147483647 (S.2 104 (0)) → ((S.2 104 (0) = 48 → wX11_withId_32 (0) S K) ∧ ((¬ (S.2 104 (0) = 48)) → wX11_withId_33 (0) (1) S K)))))))))
set_option maxRecDepth 100000 in
set_option maxHeartbeats 4000000 in
theorem lX11_withId {G : xG} {sh : Nat → Option Sh} {J : St → List va_E → Prop} {S : St} {cs : List va_E} {K : Int → St → Prop} (d : Nat) (hd : 1 ≤ d) (hJ : Stb sh J) (hT : isM sh) (hW : Wd G sh mT J S cs)  (hw : wX11_withId  S K) : X G yX11_withId cX11_withId 5 (some .int) d [.ref (G.1 + 54)] cs (qI G sh mT J K) := by
  refine X.of false (by decide +kernel) (by decide) (Nat.le_of_ble_eq_true rfl) ?_
  show Z (RX11, cX11_withId, 5, some .int, false) G d _ 0 [(0, .ref (G.1 + 54))] [] cs
  have hP : ∀ (v : Int) (S : St) (cs : List va_E), K v S → Wd G sh mT J S cs → qI G sh mT J K (some (.int (Int32.ofInt v))) cs := fun v S cs a b => ⟨v, S, rfl, a, b⟩
  unfold wX11_withId at hw
  refine z_iconst (v := Int32.ofInt 0) dX11_withId_0 rfl ?_
  refine z_istore_n dX11_withId_1 rfl (by decide) ?_
  refine z_loc (L' := [(0, .ref (G.1 + 54)), (1, .int (Int32.ofInt (0)))]) (List.forall_mem_cons.mpr ⟨rfl, (List.forall_mem_cons.mpr ⟨rfl, (fun _ h => nomatch h)⟩)⟩) ?_
  refine z_aload_n dX11_withId_2 rfl rfl ?_
  have q1 : iv 0 3000 (S.1 54 67) := mI67 hW
  have hw := hw q1
  refine g_getI hW hT.1 mr67 kX11 fX11_420 dX11_withId_3 ?_
  refine i_if_le (tgt := 32) dX11_withId_6 (by decide) (rngq q1 (by decide) (by decide)) (fun h2 => ?_) (fun h2 => ?_)
  · have hw := hw.1 h2
    refine z_loc (L' := [(0, .ref (G.1 + 54)), (1, .int (Int32.ofInt (0)))]) (List.forall_mem_cons.mpr ⟨rfl, (List.forall_mem_cons.mpr ⟨rfl, (fun _ h => nomatch h)⟩)⟩) ?_
    exact bX11_withId_32 hd hJ hT hW hP  hw
  · have hw := hw.2 h2
    refine z_aload_n dX11_withId_9 rfl rfl ?_
    refine g_getI hW hT.1 mr67 kX11 fX11_420 dX11_withId_10 ?_
    refine z_iconst (v := Int32.ofInt 5) dX11_withId_13 rfl ?_
    refine i_icmp_ge (tgt := 32) dX11_withId_14 (by decide) (rngq q1 (by decide) (by decide)) ⟨by decide, by decide⟩ (fun h3 => ?_) (fun h3 => ?_)
    · have hw := hw.1 h3
      refine z_loc (L' := [(0, .ref (G.1 + 54)), (1, .int (Int32.ofInt (0)))]) (List.forall_mem_cons.mpr ⟨rfl, (List.forall_mem_cons.mpr ⟨rfl, (fun _ h => nomatch h)⟩)⟩) ?_
      exact bX11_withId_32 hd hJ hT hW hP  hw
    · have hw := hw.2 h3
      refine z_aload_n dX11_withId_17 rfl rfl ?_
      refine g_getR hW hT.1 mr68 kX11 fX11_162 dX11_withId_18 ?_
      refine z_iconst (v := Int32.ofInt 0) dX11_withId_21 rfl ?_
      obtain ⟨q4a, q4b, hw⟩ := hw
      have q5 : iv (-2147483648) 2147483647 (S.2 104 (0)) := mA104 hW _
      have hw := hw q5
      refine g_iald hW (ma104 hT) q4a q4b (by decide) dX11_withId_22 ?_
      refine z_bipush (v := Int32.ofInt 48) dX11_withId_23 (by decide) ?_
      refine i_icmp_eq (tgt := 32) dX11_withId_25 (by decide) (rngq q5 (by decide) (by decide)) ⟨by decide, by decide⟩ (fun h6 => ?_) (fun h6 => ?_)
      · have hw := hw.1 h6
        refine z_loc (L' := [(0, .ref (G.1 + 54)), (1, .int (Int32.ofInt (0)))]) (List.forall_mem_cons.mpr ⟨rfl, (List.forall_mem_cons.mpr ⟨rfl, (fun _ h => nomatch h)⟩)⟩) ?_
        exact bX11_withId_32 hd hJ hT hW hP  hw
      · have hw := hw.2 h6
        refine z_iconst (v := Int32.ofInt 1) dX11_withId_28 rfl ?_
        refine z_goto (tgt := 33) dX11_withId_29 (by decide) ?_
        refine z_loc (L' := [(0, .ref (G.1 + 54)), (1, .int (Int32.ofInt (0)))]) (List.forall_mem_cons.mpr ⟨rfl, (List.forall_mem_cons.mpr ⟨rfl, (fun _ h => nomatch h)⟩)⟩) ?_
        exact bX11_withId_33 hd hJ hT hW hP  hw

def wX11_target_51 (l1 s0 : Int) (S : St) (K : Int → St → Prop) : Prop := (rng (s0) ∧ ((s0 = (-2) → K ((-2)) S) ∧ ((¬ (s0 = (-2))) → (rng (l1) ∧ ((l1 ≤ s0 → K ((-2)) S) ∧ ((¬ (l1 ≤ s0)) → ((0 : Int) ≤ s0 ∧ s0 < (200 : Int) ∧ (iv (-2) 5 (S.2 98 (s0)) → ((¬ S.2 98 (s0) = 4 → K ((-2)) S) ∧ ((¬ (¬ S.2 98 (s0) = 4)) → K (s0) S))))))))))
set_option maxRecDepth 100000 in
set_option maxHeartbeats 4000000 in
theorem bX11_target_51 {G : xG} {sh : Nat → Option Sh} {J : St → List va_E → Prop} {d : Nat} {Post : xP} {l1 s0 : Int} {S : St} {cs : List va_E} {K : Int → St → Prop} (hd : 5 ≤ d) (hJ : Stb sh J) (hT : isM sh) (hW : Wd G sh mT J S cs) (hP : ∀ (v : Int) (S : St) (cs : List va_E), K v S → Wd G sh mT J S cs → Post (some (.int (Int32.ofInt v))) cs)  (hw : wX11_target_51 l1 s0 S K ) : Z (RX11, cX11_target, 4, some .int, false) G d Post 51 [(0, .ref (G.1 + 54)), (1, .int (Int32.ofInt (l1)))] [.int (Int32.ofInt (s0))] cs := by
  unfold wX11_target_51 at hw
  refine z_istore_n dX11_target_51 rfl (by decide) ?_
  refine z_loc (L' := [(0, .ref (G.1 + 54)), (1, .int (Int32.ofInt (l1))), (3, .int (Int32.ofInt (s0)))]) (List.forall_mem_cons.mpr ⟨rfl, (List.forall_mem_cons.mpr ⟨rfl, (List.forall_mem_cons.mpr ⟨rfl, (fun _ h => nomatch h)⟩)⟩)⟩) ?_
  refine z_iload_n dX11_target_52 rfl rfl ?_
  refine z_bipush (v := Int32.ofInt (-2)) dX11_target_53 (by decide) ?_
  obtain ⟨q2, hw⟩ := hw
  refine i_icmp_eq (tgt := 77) dX11_target_55 (by decide) q2 ⟨by decide, by decide⟩ (fun h1 => ?_) (fun h1 => ?_)
  · have hw := hw.1 h1
    refine z_bipush (v := Int32.ofInt (-2)) dX11_target_77 (by decide) ?_
    exact z_ireturn dX11_target_79 rfl rfl (hP _ _ _ hw hW)
  · have hw := hw.2 h1
    refine z_iload_n dX11_target_58 rfl rfl ?_
    refine z_iload_n dX11_target_59 rfl rfl ?_
    obtain ⟨q4, hw⟩ := hw
    refine i_icmp_ge (tgt := 77) dX11_target_60 (by decide) q2 q4 (fun h3 => ?_) (fun h3 => ?_)
    · have hw := hw.1 h3
      refine z_bipush (v := Int32.ofInt (-2)) dX11_target_77 (by decide) ?_
      exact z_ireturn dX11_target_79 rfl rfl (hP _ _ _ hw hW)
    · have hw := hw.2 h3
      refine z_aload_n dX11_target_63 rfl rfl ?_
      refine g_getR hW hT.1 mr61 kX11 fX11_144 dX11_target_64 ?_
      refine z_iload_n dX11_target_67 rfl rfl ?_
      obtain ⟨q5a, q5b, hw⟩ := hw
      have q6 : iv (-2) 5 (S.2 98 (s0)) := mA98 hW _
      have hw := hw q6
      refine g_iald hW (ma98 hT) q5a q5b (by decide) dX11_target_68 ?_
      refine z_iconst (v := Int32.ofInt 4) dX11_target_69 rfl ?_
      refine i_icmp_ne (tgt := 77) dX11_target_70 (by decide) (rngq q6 (by decide) (by decide)) ⟨by decide, by decide⟩ (fun h7 => ?_) (fun h7 => ?_)
      · have hw := hw.1 h7
        refine z_bipush (v := Int32.ofInt (-2)) dX11_target_77 (by decide) ?_
        exact z_ireturn dX11_target_79 rfl rfl (hP _ _ _ hw hW)
      · have hw := hw.2 h7
        refine z_iload_n dX11_target_73 rfl rfl ?_
        refine z_goto (tgt := 79) dX11_target_74 (by decide) ?_
        exact z_ireturn dX11_target_79 rfl rfl (hP _ _ _ hw hW)
def wX11_target (a1 : Int) (S : St) (K : Int → St → Prop) : Prop := rng a1 → ((0 : Int) ≤ a1 ∧ a1 < (200 : Int) ∧ (iv 0 600 (S.2 90 (a1)) → (wX11_pieceOfValue (S.2 90 (a1)) S (fun r3 S4 => (wX11_pieceAt (0) S4 (fun r5 S6 => (rng (r5) ∧ (wX11_isDigit (r5) S6 (fun r8 S9 => (rng (r8) ∧ ((r8 = 0 → ((¬ r5 = 47 → (wX11_way (a1) S9 (fun r13 S14 => wX11_target_51 (a1) (r13) S14 K))) ∧ ((¬ (¬ r5 = 47)) → (wX11_steps (1) ((-2)) S9 (fun r15 S16 => wX11_target_51 (a1) (r15) S16 K))))) ∧ ((¬ (r8 = 0)) → (wX11_withId S9 (fun r17 S18 => wX11_target_51 (a1) (r17) S18 K))))))))))))))
set_option maxRecDepth 100000 in
set_option maxHeartbeats 4000000 in
theorem lX11_target {G : xG} {sh : Nat → Option Sh} {J : St → List va_E → Prop} {a1 : Int} {S : St} {cs : List va_E} {K : Int → St → Prop} (d : Nat) (hd : 5 ≤ d) (hJ : Stb sh J) (hT : isM sh) (hW : Wd G sh mT J S cs) (g1 : rng a1) (hw : wX11_target a1 S K) : X G yX11_target cX11_target 4 (some .int) d [.ref (G.1 + 54), .int (Int32.ofInt a1)] cs (qI G sh mT J K) := by
  refine X.of false (by decide +kernel) (by decide) (Nat.le_of_ble_eq_true rfl) ?_
  show Z (RX11, cX11_target, 4, some .int, false) G d _ 0 [(0, .ref (G.1 + 54)), (1, .int (Int32.ofInt a1))] [] cs
  have hP : ∀ (v : Int) (S : St) (cs : List va_E), K v S → Wd G sh mT J S cs → qI G sh mT J K (some (.int (Int32.ofInt v))) cs := fun v S cs a b => ⟨v, S, rfl, a, b⟩
  unfold wX11_target at hw
  have hw := hw g1
  refine z_aload_n dX11_target_0 rfl rfl ?_
  refine z_aload_n dX11_target_1 rfl rfl ?_
  refine g_getR hW hT.1 mr49 kX11 fX11_120 dX11_target_2 ?_
  refine z_iload_n dX11_target_5 rfl rfl ?_
  obtain ⟨q1a, q1b, hw⟩ := hw
  have q2 : iv 0 600 (S.2 90 (a1)) := mA90 hW _
  have hw := hw q2
  refine g_iald hW (ma90 hT) q1a q1b (by decide) dX11_target_6 ?_
  have hX := lX11_pieceOfValue 0 (Nat.le_refl _) hJ hT hW (rngq q2 (by decide) (by decide)) hw
  refine z_callV (As := [_]) eX11_pieceOfValue sX11_pieceOfValue lX11_451 rfl dX11_target_7 (hW.1 _ _ hT.1) hX (Nat.le_trans (by decide) hd) rfl (Nat.le_of_ble_eq_true rfl) (fun r cs hp => ?_)
  obtain ⟨r3, S4, rfl, hw, hW⟩ := hp
  refine z_st (st' := []) rfl ?_
  refine z_aload_n dX11_target_10 rfl rfl ?_
  refine z_iconst (v := Int32.ofInt 0) dX11_target_11 rfl ?_
  have hX := lX11_pieceAt 0 (Nat.le_refl _) hJ hT hW ⟨by decide, by decide⟩ hw
  refine z_callV (As := [_]) eX11_pieceAt sX11_pieceAt lX11_473 rfl dX11_target_12 (hW.1 _ _ hT.1) hX (Nat.le_trans (by decide) hd) rfl (Nat.le_of_ble_eq_true rfl) (fun r cs hp => ?_)
  obtain ⟨r5, S6, rfl, hw, hW⟩ := hp
  refine z_st (st' := [.int (Int32.ofInt (r5))]) rfl ?_
  refine z_istore_n dX11_target_15 rfl (by decide) ?_
  refine z_loc (L' := [(0, .ref (G.1 + 54)), (1, .int (Int32.ofInt (a1))), (2, .int (Int32.ofInt (r5)))]) (List.forall_mem_cons.mpr ⟨rfl, (List.forall_mem_cons.mpr ⟨rfl, (List.forall_mem_cons.mpr ⟨rfl, (fun _ h => nomatch h)⟩)⟩)⟩) ?_
  refine z_iload_n dX11_target_16 rfl rfl ?_
  obtain ⟨q7, hw⟩ := hw
  have hX := lX11_isDigit 0 (Nat.le_refl _) hJ hT hW q7 hw
  refine z_callS (As := [_]) eX11_isDigit sX11_isDigit lX11_189 dX11_target_17 hX (Nat.le_trans (by decide) hd) rfl (Nat.le_of_ble_eq_true rfl) (fun r cs hp => ?_)
  obtain ⟨r8, S9, rfl, hw, hW⟩ := hp
  refine z_st (st' := [.int (Int32.ofInt (r8))]) rfl ?_
  obtain ⟨q11, hw⟩ := hw
  refine i_if_eq (tgt := 30) dX11_target_20 (by decide) q11 (fun h10 => ?_) (fun h10 => ?_)
  · have hw := hw.1 h10
    refine z_iload_n dX11_target_30 rfl rfl ?_
    refine z_bipush (v := Int32.ofInt 47) dX11_target_31 (by decide) ?_
    refine i_icmp_ne (tgt := 46) dX11_target_33 (by decide) q7 ⟨by decide, by decide⟩ (fun h12 => ?_) (fun h12 => ?_)
    · have hw := hw.1 h12
      refine z_aload_n dX11_target_46 rfl rfl ?_
      refine z_iload_n dX11_target_47 rfl rfl ?_
      have hX := lX11_way 4 (Nat.le_refl _) hJ hT hW g1 hw
      refine z_callV (As := [_]) eX11_way sX11_way lX11_487 rfl dX11_target_48 (hW.1 _ _ hT.1) hX (Nat.le_trans (by decide) hd) rfl (Nat.le_of_ble_eq_true rfl) (fun r cs hp => ?_)
      obtain ⟨r13, S14, rfl, hw, hW⟩ := hp
      refine z_st (st' := [.int (Int32.ofInt (r13))]) rfl ?_
      refine z_loc (L' := [(0, .ref (G.1 + 54)), (1, .int (Int32.ofInt (a1)))]) (List.forall_mem_cons.mpr ⟨rfl, (List.forall_mem_cons.mpr ⟨rfl, (fun _ h => nomatch h)⟩)⟩) ?_
      exact bX11_target_51 hd hJ hT hW hP  hw
    · have hw := hw.2 h12
      refine z_aload_n dX11_target_36 rfl rfl ?_
      refine z_iconst (v := Int32.ofInt 1) dX11_target_37 rfl ?_
      refine z_bipush (v := Int32.ofInt (-2)) dX11_target_38 (by decide) ?_
      have hX := lX11_steps 3 (Nat.le_refl _) hJ hT hW ⟨by decide, by decide⟩ ⟨by decide, by decide⟩ hw
      refine z_callV (As := [_, _]) eX11_steps sX11_steps lX11_480 rfl dX11_target_40 (hW.1 _ _ hT.1) hX (Nat.le_trans (by decide) hd) rfl (Nat.le_of_ble_eq_true rfl) (fun r cs hp => ?_)
      obtain ⟨r15, S16, rfl, hw, hW⟩ := hp
      refine z_st (st' := [.int (Int32.ofInt (r15))]) rfl ?_
      refine z_goto (tgt := 51) dX11_target_43 (by decide) ?_
      refine z_loc (L' := [(0, .ref (G.1 + 54)), (1, .int (Int32.ofInt (a1)))]) (List.forall_mem_cons.mpr ⟨rfl, (List.forall_mem_cons.mpr ⟨rfl, (fun _ h => nomatch h)⟩)⟩) ?_
      exact bX11_target_51 hd hJ hT hW hP  hw
  · have hw := hw.2 h10
    refine z_aload_n dX11_target_23 rfl rfl ?_
    have hX := lX11_withId 1 (Nat.le_refl _) hJ hT hW  hw
    refine z_callV (As := []) eX11_withId sX11_withId lX11_483 rfl dX11_target_24 (hW.1 _ _ hT.1) hX (Nat.le_trans (by decide) hd) rfl (Nat.le_of_ble_eq_true rfl) (fun r cs hp => ?_)
    obtain ⟨r17, S18, rfl, hw, hW⟩ := hp
    refine z_st (st' := [.int (Int32.ofInt (r17))]) rfl ?_
    refine z_goto (tgt := 51) dX11_target_27 (by decide) ?_
    refine z_loc (L' := [(0, .ref (G.1 + 54)), (1, .int (Int32.ofInt (a1)))]) (List.forall_mem_cons.mpr ⟨rfl, (List.forall_mem_cons.mpr ⟨rfl, (fun _ h => nomatch h)⟩)⟩) ?_
    exact bX11_target_51 hd hJ hT hW hP  hw

