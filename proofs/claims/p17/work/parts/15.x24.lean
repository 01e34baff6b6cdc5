def wX7_end_119  (l3 l4 l5 : Int) (S : St) (K : Int → St → Prop) : Prop := (rng (l4) ∧ (rng (l5) ∧ (rng (l3) ∧ (wX7_down (l4) (l5) (l3) S (fun r2 S1 => K (r2) S1)))))
set_option maxRecDepth 100000 in
set_option maxHeartbeats 4000000 in
theorem ubX7_end_119 {G : xG} {v : Nat → Nat} {sh : Nat → Option Sh} {B : Nat × Nat} {c0 : List va_E} {d : Nat} {Post : xP} {l3 l4 l5 : Int} {S : St} {cs : List va_E} {K : Int → St → Prop} (hd : 4 ≤ d) (hT : sb shC sh) (hS : ∀ b x, sh b = some x → ¬ isS b) (hU : sb shWa sh) (hW : Wv G v sh B c0 S cs) (hP : ∀ (x : Int) (S : St) (cs : List va_E), K x S → Wv G v sh B c0 S cs → Post (some (.int (Int32.ofInt x))) cs)  (hw : wX7_end_119 l3 l4 l5 S K ) : Z (RX7, cX7_end, 7, some .int, false) G d Post 119 [(0, .ref (G.1 + v 240)), (3, .int (Int32.ofInt (l3))), (4, .int (Int32.ofInt (l4))), (5, .int (Int32.ofInt (l5)))] [] cs := by
  unfold wX7_end_119 at hw
  refine z_aload_n dX7_end_119 rfl rfl ?_
  refine z_iload dX7_end_120 rfl ?_
  refine z_iload dX7_end_122 rfl ?_
  refine z_iload_n dX7_end_124 rfl rfl ?_
  obtain ⟨q3, hw⟩ := hw
  obtain ⟨q4, hw⟩ := hw
  obtain ⟨q5, hw⟩ := hw
  have hX := lX7_down 3 (Nat.le_refl _) hT hS hU hW q3 q4 q5 hw
  refine z_callV (As := [_, _, _]) eX7_down sX7_down lX7_30 rfl dX7_end_125 (hW.at (hU 240 _ rfl)) hX (Nat.le_trans (by decide) hd) rfl (Nat.le_of_ble_eq_true rfl) (fun r cs hp => ?_)
  obtain ⟨r2, S1, rfl, hw, hW⟩ := hp
  refine z_st (st' := [.int (Int32.ofInt (r2))]) rfl ?_
  exact z_ireturn dX7_end_128 rfl rfl (hP _ _ _ hw hW)
def wX7_end_79  (l4 : Int) (S : St) (K : Int → St → Prop) : Prop := (rng (l4) ∧ ((¬ l4 = (-1) → K (l4) S) ∧ ((¬ (¬ l4 = (-1))) → K ((-2)) S)))
set_option maxRecDepth 100000 in
set_option maxHeartbeats 4000000 in
theorem ubX7_end_79 {G : xG} {v : Nat → Nat} {sh : Nat → Option Sh} {B : Nat × Nat} {c0 : List va_E} {d : Nat} {Post : xP} {l4 : Int} {S : St} {cs : List va_E} {K : Int → St → Prop} (hd : 4 ≤ d) (hT : sb shC sh) (hS : ∀ b x, sh b = some x → ¬ isS b) (hU : sb shWa sh) (hW : Wv G v sh B c0 S cs) (hP : ∀ (x : Int) (S : St) (cs : List va_E), K x S → Wv G v sh B c0 S cs → Post (some (.int (Int32.ofInt x))) cs)  (hw : wX7_end_79 l4 S K ) : Z (RX7, cX7_end, 7, some .int, false) G d Post 79 [(0, .ref (G.1 + v 240)), (4, .int (Int32.ofInt (l4)))] [] cs := by
  unfold wX7_end_79 at hw
  refine z_iload dX7_end_79 rfl ?_
  refine z_iconst (v := Int32.ofInt (-1)) dX7_end_81 rfl ?_
  obtain ⟨q2, hw⟩ := hw
  refine i_icmp_ne (tgt := 90) dX7_end_82 (by decide) q2 ⟨by decide, by decide⟩ (fun h1 => ?_) (fun h1 => ?_)
  · have hw := hw.1 h1
    refine z_iload dX7_end_90 rfl ?_
    exact z_ireturn dX7_end_92 rfl rfl (hP _ _ _ hw hW)
  · have hw := hw.2 h1
    refine z_bipush (v := Int32.ofInt (-2)) dX7_end_85 (by decide) ?_
    refine z_goto (tgt := 92) dX7_end_87 (by decide) ?_
    exact z_ireturn dX7_end_92 rfl rfl (hP _ _ _ hw hW)
def wX7_end_37'  (l3 l4 l5 l6 : Int) (S : St) (K : Int → St → Prop) (B37 : Int → Int → Int → Int → St → Prop) : Prop := (rng (l6) ∧ (rng (l3) ∧ ((l3 ≤ l6 → wX7_end_119 (l3) (l4) (l5) S K) ∧ ((¬ (l3 ≤ l6)) → (rng (l5) ∧ (wX7_goesUp (l5) (l3) S (fun r5 S4 => (rng (r5) ∧ ((r5 = 0 → wX7_end_119 (l3) (l4) (l5) S4 K) ∧ ((¬ (r5 = 0)) → (rng (l4) ∧ (wX6_parent (l4) S4 (fun r10 S9 => (rng (r10) ∧ ((r10 = (-1) → wX7_end_79 (r10) S9 K) ∧ ((¬ (r10 = (-1))) → (rng ((l5 + 2)) ∧ ((¬ (l5 + 2) = l3 → (wX5_at 4 ((l5 + 2)) S9 (fun r17 S16 => (rng (r17) ∧ ((r17 = 47 → B37 (l3) (r10) (((l5 + 2) + 1)) ((l6 + 1)) S16) ∧ ((¬ (r17 = 47)) → K ((-2)) S16)))))) ∧ ((¬ (¬ (l5 + 2) = l3)) → wX7_end_79 (r10) S9 K)))))))))))))))))))
set_option maxRecDepth 100000 in
set_option maxHeartbeats 4000000 in
theorem ubX7_end_37' {G : xG} {v : Nat → Nat} {sh : Nat → Option Sh} {B : Nat × Nat} {c0 : List va_E} {d : Nat} {Post : xP} {l3 l4 l5 l6 : Int} {S : St} {cs : List va_E} {K : Int → St → Prop} {B37 : Int → Int → Int → Int → St → Prop} (hd : 4 ≤ d) (hT : sb shC sh) (hS : ∀ b x, sh b = some x → ¬ isS b) (hU : sb shWa sh) (hW : Wv G v sh B c0 S cs) (hP : ∀ (x : Int) (S : St) (cs : List va_E), K x S → Wv G v sh B c0 S cs → Post (some (.int (Int32.ofInt x))) cs) (hB37 : ∀ (l3 : Int) (l4 : Int) (l5 : Int) (l6 : Int) (S : St) (cs : List va_E), B37 l3 l4 l5 l6 S → Wv G v sh B c0 S cs → Z (RX7, cX7_end, 7, some .int, false) G d Post 37 [(0, .ref (G.1 + v 240)), (3, .int (Int32.ofInt (l3))), (4, .int (Int32.ofInt (l4))), (5, .int (Int32.ofInt (l5))), (6, .int (Int32.ofInt (l6)))] [] cs) (hw : wX7_end_37' l3 l4 l5 l6 S K B37) : Z (RX7, cX7_end, 7, some .int, false) G d Post 37 [(0, .ref (G.1 + v 240)), (3, .int (Int32.ofInt (l3))), (4, .int (Int32.ofInt (l4))), (5, .int (Int32.ofInt (l5))), (6, .int (Int32.ofInt (l6)))] [] cs := by
  unfold wX7_end_37' at hw
  refine z_iload dX7_end_37 rfl ?_
  refine z_iload_n dX7_end_39 rfl rfl ?_
  obtain ⟨q2, hw⟩ := hw
  obtain ⟨q3, hw⟩ := hw
  refine i_icmp_ge (tgt := 119) dX7_end_40 (by decide) q2 q3 (fun h1 => ?_) (fun h1 => ?_)
  · have hw := hw.1 h1
    refine z_loc (L' := [(0, .ref (G.1 + v 240)), (3, .int (Int32.ofInt (l3))), (4, .int (Int32.ofInt (l4))), (5, .int (Int32.ofInt (l5)))]) (List.forall_mem_cons.mpr ⟨rfl, (List.forall_mem_cons.mpr ⟨rfl, (List.forall_mem_cons.mpr ⟨rfl, (List.forall_mem_cons.mpr ⟨rfl, (fun _ h => nomatch h)⟩)⟩)⟩)⟩) ?_
    exact ubX7_end_119 hd hT hS hU hW hP  hw
  · have hw := hw.2 h1
    refine z_aload_n dX7_end_43 rfl rfl ?_
    refine z_iload dX7_end_44 rfl ?_
    refine z_iload_n dX7_end_46 rfl rfl ?_
    obtain ⟨q6, hw⟩ := hw
    have hX := lX7_goesUp 1 (Nat.le_refl _) hT hS hU hW q6 q3 hw
    refine z_callV (As := [_, _]) eX7_goesUp sX7_goesUp lX7_34 rfl dX7_end_47 (hW.at (hU 240 _ rfl)) hX (Nat.le_trans (by decide) hd) rfl (Nat.le_of_ble_eq_true rfl) (fun r cs hp => ?_)
    obtain ⟨r5, S4, rfl, hw, hW⟩ := hp
    refine z_st (st' := [.int (Int32.ofInt (r5))]) rfl ?_
    obtain ⟨q8, hw⟩ := hw
    refine i_if_eq (tgt := 119) dX7_end_50 (by decide) q8 (fun h7 => ?_) (fun h7 => ?_)
    · have hw := hw.1 h7
      refine z_loc (L' := [(0, .ref (G.1 + v 240)), (3, .int (Int32.ofInt (l3))), (4, .int (Int32.ofInt (l4))), (5, .int (Int32.ofInt (l5)))]) (List.forall_mem_cons.mpr ⟨rfl, (List.forall_mem_cons.mpr ⟨rfl, (List.forall_mem_cons.mpr ⟨rfl, (List.forall_mem_cons.mpr ⟨rfl, (fun _ h => nomatch h)⟩)⟩)⟩)⟩) ?_
      exact ubX7_end_119 hd hT hS hU hW hP  hw
    · have hw := hw.2 h7
      refine z_aload_n dX7_end_53 rfl rfl ?_
      refine v_getR hW (hU 240 _ rfl) rfl kX7 fX7_9 dX7_end_54 ?_
      refine z_iload dX7_end_57 rfl ?_
      obtain ⟨q11, hw⟩ := hw
      have hX := lX6_parent 1 (Nat.le_refl _) hT hS (sbt sbX6_X7 hU) hW q11 hw
      refine z_callV (As := [_]) eX6_parent sX6_parent lX7_38 rfl dX7_end_59 (hW.at (hU 3 _ rfl)) hX (Nat.le_trans (by decide) hd) rfl (Nat.le_of_ble_eq_true rfl) (fun r cs hp => ?_)
      obtain ⟨r10, S9, rfl, hw, hW⟩ := hp
      refine z_st (st' := [.int (Int32.ofInt (r10))]) rfl ?_
      refine z_istore dX7_end_62 (by decide) ?_
      refine z_loc (L' := [(0, .ref (G.1 + v 240)), (3, .int (Int32.ofInt (l3))), (4, .int (Int32.ofInt (r10))), (5, .int (Int32.ofInt (l5))), (6, .int (Int32.ofInt (l6)))]) (List.forall_mem_cons.mpr ⟨rfl, (List.forall_mem_cons.mpr ⟨rfl, (List.forall_mem_cons.mpr ⟨rfl, (List.forall_mem_cons.mpr ⟨rfl, (List.forall_mem_cons.mpr ⟨rfl, (fun _ h => nomatch h)⟩)⟩)⟩)⟩)⟩) ?_
      refine i_iinc (l := l5) dX7_end_64 rfl (by decide) ?_
      refine z_loc (L' := [(0, .ref (G.1 + v 240)), (3, .int (Int32.ofInt (l3))), (4, .int (Int32.ofInt (r10))), (5, .int (Int32.ofInt ((l5 + 2)))), (6, .int (Int32.ofInt (l6)))]) (List.forall_mem_cons.mpr ⟨rfl, (List.forall_mem_cons.mpr ⟨rfl, (List.forall_mem_cons.mpr ⟨rfl, (List.forall_mem_cons.mpr ⟨rfl, (List.forall_mem_cons.mpr ⟨rfl, (fun _ h => nomatch h)⟩)⟩)⟩)⟩)⟩) ?_
      refine z_iload dX7_end_67 rfl ?_
      refine z_iconst (v := Int32.ofInt (-1)) dX7_end_69 rfl ?_
      obtain ⟨q13, hw⟩ := hw
      refine i_icmp_eq (tgt := 79) dX7_end_70 (by decide) q13 ⟨by decide, by decide⟩ (fun h12 => ?_) (fun h12 => ?_)
      · have hw := hw.1 h12
        refine z_loc (L' := [(0, .ref (G.1 + v 240)), (4, .int (Int32.ofInt (r10)))]) (List.forall_mem_cons.mpr ⟨rfl, (List.forall_mem_cons.mpr ⟨rfl, (fun _ h => nomatch h)⟩)⟩) ?_
        exact ubX7_end_79 hd hT hS hU hW hP  hw
      · have hw := hw.2 h12
        refine z_iload dX7_end_73 rfl ?_
        refine z_iload_n dX7_end_75 rfl rfl ?_
        obtain ⟨q15, hw⟩ := hw
        refine i_icmp_ne (tgt := 93) dX7_end_76 (by decide) q15 q3 (fun h14 => ?_) (fun h14 => ?_)
        · have hw := hw.1 h14
          refine z_aload_n dX7_end_93 rfl rfl ?_
          refine v_getR hW (hU 240 _ rfl) rfl kX7 fX7_21 dX7_end_94 ?_
          refine z_iload dX7_end_97 rfl ?_
          have hX := lX5_at 0 (Nat.le_refl _) hW (show isS 4 by unfold isS; decide) (fun b x h e => hS b x h (e ▸ (show isS 4 by unfold isS; decide))) q15 hw
          refine z_callV (As := [_]) eX5_at sX5_at lX7_24 rfl dX7_end_99 (hW.sg (show isS 4 by unfold isS; decide) (fun b x h e => hS b x h (e ▸ (show isS 4 by unfold isS; decide)))).choose_spec.choose_spec.choose_spec.choose_spec.1.choose_spec.1 hX (Nat.le_trans (by decide) hd) rfl (Nat.le_of_ble_eq_true rfl) (fun r cs hp => ?_)
          obtain ⟨r17, S16, rfl, hw, hW⟩ := hp
          refine z_st (st' := [.int (Int32.ofInt (r17))]) rfl ?_
          refine z_bipush (v := Int32.ofInt 47) dX7_end_102 (by decide) ?_
          obtain ⟨q19, hw⟩ := hw
          refine i_icmp_eq (tgt := 110) dX7_end_104 (by decide) q19 ⟨by decide, by decide⟩ (fun h18 => ?_) (fun h18 => ?_)
          · have hw := hw.1 h18
            refine i_iinc (l := (l5 + 2)) dX7_end_110 rfl (by decide) ?_
            refine z_loc (L' := [(0, .ref (G.1 + v 240)), (3, .int (Int32.ofInt (l3))), (4, .int (Int32.ofInt (r10))), (5, .int (Int32.ofInt (((l5 + 2) + 1)))), (6, .int (Int32.ofInt (l6)))]) (List.forall_mem_cons.mpr ⟨rfl, (List.forall_mem_cons.mpr ⟨rfl, (List.forall_mem_cons.mpr ⟨rfl, (List.forall_mem_cons.mpr ⟨rfl, (List.forall_mem_cons.mpr ⟨rfl, (fun _ h => nomatch h)⟩)⟩)⟩)⟩)⟩) ?_
            refine i_iinc (l := l6) dX7_end_113 rfl (by decide) ?_
            refine z_loc (L' := [(0, .ref (G.1 + v 240)), (3, .int (Int32.ofInt (l3))), (4, .int (Int32.ofInt (r10))), (5, .int (Int32.ofInt (((l5 + 2) + 1)))), (6, .int (Int32.ofInt ((l6 + 1))))]) (List.forall_mem_cons.mpr ⟨rfl, (List.forall_mem_cons.mpr ⟨rfl, (List.forall_mem_cons.mpr ⟨rfl, (List.forall_mem_cons.mpr ⟨rfl, (List.forall_mem_cons.mpr ⟨rfl, (fun _ h => nomatch h)⟩)⟩)⟩)⟩)⟩) ?_
            refine z_goto (tgt := 37) dX7_end_116 (by decide) ?_
            refine z_loc (L' := [(0, .ref (G.1 + v 240)), (3, .int (Int32.ofInt (l3))), (4, .int (Int32.ofInt (r10))), (5, .int (Int32.ofInt (((l5 + 2) + 1)))), (6, .int (Int32.ofInt ((l6 + 1))))]) (List.forall_mem_cons.mpr ⟨rfl, (List.forall_mem_cons.mpr ⟨rfl, (List.forall_mem_cons.mpr ⟨rfl, (List.forall_mem_cons.mpr ⟨rfl, (List.forall_mem_cons.mpr ⟨rfl, (fun _ h => nomatch h)⟩)⟩)⟩)⟩)⟩) ?_
            exact hB37 _ _ _ _ _ _ hw hW
          · have hw := hw.2 h18
            refine z_bipush (v := Int32.ofInt (-2)) dX7_end_107 (by decide) ?_
            exact z_ireturn dX7_end_109 rfl rfl (hP _ _ _ hw hW)
        · have hw := hw.2 h14
          refine z_loc (L' := [(0, .ref (G.1 + v 240)), (4, .int (Int32.ofInt (r10)))]) (List.forall_mem_cons.mpr ⟨rfl, (List.forall_mem_cons.mpr ⟨rfl, (fun _ h => nomatch h)⟩)⟩) ?_
          exact ubX7_end_79 hd hT hS hU hW hP  hw
def wX7_end_37  (l3 l4 l5 l6 : Int) (S : St) (K : Int → St → Prop) : Prop := ∃ (Iv : Int → Int → Int → Int → St → Prop) (mu : Int → Int → Int → Int → St → Nat), Iv l3 l4 l5 l6 S ∧ ∀ (l3 l4 l5 l6 : Int) (S : St), Iv l3 l4 l5 l6 S → wX7_end_37' l3 l4 l5 l6 S K  (fun ml3 ml4 ml5 ml6 T => Iv ml3 ml4 ml5 ml6 T ∧ mu ml3 ml4 ml5 ml6 T < mu l3 l4 l5 l6 S)
set_option maxRecDepth 100000 in
set_option maxHeartbeats 4000000 in
theorem ubX7_end_37 {G : xG} {v : Nat → Nat} {sh : Nat → Option Sh} {B : Nat × Nat} {c0 : List va_E} {d : Nat} {Post : xP} {l3 l4 l5 l6 : Int} {S : St} {cs : List va_E} {K : Int → St → Prop} (hd : 4 ≤ d) (hT : sb shC sh) (hS : ∀ b x, sh b = some x → ¬ isS b) (hU : sb shWa sh) (hW : Wv G v sh B c0 S cs) (hP : ∀ (x : Int) (S : St) (cs : List va_E), K x S → Wv G v sh B c0 S cs → Post (some (.int (Int32.ofInt x))) cs)  (hw : wX7_end_37 l3 l4 l5 l6 S K ) : Z (RX7, cX7_end, 7, some .int, false) G d Post 37 [(0, .ref (G.1 + v 240)), (3, .int (Int32.ofInt (l3))), (4, .int (Int32.ofInt (l4))), (5, .int (Int32.ofInt (l5))), (6, .int (Int32.ofInt (l6)))] [] cs := by
  unfold wX7_end_37 at hw
  obtain ⟨Iv, mu, h0, hs⟩ := hw
  have key : ∀ (n : Nat) (l3 l4 l5 l6 : Int) (S : St) (cs : List va_E), mu l3 l4 l5 l6 S < n → Iv l3 l4 l5 l6 S → Wv G v sh B c0 S cs → Z (RX7, cX7_end, 7, some .int, false) G d Post 37 [(0, .ref (G.1 + v 240)), (3, .int (Int32.ofInt (l3))), (4, .int (Int32.ofInt (l4))), (5, .int (Int32.ofInt (l5))), (6, .int (Int32.ofInt (l6)))] [] cs := by
    intro n
    induction n with
    | zero => intro l3 l4 l5 l6 S cs hn; exact absurd hn (Nat.not_lt_zero _)
    | succ n ih =>
      intro l3 l4 l5 l6 S cs hn hI hW
      exact ubX7_end_37' hd hT hS hU hW hP  (fun l3 l4 l5 l6 S cs hb hW => ih l3 l4 l5 l6 S cs (Nat.lt_of_lt_of_le hb.2 (Nat.le_of_lt_succ hn)) hb.1 hW) (hs l3 l4 l5 l6 S hI)
  exact key _ _ _ _ _ _ _ (Nat.lt_succ_self _) h0 hW
def wX7_end_28  (l1 l2 l3 : Int) (S : St) (K : Int → St → Prop) : Prop := wX7_end_37 (l3) (l1) (l2) (l2) S K
set_option maxRecDepth 100000 in
set_option maxHeartbeats 4000000 in
theorem ubX7_end_28 {G : xG} {v : Nat → Nat} {sh : Nat → Option Sh} {B : Nat × Nat} {c0 : List va_E} {d : Nat} {Post : xP} {l1 l2 l3 : Int} {S : St} {cs : List va_E} {K : Int → St → Prop} (hd : 4 ≤ d) (hT : sb shC sh) (hS : ∀ b x, sh b = some x → ¬ isS b) (hU : sb shWa sh) (hW : Wv G v sh B c0 S cs) (hP : ∀ (x : Int) (S : St) (cs : List va_E), K x S → Wv G v sh B c0 S cs → Post (some (.int (Int32.ofInt x))) cs)  (hw : wX7_end_28 l1 l2 l3 S K ) : Z (RX7, cX7_end, 7, some .int, false) G d Post 28 [(0, .ref (G.1 + v 240)), (1, .int (Int32.ofInt (l1))), (2, .int (Int32.ofInt (l2))), (3, .int (Int32.ofInt (l3)))] [] cs := by
  unfold wX7_end_28 at hw
  refine z_iload_n dX7_end_28 rfl rfl ?_
  refine z_istore dX7_end_29 (by decide) ?_
  refine z_loc (L' := [(0, .ref (G.1 + v 240)), (1, .int (Int32.ofInt (l1))), (2, .int (Int32.ofInt (l2))), (3, .int (Int32.ofInt (l3))), (4, .int (Int32.ofInt (l1)))]) (List.forall_mem_cons.mpr ⟨rfl, (List.forall_mem_cons.mpr ⟨rfl, (List.forall_mem_cons.mpr ⟨rfl, (List.forall_mem_cons.mpr ⟨rfl, (List.forall_mem_cons.mpr ⟨rfl, (fun _ h => nomatch h)⟩)⟩)⟩)⟩)⟩) ?_
  refine z_iload_n dX7_end_31 rfl rfl ?_
  refine z_istore dX7_end_32 (by decide) ?_
  refine z_loc (L' := [(0, .ref (G.1 + v 240)), (1, .int (Int32.ofInt (l1))), (2, .int (Int32.ofInt (l2))), (3, .int (Int32.ofInt (l3))), (4, .int (Int32.ofInt (l1))), (5, .int (Int32.ofInt (l2)))]) (List.forall_mem_cons.mpr ⟨rfl, (List.forall_mem_cons.mpr ⟨rfl, (List.forall_mem_cons.mpr ⟨rfl, (List.forall_mem_cons.mpr ⟨rfl, (List.forall_mem_cons.mpr ⟨rfl, (List.forall_mem_cons.mpr ⟨rfl, (fun _ h => nomatch h)⟩)⟩)⟩)⟩)⟩)⟩) ?_
  refine z_iload_n dX7_end_34 rfl rfl ?_
  refine z_istore dX7_end_35 (by decide) ?_
  refine z_loc (L' := [(0, .ref (G.1 + v 240)), (1, .int (Int32.ofInt (l1))), (2, .int (Int32.ofInt (l2))), (3, .int (Int32.ofInt (l3))), (4, .int (Int32.ofInt (l1))), (5, .int (Int32.ofInt (l2))), (6, .int (Int32.ofInt (l2)))]) (List.forall_mem_cons.mpr ⟨rfl, (List.forall_mem_cons.mpr ⟨rfl, (List.forall_mem_cons.mpr ⟨rfl, (List.forall_mem_cons.mpr ⟨rfl, (List.forall_mem_cons.mpr ⟨rfl, (List.forall_mem_cons.mpr ⟨rfl, (List.forall_mem_cons.mpr ⟨rfl, (fun _ h => nomatch h)⟩)⟩)⟩)⟩)⟩)⟩)⟩) ?_
  refine z_loc (L' := [(0, .ref (G.1 + v 240)), (3, .int (Int32.ofInt (l3))), (4, .int (Int32.ofInt (l1))), (5, .int (Int32.ofInt (l2))), (6, .int (Int32.ofInt (l2)))]) (List.forall_mem_cons.mpr ⟨rfl, (List.forall_mem_cons.mpr ⟨rfl, (List.forall_mem_cons.mpr ⟨rfl, (List.forall_mem_cons.mpr ⟨rfl, (List.forall_mem_cons.mpr ⟨rfl, (fun _ h => nomatch h)⟩)⟩)⟩)⟩)⟩) ?_
  exact ubX7_end_37 hd hT hS hU hW hP  hw
def wX7_end  (a1 a2 a3 : Int) (S : St) (K : Int → St → Prop) : Prop := rng a1 → rng a2 → rng a3 → ((a3 ≤ a2 → wX7_end_28 (a1) (a2) (a3) S K) ∧ ((¬ (a3 ≤ a2)) → (wX5_at 4 (a2) S (fun r3 S2 => (rng (r3) ∧ ((¬ r3 = 47 → wX7_end_28 (a1) (a2) (a3) S2 K) ∧ ((¬ (¬ r3 = 47)) → (rng ((a2 + 1)) ∧ (wX7_down ((-1)) ((a2 + 1)) (a3) S2 (fun r7 S6 => K (r7) S6))))))))))
set_option maxRecDepth 100000 in
set_option maxHeartbeats 4000000 in
theorem lX7_end {G : xG} {v : Nat → Nat} {sh : Nat → Option Sh} {B : Nat × Nat} {c0 : List va_E}  {a1 a2 a3 : Int} {S : St} {cs : List va_E} {K : Int → St → Prop} (d : Nat) (hd : 4 ≤ d) (hT : sb shC sh) (hS : ∀ b x, sh b = some x → ¬ isS b) (hU : sb shWa sh) (hW : Wv G v sh B c0 S cs) (g1 : rng a1) (g2 : rng a2) (g3 : rng a3) (hw : wX7_end a1 a2 a3 S K) : X G yX7_end cX7_end 7 (some .int) d [.ref (G.1 + v 240), .int (Int32.ofInt a1), .int (Int32.ofInt a2), .int (Int32.ofInt a3)] cs (vI G v sh B c0 K) := by
  refine X.of false (by decide +kernel) (by decide) (Nat.le_of_ble_eq_true rfl) ?_
  show Z (RX7, cX7_end, 7, some .int, false) G d _ 0 [(0, .ref (G.1 + v 240)), (1, .int (Int32.ofInt a1)), (2, .int (Int32.ofInt a2)), (3, .int (Int32.ofInt a3))] [] cs
  have hP : ∀ (x : Int) (S : St) (cs : List va_E), K x S → Wv G v sh B c0 S cs → vI G v sh B c0 K (some (.int (Int32.ofInt x))) cs := fun x S cs a b => ⟨x, S, rfl, a, b⟩
  unfold wX7_end at hw
  have hw := hw g1 g2 g3
  refine z_iload_n dX7_end_0 rfl rfl ?_
  refine z_iload_n dX7_end_1 rfl rfl ?_
  refine i_icmp_ge (tgt := 28) dX7_end_2 (by decide) g2 g3 (fun h1 => ?_) (fun h1 => ?_)
  · have hw := hw.1 h1
    refine z_loc (L' := [(0, .ref (G.1 + v 240)), (1, .int (Int32.ofInt (a1))), (2, .int (Int32.ofInt (a2))), (3, .int (Int32.ofInt (a3)))]) (List.forall_mem_cons.mpr ⟨rfl, (List.forall_mem_cons.mpr ⟨rfl, (List.forall_mem_cons.mpr ⟨rfl, (List.forall_mem_cons.mpr ⟨rfl, (fun _ h => nomatch h)⟩)⟩)⟩)⟩) ?_
    exact ubX7_end_28 hd hT hS hU hW hP  hw
  · have hw := hw.2 h1
    refine z_aload_n dX7_end_5 rfl rfl ?_
    refine v_getR hW (hU 240 _ rfl) rfl kX7 fX7_21 dX7_end_6 ?_
    refine z_iload_n dX7_end_9 rfl rfl ?_
    have hX := lX5_at 0 (Nat.le_refl _) hW (show isS 4 by unfold isS; decide) (fun b x h e => hS b x h (e ▸ (show isS 4 by unfold isS; decide))) g2 hw
    refine z_callV (As := [_]) eX5_at sX5_at lX7_24 rfl dX7_end_10 (hW.sg (show isS 4 by unfold isS; decide) (fun b x h e => hS b x h (e ▸ (show isS 4 by unfold isS; decide)))).choose_spec.choose_spec.choose_spec.choose_spec.1.choose_spec.1 hX (Nat.le_trans (by decide) hd) rfl (Nat.le_of_ble_eq_true rfl) (fun r cs hp => ?_)
    obtain ⟨r3, S2, rfl, hw, hW⟩ := hp
    refine z_st (st' := [.int (Int32.ofInt (r3))]) rfl ?_
    refine z_bipush (v := Int32.ofInt 47) dX7_end_13 (by decide) ?_
    obtain ⟨q5, hw⟩ := hw
    refine i_icmp_ne (tgt := 28) dX7_end_15 (by decide) q5 ⟨by decide, by decide⟩ (fun h4 => ?_) (fun h4 => ?_)
    · have hw := hw.1 h4
      refine z_loc (L' := [(0, .ref (G.1 + v 240)), (1, .int (Int32.ofInt (a1))), (2, .int (Int32.ofInt (a2))), (3, .int (Int32.ofInt (a3)))]) (List.forall_mem_cons.mpr ⟨rfl, (List.forall_mem_cons.mpr ⟨rfl, (List.forall_mem_cons.mpr ⟨rfl, (List.forall_mem_cons.mpr ⟨rfl, (fun _ h => nomatch h)⟩)⟩)⟩)⟩) ?_
      exact ubX7_end_28 hd hT hS hU hW hP  hw
    · have hw := hw.2 h4
      refine z_aload_n dX7_end_18 rfl rfl ?_
      refine z_iconst (v := Int32.ofInt (-1)) dX7_end_19 rfl ?_
      refine z_iload_n dX7_end_20 rfl rfl ?_
      refine z_iconst (v := Int32.ofInt 1) dX7_end_21 rfl ?_
      refine i_iadd dX7_end_22 ?_
      refine z_iload_n dX7_end_23 rfl rfl ?_
      obtain ⟨q8, hw⟩ := hw
      have hX := lX7_down 3 (Nat.le_refl _) hT hS hU hW ⟨by decide, by decide⟩ q8 g3 hw
      refine z_callV (As := [_, _, _]) eX7_down sX7_down lX7_30 rfl dX7_end_24 (hW.at (hU 240 _ rfl)) hX (Nat.le_trans (by decide) hd) rfl (Nat.le_of_ble_eq_true rfl) (fun r cs hp => ?_)
      obtain ⟨r7, S6, rfl, hw, hW⟩ := hp
      refine z_st (st' := [.int (Int32.ofInt (r7))]) rfl ?_
      exact z_ireturn dX7_end_27 rfl rfl (hP _ _ _ hw hW)

def wX3_idAt_34' (m : Nat)  (l2 l3 l4 : Int) (S : St) (K : Int → St → Prop) (B34 : Int → Int → Int → St → Prop) : Prop := (rng (l4) ∧ (rng (l2) ∧ ((l2 ≤ l4 → K (l3) S) ∧ ((¬ (l2 ≤ l4)) → (wX5_at 4 (l4) S (fun r5 S4 => (rng (r5) ∧ (wX10_isDigit (r5) S4 (fun r7 S6 => (rng (r7) ∧ ((¬ r7 = 0 → (wX5_at 4 (l4) S6 (fun r12 S11 => (∀ x13 : Int, x13 = (((l3 * 10) + r12) - 48) → B34 (l2) (x13) ((l4 + 1)) S11)))) ∧ ((¬ (¬ r7 = 0)) → K (0) S6))))))))))))
set_option maxRecDepth 100000 in
set_option maxHeartbeats 4000000 in
theorem ubX3_idAt_34' {G : xG} {v : Nat → Nat} {sh : Nat → Option Sh} {B : Nat × Nat} {c0 : List va_E} {m : Nat} {d : Nat} {Post : xP} {l2 l3 l4 : Int} {S : St} {cs : List va_E} {K : Int → St → Prop} {B34 : Int → Int → Int → St → Prop} (hd : 1 ≤ d) (hm : m ≤ 200) (hT : sb shC sh) (hS : ∀ b x, sh b = some x → ¬ isS b) (hU : sb (shMe m) sh) (hW : Wv G v sh B c0 S cs) (hP : ∀ (x : Int) (S : St) (cs : List va_E), K x S → Wv G v sh B c0 S cs → Post (some (.int (Int32.ofInt x))) cs) (hB34 : ∀ (l2 : Int) (l3 : Int) (l4 : Int) (S : St) (cs : List va_E), B34 l2 l3 l4 S → Wv G v sh B c0 S cs → Z (RX3, cX3_idAt, 5, some .int, false) G d Post 34 [(0, .ref (G.1 + v 230)), (2, .int (Int32.ofInt (l2))), (3, .int (Int32.ofInt (l3))), (4, .int (Int32.ofInt (l4)))] [] cs) (hw : wX3_idAt_34' m l2 l3 l4 S K B34) : Z (RX3, cX3_idAt, 5, some .int, false) G d Post 34 [(0, .ref (G.1 + v 230)), (2, .int (Int32.ofInt (l2))), (3, .int (Int32.ofInt (l3))), (4, .int (Int32.ofInt (l4)))] [] cs := by
  unfold wX3_idAt_34' at hw
  refine z_iload dX3_idAt_34 rfl ?_
  refine z_iload_n dX3_idAt_36 rfl rfl ?_
  obtain ⟨q2, hw⟩ := hw
  obtain ⟨q3, hw⟩ := hw
  refine i_icmp_ge (tgt := 81) dX3_idAt_37 (by decide) q2 q3 (fun h1 => ?_) (fun h1 => ?_)
  · have hw := hw.1 h1
    refine z_iload_n dX3_idAt_81 rfl rfl ?_
    exact z_ireturn dX3_idAt_82 rfl rfl (hP _ _ _ hw hW)
  · have hw := hw.2 h1
    refine z_aload_n dX3_idAt_40 rfl rfl ?_
    refine v_getR hW (hU 230 _ rfl) rfl kX3 fX3_35 dX3_idAt_41 ?_
    refine z_iload dX3_idAt_44 rfl ?_
    have hX := lX5_at 0 (Nat.le_refl _) hW (show isS 4 by unfold isS; decide) (fun b x h e => hS b x h (e ▸ (show isS 4 by unfold isS; decide))) q2 hw
    refine z_callV (As := [_]) eX5_at sX5_at lX3_211 rfl dX3_idAt_46 (hW.sg (show isS 4 by unfold isS; decide) (fun b x h e => hS b x h (e ▸ (show isS 4 by unfold isS; decide)))).choose_spec.choose_spec.choose_spec.choose_spec.1.choose_spec.1 hX (Nat.le_trans (by decide) hd) rfl (Nat.le_of_ble_eq_true rfl) (fun r cs hp => ?_)
    obtain ⟨r5, S4, rfl, hw, hW⟩ := hp
    refine z_st (st' := [.int (Int32.ofInt (r5))]) rfl ?_
    obtain ⟨q8, hw⟩ := hw
    have hX := lX10_isDigit 0 (Nat.le_refl _) hT hS hW q8 hw
    refine z_callSN (As := [_]) eX10_isDigit sX10_isDigit lX3_214 dX3_idAt_49 hX (Nat.le_trans (by decide) hd) rfl (Nat.le_of_ble_eq_true rfl) (fun r cs hp => ?_)
    obtain ⟨r7, S6, rfl, hw, hW⟩ := hp
    refine z_st (st' := [.int (Int32.ofInt (r7))]) rfl ?_
    obtain ⟨q10, hw⟩ := hw
    refine i_if_ne (tgt := 57) dX3_idAt_52 (by decide) q10 (fun h9 => ?_) (fun h9 => ?_)
    · have hw := hw.1 h9
      refine z_iload_n dX3_idAt_57 rfl rfl ?_
      refine z_bipush (v := Int32.ofInt 10) dX3_idAt_58 (by decide) ?_
      refine i_imul dX3_idAt_60 ?_
      refine z_aload_n dX3_idAt_61 rfl rfl ?_
      refine v_getR hW (hU 230 _ rfl) rfl kX3 fX3_35 dX3_idAt_62 ?_
      refine z_iload dX3_idAt_65 rfl ?_
      have hX := lX5_at 0 (Nat.le_refl _) hW (show isS 4 by unfold isS; decide) (fun b x h e => hS b x h (e ▸ (show isS 4 by unfold isS; decide))) q2 hw
      refine z_callV (As := [_]) eX5_at sX5_at lX3_211 rfl dX3_idAt_67 (hW.sg (show isS 4 by unfold isS; decide) (fun b x h e => hS b x h (e ▸ (show isS 4 by unfold isS; decide)))).choose_spec.choose_spec.choose_spec.choose_spec.1.choose_spec.1 hX (Nat.le_trans (by decide) hd) rfl (Nat.le_of_ble_eq_true rfl) (fun r cs hp => ?_)
      obtain ⟨r12, S11, rfl, hw, hW⟩ := hp
      refine z_st (st' := [.int (Int32.ofInt (r12)), .int (Int32.ofInt ((l3 * 10)))]) rfl ?_
      refine i_iadd dX3_idAt_70 ?_
      refine z_bipush (v := Int32.ofInt 48) dX3_idAt_71 (by decide) ?_
      refine i_isub dX3_idAt_73 ?_
      obtain ⟨x13, hx13⟩ : ∃ x : Int, x = (((l3 * 10) + r12) - 48) := ⟨_, rfl⟩
      have hw := hw x13 hx13
      refine z_st (st' := [.int (Int32.ofInt x13)]) (by rw [hx13]) ?_
      refine z_istore_n dX3_idAt_74 rfl (by decide) ?_
      refine z_loc (L' := [(0, .ref (G.1 + v 230)), (2, .int (Int32.ofInt (l2))), (3, .int (Int32.ofInt (x13))), (4, .int (Int32.ofInt (l4)))]) (List.forall_mem_cons.mpr ⟨rfl, (List.forall_mem_cons.mpr ⟨rfl, (List.forall_mem_cons.mpr ⟨rfl, (List.forall_mem_cons.mpr ⟨rfl, (fun _ h => nomatch h)⟩)⟩)⟩)⟩) ?_
      refine i_iinc (l := l4) dX3_idAt_75 rfl (by decide) ?_
      refine z_loc (L' := [(0, .ref (G.1 + v 230)), (2, .int (Int32.ofInt (l2))), (3, .int (Int32.ofInt (x13))), (4, .int (Int32.ofInt ((l4 + 1))))]) (List.forall_mem_cons.mpr ⟨rfl, (List.forall_mem_cons.mpr ⟨rfl, (List.forall_mem_cons.mpr ⟨rfl, (List.forall_mem_cons.mpr ⟨rfl, (fun _ h => nomatch h)⟩)⟩)⟩)⟩) ?_
      refine z_goto (tgt := 34) dX3_idAt_78 (by decide) ?_
      refine z_loc (L' := [(0, .ref (G.1 + v 230)), (2, .int (Int32.ofInt (l2))), (3, .int (Int32.ofInt (x13))), (4, .int (Int32.ofInt ((l4 + 1))))]) (List.forall_mem_cons.mpr ⟨rfl, (List.forall_mem_cons.mpr ⟨rfl, (List.forall_mem_cons.mpr ⟨rfl, (List.forall_mem_cons.mpr ⟨rfl, (fun _ h => nomatch h)⟩)⟩)⟩)⟩) ?_
      exact hB34 _ _ _ _ _ hw hW
    · have hw := hw.2 h9
      refine z_iconst (v := Int32.ofInt 0) dX3_idAt_55 rfl ?_
      exact z_ireturn dX3_idAt_56 rfl rfl (hP _ _ _ hw hW)
def wX3_idAt_34 (m : Nat)  (l2 l3 l4 : Int) (S : St) (K : Int → St → Prop) : Prop := ∃ (Iv : Int → Int → Int → St → Prop) (mu : Int → Int → Int → St → Nat), Iv l2 l3 l4 S ∧ ∀ (l2 l3 l4 : Int) (S : St), Iv l2 l3 l4 S → wX3_idAt_34' m l2 l3 l4 S K  (fun ml2 ml3 ml4 T => Iv ml2 ml3 ml4 T ∧ mu ml2 ml3 ml4 T < mu l2 l3 l4 S)
set_option maxRecDepth 100000 in
set_option maxHeartbeats 4000000 in
theorem ubX3_idAt_34 {G : xG} {v : Nat → Nat} {sh : Nat → Option Sh} {B : Nat × Nat} {c0 : List va_E} {m : Nat} {d : Nat} {Post : xP} {l2 l3 l4 : Int} {S : St} {cs : List va_E} {K : Int → St → Prop} (hd : 1 ≤ d) (hm : m ≤ 200) (hT : sb shC sh) (hS : ∀ b x, sh b = some x → ¬ isS b) (hU : sb (shMe m) sh) (hW : Wv G v sh B c0 S cs) (hP : ∀ (x : Int) (S : St) (cs : List va_E), K x S → Wv G v sh B c0 S cs → Post (some (.int (Int32.ofInt x))) cs)  (hw : wX3_idAt_34 m l2 l3 l4 S K ) : Z (RX3, cX3_idAt, 5, some .int, false) G d Post 34 [(0, .ref (G.1 + v 230)), (2, .int (Int32.ofInt (l2))), (3, .int (Int32.ofInt (l3))), (4, .int (Int32.ofInt (l4)))] [] cs := by
  unfold wX3_idAt_34 at hw
  obtain ⟨Iv, mu, h0, hs⟩ := hw
  have key : ∀ (n : Nat) (l2 l3 l4 : Int) (S : St) (cs : List va_E), mu l2 l3 l4 S < n → Iv l2 l3 l4 S → Wv G v sh B c0 S cs → Z (RX3, cX3_idAt, 5, some .int, false) G d Post 34 [(0, .ref (G.1 + v 230)), (2, .int (Int32.ofInt (l2))), (3, .int (Int32.ofInt (l3))), (4, .int (Int32.ofInt (l4)))] [] cs := by
    intro n
    induction n with
    | zero => intro l2 l3 l4 S cs hn; exact absurd hn (Nat.not_lt_zero _)
    | succ n ih =>
      intro l2 l3 l4 S cs hn hI hW
      exact ubX3_idAt_34' hd hm hT hS hU hW hP  (fun l2 l3 l4 S cs hb hW => ih l2 l3 l4 S cs (Nat.lt_of_lt_of_le hb.2 (Nat.le_of_lt_succ hn)) hb.1 hW) (hs l2 l3 l4 S hI)
  exact key _ _ _ _ _ _ (Nat.lt_succ_self _) h0 hW
def wX3_idAt (m : Nat)  (a1 a2 : Int) (S : St) (K : Int → St → Prop) : Prop := rng a1 → rng a2 → (rng ((a2 - a1)) ∧ (((a2 - a1) < 1 → K (0) S) ∧ ((¬ ((a2 - a1) < 1)) → ((4 < (a2 - a1) → K (0) S) ∧ ((¬ (4 < (a2 - a1))) → (wX5_at 4 (a1) S (fun r5 S4 => (rng (r5) ∧ ((¬ r5 = 48 → wX3_idAt_34 m (a2) (0) (a1) S4 K) ∧ ((¬ (¬ r5 = 48)) → K (0) S4))))))))))
set_option maxRecDepth 100000 in
set_option maxHeartbeats 4000000 in
theorem lX3_idAt {G : xG} {v : Nat → Nat} {sh : Nat → Option Sh} {B : Nat × Nat} {c0 : List va_E} {m : Nat}  {a1 a2 : Int} {S : St} {cs : List va_E} {K : Int → St → Prop} (d : Nat) (hd : 1 ≤ d) (hm : m ≤ 200) (hT : sb shC sh) (hS : ∀ b x, sh b = some x → ¬ isS b) (hU : sb (shMe m) sh) (hW : Wv G v sh B c0 S cs) (g1 : rng a1) (g2 : rng a2) (hw : wX3_idAt m a1 a2 S K) : X G yX3_idAt cX3_idAt 5 (some .int) d [.ref (G.1 + v 230), .int (Int32.ofInt a1), .int (Int32.ofInt a2)] cs (vI G v sh B c0 K) := by
  refine X.of false (by decide +kernel) (by decide) (Nat.le_of_ble_eq_true rfl) ?_
  show Z (RX3, cX3_idAt, 5, some .int, false) G d _ 0 [(0, .ref (G.1 + v 230)), (1, .int (Int32.ofInt a1)), (2, .int (Int32.ofInt a2))] [] cs
  have hP : ∀ (x : Int) (S : St) (cs : List va_E), K x S → Wv G v sh B c0 S cs → vI G v sh B c0 K (some (.int (Int32.ofInt x))) cs := fun x S cs a b => ⟨x, S, rfl, a, b⟩
  unfold wX3_idAt at hw
  have hw := hw g1 g2
  refine z_iload_n dX3_idAt_0 rfl rfl ?_
  refine z_iload_n dX3_idAt_1 rfl rfl ?_
  refine i_isub dX3_idAt_2 ?_
  refine z_iconst (v := Int32.ofInt 1) dX3_idAt_3 rfl ?_
  obtain ⟨q2, hw⟩ := hw
  refine i_icmp_lt (tgt := 27) dX3_idAt_4 (by decide) q2 ⟨by decide, by decide⟩ (fun h1 => ?_) (fun h1 => ?_)
  · have hw := hw.1 h1
    refine z_iconst (v := Int32.ofInt 0) dX3_idAt_27 rfl ?_
    exact z_ireturn dX3_idAt_28 rfl rfl (hP _ _ _ hw hW)
  · have hw := hw.2 h1
    refine z_iload_n dX3_idAt_7 rfl rfl ?_
    refine z_iload_n dX3_idAt_8 rfl rfl ?_
    refine i_isub dX3_idAt_9 ?_
    refine z_iconst (v := Int32.ofInt 4) dX3_idAt_10 rfl ?_
    refine i_icmp_gt (tgt := 27) dX3_idAt_11 (by decide) q2 ⟨by decide, by decide⟩ (fun h3 => ?_) (fun h3 => ?_)
    · have hw := hw.1 h3
      refine z_iconst (v := Int32.ofInt 0) dX3_idAt_27 rfl ?_
      exact z_ireturn dX3_idAt_28 rfl rfl (hP _ _ _ hw hW)
    · have hw := hw.2 h3
      refine z_aload_n dX3_idAt_14 rfl rfl ?_
      refine v_getR hW (hU 230 _ rfl) rfl kX3 fX3_35 dX3_idAt_15 ?_
      refine z_iload_n dX3_idAt_18 rfl rfl ?_
      have hX := lX5_at 0 (Nat.le_refl _) hW (show isS 4 by unfold isS; decide) (fun b x h e => hS b x h (e ▸ (show isS 4 by unfold isS; decide))) g1 hw
      refine z_callV (As := [_]) eX5_at sX5_at lX3_211 rfl dX3_idAt_19 (hW.sg (show isS 4 by unfold isS; decide) (fun b x h e => hS b x h (e ▸ (show isS 4 by unfold isS; decide)))).choose_spec.choose_spec.choose_spec.choose_spec.1.choose_spec.1 hX (Nat.le_trans (by decide) hd) rfl (Nat.le_of_ble_eq_true rfl) (fun r cs hp => ?_)
      obtain ⟨r5, S4, rfl, hw, hW⟩ := hp
      refine z_st (st' := [.int (Int32.ofInt (r5))]) rfl ?_
      refine z_bipush (v := Int32.ofInt 48) dX3_idAt_22 (by decide) ?_
      obtain ⟨q7, hw⟩ := hw
      refine i_icmp_ne (tgt := 29) dX3_idAt_24 (by decide) q7 ⟨by decide, by decide⟩ (fun h6 => ?_) (fun h6 => ?_)
      · have hw := hw.1 h6
        refine z_iconst (v := Int32.ofInt 0) dX3_idAt_29 rfl ?_
        refine z_istore_n dX3_idAt_30 rfl (by decide) ?_
        refine z_loc (L' := [(0, .ref (G.1 + v 230)), (1, .int (Int32.ofInt (a1))), (2, .int (Int32.ofInt (a2))), (3, .int (Int32.ofInt (0)))]) (List.forall_mem_cons.mpr ⟨rfl, (List.forall_mem_cons.mpr ⟨rfl, (List.forall_mem_cons.mpr ⟨rfl, (List.forall_mem_cons.mpr ⟨rfl, (fun _ h => nomatch h)⟩)⟩)⟩)⟩) ?_
        refine z_iload_n dX3_idAt_31 rfl rfl ?_
        refine z_istore dX3_idAt_32 (by decide) ?_
        refine z_loc (L' := [(0, .ref (G.1 + v 230)), (1, .int (Int32.ofInt (a1))), (2, .int (Int32.ofInt (a2))), (3, .int (Int32.ofInt (0))), (4, .int (Int32.ofInt (a1)))]) (List.forall_mem_cons.mpr ⟨rfl, (List.forall_mem_cons.mpr ⟨rfl, (List.forall_mem_cons.mpr ⟨rfl, (List.forall_mem_cons.mpr ⟨rfl, (List.forall_mem_cons.mpr ⟨rfl, (fun _ h => nomatch h)⟩)⟩)⟩)⟩)⟩) ?_
        refine z_loc (L' := [(0, .ref (G.1 + v 230)), (2, .int (Int32.ofInt (a2))), (3, .int (Int32.ofInt (0))), (4, .int (Int32.ofInt (a1)))]) (List.forall_mem_cons.mpr ⟨rfl, (List.forall_mem_cons.mpr ⟨rfl, (List.forall_mem_cons.mpr ⟨rfl, (List.forall_mem_cons.mpr ⟨rfl, (fun _ h => nomatch h)⟩)⟩)⟩)⟩) ?_
        exact ubX3_idAt_34 hd hm hT hS hU hW hP  hw
      · have hw := hw.2 h6
        refine z_iconst (v := Int32.ofInt 0) dX3_idAt_27 rfl ?_
        exact z_ireturn dX3_idAt_28 rfl rfl (hP _ _ _ hw hW)

def wX3_elementWithId_27 (m : Nat)  (l1 l2 : Int) (S : St) (K : Int → St → Prop) (B2 : Int → Int → St → Prop) : Prop := B2 (l1) ((l2 + 1)) S
set_option maxRecDepth 100000 in
set_option maxHeartbeats 4000000 in
theorem ubX3_elementWithId_27 {G : xG} {v : Nat → Nat} {sh : Nat → Option Sh} {B : Nat × Nat} {c0 : List va_E} {m : Nat} {d : Nat} {Post : xP} {l1 l2 : Int} {S : St} {cs : List va_E} {K : Int → St → Prop} {B2 : Int → Int → St → Prop} (hd : 0 ≤ d) (hm : m ≤ 200) (hT : sb shC sh) (hS : ∀ b x, sh b = some x → ¬ isS b) (hU : sb (shMe m) sh) (hW : Wv G v sh B c0 S cs) (hP : ∀ (x : Int) (S : St) (cs : List va_E), K x S → Wv G v sh B c0 S cs → Post (some (.int (Int32.ofInt x))) cs) (hB2 : ∀ (l1 : Int) (l2 : Int) (S : St) (cs : List va_E), B2 l1 l2 S → Wv G v sh B c0 S cs → Z (RX3, cX3_elementWithId, 3, some .int, false) G d Post 2 [(0, .ref (G.1 + v 230)), (1, .int (Int32.ofInt (l1))), (2, .int (Int32.ofInt (l2)))] [] cs) (hw : wX3_elementWithId_27 m l1 l2 S K B2) : Z (RX3, cX3_elementWithId, 3, some .int, false) G d Post 27 [(0, .ref (G.1 + v 230)), (1, .int (Int32.ofInt (l1))), (2, .int (Int32.ofInt (l2)))] [] cs := by
  unfold wX3_elementWithId_27 at hw
  refine i_iinc (l := l2) dX3_elementWithId_27 rfl (by decide) ?_
  refine z_loc (L' := [(0, .ref (G.1 + v 230)), (1, .int (Int32.ofInt (l1))), (2, .int (Int32.ofInt ((l2 + 1))))]) (List.forall_mem_cons.mpr ⟨rfl, (List.forall_mem_cons.mpr ⟨rfl, (List.forall_mem_cons.mpr ⟨rfl, (fun _ h => nomatch h)⟩)⟩)⟩) ?_
  refine z_goto (tgt := 2) dX3_elementWithId_30 (by decide) ?_
  refine z_loc (L' := [(0, .ref (G.1 + v 230)), (1, .int (Int32.ofInt (l1))), (2, .int (Int32.ofInt ((l2 + 1))))]) (List.forall_mem_cons.mpr ⟨rfl, (List.forall_mem_cons.mpr ⟨rfl, (List.forall_mem_cons.mpr ⟨rfl, (fun _ h => nomatch h)⟩)⟩)⟩) ?_
  exact hB2 _ _ _ _ hw hW
def wX3_elementWithId_2' (m : Nat)  (l1 l2 : Int) (S : St) (K : Int → St → Prop) (B2 : Int → Int → St → Prop) : Prop := (rng (l2) ∧ (((m : Int) ≤ l2 → K ((-1)) S) ∧ ((¬ ((m : Int) ≤ l2)) → ((0 : Int) ≤ l2 ∧ l2 < (m : Int) ∧ (iv (-2147483648) 2147483647 (S.2 235 (l2)) → (rng (l1) ∧ ((¬ S.2 235 (l2) = l1 → wX3_elementWithId_27 m (l1) (l2) S K B2) ∧ ((¬ (¬ S.2 235 (l2) = l1)) → ((l1 = 0 → wX3_elementWithId_27 m (l1) (l2) S K B2) ∧ ((¬ (l1 = 0)) → K (l2) S))))))))))
set_option maxRecDepth 100000 in
set_option maxHeartbeats 4000000 in
theorem ubX3_elementWithId_2' {G : xG} {v : Nat → Nat} {sh : Nat → Option Sh} {B : Nat × Nat} {c0 : List va_E} {m : Nat} {d : Nat} {Post : xP} {l1 l2 : Int} {S : St} {cs : List va_E} {K : Int → St → Prop} {B2 : Int → Int → St → Prop} (hd : 0 ≤ d) (hm : m ≤ 200) (hT : sb shC sh) (hS : ∀ b x, sh b = some x → ¬ isS b) (hU : sb (shMe m) sh) (hW : Wv G v sh B c0 S cs) (hP : ∀ (x : Int) (S : St) (cs : List va_E), K x S → Wv G v sh B c0 S cs → Post (some (.int (Int32.ofInt x))) cs) (hB2 : ∀ (l1 : Int) (l2 : Int) (S : St) (cs : List va_E), B2 l1 l2 S → Wv G v sh B c0 S cs → Z (RX3, cX3_elementWithId, 3, some .int, false) G d Post 2 [(0, .ref (G.1 + v 230)), (1, .int (Int32.ofInt (l1))), (2, .int (Int32.ofInt (l2)))] [] cs) (hw : wX3_elementWithId_2' m l1 l2 S K B2) : Z (RX3, cX3_elementWithId, 3, some .int, false) G d Post 2 [(0, .ref (G.1 + v 230)), (1, .int (Int32.ofInt (l1))), (2, .int (Int32.ofInt (l2)))] [] cs := by
  unfold wX3_elementWithId_2' at hw
  refine z_iload_n dX3_elementWithId_2 rfl rfl ?_
  refine z_aload_n dX3_elementWithId_3 rfl rfl ?_
  refine v_getR hW (hU 230 _ rfl) rfl kX3 fX3_66 dX3_elementWithId_4 ?_
  refine v_alen (t0 := 0) hW (hU 235 _ rfl) rfl dX3_elementWithId_7 ?_
  obtain ⟨q2, hw⟩ := hw
  refine i_icmp_ge (tgt := 33) dX3_elementWithId_8 (by decide) q2 (m_rng hm) (fun h1 => ?_) (fun h1 => ?_)
  · have hw := hw.1 h1
    refine z_iconst (v := Int32.ofInt (-1)) dX3_elementWithId_33 rfl ?_
    exact z_ireturn dX3_elementWithId_34 rfl rfl (hP _ _ _ hw hW)
  · have hw := hw.2 h1
    refine z_aload_n dX3_elementWithId_11 rfl rfl ?_
    refine v_getR hW (hU 230 _ rfl) rfl kX3 fX3_66 dX3_elementWithId_12 ?_
    refine z_iload_n dX3_elementWithId_15 rfl rfl ?_
    obtain ⟨q3a, q3b, hw⟩ := hw
    have q4 : iv (-2147483648) 2147483647 (S.2 235 (l2)) := hW.iA 235 _
    have hw := hw q4
    refine v_iald hW (hU 235 _ rfl) q3a q3b (m_lt hm) dX3_elementWithId_16 ?_
    refine z_iload_n dX3_elementWithId_17 rfl rfl ?_
    obtain ⟨q6, hw⟩ := hw
    refine i_icmp_ne (tgt := 27) dX3_elementWithId_18 (by decide) (rngq q4 (by decide) (by decide)) q6 (fun h5 => ?_) (fun h5 => ?_)
    · have hw := hw.1 h5
      refine z_loc (L' := [(0, .ref (G.1 + v 230)), (1, .int (Int32.ofInt (l1))), (2, .int (Int32.ofInt (l2)))]) (List.forall_mem_cons.mpr ⟨rfl, (List.forall_mem_cons.mpr ⟨rfl, (List.forall_mem_cons.mpr ⟨rfl, (fun _ h => nomatch h)⟩)⟩)⟩) ?_
      exact ubX3_elementWithId_27 hd hm hT hS hU hW hP hB2 hw
    · have hw := hw.2 h5
      refine z_iload_n dX3_elementWithId_21 rfl rfl ?_
      refine i_if_eq (tgt := 27) dX3_elementWithId_22 (by decide) q6 (fun h7 => ?_) (fun h7 => ?_)
      · have hw := hw.1 h7
        refine z_loc (L' := [(0, .ref (G.1 + v 230)), (1, .int (Int32.ofInt (l1))), (2, .int (Int32.ofInt (l2)))]) (List.forall_mem_cons.mpr ⟨rfl, (List.forall_mem_cons.mpr ⟨rfl, (List.forall_mem_cons.mpr ⟨rfl, (fun _ h => nomatch h)⟩)⟩)⟩) ?_
        exact ubX3_elementWithId_27 hd hm hT hS hU hW hP hB2 hw
      · have hw := hw.2 h7
        refine z_iload_n dX3_elementWithId_25 rfl rfl ?_
        exact z_ireturn dX3_elementWithId_26 rfl rfl (hP _ _ _ hw hW)
def wX3_elementWithId_2 (m : Nat)  (l1 l2 : Int) (S : St) (K : Int → St → Prop) : Prop := ∃ (Iv : Int → Int → St → Prop) (mu : Int → Int → St → Nat), Iv l1 l2 S ∧ ∀ (l1 l2 : Int) (S : St), Iv l1 l2 S → wX3_elementWithId_2' m l1 l2 S K  (fun ml1 ml2 T => Iv ml1 ml2 T ∧ mu ml1 ml2 T < mu l1 l2 S)
set_option maxRecDepth 100000 in
set_option maxHeartbeats 4000000 in
theorem ubX3_elementWithId_2 {G : xG} {v : Nat → Nat} {sh : Nat → Option Sh} {B : Nat × Nat} {c0 : List va_E} {m : Nat} {d : Nat} {Post : xP} {l1 l2 : Int} {S : St} {cs : List va_E} {K : Int → St → Prop} (hd : 0 ≤ d) (hm : m ≤ 200) (hT : sb shC sh) (hS : ∀ b x, sh b = some x → ¬ isS b) (hU : sb (shMe m) sh) (hW : Wv G v sh B c0 S cs) (hP : ∀ (x : Int) (S : St) (cs : List va_E), K x S → Wv G v sh B c0 S cs → Post (some (.int (Int32.ofInt x))) cs)  (hw : wX3_elementWithId_2 m l1 l2 S K ) : Z (RX3, cX3_elementWithId, 3, some .int, false) G d Post 2 [(0, .ref (G.1 + v 230)), (1, .int (Int32.ofInt (l1))), (2, .int (Int32.ofInt (l2)))] [] cs := by
  unfold wX3_elementWithId_2 at hw
  obtain ⟨Iv, mu, h0, hs⟩ := hw
  have key : ∀ (n : Nat) (l1 l2 : Int) (S : St) (cs : List va_E), mu l1 l2 S < n → Iv l1 l2 S → Wv G v sh B c0 S cs → Z (RX3, cX3_elementWithId, 3, some .int, false) G d Post 2 [(0, .ref (G.1 + v 230)), (1, .int (Int32.ofInt (l1))), (2, .int (Int32.ofInt (l2)))] [] cs := by
    intro n
    induction n with
    | zero => intro l1 l2 S cs hn; exact absurd hn (Nat.not_lt_zero _)
    | succ n ih =>
      intro l1 l2 S cs hn hI hW
      exact ubX3_elementWithId_2' hd hm hT hS hU hW hP  (fun l1 l2 S cs hb hW => ih l1 l2 S cs (Nat.lt_of_lt_of_le hb.2 (Nat.le_of_lt_succ hn)) hb.1 hW) (hs l1 l2 S hI)
  exact key _ _ _ _ _ (Nat.lt_succ_self _) h0 hW
def wX3_elementWithId (m : Nat)  (a1 : Int) (S : St) (K : Int → St → Prop) : Prop := rng a1 → wX3_elementWithId_2 m (a1) (0) S K
set_option maxRecDepth 100000 in
set_option maxHeartbeats 4000000 in
theorem lX3_elementWithId {G : xG} {v : Nat → Nat} {sh : Nat → Option Sh} {B : Nat × Nat} {c0 : List va_E} {m : Nat}  {a1 : Int} {S : St} {cs : List va_E} {K : Int → St → Prop} (d : Nat) (hd : 0 ≤ d) (hm : m ≤ 200) (hT : sb shC sh) (hS : ∀ b x, sh b = some x → ¬ isS b) (hU : sb (shMe m) sh) (hW : Wv G v sh B c0 S cs) (g1 : rng a1) (hw : wX3_elementWithId m a1 S K) : X G yX3_elementWithId cX3_elementWithId 3 (some .int) d [.ref (G.1 + v 230), .int (Int32.ofInt a1)] cs (vI G v sh B c0 K) := by
  refine X.of false (by decide +kernel) (by decide) (Nat.le_of_ble_eq_true rfl) ?_
  show Z (RX3, cX3_elementWithId, 3, some .int, false) G d _ 0 [(0, .ref (G.1 + v 230)), (1, .int (Int32.ofInt a1))] [] cs
  have hP : ∀ (x : Int) (S : St) (cs : List va_E), K x S → Wv G v sh B c0 S cs → vI G v sh B c0 K (some (.int (Int32.ofInt x))) cs := fun x S cs a b => ⟨x, S, rfl, a, b⟩
  unfold wX3_elementWithId at hw
  have hw := hw g1
  refine z_iconst (v := Int32.ofInt 0) dX3_elementWithId_0 rfl ?_
  refine z_istore_n dX3_elementWithId_1 rfl (by decide) ?_
  refine z_loc (L' := [(0, .ref (G.1 + v 230)), (1, .int (Int32.ofInt (a1))), (2, .int (Int32.ofInt (0)))]) (List.forall_mem_cons.mpr ⟨rfl, (List.forall_mem_cons.mpr ⟨rfl, (List.forall_mem_cons.mpr ⟨rfl, (fun _ h => nomatch h)⟩)⟩)⟩) ?_
  refine z_loc (L' := [(0, .ref (G.1 + v 230)), (1, .int (Int32.ofInt (a1))), (2, .int (Int32.ofInt (0)))]) (List.forall_mem_cons.mpr ⟨rfl, (List.forall_mem_cons.mpr ⟨rfl, (List.forall_mem_cons.mpr ⟨rfl, (fun _ h => nomatch h)⟩)⟩)⟩) ?_
  exact ubX3_elementWithId_2 hd hm hT hS hU hW hP  hw

