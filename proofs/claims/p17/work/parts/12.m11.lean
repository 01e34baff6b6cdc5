def wX11_putWay_61 (l1 l2 l4 l5 : Int) (S : St) (K : Int → St → Prop) (B20 : Int → Int → Int → Int → St → Prop) : Prop := ((0 : Int) ≤ l5 ∧ l5 < (900 : Int) ∧ (iv (-2) 899 (S.2 72 (l5)) → (∀ x3 : Int, x3 = S.2 72 (l5) → B20 (l1) (l2) (l4) (x3) S)))
set_option maxRecDepth 100000 in
set_option maxHeartbeats 4000000 in
theorem bX11_putWay_61 {G : xG} {sh : Nat → Option Sh} {J : St → List va_E → Prop} {d : Nat} {Post : xP} {l1 l2 l4 l5 : Int} {S : St} {cs : List va_E} {K : Int → St → Prop} {B20 : Int → Int → Int → Int → St → Prop} (hd : 4 ≤ d) (hJ : Stb sh J) (hT : isM sh) (hW : Wd G sh mT J S cs) (hP : ∀ (v : Int) (S : St) (cs : List va_E), K v S → Wd G sh mT J S cs → Post (none) cs) (hB20 : ∀ (l1 : Int) (l2 : Int) (l4 : Int) (l5 : Int) (S : St) (cs : List va_E), B20 l1 l2 l4 l5 S → Wd G sh mT J S cs → Z (RX11, cX11_putWay, 6, none, false) G d Post 20 [(0, .ref (G.1 + 54)), (1, .int (Int32.ofInt (l1))), (2, .int (Int32.ofInt (l2))), (4, .int (Int32.ofInt (l4))), (5, .int (Int32.ofInt (l5)))] [] cs) (hw : wX11_putWay_61 l1 l2 l4 l5 S K B20) : Z (RX11, cX11_putWay, 6, none, false) G d Post 61 [(0, .ref (G.1 + 54)), (1, .int (Int32.ofInt (l1))), (2, .int (Int32.ofInt (l2))), (4, .int (Int32.ofInt (l4))), (5, .int (Int32.ofInt (l5)))] [] cs := by
  unfold wX11_putWay_61 at hw
  refine z_aload_n dX11_putWay_61 rfl rfl ?_
  refine g_getR hW hT.1 mr26 kX11 fX11_66 dX11_putWay_62 ?_
  refine z_iload dX11_putWay_65 rfl ?_
  obtain ⟨q1a, q1b, hw⟩ := hw
  have q2 : iv (-2) 899 (S.2 72 (l5)) := mA72 hW _
  have hw := hw q2
  refine g_iald hW (ma72 hT) q1a q1b (by decide) dX11_putWay_67 ?_
  obtain ⟨x3, hx3⟩ : ∃ x : Int, x = S.2 72 (l5) := ⟨_, rfl⟩
  have hw := hw x3 hx3
  refine z_st (st' := [.int (Int32.ofInt x3)]) (by rw [hx3]) ?_
  have q4 : rng x3 := by rw [hx3]; exact (rngq q2 (by decide) (by decide))
  have q5 : iv (-2) 899 x3 := by rw [hx3]; exact q2
  refine z_istore dX11_putWay_68 (by decide) ?_
  refine z_loc (L' := [(0, .ref (G.1 + 54)), (1, .int (Int32.ofInt (l1))), (2, .int (Int32.ofInt (l2))), (4, .int (Int32.ofInt (l4))), (5, .int (Int32.ofInt (x3)))]) (List.forall_mem_cons.mpr ⟨rfl, (List.forall_mem_cons.mpr ⟨rfl, (List.forall_mem_cons.mpr ⟨rfl, (List.forall_mem_cons.mpr ⟨rfl, (List.forall_mem_cons.mpr ⟨rfl, (fun _ h => nomatch h)⟩)⟩)⟩)⟩)⟩) ?_
  refine z_goto (tgt := 20) dX11_putWay_70 (by decide) ?_
  refine z_loc (L' := [(0, .ref (G.1 + 54)), (1, .int (Int32.ofInt (l1))), (2, .int (Int32.ofInt (l2))), (4, .int (Int32.ofInt (l4))), (5, .int (Int32.ofInt (x3)))]) (List.forall_mem_cons.mpr ⟨rfl, (List.forall_mem_cons.mpr ⟨rfl, (List.forall_mem_cons.mpr ⟨rfl, (List.forall_mem_cons.mpr ⟨rfl, (List.forall_mem_cons.mpr ⟨rfl, (fun _ h => nomatch h)⟩)⟩)⟩)⟩)⟩) ?_
  exact hB20 _ _ _ _ _ _ hw hW
def wX11_putWay_46 (l1 l2 l5 : Int) (S : St) (K : Int → St → Prop) (B20 : Int → Int → Int → Int → St → Prop) : Prop := (wX11_put (46) S (fun r1 S2 => (wX11_put (46) S2 (fun r3 S4 => wX11_putWay_61 (l1) (l2) (1) (l5) S4 K B20))))
set_option maxRecDepth 100000 in
set_option maxHeartbeats 4000000 in
theorem bX11_putWay_46 {G : xG} {sh : Nat → Option Sh} {J : St → List va_E → Prop} {d : Nat} {Post : xP} {l1 l2 l5 : Int} {S : St} {cs : List va_E} {K : Int → St → Prop} {B20 : Int → Int → Int → Int → St → Prop} (hd : 4 ≤ d) (hJ : Stb sh J) (hT : isM sh) (hW : Wd G sh mT J S cs) (hP : ∀ (v : Int) (S : St) (cs : List va_E), K v S → Wd G sh mT J S cs → Post (none) cs) (hB20 : ∀ (l1 : Int) (l2 : Int) (l4 : Int) (l5 : Int) (S : St) (cs : List va_E), B20 l1 l2 l4 l5 S → Wd G sh mT J S cs → Z (RX11, cX11_putWay, 6, none, false) G d Post 20 [(0, .ref (G.1 + 54)), (1, .int (Int32.ofInt (l1))), (2, .int (Int32.ofInt (l2))), (4, .int (Int32.ofInt (l4))), (5, .int (Int32.ofInt (l5)))] [] cs) (hw : wX11_putWay_46 l1 l2 l5 S K B20) : Z (RX11, cX11_putWay, 6, none, false) G d Post 46 [(0, .ref (G.1 + 54)), (1, .int (Int32.ofInt (l1))), (2, .int (Int32.ofInt (l2))), (5, .int (Int32.ofInt (l5)))] [] cs := by
  unfold wX11_putWay_46 at hw
  refine z_aload_n dX11_putWay_46 rfl rfl ?_
  refine z_bipush (v := Int32.ofInt 46) dX11_putWay_47 (by decide) ?_
  have hX := lX11_put 0 (Nat.le_refl _) hJ hT hW ⟨by decide, by decide⟩ hw
  refine z_callV (As := [_]) eX11_put sX11_put lX11_260 rfl dX11_putWay_49 (hW.1 _ _ hT.1) hX (Nat.le_trans (by decide) hd) rfl (Nat.le_of_ble_eq_true rfl) (fun r cs hp => ?_)
  obtain ⟨r1, S2, rfl, hw, hW⟩ := hp
  refine z_st (st' := []) rfl ?_
  refine z_aload_n dX11_putWay_52 rfl rfl ?_
  refine z_bipush (v := Int32.ofInt 46) dX11_putWay_53 (by decide) ?_
  have hX := lX11_put 0 (Nat.le_refl _) hJ hT hW ⟨by decide, by decide⟩ hw
  refine z_callV (As := [_]) eX11_put sX11_put lX11_260 rfl dX11_putWay_55 (hW.1 _ _ hT.1) hX (Nat.le_trans (by decide) hd) rfl (Nat.le_of_ble_eq_true rfl) (fun r cs hp => ?_)
  obtain ⟨r3, S4, rfl, hw, hW⟩ := hp
  refine z_st (st' := []) rfl ?_
  refine z_iconst (v := Int32.ofInt 1) dX11_putWay_58 rfl ?_
  refine z_istore dX11_putWay_59 (by decide) ?_
  refine z_loc (L' := [(0, .ref (G.1 + 54)), (1, .int (Int32.ofInt (l1))), (2, .int (Int32.ofInt (l2))), (4, .int (Int32.ofInt (1))), (5, .int (Int32.ofInt (l5)))]) (List.forall_mem_cons.mpr ⟨rfl, (List.forall_mem_cons.mpr ⟨rfl, (List.forall_mem_cons.mpr ⟨rfl, (List.forall_mem_cons.mpr ⟨rfl, (List.forall_mem_cons.mpr ⟨rfl, (fun _ h => nomatch h)⟩)⟩)⟩)⟩)⟩) ?_
  refine z_loc (L' := [(0, .ref (G.1 + 54)), (1, .int (Int32.ofInt (l1))), (2, .int (Int32.ofInt (l2))), (4, .int (Int32.ofInt (1))), (5, .int (Int32.ofInt (l5)))]) (List.forall_mem_cons.mpr ⟨rfl, (List.forall_mem_cons.mpr ⟨rfl, (List.forall_mem_cons.mpr ⟨rfl, (List.forall_mem_cons.mpr ⟨rfl, (List.forall_mem_cons.mpr ⟨rfl, (fun _ h => nomatch h)⟩)⟩)⟩)⟩)⟩) ?_
  exact bX11_putWay_61 hd hJ hT hW hP hB20 hw
def wX11_putWay_20' (l1 l2 l4 l5 : Int) (S : St) (K : Int → St → Prop) (B20 : Int → Int → Int → Int → St → Prop) : Prop := (rng (l5) ∧ ((l5 < 0 → (rng (l2) ∧ (rng (l1) ∧ (rng (l4) ∧ (wX11_putSteps (l2) (l1) (l4) S (fun r6 S7 => K 0 S7)))))) ∧ ((¬ (l5 < 0)) → (rng (l2) ∧ (wX11_isAround (l5) (l2) S (fun r9 S10 => (rng (r9) ∧ ((¬ r9 = 0 → wX11_putWay_61 (l1) (l2) (l4) (l5) S10 K B20) ∧ ((¬ (¬ r9 = 0)) → (rng (l4) ∧ ((l4 = 0 → wX11_putWay_46 (l1) (l2) (l5) S10 K B20) ∧ ((¬ (l4 = 0)) → (wX11_put (47) S10 (fun r15 S16 => wX11_putWay_46 (l1) (l2) (l5) S16 K B20))))))))))))))
set_option maxRecDepth 100000 in
set_option maxHeartbeats 4000000 in
theorem bX11_putWay_20' {G : xG} {sh : Nat → Option Sh} {J : St → List va_E → Prop} {d : Nat} {Post : xP} {l1 l2 l4 l5 : Int} {S : St} {cs : List va_E} {K : Int → St → Prop} {B20 : Int → Int → Int → Int → St → Prop} (hd : 4 ≤ d) (hJ : Stb sh J) (hT : isM sh) (hW : Wd G sh mT J S cs) (hP : ∀ (v : Int) (S : St) (cs : List va_E), K v S → Wd G sh mT J S cs → Post (none) cs) (hB20 : ∀ (l1 : Int) (l2 : Int) (l4 : Int) (l5 : Int) (S : St) (cs : List va_E), B20 l1 l2 l4 l5 S → Wd G sh mT J S cs → Z (RX11, cX11_putWay, 6, none, false) G d Post 20 [(0, .ref (G.1 + 54)), (1, .int (Int32.ofInt (l1))), (2, .int (Int32.ofInt (l2))), (4, .int (Int32.ofInt (l4))), (5, .int (Int32.ofInt (l5)))] [] cs) (hw : wX11_putWay_20' l1 l2 l4 l5 S K B20) : Z (RX11, cX11_putWay, 6, none, false) G d Post 20 [(0, .ref (G.1 + 54)), (1, .int (Int32.ofInt (l1))), (2, .int (Int32.ofInt (l2))), (4, .int (Int32.ofInt (l4))), (5, .int (Int32.ofInt (l5)))] [] cs := by
  unfold wX11_putWay_20' at hw
  refine z_iload dX11_putWay_20 rfl ?_
  obtain ⟨q2, hw⟩ := hw
  refine i_if_lt (tgt := 73) dX11_putWay_22 (by decide) q2 (fun h1 => ?_) (fun h1 => ?_)
  · have hw := hw.1 h1
    refine z_aload_n dX11_putWay_73 rfl rfl ?_
    refine z_iload_n dX11_putWay_74 rfl rfl ?_
    refine z_iload_n dX11_putWay_75 rfl rfl ?_
    refine z_iload dX11_putWay_76 rfl ?_
    obtain ⟨q3, hw⟩ := hw
    obtain ⟨q4, hw⟩ := hw
    obtain ⟨q5, hw⟩ := hw
    have hX := lX11_putSteps 3 (Nat.le_refl _) hJ hT hW q3 q4 q5 hw
    refine z_callV (As := [_, _, _]) eX11_putSteps sX11_putSteps lX11_293 rfl dX11_putWay_78 (hW.1 _ _ hT.1) hX (Nat.le_trans (by decide) hd) rfl (Nat.le_of_ble_eq_true rfl) (fun r cs hp => ?_)
    obtain ⟨r6, S7, rfl, hw, hW⟩ := hp
    refine z_st (st' := []) rfl ?_
    exact z_return dX11_putWay_81 rfl (hP 0 _ _ hw hW)
  · have hw := hw.2 h1
    refine z_aload_n dX11_putWay_25 rfl rfl ?_
    refine z_iload dX11_putWay_26 rfl ?_
    refine z_iload_n dX11_putWay_28 rfl rfl ?_
    obtain ⟨q8, hw⟩ := hw
    have hX := lX11_isAround 0 (Nat.le_refl _) hJ hT hW q2 q8 hw
    refine z_callV (As := [_, _]) eX11_isAround sX11_isAround lX11_287 rfl dX11_putWay_29 (hW.1 _ _ hT.1) hX (Nat.le_trans (by decide) hd) rfl (Nat.le_of_ble_eq_true rfl) (fun r cs hp => ?_)
    obtain ⟨r9, S10, rfl, hw, hW⟩ := hp
    refine z_st (st' := [.int (Int32.ofInt (r9))]) rfl ?_
    obtain ⟨q12, hw⟩ := hw
    refine i_if_ne (tgt := 61) dX11_putWay_32 (by decide) q12 (fun h11 => ?_) (fun h11 => ?_)
    · have hw := hw.1 h11
      refine z_loc (L' := [(0, .ref (G.1 + 54)), (1, .int (Int32.ofInt (l1))), (2, .int (Int32.ofInt (l2))), (4, .int (Int32.ofInt (l4))), (5, .int (Int32.ofInt (l5)))]) (List.forall_mem_cons.mpr ⟨rfl, (List.forall_mem_cons.mpr ⟨rfl, (List.forall_mem_cons.mpr ⟨rfl, (List.forall_mem_cons.mpr ⟨rfl, (List.forall_mem_cons.mpr ⟨rfl, (fun _ h => nomatch h)⟩)⟩)⟩)⟩)⟩) ?_
      exact bX11_putWay_61 hd hJ hT hW hP hB20 hw
    · have hw := hw.2 h11
      refine z_iload dX11_putWay_35 rfl ?_
      obtain ⟨q14, hw⟩ := hw
      refine i_if_eq (tgt := 46) dX11_putWay_37 (by decide) q14 (fun h13 => ?_) (fun h13 => ?_)
      · have hw := hw.1 h13
        refine z_loc (L' := [(0, .ref (G.1 + 54)), (1, .int (Int32.ofInt (l1))), (2, .int (Int32.ofInt (l2))), (5, .int (Int32.ofInt (l5)))]) (List.forall_mem_cons.mpr ⟨rfl, (List.forall_mem_cons.mpr ⟨rfl, (List.forall_mem_cons.mpr ⟨rfl, (List.forall_mem_cons.mpr ⟨rfl, (fun _ h => nomatch h)⟩)⟩)⟩)⟩) ?_
        exact bX11_putWay_46 hd hJ hT hW hP hB20 hw
      · have hw := hw.2 h13
        refine z_aload_n dX11_putWay_40 rfl rfl ?_
        refine z_bipush (v := Int32.ofInt 47) dX11_putWay_41 (by decide) ?_
        have hX := lX11_put 0 (Nat.le_refl _) hJ hT hW ⟨by decide, by decide⟩ hw
        refine z_callV (As := [_]) eX11_put sX11_put lX11_260 rfl dX11_putWay_43 (hW.1 _ _ hT.1) hX (Nat.le_trans (by decide) hd) rfl (Nat.le_of_ble_eq_true rfl) (fun r cs hp => ?_)
        obtain ⟨r15, S16, rfl, hw, hW⟩ := hp
        refine z_st (st' := []) rfl ?_
        refine z_loc (L' := [(0, .ref (G.1 + 54)), (1, .int (Int32.ofInt (l1))), (2, .int (Int32.ofInt (l2))), (5, .int (Int32.ofInt (l5)))]) (List.forall_mem_cons.mpr ⟨rfl, (List.forall_mem_cons.mpr ⟨rfl, (List.forall_mem_cons.mpr ⟨rfl, (List.forall_mem_cons.mpr ⟨rfl, (fun _ h => nomatch h)⟩)⟩)⟩)⟩) ?_
        exact bX11_putWay_46 hd hJ hT hW hP hB20 hw
def wX11_putWay_20 (l1 l2 l4 l5 : Int) (S : St) (K : Int → St → Prop) : Prop := ∃ (Iv : Int → Int → Int → Int → St → Prop) (mu : Int → Int → Int → Int → St → Nat), Iv l1 l2 l4 l5 S ∧ ∀ (l1 l2 l4 l5 : Int) (S : St), Iv l1 l2 l4 l5 S → wX11_putWay_20' l1 l2 l4 l5 S K  (fun ml1 ml2 ml4 ml5 T => Iv ml1 ml2 ml4 ml5 T ∧ mu ml1 ml2 ml4 ml5 T < mu l1 l2 l4 l5 S)
set_option maxRecDepth 100000 in
set_option maxHeartbeats 4000000 in
theorem bX11_putWay_20 {G : xG} {sh : Nat → Option Sh} {J : St → List va_E → Prop} {d : Nat} {Post : xP} {l1 l2 l4 l5 : Int} {S : St} {cs : List va_E} {K : Int → St → Prop} (hd : 4 ≤ d) (hJ : Stb sh J) (hT : isM sh) (hW : Wd G sh mT J S cs) (hP : ∀ (v : Int) (S : St) (cs : List va_E), K v S → Wd G sh mT J S cs → Post (none) cs)  (hw : wX11_putWay_20 l1 l2 l4 l5 S K ) : Z (RX11, cX11_putWay, 6, none, false) G d Post 20 [(0, .ref (G.1 + 54)), (1, .int (Int32.ofInt (l1))), (2, .int (Int32.ofInt (l2))), (4, .int (Int32.ofInt (l4))), (5, .int (Int32.ofInt (l5)))] [] cs := by
  unfold wX11_putWay_20 at hw
  obtain ⟨Iv, mu, h0, hs⟩ := hw
  have key : ∀ (n : Nat) (l1 l2 l4 l5 : Int) (S : St) (cs : List va_E), mu l1 l2 l4 l5 S < n → Iv l1 l2 l4 l5 S → Wd G sh mT J S cs → Z (RX11, cX11_putWay, 6, none, false) G d Post 20 [(0, .ref (G.1 + 54)), (1, .int (Int32.ofInt (l1))), (2, .int (Int32.ofInt (l2))), (4, .int (Int32.ofInt (l4))), (5, .int (Int32.ofInt (l5)))] [] cs := by
    intro n
    induction n with
    | zero => intro l1 l2 l4 l5 S cs hn; exact absurd hn (Nat.not_lt_zero _)
    | succ n ih =>
      intro l1 l2 l4 l5 S cs hn hI hW
      exact bX11_putWay_20' hd hJ hT hW hP  (fun l1 l2 l4 l5 S cs hb hW => ih l1 l2 l4 l5 S cs (Nat.lt_of_lt_of_le hb.2 (Nat.le_of_lt_succ hn)) hb.1 hW) (hs l1 l2 l4 l5 S hI)
  exact key _ _ _ _ _ _ _ (Nat.lt_succ_self _) h0 hW
def wX11_putWay (a1 a2 a3 : Int) (S : St) (K : Int → St → Prop) : Prop := rng a1 → rng a2 → rng a3 → ((¬ a3 = 1 → wX11_putWay_20 (a1) (a2) (0) (a1) S K) ∧ ((¬ (¬ a3 = 1)) → (wX11_putSteps (a2) ((-2)) (1) S (fun r2 S3 => K 0 S3))))
set_option maxRecDepth 100000 in
set_option maxHeartbeats 4000000 in
theorem lX11_putWay {G : xG} {sh : Nat → Option Sh} {J : St → List va_E → Prop} {a1 a2 a3 : Int} {S : St} {cs : List va_E} {K : Int → St → Prop} (d : Nat) (hd : 4 ≤ d) (hJ : Stb sh J) (hT : isM sh) (hW : Wd G sh mT J S cs) (g1 : rng a1) (g2 : rng a2) (g3 : rng a3) (hw : wX11_putWay a1 a2 a3 S K) : X G yX11_putWay cX11_putWay 6 none d [.ref (G.1 + 54), .int (Int32.ofInt a1), .int (Int32.ofInt a2), .int (Int32.ofInt a3)] cs (qV G sh mT J K) := by
  refine X.of false (by decide +kernel) (by decide) (Nat.le_of_ble_eq_true rfl) ?_
  show Z (RX11, cX11_putWay, 6, none, false) G d _ 0 [(0, .ref (G.1 + 54)), (1, .int (Int32.ofInt a1)), (2, .int (Int32.ofInt a2)), (3, .int (Int32.ofInt a3))] [] cs
  have hP : ∀ (v : Int) (S : St) (cs : List va_E), K v S → Wd G sh mT J S cs → qV G sh mT J K (none) cs := fun v S cs a b => ⟨v, S, rfl, a, b⟩
  unfold wX11_putWay at hw
  have hw := hw g1 g2 g3
  refine z_iload_n dX11_putWay_0 rfl rfl ?_
  refine z_iconst (v := Int32.ofInt 1) dX11_putWay_1 rfl ?_
  refine i_icmp_ne (tgt := 14) dX11_putWay_2 (by decide) g3 ⟨by decide, by decide⟩ (fun h1 => ?_) (fun h1 => ?_)
  · have hw := hw.1 h1
    refine z_iconst (v := Int32.ofInt 0) dX11_putWay_14 rfl ?_
    refine z_istore dX11_putWay_15 (by decide) ?_
    refine z_loc (L' := [(0, .ref (G.1 + 54)), (1, .int (Int32.ofInt (a1))), (2, .int (Int32.ofInt (a2))), (3, .int (Int32.ofInt (a3))), (4, .int (Int32.ofInt (0)))]) (List.forall_mem_cons.mpr ⟨rfl, (List.forall_mem_cons.mpr ⟨rfl, (List.forall_mem_cons.mpr ⟨rfl, (List.forall_mem_cons.mpr ⟨rfl, (List.forall_mem_cons.mpr ⟨rfl, (fun _ h => nomatch h)⟩)⟩)⟩)⟩)⟩) ?_
    refine z_iload_n dX11_putWay_17 rfl rfl ?_
    refine z_istore dX11_putWay_18 (by decide) ?_
    refine z_loc (L' := [(0, .ref (G.1 + 54)), (1, .int (Int32.ofInt (a1))), (2, .int (Int32.ofInt (a2))), (3, .int (Int32.ofInt (a3))), (4, .int (Int32.ofInt (0))), (5, .int (Int32.ofInt (a1)))]) (List.forall_mem_cons.mpr ⟨rfl, (List.forall_mem_cons.mpr ⟨rfl, (List.forall_mem_cons.mpr ⟨rfl, (List.forall_mem_cons.mpr ⟨rfl, (List.forall_mem_cons.mpr ⟨rfl, (List.forall_mem_cons.mpr ⟨rfl, (fun _ h => nomatch h)⟩)⟩)⟩)⟩)⟩)⟩) ?_
    refine z_loc (L' := [(0, .ref (G.1 + 54)), (1, .int (Int32.ofInt (a1))), (2, .int (Int32.ofInt (a2))), (4, .int (Int32.ofInt (0))), (5, .int (Int32.ofInt (a1)))]) (List.forall_mem_cons.mpr ⟨rfl, (List.forall_mem_cons.mpr ⟨rfl, (List.forall_mem_cons.mpr ⟨rfl, (List.forall_mem_cons.mpr ⟨rfl, (List.forall_mem_cons.mpr ⟨rfl, (fun _ h => nomatch h)⟩)⟩)⟩)⟩)⟩) ?_
    exact bX11_putWay_20 hd hJ hT hW hP  hw
  · have hw := hw.2 h1
    refine z_aload_n dX11_putWay_5 rfl rfl ?_
    refine z_iload_n dX11_putWay_6 rfl rfl ?_
    refine z_bipush (v := Int32.ofInt (-2)) dX11_putWay_7 (by decide) ?_
    refine z_iconst (v := Int32.ofInt 1) dX11_putWay_9 rfl ?_
    have hX := lX11_putSteps 3 (Nat.le_refl _) hJ hT hW g2 ⟨by decide, by decide⟩ ⟨by decide, by decide⟩ hw
    refine z_callV (As := [_, _, _]) eX11_putSteps sX11_putSteps lX11_293 rfl dX11_putWay_10 (hW.1 _ _ hT.1) hX (Nat.le_trans (by decide) hd) rfl (Nat.le_of_ble_eq_true rfl) (fun r cs hp => ?_)
    obtain ⟨r2, S3, rfl, hw, hW⟩ := hp
    refine z_st (st' := []) rfl ?_
    exact z_return dX11_putWay_13 rfl (hP 0 _ _ hw hW)

def wX11_refer_87 (S : St) (K : Int → St → Prop) : Prop := (wX11_putWord (34) (47) (62) (0) S (fun r1 S2 => K 0 S2))
set_option maxRecDepth 100000 in
set_option maxHeartbeats 4000000 in
theorem bX11_refer_87 {G : xG} {sh : Nat → Option Sh} {J : St → List va_E → Prop} {d : Nat} {Post : xP} {S : St} {cs : List va_E} {K : Int → St → Prop} (hd : 5 ≤ d) (hJ : Stb sh J) (hT : isM sh) (hW : Wd G sh mT J S cs) (hP : ∀ (v : Int) (S : St) (cs : List va_E), K v S → Wd G sh mT J S cs → Post (none) cs)  (hw : wX11_refer_87  S K ) : Z (RX11, cX11_refer, 6, none, false) G d Post 87 [(0, .ref (G.1 + 54))] [] cs := by
  unfold wX11_refer_87 at hw
  refine z_aload_n dX11_refer_87 rfl rfl ?_
  refine z_bipush (v := Int32.ofInt 34) dX11_refer_88 (by decide) ?_
  refine z_bipush (v := Int32.ofInt 47) dX11_refer_90 (by decide) ?_
  refine z_bipush (v := Int32.ofInt 62) dX11_refer_92 (by decide) ?_
  refine z_iconst (v := Int32.ofInt 0) dX11_refer_94 rfl ?_
  have hX := lX11_putWord 1 (Nat.le_refl _) hJ hT hW ⟨by decide, by decide⟩ ⟨by decide, by decide⟩ ⟨by decide, by decide⟩ ⟨by decide, by decide⟩ hw
  refine z_callV (As := [_, _, _, _]) eX11_putWord sX11_putWord lX11_267 rfl dX11_refer_95 (hW.1 _ _ hT.1) hX (Nat.le_trans (by decide) hd) rfl (Nat.le_of_ble_eq_true rfl) (fun r cs hp => ?_)
  obtain ⟨r1, S2, rfl, hw, hW⟩ := hp
  refine z_st (st' := []) rfl ?_
  exact z_return dX11_refer_98 rfl (hP 0 _ _ hw hW)
def wX11_refer (a1 a2 a3 a4 : Int) (S : St) (K : Int → St → Prop) : Prop := rng a1 → rng a2 → rng a3 → rng a4 → (wX11_element (a2) (a3) S (fun r1 S2 => (wX11_put (60) S2 (fun r3 S4 => (wX11_putName (a3) S4 (fun r5 S6 => (wX11_putAttribute (114) (101) (102) (101) S6 (fun r7 S8 => (wX11_putWord (114) (101) (110) (99) S8 (fun r9 S10 => (wX11_putWord (101) (61) (34) (0) S10 (fun r11 S12 => ((¬ a4 = 2 → ((0 : Int) ≤ a1 ∧ a1 < (30 : Int) ∧ (iv (-2) 899 (S12.2 75 (a1)) → (rng (r1) ∧ (wX11_putWay (r1) (S12.2 75 (a1)) (a4) S12 (fun r17 S18 => wX11_refer_87 S18 K)))))) ∧ ((¬ (¬ a4 = 2)) → ((0 : Int) ≤ a1 ∧ a1 < (30 : Int) ∧ (iv 0 900 (S12.2 76 (a1)) → (wX11_putNumber (S12.2 76 (a1)) S12 (fun r21 S22 => wX11_refer_87 S22 K))))))))))))))))))
set_option maxRecDepth 100000 in
set_option maxHeartbeats 4000000 in
theorem lX11_refer {G : xG} {sh : Nat → Option Sh} {J : St → List va_E → Prop} {a1 a2 a3 a4 : Int} {S : St} {cs : List va_E} {K : Int → St → Prop} (d : Nat) (hd : 5 ≤ d) (hJ : Stb sh J) (hT : isM sh) (hW : Wd G sh mT J S cs) (g1 : rng a1) (g2 : rng a2) (g3 : rng a3) (g4 : rng a4) (hw : wX11_refer a1 a2 a3 a4 S K) : X G yX11_refer cX11_refer 6 none d [.ref (G.1 + 54), .int (Int32.ofInt a1), .int (Int32.ofInt a2), .int (Int32.ofInt a3), .int (Int32.ofInt a4)] cs (qV G sh mT J K) := by
  refine X.of false (by decide +kernel) (by decide) (Nat.le_of_ble_eq_true rfl) ?_
  show Z (RX11, cX11_refer, 6, none, false) G d _ 0 [(0, .ref (G.1 + 54)), (1, .int (Int32.ofInt a1)), (2, .int (Int32.ofInt a2)), (3, .int (Int32.ofInt a3)), (4, .int (Int32.ofInt a4))] [] cs
  have hP : ∀ (v : Int) (S : St) (cs : List va_E), K v S → Wd G sh mT J S cs → qV G sh mT J K (none) cs := fun v S cs a b => ⟨v, S, rfl, a, b⟩
  unfold wX11_refer at hw
  have hw := hw g1 g2 g3 g4
  refine z_aload_n dX11_refer_0 rfl rfl ?_
  refine z_iload_n dX11_refer_1 rfl rfl ?_
  refine z_iload_n dX11_refer_2 rfl rfl ?_
  have hX := lX11_element 1 (Nat.le_refl _) hJ hT hW g2 g3 hw
  refine z_callV (As := [_, _]) eX11_element sX11_element lX11_297 rfl dX11_refer_3 (hW.1 _ _ hT.1) hX (Nat.le_trans (by decide) hd) rfl (Nat.le_of_ble_eq_true rfl) (fun r cs hp => ?_)
  obtain ⟨r1, S2, rfl, hw, hW⟩ := hp
  refine z_st (st' := [.int (Int32.ofInt (r1))]) rfl ?_
  refine z_istore dX11_refer_6 (by decide) ?_
  refine z_loc (L' := [(0, .ref (G.1 + 54)), (1, .int (Int32.ofInt (a1))), (2, .int (Int32.ofInt (a2))), (3, .int (Int32.ofInt (a3))), (4, .int (Int32.ofInt (a4))), (5, .int (Int32.ofInt (r1)))]) (List.forall_mem_cons.mpr ⟨rfl, (List.forall_mem_cons.mpr ⟨rfl, (List.forall_mem_cons.mpr ⟨rfl, (List.forall_mem_cons.mpr ⟨rfl, (List.forall_mem_cons.mpr ⟨rfl, (List.forall_mem_cons.mpr ⟨rfl, (fun _ h => nomatch h)⟩)⟩)⟩)⟩)⟩)⟩) ?_
  refine z_aload_n dX11_refer_8 rfl rfl ?_
  refine z_bipush (v := Int32.ofInt 60) dX11_refer_9 (by decide) ?_
  have hX := lX11_put 0 (Nat.le_refl _) hJ hT hW ⟨by decide, by decide⟩ hw
  refine z_callV (As := [_]) eX11_put sX11_put lX11_260 rfl dX11_refer_11 (hW.1 _ _ hT.1) hX (Nat.le_trans (by decide) hd) rfl (Nat.le_of_ble_eq_true rfl) (fun r cs hp => ?_)
  obtain ⟨r3, S4, rfl, hw, hW⟩ := hp
  refine z_st (st' := []) rfl ?_
  refine z_aload_n dX11_refer_14 rfl rfl ?_
  refine z_iload_n dX11_refer_15 rfl rfl ?_
  have hX := lX11_putName 1 (Nat.le_refl _) hJ hT hW g3 hw
  refine z_callV (As := [_]) eX11_putName sX11_putName lX11_284 rfl dX11_refer_16 (hW.1 _ _ hT.1) hX (Nat.le_trans (by decide) hd) rfl (Nat.le_of_ble_eq_true rfl) (fun r cs hp => ?_)
  obtain ⟨r5, S6, rfl, hw, hW⟩ := hp
  refine z_st (st' := []) rfl ?_
  refine z_aload_n dX11_refer_19 rfl rfl ?_
  refine z_bipush (v := Int32.ofInt 114) dX11_refer_20 (by decide) ?_
  refine z_bipush (v := Int32.ofInt 101) dX11_refer_22 (by decide) ?_
  refine z_bipush (v := Int32.ofInt 102) dX11_refer_24 (by decide) ?_
  refine z_bipush (v := Int32.ofInt 101) dX11_refer_26 (by decide) ?_
  have hX := lX11_putAttribute 2 (Nat.le_refl _) hJ hT hW ⟨by decide, by decide⟩ ⟨by decide, by decide⟩ ⟨by decide, by decide⟩ ⟨by decide, by decide⟩ hw
  refine z_callV (As := [_, _, _, _]) eX11_putAttribute sX11_putAttribute lX11_300 rfl dX11_refer_28 (hW.1 _ _ hT.1) hX (Nat.le_trans (by decide) hd) rfl (Nat.le_of_ble_eq_true rfl) (fun r cs hp => ?_)
  obtain ⟨r7, S8, rfl, hw, hW⟩ := hp
  refine z_st (st' := []) rfl ?_
  refine z_aload_n dX11_refer_31 rfl rfl ?_
  refine z_bipush (v := Int32.ofInt 114) dX11_refer_32 (by decide) ?_
  refine z_bipush (v := Int32.ofInt 101) dX11_refer_34 (by decide) ?_
  refine z_bipush (v := Int32.ofInt 110) dX11_refer_36 (by decide) ?_
  refine z_bipush (v := Int32.ofInt 99) dX11_refer_38 (by decide) ?_
  have hX := lX11_putWord 1 (Nat.le_refl _) hJ hT hW ⟨by decide, by decide⟩ ⟨by decide, by decide⟩ ⟨by decide, by decide⟩ ⟨by decide, by decide⟩ hw
  refine z_callV (As := [_, _, _, _]) eX11_putWord sX11_putWord lX11_267 rfl dX11_refer_40 (hW.1 _ _ hT.1) hX (Nat.le_trans (by decide) hd) rfl (Nat.le_of_ble_eq_true rfl) (fun r cs hp => ?_)
  obtain ⟨r9, S10, rfl, hw, hW⟩ := hp
  refine z_st (st' := []) rfl ?_
  refine z_aload_n dX11_refer_43 rfl rfl ?_
  refine z_bipush (v := Int32.ofInt 101) dX11_refer_44 (by decide) ?_
  refine z_bipush (v := Int32.ofInt 61) dX11_refer_46 (by decide) ?_
  refine z_bipush (v := Int32.ofInt 34) dX11_refer_48 (by decide) ?_
  refine z_iconst (v := Int32.ofInt 0) dX11_refer_50 rfl ?_
  have hX := lX11_putWord 1 (Nat.le_refl _) hJ hT hW ⟨by decide, by decide⟩ ⟨by decide, by decide⟩ ⟨by decide, by decide⟩ ⟨by decide, by decide⟩ hw
  refine z_callV (As := [_, _, _, _]) eX11_putWord sX11_putWord lX11_267 rfl dX11_refer_51 (hW.1 _ _ hT.1) hX (Nat.le_trans (by decide) hd) rfl (Nat.le_of_ble_eq_true rfl) (fun r cs hp => ?_)
  obtain ⟨r11, S12, rfl, hw, hW⟩ := hp
  refine z_st (st' := []) rfl ?_
  refine z_iload dX11_refer_54 rfl ?_
  refine z_iconst (v := Int32.ofInt 2) dX11_refer_56 rfl ?_
  refine i_icmp_ne (tgt := 73) dX11_refer_57 (by decide) g4 ⟨by decide, by decide⟩ (fun h13 => ?_) (fun h13 => ?_)
  · have hw := hw.1 h13
    refine z_aload_n dX11_refer_73 rfl rfl ?_
    refine z_iload dX11_refer_74 rfl ?_
    refine z_aload_n dX11_refer_76 rfl rfl ?_
    refine g_getR hW hT.1 mr29 kX11 fX11_75 dX11_refer_77 ?_
    refine z_iload_n dX11_refer_80 rfl rfl ?_
    obtain ⟨q14a, q14b, hw⟩ := hw
    have q15 : iv (-2) 899 (S12.2 75 (a1)) := mA75 hW _
    have hw := hw q15
    refine g_iald hW (ma75 hT) q14a q14b (by decide) dX11_refer_81 ?_
    refine z_iload dX11_refer_82 rfl ?_
    obtain ⟨q16, hw⟩ := hw
    have hX := lX11_putWay 4 (Nat.le_refl _) hJ hT hW q16 (rngq q15 (by decide) (by decide)) g4 hw
    refine z_callV (As := [_, _, _]) eX11_putWay sX11_putWay lX11_303 rfl dX11_refer_84 (hW.1 _ _ hT.1) hX (Nat.le_trans (by decide) hd) rfl (Nat.le_of_ble_eq_true rfl) (fun r cs hp => ?_)
    obtain ⟨r17, S18, rfl, hw, hW⟩ := hp
    refine z_st (st' := []) rfl ?_
    refine z_loc (L' := [(0, .ref (G.1 + 54))]) (List.forall_mem_cons.mpr ⟨rfl, (fun _ h => nomatch h)⟩) ?_
    exact bX11_refer_87 hd hJ hT hW hP  hw
  · have hw := hw.2 h13
    refine z_aload_n dX11_refer_60 rfl rfl ?_
    refine z_aload_n dX11_refer_61 rfl rfl ?_
    refine g_getR hW hT.1 mr31 kX11 fX11_78 dX11_refer_62 ?_
    refine z_iload_n dX11_refer_65 rfl rfl ?_
    obtain ⟨q19a, q19b, hw⟩ := hw
    have q20 : iv 0 900 (S12.2 76 (a1)) := mA76 hW _
    have hw := hw q20
    refine g_iald hW (ma76 hT) q19a q19b (by decide) dX11_refer_66 ?_
    have hX := lX11_putNumber 1 (Nat.le_refl _) hJ hT hW (rngq q20 (by decide) (by decide)) hw
    refine z_callV (As := [_]) eX11_putNumber sX11_putNumber lX11_271 rfl dX11_refer_67 (hW.1 _ _ hT.1) hX (Nat.le_trans (by decide) hd) rfl (Nat.le_of_ble_eq_true rfl) (fun r cs hp => ?_)
    obtain ⟨r21, S22, rfl, hw, hW⟩ := hp
    refine z_st (st' := []) rfl ?_
    refine z_goto (tgt := 87) dX11_refer_70 (by decide) ?_
    refine z_loc (L' := [(0, .ref (G.1 + 54))]) (List.forall_mem_cons.mpr ⟨rfl, (fun _ h => nomatch h)⟩) ?_
    exact bX11_refer_87 hd hJ hT hW hP  hw

def wX11_child_28 (l1 l2 l3 l4 l5 : Int) (S : St) (K : Int → St → Prop) : Prop := (iv 0 20 (S.1 54 32) → (iv 1 20 (S.1 54 19) → ((¬ S.1 54 32 = S.1 54 19 → (rng (l1) ∧ (rng (l2) ∧ (rng (l3) ∧ (rng (l4) ∧ (rng (l5) ∧ (wX11_begin (l1) (l2) (l3) (l4) (l5) S (fun r9 S10 => K (1) S10)))))))) ∧ ((¬ (¬ S.1 54 32 = S.1 54 19)) → K (0) S))))
set_option maxRecDepth 100000 in
set_option maxHeartbeats 4000000 in
theorem bX11_child_28 {G : xG} {sh : Nat → Option Sh} {J : St → List va_E → Prop} {d : Nat} {Post : xP} {l1 l2 l3 l4 l5 : Int} {S : St} {cs : List va_E} {K : Int → St → Prop} (hd : 6 ≤ d) (hJ : Stb sh J) (hT : isM sh) (hW : Wd G sh mT J S cs) (hP : ∀ (v : Int) (S : St) (cs : List va_E), K v S → Wd G sh mT J S cs → Post (some (.int (Int32.ofInt v))) cs)  (hw : wX11_child_28 l1 l2 l3 l4 l5 S K ) : Z (RX11, cX11_child, 6, some .boolean, false) G d Post 28 [(0, .ref (G.1 + 54)), (1, .int (Int32.ofInt (l1))), (2, .int (Int32.ofInt (l2))), (3, .int (Int32.ofInt (l3))), (4, .int (Int32.ofInt (l4))), (5, .int (Int32.ofInt (l5)))] [] cs := by
  unfold wX11_child_28 at hw
  refine z_aload_n dX11_child_28 rfl rfl ?_
  have q1 : iv 0 20 (S.1 54 32) := mI32 hW
  have hw := hw q1
  refine g_getI hW hT.1 mr32 kX11 fX11_316 dX11_child_29 ?_
  refine z_aload_n dX11_child_32 rfl rfl ?_
  have q2 : iv 1 20 (S.1 54 19) := mI19 hW
  have hw := hw q2
  refine g_getI hW hT.1 mr19 kX11 fX11_59 dX11_child_33 ?_
  refine i_icmp_ne (tgt := 41) dX11_child_36 (by decide) (rngq q1 (by decide) (by decide)) (rngq q2 (by decide) (by decide)) (fun h3 => ?_) (fun h3 => ?_)
  · have hw := hw.1 h3
    refine z_aload_n dX11_child_41 rfl rfl ?_
    refine z_iload_n dX11_child_42 rfl rfl ?_
    refine z_iload_n dX11_child_43 rfl rfl ?_
    refine z_iload_n dX11_child_44 rfl rfl ?_
    refine z_iload dX11_child_45 rfl ?_
    refine z_iload dX11_child_47 rfl ?_
    obtain ⟨q4, hw⟩ := hw
    obtain ⟨q5, hw⟩ := hw
    obtain ⟨q6, hw⟩ := hw
    obtain ⟨q7, hw⟩ := hw
    obtain ⟨q8, hw⟩ := hw
    have hX := lX11_begin 4 (Nat.le_refl _) hJ hT hW q4 q5 q6 q7 q8 hw
    refine z_callV (As := [_, _, _, _, _]) eX11_begin sX11_begin lX11_322 rfl dX11_child_49 (hW.1 _ _ hT.1) hX (Nat.le_trans (by decide) hd) rfl (Nat.le_of_ble_eq_true rfl) (fun r cs hp => ?_)
    obtain ⟨r9, S10, rfl, hw, hW⟩ := hp
    refine z_st (st' := []) rfl ?_
    refine z_iconst (v := Int32.ofInt 1) dX11_child_52 rfl ?_
    exact z_ireturn dX11_child_53 rfl (nar01 (by decide)) (hP _ _ _ hw hW)
  · have hw := hw.2 h3
    refine z_iconst (v := Int32.ofInt 0) dX11_child_39 rfl ?_
    exact z_ireturn dX11_child_40 rfl (nar01 (by decide)) (hP _ _ _ hw hW)
def wX11_child (a1 a2 a3 a4 a5 : Int) (S : St) (K : Int → St → Prop) : Prop := rng a1 → rng a2 → rng a3 → rng a4 → rng a5 → ((a5 = 3 → wX11_child_28 (a1) (a2) (a3) (a4) (a5) S K) ∧ ((¬ (a5 = 3)) → ((0 : Int) ≤ a1 ∧ a1 < (30 : Int) ∧ (iv (-2) 899 (S.2 75 (a1)) → ((S.2 75 (a1) = (-2) → wX11_child_28 (a1) (a2) (a3) (a4) (a5) S K) ∧ ((¬ (S.2 75 (a1) = (-2))) → (wX11_refer (a1) (a2) (a3) (a5) S (fun r5 S6 => K (1) S6))))))))
set_option maxRecDepth 100000 in
set_option maxHeartbeats 4000000 in
theorem lX11_child {G : xG} {sh : Nat → Option Sh} {J : St → List va_E → Prop} {a1 a2 a3 a4 a5 : Int} {S : St} {cs : List va_E} {K : Int → St → Prop} (d : Nat) (hd : 6 ≤ d) (hJ : Stb sh J) (hT : isM sh) (hW : Wd G sh mT J S cs) (g1 : rng a1) (g2 : rng a2) (g3 : rng a3) (g4 : rng a4) (g5 : rng a5) (hw : wX11_child a1 a2 a3 a4 a5 S K) : X G yX11_child cX11_child 6 (some .boolean) d [.ref (G.1 + 54), .int (Int32.ofInt a1), .int (Int32.ofInt a2), .int (Int32.ofInt a3), .int (Int32.ofInt a4), .int (Int32.ofInt a5)] cs (qI G sh mT J K) := by
  refine X.of false (by decide +kernel) (by decide) (Nat.le_of_ble_eq_true rfl) ?_
  show Z (RX11, cX11_child, 6, some .boolean, false) G d _ 0 [(0, .ref (G.1 + 54)), (1, .int (Int32.ofInt a1)), (2, .int (Int32.ofInt a2)), (3, .int (Int32.ofInt a3)), (4, .int (Int32.ofInt a4)), (5, .int (Int32.ofInt a5))] [] cs
  have hP : ∀ (v : Int) (S : St) (cs : List va_E), K v S → Wd G sh mT J S cs → qI G sh mT J K (some (.int (Int32.ofInt v))) cs := fun v S cs a b => ⟨v, S, rfl, a, b⟩
  unfold wX11_child at hw
  have hw := hw g1 g2 g3 g4 g5
  refine z_iload dX11_child_0 rfl ?_
  refine z_iconst (v := Int32.ofInt 3) dX11_child_2 rfl ?_
  refine i_icmp_eq (tgt := 28) dX11_child_3 (by decide) g5 ⟨by decide, by decide⟩ (fun h1 => ?_) (fun h1 => ?_)
  · have hw := hw.1 h1
    refine z_loc (L' := [(0, .ref (G.1 + 54)), (1, .int (Int32.ofInt (a1))), (2, .int (Int32.ofInt (a2))), (3, .int (Int32.ofInt (a3))), (4, .int (Int32.ofInt (a4))), (5, .int (Int32.ofInt (a5)))]) (List.forall_mem_cons.mpr ⟨rfl, (List.forall_mem_cons.mpr ⟨rfl, (List.forall_mem_cons.mpr ⟨rfl, (List.forall_mem_cons.mpr ⟨rfl, (List.forall_mem_cons.mpr ⟨rfl, (List.forall_mem_cons.mpr ⟨rfl, (fun _ h => nomatch h)⟩)⟩)⟩)⟩)⟩)⟩) ?_
    exact bX11_child_28 hd hJ hT hW hP  hw
  · have hw := hw.2 h1
    refine z_aload_n dX11_child_6 rfl rfl ?_
    refine g_getR hW hT.1 mr29 kX11 fX11_75 dX11_child_7 ?_
    refine z_iload_n dX11_child_10 rfl rfl ?_
    obtain ⟨q2a, q2b, hw⟩ := hw
    have q3 : iv (-2) 899 (S.2 75 (a1)) := mA75 hW _
    have hw := hw q3
    refine g_iald hW (ma75 hT) q2a q2b (by decide) dX11_child_11 ?_
    refine z_bipush (v := Int32.ofInt (-2)) dX11_child_12 (by decide) ?_
    refine i_icmp_eq (tgt := 28) dX11_child_14 (by decide) (rngq q3 (by decide) (by decide)) ⟨by decide, by decide⟩ (fun h4 => ?_) (fun h4 => ?_)
    · have hw := hw.1 h4
      refine z_loc (L' := [(0, .ref (G.1 + 54)), (1, .int (Int32.ofInt (a1))), (2, .int (Int32.ofInt (a2))), (3, .int (Int32.ofInt (a3))), (4, .int (Int32.ofInt (a4))), (5, .int (Int32.ofInt (a5)))]) (List.forall_mem_cons.mpr ⟨rfl, (List.forall_mem_cons.mpr ⟨rfl, (List.forall_mem_cons.mpr ⟨rfl, (List.forall_mem_cons.mpr ⟨rfl, (List.forall_mem_cons.mpr ⟨rfl, (List.forall_mem_cons.mpr ⟨rfl, (fun _ h => nomatch h)⟩)⟩)⟩)⟩)⟩)⟩) ?_
      exact bX11_child_28 hd hJ hT hW hP  hw
    · have hw := hw.2 h4
      refine z_aload_n dX11_child_17 rfl rfl ?_
      refine z_iload_n dX11_child_18 rfl rfl ?_
      refine z_iload_n dX11_child_19 rfl rfl ?_
      refine z_iload_n dX11_child_20 rfl rfl ?_
      refine z_iload dX11_child_21 rfl ?_
      have hX := lX11_refer 5 (Nat.le_refl _) hJ hT hW g1 g2 g3 g5 hw
      refine z_callV (As := [_, _, _, _]) eX11_refer sX11_refer lX11_319 rfl dX11_child_23 (hW.1 _ _ hT.1) hX (Nat.le_trans (by decide) hd) rfl (Nat.le_of_ble_eq_true rfl) (fun r cs hp => ?_)
      obtain ⟨r5, S6, rfl, hw, hW⟩ := hp
      refine z_st (st' := []) rfl ?_
      refine z_iconst (v := Int32.ofInt 1) dX11_child_26 rfl ?_
      exact z_ireturn dX11_child_27 rfl (nar01 (by decide)) (hP _ _ _ hw hW)

def wX11_childAt_123 (l1 l2 l3 l4 l6 s0 : Int) (S : St) (K : Int → St → Prop) (B7 : Int → Int → Int → Int → Int → Int → St → Prop) : Prop := B7 (l1) (l2) (l3) (l4) (s0) ((l6 + 1)) S
set_option maxRecDepth 100000 in
set_option maxHeartbeats 4000000 in
theorem bX11_childAt_123 {G : xG} {sh : Nat → Option Sh} {J : St → List va_E → Prop} {d : Nat} {Post : xP} {l1 l2 l3 l4 l6 s0 : Int} {S : St} {cs : List va_E} {K : Int → St → Prop} {B7 : Int → Int → Int → Int → Int → Int → St → Prop} (hd : 0 ≤ d) (hJ : Stb sh J) (hT : isM sh) (hW : Wd G sh mT J S cs) (hP : ∀ (v : Int) (S : St) (cs : List va_E), K v S → Wd G sh mT J S cs → Post (some (.int (Int32.ofInt v))) cs) (hB7 : ∀ (l1 : Int) (l2 : Int) (l3 : Int) (l4 : Int) (l5 : Int) (l6 : Int) (S : St) (cs : List va_E), B7 l1 l2 l3 l4 l5 l6 S → Wd G sh mT J S cs → Z (RX11, cX11_childAt, 9, some .int, false) G d Post 7 [(0, .ref (G.1 + 54)), (1, .int (Int32.ofInt (l1))), (2, .int (Int32.ofInt (l2))), (3, .int (Int32.ofInt (l3))), (4, .int (Int32.ofInt (l4))), (5, .int (Int32.ofInt (l5))), (6, .int (Int32.ofInt (l6)))] [] cs) (hw : wX11_childAt_123 l1 l2 l3 l4 l6 s0 S K B7) : Z (RX11, cX11_childAt, 9, some .int, false) G d Post 123 [(0, .ref (G.1 + 54)), (1, .int (Int32.ofInt (l1))), (2, .int (Int32.ofInt (l2))), (3, .int (Int32.ofInt (l3))), (4, .int (Int32.ofInt (l4))), (6, .int (Int32.ofInt (l6)))] [.int (Int32.ofInt (s0))] cs := by
  unfold wX11_childAt_123 at hw
  refine z_istore dX11_childAt_123 (by decide) ?_
  refine z_loc (L' := [(0, .ref (G.1 + 54)), (1, .int (Int32.ofInt (l1))), (2, .int (Int32.ofInt (l2))), (3, .int (Int32.ofInt (l3))), (4, .int (Int32.ofInt (l4))), (5, .int (Int32.ofInt (s0))), (6, .int (Int32.ofInt (l6)))]) (List.forall_mem_cons.mpr ⟨rfl, (List.forall_mem_cons.mpr ⟨rfl, (List.forall_mem_cons.mpr ⟨rfl, (List.forall_mem_cons.mpr ⟨rfl, (List.forall_mem_cons.mpr ⟨rfl, (List.forall_mem_cons.mpr ⟨rfl, (List.forall_mem_cons.mpr ⟨rfl, (fun _ h => nomatch h)⟩)⟩)⟩)⟩)⟩)⟩)⟩) ?_
  refine i_iinc (l := l6) dX11_childAt_125 rfl (by decide) ?_
  refine z_loc (L' := [(0, .ref (G.1 + 54)), (1, .int (Int32.ofInt (l1))), (2, .int (Int32.ofInt (l2))), (3, .int (Int32.ofInt (l3))), (4, .int (Int32.ofInt (l4))), (5, .int (Int32.ofInt (s0))), (6, .int (Int32.ofInt ((l6 + 1))))]) (List.forall_mem_cons.mpr ⟨rfl, (List.forall_mem_cons.mpr ⟨rfl, (List.forall_mem_cons.mpr ⟨rfl, (List.forall_mem_cons.mpr ⟨rfl, (List.forall_mem_cons.mpr ⟨rfl, (List.forall_mem_cons.mpr ⟨rfl, (List.forall_mem_cons.mpr ⟨rfl, (fun _ h => nomatch h)⟩)⟩)⟩)⟩)⟩)⟩)⟩) ?_
  refine z_goto (tgt := 7) dX11_childAt_128 (by decide) ?_
  refine z_loc (L' := [(0, .ref (G.1 + 54)), (1, .int (Int32.ofInt (l1))), (2, .int (Int32.ofInt (l2))), (3, .int (Int32.ofInt (l3))), (4, .int (Int32.ofInt (l4))), (5, .int (Int32.ofInt (s0))), (6, .int (Int32.ofInt ((l6 + 1))))]) (List.forall_mem_cons.mpr ⟨rfl, (List.forall_mem_cons.mpr ⟨rfl, (List.forall_mem_cons.mpr ⟨rfl, (List.forall_mem_cons.mpr ⟨rfl, (List.forall_mem_cons.mpr ⟨rfl, (List.forall_mem_cons.mpr ⟨rfl, (List.forall_mem_cons.mpr ⟨rfl, (fun _ h => nomatch h)⟩)⟩)⟩)⟩)⟩)⟩)⟩) ?_
  exact hB7 _ _ _ _ _ _ _ _ hw hW
def wX11_childAt_111 (l1 l2 l3 l4 l5 l6 l7 : Int) (S : St) (K : Int → St → Prop) (B7 : Int → Int → Int → Int → Int → Int → St → Prop) : Prop := (rng (l7) ∧ ((l7 = 0 → wX11_childAt_123 (l1) (l2) (l3) (l4) (l6) (l5) S K B7) ∧ ((¬ (l7 = 0)) → wX11_childAt_123 (l1) (l2) (l3) (l4) (l6) (l6) S K B7)))
set_option maxRecDepth 100000 in
set_option maxHeartbeats 4000000 in
theorem bX11_childAt_111 {G : xG} {sh : Nat → Option Sh} {J : St → List va_E → Prop} {d : Nat} {Post : xP} {l1 l2 l3 l4 l5 l6 l7 : Int} {S : St} {cs : List va_E} {K : Int → St → Prop} {B7 : Int → Int → Int → Int → Int → Int → St → Prop} (hd : 0 ≤ d) (hJ : Stb sh J) (hT : isM sh) (hW : Wd G sh mT J S cs) (hP : ∀ (v : Int) (S : St) (cs : List va_E), K v S → Wd G sh mT J S cs → Post (some (.int (Int32.ofInt v))) cs) (hB7 : ∀ (l1 : Int) (l2 : Int) (l3 : Int) (l4 : Int) (l5 : Int) (l6 : Int) (S : St) (cs : List va_E), B7 l1 l2 l3 l4 l5 l6 S → Wd G sh mT J S cs → Z (RX11, cX11_childAt, 9, some .int, false) G d Post 7 [(0, .ref (G.1 + 54)), (1, .int (Int32.ofInt (l1))), (2, .int (Int32.ofInt (l2))), (3, .int (Int32.ofInt (l3))), (4, .int (Int32.ofInt (l4))), (5, .int (Int32.ofInt (l5))), (6, .int (Int32.ofInt (l6)))] [] cs) (hw : wX11_childAt_111 l1 l2 l3 l4 l5 l6 l7 S K B7) : Z (RX11, cX11_childAt, 9, some .int, false) G d Post 111 [(0, .ref (G.1 + 54)), (1, .int (Int32.ofInt (l1))), (2, .int (Int32.ofInt (l2))), (3, .int (Int32.ofInt (l3))), (4, .int (Int32.ofInt (l4))), (5, .int (Int32.ofInt (l5))), (6, .int (Int32.ofInt (l6))), (7, .int (Int32.ofInt (l7)))] [] cs := by
  unfold wX11_childAt_111 at hw
  refine z_iload dX11_childAt_111 rfl ?_
  obtain ⟨q2, hw⟩ := hw
  refine i_if_eq (tgt := 121) dX11_childAt_113 (by decide) q2 (fun h1 => ?_) (fun h1 => ?_)
  · have hw := hw.1 h1
    refine z_iload dX11_childAt_121 rfl ?_
    refine z_loc (L' := [(0, .ref (G.1 + 54)), (1, .int (Int32.ofInt (l1))), (2, .int (Int32.ofInt (l2))), (3, .int (Int32.ofInt (l3))), (4, .int (Int32.ofInt (l4))), (6, .int (Int32.ofInt (l6)))]) (List.forall_mem_cons.mpr ⟨rfl, (List.forall_mem_cons.mpr ⟨rfl, (List.forall_mem_cons.mpr ⟨rfl, (List.forall_mem_cons.mpr ⟨rfl, (List.forall_mem_cons.mpr ⟨rfl, (List.forall_mem_cons.mpr ⟨rfl, (fun _ h => nomatch h)⟩)⟩)⟩)⟩)⟩)⟩) ?_
    exact bX11_childAt_123 hd hJ hT hW hP hB7 hw
  · have hw := hw.2 h1
    refine z_iload dX11_childAt_116 rfl ?_
    refine z_goto (tgt := 123) dX11_childAt_118 (by decide) ?_
    refine z_loc (L' := [(0, .ref (G.1 + 54)), (1, .int (Int32.ofInt (l1))), (2, .int (Int32.ofInt (l2))), (3, .int (Int32.ofInt (l3))), (4, .int (Int32.ofInt (l4))), (6, .int (Int32.ofInt (l6)))]) (List.forall_mem_cons.mpr ⟨rfl, (List.forall_mem_cons.mpr ⟨rfl, (List.forall_mem_cons.mpr ⟨rfl, (List.forall_mem_cons.mpr ⟨rfl, (List.forall_mem_cons.mpr ⟨rfl, (List.forall_mem_cons.mpr ⟨rfl, (fun _ h => nomatch h)⟩)⟩)⟩)⟩)⟩)⟩) ?_
    exact bX11_childAt_123 hd hJ hT hW hP hB7 hw
def wX11_childAt_103 (l1 l2 l3 l4 l5 l6 l8 s0 : Int) (S : St) (K : Int → St → Prop) (B7 : Int → Int → Int → Int → Int → Int → St → Prop) (B60 : Int → Int → Int → Int → Int → Int → Int → Int → St → Prop) : Prop := B60 (l1) (l2) (l3) (l4) (l5) (l6) (s0) ((l8 + 1)) S
set_option maxRecDepth 100000 in
set_option maxHeartbeats 4000000 in
theorem bX11_childAt_103 {G : xG} {sh : Nat → Option Sh} {J : St → List va_E → Prop} {d : Nat} {Post : xP} {l1 l2 l3 l4 l5 l6 l8 s0 : Int} {S : St} {cs : List va_E} {K : Int → St → Prop} {B7 : Int → Int → Int → Int → Int → Int → St → Prop} {B60 : Int → Int → Int → Int → Int → Int → Int → Int → St → Prop} (hd : 0 ≤ d) (hJ : Stb sh J) (hT : isM sh) (hW : Wd G sh mT J S cs) (hP : ∀ (v : Int) (S : St) (cs : List va_E), K v S → Wd G sh mT J S cs → Post (some (.int (Int32.ofInt v))) cs) (hB7 : ∀ (l1 : Int) (l2 : Int) (l3 : Int) (l4 : Int) (l5 : Int) (l6 : Int) (S : St) (cs : List va_E), B7 l1 l2 l3 l4 l5 l6 S → Wd G sh mT J S cs → Z (RX11, cX11_childAt, 9, some .int, false) G d Post 7 [(0, .ref (G.1 + 54)), (1, .int (Int32.ofInt (l1))), (2, .int (Int32.ofInt (l2))), (3, .int (Int32.ofInt (l3))), (4, .int (Int32.ofInt (l4))), (5, .int (Int32.ofInt (l5))), (6, .int (Int32.ofInt (l6)))] [] cs) (hB60 : ∀ (l1 : Int) (l2 : Int) (l3 : Int) (l4 : Int) (l5 : Int) (l6 : Int) (l7 : Int) (l8 : Int) (S : St) (cs : List va_E), B60 l1 l2 l3 l4 l5 l6 l7 l8 S → Wd G sh mT J S cs → Z (RX11, cX11_childAt, 9, some .int, false) G d Post 60 [(0, .ref (G.1 + 54)), (1, .int (Int32.ofInt (l1))), (2, .int (Int32.ofInt (l2))), (3, .int (Int32.ofInt (l3))), (4, .int (Int32.ofInt (l4))), (5, .int (Int32.ofInt (l5))), (6, .int (Int32.ofInt (l6))), (7, .int (Int32.ofInt (l7))), (8, .int (Int32.ofInt (l8)))] [] cs) (hw : wX11_childAt_103 l1 l2 l3 l4 l5 l6 l8 s0 S K B7 B60) : Z (RX11, cX11_childAt, 9, some .int, false) G d Post 103 [(0, .ref (G.1 + 54)), (1, .int (Int32.ofInt (l1))), (2, .int (Int32.ofInt (l2))), (3, .int (Int32.ofInt (l3))), (4, .int (Int32.ofInt (l4))), (5, .int (Int32.ofInt (l5))), (6, .int (Int32.ofInt (l6))), (8, .int (Int32.ofInt (l8)))] [.int (Int32.ofInt (s0))] cs := by
  unfold wX11_childAt_103 at hw
  refine z_istore dX11_childAt_103 (by decide) ?_
  refine z_loc (L' := [(0, .ref (G.1 + 54)), (1, .int (Int32.ofInt (l1))), (2, .int (Int32.ofInt (l2))), (3, .int (Int32.ofInt (l3))), (4, .int (Int32.ofInt (l4))), (5, .int (Int32.ofInt (l5))), (6, .int (Int32.ofInt (l6))), (7, .int (Int32.ofInt (s0))), (8, .int (Int32.ofInt (l8)))]) (List.forall_mem_cons.mpr ⟨rfl, (List.forall_mem_cons.mpr ⟨rfl, (List.forall_mem_cons.mpr ⟨rfl, (List.forall_mem_cons.mpr ⟨rfl, (List.forall_mem_cons.mpr ⟨rfl, (List.forall_mem_cons.mpr ⟨rfl, (List.forall_mem_cons.mpr ⟨rfl, (List.forall_mem_cons.mpr ⟨rfl, (List.forall_mem_cons.mpr ⟨rfl, (fun _ h => nomatch h)⟩)⟩)⟩)⟩)⟩)⟩)⟩)⟩)⟩) ?_
  refine i_iinc (l := l8) dX11_childAt_105 rfl (by decide) ?_
  refine z_loc (L' := [(0, .ref (G.1 + 54)), (1, .int (Int32.ofInt (l1))), (2, .int (Int32.ofInt (l2))), (3, .int (Int32.ofInt (l3))), (4, .int (Int32.ofInt (l4))), (5, .int (Int32.ofInt (l5))), (6, .int (Int32.ofInt (l6))), (7, .int (Int32.ofInt (s0))), (8, .int (Int32.ofInt ((l8 + 1))))]) (List.forall_mem_cons.mpr ⟨rfl, (List.forall_mem_cons.mpr ⟨rfl, (List.forall_mem_cons.mpr ⟨rfl, (List.forall_mem_cons.mpr ⟨rfl, (List.forall_mem_cons.mpr ⟨rfl, (List.forall_mem_cons.mpr ⟨rfl, (List.forall_mem_cons.mpr ⟨rfl, (List.forall_mem_cons.mpr ⟨rfl, (List.forall_mem_cons.mpr ⟨rfl, (fun _ h => nomatch h)⟩)⟩)⟩)⟩)⟩)⟩)⟩)⟩)⟩) ?_
  refine z_goto (tgt := 60) dX11_childAt_108 (by decide) ?_
  refine z_loc (L' := [(0, .ref (G.1 + 54)), (1, .int (Int32.ofInt (l1))), (2, .int (Int32.ofInt (l2))), (3, .int (Int32.ofInt (l3))), (4, .int (Int32.ofInt (l4))), (5, .int (Int32.ofInt (l5))), (6, .int (Int32.ofInt (l6))), (7, .int (Int32.ofInt (s0))), (8, .int (Int32.ofInt ((l8 + 1))))]) (List.forall_mem_cons.mpr ⟨rfl, (List.forall_mem_cons.mpr ⟨rfl, (List.forall_mem_cons.mpr ⟨rfl, (List.forall_mem_cons.mpr ⟨rfl, (List.forall_mem_cons.mpr ⟨rfl, (List.forall_mem_cons.mpr ⟨rfl, (List.forall_mem_cons.mpr ⟨rfl, (List.forall_mem_cons.mpr ⟨rfl, (List.forall_mem_cons.mpr ⟨rfl, (fun _ h => nomatch h)⟩)⟩)⟩)⟩)⟩)⟩)⟩)⟩)⟩) ?_
  exact hB60 _ _ _ _ _ _ _ _ _ _ hw hW
def wX11_childAt_60' (l1 l2 l3 l4 l5 l6 l7 l8 : Int) (S : St) (K : Int → St → Prop) (B7 : Int → Int → Int → Int → Int → Int → St → Prop) (B60 : Int → Int → Int → Int → Int → Int → Int → Int → St → Prop) : Prop := (rng (l8) ∧ (rng (l3) ∧ ((l3 ≤ l8 → wX11_childAt_111 (l1) (l2) (l3) (l4) (l5) (l6) (l7) S K B7) ∧ ((¬ (l3 ≤ l8)) → (rng (l7) ∧ ((l7 = 0 → wX11_childAt_111 (l1) (l2) (l3) (l4) (l5) (l6) (l7) S K B7) ∧ ((¬ (l7 = 0)) → ((0 : Int) ≤ l6 ∧ l6 < (200 : Int) ∧ (iv 0 3000 (S.2 86 (l6)) → ((0 : Int) ≤ (S.2 86 (l6) + l8) ∧ (S.2 86 (l6) + l8) < (3000 : Int) ∧ (iv (-2147483648) 2147483647 (S.2 84 ((S.2 86 (l6) + l8))) → ((0 : Int) ≤ (l2 + l8) ∧ (l2 + l8) < (3000 : Int) ∧ (iv (-2147483648) 2147483647 (S.2 104 ((l2 + l8))) → ((¬ S.2 84 ((S.2 86 (l6) + l8)) = S.2 104 ((l2 + l8)) → wX11_childAt_103 (l1) (l2) (l3) (l4) (l5) (l6) (l8) (0) S K B7 B60) ∧ ((¬ (¬ S.2 84 ((S.2 86 (l6) + l8)) = S.2 104 ((l2 + l8)))) → wX11_childAt_103 (l1) (l2) (l3) (l4) (l5) (l6) (l8) (1) S K B7 B60)))))))))))))))
set_option maxRecDepth 100000 in
set_option maxHeartbeats 4000000 in
theorem bX11_childAt_60' {G : xG} {sh : Nat → Option Sh} {J : St → List va_E → Prop} {d : Nat} {Post : xP} {l1 l2 l3 l4 l5 l6 l7 l8 : Int} {S : St} {cs : List va_E} {K : Int → St → Prop} {B7 : Int → Int → Int → Int → Int → Int → St → Prop} {B60 : Int → Int → Int → Int → Int → Int → Int → Int → St → Prop} (hd : 0 ≤ d) (hJ : Stb sh J) (hT : isM sh) (hW : Wd G sh mT J S cs) (hP : ∀ (v : Int) (S : St) (cs : List va_E), K v S → Wd G sh mT J S cs → Post (some (.int (Int32.ofInt v))) cs) (hB7 : ∀ (l1 : Int) (l2 : Int) (l3 : Int) (l4 : Int) (l5 : Int) (l6 : Int) (S : St) (cs : List va_E), B7 l1 l2 l3 l4 l5 l6 S → Wd G sh mT J S cs → Z (RX11, cX11_childAt, 9, some .int, false) G d Post 7 [(0, .ref (G.1 + 54)), (1, .int (Int32.ofInt (l1))), (2, .int (Int32.ofInt (l2))), (3, .int (Int32.ofInt (l3))), (4, .int (Int32.ofInt (l4))), (5, .int (Int32.ofInt (l5))), (6, .int (Int32.ofInt (l6)))] [] cs) (hB60 : ∀ (l1 : Int) (l2 : Int) (l3 : Int) (l4 : Int) (l5 : Int) (l6 : Int) (l7 : Int) (l8 : Int) (S : St) (cs : List va_E), B60 l1 l2 l3 l4 l5 l6 l7 l8 S → Wd G sh mT J S cs → Z (RX11, cX11_childAt, 9, some .int, false) G d Post 60 [(0, .ref (G.1 + 54)), (1, .int (Int32.ofInt (l1))), (2, .int (Int32.ofInt (l2))), (3, .int (Int32.ofInt (l3))), (4, .int (Int32.ofInt (l4))), (5, .int (Int32.ofInt (l5))), (6, .int (Int32.ofInt (l6))), (7, .int (Int32.ofInt (l7))), (8, .int (Int32.ofInt (l8)))] [] cs) (hw : wX11_childAt_60' l1 l2 l3 l4 l5 l6 l7 l8 S K B7 B60) : Z (RX11, cX11_childAt, 9, some .int, false) G d Post 60 [(0, .ref (G.1 + 54)), (1, .int (Int32.ofInt (l1))), (2, .int (Int32.ofInt (l2))), (3, .int (Int32.ofInt (l3))), (4, .int (Int32.ofInt (l4))), (5, .int (Int32.ofInt (l5))), (6, .int (Int32.ofInt (l6))), (7, .int (Int32.ofInt (l7))), (8, .int (Int32.ofInt (l8)))] [] cs := by
  unfold wX11_childAt_60' at hw
  refine z_iload dX11_childAt_60 rfl ?_
  refine z_iload_n dX11_childAt_62 rfl rfl ?_
  obtain ⟨q2, hw⟩ := hw
  obtain ⟨q3, hw⟩ := hw
  refine i_icmp_ge (tgt := 111) dX11_childAt_63 (by decide) q2 q3 (fun h1 => ?_) (fun h1 => ?_)
  · have hw := hw.1 h1
    refine z_loc (L' := [(0, .ref (G.1 + 54)), (1, .int (Int32.ofInt (l1))), (2, .int (Int32.ofInt (l2))), (3, .int (Int32.ofInt (l3))), (4, .int (Int32.ofInt (l4))), (5, .int (Int32.ofInt (l5))), (6, .int (Int32.ofInt (l6))), (7, .int (Int32.ofInt (l7)))]) (List.forall_mem_cons.mpr ⟨rfl, (List.forall_mem_cons.mpr ⟨rfl, (List.forall_mem_cons.mpr ⟨rfl, (List.forall_mem_cons.mpr ⟨rfl, (List.forall_mem_cons.mpr ⟨rfl, (List.forall_mem_cons.mpr ⟨rfl, (List.forall_mem_cons.mpr ⟨rfl, (List.forall_mem_cons.mpr ⟨rfl, (fun _ h => nomatch h)⟩)⟩)⟩)⟩)⟩)⟩)⟩)⟩) ?_
    exact bX11_childAt_111 hd hJ hT hW hP hB7 hw
  · have hw := hw.2 h1
    refine z_iload dX11_childAt_66 rfl ?_
    obtain ⟨q5, hw⟩ := hw
    refine i_if_eq (tgt := 111) dX11_childAt_68 (by decide) q5 (fun h4 => ?_) (fun h4 => ?_)
    · have hw := hw.1 h4
      refine z_loc (L' := [(0, .ref (G.1 + 54)), (1, .int (Int32.ofInt (l1))), (2, .int (Int32.ofInt (l2))), (3, .int (Int32.ofInt (l3))), (4, .int (Int32.ofInt (l4))), (5, .int (Int32.ofInt (l5))), (6, .int (Int32.ofInt (l6))), (7, .int (Int32.ofInt (l7)))]) (List.forall_mem_cons.mpr ⟨rfl, (List.forall_mem_cons.mpr ⟨rfl, (List.forall_mem_cons.mpr ⟨rfl, (List.forall_mem_cons.mpr ⟨rfl, (List.forall_mem_cons.mpr ⟨rfl, (List.forall_mem_cons.mpr ⟨rfl, (List.forall_mem_cons.mpr ⟨rfl, (List.forall_mem_cons.mpr ⟨rfl, (fun _ h => nomatch h)⟩)⟩)⟩)⟩)⟩)⟩)⟩)⟩) ?_
      exact bX11_childAt_111 hd hJ hT hW hP hB7 hw
    · have hw := hw.2 h4
      refine z_aload_n dX11_childAt_71 rfl rfl ?_
      refine g_getR hW hT.1 mr42 kX11 fX11_102 dX11_childAt_72 ?_
      refine z_aload_n dX11_childAt_75 rfl rfl ?_
      refine g_getR hW hT.1 mr45 kX11 fX11_108 dX11_childAt_76 ?_
      refine z_iload dX11_childAt_79 rfl ?_
      obtain ⟨q6a, q6b, hw⟩ := hw
      have q7 : iv 0 3000 (S.2 86 (l6)) := mA86 hW _
      have hw := hw q7
      refine g_iald hW (ma86 hT) q6a q6b (by decide) dX11_childAt_81 ?_
      refine z_iload dX11_childAt_82 rfl ?_
      refine i_iadd dX11_childAt_84 ?_
      obtain ⟨q8a, q8b, hw⟩ := hw
      have q9 : iv (-2147483648) 2147483647 (S.2 84 ((S.2 86 (l6) + l8))) := mA84 hW _
      have hw := hw q9
      refine g_iald hW (ma84 hT) q8a q8b (by decide) dX11_childAt_85 ?_
      refine z_aload_n dX11_childAt_86 rfl rfl ?_
      refine g_getR hW hT.1 mr68 kX11 fX11_162 dX11_childAt_87 ?_
      refine z_iload_n dX11_childAt_90 rfl rfl ?_
      refine z_iload dX11_childAt_91 rfl ?_
      refine i_iadd dX11_childAt_93 ?_
      obtain ⟨q10a, q10b, hw⟩ := hw
      have q11 : iv (-2147483648) 2147483647 (S.2 104 ((l2 + l8))) := mA104 hW _
      have hw := hw q11
      refine g_iald hW (ma104 hT) q10a q10b (by decide) dX11_childAt_94 ?_
      refine i_icmp_ne (tgt := 102) dX11_childAt_95 (by decide) (rngq q9 (by decide) (by decide)) (rngq q11 (by decide) (by decide)) (fun h12 => ?_) (fun h12 => ?_)
      · have hw := hw.1 h12
        refine z_iconst (v := Int32.ofInt 0) dX11_childAt_102 rfl ?_
        refine z_loc (L' := [(0, .ref (G.1 + 54)), (1, .int (Int32.ofInt (l1))), (2, .int (Int32.ofInt (l2))), (3, .int (Int32.ofInt (l3))), (4, .int (Int32.ofInt (l4))), (5, .int (Int32.ofInt (l5))), (6, .int (Int32.ofInt (l6))), (8, .int (Int32.ofInt (l8)))]) (List.forall_mem_cons.mpr ⟨rfl, (List.forall_mem_cons.mpr ⟨rfl, (List.forall_mem_cons.mpr ⟨rfl, (List.forall_mem_cons.mpr ⟨rfl, (List.forall_mem_cons.mpr ⟨rfl, (List.forall_mem_cons.mpr ⟨rfl, (List.forall_mem_cons.mpr ⟨rfl, (List.forall_mem_cons.mpr ⟨rfl, (fun _ h => nomatch h)⟩)⟩)⟩)⟩)⟩)⟩)⟩)⟩) ?_
        exact bX11_childAt_103 hd hJ hT hW hP hB7 hB60 hw
      · have hw := hw.2 h12
        refine z_iconst (v := Int32.ofInt 1) dX11_childAt_98 rfl ?_
        refine z_goto (tgt := 103) dX11_childAt_99 (by decide) ?_
        refine z_loc (L' := [(0, .ref (G.1 + 54)), (1, .int (Int32.ofInt (l1))), (2, .int (Int32.ofInt (l2))), (3, .int (Int32.ofInt (l3))), (4, .int (Int32.ofInt (l4))), (5, .int (Int32.ofInt (l5))), (6, .int (Int32.ofInt (l6))), (8, .int (Int32.ofInt (l8)))]) (List.forall_mem_cons.mpr ⟨rfl, (List.forall_mem_cons.mpr ⟨rfl, (List.forall_mem_cons.mpr ⟨rfl, (List.forall_mem_cons.mpr ⟨rfl, (List.forall_mem_cons.mpr ⟨rfl, (List.forall_mem_cons.mpr ⟨rfl, (List.forall_mem_cons.mpr ⟨rfl, (List.forall_mem_cons.mpr ⟨rfl, (fun _ h => nomatch h)⟩)⟩)⟩)⟩)⟩)⟩)⟩)⟩) ?_
        exact bX11_childAt_103 hd hJ hT hW hP hB7 hB60 hw
def wX11_childAt_60 (l1 l2 l3 l4 l5 l6 l7 l8 : Int) (S : St) (K : Int → St → Prop) (B7 : Int → Int → Int → Int → Int → Int → St → Prop) : Prop := ∃ (Iv : Int → Int → Int → Int → Int → Int → Int → Int → St → Prop) (mu : Int → Int → Int → Int → Int → Int → Int → Int → St → Nat), Iv l1 l2 l3 l4 l5 l6 l7 l8 S ∧ ∀ (l1 l2 l3 l4 l5 l6 l7 l8 : Int) (S : St), Iv l1 l2 l3 l4 l5 l6 l7 l8 S → wX11_childAt_60' l1 l2 l3 l4 l5 l6 l7 l8 S K B7 (fun ml1 ml2 ml3 ml4 ml5 ml6 ml7 ml8 T => Iv ml1 ml2 ml3 ml4 ml5 ml6 ml7 ml8 T ∧ mu ml1 ml2 ml3 ml4 ml5 ml6 ml7 ml8 T < mu l1 l2 l3 l4 l5 l6 l7 l8 S)
set_option maxRecDepth 100000 in
set_option maxHeartbeats 4000000 in
theorem bX11_childAt_60 {G : xG} {sh : Nat → Option Sh} {J : St → List va_E → Prop} {d : Nat} {Post : xP} {l1 l2 l3 l4 l5 l6 l7 l8 : Int} {S : St} {cs : List va_E} {K : Int → St → Prop} {B7 : Int → Int → Int → Int → Int → Int → St → Prop} (hd : 0 ≤ d) (hJ : Stb sh J) (hT : isM sh) (hW : Wd G sh mT J S cs) (hP : ∀ (v : Int) (S : St) (cs : List va_E), K v S → Wd G sh mT J S cs → Post (some (.int (Int32.ofInt v))) cs) (hB7 : ∀ (l1 : Int) (l2 : Int) (l3 : Int) (l4 : Int) (l5 : Int) (l6 : Int) (S : St) (cs : List va_E), B7 l1 l2 l3 l4 l5 l6 S → Wd G sh mT J S cs → Z (RX11, cX11_childAt, 9, some .int, false) G d Post 7 [(0, .ref (G.1 + 54)), (1, .int (Int32.ofInt (l1))), (2, .int (Int32.ofInt (l2))), (3, .int (Int32.ofInt (l3))), (4, .int (Int32.ofInt (l4))), (5, .int (Int32.ofInt (l5))), (6, .int (Int32.ofInt (l6)))] [] cs) (hw : wX11_childAt_60 l1 l2 l3 l4 l5 l6 l7 l8 S K B7) : Z (RX11, cX11_childAt, 9, some .int, false) G d Post 60 [(0, .ref (G.1 + 54)), (1, .int (Int32.ofInt (l1))), (2, .int (Int32.ofInt (l2))), (3, .int (Int32.ofInt (l3))), (4, .int (Int32.ofInt (l4))), (5, .int (Int32.ofInt (l5))), (6, .int (Int32.ofInt (l6))), (7, .int (Int32.ofInt (l7))), (8, .int (Int32.ofInt (l8)))] [] cs := by
  unfold wX11_childAt_60 at hw
  obtain ⟨Iv, mu, h0, hs⟩ := hw
  have key : ∀ (n : Nat) (l1 l2 l3 l4 l5 l6 l7 l8 : Int) (S : St) (cs : List va_E), mu l1 l2 l3 l4 l5 l6 l7 l8 S < n → Iv l1 l2 l3 l4 l5 l6 l7 l8 S → Wd G sh mT J S cs → Z (RX11, cX11_childAt, 9, some .int, false) G d Post 60 [(0, .ref (G.1 + 54)), (1, .int (Int32.ofInt (l1))), (2, .int (Int32.ofInt (l2))), (3, .int (Int32.ofInt (l3))), (4, .int (Int32.ofInt (l4))), (5, .int (Int32.ofInt (l5))), (6, .int (Int32.ofInt (l6))), (7, .int (Int32.ofInt (l7))), (8, .int (Int32.ofInt (l8)))] [] cs := by
    intro n
    induction n with
    | zero => intro l1 l2 l3 l4 l5 l6 l7 l8 S cs hn; exact absurd hn (Nat.not_lt_zero _)
    | succ n ih =>
      intro l1 l2 l3 l4 l5 l6 l7 l8 S cs hn hI hW
      exact bX11_childAt_60' hd hJ hT hW hP hB7 (fun l1 l2 l3 l4 l5 l6 l7 l8 S cs hb hW => ih l1 l2 l3 l4 l5 l6 l7 l8 S cs (Nat.lt_of_lt_of_le hb.2 (Nat.le_of_lt_succ hn)) hb.1 hW) (hs l1 l2 l3 l4 l5 l6 l7 l8 S hI)
  exact key _ _ _ _ _ _ _ _ _ _ _ (Nat.lt_succ_self _) h0 hW
def wX11_childAt_55 (l1 l2 l3 l4 l5 l6 s0 : Int) (S : St) (K : Int → St → Prop) (B7 : Int → Int → Int → Int → Int → Int → St → Prop) : Prop := wX11_childAt_60 (l1) (l2) (l3) (l4) (l5) (l6) (s0) (0) S K B7
set_option maxRecDepth 100000 in
set_option maxHeartbeats 4000000 in
theorem bX11_childAt_55 {G : xG} {sh : Nat → Option Sh} {J : St → List va_E → Prop} {d : Nat} {Post : xP} {l1 l2 l3 l4 l5 l6 s0 : Int} {S : St} {cs : List va_E} {K : Int → St → Prop} {B7 : Int → Int → Int → Int → Int → Int → St → Prop} (hd : 0 ≤ d) (hJ : Stb sh J) (hT : isM sh) (hW : Wd G sh mT J S cs) (hP : ∀ (v : Int) (S : St) (cs : List va_E), K v S → Wd G sh mT J S cs → Post (some (.int (Int32.ofInt v))) cs) (hB7 : ∀ (l1 : Int) (l2 : Int) (l3 : Int) (l4 : Int) (l5 : Int) (l6 : Int) (S : St) (cs : List va_E), B7 l1 l2 l3 l4 l5 l6 S → Wd G sh mT J S cs → Z (RX11, cX11_childAt, 9, some .int, false) G d Post 7 [(0, .ref (G.1 + 54)), (1, .int (Int32.ofInt (l1))), (2, .int (Int32.ofInt (l2))), (3, .int (Int32.ofInt (l3))), (4, .int (Int32.ofInt (l4))), (5, .int (Int32.ofInt (l5))), (6, .int (Int32.ofInt (l6)))] [] cs) (hw : wX11_childAt_55 l1 l2 l3 l4 l5 l6 s0 S K B7) : Z (RX11, cX11_childAt, 9, some .int, false) G d Post 55 [(0, .ref (G.1 + 54)), (1, .int (Int32.ofInt (l1))), (2, .int (Int32.ofInt (l2))), (3, .int (Int32.ofInt (l3))), (4, .int (Int32.ofInt (l4))), (5, .int (Int32.ofInt (l5))), (6, .int (Int32.ofInt (l6)))] [.int (Int32.ofInt (s0))] cs := by
  unfold wX11_childAt_55 at hw
  refine z_istore dX11_childAt_55 (by decide) ?_
  refine z_loc (L' := [(0, .ref (G.1 + 54)), (1, .int (Int32.ofInt (l1))), (2, .int (Int32.ofInt (l2))), (3, .int (Int32.ofInt (l3))), (4, .int (Int32.ofInt (l4))), (5, .int (Int32.ofInt (l5))), (6, .int (Int32.ofInt (l6))), (7, .int (Int32.ofInt (s0)))]) (List.forall_mem_cons.mpr ⟨rfl, (List.forall_mem_cons.mpr ⟨rfl, (List.forall_mem_cons.mpr ⟨rfl, (List.forall_mem_cons.mpr ⟨rfl, (List.forall_mem_cons.mpr ⟨rfl, (List.forall_mem_cons.mpr ⟨rfl, (List.forall_mem_cons.mpr ⟨rfl, (List.forall_mem_cons.mpr ⟨rfl, (fun _ h => nomatch h)⟩)⟩)⟩)⟩)⟩)⟩)⟩)⟩) ?_
  refine z_iconst (v := Int32.ofInt 0) dX11_childAt_57 rfl ?_
  refine z_istore dX11_childAt_58 (by decide) ?_
  refine z_loc (L' := [(0, .ref (G.1 + 54)), (1, .int (Int32.ofInt (l1))), (2, .int (Int32.ofInt (l2))), (3, .int (Int32.ofInt (l3))), (4, .int (Int32.ofInt (l4))), (5, .int (Int32.ofInt (l5))), (6, .int (Int32.ofInt (l6))), (7, .int (Int32.ofInt (s0))), (8, .int (Int32.ofInt (0)))]) (List.forall_mem_cons.mpr ⟨rfl, (List.forall_mem_cons.mpr ⟨rfl, (List.forall_mem_cons.mpr ⟨rfl, (List.forall_mem_cons.mpr ⟨rfl, (List.forall_mem_cons.mpr ⟨rfl, (List.forall_mem_cons.mpr ⟨rfl, (List.forall_mem_cons.mpr ⟨rfl, (List.forall_mem_cons.mpr ⟨rfl, (List.forall_mem_cons.mpr ⟨rfl, (fun _ h => nomatch h)⟩)⟩)⟩)⟩)⟩)⟩)⟩)⟩)⟩) ?_
  refine z_loc (L' := [(0, .ref (G.1 + 54)), (1, .int (Int32.ofInt (l1))), (2, .int (Int32.ofInt (l2))), (3, .int (Int32.ofInt (l3))), (4, .int (Int32.ofInt (l4))), (5, .int (Int32.ofInt (l5))), (6, .int (Int32.ofInt (l6))), (7, .int (Int32.ofInt (s0))), (8, .int (Int32.ofInt (0)))]) (List.forall_mem_cons.mpr ⟨rfl, (List.forall_mem_cons.mpr ⟨rfl, (List.forall_mem_cons.mpr ⟨rfl, (List.forall_mem_cons.mpr ⟨rfl, (List.forall_mem_cons.mpr ⟨rfl, (List.forall_mem_cons.mpr ⟨rfl, (List.forall_mem_cons.mpr ⟨rfl, (List.forall_mem_cons.mpr ⟨rfl, (List.forall_mem_cons.mpr ⟨rfl, (fun _ h => nomatch h)⟩)⟩)⟩)⟩)⟩)⟩)⟩)⟩)⟩) ?_
  exact bX11_childAt_60 hd hJ hT hW hP hB7 hw
def wX11_childAt_54 (l1 l2 l3 l4 l5 l6 : Int) (S : St) (K : Int → St → Prop) (B7 : Int → Int → Int → Int → Int → Int → St → Prop) : Prop := wX11_childAt_55 (l1) (l2) (l3) (l4) (l5) (l6) (0) S K B7
set_option maxRecDepth 100000 in
set_option maxHeartbeats 4000000 in
theorem bX11_childAt_54 {G : xG} {sh : Nat → Option Sh} {J : St → List va_E → Prop} {d : Nat} {Post : xP} {l1 l2 l3 l4 l5 l6 : Int} {S : St} {cs : List va_E} {K : Int → St → Prop} {B7 : Int → Int → Int → Int → Int → Int → St → Prop} (hd : 0 ≤ d) (hJ : Stb sh J) (hT : isM sh) (hW : Wd G sh mT J S cs) (hP : ∀ (v : Int) (S : St) (cs : List va_E), K v S → Wd G sh mT J S cs → Post (some (.int (Int32.ofInt v))) cs) (hB7 : ∀ (l1 : Int) (l2 : Int) (l3 : Int) (l4 : Int) (l5 : Int) (l6 : Int) (S : St) (cs : List va_E), B7 l1 l2 l3 l4 l5 l6 S → Wd G sh mT J S cs → Z (RX11, cX11_childAt, 9, some .int, false) G d Post 7 [(0, .ref (G.1 + 54)), (1, .int (Int32.ofInt (l1))), (2, .int (Int32.ofInt (l2))), (3, .int (Int32.ofInt (l3))), (4, .int (Int32.ofInt (l4))), (5, .int (Int32.ofInt (l5))), (6, .int (Int32.ofInt (l6)))] [] cs) (hw : wX11_childAt_54 l1 l2 l3 l4 l5 l6 S K B7) : Z (RX11, cX11_childAt, 9, some .int, false) G d Post 54 [(0, .ref (G.1 + 54)), (1, .int (Int32.ofInt (l1))), (2, .int (Int32.ofInt (l2))), (3, .int (Int32.ofInt (l3))), (4, .int (Int32.ofInt (l4))), (5, .int (Int32.ofInt (l5))), (6, .int (Int32.ofInt (l6)))] [] cs := by
  unfold wX11_childAt_54 at hw
  refine z_iconst (v := Int32.ofInt 0) dX11_childAt_54 rfl ?_
  refine z_loc (L' := [(0, .ref (G.1 + 54)), (1, .int (Int32.ofInt (l1))), (2, .int (Int32.ofInt (l2))), (3, .int (Int32.ofInt (l3))), (4, .int (Int32.ofInt (l4))), (5, .int (Int32.ofInt (l5))), (6, .int (Int32.ofInt (l6)))]) (List.forall_mem_cons.mpr ⟨rfl, (List.forall_mem_cons.mpr ⟨rfl, (List.forall_mem_cons.mpr ⟨rfl, (List.forall_mem_cons.mpr ⟨rfl, (List.forall_mem_cons.mpr ⟨rfl, (List.forall_mem_cons.mpr ⟨rfl, (List.forall_mem_cons.mpr ⟨rfl, (fun _ h => nomatch h)⟩)⟩)⟩)⟩)⟩)⟩)⟩) ?_
  exact bX11_childAt_55 hd hJ hT hW hP hB7 hw
def wX11_childAt_7' (l1 l2 l3 l4 l5 l6 : Int) (S : St) (K : Int → St → Prop) (B7 : Int → Int → Int → Int → Int → Int → St → Prop) : Prop := (iv 0 200 (S.1 54 43) → (rng (l6) ∧ ((S.1 54 43 ≤ l6 → K (l5) S) ∧ ((¬ (S.1 54 43 ≤ l6)) → ((0 : Int) ≤ l6 ∧ l6 < (200 : Int) ∧ (iv (-2) 199 (S.2 88 (l6)) → (rng (l1) ∧ ((¬ S.2 88 (l6) = l1 → wX11_childAt_54 (l1) (l2) (l3) (l4) (l5) (l6) S K B7) ∧ ((¬ (¬ S.2 88 (l6) = l1)) → ((0 : Int) ≤ l6 ∧ l6 < (200 : Int) ∧ (iv 0 201 (S.2 89 (l6)) → (rng (l4) ∧ ((¬ S.2 89 (l6) = l4 → wX11_childAt_54 (l1) (l2) (l3) (l4) (l5) (l6) S K B7) ∧ ((¬ (¬ S.2 89 (l6) = l4)) → ((0 : Int) ≤ l6 ∧ l6 < (200 : Int) ∧ (iv 0 3000 (S.2 87 (l6)) → (rng (l3) ∧ ((¬ S.2 87 (l6) = l3 → wX11_childAt_54 (l1) (l2) (l3) (l4) (l5) (l6) S K B7) ∧ ((¬ (¬ S.2 87 (l6) = l3)) → wX11_childAt_55 (l1) (l2) (l3) (l4) (l5) (l6) (1) S K B7)))))))))))))))))))
set_option maxRecDepth 100000 in
set_option maxHeartbeats 4000000 in
theorem bX11_childAt_7' {G : xG} {sh : Nat → Option Sh} {J : St → List va_E → Prop} {d : Nat} {Post : xP} {l1 l2 l3 l4 l5 l6 : Int} {S : St} {cs : List va_E} {K : Int → St → Prop} {B7 : Int → Int → Int → Int → Int → Int → St → Prop} (hd : 0 ≤ d) (hJ : Stb sh J) (hT : isM sh) (hW : Wd G sh mT J S cs) (hP : ∀ (v : Int) (S : St) (cs : List va_E), K v S → Wd G sh mT J S cs → Post (some (.int (Int32.ofInt v))) cs) (hB7 : ∀ (l1 : Int) (l2 : Int) (l3 : Int) (l4 : Int) (l5 : Int) (l6 : Int) (S : St) (cs : List va_E), B7 l1 l2 l3 l4 l5 l6 S → Wd G sh mT J S cs → Z (RX11, cX11_childAt, 9, some .int, false) G d Post 7 [(0, .ref (G.1 + 54)), (1, .int (Int32.ofInt (l1))), (2, .int (Int32.ofInt (l2))), (3, .int (Int32.ofInt (l3))), (4, .int (Int32.ofInt (l4))), (5, .int (Int32.ofInt (l5))), (6, .int (Int32.ofInt (l6)))] [] cs) (hw : wX11_childAt_7' l1 l2 l3 l4 l5 l6 S K B7) : Z (RX11, cX11_childAt, 9, some .int, false) G d Post 7 [(0, .ref (G.1 + 54)), (1, .int (Int32.ofInt (l1))), (2, .int (Int32.ofInt (l2))), (3, .int (Int32.ofInt (l3))), (4, .int (Int32.ofInt (l4))), (5, .int (Int32.ofInt (l5))), (6, .int (Int32.ofInt (l6)))] [] cs := by
  unfold wX11_childAt_7' at hw
  refine z_iload dX11_childAt_7 rfl ?_
  refine z_aload_n dX11_childAt_9 rfl rfl ?_
  have q1 : iv 0 200 (S.1 54 43) := mI43 hW
  have hw := hw q1
  refine g_getI hW hT.1 mr43 kX11 fX11_386 dX11_childAt_10 ?_
  obtain ⟨q3, hw⟩ := hw
  refine i_icmp_ge (tgt := 131) dX11_childAt_13 (by decide) q3 (rngq q1 (by decide) (by decide)) (fun h2 => ?_) (fun h2 => ?_)
  · have hw := hw.1 h2
    refine z_iload dX11_childAt_131 rfl ?_
    exact z_ireturn dX11_childAt_133 rfl rfl (hP _ _ _ hw hW)
  · have hw := hw.2 h2
    refine z_aload_n dX11_childAt_16 rfl rfl ?_
    refine g_getR hW hT.1 mr47 kX11 fX11_114 dX11_childAt_17 ?_
    refine z_iload dX11_childAt_20 rfl ?_
    obtain ⟨q4a, q4b, hw⟩ := hw
    have q5 : iv (-2) 199 (S.2 88 (l6)) := mA88 hW _
    have hw := hw q5
    refine g_iald hW (ma88 hT) q4a q4b (by decide) dX11_childAt_22 ?_
    refine z_iload_n dX11_childAt_23 rfl rfl ?_
    obtain ⟨q7, hw⟩ := hw
    refine i_icmp_ne (tgt := 54) dX11_childAt_24 (by decide) (rngq q5 (by decide) (by decide)) q7 (fun h6 => ?_) (fun h6 => ?_)
    · have hw := hw.1 h6
      refine z_loc (L' := [(0, .ref (G.1 + 54)), (1, .int (Int32.ofInt (l1))), (2, .int (Int32.ofInt (l2))), (3, .int (Int32.ofInt (l3))), (4, .int (Int32.ofInt (l4))), (5, .int (Int32.ofInt (l5))), (6, .int (Int32.ofInt (l6)))]) (List.forall_mem_cons.mpr ⟨rfl, (List.forall_mem_cons.mpr ⟨rfl, (List.forall_mem_cons.mpr ⟨rfl, (List.forall_mem_cons.mpr ⟨rfl, (List.forall_mem_cons.mpr ⟨rfl, (List.forall_mem_cons.mpr ⟨rfl, (List.forall_mem_cons.mpr ⟨rfl, (fun _ h => nomatch h)⟩)⟩)⟩)⟩)⟩)⟩)⟩) ?_
      exact bX11_childAt_54 hd hJ hT hW hP hB7 hw
    · have hw := hw.2 h6
      refine z_aload_n dX11_childAt_27 rfl rfl ?_
      refine g_getR hW hT.1 mr48 kX11 fX11_117 dX11_childAt_28 ?_
      refine z_iload dX11_childAt_31 rfl ?_
      obtain ⟨q8a, q8b, hw⟩ := hw
      have q9 : iv 0 201 (S.2 89 (l6)) := mA89 hW _
      have hw := hw q9
      refine g_iald hW (ma89 hT) q8a q8b (by decide) dX11_childAt_33 ?_
      refine z_iload dX11_childAt_34 rfl ?_
      obtain ⟨q11, hw⟩ := hw
      refine i_icmp_ne (tgt := 54) dX11_childAt_36 (by decide) (rngq q9 (by decide) (by decide)) q11 (fun h10 => ?_) (fun h10 => ?_)
      · have hw := hw.1 h10
        refine z_loc (L' := [(0, .ref (G.1 + 54)), (1, .int (Int32.ofInt (l1))), (2, .int (Int32.ofInt (l2))), (3, .int (Int32.ofInt (l3))), (4, .int (Int32.ofInt (l4))), (5, .int (Int32.ofInt (l5))), (6, .int (Int32.ofInt (l6)))]) (List.forall_mem_cons.mpr ⟨rfl, (List.forall_mem_cons.mpr ⟨rfl, (List.forall_mem_cons.mpr ⟨rfl, (List.forall_mem_cons.mpr ⟨rfl, (List.forall_mem_cons.mpr ⟨rfl, (List.forall_mem_cons.mpr ⟨rfl, (List.forall_mem_cons.mpr ⟨rfl, (fun _ h => nomatch h)⟩)⟩)⟩)⟩)⟩)⟩)⟩) ?_
        exact bX11_childAt_54 hd hJ hT hW hP hB7 hw
      · have hw := hw.2 h10
        refine z_aload_n dX11_childAt_39 rfl rfl ?_
        refine g_getR hW hT.1 mr46 kX11 fX11_111 dX11_childAt_40 ?_
        refine z_iload dX11_childAt_43 rfl ?_
        obtain ⟨q12a, q12b, hw⟩ := hw
        have q13 : iv 0 3000 (S.2 87 (l6)) := mA87 hW _
        have hw := hw q13
        refine g_iald hW (ma87 hT) q12a q12b (by decide) dX11_childAt_45 ?_
        refine z_iload_n dX11_childAt_46 rfl rfl ?_
        obtain ⟨q15, hw⟩ := hw
        refine i_icmp_ne (tgt := 54) dX11_childAt_47 (by decide) (rngq q13 (by decide) (by decide)) q15 (fun h14 => ?_) (fun h14 => ?_)
        · have hw := hw.1 h14
          refine z_loc (L' := [(0, .ref (G.1 + 54)), (1, .int (Int32.ofInt (l1))), (2, .int (Int32.ofInt (l2))), (3, .int (Int32.ofInt (l3))), (4, .int (Int32.ofInt (l4))), (5, .int (Int32.ofInt (l5))), (6, .int (Int32.ofInt (l6)))]) (List.forall_mem_cons.mpr ⟨rfl, (List.forall_mem_cons.mpr ⟨rfl, (List.forall_mem_cons.mpr ⟨rfl, (List.forall_mem_cons.mpr ⟨rfl, (List.forall_mem_cons.mpr ⟨rfl, (List.forall_mem_cons.mpr ⟨rfl, (List.forall_mem_cons.mpr ⟨rfl, (fun _ h => nomatch h)⟩)⟩)⟩)⟩)⟩)⟩)⟩) ?_
          exact bX11_childAt_54 hd hJ hT hW hP hB7 hw
        · have hw := hw.2 h14
          refine z_iconst (v := Int32.ofInt 1) dX11_childAt_50 rfl ?_
          refine z_goto (tgt := 55) dX11_childAt_51 (by decide) ?_
          refine z_loc (L' := [(0, .ref (G.1 + 54)), (1, .int (Int32.ofInt (l1))), (2, .int (Int32.ofInt (l2))), (3, .int (Int32.ofInt (l3))), (4, .int (Int32.ofInt (l4))), (5, .int (Int32.ofInt (l5))), (6, .int (Int32.ofInt (l6)))]) (List.forall_mem_cons.mpr ⟨rfl, (List.forall_mem_cons.mpr ⟨rfl, (List.forall_mem_cons.mpr ⟨rfl, (List.forall_mem_cons.mpr ⟨rfl, (List.forall_mem_cons.mpr ⟨rfl, (List.forall_mem_cons.mpr ⟨rfl, (List.forall_mem_cons.mpr ⟨rfl, (fun _ h => nomatch h)⟩)⟩)⟩)⟩)⟩)⟩)⟩) ?_
          exact bX11_childAt_55 hd hJ hT hW hP hB7 hw
def wX11_childAt_7 (l1 l2 l3 l4 l5 l6 : Int) (S : St) (K : Int → St → Prop) : Prop := ∃ (Iv : Int → Int → Int → Int → Int → Int → St → Prop) (mu : Int → Int → Int → Int → Int → Int → St → Nat), Iv l1 l2 l3 l4 l5 l6 S ∧ ∀ (l1 l2 l3 l4 l5 l6 : Int) (S : St), Iv l1 l2 l3 l4 l5 l6 S → wX11_childAt_7' l1 l2 l3 l4 l5 l6 S K  (fun ml1 ml2 ml3 ml4 ml5 ml6 T => Iv ml1 ml2 ml3 ml4 ml5 ml6 T ∧ mu ml1 ml2 ml3 ml4 ml5 ml6 T < mu l1 l2 l3 l4 l5 l6 S)
set_option maxRecDepth 100000 in
set_option maxHeartbeats 4000000 in
theorem bX11_childAt_7 {G : xG} {sh : Nat → Option Sh} {J : St → List va_E → Prop} {d : Nat} {Post : xP} {l1 l2 l3 l4 l5 l6 : Int} {S : St} {cs : List va_E} {K : Int → St → Prop} (hd : 0 ≤ d) (hJ : Stb sh J) (hT : isM sh) (hW : Wd G sh mT J S cs) (hP : ∀ (v : Int) (S : St) (cs : List va_E), K v S → Wd G sh mT J S cs → Post (some (.int (Int32.ofInt v))) cs)  (hw : wX11_childAt_7 l1 l2 l3 l4 l5 l6 S K ) : Z (RX11, cX11_childAt, 9, some .int, false) G d Post 7 [(0, .ref (G.1 + 54)), (1, .int (Int32.ofInt (l1))), (2, .int (Int32.ofInt (l2))), (3, .int (Int32.ofInt (l3))), (4, .int (Int32.ofInt (l4))), (5, .int (Int32.ofInt (l5))), (6, .int (Int32.ofInt (l6)))] [] cs := by
  unfold wX11_childAt_7 at hw
  obtain ⟨Iv, mu, h0, hs⟩ := hw
  have key : ∀ (n : Nat) (l1 l2 l3 l4 l5 l6 : Int) (S : St) (cs : List va_E), mu l1 l2 l3 l4 l5 l6 S < n → Iv l1 l2 l3 l4 l5 l6 S → Wd G sh mT J S cs → Z (RX11, cX11_childAt, 9, some .int, false) G d Post 7 [(0, .ref (G.1 + 54)), (1, .int (Int32.ofInt (l1))), (2, .int (Int32.ofInt (l2))), (3, .int (Int32.ofInt (l3))), (4, .int (Int32.ofInt (l4))), (5, .int (Int32.ofInt (l5))), (6, .int (Int32.ofInt (l6)))] [] cs := by
    intro n
    induction n with
    | zero => intro l1 l2 l3 l4 l5 l6 S cs hn; exact absurd hn (Nat.not_lt_zero _)
    | succ n ih =>
      intro l1 l2 l3 l4 l5 l6 S cs hn hI hW
      exact bX11_childAt_7' hd hJ hT hW hP  (fun l1 l2 l3 l4 l5 l6 S cs hb hW => ih l1 l2 l3 l4 l5 l6 S cs (Nat.lt_of_lt_of_le hb.2 (Nat.le_of_lt_succ hn)) hb.1 hW) (hs l1 l2 l3 l4 l5 l6 S hI)
  exact key _ _ _ _ _ _ _ _ _ (Nat.lt_succ_self _) h0 hW
def wX11_childAt (a1 a2 a3 a4 : Int) (S : St) (K : Int → St → Prop) : Prop := rng a1 → rng a2 → rng a3 → rng a4 → wX11_childAt_7 (a1) (a2) (a3) (a4) ((-2)) (0) S K
set_option maxRecDepth 100000 in
set_option maxHeartbeats 4000000 in
theorem lX11_childAt {G : xG} {sh : Nat → Option Sh} {J : St → List va_E → Prop} {a1 a2 a3 a4 : Int} {S : St} {cs : List va_E} {K : Int → St → Prop} (d : Nat) (hd : 0 ≤ d) (hJ : Stb sh J) (hT : isM sh) (hW : Wd G sh mT J S cs) (g1 : rng a1) (g2 : rng a2) (g3 : rng a3) (g4 : rng a4) (hw : wX11_childAt a1 a2 a3 a4 S K) : X G yX11_childAt cX11_childAt 9 (some .int) d [.ref (G.1 + 54), .int (Int32.ofInt a1), .int (Int32.ofInt a2), .int (Int32.ofInt a3), .int (Int32.ofInt a4)] cs (qI G sh mT J K) := by
  refine X.of false (by decide +kernel) (by decide) (Nat.le_of_ble_eq_true rfl) ?_
  show Z (RX11, cX11_childAt, 9, some .int, false) G d _ 0 [(0, .ref (G.1 + 54)), (1, .int (Int32.ofInt a1)), (2, .int (Int32.ofInt a2)), (3, .int (Int32.ofInt a3)), (4, .int (Int32.ofInt a4))] [] cs
  have hP : ∀ (v : Int) (S : St) (cs : List va_E), K v S → Wd G sh mT J S cs → qI G sh mT J K (some (.int (Int32.ofInt v))) cs := fun v S cs a b => ⟨v, S, rfl, a, b⟩
  unfold wX11_childAt at hw
  have hw := hw g1 g2 g3 g4
  refine z_bipush (v := Int32.ofInt (-2)) dX11_childAt_0 (by decide) ?_
  refine z_istore dX11_childAt_2 (by decide) ?_
  refine z_loc (L' := [(0, .ref (G.1 + 54)), (1, .int (Int32.ofInt (a1))), (2, .int (Int32.ofInt (a2))), (3, .int (Int32.ofInt (a3))), (4, .int (Int32.ofInt (a4))), (5, .int (Int32.ofInt ((-2))))]) (List.forall_mem_cons.mpr ⟨rfl, (List.forall_mem_cons.mpr ⟨rfl, (List.forall_mem_cons.mpr ⟨rfl, (List.forall_mem_cons.mpr ⟨rfl, (List.forall_mem_cons.mpr ⟨rfl, (List.forall_mem_cons.mpr ⟨rfl, (fun _ h => nomatch h)⟩)⟩)⟩)⟩)⟩)⟩) ?_
  refine z_iconst (v := Int32.ofInt 0) dX11_childAt_4 rfl ?_
  refine z_istore dX11_childAt_5 (by decide) ?_
  refine z_loc (L' := [(0, .ref (G.1 + 54)), (1, .int (Int32.ofInt (a1))), (2, .int (Int32.ofInt (a2))), (3, .int (Int32.ofInt (a3))), (4, .int (Int32.ofInt (a4))), (5, .int (Int32.ofInt ((-2)))), (6, .int (Int32.ofInt (0)))]) (List.forall_mem_cons.mpr ⟨rfl, (List.forall_mem_cons.mpr ⟨rfl, (List.forall_mem_cons.mpr ⟨rfl, (List.forall_mem_cons.mpr ⟨rfl, (List.forall_mem_cons.mpr ⟨rfl, (List.forall_mem_cons.mpr ⟨rfl, (List.forall_mem_cons.mpr ⟨rfl, (fun _ h => nomatch h)⟩)⟩)⟩)⟩)⟩)⟩)⟩) ?_
  refine z_loc (L' := [(0, .ref (G.1 + 54)), (1, .int (Int32.ofInt (a1))), (2, .int (Int32.ofInt (a2))), (3, .int (Int32.ofInt (a3))), (4, .int (Int32.ofInt (a4))), (5, .int (Int32.ofInt ((-2)))), (6, .int (Int32.ofInt (0)))]) (List.forall_mem_cons.mpr ⟨rfl, (List.forall_mem_cons.mpr ⟨rfl, (List.forall_mem_cons.mpr ⟨rfl, (List.forall_mem_cons.mpr ⟨rfl, (List.forall_mem_cons.mpr ⟨rfl, (List.forall_mem_cons.mpr ⟨rfl, (List.forall_mem_cons.mpr ⟨rfl, (fun _ h => nomatch h)⟩)⟩)⟩)⟩)⟩)⟩)⟩) ?_
  exact bX11_childAt_7 hd hJ hT hW hP  hw

