def wX11_signAt (a1 : Int) (S : St) (K : Int → St → Prop) : Prop := rng a1 → (iv 0 3000 (S.1 54 0) → ((S.1 54 0 ≤ a1 → K (0) S) ∧ ((¬ (S.1 54 0 ≤ a1)) → ((0 : Int) ≤ a1 ∧ a1 < (3000 : Int) ∧ (iv (-2147483648) 2147483647 (S.2 55 (a1)) → K (S.2 55 (a1)) S)))))
set_option maxRecDepth 100000 in
set_option maxHeartbeats 4000000 in
theorem lX11_signAt {G : xG} {sh : Nat → Option Sh} {J : St → List va_E → Prop} {a1 : Int} {S : St} {cs : List va_E} {K : Int → St → Prop} (d : Nat) (hd : 0 ≤ d) (hJ : Stb sh J) (hT : isM sh) (hW : Wd G sh mT J S cs) (g1 : rng a1) (hw : wX11_signAt a1 S K) : X G yX11_signAt cX11_signAt 2 (some .int) d [.ref (G.1 + 54), .int (Int32.ofInt a1)] cs (qI G sh mT J K) := by
  refine X.of false (by decide +kernel) (by decide) (Nat.le_of_ble_eq_true rfl) ?_
  show Z (RX11, cX11_signAt, 2, some .int, false) G d _ 0 [(0, .ref (G.1 + 54)), (1, .int (Int32.ofInt a1))] [] cs
  have hP : ∀ (v : Int) (S : St) (cs : List va_E), K v S → Wd G sh mT J S cs → qI G sh mT J K (some (.int (Int32.ofInt v))) cs := fun v S cs a b => ⟨v, S, rfl, a, b⟩
  unfold wX11_signAt at hw
  have hw := hw g1
  refine z_iload_n dX11_signAt_0 rfl rfl ?_
  refine z_aload_n dX11_signAt_1 rfl rfl ?_
  have q1 : iv 0 3000 (S.1 54 0) := mI0 hW
  have hw := hw q1
  refine g_getI hW hT.1 mr0 kX11 fX11_171 dX11_signAt_2 ?_
  refine i_icmp_ge (tgt := 17) dX11_signAt_5 (by decide) g1 (rngq q1 (by decide) (by decide)) (fun h2 => ?_) (fun h2 => ?_)
  · have hw := hw.1 h2
    refine z_iconst (v := Int32.ofInt 0) dX11_signAt_17 rfl ?_
    exact z_ireturn dX11_signAt_18 rfl rfl (hP _ _ _ hw hW)
  · have hw := hw.2 h2
    refine z_aload_n dX11_signAt_8 rfl rfl ?_
    refine g_getR hW hT.1 mr1 kX11 fX11_7 dX11_signAt_9 ?_
    refine z_iload_n dX11_signAt_12 rfl rfl ?_
    obtain ⟨q3a, q3b, hw⟩ := hw
    have q4 : iv (-2147483648) 2147483647 (S.2 55 (a1)) := mA55 hW _
    have hw := hw q4
    refine g_iald hW (ma55 hT) q3a q3b (by decide) dX11_signAt_13 ?_
    refine z_goto (tgt := 18) dX11_signAt_14 (by decide) ?_
    exact z_ireturn dX11_signAt_18 rfl rfl (hP _ _ _ hw hW)

def wX11_want (a1 : Int) (S : St) (K : Int → St → Prop) : Prop := rng a1 → (iv 0 1 (S.1 54 23) → ((¬ S.1 54 23 = 0 → (∀ S3, S3 = pI S 54 23 (1) → K 0 S3)) ∧ ((¬ (¬ S.1 54 23 = 0)) → ((¬ a1 = 0 → (∀ S5, S5 = pI S 54 23 (0) → K 0 S5)) ∧ ((¬ (¬ a1 = 0)) → (∀ S6, S6 = pI S 54 23 (1) → K 0 S6))))))
set_option maxRecDepth 100000 in
set_option maxHeartbeats 4000000 in
theorem lX11_want {G : xG} {sh : Nat → Option Sh} {J : St → List va_E → Prop} {a1 : Int} {S : St} {cs : List va_E} {K : Int → St → Prop} (d : Nat) (hd : 0 ≤ d) (hJ : Stb sh J) (hT : isM sh) (hW : Wd G sh mT J S cs) (g1 : rng a1) (hw : wX11_want a1 S K) : X G yX11_want cX11_want 2 none d [.ref (G.1 + 54), .int (Int32.ofInt a1)] cs (qV G sh mT J K) := by
  refine X.of false (by decide +kernel) (by decide) (Nat.le_of_ble_eq_true rfl) ?_
  show Z (RX11, cX11_want, 2, none, false) G d _ 0 [(0, .ref (G.1 + 54)), (1, .int (Int32.ofInt a1))] [] cs
  have hP : ∀ (v : Int) (S : St) (cs : List va_E), K v S → Wd G sh mT J S cs → qV G sh mT J K (none) cs := fun v S cs a b => ⟨v, S, rfl, a, b⟩
  unfold wX11_want at hw
  have hw := hw g1
  refine z_aload_n dX11_want_0 rfl rfl ?_
  refine z_aload_n dX11_want_1 rfl rfl ?_
  have q1 : iv 0 1 (S.1 54 23) := mI23 hW
  have hw := hw q1
  refine g_getI hW hT.1 mr23 kX11 fX11_196 dX11_want_2 ?_
  refine i_if_ne (tgt := 12) dX11_want_5 (by decide) (rngq q1 (by decide) (by decide)) (fun h2 => ?_) (fun h2 => ?_)
  · have hw := hw.1 h2
    refine z_iconst (v := Int32.ofInt 1) dX11_want_12 rfl ?_
    refine z_goto (tgt := 17) dX11_want_13 (by decide) ?_
    refine g_putI hJ hW hT.1 mr23 kX11 fX11_196 dX11_want_17 rfl (nar01 (by decide)) (fit01 (by decide)) ⟨by decide, by decide⟩ (fun cs hW => ?_)
    obtain ⟨S3, hS3⟩ : ∃ x, x = pI S 54 23 (1) := ⟨_, rfl⟩
    rw [← hS3] at hW
    have hw := hw S3 hS3
    exact z_return dX11_want_20 rfl (hP 0 _ _ hw hW)
  · have hw := hw.2 h2
    refine z_iload_n dX11_want_8 rfl rfl ?_
    refine i_if_ne (tgt := 16) dX11_want_9 (by decide) g1 (fun h4 => ?_) (fun h4 => ?_)
    · have hw := hw.1 h4
      refine z_iconst (v := Int32.ofInt 0) dX11_want_16 rfl ?_
      refine g_putI hJ hW hT.1 mr23 kX11 fX11_196 dX11_want_17 rfl (nar01 (by decide)) (fit01 (by decide)) ⟨by decide, by decide⟩ (fun cs hW => ?_)
      obtain ⟨S5, hS5⟩ : ∃ x, x = pI S 54 23 (0) := ⟨_, rfl⟩
      rw [← hS5] at hW
      have hw := hw S5 hS5
      exact z_return dX11_want_20 rfl (hP 0 _ _ hw hW)
    · have hw := hw.2 h4
      refine z_iconst (v := Int32.ofInt 1) dX11_want_12 rfl ?_
      refine z_goto (tgt := 17) dX11_want_13 (by decide) ?_
      refine g_putI hJ hW hT.1 mr23 kX11 fX11_196 dX11_want_17 rfl (nar01 (by decide)) (fit01 (by decide)) ⟨by decide, by decide⟩ (fun cs hW => ?_)
      obtain ⟨S6, hS6⟩ : ∃ x, x = pI S 54 23 (1) := ⟨_, rfl⟩
      rw [← hS6] at hW
      have hw := hw S6 hS6
      exact z_return dX11_want_20 rfl (hP 0 _ _ hw hW)

def wX11_eat_18 (s0 : Int) (S : St) (K : Int → St → Prop) : Prop := (rng (s0) ∧ (wX11_want (s0) S (fun r2 S3 => (iv 0 1 (S3.1 54 23) → ((S3.1 54 23 = 0 → (iv 0 3000 (S3.1 54 22) → (iv 0 3000 ((S3.1 54 22 + 1)) ∧ (∀ S7, S7 = pI S3 54 22 ((S3.1 54 22 + 1)) → K 0 S7)))) ∧ ((¬ (S3.1 54 23 = 0)) → (iv 0 3000 (S3.1 54 22) → (∀ S10, S10 = pI S3 54 22 (S3.1 54 22) → K 0 S10))))))))
set_option maxRecDepth 100000 in
set_option maxHeartbeats 4000000 in
theorem bX11_eat_18 {G : xG} {sh : Nat → Option Sh} {J : St → List va_E → Prop} {d : Nat} {Post : xP} {s0 : Int} {S : St} {cs : List va_E} {K : Int → St → Prop} (hd : 1 ≤ d) (hJ : Stb sh J) (hT : isM sh) (hW : Wd G sh mT J S cs) (hP : ∀ (v : Int) (S : St) (cs : List va_E), K v S → Wd G sh mT J S cs → Post (none) cs)  (hw : wX11_eat_18 s0 S K ) : Z (RX11, cX11_eat, 2, none, false) G d Post 18 [(0, .ref (G.1 + 54))] [.int (Int32.ofInt (s0)), .ref (G.1 + 54)] cs := by
  unfold wX11_eat_18 at hw
  obtain ⟨q1, hw⟩ := hw
  have hX := lX11_want 0 (Nat.le_refl _) hJ hT hW q1 hw
  refine z_callV (As := [_]) eX11_want sX11_want lX11_213 rfl dX11_eat_18 (hW.1 _ _ hT.1) hX (Nat.le_trans (by decide) hd) rfl (Nat.le_of_ble_eq_true rfl) (fun r cs hp => ?_)
  obtain ⟨r2, S3, rfl, hw, hW⟩ := hp
  refine z_st (st' := []) rfl ?_
  refine z_aload_n dX11_eat_21 rfl rfl ?_
  refine z_aload_n dX11_eat_22 rfl rfl ?_
  have q4 : iv 0 1 (S3.1 54 23) := mI23 hW
  have hw := hw q4
  refine g_getI hW hT.1 mr23 kX11 fX11_196 dX11_eat_23 ?_
  refine i_if_eq (tgt := 36) dX11_eat_26 (by decide) (rngq q4 (by decide) (by decide)) (fun h5 => ?_) (fun h5 => ?_)
  · have hw := hw.1 h5
    refine z_aload_n dX11_eat_36 rfl rfl ?_
    have q6 : iv 0 3000 (S3.1 54 22) := mI22 hW
    have hw := hw q6
    refine g_getI hW hT.1 mr22 kX11 fX11_200 dX11_eat_37 ?_
    refine z_iconst (v := Int32.ofInt 1) dX11_eat_40 rfl ?_
    refine i_iadd dX11_eat_41 ?_
    obtain ⟨q8, hw⟩ := hw
    refine g_putI hJ hW hT.1 mr22 kX11 fX11_200 dX11_eat_42 rfl rfl rfl q8 (fun cs hW => ?_)
    obtain ⟨S7, hS7⟩ : ∃ x, x = pI S3 54 22 ((S3.1 54 22 + 1)) := ⟨_, rfl⟩
    rw [← hS7] at hW
    have hw := hw S7 hS7
    exact z_return dX11_eat_45 rfl (hP 0 _ _ hw hW)
  · have hw := hw.2 h5
    refine z_aload_n dX11_eat_29 rfl rfl ?_
    have q9 : iv 0 3000 (S3.1 54 22) := mI22 hW
    have hw := hw q9
    refine g_getI hW hT.1 mr22 kX11 fX11_200 dX11_eat_30 ?_
    refine z_goto (tgt := 42) dX11_eat_33 (by decide) ?_
    refine g_putI hJ hW hT.1 mr22 kX11 fX11_200 dX11_eat_42 rfl rfl rfl q9 (fun cs hW => ?_)
    obtain ⟨S10, hS10⟩ : ∃ x, x = pI S3 54 22 (S3.1 54 22) := ⟨_, rfl⟩
    rw [← hS10] at hW
    have hw := hw S10 hS10
    exact z_return dX11_eat_45 rfl (hP 0 _ _ hw hW)
def wX11_eat (a1 : Int) (S : St) (K : Int → St → Prop) : Prop := rng a1 → (iv 0 3000 (S.1 54 22) → (wX11_signAt (S.1 54 22) S (fun r2 S3 => (rng (r2) ∧ ((¬ r2 = a1 → wX11_eat_18 (0) S3 K) ∧ ((¬ (¬ r2 = a1)) → wX11_eat_18 (1) S3 K))))))
set_option maxRecDepth 100000 in
set_option maxHeartbeats 4000000 in
theorem lX11_eat {G : xG} {sh : Nat → Option Sh} {J : St → List va_E → Prop} {a1 : Int} {S : St} {cs : List va_E} {K : Int → St → Prop} (d : Nat) (hd : 1 ≤ d) (hJ : Stb sh J) (hT : isM sh) (hW : Wd G sh mT J S cs) (g1 : rng a1) (hw : wX11_eat a1 S K) : X G yX11_eat cX11_eat 2 none d [.ref (G.1 + 54), .int (Int32.ofInt a1)] cs (qV G sh mT J K) := by
  refine X.of false (by decide +kernel) (by decide) (Nat.le_of_ble_eq_true rfl) ?_
  show Z (RX11, cX11_eat, 2, none, false) G d _ 0 [(0, .ref (G.1 + 54)), (1, .int (Int32.ofInt a1))] [] cs
  have hP : ∀ (v : Int) (S : St) (cs : List va_E), K v S → Wd G sh mT J S cs → qV G sh mT J K (none) cs := fun v S cs a b => ⟨v, S, rfl, a, b⟩
  unfold wX11_eat at hw
  have hw := hw g1
  refine z_aload_n dX11_eat_0 rfl rfl ?_
  refine z_aload_n dX11_eat_1 rfl rfl ?_
  refine z_aload_n dX11_eat_2 rfl rfl ?_
  have q1 : iv 0 3000 (S.1 54 22) := mI22 hW
  have hw := hw q1
  refine g_getI hW hT.1 mr22 kX11 fX11_200 dX11_eat_3 ?_
  have hX := lX11_signAt 0 (Nat.le_refl _) hJ hT hW (rngq q1 (by decide) (by decide)) hw
  refine z_callV (As := [_]) eX11_signAt sX11_signAt lX11_182 rfl dX11_eat_6 (hW.1 _ _ hT.1) hX (Nat.le_trans (by decide) hd) rfl (Nat.le_of_ble_eq_true rfl) (fun r cs hp => ?_)
  obtain ⟨r2, S3, rfl, hw, hW⟩ := hp
  refine z_st (st' := [.int (Int32.ofInt (r2)), .ref (G.1 + 54)]) rfl ?_
  refine z_iload_n dX11_eat_9 rfl rfl ?_
  obtain ⟨q5, hw⟩ := hw
  refine i_icmp_ne (tgt := 17) dX11_eat_10 (by decide) q5 g1 (fun h4 => ?_) (fun h4 => ?_)
  · have hw := hw.1 h4
    refine z_iconst (v := Int32.ofInt 0) dX11_eat_17 rfl ?_
    refine z_loc (L' := [(0, .ref (G.1 + 54))]) (List.forall_mem_cons.mpr ⟨rfl, (fun _ h => nomatch h)⟩) ?_
    exact bX11_eat_18 hd hJ hT hW hP  hw
  · have hw := hw.2 h4
    refine z_iconst (v := Int32.ofInt 1) dX11_eat_13 rfl ?_
    refine z_goto (tgt := 18) dX11_eat_14 (by decide) ?_
    refine z_loc (L' := [(0, .ref (G.1 + 54))]) (List.forall_mem_cons.mpr ⟨rfl, (fun _ h => nomatch h)⟩) ?_
    exact bX11_eat_18 hd hJ hT hW hP  hw

def wX11_letterOf (a1 a2 : Int) (S : St) (K : Int → St → Prop) : Prop := rng a1 → rng a2 → ((¬ a1 = 0 → ((¬ a2 = 0 → K (100) S) ∧ ((¬ (¬ a2 = 0)) → K (105) S))) ∧ ((¬ (¬ a1 = 0)) → ((¬ a2 = 0 → ((¬ a2 = 1 → ((¬ a2 = 2 → K (115) S) ∧ ((¬ (¬ a2 = 2)) → K (97) S))) ∧ ((¬ (¬ a2 = 1)) → K (108) S))) ∧ ((¬ (¬ a2 = 0)) → K (99) S))))
set_option maxRecDepth 100000 in
set_option maxHeartbeats 4000000 in
theorem lX11_letterOf {G : xG} {sh : Nat → Option Sh} {J : St → List va_E → Prop} {a1 a2 : Int} {S : St} {cs : List va_E} {K : Int → St → Prop} (d : Nat) (hd : 0 ≤ d) (hJ : Stb sh J) (hT : isM sh) (hW : Wd G sh mT J S cs) (g1 : rng a1) (g2 : rng a2) (hw : wX11_letterOf a1 a2 S K) : X G yX11_letterOf cX11_letterOf 2 (some .int) d [.int (Int32.ofInt a1), .int (Int32.ofInt a2)] cs (qI G sh mT J K) := by
  refine X.of false (by decide +kernel) (by decide) (Nat.le_of_ble_eq_true rfl) ?_
  show Z (RX11, cX11_letterOf, 2, some .int, false) G d _ 0 [(0, .int (Int32.ofInt a1)), (1, .int (Int32.ofInt a2))] [] cs
  have hP : ∀ (v : Int) (S : St) (cs : List va_E), K v S → Wd G sh mT J S cs → qI G sh mT J K (some (.int (Int32.ofInt v))) cs := fun v S cs a b => ⟨v, S, rfl, a, b⟩
  unfold wX11_letterOf at hw
  have hw := hw g1 g2
  refine z_iload_n dX11_letterOf_0 rfl rfl ?_
  refine i_if_ne (tgt := 36) dX11_letterOf_1 (by decide) g1 (fun h1 => ?_) (fun h1 => ?_)
  · have hw := hw.1 h1
    refine z_iload_n dX11_letterOf_36 rfl rfl ?_
    refine i_if_ne (tgt := 45) dX11_letterOf_37 (by decide) g2 (fun h2 => ?_) (fun h2 => ?_)
    · have hw := hw.1 h2
      refine z_bipush (v := Int32.ofInt 100) dX11_letterOf_45 (by decide) ?_
      exact z_ireturn dX11_letterOf_47 rfl rfl (hP _ _ _ hw hW)
    · have hw := hw.2 h2
      refine z_bipush (v := Int32.ofInt 105) dX11_letterOf_40 (by decide) ?_
      refine z_goto (tgt := 47) dX11_letterOf_42 (by decide) ?_
      exact z_ireturn dX11_letterOf_47 rfl rfl (hP _ _ _ hw hW)
  · have hw := hw.2 h1
    refine z_iload_n dX11_letterOf_4 rfl rfl ?_
    refine i_if_ne (tgt := 13) dX11_letterOf_5 (by decide) g2 (fun h3 => ?_) (fun h3 => ?_)
    · have hw := hw.1 h3
      refine z_iload_n dX11_letterOf_13 rfl rfl ?_
      refine z_iconst (v := Int32.ofInt 1) dX11_letterOf_14 rfl ?_
      refine i_icmp_ne (tgt := 23) dX11_letterOf_15 (by decide) g2 ⟨by decide, by decide⟩ (fun h4 => ?_) (fun h4 => ?_)
      · have hw := hw.1 h4
        refine z_iload_n dX11_letterOf_23 rfl rfl ?_
        refine z_iconst (v := Int32.ofInt 2) dX11_letterOf_24 rfl ?_
        refine i_icmp_ne (tgt := 33) dX11_letterOf_25 (by decide) g2 ⟨by decide, by decide⟩ (fun h5 => ?_) (fun h5 => ?_)
        · have hw := hw.1 h5
          refine z_bipush (v := Int32.ofInt 115) dX11_letterOf_33 (by decide) ?_
          exact z_ireturn dX11_letterOf_35 rfl rfl (hP _ _ _ hw hW)
        · have hw := hw.2 h5
          refine z_bipush (v := Int32.ofInt 97) dX11_letterOf_28 (by decide) ?_
          refine z_goto (tgt := 35) dX11_letterOf_30 (by decide) ?_
          exact z_ireturn dX11_letterOf_35 rfl rfl (hP _ _ _ hw hW)
      · have hw := hw.2 h4
        refine z_bipush (v := Int32.ofInt 108) dX11_letterOf_18 (by decide) ?_
        refine z_goto (tgt := 35) dX11_letterOf_20 (by decide) ?_
        exact z_ireturn dX11_letterOf_35 rfl rfl (hP _ _ _ hw hW)
    · have hw := hw.2 h3
      refine z_bipush (v := Int32.ofInt 99) dX11_letterOf_8 (by decide) ?_
      refine z_goto (tgt := 35) dX11_letterOf_10 (by decide) ?_
      exact z_ireturn dX11_letterOf_35 rfl rfl (hP _ _ _ hw hW)

def wX11_isWord_67 (l1 l2 l3 l5 s0 : Int) (S : St) (K : Int → St → Prop) (B30 : Int → Int → Int → Int → Int → St → Prop) : Prop := B30 (l1) (l2) (l3) (s0) ((l5 + 1)) S
set_option maxRecDepth 100000 in
set_option maxHeartbeats 4000000 in
theorem bX11_isWord_67 {G : xG} {sh : Nat → Option Sh} {J : St → List va_E → Prop} {d : Nat} {Post : xP} {l1 l2 l3 l5 s0 : Int} {S : St} {cs : List va_E} {K : Int → St → Prop} {B30 : Int → Int → Int → Int → Int → St → Prop} (hd : 1 ≤ d) (hJ : Stb sh J) (hT : isM sh) (hW : Wd G sh mT J S cs) (hP : ∀ (v : Int) (S : St) (cs : List va_E), K v S → Wd G sh mT J S cs → Post (some (.int (Int32.ofInt v))) cs) (hB30 : ∀ (l1 : Int) (l2 : Int) (l3 : Int) (l4 : Int) (l5 : Int) (S : St) (cs : List va_E), B30 l1 l2 l3 l4 l5 S → Wd G sh mT J S cs → Z (RX11, cX11_isWord, 6, some .boolean, false) G d Post 30 [(0, .ref (G.1 + 54)), (1, .int (Int32.ofInt (l1))), (2, .int (Int32.ofInt (l2))), (3, .int (Int32.ofInt (l3))), (4, .int (Int32.ofInt (l4))), (5, .int (Int32.ofInt (l5)))] [] cs) (hw : wX11_isWord_67 l1 l2 l3 l5 s0 S K B30) : Z (RX11, cX11_isWord, 6, some .boolean, false) G d Post 67 [(0, .ref (G.1 + 54)), (1, .int (Int32.ofInt (l1))), (2, .int (Int32.ofInt (l2))), (3, .int (Int32.ofInt (l3))), (5, .int (Int32.ofInt (l5)))] [.int (Int32.ofInt (s0))] cs := by
  unfold wX11_isWord_67 at hw
  refine z_istore dX11_isWord_67 (by decide) ?_
  refine z_loc (L' := [(0, .ref (G.1 + 54)), (1, .int (Int32.ofInt (l1))), (2, .int (Int32.ofInt (l2))), (3, .int (Int32.ofInt (l3))), (4, .int (Int32.ofInt (s0))), (5, .int (Int32.ofInt (l5)))]) (List.forall_mem_cons.mpr ⟨rfl, (List.forall_mem_cons.mpr ⟨rfl, (List.forall_mem_cons.mpr ⟨rfl, (List.forall_mem_cons.mpr ⟨rfl, (List.forall_mem_cons.mpr ⟨rfl, (List.forall_mem_cons.mpr ⟨rfl, (fun _ h => nomatch h)⟩)⟩)⟩)⟩)⟩)⟩) ?_
  refine i_iinc (l := l5) dX11_isWord_69 rfl (by decide) ?_
  refine z_loc (L' := [(0, .ref (G.1 + 54)), (1, .int (Int32.ofInt (l1))), (2, .int (Int32.ofInt (l2))), (3, .int (Int32.ofInt (l3))), (4, .int (Int32.ofInt (s0))), (5, .int (Int32.ofInt ((l5 + 1))))]) (List.forall_mem_cons.mpr ⟨rfl, (List.forall_mem_cons.mpr ⟨rfl, (List.forall_mem_cons.mpr ⟨rfl, (List.forall_mem_cons.mpr ⟨rfl, (List.forall_mem_cons.mpr ⟨rfl, (List.forall_mem_cons.mpr ⟨rfl, (fun _ h => nomatch h)⟩)⟩)⟩)⟩)⟩)⟩) ?_
  refine z_goto (tgt := 30) dX11_isWord_72 (by decide) ?_
  refine z_loc (L' := [(0, .ref (G.1 + 54)), (1, .int (Int32.ofInt (l1))), (2, .int (Int32.ofInt (l2))), (3, .int (Int32.ofInt (l3))), (4, .int (Int32.ofInt (s0))), (5, .int (Int32.ofInt ((l5 + 1))))]) (List.forall_mem_cons.mpr ⟨rfl, (List.forall_mem_cons.mpr ⟨rfl, (List.forall_mem_cons.mpr ⟨rfl, (List.forall_mem_cons.mpr ⟨rfl, (List.forall_mem_cons.mpr ⟨rfl, (List.forall_mem_cons.mpr ⟨rfl, (fun _ h => nomatch h)⟩)⟩)⟩)⟩)⟩)⟩) ?_
  exact hB30 _ _ _ _ _ _ _ hw hW
def wX11_isWord_30' (l1 l2 l3 l4 l5 : Int) (S : St) (K : Int → St → Prop) (B30 : Int → Int → Int → Int → Int → St → Prop) : Prop := (rng (l5) ∧ (rng (l3) ∧ ((l3 ≤ l5 → (iv 0 1 (l4) ∧ K (l4) S)) ∧ ((¬ (l3 ≤ l5)) → (rng (l4) ∧ ((l4 = 0 → (iv 0 1 (l4) ∧ K (l4) S)) ∧ ((¬ (l4 = 0)) → ((0 : Int) ≤ ((8 * l1) + l5) ∧ ((8 * l1) + l5) < (240 : Int) ∧ (iv (-2147483648) 2147483647 (S.2 64 (((8 * l1) + l5))) → (rng (l2) ∧ (wX11_letterOf (l2) (l5) S (fun r11 S12 => (rng (r11) ∧ ((¬ S.2 64 (((8 * l1) + l5)) = r11 → wX11_isWord_67 (l1) (l2) (l3) (l5) (0) S12 K B30) ∧ ((¬ (¬ S.2 64 (((8 * l1) + l5)) = r11)) → wX11_isWord_67 (l1) (l2) (l3) (l5) (1) S12 K B30)))))))))))))))
set_option maxRecDepth 100000 in
set_option maxHeartbeats 4000000 in
theorem bX11_isWord_30' {G : xG} {sh : Nat → Option Sh} {J : St → List va_E → Prop} {d : Nat} {Post : xP} {l1 l2 l3 l4 l5 : Int} {S : St} {cs : List va_E} {K : Int → St → Prop} {B30 : Int → Int → Int → Int → Int → St → Prop} (hd : 1 ≤ d) (hJ : Stb sh J) (hT : isM sh) (hW : Wd G sh mT J S cs) (hP : ∀ (v : Int) (S : St) (cs : List va_E), K v S → Wd G sh mT J S cs → Post (some (.int (Int32.ofInt v))) cs) (hB30 : ∀ (l1 : Int) (l2 : Int) (l3 : Int) (l4 : Int) (l5 : Int) (S : St) (cs : List va_E), B30 l1 l2 l3 l4 l5 S → Wd G sh mT J S cs → Z (RX11, cX11_isWord, 6, some .boolean, false) G d Post 30 [(0, .ref (G.1 + 54)), (1, .int (Int32.ofInt (l1))), (2, .int (Int32.ofInt (l2))), (3, .int (Int32.ofInt (l3))), (4, .int (Int32.ofInt (l4))), (5, .int (Int32.ofInt (l5)))] [] cs) (hw : wX11_isWord_30' l1 l2 l3 l4 l5 S K B30) : Z (RX11, cX11_isWord, 6, some .boolean, false) G d Post 30 [(0, .ref (G.1 + 54)), (1, .int (Int32.ofInt (l1))), (2, .int (Int32.ofInt (l2))), (3, .int (Int32.ofInt (l3))), (4, .int (Int32.ofInt (l4))), (5, .int (Int32.ofInt (l5)))] [] cs := by
  unfold wX11_isWord_30' at hw
  refine z_iload dX11_isWord_30 rfl ?_
  refine z_iload_n dX11_isWord_32 rfl rfl ?_
  obtain ⟨q2, hw⟩ := hw
  obtain ⟨q3, hw⟩ := hw
  refine i_icmp_ge (tgt := 75) dX11_isWord_33 (by decide) q2 q3 (fun h1 => ?_) (fun h1 => ?_)
  · have hw := hw.1 h1
    refine z_iload dX11_isWord_75 rfl ?_
    obtain ⟨q4, hw⟩ := hw
    exact z_ireturn dX11_isWord_77 rfl (nar01 (b01 q4)) (hP _ _ _ hw hW)
  · have hw := hw.2 h1
    refine z_iload dX11_isWord_36 rfl ?_
    obtain ⟨q6, hw⟩ := hw
    refine i_if_eq (tgt := 75) dX11_isWord_38 (by decide) q6 (fun h5 => ?_) (fun h5 => ?_)
    · have hw := hw.1 h5
      refine z_iload dX11_isWord_75 rfl ?_
      obtain ⟨q7, hw⟩ := hw
      exact z_ireturn dX11_isWord_77 rfl (nar01 (b01 q7)) (hP _ _ _ hw hW)
    · have hw := hw.2 h5
      refine z_aload_n dX11_isWord_41 rfl rfl ?_
      refine g_getR hW hT.1 mr11 kX11 fX11_38 dX11_isWord_42 ?_
      refine z_bipush (v := Int32.ofInt 8) dX11_isWord_45 (by decide) ?_
      refine z_iload_n dX11_isWord_47 rfl rfl ?_
      refine i_imul dX11_isWord_48 ?_
      refine z_iload dX11_isWord_49 rfl ?_
      refine i_iadd dX11_isWord_51 ?_
      obtain ⟨q8a, q8b, hw⟩ := hw
      have q9 : iv (-2147483648) 2147483647 (S.2 64 (((8 * l1) + l5))) := mA64 hW _
      have hw := hw q9
      refine g_iald hW (ma64 hT) q8a q8b (by decide) dX11_isWord_52 ?_
      refine z_iload_n dX11_isWord_53 rfl rfl ?_
      refine z_iload dX11_isWord_54 rfl ?_
      obtain ⟨q10, hw⟩ := hw
      have hX := lX11_letterOf 0 (Nat.le_refl _) hJ hT hW q10 q2 hw
      refine z_callS (As := [_, _]) eX11_letterOf sX11_letterOf lX11_192 dX11_isWord_56 hX (Nat.le_trans (by decide) hd) rfl (Nat.le_of_ble_eq_true rfl) (fun r cs hp => ?_)
      obtain ⟨r11, S12, rfl, hw, hW⟩ := hp
      refine z_st (st' := [.int (Int32.ofInt (r11)), .int (Int32.ofInt (S.2 64 (((8 * l1) + l5))))]) rfl ?_
      obtain ⟨q14, hw⟩ := hw
      refine i_icmp_ne (tgt := 66) dX11_isWord_59 (by decide) (rngq q9 (by decide) (by decide)) q14 (fun h13 => ?_) (fun h13 => ?_)
      · have hw := hw.1 h13
        refine z_iconst (v := Int32.ofInt 0) dX11_isWord_66 rfl ?_
        refine z_loc (L' := [(0, .ref (G.1 + 54)), (1, .int (Int32.ofInt (l1))), (2, .int (Int32.ofInt (l2))), (3, .int (Int32.ofInt (l3))), (5, .int (Int32.ofInt (l5)))]) (List.forall_mem_cons.mpr ⟨rfl, (List.forall_mem_cons.mpr ⟨rfl, (List.forall_mem_cons.mpr ⟨rfl, (List.forall_mem_cons.mpr ⟨rfl, (List.forall_mem_cons.mpr ⟨rfl, (fun _ h => nomatch h)⟩)⟩)⟩)⟩)⟩) ?_
        exact bX11_isWord_67 hd hJ hT hW hP hB30 hw
      · have hw := hw.2 h13
        refine z_iconst (v := Int32.ofInt 1) dX11_isWord_62 rfl ?_
        refine z_goto (tgt := 67) dX11_isWord_63 (by decide) ?_
        refine z_loc (L' := [(0, .ref (G.1 + 54)), (1, .int (Int32.ofInt (l1))), (2, .int (Int32.ofInt (l2))), (3, .int (Int32.ofInt (l3))), (5, .int (Int32.ofInt (l5)))]) (List.forall_mem_cons.mpr ⟨rfl, (List.forall_mem_cons.mpr ⟨rfl, (List.forall_mem_cons.mpr ⟨rfl, (List.forall_mem_cons.mpr ⟨rfl, (List.forall_mem_cons.mpr ⟨rfl, (fun _ h => nomatch h)⟩)⟩)⟩)⟩)⟩) ?_
        exact bX11_isWord_67 hd hJ hT hW hP hB30 hw
def wX11_isWord_30 (l1 l2 l3 l4 l5 : Int) (S : St) (K : Int → St → Prop) : Prop := ∃ (Iv : Int → Int → Int → Int → Int → St → Prop) (mu : Int → Int → Int → Int → Int → St → Nat), Iv l1 l2 l3 l4 l5 S ∧ ∀ (l1 l2 l3 l4 l5 : Int) (S : St), Iv l1 l2 l3 l4 l5 S → wX11_isWord_30' l1 l2 l3 l4 l5 S K  (fun ml1 ml2 ml3 ml4 ml5 T => Iv ml1 ml2 ml3 ml4 ml5 T ∧ mu ml1 ml2 ml3 ml4 ml5 T < mu l1 l2 l3 l4 l5 S)
set_option maxRecDepth 100000 in
set_option maxHeartbeats 4000000 in
theorem bX11_isWord_30 {G : xG} {sh : Nat → Option Sh} {J : St → List va_E → Prop} {d : Nat} {Post : xP} {l1 l2 l3 l4 l5 : Int} {S : St} {cs : List va_E} {K : Int → St → Prop} (hd : 1 ≤ d) (hJ : Stb sh J) (hT : isM sh) (hW : Wd G sh mT J S cs) (hP : ∀ (v : Int) (S : St) (cs : List va_E), K v S → Wd G sh mT J S cs → Post (some (.int (Int32.ofInt v))) cs)  (hw : wX11_isWord_30 l1 l2 l3 l4 l5 S K ) : Z (RX11, cX11_isWord, 6, some .boolean, false) G d Post 30 [(0, .ref (G.1 + 54)), (1, .int (Int32.ofInt (l1))), (2, .int (Int32.ofInt (l2))), (3, .int (Int32.ofInt (l3))), (4, .int (Int32.ofInt (l4))), (5, .int (Int32.ofInt (l5)))] [] cs := by
  unfold wX11_isWord_30 at hw
  obtain ⟨Iv, mu, h0, hs⟩ := hw
  have key : ∀ (n : Nat) (l1 l2 l3 l4 l5 : Int) (S : St) (cs : List va_E), mu l1 l2 l3 l4 l5 S < n → Iv l1 l2 l3 l4 l5 S → Wd G sh mT J S cs → Z (RX11, cX11_isWord, 6, some .boolean, false) G d Post 30 [(0, .ref (G.1 + 54)), (1, .int (Int32.ofInt (l1))), (2, .int (Int32.ofInt (l2))), (3, .int (Int32.ofInt (l3))), (4, .int (Int32.ofInt (l4))), (5, .int (Int32.ofInt (l5)))] [] cs := by
    intro n
    induction n with
    | zero => intro l1 l2 l3 l4 l5 S cs hn; exact absurd hn (Nat.not_lt_zero _)
    | succ n ih =>
      intro l1 l2 l3 l4 l5 S cs hn hI hW
      exact bX11_isWord_30' hd hJ hT hW hP  (fun l1 l2 l3 l4 l5 S cs hb hW => ih l1 l2 l3 l4 l5 S cs (Nat.lt_of_lt_of_le hb.2 (Nat.le_of_lt_succ hn)) hb.1 hW) (hs l1 l2 l3 l4 l5 S hI)
  exact key _ _ _ _ _ _ _ _ (Nat.lt_succ_self _) h0 hW
def wX11_isWord_25 (l1 l2 l3 s0 : Int) (S : St) (K : Int → St → Prop) : Prop := wX11_isWord_30 (l1) (l2) (l3) (s0) (0) S K
set_option maxRecDepth 100000 in
set_option maxHeartbeats 4000000 in
theorem bX11_isWord_25 {G : xG} {sh : Nat → Option Sh} {J : St → List va_E → Prop} {d : Nat} {Post : xP} {l1 l2 l3 s0 : Int} {S : St} {cs : List va_E} {K : Int → St → Prop} (hd : 1 ≤ d) (hJ : Stb sh J) (hT : isM sh) (hW : Wd G sh mT J S cs) (hP : ∀ (v : Int) (S : St) (cs : List va_E), K v S → Wd G sh mT J S cs → Post (some (.int (Int32.ofInt v))) cs)  (hw : wX11_isWord_25 l1 l2 l3 s0 S K ) : Z (RX11, cX11_isWord, 6, some .boolean, false) G d Post 25 [(0, .ref (G.1 + 54)), (1, .int (Int32.ofInt (l1))), (2, .int (Int32.ofInt (l2))), (3, .int (Int32.ofInt (l3)))] [.int (Int32.ofInt (s0))] cs := by
  unfold wX11_isWord_25 at hw
  refine z_istore dX11_isWord_25 (by decide) ?_
  refine z_loc (L' := [(0, .ref (G.1 + 54)), (1, .int (Int32.ofInt (l1))), (2, .int (Int32.ofInt (l2))), (3, .int (Int32.ofInt (l3))), (4, .int (Int32.ofInt (s0)))]) (List.forall_mem_cons.mpr ⟨rfl, (List.forall_mem_cons.mpr ⟨rfl, (List.forall_mem_cons.mpr ⟨rfl, (List.forall_mem_cons.mpr ⟨rfl, (List.forall_mem_cons.mpr ⟨rfl, (fun _ h => nomatch h)⟩)⟩)⟩)⟩)⟩) ?_
  refine z_iconst (v := Int32.ofInt 0) dX11_isWord_27 rfl ?_
  refine z_istore dX11_isWord_28 (by decide) ?_
  refine z_loc (L' := [(0, .ref (G.1 + 54)), (1, .int (Int32.ofInt (l1))), (2, .int (Int32.ofInt (l2))), (3, .int (Int32.ofInt (l3))), (4, .int (Int32.ofInt (s0))), (5, .int (Int32.ofInt (0)))]) (List.forall_mem_cons.mpr ⟨rfl, (List.forall_mem_cons.mpr ⟨rfl, (List.forall_mem_cons.mpr ⟨rfl, (List.forall_mem_cons.mpr ⟨rfl, (List.forall_mem_cons.mpr ⟨rfl, (List.forall_mem_cons.mpr ⟨rfl, (fun _ h => nomatch h)⟩)⟩)⟩)⟩)⟩)⟩) ?_
  refine z_loc (L' := [(0, .ref (G.1 + 54)), (1, .int (Int32.ofInt (l1))), (2, .int (Int32.ofInt (l2))), (3, .int (Int32.ofInt (l3))), (4, .int (Int32.ofInt (s0))), (5, .int (Int32.ofInt (0)))]) (List.forall_mem_cons.mpr ⟨rfl, (List.forall_mem_cons.mpr ⟨rfl, (List.forall_mem_cons.mpr ⟨rfl, (List.forall_mem_cons.mpr ⟨rfl, (List.forall_mem_cons.mpr ⟨rfl, (List.forall_mem_cons.mpr ⟨rfl, (fun _ h => nomatch h)⟩)⟩)⟩)⟩)⟩)⟩) ?_
  exact bX11_isWord_30 hd hJ hT hW hP  hw
def wX11_isWord_9 (l1 l2 s0 : Int) (S : St) (K : Int → St → Prop) : Prop := ((0 : Int) ≤ l1 ∧ l1 < (30 : Int) ∧ (iv 0 8 (S.2 63 (l1)) → (rng (s0) ∧ ((¬ S.2 63 (l1) = s0 → wX11_isWord_25 (l1) (l2) (s0) (0) S K) ∧ ((¬ (¬ S.2 63 (l1) = s0)) → wX11_isWord_25 (l1) (l2) (s0) (1) S K)))))
set_option maxRecDepth 100000 in
set_option maxHeartbeats 4000000 in
theorem bX11_isWord_9 {G : xG} {sh : Nat → Option Sh} {J : St → List va_E → Prop} {d : Nat} {Post : xP} {l1 l2 s0 : Int} {S : St} {cs : List va_E} {K : Int → St → Prop} (hd : 1 ≤ d) (hJ : Stb sh J) (hT : isM sh) (hW : Wd G sh mT J S cs) (hP : ∀ (v : Int) (S : St) (cs : List va_E), K v S → Wd G sh mT J S cs → Post (some (.int (Int32.ofInt v))) cs)  (hw : wX11_isWord_9 l1 l2 s0 S K ) : Z (RX11, cX11_isWord, 6, some .boolean, false) G d Post 9 [(0, .ref (G.1 + 54)), (1, .int (Int32.ofInt (l1))), (2, .int (Int32.ofInt (l2)))] [.int (Int32.ofInt (s0))] cs := by
  unfold wX11_isWord_9 at hw
  refine z_istore_n dX11_isWord_9 rfl (by decide) ?_
  refine z_loc (L' := [(0, .ref (G.1 + 54)), (1, .int (Int32.ofInt (l1))), (2, .int (Int32.ofInt (l2))), (3, .int (Int32.ofInt (s0)))]) (List.forall_mem_cons.mpr ⟨rfl, (List.forall_mem_cons.mpr ⟨rfl, (List.forall_mem_cons.mpr ⟨rfl, (List.forall_mem_cons.mpr ⟨rfl, (fun _ h => nomatch h)⟩)⟩)⟩)⟩) ?_
  refine z_aload_n dX11_isWord_10 rfl rfl ?_
  refine g_getR hW hT.1 mr10 kX11 fX11_35 dX11_isWord_11 ?_
  refine z_iload_n dX11_isWord_14 rfl rfl ?_
  obtain ⟨q1a, q1b, hw⟩ := hw
  have q2 : iv 0 8 (S.2 63 (l1)) := mA63 hW _
  have hw := hw q2
  refine g_iald hW (ma63 hT) q1a q1b (by decide) dX11_isWord_15 ?_
  refine z_iload_n dX11_isWord_16 rfl rfl ?_
  obtain ⟨q4, hw⟩ := hw
  refine i_icmp_ne (tgt := 24) dX11_isWord_17 (by decide) (rngq q2 (by decide) (by decide)) q4 (fun h3 => ?_) (fun h3 => ?_)
  · have hw := hw.1 h3
    refine z_iconst (v := Int32.ofInt 0) dX11_isWord_24 rfl ?_
    refine z_loc (L' := [(0, .ref (G.1 + 54)), (1, .int (Int32.ofInt (l1))), (2, .int (Int32.ofInt (l2))), (3, .int (Int32.ofInt (s0)))]) (List.forall_mem_cons.mpr ⟨rfl, (List.forall_mem_cons.mpr ⟨rfl, (List.forall_mem_cons.mpr ⟨rfl, (List.forall_mem_cons.mpr ⟨rfl, (fun _ h => nomatch h)⟩)⟩)⟩)⟩) ?_
    exact bX11_isWord_25 hd hJ hT hW hP  hw
  · have hw := hw.2 h3
    refine z_iconst (v := Int32.ofInt 1) dX11_isWord_20 rfl ?_
    refine z_goto (tgt := 25) dX11_isWord_21 (by decide) ?_
    refine z_loc (L' := [(0, .ref (G.1 + 54)), (1, .int (Int32.ofInt (l1))), (2, .int (Int32.ofInt (l2))), (3, .int (Int32.ofInt (s0)))]) (List.forall_mem_cons.mpr ⟨rfl, (List.forall_mem_cons.mpr ⟨rfl, (List.forall_mem_cons.mpr ⟨rfl, (List.forall_mem_cons.mpr ⟨rfl, (fun _ h => nomatch h)⟩)⟩)⟩)⟩) ?_
    exact bX11_isWord_25 hd hJ hT hW hP  hw
def wX11_isWord (a1 a2 : Int) (S : St) (K : Int → St → Prop) : Prop := rng a1 → rng a2 → ((¬ a2 = 0 → wX11_isWord_9 (a1) (a2) (2) S K) ∧ ((¬ (¬ a2 = 0)) → wX11_isWord_9 (a1) (a2) (5) S K))
set_option maxRecDepth 100000 in
set_option maxHeartbeats 4000000 in
theorem lX11_isWord {G : xG} {sh : Nat → Option Sh} {J : St → List va_E → Prop} {a1 a2 : Int} {S : St} {cs : List va_E} {K : Int → St → Prop} (d : Nat) (hd : 1 ≤ d) (hJ : Stb sh J) (hT : isM sh) (hW : Wd G sh mT J S cs) (g1 : rng a1) (g2 : rng a2) (hw : wX11_isWord a1 a2 S K) : X G yX11_isWord cX11_isWord 6 (some .boolean) d [.ref (G.1 + 54), .int (Int32.ofInt a1), .int (Int32.ofInt a2)] cs (qI G sh mT J K) := by
  refine X.of false (by decide +kernel) (by decide) (Nat.le_of_ble_eq_true rfl) ?_
  show Z (RX11, cX11_isWord, 6, some .boolean, false) G d _ 0 [(0, .ref (G.1 + 54)), (1, .int (Int32.ofInt a1)), (2, .int (Int32.ofInt a2))] [] cs
  have hP : ∀ (v : Int) (S : St) (cs : List va_E), K v S → Wd G sh mT J S cs → qI G sh mT J K (some (.int (Int32.ofInt v))) cs := fun v S cs a b => ⟨v, S, rfl, a, b⟩
  unfold wX11_isWord at hw
  have hw := hw g1 g2
  refine z_iload_n dX11_isWord_0 rfl rfl ?_
  refine i_if_ne (tgt := 8) dX11_isWord_1 (by decide) g2 (fun h1 => ?_) (fun h1 => ?_)
  · have hw := hw.1 h1
    refine z_iconst (v := Int32.ofInt 2) dX11_isWord_8 rfl ?_
    refine z_loc (L' := [(0, .ref (G.1 + 54)), (1, .int (Int32.ofInt (a1))), (2, .int (Int32.ofInt (a2)))]) (List.forall_mem_cons.mpr ⟨rfl, (List.forall_mem_cons.mpr ⟨rfl, (List.forall_mem_cons.mpr ⟨rfl, (fun _ h => nomatch h)⟩)⟩)⟩) ?_
    exact bX11_isWord_9 hd hJ hT hW hP  hw
  · have hw := hw.2 h1
    refine z_iconst (v := Int32.ofInt 5) dX11_isWord_4 rfl ?_
    refine z_goto (tgt := 9) dX11_isWord_5 (by decide) ?_
    refine z_loc (L' := [(0, .ref (G.1 + 54)), (1, .int (Int32.ofInt (a1))), (2, .int (Int32.ofInt (a2)))]) (List.forall_mem_cons.mpr ⟨rfl, (List.forall_mem_cons.mpr ⟨rfl, (List.forall_mem_cons.mpr ⟨rfl, (fun _ h => nomatch h)⟩)⟩)⟩) ?_
    exact bX11_isWord_9 hd hJ hT hW hP  hw

def wX11_nameAt_43 (l1 l2 l3 l4 : Int) (S : St) (K : Int → St → Prop) (B9 : Int → Int → Int → Int → St → Prop) : Prop := (rng (l3) ∧ ((¬ l3 = 8 → ((0 : Int) ≤ ((8 * l2) + l3) ∧ ((8 * l2) + l3) < (240 : Int) ∧ (iv (-2147483648) 2147483647 (l4) ∧ (∀ S4, S4 = pA S 64 (((8 * l2) + l3)) (l4) → (rng ((l1 + (l3 + 1))) ∧ (wX11_signAt ((l1 + (l3 + 1))) S4 (fun r7 S8 => B9 (l1) (l2) ((l3 + 1)) (r7) S8))))))) ∧ ((¬ (¬ l3 = 8)) → K ((-10)) S)))
set_option maxRecDepth 100000 in
set_option maxHeartbeats 4000000 in
theorem bX11_nameAt_43 {G : xG} {sh : Nat → Option Sh} {J : St → List va_E → Prop} {d : Nat} {Post : xP} {l1 l2 l3 l4 : Int} {S : St} {cs : List va_E} {K : Int → St → Prop} {B9 : Int → Int → Int → Int → St → Prop} (hd : 1 ≤ d) (hJ : Stb sh J) (hT : isM sh) (hW : Wd G sh mT J S cs) (hP : ∀ (v : Int) (S : St) (cs : List va_E), K v S → Wd G sh mT J S cs → Post (some (.int (Int32.ofInt v))) cs) (hB9 : ∀ (l1 : Int) (l2 : Int) (l3 : Int) (l4 : Int) (S : St) (cs : List va_E), B9 l1 l2 l3 l4 S → Wd G sh mT J S cs → Z (RX11, cX11_nameAt, 5, some .int, false) G d Post 9 [(0, .ref (G.1 + 54)), (1, .int (Int32.ofInt (l1))), (2, .int (Int32.ofInt (l2))), (3, .int (Int32.ofInt (l3))), (4, .int (Int32.ofInt (l4)))] [] cs) (hw : wX11_nameAt_43 l1 l2 l3 l4 S K B9) : Z (RX11, cX11_nameAt, 5, some .int, false) G d Post 43 [(0, .ref (G.1 + 54)), (1, .int (Int32.ofInt (l1))), (2, .int (Int32.ofInt (l2))), (3, .int (Int32.ofInt (l3))), (4, .int (Int32.ofInt (l4)))] [] cs := by
  unfold wX11_nameAt_43 at hw
  refine z_iload_n dX11_nameAt_43 rfl rfl ?_
  refine z_bipush (v := Int32.ofInt 8) dX11_nameAt_44 (by decide) ?_
  obtain ⟨q2, hw⟩ := hw
  refine i_icmp_ne (tgt := 52) dX11_nameAt_46 (by decide) q2 ⟨by decide, by decide⟩ (fun h1 => ?_) (fun h1 => ?_)
  · have hw := hw.1 h1
    refine z_aload_n dX11_nameAt_52 rfl rfl ?_
    refine g_getR hW hT.1 mr11 kX11 fX11_38 dX11_nameAt_53 ?_
    refine z_bipush (v := Int32.ofInt 8) dX11_nameAt_56 (by decide) ?_
    refine z_iload_n dX11_nameAt_58 rfl rfl ?_
    refine i_imul dX11_nameAt_59 ?_
    refine z_iload_n dX11_nameAt_60 rfl rfl ?_
    refine i_iadd dX11_nameAt_61 ?_
    refine z_iload dX11_nameAt_62 rfl ?_
    obtain ⟨q3a, q3b, hw⟩ := hw
    obtain ⟨q5, hw⟩ := hw
    refine g_iast hJ hW (ma64 hT) q3a q3b (by decide) q5 dX11_nameAt_64 (fun cs hW => ?_)
    obtain ⟨S4, hS4⟩ : ∃ x, x = pA S 64 (((8 * l2) + l3)) (l4) := ⟨_, rfl⟩
    rw [← hS4] at hW
    have hw := hw S4 hS4
    refine i_iinc (l := l3) dX11_nameAt_65 rfl (by decide) ?_
    refine z_loc (L' := [(0, .ref (G.1 + 54)), (1, .int (Int32.ofInt (l1))), (2, .int (Int32.ofInt (l2))), (3, .int (Int32.ofInt ((l3 + 1)))), (4, .int (Int32.ofInt (l4)))]) (List.forall_mem_cons.mpr ⟨rfl, (List.forall_mem_cons.mpr ⟨rfl, (List.forall_mem_cons.mpr ⟨rfl, (List.forall_mem_cons.mpr ⟨rfl, (List.forall_mem_cons.mpr ⟨rfl, (fun _ h => nomatch h)⟩)⟩)⟩)⟩)⟩) ?_
    refine z_aload_n dX11_nameAt_68 rfl rfl ?_
    refine z_iload_n dX11_nameAt_69 rfl rfl ?_
    refine z_iload_n dX11_nameAt_70 rfl rfl ?_
    refine i_iadd dX11_nameAt_71 ?_
    obtain ⟨q6, hw⟩ := hw
    have hX := lX11_signAt 0 (Nat.le_refl _) hJ hT hW q6 hw
    refine z_callV (As := [_]) eX11_signAt sX11_signAt lX11_182 rfl dX11_nameAt_72 (hW.1 _ _ hT.1) hX (Nat.le_trans (by decide) hd) rfl (Nat.le_of_ble_eq_true rfl) (fun r cs hp => ?_)
    obtain ⟨r7, S8, rfl, hw, hW⟩ := hp
    refine z_st (st' := [.int (Int32.ofInt (r7))]) rfl ?_
    refine z_istore dX11_nameAt_75 (by decide) ?_
    refine z_loc (L' := [(0, .ref (G.1 + 54)), (1, .int (Int32.ofInt (l1))), (2, .int (Int32.ofInt (l2))), (3, .int (Int32.ofInt ((l3 + 1)))), (4, .int (Int32.ofInt (r7)))]) (List.forall_mem_cons.mpr ⟨rfl, (List.forall_mem_cons.mpr ⟨rfl, (List.forall_mem_cons.mpr ⟨rfl, (List.forall_mem_cons.mpr ⟨rfl, (List.forall_mem_cons.mpr ⟨rfl, (fun _ h => nomatch h)⟩)⟩)⟩)⟩)⟩) ?_
    refine z_goto (tgt := 9) dX11_nameAt_77 (by decide) ?_
    refine z_loc (L' := [(0, .ref (G.1 + 54)), (1, .int (Int32.ofInt (l1))), (2, .int (Int32.ofInt (l2))), (3, .int (Int32.ofInt ((l3 + 1)))), (4, .int (Int32.ofInt (r7)))]) (List.forall_mem_cons.mpr ⟨rfl, (List.forall_mem_cons.mpr ⟨rfl, (List.forall_mem_cons.mpr ⟨rfl, (List.forall_mem_cons.mpr ⟨rfl, (List.forall_mem_cons.mpr ⟨rfl, (fun _ h => nomatch h)⟩)⟩)⟩)⟩)⟩) ?_
    exact hB9 _ _ _ _ _ _ hw hW
  · have hw := hw.2 h1
    refine z_bipush (v := Int32.ofInt (-10)) dX11_nameAt_49 (by decide) ?_
    exact z_ireturn dX11_nameAt_51 rfl rfl (hP _ _ _ hw hW)
def wX11_nameAt_80 (l2 l3 : Int) (S : St) (K : Int → St → Prop) : Prop := ((0 : Int) ≤ l2 ∧ l2 < (30 : Int) ∧ (iv 0 8 (l3) ∧ (∀ S2, S2 = pA S 63 (l2) (l3) → ((¬ l3 = 0 → K (l3) S2) ∧ ((¬ (¬ l3 = 0)) → K ((-2)) S2)))))
set_option maxRecDepth 100000 in
set_option maxHeartbeats 4000000 in
theorem bX11_nameAt_80 {G : xG} {sh : Nat → Option Sh} {J : St → List va_E → Prop} {d : Nat} {Post : xP} {l2 l3 : Int} {S : St} {cs : List va_E} {K : Int → St → Prop} (hd : 1 ≤ d) (hJ : Stb sh J) (hT : isM sh) (hW : Wd G sh mT J S cs) (hP : ∀ (v : Int) (S : St) (cs : List va_E), K v S → Wd G sh mT J S cs → Post (some (.int (Int32.ofInt v))) cs)  (hw : wX11_nameAt_80 l2 l3 S K ) : Z (RX11, cX11_nameAt, 5, some .int, false) G d Post 80 [(0, .ref (G.1 + 54)), (2, .int (Int32.ofInt (l2))), (3, .int (Int32.ofInt (l3)))] [] cs := by
  unfold wX11_nameAt_80 at hw
  refine z_aload_n dX11_nameAt_80 rfl rfl ?_
  refine g_getR hW hT.1 mr10 kX11 fX11_35 dX11_nameAt_81 ?_
  refine z_iload_n dX11_nameAt_84 rfl rfl ?_
  refine z_iload_n dX11_nameAt_85 rfl rfl ?_
  obtain ⟨q1a, q1b, hw⟩ := hw
  obtain ⟨q3, hw⟩ := hw
  refine g_iast hJ hW (ma63 hT) q1a q1b (by decide) q3 dX11_nameAt_86 (fun cs hW => ?_)
  obtain ⟨S2, hS2⟩ : ∃ x, x = pA S 63 (l2) (l3) := ⟨_, rfl⟩
  rw [← hS2] at hW
  have hw := hw S2 hS2
  refine z_iload_n dX11_nameAt_87 rfl rfl ?_
  refine i_if_ne (tgt := 96) dX11_nameAt_88 (by decide) (rngq q3 (by decide) (by decide)) (fun h4 => ?_) (fun h4 => ?_)
  · have hw := hw.1 h4
    refine z_iload_n dX11_nameAt_96 rfl rfl ?_
    exact z_ireturn dX11_nameAt_97 rfl rfl (hP _ _ _ hw hW)
  · have hw := hw.2 h4
    refine z_bipush (v := Int32.ofInt (-2)) dX11_nameAt_91 (by decide) ?_
    refine z_goto (tgt := 97) dX11_nameAt_93 (by decide) ?_
    exact z_ireturn dX11_nameAt_97 rfl rfl (hP _ _ _ hw hW)
def wX11_nameAt_9' (l1 l2 l3 l4 : Int) (S : St) (K : Int → St → Prop) (B9 : Int → Int → Int → Int → St → Prop) : Prop := (rng (l4) ∧ (wX11_isLetter (l4) S (fun r2 S3 => (rng (r2) ∧ ((¬ r2 = 0 → wX11_nameAt_43 (l1) (l2) (l3) (l4) S3 K B9) ∧ ((¬ (¬ r2 = 0)) → ((l4 = 95 → wX11_nameAt_43 (l1) (l2) (l3) (l4) S3 K B9) ∧ ((¬ (l4 = 95)) → ((l4 = 36 → wX11_nameAt_43 (l1) (l2) (l3) (l4) S3 K B9) ∧ ((¬ (l4 = 36)) → (rng (l3) ∧ ((l3 ≤ 0 → wX11_nameAt_80 (l2) (l3) S3 K) ∧ ((¬ (l3 ≤ 0)) → (wX11_isDigit (l4) S3 (fun r10 S11 => (rng (r10) ∧ ((r10 = 0 → wX11_nameAt_80 (l2) (l3) S11 K) ∧ ((¬ (r10 = 0)) → wX11_nameAt_43 (l1) (l2) (l3) (l4) S11 K B9))))))))))))))))))
set_option maxRecDepth 100000 in
set_option maxHeartbeats 4000000 in
theorem bX11_nameAt_9' {G : xG} {sh : Nat → Option Sh} {J : St → List va_E → Prop} {d : Nat} {Post : xP} {l1 l2 l3 l4 : Int} {S : St} {cs : List va_E} {K : Int → St → Prop} {B9 : Int → Int → Int → Int → St → Prop} (hd : 1 ≤ d) (hJ : Stb sh J) (hT : isM sh) (hW : Wd G sh mT J S cs) (hP : ∀ (v : Int) (S : St) (cs : List va_E), K v S → Wd G sh mT J S cs → Post (some (.int (Int32.ofInt v))) cs) (hB9 : ∀ (l1 : Int) (l2 : Int) (l3 : Int) (l4 : Int) (S : St) (cs : List va_E), B9 l1 l2 l3 l4 S → Wd G sh mT J S cs → Z (RX11, cX11_nameAt, 5, some .int, false) G d Post 9 [(0, .ref (G.1 + 54)), (1, .int (Int32.ofInt (l1))), (2, .int (Int32.ofInt (l2))), (3, .int (Int32.ofInt (l3))), (4, .int (Int32.ofInt (l4)))] [] cs) (hw : wX11_nameAt_9' l1 l2 l3 l4 S K B9) : Z (RX11, cX11_nameAt, 5, some .int, false) G d Post 9 [(0, .ref (G.1 + 54)), (1, .int (Int32.ofInt (l1))), (2, .int (Int32.ofInt (l2))), (3, .int (Int32.ofInt (l3))), (4, .int (Int32.ofInt (l4)))] [] cs := by
  unfold wX11_nameAt_9' at hw
  refine z_iload dX11_nameAt_9 rfl ?_
  obtain ⟨q1, hw⟩ := hw
  have hX := lX11_isLetter 0 (Nat.le_refl _) hJ hT hW q1 hw
  refine z_callS (As := [_]) eX11_isLetter sX11_isLetter lX11_186 dX11_nameAt_11 hX (Nat.le_trans (by decide) hd) rfl (Nat.le_of_ble_eq_true rfl) (fun r cs hp => ?_)
  obtain ⟨r2, S3, rfl, hw, hW⟩ := hp
  refine z_st (st' := [.int (Int32.ofInt (r2))]) rfl ?_
  obtain ⟨q5, hw⟩ := hw
  refine i_if_ne (tgt := 43) dX11_nameAt_14 (by decide) q5 (fun h4 => ?_) (fun h4 => ?_)
  · have hw := hw.1 h4
    refine z_loc (L' := [(0, .ref (G.1 + 54)), (1, .int (Int32.ofInt (l1))), (2, .int (Int32.ofInt (l2))), (3, .int (Int32.ofInt (l3))), (4, .int (Int32.ofInt (l4)))]) (List.forall_mem_cons.mpr ⟨rfl, (List.forall_mem_cons.mpr ⟨rfl, (List.forall_mem_cons.mpr ⟨rfl, (List.forall_mem_cons.mpr ⟨rfl, (List.forall_mem_cons.mpr ⟨rfl, (fun _ h => nomatch h)⟩)⟩)⟩)⟩)⟩) ?_
    exact bX11_nameAt_43 hd hJ hT hW hP hB9 hw
  · have hw := hw.2 h4
    refine z_iload dX11_nameAt_17 rfl ?_
    refine z_bipush (v := Int32.ofInt 95) dX11_nameAt_19 (by decide) ?_
    refine i_icmp_eq (tgt := 43) dX11_nameAt_21 (by decide) q1 ⟨by decide, by decide⟩ (fun h6 => ?_) (fun h6 => ?_)
    · have hw := hw.1 h6
      refine z_loc (L' := [(0, .ref (G.1 + 54)), (1, .int (Int32.ofInt (l1))), (2, .int (Int32.ofInt (l2))), (3, .int (Int32.ofInt (l3))), (4, .int (Int32.ofInt (l4)))]) (List.forall_mem_cons.mpr ⟨rfl, (List.forall_mem_cons.mpr ⟨rfl, (List.forall_mem_cons.mpr ⟨rfl, (List.forall_mem_cons.mpr ⟨rfl, (List.forall_mem_cons.mpr ⟨rfl, (fun _ h => nomatch h)⟩)⟩)⟩)⟩)⟩) ?_
      exact bX11_nameAt_43 hd hJ hT hW hP hB9 hw
    · have hw := hw.2 h6
      refine z_iload dX11_nameAt_24 rfl ?_
      refine z_bipush (v := Int32.ofInt 36) dX11_nameAt_26 (by decide) ?_
      refine i_icmp_eq (tgt := 43) dX11_nameAt_28 (by decide) q1 ⟨by decide, by decide⟩ (fun h7 => ?_) (fun h7 => ?_)
      · have hw := hw.1 h7
        refine z_loc (L' := [(0, .ref (G.1 + 54)), (1, .int (Int32.ofInt (l1))), (2, .int (Int32.ofInt (l2))), (3, .int (Int32.ofInt (l3))), (4, .int (Int32.ofInt (l4)))]) (List.forall_mem_cons.mpr ⟨rfl, (List.forall_mem_cons.mpr ⟨rfl, (List.forall_mem_cons.mpr ⟨rfl, (List.forall_mem_cons.mpr ⟨rfl, (List.forall_mem_cons.mpr ⟨rfl, (fun _ h => nomatch h)⟩)⟩)⟩)⟩)⟩) ?_
        exact bX11_nameAt_43 hd hJ hT hW hP hB9 hw
      · have hw := hw.2 h7
        refine z_iload_n dX11_nameAt_31 rfl rfl ?_
        obtain ⟨q9, hw⟩ := hw
        refine i_if_le (tgt := 80) dX11_nameAt_32 (by decide) q9 (fun h8 => ?_) (fun h8 => ?_)
        · have hw := hw.1 h8
          refine z_loc (L' := [(0, .ref (G.1 + 54)), (2, .int (Int32.ofInt (l2))), (3, .int (Int32.ofInt (l3)))]) (List.forall_mem_cons.mpr ⟨rfl, (List.forall_mem_cons.mpr ⟨rfl, (List.forall_mem_cons.mpr ⟨rfl, (fun _ h => nomatch h)⟩)⟩)⟩) ?_
          exact bX11_nameAt_80 hd hJ hT hW hP  hw
        · have hw := hw.2 h8
          refine z_iload dX11_nameAt_35 rfl ?_
          have hX := lX11_isDigit 0 (Nat.le_refl _) hJ hT hW q1 hw
          refine z_callS (As := [_]) eX11_isDigit sX11_isDigit lX11_189 dX11_nameAt_37 hX (Nat.le_trans (by decide) hd) rfl (Nat.le_of_ble_eq_true rfl) (fun r cs hp => ?_)
          obtain ⟨r10, S11, rfl, hw, hW⟩ := hp
          refine z_st (st' := [.int (Int32.ofInt (r10))]) rfl ?_
          obtain ⟨q13, hw⟩ := hw
          refine i_if_eq (tgt := 80) dX11_nameAt_40 (by decide) q13 (fun h12 => ?_) (fun h12 => ?_)
          · have hw := hw.1 h12
            refine z_loc (L' := [(0, .ref (G.1 + 54)), (2, .int (Int32.ofInt (l2))), (3, .int (Int32.ofInt (l3)))]) (List.forall_mem_cons.mpr ⟨rfl, (List.forall_mem_cons.mpr ⟨rfl, (List.forall_mem_cons.mpr ⟨rfl, (fun _ h => nomatch h)⟩)⟩)⟩) ?_
            exact bX11_nameAt_80 hd hJ hT hW hP  hw
          · have hw := hw.2 h12
            refine z_loc (L' := [(0, .ref (G.1 + 54)), (1, .int (Int32.ofInt (l1))), (2, .int (Int32.ofInt (l2))), (3, .int (Int32.ofInt (l3))), (4, .int (Int32.ofInt (l4)))]) (List.forall_mem_cons.mpr ⟨rfl, (List.forall_mem_cons.mpr ⟨rfl, (List.forall_mem_cons.mpr ⟨rfl, (List.forall_mem_cons.mpr ⟨rfl, (List.forall_mem_cons.mpr ⟨rfl, (fun _ h => nomatch h)⟩)⟩)⟩)⟩)⟩) ?_
            exact bX11_nameAt_43 hd hJ hT hW hP hB9 hw
def wX11_nameAt_9 (l1 l2 l3 l4 : Int) (S : St) (K : Int → St → Prop) : Prop := ∃ (Iv : Int → Int → Int → Int → St → Prop) (mu : Int → Int → Int → Int → St → Nat), Iv l1 l2 l3 l4 S ∧ ∀ (l1 l2 l3 l4 : Int) (S : St), Iv l1 l2 l3 l4 S → wX11_nameAt_9' l1 l2 l3 l4 S K  (fun ml1 ml2 ml3 ml4 T => Iv ml1 ml2 ml3 ml4 T ∧ mu ml1 ml2 ml3 ml4 T < mu l1 l2 l3 l4 S)
set_option maxRecDepth 100000 in
set_option maxHeartbeats 4000000 in
theorem bX11_nameAt_9 {G : xG} {sh : Nat → Option Sh} {J : St → List va_E → Prop} {d : Nat} {Post : xP} {l1 l2 l3 l4 : Int} {S : St} {cs : List va_E} {K : Int → St → Prop} (hd : 1 ≤ d) (hJ : Stb sh J) (hT : isM sh) (hW : Wd G sh mT J S cs) (hP : ∀ (v : Int) (S : St) (cs : List va_E), K v S → Wd G sh mT J S cs → Post (some (.int (Int32.ofInt v))) cs)  (hw : wX11_nameAt_9 l1 l2 l3 l4 S K ) : Z (RX11, cX11_nameAt, 5, some .int, false) G d Post 9 [(0, .ref (G.1 + 54)), (1, .int (Int32.ofInt (l1))), (2, .int (Int32.ofInt (l2))), (3, .int (Int32.ofInt (l3))), (4, .int (Int32.ofInt (l4)))] [] cs := by
  unfold wX11_nameAt_9 at hw
  obtain ⟨Iv, mu, h0, hs⟩ := hw
  have key : ∀ (n : Nat) (l1 l2 l3 l4 : Int) (S : St) (cs : List va_E), mu l1 l2 l3 l4 S < n → Iv l1 l2 l3 l4 S → Wd G sh mT J S cs → Z (RX11, cX11_nameAt, 5, some .int, false) G d Post 9 [(0, .ref (G.1 + 54)), (1, .int (Int32.ofInt (l1))), (2, .int (Int32.ofInt (l2))), (3, .int (Int32.ofInt (l3))), (4, .int (Int32.ofInt (l4)))] [] cs := by
    intro n
    induction n with
    | zero => intro l1 l2 l3 l4 S cs hn; exact absurd hn (Nat.not_lt_zero _)
    | succ n ih =>
      intro l1 l2 l3 l4 S cs hn hI hW
      exact bX11_nameAt_9' hd hJ hT hW hP  (fun l1 l2 l3 l4 S cs hb hW => ih l1 l2 l3 l4 S cs (Nat.lt_of_lt_of_le hb.2 (Nat.le_of_lt_succ hn)) hb.1 hW) (hs l1 l2 l3 l4 S hI)
  exact key _ _ _ _ _ _ _ (Nat.lt_succ_self _) h0 hW
def wX11_nameAt (a1 a2 : Int) (S : St) (K : Int → St → Prop) : Prop := rng a1 → rng a2 → (wX11_signAt (a1) S (fun r1 S2 => wX11_nameAt_9 (a1) (a2) (0) (r1) S2 K))
set_option maxRecDepth 100000 in
set_option maxHeartbeats 4000000 in
theorem lX11_nameAt {G : xG} {sh : Nat → Option Sh} {J : St → List va_E → Prop} {a1 a2 : Int} {S : St} {cs : List va_E} {K : Int → St → Prop} (d : Nat) (hd : 1 ≤ d) (hJ : Stb sh J) (hT : isM sh) (hW : Wd G sh mT J S cs) (g1 : rng a1) (g2 : rng a2) (hw : wX11_nameAt a1 a2 S K) : X G yX11_nameAt cX11_nameAt 5 (some .int) d [.ref (G.1 + 54), .int (Int32.ofInt a1), .int (Int32.ofInt a2)] cs (qI G sh mT J K) := by
  refine X.of false (by decide +kernel) (by decide) (Nat.le_of_ble_eq_true rfl) ?_
  show Z (RX11, cX11_nameAt, 5, some .int, false) G d _ 0 [(0, .ref (G.1 + 54)), (1, .int (Int32.ofInt a1)), (2, .int (Int32.ofInt a2))] [] cs
  have hP : ∀ (v : Int) (S : St) (cs : List va_E), K v S → Wd G sh mT J S cs → qI G sh mT J K (some (.int (Int32.ofInt v))) cs := fun v S cs a b => ⟨v, S, rfl, a, b⟩
  unfold wX11_nameAt at hw
  have hw := hw g1 g2
  refine z_iconst (v := Int32.ofInt 0) dX11_nameAt_0 rfl ?_
  refine z_istore_n dX11_nameAt_1 rfl (by decide) ?_
  refine z_loc (L' := [(0, .ref (G.1 + 54)), (1, .int (Int32.ofInt (a1))), (2, .int (Int32.ofInt (a2))), (3, .int (Int32.ofInt (0)))]) (List.forall_mem_cons.mpr ⟨rfl, (List.forall_mem_cons.mpr ⟨rfl, (List.forall_mem_cons.mpr ⟨rfl, (List.forall_mem_cons.mpr ⟨rfl, (fun _ h => nomatch h)⟩)⟩)⟩)⟩) ?_
  refine z_aload_n dX11_nameAt_2 rfl rfl ?_
  refine z_iload_n dX11_nameAt_3 rfl rfl ?_
  have hX := lX11_signAt 0 (Nat.le_refl _) hJ hT hW g1 hw
  refine z_callV (As := [_]) eX11_signAt sX11_signAt lX11_182 rfl dX11_nameAt_4 (hW.1 _ _ hT.1) hX (Nat.le_trans (by decide) hd) rfl (Nat.le_of_ble_eq_true rfl) (fun r cs hp => ?_)
  obtain ⟨r1, S2, rfl, hw, hW⟩ := hp
  refine z_st (st' := [.int (Int32.ofInt (r1))]) rfl ?_
  refine z_istore dX11_nameAt_7 (by decide) ?_
  refine z_loc (L' := [(0, .ref (G.1 + 54)), (1, .int (Int32.ofInt (a1))), (2, .int (Int32.ofInt (a2))), (3, .int (Int32.ofInt (0))), (4, .int (Int32.ofInt (r1)))]) (List.forall_mem_cons.mpr ⟨rfl, (List.forall_mem_cons.mpr ⟨rfl, (List.forall_mem_cons.mpr ⟨rfl, (List.forall_mem_cons.mpr ⟨rfl, (List.forall_mem_cons.mpr ⟨rfl, (fun _ h => nomatch h)⟩)⟩)⟩)⟩)⟩) ?_
  refine z_loc (L' := [(0, .ref (G.1 + 54)), (1, .int (Int32.ofInt (a1))), (2, .int (Int32.ofInt (a2))), (3, .int (Int32.ofInt (0))), (4, .int (Int32.ofInt (r1)))]) (List.forall_mem_cons.mpr ⟨rfl, (List.forall_mem_cons.mpr ⟨rfl, (List.forall_mem_cons.mpr ⟨rfl, (List.forall_mem_cons.mpr ⟨rfl, (List.forall_mem_cons.mpr ⟨rfl, (fun _ h => nomatch h)⟩)⟩)⟩)⟩)⟩) ?_
  exact bX11_nameAt_9 hd hJ hT hW hP  hw

