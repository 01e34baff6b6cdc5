def wX11_isObject (a1 a2 : Int) (S : St) (K : Int → St → Prop) : Prop := rng a1 → rng a2 → ((a2 < 0 → K (0) S) ∧ ((¬ (a2 < 0)) → ((0 : Int) ≤ a1 ∧ a1 < (3 : Int) ∧ (iv 0 30 (S.2 67 (a1)) → ((S.2 67 (a1) ≤ a2 → K (0) S) ∧ ((¬ (S.2 67 (a1) ≤ a2)) → K (1) S))))))
set_option maxRecDepth 100000 in
set_option maxHeartbeats 4000000 in
theorem lX11_isObject {G : xG} {sh : Nat → Option Sh} {J : St → List va_E → Prop} {a1 a2 : Int} {S : St} {cs : List va_E} {K : Int → St → Prop} (d : Nat) (hd : 0 ≤ d) (hJ : Stb sh J) (hT : isM sh) (hW : Wd G sh mT J S cs) (g1 : rng a1) (g2 : rng a2) (hw : wX11_isObject a1 a2 S K) : X G yX11_isObject cX11_isObject 3 (some .boolean) d [.ref (G.1 + 54), .int (Int32.ofInt a1), .int (Int32.ofInt a2)] cs (qI G sh mT J K) := by
  refine X.of false (by decide +kernel) (by decide) (Nat.le_of_ble_eq_true rfl) ?_
  show Z (RX11, cX11_isObject, 3, some .boolean, false) G d _ 0 [(0, .ref (G.1 + 54)), (1, .int (Int32.ofInt a1)), (2, .int (Int32.ofInt a2))] [] cs
  have hP : ∀ (v : Int) (S : St) (cs : List va_E), K v S → Wd G sh mT J S cs → qI G sh mT J K (some (.int (Int32.ofInt v))) cs := fun v S cs a b => ⟨v, S, rfl, a, b⟩
  unfold wX11_isObject at hw
  have hw := hw g1 g2
  refine z_iload_n dX11_isObject_0 rfl rfl ?_
  refine i_if_lt (tgt := 18) dX11_isObject_1 (by decide) g2 (fun h1 => ?_) (fun h1 => ?_)
  · have hw := hw.1 h1
    refine z_iconst (v := Int32.ofInt 0) dX11_isObject_18 rfl ?_
    exact z_ireturn dX11_isObject_19 rfl (nar01 (by decide)) (hP _ _ _ hw hW)
  · have hw := hw.2 h1
    refine z_iload_n dX11_isObject_4 rfl rfl ?_
    refine z_aload_n dX11_isObject_5 rfl rfl ?_
    refine g_getR hW hT.1 mr14 kX11 fX11_47 dX11_isObject_6 ?_
    refine z_iload_n dX11_isObject_9 rfl rfl ?_
    obtain ⟨q2a, q2b, hw⟩ := hw
    have q3 : iv 0 30 (S.2 67 (a1)) := mA67 hW _
    have hw := hw q3
    refine g_iald hW (ma67 hT) q2a q2b (by decide) dX11_isObject_10 ?_
    refine i_icmp_ge (tgt := 18) dX11_isObject_11 (by decide) g2 (rngq q3 (by decide) (by decide)) (fun h4 => ?_) (fun h4 => ?_)
    · have hw := hw.1 h4
      refine z_iconst (v := Int32.ofInt 0) dX11_isObject_18 rfl ?_
      exact z_ireturn dX11_isObject_19 rfl (nar01 (by decide)) (hP _ _ _ hw hW)
    · have hw := hw.2 h4
      refine z_iconst (v := Int32.ofInt 1) dX11_isObject_14 rfl ?_
      refine z_goto (tgt := 19) dX11_isObject_15 (by decide) ?_
      exact z_ireturn dX11_isObject_19 rfl (nar01 (by decide)) (hP _ _ _ hw hW)

def wX11_in (a1 a2 a3 : Int) (S : St) (K : Int → St → Prop) : Prop := rng a1 → rng a2 → rng a3 → ((a1 < a2 → K (0) S) ∧ ((¬ (a1 < a2)) → ((a3 < a1 → K (0) S) ∧ ((¬ (a3 < a1)) → K (1) S))))
set_option maxRecDepth 100000 in
set_option maxHeartbeats 4000000 in
theorem lX11_in {G : xG} {sh : Nat → Option Sh} {J : St → List va_E → Prop} {a1 a2 a3 : Int} {S : St} {cs : List va_E} {K : Int → St → Prop} (d : Nat) (hd : 0 ≤ d) (hJ : Stb sh J) (hT : isM sh) (hW : Wd G sh mT J S cs) (g1 : rng a1) (g2 : rng a2) (g3 : rng a3) (hw : wX11_in a1 a2 a3 S K) : X G yX11_in cX11_in 3 (some .boolean) d [.int (Int32.ofInt a1), .int (Int32.ofInt a2), .int (Int32.ofInt a3)] cs (qI G sh mT J K) := by
  refine X.of false (by decide +kernel) (by decide) (Nat.le_of_ble_eq_true rfl) ?_
  show Z (RX11, cX11_in, 3, some .boolean, false) G d _ 0 [(0, .int (Int32.ofInt a1)), (1, .int (Int32.ofInt a2)), (2, .int (Int32.ofInt a3))] [] cs
  have hP : ∀ (v : Int) (S : St) (cs : List va_E), K v S → Wd G sh mT J S cs → qI G sh mT J K (some (.int (Int32.ofInt v))) cs := fun v S cs a b => ⟨v, S, rfl, a, b⟩
  unfold wX11_in at hw
  have hw := hw g1 g2 g3
  refine z_iload_n dX11_in_0 rfl rfl ?_
  refine z_iload_n dX11_in_1 rfl rfl ?_
  refine i_icmp_lt (tgt := 14) dX11_in_2 (by decide) g1 g2 (fun h1 => ?_) (fun h1 => ?_)
  · have hw := hw.1 h1
    refine z_iconst (v := Int32.ofInt 0) dX11_in_14 rfl ?_
    exact z_ireturn dX11_in_15 rfl (nar01 (by decide)) (hP _ _ _ hw hW)
  · have hw := hw.2 h1
    refine z_iload_n dX11_in_5 rfl rfl ?_
    refine z_iload_n dX11_in_6 rfl rfl ?_
    refine i_icmp_gt (tgt := 14) dX11_in_7 (by decide) g1 g3 (fun h2 => ?_) (fun h2 => ?_)
    · have hw := hw.1 h2
      refine z_iconst (v := Int32.ofInt 0) dX11_in_14 rfl ?_
      exact z_ireturn dX11_in_15 rfl (nar01 (by decide)) (hP _ _ _ hw hW)
    · have hw := hw.2 h2
      refine z_iconst (v := Int32.ofInt 1) dX11_in_10 rfl ?_
      refine z_goto (tgt := 15) dX11_in_11 (by decide) ?_
      exact z_ireturn dX11_in_15 rfl (nar01 (by decide)) (hP _ _ _ hw hW)

def wX11_kindAt (a1 a2 a3 : Int) (S : St) (K : Int → St → Prop) : Prop := rng a1 → rng a2 → rng a3 → (wX11_in (a1) (0) (1) S (fun r1 S2 => (rng (r1) ∧ ((r1 = 0 → K ((-1)) S2) ∧ ((¬ (r1 = 0)) → (wX11_isObject (a1) (a2) S2 (fun r5 S6 => (rng (r5) ∧ ((¬ r5 = 0 → ((0 : Int) ≤ ((30 * a1) + a2) ∧ ((30 * a1) + a2) < (90 : Int) ∧ (iv 0 5 (S6.2 68 (((30 * a1) + a2))) → ((0 : Int) ≤ S6.2 68 (((30 * a1) + a2)) ∧ S6.2 68 (((30 * a1) + a2)) < (6 : Int) ∧ (iv 0 4 (S6.2 56 (S6.2 68 (((30 * a1) + a2)))) → (rng ((S6.2 56 (S6.2 68 (((30 * a1) + a2))) - 1)) ∧ (wX11_in (a3) (0) ((S6.2 56 (S6.2 68 (((30 * a1) + a2))) - 1)) S6 (fun r14 S15 => (rng (r14) ∧ ((r14 = 0 → K ((-1)) S15) ∧ ((¬ (r14 = 0)) → ((0 : Int) ≤ ((4 * S6.2 68 (((30 * a1) + a2))) + a3) ∧ ((4 * S6.2 68 (((30 * a1) + a2))) + a3) < (24 : Int) ∧ (iv 0 3 (S15.2 59 (((4 * S6.2 68 (((30 * a1) + a2))) + a3))) → K (S15.2 59 (((4 * S6.2 68 (((30 * a1) + a2))) + a3))) S15))))))))))))) ∧ ((¬ (¬ r5 = 0)) → K ((-1)) S6))))))))))
set_option maxRecDepth 100000 in
set_option maxHeartbeats 4000000 in
theorem lX11_kindAt {G : xG} {sh : Nat → Option Sh} {J : St → List va_E → Prop} {a1 a2 a3 : Int} {S : St} {cs : List va_E} {K : Int → St → Prop} (d : Nat) (hd : 1 ≤ d) (hJ : Stb sh J) (hT : isM sh) (hW : Wd G sh mT J S cs) (g1 : rng a1) (g2 : rng a2) (g3 : rng a3) (hw : wX11_kindAt a1 a2 a3 S K) : X G yX11_kindAt cX11_kindAt 5 (some .int) d [.ref (G.1 + 54), .int (Int32.ofInt a1), .int (Int32.ofInt a2), .int (Int32.ofInt a3)] cs (qI G sh mT J K) := by
  refine X.of false (by decide +kernel) (by decide) (Nat.le_of_ble_eq_true rfl) ?_
  show Z (RX11, cX11_kindAt, 5, some .int, false) G d _ 0 [(0, .ref (G.1 + 54)), (1, .int (Int32.ofInt a1)), (2, .int (Int32.ofInt a2)), (3, .int (Int32.ofInt a3))] [] cs
  have hP : ∀ (v : Int) (S : St) (cs : List va_E), K v S → Wd G sh mT J S cs → qI G sh mT J K (some (.int (Int32.ofInt v))) cs := fun v S cs a b => ⟨v, S, rfl, a, b⟩
  unfold wX11_kindAt at hw
  have hw := hw g1 g2 g3
  refine z_iload_n dX11_kindAt_0 rfl rfl ?_
  refine z_iconst (v := Int32.ofInt 0) dX11_kindAt_1 rfl ?_
  refine z_iconst (v := Int32.ofInt 1) dX11_kindAt_2 rfl ?_
  have hX := lX11_in 0 (Nat.le_refl _) hJ hT hW g1 ⟨by decide, by decide⟩ ⟨by decide, by decide⟩ hw
  refine z_callS (As := [_, _, _]) eX11_in sX11_in lX11_174 dX11_kindAt_3 hX (Nat.le_trans (by decide) hd) rfl (Nat.le_of_ble_eq_true rfl) (fun r cs hp => ?_)
  obtain ⟨r1, S2, rfl, hw, hW⟩ := hp
  refine z_st (st' := [.int (Int32.ofInt (r1))]) rfl ?_
  obtain ⟨q4, hw⟩ := hw
  refine i_if_eq (tgt := 18) dX11_kindAt_6 (by decide) q4 (fun h3 => ?_) (fun h3 => ?_)
  · have hw := hw.1 h3
    refine z_iconst (v := Int32.ofInt (-1)) dX11_kindAt_18 rfl ?_
    exact z_ireturn dX11_kindAt_19 rfl rfl (hP _ _ _ hw hW)
  · have hw := hw.2 h3
    refine z_aload_n dX11_kindAt_9 rfl rfl ?_
    refine z_iload_n dX11_kindAt_10 rfl rfl ?_
    refine z_iload_n dX11_kindAt_11 rfl rfl ?_
    have hX := lX11_isObject 0 (Nat.le_refl _) hJ hT hW g1 g2 hw
    refine z_callV (As := [_, _]) eX11_isObject sX11_isObject lX11_247 rfl dX11_kindAt_12 (hW.1 _ _ hT.1) hX (Nat.le_trans (by decide) hd) rfl (Nat.le_of_ble_eq_true rfl) (fun r cs hp => ?_)
    obtain ⟨r5, S6, rfl, hw, hW⟩ := hp
    refine z_st (st' := [.int (Int32.ofInt (r5))]) rfl ?_
    obtain ⟨q8, hw⟩ := hw
    refine i_if_ne (tgt := 20) dX11_kindAt_15 (by decide) q8 (fun h7 => ?_) (fun h7 => ?_)
    · have hw := hw.1 h7
      refine z_aload_n dX11_kindAt_20 rfl rfl ?_
      refine g_getR hW hT.1 mr15 kX11 fX11_50 dX11_kindAt_21 ?_
      refine z_bipush (v := Int32.ofInt 30) dX11_kindAt_24 (by decide) ?_
      refine z_iload_n dX11_kindAt_26 rfl rfl ?_
      refine i_imul dX11_kindAt_27 ?_
      refine z_iload_n dX11_kindAt_28 rfl rfl ?_
      refine i_iadd dX11_kindAt_29 ?_
      obtain ⟨q9a, q9b, hw⟩ := hw
      have q10 : iv 0 5 (S6.2 68 (((30 * a1) + a2))) := mA68 hW _
      have hw := hw q10
      refine g_iald hW (ma68 hT) q9a q9b (by decide) dX11_kindAt_30 ?_
      refine z_istore dX11_kindAt_31 (by decide) ?_
      refine z_iload_n dX11_kindAt_33 rfl rfl ?_
      refine z_iconst (v := Int32.ofInt 0) dX11_kindAt_34 rfl ?_
      refine z_aload_n dX11_kindAt_35 rfl rfl ?_
      refine g_getR hW hT.1 mr3 kX11 fX11_13 dX11_kindAt_36 ?_
      refine z_iload dX11_kindAt_39 rfl ?_
      obtain ⟨q11a, q11b, hw⟩ := hw
      have q12 : iv 0 4 (S6.2 56 (S6.2 68 (((30 * a1) + a2)))) := mA56 hW _
      have hw := hw q12
      refine g_iald hW (ma56 hT) q11a q11b (by decide) dX11_kindAt_41 ?_
      refine z_iconst (v := Int32.ofInt 1) dX11_kindAt_42 rfl ?_
      refine i_isub dX11_kindAt_43 ?_
      obtain ⟨q13, hw⟩ := hw
      have hX := lX11_in 0 (Nat.le_refl _) hJ hT hW g3 ⟨by decide, by decide⟩ q13 hw
      refine z_callS (As := [_, _, _]) eX11_in sX11_in lX11_174 dX11_kindAt_44 hX (Nat.le_trans (by decide) hd) rfl (Nat.le_of_ble_eq_true rfl) (fun r cs hp => ?_)
      obtain ⟨r14, S15, rfl, hw, hW⟩ := hp
      refine z_st (st' := [.int (Int32.ofInt (r14))]) rfl ?_
      obtain ⟨q17, hw⟩ := hw
      refine i_if_eq (tgt := 64) dX11_kindAt_47 (by decide) q17 (fun h16 => ?_) (fun h16 => ?_)
      · have hw := hw.1 h16
        refine z_iconst (v := Int32.ofInt (-1)) dX11_kindAt_64 rfl ?_
        exact z_ireturn dX11_kindAt_65 rfl rfl (hP _ _ _ hw hW)
      · have hw := hw.2 h16
        refine z_aload_n dX11_kindAt_50 rfl rfl ?_
        refine g_getR hW hT.1 mr6 kX11 fX11_22 dX11_kindAt_51 ?_
        refine z_iconst (v := Int32.ofInt 4) dX11_kindAt_54 rfl ?_
        refine z_iload dX11_kindAt_55 rfl ?_
        refine i_imul dX11_kindAt_57 ?_
        refine z_iload_n dX11_kindAt_58 rfl rfl ?_
        refine i_iadd dX11_kindAt_59 ?_
        obtain ⟨q18a, q18b, hw⟩ := hw
        have q19 : iv 0 3 (S15.2 59 (((4 * S6.2 68 (((30 * a1) + a2))) + a3))) := mA59 hW _
        have hw := hw q19
        refine g_iald hW (ma59 hT) q18a q18b (by decide) dX11_kindAt_60 ?_
        refine z_goto (tgt := 65) dX11_kindAt_61 (by decide) ?_
        exact z_ireturn dX11_kindAt_65 rfl rfl (hP _ _ _ hw hW)
    · have hw := hw.2 h7
      refine z_iconst (v := Int32.ofInt (-1)) dX11_kindAt_18 rfl ?_
      exact z_ireturn dX11_kindAt_19 rfl rfl (hP _ _ _ hw hW)

def wX11_add (a1 a2 a3 : Int) (S : St) (K : Int → St → Prop) : Prop := rng a1 → rng a2 → rng a3 → (wX11_kindAt (0) (a1) (a2) S (fun r1 S2 => (rng (r1) ∧ ((¬ r1 = 3 → K ((-1)) S2) ∧ ((¬ (¬ r1 = 3)) → (wX11_isObject (0) (a3) S2 (fun r5 S6 => (rng (r5) ∧ ((r5 = 0 → K ((-1)) S6) ∧ ((¬ (r5 = 0)) → ((0 : Int) ≤ ((4 * a1) + a2) ∧ ((4 * a1) + a2) < (360 : Int) ∧ (iv (-2147483648) 2147483647 (S6.2 69 (((4 * a1) + a2))) → ((¬ S6.2 69 (((4 * a1) + a2)) = 8 → ((0 : Int) ≤ ((4 * a1) + a2) ∧ ((4 * a1) + a2) < (360 : Int) ∧ (iv (-2147483648) 2147483647 (S6.2 69 (((4 * a1) + a2))) → ((0 : Int) ≤ ((20 * ((4 * a1) + a2)) + S6.2 69 (((4 * a1) + a2))) ∧ ((20 * ((4 * a1) + a2)) + S6.2 69 (((4 * a1) + a2))) < (7200 : Int) ∧ (iv (-2147483648) 2147483647 (a3) ∧ (∀ S15, S15 = pA S6 70 (((20 * ((4 * a1) + a2)) + S6.2 69 (((4 * a1) + a2)))) (a3) → ((0 : Int) ≤ ((4 * a1) + a2) ∧ ((4 * a1) + a2) < (360 : Int) ∧ (iv (-2147483648) 2147483647 (S15.2 69 (((4 * a1) + a2))) → ((0 : Int) ≤ ((4 * a1) + a2) ∧ ((4 * a1) + a2) < (360 : Int) ∧ (iv (-2147483648) 2147483647 ((S15.2 69 (((4 * a1) + a2)) + 1)) ∧ (∀ S20, S20 = pA S15 69 (((4 * a1) + a2)) ((S15.2 69 (((4 * a1) + a2)) + 1)) → ((0 : Int) ≤ ((4 * a1) + a2) ∧ ((4 * a1) + a2) < (360 : Int) ∧ (iv (-2147483648) 2147483647 (S20.2 69 (((4 * a1) + a2))) → K (S20.2 69 (((4 * a1) + a2))) S20))))))))))))) ∧ ((¬ (¬ S6.2 69 (((4 * a1) + a2)) = 8)) → K ((-1)) S6))))))))))))))
set_option maxRecDepth 100000 in
set_option maxHeartbeats 4000000 in
theorem lX11_add {G : xG} {sh : Nat → Option Sh} {J : St → List va_E → Prop} {a1 a2 a3 : Int} {S : St} {cs : List va_E} {K : Int → St → Prop} (d : Nat) (hd : 2 ≤ d) (hJ : Stb sh J) (hT : isM sh) (hW : Wd G sh mT J S cs) (g1 : rng a1) (g2 : rng a2) (g3 : rng a3) (hw : wX11_add a1 a2 a3 S K) : X G yX11_add cX11_add 5 (some .int) d [.ref (G.1 + 54), .int (Int32.ofInt a1), .int (Int32.ofInt a2), .int (Int32.ofInt a3)] cs (qI G sh mT J K) := by
  refine X.of false (by decide +kernel) (by decide) (Nat.le_of_ble_eq_true rfl) ?_
  show Z (RX11, cX11_add, 5, some .int, false) G d _ 0 [(0, .ref (G.1 + 54)), (1, .int (Int32.ofInt a1)), (2, .int (Int32.ofInt a2)), (3, .int (Int32.ofInt a3))] [] cs
  have hP : ∀ (v : Int) (S : St) (cs : List va_E), K v S → Wd G sh mT J S cs → qI G sh mT J K (some (.int (Int32.ofInt v))) cs := fun v S cs a b => ⟨v, S, rfl, a, b⟩
  unfold wX11_add at hw
  have hw := hw g1 g2 g3
  refine z_iconst (v := Int32.ofInt 4) dX11_add_0 rfl ?_
  refine z_iload_n dX11_add_1 rfl rfl ?_
  refine i_imul dX11_add_2 ?_
  refine z_iload_n dX11_add_3 rfl rfl ?_
  refine i_iadd dX11_add_4 ?_
  refine z_istore dX11_add_5 (by decide) ?_
  refine z_aload_n dX11_add_7 rfl rfl ?_
  refine z_iconst (v := Int32.ofInt 0) dX11_add_8 rfl ?_
  refine z_iload_n dX11_add_9 rfl rfl ?_
  refine z_iload_n dX11_add_10 rfl rfl ?_
  have hX := lX11_kindAt 1 (Nat.le_refl _) hJ hT hW ⟨by decide, by decide⟩ g1 g2 hw
  refine z_callV (As := [_, _, _]) eX11_kindAt sX11_kindAt lX11_253 rfl dX11_add_11 (hW.1 _ _ hT.1) hX (Nat.le_trans (by decide) hd) rfl (Nat.le_of_ble_eq_true rfl) (fun r cs hp => ?_)
  obtain ⟨r1, S2, rfl, hw, hW⟩ := hp
  refine z_st (st' := [.int (Int32.ofInt (r1))]) rfl ?_
  refine z_iconst (v := Int32.ofInt 3) dX11_add_14 rfl ?_
  obtain ⟨q4, hw⟩ := hw
  refine i_icmp_ne (tgt := 39) dX11_add_15 (by decide) q4 ⟨by decide, by decide⟩ (fun h3 => ?_) (fun h3 => ?_)
  · have hw := hw.1 h3
    refine z_iconst (v := Int32.ofInt (-1)) dX11_add_39 rfl ?_
    exact z_ireturn dX11_add_40 rfl rfl (hP _ _ _ hw hW)
  · have hw := hw.2 h3
    refine z_aload_n dX11_add_18 rfl rfl ?_
    refine z_iconst (v := Int32.ofInt 0) dX11_add_19 rfl ?_
    refine z_iload_n dX11_add_20 rfl rfl ?_
    have hX := lX11_isObject 0 (Nat.le_refl _) hJ hT hW ⟨by decide, by decide⟩ g3 hw
    refine z_callV (As := [_, _]) eX11_isObject sX11_isObject lX11_247 rfl dX11_add_21 (hW.1 _ _ hT.1) hX (Nat.le_trans (by decide) hd) rfl (Nat.le_of_ble_eq_true rfl) (fun r cs hp => ?_)
    obtain ⟨r5, S6, rfl, hw, hW⟩ := hp
    refine z_st (st' := [.int (Int32.ofInt (r5))]) rfl ?_
    obtain ⟨q8, hw⟩ := hw
    refine i_if_eq (tgt := 39) dX11_add_24 (by decide) q8 (fun h7 => ?_) (fun h7 => ?_)
    · have hw := hw.1 h7
      refine z_iconst (v := Int32.ofInt (-1)) dX11_add_39 rfl ?_
      exact z_ireturn dX11_add_40 rfl rfl (hP _ _ _ hw hW)
    · have hw := hw.2 h7
      refine z_aload_n dX11_add_27 rfl rfl ?_
      refine g_getR hW hT.1 mr16 kX11 fX11_53 dX11_add_28 ?_
      refine z_iload dX11_add_31 rfl ?_
      obtain ⟨q9a, q9b, hw⟩ := hw
      have q10 : iv (-2147483648) 2147483647 (S6.2 69 (((4 * a1) + a2))) := mA69 hW _
      have hw := hw q10
      refine g_iald hW (ma69 hT) q9a q9b (by decide) dX11_add_33 ?_
      refine z_bipush (v := Int32.ofInt 8) dX11_add_34 (by decide) ?_
      refine i_icmp_ne (tgt := 41) dX11_add_36 (by decide) (rngq q10 (by decide) (by decide)) ⟨by decide, by decide⟩ (fun h11 => ?_) (fun h11 => ?_)
      · have hw := hw.1 h11
        refine z_aload_n dX11_add_41 rfl rfl ?_
        refine g_getR hW hT.1 mr17 kX11 fX11_56 dX11_add_42 ?_
        refine z_bipush (v := Int32.ofInt 20) dX11_add_45 (by decide) ?_
        refine z_iload dX11_add_47 rfl ?_
        refine i_imul dX11_add_49 ?_
        refine z_aload_n dX11_add_50 rfl rfl ?_
        refine g_getR hW hT.1 mr16 kX11 fX11_53 dX11_add_51 ?_
        refine z_iload dX11_add_54 rfl ?_
        obtain ⟨q12a, q12b, hw⟩ := hw
        have q13 : iv (-2147483648) 2147483647 (S6.2 69 (((4 * a1) + a2))) := mA69 hW _
        have hw := hw q13
        refine g_iald hW (ma69 hT) q12a q12b (by decide) dX11_add_56 ?_
        refine i_iadd dX11_add_57 ?_
        refine z_iload_n dX11_add_58 rfl rfl ?_
        obtain ⟨q14a, q14b, hw⟩ := hw
        obtain ⟨q16, hw⟩ := hw
        refine g_iast hJ hW (ma70 hT) q14a q14b (by decide) q16 dX11_add_59 (fun cs hW => ?_)
        obtain ⟨S15, hS15⟩ : ∃ x, x = pA S6 70 (((20 * ((4 * a1) + a2)) + S6.2 69 (((4 * a1) + a2)))) (a3) := ⟨_, rfl⟩
        rw [← hS15] at hW
        have hw := hw S15 hS15
        refine z_aload_n dX11_add_60 rfl rfl ?_
        refine g_getR hW hT.1 mr16 kX11 fX11_53 dX11_add_61 ?_
        refine z_iload dX11_add_64 rfl ?_
        refine z_dup2 dX11_add_66 rfl rfl ?_
        obtain ⟨q17a, q17b, hw⟩ := hw
        have q18 : iv (-2147483648) 2147483647 (S15.2 69 (((4 * a1) + a2))) := mA69 hW _
        have hw := hw q18
        refine g_iald hW (ma69 hT) q17a q17b (by decide) dX11_add_67 ?_
        refine z_iconst (v := Int32.ofInt 1) dX11_add_68 rfl ?_
        refine i_iadd dX11_add_69 ?_
        obtain ⟨q19a, q19b, hw⟩ := hw
        obtain ⟨q21, hw⟩ := hw
        refine g_iast hJ hW (ma69 hT) q19a q19b (by decide) q21 dX11_add_70 (fun cs hW => ?_)
        obtain ⟨S20, hS20⟩ : ∃ x, x = pA S15 69 (((4 * a1) + a2)) ((S15.2 69 (((4 * a1) + a2)) + 1)) := ⟨_, rfl⟩
        rw [← hS20] at hW
        have hw := hw S20 hS20
        refine z_aload_n dX11_add_71 rfl rfl ?_
        refine g_getR hW hT.1 mr16 kX11 fX11_53 dX11_add_72 ?_
        refine z_iload dX11_add_75 rfl ?_
        obtain ⟨q22a, q22b, hw⟩ := hw
        have q23 : iv (-2147483648) 2147483647 (S20.2 69 (((4 * a1) + a2))) := mA69 hW _
        have hw := hw q23
        refine g_iald hW (ma69 hT) q22a q22b (by decide) dX11_add_77 ?_
        exact z_ireturn dX11_add_78 rfl rfl (hP _ _ _ hw hW)
      · have hw := hw.2 h11
        refine z_iconst (v := Int32.ofInt (-1)) dX11_add_39 rfl ?_
        exact z_ireturn dX11_add_40 rfl rfl (hP _ _ _ hw hW)

def wX11_areAlike_71 (l1 l2 l4 s0 : Int) (S : St) (K : Int → St → Prop) (B24 : Int → Int → Int → Int → St → Prop) : Prop := B24 (l1) (l2) (s0) ((l4 + 1)) S
set_option maxRecDepth 100000 in
set_option maxHeartbeats 4000000 in
theorem bX11_areAlike_71 {G : xG} {sh : Nat → Option Sh} {J : St → List va_E → Prop} {d : Nat} {Post : xP} {l1 l2 l4 s0 : Int} {S : St} {cs : List va_E} {K : Int → St → Prop} {B24 : Int → Int → Int → Int → St → Prop} (hd : 0 ≤ d) (hJ : Stb sh J) (hT : isM sh) (hW : Wd G sh mT J S cs) (hP : ∀ (v : Int) (S : St) (cs : List va_E), K v S → Wd G sh mT J S cs → Post (some (.int (Int32.ofInt v))) cs) (hB24 : ∀ (l1 : Int) (l2 : Int) (l3 : Int) (l4 : Int) (S : St) (cs : List va_E), B24 l1 l2 l3 l4 S → Wd G sh mT J S cs → Z (RX11, cX11_areAlike, 5, some .boolean, false) G d Post 24 [(0, .ref (G.1 + 54)), (1, .int (Int32.ofInt (l1))), (2, .int (Int32.ofInt (l2))), (3, .int (Int32.ofInt (l3))), (4, .int (Int32.ofInt (l4)))] [] cs) (hw : wX11_areAlike_71 l1 l2 l4 s0 S K B24) : Z (RX11, cX11_areAlike, 5, some .boolean, false) G d Post 71 [(0, .ref (G.1 + 54)), (1, .int (Int32.ofInt (l1))), (2, .int (Int32.ofInt (l2))), (4, .int (Int32.ofInt (l4)))] [.int (Int32.ofInt (s0))] cs := by
  unfold wX11_areAlike_71 at hw
  refine z_istore_n dX11_areAlike_71 rfl (by decide) ?_
  refine i_iinc (l := l4) dX11_areAlike_72 rfl (by decide) ?_
  refine z_goto (tgt := 24) dX11_areAlike_75 (by decide) ?_
  refine z_loc (L' := [(0, .ref (G.1 + 54)), (1, .int (Int32.ofInt (l1))), (2, .int (Int32.ofInt (l2))), (3, .int (Int32.ofInt (s0))), (4, .int (Int32.ofInt ((l4 + 1))))]) (List.forall_mem_cons.mpr ⟨rfl, (List.forall_mem_cons.mpr ⟨rfl, (List.forall_mem_cons.mpr ⟨rfl, (List.forall_mem_cons.mpr ⟨rfl, (List.forall_mem_cons.mpr ⟨rfl, (fun _ h => nomatch h)⟩)⟩)⟩)⟩)⟩) ?_
  exact hB24 _ _ _ _ _ _ hw hW
def wX11_areAlike_24' (l1 l2 l3 l4 : Int) (S : St) (K : Int → St → Prop) (B24 : Int → Int → Int → Int → St → Prop) : Prop := ((0 : Int) ≤ l1 ∧ l1 < (30 : Int) ∧ (iv 0 8 (S.2 63 (l1)) → (rng (l4) ∧ ((S.2 63 (l1) ≤ l4 → (iv 0 1 (l3) ∧ K (l3) S)) ∧ ((¬ (S.2 63 (l1) ≤ l4)) → (rng (l3) ∧ ((l3 = 0 → (iv 0 1 (l3) ∧ K (l3) S)) ∧ ((¬ (l3 = 0)) → ((0 : Int) ≤ ((8 * l1) + l4) ∧ ((8 * l1) + l4) < (240 : Int) ∧ (iv (-2147483648) 2147483647 (S.2 64 (((8 * l1) + l4))) → ((0 : Int) ≤ ((8 * l2) + l4) ∧ ((8 * l2) + l4) < (240 : Int) ∧ (iv (-2147483648) 2147483647 (S.2 64 (((8 * l2) + l4))) → ((¬ S.2 64 (((8 * l1) + l4)) = S.2 64 (((8 * l2) + l4)) → wX11_areAlike_71 (l1) (l2) (l4) (0) S K B24) ∧ ((¬ (¬ S.2 64 (((8 * l1) + l4)) = S.2 64 (((8 * l2) + l4)))) → wX11_areAlike_71 (l1) (l2) (l4) (1) S K B24))))))))))))))
set_option maxRecDepth 100000 in
set_option maxHeartbeats 4000000 in
theorem bX11_areAlike_24' {G : xG} {sh : Nat → Option Sh} {J : St → List va_E → Prop} {d : Nat} {Post : xP} {l1 l2 l3 l4 : Int} {S : St} {cs : List va_E} {K : Int → St → Prop} {B24 : Int → Int → Int → Int → St → Prop} (hd : 0 ≤ d) (hJ : Stb sh J) (hT : isM sh) (hW : Wd G sh mT J S cs) (hP : ∀ (v : Int) (S : St) (cs : List va_E), K v S → Wd G sh mT J S cs → Post (some (.int (Int32.ofInt v))) cs) (hB24 : ∀ (l1 : Int) (l2 : Int) (l3 : Int) (l4 : Int) (S : St) (cs : List va_E), B24 l1 l2 l3 l4 S → Wd G sh mT J S cs → Z (RX11, cX11_areAlike, 5, some .boolean, false) G d Post 24 [(0, .ref (G.1 + 54)), (1, .int (Int32.ofInt (l1))), (2, .int (Int32.ofInt (l2))), (3, .int (Int32.ofInt (l3))), (4, .int (Int32.ofInt (l4)))] [] cs) (hw : wX11_areAlike_24' l1 l2 l3 l4 S K B24) : Z (RX11, cX11_areAlike, 5, some .boolean, false) G d Post 24 [(0, .ref (G.1 + 54)), (1, .int (Int32.ofInt (l1))), (2, .int (Int32.ofInt (l2))), (3, .int (Int32.ofInt (l3))), (4, .int (Int32.ofInt (l4)))] [] cs := by
  unfold wX11_areAlike_24' at hw
  refine z_iload dX11_areAlike_24 rfl ?_
  refine z_aload_n dX11_areAlike_26 rfl rfl ?_
  refine g_getR hW hT.1 mr10 kX11 fX11_35 dX11_areAlike_27 ?_
  refine z_iload_n dX11_areAlike_30 rfl rfl ?_
  obtain ⟨q1a, q1b, hw⟩ := hw
  have q2 : iv 0 8 (S.2 63 (l1)) := mA63 hW _
  have hw := hw q2
  refine g_iald hW (ma63 hT) q1a q1b (by decide) dX11_areAlike_31 ?_
  obtain ⟨q4, hw⟩ := hw
  refine i_icmp_ge (tgt := 78) dX11_areAlike_32 (by decide) q4 (rngq q2 (by decide) (by decide)) (fun h3 => ?_) (fun h3 => ?_)
  · have hw := hw.1 h3
    refine z_iload_n dX11_areAlike_78 rfl rfl ?_
    obtain ⟨q5, hw⟩ := hw
    exact z_ireturn dX11_areAlike_79 rfl (nar01 (b01 q5)) (hP _ _ _ hw hW)
  · have hw := hw.2 h3
    refine z_iload_n dX11_areAlike_35 rfl rfl ?_
    obtain ⟨q7, hw⟩ := hw
    refine i_if_eq (tgt := 78) dX11_areAlike_36 (by decide) q7 (fun h6 => ?_) (fun h6 => ?_)
    · have hw := hw.1 h6
      refine z_iload_n dX11_areAlike_78 rfl rfl ?_
      obtain ⟨q8, hw⟩ := hw
      exact z_ireturn dX11_areAlike_79 rfl (nar01 (b01 q8)) (hP _ _ _ hw hW)
    · have hw := hw.2 h6
      refine z_aload_n dX11_areAlike_39 rfl rfl ?_
      refine g_getR hW hT.1 mr11 kX11 fX11_38 dX11_areAlike_40 ?_
      refine z_bipush (v := Int32.ofInt 8) dX11_areAlike_43 (by decide) ?_
      refine z_iload_n dX11_areAlike_45 rfl rfl ?_
      refine i_imul dX11_areAlike_46 ?_
      refine z_iload dX11_areAlike_47 rfl ?_
      refine i_iadd dX11_areAlike_49 ?_
      obtain ⟨q9a, q9b, hw⟩ := hw
      have q10 : iv (-2147483648) 2147483647 (S.2 64 (((8 * l1) + l4))) := mA64 hW _
      have hw := hw q10
      refine g_iald hW (ma64 hT) q9a q9b (by decide) dX11_areAlike_50 ?_
      refine z_aload_n dX11_areAlike_51 rfl rfl ?_
      refine g_getR hW hT.1 mr11 kX11 fX11_38 dX11_areAlike_52 ?_
      refine z_bipush (v := Int32.ofInt 8) dX11_areAlike_55 (by decide) ?_
      refine z_iload_n dX11_areAlike_57 rfl rfl ?_
      refine i_imul dX11_areAlike_58 ?_
      refine z_iload dX11_areAlike_59 rfl ?_
      refine i_iadd dX11_areAlike_61 ?_
      obtain ⟨q11a, q11b, hw⟩ := hw
      have q12 : iv (-2147483648) 2147483647 (S.2 64 (((8 * l2) + l4))) := mA64 hW _
      have hw := hw q12
      refine g_iald hW (ma64 hT) q11a q11b (by decide) dX11_areAlike_62 ?_
      refine i_icmp_ne (tgt := 70) dX11_areAlike_63 (by decide) (rngq q10 (by decide) (by decide)) (rngq q12 (by decide) (by decide)) (fun h13 => ?_) (fun h13 => ?_)
      · have hw := hw.1 h13
        refine z_iconst (v := Int32.ofInt 0) dX11_areAlike_70 rfl ?_
        refine z_loc (L' := [(0, .ref (G.1 + 54)), (1, .int (Int32.ofInt (l1))), (2, .int (Int32.ofInt (l2))), (4, .int (Int32.ofInt (l4)))]) (List.forall_mem_cons.mpr ⟨rfl, (List.forall_mem_cons.mpr ⟨rfl, (List.forall_mem_cons.mpr ⟨rfl, (List.forall_mem_cons.mpr ⟨rfl, (fun _ h => nomatch h)⟩)⟩)⟩)⟩) ?_
        exact bX11_areAlike_71 hd hJ hT hW hP hB24 hw
      · have hw := hw.2 h13
        refine z_iconst (v := Int32.ofInt 1) dX11_areAlike_66 rfl ?_
        refine z_goto (tgt := 71) dX11_areAlike_67 (by decide) ?_
        refine z_loc (L' := [(0, .ref (G.1 + 54)), (1, .int (Int32.ofInt (l1))), (2, .int (Int32.ofInt (l2))), (4, .int (Int32.ofInt (l4)))]) (List.forall_mem_cons.mpr ⟨rfl, (List.forall_mem_cons.mpr ⟨rfl, (List.forall_mem_cons.mpr ⟨rfl, (List.forall_mem_cons.mpr ⟨rfl, (fun _ h => nomatch h)⟩)⟩)⟩)⟩) ?_
        exact bX11_areAlike_71 hd hJ hT hW hP hB24 hw
def wX11_areAlike_24 (l1 l2 l3 l4 : Int) (S : St) (K : Int → St → Prop) : Prop := ∃ (Iv : Int → Int → Int → Int → St → Prop) (mu : Int → Int → Int → Int → St → Nat), Iv l1 l2 l3 l4 S ∧ ∀ (l1 l2 l3 l4 : Int) (S : St), Iv l1 l2 l3 l4 S → wX11_areAlike_24' l1 l2 l3 l4 S K  (fun ml1 ml2 ml3 ml4 T => Iv ml1 ml2 ml3 ml4 T ∧ mu ml1 ml2 ml3 ml4 T < mu l1 l2 l3 l4 S)
set_option maxRecDepth 100000 in
set_option maxHeartbeats 4000000 in
theorem bX11_areAlike_24 {G : xG} {sh : Nat → Option Sh} {J : St → List va_E → Prop} {d : Nat} {Post : xP} {l1 l2 l3 l4 : Int} {S : St} {cs : List va_E} {K : Int → St → Prop} (hd : 0 ≤ d) (hJ : Stb sh J) (hT : isM sh) (hW : Wd G sh mT J S cs) (hP : ∀ (v : Int) (S : St) (cs : List va_E), K v S → Wd G sh mT J S cs → Post (some (.int (Int32.ofInt v))) cs)  (hw : wX11_areAlike_24 l1 l2 l3 l4 S K ) : Z (RX11, cX11_areAlike, 5, some .boolean, false) G d Post 24 [(0, .ref (G.1 + 54)), (1, .int (Int32.ofInt (l1))), (2, .int (Int32.ofInt (l2))), (3, .int (Int32.ofInt (l3))), (4, .int (Int32.ofInt (l4)))] [] cs := by
  unfold wX11_areAlike_24 at hw
  obtain ⟨Iv, mu, h0, hs⟩ := hw
  have key : ∀ (n : Nat) (l1 l2 l3 l4 : Int) (S : St) (cs : List va_E), mu l1 l2 l3 l4 S < n → Iv l1 l2 l3 l4 S → Wd G sh mT J S cs → Z (RX11, cX11_areAlike, 5, some .boolean, false) G d Post 24 [(0, .ref (G.1 + 54)), (1, .int (Int32.ofInt (l1))), (2, .int (Int32.ofInt (l2))), (3, .int (Int32.ofInt (l3))), (4, .int (Int32.ofInt (l4)))] [] cs := by
    intro n
    induction n with
    | zero => intro l1 l2 l3 l4 S cs hn; exact absurd hn (Nat.not_lt_zero _)
    | succ n ih =>
      intro l1 l2 l3 l4 S cs hn hI hW
      exact bX11_areAlike_24' hd hJ hT hW hP  (fun l1 l2 l3 l4 S cs hb hW => ih l1 l2 l3 l4 S cs (Nat.lt_of_lt_of_le hb.2 (Nat.le_of_lt_succ hn)) hb.1 hW) (hs l1 l2 l3 l4 S hI)
  exact key _ _ _ _ _ _ _ (Nat.lt_succ_self _) h0 hW
def wX11_areAlike_20 (l1 l2 s0 : Int) (S : St) (K : Int → St → Prop) : Prop := wX11_areAlike_24 (l1) (l2) (s0) (0) S K
set_option maxRecDepth 100000 in
set_option maxHeartbeats 4000000 in
theorem bX11_areAlike_20 {G : xG} {sh : Nat → Option Sh} {J : St → List va_E → Prop} {d : Nat} {Post : xP} {l1 l2 s0 : Int} {S : St} {cs : List va_E} {K : Int → St → Prop} (hd : 0 ≤ d) (hJ : Stb sh J) (hT : isM sh) (hW : Wd G sh mT J S cs) (hP : ∀ (v : Int) (S : St) (cs : List va_E), K v S → Wd G sh mT J S cs → Post (some (.int (Int32.ofInt v))) cs)  (hw : wX11_areAlike_20 l1 l2 s0 S K ) : Z (RX11, cX11_areAlike, 5, some .boolean, false) G d Post 20 [(0, .ref (G.1 + 54)), (1, .int (Int32.ofInt (l1))), (2, .int (Int32.ofInt (l2)))] [.int (Int32.ofInt (s0))] cs := by
  unfold wX11_areAlike_20 at hw
  refine z_istore_n dX11_areAlike_20 rfl (by decide) ?_
  refine z_iconst (v := Int32.ofInt 0) dX11_areAlike_21 rfl ?_
  refine z_istore dX11_areAlike_22 (by decide) ?_
  refine z_loc (L' := [(0, .ref (G.1 + 54)), (1, .int (Int32.ofInt (l1))), (2, .int (Int32.ofInt (l2))), (3, .int (Int32.ofInt (s0))), (4, .int (Int32.ofInt (0)))]) (List.forall_mem_cons.mpr ⟨rfl, (List.forall_mem_cons.mpr ⟨rfl, (List.forall_mem_cons.mpr ⟨rfl, (List.forall_mem_cons.mpr ⟨rfl, (List.forall_mem_cons.mpr ⟨rfl, (fun _ h => nomatch h)⟩)⟩)⟩)⟩)⟩) ?_
  exact bX11_areAlike_24 hd hJ hT hW hP  hw
def wX11_areAlike (a1 a2 : Int) (S : St) (K : Int → St → Prop) : Prop := rng a1 → rng a2 → ((0 : Int) ≤ a1 ∧ a1 < (30 : Int) ∧ (iv 0 8 (S.2 63 (a1)) → ((0 : Int) ≤ a2 ∧ a2 < (30 : Int) ∧ (iv 0 8 (S.2 63 (a2)) → ((¬ S.2 63 (a1) = S.2 63 (a2) → wX11_areAlike_20 (a1) (a2) (0) S K) ∧ ((¬ (¬ S.2 63 (a1) = S.2 63 (a2))) → wX11_areAlike_20 (a1) (a2) (1) S K))))))
set_option maxRecDepth 100000 in
set_option maxHeartbeats 4000000 in
theorem lX11_areAlike {G : xG} {sh : Nat → Option Sh} {J : St → List va_E → Prop} {a1 a2 : Int} {S : St} {cs : List va_E} {K : Int → St → Prop} (d : Nat) (hd : 0 ≤ d) (hJ : Stb sh J) (hT : isM sh) (hW : Wd G sh mT J S cs) (g1 : rng a1) (g2 : rng a2) (hw : wX11_areAlike a1 a2 S K) : X G yX11_areAlike cX11_areAlike 5 (some .boolean) d [.ref (G.1 + 54), .int (Int32.ofInt a1), .int (Int32.ofInt a2)] cs (qI G sh mT J K) := by
  refine X.of false (by decide +kernel) (by decide) (Nat.le_of_ble_eq_true rfl) ?_
  show Z (RX11, cX11_areAlike, 5, some .boolean, false) G d _ 0 [(0, .ref (G.1 + 54)), (1, .int (Int32.ofInt a1)), (2, .int (Int32.ofInt a2))] [] cs
  have hP : ∀ (v : Int) (S : St) (cs : List va_E), K v S → Wd G sh mT J S cs → qI G sh mT J K (some (.int (Int32.ofInt v))) cs := fun v S cs a b => ⟨v, S, rfl, a, b⟩
  unfold wX11_areAlike at hw
  have hw := hw g1 g2
  refine z_aload_n dX11_areAlike_0 rfl rfl ?_
  refine g_getR hW hT.1 mr10 kX11 fX11_35 dX11_areAlike_1 ?_
  refine z_iload_n dX11_areAlike_4 rfl rfl ?_
  obtain ⟨q1a, q1b, hw⟩ := hw
  have q2 : iv 0 8 (S.2 63 (a1)) := mA63 hW _
  have hw := hw q2
  refine g_iald hW (ma63 hT) q1a q1b (by decide) dX11_areAlike_5 ?_
  refine z_aload_n dX11_areAlike_6 rfl rfl ?_
  refine g_getR hW hT.1 mr10 kX11 fX11_35 dX11_areAlike_7 ?_
  refine z_iload_n dX11_areAlike_10 rfl rfl ?_
  obtain ⟨q3a, q3b, hw⟩ := hw
  have q4 : iv 0 8 (S.2 63 (a2)) := mA63 hW _
  have hw := hw q4
  refine g_iald hW (ma63 hT) q3a q3b (by decide) dX11_areAlike_11 ?_
  refine i_icmp_ne (tgt := 19) dX11_areAlike_12 (by decide) (rngq q2 (by decide) (by decide)) (rngq q4 (by decide) (by decide)) (fun h5 => ?_) (fun h5 => ?_)
  · have hw := hw.1 h5
    refine z_iconst (v := Int32.ofInt 0) dX11_areAlike_19 rfl ?_
    refine z_loc (L' := [(0, .ref (G.1 + 54)), (1, .int (Int32.ofInt (a1))), (2, .int (Int32.ofInt (a2)))]) (List.forall_mem_cons.mpr ⟨rfl, (List.forall_mem_cons.mpr ⟨rfl, (List.forall_mem_cons.mpr ⟨rfl, (fun _ h => nomatch h)⟩)⟩)⟩) ?_
    exact bX11_areAlike_20 hd hJ hT hW hP  hw
  · have hw := hw.2 h5
    refine z_iconst (v := Int32.ofInt 1) dX11_areAlike_15 rfl ?_
    refine z_goto (tgt := 20) dX11_areAlike_16 (by decide) ?_
    refine z_loc (L' := [(0, .ref (G.1 + 54)), (1, .int (Int32.ofInt (a1))), (2, .int (Int32.ofInt (a2)))]) (List.forall_mem_cons.mpr ⟨rfl, (List.forall_mem_cons.mpr ⟨rfl, (List.forall_mem_cons.mpr ⟨rfl, (fun _ h => nomatch h)⟩)⟩)⟩) ?_
    exact bX11_areAlike_20 hd hJ hT hW hP  hw

def wX11_pair_12 (l1 l2 : Int) (S : St) (K : Int → St → Prop) : Prop := (rng (l1) ∧ (rng (l2) ∧ ((¬ l1 = l2 → K (0) S) ∧ ((¬ (¬ l1 = l2)) → K (1) S))))
set_option maxRecDepth 100000 in
set_option maxHeartbeats 4000000 in
theorem bX11_pair_12 {G : xG} {sh : Nat → Option Sh} {J : St → List va_E → Prop} {d : Nat} {Post : xP} {l1 l2 : Int} {S : St} {cs : List va_E} {K : Int → St → Prop} (hd : 0 ≤ d) (hJ : Stb sh J) (hT : isM sh) (hW : Wd G sh mT J S cs) (hP : ∀ (v : Int) (S : St) (cs : List va_E), K v S → Wd G sh mT J S cs → Post (some (.int (Int32.ofInt v))) cs)  (hw : wX11_pair_12 l1 l2 S K ) : Z (RX11, cX11_pair, 4, some .boolean, false) G d Post 12 [(0, .ref (G.1 + 54)), (1, .int (Int32.ofInt (l1))), (2, .int (Int32.ofInt (l2)))] [] cs := by
  unfold wX11_pair_12 at hw
  refine z_iload_n dX11_pair_12 rfl rfl ?_
  refine z_iload_n dX11_pair_13 rfl rfl ?_
  obtain ⟨q2, hw⟩ := hw
  obtain ⟨q3, hw⟩ := hw
  refine i_icmp_ne (tgt := 21) dX11_pair_14 (by decide) q2 q3 (fun h1 => ?_) (fun h1 => ?_)
  · have hw := hw.1 h1
    refine z_iconst (v := Int32.ofInt 0) dX11_pair_21 rfl ?_
    exact z_ireturn dX11_pair_22 rfl (nar01 (by decide)) (hP _ _ _ hw hW)
  · have hw := hw.2 h1
    refine z_iconst (v := Int32.ofInt 1) dX11_pair_17 rfl ?_
    refine z_goto (tgt := 22) dX11_pair_18 (by decide) ?_
    exact z_ireturn dX11_pair_22 rfl (nar01 (by decide)) (hP _ _ _ hw hW)
def wX11_pair_53 (l1 l2 l3 : Int) (S : St) (K : Int → St → Prop) : Prop := ((0 : Int) ≤ l3 ∧ l3 < (30 : Int) ∧ (iv 0 29 (S.2 105 (l3)) → (rng (l1) ∧ ((¬ S.2 105 (l3) = l1 → K (0) S) ∧ ((¬ (¬ S.2 105 (l3) = l1)) → ((0 : Int) ≤ l3 ∧ l3 < (30 : Int) ∧ (iv 0 29 (S.2 106 (l3)) → (rng (l2) ∧ ((¬ S.2 106 (l3) = l2 → K (0) S) ∧ ((¬ (¬ S.2 106 (l3) = l2)) → K (1) S))))))))))
set_option maxRecDepth 100000 in
set_option maxHeartbeats 4000000 in
theorem bX11_pair_53 {G : xG} {sh : Nat → Option Sh} {J : St → List va_E → Prop} {d : Nat} {Post : xP} {l1 l2 l3 : Int} {S : St} {cs : List va_E} {K : Int → St → Prop} (hd : 0 ≤ d) (hJ : Stb sh J) (hT : isM sh) (hW : Wd G sh mT J S cs) (hP : ∀ (v : Int) (S : St) (cs : List va_E), K v S → Wd G sh mT J S cs → Post (some (.int (Int32.ofInt v))) cs)  (hw : wX11_pair_53 l1 l2 l3 S K ) : Z (RX11, cX11_pair, 4, some .boolean, false) G d Post 53 [(0, .ref (G.1 + 54)), (1, .int (Int32.ofInt (l1))), (2, .int (Int32.ofInt (l2))), (3, .int (Int32.ofInt (l3)))] [] cs := by
  unfold wX11_pair_53 at hw
  refine z_aload_n dX11_pair_53 rfl rfl ?_
  refine g_getR hW hT.1 mr69 kX11 fX11_165 dX11_pair_54 ?_
  refine z_iload_n dX11_pair_57 rfl rfl ?_
  obtain ⟨q1a, q1b, hw⟩ := hw
  have q2 : iv 0 29 (S.2 105 (l3)) := mA105 hW _
  have hw := hw q2
  refine g_iald hW (ma105 hT) q1a q1b (by decide) dX11_pair_58 ?_
  refine z_iload_n dX11_pair_59 rfl rfl ?_
  obtain ⟨q4, hw⟩ := hw
  refine i_icmp_ne (tgt := 77) dX11_pair_60 (by decide) (rngq q2 (by decide) (by decide)) q4 (fun h3 => ?_) (fun h3 => ?_)
  · have hw := hw.1 h3
    refine z_iconst (v := Int32.ofInt 0) dX11_pair_77 rfl ?_
    exact z_ireturn dX11_pair_78 rfl (nar01 (by decide)) (hP _ _ _ hw hW)
  · have hw := hw.2 h3
    refine z_aload_n dX11_pair_63 rfl rfl ?_
    refine g_getR hW hT.1 mr70 kX11 fX11_168 dX11_pair_64 ?_
    refine z_iload_n dX11_pair_67 rfl rfl ?_
    obtain ⟨q5a, q5b, hw⟩ := hw
    have q6 : iv 0 29 (S.2 106 (l3)) := mA106 hW _
    have hw := hw q6
    refine g_iald hW (ma106 hT) q5a q5b (by decide) dX11_pair_68 ?_
    refine z_iload_n dX11_pair_69 rfl rfl ?_
    obtain ⟨q8, hw⟩ := hw
    refine i_icmp_ne (tgt := 77) dX11_pair_70 (by decide) (rngq q6 (by decide) (by decide)) q8 (fun h7 => ?_) (fun h7 => ?_)
    · have hw := hw.1 h7
      refine z_iconst (v := Int32.ofInt 0) dX11_pair_77 rfl ?_
      exact z_ireturn dX11_pair_78 rfl (nar01 (by decide)) (hP _ _ _ hw hW)
    · have hw := hw.2 h7
      refine z_iconst (v := Int32.ofInt 1) dX11_pair_73 rfl ?_
      refine z_goto (tgt := 78) dX11_pair_74 (by decide) ?_
      exact z_ireturn dX11_pair_78 rfl (nar01 (by decide)) (hP _ _ _ hw hW)
def wX11_pair_25' (l1 l2 l3 : Int) (S : St) (K : Int → St → Prop) (B25 : Int → Int → Int → St → Prop) : Prop := (iv 0 30 (S.1 54 71) → (rng (l3) ∧ ((S.1 54 71 ≤ l3 → ((0 : Int) ≤ S.1 54 71 ∧ S.1 54 71 < (30 : Int) ∧ (iv 0 29 (l1) ∧ (∀ S5, S5 = pA S 105 (S.1 54 71) (l1) → (iv 0 30 (S5.1 54 71) → ((0 : Int) ≤ S5.1 54 71 ∧ S5.1 54 71 < (30 : Int) ∧ (iv 0 29 (l2) ∧ (∀ S9, S9 = pA S5 106 (S5.1 54 71) (l2) → (iv 0 30 (S9.1 54 71) → (iv 0 30 ((S9.1 54 71 + 1)) ∧ (∀ S12, S12 = pI S9 54 71 ((S9.1 54 71 + 1)) → K (1) S12))))))))))) ∧ ((¬ (S.1 54 71 ≤ l3)) → ((0 : Int) ≤ l3 ∧ l3 < (30 : Int) ∧ (iv 0 29 (S.2 105 (l3)) → (rng (l1) ∧ ((S.2 105 (l3) = l1 → wX11_pair_53 (l1) (l2) (l3) S K) ∧ ((¬ (S.2 105 (l3) = l1)) → ((0 : Int) ≤ l3 ∧ l3 < (30 : Int) ∧ (iv 0 29 (S.2 106 (l3)) → (rng (l2) ∧ ((¬ S.2 106 (l3) = l2 → B25 (l1) (l2) ((l3 + 1)) S) ∧ ((¬ (¬ S.2 106 (l3) = l2)) → wX11_pair_53 (l1) (l2) (l3) S K))))))))))))))
set_option maxRecDepth 100000 in
set_option maxHeartbeats 4000000 in
theorem bX11_pair_25' {G : xG} {sh : Nat → Option Sh} {J : St → List va_E → Prop} {d : Nat} {Post : xP} {l1 l2 l3 : Int} {S : St} {cs : List va_E} {K : Int → St → Prop} {B25 : Int → Int → Int → St → Prop} (hd : 0 ≤ d) (hJ : Stb sh J) (hT : isM sh) (hW : Wd G sh mT J S cs) (hP : ∀ (v : Int) (S : St) (cs : List va_E), K v S → Wd G sh mT J S cs → Post (some (.int (Int32.ofInt v))) cs) (hB25 : ∀ (l1 : Int) (l2 : Int) (l3 : Int) (S : St) (cs : List va_E), B25 l1 l2 l3 S → Wd G sh mT J S cs → Z (RX11, cX11_pair, 4, some .boolean, false) G d Post 25 [(0, .ref (G.1 + 54)), (1, .int (Int32.ofInt (l1))), (2, .int (Int32.ofInt (l2))), (3, .int (Int32.ofInt (l3)))] [] cs) (hw : wX11_pair_25' l1 l2 l3 S K B25) : Z (RX11, cX11_pair, 4, some .boolean, false) G d Post 25 [(0, .ref (G.1 + 54)), (1, .int (Int32.ofInt (l1))), (2, .int (Int32.ofInt (l2))), (3, .int (Int32.ofInt (l3)))] [] cs := by
  unfold wX11_pair_25' at hw
  refine z_iload_n dX11_pair_25 rfl rfl ?_
  refine z_aload_n dX11_pair_26 rfl rfl ?_
  have q1 : iv 0 30 (S.1 54 71) := mI71 hW
  have hw := hw q1
  refine g_getI hW hT.1 mr71 kX11 fX11_505 dX11_pair_27 ?_
  obtain ⟨q3, hw⟩ := hw
  refine i_icmp_ge (tgt := 85) dX11_pair_30 (by decide) q3 (rngq q1 (by decide) (by decide)) (fun h2 => ?_) (fun h2 => ?_)
  · have hw := hw.1 h2
    refine z_aload_n dX11_pair_85 rfl rfl ?_
    refine g_getR hW hT.1 mr69 kX11 fX11_165 dX11_pair_86 ?_
    refine z_aload_n dX11_pair_89 rfl rfl ?_
    refine g_getI hW hT.1 mr71 kX11 fX11_505 dX11_pair_90 ?_
    refine z_iload_n dX11_pair_93 rfl rfl ?_
    obtain ⟨q4a, q4b, hw⟩ := hw
    obtain ⟨q6, hw⟩ := hw
    refine g_iast hJ hW (ma105 hT) q4a q4b (by decide) q6 dX11_pair_94 (fun cs hW => ?_)
    obtain ⟨S5, hS5⟩ : ∃ x, x = pA S 105 (S.1 54 71) (l1) := ⟨_, rfl⟩
    rw [← hS5] at hW
    have hw := hw S5 hS5
    refine z_aload_n dX11_pair_95 rfl rfl ?_
    refine g_getR hW hT.1 mr70 kX11 fX11_168 dX11_pair_96 ?_
    refine z_aload_n dX11_pair_99 rfl rfl ?_
    have q7 : iv 0 30 (S5.1 54 71) := mI71 hW
    have hw := hw q7
    refine g_getI hW hT.1 mr71 kX11 fX11_505 dX11_pair_100 ?_
    refine z_iload_n dX11_pair_103 rfl rfl ?_
    obtain ⟨q8a, q8b, hw⟩ := hw
    obtain ⟨q10, hw⟩ := hw
    refine g_iast hJ hW (ma106 hT) q8a q8b (by decide) q10 dX11_pair_104 (fun cs hW => ?_)
    obtain ⟨S9, hS9⟩ : ∃ x, x = pA S5 106 (S5.1 54 71) (l2) := ⟨_, rfl⟩
    rw [← hS9] at hW
    have hw := hw S9 hS9
    refine z_aload_n dX11_pair_105 rfl rfl ?_
    refine z_dup dX11_pair_106 rfl ?_
    have q11 : iv 0 30 (S9.1 54 71) := mI71 hW
    have hw := hw q11
    refine g_getI hW hT.1 mr71 kX11 fX11_505 dX11_pair_107 ?_
    refine z_iconst (v := Int32.ofInt 1) dX11_pair_110 rfl ?_
    refine i_iadd dX11_pair_111 ?_
    obtain ⟨q13, hw⟩ := hw
    refine g_putI hJ hW hT.1 mr71 kX11 fX11_505 dX11_pair_112 rfl rfl rfl q13 (fun cs hW => ?_)
    obtain ⟨S12, hS12⟩ : ∃ x, x = pI S9 54 71 ((S9.1 54 71 + 1)) := ⟨_, rfl⟩
    rw [← hS12] at hW
    have hw := hw S12 hS12
    refine z_iconst (v := Int32.ofInt 1) dX11_pair_115 rfl ?_
    exact z_ireturn dX11_pair_116 rfl (nar01 (by decide)) (hP _ _ _ hw hW)
  · have hw := hw.2 h2
    refine z_aload_n dX11_pair_33 rfl rfl ?_
    refine g_getR hW hT.1 mr69 kX11 fX11_165 dX11_pair_34 ?_
    refine z_iload_n dX11_pair_37 rfl rfl ?_
    obtain ⟨q14a, q14b, hw⟩ := hw
    have q15 : iv 0 29 (S.2 105 (l3)) := mA105 hW _
    have hw := hw q15
    refine g_iald hW (ma105 hT) q14a q14b (by decide) dX11_pair_38 ?_
    refine z_iload_n dX11_pair_39 rfl rfl ?_
    obtain ⟨q17, hw⟩ := hw
    refine i_icmp_eq (tgt := 53) dX11_pair_40 (by decide) (rngq q15 (by decide) (by decide)) q17 (fun h16 => ?_) (fun h16 => ?_)
    · have hw := hw.1 h16
      refine z_loc (L' := [(0, .ref (G.1 + 54)), (1, .int (Int32.ofInt (l1))), (2, .int (Int32.ofInt (l2))), (3, .int (Int32.ofInt (l3)))]) (List.forall_mem_cons.mpr ⟨rfl, (List.forall_mem_cons.mpr ⟨rfl, (List.forall_mem_cons.mpr ⟨rfl, (List.forall_mem_cons.mpr ⟨rfl, (fun _ h => nomatch h)⟩)⟩)⟩)⟩) ?_
      exact bX11_pair_53 hd hJ hT hW hP  hw
    · have hw := hw.2 h16
      refine z_aload_n dX11_pair_43 rfl rfl ?_
      refine g_getR hW hT.1 mr70 kX11 fX11_168 dX11_pair_44 ?_
      refine z_iload_n dX11_pair_47 rfl rfl ?_
      obtain ⟨q18a, q18b, hw⟩ := hw
      have q19 : iv 0 29 (S.2 106 (l3)) := mA106 hW _
      have hw := hw q19
      refine g_iald hW (ma106 hT) q18a q18b (by decide) dX11_pair_48 ?_
      refine z_iload_n dX11_pair_49 rfl rfl ?_
      obtain ⟨q21, hw⟩ := hw
      refine i_icmp_ne (tgt := 79) dX11_pair_50 (by decide) (rngq q19 (by decide) (by decide)) q21 (fun h20 => ?_) (fun h20 => ?_)
      · have hw := hw.1 h20
        refine i_iinc (l := l3) dX11_pair_79 rfl (by decide) ?_
        refine z_goto (tgt := 25) dX11_pair_82 (by decide) ?_
        refine z_loc (L' := [(0, .ref (G.1 + 54)), (1, .int (Int32.ofInt (l1))), (2, .int (Int32.ofInt (l2))), (3, .int (Int32.ofInt ((l3 + 1))))]) (List.forall_mem_cons.mpr ⟨rfl, (List.forall_mem_cons.mpr ⟨rfl, (List.forall_mem_cons.mpr ⟨rfl, (List.forall_mem_cons.mpr ⟨rfl, (fun _ h => nomatch h)⟩)⟩)⟩)⟩) ?_
        exact hB25 _ _ _ _ _ hw hW
      · have hw := hw.2 h20
        refine z_loc (L' := [(0, .ref (G.1 + 54)), (1, .int (Int32.ofInt (l1))), (2, .int (Int32.ofInt (l2))), (3, .int (Int32.ofInt (l3)))]) (List.forall_mem_cons.mpr ⟨rfl, (List.forall_mem_cons.mpr ⟨rfl, (List.forall_mem_cons.mpr ⟨rfl, (List.forall_mem_cons.mpr ⟨rfl, (fun _ h => nomatch h)⟩)⟩)⟩)⟩) ?_
        exact bX11_pair_53 hd hJ hT hW hP  hw
def wX11_pair_25 (l1 l2 l3 : Int) (S : St) (K : Int → St → Prop) : Prop := ∃ (Iv : Int → Int → Int → St → Prop) (mu : Int → Int → Int → St → Nat), Iv l1 l2 l3 S ∧ ∀ (l1 l2 l3 : Int) (S : St), Iv l1 l2 l3 S → wX11_pair_25' l1 l2 l3 S K  (fun ml1 ml2 ml3 T => Iv ml1 ml2 ml3 T ∧ mu ml1 ml2 ml3 T < mu l1 l2 l3 S)
set_option maxRecDepth 100000 in
set_option maxHeartbeats 4000000 in
theorem bX11_pair_25 {G : xG} {sh : Nat → Option Sh} {J : St → List va_E → Prop} {d : Nat} {Post : xP} {l1 l2 l3 : Int} {S : St} {cs : List va_E} {K : Int → St → Prop} (hd : 0 ≤ d) (hJ : Stb sh J) (hT : isM sh) (hW : Wd G sh mT J S cs) (hP : ∀ (v : Int) (S : St) (cs : List va_E), K v S → Wd G sh mT J S cs → Post (some (.int (Int32.ofInt v))) cs)  (hw : wX11_pair_25 l1 l2 l3 S K ) : Z (RX11, cX11_pair, 4, some .boolean, false) G d Post 25 [(0, .ref (G.1 + 54)), (1, .int (Int32.ofInt (l1))), (2, .int (Int32.ofInt (l2))), (3, .int (Int32.ofInt (l3)))] [] cs := by
  unfold wX11_pair_25 at hw
  obtain ⟨Iv, mu, h0, hs⟩ := hw
  have key : ∀ (n : Nat) (l1 l2 l3 : Int) (S : St) (cs : List va_E), mu l1 l2 l3 S < n → Iv l1 l2 l3 S → Wd G sh mT J S cs → Z (RX11, cX11_pair, 4, some .boolean, false) G d Post 25 [(0, .ref (G.1 + 54)), (1, .int (Int32.ofInt (l1))), (2, .int (Int32.ofInt (l2))), (3, .int (Int32.ofInt (l3)))] [] cs := by
    intro n
    induction n with
    | zero => intro l1 l2 l3 S cs hn; exact absurd hn (Nat.not_lt_zero _)
    | succ n ih =>
      intro l1 l2 l3 S cs hn hI hW
      exact bX11_pair_25' hd hJ hT hW hP  (fun l1 l2 l3 S cs hb hW => ih l1 l2 l3 S cs (Nat.lt_of_lt_of_le hb.2 (Nat.le_of_lt_succ hn)) hb.1 hW) (hs l1 l2 l3 S hI)
  exact key _ _ _ _ _ _ (Nat.lt_succ_self _) h0 hW
def wX11_pair (a1 a2 : Int) (S : St) (K : Int → St → Prop) : Prop := rng a1 → rng a2 → ((a1 = (-2) → wX11_pair_12 (a1) (a2) S K) ∧ ((¬ (a1 = (-2))) → ((¬ a2 = (-2) → wX11_pair_25 (a1) (a2) (0) S K) ∧ ((¬ (¬ a2 = (-2))) → wX11_pair_12 (a1) (a2) S K))))
set_option maxRecDepth 100000 in
set_option maxHeartbeats 4000000 in
theorem lX11_pair {G : xG} {sh : Nat → Option Sh} {J : St → List va_E → Prop} {a1 a2 : Int} {S : St} {cs : List va_E} {K : Int → St → Prop} (d : Nat) (hd : 0 ≤ d) (hJ : Stb sh J) (hT : isM sh) (hW : Wd G sh mT J S cs) (g1 : rng a1) (g2 : rng a2) (hw : wX11_pair a1 a2 S K) : X G yX11_pair cX11_pair 4 (some .boolean) d [.ref (G.1 + 54), .int (Int32.ofInt a1), .int (Int32.ofInt a2)] cs (qI G sh mT J K) := by
  refine X.of false (by decide +kernel) (by decide) (Nat.le_of_ble_eq_true rfl) ?_
  show Z (RX11, cX11_pair, 4, some .boolean, false) G d _ 0 [(0, .ref (G.1 + 54)), (1, .int (Int32.ofInt a1)), (2, .int (Int32.ofInt a2))] [] cs
  have hP : ∀ (v : Int) (S : St) (cs : List va_E), K v S → Wd G sh mT J S cs → qI G sh mT J K (some (.int (Int32.ofInt v))) cs := fun v S cs a b => ⟨v, S, rfl, a, b⟩
  unfold wX11_pair at hw
  have hw := hw g1 g2
  refine z_iload_n dX11_pair_0 rfl rfl ?_
  refine z_bipush (v := Int32.ofInt (-2)) dX11_pair_1 (by decide) ?_
  refine i_icmp_eq (tgt := 12) dX11_pair_3 (by decide) g1 ⟨by decide, by decide⟩ (fun h1 => ?_) (fun h1 => ?_)
  · have hw := hw.1 h1
    refine z_loc (L' := [(0, .ref (G.1 + 54)), (1, .int (Int32.ofInt (a1))), (2, .int (Int32.ofInt (a2)))]) (List.forall_mem_cons.mpr ⟨rfl, (List.forall_mem_cons.mpr ⟨rfl, (List.forall_mem_cons.mpr ⟨rfl, (fun _ h => nomatch h)⟩)⟩)⟩) ?_
    exact bX11_pair_12 hd hJ hT hW hP  hw
  · have hw := hw.2 h1
    refine z_iload_n dX11_pair_6 rfl rfl ?_
    refine z_bipush (v := Int32.ofInt (-2)) dX11_pair_7 (by decide) ?_
    refine i_icmp_ne (tgt := 23) dX11_pair_9 (by decide) g2 ⟨by decide, by decide⟩ (fun h2 => ?_) (fun h2 => ?_)
    · have hw := hw.1 h2
      refine z_iconst (v := Int32.ofInt 0) dX11_pair_23 rfl ?_
      refine z_istore_n dX11_pair_24 rfl (by decide) ?_
      refine z_loc (L' := [(0, .ref (G.1 + 54)), (1, .int (Int32.ofInt (a1))), (2, .int (Int32.ofInt (a2))), (3, .int (Int32.ofInt (0)))]) (List.forall_mem_cons.mpr ⟨rfl, (List.forall_mem_cons.mpr ⟨rfl, (List.forall_mem_cons.mpr ⟨rfl, (List.forall_mem_cons.mpr ⟨rfl, (fun _ h => nomatch h)⟩)⟩)⟩)⟩) ?_
      exact bX11_pair_25 hd hJ hT hW hP  hw
    · have hw := hw.2 h2
      refine z_loc (L' := [(0, .ref (G.1 + 54)), (1, .int (Int32.ofInt (a1))), (2, .int (Int32.ofInt (a2)))]) (List.forall_mem_cons.mpr ⟨rfl, (List.forall_mem_cons.mpr ⟨rfl, (List.forall_mem_cons.mpr ⟨rfl, (fun _ h => nomatch h)⟩)⟩)⟩) ?_
      exact bX11_pair_12 hd hJ hT hW hP  hw

def wX11_areSame_225 (l1 l2 l3 l4 l5 : Int) (S : St) (K : Int → St → Prop) (B28 : Int → Int → Int → Int → Int → St → Prop) : Prop := B28 (l1) (l2) (l3) (l4) ((l5 + 1)) S
set_option maxRecDepth 100000 in
set_option maxHeartbeats 4000000 in
theorem bX11_areSame_225 {G : xG} {sh : Nat → Option Sh} {J : St → List va_E → Prop} {d : Nat} {Post : xP} {l1 l2 l3 l4 l5 : Int} {S : St} {cs : List va_E} {K : Int → St → Prop} {B28 : Int → Int → Int → Int → Int → St → Prop} (hd : 1 ≤ d) (hJ : Stb sh J) (hT : isM sh) (hW : Wd G sh mT J S cs) (hP : ∀ (v : Int) (S : St) (cs : List va_E), K v S → Wd G sh mT J S cs → Post (some (.int (Int32.ofInt v))) cs) (hB28 : ∀ (l1 : Int) (l2 : Int) (l3 : Int) (l4 : Int) (l5 : Int) (S : St) (cs : List va_E), B28 l1 l2 l3 l4 l5 S → Wd G sh mT J S cs → Z (RX11, cX11_areSame, 12, some .boolean, false) G d Post 28 [(0, .ref (G.1 + 54)), (1, .int (Int32.ofInt (l1))), (2, .int (Int32.ofInt (l2))), (3, .int (Int32.ofInt (l3))), (4, .int (Int32.ofInt (l4))), (5, .int (Int32.ofInt (l5)))] [] cs) (hw : wX11_areSame_225 l1 l2 l3 l4 l5 S K B28) : Z (RX11, cX11_areSame, 12, some .boolean, false) G d Post 225 [(0, .ref (G.1 + 54)), (1, .int (Int32.ofInt (l1))), (2, .int (Int32.ofInt (l2))), (3, .int (Int32.ofInt (l3))), (4, .int (Int32.ofInt (l4))), (5, .int (Int32.ofInt (l5)))] [] cs := by
  unfold wX11_areSame_225 at hw
  refine i_iinc (l := l5) dX11_areSame_225 rfl (by decide) ?_
  refine z_goto (tgt := 28) dX11_areSame_228 (by decide) ?_
  refine z_loc (L' := [(0, .ref (G.1 + 54)), (1, .int (Int32.ofInt (l1))), (2, .int (Int32.ofInt (l2))), (3, .int (Int32.ofInt (l3))), (4, .int (Int32.ofInt (l4))), (5, .int (Int32.ofInt ((l5 + 1))))]) (List.forall_mem_cons.mpr ⟨rfl, (List.forall_mem_cons.mpr ⟨rfl, (List.forall_mem_cons.mpr ⟨rfl, (List.forall_mem_cons.mpr ⟨rfl, (List.forall_mem_cons.mpr ⟨rfl, (List.forall_mem_cons.mpr ⟨rfl, (fun _ h => nomatch h)⟩)⟩)⟩)⟩)⟩)⟩) ?_
  exact hB28 _ _ _ _ _ _ _ hw hW
def wX11_areSame_217 (l1 l2 l3 l5 l6 l7 l8 l9 s0 : Int) (S : St) (K : Int → St → Prop) (B28 : Int → Int → Int → Int → Int → St → Prop) (B130 : Int → Int → Int → Int → Int → Int → Int → Int → Int → St → Prop) : Prop := B130 (l1) (l2) (l3) (s0) (l5) (l6) (l7) (l8) ((l9 + 1)) S
set_option maxRecDepth 100000 in
set_option maxHeartbeats 4000000 in
theorem bX11_areSame_217 {G : xG} {sh : Nat → Option Sh} {J : St → List va_E → Prop} {d : Nat} {Post : xP} {l1 l2 l3 l5 l6 l7 l8 l9 s0 : Int} {S : St} {cs : List va_E} {K : Int → St → Prop} {B28 : Int → Int → Int → Int → Int → St → Prop} {B130 : Int → Int → Int → Int → Int → Int → Int → Int → Int → St → Prop} (hd : 1 ≤ d) (hJ : Stb sh J) (hT : isM sh) (hW : Wd G sh mT J S cs) (hP : ∀ (v : Int) (S : St) (cs : List va_E), K v S → Wd G sh mT J S cs → Post (some (.int (Int32.ofInt v))) cs) (hB28 : ∀ (l1 : Int) (l2 : Int) (l3 : Int) (l4 : Int) (l5 : Int) (S : St) (cs : List va_E), B28 l1 l2 l3 l4 l5 S → Wd G sh mT J S cs → Z (RX11, cX11_areSame, 12, some .boolean, false) G d Post 28 [(0, .ref (G.1 + 54)), (1, .int (Int32.ofInt (l1))), (2, .int (Int32.ofInt (l2))), (3, .int (Int32.ofInt (l3))), (4, .int (Int32.ofInt (l4))), (5, .int (Int32.ofInt (l5)))] [] cs) (hB130 : ∀ (l1 : Int) (l2 : Int) (l3 : Int) (l4 : Int) (l5 : Int) (l6 : Int) (l7 : Int) (l8 : Int) (l9 : Int) (S : St) (cs : List va_E), B130 l1 l2 l3 l4 l5 l6 l7 l8 l9 S → Wd G sh mT J S cs → Z (RX11, cX11_areSame, 12, some .boolean, false) G d Post 130 [(0, .ref (G.1 + 54)), (1, .int (Int32.ofInt (l1))), (2, .int (Int32.ofInt (l2))), (3, .int (Int32.ofInt (l3))), (4, .int (Int32.ofInt (l4))), (5, .int (Int32.ofInt (l5))), (6, .int (Int32.ofInt (l6))), (7, .int (Int32.ofInt (l7))), (8, .int (Int32.ofInt (l8))), (9, .int (Int32.ofInt (l9)))] [] cs) (hw : wX11_areSame_217 l1 l2 l3 l5 l6 l7 l8 l9 s0 S K B28 B130) : Z (RX11, cX11_areSame, 12, some .boolean, false) G d Post 217 [(0, .ref (G.1 + 54)), (1, .int (Int32.ofInt (l1))), (2, .int (Int32.ofInt (l2))), (3, .int (Int32.ofInt (l3))), (5, .int (Int32.ofInt (l5))), (6, .int (Int32.ofInt (l6))), (7, .int (Int32.ofInt (l7))), (8, .int (Int32.ofInt (l8))), (9, .int (Int32.ofInt (l9)))] [.int (Int32.ofInt (s0))] cs := by
  unfold wX11_areSame_217 at hw
  refine z_istore dX11_areSame_217 (by decide) ?_
  refine i_iinc (l := l9) dX11_areSame_219 rfl (by decide) ?_
  refine z_goto (tgt := 130) dX11_areSame_222 (by decide) ?_
  refine z_loc (L' := [(0, .ref (G.1 + 54)), (1, .int (Int32.ofInt (l1))), (2, .int (Int32.ofInt (l2))), (3, .int (Int32.ofInt (l3))), (4, .int (Int32.ofInt (s0))), (5, .int (Int32.ofInt (l5))), (6, .int (Int32.ofInt (l6))), (7, .int (Int32.ofInt (l7))), (8, .int (Int32.ofInt (l8))), (9, .int (Int32.ofInt ((l9 + 1))))]) (List.forall_mem_cons.mpr ⟨rfl, (List.forall_mem_cons.mpr ⟨rfl, (List.forall_mem_cons.mpr ⟨rfl, (List.forall_mem_cons.mpr ⟨rfl, (List.forall_mem_cons.mpr ⟨rfl, (List.forall_mem_cons.mpr ⟨rfl, (List.forall_mem_cons.mpr ⟨rfl, (List.forall_mem_cons.mpr ⟨rfl, (List.forall_mem_cons.mpr ⟨rfl, (List.forall_mem_cons.mpr ⟨rfl, (fun _ h => nomatch h)⟩)⟩)⟩)⟩)⟩)⟩)⟩)⟩)⟩)⟩) ?_
  exact hB130 _ _ _ _ _ _ _ _ _ _ _ hw hW
def wX11_areSame_130' (l1 l2 l3 l4 l5 l6 l7 l8 l9 : Int) (S : St) (K : Int → St → Prop) (B28 : Int → Int → Int → Int → Int → St → Prop) (B130 : Int → Int → Int → Int → Int → Int → Int → Int → Int → St → Prop) : Prop := (rng (l8) ∧ ((l8 = 0 → wX11_areSame_225 (l1) (l2) (l3) (l4) (l5) S K B28) ∧ ((¬ (l8 = 0)) → ((l8 = 2 → wX11_areSame_225 (l1) (l2) (l3) (l4) (l5) S K B28) ∧ ((¬ (l8 = 2)) → ((0 : Int) ≤ l6 ∧ l6 < (360 : Int) ∧ (iv (-2147483648) 2147483647 (S.2 69 (l6)) → (rng (l9) ∧ ((S.2 69 (l6) ≤ l9 → wX11_areSame_225 (l1) (l2) (l3) (l4) (l5) S K B28) ∧ ((¬ (S.2 69 (l6) ≤ l9)) → (rng (l4) ∧ ((l4 = 0 → wX11_areSame_225 (l1) (l2) (l3) (l4) (l5) S K B28) ∧ ((¬ (l4 = 0)) → ((0 : Int) ≤ ((20 * l6) + l9) ∧ ((20 * l6) + l9) < (7200 : Int) ∧ (iv (-2147483648) 2147483647 (S.2 70 (((20 * l6) + l9))) → ((0 : Int) ≤ ((20 * l7) + l9) ∧ ((20 * l7) + l9) < (7200 : Int) ∧ (iv (-2147483648) 2147483647 (S.2 70 (((20 * l7) + l9))) → ((¬ l8 = 1 → (wX11_pair (S.2 70 (((20 * l6) + l9))) (S.2 70 (((20 * l7) + l9))) S (fun r15 S16 => wX11_areSame_217 (l1) (l2) (l3) (l5) (l6) (l7) (l8) (l9) (r15) S16 K B28 B130))) ∧ ((¬ (¬ l8 = 1)) → ((¬ S.2 70 (((20 * l6) + l9)) = S.2 70 (((20 * l7) + l9)) → wX11_areSame_217 (l1) (l2) (l3) (l5) (l6) (l7) (l8) (l9) (0) S K B28 B130) ∧ ((¬ (¬ S.2 70 (((20 * l6) + l9)) = S.2 70 (((20 * l7) + l9)))) → wX11_areSame_217 (l1) (l2) (l3) (l5) (l6) (l7) (l8) (l9) (1) S K B28 B130)))))))))))))))))))))
set_option maxRecDepth 100000 in
set_option maxHeartbeats 4000000 in
theorem bX11_areSame_130' {G : xG} {sh : Nat → Option Sh} {J : St → List va_E → Prop} {d : Nat} {Post : xP} {l1 l2 l3 l4 l5 l6 l7 l8 l9 : Int} {S : St} {cs : List va_E} {K : Int → St → Prop} {B28 : Int → Int → Int → Int → Int → St → Prop} {B130 : Int → Int → Int → Int → Int → Int → Int → Int → Int → St → Prop} (hd : 1 ≤ d) (hJ : Stb sh J) (hT : isM sh) (hW : Wd G sh mT J S cs) (hP : ∀ (v : Int) (S : St) (cs : List va_E), K v S → Wd G sh mT J S cs → Post (some (.int (Int32.ofInt v))) cs) (hB28 : ∀ (l1 : Int) (l2 : Int) (l3 : Int) (l4 : Int) (l5 : Int) (S : St) (cs : List va_E), B28 l1 l2 l3 l4 l5 S → Wd G sh mT J S cs → Z (RX11, cX11_areSame, 12, some .boolean, false) G d Post 28 [(0, .ref (G.1 + 54)), (1, .int (Int32.ofInt (l1))), (2, .int (Int32.ofInt (l2))), (3, .int (Int32.ofInt (l3))), (4, .int (Int32.ofInt (l4))), (5, .int (Int32.ofInt (l5)))] [] cs) (hB130 : ∀ (l1 : Int) (l2 : Int) (l3 : Int) (l4 : Int) (l5 : Int) (l6 : Int) (l7 : Int) (l8 : Int) (l9 : Int) (S : St) (cs : List va_E), B130 l1 l2 l3 l4 l5 l6 l7 l8 l9 S → Wd G sh mT J S cs → Z (RX11, cX11_areSame, 12, some .boolean, false) G d Post 130 [(0, .ref (G.1 + 54)), (1, .int (Int32.ofInt (l1))), (2, .int (Int32.ofInt (l2))), (3, .int (Int32.ofInt (l3))), (4, .int (Int32.ofInt (l4))), (5, .int (Int32.ofInt (l5))), (6, .int (Int32.ofInt (l6))), (7, .int (Int32.ofInt (l7))), (8, .int (Int32.ofInt (l8))), (9, .int (Int32.ofInt (l9)))] [] cs) (hw : wX11_areSame_130' l1 l2 l3 l4 l5 l6 l7 l8 l9 S K B28 B130) : Z (RX11, cX11_areSame, 12, some .boolean, false) G d Post 130 [(0, .ref (G.1 + 54)), (1, .int (Int32.ofInt (l1))), (2, .int (Int32.ofInt (l2))), (3, .int (Int32.ofInt (l3))), (4, .int (Int32.ofInt (l4))), (5, .int (Int32.ofInt (l5))), (6, .int (Int32.ofInt (l6))), (7, .int (Int32.ofInt (l7))), (8, .int (Int32.ofInt (l8))), (9, .int (Int32.ofInt (l9)))] [] cs := by
  unfold wX11_areSame_130' at hw
  refine z_iload dX11_areSame_130 rfl ?_
  obtain ⟨q2, hw⟩ := hw
  refine i_if_eq (tgt := 225) dX11_areSame_132 (by decide) q2 (fun h1 => ?_) (fun h1 => ?_)
  · have hw := hw.1 h1
    refine z_loc (L' := [(0, .ref (G.1 + 54)), (1, .int (Int32.ofInt (l1))), (2, .int (Int32.ofInt (l2))), (3, .int (Int32.ofInt (l3))), (4, .int (Int32.ofInt (l4))), (5, .int (Int32.ofInt (l5)))]) (List.forall_mem_cons.mpr ⟨rfl, (List.forall_mem_cons.mpr ⟨rfl, (List.forall_mem_cons.mpr ⟨rfl, (List.forall_mem_cons.mpr ⟨rfl, (List.forall_mem_cons.mpr ⟨rfl, (List.forall_mem_cons.mpr ⟨rfl, (fun _ h => nomatch h)⟩)⟩)⟩)⟩)⟩)⟩) ?_
    exact bX11_areSame_225 hd hJ hT hW hP hB28 hw
  · have hw := hw.2 h1
    refine z_iload dX11_areSame_135 rfl ?_
    refine z_iconst (v := Int32.ofInt 2) dX11_areSame_137 rfl ?_
    refine i_icmp_eq (tgt := 225) dX11_areSame_138 (by decide) q2 ⟨by decide, by decide⟩ (fun h3 => ?_) (fun h3 => ?_)
    · have hw := hw.1 h3
      refine z_loc (L' := [(0, .ref (G.1 + 54)), (1, .int (Int32.ofInt (l1))), (2, .int (Int32.ofInt (l2))), (3, .int (Int32.ofInt (l3))), (4, .int (Int32.ofInt (l4))), (5, .int (Int32.ofInt (l5)))]) (List.forall_mem_cons.mpr ⟨rfl, (List.forall_mem_cons.mpr ⟨rfl, (List.forall_mem_cons.mpr ⟨rfl, (List.forall_mem_cons.mpr ⟨rfl, (List.forall_mem_cons.mpr ⟨rfl, (List.forall_mem_cons.mpr ⟨rfl, (fun _ h => nomatch h)⟩)⟩)⟩)⟩)⟩)⟩) ?_
      exact bX11_areSame_225 hd hJ hT hW hP hB28 hw
    · have hw := hw.2 h3
      refine z_iload dX11_areSame_141 rfl ?_
      refine z_aload_n dX11_areSame_143 rfl rfl ?_
      refine g_getR hW hT.1 mr16 kX11 fX11_53 dX11_areSame_144 ?_
      refine z_iload dX11_areSame_147 rfl ?_
      obtain ⟨q4a, q4b, hw⟩ := hw
      have q5 : iv (-2147483648) 2147483647 (S.2 69 (l6)) := mA69 hW _
      have hw := hw q5
      refine g_iald hW (ma69 hT) q4a q4b (by decide) dX11_areSame_149 ?_
      obtain ⟨q7, hw⟩ := hw
      refine i_icmp_ge (tgt := 225) dX11_areSame_150 (by decide) q7 (rngq q5 (by decide) (by decide)) (fun h6 => ?_) (fun h6 => ?_)
      · have hw := hw.1 h6
        refine z_loc (L' := [(0, .ref (G.1 + 54)), (1, .int (Int32.ofInt (l1))), (2, .int (Int32.ofInt (l2))), (3, .int (Int32.ofInt (l3))), (4, .int (Int32.ofInt (l4))), (5, .int (Int32.ofInt (l5)))]) (List.forall_mem_cons.mpr ⟨rfl, (List.forall_mem_cons.mpr ⟨rfl, (List.forall_mem_cons.mpr ⟨rfl, (List.forall_mem_cons.mpr ⟨rfl, (List.forall_mem_cons.mpr ⟨rfl, (List.forall_mem_cons.mpr ⟨rfl, (fun _ h => nomatch h)⟩)⟩)⟩)⟩)⟩)⟩) ?_
        exact bX11_areSame_225 hd hJ hT hW hP hB28 hw
      · have hw := hw.2 h6
        refine z_iload dX11_areSame_153 rfl ?_
        obtain ⟨q9, hw⟩ := hw
        refine i_if_eq (tgt := 225) dX11_areSame_155 (by decide) q9 (fun h8 => ?_) (fun h8 => ?_)
        · have hw := hw.1 h8
          refine z_loc (L' := [(0, .ref (G.1 + 54)), (1, .int (Int32.ofInt (l1))), (2, .int (Int32.ofInt (l2))), (3, .int (Int32.ofInt (l3))), (4, .int (Int32.ofInt (l4))), (5, .int (Int32.ofInt (l5)))]) (List.forall_mem_cons.mpr ⟨rfl, (List.forall_mem_cons.mpr ⟨rfl, (List.forall_mem_cons.mpr ⟨rfl, (List.forall_mem_cons.mpr ⟨rfl, (List.forall_mem_cons.mpr ⟨rfl, (List.forall_mem_cons.mpr ⟨rfl, (fun _ h => nomatch h)⟩)⟩)⟩)⟩)⟩)⟩) ?_
          exact bX11_areSame_225 hd hJ hT hW hP hB28 hw
        · have hw := hw.2 h8
          refine z_aload_n dX11_areSame_158 rfl rfl ?_
          refine g_getR hW hT.1 mr17 kX11 fX11_56 dX11_areSame_159 ?_
          refine z_bipush (v := Int32.ofInt 20) dX11_areSame_162 (by decide) ?_
          refine z_iload dX11_areSame_164 rfl ?_
          refine i_imul dX11_areSame_166 ?_
          refine z_iload dX11_areSame_167 rfl ?_
          refine i_iadd dX11_areSame_169 ?_
          obtain ⟨q10a, q10b, hw⟩ := hw
          have q11 : iv (-2147483648) 2147483647 (S.2 70 (((20 * l6) + l9))) := mA70 hW _
          have hw := hw q11
          refine g_iald hW (ma70 hT) q10a q10b (by decide) dX11_areSame_170 ?_
          refine z_istore dX11_areSame_171 (by decide) ?_
          refine z_aload_n dX11_areSame_173 rfl rfl ?_
          refine g_getR hW hT.1 mr17 kX11 fX11_56 dX11_areSame_174 ?_
          refine z_bipush (v := Int32.ofInt 20) dX11_areSame_177 (by decide) ?_
          refine z_iload dX11_areSame_179 rfl ?_
          refine i_imul dX11_areSame_181 ?_
          refine z_iload dX11_areSame_182 rfl ?_
          refine i_iadd dX11_areSame_184 ?_
          obtain ⟨q12a, q12b, hw⟩ := hw
          have q13 : iv (-2147483648) 2147483647 (S.2 70 (((20 * l7) + l9))) := mA70 hW _
          have hw := hw q13
          refine g_iald hW (ma70 hT) q12a q12b (by decide) dX11_areSame_185 ?_
          refine z_istore dX11_areSame_186 (by decide) ?_
          refine z_iload dX11_areSame_188 rfl ?_
          refine z_iconst (v := Int32.ofInt 1) dX11_areSame_190 rfl ?_
          refine i_icmp_ne (tgt := 209) dX11_areSame_191 (by decide) q2 ⟨by decide, by decide⟩ (fun h14 => ?_) (fun h14 => ?_)
          · have hw := hw.1 h14
            refine z_aload_n dX11_areSame_209 rfl rfl ?_
            refine z_iload dX11_areSame_210 rfl ?_
            refine z_iload dX11_areSame_212 rfl ?_
            have hX := lX11_pair 0 (Nat.le_refl _) hJ hT hW (rngq q11 (by decide) (by decide)) (rngq q13 (by decide) (by decide)) hw
            refine z_callV (As := [_, _]) eX11_pair sX11_pair lX11_508 rfl dX11_areSame_214 (hW.1 _ _ hT.1) hX (Nat.le_trans (by decide) hd) rfl (Nat.le_of_ble_eq_true rfl) (fun r cs hp => ?_)
            obtain ⟨r15, S16, rfl, hw, hW⟩ := hp
            refine z_st (st' := [.int (Int32.ofInt (r15))]) rfl ?_
            refine z_loc (L' := [(0, .ref (G.1 + 54)), (1, .int (Int32.ofInt (l1))), (2, .int (Int32.ofInt (l2))), (3, .int (Int32.ofInt (l3))), (5, .int (Int32.ofInt (l5))), (6, .int (Int32.ofInt (l6))), (7, .int (Int32.ofInt (l7))), (8, .int (Int32.ofInt (l8))), (9, .int (Int32.ofInt (l9)))]) (List.forall_mem_cons.mpr ⟨rfl, (List.forall_mem_cons.mpr ⟨rfl, (List.forall_mem_cons.mpr ⟨rfl, (List.forall_mem_cons.mpr ⟨rfl, (List.forall_mem_cons.mpr ⟨rfl, (List.forall_mem_cons.mpr ⟨rfl, (List.forall_mem_cons.mpr ⟨rfl, (List.forall_mem_cons.mpr ⟨rfl, (List.forall_mem_cons.mpr ⟨rfl, (fun _ h => nomatch h)⟩)⟩)⟩)⟩)⟩)⟩)⟩)⟩)⟩) ?_
            exact bX11_areSame_217 hd hJ hT hW hP hB28 hB130 hw
          · have hw := hw.2 h14
            refine z_iload dX11_areSame_194 rfl ?_
            refine z_iload dX11_areSame_196 rfl ?_
            refine i_icmp_ne (tgt := 205) dX11_areSame_198 (by decide) (rngq q11 (by decide) (by decide)) (rngq q13 (by decide) (by decide)) (fun h17 => ?_) (fun h17 => ?_)
            · have hw := hw.1 h17
              refine z_iconst (v := Int32.ofInt 0) dX11_areSame_205 rfl ?_
              refine z_goto (tgt := 217) dX11_areSame_206 (by decide) ?_
              refine z_loc (L' := [(0, .ref (G.1 + 54)), (1, .int (Int32.ofInt (l1))), (2, .int (Int32.ofInt (l2))), (3, .int (Int32.ofInt (l3))), (5, .int (Int32.ofInt (l5))), (6, .int (Int32.ofInt (l6))), (7, .int (Int32.ofInt (l7))), (8, .int (Int32.ofInt (l8))), (9, .int (Int32.ofInt (l9)))]) (List.forall_mem_cons.mpr ⟨rfl, (List.forall_mem_cons.mpr ⟨rfl, (List.forall_mem_cons.mpr ⟨rfl, (List.forall_mem_cons.mpr ⟨rfl, (List.forall_mem_cons.mpr ⟨rfl, (List.forall_mem_cons.mpr ⟨rfl, (List.forall_mem_cons.mpr ⟨rfl, (List.forall_mem_cons.mpr ⟨rfl, (List.forall_mem_cons.mpr ⟨rfl, (fun _ h => nomatch h)⟩)⟩)⟩)⟩)⟩)⟩)⟩)⟩)⟩) ?_
              exact bX11_areSame_217 hd hJ hT hW hP hB28 hB130 hw
            · have hw := hw.2 h17
              refine z_iconst (v := Int32.ofInt 1) dX11_areSame_201 rfl ?_
              refine z_goto (tgt := 217) dX11_areSame_202 (by decide) ?_
              refine z_loc (L' := [(0, .ref (G.1 + 54)), (1, .int (Int32.ofInt (l1))), (2, .int (Int32.ofInt (l2))), (3, .int (Int32.ofInt (l3))), (5, .int (Int32.ofInt (l5))), (6, .int (Int32.ofInt (l6))), (7, .int (Int32.ofInt (l7))), (8, .int (Int32.ofInt (l8))), (9, .int (Int32.ofInt (l9)))]) (List.forall_mem_cons.mpr ⟨rfl, (List.forall_mem_cons.mpr ⟨rfl, (List.forall_mem_cons.mpr ⟨rfl, (List.forall_mem_cons.mpr ⟨rfl, (List.forall_mem_cons.mpr ⟨rfl, (List.forall_mem_cons.mpr ⟨rfl, (List.forall_mem_cons.mpr ⟨rfl, (List.forall_mem_cons.mpr ⟨rfl, (List.forall_mem_cons.mpr ⟨rfl, (fun _ h => nomatch h)⟩)⟩)⟩)⟩)⟩)⟩)⟩)⟩)⟩) ?_
              exact bX11_areSame_217 hd hJ hT hW hP hB28 hB130 hw
def wX11_areSame_130 (l1 l2 l3 l4 l5 l6 l7 l8 l9 : Int) (S : St) (K : Int → St → Prop) (B28 : Int → Int → Int → Int → Int → St → Prop) : Prop := ∃ (Iv : Int → Int → Int → Int → Int → Int → Int → Int → Int → St → Prop) (mu : Int → Int → Int → Int → Int → Int → Int → Int → Int → St → Nat), Iv l1 l2 l3 l4 l5 l6 l7 l8 l9 S ∧ ∀ (l1 l2 l3 l4 l5 l6 l7 l8 l9 : Int) (S : St), Iv l1 l2 l3 l4 l5 l6 l7 l8 l9 S → wX11_areSame_130' l1 l2 l3 l4 l5 l6 l7 l8 l9 S K B28 (fun ml1 ml2 ml3 ml4 ml5 ml6 ml7 ml8 ml9 T => Iv ml1 ml2 ml3 ml4 ml5 ml6 ml7 ml8 ml9 T ∧ mu ml1 ml2 ml3 ml4 ml5 ml6 ml7 ml8 ml9 T < mu l1 l2 l3 l4 l5 l6 l7 l8 l9 S)
set_option maxRecDepth 100000 in
set_option maxHeartbeats 4000000 in
theorem bX11_areSame_130 {G : xG} {sh : Nat → Option Sh} {J : St → List va_E → Prop} {d : Nat} {Post : xP} {l1 l2 l3 l4 l5 l6 l7 l8 l9 : Int} {S : St} {cs : List va_E} {K : Int → St → Prop} {B28 : Int → Int → Int → Int → Int → St → Prop} (hd : 1 ≤ d) (hJ : Stb sh J) (hT : isM sh) (hW : Wd G sh mT J S cs) (hP : ∀ (v : Int) (S : St) (cs : List va_E), K v S → Wd G sh mT J S cs → Post (some (.int (Int32.ofInt v))) cs) (hB28 : ∀ (l1 : Int) (l2 : Int) (l3 : Int) (l4 : Int) (l5 : Int) (S : St) (cs : List va_E), B28 l1 l2 l3 l4 l5 S → Wd G sh mT J S cs → Z (RX11, cX11_areSame, 12, some .boolean, false) G d Post 28 [(0, .ref (G.1 + 54)), (1, .int (Int32.ofInt (l1))), (2, .int (Int32.ofInt (l2))), (3, .int (Int32.ofInt (l3))), (4, .int (Int32.ofInt (l4))), (5, .int (Int32.ofInt (l5)))] [] cs) (hw : wX11_areSame_130 l1 l2 l3 l4 l5 l6 l7 l8 l9 S K B28) : Z (RX11, cX11_areSame, 12, some .boolean, false) G d Post 130 [(0, .ref (G.1 + 54)), (1, .int (Int32.ofInt (l1))), (2, .int (Int32.ofInt (l2))), (3, .int (Int32.ofInt (l3))), (4, .int (Int32.ofInt (l4))), (5, .int (Int32.ofInt (l5))), (6, .int (Int32.ofInt (l6))), (7, .int (Int32.ofInt (l7))), (8, .int (Int32.ofInt (l8))), (9, .int (Int32.ofInt (l9)))] [] cs := by
  unfold wX11_areSame_130 at hw
  obtain ⟨Iv, mu, h0, hs⟩ := hw
  have key : ∀ (n : Nat) (l1 l2 l3 l4 l5 l6 l7 l8 l9 : Int) (S : St) (cs : List va_E), mu l1 l2 l3 l4 l5 l6 l7 l8 l9 S < n → Iv l1 l2 l3 l4 l5 l6 l7 l8 l9 S → Wd G sh mT J S cs → Z (RX11, cX11_areSame, 12, some .boolean, false) G d Post 130 [(0, .ref (G.1 + 54)), (1, .int (Int32.ofInt (l1))), (2, .int (Int32.ofInt (l2))), (3, .int (Int32.ofInt (l3))), (4, .int (Int32.ofInt (l4))), (5, .int (Int32.ofInt (l5))), (6, .int (Int32.ofInt (l6))), (7, .int (Int32.ofInt (l7))), (8, .int (Int32.ofInt (l8))), (9, .int (Int32.ofInt (l9)))] [] cs := by
    intro n
    induction n with
    | zero => intro l1 l2 l3 l4 l5 l6 l7 l8 l9 S cs hn; exact absurd hn (Nat.not_lt_zero _)
    | succ n ih =>
      intro l1 l2 l3 l4 l5 l6 l7 l8 l9 S cs hn hI hW
      exact bX11_areSame_130' hd hJ hT hW hP hB28 (fun l1 l2 l3 l4 l5 l6 l7 l8 l9 S cs hb hW => ih l1 l2 l3 l4 l5 l6 l7 l8 l9 S cs (Nat.lt_of_lt_of_le hb.2 (Nat.le_of_lt_succ hn)) hb.1 hW) (hs l1 l2 l3 l4 l5 l6 l7 l8 l9 S hI)
  exact key _ _ _ _ _ _ _ _ _ _ _ _ (Nat.lt_succ_self _) h0 hW
def wX11_areSame_125 (l1 l2 l3 l5 l6 l7 l8 s0 : Int) (S : St) (K : Int → St → Prop) (B28 : Int → Int → Int → Int → Int → St → Prop) : Prop := wX11_areSame_130 (l1) (l2) (l3) (s0) (l5) (l6) (l7) (l8) (0) S K B28
set_option maxRecDepth 100000 in
set_option maxHeartbeats 4000000 in
theorem bX11_areSame_125 {G : xG} {sh : Nat → Option Sh} {J : St → List va_E → Prop} {d : Nat} {Post : xP} {l1 l2 l3 l5 l6 l7 l8 s0 : Int} {S : St} {cs : List va_E} {K : Int → St → Prop} {B28 : Int → Int → Int → Int → Int → St → Prop} (hd : 1 ≤ d) (hJ : Stb sh J) (hT : isM sh) (hW : Wd G sh mT J S cs) (hP : ∀ (v : Int) (S : St) (cs : List va_E), K v S → Wd G sh mT J S cs → Post (some (.int (Int32.ofInt v))) cs) (hB28 : ∀ (l1 : Int) (l2 : Int) (l3 : Int) (l4 : Int) (l5 : Int) (S : St) (cs : List va_E), B28 l1 l2 l3 l4 l5 S → Wd G sh mT J S cs → Z (RX11, cX11_areSame, 12, some .boolean, false) G d Post 28 [(0, .ref (G.1 + 54)), (1, .int (Int32.ofInt (l1))), (2, .int (Int32.ofInt (l2))), (3, .int (Int32.ofInt (l3))), (4, .int (Int32.ofInt (l4))), (5, .int (Int32.ofInt (l5)))] [] cs) (hw : wX11_areSame_125 l1 l2 l3 l5 l6 l7 l8 s0 S K B28) : Z (RX11, cX11_areSame, 12, some .boolean, false) G d Post 125 [(0, .ref (G.1 + 54)), (1, .int (Int32.ofInt (l1))), (2, .int (Int32.ofInt (l2))), (3, .int (Int32.ofInt (l3))), (5, .int (Int32.ofInt (l5))), (6, .int (Int32.ofInt (l6))), (7, .int (Int32.ofInt (l7))), (8, .int (Int32.ofInt (l8)))] [.int (Int32.ofInt (s0))] cs := by
  unfold wX11_areSame_125 at hw
  refine z_istore dX11_areSame_125 (by decide) ?_
  refine z_iconst (v := Int32.ofInt 0) dX11_areSame_127 rfl ?_
  refine z_istore dX11_areSame_128 (by decide) ?_
  refine z_loc (L' := [(0, .ref (G.1 + 54)), (1, .int (Int32.ofInt (l1))), (2, .int (Int32.ofInt (l2))), (3, .int (Int32.ofInt (l3))), (4, .int (Int32.ofInt (s0))), (5, .int (Int32.ofInt (l5))), (6, .int (Int32.ofInt (l6))), (7, .int (Int32.ofInt (l7))), (8, .int (Int32.ofInt (l8))), (9, .int (Int32.ofInt (0)))]) (List.forall_mem_cons.mpr ⟨rfl, (List.forall_mem_cons.mpr ⟨rfl, (List.forall_mem_cons.mpr ⟨rfl, (List.forall_mem_cons.mpr ⟨rfl, (List.forall_mem_cons.mpr ⟨rfl, (List.forall_mem_cons.mpr ⟨rfl, (List.forall_mem_cons.mpr ⟨rfl, (List.forall_mem_cons.mpr ⟨rfl, (List.forall_mem_cons.mpr ⟨rfl, (List.forall_mem_cons.mpr ⟨rfl, (fun _ h => nomatch h)⟩)⟩)⟩)⟩)⟩)⟩)⟩)⟩)⟩)⟩) ?_
  exact bX11_areSame_130 hd hJ hT hW hP hB28 hw
def wX11_areSame_28' (l1 l2 l3 l4 l5 : Int) (S : St) (K : Int → St → Prop) (B28 : Int → Int → Int → Int → Int → St → Prop) : Prop := ((0 : Int) ≤ l3 ∧ l3 < (6 : Int) ∧ (iv 0 4 (S.2 56 (l3)) → (rng (l5) ∧ ((S.2 56 (l3) ≤ l5 → (iv 0 1 (l4) ∧ K (l4) S)) ∧ ((¬ (S.2 56 (l3) ≤ l5)) → (rng (l4) ∧ ((l4 = 0 → (iv 0 1 (l4) ∧ K (l4) S)) ∧ ((¬ (l4 = 0)) → ((0 : Int) ≤ ((4 * l3) + l5) ∧ ((4 * l3) + l5) < (24 : Int) ∧ (iv 0 3 (S.2 59 (((4 * l3) + l5))) → ((¬ S.2 59 (((4 * l3) + l5)) = 2 → ((0 : Int) ≤ ((4 * l1) + l5) ∧ ((4 * l1) + l5) < (360 : Int) ∧ (iv (-2147483648) 2147483647 (S.2 69 (((4 * l1) + l5))) → ((0 : Int) ≤ ((4 * (30 + l2)) + l5) ∧ ((4 * (30 + l2)) + l5) < (360 : Int) ∧ (iv (-2147483648) 2147483647 (S.2 69 (((4 * (30 + l2)) + l5))) → ((¬ S.2 69 (((4 * l1) + l5)) = S.2 69 (((4 * (30 + l2)) + l5)) → wX11_areSame_125 (l1) (l2) (l3) (l5) (((4 * l1) + l5)) (((4 * (30 + l2)) + l5)) (S.2 59 (((4 * l3) + l5))) (0) S K B28) ∧ ((¬ (¬ S.2 69 (((4 * l1) + l5)) = S.2 69 (((4 * (30 + l2)) + l5)))) → wX11_areSame_125 (l1) (l2) (l3) (l5) (((4 * l1) + l5)) (((4 * (30 + l2)) + l5)) (S.2 59 (((4 * l3) + l5))) (1) S K B28))))))) ∧ ((¬ (¬ S.2 59 (((4 * l3) + l5)) = 2)) → ((0 : Int) ≤ ((4 * l1) + l5) ∧ ((4 * l1) + l5) < (360 : Int) ∧ (iv (-2147483648) 2147483647 (S.2 69 (((4 * l1) + l5))) → ((0 : Int) ≤ ((4 * (30 + l2)) + l5) ∧ ((4 * (30 + l2)) + l5) < (360 : Int) ∧ (iv (-2147483648) 2147483647 (S.2 69 (((4 * (30 + l2)) + l5))) → (wX11_pair (S.2 69 (((4 * l1) + l5))) (S.2 69 (((4 * (30 + l2)) + l5))) S (fun r21 S22 => wX11_areSame_125 (l1) (l2) (l3) (l5) (((4 * l1) + l5)) (((4 * (30 + l2)) + l5)) (S.2 59 (((4 * l3) + l5))) (r21) S22 K B28))))))))))))))))))
set_option maxRecDepth 100000 in
set_option maxHeartbeats 4000000 in
theorem bX11_areSame_28' {G : xG} {sh : Nat → Option Sh} {J : St → List va_E → Prop} {d : Nat} {Post : xP} {l1 l2 l3 l4 l5 : Int} {S : St} {cs : List va_E} {K : Int → St → Prop} {B28 : Int → Int → Int → Int → Int → St → Prop} (hd : 1 ≤ d) (hJ : Stb sh J) (hT : isM sh) (hW : Wd G sh mT J S cs) (hP : ∀ (v : Int) (S : St) (cs : List va_E), K v S → Wd G sh mT J S cs → Post (some (.int (Int32.ofInt v))) cs) (hB28 : ∀ (l1 : Int) (l2 : Int) (l3 : Int) (l4 : Int) (l5 : Int) (S : St) (cs : List va_E), B28 l1 l2 l3 l4 l5 S → Wd G sh mT J S cs → Z (RX11, cX11_areSame, 12, some .boolean, false) G d Post 28 [(0, .ref (G.1 + 54)), (1, .int (Int32.ofInt (l1))), (2, .int (Int32.ofInt (l2))), (3, .int (Int32.ofInt (l3))), (4, .int (Int32.ofInt (l4))), (5, .int (Int32.ofInt (l5)))] [] cs) (hw : wX11_areSame_28' l1 l2 l3 l4 l5 S K B28) : Z (RX11, cX11_areSame, 12, some .boolean, false) G d Post 28 [(0, .ref (G.1 + 54)), (1, .int (Int32.ofInt (l1))), (2, .int (Int32.ofInt (l2))), (3, .int (Int32.ofInt (l3))), (4, .int (Int32.ofInt (l4))), (5, .int (Int32.ofInt (l5)))] [] cs := by
  unfold wX11_areSame_28' at hw
  refine z_iload dX11_areSame_28 rfl ?_
  refine z_aload_n dX11_areSame_30 rfl rfl ?_
  refine g_getR hW hT.1 mr3 kX11 fX11_13 dX11_areSame_31 ?_
  refine z_iload_n dX11_areSame_34 rfl rfl ?_
  obtain ⟨q1a, q1b, hw⟩ := hw
  have q2 : iv 0 4 (S.2 56 (l3)) := mA56 hW _
  have hw := hw q2
  refine g_iald hW (ma56 hT) q1a q1b (by decide) dX11_areSame_35 ?_
  obtain ⟨q4, hw⟩ := hw
  refine i_icmp_ge (tgt := 231) dX11_areSame_36 (by decide) q4 (rngq q2 (by decide) (by decide)) (fun h3 => ?_) (fun h3 => ?_)
  · have hw := hw.1 h3
    refine z_iload dX11_areSame_231 rfl ?_
    obtain ⟨q5, hw⟩ := hw
    exact z_ireturn dX11_areSame_233 rfl (nar01 (b01 q5)) (hP _ _ _ hw hW)
  · have hw := hw.2 h3
    refine z_iload dX11_areSame_39 rfl ?_
    obtain ⟨q7, hw⟩ := hw
    refine i_if_eq (tgt := 231) dX11_areSame_41 (by decide) q7 (fun h6 => ?_) (fun h6 => ?_)
    · have hw := hw.1 h6
      refine z_iload dX11_areSame_231 rfl ?_
      obtain ⟨q8, hw⟩ := hw
      exact z_ireturn dX11_areSame_233 rfl (nar01 (b01 q8)) (hP _ _ _ hw hW)
    · have hw := hw.2 h6
      refine z_iconst (v := Int32.ofInt 4) dX11_areSame_44 rfl ?_
      refine z_iload_n dX11_areSame_45 rfl rfl ?_
      refine i_imul dX11_areSame_46 ?_
      refine z_iload dX11_areSame_47 rfl ?_
      refine i_iadd dX11_areSame_49 ?_
      refine z_istore dX11_areSame_50 (by decide) ?_
      refine z_iconst (v := Int32.ofInt 4) dX11_areSame_52 rfl ?_
      refine z_bipush (v := Int32.ofInt 30) dX11_areSame_53 (by decide) ?_
      refine z_iload_n dX11_areSame_55 rfl rfl ?_
      refine i_iadd dX11_areSame_56 ?_
      refine i_imul dX11_areSame_57 ?_
      refine z_iload dX11_areSame_58 rfl ?_
      refine i_iadd dX11_areSame_60 ?_
      refine z_istore dX11_areSame_61 (by decide) ?_
      refine z_aload_n dX11_areSame_63 rfl rfl ?_
      refine g_getR hW hT.1 mr6 kX11 fX11_22 dX11_areSame_64 ?_
      refine z_iconst (v := Int32.ofInt 4) dX11_areSame_67 rfl ?_
      refine z_iload_n dX11_areSame_68 rfl rfl ?_
      refine i_imul dX11_areSame_69 ?_
      refine z_iload dX11_areSame_70 rfl ?_
      refine i_iadd dX11_areSame_72 ?_
      obtain ⟨q9a, q9b, hw⟩ := hw
      have q10 : iv 0 3 (S.2 59 (((4 * l3) + l5))) := mA59 hW _
      have hw := hw q10
      refine g_iald hW (ma59 hT) q9a q9b (by decide) dX11_areSame_73 ?_
      refine z_istore dX11_areSame_74 (by decide) ?_
      refine z_iload dX11_areSame_76 rfl ?_
      refine z_iconst (v := Int32.ofInt 2) dX11_areSame_78 rfl ?_
      refine i_icmp_ne (tgt := 103) dX11_areSame_79 (by decide) (rngq q10 (by decide) (by decide)) ⟨by decide, by decide⟩ (fun h11 => ?_) (fun h11 => ?_)
      · have hw := hw.1 h11
        refine z_aload_n dX11_areSame_103 rfl rfl ?_
        refine g_getR hW hT.1 mr16 kX11 fX11_53 dX11_areSame_104 ?_
        refine z_iload dX11_areSame_107 rfl ?_
        obtain ⟨q12a, q12b, hw⟩ := hw
        have q13 : iv (-2147483648) 2147483647 (S.2 69 (((4 * l1) + l5))) := mA69 hW _
        have hw := hw q13
        refine g_iald hW (ma69 hT) q12a q12b (by decide) dX11_areSame_109 ?_
        refine z_aload_n dX11_areSame_110 rfl rfl ?_
        refine g_getR hW hT.1 mr16 kX11 fX11_53 dX11_areSame_111 ?_
        refine z_iload dX11_areSame_114 rfl ?_
        obtain ⟨q14a, q14b, hw⟩ := hw
        have q15 : iv (-2147483648) 2147483647 (S.2 69 (((4 * (30 + l2)) + l5))) := mA69 hW _
        have hw := hw q15
        refine g_iald hW (ma69 hT) q14a q14b (by decide) dX11_areSame_116 ?_
        refine i_icmp_ne (tgt := 124) dX11_areSame_117 (by decide) (rngq q13 (by decide) (by decide)) (rngq q15 (by decide) (by decide)) (fun h16 => ?_) (fun h16 => ?_)
        · have hw := hw.1 h16
          refine z_iconst (v := Int32.ofInt 0) dX11_areSame_124 rfl ?_
          refine z_loc (L' := [(0, .ref (G.1 + 54)), (1, .int (Int32.ofInt (l1))), (2, .int (Int32.ofInt (l2))), (3, .int (Int32.ofInt (l3))), (5, .int (Int32.ofInt (l5))), (6, .int (Int32.ofInt (((4 * l1) + l5)))), (7, .int (Int32.ofInt (((4 * (30 + l2)) + l5)))), (8, .int (Int32.ofInt (S.2 59 (((4 * l3) + l5)))))]) (List.forall_mem_cons.mpr ⟨rfl, (List.forall_mem_cons.mpr ⟨rfl, (List.forall_mem_cons.mpr ⟨rfl, (List.forall_mem_cons.mpr ⟨rfl, (List.forall_mem_cons.mpr ⟨rfl, (List.forall_mem_cons.mpr ⟨rfl, (List.forall_mem_cons.mpr ⟨rfl, (List.forall_mem_cons.mpr ⟨rfl, (fun _ h => nomatch h)⟩)⟩)⟩)⟩)⟩)⟩)⟩)⟩) ?_
          exact bX11_areSame_125 hd hJ hT hW hP hB28 hw
        · have hw := hw.2 h16
          refine z_iconst (v := Int32.ofInt 1) dX11_areSame_120 rfl ?_
          refine z_goto (tgt := 125) dX11_areSame_121 (by decide) ?_
          refine z_loc (L' := [(0, .ref (G.1 + 54)), (1, .int (Int32.ofInt (l1))), (2, .int (Int32.ofInt (l2))), (3, .int (Int32.ofInt (l3))), (5, .int (Int32.ofInt (l5))), (6, .int (Int32.ofInt (((4 * l1) + l5)))), (7, .int (Int32.ofInt (((4 * (30 + l2)) + l5)))), (8, .int (Int32.ofInt (S.2 59 (((4 * l3) + l5)))))]) (List.forall_mem_cons.mpr ⟨rfl, (List.forall_mem_cons.mpr ⟨rfl, (List.forall_mem_cons.mpr ⟨rfl, (List.forall_mem_cons.mpr ⟨rfl, (List.forall_mem_cons.mpr ⟨rfl, (List.forall_mem_cons.mpr ⟨rfl, (List.forall_mem_cons.mpr ⟨rfl, (List.forall_mem_cons.mpr ⟨rfl, (fun _ h => nomatch h)⟩)⟩)⟩)⟩)⟩)⟩)⟩)⟩) ?_
          exact bX11_areSame_125 hd hJ hT hW hP hB28 hw
      · have hw := hw.2 h11
        refine z_aload_n dX11_areSame_82 rfl rfl ?_
        refine z_aload_n dX11_areSame_83 rfl rfl ?_
        refine g_getR hW hT.1 mr16 kX11 fX11_53 dX11_areSame_84 ?_
        refine z_iload dX11_areSame_87 rfl ?_
        obtain ⟨q17a, q17b, hw⟩ := hw
        have q18 : iv (-2147483648) 2147483647 (S.2 69 (((4 * l1) + l5))) := mA69 hW _
        have hw := hw q18
        refine g_iald hW (ma69 hT) q17a q17b (by decide) dX11_areSame_89 ?_
        refine z_aload_n dX11_areSame_90 rfl rfl ?_
        refine g_getR hW hT.1 mr16 kX11 fX11_53 dX11_areSame_91 ?_
        refine z_iload dX11_areSame_94 rfl ?_
        obtain ⟨q19a, q19b, hw⟩ := hw
        have q20 : iv (-2147483648) 2147483647 (S.2 69 (((4 * (30 + l2)) + l5))) := mA69 hW _
        have hw := hw q20
        refine g_iald hW (ma69 hT) q19a q19b (by decide) dX11_areSame_96 ?_
        have hX := lX11_pair 0 (Nat.le_refl _) hJ hT hW (rngq q18 (by decide) (by decide)) (rngq q20 (by decide) (by decide)) hw
        refine z_callV (As := [_, _]) eX11_pair sX11_pair lX11_508 rfl dX11_areSame_97 (hW.1 _ _ hT.1) hX (Nat.le_trans (by decide) hd) rfl (Nat.le_of_ble_eq_true rfl) (fun r cs hp => ?_)
        obtain ⟨r21, S22, rfl, hw, hW⟩ := hp
        refine z_st (st' := [.int (Int32.ofInt (r21))]) rfl ?_
        refine z_goto (tgt := 125) dX11_areSame_100 (by decide) ?_
        refine z_loc (L' := [(0, .ref (G.1 + 54)), (1, .int (Int32.ofInt (l1))), (2, .int (Int32.ofInt (l2))), (3, .int (Int32.ofInt (l3))), (5, .int (Int32.ofInt (l5))), (6, .int (Int32.ofInt (((4 * l1) + l5)))), (7, .int (Int32.ofInt (((4 * (30 + l2)) + l5)))), (8, .int (Int32.ofInt (S.2 59 (((4 * l3) + l5)))))]) (List.forall_mem_cons.mpr ⟨rfl, (List.forall_mem_cons.mpr ⟨rfl, (List.forall_mem_cons.mpr ⟨rfl, (List.forall_mem_cons.mpr ⟨rfl, (List.forall_mem_cons.mpr ⟨rfl, (List.forall_mem_cons.mpr ⟨rfl, (List.forall_mem_cons.mpr ⟨rfl, (List.forall_mem_cons.mpr ⟨rfl, (fun _ h => nomatch h)⟩)⟩)⟩)⟩)⟩)⟩)⟩)⟩) ?_
        exact bX11_areSame_125 hd hJ hT hW hP hB28 hw
def wX11_areSame_28 (l1 l2 l3 l4 l5 : Int) (S : St) (K : Int → St → Prop) : Prop := ∃ (Iv : Int → Int → Int → Int → Int → St → Prop) (mu : Int → Int → Int → Int → Int → St → Nat), Iv l1 l2 l3 l4 l5 S ∧ ∀ (l1 l2 l3 l4 l5 : Int) (S : St), Iv l1 l2 l3 l4 l5 S → wX11_areSame_28' l1 l2 l3 l4 l5 S K  (fun ml1 ml2 ml3 ml4 ml5 T => Iv ml1 ml2 ml3 ml4 ml5 T ∧ mu ml1 ml2 ml3 ml4 ml5 T < mu l1 l2 l3 l4 l5 S)
set_option maxRecDepth 100000 in
set_option maxHeartbeats 4000000 in
theorem bX11_areSame_28 {G : xG} {sh : Nat → Option Sh} {J : St → List va_E → Prop} {d : Nat} {Post : xP} {l1 l2 l3 l4 l5 : Int} {S : St} {cs : List va_E} {K : Int → St → Prop} (hd : 1 ≤ d) (hJ : Stb sh J) (hT : isM sh) (hW : Wd G sh mT J S cs) (hP : ∀ (v : Int) (S : St) (cs : List va_E), K v S → Wd G sh mT J S cs → Post (some (.int (Int32.ofInt v))) cs)  (hw : wX11_areSame_28 l1 l2 l3 l4 l5 S K ) : Z (RX11, cX11_areSame, 12, some .boolean, false) G d Post 28 [(0, .ref (G.1 + 54)), (1, .int (Int32.ofInt (l1))), (2, .int (Int32.ofInt (l2))), (3, .int (Int32.ofInt (l3))), (4, .int (Int32.ofInt (l4))), (5, .int (Int32.ofInt (l5)))] [] cs := by
  unfold wX11_areSame_28 at hw
  obtain ⟨Iv, mu, h0, hs⟩ := hw
  have key : ∀ (n : Nat) (l1 l2 l3 l4 l5 : Int) (S : St) (cs : List va_E), mu l1 l2 l3 l4 l5 S < n → Iv l1 l2 l3 l4 l5 S → Wd G sh mT J S cs → Z (RX11, cX11_areSame, 12, some .boolean, false) G d Post 28 [(0, .ref (G.1 + 54)), (1, .int (Int32.ofInt (l1))), (2, .int (Int32.ofInt (l2))), (3, .int (Int32.ofInt (l3))), (4, .int (Int32.ofInt (l4))), (5, .int (Int32.ofInt (l5)))] [] cs := by
    intro n
    induction n with
    | zero => intro l1 l2 l3 l4 l5 S cs hn; exact absurd hn (Nat.not_lt_zero _)
    | succ n ih =>
      intro l1 l2 l3 l4 l5 S cs hn hI hW
      exact bX11_areSame_28' hd hJ hT hW hP  (fun l1 l2 l3 l4 l5 S cs hb hW => ih l1 l2 l3 l4 l5 S cs (Nat.lt_of_lt_of_le hb.2 (Nat.le_of_lt_succ hn)) hb.1 hW) (hs l1 l2 l3 l4 l5 S hI)
  exact key _ _ _ _ _ _ _ _ (Nat.lt_succ_self _) h0 hW
def wX11_areSame (a1 a2 : Int) (S : St) (K : Int → St → Prop) : Prop := rng a1 → rng a2 → ((0 : Int) ≤ a1 ∧ a1 < (90 : Int) ∧ (iv 0 5 (S.2 68 (a1)) → ((0 : Int) ≤ (30 + a2) ∧ (30 + a2) < (90 : Int) ∧ (iv 0 5 (S.2 68 ((30 + a2))) → ((S.2 68 (a1) = S.2 68 ((30 + a2)) → wX11_areSame_28 (a1) (a2) (S.2 68 (a1)) (1) (0) S K) ∧ ((¬ (S.2 68 (a1) = S.2 68 ((30 + a2)))) → K (0) S))))))
set_option maxRecDepth 100000 in
set_option maxHeartbeats 4000000 in
theorem lX11_areSame {G : xG} {sh : Nat → Option Sh} {J : St → List va_E → Prop} {a1 a2 : Int} {S : St} {cs : List va_E} {K : Int → St → Prop} (d : Nat) (hd : 1 ≤ d) (hJ : Stb sh J) (hT : isM sh) (hW : Wd G sh mT J S cs) (g1 : rng a1) (g2 : rng a2) (hw : wX11_areSame a1 a2 S K) : X G yX11_areSame cX11_areSame 12 (some .boolean) d [.ref (G.1 + 54), .int (Int32.ofInt a1), .int (Int32.ofInt a2)] cs (qI G sh mT J K) := by
  refine X.of false (by decide +kernel) (by decide) (Nat.le_of_ble_eq_true rfl) ?_
  show Z (RX11, cX11_areSame, 12, some .boolean, false) G d _ 0 [(0, .ref (G.1 + 54)), (1, .int (Int32.ofInt a1)), (2, .int (Int32.ofInt a2))] [] cs
  have hP : ∀ (v : Int) (S : St) (cs : List va_E), K v S → Wd G sh mT J S cs → qI G sh mT J K (some (.int (Int32.ofInt v))) cs := fun v S cs a b => ⟨v, S, rfl, a, b⟩
  unfold wX11_areSame at hw
  have hw := hw g1 g2
  refine z_aload_n dX11_areSame_0 rfl rfl ?_
  refine g_getR hW hT.1 mr15 kX11 fX11_50 dX11_areSame_1 ?_
  refine z_iload_n dX11_areSame_4 rfl rfl ?_
  obtain ⟨q1a, q1b, hw⟩ := hw
  have q2 : iv 0 5 (S.2 68 (a1)) := mA68 hW _
  have hw := hw q2
  refine g_iald hW (ma68 hT) q1a q1b (by decide) dX11_areSame_5 ?_
  refine z_istore_n dX11_areSame_6 rfl (by decide) ?_
  refine z_iload_n dX11_areSame_7 rfl rfl ?_
  refine z_aload_n dX11_areSame_8 rfl rfl ?_
  refine g_getR hW hT.1 mr15 kX11 fX11_50 dX11_areSame_9 ?_
  refine z_bipush (v := Int32.ofInt 30) dX11_areSame_12 (by decide) ?_
  refine z_iload_n dX11_areSame_14 rfl rfl ?_
  refine i_iadd dX11_areSame_15 ?_
  obtain ⟨q3a, q3b, hw⟩ := hw
  have q4 : iv 0 5 (S.2 68 ((30 + a2))) := mA68 hW _
  have hw := hw q4
  refine g_iald hW (ma68 hT) q3a q3b (by decide) dX11_areSame_16 ?_
  refine i_icmp_eq (tgt := 22) dX11_areSame_17 (by decide) (rngq q2 (by decide) (by decide)) (rngq q4 (by decide) (by decide)) (fun h5 => ?_) (fun h5 => ?_)
  · have hw := hw.1 h5
    refine z_iconst (v := Int32.ofInt 1) dX11_areSame_22 rfl ?_
    refine z_istore dX11_areSame_23 (by decide) ?_
    refine z_iconst (v := Int32.ofInt 0) dX11_areSame_25 rfl ?_
    refine z_istore dX11_areSame_26 (by decide) ?_
    refine z_loc (L' := [(0, .ref (G.1 + 54)), (1, .int (Int32.ofInt (a1))), (2, .int (Int32.ofInt (a2))), (3, .int (Int32.ofInt (S.2 68 (a1)))), (4, .int (Int32.ofInt (1))), (5, .int (Int32.ofInt (0)))]) (List.forall_mem_cons.mpr ⟨rfl, (List.forall_mem_cons.mpr ⟨rfl, (List.forall_mem_cons.mpr ⟨rfl, (List.forall_mem_cons.mpr ⟨rfl, (List.forall_mem_cons.mpr ⟨rfl, (List.forall_mem_cons.mpr ⟨rfl, (fun _ h => nomatch h)⟩)⟩)⟩)⟩)⟩)⟩) ?_
    exact bX11_areSame_28 hd hJ hT hW hP  hw
  · have hw := hw.2 h5
    refine z_iconst (v := Int32.ofInt 0) dX11_areSame_20 rfl ?_
    exact z_ireturn dX11_areSame_21 rfl (nar01 (by decide)) (hP _ _ _ hw hW)

def wX11_docAt (a1 : Int) (S : St) (K : Int → St → Prop) : Prop := rng a1 → (iv 0 3000 (S.1 54 41) → ((S.1 54 41 ≤ a1 → K ((-1)) S) ∧ ((¬ (S.1 54 41 ≤ a1)) → ((0 : Int) ≤ a1 ∧ a1 < (3000 : Int) ∧ (iv (-2147483648) 2147483647 (S.2 84 (a1)) → K (S.2 84 (a1)) S)))))
set_option maxRecDepth 100000 in
set_option maxHeartbeats 4000000 in
theorem lX11_docAt {G : xG} {sh : Nat → Option Sh} {J : St → List va_E → Prop} {a1 : Int} {S : St} {cs : List va_E} {K : Int → St → Prop} (d : Nat) (hd : 0 ≤ d) (hJ : Stb sh J) (hT : isM sh) (hW : Wd G sh mT J S cs) (g1 : rng a1) (hw : wX11_docAt a1 S K) : X G yX11_docAt cX11_docAt 2 (some .int) d [.ref (G.1 + 54), .int (Int32.ofInt a1)] cs (qI G sh mT J K) := by
  refine X.of false (by decide +kernel) (by decide) (Nat.le_of_ble_eq_true rfl) ?_
  show Z (RX11, cX11_docAt, 2, some .int, false) G d _ 0 [(0, .ref (G.1 + 54)), (1, .int (Int32.ofInt a1))] [] cs
  have hP : ∀ (v : Int) (S : St) (cs : List va_E), K v S → Wd G sh mT J S cs → qI G sh mT J K (some (.int (Int32.ofInt v))) cs := fun v S cs a b => ⟨v, S, rfl, a, b⟩
  unfold wX11_docAt at hw
  have hw := hw g1
  refine z_iload_n dX11_docAt_0 rfl rfl ?_
  refine z_aload_n dX11_docAt_1 rfl rfl ?_
  have q1 : iv 0 3000 (S.1 54 41) := mI41 hW
  have hw := hw q1
  refine g_getI hW hT.1 mr41 kX11 fX11_340 dX11_docAt_2 ?_
  refine i_icmp_ge (tgt := 17) dX11_docAt_5 (by decide) g1 (rngq q1 (by decide) (by decide)) (fun h2 => ?_) (fun h2 => ?_)
  · have hw := hw.1 h2
    refine z_iconst (v := Int32.ofInt (-1)) dX11_docAt_17 rfl ?_
    exact z_ireturn dX11_docAt_18 rfl rfl (hP _ _ _ hw hW)
  · have hw := hw.2 h2
    refine z_aload_n dX11_docAt_8 rfl rfl ?_
    refine g_getR hW hT.1 mr42 kX11 fX11_102 dX11_docAt_9 ?_
    refine z_iload_n dX11_docAt_12 rfl rfl ?_
    obtain ⟨q3a, q3b, hw⟩ := hw
    have q4 : iv (-2147483648) 2147483647 (S.2 84 (a1)) := mA84 hW _
    have hw := hw q4
    refine g_iald hW (ma84 hT) q3a q3b (by decide) dX11_docAt_13 ?_
    refine z_goto (tgt := 18) dX11_docAt_14 (by decide) ?_
    exact z_ireturn dX11_docAt_18 rfl rfl (hP _ _ _ hw hW)

def wX11_fail (a1 : Int) (S : St) (K : Int → St → Prop) : Prop := rng a1 → (iv (-2147483648) 2147483647 (S.1 54 59) → ((¬ S.1 54 59 = (-2) → (∀ S3, S3 = pI S 54 59 (S.1 54 59) → K 0 S3)) ∧ ((¬ (¬ S.1 54 59 = (-2))) → (iv (-2147483648) 2147483647 (a1) ∧ (∀ S4, S4 = pI S 54 59 (a1) → K 0 S4)))))
set_option maxRecDepth 100000 in
set_option maxHeartbeats 4000000 in
theorem lX11_fail {G : xG} {sh : Nat → Option Sh} {J : St → List va_E → Prop} {a1 : Int} {S : St} {cs : List va_E} {K : Int → St → Prop} (d : Nat) (hd : 0 ≤ d) (hJ : Stb sh J) (hT : isM sh) (hW : Wd G sh mT J S cs) (g1 : rng a1) (hw : wX11_fail a1 S K) : X G yX11_fail cX11_fail 2 none d [.ref (G.1 + 54), .int (Int32.ofInt a1)] cs (qV G sh mT J K) := by
  refine X.of false (by decide +kernel) (by decide) (Nat.le_of_ble_eq_true rfl) ?_
  show Z (RX11, cX11_fail, 2, none, false) G d _ 0 [(0, .ref (G.1 + 54)), (1, .int (Int32.ofInt a1))] [] cs
  have hP : ∀ (v : Int) (S : St) (cs : List va_E), K v S → Wd G sh mT J S cs → qV G sh mT J K (none) cs := fun v S cs a b => ⟨v, S, rfl, a, b⟩
  unfold wX11_fail at hw
  have hw := hw g1
  refine z_aload_n dX11_fail_0 rfl rfl ?_
  refine z_aload_n dX11_fail_1 rfl rfl ?_
  have q1 : iv (-2147483648) 2147483647 (S.1 54 59) := mI59 hW
  have hw := hw q1
  refine g_getI hW hT.1 mr59 kX11 fX11_343 dX11_fail_2 ?_
  refine z_bipush (v := Int32.ofInt (-2)) dX11_fail_5 (by decide) ?_
  refine i_icmp_ne (tgt := 14) dX11_fail_7 (by decide) (rngq q1 (by decide) (by decide)) ⟨by decide, by decide⟩ (fun h2 => ?_) (fun h2 => ?_)
  · have hw := hw.1 h2
    refine z_aload_n dX11_fail_14 rfl rfl ?_
    refine g_getI hW hT.1 mr59 kX11 fX11_343 dX11_fail_15 ?_
    refine g_putI hJ hW hT.1 mr59 kX11 fX11_343 dX11_fail_18 rfl rfl rfl q1 (fun cs hW => ?_)
    obtain ⟨S3, hS3⟩ : ∃ x, x = pI S 54 59 (S.1 54 59) := ⟨_, rfl⟩
    rw [← hS3] at hW
    have hw := hw S3 hS3
    exact z_return dX11_fail_21 rfl (hP 0 _ _ hw hW)
  · have hw := hw.2 h2
    refine z_iload_n dX11_fail_10 rfl rfl ?_
    refine z_goto (tgt := 18) dX11_fail_11 (by decide) ?_
    obtain ⟨q5, hw⟩ := hw
    refine g_putI hJ hW hT.1 mr59 kX11 fX11_343 dX11_fail_18 rfl rfl rfl q5 (fun cs hW => ?_)
    obtain ⟨S4, hS4⟩ : ∃ x, x = pI S 54 59 (a1) := ⟨_, rfl⟩
    rw [← hS4] at hW
    have hw := hw S4 hS4
    exact z_return dX11_fail_21 rfl (hP 0 _ _ hw hW)

def wX11_keep (a1 a2 : Int) (S : St) (K : Int → St → Prop) : Prop := rng a1 → rng a2 → (iv 0 3000 (S.1 54 56) → ((0 : Int) ≤ S.1 54 56 ∧ S.1 54 56 < (3000 : Int) ∧ (iv (-2147483648) 2147483647 (a1) ∧ (∀ S3, S3 = pA S 96 (S.1 54 56) (a1) → (iv 0 3000 (S3.1 54 56) → ((0 : Int) ≤ S3.1 54 56 ∧ S3.1 54 56 < (3000 : Int) ∧ (iv (-2) 199 (a2) ∧ (∀ S7, S7 = pA S3 97 (S3.1 54 56) (a2) → (iv 0 3000 (S7.1 54 56) → (iv 0 3000 ((S7.1 54 56 + 1)) ∧ (∀ S10, S10 = pI S7 54 56 ((S7.1 54 56 + 1)) → K 0 S10)))))))))))
set_option maxRecDepth 100000 in
set_option maxHeartbeats 4000000 in
theorem lX11_keep {G : xG} {sh : Nat → Option Sh} {J : St → List va_E → Prop} {a1 a2 : Int} {S : St} {cs : List va_E} {K : Int → St → Prop} (d : Nat) (hd : 0 ≤ d) (hJ : Stb sh J) (hT : isM sh) (hW : Wd G sh mT J S cs) (g1 : rng a1) (g2 : rng a2) (hw : wX11_keep a1 a2 S K) : X G yX11_keep cX11_keep 3 none d [.ref (G.1 + 54), .int (Int32.ofInt a1), .int (Int32.ofInt a2)] cs (qV G sh mT J K) := by
  refine X.of false (by decide +kernel) (by decide) (Nat.le_of_ble_eq_true rfl) ?_
  show Z (RX11, cX11_keep, 3, none, false) G d _ 0 [(0, .ref (G.1 + 54)), (1, .int (Int32.ofInt a1)), (2, .int (Int32.ofInt a2))] [] cs
  have hP : ∀ (v : Int) (S : St) (cs : List va_E), K v S → Wd G sh mT J S cs → qV G sh mT J K (none) cs := fun v S cs a b => ⟨v, S, rfl, a, b⟩
  unfold wX11_keep at hw
  have hw := hw g1 g2
  refine z_aload_n dX11_keep_0 rfl rfl ?_
  refine g_getR hW hT.1 mr57 kX11 fX11_138 dX11_keep_1 ?_
  refine z_aload_n dX11_keep_4 rfl rfl ?_
  have q1 : iv 0 3000 (S.1 54 56) := mI56 hW
  have hw := hw q1
  refine g_getI hW hT.1 mr56 kX11 fX11_355 dX11_keep_5 ?_
  refine z_iload_n dX11_keep_8 rfl rfl ?_
  obtain ⟨q2a, q2b, hw⟩ := hw
  obtain ⟨q4, hw⟩ := hw
  refine g_iast hJ hW (ma96 hT) q2a q2b (by decide) q4 dX11_keep_9 (fun cs hW => ?_)
  obtain ⟨S3, hS3⟩ : ∃ x, x = pA S 96 (S.1 54 56) (a1) := ⟨_, rfl⟩
  rw [← hS3] at hW
  have hw := hw S3 hS3
  refine z_aload_n dX11_keep_10 rfl rfl ?_
  refine g_getR hW hT.1 mr58 kX11 fX11_141 dX11_keep_11 ?_
  refine z_aload_n dX11_keep_14 rfl rfl ?_
  have q5 : iv 0 3000 (S3.1 54 56) := mI56 hW
  have hw := hw q5
  refine g_getI hW hT.1 mr56 kX11 fX11_355 dX11_keep_15 ?_
  refine z_iload_n dX11_keep_18 rfl rfl ?_
  obtain ⟨q6a, q6b, hw⟩ := hw
  obtain ⟨q8, hw⟩ := hw
  refine g_iast hJ hW (ma97 hT) q6a q6b (by decide) q8 dX11_keep_19 (fun cs hW => ?_)
  obtain ⟨S7, hS7⟩ : ∃ x, x = pA S3 97 (S3.1 54 56) (a2) := ⟨_, rfl⟩
  rw [← hS7] at hW
  have hw := hw S7 hS7
  refine z_aload_n dX11_keep_20 rfl rfl ?_
  refine z_dup dX11_keep_21 rfl ?_
  have q9 : iv 0 3000 (S7.1 54 56) := mI56 hW
  have hw := hw q9
  refine g_getI hW hT.1 mr56 kX11 fX11_355 dX11_keep_22 ?_
  refine z_iconst (v := Int32.ofInt 1) dX11_keep_25 rfl ?_
  refine i_iadd dX11_keep_26 ?_
  obtain ⟨q11, hw⟩ := hw
  refine g_putI hJ hW hT.1 mr56 kX11 fX11_355 dX11_keep_27 rfl rfl rfl q11 (fun cs hW => ?_)
  obtain ⟨S10, hS10⟩ : ∃ x, x = pI S7 54 56 ((S7.1 54 56 + 1)) := ⟨_, rfl⟩
  rw [← hS10] at hW
  have hw := hw S10 hS10
  exact z_return dX11_keep_30 rfl (hP 0 _ _ hw hW)

def wX11_isLetter_12 (l0 : Int) (S : St) (K : Int → St → Prop) : Prop := (rng (l0) ∧ ((l0 < 65 → K (0) S) ∧ ((¬ (l0 < 65)) → ((90 < l0 → K (0) S) ∧ ((¬ (90 < l0)) → K (1) S)))))
set_option maxRecDepth 100000 in
set_option maxHeartbeats 4000000 in
theorem bX11_isLetter_12 {G : xG} {sh : Nat → Option Sh} {J : St → List va_E → Prop} {d : Nat} {Post : xP} {l0 : Int} {S : St} {cs : List va_E} {K : Int → St → Prop} (hd : 0 ≤ d) (hJ : Stb sh J) (hT : isM sh) (hW : Wd G sh mT J S cs) (hP : ∀ (v : Int) (S : St) (cs : List va_E), K v S → Wd G sh mT J S cs → Post (some (.int (Int32.ofInt v))) cs)  (hw : wX11_isLetter_12 l0 S K ) : Z (RX11, cX11_isLetter, 1, some .boolean, false) G d Post 12 [(0, .int (Int32.ofInt (l0)))] [] cs := by
  unfold wX11_isLetter_12 at hw
  refine z_iload_n dX11_isLetter_12 rfl rfl ?_
  refine z_bipush (v := Int32.ofInt 65) dX11_isLetter_13 (by decide) ?_
  obtain ⟨q2, hw⟩ := hw
  refine i_icmp_lt (tgt := 28) dX11_isLetter_15 (by decide) q2 ⟨by decide, by decide⟩ (fun h1 => ?_) (fun h1 => ?_)
  · have hw := hw.1 h1
    refine z_iconst (v := Int32.ofInt 0) dX11_isLetter_28 rfl ?_
    exact z_ireturn dX11_isLetter_29 rfl (nar01 (by decide)) (hP _ _ _ hw hW)
  · have hw := hw.2 h1
    refine z_iload_n dX11_isLetter_18 rfl rfl ?_
    refine z_bipush (v := Int32.ofInt 90) dX11_isLetter_19 (by decide) ?_
    refine i_icmp_gt (tgt := 28) dX11_isLetter_21 (by decide) q2 ⟨by decide, by decide⟩ (fun h3 => ?_) (fun h3 => ?_)
    · have hw := hw.1 h3
      refine z_iconst (v := Int32.ofInt 0) dX11_isLetter_28 rfl ?_
      exact z_ireturn dX11_isLetter_29 rfl (nar01 (by decide)) (hP _ _ _ hw hW)
    · have hw := hw.2 h3
      refine z_iconst (v := Int32.ofInt 1) dX11_isLetter_24 rfl ?_
      refine z_goto (tgt := 29) dX11_isLetter_25 (by decide) ?_
      exact z_ireturn dX11_isLetter_29 rfl (nar01 (by decide)) (hP _ _ _ hw hW)
def wX11_isLetter (a1 : Int) (S : St) (K : Int → St → Prop) : Prop := rng a1 → ((a1 < 97 → wX11_isLetter_12 (a1) S K) ∧ ((¬ (a1 < 97)) → ((a1 ≤ 122 → K (1) S) ∧ ((¬ (a1 ≤ 122)) → wX11_isLetter_12 (a1) S K))))
set_option maxRecDepth 100000 in
set_option maxHeartbeats 4000000 in
theorem lX11_isLetter {G : xG} {sh : Nat → Option Sh} {J : St → List va_E → Prop} {a1 : Int} {S : St} {cs : List va_E} {K : Int → St → Prop} (d : Nat) (hd : 0 ≤ d) (hJ : Stb sh J) (hT : isM sh) (hW : Wd G sh mT J S cs) (g1 : rng a1) (hw : wX11_isLetter a1 S K) : X G yX11_isLetter cX11_isLetter 1 (some .boolean) d [.int (Int32.ofInt a1)] cs (qI G sh mT J K) := by
  refine X.of false (by decide +kernel) (by decide) (Nat.le_of_ble_eq_true rfl) ?_
  show Z (RX11, cX11_isLetter, 1, some .boolean, false) G d _ 0 [(0, .int (Int32.ofInt a1))] [] cs
  have hP : ∀ (v : Int) (S : St) (cs : List va_E), K v S → Wd G sh mT J S cs → qI G sh mT J K (some (.int (Int32.ofInt v))) cs := fun v S cs a b => ⟨v, S, rfl, a, b⟩
  unfold wX11_isLetter at hw
  have hw := hw g1
  refine z_iload_n dX11_isLetter_0 rfl rfl ?_
  refine z_bipush (v := Int32.ofInt 97) dX11_isLetter_1 (by decide) ?_
  refine i_icmp_lt (tgt := 12) dX11_isLetter_3 (by decide) g1 ⟨by decide, by decide⟩ (fun h1 => ?_) (fun h1 => ?_)
  · have hw := hw.1 h1
    refine z_loc (L' := [(0, .int (Int32.ofInt (a1)))]) (List.forall_mem_cons.mpr ⟨rfl, (fun _ h => nomatch h)⟩) ?_
    exact bX11_isLetter_12 hd hJ hT hW hP  hw
  · have hw := hw.2 h1
    refine z_iload_n dX11_isLetter_6 rfl rfl ?_
    refine z_bipush (v := Int32.ofInt 122) dX11_isLetter_7 (by decide) ?_
    refine i_icmp_le (tgt := 24) dX11_isLetter_9 (by decide) g1 ⟨by decide, by decide⟩ (fun h2 => ?_) (fun h2 => ?_)
    · have hw := hw.1 h2
      refine z_iconst (v := Int32.ofInt 1) dX11_isLetter_24 rfl ?_
      refine z_goto (tgt := 29) dX11_isLetter_25 (by decide) ?_
      exact z_ireturn dX11_isLetter_29 rfl (nar01 (by decide)) (hP _ _ _ hw hW)
    · have hw := hw.2 h2
      refine z_loc (L' := [(0, .int (Int32.ofInt (a1)))]) (List.forall_mem_cons.mpr ⟨rfl, (fun _ h => nomatch h)⟩) ?_
      exact bX11_isLetter_12 hd hJ hT hW hP  hw

def wX11_beginsName (a1 : Int) (S : St) (K : Int → St → Prop) : Prop := rng a1 → (wX11_isLetter (a1) S (fun r1 S2 => (rng (r1) ∧ ((¬ r1 = 0 → K (1) S2) ∧ ((¬ (¬ r1 = 0)) → ((¬ a1 = 95 → K (0) S2) ∧ ((¬ (¬ a1 = 95)) → K (1) S2)))))))
set_option maxRecDepth 100000 in
set_option maxHeartbeats 4000000 in
theorem lX11_beginsName {G : xG} {sh : Nat → Option Sh} {J : St → List va_E → Prop} {a1 : Int} {S : St} {cs : List va_E} {K : Int → St → Prop} (d : Nat) (hd : 1 ≤ d) (hJ : Stb sh J) (hT : isM sh) (hW : Wd G sh mT J S cs) (g1 : rng a1) (hw : wX11_beginsName a1 S K) : X G yX11_beginsName cX11_beginsName 1 (some .boolean) d [.int (Int32.ofInt a1)] cs (qI G sh mT J K) := by
  refine X.of false (by decide +kernel) (by decide) (Nat.le_of_ble_eq_true rfl) ?_
  show Z (RX11, cX11_beginsName, 1, some .boolean, false) G d _ 0 [(0, .int (Int32.ofInt a1))] [] cs
  have hP : ∀ (v : Int) (S : St) (cs : List va_E), K v S → Wd G sh mT J S cs → qI G sh mT J K (some (.int (Int32.ofInt v))) cs := fun v S cs a b => ⟨v, S, rfl, a, b⟩
  unfold wX11_beginsName at hw
  have hw := hw g1
  refine z_iload_n dX11_beginsName_0 rfl rfl ?_
  have hX := lX11_isLetter 0 (Nat.le_refl _) hJ hT hW g1 hw
  refine z_callS (As := [_]) eX11_isLetter sX11_isLetter lX11_186 dX11_beginsName_1 hX (Nat.le_trans (by decide) hd) rfl (Nat.le_of_ble_eq_true rfl) (fun r cs hp => ?_)
  obtain ⟨r1, S2, rfl, hw, hW⟩ := hp
  refine z_st (st' := [.int (Int32.ofInt (r1))]) rfl ?_
  obtain ⟨q4, hw⟩ := hw
  refine i_if_ne (tgt := 13) dX11_beginsName_4 (by decide) q4 (fun h3 => ?_) (fun h3 => ?_)
  · have hw := hw.1 h3
    refine z_iconst (v := Int32.ofInt 1) dX11_beginsName_13 rfl ?_
    refine z_goto (tgt := 18) dX11_beginsName_14 (by decide) ?_
    exact z_ireturn dX11_beginsName_18 rfl (nar01 (by decide)) (hP _ _ _ hw hW)
  · have hw := hw.2 h3
    refine z_iload_n dX11_beginsName_7 rfl rfl ?_
    refine z_bipush (v := Int32.ofInt 95) dX11_beginsName_8 (by decide) ?_
    refine i_icmp_ne (tgt := 17) dX11_beginsName_10 (by decide) g1 ⟨by decide, by decide⟩ (fun h5 => ?_) (fun h5 => ?_)
    · have hw := hw.1 h5
      refine z_iconst (v := Int32.ofInt 0) dX11_beginsName_17 rfl ?_
      exact z_ireturn dX11_beginsName_18 rfl (nar01 (by decide)) (hP _ _ _ hw hW)
    · have hw := hw.2 h5
      refine z_iconst (v := Int32.ofInt 1) dX11_beginsName_13 rfl ?_
      refine z_goto (tgt := 18) dX11_beginsName_14 (by decide) ?_
      exact z_ireturn dX11_beginsName_18 rfl (nar01 (by decide)) (hP _ _ _ hw hW)

def wX11_isDigit (a1 : Int) (S : St) (K : Int → St → Prop) : Prop := rng a1 → ((a1 < 48 → K (0) S) ∧ ((¬ (a1 < 48)) → ((57 < a1 → K (0) S) ∧ ((¬ (57 < a1)) → K (1) S))))
set_option maxRecDepth 100000 in
set_option maxHeartbeats 4000000 in
theorem lX11_isDigit {G : xG} {sh : Nat → Option Sh} {J : St → List va_E → Prop} {a1 : Int} {S : St} {cs : List va_E} {K : Int → St → Prop} (d : Nat) (hd : 0 ≤ d) (hJ : Stb sh J) (hT : isM sh) (hW : Wd G sh mT J S cs) (g1 : rng a1) (hw : wX11_isDigit a1 S K) : X G yX11_isDigit cX11_isDigit 1 (some .boolean) d [.int (Int32.ofInt a1)] cs (qI G sh mT J K) := by
  refine X.of false (by decide +kernel) (by decide) (Nat.le_of_ble_eq_true rfl) ?_
  show Z (RX11, cX11_isDigit, 1, some .boolean, false) G d _ 0 [(0, .int (Int32.ofInt a1))] [] cs
  have hP : ∀ (v : Int) (S : St) (cs : List va_E), K v S → Wd G sh mT J S cs → qI G sh mT J K (some (.int (Int32.ofInt v))) cs := fun v S cs a b => ⟨v, S, rfl, a, b⟩
  unfold wX11_isDigit at hw
  have hw := hw g1
  refine z_iload_n dX11_isDigit_0 rfl rfl ?_
  refine z_bipush (v := Int32.ofInt 48) dX11_isDigit_1 (by decide) ?_
  refine i_icmp_lt (tgt := 16) dX11_isDigit_3 (by decide) g1 ⟨by decide, by decide⟩ (fun h1 => ?_) (fun h1 => ?_)
  · have hw := hw.1 h1
    refine z_iconst (v := Int32.ofInt 0) dX11_isDigit_16 rfl ?_
    exact z_ireturn dX11_isDigit_17 rfl (nar01 (by decide)) (hP _ _ _ hw hW)
  · have hw := hw.2 h1
    refine z_iload_n dX11_isDigit_6 rfl rfl ?_
    refine z_bipush (v := Int32.ofInt 57) dX11_isDigit_7 (by decide) ?_
    refine i_icmp_gt (tgt := 16) dX11_isDigit_9 (by decide) g1 ⟨by decide, by decide⟩ (fun h2 => ?_) (fun h2 => ?_)
    · have hw := hw.1 h2
      refine z_iconst (v := Int32.ofInt 0) dX11_isDigit_16 rfl ?_
      exact z_ireturn dX11_isDigit_17 rfl (nar01 (by decide)) (hP _ _ _ hw hW)
    · have hw := hw.2 h2
      refine z_iconst (v := Int32.ofInt 1) dX11_isDigit_12 rfl ?_
      refine z_goto (tgt := 17) dX11_isDigit_13 (by decide) ?_
      exact z_ireturn dX11_isDigit_17 rfl (nar01 (by decide)) (hP _ _ _ hw hW)

def wX11_inName (a1 : Int) (S : St) (K : Int → St → Prop) : Prop := rng a1 → (wX11_beginsName (a1) S (fun r1 S2 => (rng (r1) ∧ ((¬ r1 = 0 → K (1) S2) ∧ ((¬ (¬ r1 = 0)) → (wX11_isDigit (a1) S2 (fun r5 S6 => (rng (r5) ∧ ((¬ r5 = 0 → K (1) S6) ∧ ((¬ (¬ r5 = 0)) → ((a1 = 45 → K (1) S6) ∧ ((¬ (a1 = 45)) → ((¬ a1 = 46 → K (0) S6) ∧ ((¬ (¬ a1 = 46)) → K (1) S6))))))))))))))
set_option maxRecDepth 100000 in
set_option maxHeartbeats 4000000 in
theorem lX11_inName {G : xG} {sh : Nat → Option Sh} {J : St → List va_E → Prop} {a1 : Int} {S : St} {cs : List va_E} {K : Int → St → Prop} (d : Nat) (hd : 2 ≤ d) (hJ : Stb sh J) (hT : isM sh) (hW : Wd G sh mT J S cs) (g1 : rng a1) (hw : wX11_inName a1 S K) : X G yX11_inName cX11_inName 1 (some .boolean) d [.int (Int32.ofInt a1)] cs (qI G sh mT J K) := by
  refine X.of false (by decide +kernel) (by decide) (Nat.le_of_ble_eq_true rfl) ?_
  show Z (RX11, cX11_inName, 1, some .boolean, false) G d _ 0 [(0, .int (Int32.ofInt a1))] [] cs
  have hP : ∀ (v : Int) (S : St) (cs : List va_E), K v S → Wd G sh mT J S cs → qI G sh mT J K (some (.int (Int32.ofInt v))) cs := fun v S cs a b => ⟨v, S, rfl, a, b⟩
  unfold wX11_inName at hw
  have hw := hw g1
  refine z_iload_n dX11_inName_0 rfl rfl ?_
  have hX := lX11_beginsName 1 (Nat.le_refl _) hJ hT hW g1 hw
  refine z_callS (As := [_]) eX11_beginsName sX11_beginsName lX11_346 dX11_inName_1 hX (Nat.le_trans (by decide) hd) rfl (Nat.le_of_ble_eq_true rfl) (fun r cs hp => ?_)
  obtain ⟨r1, S2, rfl, hw, hW⟩ := hp
  refine z_st (st' := [.int (Int32.ofInt (r1))]) rfl ?_
  obtain ⟨q4, hw⟩ := hw
  refine i_if_ne (tgt := 26) dX11_inName_4 (by decide) q4 (fun h3 => ?_) (fun h3 => ?_)
  · have hw := hw.1 h3
    refine z_iconst (v := Int32.ofInt 1) dX11_inName_26 rfl ?_
    refine z_goto (tgt := 31) dX11_inName_27 (by decide) ?_
    exact z_ireturn dX11_inName_31 rfl (nar01 (by decide)) (hP _ _ _ hw hW)
  · have hw := hw.2 h3
    refine z_iload_n dX11_inName_7 rfl rfl ?_
    have hX := lX11_isDigit 0 (Nat.le_refl _) hJ hT hW g1 hw
    refine z_callS (As := [_]) eX11_isDigit sX11_isDigit lX11_189 dX11_inName_8 hX (Nat.le_trans (by decide) hd) rfl (Nat.le_of_ble_eq_true rfl) (fun r cs hp => ?_)
    obtain ⟨r5, S6, rfl, hw, hW⟩ := hp
    refine z_st (st' := [.int (Int32.ofInt (r5))]) rfl ?_
    obtain ⟨q8, hw⟩ := hw
    refine i_if_ne (tgt := 26) dX11_inName_11 (by decide) q8 (fun h7 => ?_) (fun h7 => ?_)
    · have hw := hw.1 h7
      refine z_iconst (v := Int32.ofInt 1) dX11_inName_26 rfl ?_
      refine z_goto (tgt := 31) dX11_inName_27 (by decide) ?_
      exact z_ireturn dX11_inName_31 rfl (nar01 (by decide)) (hP _ _ _ hw hW)
    · have hw := hw.2 h7
      refine z_iload_n dX11_inName_14 rfl rfl ?_
      refine z_bipush (v := Int32.ofInt 45) dX11_inName_15 (by decide) ?_
      refine i_icmp_eq (tgt := 26) dX11_inName_17 (by decide) g1 ⟨by decide, by decide⟩ (fun h9 => ?_) (fun h9 => ?_)
      · have hw := hw.1 h9
        refine z_iconst (v := Int32.ofInt 1) dX11_inName_26 rfl ?_
        refine z_goto (tgt := 31) dX11_inName_27 (by decide) ?_
        exact z_ireturn dX11_inName_31 rfl (nar01 (by decide)) (hP _ _ _ hw hW)
      · have hw := hw.2 h9
        refine z_iload_n dX11_inName_20 rfl rfl ?_
        refine z_bipush (v := Int32.ofInt 46) dX11_inName_21 (by decide) ?_
        refine i_icmp_ne (tgt := 30) dX11_inName_23 (by decide) g1 ⟨by decide, by decide⟩ (fun h10 => ?_) (fun h10 => ?_)
        · have hw := hw.1 h10
          refine z_iconst (v := Int32.ofInt 0) dX11_inName_30 rfl ?_
          exact z_ireturn dX11_inName_31 rfl (nar01 (by decide)) (hP _ _ _ hw hW)
        · have hw := hw.2 h10
          refine z_iconst (v := Int32.ofInt 1) dX11_inName_26 rfl ?_
          refine z_goto (tgt := 31) dX11_inName_27 (by decide) ?_
          exact z_ireturn dX11_inName_31 rfl (nar01 (by decide)) (hP _ _ _ hw hW)

def wX11_nameEnd_2' (l2 : Int) (S : St) (K : Int → St → Prop) (B2 : Int → St → Prop) : Prop := (rng (l2) ∧ (wX11_docAt (l2) S (fun r2 S3 => (rng (r2) ∧ (wX11_inName (r2) S3 (fun r5 S6 => (rng (r5) ∧ ((r5 = 0 → K (l2) S6) ∧ ((¬ (r5 = 0)) → B2 ((l2 + 1)) S6)))))))))
set_option maxRecDepth 100000 in
set_option maxHeartbeats 4000000 in
theorem bX11_nameEnd_2' {G : xG} {sh : Nat → Option Sh} {J : St → List va_E → Prop} {d : Nat} {Post : xP} {l2 : Int} {S : St} {cs : List va_E} {K : Int → St → Prop} {B2 : Int → St → Prop} (hd : 3 ≤ d) (hJ : Stb sh J) (hT : isM sh) (hW : Wd G sh mT J S cs) (hP : ∀ (v : Int) (S : St) (cs : List va_E), K v S → Wd G sh mT J S cs → Post (some (.int (Int32.ofInt v))) cs) (hB2 : ∀ (l2 : Int) (S : St) (cs : List va_E), B2 l2 S → Wd G sh mT J S cs → Z (RX11, cX11_nameEnd, 3, some .int, false) G d Post 2 [(0, .ref (G.1 + 54)), (2, .int (Int32.ofInt (l2)))] [] cs) (hw : wX11_nameEnd_2' l2 S K B2) : Z (RX11, cX11_nameEnd, 3, some .int, false) G d Post 2 [(0, .ref (G.1 + 54)), (2, .int (Int32.ofInt (l2)))] [] cs := by
  unfold wX11_nameEnd_2' at hw
  refine z_aload_n dX11_nameEnd_2 rfl rfl ?_
  refine z_iload_n dX11_nameEnd_3 rfl rfl ?_
  obtain ⟨q1, hw⟩ := hw
  have hX := lX11_docAt 0 (Nat.le_refl _) hJ hT hW q1 hw
  refine z_callV (As := [_]) eX11_docAt sX11_docAt lX11_349 rfl dX11_nameEnd_4 (hW.1 _ _ hT.1) hX (Nat.le_trans (by decide) hd) rfl (Nat.le_of_ble_eq_true rfl) (fun r cs hp => ?_)
  obtain ⟨r2, S3, rfl, hw, hW⟩ := hp
  refine z_st (st' := [.int (Int32.ofInt (r2))]) rfl ?_
  obtain ⟨q4, hw⟩ := hw
  have hX := lX11_inName 2 (Nat.le_refl _) hJ hT hW q4 hw
  refine z_callS (As := [_]) eX11_inName sX11_inName lX11_352 dX11_nameEnd_7 hX (Nat.le_trans (by decide) hd) rfl (Nat.le_of_ble_eq_true rfl) (fun r cs hp => ?_)
  obtain ⟨r5, S6, rfl, hw, hW⟩ := hp
  refine z_st (st' := [.int (Int32.ofInt (r5))]) rfl ?_
  obtain ⟨q8, hw⟩ := hw
  refine i_if_eq (tgt := 19) dX11_nameEnd_10 (by decide) q8 (fun h7 => ?_) (fun h7 => ?_)
  · have hw := hw.1 h7
    refine z_iload_n dX11_nameEnd_19 rfl rfl ?_
    exact z_ireturn dX11_nameEnd_20 rfl rfl (hP _ _ _ hw hW)
  · have hw := hw.2 h7
    refine i_iinc (l := l2) dX11_nameEnd_13 rfl (by decide) ?_
    refine z_goto (tgt := 2) dX11_nameEnd_16 (by decide) ?_
    refine z_loc (L' := [(0, .ref (G.1 + 54)), (2, .int (Int32.ofInt ((l2 + 1))))]) (List.forall_mem_cons.mpr ⟨rfl, (List.forall_mem_cons.mpr ⟨rfl, (fun _ h => nomatch h)⟩)⟩) ?_
    exact hB2 _ _ _ hw hW
def wX11_nameEnd_2 (l2 : Int) (S : St) (K : Int → St → Prop) : Prop := ∃ (Iv : Int → St → Prop) (mu : Int → St → Nat), Iv l2 S ∧ ∀ (l2 : Int) (S : St), Iv l2 S → wX11_nameEnd_2' l2 S K  (fun ml2 T => Iv ml2 T ∧ mu ml2 T < mu l2 S)
set_option maxRecDepth 100000 in
set_option maxHeartbeats 4000000 in
theorem bX11_nameEnd_2 {G : xG} {sh : Nat → Option Sh} {J : St → List va_E → Prop} {d : Nat} {Post : xP} {l2 : Int} {S : St} {cs : List va_E} {K : Int → St → Prop} (hd : 3 ≤ d) (hJ : Stb sh J) (hT : isM sh) (hW : Wd G sh mT J S cs) (hP : ∀ (v : Int) (S : St) (cs : List va_E), K v S → Wd G sh mT J S cs → Post (some (.int (Int32.ofInt v))) cs)  (hw : wX11_nameEnd_2 l2 S K ) : Z (RX11, cX11_nameEnd, 3, some .int, false) G d Post 2 [(0, .ref (G.1 + 54)), (2, .int (Int32.ofInt (l2)))] [] cs := by
  unfold wX11_nameEnd_2 at hw
  obtain ⟨Iv, mu, h0, hs⟩ := hw
  have key : ∀ (n : Nat) (l2 : Int) (S : St) (cs : List va_E), mu l2 S < n → Iv l2 S → Wd G sh mT J S cs → Z (RX11, cX11_nameEnd, 3, some .int, false) G d Post 2 [(0, .ref (G.1 + 54)), (2, .int (Int32.ofInt (l2)))] [] cs := by
    intro n
    induction n with
    | zero => intro l2 S cs hn; exact absurd hn (Nat.not_lt_zero _)
    | succ n ih =>
      intro l2 S cs hn hI hW
      exact bX11_nameEnd_2' hd hJ hT hW hP  (fun l2 S cs hb hW => ih l2 S cs (Nat.lt_of_lt_of_le hb.2 (Nat.le_of_lt_succ hn)) hb.1 hW) (hs l2 S hI)
  exact key _ _ _ _ (Nat.lt_succ_self _) h0 hW
def wX11_nameEnd (a1 : Int) (S : St) (K : Int → St → Prop) : Prop := rng a1 → wX11_nameEnd_2 (a1) S K
set_option maxRecDepth 100000 in
set_option maxHeartbeats 4000000 in
theorem lX11_nameEnd {G : xG} {sh : Nat → Option Sh} {J : St → List va_E → Prop} {a1 : Int} {S : St} {cs : List va_E} {K : Int → St → Prop} (d : Nat) (hd : 3 ≤ d) (hJ : Stb sh J) (hT : isM sh) (hW : Wd G sh mT J S cs) (g1 : rng a1) (hw : wX11_nameEnd a1 S K) : X G yX11_nameEnd cX11_nameEnd 3 (some .int) d [.ref (G.1 + 54), .int (Int32.ofInt a1)] cs (qI G sh mT J K) := by
  refine X.of false (by decide +kernel) (by decide) (Nat.le_of_ble_eq_true rfl) ?_
  show Z (RX11, cX11_nameEnd, 3, some .int, false) G d _ 0 [(0, .ref (G.1 + 54)), (1, .int (Int32.ofInt a1))] [] cs
  have hP : ∀ (v : Int) (S : St) (cs : List va_E), K v S → Wd G sh mT J S cs → qI G sh mT J K (some (.int (Int32.ofInt v))) cs := fun v S cs a b => ⟨v, S, rfl, a, b⟩
  unfold wX11_nameEnd at hw
  have hw := hw g1
  refine z_iload_n dX11_nameEnd_0 rfl rfl ?_
  refine z_istore_n dX11_nameEnd_1 rfl (by decide) ?_
  refine z_loc (L' := [(0, .ref (G.1 + 54)), (2, .int (Int32.ofInt (a1)))]) (List.forall_mem_cons.mpr ⟨rfl, (List.forall_mem_cons.mpr ⟨rfl, (fun _ h => nomatch h)⟩)⟩) ?_
  exact bX11_nameEnd_2 hd hJ hT hW hP  hw

def wX11_entity (a1 : Int) (S : St) (K : Int → St → Prop) : Prop := rng a1 → ((¬ a1 = 0 → ((¬ a1 = 1 → ((¬ a1 = 2 → ((¬ a1 = 3 → K (39) S) ∧ ((¬ (¬ a1 = 3)) → K (34) S))) ∧ ((¬ (¬ a1 = 2)) → K (62) S))) ∧ ((¬ (¬ a1 = 1)) → K (60) S))) ∧ ((¬ (¬ a1 = 0)) → K (38) S))
set_option maxRecDepth 100000 in
set_option maxHeartbeats 4000000 in
theorem lX11_entity {G : xG} {sh : Nat → Option Sh} {J : St → List va_E → Prop} {a1 : Int} {S : St} {cs : List va_E} {K : Int → St → Prop} (d : Nat) (hd : 0 ≤ d) (hJ : Stb sh J) (hT : isM sh) (hW : Wd G sh mT J S cs) (g1 : rng a1) (hw : wX11_entity a1 S K) : X G yX11_entity cX11_entity 1 (some .int) d [.int (Int32.ofInt a1)] cs (qI G sh mT J K) := by
  refine X.of false (by decide +kernel) (by decide) (Nat.le_of_ble_eq_true rfl) ?_
  show Z (RX11, cX11_entity, 1, some .int, false) G d _ 0 [(0, .int (Int32.ofInt a1))] [] cs
  have hP : ∀ (v : Int) (S : St) (cs : List va_E), K v S → Wd G sh mT J S cs → qI G sh mT J K (some (.int (Int32.ofInt v))) cs := fun v S cs a b => ⟨v, S, rfl, a, b⟩
  unfold wX11_entity at hw
  have hw := hw g1
  refine z_iload_n dX11_entity_0 rfl rfl ?_
  refine i_if_ne (tgt := 9) dX11_entity_1 (by decide) g1 (fun h1 => ?_) (fun h1 => ?_)
  · have hw := hw.1 h1
    refine z_iload_n dX11_entity_9 rfl rfl ?_
    refine z_iconst (v := Int32.ofInt 1) dX11_entity_10 rfl ?_
    refine i_icmp_ne (tgt := 19) dX11_entity_11 (by decide) g1 ⟨by decide, by decide⟩ (fun h2 => ?_) (fun h2 => ?_)
    · have hw := hw.1 h2
      refine z_iload_n dX11_entity_19 rfl rfl ?_
      refine z_iconst (v := Int32.ofInt 2) dX11_entity_20 rfl ?_
      refine i_icmp_ne (tgt := 29) dX11_entity_21 (by decide) g1 ⟨by decide, by decide⟩ (fun h3 => ?_) (fun h3 => ?_)
      · have hw := hw.1 h3
        refine z_iload_n dX11_entity_29 rfl rfl ?_
        refine z_iconst (v := Int32.ofInt 3) dX11_entity_30 rfl ?_
        refine i_icmp_ne (tgt := 39) dX11_entity_31 (by decide) g1 ⟨by decide, by decide⟩ (fun h4 => ?_) (fun h4 => ?_)
        · have hw := hw.1 h4
          refine z_bipush (v := Int32.ofInt 39) dX11_entity_39 (by decide) ?_
          exact z_ireturn dX11_entity_41 rfl rfl (hP _ _ _ hw hW)
        · have hw := hw.2 h4
          refine z_bipush (v := Int32.ofInt 34) dX11_entity_34 (by decide) ?_
          refine z_goto (tgt := 41) dX11_entity_36 (by decide) ?_
          exact z_ireturn dX11_entity_41 rfl rfl (hP _ _ _ hw hW)
      · have hw := hw.2 h3
        refine z_bipush (v := Int32.ofInt 62) dX11_entity_24 (by decide) ?_
        refine z_goto (tgt := 41) dX11_entity_26 (by decide) ?_
        exact z_ireturn dX11_entity_41 rfl rfl (hP _ _ _ hw hW)
    · have hw := hw.2 h2
      refine z_bipush (v := Int32.ofInt 60) dX11_entity_14 (by decide) ?_
      refine z_goto (tgt := 41) dX11_entity_16 (by decide) ?_
      exact z_ireturn dX11_entity_41 rfl rfl (hP _ _ _ hw hW)
  · have hw := hw.2 h1
    refine z_bipush (v := Int32.ofInt 38) dX11_entity_4 (by decide) ?_
    refine z_goto (tgt := 41) dX11_entity_6 (by decide) ?_
    exact z_ireturn dX11_entity_41 rfl rfl (hP _ _ _ hw hW)

def wX11_entitySign (a1 a2 : Int) (S : St) (K : Int → St → Prop) : Prop := rng a1 → rng a2 → (rng (((5 * a1) + a2)) ∧ ((¬ (0 ≤ ((5 * a1) + a2) ∧ ((5 * a1) + a2) ≤ 24) → K (0) S) ∧ ((((5 * a1) + a2) = 0 → K (97) S) ∧ ((((5 * a1) + a2) = 1 → K (109) S) ∧ ((((5 * a1) + a2) = 2 → K (112) S) ∧ ((((5 * a1) + a2) = 3 → K (59) S) ∧ ((((5 * a1) + a2) = 4 → K (0) S) ∧ ((((5 * a1) + a2) = 5 → K (108) S) ∧ ((((5 * a1) + a2) = 6 → K (116) S) ∧ ((((5 * a1) + a2) = 7 → K (59) S) ∧ ((((5 * a1) + a2) = 8 → K (0) S) ∧ ((((5 * a1) + a2) = 9 → K (0) S) ∧ ((((5 * a1) + a2) = 10 → K (103) S) ∧ ((((5 * a1) + a2) = 11 → K (116) S) ∧ ((((5 * a1) + a2) = 12 → K (59) S) ∧ ((((5 * a1) + a2) = 13 → K (0) S) ∧ ((((5 * a1) + a2) = 14 → K (0) S) ∧ ((((5 * a1) + a2) = 15 → K (113) S) ∧ ((((5 * a1) + a2) = 16 → K (117) S) ∧ ((((5 * a1) + a2) = 17 → K (111) S) ∧ ((((5 * a1) + a2) = 18 → K (116) S) ∧ ((((5 * a1) + a2) = 19 → K (59) S) ∧ ((((5 * a1) + a2) = 20 → K (97) S) ∧ ((((5 * a1) + a2) = 21 → K (112) S) ∧ ((((5 * a1) + a2) = 22 → K (111) S) ∧ ((((5 * a1) + a2) = 23 → K (115) S) ∧ (((5 * a1) + a2) = 24 → K (59) S)))))))))))))))))))))))))))
set_option maxRecDepth 100000 in
set_option maxHeartbeats 4000000 in
theorem lX11_entitySign {G : xG} {sh : Nat → Option Sh} {J : St → List va_E → Prop} {a1 a2 : Int} {S : St} {cs : List va_E} {K : Int → St → Prop} (d : Nat) (hd : 0 ≤ d) (hJ : Stb sh J) (hT : isM sh) (hW : Wd G sh mT J S cs) (g1 : rng a1) (g2 : rng a2) (hw : wX11_entitySign a1 a2 S K) : X G yX11_entitySign cX11_entitySign 2 (some .int) d [.int (Int32.ofInt a1), .int (Int32.ofInt a2)] cs (qI G sh mT J K) := by
  refine X.of false (by decide +kernel) (by decide) (Nat.le_of_ble_eq_true rfl) ?_
  show Z (RX11, cX11_entitySign, 2, some .int, false) G d _ 0 [(0, .int (Int32.ofInt a1)), (1, .int (Int32.ofInt a2))] [] cs
  have hP : ∀ (v : Int) (S : St) (cs : List va_E), K v S → Wd G sh mT J S cs → qI G sh mT J K (some (.int (Int32.ofInt v))) cs := fun v S cs a b => ⟨v, S, rfl, a, b⟩
  unfold wX11_entitySign at hw
  have hw := hw g1 g2
  refine z_iconst (v := Int32.ofInt 5) dX11_entitySign_0 rfl ?_
  refine z_iload_n dX11_entitySign_1 rfl rfl ?_
  refine i_imul dX11_entitySign_2 ?_
  refine z_iload_n dX11_entitySign_3 rfl rfl ?_
  refine i_iadd dX11_entitySign_4 ?_
  obtain ⟨q1, hw⟩ := hw
  rcases (show (¬ (0 ≤ ((5 * a1) + a2) ∧ ((5 * a1) + a2) ≤ 24)) ∨ ((5 * a1) + a2) = 0 ∨ ((5 * a1) + a2) = 1 ∨ ((5 * a1) + a2) = 2 ∨ ((5 * a1) + a2) = 3 ∨ ((5 * a1) + a2) = 4 ∨ ((5 * a1) + a2) = 5 ∨ ((5 * a1) + a2) = 6 ∨ ((5 * a1) + a2) = 7 ∨ ((5 * a1) + a2) = 8 ∨ ((5 * a1) + a2) = 9 ∨ ((5 * a1) + a2) = 10 ∨ ((5 * a1) + a2) = 11 ∨ ((5 * a1) + a2) = 12 ∨ ((5 * a1) + a2) = 13 ∨ ((5 * a1) + a2) = 14 ∨ ((5 * a1) + a2) = 15 ∨ ((5 * a1) + a2) = 16 ∨ ((5 * a1) + a2) = 17 ∨ ((5 * a1) + a2) = 18 ∨ ((5 * a1) + a2) = 19 ∨ ((5 * a1) + a2) = 20 ∨ ((5 * a1) + a2) = 21 ∨ ((5 * a1) + a2) = 22 ∨ ((5 * a1) + a2) = 23 ∨ ((5 * a1) + a2) = 24 by omega) with h2 | h2 | h2 | h2 | h2 | h2 | h2 | h2 | h2 | h2 | h2 | h2 | h2 | h2 | h2 | h2 | h2 | h2 | h2 | h2 | h2 | h2 | h2 | h2 | h2 | h2
  · have hw := hw.1 h2
    refine i_tableOut (tgt := 180) dX11_entitySign_5 q1 h2 (by decide) ?_
    refine z_iconst (v := Int32.ofInt 0) dX11_entitySign_180 rfl ?_
    exact z_ireturn dX11_entitySign_181 rfl rfl (hP _ _ _ hw hW)
  · have hw := hw.2.1 h2
    refine i_tableIn (c := 0) (off := 115) (tgt := 120) dX11_entitySign_5 h2 ⟨by decide, by decide⟩ (by decide) (by decide) rfl (by decide) ?_
    refine z_bipush (v := Int32.ofInt 97) dX11_entitySign_120 (by decide) ?_
    exact z_ireturn dX11_entitySign_122 rfl rfl (hP _ _ _ hw hW)
  · have hw := hw.2.2.1 h2
    refine i_tableIn (c := 1) (off := 118) (tgt := 123) dX11_entitySign_5 h2 ⟨by decide, by decide⟩ (by decide) (by decide) rfl (by decide) ?_
    refine z_bipush (v := Int32.ofInt 109) dX11_entitySign_123 (by decide) ?_
    exact z_ireturn dX11_entitySign_125 rfl rfl (hP _ _ _ hw hW)
  · have hw := hw.2.2.2.1 h2
    refine i_tableIn (c := 2) (off := 121) (tgt := 126) dX11_entitySign_5 h2 ⟨by decide, by decide⟩ (by decide) (by decide) rfl (by decide) ?_
    refine z_bipush (v := Int32.ofInt 112) dX11_entitySign_126 (by decide) ?_
    exact z_ireturn dX11_entitySign_128 rfl rfl (hP _ _ _ hw hW)
  · have hw := hw.2.2.2.2.1 h2
    refine i_tableIn (c := 3) (off := 124) (tgt := 129) dX11_entitySign_5 h2 ⟨by decide, by decide⟩ (by decide) (by decide) rfl (by decide) ?_
    refine z_bipush (v := Int32.ofInt 59) dX11_entitySign_129 (by decide) ?_
    exact z_ireturn dX11_entitySign_131 rfl rfl (hP _ _ _ hw hW)
  · have hw := hw.2.2.2.2.2.1 h2
    refine i_tableIn (c := 4) (off := 175) (tgt := 180) dX11_entitySign_5 h2 ⟨by decide, by decide⟩ (by decide) (by decide) rfl (by decide) ?_
    refine z_iconst (v := Int32.ofInt 0) dX11_entitySign_180 rfl ?_
    exact z_ireturn dX11_entitySign_181 rfl rfl (hP _ _ _ hw hW)
  · have hw := hw.2.2.2.2.2.2.1 h2
    refine i_tableIn (c := 5) (off := 127) (tgt := 132) dX11_entitySign_5 h2 ⟨by decide, by decide⟩ (by decide) (by decide) rfl (by decide) ?_
    refine z_bipush (v := Int32.ofInt 108) dX11_entitySign_132 (by decide) ?_
    exact z_ireturn dX11_entitySign_134 rfl rfl (hP _ _ _ hw hW)
  · have hw := hw.2.2.2.2.2.2.2.1 h2
    refine i_tableIn (c := 6) (off := 130) (tgt := 135) dX11_entitySign_5 h2 ⟨by decide, by decide⟩ (by decide) (by decide) rfl (by decide) ?_
    refine z_bipush (v := Int32.ofInt 116) dX11_entitySign_135 (by decide) ?_
    exact z_ireturn dX11_entitySign_137 rfl rfl (hP _ _ _ hw hW)
  · have hw := hw.2.2.2.2.2.2.2.2.1 h2
    refine i_tableIn (c := 7) (off := 133) (tgt := 138) dX11_entitySign_5 h2 ⟨by decide, by decide⟩ (by decide) (by decide) rfl (by decide) ?_
    refine z_bipush (v := Int32.ofInt 59) dX11_entitySign_138 (by decide) ?_
    exact z_ireturn dX11_entitySign_140 rfl rfl (hP _ _ _ hw hW)
  · have hw := hw.2.2.2.2.2.2.2.2.2.1 h2
    refine i_tableIn (c := 8) (off := 175) (tgt := 180) dX11_entitySign_5 h2 ⟨by decide, by decide⟩ (by decide) (by decide) rfl (by decide) ?_
    refine z_iconst (v := Int32.ofInt 0) dX11_entitySign_180 rfl ?_
    exact z_ireturn dX11_entitySign_181 rfl rfl (hP _ _ _ hw hW)
  · have hw := hw.2.2.2.2.2.2.2.2.2.2.1 h2
    refine i_tableIn (c := 9) (off := 175) (tgt := 180) dX11_entitySign_5 h2 ⟨by decide, by decide⟩ (by decide) (by decide) rfl (by decide) ?_
    refine z_iconst (v := Int32.ofInt 0) dX11_entitySign_180 rfl ?_
    exact z_ireturn dX11_entitySign_181 rfl rfl (hP _ _ _ hw hW)
  · have hw := hw.2.2.2.2.2.2.2.2.2.2.2.1 h2
    refine i_tableIn (c := 10) (off := 136) (tgt := 141) dX11_entitySign_5 h2 ⟨by decide, by decide⟩ (by decide) (by decide) rfl (by decide) ?_
    refine z_bipush (v := Int32.ofInt 103) dX11_entitySign_141 (by decide) ?_
    exact z_ireturn dX11_entitySign_143 rfl rfl (hP _ _ _ hw hW)
  · have hw := hw.2.2.2.2.2.2.2.2.2.2.2.2.1 h2
    refine i_tableIn (c := 11) (off := 139) (tgt := 144) dX11_entitySign_5 h2 ⟨by decide, by decide⟩ (by decide) (by decide) rfl (by decide) ?_
    refine z_bipush (v := Int32.ofInt 116) dX11_entitySign_144 (by decide) ?_
    exact z_ireturn dX11_entitySign_146 rfl rfl (hP _ _ _ hw hW)
  · have hw := hw.2.2.2.2.2.2.2.2.2.2.2.2.2.1 h2
    refine i_tableIn (c := 12) (off := 142) (tgt := 147) dX11_entitySign_5 h2 ⟨by decide, by decide⟩ (by decide) (by decide) rfl (by decide) ?_
    refine z_bipush (v := Int32.ofInt 59) dX11_entitySign_147 (by decide) ?_
    exact z_ireturn dX11_entitySign_149 rfl rfl (hP _ _ _ hw hW)
  · have hw := hw.2.2.2.2.2.2.2.2.2.2.2.2.2.2.1 h2
    refine i_tableIn (c := 13) (off := 175) (tgt := 180) dX11_entitySign_5 h2 ⟨by decide, by decide⟩ (by decide) (by decide) rfl (by decide) ?_
    refine z_iconst (v := Int32.ofInt 0) dX11_entitySign_180 rfl ?_
    exact z_ireturn dX11_entitySign_181 rfl rfl (hP _ _ _ hw hW)
  · have hw := hw.2.2.2.2.2.2.2.2.2.2.2.2.2.2.2.1 h2
    refine i_tableIn (c := 14) (off := 175) (tgt := 180) dX11_entitySign_5 h2 ⟨by decide, by decide⟩ (by decide) (by decide) rfl (by decide) ?_
    refine z_iconst (v := Int32.ofInt 0) dX11_entitySign_180 rfl ?_
    exact z_ireturn dX11_entitySign_181 rfl rfl (hP _ _ _ hw hW)
  · have hw := hw.2.2.2.2.2.2.2.2.2.2.2.2.2.2.2.2.1 h2
    refine i_tableIn (c := 15) (off := 145) (tgt := 150) dX11_entitySign_5 h2 ⟨by decide, by decide⟩ (by decide) (by decide) rfl (by decide) ?_
    refine z_bipush (v := Int32.ofInt 113) dX11_entitySign_150 (by decide) ?_
    exact z_ireturn dX11_entitySign_152 rfl rfl (hP _ _ _ hw hW)
  · have hw := hw.2.2.2.2.2.2.2.2.2.2.2.2.2.2.2.2.2.1 h2
    refine i_tableIn (c := 16) (off := 148) (tgt := 153) dX11_entitySign_5 h2 ⟨by decide, by decide⟩ (by decide) (by decide) rfl (by decide) ?_
    refine z_bipush (v := Int32.ofInt 117) dX11_entitySign_153 (by decide) ?_
    exact z_ireturn dX11_entitySign_155 rfl rfl (hP _ _ _ hw hW)
  · have hw := hw.2.2.2.2.2.2.2.2.2.2.2.2.2.2.2.2.2.2.1 h2
    refine i_tableIn (c := 17) (off := 151) (tgt := 156) dX11_entitySign_5 h2 ⟨by decide, by decide⟩ (by decide) (by decide) rfl (by decide) ?_
    refine z_bipush (v := Int32.ofInt 111) dX11_entitySign_156 (by decide) ?_
    exact z_ireturn dX11_entitySign_158 rfl rfl (hP _ _ _ hw hW)
  · have hw := hw.2.2.2.2.2.2.2.2.2.2.2.2.2.2.2.2.2.2.2.1 h2
    refine i_tableIn (c := 18) (off := 154) (tgt := 159) dX11_entitySign_5 h2 ⟨by decide, by decide⟩ (by decide) (by decide) rfl (by decide) ?_
    refine z_bipush (v := Int32.ofInt 116) dX11_entitySign_159 (by decide) ?_
    exact z_ireturn dX11_entitySign_161 rfl rfl (hP _ _ _ hw hW)
  · have hw := hw.2.2.2.2.2.2.2.2.2.2.2.2.2.2.2.2.2.2.2.2.1 h2
    refine i_tableIn (c := 19) (off := 157) (tgt := 162) dX11_entitySign_5 h2 ⟨by decide, by decide⟩ (by decide) (by decide) rfl (by decide) ?_
    refine z_bipush (v := Int32.ofInt 59) dX11_entitySign_162 (by decide) ?_
    exact z_ireturn dX11_entitySign_164 rfl rfl (hP _ _ _ hw hW)
  · have hw := hw.2.2.2.2.2.2.2.2.2.2.2.2.2.2.2.2.2.2.2.2.2.1 h2
    refine i_tableIn (c := 20) (off := 160) (tgt := 165) dX11_entitySign_5 h2 ⟨by decide, by decide⟩ (by decide) (by decide) rfl (by decide) ?_
    refine z_bipush (v := Int32.ofInt 97) dX11_entitySign_165 (by decide) ?_
    exact z_ireturn dX11_entitySign_167 rfl rfl (hP _ _ _ hw hW)
  · have hw := hw.2.2.2.2.2.2.2.2.2.2.2.2.2.2.2.2.2.2.2.2.2.2.1 h2
    refine i_tableIn (c := 21) (off := 163) (tgt := 168) dX11_entitySign_5 h2 ⟨by decide, by decide⟩ (by decide) (by decide) rfl (by decide) ?_
    refine z_bipush (v := Int32.ofInt 112) dX11_entitySign_168 (by decide) ?_
    exact z_ireturn dX11_entitySign_170 rfl rfl (hP _ _ _ hw hW)
  · have hw := hw.2.2.2.2.2.2.2.2.2.2.2.2.2.2.2.2.2.2.2.2.2.2.2.1 h2
    refine i_tableIn (c := 22) (off := 166) (tgt := 171) dX11_entitySign_5 h2 ⟨by decide, by decide⟩ (by decide) (by decide) rfl (by decide) ?_
    refine z_bipush (v := Int32.ofInt 111) dX11_entitySign_171 (by decide) ?_
    exact z_ireturn dX11_entitySign_173 rfl rfl (hP _ _ _ hw hW)
  · have hw := hw.2.2.2.2.2.2.2.2.2.2.2.2.2.2.2.2.2.2.2.2.2.2.2.2.1 h2
    refine i_tableIn (c := 23) (off := 169) (tgt := 174) dX11_entitySign_5 h2 ⟨by decide, by decide⟩ (by decide) (by decide) rfl (by decide) ?_
    refine z_bipush (v := Int32.ofInt 115) dX11_entitySign_174 (by decide) ?_
    exact z_ireturn dX11_entitySign_176 rfl rfl (hP _ _ _ hw hW)
  · have hw := hw.2.2.2.2.2.2.2.2.2.2.2.2.2.2.2.2.2.2.2.2.2.2.2.2.2 h2
    refine i_tableIn (c := 24) (off := 172) (tgt := 177) dX11_entitySign_5 h2 ⟨by decide, by decide⟩ (by decide) (by decide) rfl (by decide) ?_
    refine z_bipush (v := Int32.ofInt 59) dX11_entitySign_177 (by decide) ?_
    exact z_ireturn dX11_entitySign_179 rfl rfl (hP _ _ _ hw hW)

def wX11_figure_40 (l0 l1 : Int) (S : St) (K : Int → St → Prop) : Prop := (rng (l1) ∧ ((l1 = 0 → K ((-2)) S) ∧ ((¬ (l1 = 0)) → (rng (l0) ∧ ((l0 < 65 → K ((-2)) S) ∧ ((¬ (l0 < 65)) → ((70 < l0 → K ((-2)) S) ∧ ((¬ (70 < l0)) → K (((l0 - 65) + 10)) S))))))))
set_option maxRecDepth 100000 in
set_option maxHeartbeats 4000000 in
theorem bX11_figure_40 {G : xG} {sh : Nat → Option Sh} {J : St → List va_E → Prop} {d : Nat} {Post : xP} {l0 l1 : Int} {S : St} {cs : List va_E} {K : Int → St → Prop} (hd : 1 ≤ d) (hJ : Stb sh J) (hT : isM sh) (hW : Wd G sh mT J S cs) (hP : ∀ (v : Int) (S : St) (cs : List va_E), K v S → Wd G sh mT J S cs → Post (some (.int (Int32.ofInt v))) cs)  (hw : wX11_figure_40 l0 l1 S K ) : Z (RX11, cX11_figure, 2, some .int, false) G d Post 40 [(0, .int (Int32.ofInt (l0))), (1, .int (Int32.ofInt (l1)))] [] cs := by
  unfold wX11_figure_40 at hw
  refine z_iload_n dX11_figure_40 rfl rfl ?_
  obtain ⟨q2, hw⟩ := hw
  refine i_if_eq (tgt := 66) dX11_figure_41 (by decide) q2 (fun h1 => ?_) (fun h1 => ?_)
  · have hw := hw.1 h1
    refine z_bipush (v := Int32.ofInt (-2)) dX11_figure_66 (by decide) ?_
    exact z_ireturn dX11_figure_68 rfl rfl (hP _ _ _ hw hW)
  · have hw := hw.2 h1
    refine z_iload_n dX11_figure_44 rfl rfl ?_
    refine z_bipush (v := Int32.ofInt 65) dX11_figure_45 (by decide) ?_
    obtain ⟨q4, hw⟩ := hw
    refine i_icmp_lt (tgt := 66) dX11_figure_47 (by decide) q4 ⟨by decide, by decide⟩ (fun h3 => ?_) (fun h3 => ?_)
    · have hw := hw.1 h3
      refine z_bipush (v := Int32.ofInt (-2)) dX11_figure_66 (by decide) ?_
      exact z_ireturn dX11_figure_68 rfl rfl (hP _ _ _ hw hW)
    · have hw := hw.2 h3
      refine z_iload_n dX11_figure_50 rfl rfl ?_
      refine z_bipush (v := Int32.ofInt 70) dX11_figure_51 (by decide) ?_
      refine i_icmp_gt (tgt := 66) dX11_figure_53 (by decide) q4 ⟨by decide, by decide⟩ (fun h5 => ?_) (fun h5 => ?_)
      · have hw := hw.1 h5
        refine z_bipush (v := Int32.ofInt (-2)) dX11_figure_66 (by decide) ?_
        exact z_ireturn dX11_figure_68 rfl rfl (hP _ _ _ hw hW)
      · have hw := hw.2 h5
        refine z_iload_n dX11_figure_56 rfl rfl ?_
        refine z_bipush (v := Int32.ofInt 65) dX11_figure_57 (by decide) ?_
        refine i_isub dX11_figure_59 ?_
        refine z_bipush (v := Int32.ofInt 10) dX11_figure_60 (by decide) ?_
        refine i_iadd dX11_figure_62 ?_
        refine z_goto (tgt := 68) dX11_figure_63 (by decide) ?_
        exact z_ireturn dX11_figure_68 rfl rfl (hP _ _ _ hw hW)
def wX11_figure (a1 a2 : Int) (S : St) (K : Int → St → Prop) : Prop := rng a1 → rng a2 → (wX11_isDigit (a1) S (fun r1 S2 => (rng (r1) ∧ ((r1 = 0 → ((a2 = 0 → wX11_figure_40 (a1) (a2) S2 K) ∧ ((¬ (a2 = 0)) → ((a1 < 97 → wX11_figure_40 (a1) (a2) S2 K) ∧ ((¬ (a1 < 97)) → ((102 < a1 → wX11_figure_40 (a1) (a2) S2 K) ∧ ((¬ (102 < a1)) → K (((a1 - 97) + 10)) S2))))))) ∧ ((¬ (r1 = 0)) → K ((a1 - 48)) S2)))))
set_option maxRecDepth 100000 in
set_option maxHeartbeats 4000000 in
theorem lX11_figure {G : xG} {sh : Nat → Option Sh} {J : St → List va_E → Prop} {a1 a2 : Int} {S : St} {cs : List va_E} {K : Int → St → Prop} (d : Nat) (hd : 1 ≤ d) (hJ : Stb sh J) (hT : isM sh) (hW : Wd G sh mT J S cs) (g1 : rng a1) (g2 : rng a2) (hw : wX11_figure a1 a2 S K) : X G yX11_figure cX11_figure 2 (some .int) d [.int (Int32.ofInt a1), .int (Int32.ofInt a2)] cs (qI G sh mT J K) := by
  refine X.of false (by decide +kernel) (by decide) (Nat.le_of_ble_eq_true rfl) ?_
  show Z (RX11, cX11_figure, 2, some .int, false) G d _ 0 [(0, .int (Int32.ofInt a1)), (1, .int (Int32.ofInt a2))] [] cs
  have hP : ∀ (v : Int) (S : St) (cs : List va_E), K v S → Wd G sh mT J S cs → qI G sh mT J K (some (.int (Int32.ofInt v))) cs := fun v S cs a b => ⟨v, S, rfl, a, b⟩
  unfold wX11_figure at hw
  have hw := hw g1 g2
  refine z_iload_n dX11_figure_0 rfl rfl ?_
  have hX := lX11_isDigit 0 (Nat.le_refl _) hJ hT hW g1 hw
  refine z_callS (As := [_]) eX11_isDigit sX11_isDigit lX11_189 dX11_figure_1 hX (Nat.le_trans (by decide) hd) rfl (Nat.le_of_ble_eq_true rfl) (fun r cs hp => ?_)
  obtain ⟨r1, S2, rfl, hw, hW⟩ := hp
  refine z_st (st' := [.int (Int32.ofInt (r1))]) rfl ?_
  obtain ⟨q4, hw⟩ := hw
  refine i_if_eq (tgt := 14) dX11_figure_4 (by decide) q4 (fun h3 => ?_) (fun h3 => ?_)
  · have hw := hw.1 h3
    refine z_iload_n dX11_figure_14 rfl rfl ?_
    refine i_if_eq (tgt := 40) dX11_figure_15 (by decide) g2 (fun h5 => ?_) (fun h5 => ?_)
    · have hw := hw.1 h5
      refine z_loc (L' := [(0, .int (Int32.ofInt (a1))), (1, .int (Int32.ofInt (a2)))]) (List.forall_mem_cons.mpr ⟨rfl, (List.forall_mem_cons.mpr ⟨rfl, (fun _ h => nomatch h)⟩)⟩) ?_
      exact bX11_figure_40 hd hJ hT hW hP  hw
    · have hw := hw.2 h5
      refine z_iload_n dX11_figure_18 rfl rfl ?_
      refine z_bipush (v := Int32.ofInt 97) dX11_figure_19 (by decide) ?_
      refine i_icmp_lt (tgt := 40) dX11_figure_21 (by decide) g1 ⟨by decide, by decide⟩ (fun h6 => ?_) (fun h6 => ?_)
      · have hw := hw.1 h6
        refine z_loc (L' := [(0, .int (Int32.ofInt (a1))), (1, .int (Int32.ofInt (a2)))]) (List.forall_mem_cons.mpr ⟨rfl, (List.forall_mem_cons.mpr ⟨rfl, (fun _ h => nomatch h)⟩)⟩) ?_
        exact bX11_figure_40 hd hJ hT hW hP  hw
      · have hw := hw.2 h6
        refine z_iload_n dX11_figure_24 rfl rfl ?_
        refine z_bipush (v := Int32.ofInt 102) dX11_figure_25 (by decide) ?_
        refine i_icmp_gt (tgt := 40) dX11_figure_27 (by decide) g1 ⟨by decide, by decide⟩ (fun h7 => ?_) (fun h7 => ?_)
        · have hw := hw.1 h7
          refine z_loc (L' := [(0, .int (Int32.ofInt (a1))), (1, .int (Int32.ofInt (a2)))]) (List.forall_mem_cons.mpr ⟨rfl, (List.forall_mem_cons.mpr ⟨rfl, (fun _ h => nomatch h)⟩)⟩) ?_
          exact bX11_figure_40 hd hJ hT hW hP  hw
        · have hw := hw.2 h7
          refine z_iload_n dX11_figure_30 rfl rfl ?_
          refine z_bipush (v := Int32.ofInt 97) dX11_figure_31 (by decide) ?_
          refine i_isub dX11_figure_33 ?_
          refine z_bipush (v := Int32.ofInt 10) dX11_figure_34 (by decide) ?_
          refine i_iadd dX11_figure_36 ?_
          refine z_goto (tgt := 68) dX11_figure_37 (by decide) ?_
          exact z_ireturn dX11_figure_68 rfl rfl (hP _ _ _ hw hW)
  · have hw := hw.2 h3
    refine z_iload_n dX11_figure_7 rfl rfl ?_
    refine z_bipush (v := Int32.ofInt 48) dX11_figure_8 (by decide) ?_
    refine i_isub dX11_figure_10 ?_
    refine z_goto (tgt := 68) dX11_figure_11 (by decide) ?_
    exact z_ireturn dX11_figure_68 rfl rfl (hP _ _ _ hw hW)

def wX11_reference_260 (l1 l2 l3 : Int) (S : St) (K : Int → St → Prop) (B178 : Int → Int → Int → St → Prop) : Prop := B178 (l1) (l2) ((l3 + 1)) S
set_option maxRecDepth 100000 in
set_option maxHeartbeats 4000000 in
theorem bX11_reference_260 {G : xG} {sh : Nat → Option Sh} {J : St → List va_E → Prop} {d : Nat} {Post : xP} {l1 l2 l3 : Int} {S : St} {cs : List va_E} {K : Int → St → Prop} {B178 : Int → Int → Int → St → Prop} (hd : 2 ≤ d) (hJ : Stb sh J) (hT : isM sh) (hW : Wd G sh mT J S cs) (hP : ∀ (v : Int) (S : St) (cs : List va_E), K v S → Wd G sh mT J S cs → Post (some (.int (Int32.ofInt v))) cs) (hB178 : ∀ (l1 : Int) (l2 : Int) (l3 : Int) (S : St) (cs : List va_E), B178 l1 l2 l3 S → Wd G sh mT J S cs → Z (RX11, cX11_reference, 7, some .int, false) G d Post 178 [(0, .ref (G.1 + 54)), (1, .int (Int32.ofInt (l1))), (2, .int (Int32.ofInt (l2))), (3, .int (Int32.ofInt (l3)))] [] cs) (hw : wX11_reference_260 l1 l2 l3 S K B178) : Z (RX11, cX11_reference, 7, some .int, false) G d Post 260 [(0, .ref (G.1 + 54)), (1, .int (Int32.ofInt (l1))), (2, .int (Int32.ofInt (l2))), (3, .int (Int32.ofInt (l3)))] [] cs := by
  unfold wX11_reference_260 at hw
  refine i_iinc (l := l3) dX11_reference_260 rfl (by decide) ?_
  refine z_goto (tgt := 178) dX11_reference_263 (by decide) ?_
  refine z_loc (L' := [(0, .ref (G.1 + 54)), (1, .int (Int32.ofInt (l1))), (2, .int (Int32.ofInt (l2))), (3, .int (Int32.ofInt ((l3 + 1))))]) (List.forall_mem_cons.mpr ⟨rfl, (List.forall_mem_cons.mpr ⟨rfl, (List.forall_mem_cons.mpr ⟨rfl, (List.forall_mem_cons.mpr ⟨rfl, (fun _ h => nomatch h)⟩)⟩)⟩)⟩) ?_
  exact hB178 _ _ _ _ _ hw hW
def wX11_reference_226 (l1 l2 l3 l4 : Int) (S : St) (K : Int → St → Prop) (B178 : Int → Int → Int → St → Prop) : Prop := (rng (l4) ∧ ((l4 ≤ 0 → wX11_reference_260 (l1) (l2) (l3) S K B178) ∧ ((¬ (l4 ≤ 0)) → (rng (l3) ∧ (rng ((l4 - 1)) ∧ (wX11_entitySign (l3) ((l4 - 1)) S (fun r5 S6 => (rng (r5) ∧ ((¬ r5 = 59 → wX11_reference_260 (l1) (l2) (l3) S6 K B178) ∧ ((¬ (¬ r5 = 59)) → (wX11_entity (l3) S6 (fun r9 S10 => (rng (r9) ∧ (rng (l2) ∧ (wX11_keep (r9) (l2) S10 (fun r13 S14 => K (((l1 + 1) + l4)) S14))))))))))))))))
set_option maxRecDepth 100000 in
set_option maxHeartbeats 4000000 in
theorem bX11_reference_226 {G : xG} {sh : Nat → Option Sh} {J : St → List va_E → Prop} {d : Nat} {Post : xP} {l1 l2 l3 l4 : Int} {S : St} {cs : List va_E} {K : Int → St → Prop} {B178 : Int → Int → Int → St → Prop} (hd : 2 ≤ d) (hJ : Stb sh J) (hT : isM sh) (hW : Wd G sh mT J S cs) (hP : ∀ (v : Int) (S : St) (cs : List va_E), K v S → Wd G sh mT J S cs → Post (some (.int (Int32.ofInt v))) cs) (hB178 : ∀ (l1 : Int) (l2 : Int) (l3 : Int) (S : St) (cs : List va_E), B178 l1 l2 l3 S → Wd G sh mT J S cs → Z (RX11, cX11_reference, 7, some .int, false) G d Post 178 [(0, .ref (G.1 + 54)), (1, .int (Int32.ofInt (l1))), (2, .int (Int32.ofInt (l2))), (3, .int (Int32.ofInt (l3)))] [] cs) (hw : wX11_reference_226 l1 l2 l3 l4 S K B178) : Z (RX11, cX11_reference, 7, some .int, false) G d Post 226 [(0, .ref (G.1 + 54)), (1, .int (Int32.ofInt (l1))), (2, .int (Int32.ofInt (l2))), (3, .int (Int32.ofInt (l3))), (4, .int (Int32.ofInt (l4)))] [] cs := by
  unfold wX11_reference_226 at hw
  refine z_iload dX11_reference_226 rfl ?_
  obtain ⟨q2, hw⟩ := hw
  refine i_if_le (tgt := 260) dX11_reference_228 (by decide) q2 (fun h1 => ?_) (fun h1 => ?_)
  · have hw := hw.1 h1
    refine z_loc (L' := [(0, .ref (G.1 + 54)), (1, .int (Int32.ofInt (l1))), (2, .int (Int32.ofInt (l2))), (3, .int (Int32.ofInt (l3)))]) (List.forall_mem_cons.mpr ⟨rfl, (List.forall_mem_cons.mpr ⟨rfl, (List.forall_mem_cons.mpr ⟨rfl, (List.forall_mem_cons.mpr ⟨rfl, (fun _ h => nomatch h)⟩)⟩)⟩)⟩) ?_
    exact bX11_reference_260 hd hJ hT hW hP hB178 hw
  · have hw := hw.2 h1
    refine z_iload_n dX11_reference_231 rfl rfl ?_
    refine z_iload dX11_reference_232 rfl ?_
    refine z_iconst (v := Int32.ofInt 1) dX11_reference_234 rfl ?_
    refine i_isub dX11_reference_235 ?_
    obtain ⟨q3, hw⟩ := hw
    obtain ⟨q4, hw⟩ := hw
    have hX := lX11_entitySign 0 (Nat.le_refl _) hJ hT hW q3 q4 hw
    refine z_callS (As := [_, _]) eX11_entitySign sX11_entitySign lX11_368 dX11_reference_236 hX (Nat.le_trans (by decide) hd) rfl (Nat.le_of_ble_eq_true rfl) (fun r cs hp => ?_)
    obtain ⟨r5, S6, rfl, hw, hW⟩ := hp
    refine z_st (st' := [.int (Int32.ofInt (r5))]) rfl ?_
    refine z_bipush (v := Int32.ofInt 59) dX11_reference_239 (by decide) ?_
    obtain ⟨q8, hw⟩ := hw
    refine i_icmp_ne (tgt := 260) dX11_reference_241 (by decide) q8 ⟨by decide, by decide⟩ (fun h7 => ?_) (fun h7 => ?_)
    · have hw := hw.1 h7
      refine z_loc (L' := [(0, .ref (G.1 + 54)), (1, .int (Int32.ofInt (l1))), (2, .int (Int32.ofInt (l2))), (3, .int (Int32.ofInt (l3)))]) (List.forall_mem_cons.mpr ⟨rfl, (List.forall_mem_cons.mpr ⟨rfl, (List.forall_mem_cons.mpr ⟨rfl, (List.forall_mem_cons.mpr ⟨rfl, (fun _ h => nomatch h)⟩)⟩)⟩)⟩) ?_
      exact bX11_reference_260 hd hJ hT hW hP hB178 hw
    · have hw := hw.2 h7
      refine z_aload_n dX11_reference_244 rfl rfl ?_
      refine z_iload_n dX11_reference_245 rfl rfl ?_
      have hX := lX11_entity 0 (Nat.le_refl _) hJ hT hW q3 hw
      refine z_callS (As := [_]) eX11_entity sX11_entity lX11_371 dX11_reference_246 hX (Nat.le_trans (by decide) hd) rfl (Nat.le_of_ble_eq_true rfl) (fun r cs hp => ?_)
      obtain ⟨r9, S10, rfl, hw, hW⟩ := hp
      refine z_st (st' := [.int (Int32.ofInt (r9)), .ref (G.1 + 54)]) rfl ?_
      refine z_iload_n dX11_reference_249 rfl rfl ?_
      obtain ⟨q11, hw⟩ := hw
      obtain ⟨q12, hw⟩ := hw
      have hX := lX11_keep 0 (Nat.le_refl _) hJ hT hW q11 q12 hw
      refine z_callV (As := [_, _]) eX11_keep sX11_keep lX11_365 rfl dX11_reference_250 (hW.1 _ _ hT.1) hX (Nat.le_trans (by decide) hd) rfl (Nat.le_of_ble_eq_true rfl) (fun r cs hp => ?_)
      obtain ⟨r13, S14, rfl, hw, hW⟩ := hp
      refine z_st (st' := []) rfl ?_
      refine z_iload_n dX11_reference_253 rfl rfl ?_
      refine z_iconst (v := Int32.ofInt 1) dX11_reference_254 rfl ?_
      refine i_iadd dX11_reference_255 ?_
      refine z_iload dX11_reference_256 rfl ?_
      refine i_iadd dX11_reference_258 ?_
      exact z_ireturn dX11_reference_259 rfl rfl (hP _ _ _ hw hW)
def wX11_reference_186' (l1 l2 l3 l4 : Int) (S : St) (K : Int → St → Prop) (B178 : Int → Int → Int → St → Prop) (B186 : Int → Int → Int → Int → St → Prop) : Prop := (rng (l4) ∧ ((5 ≤ l4 → wX11_reference_226 (l1) (l2) (l3) (l4) S K B178) ∧ ((¬ (5 ≤ l4)) → (rng (l3) ∧ (wX11_entitySign (l3) (l4) S (fun r4 S5 => (rng (r4) ∧ ((r4 = 0 → wX11_reference_226 (l1) (l2) (l3) (l4) S5 K B178) ∧ ((¬ (r4 = 0)) → (wX11_entitySign (l3) (l4) S5 (fun r8 S9 => (rng (((l1 + 1) + l4)) ∧ (wX11_docAt (((l1 + 1) + l4)) S9 (fun r11 S12 => (rng (r8) ∧ (rng (r11) ∧ ((¬ r8 = r11 → wX11_reference_226 (l1) (l2) (l3) (l4) S12 K B178) ∧ ((¬ (¬ r8 = r11)) → B186 (l1) (l2) (l3) ((l4 + 1)) S12))))))))))))))))))
set_option maxRecDepth 100000 in
set_option maxHeartbeats 4000000 in
theorem bX11_reference_186' {G : xG} {sh : Nat → Option Sh} {J : St → List va_E → Prop} {d : Nat} {Post : xP} {l1 l2 l3 l4 : Int} {S : St} {cs : List va_E} {K : Int → St → Prop} {B178 : Int → Int → Int → St → Prop} {B186 : Int → Int → Int → Int → St → Prop} (hd : 2 ≤ d) (hJ : Stb sh J) (hT : isM sh) (hW : Wd G sh mT J S cs) (hP : ∀ (v : Int) (S : St) (cs : List va_E), K v S → Wd G sh mT J S cs → Post (some (.int (Int32.ofInt v))) cs) (hB178 : ∀ (l1 : Int) (l2 : Int) (l3 : Int) (S : St) (cs : List va_E), B178 l1 l2 l3 S → Wd G sh mT J S cs → Z (RX11, cX11_reference, 7, some .int, false) G d Post 178 [(0, .ref (G.1 + 54)), (1, .int (Int32.ofInt (l1))), (2, .int (Int32.ofInt (l2))), (3, .int (Int32.ofInt (l3)))] [] cs) (hB186 : ∀ (l1 : Int) (l2 : Int) (l3 : Int) (l4 : Int) (S : St) (cs : List va_E), B186 l1 l2 l3 l4 S → Wd G sh mT J S cs → Z (RX11, cX11_reference, 7, some .int, false) G d Post 186 [(0, .ref (G.1 + 54)), (1, .int (Int32.ofInt (l1))), (2, .int (Int32.ofInt (l2))), (3, .int (Int32.ofInt (l3))), (4, .int (Int32.ofInt (l4)))] [] cs) (hw : wX11_reference_186' l1 l2 l3 l4 S K B178 B186) : Z (RX11, cX11_reference, 7, some .int, false) G d Post 186 [(0, .ref (G.1 + 54)), (1, .int (Int32.ofInt (l1))), (2, .int (Int32.ofInt (l2))), (3, .int (Int32.ofInt (l3))), (4, .int (Int32.ofInt (l4)))] [] cs := by
  unfold wX11_reference_186' at hw
  refine z_iload dX11_reference_186 rfl ?_
  refine z_iconst (v := Int32.ofInt 5) dX11_reference_188 rfl ?_
  obtain ⟨q2, hw⟩ := hw
  refine i_icmp_ge (tgt := 226) dX11_reference_189 (by decide) q2 ⟨by decide, by decide⟩ (fun h1 => ?_) (fun h1 => ?_)
  · have hw := hw.1 h1
    refine z_loc (L' := [(0, .ref (G.1 + 54)), (1, .int (Int32.ofInt (l1))), (2, .int (Int32.ofInt (l2))), (3, .int (Int32.ofInt (l3))), (4, .int (Int32.ofInt (l4)))]) (List.forall_mem_cons.mpr ⟨rfl, (List.forall_mem_cons.mpr ⟨rfl, (List.forall_mem_cons.mpr ⟨rfl, (List.forall_mem_cons.mpr ⟨rfl, (List.forall_mem_cons.mpr ⟨rfl, (fun _ h => nomatch h)⟩)⟩)⟩)⟩)⟩) ?_
    exact bX11_reference_226 hd hJ hT hW hP hB178 hw
  · have hw := hw.2 h1
    refine z_iload_n dX11_reference_192 rfl rfl ?_
    refine z_iload dX11_reference_193 rfl ?_
    obtain ⟨q3, hw⟩ := hw
    have hX := lX11_entitySign 0 (Nat.le_refl _) hJ hT hW q3 q2 hw
    refine z_callS (As := [_, _]) eX11_entitySign sX11_entitySign lX11_368 dX11_reference_195 hX (Nat.le_trans (by decide) hd) rfl (Nat.le_of_ble_eq_true rfl) (fun r cs hp => ?_)
    obtain ⟨r4, S5, rfl, hw, hW⟩ := hp
    refine z_st (st' := [.int (Int32.ofInt (r4))]) rfl ?_
    obtain ⟨q7, hw⟩ := hw
    refine i_if_eq (tgt := 226) dX11_reference_198 (by decide) q7 (fun h6 => ?_) (fun h6 => ?_)
    · have hw := hw.1 h6
      refine z_loc (L' := [(0, .ref (G.1 + 54)), (1, .int (Int32.ofInt (l1))), (2, .int (Int32.ofInt (l2))), (3, .int (Int32.ofInt (l3))), (4, .int (Int32.ofInt (l4)))]) (List.forall_mem_cons.mpr ⟨rfl, (List.forall_mem_cons.mpr ⟨rfl, (List.forall_mem_cons.mpr ⟨rfl, (List.forall_mem_cons.mpr ⟨rfl, (List.forall_mem_cons.mpr ⟨rfl, (fun _ h => nomatch h)⟩)⟩)⟩)⟩)⟩) ?_
      exact bX11_reference_226 hd hJ hT hW hP hB178 hw
    · have hw := hw.2 h6
      refine z_iload_n dX11_reference_201 rfl rfl ?_
      refine z_iload dX11_reference_202 rfl ?_
      have hX := lX11_entitySign 0 (Nat.le_refl _) hJ hT hW q3 q2 hw
      refine z_callS (As := [_, _]) eX11_entitySign sX11_entitySign lX11_368 dX11_reference_204 hX (Nat.le_trans (by decide) hd) rfl (Nat.le_of_ble_eq_true rfl) (fun r cs hp => ?_)
      obtain ⟨r8, S9, rfl, hw, hW⟩ := hp
      refine z_st (st' := [.int (Int32.ofInt (r8))]) rfl ?_
      refine z_aload_n dX11_reference_207 rfl rfl ?_
      refine z_iload_n dX11_reference_208 rfl rfl ?_
      refine z_iconst (v := Int32.ofInt 1) dX11_reference_209 rfl ?_
      refine i_iadd dX11_reference_210 ?_
      refine z_iload dX11_reference_211 rfl ?_
      refine i_iadd dX11_reference_213 ?_
      obtain ⟨q10, hw⟩ := hw
      have hX := lX11_docAt 0 (Nat.le_refl _) hJ hT hW q10 hw
      refine z_callV (As := [_]) eX11_docAt sX11_docAt lX11_349 rfl dX11_reference_214 (hW.1 _ _ hT.1) hX (Nat.le_trans (by decide) hd) rfl (Nat.le_of_ble_eq_true rfl) (fun r cs hp => ?_)
      obtain ⟨r11, S12, rfl, hw, hW⟩ := hp
      refine z_st (st' := [.int (Int32.ofInt (r11)), .int (Int32.ofInt (r8))]) rfl ?_
      obtain ⟨q14, hw⟩ := hw
      obtain ⟨q15, hw⟩ := hw
      refine i_icmp_ne (tgt := 226) dX11_reference_217 (by decide) q14 q15 (fun h13 => ?_) (fun h13 => ?_)
      · have hw := hw.1 h13
        refine z_loc (L' := [(0, .ref (G.1 + 54)), (1, .int (Int32.ofInt (l1))), (2, .int (Int32.ofInt (l2))), (3, .int (Int32.ofInt (l3))), (4, .int (Int32.ofInt (l4)))]) (List.forall_mem_cons.mpr ⟨rfl, (List.forall_mem_cons.mpr ⟨rfl, (List.forall_mem_cons.mpr ⟨rfl, (List.forall_mem_cons.mpr ⟨rfl, (List.forall_mem_cons.mpr ⟨rfl, (fun _ h => nomatch h)⟩)⟩)⟩)⟩)⟩) ?_
        exact bX11_reference_226 hd hJ hT hW hP hB178 hw
      · have hw := hw.2 h13
        refine i_iinc (l := l4) dX11_reference_220 rfl (by decide) ?_
        refine z_goto (tgt := 186) dX11_reference_223 (by decide) ?_
        refine z_loc (L' := [(0, .ref (G.1 + 54)), (1, .int (Int32.ofInt (l1))), (2, .int (Int32.ofInt (l2))), (3, .int (Int32.ofInt (l3))), (4, .int (Int32.ofInt ((l4 + 1))))]) (List.forall_mem_cons.mpr ⟨rfl, (List.forall_mem_cons.mpr ⟨rfl, (List.forall_mem_cons.mpr ⟨rfl, (List.forall_mem_cons.mpr ⟨rfl, (List.forall_mem_cons.mpr ⟨rfl, (fun _ h => nomatch h)⟩)⟩)⟩)⟩)⟩) ?_
        exact hB186 _ _ _ _ _ _ hw hW
def wX11_reference_186 (l1 l2 l3 l4 : Int) (S : St) (K : Int → St → Prop) (B178 : Int → Int → Int → St → Prop) : Prop := ∃ (Iv : Int → Int → Int → Int → St → Prop) (mu : Int → Int → Int → Int → St → Nat), Iv l1 l2 l3 l4 S ∧ ∀ (l1 l2 l3 l4 : Int) (S : St), Iv l1 l2 l3 l4 S → wX11_reference_186' l1 l2 l3 l4 S K B178 (fun ml1 ml2 ml3 ml4 T => Iv ml1 ml2 ml3 ml4 T ∧ mu ml1 ml2 ml3 ml4 T < mu l1 l2 l3 l4 S)
set_option maxRecDepth 100000 in
set_option maxHeartbeats 4000000 in
theorem bX11_reference_186 {G : xG} {sh : Nat → Option Sh} {J : St → List va_E → Prop} {d : Nat} {Post : xP} {l1 l2 l3 l4 : Int} {S : St} {cs : List va_E} {K : Int → St → Prop} {B178 : Int → Int → Int → St → Prop} (hd : 2 ≤ d) (hJ : Stb sh J) (hT : isM sh) (hW : Wd G sh mT J S cs) (hP : ∀ (v : Int) (S : St) (cs : List va_E), K v S → Wd G sh mT J S cs → Post (some (.int (Int32.ofInt v))) cs) (hB178 : ∀ (l1 : Int) (l2 : Int) (l3 : Int) (S : St) (cs : List va_E), B178 l1 l2 l3 S → Wd G sh mT J S cs → Z (RX11, cX11_reference, 7, some .int, false) G d Post 178 [(0, .ref (G.1 + 54)), (1, .int (Int32.ofInt (l1))), (2, .int (Int32.ofInt (l2))), (3, .int (Int32.ofInt (l3)))] [] cs) (hw : wX11_reference_186 l1 l2 l3 l4 S K B178) : Z (RX11, cX11_reference, 7, some .int, false) G d Post 186 [(0, .ref (G.1 + 54)), (1, .int (Int32.ofInt (l1))), (2, .int (Int32.ofInt (l2))), (3, .int (Int32.ofInt (l3))), (4, .int (Int32.ofInt (l4)))] [] cs := by
  unfold wX11_reference_186 at hw
  obtain ⟨Iv, mu, h0, hs⟩ := hw
  have key : ∀ (n : Nat) (l1 l2 l3 l4 : Int) (S : St) (cs : List va_E), mu l1 l2 l3 l4 S < n → Iv l1 l2 l3 l4 S → Wd G sh mT J S cs → Z (RX11, cX11_reference, 7, some .int, false) G d Post 186 [(0, .ref (G.1 + 54)), (1, .int (Int32.ofInt (l1))), (2, .int (Int32.ofInt (l2))), (3, .int (Int32.ofInt (l3))), (4, .int (Int32.ofInt (l4)))] [] cs := by
    intro n
    induction n with
    | zero => intro l1 l2 l3 l4 S cs hn; exact absurd hn (Nat.not_lt_zero _)
    | succ n ih =>
      intro l1 l2 l3 l4 S cs hn hI hW
      exact bX11_reference_186' hd hJ hT hW hP hB178 (fun l1 l2 l3 l4 S cs hb hW => ih l1 l2 l3 l4 S cs (Nat.lt_of_lt_of_le hb.2 (Nat.le_of_lt_succ hn)) hb.1 hW) (hs l1 l2 l3 l4 S hI)
  exact key _ _ _ _ _ _ _ (Nat.lt_succ_self _) h0 hW
def wX11_reference_178' (l1 l2 l3 : Int) (S : St) (K : Int → St → Prop) (B178 : Int → Int → Int → St → Prop) : Prop := (rng (l3) ∧ ((5 ≤ l3 → (rng (l1) ∧ (wX11_fail (l1) S (fun r4 S5 => K (l1) S5)))) ∧ ((¬ (5 ≤ l3)) → wX11_reference_186 (l1) (l2) (l3) (0) S K B178)))
set_option maxRecDepth 100000 in
set_option maxHeartbeats 4000000 in
theorem bX11_reference_178' {G : xG} {sh : Nat → Option Sh} {J : St → List va_E → Prop} {d : Nat} {Post : xP} {l1 l2 l3 : Int} {S : St} {cs : List va_E} {K : Int → St → Prop} {B178 : Int → Int → Int → St → Prop} (hd : 2 ≤ d) (hJ : Stb sh J) (hT : isM sh) (hW : Wd G sh mT J S cs) (hP : ∀ (v : Int) (S : St) (cs : List va_E), K v S → Wd G sh mT J S cs → Post (some (.int (Int32.ofInt v))) cs) (hB178 : ∀ (l1 : Int) (l2 : Int) (l3 : Int) (S : St) (cs : List va_E), B178 l1 l2 l3 S → Wd G sh mT J S cs → Z (RX11, cX11_reference, 7, some .int, false) G d Post 178 [(0, .ref (G.1 + 54)), (1, .int (Int32.ofInt (l1))), (2, .int (Int32.ofInt (l2))), (3, .int (Int32.ofInt (l3)))] [] cs) (hw : wX11_reference_178' l1 l2 l3 S K B178) : Z (RX11, cX11_reference, 7, some .int, false) G d Post 178 [(0, .ref (G.1 + 54)), (1, .int (Int32.ofInt (l1))), (2, .int (Int32.ofInt (l2))), (3, .int (Int32.ofInt (l3)))] [] cs := by
  unfold wX11_reference_178' at hw
  refine z_iload_n dX11_reference_178 rfl rfl ?_
  refine z_iconst (v := Int32.ofInt 5) dX11_reference_179 rfl ?_
  obtain ⟨q2, hw⟩ := hw
  refine i_icmp_ge (tgt := 266) dX11_reference_180 (by decide) q2 ⟨by decide, by decide⟩ (fun h1 => ?_) (fun h1 => ?_)
  · have hw := hw.1 h1
    refine z_aload_n dX11_reference_266 rfl rfl ?_
    refine z_iload_n dX11_reference_267 rfl rfl ?_
    obtain ⟨q3, hw⟩ := hw
    have hX := lX11_fail 0 (Nat.le_refl _) hJ hT hW q3 hw
    refine z_callV (As := [_]) eX11_fail sX11_fail lX11_362 rfl dX11_reference_268 (hW.1 _ _ hT.1) hX (Nat.le_trans (by decide) hd) rfl (Nat.le_of_ble_eq_true rfl) (fun r cs hp => ?_)
    obtain ⟨r4, S5, rfl, hw, hW⟩ := hp
    refine z_st (st' := []) rfl ?_
    refine z_iload_n dX11_reference_271 rfl rfl ?_
    exact z_ireturn dX11_reference_272 rfl rfl (hP _ _ _ hw hW)
  · have hw := hw.2 h1
    refine z_iconst (v := Int32.ofInt 0) dX11_reference_183 rfl ?_
    refine z_istore dX11_reference_184 (by decide) ?_
    refine z_loc (L' := [(0, .ref (G.1 + 54)), (1, .int (Int32.ofInt (l1))), (2, .int (Int32.ofInt (l2))), (3, .int (Int32.ofInt (l3))), (4, .int (Int32.ofInt (0)))]) (List.forall_mem_cons.mpr ⟨rfl, (List.forall_mem_cons.mpr ⟨rfl, (List.forall_mem_cons.mpr ⟨rfl, (List.forall_mem_cons.mpr ⟨rfl, (List.forall_mem_cons.mpr ⟨rfl, (fun _ h => nomatch h)⟩)⟩)⟩)⟩)⟩) ?_
    exact bX11_reference_186 hd hJ hT hW hP hB178 hw
def wX11_reference_178 (l1 l2 l3 : Int) (S : St) (K : Int → St → Prop) : Prop := ∃ (Iv : Int → Int → Int → St → Prop) (mu : Int → Int → Int → St → Nat), Iv l1 l2 l3 S ∧ ∀ (l1 l2 l3 : Int) (S : St), Iv l1 l2 l3 S → wX11_reference_178' l1 l2 l3 S K  (fun ml1 ml2 ml3 T => Iv ml1 ml2 ml3 T ∧ mu ml1 ml2 ml3 T < mu l1 l2 l3 S)
set_option maxRecDepth 100000 in
set_option maxHeartbeats 4000000 in
theorem bX11_reference_178 {G : xG} {sh : Nat → Option Sh} {J : St → List va_E → Prop} {d : Nat} {Post : xP} {l1 l2 l3 : Int} {S : St} {cs : List va_E} {K : Int → St → Prop} (hd : 2 ≤ d) (hJ : Stb sh J) (hT : isM sh) (hW : Wd G sh mT J S cs) (hP : ∀ (v : Int) (S : St) (cs : List va_E), K v S → Wd G sh mT J S cs → Post (some (.int (Int32.ofInt v))) cs)  (hw : wX11_reference_178 l1 l2 l3 S K ) : Z (RX11, cX11_reference, 7, some .int, false) G d Post 178 [(0, .ref (G.1 + 54)), (1, .int (Int32.ofInt (l1))), (2, .int (Int32.ofInt (l2))), (3, .int (Int32.ofInt (l3)))] [] cs := by
  unfold wX11_reference_178 at hw
  obtain ⟨Iv, mu, h0, hs⟩ := hw
  have key : ∀ (n : Nat) (l1 l2 l3 : Int) (S : St) (cs : List va_E), mu l1 l2 l3 S < n → Iv l1 l2 l3 S → Wd G sh mT J S cs → Z (RX11, cX11_reference, 7, some .int, false) G d Post 178 [(0, .ref (G.1 + 54)), (1, .int (Int32.ofInt (l1))), (2, .int (Int32.ofInt (l2))), (3, .int (Int32.ofInt (l3)))] [] cs := by
    intro n
    induction n with
    | zero => intro l1 l2 l3 S cs hn; exact absurd hn (Nat.not_lt_zero _)
    | succ n ih =>
      intro l1 l2 l3 S cs hn hI hW
      exact bX11_reference_178' hd hJ hT hW hP  (fun l1 l2 l3 S cs hb hW => ih l1 l2 l3 S cs (Nat.lt_of_lt_of_le hb.2 (Nat.le_of_lt_succ hn)) hb.1 hW) (hs l1 l2 l3 S hI)
  exact key _ _ _ _ _ _ (Nat.lt_succ_self _) h0 hW
def wX11_reference_156 (l1 l4 : Int) (S : St) (K : Int → St → Prop) : Prop := (rng (l1) ∧ (wX11_fail (l1) S (fun r2 S3 => K (l4) S3)))
set_option maxRecDepth 100000 in
set_option maxHeartbeats 4000000 in
theorem bX11_reference_156 {G : xG} {sh : Nat → Option Sh} {J : St → List va_E → Prop} {d : Nat} {Post : xP} {l1 l4 : Int} {S : St} {cs : List va_E} {K : Int → St → Prop} (hd : 2 ≤ d) (hJ : Stb sh J) (hT : isM sh) (hW : Wd G sh mT J S cs) (hP : ∀ (v : Int) (S : St) (cs : List va_E), K v S → Wd G sh mT J S cs → Post (some (.int (Int32.ofInt v))) cs)  (hw : wX11_reference_156 l1 l4 S K ) : Z (RX11, cX11_reference, 7, some .int, false) G d Post 156 [(0, .ref (G.1 + 54)), (1, .int (Int32.ofInt (l1))), (4, .int (Int32.ofInt (l4)))] [] cs := by
  unfold wX11_reference_156 at hw
  refine z_aload_n dX11_reference_156 rfl rfl ?_
  refine z_iload_n dX11_reference_157 rfl rfl ?_
  obtain ⟨q1, hw⟩ := hw
  have hX := lX11_fail 0 (Nat.le_refl _) hJ hT hW q1 hw
  refine z_callV (As := [_]) eX11_fail sX11_fail lX11_362 rfl dX11_reference_158 (hW.1 _ _ hT.1) hX (Nat.le_trans (by decide) hd) rfl (Nat.le_of_ble_eq_true rfl) (fun r cs hp => ?_)
  obtain ⟨r2, S3, rfl, hw, hW⟩ := hp
  refine z_st (st' := []) rfl ?_
  refine z_iload dX11_reference_161 rfl ?_
  exact z_ireturn dX11_reference_163 rfl rfl (hP _ _ _ hw hW)
def wX11_reference_164 (l2 l4 l6 : Int) (S : St) (K : Int → St → Prop) : Prop := (rng (l6) ∧ (rng (l2) ∧ (wX11_keep (l6) (l2) S (fun r3 S4 => K ((l4 + 1)) S4))))
set_option maxRecDepth 100000 in
set_option maxHeartbeats 4000000 in
theorem bX11_reference_164 {G : xG} {sh : Nat → Option Sh} {J : St → List va_E → Prop} {d : Nat} {Post : xP} {l2 l4 l6 : Int} {S : St} {cs : List va_E} {K : Int → St → Prop} (hd : 2 ≤ d) (hJ : Stb sh J) (hT : isM sh) (hW : Wd G sh mT J S cs) (hP : ∀ (v : Int) (S : St) (cs : List va_E), K v S → Wd G sh mT J S cs → Post (some (.int (Int32.ofInt v))) cs)  (hw : wX11_reference_164 l2 l4 l6 S K ) : Z (RX11, cX11_reference, 7, some .int, false) G d Post 164 [(0, .ref (G.1 + 54)), (2, .int (Int32.ofInt (l2))), (4, .int (Int32.ofInt (l4))), (6, .int (Int32.ofInt (l6)))] [] cs := by
  unfold wX11_reference_164 at hw
  refine z_aload_n dX11_reference_164 rfl rfl ?_
  refine z_iload dX11_reference_165 rfl ?_
  refine z_iload_n dX11_reference_167 rfl rfl ?_
  obtain ⟨q1, hw⟩ := hw
  obtain ⟨q2, hw⟩ := hw
  have hX := lX11_keep 0 (Nat.le_refl _) hJ hT hW q1 q2 hw
  refine z_callV (As := [_, _]) eX11_keep sX11_keep lX11_365 rfl dX11_reference_168 (hW.1 _ _ hT.1) hX (Nat.le_trans (by decide) hd) rfl (Nat.le_of_ble_eq_true rfl) (fun r cs hp => ?_)
  obtain ⟨r3, S4, rfl, hw, hW⟩ := hp
  refine z_st (st' := []) rfl ?_
  refine z_iload dX11_reference_171 rfl ?_
  refine z_iconst (v := Int32.ofInt 1) dX11_reference_173 rfl ?_
  refine i_iadd dX11_reference_174 ?_
  exact z_ireturn dX11_reference_175 rfl rfl (hP _ _ _ hw hW)
def wX11_reference_107 (l1 l2 l4 l5 l6 : Int) (S : St) (K : Int → St → Prop) : Prop := (rng (l5) ∧ ((l5 = 0 → wX11_reference_156 (l1) (l4) S K) ∧ ((¬ (l5 = 0)) → (rng (l4) ∧ (wX11_docAt (l4) S (fun r4 S5 => (rng (r4) ∧ ((¬ r4 = 59 → wX11_reference_156 (l1) (l4) S5 K) ∧ ((¬ (¬ r4 = 59)) → (rng (l6) ∧ (wX11_in (l6) (32) (126) S5 (fun r9 S10 => (rng (r9) ∧ ((¬ r9 = 0 → wX11_reference_164 (l2) (l4) (l6) S10 K) ∧ ((¬ (¬ r9 = 0)) → ((l6 = 9 → wX11_reference_164 (l2) (l4) (l6) S10 K) ∧ ((¬ (l6 = 9)) → ((l6 = 10 → wX11_reference_164 (l2) (l4) (l6) S10 K) ∧ ((¬ (l6 = 10)) → ((l6 = 13 → wX11_reference_164 (l2) (l4) (l6) S10 K) ∧ ((¬ (l6 = 13)) → wX11_reference_156 (l1) (l4) S10 K)))))))))))))))))))))
set_option maxRecDepth 100000 in
set_option maxHeartbeats 4000000 in
theorem bX11_reference_107 {G : xG} {sh : Nat → Option Sh} {J : St → List va_E → Prop} {d : Nat} {Post : xP} {l1 l2 l4 l5 l6 : Int} {S : St} {cs : List va_E} {K : Int → St → Prop} (hd : 2 ≤ d) (hJ : Stb sh J) (hT : isM sh) (hW : Wd G sh mT J S cs) (hP : ∀ (v : Int) (S : St) (cs : List va_E), K v S → Wd G sh mT J S cs → Post (some (.int (Int32.ofInt v))) cs)  (hw : wX11_reference_107 l1 l2 l4 l5 l6 S K ) : Z (RX11, cX11_reference, 7, some .int, false) G d Post 107 [(0, .ref (G.1 + 54)), (1, .int (Int32.ofInt (l1))), (2, .int (Int32.ofInt (l2))), (4, .int (Int32.ofInt (l4))), (5, .int (Int32.ofInt (l5))), (6, .int (Int32.ofInt (l6)))] [] cs := by
  unfold wX11_reference_107 at hw
  refine z_iload dX11_reference_107 rfl ?_
  obtain ⟨q2, hw⟩ := hw
  refine i_if_eq (tgt := 156) dX11_reference_109 (by decide) q2 (fun h1 => ?_) (fun h1 => ?_)
  · have hw := hw.1 h1
    refine z_loc (L' := [(0, .ref (G.1 + 54)), (1, .int (Int32.ofInt (l1))), (4, .int (Int32.ofInt (l4)))]) (List.forall_mem_cons.mpr ⟨rfl, (List.forall_mem_cons.mpr ⟨rfl, (List.forall_mem_cons.mpr ⟨rfl, (fun _ h => nomatch h)⟩)⟩)⟩) ?_
    exact bX11_reference_156 hd hJ hT hW hP  hw
  · have hw := hw.2 h1
    refine z_aload_n dX11_reference_112 rfl rfl ?_
    refine z_iload dX11_reference_113 rfl ?_
    obtain ⟨q3, hw⟩ := hw
    have hX := lX11_docAt 0 (Nat.le_refl _) hJ hT hW q3 hw
    refine z_callV (As := [_]) eX11_docAt sX11_docAt lX11_349 rfl dX11_reference_115 (hW.1 _ _ hT.1) hX (Nat.le_trans (by decide) hd) rfl (Nat.le_of_ble_eq_true rfl) (fun r cs hp => ?_)
    obtain ⟨r4, S5, rfl, hw, hW⟩ := hp
    refine z_st (st' := [.int (Int32.ofInt (r4))]) rfl ?_
    refine z_bipush (v := Int32.ofInt 59) dX11_reference_118 (by decide) ?_
    obtain ⟨q7, hw⟩ := hw
    refine i_icmp_ne (tgt := 156) dX11_reference_120 (by decide) q7 ⟨by decide, by decide⟩ (fun h6 => ?_) (fun h6 => ?_)
    · have hw := hw.1 h6
      refine z_loc (L' := [(0, .ref (G.1 + 54)), (1, .int (Int32.ofInt (l1))), (4, .int (Int32.ofInt (l4)))]) (List.forall_mem_cons.mpr ⟨rfl, (List.forall_mem_cons.mpr ⟨rfl, (List.forall_mem_cons.mpr ⟨rfl, (fun _ h => nomatch h)⟩)⟩)⟩) ?_
      exact bX11_reference_156 hd hJ hT hW hP  hw
    · have hw := hw.2 h6
      refine z_iload dX11_reference_123 rfl ?_
      refine z_bipush (v := Int32.ofInt 32) dX11_reference_125 (by decide) ?_
      refine z_bipush (v := Int32.ofInt 126) dX11_reference_127 (by decide) ?_
      obtain ⟨q8, hw⟩ := hw
      have hX := lX11_in 0 (Nat.le_refl _) hJ hT hW q8 ⟨by decide, by decide⟩ ⟨by decide, by decide⟩ hw
      refine z_callS (As := [_, _, _]) eX11_in sX11_in lX11_174 dX11_reference_129 hX (Nat.le_trans (by decide) hd) rfl (Nat.le_of_ble_eq_true rfl) (fun r cs hp => ?_)
      obtain ⟨r9, S10, rfl, hw, hW⟩ := hp
      refine z_st (st' := [.int (Int32.ofInt (r9))]) rfl ?_
      obtain ⟨q12, hw⟩ := hw
      refine i_if_ne (tgt := 164) dX11_reference_132 (by decide) q12 (fun h11 => ?_) (fun h11 => ?_)
      · have hw := hw.1 h11
        refine z_loc (L' := [(0, .ref (G.1 + 54)), (2, .int (Int32.ofInt (l2))), (4, .int (Int32.ofInt (l4))), (6, .int (Int32.ofInt (l6)))]) (List.forall_mem_cons.mpr ⟨rfl, (List.forall_mem_cons.mpr ⟨rfl, (List.forall_mem_cons.mpr ⟨rfl, (List.forall_mem_cons.mpr ⟨rfl, (fun _ h => nomatch h)⟩)⟩)⟩)⟩) ?_
        exact bX11_reference_164 hd hJ hT hW hP  hw
      · have hw := hw.2 h11
        refine z_iload dX11_reference_135 rfl ?_
        refine z_bipush (v := Int32.ofInt 9) dX11_reference_137 (by decide) ?_
        refine i_icmp_eq (tgt := 164) dX11_reference_139 (by decide) q8 ⟨by decide, by decide⟩ (fun h13 => ?_) (fun h13 => ?_)
        · have hw := hw.1 h13
          refine z_loc (L' := [(0, .ref (G.1 + 54)), (2, .int (Int32.ofInt (l2))), (4, .int (Int32.ofInt (l4))), (6, .int (Int32.ofInt (l6)))]) (List.forall_mem_cons.mpr ⟨rfl, (List.forall_mem_cons.mpr ⟨rfl, (List.forall_mem_cons.mpr ⟨rfl, (List.forall_mem_cons.mpr ⟨rfl, (fun _ h => nomatch h)⟩)⟩)⟩)⟩) ?_
          exact bX11_reference_164 hd hJ hT hW hP  hw
        · have hw := hw.2 h13
          refine z_iload dX11_reference_142 rfl ?_
          refine z_bipush (v := Int32.ofInt 10) dX11_reference_144 (by decide) ?_
          refine i_icmp_eq (tgt := 164) dX11_reference_146 (by decide) q8 ⟨by decide, by decide⟩ (fun h14 => ?_) (fun h14 => ?_)
          · have hw := hw.1 h14
            refine z_loc (L' := [(0, .ref (G.1 + 54)), (2, .int (Int32.ofInt (l2))), (4, .int (Int32.ofInt (l4))), (6, .int (Int32.ofInt (l6)))]) (List.forall_mem_cons.mpr ⟨rfl, (List.forall_mem_cons.mpr ⟨rfl, (List.forall_mem_cons.mpr ⟨rfl, (List.forall_mem_cons.mpr ⟨rfl, (fun _ h => nomatch h)⟩)⟩)⟩)⟩) ?_
            exact bX11_reference_164 hd hJ hT hW hP  hw
          · have hw := hw.2 h14
            refine z_iload dX11_reference_149 rfl ?_
            refine z_bipush (v := Int32.ofInt 13) dX11_reference_151 (by decide) ?_
            refine i_icmp_eq (tgt := 164) dX11_reference_153 (by decide) q8 ⟨by decide, by decide⟩ (fun h15 => ?_) (fun h15 => ?_)
            · have hw := hw.1 h15
              refine z_loc (L' := [(0, .ref (G.1 + 54)), (2, .int (Int32.ofInt (l2))), (4, .int (Int32.ofInt (l4))), (6, .int (Int32.ofInt (l6)))]) (List.forall_mem_cons.mpr ⟨rfl, (List.forall_mem_cons.mpr ⟨rfl, (List.forall_mem_cons.mpr ⟨rfl, (List.forall_mem_cons.mpr ⟨rfl, (fun _ h => nomatch h)⟩)⟩)⟩)⟩) ?_
              exact bX11_reference_164 hd hJ hT hW hP  hw
            · have hw := hw.2 h15
              refine z_loc (L' := [(0, .ref (G.1 + 54)), (1, .int (Int32.ofInt (l1))), (4, .int (Int32.ofInt (l4)))]) (List.forall_mem_cons.mpr ⟨rfl, (List.forall_mem_cons.mpr ⟨rfl, (List.forall_mem_cons.mpr ⟨rfl, (fun _ h => nomatch h)⟩)⟩)⟩) ?_
              exact bX11_reference_156 hd hJ hT hW hP  hw
def wX11_reference_84 (l1 l2 l3 l4 l5 s0 s1 : Int) (S : St) (K : Int → St → Prop) (B51 : Int → Int → Int → Int → Int → Int → St → Prop) : Prop := (rng (l4) ∧ (wX11_docAt (l4) S (fun r2 S3 => (rng (r2) ∧ (rng (l3) ∧ (wX11_figure (r2) (l3) S3 (fun r6 S7 => B51 (l1) (l2) (l3) ((l4 + 1)) ((l5 + 1)) (((s1 * s0) + r6)) S7)))))))
set_option maxRecDepth 100000 in
set_option maxHeartbeats 4000000 in
theorem bX11_reference_84 {G : xG} {sh : Nat → Option Sh} {J : St → List va_E → Prop} {d : Nat} {Post : xP} {l1 l2 l3 l4 l5 s0 s1 : Int} {S : St} {cs : List va_E} {K : Int → St → Prop} {B51 : Int → Int → Int → Int → Int → Int → St → Prop} (hd : 2 ≤ d) (hJ : Stb sh J) (hT : isM sh) (hW : Wd G sh mT J S cs) (hP : ∀ (v : Int) (S : St) (cs : List va_E), K v S → Wd G sh mT J S cs → Post (some (.int (Int32.ofInt v))) cs) (hB51 : ∀ (l1 : Int) (l2 : Int) (l3 : Int) (l4 : Int) (l5 : Int) (l6 : Int) (S : St) (cs : List va_E), B51 l1 l2 l3 l4 l5 l6 S → Wd G sh mT J S cs → Z (RX11, cX11_reference, 7, some .int, false) G d Post 51 [(0, .ref (G.1 + 54)), (1, .int (Int32.ofInt (l1))), (2, .int (Int32.ofInt (l2))), (3, .int (Int32.ofInt (l3))), (4, .int (Int32.ofInt (l4))), (5, .int (Int32.ofInt (l5))), (6, .int (Int32.ofInt (l6)))] [] cs) (hw : wX11_reference_84 l1 l2 l3 l4 l5 s0 s1 S K B51) : Z (RX11, cX11_reference, 7, some .int, false) G d Post 84 [(0, .ref (G.1 + 54)), (1, .int (Int32.ofInt (l1))), (2, .int (Int32.ofInt (l2))), (3, .int (Int32.ofInt (l3))), (4, .int (Int32.ofInt (l4))), (5, .int (Int32.ofInt (l5)))] [.int (Int32.ofInt (s0)), .int (Int32.ofInt (s1))] cs := by
  unfold wX11_reference_84 at hw
  refine i_imul dX11_reference_84 ?_
  refine z_aload_n dX11_reference_85 rfl rfl ?_
  refine z_iload dX11_reference_86 rfl ?_
  obtain ⟨q1, hw⟩ := hw
  have hX := lX11_docAt 0 (Nat.le_refl _) hJ hT hW q1 hw
  refine z_callV (As := [_]) eX11_docAt sX11_docAt lX11_349 rfl dX11_reference_88 (hW.1 _ _ hT.1) hX (Nat.le_trans (by decide) hd) rfl (Nat.le_of_ble_eq_true rfl) (fun r cs hp => ?_)
  obtain ⟨r2, S3, rfl, hw, hW⟩ := hp
  refine z_st (st' := [.int (Int32.ofInt (r2)), .int (Int32.ofInt ((s1 * s0)))]) rfl ?_
  refine z_iload_n dX11_reference_91 rfl rfl ?_
  obtain ⟨q4, hw⟩ := hw
  obtain ⟨q5, hw⟩ := hw
  have hX := lX11_figure 1 (Nat.le_refl _) hJ hT hW q4 q5 hw
  refine z_callS (As := [_, _]) eX11_figure sX11_figure lX11_358 dX11_reference_92 hX (Nat.le_trans (by decide) hd) rfl (Nat.le_of_ble_eq_true rfl) (fun r cs hp => ?_)
  obtain ⟨r6, S7, rfl, hw, hW⟩ := hp
  refine z_st (st' := [.int (Int32.ofInt (r6)), .int (Int32.ofInt ((s1 * s0)))]) rfl ?_
  refine i_iadd dX11_reference_95 ?_
  refine z_istore dX11_reference_96 (by decide) ?_
  refine i_iinc (l := l5) dX11_reference_98 rfl (by decide) ?_
  refine i_iinc (l := l4) dX11_reference_101 rfl (by decide) ?_
  refine z_goto (tgt := 51) dX11_reference_104 (by decide) ?_
  refine z_loc (L' := [(0, .ref (G.1 + 54)), (1, .int (Int32.ofInt (l1))), (2, .int (Int32.ofInt (l2))), (3, .int (Int32.ofInt (l3))), (4, .int (Int32.ofInt ((l4 + 1)))), (5, .int (Int32.ofInt ((l5 + 1)))), (6, .int (Int32.ofInt (((s1 * s0) + r6))))]) (List.forall_mem_cons.mpr ⟨rfl, (List.forall_mem_cons.mpr ⟨rfl, (List.forall_mem_cons.mpr ⟨rfl, (List.forall_mem_cons.mpr ⟨rfl, (List.forall_mem_cons.mpr ⟨rfl, (List.forall_mem_cons.mpr ⟨rfl, (List.forall_mem_cons.mpr ⟨rfl, (fun _ h => nomatch h)⟩)⟩)⟩)⟩)⟩)⟩)⟩) ?_
  exact hB51 _ _ _ _ _ _ _ _ hw hW
def wX11_reference_51' (l1 l2 l3 l4 l5 l6 : Int) (S : St) (K : Int → St → Prop) (B51 : Int → Int → Int → Int → Int → Int → St → Prop) : Prop := (rng (l5) ∧ ((6 ≤ l5 → wX11_reference_107 (l1) (l2) (l4) (l5) (l6) S K) ∧ ((¬ (6 ≤ l5)) → (rng (l4) ∧ (wX11_docAt (l4) S (fun r4 S5 => (rng (r4) ∧ (rng (l3) ∧ (wX11_figure (r4) (l3) S5 (fun r8 S9 => (rng (r8) ∧ ((r8 < 0 → wX11_reference_107 (l1) (l2) (l4) (l5) (l6) S9 K) ∧ ((¬ (r8 < 0)) → ((l3 = 0 → wX11_reference_84 (l1) (l2) (l3) (l4) (l5) (10) (l6) S9 K B51) ∧ ((¬ (l3 = 0)) → wX11_reference_84 (l1) (l2) (l3) (l4) (l5) (16) (l6) S9 K B51)))))))))))))))
set_option maxRecDepth 100000 in
set_option maxHeartbeats 4000000 in
theorem bX11_reference_51' {G : xG} {sh : Nat → Option Sh} {J : St → List va_E → Prop} {d : Nat} {Post : xP} {l1 l2 l3 l4 l5 l6 : Int} {S : St} {cs : List va_E} {K : Int → St → Prop} {B51 : Int → Int → Int → Int → Int → Int → St → Prop} (hd : 2 ≤ d) (hJ : Stb sh J) (hT : isM sh) (hW : Wd G sh mT J S cs) (hP : ∀ (v : Int) (S : St) (cs : List va_E), K v S → Wd G sh mT J S cs → Post (some (.int (Int32.ofInt v))) cs) (hB51 : ∀ (l1 : Int) (l2 : Int) (l3 : Int) (l4 : Int) (l5 : Int) (l6 : Int) (S : St) (cs : List va_E), B51 l1 l2 l3 l4 l5 l6 S → Wd G sh mT J S cs → Z (RX11, cX11_reference, 7, some .int, false) G d Post 51 [(0, .ref (G.1 + 54)), (1, .int (Int32.ofInt (l1))), (2, .int (Int32.ofInt (l2))), (3, .int (Int32.ofInt (l3))), (4, .int (Int32.ofInt (l4))), (5, .int (Int32.ofInt (l5))), (6, .int (Int32.ofInt (l6)))] [] cs) (hw : wX11_reference_51' l1 l2 l3 l4 l5 l6 S K B51) : Z (RX11, cX11_reference, 7, some .int, false) G d Post 51 [(0, .ref (G.1 + 54)), (1, .int (Int32.ofInt (l1))), (2, .int (Int32.ofInt (l2))), (3, .int (Int32.ofInt (l3))), (4, .int (Int32.ofInt (l4))), (5, .int (Int32.ofInt (l5))), (6, .int (Int32.ofInt (l6)))] [] cs := by
  unfold wX11_reference_51' at hw
  refine z_iload dX11_reference_51 rfl ?_
  refine z_bipush (v := Int32.ofInt 6) dX11_reference_53 (by decide) ?_
  obtain ⟨q2, hw⟩ := hw
  refine i_icmp_ge (tgt := 107) dX11_reference_55 (by decide) q2 ⟨by decide, by decide⟩ (fun h1 => ?_) (fun h1 => ?_)
  · have hw := hw.1 h1
    refine z_loc (L' := [(0, .ref (G.1 + 54)), (1, .int (Int32.ofInt (l1))), (2, .int (Int32.ofInt (l2))), (4, .int (Int32.ofInt (l4))), (5, .int (Int32.ofInt (l5))), (6, .int (Int32.ofInt (l6)))]) (List.forall_mem_cons.mpr ⟨rfl, (List.forall_mem_cons.mpr ⟨rfl, (List.forall_mem_cons.mpr ⟨rfl, (List.forall_mem_cons.mpr ⟨rfl, (List.forall_mem_cons.mpr ⟨rfl, (List.forall_mem_cons.mpr ⟨rfl, (fun _ h => nomatch h)⟩)⟩)⟩)⟩)⟩)⟩) ?_
    exact bX11_reference_107 hd hJ hT hW hP  hw
  · have hw := hw.2 h1
    refine z_aload_n dX11_reference_58 rfl rfl ?_
    refine z_iload dX11_reference_59 rfl ?_
    obtain ⟨q3, hw⟩ := hw
    have hX := lX11_docAt 0 (Nat.le_refl _) hJ hT hW q3 hw
    refine z_callV (As := [_]) eX11_docAt sX11_docAt lX11_349 rfl dX11_reference_61 (hW.1 _ _ hT.1) hX (Nat.le_trans (by decide) hd) rfl (Nat.le_of_ble_eq_true rfl) (fun r cs hp => ?_)
    obtain ⟨r4, S5, rfl, hw, hW⟩ := hp
    refine z_st (st' := [.int (Int32.ofInt (r4))]) rfl ?_
    refine z_iload_n dX11_reference_64 rfl rfl ?_
    obtain ⟨q6, hw⟩ := hw
    obtain ⟨q7, hw⟩ := hw
    have hX := lX11_figure 1 (Nat.le_refl _) hJ hT hW q6 q7 hw
    refine z_callS (As := [_, _]) eX11_figure sX11_figure lX11_358 dX11_reference_65 hX (Nat.le_trans (by decide) hd) rfl (Nat.le_of_ble_eq_true rfl) (fun r cs hp => ?_)
    obtain ⟨r8, S9, rfl, hw, hW⟩ := hp
    refine z_st (st' := [.int (Int32.ofInt (r8))]) rfl ?_
    obtain ⟨q11, hw⟩ := hw
    refine i_if_lt (tgt := 107) dX11_reference_68 (by decide) q11 (fun h10 => ?_) (fun h10 => ?_)
    · have hw := hw.1 h10
      refine z_loc (L' := [(0, .ref (G.1 + 54)), (1, .int (Int32.ofInt (l1))), (2, .int (Int32.ofInt (l2))), (4, .int (Int32.ofInt (l4))), (5, .int (Int32.ofInt (l5))), (6, .int (Int32.ofInt (l6)))]) (List.forall_mem_cons.mpr ⟨rfl, (List.forall_mem_cons.mpr ⟨rfl, (List.forall_mem_cons.mpr ⟨rfl, (List.forall_mem_cons.mpr ⟨rfl, (List.forall_mem_cons.mpr ⟨rfl, (List.forall_mem_cons.mpr ⟨rfl, (fun _ h => nomatch h)⟩)⟩)⟩)⟩)⟩)⟩) ?_
      exact bX11_reference_107 hd hJ hT hW hP  hw
    · have hw := hw.2 h10
      refine z_iload dX11_reference_71 rfl ?_
      refine z_iload_n dX11_reference_73 rfl rfl ?_
      refine i_if_eq (tgt := 82) dX11_reference_74 (by decide) q7 (fun h12 => ?_) (fun h12 => ?_)
      · have hw := hw.1 h12
        refine z_bipush (v := Int32.ofInt 10) dX11_reference_82 (by decide) ?_
        refine z_loc (L' := [(0, .ref (G.1 + 54)), (1, .int (Int32.ofInt (l1))), (2, .int (Int32.ofInt (l2))), (3, .int (Int32.ofInt (l3))), (4, .int (Int32.ofInt (l4))), (5, .int (Int32.ofInt (l5)))]) (List.forall_mem_cons.mpr ⟨rfl, (List.forall_mem_cons.mpr ⟨rfl, (List.forall_mem_cons.mpr ⟨rfl, (List.forall_mem_cons.mpr ⟨rfl, (List.forall_mem_cons.mpr ⟨rfl, (List.forall_mem_cons.mpr ⟨rfl, (fun _ h => nomatch h)⟩)⟩)⟩)⟩)⟩)⟩) ?_
        exact bX11_reference_84 hd hJ hT hW hP hB51 hw
      · have hw := hw.2 h12
        refine z_bipush (v := Int32.ofInt 16) dX11_reference_77 (by decide) ?_
        refine z_goto (tgt := 84) dX11_reference_79 (by decide) ?_
        refine z_loc (L' := [(0, .ref (G.1 + 54)), (1, .int (Int32.ofInt (l1))), (2, .int (Int32.ofInt (l2))), (3, .int (Int32.ofInt (l3))), (4, .int (Int32.ofInt (l4))), (5, .int (Int32.ofInt (l5)))]) (List.forall_mem_cons.mpr ⟨rfl, (List.forall_mem_cons.mpr ⟨rfl, (List.forall_mem_cons.mpr ⟨rfl, (List.forall_mem_cons.mpr ⟨rfl, (List.forall_mem_cons.mpr ⟨rfl, (List.forall_mem_cons.mpr ⟨rfl, (fun _ h => nomatch h)⟩)⟩)⟩)⟩)⟩)⟩) ?_
        exact bX11_reference_84 hd hJ hT hW hP hB51 hw
def wX11_reference_51 (l1 l2 l3 l4 l5 l6 : Int) (S : St) (K : Int → St → Prop) : Prop := ∃ (Iv : Int → Int → Int → Int → Int → Int → St → Prop) (mu : Int → Int → Int → Int → Int → Int → St → Nat), Iv l1 l2 l3 l4 l5 l6 S ∧ ∀ (l1 l2 l3 l4 l5 l6 : Int) (S : St), Iv l1 l2 l3 l4 l5 l6 S → wX11_reference_51' l1 l2 l3 l4 l5 l6 S K  (fun ml1 ml2 ml3 ml4 ml5 ml6 T => Iv ml1 ml2 ml3 ml4 ml5 ml6 T ∧ mu ml1 ml2 ml3 ml4 ml5 ml6 T < mu l1 l2 l3 l4 l5 l6 S)
set_option maxRecDepth 100000 in
set_option maxHeartbeats 4000000 in
theorem bX11_reference_51 {G : xG} {sh : Nat → Option Sh} {J : St → List va_E → Prop} {d : Nat} {Post : xP} {l1 l2 l3 l4 l5 l6 : Int} {S : St} {cs : List va_E} {K : Int → St → Prop} (hd : 2 ≤ d) (hJ : Stb sh J) (hT : isM sh) (hW : Wd G sh mT J S cs) (hP : ∀ (v : Int) (S : St) (cs : List va_E), K v S → Wd G sh mT J S cs → Post (some (.int (Int32.ofInt v))) cs)  (hw : wX11_reference_51 l1 l2 l3 l4 l5 l6 S K ) : Z (RX11, cX11_reference, 7, some .int, false) G d Post 51 [(0, .ref (G.1 + 54)), (1, .int (Int32.ofInt (l1))), (2, .int (Int32.ofInt (l2))), (3, .int (Int32.ofInt (l3))), (4, .int (Int32.ofInt (l4))), (5, .int (Int32.ofInt (l5))), (6, .int (Int32.ofInt (l6)))] [] cs := by
  unfold wX11_reference_51 at hw
  obtain ⟨Iv, mu, h0, hs⟩ := hw
  have key : ∀ (n : Nat) (l1 l2 l3 l4 l5 l6 : Int) (S : St) (cs : List va_E), mu l1 l2 l3 l4 l5 l6 S < n → Iv l1 l2 l3 l4 l5 l6 S → Wd G sh mT J S cs → Z (RX11, cX11_reference, 7, some .int, false) G d Post 51 [(0, .ref (G.1 + 54)), (1, .int (Int32.ofInt (l1))), (2, .int (Int32.ofInt (l2))), (3, .int (Int32.ofInt (l3))), (4, .int (Int32.ofInt (l4))), (5, .int (Int32.ofInt (l5))), (6, .int (Int32.ofInt (l6)))] [] cs := by
    intro n
    induction n with
    | zero => intro l1 l2 l3 l4 l5 l6 S cs hn; exact absurd hn (Nat.not_lt_zero _)
    | succ n ih =>
      intro l1 l2 l3 l4 l5 l6 S cs hn hI hW
      exact bX11_reference_51' hd hJ hT hW hP  (fun l1 l2 l3 l4 l5 l6 S cs hb hW => ih l1 l2 l3 l4 l5 l6 S cs (Nat.lt_of_lt_of_le hb.2 (Nat.le_of_lt_succ hn)) hb.1 hW) (hs l1 l2 l3 l4 l5 l6 S hI)
  exact key _ _ _ _ _ _ _ _ _ (Nat.lt_succ_self _) h0 hW
def wX11_reference_43 (l1 l2 l3 s0 : Int) (S : St) (K : Int → St → Prop) : Prop := wX11_reference_51 (l1) (l2) (l3) (s0) (0) (0) S K
set_option maxRecDepth 100000 in
set_option maxHeartbeats 4000000 in
theorem bX11_reference_43 {G : xG} {sh : Nat → Option Sh} {J : St → List va_E → Prop} {d : Nat} {Post : xP} {l1 l2 l3 s0 : Int} {S : St} {cs : List va_E} {K : Int → St → Prop} (hd : 2 ≤ d) (hJ : Stb sh J) (hT : isM sh) (hW : Wd G sh mT J S cs) (hP : ∀ (v : Int) (S : St) (cs : List va_E), K v S → Wd G sh mT J S cs → Post (some (.int (Int32.ofInt v))) cs)  (hw : wX11_reference_43 l1 l2 l3 s0 S K ) : Z (RX11, cX11_reference, 7, some .int, false) G d Post 43 [(0, .ref (G.1 + 54)), (1, .int (Int32.ofInt (l1))), (2, .int (Int32.ofInt (l2))), (3, .int (Int32.ofInt (l3)))] [.int (Int32.ofInt (s0))] cs := by
  unfold wX11_reference_43 at hw
  refine z_istore dX11_reference_43 (by decide) ?_
  refine z_iconst (v := Int32.ofInt 0) dX11_reference_45 rfl ?_
  refine z_istore dX11_reference_46 (by decide) ?_
  refine z_iconst (v := Int32.ofInt 0) dX11_reference_48 rfl ?_
  refine z_istore dX11_reference_49 (by decide) ?_
  refine z_loc (L' := [(0, .ref (G.1 + 54)), (1, .int (Int32.ofInt (l1))), (2, .int (Int32.ofInt (l2))), (3, .int (Int32.ofInt (l3))), (4, .int (Int32.ofInt (s0))), (5, .int (Int32.ofInt (0))), (6, .int (Int32.ofInt (0)))]) (List.forall_mem_cons.mpr ⟨rfl, (List.forall_mem_cons.mpr ⟨rfl, (List.forall_mem_cons.mpr ⟨rfl, (List.forall_mem_cons.mpr ⟨rfl, (List.forall_mem_cons.mpr ⟨rfl, (List.forall_mem_cons.mpr ⟨rfl, (List.forall_mem_cons.mpr ⟨rfl, (fun _ h => nomatch h)⟩)⟩)⟩)⟩)⟩)⟩)⟩) ?_
  exact bX11_reference_51 hd hJ hT hW hP  hw
def wX11_reference_29 (l1 l2 s0 : Int) (S : St) (K : Int → St → Prop) : Prop := (rng (s0) ∧ ((s0 = 0 → wX11_reference_43 (l1) (l2) (s0) ((l1 + 2)) S K) ∧ ((¬ (s0 = 0)) → wX11_reference_43 (l1) (l2) (s0) ((l1 + 3)) S K)))
set_option maxRecDepth 100000 in
set_option maxHeartbeats 4000000 in
theorem bX11_reference_29 {G : xG} {sh : Nat → Option Sh} {J : St → List va_E → Prop} {d : Nat} {Post : xP} {l1 l2 s0 : Int} {S : St} {cs : List va_E} {K : Int → St → Prop} (hd : 2 ≤ d) (hJ : Stb sh J) (hT : isM sh) (hW : Wd G sh mT J S cs) (hP : ∀ (v : Int) (S : St) (cs : List va_E), K v S → Wd G sh mT J S cs → Post (some (.int (Int32.ofInt v))) cs)  (hw : wX11_reference_29 l1 l2 s0 S K ) : Z (RX11, cX11_reference, 7, some .int, false) G d Post 29 [(0, .ref (G.1 + 54)), (1, .int (Int32.ofInt (l1))), (2, .int (Int32.ofInt (l2)))] [.int (Int32.ofInt (s0))] cs := by
  unfold wX11_reference_29 at hw
  refine z_istore_n dX11_reference_29 rfl (by decide) ?_
  refine z_iload_n dX11_reference_30 rfl rfl ?_
  obtain ⟨q2, hw⟩ := hw
  refine i_if_eq (tgt := 40) dX11_reference_31 (by decide) q2 (fun h1 => ?_) (fun h1 => ?_)
  · have hw := hw.1 h1
    refine z_iload_n dX11_reference_40 rfl rfl ?_
    refine z_iconst (v := Int32.ofInt 2) dX11_reference_41 rfl ?_
    refine i_iadd dX11_reference_42 ?_
    refine z_loc (L' := [(0, .ref (G.1 + 54)), (1, .int (Int32.ofInt (l1))), (2, .int (Int32.ofInt (l2))), (3, .int (Int32.ofInt (s0)))]) (List.forall_mem_cons.mpr ⟨rfl, (List.forall_mem_cons.mpr ⟨rfl, (List.forall_mem_cons.mpr ⟨rfl, (List.forall_mem_cons.mpr ⟨rfl, (fun _ h => nomatch h)⟩)⟩)⟩)⟩) ?_
    exact bX11_reference_43 hd hJ hT hW hP  hw
  · have hw := hw.2 h1
    refine z_iload_n dX11_reference_34 rfl rfl ?_
    refine z_iconst (v := Int32.ofInt 3) dX11_reference_35 rfl ?_
    refine i_iadd dX11_reference_36 ?_
    refine z_goto (tgt := 43) dX11_reference_37 (by decide) ?_
    refine z_loc (L' := [(0, .ref (G.1 + 54)), (1, .int (Int32.ofInt (l1))), (2, .int (Int32.ofInt (l2))), (3, .int (Int32.ofInt (s0)))]) (List.forall_mem_cons.mpr ⟨rfl, (List.forall_mem_cons.mpr ⟨rfl, (List.forall_mem_cons.mpr ⟨rfl, (List.forall_mem_cons.mpr ⟨rfl, (fun _ h => nomatch h)⟩)⟩)⟩)⟩) ?_
    exact bX11_reference_43 hd hJ hT hW hP  hw
def wX11_reference (a1 a2 : Int) (S : St) (K : Int → St → Prop) : Prop := rng a1 → rng a2 → (rng ((a1 + 1)) ∧ (wX11_docAt ((a1 + 1)) S (fun r2 S3 => (rng (r2) ∧ ((¬ r2 = 35 → wX11_reference_178 (a1) (a2) (0) S3 K) ∧ ((¬ (¬ r2 = 35)) → (rng ((a1 + 2)) ∧ (wX11_docAt ((a1 + 2)) S3 (fun r7 S8 => (rng (r7) ∧ ((¬ r7 = 120 → wX11_reference_29 (a1) (a2) (0) S8 K) ∧ ((¬ (¬ r7 = 120)) → wX11_reference_29 (a1) (a2) (1) S8 K))))))))))))
set_option maxRecDepth 100000 in
set_option maxHeartbeats 4000000 in
theorem lX11_reference {G : xG} {sh : Nat → Option Sh} {J : St → List va_E → Prop} {a1 a2 : Int} {S : St} {cs : List va_E} {K : Int → St → Prop} (d : Nat) (hd : 2 ≤ d) (hJ : Stb sh J) (hT : isM sh) (hW : Wd G sh mT J S cs) (g1 : rng a1) (g2 : rng a2) (hw : wX11_reference a1 a2 S K) : X G yX11_reference cX11_reference 7 (some .int) d [.ref (G.1 + 54), .int (Int32.ofInt a1), .int (Int32.ofInt a2)] cs (qI G sh mT J K) := by
  refine X.of false (by decide +kernel) (by decide) (Nat.le_of_ble_eq_true rfl) ?_
  show Z (RX11, cX11_reference, 7, some .int, false) G d _ 0 [(0, .ref (G.1 + 54)), (1, .int (Int32.ofInt a1)), (2, .int (Int32.ofInt a2))] [] cs
  have hP : ∀ (v : Int) (S : St) (cs : List va_E), K v S → Wd G sh mT J S cs → qI G sh mT J K (some (.int (Int32.ofInt v))) cs := fun v S cs a b => ⟨v, S, rfl, a, b⟩
  unfold wX11_reference at hw
  have hw := hw g1 g2
  refine z_aload_n dX11_reference_0 rfl rfl ?_
  refine z_iload_n dX11_reference_1 rfl rfl ?_
  refine z_iconst (v := Int32.ofInt 1) dX11_reference_2 rfl ?_
  refine i_iadd dX11_reference_3 ?_
  obtain ⟨q1, hw⟩ := hw
  have hX := lX11_docAt 0 (Nat.le_refl _) hJ hT hW q1 hw
  refine z_callV (As := [_]) eX11_docAt sX11_docAt lX11_349 rfl dX11_reference_4 (hW.1 _ _ hT.1) hX (Nat.le_trans (by decide) hd) rfl (Nat.le_of_ble_eq_true rfl) (fun r cs hp => ?_)
  obtain ⟨r2, S3, rfl, hw, hW⟩ := hp
  refine z_st (st' := [.int (Int32.ofInt (r2))]) rfl ?_
  refine z_bipush (v := Int32.ofInt 35) dX11_reference_7 (by decide) ?_
  obtain ⟨q5, hw⟩ := hw
  refine i_icmp_ne (tgt := 176) dX11_reference_9 (by decide) q5 ⟨by decide, by decide⟩ (fun h4 => ?_) (fun h4 => ?_)
  · have hw := hw.1 h4
    refine z_iconst (v := Int32.ofInt 0) dX11_reference_176 rfl ?_
    refine z_istore_n dX11_reference_177 rfl (by decide) ?_
    refine z_loc (L' := [(0, .ref (G.1 + 54)), (1, .int (Int32.ofInt (a1))), (2, .int (Int32.ofInt (a2))), (3, .int (Int32.ofInt (0)))]) (List.forall_mem_cons.mpr ⟨rfl, (List.forall_mem_cons.mpr ⟨rfl, (List.forall_mem_cons.mpr ⟨rfl, (List.forall_mem_cons.mpr ⟨rfl, (fun _ h => nomatch h)⟩)⟩)⟩)⟩) ?_
    exact bX11_reference_178 hd hJ hT hW hP  hw
  · have hw := hw.2 h4
    refine z_aload_n dX11_reference_12 rfl rfl ?_
    refine z_iload_n dX11_reference_13 rfl rfl ?_
    refine z_iconst (v := Int32.ofInt 2) dX11_reference_14 rfl ?_
    refine i_iadd dX11_reference_15 ?_
    obtain ⟨q6, hw⟩ := hw
    have hX := lX11_docAt 0 (Nat.le_refl _) hJ hT hW q6 hw
    refine z_callV (As := [_]) eX11_docAt sX11_docAt lX11_349 rfl dX11_reference_16 (hW.1 _ _ hT.1) hX (Nat.le_trans (by decide) hd) rfl (Nat.le_of_ble_eq_true rfl) (fun r cs hp => ?_)
    obtain ⟨r7, S8, rfl, hw, hW⟩ := hp
    refine z_st (st' := [.int (Int32.ofInt (r7))]) rfl ?_
    refine z_bipush (v := Int32.ofInt 120) dX11_reference_19 (by decide) ?_
    obtain ⟨q10, hw⟩ := hw
    refine i_icmp_ne (tgt := 28) dX11_reference_21 (by decide) q10 ⟨by decide, by decide⟩ (fun h9 => ?_) (fun h9 => ?_)
    · have hw := hw.1 h9
      refine z_iconst (v := Int32.ofInt 0) dX11_reference_28 rfl ?_
      refine z_loc (L' := [(0, .ref (G.1 + 54)), (1, .int (Int32.ofInt (a1))), (2, .int (Int32.ofInt (a2)))]) (List.forall_mem_cons.mpr ⟨rfl, (List.forall_mem_cons.mpr ⟨rfl, (List.forall_mem_cons.mpr ⟨rfl, (fun _ h => nomatch h)⟩)⟩)⟩) ?_
      exact bX11_reference_29 hd hJ hT hW hP  hw
    · have hw := hw.2 h9
      refine z_iconst (v := Int32.ofInt 1) dX11_reference_24 rfl ?_
      refine z_goto (tgt := 29) dX11_reference_25 (by decide) ?_
      refine z_loc (L' := [(0, .ref (G.1 + 54)), (1, .int (Int32.ofInt (a1))), (2, .int (Int32.ofInt (a2)))]) (List.forall_mem_cons.mpr ⟨rfl, (List.forall_mem_cons.mpr ⟨rfl, (List.forall_mem_cons.mpr ⟨rfl, (fun _ h => nomatch h)⟩)⟩)⟩) ?_
      exact bX11_reference_29 hd hJ hT hW hP  hw
