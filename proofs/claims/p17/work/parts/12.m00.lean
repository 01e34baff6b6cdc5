def wX11_isObject (a1 a2 : Int) (S : St) (K : Int → St → Prop) : Prop := rng a1 → rng a2 → ((a2 < 0 → K (0) S) ∧ ((¬ (a2 < 0)) → ((0 : Int) ≤ a1 ∧ a1 < (3 : Int) ∧ (iv 0 30 (S.2 67 (a1)) → ((S.2 67 (a1) ≤ a2 → K (0) S) ∧ ((¬ (S.2 67 (a1) ≤ a2)) → K (1) S))))))
set_option maxRecDepth 100000 in
set_option maxHeartbeats 4000000 in
theorem lX11_isObject {G : xG} {sh : Nat → Option Sh} {J : St → List va_E → Prop} {a1 a2 : Int} {S : St} {cs : List va_E} {K : Int → St → Prop} (d : Nat) (hd : 0 ≤ d) (hJ : Stb sh J) (hT : isM sh) (hW : Wd G sh mT J S cs) (g1 : rng a1) (g2 : rng a2) (hw : wX11_isObject a1 a2 S K) : X G yX11_isObject cX11_isObject 3 (some .boolean) d [.ref (G.1 + 54), .int (Int32.ofInt a1), .int (Int32.ofInt a2)] cs (qI G sh mT J K) := by
  refine X.of false (by decide +kernel) (by decide) (Nat.le_of_ble_eq_true rfl) ?_
  show Z (RX11, cX11_isObject, 3, some .boolean, false) G d _ 0 [(0, .ref (G.1 + 54)), (1, .int (Int32.ofInt a1)), (2, .int (Int32.ofInt a2))] [] cs
  have hP : ∀ (v : Int) (S : St) (cs : List va_E), K v S → Wd G sh mT J S cs → qI G sh mT J K (some (.int (Int32.ofInt v))) cs := fun v S cs a b => ⟨v, S, rfl, a, b⟩
  unfold wX11_isObject at hw
  have hw := hw g1 g2
  refine z_iload_n dX11_isObject_0 rfl rfl ?_
  refine i_if_lt (tgt := 18) dX11_isObject_1 (by decide) g2 (fun h1 => ?_) (fun h1 => ?_)
  · have hw := hw.1 h1
    refine z_iconst (v := Int32.ofInt 0) dX11_isObject_18 rfl ?_
    exact z_ireturn dX11_isObject_19 rfl (nar01 (by decide)) (hP _ _ _ hw hW)
  · have hw := hw.2 h1
    refine z_iload_n dX11_isObject_4 rfl rfl ?_
    refine z_aload_n dX11_isObject_5 rfl rfl ?_
    refine g_getR hW hT.1 mr14 kX11 fX11_47 dX11_isObject_6 ?_
    refine z_iload_n dX11_isObject_9 rfl rfl ?_
    obtain ⟨q2a, q2b, hw⟩ := hw
    have q3 : iv 0 30 (S.2 67 (a1)) := mA67 hW _
    have hw := hw q3
    refine g_iald hW (ma67 hT) q2a q2b (by decide) dX11_isObject_10 ?_
    refine i_icmp_ge (tgt := 18) dX11_isObject_11 (by decide) g2 (rngq q3 (by decide) (by decide)) (fun h4 => ?_) (fun h4 => ?_)
    · have hw := hw.1 h4
      refine z_iconst (v := Int32.ofInt 0) dX11_isObject_18 rfl ?_
      exact z_ireturn dX11_isObject_19 rfl (nar01 (by decide)) (hP _ _ _ hw hW)
    · have hw := hw.2 h4
      refine z_iconst (v := Int32.ofInt 1) dX11_isObject_14 rfl ?_
      refine z_goto (tgt := 19) dX11_isObject_15 (by decide) ?_
      exact z_ireturn dX11_isObject_19 rfl (nar01 (by decide)) (hP _ _ _ hw hW)

def wX11_in (a1 a2 a3 : Int) (S : St) (K : Int → St → Prop) : Prop := rng a1 → rng a2 → rng a3 → ((a1 < a2 → K (0) S) ∧ ((¬ (a1 < a2)) → ((a3 < a1 → K (0) S) ∧ ((¬ (a3 < a1)) → K (1) S))))
set_option maxRecDepth 100000 in
set_option maxHeartbeats 4000000 in
theorem lX11_in {G : xG} {sh : Nat → Option Sh} {J : St → List va_E → Prop} {a1 a2 a3 : Int} {S : St} {cs : List va_E} {K : Int → St → Prop} (d : Nat) (hd : 0 ≤ d) (hJ : Stb sh J) (hT : isM sh) (hW : Wd G sh mT J S cs) (g1 : rng a1) (g2 : rng a2) (g3 : rng a3) (hw : wX11_in a1 a2 a3 S K) : X G yX11_in cX11_in 3 (some .boolean) d [.int (Int32.ofInt a1), .int (Int32.ofInt a2), .int (Int32.ofInt a3)] cs (qI G sh mT J K) := by
  refine X.of false (by decide +kernel) (by decide) (Nat.le_of_ble_eq_true rfl) ?_
  show Z (RX11, cX11_in, 3, some .boolean, false) G d _ 0 [(0, .int (Int32.ofInt a1)), (1, .int (Int32.ofInt a2)), (2, .int (Int32.ofInt a3))] [] cs
  have hP : ∀ (v : Int) (S : St) (cs : List va_E), K v S → Wd G sh mT J S cs → qI G sh mT J K (some (.int (Int32.ofInt v))) cs := fun v S cs a b => ⟨v, S, rfl, a, b⟩
  unfold wX11_in at hw
  have hw := hw g1 g2 g3
  refine z_iload_n dX11_in_0 rfl rfl ?_
  refine z_iload_n dX11_in_1 rfl rfl ?_
  refine i_icmp_lt (tgt := 14) dX11_in_2 (by decide) g1 g2 (fun h1 => ?_) (fun h1 => ?_)
  · have hw := hw.1 h1
    refine z_iconst (v := Int32.ofInt 0) dX11_in_14 rfl ?_
    exact z_ireturn dX11_in_15 rfl (nar01 (by decide)) (hP _ _ _ hw hW)
  · have hw := hw.2 h1
    refine z_iload_n dX11_in_5 rfl rfl ?_
    refine z_iload_n dX11_in_6 rfl rfl ?_
    refine i_icmp_gt (tgt := 14) dX11_in_7 (by decide) g1 g3 (fun h2 => ?_) (fun h2 => ?_)
    · have hw := hw.1 h2
      refine z_iconst (v := Int32.ofInt 0) dX11_in_14 rfl ?_
      exact z_ireturn dX11_in_15 rfl (nar01 (by decide)) (hP _ _ _ hw hW)
    · have hw := hw.2 h2
      refine z_iconst (v := Int32.ofInt 1) dX11_in_10 rfl ?_
      refine z_goto (tgt := 15) dX11_in_11 (by decide) ?_
      exact z_ireturn dX11_in_15 rfl (nar01 (by decide)) (hP _ _ _ hw hW)

def wX11_kindAt (a1 a2 a3 : Int) (S : St) (K : Int → St → Prop) : Prop := rng a1 → rng a2 → rng a3 → (wX11_in (a1) (0) (1) S (fun r1 S2 => (rng (r1) ∧ ((r1 = 0 → K ((-1)) S2) ∧ ((¬ (r1 = 0)) → (wX11_isObject (a1) (a2) S2 (fun r5 S6 => (rng (r5) ∧ ((¬ r5 = 0 → ((0 : Int) ≤ ((30 * a1) + a2) ∧ ((30 * a1) + a2) < (90 : Int) ∧ (iv 0 5 (S6.2 68 (((30 * a1) + a2))) → (∀ x11 : Int, x11 = S6.2 68 (((30 * a1) + a2)) → ((0 : Int) ≤ x11 ∧ x11 < (6 : Int) ∧ (iv 0 4 (S6.2 56 (x11)) → (rng ((S6.2 56 (x11) - 1)) ∧ (wX11_in (a3) (0) ((S6.2 56 (x11) - 1)) S6 (fun r17 S18 => (rng (r17) ∧ ((r17 = 0 → K ((-1)) S18) ∧ ((¬ (r17 = 0)) → ((0 : Int) ≤ ((4 * x11) + a3) ∧ ((4 * x11) + a3) < (24 : Int) ∧ (iv 0 3 (S18.2 59 (((4 * x11) + a3))) → K (S18.2 59 (((4 * x11) + a3))) S18)))))))))))))) ∧ ((¬ (¬ r5 = 0)) → K ((-1)) S6))))))))))
set_option maxRecDepth 100000 in
set_option maxHeartbeats 4000000 in
theorem lX11_kindAt {G : xG} {sh : Nat → Option Sh} {J : St → List va_E → Prop} {a1 a2 a3 : Int} {S : St} {cs : List va_E} {K : Int → St → Prop} (d : Nat) (hd : 1 ≤ d) (hJ : Stb sh J) (hT : isM sh) (hW : Wd G sh mT J S cs) (g1 : rng a1) (g2 : rng a2) (g3 : rng a3) (hw : wX11_kindAt a1 a2 a3 S K) : X G yX11_kindAt cX11_kindAt 5 (some .int) d [.ref (G.1 + 54), .int (Int32.ofInt a1), .int (Int32.ofInt a2), .int (Int32.ofInt a3)] cs (qI G sh mT J K) := by
  refine X.of false (by decide +kernel) (by decide) (Nat.le_of_ble_eq_true rfl) ?_
  show Z (RX11, cX11_kindAt, 5, some .int, false) G d _ 0 [(0, .ref (G.1 + 54)), (1, .int (Int32.ofInt a1)), (2, .int (Int32.ofInt a2)), (3, .int (Int32.ofInt a3))] [] cs
  have hP : ∀ (v : Int) (S : St) (cs : List va_E), K v S → Wd G sh mT J S cs → qI G sh mT J K (some (.int (Int32.ofInt v))) cs := fun v S cs a b => ⟨v, S, rfl, a, b⟩
  unfold wX11_kindAt at hw
  have hw := hw g1 g2 g3
  refine z_iload_n dX11_kindAt_0 rfl rfl ?_
  refine z_iconst (v := Int32.ofInt 0) dX11_kindAt_1 rfl ?_
  refine z_iconst (v := Int32.ofInt 1) dX11_kindAt_2 rfl ?_
  have hX := lX11_in 0 (Nat.le_refl _) hJ hT hW g1 ⟨by decide, by decide⟩ ⟨by decide, by decide⟩ hw
  refine z_callS (As := [_, _, _]) eX11_in sX11_in lX11_174 dX11_kindAt_3 hX (Nat.le_trans (by decide) hd) rfl (Nat.le_of_ble_eq_true rfl) (fun r cs hp => ?_)
  obtain ⟨r1, S2, rfl, hw, hW⟩ := hp
  refine z_st (st' := [.int (Int32.ofInt (r1))]) rfl ?_
  obtain ⟨q4, hw⟩ := hw
  refine i_if_eq (tgt := 18) dX11_kindAt_6 (by decide) q4 (fun h3 => ?_) (fun h3 => ?_)
  · have hw := hw.1 h3
    refine z_iconst (v := Int32.ofInt (-1)) dX11_kindAt_18 rfl ?_
    exact z_ireturn dX11_kindAt_19 rfl rfl (hP _ _ _ hw hW)
  · have hw := hw.2 h3
    refine z_aload_n dX11_kindAt_9 rfl rfl ?_
    refine z_iload_n dX11_kindAt_10 rfl rfl ?_
    refine z_iload_n dX11_kindAt_11 rfl rfl ?_
    have hX := lX11_isObject 0 (Nat.le_refl _) hJ hT hW g1 g2 hw
    refine z_callV (As := [_, _]) eX11_isObject sX11_isObject lX11_247 rfl dX11_kindAt_12 (hW.1 _ _ hT.1) hX (Nat.le_trans (by decide) hd) rfl (Nat.le_of_ble_eq_true rfl) (fun r cs hp => ?_)
    obtain ⟨r5, S6, rfl, hw, hW⟩ := hp
    refine z_st (st' := [.int (Int32.ofInt (r5))]) rfl ?_
    obtain ⟨q8, hw⟩ := hw
    refine i_if_ne (tgt := 20) dX11_kindAt_15 (by decide) q8 (fun h7 => ?_) (fun h7 => ?_)
    · have hw := hw.1 h7
      refine z_aload_n dX11_kindAt_20 rfl rfl ?_
      refine g_getR hW hT.1 mr15 kX11 fX11_50 dX11_kindAt_21 ?_
      refine z_bipush (v := Int32.ofInt 30) dX11_kindAt_24 (by decide) ?_
      refine z_iload_n dX11_kindAt_26 rfl rfl ?_
      refine i_imul dX11_kindAt_27 ?_
      refine z_iload_n dX11_kindAt_28 rfl rfl ?_
      refine i_iadd dX11_kindAt_29 ?_
      obtain ⟨q9a, q9b, hw⟩ := hw
      have q10 : iv 0 5 (S6.2 68 (((30 * a1) + a2))) := mA68 hW _
      have hw := hw q10
      refine g_iald hW (ma68 hT) q9a q9b (by decide) dX11_kindAt_30 ?_
      obtain ⟨x11, hx11⟩ : ∃ x : Int, x = S6.2 68 (((30 * a1) + a2)) := ⟨_, rfl⟩
      have hw := hw x11 hx11
      refine z_st (st' := [.int (Int32.ofInt x11)]) (by rw [hx11]) ?_
      have q12 : rng x11 := by rw [hx11]; exact (rngq q10 (by decide) (by decide))
      have q13 : iv 0 5 x11 := by rw [hx11]; exact q10
      refine z_istore dX11_kindAt_31 (by decide) ?_
      refine z_loc (L' := [(0, .ref (G.1 + 54)), (1, .int (Int32.ofInt (a1))), (2, .int (Int32.ofInt (a2))), (3, .int (Int32.ofInt (a3))), (4, .int (Int32.ofInt (x11)))]) (List.forall_mem_cons.mpr ⟨rfl, (List.forall_mem_cons.mpr ⟨rfl, (List.forall_mem_cons.mpr ⟨rfl, (List.forall_mem_cons.mpr ⟨rfl, (List.forall_mem_cons.mpr ⟨rfl, (fun _ h => nomatch h)⟩)⟩)⟩)⟩)⟩) ?_
      refine z_iload_n dX11_kindAt_33 rfl rfl ?_
      refine z_iconst (v := Int32.ofInt 0) dX11_kindAt_34 rfl ?_
      refine z_aload_n dX11_kindAt_35 rfl rfl ?_
      refine g_getR hW hT.1 mr3 kX11 fX11_13 dX11_kindAt_36 ?_
      refine z_iload dX11_kindAt_39 rfl ?_
      obtain ⟨q14a, q14b, hw⟩ := hw
      have q15 : iv 0 4 (S6.2 56 (x11)) := mA56 hW _
      have hw := hw q15
      refine g_iald hW (ma56 hT) q14a q14b (by decide) dX11_kindAt_41 ?_
      refine z_iconst (v := Int32.ofInt 1) dX11_kindAt_42 rfl ?_
      refine i_isub dX11_kindAt_43 ?_
      obtain ⟨q16, hw⟩ := hw
      have hX := lX11_in 0 (Nat.le_refl _) hJ hT hW g3 ⟨by decide, by decide⟩ q16 hw
      refine z_callS (As := [_, _, _]) eX11_in sX11_in lX11_174 dX11_kindAt_44 hX (Nat.le_trans (by decide) hd) rfl (Nat.le_of_ble_eq_true rfl) (fun r cs hp => ?_)
      obtain ⟨r17, S18, rfl, hw, hW⟩ := hp
      refine z_st (st' := [.int (Int32.ofInt (r17))]) rfl ?_
      obtain ⟨q20, hw⟩ := hw
      refine i_if_eq (tgt := 64) dX11_kindAt_47 (by decide) q20 (fun h19 => ?_) (fun h19 => ?_)
      · have hw := hw.1 h19
        refine z_iconst (v := Int32.ofInt (-1)) dX11_kindAt_64 rfl ?_
        exact z_ireturn dX11_kindAt_65 rfl rfl (hP _ _ _ hw hW)
      · have hw := hw.2 h19
        refine z_aload_n dX11_kindAt_50 rfl rfl ?_
        refine g_getR hW hT.1 mr6 kX11 fX11_22 dX11_kindAt_51 ?_
        refine z_iconst (v := Int32.ofInt 4) dX11_kindAt_54 rfl ?_
        refine z_iload dX11_kindAt_55 rfl ?_
        refine i_imul dX11_kindAt_57 ?_
        refine z_iload_n dX11_kindAt_58 rfl rfl ?_
        refine i_iadd dX11_kindAt_59 ?_
        obtain ⟨q21a, q21b, hw⟩ := hw
        have q22 : iv 0 3 (S18.2 59 (((4 * x11) + a3))) := mA59 hW _
        have hw := hw q22
        refine g_iald hW (ma59 hT) q21a q21b (by decide) dX11_kindAt_60 ?_
        refine z_goto (tgt := 65) dX11_kindAt_61 (by decide) ?_
        exact z_ireturn dX11_kindAt_65 rfl rfl (hP _ _ _ hw hW)
    · have hw := hw.2 h7
      refine z_iconst (v := Int32.ofInt (-1)) dX11_kindAt_18 rfl ?_
      exact z_ireturn dX11_kindAt_19 rfl rfl (hP _ _ _ hw hW)

def wX11_add (a1 a2 a3 : Int) (S : St) (K : Int → St → Prop) : Prop := rng a1 → rng a2 → rng a3 → (∀ x1 : Int, x1 = ((4 * a1) + a2) → (wX11_kindAt (0) (a1) (a2) S (fun r2 S3 => (rng (r2) ∧ ((¬ r2 = 3 → K ((-1)) S3) ∧ ((¬ (¬ r2 = 3)) → (wX11_isObject (0) (a3) S3 (fun r6 S7 => (rng (r6) ∧ ((r6 = 0 → K ((-1)) S7) ∧ ((¬ (r6 = 0)) → ((0 : Int) ≤ x1 ∧ x1 < (360 : Int) ∧ (iv (-2147483648) 2147483647 (S7.2 69 (x1)) → ((¬ S7.2 69 (x1) = 8 → ((0 : Int) ≤ x1 ∧ x1 < (360 : Int) ∧ (iv (-2147483648) 2147483647 (S7.2 69 (x1)) → ((0 : Int) ≤ ((20 * x1) + S7.2 69 (x1)) ∧ ((20 * x1) + S7.2 69 (x1)) < (7200 : Int) ∧ (iv (-2147483648) 2147483647 (a3) ∧ (∀ S16, S16 = pA S7 70 (((20 * x1) + S7.2 69 (x1))) (a3) → ((0 : Int) ≤ x1 ∧ x1 < (360 : Int) ∧ (iv (-2147483648) 2147483647 (S16.2 69 (x1)) → ((0 : Int) ≤ x1 ∧ x1 < (360 : Int) ∧ (iv (-2147483648) 2147483647 ((S16.2 69 (x1) + 1)) ∧ (∀ S21, S21 = pA S16 69 (x1) ((S16.2 69 (x1) + 1)) → ((0 : Int) ≤ x1 ∧ x1 < (360 : Int) ∧ (iv (-2147483648) 2147483647 (S21.2 69 (x1)) → K (S21.2 69 (x1)) S21))))))))))))) ∧ ((¬ (¬ S7.2 69 (x1) = 8)) → K ((-1)) S7)))))))))))))))
set_option maxRecDepth 100000 in
set_option maxHeartbeats 4000000 in
theorem lX11_add {G : xG} {sh : Nat → Option Sh} {J : St → List va_E → Prop} {a1 a2 a3 : Int} {S : St} {cs : List va_E} {K : Int → St → Prop} (d : Nat) (hd : 2 ≤ d) (hJ : Stb sh J) (hT : isM sh) (hW : Wd G sh mT J S cs) (g1 : rng a1) (g2 : rng a2) (g3 : rng a3) (hw : wX11_add a1 a2 a3 S K) : X G yX11_add cX11_add 5 (some .int) d [.ref (G.1 + 54), .int (Int32.ofInt a1), .int (Int32.ofInt a2), .int (Int32.ofInt a3)] cs (qI G sh mT J K) := by
  refine X.of false (by decide +kernel) (by decide) (Nat.le_of_ble_eq_true rfl) ?_
  show Z (RX11, cX11_add, 5, some .int, false) G d _ 0 [(0, .ref (G.1 + 54)), (1, .int (Int32.ofInt a1)), (2, .int (Int32.ofInt a2)), (3, .int (Int32.ofInt a3))] [] cs
  have hP : ∀ (v : Int) (S : St) (cs : List va_E), K v S → Wd G sh mT J S cs → qI G sh mT J K (some (.int (Int32.ofInt v))) cs := fun v S cs a b => ⟨v, S, rfl, a, b⟩
  unfold wX11_add at hw
  have hw := hw g1 g2 g3
  refine z_iconst (v := Int32.ofInt 4) dX11_add_0 rfl ?_
  refine z_iload_n dX11_add_1 rfl rfl ?_
  refine i_imul dX11_add_2 ?_
  refine z_iload_n dX11_add_3 rfl rfl ?_
  refine i_iadd dX11_add_4 ?_
  obtain ⟨x1, hx1⟩ : ∃ x : Int, x = ((4 * a1) + a2) := ⟨_, rfl⟩
  have hw := hw x1 hx1
  refine z_st (st' := [.int (Int32.ofInt x1)]) (by rw [hx1]) ?_
  refine z_istore dX11_add_5 (by decide) ?_
  refine z_loc (L' := [(0, .ref (G.1 + 54)), (1, .int (Int32.ofInt (a1))), (2, .int (Int32.ofInt (a2))), (3, .int (Int32.ofInt (a3))), (4, .int (Int32.ofInt (x1)))]) (List.forall_mem_cons.mpr ⟨rfl, (List.forall_mem_cons.mpr ⟨rfl, (List.forall_mem_cons.mpr ⟨rfl, (List.forall_mem_cons.mpr ⟨rfl, (List.forall_mem_cons.mpr ⟨rfl, (fun _ h => nomatch h)⟩)⟩)⟩)⟩)⟩) ?_
  refine z_aload_n dX11_add_7 rfl rfl ?_
  refine z_iconst (v := Int32.ofInt 0) dX11_add_8 rfl ?_
  refine z_iload_n dX11_add_9 rfl rfl ?_
  refine z_iload_n dX11_add_10 rfl rfl ?_
  have hX := lX11_kindAt 1 (Nat.le_refl _) hJ hT hW ⟨by decide, by decide⟩ g1 g2 hw
  refine z_callV (As := [_, _, _]) eX11_kindAt sX11_kindAt lX11_253 rfl dX11_add_11 (hW.1 _ _ hT.1) hX (Nat.le_trans (by decide) hd) rfl (Nat.le_of_ble_eq_true rfl) (fun r cs hp => ?_)
  obtain ⟨r2, S3, rfl, hw, hW⟩ := hp
  refine z_st (st' := [.int (Int32.ofInt (r2))]) rfl ?_
  refine z_iconst (v := Int32.ofInt 3) dX11_add_14 rfl ?_
  obtain ⟨q5, hw⟩ := hw
  refine i_icmp_ne (tgt := 39) dX11_add_15 (by decide) q5 ⟨by decide, by decide⟩ (fun h4 => ?_) (fun h4 => ?_)
  · have hw := hw.1 h4
    refine z_iconst (v := Int32.ofInt (-1)) dX11_add_39 rfl ?_
    exact z_ireturn dX11_add_40 rfl rfl (hP _ _ _ hw hW)
  · have hw := hw.2 h4
    refine z_aload_n dX11_add_18 rfl rfl ?_
    refine z_iconst (v := Int32.ofInt 0) dX11_add_19 rfl ?_
    refine z_iload_n dX11_add_20 rfl rfl ?_
    have hX := lX11_isObject 0 (Nat.le_refl _) hJ hT hW ⟨by decide, by decide⟩ g3 hw
    refine z_callV (As := [_, _]) eX11_isObject sX11_isObject lX11_247 rfl dX11_add_21 (hW.1 _ _ hT.1) hX (Nat.le_trans (by decide) hd) rfl (Nat.le_of_ble_eq_true rfl) (fun r cs hp => ?_)
    obtain ⟨r6, S7, rfl, hw, hW⟩ := hp
    refine z_st (st' := [.int (Int32.ofInt (r6))]) rfl ?_
    obtain ⟨q9, hw⟩ := hw
    refine i_if_eq (tgt := 39) dX11_add_24 (by decide) q9 (fun h8 => ?_) (fun h8 => ?_)
    · have hw := hw.1 h8
      refine z_iconst (v := Int32.ofInt (-1)) dX11_add_39 rfl ?_
      exact z_ireturn dX11_add_40 rfl rfl (hP _ _ _ hw hW)
    · have hw := hw.2 h8
      refine z_aload_n dX11_add_27 rfl rfl ?_
      refine g_getR hW hT.1 mr16 kX11 fX11_53 dX11_add_28 ?_
      refine z_iload dX11_add_31 rfl ?_
      obtain ⟨q10a, q10b, hw⟩ := hw
      have q11 : iv (-2147483648) 2147483647 (S7.2 69 (x1)) := mA69 hW _
      have hw := hw q11
      refine g_iald hW (ma69 hT) q10a q10b (by decide) dX11_add_33 ?_
      refine z_bipush (v := Int32.ofInt 8) dX11_add_34 (by decide) ?_
      refine i_icmp_ne (tgt := 41) dX11_add_36 (by decide) (rngq q11 (by decide) (by decide)) ⟨by decide, by decide⟩ (fun h12 => ?_) (fun h12 => ?_)
      · have hw := hw.1 h12
        refine z_aload_n dX11_add_41 rfl rfl ?_
        refine g_getR hW hT.1 mr17 kX11 fX11_56 dX11_add_42 ?_
        refine z_bipush (v := Int32.ofInt 20) dX11_add_45 (by decide) ?_
        refine z_iload dX11_add_47 rfl ?_
        refine i_imul dX11_add_49 ?_
        refine z_aload_n dX11_add_50 rfl rfl ?_
        refine g_getR hW hT.1 mr16 kX11 fX11_53 dX11_add_51 ?_
        refine z_iload dX11_add_54 rfl ?_
        obtain ⟨q13a, q13b, hw⟩ := hw
        have q14 : iv (-2147483648) 2147483647 (S7.2 69 (x1)) := mA69 hW _
        have hw := hw q14
        refine g_iald hW (ma69 hT) q13a q13b (by decide) dX11_add_56 ?_
        refine i_iadd dX11_add_57 ?_
        refine z_iload_n dX11_add_58 rfl rfl ?_
        obtain ⟨q15a, q15b, hw⟩ := hw
        obtain ⟨q17, hw⟩ := hw
        refine g_iast hJ hW (ma70 hT) q15a q15b (by decide) q17 dX11_add_59 (fun cs hW => ?_)
        obtain ⟨S16, hS16⟩ : ∃ x, x = pA S7 70 (((20 * x1) + S7.2 69 (x1))) (a3) := ⟨_, rfl⟩
        rw [← hS16] at hW
        have hw := hw S16 hS16
        refine z_aload_n dX11_add_60 rfl rfl ?_
        refine g_getR hW hT.1 mr16 kX11 fX11_53 dX11_add_61 ?_
        refine z_iload dX11_add_64 rfl ?_
        refine z_dup2 dX11_add_66 rfl rfl ?_
        obtain ⟨q18a, q18b, hw⟩ := hw
        have q19 : iv (-2147483648) 2147483647 (S16.2 69 (x1)) := mA69 hW _
        have hw := hw q19
        refine g_iald hW (ma69 hT) q18a q18b (by decide) dX11_add_67 ?_
        refine z_iconst (v := Int32.ofInt 1) dX11_add_68 rfl ?_
        refine i_iadd dX11_add_69 ?_
        obtain ⟨q20a, q20b, hw⟩ := hw
        obtain ⟨q22, hw⟩ := hw
        refine g_iast hJ hW (ma69 hT) q20a q20b (by decide) q22 dX11_add_70 (fun cs hW => ?_)
        obtain ⟨S21, hS21⟩ : ∃ x, x = pA S16 69 (x1) ((S16.2 69 (x1) + 1)) := ⟨_, rfl⟩
        rw [← hS21] at hW
        have hw := hw S21 hS21
        refine z_aload_n dX11_add_71 rfl rfl ?_
        refine g_getR hW hT.1 mr16 kX11 fX11_53 dX11_add_72 ?_
        refine z_iload dX11_add_75 rfl ?_
        obtain ⟨q23a, q23b, hw⟩ := hw
        have q24 : iv (-2147483648) 2147483647 (S21.2 69 (x1)) := mA69 hW _
        have hw := hw q24
        refine g_iald hW (ma69 hT) q23a q23b (by decide) dX11_add_77 ?_
        exact z_ireturn dX11_add_78 rfl rfl (hP _ _ _ hw hW)
      · have hw := hw.2 h12
        refine z_iconst (v := Int32.ofInt (-1)) dX11_add_39 rfl ?_
        exact z_ireturn dX11_add_40 rfl rfl (hP _ _ _ hw hW)

def wX11_areAlike_71 (l1 l2 l4 s0 : Int) (S : St) (K : Int → St → Prop) (B24 : Int → Int → Int → Int → St → Prop) : Prop := B24 (l1) (l2) (s0) ((l4 + 1)) S
set_option maxRecDepth 100000 in
set_option maxHeartbeats 4000000 in
theorem bX11_areAlike_71 {G : xG} {sh : Nat → Option Sh} {J : St → List va_E → Prop} {d : Nat} {Post : xP} {l1 l2 l4 s0 : Int} {S : St} {cs : List va_E} {K : Int → St → Prop} {B24 : Int → Int → Int → Int → St → Prop} (hd : 0 ≤ d) (hJ : Stb sh J) (hT : isM sh) (hW : Wd G sh mT J S cs) (hP : ∀ (v : Int) (S : St) (cs : List va_E), K v S → Wd G sh mT J S cs → Post (some (.int (Int32.ofInt v))) cs) (hB24 : ∀ (l1 : Int) (l2 : Int) (l3 : Int) (l4 : Int) (S : St) (cs : List va_E), B24 l1 l2 l3 l4 S → Wd G sh mT J S cs → Z (RX11, cX11_areAlike, 5, some .boolean, false) G d Post 24 [(0, .ref (G.1 + 54)), (1, .int (Int32.ofInt (l1))), (2, .int (Int32.ofInt (l2))), (3, .int (Int32.ofInt (l3))), (4, .int (Int32.ofInt (l4)))] [] cs) (hw : wX11_areAlike_71 l1 l2 l4 s0 S K B24) : Z (RX11, cX11_areAlike, 5, some .boolean, false) G d Post 71 [(0, .ref (G.1 + 54)), (1, .int (Int32.ofInt (l1))), (2, .int (Int32.ofInt (l2))), (4, .int (Int32.ofInt (l4)))] [.int (Int32.ofInt (s0))] cs := by
  unfold wX11_areAlike_71 at hw
  refine z_istore_n dX11_areAlike_71 rfl (by decide) ?_
  refine z_loc (L' := [(0, .ref (G.1 + 54)), (1, .int (Int32.ofInt (l1))), (2, .int (Int32.ofInt (l2))), (3, .int (Int32.ofInt (s0))), (4, .int (Int32.ofInt (l4)))]) (List.forall_mem_cons.mpr ⟨rfl, (List.forall_mem_cons.mpr ⟨rfl, (List.forall_mem_cons.mpr ⟨rfl, (List.forall_mem_cons.mpr ⟨rfl, (List.forall_mem_cons.mpr ⟨rfl, (fun _ h => nomatch h)⟩)⟩)⟩)⟩)⟩) ?_
  refine i_iinc (l := l4) dX11_areAlike_72 rfl (by decide) ?_
  refine z_loc (L' := [(0, .ref (G.1 + 54)), (1, .int (Int32.ofInt (l1))), (2, .int (Int32.ofInt (l2))), (3, .int (Int32.ofInt (s0))), (4, .int (Int32.ofInt ((l4 + 1))))]) (List.forall_mem_cons.mpr ⟨rfl, (List.forall_mem_cons.mpr ⟨rfl, (List.forall_mem_cons.mpr ⟨rfl, (List.forall_mem_cons.mpr ⟨rfl, (List.forall_mem_cons.mpr ⟨rfl, (fun _ h => nomatch h)⟩)⟩)⟩)⟩)⟩) ?_
  refine z_goto (tgt := 24) dX11_areAlike_75 (by decide) ?_
  refine z_loc (L' := [(0, .ref (G.1 + 54)), (1, .int (Int32.ofInt (l1))), (2, .int (Int32.ofInt (l2))), (3, .int (Int32.ofInt (s0))), (4, .int (Int32.ofInt ((l4 + 1))))]) (List.forall_mem_cons.mpr ⟨rfl, (List.forall_mem_cons.mpr ⟨rfl, (List.forall_mem_cons.mpr ⟨rfl, (List.forall_mem_cons.mpr ⟨rfl, (List.forall_mem_cons.mpr ⟨rfl, (fun _ h => nomatch h)⟩)⟩)⟩)⟩)⟩) ?_
  exact hB24 _ _ _ _ _ _ hw hW
def wX11_areAlike_24' (l1 l2 l3 l4 : Int) (S : St) (K : Int → St → Prop) (B24 : Int → Int → Int → Int → St → Prop) : Prop := ((0 : Int) ≤ l1 ∧ l1 < (30 : Int) ∧ (iv 0 8 (S.2 63 (l1)) → (rng (l4) ∧ ((S.2 63 (l1) ≤ l4 → (iv 0 1 (l3) ∧ K (l3) S)) ∧ ((¬ (S.2 63 (l1) ≤ l4)) → (rng (l3) ∧ ((l3 = 0 → (iv 0 1 (l3) ∧ K (l3) S)) ∧ ((¬ (l3 = 0)) → ((0 : Int) ≤ ((8 * l1) + l4) ∧ ((8 * l1) + l4) < (240 : Int) ∧ (iv (-2147483648) 2147483647 (S.2 64 (((8 * l1) + l4))) → ((0 : Int) ≤ ((8 * l2) + l4) ∧ ((8 * l2) + l4) < (240 : Int) ∧ (iv (-2147483648) 2147483647 (S.2 64 (((8 * l2) + l4))) → ((¬ S.2 64 (((8 * l1) + l4)) = S.2 64 (((8 * l2) + l4)) → wX11_areAlike_71 (l1) (l2) (l4) (0) S K B24) ∧ ((¬ (¬ S.2 64 (((8 * l1) + l4)) = S.2 64 (((8 * l2) + l4)))) → wX11_areAlike_71 (l1) (l2) (l4) (1) S K B24))))))))))))))
set_option maxRecDepth 100000 in
set_option maxHeartbeats 4000000 in
theorem bX11_areAlike_24' {G : xG} {sh : Nat → Option Sh} {J : St → List va_E → Prop} {d : Nat} {Post : xP} {l1 l2 l3 l4 : Int} {S : St} {cs : List va_E} {K : Int → St → Prop} {B24 : Int → Int → Int → Int → St → Prop} (hd : 0 ≤ d) (hJ : Stb sh J) (hT : isM sh) (hW : Wd G sh mT J S cs) (hP : ∀ (v : Int) (S : St) (cs : List va_E), K v S → Wd G sh mT J S cs → Post (some (.int (Int32.ofInt v))) cs) (hB24 : ∀ (l1 : Int) (l2 : Int) (l3 : Int) (l4 : Int) (S : St) (cs : List va_E), B24 l1 l2 l3 l4 S → Wd G sh mT J S cs → Z (RX11, cX11_areAlike, 5, some .boolean, false) G d Post 24 [(0, .ref (G.1 + 54)), (1, .int (Int32.ofInt (l1))), (2, .int (Int32.ofInt (l2))), (3, .int (Int32.ofInt (l3))), (4, .int (Int32.ofInt (l4)))] [] cs) (hw : wX11_areAlike_24' l1 l2 l3 l4 S K B24) : Z (RX11, cX11_areAlike, 5, some .boolean, false) G d Post 24 [(0, .ref (G.1 + 54)), (1, .int (Int32.ofInt (l1))), (2, .int (Int32.ofInt (l2))), (3, .int (Int32.ofInt (l3))), (4, .int (Int32.ofInt (l4)))] [] cs := by
  unfold wX11_areAlike_24' at hw
  refine z_iload dX11_areAlike_24 rfl ?_
  refine z_aload_n dX11_areAlike_26 rfl rfl ?_
  refine g_getR hW hT.1 mr10 kX11 fX11_35 dX11_areAlike_27 ?_
  refine z_iload_n dX11_areAlike_30 rfl rfl ?_
  obtain ⟨q1a, q1b, hw⟩ := hw
  have q2 : iv 0 8 (S.2 63 (l1)) := mA63 hW _
  have hw := hw q2
  refine g_iald hW (ma63 hT) q1a q1b (by decide) dX11_areAlike_31 ?_
  obtain ⟨q4, hw⟩ := hw
  refine i_icmp_ge (tgt := 78) dX11_areAlike_32 (by decide) q4 (rngq q2 (by decide) (by decide)) (fun h3 => ?_) (fun h3 => ?_)
  · have hw := hw.1 h3
    refine z_iload_n dX11_areAlike_78 rfl rfl ?_
    obtain ⟨q5, hw⟩ := hw
    exact z_ireturn dX11_areAlike_79 rfl (nar01 (b01 q5)) (hP _ _ _ hw hW)
  · have hw := hw.2 h3
    refine z_iload_n dX11_areAlike_35 rfl rfl ?_
    obtain ⟨q7, hw⟩ := hw
    refine i_if_eq (tgt := 78) dX11_areAlike_36 (by decide) q7 (fun h6 => ?_) (fun h6 => ?_)
    · have hw := hw.1 h6
      refine z_iload_n dX11_areAlike_78 rfl rfl ?_
      obtain ⟨q8, hw⟩ := hw
      exact z_ireturn dX11_areAlike_79 rfl (nar01 (b01 q8)) (hP _ _ _ hw hW)
    · have hw := hw.2 h6
      refine z_aload_n dX11_areAlike_39 rfl rfl ?_
      refine g_getR hW hT.1 mr11 kX11 fX11_38 dX11_areAlike_40 ?_
      refine z_bipush (v := Int32.ofInt 8) dX11_areAlike_43 (by decide) ?_
      refine z_iload_n dX11_areAlike_45 rfl rfl ?_
      refine i_imul dX11_areAlike_46 ?_
      refine z_iload dX11_areAlike_47 rfl ?_
      refine i_iadd dX11_areAlike_49 ?_
      obtain ⟨q9a, q9b, hw⟩ := hw
      have q10 : iv (-2147483648) 2147483647 (S.2 64 (((8 * l1) + l4))) := mA64 hW _
      have hw := hw q10
      refine g_iald hW (ma64 hT) q9a q9b (by decide) dX11_areAlike_50 ?_
      refine z_aload_n dX11_areAlike_51 rfl rfl ?_
      refine g_getR hW hT.1 mr11 kX11 fX11_38 dX11_areAlike_52 ?_
      refine z_bipush (v := Int32.ofInt 8) dX11_areAlike_55 (by decide) ?_
      refine z_iload_n dX11_areAlike_57 rfl rfl ?_
      refine i_imul dX11_areAlike_58 ?_
      refine z_iload dX11_areAlike_59 rfl ?_
      refine i_iadd dX11_areAlike_61 ?_
      obtain ⟨q11a, q11b, hw⟩ := hw
      have q12 : iv (-2147483648) 2147483647 (S.2 64 (((8 * l2) + l4))) := mA64 hW _
      have hw := hw q12
      refine g_iald hW (ma64 hT) q11a q11b (by decide) dX11_areAlike_62 ?_
      refine i_icmp_ne (tgt := 70) dX11_areAlike_63 (by decide) (rngq q10 (by decide) (by decide)) (rngq q12 (by decide) (by decide)) (fun h13 => ?_) (fun h13 => ?_)
      · have hw := hw.1 h13
        refine z_iconst (v := Int32.ofInt 0) dX11_areAlike_70 rfl ?_
        refine z_loc (L' := [(0, .ref (G.1 + 54)), (1, .int (Int32.ofInt (l1))), (2, .int (Int32.ofInt (l2))), (4, .int (Int32.ofInt (l4)))]) (List.forall_mem_cons.mpr ⟨rfl, (List.forall_mem_cons.mpr ⟨rfl, (List.forall_mem_cons.mpr ⟨rfl, (List.forall_mem_cons.mpr ⟨rfl, (fun _ h => nomatch h)⟩)⟩)⟩)⟩) ?_
        exact bX11_areAlike_71 hd hJ hT hW hP hB24 hw
      · have hw := hw.2 h13
        refine z_iconst (v := Int32.ofInt 1) dX11_areAlike_66 rfl ?_
        refine z_goto (tgt := 71) dX11_areAlike_67 (by decide) ?_
        refine z_loc (L' := [(0, .ref (G.1 + 54)), (1, .int (Int32.ofInt (l1))), (2, .int (Int32.ofInt (l2))), (4, .int (Int32.ofInt (l4)))]) (List.forall_mem_cons.mpr ⟨rfl, (List.forall_mem_cons.mpr ⟨rfl, (List.forall_mem_cons.mpr ⟨rfl, (List.forall_mem_cons.mpr ⟨rfl, (fun _ h => nomatch h)⟩)⟩)⟩)⟩) ?_
        exact bX11_areAlike_71 hd hJ hT hW hP hB24 hw
def wX11_areAlike_24 (l1 l2 l3 l4 : Int) (S : St) (K : Int → St → Prop) : Prop := ∃ (Iv : Int → Int → Int → Int → St → Prop) (mu : Int → Int → Int → Int → St → Nat), Iv l1 l2 l3 l4 S ∧ ∀ (l1 l2 l3 l4 : Int) (S : St), Iv l1 l2 l3 l4 S → wX11_areAlike_24' l1 l2 l3 l4 S K  (fun ml1 ml2 ml3 ml4 T => Iv ml1 ml2 ml3 ml4 T ∧ mu ml1 ml2 ml3 ml4 T < mu l1 l2 l3 l4 S)
set_option maxRecDepth 100000 in
set_option maxHeartbeats 4000000 in
theorem bX11_areAlike_24 {G : xG} {sh : Nat → Option Sh} {J : St → List va_E → Prop} {d : Nat} {Post : xP} {l1 l2 l3 l4 : Int} {S : St} {cs : List va_E} {K : Int → St → Prop} (hd : 0 ≤ d) (hJ : Stb sh J) (hT : isM sh) (hW : Wd G sh mT J S cs) (hP : ∀ (v : Int) (S : St) (cs : List va_E), K v S → Wd G sh mT J S cs → Post (some (.int (Int32.ofInt v))) cs)  (hw : wX11_areAlike_24 l1 l2 l3 l4 S K ) : Z (RX11, cX11_areAlike, 5, some .boolean, false) G d Post 24 [(0, .ref (G.1 + 54)), (1, .int (Int32.ofInt (l1))), (2, .int (Int32.ofInt (l2))), (3, .int (Int32.ofInt (l3))), (4, .int (Int32.ofInt (l4)))] [] cs := by
  unfold wX11_areAlike_24 at hw
  obtain ⟨Iv, mu, h0, hs⟩ := hw
  have key : ∀ (n : Nat) (l1 l2 l3 l4 : Int) (S : St) (cs : List va_E), mu l1 l2 l3 l4 S < n → Iv l1 l2 l3 l4 S → Wd G sh mT J S cs → Z (RX11, cX11_areAlike, 5, some .boolean, false) G d Post 24 [(0, .ref (G.1 + 54)), (1, .int (Int32.ofInt (l1))), (2, .int (Int32.ofInt (l2))), (3, .int (Int32.ofInt (l3))), (4, .int (Int32.ofInt (l4)))] [] cs := by
    intro n
    induction n with
    | zero => intro l1 l2 l3 l4 S cs hn; exact absurd hn (Nat.not_lt_zero _)
    | succ n ih =>
      intro l1 l2 l3 l4 S cs hn hI hW
      exact bX11_areAlike_24' hd hJ hT hW hP  (fun l1 l2 l3 l4 S cs hb hW => ih l1 l2 l3 l4 S cs (Nat.lt_of_lt_of_le hb.2 (Nat.le_of_lt_succ hn)) hb.1 hW) (hs l1 l2 l3 l4 S hI)
  exact key _ _ _ _ _ _ _ (Nat.lt_succ_self _) h0 hW
def wX11_areAlike_20 (l1 l2 s0 : Int) (S : St) (K : Int → St → Prop) : Prop := wX11_areAlike_24 (l1) (l2) (s0) (0) S K
set_option maxRecDepth 100000 in
set_option maxHeartbeats 4000000 in
theorem bX11_areAlike_20 {G : xG} {sh : Nat → Option Sh} {J : St → List va_E → Prop} {d : Nat} {Post : xP} {l1 l2 s0 : Int} {S : St} {cs : List va_E} {K : Int → St → Prop} (hd : 0 ≤ d) (hJ : Stb sh J) (hT : isM sh) (hW : Wd G sh mT J S cs) (hP : ∀ (v : Int) (S : St) (cs : List va_E), K v S → Wd G sh mT J S cs → Post (some (.int (Int32.ofInt v))) cs)  (hw : wX11_areAlike_20 l1 l2 s0 S K ) : Z (RX11, cX11_areAlike, 5, some .boolean, false) G d Post 20 [(0, .ref (G.1 + 54)), (1, .int (Int32.ofInt (l1))), (2, .int (Int32.ofInt (l2)))] [.int (Int32.ofInt (s0))] cs := by
  unfold wX11_areAlike_20 at hw
  refine z_istore_n dX11_areAlike_20 rfl (by decide) ?_
  refine z_loc (L' := [(0, .ref (G.1 + 54)), (1, .int (Int32.ofInt (l1))), (2, .int (Int32.ofInt (l2))), (3, .int (Int32.ofInt (s0)))]) (List.forall_mem_cons.mpr ⟨rfl, (List.forall_mem_cons.mpr ⟨rfl, (List.forall_mem_cons.mpr ⟨rfl, (List.forall_mem_cons.mpr ⟨rfl, (fun _ h => nomatch h)⟩)⟩)⟩)⟩) ?_
  refine z_iconst (v := Int32.ofInt 0) dX11_areAlike_21 rfl ?_
  refine z_istore dX11_areAlike_22 (by decide) ?_
  refine z_loc (L' := [(0, .ref (G.1 + 54)), (1, .int (Int32.ofInt (l1))), (2, .int (Int32.ofInt (l2))), (3, .int (Int32.ofInt (s0))), (4, .int (Int32.ofInt (0)))]) (List.forall_mem_cons.mpr ⟨rfl, (List.forall_mem_cons.mpr ⟨rfl, (List.forall_mem_cons.mpr ⟨rfl, (List.forall_mem_cons.mpr ⟨rfl, (List.forall_mem_cons.mpr ⟨rfl, (fun _ h => nomatch h)⟩)⟩)⟩)⟩)⟩) ?_
  refine z_loc (L' := [(0, .ref (G.1 + 54)), (1, .int (Int32.ofInt (l1))), (2, .int (Int32.ofInt (l2))), (3, .int (Int32.ofInt (s0))), (4, .int (Int32.ofInt (0)))]) (List.forall_mem_cons.mpr ⟨rfl, (List.forall_mem_cons.mpr ⟨rfl, (List.forall_mem_cons.mpr ⟨rfl, (List.forall_mem_cons.mpr ⟨rfl, (List.forall_mem_cons.mpr ⟨rfl, (fun _ h => nomatch h)⟩)⟩)⟩)⟩)⟩) ?_
  exact bX11_areAlike_24 hd hJ hT hW hP  hw
def wX11_areAlike (a1 a2 : Int) (S : St) (K : Int → St → Prop) : Prop := rng a1 → rng a2 → ((0 : Int) ≤ a1 ∧ a1 < (30 : Int) ∧ (iv 0 8 (S.2 63 (a1)) → ((0 : Int) ≤ a2 ∧ a2 < (30 : Int) ∧ (iv 0 8 (S.2 63 (a2)) → ((¬ S.2 63 (a1) = S.2 63 (a2) → wX11_areAlike_20 (a1) (a2) (0) S K) ∧ ((¬ (¬ S.2 63 (a1) = S.2 63 (a2))) → wX11_areAlike_20 (a1) (a2) (1) S K))))))
set_option maxRecDepth 100000 in
set_option maxHeartbeats 4000000 in
theorem lX11_areAlike {G : xG} {sh : Nat → Option Sh} {J : St → List va_E → Prop} {a1 a2 : Int} {S : St} {cs : List va_E} {K : Int → St → Prop} (d : Nat) (hd : 0 ≤ d) (hJ : Stb sh J) (hT : isM sh) (hW : Wd G sh mT J S cs) (g1 : rng a1) (g2 : rng a2) (hw : wX11_areAlike a1 a2 S K) : X G yX11_areAlike cX11_areAlike 5 (some .boolean) d [.ref (G.1 + 54), .int (Int32.ofInt a1), .int (Int32.ofInt a2)] cs (qI G sh mT J K) := by
  refine X.of false (by decide +kernel) (by decide) (Nat.le_of_ble_eq_true rfl) ?_
  show Z (RX11, cX11_areAlike, 5, some .boolean, false) G d _ 0 [(0, .ref (G.1 + 54)), (1, .int (Int32.ofInt a1)), (2, .int (Int32.ofInt a2))] [] cs
  have hP : ∀ (v : Int) (S : St) (cs : List va_E), K v S → Wd G sh mT J S cs → qI G sh mT J K (some (.int (Int32.ofInt v))) cs := fun v S cs a b => ⟨v, S, rfl, a, b⟩
  unfold wX11_areAlike at hw
  have hw := hw g1 g2
  refine z_aload_n dX11_areAlike_0 rfl rfl ?_
  refine g_getR hW hT.1 mr10 kX11 fX11_35 dX11_areAlike_1 ?_
  refine z_iload_n dX11_areAlike_4 rfl rfl ?_
  obtain ⟨q1a, q1b, hw⟩ := hw
  have q2 : iv 0 8 (S.2 63 (a1)) := mA63 hW _
  have hw := hw q2
  refine g_iald hW (ma63 hT) q1a q1b (by decide) dX11_areAlike_5 ?_
  refine z_aload_n dX11_areAlike_6 rfl rfl ?_
  refine g_getR hW hT.1 mr10 kX11 fX11_35 dX11_areAlike_7 ?_
  refine z_iload_n dX11_areAlike_10 rfl rfl ?_
  obtain ⟨q3a, q3b, hw⟩ := hw
  have q4 : iv 0 8 (S.2 63 (a2)) := mA63 hW _
  have hw := hw q4
  refine g_iald hW (ma63 hT) q3a q3b (by decide) dX11_areAlike_11 ?_
  refine i_icmp_ne (tgt := 19) dX11_areAlike_12 (by decide) (rngq q2 (by decide) (by decide)) (rngq q4 (by decide) (by decide)) (fun h5 => ?_) (fun h5 => ?_)
  · have hw := hw.1 h5
    refine z_iconst (v := Int32.ofInt 0) dX11_areAlike_19 rfl ?_
    refine z_loc (L' := [(0, .ref (G.1 + 54)), (1, .int (Int32.ofInt (a1))), (2, .int (Int32.ofInt (a2)))]) (List.forall_mem_cons.mpr ⟨rfl, (List.forall_mem_cons.mpr ⟨rfl, (List.forall_mem_cons.mpr ⟨rfl, (fun _ h => nomatch h)⟩)⟩)⟩) ?_
    exact bX11_areAlike_20 hd hJ hT hW hP  hw
  · have hw := hw.2 h5
    refine z_iconst (v := Int32.ofInt 1) dX11_areAlike_15 rfl ?_
    refine z_goto (tgt := 20) dX11_areAlike_16 (by decide) ?_
    refine z_loc (L' := [(0, .ref (G.1 + 54)), (1, .int (Int32.ofInt (a1))), (2, .int (Int32.ofInt (a2)))]) (List.forall_mem_cons.mpr ⟨rfl, (List.forall_mem_cons.mpr ⟨rfl, (List.forall_mem_cons.mpr ⟨rfl, (fun _ h => nomatch h)⟩)⟩)⟩) ?_
    exact bX11_areAlike_20 hd hJ hT hW hP  hw

def wX11_pair_12 (l1 l2 : Int) (S : St) (K : Int → St → Prop) : Prop := (rng (l1) ∧ (rng (l2) ∧ ((¬ l1 = l2 → K (0) S) ∧ ((¬ (¬ l1 = l2)) → K (1) S))))
set_option maxRecDepth 100000 in
set_option maxHeartbeats 4000000 in
theorem bX11_pair_12 {G : xG} {sh : Nat → Option Sh} {J : St → List va_E → Prop} {d : Nat} {Post : xP} {l1 l2 : Int} {S : St} {cs : List va_E} {K : Int → St → Prop} (hd : 0 ≤ d) (hJ : Stb sh J) (hT : isM sh) (hW : Wd G sh mT J S cs) (hP : ∀ (v : Int) (S : St) (cs : List va_E), K v S → Wd G sh mT J S cs → Post (some (.int (Int32.ofInt v))) cs)  (hw : wX11_pair_12 l1 l2 S K ) : Z (RX11, cX11_pair, 4, some .boolean, false) G d Post 12 [(0, .ref (G.1 + 54)), (1, .int (Int32.ofInt (l1))), (2, .int (Int32.ofInt (l2)))] [] cs := by
  unfold wX11_pair_12 at hw
  refine z_iload_n dX11_pair_12 rfl rfl ?_
  refine z_iload_n dX11_pair_13 rfl rfl ?_
  obtain ⟨q2, hw⟩ := hw
  obtain ⟨q3, hw⟩ := hw
  refine i_icmp_ne (tgt := 21) dX11_pair_14 (by decide) q2 q3 (fun h1 => ?_) (fun h1 => ?_)
  · have hw := hw.1 h1
    refine z_iconst (v := Int32.ofInt 0) dX11_pair_21 rfl ?_
    exact z_ireturn dX11_pair_22 rfl (nar01 (by decide)) (hP _ _ _ hw hW)
  · have hw := hw.2 h1
    refine z_iconst (v := Int32.ofInt 1) dX11_pair_17 rfl ?_
    refine z_goto (tgt := 22) dX11_pair_18 (by decide) ?_
    exact z_ireturn dX11_pair_22 rfl (nar01 (by decide)) (hP _ _ _ hw hW)
def wX11_pair_53 (l1 l2 l3 : Int) (S : St) (K : Int → St → Prop) : Prop := ((0 : Int) ≤ l3 ∧ l3 < (30 : Int) ∧ (iv 0 29 (S.2 105 (l3)) → (rng (l1) ∧ ((¬ S.2 105 (l3) = l1 → K (0) S) ∧ ((¬ (¬ S.2 105 (l3) = l1)) → ((0 : Int) ≤ l3 ∧ l3 < (30 : Int) ∧ (iv 0 29 (S.2 106 (l3)) → (rng (l2) ∧ ((¬ S.2 106 (l3) = l2 → K (0) S) ∧ ((¬ (¬ S.2 106 (l3) = l2)) → K (1) S))))))))))
set_option maxRecDepth 100000 in
set_option maxHeartbeats 4000000 in
theorem bX11_pair_53 {G : xG} {sh : Nat → Option Sh} {J : St → List va_E → Prop} {d : Nat} {Post : xP} {l1 l2 l3 : Int} {S : St} {cs : List va_E} {K : Int → St → Prop} (hd : 0 ≤ d) (hJ : Stb sh J) (hT : isM sh) (hW : Wd G sh mT J S cs) (hP : ∀ (v : Int) (S : St) (cs : List va_E), K v S → Wd G sh mT J S cs → Post (some (.int (Int32.ofInt v))) cs)  (hw : wX11_pair_53 l1 l2 l3 S K ) : Z (RX11, cX11_pair, 4, some .boolean, false) G d Post 53 [(0, .ref (G.1 + 54)), (1, .int (Int32.ofInt (l1))), (2, .int (Int32.ofInt (l2))), (3, .int (Int32.ofInt (l3)))] [] cs := by
  unfold wX11_pair_53 at hw
  refine z_aload_n dX11_pair_53 rfl rfl ?_
  refine g_getR hW hT.1 mr69 kX11 fX11_165 dX11_pair_54 ?_
  refine z_iload_n dX11_pair_57 rfl rfl ?_
  obtain ⟨q1a, q1b, hw⟩ := hw
  have q2 : iv 0 29 (S.2 105 (l3)) := mA105 hW _
  have hw := hw q2
  refine g_iald hW (ma105 hT) q1a q1b (by decide) dX11_pair_58 ?_
  refine z_iload_n dX11_pair_59 rfl rfl ?_
  obtain ⟨q4, hw⟩ := hw
  refine i_icmp_ne (tgt := 77) dX11_pair_60 (by decide) (rngq q2 (by decide) (by decide)) q4 (fun h3 => ?_) (fun h3 => ?_)
  · have hw := hw.1 h3
    refine z_iconst (v := Int32.ofInt 0) dX11_pair_77 rfl ?_
    exact z_ireturn dX11_pair_78 rfl (nar01 (by decide)) (hP _ _ _ hw hW)
  · have hw := hw.2 h3
    refine z_aload_n dX11_pair_63 rfl rfl ?_
    refine g_getR hW hT.1 mr70 kX11 fX11_168 dX11_pair_64 ?_
    refine z_iload_n dX11_pair_67 rfl rfl ?_
    obtain ⟨q5a, q5b, hw⟩ := hw
    have q6 : iv 0 29 (S.2 106 (l3)) := mA106 hW _
    have hw := hw q6
    refine g_iald hW (ma106 hT) q5a q5b (by decide) dX11_pair_68 ?_
    refine z_iload_n dX11_pair_69 rfl rfl ?_
    obtain ⟨q8, hw⟩ := hw
    refine i_icmp_ne (tgt := 77) dX11_pair_70 (by decide) (rngq q6 (by decide) (by decide)) q8 (fun h7 => ?_) (fun h7 => ?_)
    · have hw := hw.1 h7
      refine z_iconst (v := Int32.ofInt 0) dX11_pair_77 rfl ?_
      exact z_ireturn dX11_pair_78 rfl (nar01 (by decide)) (hP _ _ _ hw hW)
    · have hw := hw.2 h7
      refine z_iconst (v := Int32.ofInt 1) dX11_pair_73 rfl ?_
      refine z_goto (tgt := 78) dX11_pair_74 (by decide) ?_
      exact z_ireturn dX11_pair_78 rfl (nar01 (by decide)) (hP _ _ _ hw hW)
def wX11_pair_25' (l1 l2 l3 : Int) (S : St) (K : Int → St → Prop) (B25 : Int → Int → Int → St → Prop) : Prop := (iv 0 30 (S.1 54 71) → (rng (l3) ∧ ((S.1 54 71 ≤ l3 → ((0 : Int) ≤ S.1 54 71 ∧ S.1 54 71 < (30 : Int) ∧ (iv 0 29 (l1) ∧ (∀ S5, S5 = pA S 105 (S.1 54 71) (l1) → (iv 0 30 (S5.1 54 71) → ((0 : Int) ≤ S5.1 54 71 ∧ S5.1 54 71 < (30 : Int) ∧ (iv 0 29 (l2) ∧ (∀ S9, S9 = pA S5 106 (S5.1 54 71) (l2) → (iv 0 30 (S9.1 54 71) → (iv 0 30 ((S9.1 54 71 + 1)) ∧ (∀ S12, S12 = pI S9 54 71 ((S9.1 54 71 + 1)) → K (1) S12))))))))))) ∧ ((¬ (S.1 54 71 ≤ l3)) → ((0 : Int) ≤ l3 ∧ l3 < (30 : Int) ∧ (iv 0 29 (S.2 105 (l3)) → (rng (l1) ∧ ((S.2 105 (l3) = l1 → wX11_pair_53 (l1) (l2) (l3) S K) ∧ ((¬ (S.2 105 (l3) = l1)) → ((0 : Int) ≤ l3 ∧ l3 < (30 : Int) ∧ (iv 0 29 (S.2 106 (l3)) → (rng (l2) ∧ ((¬ S.2 106 (l3) = l2 → B25 (l1) (l2) ((l3 + 1)) S) ∧ ((¬ (¬ S.2 106 (l3) = l2)) → wX11_pair_53 (l1) (l2) (l3) S K))))))))))))))
set_option maxRecDepth 100000 in
set_option maxHeartbeats 4000000 in
theorem bX11_pair_25' {G : xG} {sh : Nat → Option Sh} {J : St → List va_E → Prop} {d : Nat} {Post : xP} {l1 l2 l3 : Int} {S : St} {cs : List va_E} {K : Int → St → Prop} {B25 : Int → Int → Int → St → Prop} (hd : 0 ≤ d) (hJ : Stb sh J) (hT : isM sh) (hW : Wd G sh mT J S cs) (hP : ∀ (v : Int) (S : St) (cs : List va_E), K v S → Wd G sh mT J S cs → Post (some (.int (Int32.ofInt v))) cs) (hB25 : ∀ (l1 : Int) (l2 : Int) (l3 : Int) (S : St) (cs : List va_E), B25 l1 l2 l3 S → Wd G sh mT J S cs → Z (RX11, cX11_pair, 4, some .boolean, false) G d Post 25 [(0, .ref (G.1 + 54)), (1, .int (Int32.ofInt (l1))), (2, .int (Int32.ofInt (l2))), (3, .int (Int32.ofInt (l3)))] [] cs) (hw : wX11_pair_25' l1 l2 l3 S K B25) : Z (RX11, cX11_pair, 4, some .boolean, false) G d Post 25 [(0, .ref (G.1 + 54)), (1, .int (Int32.ofInt (l1))), (2, .int (Int32.ofInt (l2))), (3, .int (Int32.ofInt (l3)))] [] cs := by
  unfold wX11_pair_25' at hw
  refine z_iload_n dX11_pair_25 rfl rfl ?_
  refine z_aload_n dX11_pair_26 rfl rfl ?_
  have q1 : iv 0 30 (S.1 54 71) := mI71 hW
  have hw := hw q1
  refine g_getI hW hT.1 mr71 kX11 fX11_505 dX11_pair_27 ?_
  obtain ⟨q3, hw⟩ := hw
  refine i_icmp_ge (tgt := 85) dX11_pair_30 (by decide) q3 (rngq q1 (by decide) (by decide)) (fun h2 => ?_) (fun h2 => ?_)
  · have hw := hw.1 h2
    refine z_aload_n dX11_pair_85 rfl rfl ?_
    refine g_getR hW hT.1 mr69 kX11 fX11_165 dX11_pair_86 ?_
    refine z_aload_n dX11_pair_89 rfl rfl ?_
    refine g_getI hW hT.1 mr71 kX11 fX11_505 dX11_pair_90 ?_
    refine z_iload_n dX11_pair_93 rfl rfl ?_
    obtain ⟨q4a, q4b, hw⟩ := hw
    obtain ⟨q6, hw⟩ := hw
    refine g_iast hJ hW (ma105 hT) q4a q4b (by decide) q6 dX11_pair_94 (fun cs hW => ?_)
    obtain ⟨S5, hS5⟩ : ∃ x, x = pA S 105 (S.1 54 71) (l1) := ⟨_, rfl⟩
    rw [← hS5] at hW
    have hw := hw S5 hS5
    refine z_aload_n dX11_pair_95 rfl rfl ?_
    refine g_getR hW hT.1 mr70 kX11 fX11_168 dX11_pair_96 ?_
    refine z_aload_n dX11_pair_99 rfl rfl ?_
    have q7 : iv 0 30 (S5.1 54 71) := mI71 hW
    have hw := hw q7
    refine g_getI hW hT.1 mr71 kX11 fX11_505 dX11_pair_100 ?_
    refine z_iload_n dX11_pair_103 rfl rfl ?_
    obtain ⟨q8a, q8b, hw⟩ := hw
    obtain ⟨q10, hw⟩ := hw
    refine g_iast hJ hW (ma106 hT) q8a q8b (by decide) q10 dX11_pair_104 (fun cs hW => ?_)
    obtain ⟨S9, hS9⟩ : ∃ x, x = pA S5 106 (S5.1 54 71) (l2) := ⟨_, rfl⟩
    rw [← hS9] at hW
    have hw := hw S9 hS9
    refine z_aload_n dX11_pair_105 rfl rfl ?_
    refine z_dup dX11_pair_106 rfl ?_
    have q11 : iv 0 30 (S9.1 54 71) := mI71 hW
    have hw := hw q11
    refine g_getI hW hT.1 mr71 kX11 fX11_505 dX11_pair_107 ?_
    refine z_iconst (v := Int32.ofInt 1) dX11_pair_110 rfl ?_
    refine i_iadd dX11_pair_111 ?_
    obtain ⟨q13, hw⟩ := hw
    refine g_putI hJ hW hT.1 mr71 kX11 fX11_505 dX11_pair_112 rfl rfl rfl q13 (fun cs hW => ?_)
    obtain ⟨S12, hS12⟩ : ∃ x, x = pI S9 54 71 ((S9.1 54 71 + 1)) := ⟨_, rfl⟩
    rw [← hS12] at hW
    have hw := hw S12 hS12
    refine z_iconst (v := Int32.ofInt 1) dX11_pair_115 rfl ?_
    exact z_ireturn dX11_pair_116 rfl (nar01 (by decide)) (hP _ _ _ hw hW)
  · have hw := hw.2 h2
    refine z_aload_n dX11_pair_33 rfl rfl ?_
    refine g_getR hW hT.1 mr69 kX11 fX11_165 dX11_pair_34 ?_
    refine z_iload_n dX11_pair_37 rfl rfl ?_
    obtain ⟨q14a, q14b, hw⟩ := hw
    have q15 : iv 0 29 (S.2 105 (l3)) := mA105 hW _
    have hw := hw q15
    refine g_iald hW (ma105 hT) q14a q14b (by decide) dX11_pair_38 ?_
    refine z_iload_n dX11_pair_39 rfl rfl ?_
    obtain ⟨q17, hw⟩ := hw
    refine i_icmp_eq (tgt := 53) dX11_pair_40 (by decide) (rngq q15 (by decide) (by decide)) q17 (fun h16 => ?_) (fun h16 => ?_)
    · have hw := hw.1 h16
      refine z_loc (L' := [(0, .ref (G.1 + 54)), (1, .int (Int32.ofInt (l1))), (2, .int (Int32.ofInt (l2))), (3, .int (Int32.ofInt (l3)))]) (List.forall_mem_cons.mpr ⟨rfl, (List.forall_mem_cons.mpr ⟨rfl, (List.forall_mem_cons.mpr ⟨rfl, (List.forall_mem_cons.mpr ⟨rfl, (fun _ h => nomatch h)⟩)⟩)⟩)⟩) ?_
      exact bX11_pair_53 hd hJ hT hW hP  hw
    · have hw := hw.2 h16
      refine z_aload_n dX11_pair_43 rfl rfl ?_
      refine g_getR hW hT.1 mr70 kX11 fX11_168 dX11_pair_44 ?_
      refine z_iload_n dX11_pair_47 rfl rfl ?_
      obtain ⟨q18a, q18b, hw⟩ := hw
      have q19 : iv 0 29 (S.2 106 (l3)) := mA106 hW _
      have hw := hw q19
      refine g_iald hW (ma106 hT) q18a q18b (by decide) dX11_pair_48 ?_
      refine z_iload_n dX11_pair_49 rfl rfl ?_
      obtain ⟨q21, hw⟩ := hw
      refine i_icmp_ne (tgt := 79) dX11_pair_50 (by decide) (rngq q19 (by decide) (by decide)) q21 (fun h20 => ?_) (fun h20 => ?_)
      · have hw := hw.1 h20
        refine i_iinc (l := l3) dX11_pair_79 rfl (by decide) ?_
        refine z_loc (L' := [(0, .ref (G.1 + 54)), (1, .int (Int32.ofInt (l1))), (2, .int (Int32.ofInt (l2))), (3, .int (Int32.ofInt ((l3 + 1))))]) (List.forall_mem_cons.mpr ⟨rfl, (List.forall_mem_cons.mpr ⟨rfl, (List.forall_mem_cons.mpr ⟨rfl, (List.forall_mem_cons.mpr ⟨rfl, (fun _ h => nomatch h)⟩)⟩)⟩)⟩) ?_
        refine z_goto (tgt := 25) dX11_pair_82 (by decide) ?_
        refine z_loc (L' := [(0, .ref (G.1 + 54)), (1, .int (Int32.ofInt (l1))), (2, .int (Int32.ofInt (l2))), (3, .int (Int32.ofInt ((l3 + 1))))]) (List.forall_mem_cons.mpr ⟨rfl, (List.forall_mem_cons.mpr ⟨rfl, (List.forall_mem_cons.mpr ⟨rfl, (List.forall_mem_cons.mpr ⟨rfl, (fun _ h => nomatch h)⟩)⟩)⟩)⟩) ?_
        exact hB25 _ _ _ _ _ hw hW
      · have hw := hw.2 h20
        refine z_loc (L' := [(0, .ref (G.1 + 54)), (1, .int (Int32.ofInt (l1))), (2, .int (Int32.ofInt (l2))), (3, .int (Int32.ofInt (l3)))]) (List.forall_mem_cons.mpr ⟨rfl, (List.forall_mem_cons.mpr ⟨rfl, (List.forall_mem_cons.mpr ⟨rfl, (List.forall_mem_cons.mpr ⟨rfl, (fun _ h => nomatch h)⟩)⟩)⟩)⟩) ?_
        exact bX11_pair_53 hd hJ hT hW hP  hw
def wX11_pair_25 (l1 l2 l3 : Int) (S : St) (K : Int → St → Prop) : Prop := ∃ (Iv : Int → Int → Int → St → Prop) (mu : Int → Int → Int → St → Nat), Iv l1 l2 l3 S ∧ ∀ (l1 l2 l3 : Int) (S : St), Iv l1 l2 l3 S → wX11_pair_25' l1 l2 l3 S K  (fun ml1 ml2 ml3 T => Iv ml1 ml2 ml3 T ∧ mu ml1 ml2 ml3 T < mu l1 l2 l3 S)
set_option maxRecDepth 100000 in
set_option maxHeartbeats 4000000 in
theorem bX11_pair_25 {G : xG} {sh : Nat → Option Sh} {J : St → List va_E → Prop} {d : Nat} {Post : xP} {l1 l2 l3 : Int} {S : St} {cs : List va_E} {K : Int → St → Prop} (hd : 0 ≤ d) (hJ : Stb sh J) (hT : isM sh) (hW : Wd G sh mT J S cs) (hP : ∀ (v : Int) (S : St) (cs : List va_E), K v S → Wd G sh mT J S cs → Post (some (.int (Int32.ofInt v))) cs)  (hw : wX11_pair_25 l1 l2 l3 S K ) : Z (RX11, cX11_pair, 4, some .boolean, false) G d Post 25 [(0, .ref (G.1 + 54)), (1, .int (Int32.ofInt (l1))), (2, .int (Int32.ofInt (l2))), (3, .int (Int32.ofInt (l3)))] [] cs := by
  unfold wX11_pair_25 at hw
  obtain ⟨Iv, mu, h0, hs⟩ := hw
  have key : ∀ (n : Nat) (l1 l2 l3 : Int) (S : St) (cs : List va_E), mu l1 l2 l3 S < n → Iv l1 l2 l3 S → Wd G sh mT J S cs → Z (RX11, cX11_pair, 4, some .boolean, false) G d Post 25 [(0, .ref (G.1 + 54)), (1, .int (Int32.ofInt (l1))), (2, .int (Int32.ofInt (l2))), (3, .int (Int32.ofInt (l3)))] [] cs := by
    intro n
    induction n with
    | zero => intro l1 l2 l3 S cs hn; exact absurd hn (Nat.not_lt_zero _)
    | succ n ih =>
      intro l1 l2 l3 S cs hn hI hW
      exact bX11_pair_25' hd hJ hT hW hP  (fun l1 l2 l3 S cs hb hW => ih l1 l2 l3 S cs (Nat.lt_of_lt_of_le hb.2 (Nat.le_of_lt_succ hn)) hb.1 hW) (hs l1 l2 l3 S hI)
  exact key _ _ _ _ _ _ (Nat.lt_succ_self _) h0 hW
def wX11_pair (a1 a2 : Int) (S : St) (K : Int → St → Prop) : Prop := rng a1 → rng a2 → ((a1 = (-2) → wX11_pair_12 (a1) (a2) S K) ∧ ((¬ (a1 = (-2))) → ((¬ a2 = (-2) → wX11_pair_25 (a1) (a2) (0) S K) ∧ ((¬ (¬ a2 = (-2))) → wX11_pair_12 (a1) (a2) S K))))
set_option maxRecDepth 100000 in
set_option maxHeartbeats 4000000 in
theorem lX11_pair {G : xG} {sh : Nat → Option Sh} {J : St → List va_E → Prop} {a1 a2 : Int} {S : St} {cs : List va_E} {K : Int → St → Prop} (d : Nat) (hd : 0 ≤ d) (hJ : Stb sh J) (hT : isM sh) (hW : Wd G sh mT J S cs) (g1 : rng a1) (g2 : rng a2) (hw : wX11_pair a1 a2 S K) : X G yX11_pair cX11_pair 4 (some .boolean) d [.ref (G.1 + 54), .int (Int32.ofInt a1), .int (Int32.ofInt a2)] cs (qI G sh mT J K) := by
  refine X.of false (by decide +kernel) (by decide) (Nat.le_of_ble_eq_true rfl) ?_
  show Z (RX11, cX11_pair, 4, some .boolean, false) G d _ 0 [(0, .ref (G.1 + 54)), (1, .int (Int32.ofInt a1)), (2, .int (Int32.ofInt a2))] [] cs
  have hP : ∀ (v : Int) (S : St) (cs : List va_E), K v S → Wd G sh mT J S cs → qI G sh mT J K (some (.int (Int32.ofInt v))) cs := fun v S cs a b => ⟨v, S, rfl, a, b⟩
  unfold wX11_pair at hw
  have hw := hw g1 g2
  refine z_iload_n dX11_pair_0 rfl rfl ?_
  refine z_bipush (v := Int32.ofInt (-2)) dX11_pair_1 (by decide) ?_
  refine i_icmp_eq (tgt := 12) dX11_pair_3 (by decide) g1 ⟨by decide, by decide⟩ (fun h1 => ?_) (fun h1 => ?_)
  · have hw := hw.1 h1
    refine z_loc (L' := [(0, .ref (G.1 + 54)), (1, .int (Int32.ofInt (a1))), (2, .int (Int32.ofInt (a2)))]) (List.forall_mem_cons.mpr ⟨rfl, (List.forall_mem_cons.mpr ⟨rfl, (List.forall_mem_cons.mpr ⟨rfl, (fun _ h => nomatch h)⟩)⟩)⟩) ?_
    exact bX11_pair_12 hd hJ hT hW hP  hw
  · have hw := hw.2 h1
    refine z_iload_n dX11_pair_6 rfl rfl ?_
    refine z_bipush (v := Int32.ofInt (-2)) dX11_pair_7 (by decide) ?_
    refine i_icmp_ne (tgt := 23) dX11_pair_9 (by decide) g2 ⟨by decide, by decide⟩ (fun h2 => ?_) (fun h2 => ?_)
    · have hw := hw.1 h2
      refine z_iconst (v := Int32.ofInt 0) dX11_pair_23 rfl ?_
      refine z_istore_n dX11_pair_24 rfl (by decide) ?_
      refine z_loc (L' := [(0, .ref (G.1 + 54)), (1, .int (Int32.ofInt (a1))), (2, .int (Int32.ofInt (a2))), (3, .int (Int32.ofInt (0)))]) (List.forall_mem_cons.mpr ⟨rfl, (List.forall_mem_cons.mpr ⟨rfl, (List.forall_mem_cons.mpr ⟨rfl, (List.forall_mem_cons.mpr ⟨rfl, (fun _ h => nomatch h)⟩)⟩)⟩)⟩) ?_
      refine z_loc (L' := [(0, .ref (G.1 + 54)), (1, .int (Int32.ofInt (a1))), (2, .int (Int32.ofInt (a2))), (3, .int (Int32.ofInt (0)))]) (List.forall_mem_cons.mpr ⟨rfl, (List.forall_mem_cons.mpr ⟨rfl, (List.forall_mem_cons.mpr ⟨rfl, (List.forall_mem_cons.mpr ⟨rfl, (fun _ h => nomatch h)⟩)⟩)⟩)⟩) ?_
      exact bX11_pair_25 hd hJ hT hW hP  hw
    · have hw := hw.2 h2
      refine z_loc (L' := [(0, .ref (G.1 + 54)), (1, .int (Int32.ofInt (a1))), (2, .int (Int32.ofInt (a2)))]) (List.forall_mem_cons.mpr ⟨rfl, (List.forall_mem_cons.mpr ⟨rfl, (List.forall_mem_cons.mpr ⟨rfl, (fun _ h => nomatch h)⟩)⟩)⟩) ?_
      exact bX11_pair_12 hd hJ hT hW hP  hw

