def wX11_goesOn_232 (l3 l4 l5 l7 : Int) (S : St) (K : Int → St → Prop) : Prop := (wX11_put (62) S (fun r1 S2 => (rng (l3) ∧ (rng (l5) ∧ (rng (l4) ∧ (wX11_putValue (l3) (l5) (l4) (0) S2 (fun r6 S7 => (rng (l7) ∧ (wX11_end (l7) S7 (fun r9 S10 => K (1) S10))))))))))
set_option maxRecDepth 100000 in
set_option maxHeartbeats 4000000 in
theorem bX11_goesOn_232 {G : xG} {sh : Nat → Option Sh} {J : St → List va_E → Prop} {d : Nat} {Post : xP} {l3 l4 l5 l7 : Int} {S : St} {cs : List va_E} {K : Int → St → Prop} (hd : 8 ≤ d) (hJ : Stb sh J) (hT : isM sh) (hW : Wd G sh mT J S cs) (hP : ∀ (v : Int) (S : St) (cs : List va_E), K v S → Wd G sh mT J S cs → Post (some (.int (Int32.ofInt v))) cs)  (hw : wX11_goesOn_232 l3 l4 l5 l7 S K ) : Z (RX11, cX11_goesOn, 10, some .boolean, false) G d Post 232 [(0, .ref (G.1 + 54)), (3, .int (Int32.ofInt (l3))), (4, .int (Int32.ofInt (l4))), (5, .int (Int32.ofInt (l5))), (7, .int (Int32.ofInt (l7)))] [] cs := by
  unfold wX11_goesOn_232 at hw
  refine z_aload_n dX11_goesOn_232 rfl rfl ?_
  refine z_bipush (v := Int32.ofInt 62) dX11_goesOn_233 (by decide) ?_
  have hX := lX11_put 0 (Nat.le_refl _) hJ hT hW ⟨by decide, by decide⟩ hw
  refine z_callV (As := [_]) eX11_put sX11_put lX11_260 rfl dX11_goesOn_235 (hW.1 _ _ hT.1) hX (Nat.le_trans (by decide) hd) rfl (Nat.le_of_ble_eq_true rfl) (fun r cs hp => ?_)
  obtain ⟨r1, S2, rfl, hw, hW⟩ := hp
  refine z_st (st' := []) rfl ?_
  refine z_aload_n dX11_goesOn_238 rfl rfl ?_
  refine z_iload_n dX11_goesOn_239 rfl rfl ?_
  refine z_iload dX11_goesOn_240 rfl ?_
  refine z_iload dX11_goesOn_242 rfl ?_
  refine z_iconst (v := Int32.ofInt 0) dX11_goesOn_244 rfl ?_
  obtain ⟨q3, hw⟩ := hw
  obtain ⟨q4, hw⟩ := hw
  obtain ⟨q5, hw⟩ := hw
  have hX := lX11_putValue 3 (Nat.le_refl _) hJ hT hW q3 q4 q5 ⟨by decide, by decide⟩ hw
  refine z_callV (As := [_, _, _, _]) eX11_putValue sX11_putValue lX11_309 rfl dX11_goesOn_245 (hW.1 _ _ hT.1) hX (Nat.le_trans (by decide) hd) rfl (Nat.le_of_ble_eq_true rfl) (fun r cs hp => ?_)
  obtain ⟨r6, S7, rfl, hw, hW⟩ := hp
  refine z_st (st' := []) rfl ?_
  refine z_aload_n dX11_goesOn_248 rfl rfl ?_
  refine z_iload dX11_goesOn_249 rfl ?_
  obtain ⟨q8, hw⟩ := hw
  have hX := lX11_end 2 (Nat.le_refl _) hJ hT hW q8 hw
  refine z_callV (As := [_]) eX11_end sX11_end lX11_326 rfl dX11_goesOn_251 (hW.1 _ _ hT.1) hX (Nat.le_trans (by decide) hd) rfl (Nat.le_of_ble_eq_true rfl) (fun r cs hp => ?_)
  obtain ⟨r9, S10, rfl, hw, hW⟩ := hp
  refine z_st (st' := []) rfl ?_
  refine z_iconst (v := Int32.ofInt 1) dX11_goesOn_254 rfl ?_
  exact z_ireturn dX11_goesOn_255 rfl (nar01 (by decide)) (hP _ _ _ hw hW)
def wX11_goesOn (a1 : Int) (S : St) (K : Int → St → Prop) : Prop := rng a1 → (iv 0 20 (S.1 54 32) → (∀ x2 : Int, x2 = (S.1 54 32 - 1) → ((0 : Int) ≤ x2 ∧ x2 < (24 : Int) ∧ (iv 0 29 (S.2 77 (x2)) → (∀ x5 : Int, x5 = S.2 77 (x2) → ((0 : Int) ≤ x5 ∧ x5 < (90 : Int) ∧ (iv 0 5 (S.2 68 (x5)) → (∀ x10 : Int, x10 = S.2 68 (x5) → ((0 : Int) ≤ x2 ∧ x2 < (24 : Int) ∧ (iv 0 4 (S.2 80 (x2)) → (∀ x15 : Int, x15 = S.2 80 (x2) → ((0 : Int) ≤ x10 ∧ x10 < (6 : Int) ∧ (iv 0 4 (S.2 56 (x10)) → ((¬ x15 = S.2 56 (x10) → (∀ x21 : Int, x21 = ((4 * x10) + x15) → (∀ x22 : Int, x22 = (6 + x21) → ((0 : Int) ≤ ((4 * x5) + x15) ∧ ((4 * x5) + x15) < (360 : Int) ∧ (iv (-2147483648) 2147483647 (S.2 69 (((4 * x5) + x15))) → (∀ x25 : Int, x25 = S.2 69 (((4 * x5) + x15)) → ((0 : Int) ≤ x21 ∧ x21 < (24 : Int) ∧ (iv 0 3 (S.2 59 (x21)) → ((¬ S.2 59 (x21) = 3 → ((0 : Int) ≤ x2 ∧ x2 < (24 : Int) ∧ (iv 0 4 (S.2 80 (x2)) → ((0 : Int) ≤ x2 ∧ x2 < (24 : Int) ∧ (iv 0 4 ((S.2 80 (x2) + 1)) ∧ (∀ S34, S34 = pA S 80 (x2) ((S.2 80 (x2) + 1)) → ((0 : Int) ≤ x21 ∧ x21 < (24 : Int) ∧ (iv 0 3 (S34.2 59 (x21)) → ((¬ S34.2 59 (x21) = 2 → ((0 : Int) ≤ x21 ∧ x21 < (24 : Int) ∧ (iv 0 1 (S34.2 60 (x21)) → ((¬ S34.2 60 (x21) = 0 → K (1) S34) ∧ ((¬ (¬ S34.2 60 (x21) = 0)) → ((0 : Int) ≤ x2 ∧ x2 < (24 : Int) ∧ (iv 0 899 (S34.2 78 (x2)) → (rng (x22) ∧ (wX11_element (S34.2 78 (x2)) (x22) S34 (fun r45 S46 => (wX11_put (60) S46 (fun r47 S48 => (wX11_putName (x22) S48 (fun r49 S50 => ((0 : Int) ≤ x21 ∧ x21 < (24 : Int) ∧ (iv 0 3 (S50.2 59 (x21)) → ((¬ S50.2 59 (x21) = 1 → wX11_goesOn_232 (x5) (x10) (x15) (x22) S50 K) ∧ ((¬ (¬ S50.2 59 (x21) = 1)) → ((¬ x25 = 0 → wX11_goesOn_232 (x5) (x10) (x15) (x22) S50 K) ∧ ((¬ (¬ x25 = 0)) → (wX11_putWord (47) (62) (0) (0) S50 (fun r55 S56 => K (1) S56)))))))))))))))))))))) ∧ ((¬ (¬ S34.2 59 (x21) = 2)) → ((x25 = (-2) → K (1) S34) ∧ ((¬ (x25 = (-2))) → ((0 : Int) ≤ x2 ∧ x2 < (24 : Int) ∧ (iv 0 899 (S34.2 78 (x2)) → (rng (x22) ∧ (wX11_child (x25) (S34.2 78 (x2)) (x22) (1) (a1) S34 (fun r61 S62 => (rng (r61) ∧ ((r61 = 0 → K (0) S62) ∧ ((¬ (r61 = 0)) → K (1) S62)))))))))))))))))))) ∧ ((¬ (¬ S.2 59 (x21) = 3)) → (rng (x2) ∧ (rng (x21) ∧ (wX11_lists (x2) (x21) (x25) (a1) S (fun r67 S68 => (iv 0 1 (r67) ∧ K (r67) S68))))))))))))))) ∧ ((¬ (¬ x15 = S.2 56 (x10))) → (iv 0 20 ((S.1 54 32 - 1)) ∧ (∀ S70, S70 = pI S 54 32 ((S.1 54 32 - 1)) → ((0 : Int) ≤ x2 ∧ x2 < (24 : Int) ∧ (iv 0 29 (S70.2 79 (x2)) → (wX11_end (S70.2 79 (x2)) S70 (fun r74 S75 => K (1) S75)))))))))))))))))))))
set_option maxRecDepth 100000 in
set_option maxHeartbeats 4000000 in
theorem lX11_goesOn {G : xG} {sh : Nat → Option Sh} {J : St → List va_E → Prop} {a1 : Int} {S : St} {cs : List va_E} {K : Int → St → Prop} (d : Nat) (hd : 8 ≤ d) (hJ : Stb sh J) (hT : isM sh) (hW : Wd G sh mT J S cs) (g1 : rng a1) (hw : wX11_goesOn a1 S K) : X G yX11_goesOn cX11_goesOn 10 (some .boolean) d [.ref (G.1 + 54), .int (Int32.ofInt a1)] cs (qI G sh mT J K) := by
  refine X.of false (by decide +kernel) (by decide) (Nat.le_of_ble_eq_true rfl) ?_
  show Z (RX11, cX11_goesOn, 10, some .boolean, false) G d _ 0 [(0, .ref (G.1 + 54)), (1, .int (Int32.ofInt a1))] [] cs
  have hP : ∀ (v : Int) (S : St) (cs : List va_E), K v S → Wd G sh mT J S cs → qI G sh mT J K (some (.int (Int32.ofInt v))) cs := fun v S cs a b => ⟨v, S, rfl, a, b⟩
  unfold wX11_goesOn at hw
  have hw := hw g1
  refine z_aload_n dX11_goesOn_0 rfl rfl ?_
  have q1 : iv 0 20 (S.1 54 32) := mI32 hW
  have hw := hw q1
  refine g_getI hW hT.1 mr32 kX11 fX11_316 dX11_goesOn_1 ?_
  refine z_iconst (v := Int32.ofInt 1) dX11_goesOn_4 rfl ?_
  refine i_isub dX11_goesOn_5 ?_
  obtain ⟨x2, hx2⟩ : ∃ x : Int, x = (S.1 54 32 - 1) := ⟨_, rfl⟩
  have hw := hw x2 hx2
  refine z_st (st' := [.int (Int32.ofInt x2)]) (by rw [hx2]) ?_
  refine z_istore_n dX11_goesOn_6 rfl (by decide) ?_
  refine z_loc (L' := [(0, .ref (G.1 + 54)), (1, .int (Int32.ofInt (a1))), (2, .int (Int32.ofInt (x2)))]) (List.forall_mem_cons.mpr ⟨rfl, (List.forall_mem_cons.mpr ⟨rfl, (List.forall_mem_cons.mpr ⟨rfl, (fun _ h => nomatch h)⟩)⟩)⟩) ?_
  refine z_aload_n dX11_goesOn_7 rfl rfl ?_
  refine g_getR hW hT.1 mr33 kX11 fX11_81 dX11_goesOn_8 ?_
  refine z_iload_n dX11_goesOn_11 rfl rfl ?_
  obtain ⟨q3a, q3b, hw⟩ := hw
  have q4 : iv 0 29 (S.2 77 (x2)) := mA77 hW _
  have hw := hw q4
  refine g_iald hW (ma77 hT) q3a q3b (by decide) dX11_goesOn_12 ?_
  obtain ⟨x5, hx5⟩ : ∃ x : Int, x = S.2 77 (x2) := ⟨_, rfl⟩
  have hw := hw x5 hx5
  refine z_st (st' := [.int (Int32.ofInt x5)]) (by rw [hx5]) ?_
  have q6 : rng x5 := by rw [hx5]; exact (rngq q4 (by decide) (by decide))
  have q7 : iv 0 29 x5 := by rw [hx5]; exact q4
  refine z_istore_n dX11_goesOn_13 rfl (by decide) ?_
  refine z_loc (L' := [(0, .ref (G.1 + 54)), (1, .int (Int32.ofInt (a1))), (2, .int (Int32.ofInt (x2))), (3, .int (Int32.ofInt (x5)))]) (List.forall_mem_cons.mpr ⟨rfl, (List.forall_mem_cons.mpr ⟨rfl, (List.forall_mem_cons.mpr ⟨rfl, (List.forall_mem_cons.mpr ⟨rfl, (fun _ h => nomatch h)⟩)⟩)⟩)⟩) ?_
  refine z_aload_n dX11_goesOn_14 rfl rfl ?_
  refine g_getR hW hT.1 mr15 kX11 fX11_50 dX11_goesOn_15 ?_
  refine z_iload_n dX11_goesOn_18 rfl rfl ?_
  obtain ⟨q8a, q8b, hw⟩ := hw
  have q9 : iv 0 5 (S.2 68 (x5)) := mA68 hW _
  have hw := hw q9
  refine g_iald hW (ma68 hT) q8a q8b (by decide) dX11_goesOn_19 ?_
  obtain ⟨x10, hx10⟩ : ∃ x : Int, x = S.2 68 (x5) := ⟨_, rfl⟩
  have hw := hw x10 hx10
  refine z_st (st' := [.int (Int32.ofInt x10)]) (by rw [hx10]) ?_
  have q11 : rng x10 := by rw [hx10]; exact (rngq q9 (by decide) (by decide))
  have q12 : iv 0 5 x10 := by rw [hx10]; exact q9
  refine z_istore dX11_goesOn_20 (by decide) ?_
  refine z_loc (L' := [(0, .ref (G.1 + 54)), (1, .int (Int32.ofInt (a1))), (2, .int (Int32.ofInt (x2))), (3, .int (Int32.ofInt (x5))), (4, .int (Int32.ofInt (x10)))]) (List.forall_mem_cons.mpr ⟨rfl, (List.forall_mem_cons.mpr ⟨rfl, (List.forall_mem_cons.mpr ⟨rfl, (List.forall_mem_cons.mpr ⟨rfl, (List.forall_mem_cons.mpr ⟨rfl, (fun _ h => nomatch h)⟩)⟩)⟩)⟩)⟩) ?_
  refine z_aload_n dX11_goesOn_22 rfl rfl ?_
  refine g_getR hW hT.1 mr36 kX11 fX11_90 dX11_goesOn_23 ?_
  refine z_iload_n dX11_goesOn_26 rfl rfl ?_
  obtain ⟨q13a, q13b, hw⟩ := hw
  have q14 : iv 0 4 (S.2 80 (x2)) := mA80 hW _
  have hw := hw q14
  refine g_iald hW (ma80 hT) q13a q13b (by decide) dX11_goesOn_27 ?_
  obtain ⟨x15, hx15⟩ : ∃ x : Int, x = S.2 80 (x2) := ⟨_, rfl⟩
  have hw := hw x15 hx15
  refine z_st (st' := [.int (Int32.ofInt x15)]) (by rw [hx15]) ?_
  have q16 : rng x15 := by rw [hx15]; exact (rngq q14 (by decide) (by decide))
  have q17 : iv 0 4 x15 := by rw [hx15]; exact q14
  refine z_istore dX11_goesOn_28 (by decide) ?_
  refine z_loc (L' := [(0, .ref (G.1 + 54)), (1, .int (Int32.ofInt (a1))), (2, .int (Int32.ofInt (x2))), (3, .int (Int32.ofInt (x5))), (4, .int (Int32.ofInt (x10))), (5, .int (Int32.ofInt (x15)))]) (List.forall_mem_cons.mpr ⟨rfl, (List.forall_mem_cons.mpr ⟨rfl, (List.forall_mem_cons.mpr ⟨rfl, (List.forall_mem_cons.mpr ⟨rfl, (List.forall_mem_cons.mpr ⟨rfl, (List.forall_mem_cons.mpr ⟨rfl, (fun _ h => nomatch h)⟩)⟩)⟩)⟩)⟩)⟩) ?_
  refine z_iload dX11_goesOn_30 rfl ?_
  refine z_aload_n dX11_goesOn_32 rfl rfl ?_
  refine g_getR hW hT.1 mr3 kX11 fX11_13 dX11_goesOn_33 ?_
  refine z_iload dX11_goesOn_36 rfl ?_
  obtain ⟨q18a, q18b, hw⟩ := hw
  have q19 : iv 0 4 (S.2 56 (x10)) := mA56 hW _
  have hw := hw q19
  refine g_iald hW (ma56 hT) q18a q18b (by decide) dX11_goesOn_38 ?_
  refine i_icmp_ne (tgt := 64) dX11_goesOn_39 (by decide) q16 (rngq q19 (by decide) (by decide)) (fun h20 => ?_) (fun h20 => ?_)
  · have hw := hw.1 h20
    refine z_iconst (v := Int32.ofInt 4) dX11_goesOn_64 rfl ?_
    refine z_iload dX11_goesOn_65 rfl ?_
    refine i_imul dX11_goesOn_67 ?_
    refine z_iload dX11_goesOn_68 rfl ?_
    refine i_iadd dX11_goesOn_70 ?_
    obtain ⟨x21, hx21⟩ : ∃ x : Int, x = ((4 * x10) + x15) := ⟨_, rfl⟩
    have hw := hw x21 hx21
    refine z_st (st' := [.int (Int32.ofInt x21)]) (by rw [hx21]) ?_
    refine z_istore dX11_goesOn_71 (by decide) ?_
    refine z_loc (L' := [(0, .ref (G.1 + 54)), (1, .int (Int32.ofInt (a1))), (2, .int (Int32.ofInt (x2))), (3, .int (Int32.ofInt (x5))), (4, .int (Int32.ofInt (x10))), (5, .int (Int32.ofInt (x15))), (6, .int (Int32.ofInt (x21)))]) (List.forall_mem_cons.mpr ⟨rfl, (List.forall_mem_cons.mpr ⟨rfl, (List.forall_mem_cons.mpr ⟨rfl, (List.forall_mem_cons.mpr ⟨rfl, (List.forall_mem_cons.mpr ⟨rfl, (List.forall_mem_cons.mpr ⟨rfl, (List.forall_mem_cons.mpr ⟨rfl, (fun _ h => nomatch h)⟩)⟩)⟩)⟩)⟩)⟩)⟩) ?_
    refine z_bipush (v := Int32.ofInt 6) dX11_goesOn_73 (by decide) ?_
    refine z_iload dX11_goesOn_75 rfl ?_
    refine i_iadd dX11_goesOn_77 ?_
    obtain ⟨x22, hx22⟩ : ∃ x : Int, x = (6 + x21) := ⟨_, rfl⟩
    have hw := hw x22 hx22
    refine z_st (st' := [.int (Int32.ofInt x22)]) (by rw [hx22]) ?_
    refine z_istore dX11_goesOn_78 (by decide) ?_
    refine z_loc (L' := [(0, .ref (G.1 + 54)), (1, .int (Int32.ofInt (a1))), (2, .int (Int32.ofInt (x2))), (3, .int (Int32.ofInt (x5))), (4, .int (Int32.ofInt (x10))), (5, .int (Int32.ofInt (x15))), (6, .int (Int32.ofInt (x21))), (7, .int (Int32.ofInt (x22)))]) (List.forall_mem_cons.mpr ⟨rfl, (List.forall_mem_cons.mpr ⟨rfl, (List.forall_mem_cons.mpr ⟨rfl, (List.forall_mem_cons.mpr ⟨rfl, (List.forall_mem_cons.mpr ⟨rfl, (List.forall_mem_cons.mpr ⟨rfl, (List.forall_mem_cons.mpr ⟨rfl, (List.forall_mem_cons.mpr ⟨rfl, (fun _ h => nomatch h)⟩)⟩)⟩)⟩)⟩)⟩)⟩)⟩) ?_
    refine z_aload_n dX11_goesOn_80 rfl rfl ?_
    refine g_getR hW hT.1 mr16 kX11 fX11_53 dX11_goesOn_81 ?_
    refine z_iconst (v := Int32.ofInt 4) dX11_goesOn_84 rfl ?_
    refine z_iload_n dX11_goesOn_85 rfl rfl ?_
    refine i_imul dX11_goesOn_86 ?_
    refine z_iload dX11_goesOn_87 rfl ?_
    refine i_iadd dX11_goesOn_89 ?_
    obtain ⟨q23a, q23b, hw⟩ := hw
    have q24 : iv (-2147483648) 2147483647 (S.2 69 (((4 * x5) + x15))) := mA69 hW _
    have hw := hw q24
    refine g_iald hW (ma69 hT) q23a q23b (by decide) dX11_goesOn_90 ?_
    obtain ⟨x25, hx25⟩ : ∃ x : Int, x = S.2 69 (((4 * x5) + x15)) := ⟨_, rfl⟩
    have hw := hw x25 hx25
    refine z_st (st' := [.int (Int32.ofInt x25)]) (by rw [hx25]) ?_
    have q26 : rng x25 := by rw [hx25]; exact (rngq q24 (by decide) (by decide))
    have q27 : iv (-2147483648) 2147483647 x25 := by rw [hx25]; exact q24
    refine z_istore dX11_goesOn_91 (by decide) ?_
    refine z_loc (L' := [(0, .ref (G.1 + 54)), (1, .int (Int32.ofInt (a1))), (2, .int (Int32.ofInt (x2))), (3, .int (Int32.ofInt (x5))), (4, .int (Int32.ofInt (x10))), (5, .int (Int32.ofInt (x15))), (6, .int (Int32.ofInt (x21))), (7, .int (Int32.ofInt (x22))), (8, .int (Int32.ofInt (x25)))]) (List.forall_mem_cons.mpr ⟨rfl, (List.forall_mem_cons.mpr ⟨rfl, (List.forall_mem_cons.mpr ⟨rfl, (List.forall_mem_cons.mpr ⟨rfl, (List.forall_mem_cons.mpr ⟨rfl, (List.forall_mem_cons.mpr ⟨rfl, (List.forall_mem_cons.mpr ⟨rfl, (List.forall_mem_cons.mpr ⟨rfl, (List.forall_mem_cons.mpr ⟨rfl, (fun _ h => nomatch h)⟩)⟩)⟩)⟩)⟩)⟩)⟩)⟩)⟩) ?_
    refine z_aload_n dX11_goesOn_93 rfl rfl ?_
    refine g_getR hW hT.1 mr6 kX11 fX11_22 dX11_goesOn_94 ?_
    refine z_iload dX11_goesOn_97 rfl ?_
    obtain ⟨q28a, q28b, hw⟩ := hw
    have q29 : iv 0 3 (S.2 59 (x21)) := mA59 hW _
    have hw := hw q29
    refine g_iald hW (ma59 hT) q28a q28b (by decide) dX11_goesOn_99 ?_
    refine z_iconst (v := Int32.ofInt 3) dX11_goesOn_100 rfl ?_
    refine i_icmp_ne (tgt := 115) dX11_goesOn_101 (by decide) (rngq q29 (by decide) (by decide)) ⟨by decide, by decide⟩ (fun h30 => ?_) (fun h30 => ?_)
    · have hw := hw.1 h30
      refine z_aload_n dX11_goesOn_115 rfl rfl ?_
      refine g_getR hW hT.1 mr36 kX11 fX11_90 dX11_goesOn_116 ?_
      refine z_iload_n dX11_goesOn_119 rfl rfl ?_
      refine z_dup2 dX11_goesOn_120 rfl rfl ?_
      obtain ⟨q31a, q31b, hw⟩ := hw
      have q32 : iv 0 4 (S.2 80 (x2)) := mA80 hW _
      have hw := hw q32
      refine g_iald hW (ma80 hT) q31a q31b (by decide) dX11_goesOn_121 ?_
      refine z_iconst (v := Int32.ofInt 1) dX11_goesOn_122 rfl ?_
      refine i_iadd dX11_goesOn_123 ?_
      obtain ⟨q33a, q33b, hw⟩ := hw
      obtain ⟨q35, hw⟩ := hw
      refine g_iast hJ hW (ma80 hT) q33a q33b (by decide) q35 dX11_goesOn_124 (fun cs hW => ?_)
      obtain ⟨S34, hS34⟩ : ∃ x, x = pA S 80 (x2) ((S.2 80 (x2) + 1)) := ⟨_, rfl⟩
      rw [← hS34] at hW
      have hw := hw S34 hS34
      refine z_aload_n dX11_goesOn_125 rfl rfl ?_
      refine g_getR hW hT.1 mr6 kX11 fX11_22 dX11_goesOn_126 ?_
      refine z_iload dX11_goesOn_129 rfl ?_
      obtain ⟨q36a, q36b, hw⟩ := hw
      have q37 : iv 0 3 (S34.2 59 (x21)) := mA59 hW _
      have hw := hw q37
      refine g_iald hW (ma59 hT) q36a q36b (by decide) dX11_goesOn_131 ?_
      refine z_iconst (v := Int32.ofInt 2) dX11_goesOn_132 rfl ?_
      refine i_icmp_ne (tgt := 168) dX11_goesOn_133 (by decide) (rngq q37 (by decide) (by decide)) ⟨by decide, by decide⟩ (fun h38 => ?_) (fun h38 => ?_)
      · have hw := hw.1 h38
        refine z_aload_n dX11_goesOn_168 rfl rfl ?_
        refine g_getR hW hT.1 mr7 kX11 fX11_25 dX11_goesOn_169 ?_
        refine z_iload dX11_goesOn_172 rfl ?_
        obtain ⟨q39a, q39b, hw⟩ := hw
        have q40 : iv 0 1 (S34.2 60 (x21)) := mA60 hW _
        have hw := hw q40
        refine g_zald hW (ma60 hT) q39a q39b (by decide) dX11_goesOn_174 ?_
        refine i_if_ne (tgt := 254) dX11_goesOn_175 (by decide) (rngq q40 (by decide) (by decide)) (fun h41 => ?_) (fun h41 => ?_)
        · have hw := hw.1 h41
          refine z_iconst (v := Int32.ofInt 1) dX11_goesOn_254 rfl ?_
          exact z_ireturn dX11_goesOn_255 rfl (nar01 (by decide)) (hP _ _ _ hw hW)
        · have hw := hw.2 h41
          refine z_aload_n dX11_goesOn_178 rfl rfl ?_
          refine z_aload_n dX11_goesOn_179 rfl rfl ?_
          refine g_getR hW hT.1 mr34 kX11 fX11_84 dX11_goesOn_180 ?_
          refine z_iload_n dX11_goesOn_183 rfl rfl ?_
          obtain ⟨q42a, q42b, hw⟩ := hw
          have q43 : iv 0 899 (S34.2 78 (x2)) := mA78 hW _
          have hw := hw q43
          refine g_iald hW (ma78 hT) q42a q42b (by decide) dX11_goesOn_184 ?_
          refine z_iload dX11_goesOn_185 rfl ?_
          obtain ⟨q44, hw⟩ := hw
          have hX := lX11_element 1 (Nat.le_refl _) hJ hT hW (rngq q43 (by decide) (by decide)) q44 hw
          refine z_callV (As := [_, _]) eX11_element sX11_element lX11_297 rfl dX11_goesOn_187 (hW.1 _ _ hT.1) hX (Nat.le_trans (by decide) hd) rfl (Nat.le_of_ble_eq_true rfl) (fun r cs hp => ?_)
          obtain ⟨r45, S46, rfl, hw, hW⟩ := hp
          refine z_st (st' := [.int (Int32.ofInt (r45))]) rfl ?_
          refine z_istore dX11_goesOn_190 (by decide) ?_
          refine z_loc (L' := [(0, .ref (G.1 + 54)), (1, .int (Int32.ofInt (a1))), (2, .int (Int32.ofInt (x2))), (3, .int (Int32.ofInt (x5))), (4, .int (Int32.ofInt (x10))), (5, .int (Int32.ofInt (x15))), (6, .int (Int32.ofInt (x21))), (7, .int (Int32.ofInt (x22))), (8, .int (Int32.ofInt (x25))), (9, .int (Int32.ofInt (r45)))]) (List.forall_mem_cons.mpr ⟨rfl, (List.forall_mem_cons.mpr ⟨rfl, (List.forall_mem_cons.mpr ⟨rfl, (List.forall_mem_cons.mpr ⟨rfl, (List.forall_mem_cons.mpr ⟨rfl, (List.forall_mem_cons.mpr ⟨rfl, (List.forall_mem_cons.mpr ⟨rfl, (List.forall_mem_cons.mpr ⟨rfl, (List.forall_mem_cons.mpr ⟨rfl, (List.forall_mem_cons.mpr ⟨rfl, (fun _ h => nomatch h)⟩)⟩)⟩)⟩)⟩)⟩)⟩)⟩)⟩)⟩) ?_
          refine z_aload_n dX11_goesOn_192 rfl rfl ?_
          refine z_bipush (v := Int32.ofInt 60) dX11_goesOn_193 (by decide) ?_
          have hX := lX11_put 0 (Nat.le_refl _) hJ hT hW ⟨by decide, by decide⟩ hw
          refine z_callV (As := [_]) eX11_put sX11_put lX11_260 rfl dX11_goesOn_195 (hW.1 _ _ hT.1) hX (Nat.le_trans (by decide) hd) rfl (Nat.le_of_ble_eq_true rfl) (fun r cs hp => ?_)
          obtain ⟨r47, S48, rfl, hw, hW⟩ := hp
          refine z_st (st' := []) rfl ?_
          refine z_aload_n dX11_goesOn_198 rfl rfl ?_
          refine z_iload dX11_goesOn_199 rfl ?_
          have hX := lX11_putName 1 (Nat.le_refl _) hJ hT hW q44 hw
          refine z_callV (As := [_]) eX11_putName sX11_putName lX11_284 rfl dX11_goesOn_201 (hW.1 _ _ hT.1) hX (Nat.le_trans (by decide) hd) rfl (Nat.le_of_ble_eq_true rfl) (fun r cs hp => ?_)
          obtain ⟨r49, S50, rfl, hw, hW⟩ := hp
          refine z_st (st' := []) rfl ?_
          refine z_aload_n dX11_goesOn_204 rfl rfl ?_
          refine g_getR hW hT.1 mr6 kX11 fX11_22 dX11_goesOn_205 ?_
          refine z_iload dX11_goesOn_208 rfl ?_
          obtain ⟨q51a, q51b, hw⟩ := hw
          have q52 : iv 0 3 (S50.2 59 (x21)) := mA59 hW _
          have hw := hw q52
          refine g_iald hW (ma59 hT) q51a q51b (by decide) dX11_goesOn_210 ?_
          refine z_iconst (v := Int32.ofInt 1) dX11_goesOn_211 rfl ?_
          refine i_icmp_ne (tgt := 232) dX11_goesOn_212 (by decide) (rngq q52 (by decide) (by decide)) ⟨by decide, by decide⟩ (fun h53 => ?_) (fun h53 => ?_)
          · have hw := hw.1 h53
            refine z_loc (L' := [(0, .ref (G.1 + 54)), (3, .int (Int32.ofInt (x5))), (4, .int (Int32.ofInt (x10))), (5, .int (Int32.ofInt (x15))), (7, .int (Int32.ofInt (x22)))]) (List.forall_mem_cons.mpr ⟨rfl, (List.forall_mem_cons.mpr ⟨rfl, (List.forall_mem_cons.mpr ⟨rfl, (List.forall_mem_cons.mpr ⟨rfl, (List.forall_mem_cons.mpr ⟨rfl, (fun _ h => nomatch h)⟩)⟩)⟩)⟩)⟩) ?_
            exact bX11_goesOn_232 hd hJ hT hW hP  hw
          · have hw := hw.2 h53
            refine z_iload dX11_goesOn_215 rfl ?_
            refine i_if_ne (tgt := 232) dX11_goesOn_217 (by decide) q26 (fun h54 => ?_) (fun h54 => ?_)
            · have hw := hw.1 h54
              refine z_loc (L' := [(0, .ref (G.1 + 54)), (3, .int (Int32.ofInt (x5))), (4, .int (Int32.ofInt (x10))), (5, .int (Int32.ofInt (x15))), (7, .int (Int32.ofInt (x22)))]) (List.forall_mem_cons.mpr ⟨rfl, (List.forall_mem_cons.mpr ⟨rfl, (List.forall_mem_cons.mpr ⟨rfl, (List.forall_mem_cons.mpr ⟨rfl, (List.forall_mem_cons.mpr ⟨rfl, (fun _ h => nomatch h)⟩)⟩)⟩)⟩)⟩) ?_
              exact bX11_goesOn_232 hd hJ hT hW hP  hw
            · have hw := hw.2 h54
              refine z_aload_n dX11_goesOn_220 rfl rfl ?_
              refine z_bipush (v := Int32.ofInt 47) dX11_goesOn_221 (by decide) ?_
              refine z_bipush (v := Int32.ofInt 62) dX11_goesOn_223 (by decide) ?_
              refine z_iconst (v := Int32.ofInt 0) dX11_goesOn_225 rfl ?_
              refine z_iconst (v := Int32.ofInt 0) dX11_goesOn_226 rfl ?_
              have hX := lX11_putWord 1 (Nat.le_refl _) hJ hT hW ⟨by decide, by decide⟩ ⟨by decide, by decide⟩ ⟨by decide, by decide⟩ ⟨by decide, by decide⟩ hw
              refine z_callV (As := [_, _, _, _]) eX11_putWord sX11_putWord lX11_267 rfl dX11_goesOn_227 (hW.1 _ _ hT.1) hX (Nat.le_trans (by decide) hd) rfl (Nat.le_of_ble_eq_true rfl) (fun r cs hp => ?_)
              obtain ⟨r55, S56, rfl, hw, hW⟩ := hp
              refine z_st (st' := []) rfl ?_
              refine z_iconst (v := Int32.ofInt 1) dX11_goesOn_230 rfl ?_
              exact z_ireturn dX11_goesOn_231 rfl (nar01 (by decide)) (hP _ _ _ hw hW)
      · have hw := hw.2 h38
        refine z_iload dX11_goesOn_136 rfl ?_
        refine z_bipush (v := Int32.ofInt (-2)) dX11_goesOn_138 (by decide) ?_
        refine i_icmp_eq (tgt := 162) dX11_goesOn_140 (by decide) q26 ⟨by decide, by decide⟩ (fun h57 => ?_) (fun h57 => ?_)
        · have hw := hw.1 h57
          refine z_iconst (v := Int32.ofInt 1) dX11_goesOn_162 rfl ?_
          refine z_goto (tgt := 167) dX11_goesOn_163 (by decide) ?_
          exact z_ireturn dX11_goesOn_167 rfl (nar01 (by decide)) (hP _ _ _ hw hW)
        · have hw := hw.2 h57
          refine z_aload_n dX11_goesOn_143 rfl rfl ?_
          refine z_iload dX11_goesOn_144 rfl ?_
          refine z_aload_n dX11_goesOn_146 rfl rfl ?_
          refine g_getR hW hT.1 mr34 kX11 fX11_84 dX11_goesOn_147 ?_
          refine z_iload_n dX11_goesOn_150 rfl rfl ?_
          obtain ⟨q58a, q58b, hw⟩ := hw
          have q59 : iv 0 899 (S34.2 78 (x2)) := mA78 hW _
          have hw := hw q59
          refine g_iald hW (ma78 hT) q58a q58b (by decide) dX11_goesOn_151 ?_
          refine z_iload dX11_goesOn_152 rfl ?_
          refine z_iconst (v := Int32.ofInt 1) dX11_goesOn_154 rfl ?_
          refine z_iload_n dX11_goesOn_155 rfl rfl ?_
          obtain ⟨q60, hw⟩ := hw
          have hX := lX11_child 6 (Nat.le_refl _) hJ hT hW q26 (rngq q59 (by decide) (by decide)) q60 ⟨by decide, by decide⟩ g1 hw
          refine z_callV (As := [_, _, _, _, _]) eX11_child sX11_child lX11_333 rfl dX11_goesOn_156 (hW.1 _ _ hT.1) hX (Nat.le_trans (by decide) hd) rfl (Nat.le_of_ble_eq_true rfl) (fun r cs hp => ?_)
          obtain ⟨r61, S62, rfl, hw, hW⟩ := hp
          refine z_st (st' := [.int (Int32.ofInt (r61))]) rfl ?_
          obtain ⟨q64, hw⟩ := hw
          refine i_if_eq (tgt := 166) dX11_goesOn_159 (by decide) q64 (fun h63 => ?_) (fun h63 => ?_)
          · have hw := hw.1 h63
            refine z_iconst (v := Int32.ofInt 0) dX11_goesOn_166 rfl ?_
            exact z_ireturn dX11_goesOn_167 rfl (nar01 (by decide)) (hP _ _ _ hw hW)
          · have hw := hw.2 h63
            refine z_iconst (v := Int32.ofInt 1) dX11_goesOn_162 rfl ?_
            refine z_goto (tgt := 167) dX11_goesOn_163 (by decide) ?_
            exact z_ireturn dX11_goesOn_167 rfl (nar01 (by decide)) (hP _ _ _ hw hW)
    · have hw := hw.2 h30
      refine z_aload_n dX11_goesOn_104 rfl rfl ?_
      refine z_iload_n dX11_goesOn_105 rfl rfl ?_
      refine z_iload dX11_goesOn_106 rfl ?_
      refine z_iload dX11_goesOn_108 rfl ?_
      refine z_iload_n dX11_goesOn_110 rfl rfl ?_
      obtain ⟨q65, hw⟩ := hw
      obtain ⟨q66, hw⟩ := hw
      have hX := lX11_lists 7 (Nat.le_refl _) hJ hT hW q65 q66 q26 g1 hw
      refine z_callV (As := [_, _, _, _]) eX11_lists sX11_lists lX11_329 rfl dX11_goesOn_111 (hW.1 _ _ hT.1) hX (Nat.le_trans (by decide) hd) rfl (Nat.le_of_ble_eq_true rfl) (fun r cs hp => ?_)
      obtain ⟨r67, S68, rfl, hw, hW⟩ := hp
      refine z_st (st' := [.int (Int32.ofInt (r67))]) rfl ?_
      obtain ⟨q69, hw⟩ := hw
      exact z_ireturn dX11_goesOn_114 rfl (nar01 (b01 q69)) (hP _ _ _ hw hW)
  · have hw := hw.2 h20
    refine z_aload_n dX11_goesOn_42 rfl rfl ?_
    refine z_dup dX11_goesOn_43 rfl ?_
    refine g_getI hW hT.1 mr32 kX11 fX11_316 dX11_goesOn_44 ?_
    refine z_iconst (v := Int32.ofInt 1) dX11_goesOn_47 rfl ?_
    refine i_isub dX11_goesOn_48 ?_
    obtain ⟨q71, hw⟩ := hw
    refine g_putI hJ hW hT.1 mr32 kX11 fX11_316 dX11_goesOn_49 rfl rfl rfl q71 (fun cs hW => ?_)
    obtain ⟨S70, hS70⟩ : ∃ x, x = pI S 54 32 ((S.1 54 32 - 1)) := ⟨_, rfl⟩
    rw [← hS70] at hW
    have hw := hw S70 hS70
    refine z_aload_n dX11_goesOn_52 rfl rfl ?_
    refine z_aload_n dX11_goesOn_53 rfl rfl ?_
    refine g_getR hW hT.1 mr35 kX11 fX11_87 dX11_goesOn_54 ?_
    refine z_iload_n dX11_goesOn_57 rfl rfl ?_
    obtain ⟨q72a, q72b, hw⟩ := hw
    have q73 : iv 0 29 (S70.2 79 (x2)) := mA79 hW _
    have hw := hw q73
    refine g_iald hW (ma79 hT) q72a q72b (by decide) dX11_goesOn_58 ?_
    have hX := lX11_end 2 (Nat.le_refl _) hJ hT hW (rngq q73 (by decide) (by decide)) hw
    refine z_callV (As := [_]) eX11_end sX11_end lX11_326 rfl dX11_goesOn_59 (hW.1 _ _ hT.1) hX (Nat.le_trans (by decide) hd) rfl (Nat.le_of_ble_eq_true rfl) (fun r cs hp => ?_)
    obtain ⟨r74, S75, rfl, hw, hW⟩ := hp
    refine z_st (st' := []) rfl ?_
    refine z_iconst (v := Int32.ofInt 1) dX11_goesOn_62 rfl ?_
    exact z_ireturn dX11_goesOn_63 rfl (nar01 (by decide)) (hP _ _ _ hw hW)

def wX11_hasChild (a1 : Int) (S : St) (K : Int → St → Prop) : Prop := rng a1 → (iv 0 200 (S.1 54 43) → (rng ((a1 + 1)) ∧ ((S.1 54 43 ≤ (a1 + 1) → K (0) S) ∧ ((¬ (S.1 54 43 ≤ (a1 + 1))) → ((0 : Int) ≤ (a1 + 1) ∧ (a1 + 1) < (200 : Int) ∧ (iv (-2) 199 (S.2 88 ((a1 + 1))) → ((¬ S.2 88 ((a1 + 1)) = a1 → K (0) S) ∧ ((¬ (¬ S.2 88 ((a1 + 1)) = a1)) → K (1) S))))))))
set_option maxRecDepth 100000 in
set_option maxHeartbeats 4000000 in
theorem lX11_hasChild {G : xG} {sh : Nat → Option Sh} {J : St → List va_E → Prop} {a1 : Int} {S : St} {cs : List va_E} {K : Int → St → Prop} (d : Nat) (hd : 0 ≤ d) (hJ : Stb sh J) (hT : isM sh) (hW : Wd G sh mT J S cs) (g1 : rng a1) (hw : wX11_hasChild a1 S K) : X G yX11_hasChild cX11_hasChild 2 (some .boolean) d [.ref (G.1 + 54), .int (Int32.ofInt a1)] cs (qI G sh mT J K) := by
  refine X.of false (by decide +kernel) (by decide) (Nat.le_of_ble_eq_true rfl) ?_
  show Z (RX11, cX11_hasChild, 2, some .boolean, false) G d _ 0 [(0, .ref (G.1 + 54)), (1, .int (Int32.ofInt a1))] [] cs
  have hP : ∀ (v : Int) (S : St) (cs : List va_E), K v S → Wd G sh mT J S cs → qI G sh mT J K (some (.int (Int32.ofInt v))) cs := fun v S cs a b => ⟨v, S, rfl, a, b⟩
  unfold wX11_hasChild at hw
  have hw := hw g1
  refine z_iload_n dX11_hasChild_0 rfl rfl ?_
  refine z_iconst (v := Int32.ofInt 1) dX11_hasChild_1 rfl ?_
  refine i_iadd dX11_hasChild_2 ?_
  refine z_aload_n dX11_hasChild_3 rfl rfl ?_
  have q1 : iv 0 200 (S.1 54 43) := mI43 hW
  have hw := hw q1
  refine g_getI hW hT.1 mr43 kX11 fX11_386 dX11_hasChild_4 ?_
  obtain ⟨q3, hw⟩ := hw
  refine i_icmp_ge (tgt := 26) dX11_hasChild_7 (by decide) q3 (rngq q1 (by decide) (by decide)) (fun h2 => ?_) (fun h2 => ?_)
  · have hw := hw.1 h2
    refine z_iconst (v := Int32.ofInt 0) dX11_hasChild_26 rfl ?_
    exact z_ireturn dX11_hasChild_27 rfl (nar01 (by decide)) (hP _ _ _ hw hW)
  · have hw := hw.2 h2
    refine z_aload_n dX11_hasChild_10 rfl rfl ?_
    refine g_getR hW hT.1 mr47 kX11 fX11_114 dX11_hasChild_11 ?_
    refine z_iload_n dX11_hasChild_14 rfl rfl ?_
    refine z_iconst (v := Int32.ofInt 1) dX11_hasChild_15 rfl ?_
    refine i_iadd dX11_hasChild_16 ?_
    obtain ⟨q4a, q4b, hw⟩ := hw
    have q5 : iv (-2) 199 (S.2 88 ((a1 + 1))) := mA88 hW _
    have hw := hw q5
    refine g_iald hW (ma88 hT) q4a q4b (by decide) dX11_hasChild_17 ?_
    refine z_iload_n dX11_hasChild_18 rfl rfl ?_
    refine i_icmp_ne (tgt := 26) dX11_hasChild_19 (by decide) (rngq q5 (by decide) (by decide)) g1 (fun h6 => ?_) (fun h6 => ?_)
    · have hw := hw.1 h6
      refine z_iconst (v := Int32.ofInt 0) dX11_hasChild_26 rfl ?_
      exact z_ireturn dX11_hasChild_27 rfl (nar01 (by decide)) (hP _ _ _ hw hW)
    · have hw := hw.2 h6
      refine z_iconst (v := Int32.ofInt 1) dX11_hasChild_22 rfl ?_
      refine z_goto (tgt := 27) dX11_hasChild_23 (by decide) ?_
      exact z_ireturn dX11_hasChild_27 rfl (nar01 (by decide)) (hP _ _ _ hw hW)

def wX11_implicitOf_47 (l1 l3 s0 : Int) (S : St) (K : Int → St → Prop) (B5 : Int → Int → Int → St → Prop) : Prop := B5 (l1) (s0) ((l3 + 1)) S
set_option maxRecDepth 100000 in
set_option maxHeartbeats 4000000 in
theorem bX11_implicitOf_47 {G : xG} {sh : Nat → Option Sh} {J : St → List va_E → Prop} {d : Nat} {Post : xP} {l1 l3 s0 : Int} {S : St} {cs : List va_E} {K : Int → St → Prop} {B5 : Int → Int → Int → St → Prop} (hd : 0 ≤ d) (hJ : Stb sh J) (hT : isM sh) (hW : Wd G sh mT J S cs) (hP : ∀ (v : Int) (S : St) (cs : List va_E), K v S → Wd G sh mT J S cs → Post (some (.int (Int32.ofInt v))) cs) (hB5 : ∀ (l1 : Int) (l2 : Int) (l3 : Int) (S : St) (cs : List va_E), B5 l1 l2 l3 S → Wd G sh mT J S cs → Z (RX11, cX11_implicitOf, 4, some .int, false) G d Post 5 [(0, .ref (G.1 + 54)), (1, .int (Int32.ofInt (l1))), (2, .int (Int32.ofInt (l2))), (3, .int (Int32.ofInt (l3)))] [] cs) (hw : wX11_implicitOf_47 l1 l3 s0 S K B5) : Z (RX11, cX11_implicitOf, 4, some .int, false) G d Post 47 [(0, .ref (G.1 + 54)), (1, .int (Int32.ofInt (l1))), (3, .int (Int32.ofInt (l3)))] [.int (Int32.ofInt (s0))] cs := by
  unfold wX11_implicitOf_47 at hw
  refine z_istore_n dX11_implicitOf_47 rfl (by decide) ?_
  refine z_loc (L' := [(0, .ref (G.1 + 54)), (1, .int (Int32.ofInt (l1))), (2, .int (Int32.ofInt (s0))), (3, .int (Int32.ofInt (l3)))]) (List.forall_mem_cons.mpr ⟨rfl, (List.forall_mem_cons.mpr ⟨rfl, (List.forall_mem_cons.mpr ⟨rfl, (List.forall_mem_cons.mpr ⟨rfl, (fun _ h => nomatch h)⟩)⟩)⟩)⟩) ?_
  refine i_iinc (l := l3) dX11_implicitOf_48 rfl (by decide) ?_
  refine z_loc (L' := [(0, .ref (G.1 + 54)), (1, .int (Int32.ofInt (l1))), (2, .int (Int32.ofInt (s0))), (3, .int (Int32.ofInt ((l3 + 1))))]) (List.forall_mem_cons.mpr ⟨rfl, (List.forall_mem_cons.mpr ⟨rfl, (List.forall_mem_cons.mpr ⟨rfl, (List.forall_mem_cons.mpr ⟨rfl, (fun _ h => nomatch h)⟩)⟩)⟩)⟩) ?_
  refine z_goto (tgt := 5) dX11_implicitOf_51 (by decide) ?_
  refine z_loc (L' := [(0, .ref (G.1 + 54)), (1, .int (Int32.ofInt (l1))), (2, .int (Int32.ofInt (s0))), (3, .int (Int32.ofInt ((l3 + 1))))]) (List.forall_mem_cons.mpr ⟨rfl, (List.forall_mem_cons.mpr ⟨rfl, (List.forall_mem_cons.mpr ⟨rfl, (List.forall_mem_cons.mpr ⟨rfl, (fun _ h => nomatch h)⟩)⟩)⟩)⟩) ?_
  exact hB5 _ _ _ _ _ hw hW
def wX11_implicitOf_46 (l1 l2 l3 : Int) (S : St) (K : Int → St → Prop) (B5 : Int → Int → Int → St → Prop) : Prop := wX11_implicitOf_47 (l1) (l3) (l2) S K B5
set_option maxRecDepth 100000 in
set_option maxHeartbeats 4000000 in
theorem bX11_implicitOf_46 {G : xG} {sh : Nat → Option Sh} {J : St → List va_E → Prop} {d : Nat} {Post : xP} {l1 l2 l3 : Int} {S : St} {cs : List va_E} {K : Int → St → Prop} {B5 : Int → Int → Int → St → Prop} (hd : 0 ≤ d) (hJ : Stb sh J) (hT : isM sh) (hW : Wd G sh mT J S cs) (hP : ∀ (v : Int) (S : St) (cs : List va_E), K v S → Wd G sh mT J S cs → Post (some (.int (Int32.ofInt v))) cs) (hB5 : ∀ (l1 : Int) (l2 : Int) (l3 : Int) (S : St) (cs : List va_E), B5 l1 l2 l3 S → Wd G sh mT J S cs → Z (RX11, cX11_implicitOf, 4, some .int, false) G d Post 5 [(0, .ref (G.1 + 54)), (1, .int (Int32.ofInt (l1))), (2, .int (Int32.ofInt (l2))), (3, .int (Int32.ofInt (l3)))] [] cs) (hw : wX11_implicitOf_46 l1 l2 l3 S K B5) : Z (RX11, cX11_implicitOf, 4, some .int, false) G d Post 46 [(0, .ref (G.1 + 54)), (1, .int (Int32.ofInt (l1))), (2, .int (Int32.ofInt (l2))), (3, .int (Int32.ofInt (l3)))] [] cs := by
  unfold wX11_implicitOf_46 at hw
  refine z_iload_n dX11_implicitOf_46 rfl rfl ?_
  refine z_loc (L' := [(0, .ref (G.1 + 54)), (1, .int (Int32.ofInt (l1))), (3, .int (Int32.ofInt (l3)))]) (List.forall_mem_cons.mpr ⟨rfl, (List.forall_mem_cons.mpr ⟨rfl, (List.forall_mem_cons.mpr ⟨rfl, (fun _ h => nomatch h)⟩)⟩)⟩) ?_
  exact bX11_implicitOf_47 hd hJ hT hW hP hB5 hw
def wX11_implicitOf_5' (l1 l2 l3 : Int) (S : St) (K : Int → St → Prop) (B5 : Int → Int → Int → St → Prop) : Prop := ((0 : Int) ≤ l1 ∧ l1 < (6 : Int) ∧ (iv 0 4 (S.2 56 (l1)) → (rng (l3) ∧ ((S.2 56 (l1) ≤ l3 → K (l2) S) ∧ ((¬ (S.2 56 (l1) ≤ l3)) → ((0 : Int) ≤ ((4 * l1) + l3) ∧ ((4 * l1) + l3) < (24 : Int) ∧ (iv 0 3 (S.2 59 (((4 * l1) + l3))) → ((¬ S.2 59 (((4 * l1) + l3)) = 3 → wX11_implicitOf_46 (l1) (l2) (l3) S K B5) ∧ ((¬ (¬ S.2 59 (((4 * l1) + l3)) = 3)) → ((0 : Int) ≤ ((4 * l1) + l3) ∧ ((4 * l1) + l3) < (24 : Int) ∧ (iv 0 1 (S.2 60 (((4 * l1) + l3))) → ((S.2 60 (((4 * l1) + l3)) = 0 → wX11_implicitOf_46 (l1) (l2) (l3) S K B5) ∧ ((¬ (S.2 60 (((4 * l1) + l3)) = 0)) → wX11_implicitOf_47 (l1) (l3) (l3) S K B5)))))))))))))
set_option maxRecDepth 100000 in
set_option maxHeartbeats 4000000 in
theorem bX11_implicitOf_5' {G : xG} {sh : Nat → Option Sh} {J : St → List va_E → Prop} {d : Nat} {Post : xP} {l1 l2 l3 : Int} {S : St} {cs : List va_E} {K : Int → St → Prop} {B5 : Int → Int → Int → St → Prop} (hd : 0 ≤ d) (hJ : Stb sh J) (hT : isM sh) (hW : Wd G sh mT J S cs) (hP : ∀ (v : Int) (S : St) (cs : List va_E), K v S → Wd G sh mT J S cs → Post (some (.int (Int32.ofInt v))) cs) (hB5 : ∀ (l1 : Int) (l2 : Int) (l3 : Int) (S : St) (cs : List va_E), B5 l1 l2 l3 S → Wd G sh mT J S cs → Z (RX11, cX11_implicitOf, 4, some .int, false) G d Post 5 [(0, .ref (G.1 + 54)), (1, .int (Int32.ofInt (l1))), (2, .int (Int32.ofInt (l2))), (3, .int (Int32.ofInt (l3)))] [] cs) (hw : wX11_implicitOf_5' l1 l2 l3 S K B5) : Z (RX11, cX11_implicitOf, 4, some .int, false) G d Post 5 [(0, .ref (G.1 + 54)), (1, .int (Int32.ofInt (l1))), (2, .int (Int32.ofInt (l2))), (3, .int (Int32.ofInt (l3)))] [] cs := by
  unfold wX11_implicitOf_5' at hw
  refine z_iload_n dX11_implicitOf_5 rfl rfl ?_
  refine z_aload_n dX11_implicitOf_6 rfl rfl ?_
  refine g_getR hW hT.1 mr3 kX11 fX11_13 dX11_implicitOf_7 ?_
  refine z_iload_n dX11_implicitOf_10 rfl rfl ?_
  obtain ⟨q1a, q1b, hw⟩ := hw
  have q2 : iv 0 4 (S.2 56 (l1)) := mA56 hW _
  have hw := hw q2
  refine g_iald hW (ma56 hT) q1a q1b (by decide) dX11_implicitOf_11 ?_
  obtain ⟨q4, hw⟩ := hw
  refine i_icmp_ge (tgt := 54) dX11_implicitOf_12 (by decide) q4 (rngq q2 (by decide) (by decide)) (fun h3 => ?_) (fun h3 => ?_)
  · have hw := hw.1 h3
    refine z_iload_n dX11_implicitOf_54 rfl rfl ?_
    exact z_ireturn dX11_implicitOf_55 rfl rfl (hP _ _ _ hw hW)
  · have hw := hw.2 h3
    refine z_aload_n dX11_implicitOf_15 rfl rfl ?_
    refine g_getR hW hT.1 mr6 kX11 fX11_22 dX11_implicitOf_16 ?_
    refine z_iconst (v := Int32.ofInt 4) dX11_implicitOf_19 rfl ?_
    refine z_iload_n dX11_implicitOf_20 rfl rfl ?_
    refine i_imul dX11_implicitOf_21 ?_
    refine z_iload_n dX11_implicitOf_22 rfl rfl ?_
    refine i_iadd dX11_implicitOf_23 ?_
    obtain ⟨q5a, q5b, hw⟩ := hw
    have q6 : iv 0 3 (S.2 59 (((4 * l1) + l3))) := mA59 hW _
    have hw := hw q6
    refine g_iald hW (ma59 hT) q5a q5b (by decide) dX11_implicitOf_24 ?_
    refine z_iconst (v := Int32.ofInt 3) dX11_implicitOf_25 rfl ?_
    refine i_icmp_ne (tgt := 46) dX11_implicitOf_26 (by decide) (rngq q6 (by decide) (by decide)) ⟨by decide, by decide⟩ (fun h7 => ?_) (fun h7 => ?_)
    · have hw := hw.1 h7
      refine z_loc (L' := [(0, .ref (G.1 + 54)), (1, .int (Int32.ofInt (l1))), (2, .int (Int32.ofInt (l2))), (3, .int (Int32.ofInt (l3)))]) (List.forall_mem_cons.mpr ⟨rfl, (List.forall_mem_cons.mpr ⟨rfl, (List.forall_mem_cons.mpr ⟨rfl, (List.forall_mem_cons.mpr ⟨rfl, (fun _ h => nomatch h)⟩)⟩)⟩)⟩) ?_
      exact bX11_implicitOf_46 hd hJ hT hW hP hB5 hw
    · have hw := hw.2 h7
      refine z_aload_n dX11_implicitOf_29 rfl rfl ?_
      refine g_getR hW hT.1 mr7 kX11 fX11_25 dX11_implicitOf_30 ?_
      refine z_iconst (v := Int32.ofInt 4) dX11_implicitOf_33 rfl ?_
      refine z_iload_n dX11_implicitOf_34 rfl rfl ?_
      refine i_imul dX11_implicitOf_35 ?_
      refine z_iload_n dX11_implicitOf_36 rfl rfl ?_
      refine i_iadd dX11_implicitOf_37 ?_
      obtain ⟨q8a, q8b, hw⟩ := hw
      have q9 : iv 0 1 (S.2 60 (((4 * l1) + l3))) := mA60 hW _
      have hw := hw q9
      refine g_zald hW (ma60 hT) q8a q8b (by decide) dX11_implicitOf_38 ?_
      refine i_if_eq (tgt := 46) dX11_implicitOf_39 (by decide) (rngq q9 (by decide) (by decide)) (fun h10 => ?_) (fun h10 => ?_)
      · have hw := hw.1 h10
        refine z_loc (L' := [(0, .ref (G.1 + 54)), (1, .int (Int32.ofInt (l1))), (2, .int (Int32.ofInt (l2))), (3, .int (Int32.ofInt (l3)))]) (List.forall_mem_cons.mpr ⟨rfl, (List.forall_mem_cons.mpr ⟨rfl, (List.forall_mem_cons.mpr ⟨rfl, (List.forall_mem_cons.mpr ⟨rfl, (fun _ h => nomatch h)⟩)⟩)⟩)⟩) ?_
        exact bX11_implicitOf_46 hd hJ hT hW hP hB5 hw
      · have hw := hw.2 h10
        refine z_iload_n dX11_implicitOf_42 rfl rfl ?_
        refine z_goto (tgt := 47) dX11_implicitOf_43 (by decide) ?_
        refine z_loc (L' := [(0, .ref (G.1 + 54)), (1, .int (Int32.ofInt (l1))), (3, .int (Int32.ofInt (l3)))]) (List.forall_mem_cons.mpr ⟨rfl, (List.forall_mem_cons.mpr ⟨rfl, (List.forall_mem_cons.mpr ⟨rfl, (fun _ h => nomatch h)⟩)⟩)⟩) ?_
        exact bX11_implicitOf_47 hd hJ hT hW hP hB5 hw
def wX11_implicitOf_5 (l1 l2 l3 : Int) (S : St) (K : Int → St → Prop) : Prop := ∃ (Iv : Int → Int → Int → St → Prop) (mu : Int → Int → Int → St → Nat), Iv l1 l2 l3 S ∧ ∀ (l1 l2 l3 : Int) (S : St), Iv l1 l2 l3 S → wX11_implicitOf_5' l1 l2 l3 S K  (fun ml1 ml2 ml3 T => Iv ml1 ml2 ml3 T ∧ mu ml1 ml2 ml3 T < mu l1 l2 l3 S)
set_option maxRecDepth 100000 in
set_option maxHeartbeats 4000000 in
theorem bX11_implicitOf_5 {G : xG} {sh : Nat → Option Sh} {J : St → List va_E → Prop} {d : Nat} {Post : xP} {l1 l2 l3 : Int} {S : St} {cs : List va_E} {K : Int → St → Prop} (hd : 0 ≤ d) (hJ : Stb sh J) (hT : isM sh) (hW : Wd G sh mT J S cs) (hP : ∀ (v : Int) (S : St) (cs : List va_E), K v S → Wd G sh mT J S cs → Post (some (.int (Int32.ofInt v))) cs)  (hw : wX11_implicitOf_5 l1 l2 l3 S K ) : Z (RX11, cX11_implicitOf, 4, some .int, false) G d Post 5 [(0, .ref (G.1 + 54)), (1, .int (Int32.ofInt (l1))), (2, .int (Int32.ofInt (l2))), (3, .int (Int32.ofInt (l3)))] [] cs := by
  unfold wX11_implicitOf_5 at hw
  obtain ⟨Iv, mu, h0, hs⟩ := hw
  have key : ∀ (n : Nat) (l1 l2 l3 : Int) (S : St) (cs : List va_E), mu l1 l2 l3 S < n → Iv l1 l2 l3 S → Wd G sh mT J S cs → Z (RX11, cX11_implicitOf, 4, some .int, false) G d Post 5 [(0, .ref (G.1 + 54)), (1, .int (Int32.ofInt (l1))), (2, .int (Int32.ofInt (l2))), (3, .int (Int32.ofInt (l3)))] [] cs := by
    intro n
    induction n with
    | zero => intro l1 l2 l3 S cs hn; exact absurd hn (Nat.not_lt_zero _)
    | succ n ih =>
      intro l1 l2 l3 S cs hn hI hW
      exact bX11_implicitOf_5' hd hJ hT hW hP  (fun l1 l2 l3 S cs hb hW => ih l1 l2 l3 S cs (Nat.lt_of_lt_of_le hb.2 (Nat.le_of_lt_succ hn)) hb.1 hW) (hs l1 l2 l3 S hI)
  exact key _ _ _ _ _ _ (Nat.lt_succ_self _) h0 hW
def wX11_implicitOf (a1 : Int) (S : St) (K : Int → St → Prop) : Prop := rng a1 → wX11_implicitOf_5 (a1) ((-2)) (0) S K
set_option maxRecDepth 100000 in
set_option maxHeartbeats 4000000 in
theorem lX11_implicitOf {G : xG} {sh : Nat → Option Sh} {J : St → List va_E → Prop} {a1 : Int} {S : St} {cs : List va_E} {K : Int → St → Prop} (d : Nat) (hd : 0 ≤ d) (hJ : Stb sh J) (hT : isM sh) (hW : Wd G sh mT J S cs) (g1 : rng a1) (hw : wX11_implicitOf a1 S K) : X G yX11_implicitOf cX11_implicitOf 4 (some .int) d [.ref (G.1 + 54), .int (Int32.ofInt a1)] cs (qI G sh mT J K) := by
  refine X.of false (by decide +kernel) (by decide) (Nat.le_of_ble_eq_true rfl) ?_
  show Z (RX11, cX11_implicitOf, 4, some .int, false) G d _ 0 [(0, .ref (G.1 + 54)), (1, .int (Int32.ofInt a1))] [] cs
  have hP : ∀ (v : Int) (S : St) (cs : List va_E), K v S → Wd G sh mT J S cs → qI G sh mT J K (some (.int (Int32.ofInt v))) cs := fun v S cs a b => ⟨v, S, rfl, a, b⟩
  unfold wX11_implicitOf at hw
  have hw := hw g1
  refine z_bipush (v := Int32.ofInt (-2)) dX11_implicitOf_0 (by decide) ?_
  refine z_istore_n dX11_implicitOf_2 rfl (by decide) ?_
  refine z_loc (L' := [(0, .ref (G.1 + 54)), (1, .int (Int32.ofInt (a1))), (2, .int (Int32.ofInt ((-2))))]) (List.forall_mem_cons.mpr ⟨rfl, (List.forall_mem_cons.mpr ⟨rfl, (List.forall_mem_cons.mpr ⟨rfl, (fun _ h => nomatch h)⟩)⟩)⟩) ?_
  refine z_iconst (v := Int32.ofInt 0) dX11_implicitOf_3 rfl ?_
  refine z_istore_n dX11_implicitOf_4 rfl (by decide) ?_
  refine z_loc (L' := [(0, .ref (G.1 + 54)), (1, .int (Int32.ofInt (a1))), (2, .int (Int32.ofInt ((-2)))), (3, .int (Int32.ofInt (0)))]) (List.forall_mem_cons.mpr ⟨rfl, (List.forall_mem_cons.mpr ⟨rfl, (List.forall_mem_cons.mpr ⟨rfl, (List.forall_mem_cons.mpr ⟨rfl, (fun _ h => nomatch h)⟩)⟩)⟩)⟩) ?_
  refine z_loc (L' := [(0, .ref (G.1 + 54)), (1, .int (Int32.ofInt (a1))), (2, .int (Int32.ofInt ((-2)))), (3, .int (Int32.ofInt (0)))]) (List.forall_mem_cons.mpr ⟨rfl, (List.forall_mem_cons.mpr ⟨rfl, (List.forall_mem_cons.mpr ⟨rfl, (List.forall_mem_cons.mpr ⟨rfl, (fun _ h => nomatch h)⟩)⟩)⟩)⟩) ?_
  exact bX11_implicitOf_5 hd hJ hT hW hP  hw

def wX11_isBlankWithin_43 (l1 l3 s0 : Int) (S : St) (K : Int → St → Prop) (B4 : Int → Int → Int → St → Prop) : Prop := B4 (l1) (s0) ((l3 + 1)) S
set_option maxRecDepth 100000 in
set_option maxHeartbeats 4000000 in
theorem bX11_isBlankWithin_43 {G : xG} {sh : Nat → Option Sh} {J : St → List va_E → Prop} {d : Nat} {Post : xP} {l1 l3 s0 : Int} {S : St} {cs : List va_E} {K : Int → St → Prop} {B4 : Int → Int → Int → St → Prop} (hd : 1 ≤ d) (hJ : Stb sh J) (hT : isM sh) (hW : Wd G sh mT J S cs) (hP : ∀ (v : Int) (S : St) (cs : List va_E), K v S → Wd G sh mT J S cs → Post (some (.int (Int32.ofInt v))) cs) (hB4 : ∀ (l1 : Int) (l2 : Int) (l3 : Int) (S : St) (cs : List va_E), B4 l1 l2 l3 S → Wd G sh mT J S cs → Z (RX11, cX11_isBlankWithin, 4, some .boolean, false) G d Post 4 [(0, .ref (G.1 + 54)), (1, .int (Int32.ofInt (l1))), (2, .int (Int32.ofInt (l2))), (3, .int (Int32.ofInt (l3)))] [] cs) (hw : wX11_isBlankWithin_43 l1 l3 s0 S K B4) : Z (RX11, cX11_isBlankWithin, 4, some .boolean, false) G d Post 43 [(0, .ref (G.1 + 54)), (1, .int (Int32.ofInt (l1))), (3, .int (Int32.ofInt (l3)))] [.int (Int32.ofInt (s0))] cs := by
  unfold wX11_isBlankWithin_43 at hw
  refine z_istore_n dX11_isBlankWithin_43 rfl (by decide) ?_
  refine z_loc (L' := [(0, .ref (G.1 + 54)), (1, .int (Int32.ofInt (l1))), (2, .int (Int32.ofInt (s0))), (3, .int (Int32.ofInt (l3)))]) (List.forall_mem_cons.mpr ⟨rfl, (List.forall_mem_cons.mpr ⟨rfl, (List.forall_mem_cons.mpr ⟨rfl, (List.forall_mem_cons.mpr ⟨rfl, (fun _ h => nomatch h)⟩)⟩)⟩)⟩) ?_
  refine i_iinc (l := l3) dX11_isBlankWithin_44 rfl (by decide) ?_
  refine z_loc (L' := [(0, .ref (G.1 + 54)), (1, .int (Int32.ofInt (l1))), (2, .int (Int32.ofInt (s0))), (3, .int (Int32.ofInt ((l3 + 1))))]) (List.forall_mem_cons.mpr ⟨rfl, (List.forall_mem_cons.mpr ⟨rfl, (List.forall_mem_cons.mpr ⟨rfl, (List.forall_mem_cons.mpr ⟨rfl, (fun _ h => nomatch h)⟩)⟩)⟩)⟩) ?_
  refine z_goto (tgt := 4) dX11_isBlankWithin_47 (by decide) ?_
  refine z_loc (L' := [(0, .ref (G.1 + 54)), (1, .int (Int32.ofInt (l1))), (2, .int (Int32.ofInt (s0))), (3, .int (Int32.ofInt ((l3 + 1))))]) (List.forall_mem_cons.mpr ⟨rfl, (List.forall_mem_cons.mpr ⟨rfl, (List.forall_mem_cons.mpr ⟨rfl, (List.forall_mem_cons.mpr ⟨rfl, (fun _ h => nomatch h)⟩)⟩)⟩)⟩) ?_
  exact hB4 _ _ _ _ _ hw hW
def wX11_isBlankWithin_42 (l1 l3 : Int) (S : St) (K : Int → St → Prop) (B4 : Int → Int → Int → St → Prop) : Prop := wX11_isBlankWithin_43 (l1) (l3) (0) S K B4
set_option maxRecDepth 100000 in
set_option maxHeartbeats 4000000 in
theorem bX11_isBlankWithin_42 {G : xG} {sh : Nat → Option Sh} {J : St → List va_E → Prop} {d : Nat} {Post : xP} {l1 l3 : Int} {S : St} {cs : List va_E} {K : Int → St → Prop} {B4 : Int → Int → Int → St → Prop} (hd : 1 ≤ d) (hJ : Stb sh J) (hT : isM sh) (hW : Wd G sh mT J S cs) (hP : ∀ (v : Int) (S : St) (cs : List va_E), K v S → Wd G sh mT J S cs → Post (some (.int (Int32.ofInt v))) cs) (hB4 : ∀ (l1 : Int) (l2 : Int) (l3 : Int) (S : St) (cs : List va_E), B4 l1 l2 l3 S → Wd G sh mT J S cs → Z (RX11, cX11_isBlankWithin, 4, some .boolean, false) G d Post 4 [(0, .ref (G.1 + 54)), (1, .int (Int32.ofInt (l1))), (2, .int (Int32.ofInt (l2))), (3, .int (Int32.ofInt (l3)))] [] cs) (hw : wX11_isBlankWithin_42 l1 l3 S K B4) : Z (RX11, cX11_isBlankWithin, 4, some .boolean, false) G d Post 42 [(0, .ref (G.1 + 54)), (1, .int (Int32.ofInt (l1))), (3, .int (Int32.ofInt (l3)))] [] cs := by
  unfold wX11_isBlankWithin_42 at hw
  refine z_iconst (v := Int32.ofInt 0) dX11_isBlankWithin_42 rfl ?_
  refine z_loc (L' := [(0, .ref (G.1 + 54)), (1, .int (Int32.ofInt (l1))), (3, .int (Int32.ofInt (l3)))]) (List.forall_mem_cons.mpr ⟨rfl, (List.forall_mem_cons.mpr ⟨rfl, (List.forall_mem_cons.mpr ⟨rfl, (fun _ h => nomatch h)⟩)⟩)⟩) ?_
  exact bX11_isBlankWithin_43 hd hJ hT hW hP hB4 hw
def wX11_isBlankWithin_38 (l1 l3 : Int) (S : St) (K : Int → St → Prop) (B4 : Int → Int → Int → St → Prop) : Prop := wX11_isBlankWithin_43 (l1) (l3) (1) S K B4
set_option maxRecDepth 100000 in
set_option maxHeartbeats 4000000 in
theorem bX11_isBlankWithin_38 {G : xG} {sh : Nat → Option Sh} {J : St → List va_E → Prop} {d : Nat} {Post : xP} {l1 l3 : Int} {S : St} {cs : List va_E} {K : Int → St → Prop} {B4 : Int → Int → Int → St → Prop} (hd : 1 ≤ d) (hJ : Stb sh J) (hT : isM sh) (hW : Wd G sh mT J S cs) (hP : ∀ (v : Int) (S : St) (cs : List va_E), K v S → Wd G sh mT J S cs → Post (some (.int (Int32.ofInt v))) cs) (hB4 : ∀ (l1 : Int) (l2 : Int) (l3 : Int) (S : St) (cs : List va_E), B4 l1 l2 l3 S → Wd G sh mT J S cs → Z (RX11, cX11_isBlankWithin, 4, some .boolean, false) G d Post 4 [(0, .ref (G.1 + 54)), (1, .int (Int32.ofInt (l1))), (2, .int (Int32.ofInt (l2))), (3, .int (Int32.ofInt (l3)))] [] cs) (hw : wX11_isBlankWithin_38 l1 l3 S K B4) : Z (RX11, cX11_isBlankWithin, 4, some .boolean, false) G d Post 38 [(0, .ref (G.1 + 54)), (1, .int (Int32.ofInt (l1))), (3, .int (Int32.ofInt (l3)))] [] cs := by
  unfold wX11_isBlankWithin_38 at hw
  refine z_iconst (v := Int32.ofInt 1) dX11_isBlankWithin_38 rfl ?_
  refine z_goto (tgt := 43) dX11_isBlankWithin_39 (by decide) ?_
  refine z_loc (L' := [(0, .ref (G.1 + 54)), (1, .int (Int32.ofInt (l1))), (3, .int (Int32.ofInt (l3)))]) (List.forall_mem_cons.mpr ⟨rfl, (List.forall_mem_cons.mpr ⟨rfl, (List.forall_mem_cons.mpr ⟨rfl, (fun _ h => nomatch h)⟩)⟩)⟩) ?_
  exact bX11_isBlankWithin_43 hd hJ hT hW hP hB4 hw
def wX11_isBlankWithin_4' (l1 l2 l3 : Int) (S : St) (K : Int → St → Prop) (B4 : Int → Int → Int → St → Prop) : Prop := (iv 0 3000 (S.1 54 56) → (rng (l3) ∧ ((S.1 54 56 ≤ l3 → (iv 0 1 (l2) ∧ K (l2) S)) ∧ ((¬ (S.1 54 56 ≤ l3)) → (rng (l2) ∧ ((l2 = 0 → wX11_isBlankWithin_42 (l1) (l3) S K B4) ∧ ((¬ (l2 = 0)) → ((0 : Int) ≤ l3 ∧ l3 < (3000 : Int) ∧ (iv (-2) 199 (S.2 97 (l3)) → (rng (l1) ∧ ((¬ S.2 97 (l3) = l1 → wX11_isBlankWithin_38 (l1) (l3) S K B4) ∧ ((¬ (¬ S.2 97 (l3) = l1)) → ((0 : Int) ≤ l3 ∧ l3 < (3000 : Int) ∧ (iv (-2147483648) 2147483647 (S.2 96 (l3)) → (wX11_isBlank (S.2 96 (l3)) S (fun r13 S14 => (rng (r13) ∧ ((r13 = 0 → wX11_isBlankWithin_42 (l1) (l3) S14 K B4) ∧ ((¬ (r13 = 0)) → wX11_isBlankWithin_38 (l1) (l3) S14 K B4)))))))))))))))))))
set_option maxRecDepth 100000 in
set_option maxHeartbeats 4000000 in
theorem bX11_isBlankWithin_4' {G : xG} {sh : Nat → Option Sh} {J : St → List va_E → Prop} {d : Nat} {Post : xP} {l1 l2 l3 : Int} {S : St} {cs : List va_E} {K : Int → St → Prop} {B4 : Int → Int → Int → St → Prop} (hd : 1 ≤ d) (hJ : Stb sh J) (hT : isM sh) (hW : Wd G sh mT J S cs) (hP : ∀ (v : Int) (S : St) (cs : List va_E), K v S → Wd G sh mT J S cs → Post (some (.int (Int32.ofInt v))) cs) (hB4 : ∀ (l1 : Int) (l2 : Int) (l3 : Int) (S : St) (cs : List va_E), B4 l1 l2 l3 S → Wd G sh mT J S cs → Z (RX11, cX11_isBlankWithin, 4, some .boolean, false) G d Post 4 [(0, .ref (G.1 + 54)), (1, .int (Int32.ofInt (l1))), (2, .int (Int32.ofInt (l2))), (3, .int (Int32.ofInt (l3)))] [] cs) (hw : wX11_isBlankWithin_4' l1 l2 l3 S K B4) : Z (RX11, cX11_isBlankWithin, 4, some .boolean, false) G d Post 4 [(0, .ref (G.1 + 54)), (1, .int (Int32.ofInt (l1))), (2, .int (Int32.ofInt (l2))), (3, .int (Int32.ofInt (l3)))] [] cs := by
  unfold wX11_isBlankWithin_4' at hw
  refine z_iload_n dX11_isBlankWithin_4 rfl rfl ?_
  refine z_aload_n dX11_isBlankWithin_5 rfl rfl ?_
  have q1 : iv 0 3000 (S.1 54 56) := mI56 hW
  have hw := hw q1
  refine g_getI hW hT.1 mr56 kX11 fX11_355 dX11_isBlankWithin_6 ?_
  obtain ⟨q3, hw⟩ := hw
  refine i_icmp_ge (tgt := 50) dX11_isBlankWithin_9 (by decide) q3 (rngq q1 (by decide) (by decide)) (fun h2 => ?_) (fun h2 => ?_)
  · have hw := hw.1 h2
    refine z_iload_n dX11_isBlankWithin_50 rfl rfl ?_
    obtain ⟨q4, hw⟩ := hw
    exact z_ireturn dX11_isBlankWithin_51 rfl (nar01 (b01 q4)) (hP _ _ _ hw hW)
  · have hw := hw.2 h2
    refine z_iload_n dX11_isBlankWithin_12 rfl rfl ?_
    obtain ⟨q6, hw⟩ := hw
    refine i_if_eq (tgt := 42) dX11_isBlankWithin_13 (by decide) q6 (fun h5 => ?_) (fun h5 => ?_)
    · have hw := hw.1 h5
      refine z_loc (L' := [(0, .ref (G.1 + 54)), (1, .int (Int32.ofInt (l1))), (3, .int (Int32.ofInt (l3)))]) (List.forall_mem_cons.mpr ⟨rfl, (List.forall_mem_cons.mpr ⟨rfl, (List.forall_mem_cons.mpr ⟨rfl, (fun _ h => nomatch h)⟩)⟩)⟩) ?_
      exact bX11_isBlankWithin_42 hd hJ hT hW hP hB4 hw
    · have hw := hw.2 h5
      refine z_aload_n dX11_isBlankWithin_16 rfl rfl ?_
      refine g_getR hW hT.1 mr58 kX11 fX11_141 dX11_isBlankWithin_17 ?_
      refine z_iload_n dX11_isBlankWithin_20 rfl rfl ?_
      obtain ⟨q7a, q7b, hw⟩ := hw
      have q8 : iv (-2) 199 (S.2 97 (l3)) := mA97 hW _
      have hw := hw q8
      refine g_iald hW (ma97 hT) q7a q7b (by decide) dX11_isBlankWithin_21 ?_
      refine z_iload_n dX11_isBlankWithin_22 rfl rfl ?_
      obtain ⟨q10, hw⟩ := hw
      refine i_icmp_ne (tgt := 38) dX11_isBlankWithin_23 (by decide) (rngq q8 (by decide) (by decide)) q10 (fun h9 => ?_) (fun h9 => ?_)
      · have hw := hw.1 h9
        refine z_loc (L' := [(0, .ref (G.1 + 54)), (1, .int (Int32.ofInt (l1))), (3, .int (Int32.ofInt (l3)))]) (List.forall_mem_cons.mpr ⟨rfl, (List.forall_mem_cons.mpr ⟨rfl, (List.forall_mem_cons.mpr ⟨rfl, (fun _ h => nomatch h)⟩)⟩)⟩) ?_
        exact bX11_isBlankWithin_38 hd hJ hT hW hP hB4 hw
      · have hw := hw.2 h9
        refine z_aload_n dX11_isBlankWithin_26 rfl rfl ?_
        refine g_getR hW hT.1 mr57 kX11 fX11_138 dX11_isBlankWithin_27 ?_
        refine z_iload_n dX11_isBlankWithin_30 rfl rfl ?_
        obtain ⟨q11a, q11b, hw⟩ := hw
        have q12 : iv (-2147483648) 2147483647 (S.2 96 (l3)) := mA96 hW _
        have hw := hw q12
        refine g_iald hW (ma96 hT) q11a q11b (by decide) dX11_isBlankWithin_31 ?_
        have hX := lX11_isBlank 0 (Nat.le_refl _) hJ hT hW (rngq q12 (by decide) (by decide)) hw
        refine z_callS (As := [_]) eX11_isBlank sX11_isBlank lX11_178 dX11_isBlankWithin_32 hX (Nat.le_trans (by decide) hd) rfl (Nat.le_of_ble_eq_true rfl) (fun r cs hp => ?_)
        obtain ⟨r13, S14, rfl, hw, hW⟩ := hp
        refine z_st (st' := [.int (Int32.ofInt (r13))]) rfl ?_
        obtain ⟨q16, hw⟩ := hw
        refine i_if_eq (tgt := 42) dX11_isBlankWithin_35 (by decide) q16 (fun h15 => ?_) (fun h15 => ?_)
        · have hw := hw.1 h15
          refine z_loc (L' := [(0, .ref (G.1 + 54)), (1, .int (Int32.ofInt (l1))), (3, .int (Int32.ofInt (l3)))]) (List.forall_mem_cons.mpr ⟨rfl, (List.forall_mem_cons.mpr ⟨rfl, (List.forall_mem_cons.mpr ⟨rfl, (fun _ h => nomatch h)⟩)⟩)⟩) ?_
          exact bX11_isBlankWithin_42 hd hJ hT hW hP hB4 hw
        · have hw := hw.2 h15
          refine z_loc (L' := [(0, .ref (G.1 + 54)), (1, .int (Int32.ofInt (l1))), (3, .int (Int32.ofInt (l3)))]) (List.forall_mem_cons.mpr ⟨rfl, (List.forall_mem_cons.mpr ⟨rfl, (List.forall_mem_cons.mpr ⟨rfl, (fun _ h => nomatch h)⟩)⟩)⟩) ?_
          exact bX11_isBlankWithin_38 hd hJ hT hW hP hB4 hw
def wX11_isBlankWithin_4 (l1 l2 l3 : Int) (S : St) (K : Int → St → Prop) : Prop := ∃ (Iv : Int → Int → Int → St → Prop) (mu : Int → Int → Int → St → Nat), Iv l1 l2 l3 S ∧ ∀ (l1 l2 l3 : Int) (S : St), Iv l1 l2 l3 S → wX11_isBlankWithin_4' l1 l2 l3 S K  (fun ml1 ml2 ml3 T => Iv ml1 ml2 ml3 T ∧ mu ml1 ml2 ml3 T < mu l1 l2 l3 S)
set_option maxRecDepth 100000 in
set_option maxHeartbeats 4000000 in
theorem bX11_isBlankWithin_4 {G : xG} {sh : Nat → Option Sh} {J : St → List va_E → Prop} {d : Nat} {Post : xP} {l1 l2 l3 : Int} {S : St} {cs : List va_E} {K : Int → St → Prop} (hd : 1 ≤ d) (hJ : Stb sh J) (hT : isM sh) (hW : Wd G sh mT J S cs) (hP : ∀ (v : Int) (S : St) (cs : List va_E), K v S → Wd G sh mT J S cs → Post (some (.int (Int32.ofInt v))) cs)  (hw : wX11_isBlankWithin_4 l1 l2 l3 S K ) : Z (RX11, cX11_isBlankWithin, 4, some .boolean, false) G d Post 4 [(0, .ref (G.1 + 54)), (1, .int (Int32.ofInt (l1))), (2, .int (Int32.ofInt (l2))), (3, .int (Int32.ofInt (l3)))] [] cs := by
  unfold wX11_isBlankWithin_4 at hw
  obtain ⟨Iv, mu, h0, hs⟩ := hw
  have key : ∀ (n : Nat) (l1 l2 l3 : Int) (S : St) (cs : List va_E), mu l1 l2 l3 S < n → Iv l1 l2 l3 S → Wd G sh mT J S cs → Z (RX11, cX11_isBlankWithin, 4, some .boolean, false) G d Post 4 [(0, .ref (G.1 + 54)), (1, .int (Int32.ofInt (l1))), (2, .int (Int32.ofInt (l2))), (3, .int (Int32.ofInt (l3)))] [] cs := by
    intro n
    induction n with
    | zero => intro l1 l2 l3 S cs hn; exact absurd hn (Nat.not_lt_zero _)
    | succ n ih =>
      intro l1 l2 l3 S cs hn hI hW
      exact bX11_isBlankWithin_4' hd hJ hT hW hP  (fun l1 l2 l3 S cs hb hW => ih l1 l2 l3 S cs (Nat.lt_of_lt_of_le hb.2 (Nat.le_of_lt_succ hn)) hb.1 hW) (hs l1 l2 l3 S hI)
  exact key _ _ _ _ _ _ (Nat.lt_succ_self _) h0 hW
def wX11_isBlankWithin (a1 : Int) (S : St) (K : Int → St → Prop) : Prop := rng a1 → wX11_isBlankWithin_4 (a1) (1) (0) S K
set_option maxRecDepth 100000 in
set_option maxHeartbeats 4000000 in
theorem lX11_isBlankWithin {G : xG} {sh : Nat → Option Sh} {J : St → List va_E → Prop} {a1 : Int} {S : St} {cs : List va_E} {K : Int → St → Prop} (d : Nat) (hd : 1 ≤ d) (hJ : Stb sh J) (hT : isM sh) (hW : Wd G sh mT J S cs) (g1 : rng a1) (hw : wX11_isBlankWithin a1 S K) : X G yX11_isBlankWithin cX11_isBlankWithin 4 (some .boolean) d [.ref (G.1 + 54), .int (Int32.ofInt a1)] cs (qI G sh mT J K) := by
  refine X.of false (by decide +kernel) (by decide) (Nat.le_of_ble_eq_true rfl) ?_
  show Z (RX11, cX11_isBlankWithin, 4, some .boolean, false) G d _ 0 [(0, .ref (G.1 + 54)), (1, .int (Int32.ofInt a1))] [] cs
  have hP : ∀ (v : Int) (S : St) (cs : List va_E), K v S → Wd G sh mT J S cs → qI G sh mT J K (some (.int (Int32.ofInt v))) cs := fun v S cs a b => ⟨v, S, rfl, a, b⟩
  unfold wX11_isBlankWithin at hw
  have hw := hw g1
  refine z_iconst (v := Int32.ofInt 1) dX11_isBlankWithin_0 rfl ?_
  refine z_istore_n dX11_isBlankWithin_1 rfl (by decide) ?_
  refine z_loc (L' := [(0, .ref (G.1 + 54)), (1, .int (Int32.ofInt (a1))), (2, .int (Int32.ofInt (1)))]) (List.forall_mem_cons.mpr ⟨rfl, (List.forall_mem_cons.mpr ⟨rfl, (List.forall_mem_cons.mpr ⟨rfl, (fun _ h => nomatch h)⟩)⟩)⟩) ?_
  refine z_iconst (v := Int32.ofInt 0) dX11_isBlankWithin_2 rfl ?_
  refine z_istore_n dX11_isBlankWithin_3 rfl (by decide) ?_
  refine z_loc (L' := [(0, .ref (G.1 + 54)), (1, .int (Int32.ofInt (a1))), (2, .int (Int32.ofInt (1))), (3, .int (Int32.ofInt (0)))]) (List.forall_mem_cons.mpr ⟨rfl, (List.forall_mem_cons.mpr ⟨rfl, (List.forall_mem_cons.mpr ⟨rfl, (List.forall_mem_cons.mpr ⟨rfl, (fun _ h => nomatch h)⟩)⟩)⟩)⟩) ?_
  refine z_loc (L' := [(0, .ref (G.1 + 54)), (1, .int (Int32.ofInt (a1))), (2, .int (Int32.ofInt (1))), (3, .int (Int32.ofInt (0)))]) (List.forall_mem_cons.mpr ⟨rfl, (List.forall_mem_cons.mpr ⟨rfl, (List.forall_mem_cons.mpr ⟨rfl, (List.forall_mem_cons.mpr ⟨rfl, (fun _ h => nomatch h)⟩)⟩)⟩)⟩) ?_
  exact bX11_isBlankWithin_4 hd hJ hT hW hP  hw

