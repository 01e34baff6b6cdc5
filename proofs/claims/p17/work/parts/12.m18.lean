def wX11_forbid (a1 a2 : Int) (S : St) (K : Int → St → Prop) : Prop := rng a1 → rng a2 → (iv 0 6 (S.1 54 2) → (rng ((S.1 54 2 - 1)) ∧ (wX11_in (a1) (0) ((S.1 54 2 - 1)) S (fun r3 S4 => (rng (r3) ∧ ((¬ r3 = 0 → ((0 : Int) ≤ a1 ∧ a1 < (6 : Int) ∧ (iv 0 1 (S4.2 61 (a1)) → (∀ x9 : Int, x9 = S4.2 61 (a1) → ((0 : Int) ≤ a1 ∧ a1 < (6 : Int) ∧ (iv 0 1 (a2) ∧ (∀ S13, S13 = pA S4 61 (a1) (a2) → K (x9) S13))))))) ∧ ((¬ (¬ r3 = 0)) → K (0) S4)))))))
set_option maxRecDepth 100000 in
set_option maxHeartbeats 4000000 in
theorem lX11_forbid {G : xG} {sh : Nat → Option Sh} {J : St → List va_E → Prop} {a1 a2 : Int} {S : St} {cs : List va_E} {K : Int → St → Prop} (d : Nat) (hd : 1 ≤ d) (hJ : Stb sh J) (hT : isM sh) (hW : Wd G sh mT J S cs) (g1 : rng a1) (g2 : rng a2) (hw : wX11_forbid a1 a2 S K) : X G yX11_forbid cX11_forbid 4 (some .boolean) d [.ref (G.1 + 54), .int (Int32.ofInt a1), .int (Int32.ofInt a2)] cs (qI G sh mT J K) := by
  refine X.of false (by decide +kernel) (by decide) (Nat.le_of_ble_eq_true rfl) ?_
  show Z (RX11, cX11_forbid, 4, some .boolean, false) G d _ 0 [(0, .ref (G.1 + 54)), (1, .int (Int32.ofInt a1)), (2, .int (Int32.ofInt a2))] [] cs
  have hP : ∀ (v : Int) (S : St) (cs : List va_E), K v S → Wd G sh mT J S cs → qI G sh mT J K (some (.int (Int32.ofInt v))) cs := fun v S cs a b => ⟨v, S, rfl, a, b⟩
  unfold wX11_forbid at hw
  have hw := hw g1 g2
  refine z_iload_n dX11_forbid_0 rfl rfl ?_
  refine z_iconst (v := Int32.ofInt 0) dX11_forbid_1 rfl ?_
  refine z_aload_n dX11_forbid_2 rfl rfl ?_
  have q1 : iv 0 6 (S.1 54 2) := mI2 hW
  have hw := hw q1
  refine g_getI hW hT.1 mr2 kX11 fX11_238 dX11_forbid_3 ?_
  refine z_iconst (v := Int32.ofInt 1) dX11_forbid_6 rfl ?_
  refine i_isub dX11_forbid_7 ?_
  obtain ⟨q2, hw⟩ := hw
  have hX := lX11_in 0 (Nat.le_refl _) hJ hT hW g1 ⟨by decide, by decide⟩ q2 hw
  refine z_callS (As := [_, _, _]) eX11_in sX11_in lX11_174 dX11_forbid_8 hX (Nat.le_trans (by decide) hd) rfl (Nat.le_of_ble_eq_true rfl) (fun r cs hp => ?_)
  obtain ⟨r3, S4, rfl, hw, hW⟩ := hp
  refine z_st (st' := [.int (Int32.ofInt (r3))]) rfl ?_
  obtain ⟨q6, hw⟩ := hw
  refine i_if_ne (tgt := 16) dX11_forbid_11 (by decide) q6 (fun h5 => ?_) (fun h5 => ?_)
  · have hw := hw.1 h5
    refine z_aload_n dX11_forbid_16 rfl rfl ?_
    refine g_getR hW hT.1 mr8 kX11 fX11_29 dX11_forbid_17 ?_
    refine z_iload_n dX11_forbid_20 rfl rfl ?_
    obtain ⟨q7a, q7b, hw⟩ := hw
    have q8 : iv 0 1 (S4.2 61 (a1)) := mA61 hW _
    have hw := hw q8
    refine g_zald hW (ma61 hT) q7a q7b (by decide) dX11_forbid_21 ?_
    obtain ⟨x9, hx9⟩ : ∃ x : Int, x = S4.2 61 (a1) := ⟨_, rfl⟩
    have hw := hw x9 hx9
    refine z_st (st' := [.int (Int32.ofInt x9)]) (by rw [hx9]) ?_
    have q10 : rng x9 := by rw [hx9]; exact (rngq q8 (by decide) (by decide))
    have q11 : iv 0 1 x9 := by rw [hx9]; exact q8
    refine z_istore_n dX11_forbid_22 rfl (by decide) ?_
    refine z_loc (L' := [(0, .ref (G.1 + 54)), (1, .int (Int32.ofInt (a1))), (2, .int (Int32.ofInt (a2))), (3, .int (Int32.ofInt (x9)))]) (List.forall_mem_cons.mpr ⟨rfl, (List.forall_mem_cons.mpr ⟨rfl, (List.forall_mem_cons.mpr ⟨rfl, (List.forall_mem_cons.mpr ⟨rfl, (fun _ h => nomatch h)⟩)⟩)⟩)⟩) ?_
    refine z_aload_n dX11_forbid_23 rfl rfl ?_
    refine g_getR hW hT.1 mr8 kX11 fX11_29 dX11_forbid_24 ?_
    refine z_iload_n dX11_forbid_27 rfl rfl ?_
    refine z_iload_n dX11_forbid_28 rfl rfl ?_
    obtain ⟨q12a, q12b, hw⟩ := hw
    obtain ⟨q14, hw⟩ := hw
    refine g_zast hJ hW (ma61 hT) q12a q12b (by decide) (b01 q14) q14 dX11_forbid_29 (fun cs hW => ?_)
    obtain ⟨S13, hS13⟩ : ∃ x, x = pA S4 61 (a1) (a2) := ⟨_, rfl⟩
    rw [← hS13] at hW
    have hw := hw S13 hS13
    refine z_iload_n dX11_forbid_30 rfl rfl ?_
    exact z_ireturn dX11_forbid_31 rfl (nar01 (b01 q11)) (hP _ _ _ hw hW)
  · have hw := hw.2 h5
    refine z_iconst (v := Int32.ofInt 0) dX11_forbid_14 rfl ?_
    exact z_ireturn dX11_forbid_15 rfl (nar01 (by decide)) (hP _ _ _ hw hW)

